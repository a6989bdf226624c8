set_option maxHeartbeats 4000000 in
set_option maxRecDepth 100000 in
theorem c_X8_lookLeaves (l : Launch) (dC : Nat → ClassId) (dI : Nat → Nat → Nat) (sz : Nat) (a0 : Nat) (a0_0 : Int32) (a0g_1 a0g_2 a0g_3 a0g_4 a0g_5 a0g_6 a0g_7 a0g_8 a0g_9 a0g_10 a0g_12 a0g_13 a0g_16 a0g_17 a0g_18 a0g_19 a0g_20 a0g_21 a0g_22 a0g_23 a0g_24 a0g_25 a0g_26 a0g_27 a0g_28 a0g_29 a0g_30 a0g_31 a0g_32 a0g_33 a0g_37 a0g_38 a0g_39 : Value) (a0_11 : Int32) (a0_14 : Int32) (a0_15 : Nat) (a0_34 : Nat) (a0_35 : Nat) (a0_36 : Int32) (ka0_15 : ClassId) (fa0_15 : Nat → Int32) (ka0_35 : ClassId) (fa0_35 : Nat → Int32) (ka0_34 : ClassId) (fa0_34 : Nat → Int32) (ba0_14_l : (1 : Int) ≤ a0_14.toInt) (ba0_14_u : a0_14.toInt ≤ (1 : Int)) (bfa0_15 : ((∀ k : Nat, 0 ≤ k → k ≤ 0 → (2 : Int) ≤ (fa0_15 k).toInt ∧ (fa0_15 k).toInt ≤ 9) ∧ (∀ k : Nat, 1 ≤ k → k ≤ 1 → (1 : Int) ≤ (fa0_15 k).toInt ∧ (fa0_15 k).toInt ≤ 20) ∧ (∀ k : Nat, 2 ≤ k → k ≤ 2 → (0 : Int) ≤ (fa0_15 k).toInt ∧ (fa0_15 k).toInt ≤ 8) ∧ (∀ k : Nat, 3 ≤ k → k ≤ 3 → (0 : Int) ≤ (fa0_15 k).toInt ∧ (fa0_15 k).toInt ≤ 100) ∧ (∀ k : Nat, 4 ≤ k → k ≤ 4 → (0 : Int) ≤ (fa0_15 k).toInt ∧ (fa0_15 k).toInt ≤ 9) ∧ (∀ k : Nat, 5 ≤ k → k ≤ 5 → (0 : Int) ≤ (fa0_15 k).toInt ∧ (fa0_15 k).toInt ≤ 3) ∧ (∀ k : Nat, 6 ≤ k → k ≤ 6 → (0 : Int) ≤ (fa0_15 k).toInt ∧ (fa0_15 k).toInt ≤ 6) ∧ (∀ k : Nat, 7 ≤ k → k ≤ 9 → (0 : Int) ≤ (fa0_15 k).toInt ∧ (fa0_15 k).toInt ≤ 8) ∧ (∀ k : Nat, 12 ≤ k → k ≤ 29 → (0 : Int) ≤ (fa0_15 k).toInt ∧ (fa0_15 k).toInt ≤ 20) ∧ (∀ k : Nat, 30 ≤ k → k ≤ 35 → (0 : Int) ≤ (fa0_15 k).toInt ∧ (fa0_15 k).toInt ≤ 8) ∧ (∀ k : Nat, 36 ≤ k → k ≤ 47 → (0 : Int) ≤ (fa0_15 k).toInt ∧ (fa0_15 k).toInt ≤ 999))) : Met l yX8_lookLeaves wsX8_lookLeaves ({ frames := 5, cells := 0, slots := 0, locals := 118 }) (va_Pc [.ref a0] (ax_C dC dI sz [(a0, .inr (8, [Value.int a0_0, a0g_1, a0g_2, a0g_3, a0g_4, a0g_5, a0g_6, a0g_7, a0g_8, a0g_9, a0g_10, Value.int a0_11, a0g_12, a0g_13, Value.int a0_14, Value.ref a0_15, a0g_16, a0g_17, a0g_18, a0g_19, a0g_20, a0g_21, a0g_22, a0g_23, a0g_24, a0g_25, a0g_26, a0g_27, a0g_28, a0g_29, a0g_30, a0g_31, a0g_32, a0g_33, Value.ref a0_34, Value.ref a0_35, Value.int a0_36, a0g_37, a0g_38, a0g_39])), (a0_15, .inl (ka0_15, 156, .inl (fa0_15))), (a0_35, .inl (ka0_35, 9, .inl (fa0_35))), (a0_34, .inl (ka0_34, 9, .inl (fa0_34)))] [(ka0_15, .int), (ka0_35, .int), (ka0_34, .int)] (fun _ => True))) (va_Qi (fun (r : Int32) (_ : Unit) => True) (fun (_ : Unit) (t : State) => ∃ na0_0 : Int32, ∃ na0_11 : Int32, ∃ na0_36 : Int32, ∃ nfa0_35 : Nat → Int32, ∃ nfa0_34 : Nat → Int32, ax_B dC dI (va_A [(a0, .inr (8, [Value.int a0_0, a0g_1, a0g_2, a0g_3, a0g_4, a0g_5, a0g_6, a0g_7, a0g_8, a0g_9, a0g_10, Value.int a0_11, a0g_12, a0g_13, Value.int a0_14, Value.ref a0_15, a0g_16, a0g_17, a0g_18, a0g_19, a0g_20, a0g_21, a0g_22, a0g_23, a0g_24, a0g_25, a0g_26, a0g_27, a0g_28, a0g_29, a0g_30, a0g_31, a0g_32, a0g_33, Value.ref a0_34, Value.ref a0_35, Value.int a0_36, a0g_37, a0g_38, a0g_39])), (a0_15, .inl (ka0_15, 156, .inl (fa0_15))), (a0_35, .inl (ka0_35, 9, .inl (fa0_35))), (a0_34, .inl (ka0_34, 9, .inl (fa0_34)))] sz) [(a0, .inr (8, [Value.int na0_0, a0g_1, a0g_2, a0g_3, a0g_4, a0g_5, a0g_6, a0g_7, a0g_8, a0g_9, a0g_10, Value.int na0_11, a0g_12, a0g_13, Value.int a0_14, Value.ref a0_15, a0g_16, a0g_17, a0g_18, a0g_19, a0g_20, a0g_21, a0g_22, a0g_23, a0g_24, a0g_25, a0g_26, a0g_27, a0g_28, a0g_29, a0g_30, a0g_31, a0g_32, a0g_33, Value.ref a0_34, Value.ref a0_35, Value.int na0_36, a0g_37, a0g_38, a0g_39])), (a0_15, .inl (ka0_15, 156, .inl (fa0_15))), (a0_35, .inl (ka0_35, 9, .inl (nfa0_35))), (a0_34, .inl (ka0_34, 9, .inl (nfa0_34)))] [(ka0_15, .int), (ka0_35, .int), (ka0_34, .int)] t) (va_A [(a0, .inr (8, [Value.int a0_0, a0g_1, a0g_2, a0g_3, a0g_4, a0g_5, a0g_6, a0g_7, a0g_8, a0g_9, a0g_10, Value.int a0_11, a0g_12, a0g_13, Value.int a0_14, Value.ref a0_15, a0g_16, a0g_17, a0g_18, a0g_19, a0g_20, a0g_21, a0g_22, a0g_23, a0g_24, a0g_25, a0g_26, a0g_27, a0g_28, a0g_29, a0g_30, a0g_31, a0g_32, a0g_33, Value.ref a0_34, Value.ref a0_35, Value.int a0_36, a0g_37, a0g_38, a0g_39])), (a0_15, .inl (ka0_15, 156, .inl (fa0_15))), (a0_35, .inl (ka0_35, 9, .inl (fa0_35))), (a0_34, .inl (ka0_34, 9, .inl (fa0_34)))] sz)) 0 0 (va_A [(a0, .inr (8, [Value.int a0_0, a0g_1, a0g_2, a0g_3, a0g_4, a0g_5, a0g_6, a0g_7, a0g_8, a0g_9, a0g_10, Value.int a0_11, a0g_12, a0g_13, Value.int a0_14, Value.ref a0_15, a0g_16, a0g_17, a0g_18, a0g_19, a0g_20, a0g_21, a0g_22, a0g_23, a0g_24, a0g_25, a0g_26, a0g_27, a0g_28, a0g_29, a0g_30, a0g_31, a0g_32, a0g_33, Value.ref a0_34, Value.ref a0_35, Value.int a0_36, a0g_37, a0g_38, a0g_39])), (a0_15, .inl (ka0_15, 156, .inl (fa0_15))), (a0_35, .inl (ka0_35, 9, .inl (fa0_35))), (a0_34, .inl (ka0_34, 9, .inl (fa0_34)))] sz) := by
  refine Met.ofW (cc := cX8_lookLeaves) (maxL := 1) (ret := (some .int)) (by decide) rfl ?_
  intro p e s m args below meth c s₁ B hml hv
  obtain ⟨rfl, hsz, hP, hK, hD0, hE⟩ := hv
  have hx := B.exec
  have hb := B.bytes
  have hr := B.returns
  have hts := atoms_spec (ws := wsX8_lookLeaves) B.pre
  have hown : s.vm.findClass RX8 = some m.cls := findClass_of_methodNamed B.named
  have hlocks := B.notSynchronized
  subst hsz
  have hD := hD0.self (sz := s.heap.size)
  generalize hAe : va_A [(a0, .inr (8, [Value.int a0_0, a0g_1, a0g_2, a0g_3, a0g_4, a0g_5, a0g_6, a0g_7, a0g_8, a0g_9, a0g_10, Value.int a0_11, a0g_12, a0g_13, Value.int a0_14, Value.ref a0_15, a0g_16, a0g_17, a0g_18, a0g_19, a0g_20, a0g_21, a0g_22, a0g_23, a0g_24, a0g_25, a0g_26, a0g_27, a0g_28, a0g_29, a0g_30, a0g_31, a0g_32, a0g_33, Value.ref a0_34, Value.ref a0_35, Value.int a0_36, a0g_37, a0g_38, a0g_39])), (a0_15, .inl (ka0_15, 156, .inl (fa0_15))), (a0_35, .inl (ka0_35, 9, .inl (fa0_35))), (a0_34, .inl (ka0_34, 9, .inl (fa0_34)))] s.heap.size = A at hD ⊢
  have hA : ∀ q : Nat, s.heap.size ≤ q → A q := fun q h => by rw [← hAe]; exact Or.inr h
  have hS : va_S A s.heap s.heap [] := va_S.rf
  have hP : va_P (dC, dI) vwCl [(a0, .inr (8, [Value.int a0_0, a0g_1, a0g_2, a0g_3, a0g_4, a0g_5, a0g_6, a0g_7, a0g_8, a0g_9, a0g_10, Value.int a0_11, a0g_12, a0g_13, Value.int a0_14, Value.ref a0_15, a0g_16, a0g_17, a0g_18, a0g_19, a0g_20, a0g_21, a0g_22, a0g_23, a0g_24, a0g_25, a0g_26, a0g_27, a0g_28, a0g_29, a0g_30, a0g_31, a0g_32, a0g_33, Value.ref a0_34, Value.ref a0_35, Value.int a0_36, a0g_37, a0g_38, a0g_39])), (a0_15, .inl (ka0_15, 156, .inl (fa0_15))), (a0_35, .inl (ka0_35, 9, .inl (fa0_35))), (a0_34, .inl (ka0_34, 9, .inl (fa0_34)))] s.heap := hP
  have hl := lv_entry ([.ref a0]) (n := 1) (Nat.le_of_ble_eq_true rfl)
  rw [lg_entry_eq]
  generalize (lg_sl ([.ref a0]) ++ List.replicate (1 - (lg_sl ([.ref a0])).length) Slot.unset).toArray = ls at hl ⊢
  have hl : lv_has ls 1 [(0, .ref a0)] := hl
  refine lv_aload_n hx hb dX8_lookLeaves_0 rfl (lv_at hl 0 rfl) ?_
  obtain ⟨hPc, hDc, hFc, hCc⟩ := zc_cut (wc := [(a0, .inr (8, [Value.int a0_0, a0g_1, a0g_2, a0g_3, a0g_4, a0g_5, a0g_6, a0g_7, a0g_8, a0g_9, a0g_10, Value.int a0_11, a0g_12, a0g_13, Value.int a0_14, Value.ref a0_15, a0g_16, a0g_17, a0g_18, a0g_19, a0g_20, a0g_21, a0g_22, a0g_23, a0g_24, a0g_25, a0g_26, a0g_27, a0g_28, a0g_29, a0g_30, a0g_31, a0g_32, a0g_33, Value.ref a0_34, Value.ref a0_35, Value.int a0_36, a0g_37, a0g_38, a0g_39]))]) hP hD hS hA [0] (by decide +kernel) rfl
  have hKc := hK.sub (tys' := []) [] rfl
  refine va_callv (va_runV (As := []) (rest := []) ⟨hx, hb, hml, hown, hts⟩ (c_X8_good l dC dI s.heap.size a0 a0_0 a0g_1 a0g_2 a0g_3 a0g_4 a0g_5 a0g_6 a0g_7 a0g_8 a0g_9 a0g_10 a0g_12 a0g_13 (Value.int a0_14) (Value.ref a0_15) a0g_16 a0g_17 a0g_18 a0g_19 a0g_20 a0g_21 a0g_22 a0g_23 a0g_24 a0g_25 a0g_26 a0g_27 a0g_28 a0g_29 a0g_30 a0g_31 a0g_32 a0g_33 (Value.ref a0_34) (Value.ref a0_35) (Value.int a0_36) a0g_37 a0g_38 a0g_39 a0_11 ) (cwV 0 hts gX8_lookLeaves_X8_good rfl rfl rfl zd_X8_good ⟨Nat.le_of_ble_eq_true rfl, Nat.le_of_ble_eq_true rfl⟩) ⟨ax_blind (fun _ _ _ _ _ => trivial), zr_8 hKc hPc (q0 := 0) rfl, ax_pre hPc hKc hDc (fun _ _ => trivial)⟩ rfl rfl hl.1 rfl (lv_room (Nat.le_of_ble_eq_true rfl)) dX8_lookLeaves_1 ⟨Nat.le_of_ble_eq_true rfl, Nat.le_of_ble_eq_true rfl⟩) hS (fun q _ h => hFc q h) hFc (fun u t H locs ht hvm hw hB hz1 hk1 hS => ?_)
  obtain ⟨v1na0_0, v1na0_11, hP1, hK1, hD1⟩ := hB
  rw [ht] at hP1
  obtain ⟨hP, hD⟩ := zc_back (w := [(a0, .inr (8, [Value.int v1na0_0, a0g_1, a0g_2, a0g_3, a0g_4, a0g_5, a0g_6, a0g_7, a0g_8, a0g_9, a0g_10, Value.int v1na0_11, a0g_12, a0g_13, Value.int a0_14, Value.ref a0_15, a0g_16, a0g_17, a0g_18, a0g_19, a0g_20, a0g_21, a0g_22, a0g_23, a0g_24, a0g_25, a0g_26, a0g_27, a0g_28, a0g_29, a0g_30, a0g_31, a0g_32, a0g_33, Value.ref a0_34, Value.ref a0_35, Value.int a0_36, a0g_37, a0g_38, a0g_39])), (a0_15, .inl (ka0_15, 156, .inl (fa0_15))), (a0_35, .inl (ka0_35, 9, .inl (fa0_35))), (a0_34, .inl (ka0_34, 9, .inl (fa0_34)))]) hP hD hCc hk1 hFc hP1 hD1 [.inr 0, .inl 1, .inl 2, .inl 3] (by decide +kernel) rfl
  refine lv_aload_n hx hb dX8_lookLeaves_4 rfl (lv_at hl 0 rfl) ?_
  refine va_get (D := (dC, dI)) (ci := 8) (v := .int a0_14) (C := RX8) (T := TX8) (N := 40) hx hb hts zi_X8_lookLeaves_8 hown hK hP 0 rfl rfl 14 (by decide) (hts (.fieldLink RX8 173 "WaxTurnsModel" "hasGallery" "Z") (zm_X8_lookLeaves_r1 (List.mem_of_getElem? (i := 0) rfl))) (fun _ h9 => h9) rfl dX8_lookLeaves_5 ?_
  refine lv_if_ne (tgt := 17) hx hb dX8_lookLeaves_8 (by decide) (fun c8 => ?_) (fun c8 => ?_)
  · have gc8 := ai_ne c8
    refine lv_aload_n hx hb dX8_lookLeaves_17 rfl (lv_at hl 0 rfl) ?_
    obtain ⟨hPc, hDc, hFc, hCc⟩ := zc_cut (wc := [(a0, .inr (8, [Value.int v1na0_0, a0g_1, a0g_2, a0g_3, a0g_4, a0g_5, a0g_6, a0g_7, a0g_8, a0g_9, a0g_10, Value.int v1na0_11, a0g_12, a0g_13, Value.int a0_14, Value.ref a0_15, a0g_16, a0g_17, a0g_18, a0g_19, a0g_20, a0g_21, a0g_22, a0g_23, a0g_24, a0g_25, a0g_26, a0g_27, a0g_28, a0g_29, a0g_30, a0g_31, a0g_32, a0g_33, Value.ref a0_34, Value.ref a0_35, Value.int a0_36, a0g_37, a0g_38, a0g_39])), (a0_15, .inl (ka0_15, 156, .inl (fa0_15))), (a0_35, .inl (ka0_35, 9, .inl (fa0_35))), (a0_34, .inl (ka0_34, 9, .inl (fa0_34)))]) hP hD hS hA [0, 1, 2, 3] (by decide +kernel) rfl
    have hKc := hK.sub (tys' := [(ka0_15, .int), (ka0_35, .int), (ka0_34, .int)]) [0, 1, 2] rfl
    refine va_calli (va_runV (As := []) (rest := []) ⟨hx, hb, hml, hown, hts⟩ (c_X8_lookOf l dC dI H.size a0 (Value.int v1na0_0) a0g_1 a0g_2 a0g_3 a0g_4 a0g_5 a0g_6 a0g_7 a0g_8 a0g_9 a0g_10 (Value.int v1na0_11) a0g_12 a0g_13 (Value.int a0_14) a0g_16 a0g_17 a0g_18 a0g_19 a0g_20 a0g_21 a0g_22 a0g_23 a0g_24 a0g_25 a0g_26 a0g_27 a0g_28 a0g_29 a0g_30 a0g_31 a0g_32 a0g_33 a0g_37 a0g_38 a0g_39 a0_15 a0_34 a0_35 a0_36 ka0_15 fa0_15 ka0_35 fa0_35 ka0_34 fa0_34 bfa0_15) (cwV 0 hts gX8_lookLeaves_X8_lookOf rfl rfl rfl zd_X8_lookOf ⟨Nat.le_of_ble_eq_true rfl, Nat.le_of_ble_eq_true rfl⟩) ⟨ax_blind (fun _ _ _ _ _ => trivial), zr_8 hKc hPc (q0 := 0) rfl, ax_pre hPc hKc hDc (fun _ _ => trivial)⟩ rfl rfl hl.1 rfl (lv_room (Nat.le_of_ble_eq_true rfl)) dX8_lookLeaves_18 ⟨Nat.le_of_ble_eq_true rfl, Nat.le_of_ble_eq_true rfl⟩) hS (fun q _ h => hFc q h) hFc (fun r18 u t H locs ht hvm hw hB hz1 hk1 hS => ?_)
    obtain ⟨v18na0_36, v18nfa0_35, v18nfa0_34, hP1, hK1, hD1⟩ := hB
    rw [ht] at hP1
    obtain ⟨hP, hD⟩ := zc_back (w := [(a0, .inr (8, [Value.int v1na0_0, a0g_1, a0g_2, a0g_3, a0g_4, a0g_5, a0g_6, a0g_7, a0g_8, a0g_9, a0g_10, Value.int v1na0_11, a0g_12, a0g_13, Value.int a0_14, Value.ref a0_15, a0g_16, a0g_17, a0g_18, a0g_19, a0g_20, a0g_21, a0g_22, a0g_23, a0g_24, a0g_25, a0g_26, a0g_27, a0g_28, a0g_29, a0g_30, a0g_31, a0g_32, a0g_33, Value.ref a0_34, Value.ref a0_35, Value.int v18na0_36, a0g_37, a0g_38, a0g_39])), (a0_15, .inl (ka0_15, 156, .inl (fa0_15))), (a0_35, .inl (ka0_35, 9, .inl (v18nfa0_35))), (a0_34, .inl (ka0_34, 9, .inl (v18nfa0_34)))]) hP hD hCc hk1 hFc hP1 hD1 [.inr 0, .inr 1, .inr 2, .inr 3] (by decide +kernel) rfl
    have hw : (-2 : Int) ≤ r18.toInt ∧ r18.toInt ≤ (99 : Int) := hw
    obtain ⟨h18_0, h18_1⟩ := hw
    refine lv_pop hx hb dX8_lookLeaves_21 rfl ?_
    refine lv_aload_n hx hb dX8_lookLeaves_22 rfl (lv_at hl 0 rfl) ?_
    refine va_get (D := (dC, dI)) (ci := 8) (v := .int v18na0_36) (C := RX8) (T := TX8) (N := 40) hx hb hts zi_X8_lookLeaves_8 hown hK hP 0 rfl rfl 36 (by decide) (hts (.fieldLink RX8 346 "WaxTurnsModel" "leastLeft" "I") (zm_X8_lookLeaves_r1 (List.mem_of_getElem? (i := 1) rfl))) (fun _ h9 => h9) rfl dX8_lookLeaves_23 ?_
    exact W.iret (v := v18na0_36) hx hb hr (fun t ht hW => ⟨⟨v18na0_36, (), rfl, trivial, v1na0_0, v1na0_11, v18na0_36, v18nfa0_35, v18nfa0_34, by rw [ht]; exact hP, va_K.moved hW.alike hK, hD⟩, hS.F ht⟩) hS.2.2 dX8_lookLeaves_26
  · have gc8 := ai_eq c8
    have u8f_a0_14 : a0_14.toInt ≤ (0 : Int) := Int.le_trans (Int.le_of_eq gc8) zq6
    have l8f_a0_14 : (1 : Int) ≤ a0_14.toInt := ba0_14_l
    exact absurd (Int.le_trans l8f_a0_14 u8f_a0_14) (by decide)

set_option maxHeartbeats 4000000 in
set_option maxRecDepth 100000 in
theorem c_X8_judge (l : Launch) (dC : Nat → ClassId) (dI : Nat → Nat → Nat) (sz : Nat) (a0 : Nat) (a0_0 : Int32) (a0g_1 a0g_2 a0g_3 a0g_4 a0g_5 a0g_6 a0g_7 a0g_8 a0g_9 a0g_10 a0g_12 a0g_13 a0g_16 a0g_17 a0g_18 a0g_19 a0g_20 a0g_21 a0g_22 a0g_23 a0g_24 a0g_25 a0g_26 a0g_27 a0g_28 a0g_29 a0g_30 a0g_31 a0g_32 a0g_33 a0g_35 a0g_36 a0g_37 a0g_38 a0g_39 : Value) (a0_11 : Int32) (a0_14 : Int32) (a0_15 : Nat) (a0_34 : Nat) (ka0_15 : ClassId) (fa0_15 : Nat → Int32) (ka0_34 : ClassId) (fa0_34 : Nat → Int32) (ba0_14_l : (1 : Int) ≤ a0_14.toInt) (ba0_14_u : a0_14.toInt ≤ (1 : Int)) (bfa0_15 : ((∀ k : Nat, 0 ≤ k → k ≤ 0 → (2 : Int) ≤ (fa0_15 k).toInt ∧ (fa0_15 k).toInt ≤ 9) ∧ (∀ k : Nat, 1 ≤ k → k ≤ 1 → (1 : Int) ≤ (fa0_15 k).toInt ∧ (fa0_15 k).toInt ≤ 20) ∧ (∀ k : Nat, 2 ≤ k → k ≤ 2 → (0 : Int) ≤ (fa0_15 k).toInt ∧ (fa0_15 k).toInt ≤ 8) ∧ (∀ k : Nat, 3 ≤ k → k ≤ 3 → (0 : Int) ≤ (fa0_15 k).toInt ∧ (fa0_15 k).toInt ≤ 100) ∧ (∀ k : Nat, 4 ≤ k → k ≤ 4 → (0 : Int) ≤ (fa0_15 k).toInt ∧ (fa0_15 k).toInt ≤ 9) ∧ (∀ k : Nat, 5 ≤ k → k ≤ 5 → (0 : Int) ≤ (fa0_15 k).toInt ∧ (fa0_15 k).toInt ≤ 3) ∧ (∀ k : Nat, 6 ≤ k → k ≤ 6 → (0 : Int) ≤ (fa0_15 k).toInt ∧ (fa0_15 k).toInt ≤ 6) ∧ (∀ k : Nat, 7 ≤ k → k ≤ 9 → (0 : Int) ≤ (fa0_15 k).toInt ∧ (fa0_15 k).toInt ≤ 8) ∧ (∀ k : Nat, 12 ≤ k → k ≤ 29 → (0 : Int) ≤ (fa0_15 k).toInt ∧ (fa0_15 k).toInt ≤ 20) ∧ (∀ k : Nat, 30 ≤ k → k ≤ 35 → (0 : Int) ≤ (fa0_15 k).toInt ∧ (fa0_15 k).toInt ≤ 8) ∧ (∀ k : Nat, 36 ≤ k → k ≤ 47 → (0 : Int) ≤ (fa0_15 k).toInt ∧ (fa0_15 k).toInt ≤ 999))) : Met l yX8_judge wsX8_judge ({ frames := 1, cells := 0, slots := 0, locals := 28 }) (va_Pc [.ref a0] (ax_C dC dI sz [(a0, .inr (8, [Value.int a0_0, a0g_1, a0g_2, a0g_3, a0g_4, a0g_5, a0g_6, a0g_7, a0g_8, a0g_9, a0g_10, Value.int a0_11, a0g_12, a0g_13, Value.int a0_14, Value.ref a0_15, a0g_16, a0g_17, a0g_18, a0g_19, a0g_20, a0g_21, a0g_22, a0g_23, a0g_24, a0g_25, a0g_26, a0g_27, a0g_28, a0g_29, a0g_30, a0g_31, a0g_32, a0g_33, Value.ref a0_34, a0g_35, a0g_36, a0g_37, a0g_38, a0g_39])), (a0_15, .inl (ka0_15, 156, .inl (fa0_15))), (a0_34, .inl (ka0_34, 9, .inl (fa0_34)))] [(ka0_15, .int), (ka0_34, .int)] (fun _ => True))) (va_Qi (fun (r : Int32) (_ : Unit) => (-2 : Int) ≤ r.toInt ∧ r.toInt ≤ (5 : Int)) (fun (_ : Unit) (t : State) => ∃ na0_0 : Int32, ∃ na0_11 : Int32, ∃ nfa0_34 : Nat → Int32, ax_B dC dI (va_A [(a0, .inr (8, [Value.int a0_0, a0g_1, a0g_2, a0g_3, a0g_4, a0g_5, a0g_6, a0g_7, a0g_8, a0g_9, a0g_10, Value.int a0_11, a0g_12, a0g_13, Value.int a0_14, Value.ref a0_15, a0g_16, a0g_17, a0g_18, a0g_19, a0g_20, a0g_21, a0g_22, a0g_23, a0g_24, a0g_25, a0g_26, a0g_27, a0g_28, a0g_29, a0g_30, a0g_31, a0g_32, a0g_33, Value.ref a0_34, a0g_35, a0g_36, a0g_37, a0g_38, a0g_39])), (a0_15, .inl (ka0_15, 156, .inl (fa0_15))), (a0_34, .inl (ka0_34, 9, .inl (fa0_34)))] sz) [(a0, .inr (8, [Value.int na0_0, a0g_1, a0g_2, a0g_3, a0g_4, a0g_5, a0g_6, a0g_7, a0g_8, a0g_9, a0g_10, Value.int na0_11, a0g_12, a0g_13, Value.int a0_14, Value.ref a0_15, a0g_16, a0g_17, a0g_18, a0g_19, a0g_20, a0g_21, a0g_22, a0g_23, a0g_24, a0g_25, a0g_26, a0g_27, a0g_28, a0g_29, a0g_30, a0g_31, a0g_32, a0g_33, Value.ref a0_34, a0g_35, a0g_36, a0g_37, a0g_38, a0g_39])), (a0_15, .inl (ka0_15, 156, .inl (fa0_15))), (a0_34, .inl (ka0_34, 9, .inl (nfa0_34)))] [(ka0_15, .int), (ka0_34, .int)] t) (va_A [(a0, .inr (8, [Value.int a0_0, a0g_1, a0g_2, a0g_3, a0g_4, a0g_5, a0g_6, a0g_7, a0g_8, a0g_9, a0g_10, Value.int a0_11, a0g_12, a0g_13, Value.int a0_14, Value.ref a0_15, a0g_16, a0g_17, a0g_18, a0g_19, a0g_20, a0g_21, a0g_22, a0g_23, a0g_24, a0g_25, a0g_26, a0g_27, a0g_28, a0g_29, a0g_30, a0g_31, a0g_32, a0g_33, Value.ref a0_34, a0g_35, a0g_36, a0g_37, a0g_38, a0g_39])), (a0_15, .inl (ka0_15, 156, .inl (fa0_15))), (a0_34, .inl (ka0_34, 9, .inl (fa0_34)))] sz)) 0 0 (va_A [(a0, .inr (8, [Value.int a0_0, a0g_1, a0g_2, a0g_3, a0g_4, a0g_5, a0g_6, a0g_7, a0g_8, a0g_9, a0g_10, Value.int a0_11, a0g_12, a0g_13, Value.int a0_14, Value.ref a0_15, a0g_16, a0g_17, a0g_18, a0g_19, a0g_20, a0g_21, a0g_22, a0g_23, a0g_24, a0g_25, a0g_26, a0g_27, a0g_28, a0g_29, a0g_30, a0g_31, a0g_32, a0g_33, Value.ref a0_34, a0g_35, a0g_36, a0g_37, a0g_38, a0g_39])), (a0_15, .inl (ka0_15, 156, .inl (fa0_15))), (a0_34, .inl (ka0_34, 9, .inl (fa0_34)))] sz) := by
  refine Met.ofW (cc := cX8_judge) (maxL := 2) (ret := (some .int)) (by decide) rfl ?_
  intro p e s m args below meth c s₁ B hml hv
  obtain ⟨rfl, hsz, hP, hK, hD0, hE⟩ := hv
  have hx := B.exec
  have hb := B.bytes
  have hr := B.returns
  have hts := atoms_spec (ws := wsX8_judge) B.pre
  have hown : s.vm.findClass RX8 = some m.cls := findClass_of_methodNamed B.named
  have hlocks := B.notSynchronized
  subst hsz
  have hD := hD0.self (sz := s.heap.size)
  generalize hAe : va_A [(a0, .inr (8, [Value.int a0_0, a0g_1, a0g_2, a0g_3, a0g_4, a0g_5, a0g_6, a0g_7, a0g_8, a0g_9, a0g_10, Value.int a0_11, a0g_12, a0g_13, Value.int a0_14, Value.ref a0_15, a0g_16, a0g_17, a0g_18, a0g_19, a0g_20, a0g_21, a0g_22, a0g_23, a0g_24, a0g_25, a0g_26, a0g_27, a0g_28, a0g_29, a0g_30, a0g_31, a0g_32, a0g_33, Value.ref a0_34, a0g_35, a0g_36, a0g_37, a0g_38, a0g_39])), (a0_15, .inl (ka0_15, 156, .inl (fa0_15))), (a0_34, .inl (ka0_34, 9, .inl (fa0_34)))] s.heap.size = A at hD ⊢
  have hA : ∀ q : Nat, s.heap.size ≤ q → A q := fun q h => by rw [← hAe]; exact Or.inr h
  have hS : va_S A s.heap s.heap [] := va_S.rf
  have hP : va_P (dC, dI) vwCl [(a0, .inr (8, [Value.int a0_0, a0g_1, a0g_2, a0g_3, a0g_4, a0g_5, a0g_6, a0g_7, a0g_8, a0g_9, a0g_10, Value.int a0_11, a0g_12, a0g_13, Value.int a0_14, Value.ref a0_15, a0g_16, a0g_17, a0g_18, a0g_19, a0g_20, a0g_21, a0g_22, a0g_23, a0g_24, a0g_25, a0g_26, a0g_27, a0g_28, a0g_29, a0g_30, a0g_31, a0g_32, a0g_33, Value.ref a0_34, a0g_35, a0g_36, a0g_37, a0g_38, a0g_39])), (a0_15, .inl (ka0_15, 156, .inl (fa0_15))), (a0_34, .inl (ka0_34, 9, .inl (fa0_34)))] s.heap := hP
  have hl := lv_entry ([.ref a0]) (n := 2) (Nat.le_of_ble_eq_true rfl)
  rw [lg_entry_eq]
  generalize (lg_sl ([.ref a0]) ++ List.replicate (2 - (lg_sl ([.ref a0])).length) Slot.unset).toArray = ls at hl ⊢
  have hl : lv_has ls 2 [(0, .ref a0)] := hl
  refine ai_open (fun K hK0 => ?_)
  refine (hK0 _ _ _).mpr ?_
  refine lv_aload_n hx hb dX8_judge_0 rfl (lv_at hl 0 rfl) ?_
  obtain ⟨hPc, hDc, hFc, hCc⟩ := zc_cut (wc := [(a0, .inr (8, [Value.int a0_0, a0g_1, a0g_2, a0g_3, a0g_4, a0g_5, a0g_6, a0g_7, a0g_8, a0g_9, a0g_10, Value.int a0_11, a0g_12, a0g_13, Value.int a0_14, Value.ref a0_15, a0g_16, a0g_17, a0g_18, a0g_19, a0g_20, a0g_21, a0g_22, a0g_23, a0g_24, a0g_25, a0g_26, a0g_27, a0g_28, a0g_29, a0g_30, a0g_31, a0g_32, a0g_33, Value.ref a0_34, a0g_35, a0g_36, a0g_37, a0g_38, a0g_39]))]) hP hD hS hA [0] (by decide +kernel) rfl
  have hKc := hK.sub (tys' := []) [] rfl
  refine va_callv (va_runV (As := []) (rest := []) ⟨hx, hb, hml, hown, hts⟩ (c_X8_good l dC dI s.heap.size a0 a0_0 a0g_1 a0g_2 a0g_3 a0g_4 a0g_5 a0g_6 a0g_7 a0g_8 a0g_9 a0g_10 a0g_12 a0g_13 (Value.int a0_14) (Value.ref a0_15) a0g_16 a0g_17 a0g_18 a0g_19 a0g_20 a0g_21 a0g_22 a0g_23 a0g_24 a0g_25 a0g_26 a0g_27 a0g_28 a0g_29 a0g_30 a0g_31 a0g_32 a0g_33 (Value.ref a0_34) a0g_35 a0g_36 a0g_37 a0g_38 a0g_39 a0_11 ) (cwV 0 hts gX8_judge_X8_good rfl rfl rfl zd_X8_good ⟨Nat.le_of_ble_eq_true rfl, Nat.le_of_ble_eq_true rfl⟩) ⟨ax_blind (fun _ _ _ _ _ => trivial), zr_8 hKc hPc (q0 := 0) rfl, ax_pre hPc hKc hDc (fun _ _ => trivial)⟩ rfl rfl hl.1 rfl (lv_room (Nat.le_of_ble_eq_true rfl)) dX8_judge_1 ⟨Nat.le_of_ble_eq_true rfl, Nat.le_of_ble_eq_true rfl⟩) hS (fun q _ h => hFc q h) hFc (fun u t H locs ht hvm hw hB hz1 hk1 hS => ?_)
  obtain ⟨v1na0_0, v1na0_11, hP1, hK1, hD1⟩ := hB
  rw [ht] at hP1
  obtain ⟨hP, hD⟩ := zc_back (w := [(a0, .inr (8, [Value.int v1na0_0, a0g_1, a0g_2, a0g_3, a0g_4, a0g_5, a0g_6, a0g_7, a0g_8, a0g_9, a0g_10, Value.int v1na0_11, a0g_12, a0g_13, Value.int a0_14, Value.ref a0_15, a0g_16, a0g_17, a0g_18, a0g_19, a0g_20, a0g_21, a0g_22, a0g_23, a0g_24, a0g_25, a0g_26, a0g_27, a0g_28, a0g_29, a0g_30, a0g_31, a0g_32, a0g_33, Value.ref a0_34, a0g_35, a0g_36, a0g_37, a0g_38, a0g_39])), (a0_15, .inl (ka0_15, 156, .inl (fa0_15))), (a0_34, .inl (ka0_34, 9, .inl (fa0_34)))]) hP hD hCc hk1 hFc hP1 hD1 [.inr 0, .inl 1, .inl 2] (by decide +kernel) rfl
  refine lv_aload_n hx hb dX8_judge_4 rfl (lv_at hl 0 rfl) ?_
  refine va_get (D := (dC, dI)) (ci := 8) (v := .int a0_14) (C := RX8) (T := TX8) (N := 40) hx hb hts zi_X8_judge_8 hown hK hP 0 rfl rfl 14 (by decide) (hts (.fieldLink RX8 173 "WaxTurnsModel" "hasGallery" "Z") (List.mem_cons_of_mem _ (List.mem_append_left _ (List.mem_of_getElem? (i := 0) rfl)))) (fun _ h9 => h9) rfl dX8_judge_5 ?_
  refine lv_if_ne (tgt := 17) hx hb dX8_judge_8 (by decide) (fun c8 => ?_) (fun c8 => ?_)
  · have gc8 := ai_ne c8
    refine lv_iconst (v := 0) hx hb dX8_judge_17 zk_iconst_0 ?_
    refine lv_istore_n (lv' := [(1, .int 0), (0, .ref a0)]) hx hb dX8_judge_18 rfl hl (by decide) rfl (fun ls hl => ?_)
    have J19 : ∀ (n : Nat) (j19l1 : Int32) (j19a0_34_a : Nat → Int32) (H : Heap) (locs : List Loc) (ls : Array Slot), (7 : Int) - j19l1.toInt ≤ (n : Int) → (0 : Int) ≤ j19l1.toInt → j19l1.toInt ≤ (6 : Int) → va_P (dC, dI) vwCl [(a0, .inr (8, [Value.int v1na0_0, a0g_1, a0g_2, a0g_3, a0g_4, a0g_5, a0g_6, a0g_7, a0g_8, a0g_9, a0g_10, Value.int v1na0_11, a0g_12, a0g_13, Value.int a0_14, Value.ref a0_15, a0g_16, a0g_17, a0g_18, a0g_19, a0g_20, a0g_21, a0g_22, a0g_23, a0g_24, a0g_25, a0g_26, a0g_27, a0g_28, a0g_29, a0g_30, a0g_31, a0g_32, a0g_33, Value.ref a0_34, a0g_35, a0g_36, a0g_37, a0g_38, a0g_39])), (a0_15, .inl (ka0_15, 156, .inl (fa0_15))), (a0_34, .inl (ka0_34, 9, .inl (j19a0_34_a)))] H → va_D A [(a0, .inr (8, [Value.int v1na0_0, a0g_1, a0g_2, a0g_3, a0g_4, a0g_5, a0g_6, a0g_7, a0g_8, a0g_9, a0g_10, Value.int v1na0_11, a0g_12, a0g_13, Value.int a0_14, Value.ref a0_15, a0g_16, a0g_17, a0g_18, a0g_19, a0g_20, a0g_21, a0g_22, a0g_23, a0g_24, a0g_25, a0g_26, a0g_27, a0g_28, a0g_29, a0g_30, a0g_31, a0g_32, a0g_33, Value.ref a0_34, a0g_35, a0g_36, a0g_37, a0g_38, a0g_39])), (a0_15, .inl (ka0_15, 156, .inl (fa0_15))), (a0_34, .inl (ka0_34, 9, .inl (j19a0_34_a)))] → va_S A s.heap H locs → lv_has ls 2 [(0, .ref a0), (1, .int j19l1)] → K H locs (F0 m 19 ls []) := by
      intro n
      induction n with
      | zero =>
        intro j19l1 j19a0_34_a H locs ls hm bj19l1_l bj19l1_u hP hD hS hl
        have h8 := ai_min j19l1
        have h9 := ai_max j19l1
        exact absurd hm (by omega)
      | succ n ih19 =>
        intro j19l1 j19a0_34_a H locs ls hm bj19l1_l bj19l1_u hP hD hS hl
        refine (hK0 _ _ _).mpr ?_
        have hm19 := hm
        refine lv_iload_n hx hb dX8_judge_19 rfl (lv_at hl 1 rfl) ?_
        refine lv_aload_n hx hb dX8_judge_20 rfl (lv_at hl 0 rfl) ?_
        refine va_get (D := (dC, dI)) (ci := 8) (v := .ref a0_15) (C := RX8) (T := TX8) (N := 40) hx hb hts zi_X8_judge_8 hown hK hP 0 rfl rfl 15 (by decide) (hts (.fieldLink RX8 20 "WaxTurnsModel" "\x72" "[I") (List.mem_cons_of_mem _ (List.mem_append_left _ (List.mem_of_getElem? (i := 1) rfl)))) (fun _ h9 => h9) rfl dX8_judge_21 ?_
        refine lv_bipush (v := 6) hx hb dX8_judge_24 zk_bipush_6 ?_
        refine va_iald hx hb hK hP 1 0 rfl rfl (by unfold vp_in; decide +kernel) dX8_judge_26 ?_
        refine lv_topi (fun x26 ex26 => ?_)
        have bx26 : (0 : Int) ≤ x26.toInt ∧ x26.toInt ≤ 6 := by rw [ex26]; exact ai_rd bfa0_15.2.2.2.2.2.2.1 zq15 zq16 (by decide) (by decide) (by decide)
        refine lv_icmp_ge (tgt := 97) hx hb dX8_judge_27 (by decide) (fun c27 => ?_) (fun c27 => ?_)
        · have gc27 := ai_le c27
          have u27t_x26 : x26.toInt ≤ (6 : Int) := bx26.2
          have l27t_j19l1 : (0 : Int) ≤ j19l1.toInt := bj19l1_l
          refine lv_bipush (v := (-2)) hx hb dX8_judge_97 zk_bipush_n2 ?_
          exact W.iret (v := (-2)) hx hb hr (fun t ht hW => ⟨⟨(-2), (), rfl, ⟨zq45, (Int.le_trans zq44 zq98)⟩, v1na0_0, v1na0_11, j19a0_34_a, by rw [ht]; exact hP, va_K.moved hW.alike hK, hD⟩, hS.F ht⟩) hS.2.2 dX8_judge_99
        · have gc27 := ai_nle c27
          have u27f_j19l1 : j19l1.toInt ≤ (5 : Int) := ai_lthi gc27 bx26.2
          have l27f_x26 : (1 : Int) ≤ x26.toInt := ai_ltlo gc27 bj19l1_l
          refine lv_aload_n hx hb dX8_judge_30 rfl (lv_at hl 0 rfl) ?_
          refine lv_aload_n hx hb dX8_judge_31 rfl (lv_at hl 0 rfl) ?_
          refine va_get (D := (dC, dI)) (ci := 8) (v := .ref a0_15) (C := RX8) (T := TX8) (N := 40) hx hb hts zi_X8_judge_8 hown hK hP 0 rfl rfl 15 (by decide) (hts (.fieldLink RX8 20 "WaxTurnsModel" "\x72" "[I") (List.mem_cons_of_mem _ (List.mem_append_left _ (List.mem_of_getElem? (i := 1) rfl)))) (fun _ h9 => h9) rfl dX8_judge_32 ?_
          refine lv_bipush (v := 7) hx hb dX8_judge_35 zk_bipush_7 ?_
          refine va_iald hx hb hK hP 1 0 rfl rfl (by unfold vp_in; decide +kernel) dX8_judge_37 ?_
          refine lv_topi (fun x37 ex37 => ?_)
          have bx37 : (0 : Int) ≤ x37.toInt ∧ x37.toInt ≤ 8 := by rw [ex37]; exact ai_rd bfa0_15.2.2.2.2.2.2.2.1 zq114 zq115 (by decide) (by decide) (by decide)
          refine lv_aload_n hx hb dX8_judge_38 rfl (lv_at hl 0 rfl) ?_
          refine va_get (D := (dC, dI)) (ci := 8) (v := .ref a0_15) (C := RX8) (T := TX8) (N := 40) hx hb hts zi_X8_judge_8 hown hK hP 0 rfl rfl 15 (by decide) (hts (.fieldLink RX8 20 "WaxTurnsModel" "\x72" "[I") (List.mem_cons_of_mem _ (List.mem_append_left _ (List.mem_of_getElem? (i := 1) rfl)))) (fun _ h9 => h9) rfl dX8_judge_39 ?_
          refine lv_bipush (v := 8) hx hb dX8_judge_42 zk_bipush_8 ?_
          refine va_iald hx hb hK hP 1 0 rfl rfl (by unfold vp_in; decide +kernel) dX8_judge_44 ?_
          refine lv_topi (fun x44 ex44 => ?_)
          have bx44 : (0 : Int) ≤ x44.toInt ∧ x44.toInt ≤ 8 := by rw [ex44]; exact ai_rd bfa0_15.2.2.2.2.2.2.2.1 zq116 zq28 (by decide) (by decide) (by decide)
          refine lv_aload_n hx hb dX8_judge_45 rfl (lv_at hl 0 rfl) ?_
          refine va_get (D := (dC, dI)) (ci := 8) (v := .ref a0_15) (C := RX8) (T := TX8) (N := 40) hx hb hts zi_X8_judge_8 hown hK hP 0 rfl rfl 15 (by decide) (hts (.fieldLink RX8 20 "WaxTurnsModel" "\x72" "[I") (List.mem_cons_of_mem _ (List.mem_append_left _ (List.mem_of_getElem? (i := 1) rfl)))) (fun _ h9 => h9) rfl dX8_judge_46 ?_
          refine lv_bipush (v := 9) hx hb dX8_judge_49 zk_bipush_9 ?_
          refine va_iald hx hb hK hP 1 0 rfl rfl (by unfold vp_in; decide +kernel) dX8_judge_51 ?_
          refine lv_topi (fun x51 ex51 => ?_)
          have bx51 : (0 : Int) ≤ x51.toInt ∧ x51.toInt ≤ 8 := by rw [ex51]; exact ai_rd bfa0_15.2.2.2.2.2.2.2.1 zq2 zq3 (by decide) (by decide) (by decide)
          refine lv_aload_n hx hb dX8_judge_52 rfl (lv_at hl 0 rfl) ?_
          refine va_get (D := (dC, dI)) (ci := 8) (v := .ref a0_15) (C := RX8) (T := TX8) (N := 40) hx hb hts zi_X8_judge_8 hown hK hP 0 rfl rfl 15 (by decide) (hts (.fieldLink RX8 20 "WaxTurnsModel" "\x72" "[I") (List.mem_cons_of_mem _ (List.mem_append_left _ (List.mem_of_getElem? (i := 1) rfl)))) (fun _ h9 => h9) rfl dX8_judge_53 ?_
          refine lv_bipush (v := 36) hx hb dX8_judge_56 zk_bipush_36 ?_
          refine lv_iconst (v := 2) hx hb dX8_judge_58 zk_iconst_2 ?_
          refine lv_iload_n hx hb dX8_judge_59 rfl (lv_at hl 1 rfl) ?_
          refine lv_imul hx hb dX8_judge_60 ?_
          refine lv_topi (fun x60 ex60 => ?_)
          have qx60 : x60.toInt = (2 : Int32).toInt * j19l1.toInt ∧ (0 : Int) ≤ x60.toInt ∧ x60.toInt ≤ 10 := ai_mul ex60 ⟨zq12, zq13⟩ ⟨bj19l1_l, u27f_j19l1⟩ (by decide) (by decide) zq181
          have wx60 : x60.toInt = 2 * j19l1.toInt := qx60.1
          refine lv_iadd hx hb dX8_judge_61 ?_
          refine lv_topi (fun x61 ex61 => ?_)
          have qx61 : x61.toInt = (36 : Int32).toInt + x60.toInt := ai_add ex61 ⟨zq182, zq183⟩ ⟨qx60.2.1, qx60.2.2⟩ (by decide) (by decide)
          have bx61 : (36 : Int) ≤ x61.toInt ∧ x61.toInt ≤ 46 := ⟨by rw [qx61]; exact Int.add_le_add zq182 qx60.2.1, by rw [qx61]; exact Int.add_le_add zq183 qx60.2.2⟩
          have wx61 : x61.toInt = 36 + x60.toInt := qx61
          refine lv_iconst (v := 1) hx hb dX8_judge_62 zk_iconst_1 ?_
          refine lv_iadd hx hb dX8_judge_63 ?_
          refine lv_topi (fun x63 ex63 => ?_)
          have qx63 : x63.toInt = x61.toInt + (1 : Int32).toInt := ai_add ex63 ⟨bx61.1, bx61.2⟩ ⟨zq1, zq0⟩ (by decide) (by decide)
          have bx63 : (37 : Int) ≤ x63.toInt ∧ x63.toInt ≤ 47 := ⟨by rw [qx63]; exact Int.add_le_add bx61.1 zq1, by rw [qx63]; exact Int.add_le_add bx61.2 zq0⟩
          have wx63 : x63.toInt = x61.toInt + 1 := qx63
          refine va_iald hx hb hK hP 1 0 rfl rfl (ai_in bx63.1 bx63.2 (by decide) (by decide)) dX8_judge_64 ?_
          refine lv_topi (fun x64 ex64 => ?_)
          have bx64 : (0 : Int) ≤ x64.toInt ∧ x64.toInt ≤ 999 := by rw [ex64]; exact ai_rd bfa0_15.2.2.2.2.2.2.2.2.2.2 bx63.1 bx63.2 (by decide) (by decide) (by decide)
          refine lv_aload_n hx hb dX8_judge_65 rfl (lv_at hl 0 rfl) ?_
          refine va_get (D := (dC, dI)) (ci := 8) (v := .ref a0_15) (C := RX8) (T := TX8) (N := 40) hx hb hts zi_X8_judge_8 hown hK hP 0 rfl rfl 15 (by decide) (hts (.fieldLink RX8 20 "WaxTurnsModel" "\x72" "[I") (List.mem_cons_of_mem _ (List.mem_append_left _ (List.mem_of_getElem? (i := 1) rfl)))) (fun _ h9 => h9) rfl dX8_judge_66 ?_
          refine lv_iconst (v := 1) hx hb dX8_judge_69 zk_iconst_1 ?_
          refine va_iald hx hb hK hP 1 0 rfl rfl (by unfold vp_in; decide +kernel) dX8_judge_70 ?_
          refine lv_topi (fun x70 ex70 => ?_)
          have bx70 : (1 : Int) ≤ x70.toInt ∧ x70.toInt ≤ 20 := by rw [ex70]; exact ai_rd bfa0_15.2.1 zq1 zq0 (by decide) (by decide) (by decide)
          refine lv_idiv hx hb dX8_judge_71 (ai_nz bx70.1 (by decide)) ?_
          refine lv_topi (fun x71 ex71 => ?_)
          have qx71 := ai_div ex71 ⟨bx64.1, bx64.2⟩ (Int.lt_of_lt_of_le zq19 bx70.1)
          obtain ⟨hPc, hDc, hFc, hCc⟩ := zc_cut (wc := [(a0, .inr (8, [Value.int v1na0_0, a0g_1, a0g_2, a0g_3, a0g_4, a0g_5, a0g_6, a0g_7, a0g_8, a0g_9, a0g_10, Value.int v1na0_11, a0g_12, a0g_13, Value.int a0_14, Value.ref a0_15, a0g_16, a0g_17, a0g_18, a0g_19, a0g_20, a0g_21, a0g_22, a0g_23, a0g_24, a0g_25, a0g_26, a0g_27, a0g_28, a0g_29, a0g_30, a0g_31, a0g_32, a0g_33, Value.ref a0_34, a0g_35, a0g_36, a0g_37, a0g_38, a0g_39])), (a0_34, .inl (ka0_34, 9, .inl (j19a0_34_a))), (a0_15, .inl (ka0_15, 156, .inl (fa0_15)))]) hP hD hS hA [0, 2, 1] (by decide +kernel) rfl
          have hKc := hK.sub (tys' := [(ka0_34, .int), (ka0_15, .int)]) [1, 0] rfl
          refine va_calli (va_runV (As := [.int x37, .int x44, .int x51, .int x71]) (rest := []) ⟨hx, hb, hml, hown, hts⟩ (c_X8_turnBy l dC dI H.size a0 x37 x44 x51 x71 (Value.int v1na0_0) a0g_1 a0g_2 a0g_3 a0g_4 a0g_5 a0g_6 a0g_7 a0g_8 a0g_9 a0g_10 (Value.int v1na0_11) a0g_12 a0g_13 (Value.int a0_14) a0g_16 a0g_17 a0g_18 a0g_19 a0g_20 a0g_21 a0g_22 a0g_23 a0g_24 a0g_25 a0g_26 a0g_27 a0g_28 a0g_29 a0g_30 a0g_31 a0g_32 a0g_33 a0g_35 a0g_36 a0g_37 a0g_38 a0g_39 a0_15 a0_34 ka0_34 j19a0_34_a ka0_15 fa0_15 bx37.1 (Int.le_trans bx37.2 zq189) bx44.1 bx44.2 bx51.1 bx51.2 qx71.2.1 qx71.2.2 bfa0_15) (cwV 4 hts gX8_judge_X8_turnBy rfl rfl rfl zd_X8_turnBy ⟨Nat.le_of_ble_eq_true rfl, Nat.le_of_ble_eq_true rfl⟩) ⟨ax_blind (fun _ _ _ _ _ => trivial), zr_8 hKc hPc (q0 := 0) rfl, ax_pre hPc hKc hDc (fun _ _ => trivial)⟩ rfl rfl hl.1 rfl (lv_room (Nat.le_of_ble_eq_true rfl)) dX8_judge_72 ⟨Nat.le_of_ble_eq_true rfl, Nat.le_of_ble_eq_true rfl⟩) hS (fun q _ h => hFc q h) hFc (fun r72 u t H locs ht hvm hw hB hz1 hk1 hS => ?_)
          obtain ⟨v72nfa0_34, hP1, hK1, hD1⟩ := hB
          rw [ht] at hP1
          obtain ⟨hP, hD⟩ := zc_back (w := [(a0, .inr (8, [Value.int v1na0_0, a0g_1, a0g_2, a0g_3, a0g_4, a0g_5, a0g_6, a0g_7, a0g_8, a0g_9, a0g_10, Value.int v1na0_11, a0g_12, a0g_13, Value.int a0_14, Value.ref a0_15, a0g_16, a0g_17, a0g_18, a0g_19, a0g_20, a0g_21, a0g_22, a0g_23, a0g_24, a0g_25, a0g_26, a0g_27, a0g_28, a0g_29, a0g_30, a0g_31, a0g_32, a0g_33, Value.ref a0_34, a0g_35, a0g_36, a0g_37, a0g_38, a0g_39])), (a0_15, .inl (ka0_15, 156, .inl (fa0_15))), (a0_34, .inl (ka0_34, 9, .inl (v72nfa0_34)))]) hP hD hCc hk1 hFc hP1 hD1 [.inr 0, .inr 2, .inr 1] (by decide +kernel) rfl
          rcases hw with hw
          · obtain ⟨⟨lr72, ur72⟩, mr72⟩ := hw
            refine lv_aload_n hx hb dX8_judge_75 rfl (lv_at hl 0 rfl) ?_
            refine va_get (D := (dC, dI)) (ci := 8) (v := .ref a0_15) (C := RX8) (T := TX8) (N := 40) hx hb hts zi_X8_judge_8 hown hK hP 0 rfl rfl 15 (by decide) (hts (.fieldLink RX8 20 "WaxTurnsModel" "\x72" "[I") (List.mem_cons_of_mem _ (List.mem_append_left _ (List.mem_of_getElem? (i := 1) rfl)))) (fun _ h9 => h9) rfl dX8_judge_76 ?_
            refine lv_bipush (v := 36) hx hb dX8_judge_79 zk_bipush_36 ?_
            refine lv_iconst (v := 2) hx hb dX8_judge_81 zk_iconst_2 ?_
            refine lv_iload_n hx hb dX8_judge_82 rfl (lv_at hl 1 rfl) ?_
            refine lv_imul hx hb dX8_judge_83 ?_
            refine ax_ti x60 ex60.symm ?_
            refine lv_iadd hx hb dX8_judge_84 ?_
            refine ax_ti x61 ex61.symm ?_
            refine va_iald hx hb hK hP 1 0 rfl rfl (ai_in bx61.1 bx61.2 (by decide) (by decide)) dX8_judge_85 ?_
            refine lv_topi (fun x85 ex85 => ?_)
            have bx85 : (0 : Int) ≤ x85.toInt ∧ x85.toInt ≤ 999 := by rw [ex85]; exact ai_rd bfa0_15.2.2.2.2.2.2.2.2.2.2 bx61.1 bx61.2 (by decide) (by decide) (by decide)
            refine lv_icmp_eq (tgt := 91) hx hb dX8_judge_86 (by decide) (fun c86 => ?_) (fun c86 => ?_)
            · have gc86 := ai_eq c86
              have u86t_r72 : r72.toInt ≤ (8 : Int) := ur72
              have l86t_r72 : (0 : Int) ≤ r72.toInt := lr72
              have u86t_x85 : x85.toInt ≤ (8 : Int) := Int.le_trans (Int.le_of_eq gc86.symm) ur72
              have l86t_x85 : (0 : Int) ≤ x85.toInt := bx85.1
              obtain ⟨x91, ex91⟩ : ∃ y : Int32, y = j19l1 + Int32.ofInt 1 := ⟨_, rfl⟩
              have qx91 : x91.toInt = j19l1.toInt + 1 := ai_inc ex91 (by decide) (by decide) u27f_j19l1 (by decide)
              have bx91 : (1 : Int) ≤ x91.toInt ∧ x91.toInt ≤ 6 := ⟨by rw [qx91]; exact Int.add_le_add bj19l1_l (Int.le_refl _), by rw [qx91]; exact Int.add_le_add u27f_j19l1 (Int.le_refl _)⟩
              refine lv_iinc (v := x91) (lv' := [(1, .int x91), (0, .ref a0)]) hx hb dX8_judge_91 hl (k := 1) rfl ex91.symm (by decide) rfl (fun ls hl => ?_)
              refine lv_goto (tgt := 19) hx hb dX8_judge_94 (by decide) ?_
              exact (hK0 _ _ _).mp (ih19 x91 v72nfa0_34 _ _ _ (by have h0 := qx91; omega) (Int.le_trans zq4 bx91.1) bx91.2 hP hD hS (lv_sub hl [1, 0] rfl))
            · have gc86 := ai_ne c86
              refine lv_iload_n hx hb dX8_judge_89 rfl (lv_at hl 1 rfl) ?_
              exact W.iret (v := j19l1) hx hb hr (fun t ht hW => ⟨⟨j19l1, (), rfl, ⟨(Int.le_trans zq75 bj19l1_l), u27f_j19l1⟩, v1na0_0, v1na0_11, v72nfa0_34, by rw [ht]; exact hP, va_K.moved hW.alike hK, hD⟩, hS.F ht⟩) hS.2.2 dX8_judge_90
    exact (hK0 _ _ _).mp (J19 7 0 fa0_34 _ _ _ (by have h1 : (0 : Int) ≤ (0 : Int32).toInt := zq5; have h2 : (0 : Int32).toInt ≤ (0 : Int) := zq6; omega) zq5 (Int.le_trans zq6 zq17) hP hD hS (lv_sub hl [1, 0] rfl))
  · have gc8 := ai_eq c8
    have u8f_a0_14 : a0_14.toInt ≤ (0 : Int) := Int.le_trans (Int.le_of_eq gc8) zq6
    have l8f_a0_14 : (1 : Int) ≤ a0_14.toInt := ba0_14_l
    exact absurd (Int.le_trans l8f_a0_14 u8f_a0_14) (by decide)

set_option maxHeartbeats 4000000 in
set_option maxRecDepth 100000 in
theorem c_X8_lawsLike (l : Launch) (dC : Nat → ClassId) (dI : Nat → Nat → Nat) (sz : Nat) (a0 : Nat) (a0_0 : Int32) (a0g_1 a0g_2 a0g_3 a0g_4 a0g_5 a0g_6 a0g_7 a0g_8 a0g_9 a0g_10 a0g_12 a0g_13 a0g_16 a0g_17 a0g_18 a0g_19 a0g_20 a0g_21 a0g_22 a0g_23 a0g_24 a0g_25 a0g_26 a0g_27 a0g_28 a0g_29 a0g_30 a0g_31 a0g_32 a0g_33 a0g_35 a0g_36 a0g_37 a0g_38 a0g_39 : Value) (a0_11 : Int32) (a0_14 : Int32) (a0_15 : Nat) (a0_34 : Nat) (ka0_15 : ClassId) (fa0_15 : Nat → Int32) (ka0_34 : ClassId) (fa0_34 : Nat → Int32) (ba0_14_l : (1 : Int) ≤ a0_14.toInt) (ba0_14_u : a0_14.toInt ≤ (1 : Int)) (bfa0_15 : ((∀ k : Nat, 0 ≤ k → k ≤ 0 → (2 : Int) ≤ (fa0_15 k).toInt ∧ (fa0_15 k).toInt ≤ 9) ∧ (∀ k : Nat, 1 ≤ k → k ≤ 1 → (1 : Int) ≤ (fa0_15 k).toInt ∧ (fa0_15 k).toInt ≤ 20) ∧ (∀ k : Nat, 2 ≤ k → k ≤ 2 → (0 : Int) ≤ (fa0_15 k).toInt ∧ (fa0_15 k).toInt ≤ 8) ∧ (∀ k : Nat, 3 ≤ k → k ≤ 3 → (0 : Int) ≤ (fa0_15 k).toInt ∧ (fa0_15 k).toInt ≤ 100) ∧ (∀ k : Nat, 4 ≤ k → k ≤ 4 → (0 : Int) ≤ (fa0_15 k).toInt ∧ (fa0_15 k).toInt ≤ 9) ∧ (∀ k : Nat, 5 ≤ k → k ≤ 5 → (0 : Int) ≤ (fa0_15 k).toInt ∧ (fa0_15 k).toInt ≤ 3) ∧ (∀ k : Nat, 6 ≤ k → k ≤ 6 → (0 : Int) ≤ (fa0_15 k).toInt ∧ (fa0_15 k).toInt ≤ 6) ∧ (∀ k : Nat, 7 ≤ k → k ≤ 9 → (0 : Int) ≤ (fa0_15 k).toInt ∧ (fa0_15 k).toInt ≤ 8) ∧ (∀ k : Nat, 12 ≤ k → k ≤ 29 → (0 : Int) ≤ (fa0_15 k).toInt ∧ (fa0_15 k).toInt ≤ 20) ∧ (∀ k : Nat, 30 ≤ k → k ≤ 35 → (0 : Int) ≤ (fa0_15 k).toInt ∧ (fa0_15 k).toInt ≤ 8) ∧ (∀ k : Nat, 36 ≤ k → k ≤ 47 → (0 : Int) ≤ (fa0_15 k).toInt ∧ (fa0_15 k).toInt ≤ 999))) : Met l yX8_lawsLike wsX8_lawsLike ({ frames := 2, cells := 0, slots := 0, locals := 50 }) (va_Pc [.ref a0] (ax_C dC dI sz [(a0, .inr (8, [Value.int a0_0, a0g_1, a0g_2, a0g_3, a0g_4, a0g_5, a0g_6, a0g_7, a0g_8, a0g_9, a0g_10, Value.int a0_11, a0g_12, a0g_13, Value.int a0_14, Value.ref a0_15, a0g_16, a0g_17, a0g_18, a0g_19, a0g_20, a0g_21, a0g_22, a0g_23, a0g_24, a0g_25, a0g_26, a0g_27, a0g_28, a0g_29, a0g_30, a0g_31, a0g_32, a0g_33, Value.ref a0_34, a0g_35, a0g_36, a0g_37, a0g_38, a0g_39])), (a0_15, .inl (ka0_15, 156, .inl (fa0_15))), (a0_34, .inl (ka0_34, 9, .inl (fa0_34)))] [(ka0_15, .int), (ka0_34, .int)] (fun _ => True))) (va_Qi (fun (r : Int32) (_ : Unit) => True) (fun (_ : Unit) (t : State) => ∃ na0_0 : Int32, ∃ na0_11 : Int32, ∃ nfa0_34 : Nat → Int32, ax_B dC dI (va_A [(a0, .inr (8, [Value.int a0_0, a0g_1, a0g_2, a0g_3, a0g_4, a0g_5, a0g_6, a0g_7, a0g_8, a0g_9, a0g_10, Value.int a0_11, a0g_12, a0g_13, Value.int a0_14, Value.ref a0_15, a0g_16, a0g_17, a0g_18, a0g_19, a0g_20, a0g_21, a0g_22, a0g_23, a0g_24, a0g_25, a0g_26, a0g_27, a0g_28, a0g_29, a0g_30, a0g_31, a0g_32, a0g_33, Value.ref a0_34, a0g_35, a0g_36, a0g_37, a0g_38, a0g_39])), (a0_15, .inl (ka0_15, 156, .inl (fa0_15))), (a0_34, .inl (ka0_34, 9, .inl (fa0_34)))] sz) [(a0, .inr (8, [Value.int na0_0, a0g_1, a0g_2, a0g_3, a0g_4, a0g_5, a0g_6, a0g_7, a0g_8, a0g_9, a0g_10, Value.int na0_11, a0g_12, a0g_13, Value.int a0_14, Value.ref a0_15, a0g_16, a0g_17, a0g_18, a0g_19, a0g_20, a0g_21, a0g_22, a0g_23, a0g_24, a0g_25, a0g_26, a0g_27, a0g_28, a0g_29, a0g_30, a0g_31, a0g_32, a0g_33, Value.ref a0_34, a0g_35, a0g_36, a0g_37, a0g_38, a0g_39])), (a0_15, .inl (ka0_15, 156, .inl (fa0_15))), (a0_34, .inl (ka0_34, 9, .inl (nfa0_34)))] [(ka0_15, .int), (ka0_34, .int)] t) (va_A [(a0, .inr (8, [Value.int a0_0, a0g_1, a0g_2, a0g_3, a0g_4, a0g_5, a0g_6, a0g_7, a0g_8, a0g_9, a0g_10, Value.int a0_11, a0g_12, a0g_13, Value.int a0_14, Value.ref a0_15, a0g_16, a0g_17, a0g_18, a0g_19, a0g_20, a0g_21, a0g_22, a0g_23, a0g_24, a0g_25, a0g_26, a0g_27, a0g_28, a0g_29, a0g_30, a0g_31, a0g_32, a0g_33, Value.ref a0_34, a0g_35, a0g_36, a0g_37, a0g_38, a0g_39])), (a0_15, .inl (ka0_15, 156, .inl (fa0_15))), (a0_34, .inl (ka0_34, 9, .inl (fa0_34)))] sz)) 0 0 (va_A [(a0, .inr (8, [Value.int a0_0, a0g_1, a0g_2, a0g_3, a0g_4, a0g_5, a0g_6, a0g_7, a0g_8, a0g_9, a0g_10, Value.int a0_11, a0g_12, a0g_13, Value.int a0_14, Value.ref a0_15, a0g_16, a0g_17, a0g_18, a0g_19, a0g_20, a0g_21, a0g_22, a0g_23, a0g_24, a0g_25, a0g_26, a0g_27, a0g_28, a0g_29, a0g_30, a0g_31, a0g_32, a0g_33, Value.ref a0_34, a0g_35, a0g_36, a0g_37, a0g_38, a0g_39])), (a0_15, .inl (ka0_15, 156, .inl (fa0_15))), (a0_34, .inl (ka0_34, 9, .inl (fa0_34)))] sz) := by
  refine Met.ofW (cc := cX8_lawsLike) (maxL := 5) (ret := (some .int)) (by decide) rfl ?_
  intro p e s m args below meth c s₁ B hml hv
  obtain ⟨rfl, hsz, hP, hK, hD0, hE⟩ := hv
  have hx := B.exec
  have hb := B.bytes
  have hr := B.returns
  have hts := atoms_spec (ws := wsX8_lawsLike) B.pre
  have hown : s.vm.findClass RX8 = some m.cls := findClass_of_methodNamed B.named
  have hlocks := B.notSynchronized
  subst hsz
  have hD := hD0.self (sz := s.heap.size)
  generalize hAe : va_A [(a0, .inr (8, [Value.int a0_0, a0g_1, a0g_2, a0g_3, a0g_4, a0g_5, a0g_6, a0g_7, a0g_8, a0g_9, a0g_10, Value.int a0_11, a0g_12, a0g_13, Value.int a0_14, Value.ref a0_15, a0g_16, a0g_17, a0g_18, a0g_19, a0g_20, a0g_21, a0g_22, a0g_23, a0g_24, a0g_25, a0g_26, a0g_27, a0g_28, a0g_29, a0g_30, a0g_31, a0g_32, a0g_33, Value.ref a0_34, a0g_35, a0g_36, a0g_37, a0g_38, a0g_39])), (a0_15, .inl (ka0_15, 156, .inl (fa0_15))), (a0_34, .inl (ka0_34, 9, .inl (fa0_34)))] s.heap.size = A at hD ⊢
  have hA : ∀ q : Nat, s.heap.size ≤ q → A q := fun q h => by rw [← hAe]; exact Or.inr h
  have hS : va_S A s.heap s.heap [] := va_S.rf
  have hP : va_P (dC, dI) vwCl [(a0, .inr (8, [Value.int a0_0, a0g_1, a0g_2, a0g_3, a0g_4, a0g_5, a0g_6, a0g_7, a0g_8, a0g_9, a0g_10, Value.int a0_11, a0g_12, a0g_13, Value.int a0_14, Value.ref a0_15, a0g_16, a0g_17, a0g_18, a0g_19, a0g_20, a0g_21, a0g_22, a0g_23, a0g_24, a0g_25, a0g_26, a0g_27, a0g_28, a0g_29, a0g_30, a0g_31, a0g_32, a0g_33, Value.ref a0_34, a0g_35, a0g_36, a0g_37, a0g_38, a0g_39])), (a0_15, .inl (ka0_15, 156, .inl (fa0_15))), (a0_34, .inl (ka0_34, 9, .inl (fa0_34)))] s.heap := hP
  have hl := lv_entry ([.ref a0]) (n := 5) (Nat.le_of_ble_eq_true rfl)
  rw [lg_entry_eq]
  generalize (lg_sl ([.ref a0]) ++ List.replicate (5 - (lg_sl ([.ref a0])).length) Slot.unset).toArray = ls at hl ⊢
  have hl : lv_has ls 5 [(0, .ref a0)] := hl
  refine ai_open (fun K hK0 => ?_)
  refine (hK0 _ _ _).mpr ?_
  refine lv_aload_n hx hb dX8_lawsLike_0 rfl (lv_at hl 0 rfl) ?_
  obtain ⟨hPc, hDc, hFc, hCc⟩ := zc_cut (wc := [(a0, .inr (8, [Value.int a0_0, a0g_1, a0g_2, a0g_3, a0g_4, a0g_5, a0g_6, a0g_7, a0g_8, a0g_9, a0g_10, Value.int a0_11, a0g_12, a0g_13, Value.int a0_14, Value.ref a0_15, a0g_16, a0g_17, a0g_18, a0g_19, a0g_20, a0g_21, a0g_22, a0g_23, a0g_24, a0g_25, a0g_26, a0g_27, a0g_28, a0g_29, a0g_30, a0g_31, a0g_32, a0g_33, Value.ref a0_34, a0g_35, a0g_36, a0g_37, a0g_38, a0g_39]))]) hP hD hS hA [0] (by decide +kernel) rfl
  have hKc := hK.sub (tys' := []) [] rfl
  refine va_callv (va_runV (As := []) (rest := []) ⟨hx, hb, hml, hown, hts⟩ (c_X8_good l dC dI s.heap.size a0 a0_0 a0g_1 a0g_2 a0g_3 a0g_4 a0g_5 a0g_6 a0g_7 a0g_8 a0g_9 a0g_10 a0g_12 a0g_13 (Value.int a0_14) (Value.ref a0_15) a0g_16 a0g_17 a0g_18 a0g_19 a0g_20 a0g_21 a0g_22 a0g_23 a0g_24 a0g_25 a0g_26 a0g_27 a0g_28 a0g_29 a0g_30 a0g_31 a0g_32 a0g_33 (Value.ref a0_34) a0g_35 a0g_36 a0g_37 a0g_38 a0g_39 a0_11 ) (cwV 0 hts gX8_lawsLike_X8_good rfl rfl rfl zd_X8_good ⟨Nat.le_of_ble_eq_true rfl, Nat.le_of_ble_eq_true rfl⟩) ⟨ax_blind (fun _ _ _ _ _ => trivial), zr_8 hKc hPc (q0 := 0) rfl, ax_pre hPc hKc hDc (fun _ _ => trivial)⟩ rfl rfl hl.1 rfl (lv_room (Nat.le_of_ble_eq_true rfl)) dX8_lawsLike_1 ⟨Nat.le_of_ble_eq_true rfl, Nat.le_of_ble_eq_true rfl⟩) hS (fun q _ h => hFc q h) hFc (fun u t H locs ht hvm hw hB hz1 hk1 hS => ?_)
  obtain ⟨v1na0_0, v1na0_11, hP1, hK1, hD1⟩ := hB
  rw [ht] at hP1
  obtain ⟨hP, hD⟩ := zc_back (w := [(a0, .inr (8, [Value.int v1na0_0, a0g_1, a0g_2, a0g_3, a0g_4, a0g_5, a0g_6, a0g_7, a0g_8, a0g_9, a0g_10, Value.int v1na0_11, a0g_12, a0g_13, Value.int a0_14, Value.ref a0_15, a0g_16, a0g_17, a0g_18, a0g_19, a0g_20, a0g_21, a0g_22, a0g_23, a0g_24, a0g_25, a0g_26, a0g_27, a0g_28, a0g_29, a0g_30, a0g_31, a0g_32, a0g_33, Value.ref a0_34, a0g_35, a0g_36, a0g_37, a0g_38, a0g_39])), (a0_15, .inl (ka0_15, 156, .inl (fa0_15))), (a0_34, .inl (ka0_34, 9, .inl (fa0_34)))]) hP hD hCc hk1 hFc hP1 hD1 [.inr 0, .inl 1, .inl 2] (by decide +kernel) rfl
  refine lv_aload_n hx hb dX8_lawsLike_4 rfl (lv_at hl 0 rfl) ?_
  refine va_get (D := (dC, dI)) (ci := 8) (v := .int a0_14) (C := RX8) (T := TX8) (N := 40) hx hb hts zi_X8_lawsLike_8 hown hK hP 0 rfl rfl 14 (by decide) (hts (.fieldLink RX8 173 "WaxTurnsModel" "hasGallery" "Z") (zm_X8_lawsLike_r1 (List.mem_of_getElem? (i := 0) rfl))) (fun _ h9 => h9) rfl dX8_lawsLike_5 ?_
  refine lv_if_ne (tgt := 17) hx hb dX8_lawsLike_8 (by decide) (fun c8 => ?_) (fun c8 => ?_)
  · have gc8 := ai_ne c8
    refine lv_iconst (v := 0) hx hb dX8_lawsLike_17 zk_iconst_0 ?_
    refine lv_istore_n (lv' := [(1, .int 0), (0, .ref a0)]) hx hb dX8_lawsLike_18 rfl hl (by decide) rfl (fun ls hl => ?_)
    refine lv_iconst (v := 0) hx hb dX8_lawsLike_19 zk_iconst_0 ?_
    refine lv_istore_n (lv' := [(2, .int 0), (1, .int 0), (0, .ref a0)]) hx hb dX8_lawsLike_20 rfl hl (by decide) rfl (fun ls hl => ?_)
    have J21 : ∀ (n : Nat) (j21l2 : Int32) (j21l1 : Int32) (j21a0_34_a : Nat → Int32) (H : Heap) (locs : List Loc) (ls : Array Slot), (730 : Int) - j21l2.toInt ≤ (n : Int) → (0 : Int) ≤ j21l2.toInt → j21l2.toInt ≤ (729 : Int) → va_P (dC, dI) vwCl [(a0, .inr (8, [Value.int v1na0_0, a0g_1, a0g_2, a0g_3, a0g_4, a0g_5, a0g_6, a0g_7, a0g_8, a0g_9, a0g_10, Value.int v1na0_11, a0g_12, a0g_13, Value.int a0_14, Value.ref a0_15, a0g_16, a0g_17, a0g_18, a0g_19, a0g_20, a0g_21, a0g_22, a0g_23, a0g_24, a0g_25, a0g_26, a0g_27, a0g_28, a0g_29, a0g_30, a0g_31, a0g_32, a0g_33, Value.ref a0_34, a0g_35, a0g_36, a0g_37, a0g_38, a0g_39])), (a0_15, .inl (ka0_15, 156, .inl (fa0_15))), (a0_34, .inl (ka0_34, 9, .inl (j21a0_34_a)))] H → va_D A [(a0, .inr (8, [Value.int v1na0_0, a0g_1, a0g_2, a0g_3, a0g_4, a0g_5, a0g_6, a0g_7, a0g_8, a0g_9, a0g_10, Value.int v1na0_11, a0g_12, a0g_13, Value.int a0_14, Value.ref a0_15, a0g_16, a0g_17, a0g_18, a0g_19, a0g_20, a0g_21, a0g_22, a0g_23, a0g_24, a0g_25, a0g_26, a0g_27, a0g_28, a0g_29, a0g_30, a0g_31, a0g_32, a0g_33, Value.ref a0_34, a0g_35, a0g_36, a0g_37, a0g_38, a0g_39])), (a0_15, .inl (ka0_15, 156, .inl (fa0_15))), (a0_34, .inl (ka0_34, 9, .inl (j21a0_34_a)))] → va_S A s.heap H locs → lv_has ls 5 [(0, .ref a0), (1, .int j21l1), (2, .int j21l2)] → K H locs (F0 m 21 ls []) := by
      intro n
      induction n with
      | zero =>
        intro j21l2 j21l1 j21a0_34_a H locs ls hm bj21l2_l bj21l2_u hP hD hS hl
        have h8 := ai_min j21l2
        have h9 := ai_max j21l2
        exact absurd hm (by omega)
      | succ n ih21 =>
        intro j21l2 j21l1 j21a0_34_a H locs ls hm bj21l2_l bj21l2_u hP hD hS hl
        refine (hK0 _ _ _).mpr ?_
        have hm21 := hm
        refine lv_iload_n hx hb dX8_lawsLike_21 rfl (lv_at hl 2 rfl) ?_
        refine lv_aload_n hx hb dX8_lawsLike_22 rfl (lv_at hl 0 rfl) ?_
        obtain ⟨hPc, hDc, hFc, hCc⟩ := zc_cut (wc := [(a0, .inr (8, [Value.int v1na0_0, a0g_1, a0g_2, a0g_3, a0g_4, a0g_5, a0g_6, a0g_7, a0g_8, a0g_9, a0g_10, Value.int v1na0_11, a0g_12, a0g_13, Value.int a0_14, Value.ref a0_15, a0g_16, a0g_17, a0g_18, a0g_19, a0g_20, a0g_21, a0g_22, a0g_23, a0g_24, a0g_25, a0g_26, a0g_27, a0g_28, a0g_29, a0g_30, a0g_31, a0g_32, a0g_33, Value.ref a0_34, a0g_35, a0g_36, a0g_37, a0g_38, a0g_39])), (a0_15, .inl (ka0_15, 156, .inl (fa0_15)))]) hP hD hS hA [0, 1] (by decide +kernel) rfl
        have hKc := hK.sub (tys' := [(ka0_15, .int)]) [0] rfl
        refine va_calli (va_runV (As := []) (rest := [.int j21l2]) ⟨hx, hb, hml, hown, hts⟩ (c_X8_codes l dC dI H.size a0 (Value.int v1na0_0) a0g_1 a0g_2 a0g_3 a0g_4 a0g_5 a0g_6 a0g_7 a0g_8 a0g_9 a0g_10 (Value.int v1na0_11) a0g_12 a0g_13 (Value.int a0_14) a0g_16 a0g_17 a0g_18 a0g_19 a0g_20 a0g_21 a0g_22 a0g_23 a0g_24 a0g_25 a0g_26 a0g_27 a0g_28 a0g_29 a0g_30 a0g_31 a0g_32 a0g_33 (Value.ref a0_34) a0g_35 a0g_36 a0g_37 a0g_38 a0g_39 a0_15 ka0_15 fa0_15 bfa0_15) (cwV 0 hts gX8_lawsLike_X8_codes rfl rfl rfl zd_X8_codes ⟨Nat.le_of_ble_eq_true rfl, Nat.le_of_ble_eq_true rfl⟩) ⟨ax_blind (fun _ _ _ _ _ => trivial), zr_8 hKc hPc (q0 := 0) rfl, ax_pre hPc hKc hDc (fun _ _ => trivial)⟩ rfl rfl hl.1 rfl (lv_room (Nat.le_of_ble_eq_true rfl)) dX8_lawsLike_23 ⟨Nat.le_of_ble_eq_true rfl, Nat.le_of_ble_eq_true rfl⟩) hS (fun q _ h => hFc q h) hFc (fun r23 u t H locs ht hvm hw hB hz1 hk1 hS => ?_)
        obtain ⟨hP1, hK1, hD1⟩ := hB
        rw [ht] at hP1
        obtain ⟨hP, hD⟩ := zc_back (w := [(a0, .inr (8, [Value.int v1na0_0, a0g_1, a0g_2, a0g_3, a0g_4, a0g_5, a0g_6, a0g_7, a0g_8, a0g_9, a0g_10, Value.int v1na0_11, a0g_12, a0g_13, Value.int a0_14, Value.ref a0_15, a0g_16, a0g_17, a0g_18, a0g_19, a0g_20, a0g_21, a0g_22, a0g_23, a0g_24, a0g_25, a0g_26, a0g_27, a0g_28, a0g_29, a0g_30, a0g_31, a0g_32, a0g_33, Value.ref a0_34, a0g_35, a0g_36, a0g_37, a0g_38, a0g_39])), (a0_15, .inl (ka0_15, 156, .inl (fa0_15))), (a0_34, .inl (ka0_34, 9, .inl (j21a0_34_a)))]) hP hD hCc hk1 hFc hP1 hD1 [.inr 0, .inr 1, .inl 2] (by decide +kernel) rfl
        have hw : (8 : Int) ≤ r23.toInt ∧ r23.toInt ≤ (729 : Int) := hw
        obtain ⟨h23_0, h23_1⟩ := hw
        refine lv_icmp_ge (tgt := 112) hx hb dX8_lawsLike_26 (by decide) (fun c26 => ?_) (fun c26 => ?_)
        · have gc26 := ai_le c26
          have u26t_r23 : r23.toInt ≤ (729 : Int) := h23_1
          have l26t_j21l2 : (8 : Int) ≤ j21l2.toInt := Int.le_trans h23_0 gc26
          refine lv_iload_n hx hb dX8_lawsLike_112 rfl (lv_at hl 1 rfl) ?_
          exact W.iret (v := j21l1) hx hb hr (fun t ht hW => ⟨⟨j21l1, (), rfl, trivial, v1na0_0, v1na0_11, j21a0_34_a, by rw [ht]; exact hP, va_K.moved hW.alike hK, hD⟩, hS.F ht⟩) hS.2.2 dX8_lawsLike_113
        · have gc26 := ai_nle c26
          have u26f_j21l2 : j21l2.toInt ≤ (728 : Int) := ai_lthi gc26 h23_1
          have l26f_r23 : (8 : Int) ≤ r23.toInt := h23_0
          refine lv_iconst (v := 1) hx hb dX8_lawsLike_29 zk_iconst_1 ?_
          refine lv_istore_n (lv' := [(3, .int 1), (0, .ref a0), (1, .int j21l1), (2, .int j21l2)]) hx hb dX8_lawsLike_30 rfl hl (by decide) rfl (fun ls hl => ?_)
          refine lv_iconst (v := 0) hx hb dX8_lawsLike_31 zk_iconst_0 ?_
          refine lv_istore (lv' := [(4, .int 0), (3, .int 1), (0, .ref a0), (1, .int j21l1), (2, .int j21l2)]) hx hb dX8_lawsLike_32 hl (by decide) rfl (fun ls hl => ?_)
          have J34 : ∀ (n : Nat) (j34l4 : Int32) (j34l3 : Int32) (j34a0_34_a : Nat → Int32) (H : Heap) (locs : List Loc) (ls : Array Slot), (21 : Int) - j34l4.toInt ≤ (n : Int) → (0 : Int) ≤ j34l4.toInt → j34l4.toInt ≤ (20 : Int) → (0 : Int) ≤ j34l3.toInt → j34l3.toInt ≤ (1 : Int) → va_P (dC, dI) vwCl [(a0, .inr (8, [Value.int v1na0_0, a0g_1, a0g_2, a0g_3, a0g_4, a0g_5, a0g_6, a0g_7, a0g_8, a0g_9, a0g_10, Value.int v1na0_11, a0g_12, a0g_13, Value.int a0_14, Value.ref a0_15, a0g_16, a0g_17, a0g_18, a0g_19, a0g_20, a0g_21, a0g_22, a0g_23, a0g_24, a0g_25, a0g_26, a0g_27, a0g_28, a0g_29, a0g_30, a0g_31, a0g_32, a0g_33, Value.ref a0_34, a0g_35, a0g_36, a0g_37, a0g_38, a0g_39])), (a0_15, .inl (ka0_15, 156, .inl (fa0_15))), (a0_34, .inl (ka0_34, 9, .inl (j34a0_34_a)))] H → va_D A [(a0, .inr (8, [Value.int v1na0_0, a0g_1, a0g_2, a0g_3, a0g_4, a0g_5, a0g_6, a0g_7, a0g_8, a0g_9, a0g_10, Value.int v1na0_11, a0g_12, a0g_13, Value.int a0_14, Value.ref a0_15, a0g_16, a0g_17, a0g_18, a0g_19, a0g_20, a0g_21, a0g_22, a0g_23, a0g_24, a0g_25, a0g_26, a0g_27, a0g_28, a0g_29, a0g_30, a0g_31, a0g_32, a0g_33, Value.ref a0_34, a0g_35, a0g_36, a0g_37, a0g_38, a0g_39])), (a0_15, .inl (ka0_15, 156, .inl (fa0_15))), (a0_34, .inl (ka0_34, 9, .inl (j34a0_34_a)))] → va_S A s.heap H locs → lv_has ls 5 [(0, .ref a0), (1, .int j21l1), (2, .int j21l2), (3, .int j34l3), (4, .int j34l4)] → K H locs (F0 m 34 ls []) := by
            intro n
            induction n with
            | zero =>
              intro j34l4 j34l3 j34a0_34_a H locs ls hm bj34l4_l bj34l4_u bj34l3_l bj34l3_u hP hD hS hl
              have h8 := ai_min j34l4
              have h9 := ai_max j34l4
              exact absurd hm (by omega)
            | succ n ih34 =>
              intro j34l4 j34l3 j34a0_34_a H locs ls hm bj34l4_l bj34l4_u bj34l3_l bj34l3_u hP hD hS hl
              refine (hK0 _ _ _).mpr ?_
              have hm34 := hm
              refine lv_iload hx hb dX8_lawsLike_34 (lv_at hl 4 rfl) ?_
              refine lv_bipush (v := 20) hx hb dX8_lawsLike_36 zk_bipush_20 ?_
              have J94 : ∀ (H : Heap) (locs : List Loc) (ls : Array Slot), va_P (dC, dI) vwCl [(a0, .inr (8, [Value.int v1na0_0, a0g_1, a0g_2, a0g_3, a0g_4, a0g_5, a0g_6, a0g_7, a0g_8, a0g_9, a0g_10, Value.int v1na0_11, a0g_12, a0g_13, Value.int a0_14, Value.ref a0_15, a0g_16, a0g_17, a0g_18, a0g_19, a0g_20, a0g_21, a0g_22, a0g_23, a0g_24, a0g_25, a0g_26, a0g_27, a0g_28, a0g_29, a0g_30, a0g_31, a0g_32, a0g_33, Value.ref a0_34, a0g_35, a0g_36, a0g_37, a0g_38, a0g_39])), (a0_15, .inl (ka0_15, 156, .inl (fa0_15))), (a0_34, .inl (ka0_34, 9, .inl (j34a0_34_a)))] H → va_D A [(a0, .inr (8, [Value.int v1na0_0, a0g_1, a0g_2, a0g_3, a0g_4, a0g_5, a0g_6, a0g_7, a0g_8, a0g_9, a0g_10, Value.int v1na0_11, a0g_12, a0g_13, Value.int a0_14, Value.ref a0_15, a0g_16, a0g_17, a0g_18, a0g_19, a0g_20, a0g_21, a0g_22, a0g_23, a0g_24, a0g_25, a0g_26, a0g_27, a0g_28, a0g_29, a0g_30, a0g_31, a0g_32, a0g_33, Value.ref a0_34, a0g_35, a0g_36, a0g_37, a0g_38, a0g_39])), (a0_15, .inl (ka0_15, 156, .inl (fa0_15))), (a0_34, .inl (ka0_34, 9, .inl (j34a0_34_a)))] → va_S A s.heap H locs → lv_has ls 5 [(0, .ref a0), (1, .int j21l1), (2, .int j21l2), (3, .int j34l3)] → K H locs (F0 m 94 ls []) := by
                intro  H locs ls   hP hD hS hl
                refine (hK0 _ _ _).mpr ?_
                refine lv_iload_n hx hb dX8_lawsLike_94 rfl (lv_at hl 1 rfl) ?_
                refine lv_iload_n hx hb dX8_lawsLike_95 rfl (lv_at hl 3 rfl) ?_
                have J104 : ∀ (j104s0 : Int32) (H : Heap) (locs : List Loc) (ls : Array Slot), (0 : Int) ≤ j104s0.toInt → j104s0.toInt ≤ (1 : Int) → va_P (dC, dI) vwCl [(a0, .inr (8, [Value.int v1na0_0, a0g_1, a0g_2, a0g_3, a0g_4, a0g_5, a0g_6, a0g_7, a0g_8, a0g_9, a0g_10, Value.int v1na0_11, a0g_12, a0g_13, Value.int a0_14, Value.ref a0_15, a0g_16, a0g_17, a0g_18, a0g_19, a0g_20, a0g_21, a0g_22, a0g_23, a0g_24, a0g_25, a0g_26, a0g_27, a0g_28, a0g_29, a0g_30, a0g_31, a0g_32, a0g_33, Value.ref a0_34, a0g_35, a0g_36, a0g_37, a0g_38, a0g_39])), (a0_15, .inl (ka0_15, 156, .inl (fa0_15))), (a0_34, .inl (ka0_34, 9, .inl (j34a0_34_a)))] H → va_D A [(a0, .inr (8, [Value.int v1na0_0, a0g_1, a0g_2, a0g_3, a0g_4, a0g_5, a0g_6, a0g_7, a0g_8, a0g_9, a0g_10, Value.int v1na0_11, a0g_12, a0g_13, Value.int a0_14, Value.ref a0_15, a0g_16, a0g_17, a0g_18, a0g_19, a0g_20, a0g_21, a0g_22, a0g_23, a0g_24, a0g_25, a0g_26, a0g_27, a0g_28, a0g_29, a0g_30, a0g_31, a0g_32, a0g_33, Value.ref a0_34, a0g_35, a0g_36, a0g_37, a0g_38, a0g_39])), (a0_15, .inl (ka0_15, 156, .inl (fa0_15))), (a0_34, .inl (ka0_34, 9, .inl (j34a0_34_a)))] → va_S A s.heap H locs → lv_has ls 5 [(0, .ref a0), (2, .int j21l2)] → K H locs (F0 m 104 ls [.int j104s0, .int j21l1]) := by
                  intro j104s0 H locs ls  bj104s0_l bj104s0_u hP hD hS hl
                  refine (hK0 _ _ _).mpr ?_
                  refine lv_iadd hx hb dX8_lawsLike_104 ?_
                  refine lv_topi (fun x104 ex104 => ?_)
                  refine lv_istore_n (lv' := [(1, .int x104), (0, .ref a0), (2, .int j21l2)]) hx hb dX8_lawsLike_105 rfl hl (by decide) rfl (fun ls hl => ?_)
                  obtain ⟨x106, ex106⟩ : ∃ y : Int32, y = j21l2 + Int32.ofInt 1 := ⟨_, rfl⟩
                  have qx106 : x106.toInt = j21l2.toInt + 1 := ai_inc ex106 (by decide) (by decide) u26f_j21l2 (by decide)
                  have bx106 : (1 : Int) ≤ x106.toInt ∧ x106.toInt ≤ 729 := ⟨by rw [qx106]; exact Int.add_le_add bj21l2_l (Int.le_refl _), by rw [qx106]; exact Int.add_le_add u26f_j21l2 (Int.le_refl _)⟩
                  refine lv_iinc (v := x106) (lv' := [(2, .int x106), (1, .int x104), (0, .ref a0)]) hx hb dX8_lawsLike_106 hl (k := 2) rfl ex106.symm (by decide) rfl (fun ls hl => ?_)
                  refine lv_goto (tgt := 21) hx hb dX8_lawsLike_109 (by decide) ?_
                  exact (hK0 _ _ _).mp (ih21 x106 x104 j34a0_34_a _ _ _ (by have h0 := qx106; omega) (Int.le_trans zq4 bx106.1) bx106.2 hP hD hS (lv_sub hl [2, 1, 0] rfl))
                refine lv_if_eq (tgt := 103) hx hb dX8_lawsLike_96 (by decide) (fun c96 => ?_) (fun c96 => ?_)
                · have gc96 := ai_eq c96
                  have u96t_j34l3 : j34l3.toInt ≤ (0 : Int) := Int.le_trans (Int.le_of_eq gc96) zq6
                  have l96t_j34l3 : (0 : Int) ≤ j34l3.toInt := bj34l3_l
                  refine lv_iconst (v := 0) hx hb dX8_lawsLike_103 zk_iconst_0 ?_
                  exact (hK0 _ _ _).mp (J104 0 _ _ _  zq5 (Int.le_trans zq6 zq4) hP hD hS (lv_sub hl [0, 2] rfl))
                · have gc96 := ai_ne c96
                  have l96f_j34l3 : (1 : Int) ≤ j34l3.toInt := (by have h1 := bj34l3_l; have h2 : (0 : Int32).toInt = 0 := (by decide); rw [h2] at gc96; omega)
                  refine lv_iconst (v := 1) hx hb dX8_lawsLike_99 zk_iconst_1 ?_
                  refine lv_goto (tgt := 104) hx hb dX8_lawsLike_100 (by decide) ?_
                  exact (hK0 _ _ _).mp (J104 1 _ _ _  (Int.le_trans zq4 zq1) zq0 hP hD hS (lv_sub hl [0, 2] rfl))
              refine lv_icmp_ge (tgt := 94) hx hb dX8_lawsLike_38 (by decide) (fun c38 => ?_) (fun c38 => ?_)
              · have gc38 := ai_le c38
                have l38t_j34l4 : (20 : Int) ≤ j34l4.toInt := Int.le_trans zq153 gc38
                exact (hK0 _ _ _).mp (J94  _ _ _   hP hD hS (lv_sub hl [0, 1, 2, 3] rfl))
              · have gc38 := ai_nle c38
                have u38f_j34l4 : j34l4.toInt ≤ (19 : Int) := ai_lthi gc38 zq154
                refine lv_iload_n hx hb dX8_lawsLike_41 rfl (lv_at hl 3 rfl) ?_
                refine lv_if_eq (tgt := 94) hx hb dX8_lawsLike_42 (by decide) (fun c42 => ?_) (fun c42 => ?_)
                · have gc42 := ai_eq c42
                  have u42t_j34l3 : j34l3.toInt ≤ (0 : Int) := Int.le_trans (Int.le_of_eq gc42) zq6
                  have l42t_j34l3 : (0 : Int) ≤ j34l3.toInt := bj34l3_l
                  exact (hK0 _ _ _).mp (J94  _ _ _   hP hD hS (lv_sub hl [0, 1, 2, 3] rfl))
                · have gc42 := ai_ne c42
                  have l42f_j34l3 : (1 : Int) ≤ j34l3.toInt := (by have h1 := bj34l3_l; have h2 : (0 : Int32).toInt = 0 := (by decide); rw [h2] at gc42; omega)
                  refine lv_aload_n hx hb dX8_lawsLike_45 rfl (lv_at hl 0 rfl) ?_
                  refine lv_iload_n hx hb dX8_lawsLike_46 rfl (lv_at hl 2 rfl) ?_
                  refine lv_iload hx hb dX8_lawsLike_47 (lv_at hl 4 rfl) ?_
                  obtain ⟨hPc, hDc, hFc, hCc⟩ := zc_cut (wc := [(a0, .inr (8, [Value.int v1na0_0, a0g_1, a0g_2, a0g_3, a0g_4, a0g_5, a0g_6, a0g_7, a0g_8, a0g_9, a0g_10, Value.int v1na0_11, a0g_12, a0g_13, Value.int a0_14, Value.ref a0_15, a0g_16, a0g_17, a0g_18, a0g_19, a0g_20, a0g_21, a0g_22, a0g_23, a0g_24, a0g_25, a0g_26, a0g_27, a0g_28, a0g_29, a0g_30, a0g_31, a0g_32, a0g_33, Value.ref a0_34, a0g_35, a0g_36, a0g_37, a0g_38, a0g_39])), (a0_15, .inl (ka0_15, 156, .inl (fa0_15))), (a0_34, .inl (ka0_34, 9, .inl (j34a0_34_a)))]) hP hD hS hA [0, 1, 2] (by decide +kernel) rfl
                  have hKc := hK.sub (tys' := [(ka0_15, .int), (ka0_34, .int)]) [0, 1] rfl
                  refine va_calli (va_runV (As := [.int j21l2, .int j34l4]) (rest := []) ⟨hx, hb, hml, hown, hts⟩ (c_X8_byCode l dC dI H.size a0 j21l2 j34l4 (Value.int v1na0_0) a0g_1 a0g_2 a0g_3 a0g_4 a0g_5 a0g_6 a0g_7 a0g_8 a0g_9 a0g_10 (Value.int v1na0_11) a0g_12 a0g_13 (Value.int a0_14) a0g_16 a0g_17 a0g_18 a0g_19 a0g_20 a0g_21 a0g_22 a0g_23 a0g_24 a0g_25 a0g_26 a0g_27 a0g_28 a0g_29 a0g_30 a0g_31 a0g_32 a0g_33 a0g_35 a0g_36 a0g_37 a0g_38 a0g_39 a0_15 a0_34 ka0_15 fa0_15 ka0_34 j34a0_34_a bj21l2_l u26f_j21l2 bj34l4_l (Int.le_trans u38f_j34l4 zq190) bfa0_15) (cwV 2 hts gX8_lawsLike_X8_byCode rfl rfl rfl zd_X8_byCode ⟨Nat.le_of_ble_eq_true rfl, Nat.le_of_ble_eq_true rfl⟩) ⟨ax_blind (fun _ _ _ _ _ => trivial), zr_8 hKc hPc (q0 := 0) rfl, ax_pre hPc hKc hDc (fun _ _ => trivial)⟩ rfl rfl hl.1 rfl (lv_room (Nat.le_of_ble_eq_true rfl)) dX8_lawsLike_49 ⟨Nat.le_of_ble_eq_true rfl, Nat.le_of_ble_eq_true rfl⟩) hS (fun q _ h => hFc q h) hFc (fun r49 u t H locs ht hvm hw hB hz1 hk1 hS => ?_)
                  obtain ⟨v49nfa0_34, hP1, hK1, hD1⟩ := hB
                  rw [ht] at hP1
                  obtain ⟨hP, hD⟩ := zc_back (w := [(a0, .inr (8, [Value.int v1na0_0, a0g_1, a0g_2, a0g_3, a0g_4, a0g_5, a0g_6, a0g_7, a0g_8, a0g_9, a0g_10, Value.int v1na0_11, a0g_12, a0g_13, Value.int a0_14, Value.ref a0_15, a0g_16, a0g_17, a0g_18, a0g_19, a0g_20, a0g_21, a0g_22, a0g_23, a0g_24, a0g_25, a0g_26, a0g_27, a0g_28, a0g_29, a0g_30, a0g_31, a0g_32, a0g_33, Value.ref a0_34, a0g_35, a0g_36, a0g_37, a0g_38, a0g_39])), (a0_15, .inl (ka0_15, 156, .inl (fa0_15))), (a0_34, .inl (ka0_34, 9, .inl (v49nfa0_34)))]) hP hD hCc hk1 hFc hP1 hD1 [.inr 0, .inr 1, .inr 2] (by decide +kernel) rfl
                  rcases hw with hw
                  · obtain ⟨⟨lr49, ur49⟩, mr49⟩ := hw
                    refine lv_aload_n hx hb dX8_lawsLike_52 rfl (lv_at hl 0 rfl) ?_
                    refine lv_aload_n hx hb dX8_lawsLike_53 rfl (lv_at hl 0 rfl) ?_
                    refine va_get (D := (dC, dI)) (ci := 8) (v := .ref a0_15) (C := RX8) (T := TX8) (N := 40) hx hb hts zi_X8_lawsLike_8 hown hK hP 0 rfl rfl 15 (by decide) (hts (.fieldLink RX8 20 "WaxTurnsModel" "\x72" "[I") (zm_X8_lawsLike_r1 (List.mem_of_getElem? (i := 1) rfl))) (fun _ h9 => h9) rfl dX8_lawsLike_54 ?_
                    refine lv_bipush (v := 7) hx hb dX8_lawsLike_57 zk_bipush_7 ?_
                    refine va_iald hx hb hK hP 1 0 rfl rfl (by unfold vp_in; decide +kernel) dX8_lawsLike_59 ?_
                    refine lv_topi (fun x59 ex59 => ?_)
                    have bx59 : (0 : Int) ≤ x59.toInt ∧ x59.toInt ≤ 8 := by rw [ex59]; exact ai_rd bfa0_15.2.2.2.2.2.2.2.1 zq114 zq115 (by decide) (by decide) (by decide)
                    refine lv_aload_n hx hb dX8_lawsLike_60 rfl (lv_at hl 0 rfl) ?_
                    refine va_get (D := (dC, dI)) (ci := 8) (v := .ref a0_15) (C := RX8) (T := TX8) (N := 40) hx hb hts zi_X8_lawsLike_8 hown hK hP 0 rfl rfl 15 (by decide) (hts (.fieldLink RX8 20 "WaxTurnsModel" "\x72" "[I") (zm_X8_lawsLike_r1 (List.mem_of_getElem? (i := 1) rfl))) (fun _ h9 => h9) rfl dX8_lawsLike_61 ?_
                    refine lv_bipush (v := 8) hx hb dX8_lawsLike_64 zk_bipush_8 ?_
                    refine va_iald hx hb hK hP 1 0 rfl rfl (by unfold vp_in; decide +kernel) dX8_lawsLike_66 ?_
                    refine lv_topi (fun x66 ex66 => ?_)
                    have bx66 : (0 : Int) ≤ x66.toInt ∧ x66.toInt ≤ 8 := by rw [ex66]; exact ai_rd bfa0_15.2.2.2.2.2.2.2.1 zq116 zq28 (by decide) (by decide) (by decide)
                    refine lv_aload_n hx hb dX8_lawsLike_67 rfl (lv_at hl 0 rfl) ?_
                    refine va_get (D := (dC, dI)) (ci := 8) (v := .ref a0_15) (C := RX8) (T := TX8) (N := 40) hx hb hts zi_X8_lawsLike_8 hown hK hP 0 rfl rfl 15 (by decide) (hts (.fieldLink RX8 20 "WaxTurnsModel" "\x72" "[I") (zm_X8_lawsLike_r1 (List.mem_of_getElem? (i := 1) rfl))) (fun _ h9 => h9) rfl dX8_lawsLike_68 ?_
                    refine lv_bipush (v := 9) hx hb dX8_lawsLike_71 zk_bipush_9 ?_
                    refine va_iald hx hb hK hP 1 0 rfl rfl (by unfold vp_in; decide +kernel) dX8_lawsLike_73 ?_
                    refine lv_topi (fun x73 ex73 => ?_)
                    have bx73 : (0 : Int) ≤ x73.toInt ∧ x73.toInt ≤ 8 := by rw [ex73]; exact ai_rd bfa0_15.2.2.2.2.2.2.2.1 zq2 zq3 (by decide) (by decide) (by decide)
                    refine lv_iload hx hb dX8_lawsLike_74 (lv_at hl 4 rfl) ?_
                    obtain ⟨hPc, hDc, hFc, hCc⟩ := zc_cut (wc := [(a0, .inr (8, [Value.int v1na0_0, a0g_1, a0g_2, a0g_3, a0g_4, a0g_5, a0g_6, a0g_7, a0g_8, a0g_9, a0g_10, Value.int v1na0_11, a0g_12, a0g_13, Value.int a0_14, Value.ref a0_15, a0g_16, a0g_17, a0g_18, a0g_19, a0g_20, a0g_21, a0g_22, a0g_23, a0g_24, a0g_25, a0g_26, a0g_27, a0g_28, a0g_29, a0g_30, a0g_31, a0g_32, a0g_33, Value.ref a0_34, a0g_35, a0g_36, a0g_37, a0g_38, a0g_39])), (a0_34, .inl (ka0_34, 9, .inl (v49nfa0_34))), (a0_15, .inl (ka0_15, 156, .inl (fa0_15)))]) hP hD hS hA [0, 2, 1] (by decide +kernel) rfl
                    have hKc := hK.sub (tys' := [(ka0_34, .int), (ka0_15, .int)]) [1, 0] rfl
                    refine va_calli (va_runV (As := [.int x59, .int x66, .int x73, .int j34l4]) (rest := [.int r49]) ⟨hx, hb, hml, hown, hts⟩ (c_X8_turnBy l dC dI H.size a0 x59 x66 x73 j34l4 (Value.int v1na0_0) a0g_1 a0g_2 a0g_3 a0g_4 a0g_5 a0g_6 a0g_7 a0g_8 a0g_9 a0g_10 (Value.int v1na0_11) a0g_12 a0g_13 (Value.int a0_14) a0g_16 a0g_17 a0g_18 a0g_19 a0g_20 a0g_21 a0g_22 a0g_23 a0g_24 a0g_25 a0g_26 a0g_27 a0g_28 a0g_29 a0g_30 a0g_31 a0g_32 a0g_33 a0g_35 a0g_36 a0g_37 a0g_38 a0g_39 a0_15 a0_34 ka0_34 v49nfa0_34 ka0_15 fa0_15 bx59.1 (Int.le_trans bx59.2 zq189) bx66.1 bx66.2 bx73.1 bx73.2 bj34l4_l (Int.le_trans u38f_j34l4 zq190) bfa0_15) (cwV 4 hts gX8_lawsLike_X8_turnBy rfl rfl rfl zd_X8_turnBy ⟨Nat.le_of_ble_eq_true rfl, Nat.le_of_ble_eq_true rfl⟩) ⟨ax_blind (fun _ _ _ _ _ => trivial), zr_8 hKc hPc (q0 := 0) rfl, ax_pre hPc hKc hDc (fun _ _ => trivial)⟩ rfl rfl hl.1 rfl (lv_room (Nat.le_of_ble_eq_true rfl)) dX8_lawsLike_76 ⟨Nat.le_of_ble_eq_true rfl, Nat.le_of_ble_eq_true rfl⟩) hS (fun q _ h => hFc q h) hFc (fun r76 u t H locs ht hvm hw hB hz1 hk1 hS => ?_)
                    obtain ⟨v76nfa0_34, hP1, hK1, hD1⟩ := hB
                    rw [ht] at hP1
                    obtain ⟨hP, hD⟩ := zc_back (w := [(a0, .inr (8, [Value.int v1na0_0, a0g_1, a0g_2, a0g_3, a0g_4, a0g_5, a0g_6, a0g_7, a0g_8, a0g_9, a0g_10, Value.int v1na0_11, a0g_12, a0g_13, Value.int a0_14, Value.ref a0_15, a0g_16, a0g_17, a0g_18, a0g_19, a0g_20, a0g_21, a0g_22, a0g_23, a0g_24, a0g_25, a0g_26, a0g_27, a0g_28, a0g_29, a0g_30, a0g_31, a0g_32, a0g_33, Value.ref a0_34, a0g_35, a0g_36, a0g_37, a0g_38, a0g_39])), (a0_15, .inl (ka0_15, 156, .inl (fa0_15))), (a0_34, .inl (ka0_34, 9, .inl (v76nfa0_34)))]) hP hD hCc hk1 hFc hP1 hD1 [.inr 0, .inr 2, .inr 1] (by decide +kernel) rfl
                    rcases hw with hw
                    · obtain ⟨⟨lr76, ur76⟩, mr76⟩ := hw
                      have J87 : ∀ (j87s0 : Int32) (H : Heap) (locs : List Loc) (ls : Array Slot), (0 : Int) ≤ j87s0.toInt → j87s0.toInt ≤ (1 : Int) → va_P (dC, dI) vwCl [(a0, .inr (8, [Value.int v1na0_0, a0g_1, a0g_2, a0g_3, a0g_4, a0g_5, a0g_6, a0g_7, a0g_8, a0g_9, a0g_10, Value.int v1na0_11, a0g_12, a0g_13, Value.int a0_14, Value.ref a0_15, a0g_16, a0g_17, a0g_18, a0g_19, a0g_20, a0g_21, a0g_22, a0g_23, a0g_24, a0g_25, a0g_26, a0g_27, a0g_28, a0g_29, a0g_30, a0g_31, a0g_32, a0g_33, Value.ref a0_34, a0g_35, a0g_36, a0g_37, a0g_38, a0g_39])), (a0_15, .inl (ka0_15, 156, .inl (fa0_15))), (a0_34, .inl (ka0_34, 9, .inl (v76nfa0_34)))] H → va_D A [(a0, .inr (8, [Value.int v1na0_0, a0g_1, a0g_2, a0g_3, a0g_4, a0g_5, a0g_6, a0g_7, a0g_8, a0g_9, a0g_10, Value.int v1na0_11, a0g_12, a0g_13, Value.int a0_14, Value.ref a0_15, a0g_16, a0g_17, a0g_18, a0g_19, a0g_20, a0g_21, a0g_22, a0g_23, a0g_24, a0g_25, a0g_26, a0g_27, a0g_28, a0g_29, a0g_30, a0g_31, a0g_32, a0g_33, Value.ref a0_34, a0g_35, a0g_36, a0g_37, a0g_38, a0g_39])), (a0_15, .inl (ka0_15, 156, .inl (fa0_15))), (a0_34, .inl (ka0_34, 9, .inl (v76nfa0_34)))] → va_S A s.heap H locs → lv_has ls 5 [(0, .ref a0), (1, .int j21l1), (2, .int j21l2), (4, .int j34l4)] → K H locs (F0 m 87 ls [.int j87s0]) := by
                        intro j87s0 H locs ls  bj87s0_l bj87s0_u hP hD hS hl
                        refine (hK0 _ _ _).mpr ?_
                        refine lv_istore_n (lv' := [(3, .int j87s0), (0, .ref a0), (1, .int j21l1), (2, .int j21l2), (4, .int j34l4)]) hx hb dX8_lawsLike_87 rfl hl (by decide) rfl (fun ls hl => ?_)
                        obtain ⟨x88, ex88⟩ : ∃ y : Int32, y = j34l4 + Int32.ofInt 1 := ⟨_, rfl⟩
                        have qx88 : x88.toInt = j34l4.toInt + 1 := ai_inc ex88 (by decide) (by decide) u38f_j34l4 (by decide)
                        have bx88 : (1 : Int) ≤ x88.toInt ∧ x88.toInt ≤ 20 := ⟨by rw [qx88]; exact Int.add_le_add bj34l4_l (Int.le_refl _), by rw [qx88]; exact Int.add_le_add u38f_j34l4 (Int.le_refl _)⟩
                        refine lv_iinc (v := x88) (lv' := [(4, .int x88), (3, .int j87s0), (0, .ref a0), (1, .int j21l1), (2, .int j21l2)]) hx hb dX8_lawsLike_88 hl (k := 4) rfl ex88.symm (by decide) rfl (fun ls hl => ?_)
                        refine lv_goto (tgt := 34) hx hb dX8_lawsLike_91 (by decide) ?_
                        exact (hK0 _ _ _).mp (ih34 x88 j87s0 v76nfa0_34 _ _ _ (by have h0 := qx88; omega) (Int.le_trans zq4 bx88.1) bx88.2 bj87s0_l bj87s0_u hP hD hS (lv_sub hl [2, 3, 4, 1, 0] rfl))
                      refine lv_icmp_ne (tgt := 86) hx hb dX8_lawsLike_79 (by decide) (fun c79 => ?_) (fun c79 => ?_)
                      · have gc79 := ai_ne c79
                        refine lv_iconst (v := 0) hx hb dX8_lawsLike_86 zk_iconst_0 ?_
                        exact (hK0 _ _ _).mp (J87 0 _ _ _  zq5 (Int.le_trans zq6 zq4) hP hD hS (lv_sub hl [0, 1, 2, 4] rfl))
                      · have gc79 := ai_eq c79
                        have u79f_r49 : r49.toInt ≤ (8 : Int) := ur49
                        have l79f_r49 : (0 : Int) ≤ r49.toInt := lr49
                        have u79f_r76 : r76.toInt ≤ (8 : Int) := ur76
                        have l79f_r76 : (0 : Int) ≤ r76.toInt := lr76
                        refine lv_iconst (v := 1) hx hb dX8_lawsLike_82 zk_iconst_1 ?_
                        refine lv_goto (tgt := 87) hx hb dX8_lawsLike_83 (by decide) ?_
                        exact (hK0 _ _ _).mp (J87 1 _ _ _  (Int.le_trans zq4 zq1) zq0 hP hD hS (lv_sub hl [0, 1, 2, 4] rfl))
          exact (hK0 _ _ _).mp (J34 21 0 1 j21a0_34_a _ _ _ (by have h1 : (0 : Int) ≤ (0 : Int32).toInt := zq5; have h2 : (0 : Int32).toInt ≤ (0 : Int) := zq6; omega) zq5 (Int.le_trans zq6 zq191) (Int.le_trans zq4 zq1) zq0 hP hD hS (lv_sub hl [2, 3, 4, 1, 0] rfl))
    exact (hK0 _ _ _).mp (J21 730 0 0 fa0_34 _ _ _ (by have h1 : (0 : Int) ≤ (0 : Int32).toInt := zq5; have h2 : (0 : Int32).toInt ≤ (0 : Int) := zq6; omega) zq5 (Int.le_trans zq6 zq35) hP hD hS (lv_sub hl [2, 1, 0] rfl))
  · have gc8 := ai_eq c8
    have u8f_a0_14 : a0_14.toInt ≤ (0 : Int) := Int.le_trans (Int.le_of_eq gc8) zq6
    have l8f_a0_14 : (1 : Int) ≤ a0_14.toInt := ba0_14_l
    exact absurd (Int.le_trans l8f_a0_14 u8f_a0_14) (by decide)

set_option maxHeartbeats 4000000 in
set_option maxRecDepth 100000 in
theorem c_X8_isFigureR (l : Launch) (dC : Nat → ClassId) (dI : Nat → Nat → Nat) (sz : Nat) (a0 : Nat) (a1 : Int32) (a0g_0 a0g_1 a0g_2 a0g_3 a0g_4 a0g_5 a0g_6 a0g_7 a0g_8 a0g_9 a0g_10 a0g_11 a0g_12 a0g_13 a0g_16 a0g_17 a0g_18 a0g_19 a0g_20 a0g_21 a0g_22 a0g_23 a0g_24 a0g_25 a0g_26 a0g_27 a0g_28 a0g_29 a0g_30 a0g_31 a0g_32 a0g_33 a0g_34 a0g_35 a0g_36 a0g_37 a0g_38 a0g_39 : Value) (a0_14 : Int32) (a0_15 : Nat) (ka0_15 : ClassId) (fa0_15 : Nat → Int32) (ba0_14_l : (1 : Int) ≤ a0_14.toInt) (ba0_14_u : a0_14.toInt ≤ (1 : Int)) (bfa0_15 : ((∀ k : Nat, 0 ≤ k → k ≤ 0 → (2 : Int) ≤ (fa0_15 k).toInt ∧ (fa0_15 k).toInt ≤ 9) ∧ (∀ k : Nat, 1 ≤ k → k ≤ 1 → (1 : Int) ≤ (fa0_15 k).toInt ∧ (fa0_15 k).toInt ≤ 20) ∧ (∀ k : Nat, 2 ≤ k → k ≤ 2 → (0 : Int) ≤ (fa0_15 k).toInt ∧ (fa0_15 k).toInt ≤ 8) ∧ (∀ k : Nat, 3 ≤ k → k ≤ 3 → (0 : Int) ≤ (fa0_15 k).toInt ∧ (fa0_15 k).toInt ≤ 100) ∧ (∀ k : Nat, 4 ≤ k → k ≤ 4 → (0 : Int) ≤ (fa0_15 k).toInt ∧ (fa0_15 k).toInt ≤ 9) ∧ (∀ k : Nat, 5 ≤ k → k ≤ 5 → (0 : Int) ≤ (fa0_15 k).toInt ∧ (fa0_15 k).toInt ≤ 3) ∧ (∀ k : Nat, 6 ≤ k → k ≤ 6 → (0 : Int) ≤ (fa0_15 k).toInt ∧ (fa0_15 k).toInt ≤ 6) ∧ (∀ k : Nat, 7 ≤ k → k ≤ 9 → (0 : Int) ≤ (fa0_15 k).toInt ∧ (fa0_15 k).toInt ≤ 8) ∧ (∀ k : Nat, 12 ≤ k → k ≤ 29 → (0 : Int) ≤ (fa0_15 k).toInt ∧ (fa0_15 k).toInt ≤ 20) ∧ (∀ k : Nat, 30 ≤ k → k ≤ 35 → (0 : Int) ≤ (fa0_15 k).toInt ∧ (fa0_15 k).toInt ≤ 8) ∧ (∀ k : Nat, 36 ≤ k → k ≤ 47 → (0 : Int) ≤ (fa0_15 k).toInt ∧ (fa0_15 k).toInt ≤ 999))) : Met l yX8_isFigure wsX8_isFigure ({ frames := 1, cells := 0, slots := 0, locals := 22 }) (va_Pc [.ref a0, .int a1] (ax_C dC dI sz [(a0, .inr (8, [a0g_0, a0g_1, a0g_2, a0g_3, a0g_4, a0g_5, a0g_6, a0g_7, a0g_8, a0g_9, a0g_10, a0g_11, a0g_12, a0g_13, Value.int a0_14, Value.ref a0_15, a0g_16, a0g_17, a0g_18, a0g_19, a0g_20, a0g_21, a0g_22, a0g_23, a0g_24, a0g_25, a0g_26, a0g_27, a0g_28, a0g_29, a0g_30, a0g_31, a0g_32, a0g_33, a0g_34, a0g_35, a0g_36, a0g_37, a0g_38, a0g_39])), (a0_15, .inl (ka0_15, 156, .inl (fa0_15)))] [(ka0_15, .int)] (fun _ => True))) (va_Qi (fun (r : Int32) (_ : Unit) => (r = 1 ∧ (0 : Int) ≤ a1.toInt ∧ a1.toInt ≤ (8 : Int) ∧ a1.toInt < (fa0_15 0).toInt) ∨ r = 0) (fun (_ : Unit) (t : State) => ax_B dC dI (va_A [(a0, .inr (8, [a0g_0, a0g_1, a0g_2, a0g_3, a0g_4, a0g_5, a0g_6, a0g_7, a0g_8, a0g_9, a0g_10, a0g_11, a0g_12, a0g_13, Value.int a0_14, Value.ref a0_15, a0g_16, a0g_17, a0g_18, a0g_19, a0g_20, a0g_21, a0g_22, a0g_23, a0g_24, a0g_25, a0g_26, a0g_27, a0g_28, a0g_29, a0g_30, a0g_31, a0g_32, a0g_33, a0g_34, a0g_35, a0g_36, a0g_37, a0g_38, a0g_39])), (a0_15, .inl (ka0_15, 156, .inl (fa0_15)))] sz) [(a0, .inr (8, [a0g_0, a0g_1, a0g_2, a0g_3, a0g_4, a0g_5, a0g_6, a0g_7, a0g_8, a0g_9, a0g_10, a0g_11, a0g_12, a0g_13, Value.int a0_14, Value.ref a0_15, a0g_16, a0g_17, a0g_18, a0g_19, a0g_20, a0g_21, a0g_22, a0g_23, a0g_24, a0g_25, a0g_26, a0g_27, a0g_28, a0g_29, a0g_30, a0g_31, a0g_32, a0g_33, a0g_34, a0g_35, a0g_36, a0g_37, a0g_38, a0g_39])), (a0_15, .inl (ka0_15, 156, .inl (fa0_15)))] [(ka0_15, .int)] t) (va_A [(a0, .inr (8, [a0g_0, a0g_1, a0g_2, a0g_3, a0g_4, a0g_5, a0g_6, a0g_7, a0g_8, a0g_9, a0g_10, a0g_11, a0g_12, a0g_13, Value.int a0_14, Value.ref a0_15, a0g_16, a0g_17, a0g_18, a0g_19, a0g_20, a0g_21, a0g_22, a0g_23, a0g_24, a0g_25, a0g_26, a0g_27, a0g_28, a0g_29, a0g_30, a0g_31, a0g_32, a0g_33, a0g_34, a0g_35, a0g_36, a0g_37, a0g_38, a0g_39])), (a0_15, .inl (ka0_15, 156, .inl (fa0_15)))] sz)) 0 0 (va_A [(a0, .inr (8, [a0g_0, a0g_1, a0g_2, a0g_3, a0g_4, a0g_5, a0g_6, a0g_7, a0g_8, a0g_9, a0g_10, a0g_11, a0g_12, a0g_13, Value.int a0_14, Value.ref a0_15, a0g_16, a0g_17, a0g_18, a0g_19, a0g_20, a0g_21, a0g_22, a0g_23, a0g_24, a0g_25, a0g_26, a0g_27, a0g_28, a0g_29, a0g_30, a0g_31, a0g_32, a0g_33, a0g_34, a0g_35, a0g_36, a0g_37, a0g_38, a0g_39])), (a0_15, .inl (ka0_15, 156, .inl (fa0_15)))] sz) := by
  refine Met.ofW (cc := cX8_isFigure) (maxL := 2) (ret := (some .boolean)) (by decide) rfl ?_
  intro p e s m args below meth c s₁ B hml hv
  obtain ⟨rfl, hsz, hP, hK, hD0, hE⟩ := hv
  have hx := B.exec
  have hb := B.bytes
  have hr := B.returns
  have hts := atoms_spec (ws := wsX8_isFigure) B.pre
  have hown : s.vm.findClass RX8 = some m.cls := findClass_of_methodNamed B.named
  have hlocks := B.notSynchronized
  subst hsz
  have hD := hD0.self (sz := s.heap.size)
  generalize hAe : va_A [(a0, .inr (8, [a0g_0, a0g_1, a0g_2, a0g_3, a0g_4, a0g_5, a0g_6, a0g_7, a0g_8, a0g_9, a0g_10, a0g_11, a0g_12, a0g_13, Value.int a0_14, Value.ref a0_15, a0g_16, a0g_17, a0g_18, a0g_19, a0g_20, a0g_21, a0g_22, a0g_23, a0g_24, a0g_25, a0g_26, a0g_27, a0g_28, a0g_29, a0g_30, a0g_31, a0g_32, a0g_33, a0g_34, a0g_35, a0g_36, a0g_37, a0g_38, a0g_39])), (a0_15, .inl (ka0_15, 156, .inl (fa0_15)))] s.heap.size = A at hD ⊢
  have hA : ∀ q : Nat, s.heap.size ≤ q → A q := fun q h => by rw [← hAe]; exact Or.inr h
  have hS : va_S A s.heap s.heap [] := va_S.rf
  have hP : va_P (dC, dI) vwCl [(a0, .inr (8, [a0g_0, a0g_1, a0g_2, a0g_3, a0g_4, a0g_5, a0g_6, a0g_7, a0g_8, a0g_9, a0g_10, a0g_11, a0g_12, a0g_13, Value.int a0_14, Value.ref a0_15, a0g_16, a0g_17, a0g_18, a0g_19, a0g_20, a0g_21, a0g_22, a0g_23, a0g_24, a0g_25, a0g_26, a0g_27, a0g_28, a0g_29, a0g_30, a0g_31, a0g_32, a0g_33, a0g_34, a0g_35, a0g_36, a0g_37, a0g_38, a0g_39])), (a0_15, .inl (ka0_15, 156, .inl (fa0_15)))] s.heap := hP
  have hl := lv_entry ([.ref a0, .int a1]) (n := 2) (Nat.le_of_ble_eq_true rfl)
  rw [lg_entry_eq]
  generalize (lg_sl ([.ref a0, .int a1]) ++ List.replicate (2 - (lg_sl ([.ref a0, .int a1])).length) Slot.unset).toArray = ls at hl ⊢
  have hl : lv_has ls 2 [(0, .ref a0), (1, .int a1)] := hl
  refine lv_aload_n hx hb dX8_isFigure_0 rfl (lv_at hl 0 rfl) ?_
  refine va_get (D := (dC, dI)) (ci := 8) (v := .int a0_14) (C := RX8) (T := TX8) (N := 40) hx hb hts zi_X8_isFigure_8 hown hK hP 0 rfl rfl 14 (by decide) (hts (.fieldLink RX8 173 "WaxTurnsModel" "hasGallery" "Z") (List.mem_cons_of_mem _ (List.mem_append_left _ (List.mem_of_getElem? (i := 0) rfl)))) (fun _ h9 => h9) rfl dX8_isFigure_1 ?_
  refine lv_if_eq (tgt := 27) hx hb dX8_isFigure_4 (by decide) (fun c4 => ?_) (fun c4 => ?_)
  · have gc4 := ai_eq c4
    have u4t_a0_14 : a0_14.toInt ≤ (0 : Int) := Int.le_trans (Int.le_of_eq gc4) zq6
    have l4t_a0_14 : (1 : Int) ≤ a0_14.toInt := ba0_14_l
    exact absurd (Int.le_trans l4t_a0_14 u4t_a0_14) (by decide)
  · have gc4 := ai_ne c4
    refine lv_iload_n hx hb dX8_isFigure_7 rfl (lv_at hl 1 rfl) ?_
    refine lv_iconst (v := 0) hx hb dX8_isFigure_8 zk_iconst_0 ?_
    refine lv_aload_n hx hb dX8_isFigure_9 rfl (lv_at hl 0 rfl) ?_
    refine va_get (D := (dC, dI)) (ci := 8) (v := .ref a0_15) (C := RX8) (T := TX8) (N := 40) hx hb hts zi_X8_isFigure_8 hown hK hP 0 rfl rfl 15 (by decide) (hts (.fieldLink RX8 20 "WaxTurnsModel" "\x72" "[I") (List.mem_cons_of_mem _ (List.mem_append_left _ (List.mem_of_getElem? (i := 1) rfl)))) (fun _ h9 => h9) rfl dX8_isFigure_10 ?_
    refine lv_iconst (v := 0) hx hb dX8_isFigure_13 zk_iconst_0 ?_
    refine va_iald hx hb hK hP 1 0 rfl rfl (by unfold vp_in; decide +kernel) dX8_isFigure_14 ?_
    refine lv_topi (fun x14 ex14 => ?_)
    have bx14 : (2 : Int) ≤ x14.toInt ∧ x14.toInt ≤ 9 := by rw [ex14]; exact ai_rd bfa0_15.1 zq5 zq6 (by decide) (by decide) (by decide)
    refine lv_iconst (v := 1) hx hb dX8_isFigure_15 zk_iconst_1 ?_
    refine lv_isub hx hb dX8_isFigure_16 ?_
    refine lv_topi (fun x16 ex16 => ?_)
    have qx16 : x16.toInt = x14.toInt - (1 : Int32).toInt := ai_sub ex16 ⟨bx14.1, bx14.2⟩ ⟨zq1, zq0⟩ (by decide) (by decide)
    have bx16 : (1 : Int) ≤ x16.toInt ∧ x16.toInt ≤ 8 := ⟨by rw [qx16]; exact Int.sub_le_sub bx14.1 zq0, by rw [qx16]; exact Int.sub_le_sub bx14.2 zq1⟩
    have wx16 : x16.toInt = x14.toInt - 1 := qx16
    obtain ⟨hPc, hDc, hFc, hCc⟩ := zc_cut (wc := []) hP hD hS hA [] (by decide +kernel) rfl
    have hKc := hK.sub (tys' := []) [] rfl
    refine va_calli (va_runS (As := [.int a1, .int 0, .int x16]) (rest := []) ⟨hx, hb, hml, hown, hts⟩ (c_X8_in l dC dI s.heap.size a1 0 x16 ) (va_cwS 3 hts gX8_isFigure_X8_in rfl rfl rfl zd_X8_in.2 ⟨Nat.le_of_ble_eq_true rfl, Nat.le_of_ble_eq_true rfl⟩) ⟨ax_blind (fun _ _ _ _ _ => trivial), ax_pre hPc hKc hDc (fun _ _ => trivial)⟩ rfl rfl hl.1 rfl (lv_room (Nat.le_of_ble_eq_true rfl)) dX8_isFigure_17 ⟨Nat.le_of_ble_eq_true rfl, Nat.le_of_ble_eq_true rfl⟩) hS (fun q _ h => hFc q h) hFc (fun r17 u t H locs ht hvm hw hB hz1 hk1 hS => ?_)
    obtain ⟨hP1, hK1, hD1⟩ := hB
    rw [ht] at hP1
    obtain ⟨hP, hD⟩ := zc_back (w := [(a0, .inr (8, [a0g_0, a0g_1, a0g_2, a0g_3, a0g_4, a0g_5, a0g_6, a0g_7, a0g_8, a0g_9, a0g_10, a0g_11, a0g_12, a0g_13, Value.int a0_14, Value.ref a0_15, a0g_16, a0g_17, a0g_18, a0g_19, a0g_20, a0g_21, a0g_22, a0g_23, a0g_24, a0g_25, a0g_26, a0g_27, a0g_28, a0g_29, a0g_30, a0g_31, a0g_32, a0g_33, a0g_34, a0g_35, a0g_36, a0g_37, a0g_38, a0g_39])), (a0_15, .inl (ka0_15, 156, .inl (fa0_15)))]) hP hD hCc hk1 hFc hP1 hD1 [.inl 0, .inl 1] (by decide +kernel) rfl
    rcases hw with hw | hw
    · obtain ⟨hw, h17⟩ := hw
      subst hw
      have l17k0_a1 : (0 : Int) ≤ a1.toInt := Int.le_trans zq5 h17.1
      have u17k0_a1 : a1.toInt ≤ (8 : Int) := Int.le_trans h17.2 bx16.2
      have l17k0_x16 : (1 : Int) ≤ x16.toInt := bx16.1
      refine lv_if_eq (tgt := 27) hx hb dX8_isFigure_20 (by decide) (fun c20 => absurd c20 (by decide +kernel)) (fun _ => ?_)
      refine lv_iconst (v := 1) hx hb dX8_isFigure_23 zk_iconst_1 ?_
      refine lv_goto (tgt := 28) hx hb dX8_isFigure_24 (by decide) ?_
      exact W.zret (v := 1) hx hb hr rfl (fun t ht hW => ⟨⟨1, (), rfl, (Or.inl ⟨rfl, l17k0_a1, u17k0_a1, (by have h1 := h17.2; have h2 : x14.toInt = (fa0_15 0).toInt := (by rw [ex14]; rfl); omega)⟩), by rw [ht]; exact hP, va_K.moved hW.alike hK, hD⟩, hS.F ht⟩) hS.2.2 dX8_isFigure_28
    · obtain ⟨hw, h17⟩ := hw
      subst hw
      refine lv_if_eq (tgt := 27) hx hb dX8_isFigure_20 (by decide) (fun _ => ?_) (fun c20 => absurd (by decide +kernel) c20)
      refine lv_iconst (v := 0) hx hb dX8_isFigure_27 zk_iconst_0 ?_
      exact W.zret (v := 0) hx hb hr rfl (fun t ht hW => ⟨⟨0, (), rfl, (Or.inr rfl), by rw [ht]; exact hP, va_K.moved hW.alike hK, hD⟩, hS.F ht⟩) hS.2.2 dX8_isFigure_28

set_option maxHeartbeats 4000000 in
set_option maxRecDepth 100000 in
theorem c_X8_lawFor (l : Launch) (dC : Nat → ClassId) (dI : Nat → Nat → Nat) (sz : Nat) (a0 : Nat) (a1 : Int32) (a2 : Int32) (a0_0 : Int32) (a0g_1 a0g_2 a0g_3 a0g_4 a0g_5 a0g_6 a0g_7 a0g_8 a0g_9 a0g_10 a0g_12 a0g_13 a0g_16 a0g_17 a0g_18 a0g_19 a0g_20 a0g_21 a0g_22 a0g_23 a0g_24 a0g_25 a0g_26 a0g_27 a0g_28 a0g_29 a0g_30 a0g_31 a0g_32 a0g_33 a0g_35 a0g_36 a0g_37 a0g_38 a0g_39 : Value) (a0_11 : Int32) (a0_14 : Int32) (a0_15 : Nat) (a0_34 : Nat) (ka0_15 : ClassId) (fa0_15 : Nat → Int32) (ka0_34 : ClassId) (fa0_34 : Nat → Int32) (ba0_14_l : (1 : Int) ≤ a0_14.toInt) (ba0_14_u : a0_14.toInt ≤ (1 : Int)) (bfa0_15 : ((∀ k : Nat, 0 ≤ k → k ≤ 0 → (2 : Int) ≤ (fa0_15 k).toInt ∧ (fa0_15 k).toInt ≤ 9) ∧ (∀ k : Nat, 1 ≤ k → k ≤ 1 → (1 : Int) ≤ (fa0_15 k).toInt ∧ (fa0_15 k).toInt ≤ 20) ∧ (∀ k : Nat, 2 ≤ k → k ≤ 2 → (0 : Int) ≤ (fa0_15 k).toInt ∧ (fa0_15 k).toInt ≤ 8) ∧ (∀ k : Nat, 3 ≤ k → k ≤ 3 → (0 : Int) ≤ (fa0_15 k).toInt ∧ (fa0_15 k).toInt ≤ 100) ∧ (∀ k : Nat, 4 ≤ k → k ≤ 4 → (0 : Int) ≤ (fa0_15 k).toInt ∧ (fa0_15 k).toInt ≤ 9) ∧ (∀ k : Nat, 5 ≤ k → k ≤ 5 → (0 : Int) ≤ (fa0_15 k).toInt ∧ (fa0_15 k).toInt ≤ 3) ∧ (∀ k : Nat, 6 ≤ k → k ≤ 6 → (0 : Int) ≤ (fa0_15 k).toInt ∧ (fa0_15 k).toInt ≤ 6) ∧ (∀ k : Nat, 7 ≤ k → k ≤ 9 → (0 : Int) ≤ (fa0_15 k).toInt ∧ (fa0_15 k).toInt ≤ 8) ∧ (∀ k : Nat, 12 ≤ k → k ≤ 29 → (0 : Int) ≤ (fa0_15 k).toInt ∧ (fa0_15 k).toInt ≤ 20) ∧ (∀ k : Nat, 30 ≤ k → k ≤ 35 → (0 : Int) ≤ (fa0_15 k).toInt ∧ (fa0_15 k).toInt ≤ 8) ∧ (∀ k : Nat, 36 ≤ k → k ≤ 47 → (0 : Int) ≤ (fa0_15 k).toInt ∧ (fa0_15 k).toInt ≤ 999))) : Met l yX8_lawFor wsX8_lawFor ({ frames := 2, cells := 0, slots := 0, locals := 50 }) (va_Pc [.ref a0, .int a1, .int a2] (ax_C dC dI sz [(a0, .inr (8, [Value.int a0_0, a0g_1, a0g_2, a0g_3, a0g_4, a0g_5, a0g_6, a0g_7, a0g_8, a0g_9, a0g_10, Value.int a0_11, a0g_12, a0g_13, Value.int a0_14, Value.ref a0_15, a0g_16, a0g_17, a0g_18, a0g_19, a0g_20, a0g_21, a0g_22, a0g_23, a0g_24, a0g_25, a0g_26, a0g_27, a0g_28, a0g_29, a0g_30, a0g_31, a0g_32, a0g_33, Value.ref a0_34, a0g_35, a0g_36, a0g_37, a0g_38, a0g_39])), (a0_15, .inl (ka0_15, 156, .inl (fa0_15))), (a0_34, .inl (ka0_34, 9, .inl (fa0_34)))] [(ka0_15, .int), (ka0_34, .int)] (fun _ => True))) (va_Qi (fun (r : Int32) (_ : Unit) => (-1 : Int) ≤ r.toInt ∧ r.toInt ≤ (72888 : Int)) (fun (_ : Unit) (t : State) => ∃ na0_0 : Int32, ∃ na0_11 : Int32, ∃ nfa0_34 : Nat → Int32, ax_B dC dI (va_A [(a0, .inr (8, [Value.int a0_0, a0g_1, a0g_2, a0g_3, a0g_4, a0g_5, a0g_6, a0g_7, a0g_8, a0g_9, a0g_10, Value.int a0_11, a0g_12, a0g_13, Value.int a0_14, Value.ref a0_15, a0g_16, a0g_17, a0g_18, a0g_19, a0g_20, a0g_21, a0g_22, a0g_23, a0g_24, a0g_25, a0g_26, a0g_27, a0g_28, a0g_29, a0g_30, a0g_31, a0g_32, a0g_33, Value.ref a0_34, a0g_35, a0g_36, a0g_37, a0g_38, a0g_39])), (a0_15, .inl (ka0_15, 156, .inl (fa0_15))), (a0_34, .inl (ka0_34, 9, .inl (fa0_34)))] sz) [(a0, .inr (8, [Value.int na0_0, a0g_1, a0g_2, a0g_3, a0g_4, a0g_5, a0g_6, a0g_7, a0g_8, a0g_9, a0g_10, Value.int na0_11, a0g_12, a0g_13, Value.int a0_14, Value.ref a0_15, a0g_16, a0g_17, a0g_18, a0g_19, a0g_20, a0g_21, a0g_22, a0g_23, a0g_24, a0g_25, a0g_26, a0g_27, a0g_28, a0g_29, a0g_30, a0g_31, a0g_32, a0g_33, Value.ref a0_34, a0g_35, a0g_36, a0g_37, a0g_38, a0g_39])), (a0_15, .inl (ka0_15, 156, .inl (fa0_15))), (a0_34, .inl (ka0_34, 9, .inl (nfa0_34)))] [(ka0_15, .int), (ka0_34, .int)] t) (va_A [(a0, .inr (8, [Value.int a0_0, a0g_1, a0g_2, a0g_3, a0g_4, a0g_5, a0g_6, a0g_7, a0g_8, a0g_9, a0g_10, Value.int a0_11, a0g_12, a0g_13, Value.int a0_14, Value.ref a0_15, a0g_16, a0g_17, a0g_18, a0g_19, a0g_20, a0g_21, a0g_22, a0g_23, a0g_24, a0g_25, a0g_26, a0g_27, a0g_28, a0g_29, a0g_30, a0g_31, a0g_32, a0g_33, Value.ref a0_34, a0g_35, a0g_36, a0g_37, a0g_38, a0g_39])), (a0_15, .inl (ka0_15, 156, .inl (fa0_15))), (a0_34, .inl (ka0_34, 9, .inl (fa0_34)))] sz)) 0 0 (va_A [(a0, .inr (8, [Value.int a0_0, a0g_1, a0g_2, a0g_3, a0g_4, a0g_5, a0g_6, a0g_7, a0g_8, a0g_9, a0g_10, Value.int a0_11, a0g_12, a0g_13, Value.int a0_14, Value.ref a0_15, a0g_16, a0g_17, a0g_18, a0g_19, a0g_20, a0g_21, a0g_22, a0g_23, a0g_24, a0g_25, a0g_26, a0g_27, a0g_28, a0g_29, a0g_30, a0g_31, a0g_32, a0g_33, Value.ref a0_34, a0g_35, a0g_36, a0g_37, a0g_38, a0g_39])), (a0_15, .inl (ka0_15, 156, .inl (fa0_15))), (a0_34, .inl (ka0_34, 9, .inl (fa0_34)))] sz) := by
  refine Met.ofW (cc := cX8_lawFor) (maxL := 5) (ret := (some .int)) (by decide) rfl ?_
  intro p e s m args below meth c s₁ B hml hv
  obtain ⟨rfl, hsz, hP, hK, hD0, hE⟩ := hv
  have hx := B.exec
  have hb := B.bytes
  have hr := B.returns
  have hts := atoms_spec (ws := wsX8_lawFor) B.pre
  have hown : s.vm.findClass RX8 = some m.cls := findClass_of_methodNamed B.named
  have hlocks := B.notSynchronized
  subst hsz
  have hD := hD0.self (sz := s.heap.size)
  generalize hAe : va_A [(a0, .inr (8, [Value.int a0_0, a0g_1, a0g_2, a0g_3, a0g_4, a0g_5, a0g_6, a0g_7, a0g_8, a0g_9, a0g_10, Value.int a0_11, a0g_12, a0g_13, Value.int a0_14, Value.ref a0_15, a0g_16, a0g_17, a0g_18, a0g_19, a0g_20, a0g_21, a0g_22, a0g_23, a0g_24, a0g_25, a0g_26, a0g_27, a0g_28, a0g_29, a0g_30, a0g_31, a0g_32, a0g_33, Value.ref a0_34, a0g_35, a0g_36, a0g_37, a0g_38, a0g_39])), (a0_15, .inl (ka0_15, 156, .inl (fa0_15))), (a0_34, .inl (ka0_34, 9, .inl (fa0_34)))] s.heap.size = A at hD ⊢
  have hA : ∀ q : Nat, s.heap.size ≤ q → A q := fun q h => by rw [← hAe]; exact Or.inr h
  have hS : va_S A s.heap s.heap [] := va_S.rf
  have hP : va_P (dC, dI) vwCl [(a0, .inr (8, [Value.int a0_0, a0g_1, a0g_2, a0g_3, a0g_4, a0g_5, a0g_6, a0g_7, a0g_8, a0g_9, a0g_10, Value.int a0_11, a0g_12, a0g_13, Value.int a0_14, Value.ref a0_15, a0g_16, a0g_17, a0g_18, a0g_19, a0g_20, a0g_21, a0g_22, a0g_23, a0g_24, a0g_25, a0g_26, a0g_27, a0g_28, a0g_29, a0g_30, a0g_31, a0g_32, a0g_33, Value.ref a0_34, a0g_35, a0g_36, a0g_37, a0g_38, a0g_39])), (a0_15, .inl (ka0_15, 156, .inl (fa0_15))), (a0_34, .inl (ka0_34, 9, .inl (fa0_34)))] s.heap := hP
  have hl := lv_entry ([.ref a0, .int a1, .int a2]) (n := 5) (Nat.le_of_ble_eq_true rfl)
  rw [lg_entry_eq]
  generalize (lg_sl ([.ref a0, .int a1, .int a2]) ++ List.replicate (5 - (lg_sl ([.ref a0, .int a1, .int a2])).length) Slot.unset).toArray = ls at hl ⊢
  have hl : lv_has ls 5 [(0, .ref a0), (1, .int a1), (2, .int a2)] := hl
  refine ai_open (fun K hK0 => ?_)
  refine (hK0 _ _ _).mpr ?_
  refine lv_aload_n hx hb dX8_lawFor_0 rfl (lv_at hl 0 rfl) ?_
  obtain ⟨hPc, hDc, hFc, hCc⟩ := zc_cut (wc := [(a0, .inr (8, [Value.int a0_0, a0g_1, a0g_2, a0g_3, a0g_4, a0g_5, a0g_6, a0g_7, a0g_8, a0g_9, a0g_10, Value.int a0_11, a0g_12, a0g_13, Value.int a0_14, Value.ref a0_15, a0g_16, a0g_17, a0g_18, a0g_19, a0g_20, a0g_21, a0g_22, a0g_23, a0g_24, a0g_25, a0g_26, a0g_27, a0g_28, a0g_29, a0g_30, a0g_31, a0g_32, a0g_33, Value.ref a0_34, a0g_35, a0g_36, a0g_37, a0g_38, a0g_39]))]) hP hD hS hA [0] (by decide +kernel) rfl
  have hKc := hK.sub (tys' := []) [] rfl
  refine va_callv (va_runV (As := []) (rest := []) ⟨hx, hb, hml, hown, hts⟩ (c_X8_good l dC dI s.heap.size a0 a0_0 a0g_1 a0g_2 a0g_3 a0g_4 a0g_5 a0g_6 a0g_7 a0g_8 a0g_9 a0g_10 a0g_12 a0g_13 (Value.int a0_14) (Value.ref a0_15) a0g_16 a0g_17 a0g_18 a0g_19 a0g_20 a0g_21 a0g_22 a0g_23 a0g_24 a0g_25 a0g_26 a0g_27 a0g_28 a0g_29 a0g_30 a0g_31 a0g_32 a0g_33 (Value.ref a0_34) a0g_35 a0g_36 a0g_37 a0g_38 a0g_39 a0_11 ) (cwV 0 hts gX8_lawFor_X8_good rfl rfl rfl zd_X8_good ⟨Nat.le_of_ble_eq_true rfl, Nat.le_of_ble_eq_true rfl⟩) ⟨ax_blind (fun _ _ _ _ _ => trivial), zr_8 hKc hPc (q0 := 0) rfl, ax_pre hPc hKc hDc (fun _ _ => trivial)⟩ rfl rfl hl.1 rfl (lv_room (Nat.le_of_ble_eq_true rfl)) dX8_lawFor_1 ⟨Nat.le_of_ble_eq_true rfl, Nat.le_of_ble_eq_true rfl⟩) hS (fun q _ h => hFc q h) hFc (fun u t H locs ht hvm hw hB hz1 hk1 hS => ?_)
  obtain ⟨v1na0_0, v1na0_11, hP1, hK1, hD1⟩ := hB
  rw [ht] at hP1
  obtain ⟨hP, hD⟩ := zc_back (w := [(a0, .inr (8, [Value.int v1na0_0, a0g_1, a0g_2, a0g_3, a0g_4, a0g_5, a0g_6, a0g_7, a0g_8, a0g_9, a0g_10, Value.int v1na0_11, a0g_12, a0g_13, Value.int a0_14, Value.ref a0_15, a0g_16, a0g_17, a0g_18, a0g_19, a0g_20, a0g_21, a0g_22, a0g_23, a0g_24, a0g_25, a0g_26, a0g_27, a0g_28, a0g_29, a0g_30, a0g_31, a0g_32, a0g_33, Value.ref a0_34, a0g_35, a0g_36, a0g_37, a0g_38, a0g_39])), (a0_15, .inl (ka0_15, 156, .inl (fa0_15))), (a0_34, .inl (ka0_34, 9, .inl (fa0_34)))]) hP hD hCc hk1 hFc hP1 hD1 [.inr 0, .inl 1, .inl 2] (by decide +kernel) rfl
  refine lv_aload_n hx hb dX8_lawFor_4 rfl (lv_at hl 0 rfl) ?_
  refine lv_aload_n hx hb dX8_lawFor_5 rfl (lv_at hl 0 rfl) ?_
  refine lv_iload_n hx hb dX8_lawFor_6 rfl (lv_at hl 1 rfl) ?_
  obtain ⟨hPc, hDc, hFc, hCc⟩ := zc_cut (wc := [(a0, .inr (8, [Value.int v1na0_0, a0g_1, a0g_2, a0g_3, a0g_4, a0g_5, a0g_6, a0g_7, a0g_8, a0g_9, a0g_10, Value.int v1na0_11, a0g_12, a0g_13, Value.int a0_14, Value.ref a0_15, a0g_16, a0g_17, a0g_18, a0g_19, a0g_20, a0g_21, a0g_22, a0g_23, a0g_24, a0g_25, a0g_26, a0g_27, a0g_28, a0g_29, a0g_30, a0g_31, a0g_32, a0g_33, Value.ref a0_34, a0g_35, a0g_36, a0g_37, a0g_38, a0g_39])), (a0_15, .inl (ka0_15, 156, .inl (fa0_15)))]) hP hD hS hA [0, 1] (by decide +kernel) rfl
  have hKc := hK.sub (tys' := [(ka0_15, .int)]) [0] rfl
  refine va_calli (va_runV (As := [.int a1]) (rest := [.ref a0]) ⟨hx, hb, hml, hown, hts⟩ (c_X8_isFigureR l dC dI H.size a0 a1 (Value.int v1na0_0) a0g_1 a0g_2 a0g_3 a0g_4 a0g_5 a0g_6 a0g_7 a0g_8 a0g_9 a0g_10 (Value.int v1na0_11) a0g_12 a0g_13 a0g_16 a0g_17 a0g_18 a0g_19 a0g_20 a0g_21 a0g_22 a0g_23 a0g_24 a0g_25 a0g_26 a0g_27 a0g_28 a0g_29 a0g_30 a0g_31 a0g_32 a0g_33 (Value.ref a0_34) a0g_35 a0g_36 a0g_37 a0g_38 a0g_39 a0_14 a0_15 ka0_15 fa0_15 ba0_14_l ba0_14_u bfa0_15) (cwV 1 hts gX8_lawFor_X8_isFigure rfl rfl rfl zd_X8_isFigure ⟨Nat.le_of_ble_eq_true rfl, Nat.le_of_ble_eq_true rfl⟩) ⟨ax_blind (fun _ _ _ _ _ => trivial), zr_8 hKc hPc (q0 := 0) rfl, ax_pre hPc hKc hDc (fun _ _ => trivial)⟩ rfl rfl hl.1 rfl (lv_room (Nat.le_of_ble_eq_true rfl)) dX8_lawFor_7 ⟨Nat.le_of_ble_eq_true rfl, Nat.le_of_ble_eq_true rfl⟩) hS (fun q _ h => hFc q h) hFc (fun r7 u t H locs ht hvm hw hB hz1 hk1 hS => ?_)
  obtain ⟨hP1, hK1, hD1⟩ := hB
  rw [ht] at hP1
  obtain ⟨hP, hD⟩ := zc_back (w := [(a0, .inr (8, [Value.int v1na0_0, a0g_1, a0g_2, a0g_3, a0g_4, a0g_5, a0g_6, a0g_7, a0g_8, a0g_9, a0g_10, Value.int v1na0_11, a0g_12, a0g_13, Value.int a0_14, Value.ref a0_15, a0g_16, a0g_17, a0g_18, a0g_19, a0g_20, a0g_21, a0g_22, a0g_23, a0g_24, a0g_25, a0g_26, a0g_27, a0g_28, a0g_29, a0g_30, a0g_31, a0g_32, a0g_33, Value.ref a0_34, a0g_35, a0g_36, a0g_37, a0g_38, a0g_39])), (a0_15, .inl (ka0_15, 156, .inl (fa0_15))), (a0_34, .inl (ka0_34, 9, .inl (fa0_34)))]) hP hD hCc hk1 hFc hP1 hD1 [.inr 0, .inr 1, .inl 2] (by decide +kernel) rfl
  rcases hw with hw | hw
  · obtain ⟨hw, h7⟩ := hw
    subst hw
    have l7k0_a1 : (0 : Int) ≤ a1.toInt := h7.1
    have u7k0_a1 : a1.toInt ≤ (8 : Int) := h7.2.1
    refine lv_iload_n hx hb dX8_lawFor_10 rfl (lv_at hl 2 rfl) ?_
    refine lv_iconst (v := 0) hx hb dX8_lawFor_11 zk_iconst_0 ?_
    refine lv_bipush (v := 99) hx hb dX8_lawFor_12 zk_bipush_99 ?_
    obtain ⟨hPc, hDc, hFc, hCc⟩ := zc_cut (wc := []) hP hD hS hA [] (by decide +kernel) rfl
    have hKc := hK.sub (tys' := []) [] rfl
    refine va_calli (va_runS (As := [.int a2, .int 0, .int 99]) (rest := [.int 1, .ref a0]) ⟨hx, hb, hml, hown, hts⟩ (c_X8_in l dC dI H.size a2 0 99 ) (va_cwS 3 hts gX8_lawFor_X8_in rfl rfl rfl zd_X8_in.2 ⟨Nat.le_of_ble_eq_true rfl, Nat.le_of_ble_eq_true rfl⟩) ⟨ax_blind (fun _ _ _ _ _ => trivial), ax_pre hPc hKc hDc (fun _ _ => trivial)⟩ rfl rfl hl.1 rfl (lv_room (Nat.le_of_ble_eq_true rfl)) dX8_lawFor_14 ⟨Nat.le_of_ble_eq_true rfl, Nat.le_of_ble_eq_true rfl⟩) hS (fun q _ h => hFc q h) hFc (fun r14 u t H locs ht hvm hw hB hz1 hk1 hS => ?_)
    obtain ⟨hP1, hK1, hD1⟩ := hB
    rw [ht] at hP1
    obtain ⟨hP, hD⟩ := zc_back (w := [(a0, .inr (8, [Value.int v1na0_0, a0g_1, a0g_2, a0g_3, a0g_4, a0g_5, a0g_6, a0g_7, a0g_8, a0g_9, a0g_10, Value.int v1na0_11, a0g_12, a0g_13, Value.int a0_14, Value.ref a0_15, a0g_16, a0g_17, a0g_18, a0g_19, a0g_20, a0g_21, a0g_22, a0g_23, a0g_24, a0g_25, a0g_26, a0g_27, a0g_28, a0g_29, a0g_30, a0g_31, a0g_32, a0g_33, Value.ref a0_34, a0g_35, a0g_36, a0g_37, a0g_38, a0g_39])), (a0_15, .inl (ka0_15, 156, .inl (fa0_15))), (a0_34, .inl (ka0_34, 9, .inl (fa0_34)))]) hP hD hCc hk1 hFc hP1 hD1 [.inl 0, .inl 1, .inl 2] (by decide +kernel) rfl
    rcases hw with hw | hw
    · obtain ⟨hw, h14⟩ := hw
      subst hw
      have l14k0_a2 : (0 : Int) ≤ a2.toInt := Int.le_trans zq5 h14.1
      have u14k0_a2 : a2.toInt ≤ (99 : Int) := Int.le_trans h14.2 zq43
      obtain ⟨hPc, hDc, hFc, hCc⟩ := zc_cut (wc := [(a0, .inr (8, [Value.int v1na0_0, a0g_1, a0g_2, a0g_3, a0g_4, a0g_5, a0g_6, a0g_7, a0g_8, a0g_9, a0g_10, Value.int v1na0_11, a0g_12, a0g_13, Value.int a0_14, Value.ref a0_15, a0g_16, a0g_17, a0g_18, a0g_19, a0g_20, a0g_21, a0g_22, a0g_23, a0g_24, a0g_25, a0g_26, a0g_27, a0g_28, a0g_29, a0g_30, a0g_31, a0g_32, a0g_33, Value.ref a0_34, a0g_35, a0g_36, a0g_37, a0g_38, a0g_39]))]) hP hD hS hA [0] (by decide +kernel) rfl
      have hKc := hK.sub (tys' := []) [] rfl
      refine va_calli (va_runV (As := [.int 1, .int 1]) (rest := []) ⟨hx, hb, hml, hown, hts⟩ (c_X8_whyB l dC dI H.size a0 1 1 (Value.int v1na0_0) a0g_1 a0g_2 a0g_3 a0g_4 a0g_5 a0g_6 a0g_7 a0g_8 a0g_9 a0g_10 (Value.int v1na0_11) a0g_12 a0g_13 (Value.int a0_14) (Value.ref a0_15) a0g_16 a0g_17 a0g_18 a0g_19 a0g_20 a0g_21 a0g_22 a0g_23 a0g_24 a0g_25 a0g_26 a0g_27 a0g_28 a0g_29 a0g_30 a0g_31 a0g_32 a0g_33 (Value.ref a0_34) a0g_35 a0g_36 a0g_37 a0g_38 a0g_39 (Int.le_trans zq4 zq1) zq0 (Int.le_trans zq4 zq1) zq0) (cwV 2 hts gX8_lawFor_X8_why rfl rfl rfl zd_X8_why ⟨Nat.le_of_ble_eq_true rfl, Nat.le_of_ble_eq_true rfl⟩) ⟨ax_blind (fun _ _ _ _ _ => trivial), zr_8 hKc hPc (q0 := 0) rfl, ax_pre hPc hKc hDc (fun _ _ => trivial)⟩ rfl rfl hl.1 rfl (lv_room (Nat.le_of_ble_eq_true rfl)) dX8_lawFor_17 ⟨Nat.le_of_ble_eq_true rfl, Nat.le_of_ble_eq_true rfl⟩) hS (fun q _ h => hFc q h) hFc (fun r17 u t H locs ht hvm hw hB hz1 hk1 hS => ?_)
      obtain ⟨hP1, hK1, hD1⟩ := hB
      rw [ht] at hP1
      obtain ⟨hP, hD⟩ := zc_back (w := [(a0, .inr (8, [Value.int v1na0_0, a0g_1, a0g_2, a0g_3, a0g_4, a0g_5, a0g_6, a0g_7, a0g_8, a0g_9, a0g_10, Value.int v1na0_11, a0g_12, a0g_13, Value.int a0_14, Value.ref a0_15, a0g_16, a0g_17, a0g_18, a0g_19, a0g_20, a0g_21, a0g_22, a0g_23, a0g_24, a0g_25, a0g_26, a0g_27, a0g_28, a0g_29, a0g_30, a0g_31, a0g_32, a0g_33, Value.ref a0_34, a0g_35, a0g_36, a0g_37, a0g_38, a0g_39])), (a0_15, .inl (ka0_15, 156, .inl (fa0_15))), (a0_34, .inl (ka0_34, 9, .inl (fa0_34)))]) hP hD hCc hk1 hFc hP1 hD1 [.inr 0, .inl 1, .inl 2] (by decide +kernel) rfl
      rcases hw with hw | hw | hw
      · obtain ⟨hw, h17_0, h17_1, h17_2, h17_3⟩ := hw
        subst hw
        exact absurd h17_3 (by decide)
      · obtain ⟨hw, h17_0, h17_1⟩ := hw
        subst hw
        exact absurd h17_1 (by decide)
      · obtain ⟨hw, h17_0, h17_1, h17_2, h17_3⟩ := hw
        subst hw
        refine lv_istore_n (lv' := [(3, .int 0), (0, .ref a0), (1, .int a1), (2, .int a2)]) hx hb dX8_lawFor_20 rfl hl (by decide) rfl (fun ls hl => ?_)
        refine lv_iload_n hx hb dX8_lawFor_21 rfl (lv_at hl 0 rfl) ?_
        refine lv_if_eq (tgt := 31) hx hb dX8_lawFor_22 (by decide) (fun _ => ?_) (fun c22 => absurd (by decide +kernel) c22)
        refine lv_iconst (v := 0) hx hb dX8_lawFor_31 zk_iconst_0 ?_
        refine lv_istore (lv' := [(4, .int 0), (3, .int 0), (0, .ref a0), (1, .int a1), (2, .int a2)]) hx hb dX8_lawFor_32 hl (by decide) rfl (fun ls hl => ?_)
        have J34 : ∀ (n : Nat) (j34l4 : Int32) (j34a0_34_a : Nat → Int32) (H : Heap) (locs : List Loc) (ls : Array Slot), (99 : Int) - j34l4.toInt ≤ (n : Int) → (0 : Int) ≤ j34l4.toInt → j34l4.toInt ≤ (98 : Int) → (j34l4.toInt ≤ a1.toInt * (fa0_15 0).toInt + a1.toInt) → va_P (dC, dI) vwCl [(a0, .inr (8, [Value.int v1na0_0, a0g_1, a0g_2, a0g_3, a0g_4, a0g_5, a0g_6, a0g_7, a0g_8, a0g_9, a0g_10, Value.int v1na0_11, a0g_12, a0g_13, Value.int a0_14, Value.ref a0_15, a0g_16, a0g_17, a0g_18, a0g_19, a0g_20, a0g_21, a0g_22, a0g_23, a0g_24, a0g_25, a0g_26, a0g_27, a0g_28, a0g_29, a0g_30, a0g_31, a0g_32, a0g_33, Value.ref a0_34, a0g_35, a0g_36, a0g_37, a0g_38, a0g_39])), (a0_15, .inl (ka0_15, 156, .inl (fa0_15))), (a0_34, .inl (ka0_34, 9, .inl (j34a0_34_a)))] H → va_D A [(a0, .inr (8, [Value.int v1na0_0, a0g_1, a0g_2, a0g_3, a0g_4, a0g_5, a0g_6, a0g_7, a0g_8, a0g_9, a0g_10, Value.int v1na0_11, a0g_12, a0g_13, Value.int a0_14, Value.ref a0_15, a0g_16, a0g_17, a0g_18, a0g_19, a0g_20, a0g_21, a0g_22, a0g_23, a0g_24, a0g_25, a0g_26, a0g_27, a0g_28, a0g_29, a0g_30, a0g_31, a0g_32, a0g_33, Value.ref a0_34, a0g_35, a0g_36, a0g_37, a0g_38, a0g_39])), (a0_15, .inl (ka0_15, 156, .inl (fa0_15))), (a0_34, .inl (ka0_34, 9, .inl (j34a0_34_a)))] → va_S A s.heap H locs → lv_has ls 5 [(0, .ref a0), (1, .int a1), (2, .int a2), (4, .int j34l4)] → K H locs (F0 m 34 ls []) := by
          intro n
          induction n with
          | zero =>
            intro j34l4 j34a0_34_a H locs ls hm bj34l4_l bj34l4_u lf34 hP hD hS hl
            have h8 := ai_min j34l4
            have h9 := ai_max j34l4
            exact absurd hm (by omega)
          | succ n ih34 =>
            intro j34l4 j34a0_34_a H locs ls hm bj34l4_l bj34l4_u lf34 hP hD hS hl
            refine (hK0 _ _ _).mpr ?_
            have hm34 := hm
            refine lv_aload_n hx hb dX8_lawFor_34 rfl (lv_at hl 0 rfl) ?_
            have u34z_j34l4 : j34l4.toInt ≤ (80 : Int) := lf_b lf34 l7k0_a1 u7k0_a1 (Int.le_trans (by decide) (bfa0_15.1 0 (Nat.le_refl 0) (Nat.le_refl 0)).1) (bfa0_15.1 0 (Nat.le_refl 0) (Nat.le_refl 0)).2
            refine lv_iload hx hb dX8_lawFor_35 (lv_at hl 3 rfl) ?_
            refine lv_iload_n hx hb dX8_lawFor_37 rfl (lv_at hl 2 rfl) ?_
            obtain ⟨hPc, hDc, hFc, hCc⟩ := zc_cut (wc := [(a0, .inr (8, [Value.int v1na0_0, a0g_1, a0g_2, a0g_3, a0g_4, a0g_5, a0g_6, a0g_7, a0g_8, a0g_9, a0g_10, Value.int v1na0_11, a0g_12, a0g_13, Value.int a0_14, Value.ref a0_15, a0g_16, a0g_17, a0g_18, a0g_19, a0g_20, a0g_21, a0g_22, a0g_23, a0g_24, a0g_25, a0g_26, a0g_27, a0g_28, a0g_29, a0g_30, a0g_31, a0g_32, a0g_33, Value.ref a0_34, a0g_35, a0g_36, a0g_37, a0g_38, a0g_39])), (a0_15, .inl (ka0_15, 156, .inl (fa0_15))), (a0_34, .inl (ka0_34, 9, .inl (j34a0_34_a)))]) hP hD hS hA [0, 1, 2] (by decide +kernel) rfl
            have hKc := hK.sub (tys' := [(ka0_15, .int), (ka0_34, .int)]) [0, 1] rfl
            refine va_calli (va_runV (As := [.int j34l4, .int a2]) (rest := []) ⟨hx, hb, hml, hown, hts⟩ (c_X8_byCode l dC dI H.size a0 j34l4 a2 (Value.int v1na0_0) a0g_1 a0g_2 a0g_3 a0g_4 a0g_5 a0g_6 a0g_7 a0g_8 a0g_9 a0g_10 (Value.int v1na0_11) a0g_12 a0g_13 (Value.int a0_14) a0g_16 a0g_17 a0g_18 a0g_19 a0g_20 a0g_21 a0g_22 a0g_23 a0g_24 a0g_25 a0g_26 a0g_27 a0g_28 a0g_29 a0g_30 a0g_31 a0g_32 a0g_33 a0g_35 a0g_36 a0g_37 a0g_38 a0g_39 a0_15 a0_34 ka0_15 fa0_15 ka0_34 j34a0_34_a bj34l4_l (Int.le_trans u34z_j34l4 zq192) l14k0_a2 (Int.le_trans u14k0_a2 zq186) bfa0_15) (cwV 2 hts gX8_lawFor_X8_byCode rfl rfl rfl zd_X8_byCode ⟨Nat.le_of_ble_eq_true rfl, Nat.le_of_ble_eq_true rfl⟩) ⟨ax_blind (fun _ _ _ _ _ => trivial), zr_8 hKc hPc (q0 := 0) rfl, ax_pre hPc hKc hDc (fun _ _ => trivial)⟩ rfl rfl hl.1 rfl (lv_room (Nat.le_of_ble_eq_true rfl)) dX8_lawFor_38 ⟨Nat.le_of_ble_eq_true rfl, Nat.le_of_ble_eq_true rfl⟩) hS (fun q _ h => hFc q h) hFc (fun r38 u t H locs ht hvm hw hB hz1 hk1 hS => ?_)
            obtain ⟨v38nfa0_34, hP1, hK1, hD1⟩ := hB
            rw [ht] at hP1
            obtain ⟨hP, hD⟩ := zc_back (w := [(a0, .inr (8, [Value.int v1na0_0, a0g_1, a0g_2, a0g_3, a0g_4, a0g_5, a0g_6, a0g_7, a0g_8, a0g_9, a0g_10, Value.int v1na0_11, a0g_12, a0g_13, Value.int a0_14, Value.ref a0_15, a0g_16, a0g_17, a0g_18, a0g_19, a0g_20, a0g_21, a0g_22, a0g_23, a0g_24, a0g_25, a0g_26, a0g_27, a0g_28, a0g_29, a0g_30, a0g_31, a0g_32, a0g_33, Value.ref a0_34, a0g_35, a0g_36, a0g_37, a0g_38, a0g_39])), (a0_15, .inl (ka0_15, 156, .inl (fa0_15))), (a0_34, .inl (ka0_34, 9, .inl (v38nfa0_34)))]) hP hD hCc hk1 hFc hP1 hD1 [.inr 0, .inr 1, .inr 2] (by decide +kernel) rfl
            rcases hw with hw
            · obtain ⟨⟨lr38, ur38⟩, mr38⟩ := hw
              refine lv_iload_n hx hb dX8_lawFor_41 rfl (lv_at hl 1 rfl) ?_
              refine lv_icmp_eq (tgt := 51) hx hb dX8_lawFor_42 (by decide) (fun c42 => ?_) (fun c42 => ?_)
              · have gc42 := ai_eq c42
                have u42t_r38 : r38.toInt ≤ (8 : Int) := ur38
                have l42t_r38 : (0 : Int) ≤ r38.toInt := lr38
                have u42t_a1 : a1.toInt ≤ (8 : Int) := u7k0_a1
                have l42t_a1 : (0 : Int) ≤ a1.toInt := l7k0_a1
                refine lv_aload_n hx hb dX8_lawFor_51 rfl (lv_at hl 0 rfl) ?_
                refine lv_iload hx hb dX8_lawFor_52 (lv_at hl 3 rfl) ?_
                obtain ⟨hPc, hDc, hFc, hCc⟩ := zc_cut (wc := [(a0, .inr (8, [Value.int v1na0_0, a0g_1, a0g_2, a0g_3, a0g_4, a0g_5, a0g_6, a0g_7, a0g_8, a0g_9, a0g_10, Value.int v1na0_11, a0g_12, a0g_13, Value.int a0_14, Value.ref a0_15, a0g_16, a0g_17, a0g_18, a0g_19, a0g_20, a0g_21, a0g_22, a0g_23, a0g_24, a0g_25, a0g_26, a0g_27, a0g_28, a0g_29, a0g_30, a0g_31, a0g_32, a0g_33, Value.ref a0_34, a0g_35, a0g_36, a0g_37, a0g_38, a0g_39])), (a0_15, .inl (ka0_15, 156, .inl (fa0_15)))]) hP hD hS hA [0, 1] (by decide +kernel) rfl
                have hKc := hK.sub (tys' := [(ka0_15, .int)]) [0] rfl
                refine va_calli (va_runV (As := [.int j34l4]) (rest := []) ⟨hx, hb, hml, hown, hts⟩ (c_X8_numberOf l dC dI H.size a0 j34l4 (Value.int v1na0_0) a0g_1 a0g_2 a0g_3 a0g_4 a0g_5 a0g_6 a0g_7 a0g_8 a0g_9 a0g_10 (Value.int v1na0_11) a0g_12 a0g_13 (Value.int a0_14) a0g_16 a0g_17 a0g_18 a0g_19 a0g_20 a0g_21 a0g_22 a0g_23 a0g_24 a0g_25 a0g_26 a0g_27 a0g_28 a0g_29 a0g_30 a0g_31 a0g_32 a0g_33 (Value.ref a0_34) a0g_35 a0g_36 a0g_37 a0g_38 a0g_39 a0_15 ka0_15 fa0_15 bj34l4_l (Int.le_trans u34z_j34l4 zq192) bfa0_15) (cwV 1 hts gX8_lawFor_X8_numberOf rfl rfl rfl zd_X8_numberOf ⟨Nat.le_of_ble_eq_true rfl, Nat.le_of_ble_eq_true rfl⟩) ⟨ax_blind (fun _ _ _ _ _ => trivial), zr_8 hKc hPc (q0 := 0) rfl, ax_pre hPc hKc hDc (fun _ _ => trivial)⟩ rfl rfl hl.1 rfl (lv_room (Nat.le_of_ble_eq_true rfl)) dX8_lawFor_54 ⟨Nat.le_of_ble_eq_true rfl, Nat.le_of_ble_eq_true rfl⟩) hS (fun q _ h => hFc q h) hFc (fun r54 u t H locs ht hvm hw hB hz1 hk1 hS => ?_)
                obtain ⟨hP1, hK1, hD1⟩ := hB
                rw [ht] at hP1
                obtain ⟨hP, hD⟩ := zc_back (w := [(a0, .inr (8, [Value.int v1na0_0, a0g_1, a0g_2, a0g_3, a0g_4, a0g_5, a0g_6, a0g_7, a0g_8, a0g_9, a0g_10, Value.int v1na0_11, a0g_12, a0g_13, Value.int a0_14, Value.ref a0_15, a0g_16, a0g_17, a0g_18, a0g_19, a0g_20, a0g_21, a0g_22, a0g_23, a0g_24, a0g_25, a0g_26, a0g_27, a0g_28, a0g_29, a0g_30, a0g_31, a0g_32, a0g_33, Value.ref a0_34, a0g_35, a0g_36, a0g_37, a0g_38, a0g_39])), (a0_15, .inl (ka0_15, 156, .inl (fa0_15))), (a0_34, .inl (ka0_34, 9, .inl (v38nfa0_34)))]) hP hD hCc hk1 hFc hP1 hD1 [.inr 0, .inr 1, .inl 2] (by decide +kernel) rfl
                have hw : (0 : Int) ≤ r54.toInt ∧ r54.toInt ≤ (72888 : Int) := hw
                obtain ⟨h54_0, h54_1⟩ := hw
                exact W.iret (v := r54) hx hb hr (fun t ht hW => ⟨⟨r54, (), rfl, ⟨(Int.le_trans zq69 h54_0), h54_1⟩, v1na0_0, v1na0_11, v38nfa0_34, by rw [ht]; exact hP, va_K.moved hW.alike hK, hD⟩, hS.F ht⟩) hS.2.2 dX8_lawFor_57
              · have gc42 := ai_ne c42
                obtain ⟨x45, ex45⟩ : ∃ y : Int32, y = j34l4 + Int32.ofInt 1 := ⟨_, rfl⟩
                have qx45 : x45.toInt = j34l4.toInt + 1 := ai_inc ex45 (by decide) (by decide) u34z_j34l4 (by decide)
                have bx45 : (1 : Int) ≤ x45.toInt ∧ x45.toInt ≤ 81 := ⟨by rw [qx45]; exact Int.add_le_add bj34l4_l (Int.le_refl _), by rw [qx45]; exact Int.add_le_add u34z_j34l4 (Int.le_refl _)⟩
                refine lv_iinc (v := x45) (lv' := [(4, .int x45), (0, .ref a0), (1, .int a1), (2, .int a2)]) hx hb dX8_lawFor_45 hl (k := 3) rfl ex45.symm (by decide) rfl (fun ls hl => ?_)
                refine lv_goto (tgt := 34) hx hb dX8_lawFor_48 (by decide) ?_
                exact (hK0 _ _ _).mp (ih34 x45 v38nfa0_34 _ _ _ (by have h0 := qx45; omega) (Int.le_trans zq4 bx45.1) (Int.le_trans bx45.2 zq193) (lf_s lf34 mr38 c42 l7k0_a1 h7.2.2 qx45) hP hD hS (lv_sub hl [1, 2, 3, 0] rfl))
        exact (hK0 _ _ _).mp (J34 99 0 fa0_34 _ _ _ (by have h1 : (0 : Int) ≤ (0 : Int32).toInt := zq5; have h2 : (0 : Int32).toInt ≤ (0 : Int) := zq6; omega) zq5 (Int.le_trans zq6 zq194) (lf_0 l7k0_a1 (Int.le_trans (by decide) (bfa0_15.1 0 (Nat.le_refl 0) (Nat.le_refl 0)).1)) hP hD hS (lv_sub hl [2, 3, 4, 0] rfl))
    · obtain ⟨hw, h14⟩ := hw
      subst hw
      obtain ⟨hPc, hDc, hFc, hCc⟩ := zc_cut (wc := [(a0, .inr (8, [Value.int v1na0_0, a0g_1, a0g_2, a0g_3, a0g_4, a0g_5, a0g_6, a0g_7, a0g_8, a0g_9, a0g_10, Value.int v1na0_11, a0g_12, a0g_13, Value.int a0_14, Value.ref a0_15, a0g_16, a0g_17, a0g_18, a0g_19, a0g_20, a0g_21, a0g_22, a0g_23, a0g_24, a0g_25, a0g_26, a0g_27, a0g_28, a0g_29, a0g_30, a0g_31, a0g_32, a0g_33, Value.ref a0_34, a0g_35, a0g_36, a0g_37, a0g_38, a0g_39]))]) hP hD hS hA [0] (by decide +kernel) rfl
      have hKc := hK.sub (tys' := []) [] rfl
      refine va_calli (va_runV (As := [.int 1, .int 0]) (rest := []) ⟨hx, hb, hml, hown, hts⟩ (c_X8_whyB l dC dI H.size a0 1 0 (Value.int v1na0_0) a0g_1 a0g_2 a0g_3 a0g_4 a0g_5 a0g_6 a0g_7 a0g_8 a0g_9 a0g_10 (Value.int v1na0_11) a0g_12 a0g_13 (Value.int a0_14) (Value.ref a0_15) a0g_16 a0g_17 a0g_18 a0g_19 a0g_20 a0g_21 a0g_22 a0g_23 a0g_24 a0g_25 a0g_26 a0g_27 a0g_28 a0g_29 a0g_30 a0g_31 a0g_32 a0g_33 (Value.ref a0_34) a0g_35 a0g_36 a0g_37 a0g_38 a0g_39 (Int.le_trans zq4 zq1) zq0 zq5 (Int.le_trans zq6 zq4)) (cwV 2 hts gX8_lawFor_X8_why rfl rfl rfl zd_X8_why ⟨Nat.le_of_ble_eq_true rfl, Nat.le_of_ble_eq_true rfl⟩) ⟨ax_blind (fun _ _ _ _ _ => trivial), zr_8 hKc hPc (q0 := 0) rfl, ax_pre hPc hKc hDc (fun _ _ => trivial)⟩ rfl rfl hl.1 rfl (lv_room (Nat.le_of_ble_eq_true rfl)) dX8_lawFor_17 ⟨Nat.le_of_ble_eq_true rfl, Nat.le_of_ble_eq_true rfl⟩) hS (fun q _ h => hFc q h) hFc (fun r17 u t H locs ht hvm hw hB hz1 hk1 hS => ?_)
      obtain ⟨hP1, hK1, hD1⟩ := hB
      rw [ht] at hP1
      obtain ⟨hP, hD⟩ := zc_back (w := [(a0, .inr (8, [Value.int v1na0_0, a0g_1, a0g_2, a0g_3, a0g_4, a0g_5, a0g_6, a0g_7, a0g_8, a0g_9, a0g_10, Value.int v1na0_11, a0g_12, a0g_13, Value.int a0_14, Value.ref a0_15, a0g_16, a0g_17, a0g_18, a0g_19, a0g_20, a0g_21, a0g_22, a0g_23, a0g_24, a0g_25, a0g_26, a0g_27, a0g_28, a0g_29, a0g_30, a0g_31, a0g_32, a0g_33, Value.ref a0_34, a0g_35, a0g_36, a0g_37, a0g_38, a0g_39])), (a0_15, .inl (ka0_15, 156, .inl (fa0_15))), (a0_34, .inl (ka0_34, 9, .inl (fa0_34)))]) hP hD hCc hk1 hFc hP1 hD1 [.inr 0, .inl 1, .inl 2] (by decide +kernel) rfl
      rcases hw with hw | hw | hw
      · obtain ⟨hw, h17_0, h17_1, h17_2, h17_3⟩ := hw
        subst hw
        refine lv_istore_n (lv' := [(3, .int 2), (0, .ref a0), (1, .int a1), (2, .int a2)]) hx hb dX8_lawFor_20 rfl hl (by decide) rfl (fun ls hl => ?_)
        refine lv_iload_n hx hb dX8_lawFor_21 rfl (lv_at hl 0 rfl) ?_
        refine lv_if_eq (tgt := 31) hx hb dX8_lawFor_22 (by decide) (fun c22 => absurd c22 (by decide +kernel)) (fun _ => ?_)
        refine lv_aload_n hx hb dX8_lawFor_25 rfl (lv_at hl 1 rfl) ?_
        refine lv_iload_n hx hb dX8_lawFor_26 rfl (lv_at hl 0 rfl) ?_
        obtain ⟨hPc, hDc, hFc, hCc⟩ := zc_cut (wc := [(a0, .inr (8, [Value.int v1na0_0, a0g_1, a0g_2, a0g_3, a0g_4, a0g_5, a0g_6, a0g_7, a0g_8, a0g_9, a0g_10, Value.int v1na0_11, a0g_12, a0g_13, Value.int a0_14, Value.ref a0_15, a0g_16, a0g_17, a0g_18, a0g_19, a0g_20, a0g_21, a0g_22, a0g_23, a0g_24, a0g_25, a0g_26, a0g_27, a0g_28, a0g_29, a0g_30, a0g_31, a0g_32, a0g_33, Value.ref a0_34, a0g_35, a0g_36, a0g_37, a0g_38, a0g_39]))]) hP hD hS hA [0] (by decide +kernel) rfl
        have hKc := hK.sub (tys' := []) [] rfl
        refine va_calli (va_runV (As := [.int 2]) (rest := []) ⟨hx, hb, hml, hown, hts⟩ (c_X8_no l dC dI H.size a0 2 (Value.int v1na0_0) a0g_1 a0g_2 a0g_3 a0g_4 a0g_5 a0g_6 a0g_7 a0g_8 a0g_9 a0g_10 a0g_12 a0g_13 (Value.int a0_14) (Value.ref a0_15) a0g_16 a0g_17 a0g_18 a0g_19 a0g_20 a0g_21 a0g_22 a0g_23 a0g_24 a0g_25 a0g_26 a0g_27 a0g_28 a0g_29 a0g_30 a0g_31 a0g_32 a0g_33 (Value.ref a0_34) a0g_35 a0g_36 a0g_37 a0g_38 a0g_39 v1na0_11 ) (cwV 1 hts gX8_lawFor_X8_no rfl rfl rfl zd_X8_no ⟨Nat.le_of_ble_eq_true rfl, Nat.le_of_ble_eq_true rfl⟩) ⟨ax_blind (fun _ _ _ _ _ => trivial), zr_8 hKc hPc (q0 := 0) rfl, ax_pre hPc hKc hDc (fun _ _ => trivial)⟩ rfl rfl hl.1 rfl (lv_room (Nat.le_of_ble_eq_true rfl)) dX8_lawFor_27 ⟨Nat.le_of_ble_eq_true rfl, Nat.le_of_ble_eq_true rfl⟩) hS (fun q _ h => hFc q h) hFc (fun r27 u t H locs ht hvm hw hB hz1 hk1 hS => ?_)
        obtain ⟨v27na0_11, hP1, hK1, hD1⟩ := hB
        rw [ht] at hP1
        obtain ⟨hP, hD⟩ := zc_back (w := [(a0, .inr (8, [Value.int v1na0_0, a0g_1, a0g_2, a0g_3, a0g_4, a0g_5, a0g_6, a0g_7, a0g_8, a0g_9, a0g_10, Value.int v27na0_11, a0g_12, a0g_13, Value.int a0_14, Value.ref a0_15, a0g_16, a0g_17, a0g_18, a0g_19, a0g_20, a0g_21, a0g_22, a0g_23, a0g_24, a0g_25, a0g_26, a0g_27, a0g_28, a0g_29, a0g_30, a0g_31, a0g_32, a0g_33, Value.ref a0_34, a0g_35, a0g_36, a0g_37, a0g_38, a0g_39])), (a0_15, .inl (ka0_15, 156, .inl (fa0_15))), (a0_34, .inl (ka0_34, 9, .inl (fa0_34)))]) hP hD hCc hk1 hFc hP1 hD1 [.inr 0, .inl 1, .inl 2] (by decide +kernel) rfl
        have hw : r27 = (-1) := hw
        have hw := hw.symm
        subst hw
        exact W.iret (v := (-1)) hx hb hr (fun t ht hW => ⟨⟨(-1), (), rfl, ⟨zq70, (Int.le_trans zq71 zq184)⟩, v1na0_0, v27na0_11, fa0_34, by rw [ht]; exact hP, va_K.moved hW.alike hK, hD⟩, hS.F ht⟩) hS.2.2 dX8_lawFor_30
      · obtain ⟨hw, h17_0, h17_1⟩ := hw
        subst hw
        exact absurd h17_1 (by decide)
      · obtain ⟨hw, h17_0, h17_1, h17_2, h17_3⟩ := hw
        subst hw
        exact absurd h17_2 (by decide)
  · subst hw
    refine lv_iload_n hx hb dX8_lawFor_10 rfl (lv_at hl 2 rfl) ?_
    refine lv_iconst (v := 0) hx hb dX8_lawFor_11 zk_iconst_0 ?_
    refine lv_bipush (v := 99) hx hb dX8_lawFor_12 zk_bipush_99 ?_
    obtain ⟨hPc, hDc, hFc, hCc⟩ := zc_cut (wc := []) hP hD hS hA [] (by decide +kernel) rfl
    have hKc := hK.sub (tys' := []) [] rfl
    refine va_calli (va_runS (As := [.int a2, .int 0, .int 99]) (rest := [.int 0, .ref a0]) ⟨hx, hb, hml, hown, hts⟩ (c_X8_in l dC dI H.size a2 0 99 ) (va_cwS 3 hts gX8_lawFor_X8_in rfl rfl rfl zd_X8_in.2 ⟨Nat.le_of_ble_eq_true rfl, Nat.le_of_ble_eq_true rfl⟩) ⟨ax_blind (fun _ _ _ _ _ => trivial), ax_pre hPc hKc hDc (fun _ _ => trivial)⟩ rfl rfl hl.1 rfl (lv_room (Nat.le_of_ble_eq_true rfl)) dX8_lawFor_14 ⟨Nat.le_of_ble_eq_true rfl, Nat.le_of_ble_eq_true rfl⟩) hS (fun q _ h => hFc q h) hFc (fun r14 u t H locs ht hvm hw hB hz1 hk1 hS => ?_)
    obtain ⟨hP1, hK1, hD1⟩ := hB
    rw [ht] at hP1
    obtain ⟨hP, hD⟩ := zc_back (w := [(a0, .inr (8, [Value.int v1na0_0, a0g_1, a0g_2, a0g_3, a0g_4, a0g_5, a0g_6, a0g_7, a0g_8, a0g_9, a0g_10, Value.int v1na0_11, a0g_12, a0g_13, Value.int a0_14, Value.ref a0_15, a0g_16, a0g_17, a0g_18, a0g_19, a0g_20, a0g_21, a0g_22, a0g_23, a0g_24, a0g_25, a0g_26, a0g_27, a0g_28, a0g_29, a0g_30, a0g_31, a0g_32, a0g_33, Value.ref a0_34, a0g_35, a0g_36, a0g_37, a0g_38, a0g_39])), (a0_15, .inl (ka0_15, 156, .inl (fa0_15))), (a0_34, .inl (ka0_34, 9, .inl (fa0_34)))]) hP hD hCc hk1 hFc hP1 hD1 [.inl 0, .inl 1, .inl 2] (by decide +kernel) rfl
    rcases hw with hw | hw
    · obtain ⟨hw, h14⟩ := hw
      subst hw
      have l14k0_a2 : (0 : Int) ≤ a2.toInt := Int.le_trans zq5 h14.1
      have u14k0_a2 : a2.toInt ≤ (99 : Int) := Int.le_trans h14.2 zq43
      obtain ⟨hPc, hDc, hFc, hCc⟩ := zc_cut (wc := [(a0, .inr (8, [Value.int v1na0_0, a0g_1, a0g_2, a0g_3, a0g_4, a0g_5, a0g_6, a0g_7, a0g_8, a0g_9, a0g_10, Value.int v1na0_11, a0g_12, a0g_13, Value.int a0_14, Value.ref a0_15, a0g_16, a0g_17, a0g_18, a0g_19, a0g_20, a0g_21, a0g_22, a0g_23, a0g_24, a0g_25, a0g_26, a0g_27, a0g_28, a0g_29, a0g_30, a0g_31, a0g_32, a0g_33, Value.ref a0_34, a0g_35, a0g_36, a0g_37, a0g_38, a0g_39]))]) hP hD hS hA [0] (by decide +kernel) rfl
      have hKc := hK.sub (tys' := []) [] rfl
      refine va_calli (va_runV (As := [.int 0, .int 1]) (rest := []) ⟨hx, hb, hml, hown, hts⟩ (c_X8_whyB l dC dI H.size a0 0 1 (Value.int v1na0_0) a0g_1 a0g_2 a0g_3 a0g_4 a0g_5 a0g_6 a0g_7 a0g_8 a0g_9 a0g_10 (Value.int v1na0_11) a0g_12 a0g_13 (Value.int a0_14) (Value.ref a0_15) a0g_16 a0g_17 a0g_18 a0g_19 a0g_20 a0g_21 a0g_22 a0g_23 a0g_24 a0g_25 a0g_26 a0g_27 a0g_28 a0g_29 a0g_30 a0g_31 a0g_32 a0g_33 (Value.ref a0_34) a0g_35 a0g_36 a0g_37 a0g_38 a0g_39 zq5 (Int.le_trans zq6 zq4) (Int.le_trans zq4 zq1) zq0) (cwV 2 hts gX8_lawFor_X8_why rfl rfl rfl zd_X8_why ⟨Nat.le_of_ble_eq_true rfl, Nat.le_of_ble_eq_true rfl⟩) ⟨ax_blind (fun _ _ _ _ _ => trivial), zr_8 hKc hPc (q0 := 0) rfl, ax_pre hPc hKc hDc (fun _ _ => trivial)⟩ rfl rfl hl.1 rfl (lv_room (Nat.le_of_ble_eq_true rfl)) dX8_lawFor_17 ⟨Nat.le_of_ble_eq_true rfl, Nat.le_of_ble_eq_true rfl⟩) hS (fun q _ h => hFc q h) hFc (fun r17 u t H locs ht hvm hw hB hz1 hk1 hS => ?_)
      obtain ⟨hP1, hK1, hD1⟩ := hB
      rw [ht] at hP1
      obtain ⟨hP, hD⟩ := zc_back (w := [(a0, .inr (8, [Value.int v1na0_0, a0g_1, a0g_2, a0g_3, a0g_4, a0g_5, a0g_6, a0g_7, a0g_8, a0g_9, a0g_10, Value.int v1na0_11, a0g_12, a0g_13, Value.int a0_14, Value.ref a0_15, a0g_16, a0g_17, a0g_18, a0g_19, a0g_20, a0g_21, a0g_22, a0g_23, a0g_24, a0g_25, a0g_26, a0g_27, a0g_28, a0g_29, a0g_30, a0g_31, a0g_32, a0g_33, Value.ref a0_34, a0g_35, a0g_36, a0g_37, a0g_38, a0g_39])), (a0_15, .inl (ka0_15, 156, .inl (fa0_15))), (a0_34, .inl (ka0_34, 9, .inl (fa0_34)))]) hP hD hCc hk1 hFc hP1 hD1 [.inr 0, .inl 1, .inl 2] (by decide +kernel) rfl
      rcases hw with hw | hw | hw
      · obtain ⟨hw, h17_0, h17_1, h17_2, h17_3⟩ := hw
        subst hw
        exact absurd h17_0 (by decide)
      · obtain ⟨hw, h17_0, h17_1⟩ := hw
        subst hw
        refine lv_istore_n (lv' := [(3, .int 1), (0, .ref a0), (1, .int a1), (2, .int a2)]) hx hb dX8_lawFor_20 rfl hl (by decide) rfl (fun ls hl => ?_)
        refine lv_iload_n hx hb dX8_lawFor_21 rfl (lv_at hl 0 rfl) ?_
        refine lv_if_eq (tgt := 31) hx hb dX8_lawFor_22 (by decide) (fun c22 => absurd c22 (by decide +kernel)) (fun _ => ?_)
        refine lv_aload_n hx hb dX8_lawFor_25 rfl (lv_at hl 1 rfl) ?_
        refine lv_iload_n hx hb dX8_lawFor_26 rfl (lv_at hl 0 rfl) ?_
        obtain ⟨hPc, hDc, hFc, hCc⟩ := zc_cut (wc := [(a0, .inr (8, [Value.int v1na0_0, a0g_1, a0g_2, a0g_3, a0g_4, a0g_5, a0g_6, a0g_7, a0g_8, a0g_9, a0g_10, Value.int v1na0_11, a0g_12, a0g_13, Value.int a0_14, Value.ref a0_15, a0g_16, a0g_17, a0g_18, a0g_19, a0g_20, a0g_21, a0g_22, a0g_23, a0g_24, a0g_25, a0g_26, a0g_27, a0g_28, a0g_29, a0g_30, a0g_31, a0g_32, a0g_33, Value.ref a0_34, a0g_35, a0g_36, a0g_37, a0g_38, a0g_39]))]) hP hD hS hA [0] (by decide +kernel) rfl
        have hKc := hK.sub (tys' := []) [] rfl
        refine va_calli (va_runV (As := [.int 1]) (rest := []) ⟨hx, hb, hml, hown, hts⟩ (c_X8_no l dC dI H.size a0 1 (Value.int v1na0_0) a0g_1 a0g_2 a0g_3 a0g_4 a0g_5 a0g_6 a0g_7 a0g_8 a0g_9 a0g_10 a0g_12 a0g_13 (Value.int a0_14) (Value.ref a0_15) a0g_16 a0g_17 a0g_18 a0g_19 a0g_20 a0g_21 a0g_22 a0g_23 a0g_24 a0g_25 a0g_26 a0g_27 a0g_28 a0g_29 a0g_30 a0g_31 a0g_32 a0g_33 (Value.ref a0_34) a0g_35 a0g_36 a0g_37 a0g_38 a0g_39 v1na0_11 ) (cwV 1 hts gX8_lawFor_X8_no rfl rfl rfl zd_X8_no ⟨Nat.le_of_ble_eq_true rfl, Nat.le_of_ble_eq_true rfl⟩) ⟨ax_blind (fun _ _ _ _ _ => trivial), zr_8 hKc hPc (q0 := 0) rfl, ax_pre hPc hKc hDc (fun _ _ => trivial)⟩ rfl rfl hl.1 rfl (lv_room (Nat.le_of_ble_eq_true rfl)) dX8_lawFor_27 ⟨Nat.le_of_ble_eq_true rfl, Nat.le_of_ble_eq_true rfl⟩) hS (fun q _ h => hFc q h) hFc (fun r27 u t H locs ht hvm hw hB hz1 hk1 hS => ?_)
        obtain ⟨v27na0_11, hP1, hK1, hD1⟩ := hB
        rw [ht] at hP1
        obtain ⟨hP, hD⟩ := zc_back (w := [(a0, .inr (8, [Value.int v1na0_0, a0g_1, a0g_2, a0g_3, a0g_4, a0g_5, a0g_6, a0g_7, a0g_8, a0g_9, a0g_10, Value.int v27na0_11, a0g_12, a0g_13, Value.int a0_14, Value.ref a0_15, a0g_16, a0g_17, a0g_18, a0g_19, a0g_20, a0g_21, a0g_22, a0g_23, a0g_24, a0g_25, a0g_26, a0g_27, a0g_28, a0g_29, a0g_30, a0g_31, a0g_32, a0g_33, Value.ref a0_34, a0g_35, a0g_36, a0g_37, a0g_38, a0g_39])), (a0_15, .inl (ka0_15, 156, .inl (fa0_15))), (a0_34, .inl (ka0_34, 9, .inl (fa0_34)))]) hP hD hCc hk1 hFc hP1 hD1 [.inr 0, .inl 1, .inl 2] (by decide +kernel) rfl
        have hw : r27 = (-1) := hw
        have hw := hw.symm
        subst hw
        exact W.iret (v := (-1)) hx hb hr (fun t ht hW => ⟨⟨(-1), (), rfl, ⟨zq70, (Int.le_trans zq71 zq184)⟩, v1na0_0, v27na0_11, fa0_34, by rw [ht]; exact hP, va_K.moved hW.alike hK, hD⟩, hS.F ht⟩) hS.2.2 dX8_lawFor_30
      · obtain ⟨hw, h17_0, h17_1, h17_2, h17_3⟩ := hw
        subst hw
        exact absurd h17_0 (by decide)
    · obtain ⟨hw, h14⟩ := hw
      subst hw
      obtain ⟨hPc, hDc, hFc, hCc⟩ := zc_cut (wc := [(a0, .inr (8, [Value.int v1na0_0, a0g_1, a0g_2, a0g_3, a0g_4, a0g_5, a0g_6, a0g_7, a0g_8, a0g_9, a0g_10, Value.int v1na0_11, a0g_12, a0g_13, Value.int a0_14, Value.ref a0_15, a0g_16, a0g_17, a0g_18, a0g_19, a0g_20, a0g_21, a0g_22, a0g_23, a0g_24, a0g_25, a0g_26, a0g_27, a0g_28, a0g_29, a0g_30, a0g_31, a0g_32, a0g_33, Value.ref a0_34, a0g_35, a0g_36, a0g_37, a0g_38, a0g_39]))]) hP hD hS hA [0] (by decide +kernel) rfl
      have hKc := hK.sub (tys' := []) [] rfl
      refine va_calli (va_runV (As := [.int 0, .int 0]) (rest := []) ⟨hx, hb, hml, hown, hts⟩ (c_X8_whyB l dC dI H.size a0 0 0 (Value.int v1na0_0) a0g_1 a0g_2 a0g_3 a0g_4 a0g_5 a0g_6 a0g_7 a0g_8 a0g_9 a0g_10 (Value.int v1na0_11) a0g_12 a0g_13 (Value.int a0_14) (Value.ref a0_15) a0g_16 a0g_17 a0g_18 a0g_19 a0g_20 a0g_21 a0g_22 a0g_23 a0g_24 a0g_25 a0g_26 a0g_27 a0g_28 a0g_29 a0g_30 a0g_31 a0g_32 a0g_33 (Value.ref a0_34) a0g_35 a0g_36 a0g_37 a0g_38 a0g_39 zq5 (Int.le_trans zq6 zq4) zq5 (Int.le_trans zq6 zq4)) (cwV 2 hts gX8_lawFor_X8_why rfl rfl rfl zd_X8_why ⟨Nat.le_of_ble_eq_true rfl, Nat.le_of_ble_eq_true rfl⟩) ⟨ax_blind (fun _ _ _ _ _ => trivial), zr_8 hKc hPc (q0 := 0) rfl, ax_pre hPc hKc hDc (fun _ _ => trivial)⟩ rfl rfl hl.1 rfl (lv_room (Nat.le_of_ble_eq_true rfl)) dX8_lawFor_17 ⟨Nat.le_of_ble_eq_true rfl, Nat.le_of_ble_eq_true rfl⟩) hS (fun q _ h => hFc q h) hFc (fun r17 u t H locs ht hvm hw hB hz1 hk1 hS => ?_)
      obtain ⟨hP1, hK1, hD1⟩ := hB
      rw [ht] at hP1
      obtain ⟨hP, hD⟩ := zc_back (w := [(a0, .inr (8, [Value.int v1na0_0, a0g_1, a0g_2, a0g_3, a0g_4, a0g_5, a0g_6, a0g_7, a0g_8, a0g_9, a0g_10, Value.int v1na0_11, a0g_12, a0g_13, Value.int a0_14, Value.ref a0_15, a0g_16, a0g_17, a0g_18, a0g_19, a0g_20, a0g_21, a0g_22, a0g_23, a0g_24, a0g_25, a0g_26, a0g_27, a0g_28, a0g_29, a0g_30, a0g_31, a0g_32, a0g_33, Value.ref a0_34, a0g_35, a0g_36, a0g_37, a0g_38, a0g_39])), (a0_15, .inl (ka0_15, 156, .inl (fa0_15))), (a0_34, .inl (ka0_34, 9, .inl (fa0_34)))]) hP hD hCc hk1 hFc hP1 hD1 [.inr 0, .inl 1, .inl 2] (by decide +kernel) rfl
      rcases hw with hw | hw | hw
      · obtain ⟨hw, h17_0, h17_1, h17_2, h17_3⟩ := hw
        subst hw
        exact absurd h17_0 (by decide)
      · obtain ⟨hw, h17_0, h17_1⟩ := hw
        subst hw
        refine lv_istore_n (lv' := [(3, .int 1), (0, .ref a0), (1, .int a1), (2, .int a2)]) hx hb dX8_lawFor_20 rfl hl (by decide) rfl (fun ls hl => ?_)
        refine lv_iload_n hx hb dX8_lawFor_21 rfl (lv_at hl 0 rfl) ?_
        refine lv_if_eq (tgt := 31) hx hb dX8_lawFor_22 (by decide) (fun c22 => absurd c22 (by decide +kernel)) (fun _ => ?_)
        refine lv_aload_n hx hb dX8_lawFor_25 rfl (lv_at hl 1 rfl) ?_
        refine lv_iload_n hx hb dX8_lawFor_26 rfl (lv_at hl 0 rfl) ?_
        obtain ⟨hPc, hDc, hFc, hCc⟩ := zc_cut (wc := [(a0, .inr (8, [Value.int v1na0_0, a0g_1, a0g_2, a0g_3, a0g_4, a0g_5, a0g_6, a0g_7, a0g_8, a0g_9, a0g_10, Value.int v1na0_11, a0g_12, a0g_13, Value.int a0_14, Value.ref a0_15, a0g_16, a0g_17, a0g_18, a0g_19, a0g_20, a0g_21, a0g_22, a0g_23, a0g_24, a0g_25, a0g_26, a0g_27, a0g_28, a0g_29, a0g_30, a0g_31, a0g_32, a0g_33, Value.ref a0_34, a0g_35, a0g_36, a0g_37, a0g_38, a0g_39]))]) hP hD hS hA [0] (by decide +kernel) rfl
        have hKc := hK.sub (tys' := []) [] rfl
        refine va_calli (va_runV (As := [.int 1]) (rest := []) ⟨hx, hb, hml, hown, hts⟩ (c_X8_no l dC dI H.size a0 1 (Value.int v1na0_0) a0g_1 a0g_2 a0g_3 a0g_4 a0g_5 a0g_6 a0g_7 a0g_8 a0g_9 a0g_10 a0g_12 a0g_13 (Value.int a0_14) (Value.ref a0_15) a0g_16 a0g_17 a0g_18 a0g_19 a0g_20 a0g_21 a0g_22 a0g_23 a0g_24 a0g_25 a0g_26 a0g_27 a0g_28 a0g_29 a0g_30 a0g_31 a0g_32 a0g_33 (Value.ref a0_34) a0g_35 a0g_36 a0g_37 a0g_38 a0g_39 v1na0_11 ) (cwV 1 hts gX8_lawFor_X8_no rfl rfl rfl zd_X8_no ⟨Nat.le_of_ble_eq_true rfl, Nat.le_of_ble_eq_true rfl⟩) ⟨ax_blind (fun _ _ _ _ _ => trivial), zr_8 hKc hPc (q0 := 0) rfl, ax_pre hPc hKc hDc (fun _ _ => trivial)⟩ rfl rfl hl.1 rfl (lv_room (Nat.le_of_ble_eq_true rfl)) dX8_lawFor_27 ⟨Nat.le_of_ble_eq_true rfl, Nat.le_of_ble_eq_true rfl⟩) hS (fun q _ h => hFc q h) hFc (fun r27 u t H locs ht hvm hw hB hz1 hk1 hS => ?_)
        obtain ⟨v27na0_11, hP1, hK1, hD1⟩ := hB
        rw [ht] at hP1
        obtain ⟨hP, hD⟩ := zc_back (w := [(a0, .inr (8, [Value.int v1na0_0, a0g_1, a0g_2, a0g_3, a0g_4, a0g_5, a0g_6, a0g_7, a0g_8, a0g_9, a0g_10, Value.int v27na0_11, a0g_12, a0g_13, Value.int a0_14, Value.ref a0_15, a0g_16, a0g_17, a0g_18, a0g_19, a0g_20, a0g_21, a0g_22, a0g_23, a0g_24, a0g_25, a0g_26, a0g_27, a0g_28, a0g_29, a0g_30, a0g_31, a0g_32, a0g_33, Value.ref a0_34, a0g_35, a0g_36, a0g_37, a0g_38, a0g_39])), (a0_15, .inl (ka0_15, 156, .inl (fa0_15))), (a0_34, .inl (ka0_34, 9, .inl (fa0_34)))]) hP hD hCc hk1 hFc hP1 hD1 [.inr 0, .inl 1, .inl 2] (by decide +kernel) rfl
        have hw : r27 = (-1) := hw
        have hw := hw.symm
        subst hw
        exact W.iret (v := (-1)) hx hb hr (fun t ht hW => ⟨⟨(-1), (), rfl, ⟨zq70, (Int.le_trans zq71 zq184)⟩, v1na0_0, v27na0_11, fa0_34, by rw [ht]; exact hP, va_K.moved hW.alike hK, hD⟩, hS.F ht⟩) hS.2.2 dX8_lawFor_30
      · obtain ⟨hw, h17_0, h17_1, h17_2, h17_3⟩ := hw
        subst hw
        exact absurd h17_0 (by decide)
