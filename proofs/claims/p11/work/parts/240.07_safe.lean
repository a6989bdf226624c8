set_option maxHeartbeats 4000000 in
set_option maxRecDepth 100000 in
theorem c_X8_patrol (l : Launch) (dC : Nat → ClassId) (dI : Nat → Nat → Nat) (sz : Nat) (a0 : Nat) (a1 : Int32) (a2 : Int32) (a0_0 : Int32) (a0g_1 a0g_2 a0g_3 a0g_4 a0g_5 a0g_6 a0g_7 a0g_8 a0g_9 a0g_10 a0g_12 a0g_13 a0g_16 a0g_19 a0g_20 a0g_21 a0g_22 a0g_29 a0g_30 a0g_31 a0g_32 a0g_33 a0g_34 a0g_35 a0g_36 a0g_37 a0g_38 a0g_39 : Value) (a0_11 : Int32) (a0_14 : Int32) (a0_15 : Nat) (a0_17 : Nat) (a0_18 : Nat) (a0_23 : Nat) (a0_24 : Nat) (a0_25 : Int32) (a0_26 : Int32) (a0_27 : Int32) (a0_28 : Int32) (ka0_15 : ClassId) (fa0_15 : Nat → Int32) (ka0_23 : ClassId) (fa0_23 : Nat → Int32) (ka0_24 : ClassId) (fa0_24 : Nat → Int32) (ka0_17 : ClassId) (fa0_17 : Nat → Int32) (ka0_18 : ClassId) (fa0_18 : Nat → Int32) (ba0_14_l : (1 : Int) ≤ a0_14.toInt) (ba0_14_u : a0_14.toInt ≤ (1 : Int)) (bfa0_15 : ((∀ k : Nat, 0 ≤ k → k ≤ 0 → (2 : Int) ≤ (fa0_15 k).toInt ∧ (fa0_15 k).toInt ≤ 9) ∧ (∀ k : Nat, 1 ≤ k → k ≤ 1 → (1 : Int) ≤ (fa0_15 k).toInt ∧ (fa0_15 k).toInt ≤ 20) ∧ (∀ k : Nat, 2 ≤ k → k ≤ 2 → (0 : Int) ≤ (fa0_15 k).toInt ∧ (fa0_15 k).toInt ≤ 8) ∧ (∀ k : Nat, 3 ≤ k → k ≤ 3 → (0 : Int) ≤ (fa0_15 k).toInt ∧ (fa0_15 k).toInt ≤ 100) ∧ (∀ k : Nat, 4 ≤ k → k ≤ 4 → (0 : Int) ≤ (fa0_15 k).toInt ∧ (fa0_15 k).toInt ≤ 9) ∧ (∀ k : Nat, 5 ≤ k → k ≤ 5 → (0 : Int) ≤ (fa0_15 k).toInt ∧ (fa0_15 k).toInt ≤ 3) ∧ (∀ k : Nat, 6 ≤ k → k ≤ 6 → (0 : Int) ≤ (fa0_15 k).toInt ∧ (fa0_15 k).toInt ≤ 6) ∧ (∀ k : Nat, 7 ≤ k → k ≤ 9 → (0 : Int) ≤ (fa0_15 k).toInt ∧ (fa0_15 k).toInt ≤ 8) ∧ (∀ k : Nat, 12 ≤ k → k ≤ 29 → (0 : Int) ≤ (fa0_15 k).toInt ∧ (fa0_15 k).toInt ≤ 20) ∧ (∀ k : Nat, 30 ≤ k → k ≤ 35 → (0 : Int) ≤ (fa0_15 k).toInt ∧ (fa0_15 k).toInt ≤ 8) ∧ (∀ k : Nat, 36 ≤ k → k ≤ 47 → (0 : Int) ≤ (fa0_15 k).toInt ∧ (fa0_15 k).toInt ≤ 999))) (bfa0_23 : (∀ k, (0 : Int) ≤ (fa0_23 k).toInt ∧ (fa0_23 k).toInt ≤ 80)) (bfa0_24 : (∀ k, (0 : Int) ≤ (fa0_24 k).toInt ∧ (fa0_24 k).toInt ≤ 80)) (bfa0_17 : ((∀ k : Nat, 0 ≤ k → k ≤ 8 → (0 : Int) ≤ (fa0_17 k).toInt ∧ (fa0_17 k).toInt ≤ 8) ∧ (∀ k : Nat, 19 ≤ k → k ≤ 19 → (0 : Int) ≤ (fa0_17 k).toInt ∧ (fa0_17 k).toInt ≤ 8) ∧ (∀ k : Nat, 20 ≤ k → k ≤ 20 → (0 : Int) ≤ (fa0_17 k).toInt ∧ (fa0_17 k).toInt ≤ 19))) (bfa0_18 : ((∀ k : Nat, 0 ≤ k → k ≤ 8 → (0 : Int) ≤ (fa0_18 k).toInt ∧ (fa0_18 k).toInt ≤ 8) ∧ (∀ k : Nat, 19 ≤ k → k ≤ 19 → (0 : Int) ≤ (fa0_18 k).toInt ∧ (fa0_18 k).toInt ≤ 8) ∧ (∀ k : Nat, 20 ≤ k → k ≤ 20 → (0 : Int) ≤ (fa0_18 k).toInt ∧ (fa0_18 k).toInt ≤ 19))) (hkm : ∀ (j i0 i : Int32), (0 : Int) ≤ j.toInt → j.toInt ≤ 8 → i0.toInt = 12 + 2 * j.toInt → i.toInt = 13 + 2 * j.toInt → (fa0_15 i0.toNatClampNeg).toInt = (1 : Int32).toInt → (1 : Int) ≤ (fa0_15 i.toNatClampNeg).toInt) : Met l yX8_patrol wsX8_patrol ({ frames := 4, cells := 0, slots := 0, locals := 95 }) (va_Pc [.ref a0, .int a1, .int a2] (ax_C dC dI sz [(a0, .inr (8, [Value.int a0_0, a0g_1, a0g_2, a0g_3, a0g_4, a0g_5, a0g_6, a0g_7, a0g_8, a0g_9, a0g_10, Value.int a0_11, a0g_12, a0g_13, Value.int a0_14, Value.ref a0_15, a0g_16, Value.ref a0_17, Value.ref a0_18, a0g_19, a0g_20, a0g_21, a0g_22, Value.ref a0_23, Value.ref a0_24, Value.int a0_25, Value.int a0_26, Value.int a0_27, Value.int a0_28, a0g_29, a0g_30, a0g_31, a0g_32, a0g_33, a0g_34, a0g_35, a0g_36, a0g_37, a0g_38, a0g_39])), (a0_15, .inl (ka0_15, 156, .inl (fa0_15))), (a0_23, .inl (ka0_23, 3, .inl (fa0_23))), (a0_24, .inl (ka0_24, 3, .inl (fa0_24))), (a0_17, .inl (ka0_17, 23, .inl (fa0_17))), (a0_18, .inl (ka0_18, 23, .inl (fa0_18)))] [(ka0_15, .int), (ka0_23, .int), (ka0_24, .int), (ka0_17, .int), (ka0_18, .int)] (fun _ => True))) (va_Qi (fun (r : Int32) (_ : Unit) => (-2 : Int) ≤ r.toInt ∧ r.toInt ≤ (880 : Int)) (fun (_ : Unit) (t : State) => ∃ na0_0 : Int32, ∃ na0_11 : Int32, ∃ na0_25 : Int32, ∃ na0_26 : Int32, ∃ na0_27 : Int32, ∃ na0_28 : Int32, ∃ nfa0_23 : Nat → Int32, ∃ nfa0_24 : Nat → Int32, ∃ nfa0_18 : Nat → Int32, (∀ k, (0 : Int) ≤ (nfa0_23 k).toInt ∧ (nfa0_23 k).toInt ≤ 80) ∧ (∀ k, (0 : Int) ≤ (nfa0_24 k).toInt ∧ (nfa0_24 k).toInt ≤ 80) ∧ ((∀ k : Nat, 0 ≤ k → k ≤ 8 → (0 : Int) ≤ (nfa0_18 k).toInt ∧ (nfa0_18 k).toInt ≤ 8) ∧ (∀ k : Nat, 19 ≤ k → k ≤ 19 → (0 : Int) ≤ (nfa0_18 k).toInt ∧ (nfa0_18 k).toInt ≤ 8) ∧ (∀ k : Nat, 20 ≤ k → k ≤ 20 → (0 : Int) ≤ (nfa0_18 k).toInt ∧ (nfa0_18 k).toInt ≤ 19)) ∧ ax_B dC dI (va_A [(a0, .inr (8, [Value.int a0_0, a0g_1, a0g_2, a0g_3, a0g_4, a0g_5, a0g_6, a0g_7, a0g_8, a0g_9, a0g_10, Value.int a0_11, a0g_12, a0g_13, Value.int a0_14, Value.ref a0_15, a0g_16, Value.ref a0_17, Value.ref a0_18, a0g_19, a0g_20, a0g_21, a0g_22, Value.ref a0_23, Value.ref a0_24, Value.int a0_25, Value.int a0_26, Value.int a0_27, Value.int a0_28, a0g_29, a0g_30, a0g_31, a0g_32, a0g_33, a0g_34, a0g_35, a0g_36, a0g_37, a0g_38, a0g_39])), (a0_15, .inl (ka0_15, 156, .inl (fa0_15))), (a0_23, .inl (ka0_23, 3, .inl (fa0_23))), (a0_24, .inl (ka0_24, 3, .inl (fa0_24))), (a0_17, .inl (ka0_17, 23, .inl (fa0_17))), (a0_18, .inl (ka0_18, 23, .inl (fa0_18)))] sz) [(a0, .inr (8, [Value.int na0_0, a0g_1, a0g_2, a0g_3, a0g_4, a0g_5, a0g_6, a0g_7, a0g_8, a0g_9, a0g_10, Value.int na0_11, a0g_12, a0g_13, Value.int a0_14, Value.ref a0_15, a0g_16, Value.ref a0_17, Value.ref a0_18, a0g_19, a0g_20, a0g_21, a0g_22, Value.ref a0_23, Value.ref a0_24, Value.int na0_25, Value.int na0_26, Value.int na0_27, Value.int na0_28, a0g_29, a0g_30, a0g_31, a0g_32, a0g_33, a0g_34, a0g_35, a0g_36, a0g_37, a0g_38, a0g_39])), (a0_15, .inl (ka0_15, 156, .inl (fa0_15))), (a0_23, .inl (ka0_23, 3, .inl (nfa0_23))), (a0_24, .inl (ka0_24, 3, .inl (nfa0_24))), (a0_17, .inl (ka0_17, 23, .inl (fa0_17))), (a0_18, .inl (ka0_18, 23, .inl (nfa0_18)))] [(ka0_15, .int), (ka0_23, .int), (ka0_24, .int), (ka0_17, .int), (ka0_18, .int)] t) (va_A [(a0, .inr (8, [Value.int a0_0, a0g_1, a0g_2, a0g_3, a0g_4, a0g_5, a0g_6, a0g_7, a0g_8, a0g_9, a0g_10, Value.int a0_11, a0g_12, a0g_13, Value.int a0_14, Value.ref a0_15, a0g_16, Value.ref a0_17, Value.ref a0_18, a0g_19, a0g_20, a0g_21, a0g_22, Value.ref a0_23, Value.ref a0_24, Value.int a0_25, Value.int a0_26, Value.int a0_27, Value.int a0_28, a0g_29, a0g_30, a0g_31, a0g_32, a0g_33, a0g_34, a0g_35, a0g_36, a0g_37, a0g_38, a0g_39])), (a0_15, .inl (ka0_15, 156, .inl (fa0_15))), (a0_23, .inl (ka0_23, 3, .inl (fa0_23))), (a0_24, .inl (ka0_24, 3, .inl (fa0_24))), (a0_17, .inl (ka0_17, 23, .inl (fa0_17))), (a0_18, .inl (ka0_18, 23, .inl (fa0_18)))] sz)) 0 0 (va_A [(a0, .inr (8, [Value.int a0_0, a0g_1, a0g_2, a0g_3, a0g_4, a0g_5, a0g_6, a0g_7, a0g_8, a0g_9, a0g_10, Value.int a0_11, a0g_12, a0g_13, Value.int a0_14, Value.ref a0_15, a0g_16, Value.ref a0_17, Value.ref a0_18, a0g_19, a0g_20, a0g_21, a0g_22, Value.ref a0_23, Value.ref a0_24, Value.int a0_25, Value.int a0_26, Value.int a0_27, Value.int a0_28, a0g_29, a0g_30, a0g_31, a0g_32, a0g_33, a0g_34, a0g_35, a0g_36, a0g_37, a0g_38, a0g_39])), (a0_15, .inl (ka0_15, 156, .inl (fa0_15))), (a0_23, .inl (ka0_23, 3, .inl (fa0_23))), (a0_24, .inl (ka0_24, 3, .inl (fa0_24))), (a0_17, .inl (ka0_17, 23, .inl (fa0_17))), (a0_18, .inl (ka0_18, 23, .inl (fa0_18)))] sz) := by
  refine Met.ofW (cc := cX8_patrol) (maxL := 9) (ret := (some .int)) (by decide) rfl ?_
  intro p e s m args below meth c s₁ B hml hv
  obtain ⟨rfl, hsz, hP, hK, hD0, hE⟩ := hv
  have hx := B.exec
  have hb := B.bytes
  have hr := B.returns
  have hts := atoms_spec (ws := wsX8_patrol) B.pre
  have hown : s.vm.findClass RX8 = some m.cls := findClass_of_methodNamed B.named
  have hlocks := B.notSynchronized
  subst hsz
  have hD := hD0.self (sz := s.heap.size)
  generalize hAe : va_A [(a0, .inr (8, [Value.int a0_0, a0g_1, a0g_2, a0g_3, a0g_4, a0g_5, a0g_6, a0g_7, a0g_8, a0g_9, a0g_10, Value.int a0_11, a0g_12, a0g_13, Value.int a0_14, Value.ref a0_15, a0g_16, Value.ref a0_17, Value.ref a0_18, a0g_19, a0g_20, a0g_21, a0g_22, Value.ref a0_23, Value.ref a0_24, Value.int a0_25, Value.int a0_26, Value.int a0_27, Value.int a0_28, a0g_29, a0g_30, a0g_31, a0g_32, a0g_33, a0g_34, a0g_35, a0g_36, a0g_37, a0g_38, a0g_39])), (a0_15, .inl (ka0_15, 156, .inl (fa0_15))), (a0_23, .inl (ka0_23, 3, .inl (fa0_23))), (a0_24, .inl (ka0_24, 3, .inl (fa0_24))), (a0_17, .inl (ka0_17, 23, .inl (fa0_17))), (a0_18, .inl (ka0_18, 23, .inl (fa0_18)))] s.heap.size = A at hD ⊢
  have hA : ∀ q : Nat, s.heap.size ≤ q → A q := fun q h => by rw [← hAe]; exact Or.inr h
  have hS : va_S A s.heap s.heap [] := va_S.rf
  have hP : va_P (dC, dI) vwCl [(a0, .inr (8, [Value.int a0_0, a0g_1, a0g_2, a0g_3, a0g_4, a0g_5, a0g_6, a0g_7, a0g_8, a0g_9, a0g_10, Value.int a0_11, a0g_12, a0g_13, Value.int a0_14, Value.ref a0_15, a0g_16, Value.ref a0_17, Value.ref a0_18, a0g_19, a0g_20, a0g_21, a0g_22, Value.ref a0_23, Value.ref a0_24, Value.int a0_25, Value.int a0_26, Value.int a0_27, Value.int a0_28, a0g_29, a0g_30, a0g_31, a0g_32, a0g_33, a0g_34, a0g_35, a0g_36, a0g_37, a0g_38, a0g_39])), (a0_15, .inl (ka0_15, 156, .inl (fa0_15))), (a0_23, .inl (ka0_23, 3, .inl (fa0_23))), (a0_24, .inl (ka0_24, 3, .inl (fa0_24))), (a0_17, .inl (ka0_17, 23, .inl (fa0_17))), (a0_18, .inl (ka0_18, 23, .inl (fa0_18)))] s.heap := hP
  have hl := lv_entry ([.ref a0, .int a1, .int a2]) (n := 9) (Nat.le_of_ble_eq_true rfl)
  rw [lg_entry_eq]
  generalize (lg_sl ([.ref a0, .int a1, .int a2]) ++ List.replicate (9 - (lg_sl ([.ref a0, .int a1, .int a2])).length) Slot.unset).toArray = ls at hl ⊢
  have hl : lv_has ls 9 [(0, .ref a0), (1, .int a1), (2, .int a2)] := hl
  refine ai_open (fun K hK0 => ?_)
  refine (hK0 _ _ _).mpr ?_
  refine lv_aload_n hx hb dX8_patrol_0 rfl (lv_at hl 0 rfl) ?_
  obtain ⟨hPc, hDc, hFc, hCc⟩ := zc_cut (wc := [(a0, .inr (8, [Value.int a0_0, a0g_1, a0g_2, a0g_3, a0g_4, a0g_5, a0g_6, a0g_7, a0g_8, a0g_9, a0g_10, Value.int a0_11, a0g_12, a0g_13, Value.int a0_14, Value.ref a0_15, a0g_16, Value.ref a0_17, Value.ref a0_18, a0g_19, a0g_20, a0g_21, a0g_22, Value.ref a0_23, Value.ref a0_24, Value.int a0_25, Value.int a0_26, Value.int a0_27, Value.int a0_28, a0g_29, a0g_30, a0g_31, a0g_32, a0g_33, a0g_34, a0g_35, a0g_36, a0g_37, a0g_38, a0g_39]))]) hP hD hS hA [0] (by decide +kernel) rfl
  have hKc := hK.sub (tys' := []) [] rfl
  refine va_callv (va_runV (As := []) (rest := []) ⟨hx, hb, hml, hown, hts⟩ (c_X8_good l dC dI s.heap.size a0 a0_0 a0g_1 a0g_2 a0g_3 a0g_4 a0g_5 a0g_6 a0g_7 a0g_8 a0g_9 a0g_10 a0g_12 a0g_13 (Value.int a0_14) (Value.ref a0_15) a0g_16 (Value.ref a0_17) (Value.ref a0_18) a0g_19 a0g_20 a0g_21 a0g_22 (Value.ref a0_23) (Value.ref a0_24) (Value.int a0_25) (Value.int a0_26) (Value.int a0_27) (Value.int a0_28) a0g_29 a0g_30 a0g_31 a0g_32 a0g_33 a0g_34 a0g_35 a0g_36 a0g_37 a0g_38 a0g_39 a0_11 ) (cwV 0 hts gX8_patrol_X8_good rfl rfl rfl zd_X8_good ⟨Nat.le_of_ble_eq_true rfl, Nat.le_of_ble_eq_true rfl⟩) ⟨ax_blind (fun _ _ _ _ _ => trivial), zr_8 hKc hPc (q0 := 0) rfl, ax_pre hPc hKc hDc (fun _ _ => trivial)⟩ rfl rfl hl.1 rfl (lv_room (Nat.le_of_ble_eq_true rfl)) dX8_patrol_1 ⟨Nat.le_of_ble_eq_true rfl, Nat.le_of_ble_eq_true rfl⟩) hS (fun q _ h => hFc q h) hFc (fun u t H locs ht hvm hw hB hz1 hk1 hS => ?_)
  obtain ⟨v1na0_0, v1na0_11, hP1, hK1, hD1⟩ := hB
  rw [ht] at hP1
  obtain ⟨hP, hD⟩ := zc_back (w := [(a0, .inr (8, [Value.int v1na0_0, a0g_1, a0g_2, a0g_3, a0g_4, a0g_5, a0g_6, a0g_7, a0g_8, a0g_9, a0g_10, Value.int v1na0_11, a0g_12, a0g_13, Value.int a0_14, Value.ref a0_15, a0g_16, Value.ref a0_17, Value.ref a0_18, a0g_19, a0g_20, a0g_21, a0g_22, Value.ref a0_23, Value.ref a0_24, Value.int a0_25, Value.int a0_26, Value.int a0_27, Value.int a0_28, a0g_29, a0g_30, a0g_31, a0g_32, a0g_33, a0g_34, a0g_35, a0g_36, a0g_37, a0g_38, a0g_39])), (a0_15, .inl (ka0_15, 156, .inl (fa0_15))), (a0_23, .inl (ka0_23, 3, .inl (fa0_23))), (a0_24, .inl (ka0_24, 3, .inl (fa0_24))), (a0_17, .inl (ka0_17, 23, .inl (fa0_17))), (a0_18, .inl (ka0_18, 23, .inl (fa0_18)))]) hP hD hCc hk1 hFc hP1 hD1 [.inr 0, .inl 1, .inl 2, .inl 3, .inl 4, .inl 5] (by decide +kernel) rfl
  refine lv_aload_n hx hb dX8_patrol_4 rfl (lv_at hl 0 rfl) ?_
  refine lv_aload_n hx hb dX8_patrol_5 rfl (lv_at hl 0 rfl) ?_
  refine lv_iload_n hx hb dX8_patrol_6 rfl (lv_at hl 1 rfl) ?_
  obtain ⟨hPc, hDc, hFc, hCc⟩ := zc_cut (wc := [(a0, .inr (8, [Value.int v1na0_0, a0g_1, a0g_2, a0g_3, a0g_4, a0g_5, a0g_6, a0g_7, a0g_8, a0g_9, a0g_10, Value.int v1na0_11, a0g_12, a0g_13, Value.int a0_14, Value.ref a0_15, a0g_16, Value.ref a0_17, Value.ref a0_18, a0g_19, a0g_20, a0g_21, a0g_22, Value.ref a0_23, Value.ref a0_24, Value.int a0_25, Value.int a0_26, Value.int a0_27, Value.int a0_28, a0g_29, a0g_30, a0g_31, a0g_32, a0g_33, a0g_34, a0g_35, a0g_36, a0g_37, a0g_38, a0g_39])), (a0_15, .inl (ka0_15, 156, .inl (fa0_15)))]) hP hD hS hA [0, 1] (by decide +kernel) rfl
  have hKc := hK.sub (tys' := [(ka0_15, .int)]) [0] rfl
  refine va_calli (va_runV (As := [.int a1]) (rest := [.ref a0]) ⟨hx, hb, hml, hown, hts⟩ (c_X8_isWatcher l dC dI H.size a0 a1 (Value.int v1na0_0) a0g_1 a0g_2 a0g_3 a0g_4 a0g_5 a0g_6 a0g_7 a0g_8 a0g_9 a0g_10 (Value.int v1na0_11) a0g_12 a0g_13 a0g_16 (Value.ref a0_17) (Value.ref a0_18) a0g_19 a0g_20 a0g_21 a0g_22 (Value.ref a0_23) (Value.ref a0_24) (Value.int a0_25) (Value.int a0_26) (Value.int a0_27) (Value.int a0_28) a0g_29 a0g_30 a0g_31 a0g_32 a0g_33 a0g_34 a0g_35 a0g_36 a0g_37 a0g_38 a0g_39 a0_14 a0_15 ka0_15 fa0_15 ba0_14_l ba0_14_u bfa0_15) (cwV 1 hts gX8_patrol_X8_isWatcher rfl rfl rfl zd_X8_isWatcher ⟨Nat.le_of_ble_eq_true rfl, Nat.le_of_ble_eq_true rfl⟩) ⟨ax_blind (fun _ _ _ _ _ => trivial), zr_8 hKc hPc (q0 := 0) rfl, ax_pre hPc hKc hDc (fun _ _ => trivial)⟩ rfl rfl hl.1 rfl (lv_room (Nat.le_of_ble_eq_true rfl)) dX8_patrol_7 ⟨Nat.le_of_ble_eq_true rfl, Nat.le_of_ble_eq_true rfl⟩) hS (fun q _ h => hFc q h) hFc (fun r7 u t H locs ht hvm hw hB hz1 hk1 hS => ?_)
  obtain ⟨hP1, hK1, hD1⟩ := hB
  rw [ht] at hP1
  obtain ⟨hP, hD⟩ := zc_back (w := [(a0, .inr (8, [Value.int v1na0_0, a0g_1, a0g_2, a0g_3, a0g_4, a0g_5, a0g_6, a0g_7, a0g_8, a0g_9, a0g_10, Value.int v1na0_11, a0g_12, a0g_13, Value.int a0_14, Value.ref a0_15, a0g_16, Value.ref a0_17, Value.ref a0_18, a0g_19, a0g_20, a0g_21, a0g_22, Value.ref a0_23, Value.ref a0_24, Value.int a0_25, Value.int a0_26, Value.int a0_27, Value.int a0_28, a0g_29, a0g_30, a0g_31, a0g_32, a0g_33, a0g_34, a0g_35, a0g_36, a0g_37, a0g_38, a0g_39])), (a0_15, .inl (ka0_15, 156, .inl (fa0_15))), (a0_23, .inl (ka0_23, 3, .inl (fa0_23))), (a0_24, .inl (ka0_24, 3, .inl (fa0_24))), (a0_17, .inl (ka0_17, 23, .inl (fa0_17))), (a0_18, .inl (ka0_18, 23, .inl (fa0_18)))]) hP hD hCc hk1 hFc hP1 hD1 [.inr 0, .inr 1, .inl 2, .inl 3, .inl 4, .inl 5] (by decide +kernel) rfl
  rcases hw with hw | hw
  · obtain ⟨hw, h7_0, h7_1⟩ := hw
    subst hw
    have l7k0_a1 : (0 : Int) ≤ a1.toInt := h7_0
    have u7k0_a1 : a1.toInt ≤ (2 : Int) := h7_1
    refine lv_iload_n hx hb dX8_patrol_10 rfl (lv_at hl 2 rfl) ?_
    refine lv_iconst (v := 1) hx hb dX8_patrol_11 zk_iconst_1 ?_
    refine lv_bipush (v := 60) hx hb dX8_patrol_12 zk_bipush_60 ?_
    obtain ⟨hPc, hDc, hFc, hCc⟩ := zc_cut (wc := []) hP hD hS hA [] (by decide +kernel) rfl
    have hKc := hK.sub (tys' := []) [] rfl
    refine va_calli (va_runS (As := [.int a2, .int 1, .int 60]) (rest := [.int 1, .ref a0]) ⟨hx, hb, hml, hown, hts⟩ (c_X8_in l dC dI H.size a2 1 60 ) (va_cwS 3 hts gX8_patrol_X8_in rfl rfl rfl zd_X8_in.2 ⟨Nat.le_of_ble_eq_true rfl, Nat.le_of_ble_eq_true rfl⟩) ⟨ax_blind (fun _ _ _ _ _ => trivial), ax_pre hPc hKc hDc (fun _ _ => trivial)⟩ rfl rfl hl.1 rfl (lv_room (Nat.le_of_ble_eq_true rfl)) dX8_patrol_14 ⟨Nat.le_of_ble_eq_true rfl, Nat.le_of_ble_eq_true rfl⟩) hS (fun q _ h => hFc q h) hFc (fun r14 u t H locs ht hvm hw hB hz1 hk1 hS => ?_)
    obtain ⟨hP1, hK1, hD1⟩ := hB
    rw [ht] at hP1
    obtain ⟨hP, hD⟩ := zc_back (w := [(a0, .inr (8, [Value.int v1na0_0, a0g_1, a0g_2, a0g_3, a0g_4, a0g_5, a0g_6, a0g_7, a0g_8, a0g_9, a0g_10, Value.int v1na0_11, a0g_12, a0g_13, Value.int a0_14, Value.ref a0_15, a0g_16, Value.ref a0_17, Value.ref a0_18, a0g_19, a0g_20, a0g_21, a0g_22, Value.ref a0_23, Value.ref a0_24, Value.int a0_25, Value.int a0_26, Value.int a0_27, Value.int a0_28, a0g_29, a0g_30, a0g_31, a0g_32, a0g_33, a0g_34, a0g_35, a0g_36, a0g_37, a0g_38, a0g_39])), (a0_15, .inl (ka0_15, 156, .inl (fa0_15))), (a0_23, .inl (ka0_23, 3, .inl (fa0_23))), (a0_24, .inl (ka0_24, 3, .inl (fa0_24))), (a0_17, .inl (ka0_17, 23, .inl (fa0_17))), (a0_18, .inl (ka0_18, 23, .inl (fa0_18)))]) hP hD hCc hk1 hFc hP1 hD1 [.inl 0, .inl 1, .inl 2, .inl 3, .inl 4, .inl 5] (by decide +kernel) rfl
    rcases hw with hw | hw
    · obtain ⟨hw, h14⟩ := hw
      subst hw
      have l14k0_a2 : (1 : Int) ≤ a2.toInt := Int.le_trans zq1 h14.1
      have u14k0_a2 : a2.toInt ≤ (60 : Int) := Int.le_trans h14.2 zq46
      obtain ⟨hPc, hDc, hFc, hCc⟩ := zc_cut (wc := [(a0, .inr (8, [Value.int v1na0_0, a0g_1, a0g_2, a0g_3, a0g_4, a0g_5, a0g_6, a0g_7, a0g_8, a0g_9, a0g_10, Value.int v1na0_11, a0g_12, a0g_13, Value.int a0_14, Value.ref a0_15, a0g_16, Value.ref a0_17, Value.ref a0_18, a0g_19, a0g_20, a0g_21, a0g_22, Value.ref a0_23, Value.ref a0_24, Value.int a0_25, Value.int a0_26, Value.int a0_27, Value.int a0_28, a0g_29, a0g_30, a0g_31, a0g_32, a0g_33, a0g_34, a0g_35, a0g_36, a0g_37, a0g_38, a0g_39]))]) hP hD hS hA [0] (by decide +kernel) rfl
      have hKc := hK.sub (tys' := []) [] rfl
      refine va_calli (va_runV (As := [.int 1, .int 1]) (rest := []) ⟨hx, hb, hml, hown, hts⟩ (c_X8_whyB l dC dI H.size a0 1 1 (Value.int v1na0_0) a0g_1 a0g_2 a0g_3 a0g_4 a0g_5 a0g_6 a0g_7 a0g_8 a0g_9 a0g_10 (Value.int v1na0_11) a0g_12 a0g_13 (Value.int a0_14) (Value.ref a0_15) a0g_16 (Value.ref a0_17) (Value.ref a0_18) a0g_19 a0g_20 a0g_21 a0g_22 (Value.ref a0_23) (Value.ref a0_24) (Value.int a0_25) (Value.int a0_26) (Value.int a0_27) (Value.int a0_28) a0g_29 a0g_30 a0g_31 a0g_32 a0g_33 a0g_34 a0g_35 a0g_36 a0g_37 a0g_38 a0g_39 (Int.le_trans zq4 zq1) zq0 (Int.le_trans zq4 zq1) zq0) (cwV 2 hts gX8_patrol_X8_why rfl rfl rfl zd_X8_why ⟨Nat.le_of_ble_eq_true rfl, Nat.le_of_ble_eq_true rfl⟩) ⟨ax_blind (fun _ _ _ _ _ => trivial), zr_8 hKc hPc (q0 := 0) rfl, ax_pre hPc hKc hDc (fun _ _ => trivial)⟩ rfl rfl hl.1 rfl (lv_room (Nat.le_of_ble_eq_true rfl)) dX8_patrol_17 ⟨Nat.le_of_ble_eq_true rfl, Nat.le_of_ble_eq_true rfl⟩) hS (fun q _ h => hFc q h) hFc (fun r17 u t H locs ht hvm hw hB hz1 hk1 hS => ?_)
      obtain ⟨hP1, hK1, hD1⟩ := hB
      rw [ht] at hP1
      obtain ⟨hP, hD⟩ := zc_back (w := [(a0, .inr (8, [Value.int v1na0_0, a0g_1, a0g_2, a0g_3, a0g_4, a0g_5, a0g_6, a0g_7, a0g_8, a0g_9, a0g_10, Value.int v1na0_11, a0g_12, a0g_13, Value.int a0_14, Value.ref a0_15, a0g_16, Value.ref a0_17, Value.ref a0_18, a0g_19, a0g_20, a0g_21, a0g_22, Value.ref a0_23, Value.ref a0_24, Value.int a0_25, Value.int a0_26, Value.int a0_27, Value.int a0_28, a0g_29, a0g_30, a0g_31, a0g_32, a0g_33, a0g_34, a0g_35, a0g_36, a0g_37, a0g_38, a0g_39])), (a0_15, .inl (ka0_15, 156, .inl (fa0_15))), (a0_23, .inl (ka0_23, 3, .inl (fa0_23))), (a0_24, .inl (ka0_24, 3, .inl (fa0_24))), (a0_17, .inl (ka0_17, 23, .inl (fa0_17))), (a0_18, .inl (ka0_18, 23, .inl (fa0_18)))]) hP hD hCc hk1 hFc hP1 hD1 [.inr 0, .inl 1, .inl 2, .inl 3, .inl 4, .inl 5] (by decide +kernel) rfl
      rcases hw with hw | hw | hw
      · obtain ⟨hw, h17_0, h17_1, h17_2, h17_3⟩ := hw
        subst hw
        exact absurd h17_3 (by decide)
      · obtain ⟨hw, h17_0, h17_1⟩ := hw
        subst hw
        exact absurd h17_1 (by decide)
      · obtain ⟨hw, h17_0, h17_1, h17_2, h17_3⟩ := hw
        subst hw
        refine lv_istore_n (lv' := [(3, .int 0), (0, .ref a0), (1, .int a1), (2, .int a2)]) hx hb dX8_patrol_20 rfl hl (by decide) rfl (fun ls hl => ?_)
        refine lv_iload_n hx hb dX8_patrol_21 rfl (lv_at hl 0 rfl) ?_
        refine lv_if_eq (tgt := 31) hx hb dX8_patrol_22 (by decide) (fun _ => ?_) (fun c22 => absurd (by decide +kernel) c22)
        refine lv_bipush (v := (-2)) hx hb dX8_patrol_31 zk_bipush_n2 ?_
        refine lv_istore (lv' := [(4, .int (-2)), (3, .int 0), (0, .ref a0), (1, .int a1), (2, .int a2)]) hx hb dX8_patrol_33 hl (by decide) rfl (fun ls hl => ?_)
        refine lv_ldcw (v := 100000000) hx hb hown (hts (.constant RX8 313 (100000000)) (zm_X8_patrol_r1 (List.mem_of_getElem? (i := 0) rfl))) dX8_patrol_35 ?_
        refine lv_istore (lv' := [(5, .int 100000000), (4, .int (-2)), (3, .int 0), (0, .ref a0), (1, .int a1), (2, .int a2)]) hx hb dX8_patrol_38 hl (by decide) rfl (fun ls hl => ?_)
        refine lv_iconst (v := (-1)) hx hb dX8_patrol_40 zk_iconst_n1 ?_
        refine lv_istore (lv' := [(6, .int (-1)), (5, .int 100000000), (4, .int (-2)), (3, .int 0), (0, .ref a0), (1, .int a1), (2, .int a2)]) hx hb dX8_patrol_41 hl (by decide) rfl (fun ls hl => ?_)
        refine lv_iconst (v := 0) hx hb dX8_patrol_43 zk_iconst_0 ?_
        refine lv_istore (lv' := [(7, .int 0), (6, .int (-1)), (5, .int 100000000), (4, .int (-2)), (3, .int 0), (0, .ref a0), (1, .int a1), (2, .int a2)]) hx hb dX8_patrol_44 hl (by decide) rfl (fun ls hl => ?_)
        have J46 : ∀ (n : Nat) (j46l7 : Int32) (j46l6 : Int32) (j46l5 : Int32) (j46l4 : Int32) (j46a0_25 : Int32) (j46a0_26 : Int32) (j46a0_27 : Int32) (j46a0_28 : Int32) (j46a0_23_a : Nat → Int32) (j46a0_24_a : Nat → Int32) (j46a0_18_a : Nat → Int32) (H : Heap) (locs : List Loc) (ls : Array Slot), (100 : Int) - j46l7.toInt ≤ (n : Int) → (0 : Int) ≤ j46l7.toInt → j46l7.toInt ≤ (99 : Int) → j46l5.toInt ≤ (100000000 : Int) → (-2 : Int) ≤ j46l4.toInt → j46l4.toInt ≤ (880 : Int) → (∀ k, (0 : Int) ≤ (j46a0_23_a k).toInt ∧ (j46a0_23_a k).toInt ≤ 80) → (∀ k, (0 : Int) ≤ (j46a0_24_a k).toInt ∧ (j46a0_24_a k).toInt ≤ 80) → ((∀ k : Nat, 0 ≤ k → k ≤ 8 → (0 : Int) ≤ (j46a0_18_a k).toInt ∧ (j46a0_18_a k).toInt ≤ 8) ∧ (∀ k : Nat, 19 ≤ k → k ≤ 19 → (0 : Int) ≤ (j46a0_18_a k).toInt ∧ (j46a0_18_a k).toInt ≤ 8) ∧ (∀ k : Nat, 20 ≤ k → k ≤ 20 → (0 : Int) ≤ (j46a0_18_a k).toInt ∧ (j46a0_18_a k).toInt ≤ 19)) → va_P (dC, dI) vwCl [(a0, .inr (8, [Value.int v1na0_0, a0g_1, a0g_2, a0g_3, a0g_4, a0g_5, a0g_6, a0g_7, a0g_8, a0g_9, a0g_10, Value.int v1na0_11, a0g_12, a0g_13, Value.int a0_14, Value.ref a0_15, a0g_16, Value.ref a0_17, Value.ref a0_18, a0g_19, a0g_20, a0g_21, a0g_22, Value.ref a0_23, Value.ref a0_24, Value.int j46a0_25, Value.int j46a0_26, Value.int j46a0_27, Value.int j46a0_28, a0g_29, a0g_30, a0g_31, a0g_32, a0g_33, a0g_34, a0g_35, a0g_36, a0g_37, a0g_38, a0g_39])), (a0_15, .inl (ka0_15, 156, .inl (fa0_15))), (a0_23, .inl (ka0_23, 3, .inl (j46a0_23_a))), (a0_24, .inl (ka0_24, 3, .inl (j46a0_24_a))), (a0_17, .inl (ka0_17, 23, .inl (fa0_17))), (a0_18, .inl (ka0_18, 23, .inl (j46a0_18_a)))] H → va_D A [(a0, .inr (8, [Value.int v1na0_0, a0g_1, a0g_2, a0g_3, a0g_4, a0g_5, a0g_6, a0g_7, a0g_8, a0g_9, a0g_10, Value.int v1na0_11, a0g_12, a0g_13, Value.int a0_14, Value.ref a0_15, a0g_16, Value.ref a0_17, Value.ref a0_18, a0g_19, a0g_20, a0g_21, a0g_22, Value.ref a0_23, Value.ref a0_24, Value.int j46a0_25, Value.int j46a0_26, Value.int j46a0_27, Value.int j46a0_28, a0g_29, a0g_30, a0g_31, a0g_32, a0g_33, a0g_34, a0g_35, a0g_36, a0g_37, a0g_38, a0g_39])), (a0_15, .inl (ka0_15, 156, .inl (fa0_15))), (a0_23, .inl (ka0_23, 3, .inl (j46a0_23_a))), (a0_24, .inl (ka0_24, 3, .inl (j46a0_24_a))), (a0_17, .inl (ka0_17, 23, .inl (fa0_17))), (a0_18, .inl (ka0_18, 23, .inl (j46a0_18_a)))] → va_S A s.heap H locs → lv_has ls 9 [(0, .ref a0), (1, .int a1), (2, .int a2), (4, .int j46l4), (5, .int j46l5), (6, .int j46l6), (7, .int j46l7)] → K H locs (F0 m 46 ls []) := by
          intro n
          induction n with
          | zero =>
            intro j46l7 j46l6 j46l5 j46l4 j46a0_25 j46a0_26 j46a0_27 j46a0_28 j46a0_23_a j46a0_24_a j46a0_18_a H locs ls hm bj46l7_l bj46l7_u bj46l5_u bj46l4_l bj46l4_u bj46a0_23_a bj46a0_24_a bj46a0_18_a hP hD hS hl
            have h8 := ai_min j46l7
            have h9 := ai_max j46l7
            exact absurd hm (by omega)
          | succ n ih46 =>
            intro j46l7 j46l6 j46l5 j46l4 j46a0_25 j46a0_26 j46a0_27 j46a0_28 j46a0_23_a j46a0_24_a j46a0_18_a H locs ls hm bj46l7_l bj46l7_u bj46l5_u bj46l4_l bj46l4_u bj46a0_23_a bj46a0_24_a bj46a0_18_a hP hD hS hl
            refine (hK0 _ _ _).mpr ?_
            have hm46 := hm
            refine lv_iload hx hb dX8_patrol_46 (lv_at hl 6 rfl) ?_
            refine lv_aload_n hx hb dX8_patrol_48 rfl (lv_at hl 0 rfl) ?_
            refine va_get (D := (dC, dI)) (ci := 8) (v := .ref a0_15) (C := RX8) (T := TX8) (N := 40) hx hb hts zi_X8_patrol_8 hown hK hP 0 rfl rfl 15 (by decide) (hts (.fieldLink RX8 20 "WaxTurnsModel" "\x72" "[I") (zm_X8_patrol_r1 (List.mem_of_getElem? (i := 1) rfl))) (fun _ h9 => h9) rfl dX8_patrol_49 ?_
            refine lv_iconst (v := 0) hx hb dX8_patrol_52 zk_iconst_0 ?_
            refine va_iald hx hb hK hP 1 0 rfl rfl (by unfold vp_in; decide +kernel) dX8_patrol_53 ?_
            refine lv_topi (fun x53 ex53 => ?_)
            have bx53 : (2 : Int) ≤ x53.toInt ∧ x53.toInt ≤ 9 := by rw [ex53]; exact ai_rd bfa0_15.1 zq5 zq6 (by decide) (by decide) (by decide)
            refine lv_aload_n hx hb dX8_patrol_54 rfl (lv_at hl 0 rfl) ?_
            refine va_get (D := (dC, dI)) (ci := 8) (v := .ref a0_15) (C := RX8) (T := TX8) (N := 40) hx hb hts zi_X8_patrol_8 hown hK hP 0 rfl rfl 15 (by decide) (hts (.fieldLink RX8 20 "WaxTurnsModel" "\x72" "[I") (zm_X8_patrol_r1 (List.mem_of_getElem? (i := 1) rfl))) (fun _ h9 => h9) rfl dX8_patrol_55 ?_
            refine lv_iconst (v := 0) hx hb dX8_patrol_58 zk_iconst_0 ?_
            refine va_iald hx hb hK hP 1 0 rfl rfl (by unfold vp_in; decide +kernel) dX8_patrol_59 ?_
            refine ax_ti x53 ex53.symm ?_
            refine lv_imul hx hb dX8_patrol_60 ?_
            refine lv_topi (fun x60 ex60 => ?_)
            have qx60 : x60.toInt = x53.toInt * x53.toInt ∧ (4 : Int) ≤ x60.toInt ∧ x60.toInt ≤ 81 := ai_mul ex60 ⟨bx53.1, bx53.2⟩ ⟨bx53.1, bx53.2⟩ (by decide) (by decide) zq21
            refine lv_icmp_ge (tgt := 199) hx hb dX8_patrol_61 (by decide) (fun c61 => ?_) (fun c61 => ?_)
            · have gc61 := ai_le c61
              have u61t_x60 : x60.toInt ≤ (81 : Int) := qx60.2.2
              have l61t_j46l7 : (4 : Int) ≤ j46l7.toInt := Int.le_trans qx60.2.1 gc61
              refine lv_iload hx hb dX8_patrol_199 (lv_at hl 3 rfl) ?_
              exact W.iret (v := j46l4) hx hb hr (fun t ht hW => ⟨⟨j46l4, (), rfl, ⟨bj46l4_l, bj46l4_u⟩, v1na0_0, v1na0_11, j46a0_25, j46a0_26, j46a0_27, j46a0_28, j46a0_23_a, j46a0_24_a, j46a0_18_a, bj46a0_23_a, bj46a0_24_a, bj46a0_18_a, by rw [ht]; exact hP, va_K.moved hW.alike hK, hD⟩, hS.F ht⟩) hS.2.2 dX8_patrol_201
            · have gc61 := ai_nle c61
              have u61f_j46l7 : j46l7.toInt ≤ (80 : Int) := ai_lthi gc61 qx60.2.2
              have l61f_x60 : (4 : Int) ≤ x60.toInt := qx60.2.1
              refine lv_aload_n hx hb dX8_patrol_64 rfl (lv_at hl 0 rfl) ?_
              obtain ⟨hPc, hDc, hFc, hCc⟩ := zc_cut (wc := [(a0, .inr (8, [Value.int v1na0_0, a0g_1, a0g_2, a0g_3, a0g_4, a0g_5, a0g_6, a0g_7, a0g_8, a0g_9, a0g_10, Value.int v1na0_11, a0g_12, a0g_13, Value.int a0_14, Value.ref a0_15, a0g_16, Value.ref a0_17, Value.ref a0_18, a0g_19, a0g_20, a0g_21, a0g_22, Value.ref a0_23, Value.ref a0_24, Value.int j46a0_25, Value.int j46a0_26, Value.int j46a0_27, Value.int j46a0_28, a0g_29, a0g_30, a0g_31, a0g_32, a0g_33, a0g_34, a0g_35, a0g_36, a0g_37, a0g_38, a0g_39])), (a0_15, .inl (ka0_15, 156, .inl (fa0_15))), (a0_23, .inl (ka0_23, 3, .inl (j46a0_23_a))), (a0_24, .inl (ka0_24, 3, .inl (j46a0_24_a))), (a0_17, .inl (ka0_17, 23, .inl (fa0_17))), (a0_18, .inl (ka0_18, 23, .inl (j46a0_18_a)))]) hP hD hS hA [0, 1, 2, 3, 4, 5] (by decide +kernel) rfl
              have hKc := hK.sub (tys' := [(ka0_15, .int), (ka0_23, .int), (ka0_24, .int), (ka0_17, .int), (ka0_18, .int)]) [0, 1, 2, 3, 4] rfl
              refine va_callv (va_runV (As := []) (rest := []) ⟨hx, hb, hml, hown, hts⟩ (c_X8_begin l dC dI H.size a0 (Value.int v1na0_0) a0g_1 a0g_2 a0g_3 a0g_4 a0g_5 a0g_6 a0g_7 a0g_8 a0g_9 a0g_10 (Value.int v1na0_11) a0g_12 a0g_13 (Value.int a0_14) a0g_16 a0g_19 a0g_20 a0g_21 a0g_22 (Value.int j46a0_26) (Value.int j46a0_27) (Value.int j46a0_28) a0g_29 a0g_30 a0g_31 a0g_32 a0g_33 a0g_34 a0g_35 a0g_36 a0g_37 a0g_38 a0g_39 a0_15 a0_17 a0_18 a0_23 a0_24 j46a0_25 ka0_15 fa0_15 ka0_23 j46a0_23_a ka0_24 j46a0_24_a ka0_17 fa0_17 ka0_18 j46a0_18_a bfa0_15 bj46a0_23_a bj46a0_24_a bfa0_17 bj46a0_18_a) (cwV 0 hts gX8_patrol_X8_begin rfl rfl rfl zd_X8_begin ⟨Nat.le_of_ble_eq_true rfl, Nat.le_of_ble_eq_true rfl⟩) ⟨ax_blind (fun _ _ _ _ _ => trivial), zr_8 hKc hPc (q0 := 0) rfl, ax_pre hPc hKc hDc (fun _ _ => trivial)⟩ rfl rfl hl.1 rfl (lv_room (Nat.le_of_ble_eq_true rfl)) dX8_patrol_65 ⟨Nat.le_of_ble_eq_true rfl, Nat.le_of_ble_eq_true rfl⟩) hS (fun q _ h => hFc q h) hFc (fun u t H locs ht hvm hw hB hz1 hk1 hS => ?_)
              obtain ⟨v65na0_25, v65nfa0_23, v65nfa0_24, v65nfa0_18, bv65nfa0_23, bv65nfa0_24, bv65nfa0_18, hP1, hK1, hD1⟩ := hB
              rw [ht] at hP1
              obtain ⟨hP, hD⟩ := zc_back (w := [(a0, .inr (8, [Value.int v1na0_0, a0g_1, a0g_2, a0g_3, a0g_4, a0g_5, a0g_6, a0g_7, a0g_8, a0g_9, a0g_10, Value.int v1na0_11, a0g_12, a0g_13, Value.int a0_14, Value.ref a0_15, a0g_16, Value.ref a0_17, Value.ref a0_18, a0g_19, a0g_20, a0g_21, a0g_22, Value.ref a0_23, Value.ref a0_24, Value.int v65na0_25, Value.int j46a0_26, Value.int j46a0_27, Value.int j46a0_28, a0g_29, a0g_30, a0g_31, a0g_32, a0g_33, a0g_34, a0g_35, a0g_36, a0g_37, a0g_38, a0g_39])), (a0_15, .inl (ka0_15, 156, .inl (fa0_15))), (a0_23, .inl (ka0_23, 3, .inl (v65nfa0_23))), (a0_24, .inl (ka0_24, 3, .inl (v65nfa0_24))), (a0_17, .inl (ka0_17, 23, .inl (fa0_17))), (a0_18, .inl (ka0_18, 23, .inl (v65nfa0_18)))]) hP hD hCc hk1 hFc hP1 hD1 [.inr 0, .inr 1, .inr 2, .inr 3, .inr 4, .inr 5] (by decide +kernel) rfl
              refine lv_aload_n hx hb dX8_patrol_68 rfl (lv_at hl 0 rfl) ?_
              refine va_get (D := (dC, dI)) (ci := 8) (v := .ref a0_23) (C := RX8) (T := TX8) (N := 40) hx hb hts zi_X8_patrol_8 hown hK hP 0 rfl rfl 23 (by decide) (hts (.fieldLink RX8 38 "WaxTurnsModel" "from" "[I") (zm_X8_patrol_r1 (List.mem_of_getElem? (i := 2) rfl))) (fun _ h9 => h9) rfl dX8_patrol_69 ?_
              refine lv_iload_n hx hb dX8_patrol_72 rfl (lv_at hl 1 rfl) ?_
              refine lv_iload hx hb dX8_patrol_73 (lv_at hl 6 rfl) ?_
              refine lv_aload_n hx hb dX8_patrol_75 rfl (lv_at hl 0 rfl) ?_
              refine va_get (D := (dC, dI)) (ci := 8) (v := .ref a0_15) (C := RX8) (T := TX8) (N := 40) hx hb hts zi_X8_patrol_8 hown hK hP 0 rfl rfl 15 (by decide) (hts (.fieldLink RX8 20 "WaxTurnsModel" "\x72" "[I") (zm_X8_patrol_r1 (List.mem_of_getElem? (i := 1) rfl))) (fun _ h9 => h9) rfl dX8_patrol_76 ?_
              refine lv_iconst (v := 0) hx hb dX8_patrol_79 zk_iconst_0 ?_
              refine va_iald hx hb hK hP 1 0 rfl rfl (by unfold vp_in; decide +kernel) dX8_patrol_80 ?_
              refine ax_ti x53 ex53.symm ?_
              refine lv_idiv hx hb dX8_patrol_81 (ai_nz bx53.1 (by decide)) ?_
              refine lv_topi (fun x81 ex81 => ?_)
              have qx81 := ai_div ex81 ⟨bj46l7_l, u61f_j46l7⟩ (Int.lt_of_lt_of_le zq100 bx53.1)
              refine va_iast hx hb hK hP hD hS 2 1 rfl rfl (ai_in l7k0_a1 u7k0_a1 (by decide) (by decide)) dX8_patrol_82 (fun H locs hP hD hS => ?_)
              obtain ⟨f82, ef82⟩ : ∃ g9 : Nat → Int32, g9 = upd v65nfa0_23 (a1 : Int32).toNatClampNeg x81 := ⟨_, rfl⟩
              rw [← ef82] at hP hD
              obtain ⟨hP, hD⟩ := zc_re (w := [(a0, .inr (8, [Value.int v1na0_0, a0g_1, a0g_2, a0g_3, a0g_4, a0g_5, a0g_6, a0g_7, a0g_8, a0g_9, a0g_10, Value.int v1na0_11, a0g_12, a0g_13, Value.int a0_14, Value.ref a0_15, a0g_16, Value.ref a0_17, Value.ref a0_18, a0g_19, a0g_20, a0g_21, a0g_22, Value.ref a0_23, Value.ref a0_24, Value.int v65na0_25, Value.int j46a0_26, Value.int j46a0_27, Value.int j46a0_28, a0g_29, a0g_30, a0g_31, a0g_32, a0g_33, a0g_34, a0g_35, a0g_36, a0g_37, a0g_38, a0g_39])), (a0_15, .inl (ka0_15, 156, .inl (fa0_15))), (a0_23, .inl (ka0_23, 3, .inl (f82))), (a0_24, .inl (ka0_24, 3, .inl (v65nfa0_24))), (a0_17, .inl (ka0_17, 23, .inl (fa0_17))), (a0_18, .inl (ka0_18, 23, .inl (v65nfa0_18)))]) hP hD rfl
              have bf82 : (∀ k, (0 : Int) ≤ (f82 k).toInt ∧ (f82 k).toInt ≤ 80) := by rw [ef82]; exact ai_upd bv65nfa0_23 _ ⟨qx81.2.1, qx81.2.2⟩
              refine lv_aload_n hx hb dX8_patrol_83 rfl (lv_at hl 0 rfl) ?_
              refine va_get (D := (dC, dI)) (ci := 8) (v := .ref a0_24) (C := RX8) (T := TX8) (N := 40) hx hb hts zi_X8_patrol_8 hown hK hP 0 rfl rfl 24 (by decide) (hts (.fieldLink RX8 41 "WaxTurnsModel" "to" "[I") (zm_X8_patrol_r1 (List.mem_of_getElem? (i := 3) rfl))) (fun _ h9 => h9) rfl dX8_patrol_84 ?_
              refine lv_iload_n hx hb dX8_patrol_87 rfl (lv_at hl 1 rfl) ?_
              refine lv_iload hx hb dX8_patrol_88 (lv_at hl 6 rfl) ?_
              refine lv_aload_n hx hb dX8_patrol_90 rfl (lv_at hl 0 rfl) ?_
              refine va_get (D := (dC, dI)) (ci := 8) (v := .ref a0_15) (C := RX8) (T := TX8) (N := 40) hx hb hts zi_X8_patrol_8 hown hK hP 0 rfl rfl 15 (by decide) (hts (.fieldLink RX8 20 "WaxTurnsModel" "\x72" "[I") (zm_X8_patrol_r1 (List.mem_of_getElem? (i := 1) rfl))) (fun _ h9 => h9) rfl dX8_patrol_91 ?_
              refine lv_iconst (v := 0) hx hb dX8_patrol_94 zk_iconst_0 ?_
              refine va_iald hx hb hK hP 1 0 rfl rfl (by unfold vp_in; decide +kernel) dX8_patrol_95 ?_
              refine ax_ti x53 ex53.symm ?_
              refine lv_irem hx hb dX8_patrol_96 (ai_nz bx53.1 (by decide)) ?_
              refine lv_topi (fun x96 ex96 => ?_)
              have qx96 := ai_rem2 ex96 bj46l7_l (Int.lt_of_lt_of_le zq100 bx53.1) bx53.2
              refine va_iast hx hb hK hP hD hS 3 2 rfl rfl (ai_in l7k0_a1 u7k0_a1 (by decide) (by decide)) dX8_patrol_97 (fun H locs hP hD hS => ?_)
              obtain ⟨f97, ef97⟩ : ∃ g9 : Nat → Int32, g9 = upd v65nfa0_24 (a1 : Int32).toNatClampNeg x96 := ⟨_, rfl⟩
              rw [← ef97] at hP hD
              obtain ⟨hP, hD⟩ := zc_re (w := [(a0, .inr (8, [Value.int v1na0_0, a0g_1, a0g_2, a0g_3, a0g_4, a0g_5, a0g_6, a0g_7, a0g_8, a0g_9, a0g_10, Value.int v1na0_11, a0g_12, a0g_13, Value.int a0_14, Value.ref a0_15, a0g_16, Value.ref a0_17, Value.ref a0_18, a0g_19, a0g_20, a0g_21, a0g_22, Value.ref a0_23, Value.ref a0_24, Value.int v65na0_25, Value.int j46a0_26, Value.int j46a0_27, Value.int j46a0_28, a0g_29, a0g_30, a0g_31, a0g_32, a0g_33, a0g_34, a0g_35, a0g_36, a0g_37, a0g_38, a0g_39])), (a0_15, .inl (ka0_15, 156, .inl (fa0_15))), (a0_23, .inl (ka0_23, 3, .inl (f82))), (a0_24, .inl (ka0_24, 3, .inl (f97))), (a0_17, .inl (ka0_17, 23, .inl (fa0_17))), (a0_18, .inl (ka0_18, 23, .inl (v65nfa0_18)))]) hP hD rfl
              have bf97 : (∀ k, (0 : Int) ≤ (f97 k).toInt ∧ (f97 k).toInt ≤ 80) := by rw [ef97]; exact ai_upd bv65nfa0_24 _ ⟨qx96.2.1, (Int.le_trans qx96.2.2 zq10)⟩
              refine lv_iconst (v := 0) hx hb dX8_patrol_98 zk_iconst_0 ?_
              refine lv_istore (lv' := [(8, .int 0), (0, .ref a0), (1, .int a1), (2, .int a2), (4, .int j46l4), (5, .int j46l5), (6, .int j46l6), (7, .int j46l7)]) hx hb dX8_patrol_99 hl (by decide) rfl (fun ls hl => ?_)
              have J101 : ∀ (n : Nat) (j101l8 : Int32) (j101a0_26 : Int32) (j101a0_27 : Int32) (j101a0_28 : Int32) (j101a0_18_a : Nat → Int32) (H : Heap) (locs : List Loc) (ls : Array Slot), (61 : Int) - j101l8.toInt ≤ (n : Int) → (0 : Int) ≤ j101l8.toInt → j101l8.toInt ≤ (60 : Int) → ((∀ k : Nat, 0 ≤ k → k ≤ 8 → (0 : Int) ≤ (j101a0_18_a k).toInt ∧ (j101a0_18_a k).toInt ≤ 8) ∧ (∀ k : Nat, 19 ≤ k → k ≤ 19 → (0 : Int) ≤ (j101a0_18_a k).toInt ∧ (j101a0_18_a k).toInt ≤ 8) ∧ (∀ k : Nat, 20 ≤ k → k ≤ 20 → (0 : Int) ≤ (j101a0_18_a k).toInt ∧ (j101a0_18_a k).toInt ≤ 19)) → va_P (dC, dI) vwCl [(a0, .inr (8, [Value.int v1na0_0, a0g_1, a0g_2, a0g_3, a0g_4, a0g_5, a0g_6, a0g_7, a0g_8, a0g_9, a0g_10, Value.int v1na0_11, a0g_12, a0g_13, Value.int a0_14, Value.ref a0_15, a0g_16, Value.ref a0_17, Value.ref a0_18, a0g_19, a0g_20, a0g_21, a0g_22, Value.ref a0_23, Value.ref a0_24, Value.int v65na0_25, Value.int j101a0_26, Value.int j101a0_27, Value.int j101a0_28, a0g_29, a0g_30, a0g_31, a0g_32, a0g_33, a0g_34, a0g_35, a0g_36, a0g_37, a0g_38, a0g_39])), (a0_15, .inl (ka0_15, 156, .inl (fa0_15))), (a0_23, .inl (ka0_23, 3, .inl (f82))), (a0_24, .inl (ka0_24, 3, .inl (f97))), (a0_17, .inl (ka0_17, 23, .inl (fa0_17))), (a0_18, .inl (ka0_18, 23, .inl (j101a0_18_a)))] H → va_D A [(a0, .inr (8, [Value.int v1na0_0, a0g_1, a0g_2, a0g_3, a0g_4, a0g_5, a0g_6, a0g_7, a0g_8, a0g_9, a0g_10, Value.int v1na0_11, a0g_12, a0g_13, Value.int a0_14, Value.ref a0_15, a0g_16, Value.ref a0_17, Value.ref a0_18, a0g_19, a0g_20, a0g_21, a0g_22, Value.ref a0_23, Value.ref a0_24, Value.int v65na0_25, Value.int j101a0_26, Value.int j101a0_27, Value.int j101a0_28, a0g_29, a0g_30, a0g_31, a0g_32, a0g_33, a0g_34, a0g_35, a0g_36, a0g_37, a0g_38, a0g_39])), (a0_15, .inl (ka0_15, 156, .inl (fa0_15))), (a0_23, .inl (ka0_23, 3, .inl (f82))), (a0_24, .inl (ka0_24, 3, .inl (f97))), (a0_17, .inl (ka0_17, 23, .inl (fa0_17))), (a0_18, .inl (ka0_18, 23, .inl (j101a0_18_a)))] → va_S A s.heap H locs → lv_has ls 9 [(0, .ref a0), (1, .int a1), (2, .int a2), (4, .int j46l4), (5, .int j46l5), (6, .int j46l6), (7, .int j46l7), (8, .int j101l8)] → K H locs (F0 m 101 ls []) := by
                intro n
                induction n with
                | zero =>
                  intro j101l8 j101a0_26 j101a0_27 j101a0_28 j101a0_18_a H locs ls hm bj101l8_l bj101l8_u bj101a0_18_a hP hD hS hl
                  have h8 := ai_min j101l8
                  have h9 := ai_max j101l8
                  exact absurd hm (by omega)
                | succ n ih101 =>
                  intro j101l8 j101a0_26 j101a0_27 j101a0_28 j101a0_18_a H locs ls hm bj101l8_l bj101l8_u bj101a0_18_a hP hD hS hl
                  refine (hK0 _ _ _).mpr ?_
                  have hm101 := hm
                  refine lv_iload hx hb dX8_patrol_101 (lv_at hl 7 rfl) ?_
                  refine lv_iload_n hx hb dX8_patrol_103 rfl (lv_at hl 2 rfl) ?_
                  refine lv_icmp_ge (tgt := 121) hx hb dX8_patrol_104 (by decide) (fun c104 => ?_) (fun c104 => ?_)
                  · have gc104 := ai_le c104
                    have u104t_a2 : a2.toInt ≤ (60 : Int) := u14k0_a2
                    have l104t_j101l8 : (1 : Int) ≤ j101l8.toInt := Int.le_trans l14k0_a2 gc104
                    refine lv_aload_n hx hb dX8_patrol_121 rfl (lv_at hl 0 rfl) ?_
                    refine va_get (D := (dC, dI)) (ci := 8) (v := .ref a0_18) (C := RX8) (T := TX8) (N := 40) hx hb hts zi_X8_patrol_8 hown hK hP 0 rfl rfl 18 (by decide) (hts (.fieldLink RX8 29 "WaxTurnsModel" "trial" "[I") (zm_X8_patrol_r1 (List.mem_of_getElem? (i := 4) rfl))) (fun _ h9 => h9) rfl dX8_patrol_122 ?_
                    refine lv_bipush (v := 18) hx hb dX8_patrol_125 zk_bipush_18 ?_
                    refine va_iald hx hb hK hP 5 4 rfl rfl (by unfold vp_in; decide +kernel) dX8_patrol_127 ?_
                    refine lv_topi (fun x127 ex127 => ?_)
                    obtain ⟨hPc, hDc, hFc, hCc⟩ := zc_cut (wc := []) hP hD hS hA [] (by decide +kernel) rfl
                    have hKc := hK.sub (tys' := []) [] rfl
                    refine va_calli (va_runS (As := [.int x127]) (rest := []) ⟨hx, hb, hml, hown, hts⟩ (c_X8_ones l dC dI H.size x127 ) (va_cwS 1 hts gX8_patrol_X8_ones rfl rfl rfl zd_X8_ones.2 ⟨Nat.le_of_ble_eq_true rfl, Nat.le_of_ble_eq_true rfl⟩) ⟨ax_blind (fun _ _ _ _ _ => trivial), ax_pre hPc hKc hDc (fun _ _ => trivial)⟩ rfl rfl hl.1 rfl (lv_room (Nat.le_of_ble_eq_true rfl)) dX8_patrol_128 ⟨Nat.le_of_ble_eq_true rfl, Nat.le_of_ble_eq_true rfl⟩) hS (fun q _ h => hFc q h) hFc (fun r128 u t H locs ht hvm hw hB hz1 hk1 hS => ?_)
                    obtain ⟨hP1, hK1, hD1⟩ := hB
                    rw [ht] at hP1
                    obtain ⟨hP, hD⟩ := zc_back (w := [(a0, .inr (8, [Value.int v1na0_0, a0g_1, a0g_2, a0g_3, a0g_4, a0g_5, a0g_6, a0g_7, a0g_8, a0g_9, a0g_10, Value.int v1na0_11, a0g_12, a0g_13, Value.int a0_14, Value.ref a0_15, a0g_16, Value.ref a0_17, Value.ref a0_18, a0g_19, a0g_20, a0g_21, a0g_22, Value.ref a0_23, Value.ref a0_24, Value.int v65na0_25, Value.int j101a0_26, Value.int j101a0_27, Value.int j101a0_28, a0g_29, a0g_30, a0g_31, a0g_32, a0g_33, a0g_34, a0g_35, a0g_36, a0g_37, a0g_38, a0g_39])), (a0_15, .inl (ka0_15, 156, .inl (fa0_15))), (a0_23, .inl (ka0_23, 3, .inl (f82))), (a0_24, .inl (ka0_24, 3, .inl (f97))), (a0_17, .inl (ka0_17, 23, .inl (fa0_17))), (a0_18, .inl (ka0_18, 23, .inl (j101a0_18_a)))]) hP hD hCc hk1 hFc hP1 hD1 [.inl 0, .inl 1, .inl 2, .inl 3, .inl 4, .inl 5] (by decide +kernel) rfl
                    refine lv_istore (lv' := [(8, .int r128), (0, .ref a0), (1, .int a1), (2, .int a2), (4, .int j46l4), (5, .int j46l5), (6, .int j46l6), (7, .int j46l7)]) hx hb dX8_patrol_131 hl (by decide) rfl (fun ls hl => ?_)
                    refine lv_iload hx hb dX8_patrol_133 (lv_at hl 0 rfl) ?_
                    refine lv_iload hx hb dX8_patrol_135 (lv_at hl 5 rfl) ?_
                    have J193 : ∀ (j193l4 : Int32) (j193l5 : Int32) (j193l6 : Int32) (H : Heap) (locs : List Loc) (ls : Array Slot), (-2 : Int) ≤ j193l4.toInt → j193l4.toInt ≤ (880 : Int) → j193l5.toInt ≤ (100000000 : Int) → va_P (dC, dI) vwCl [(a0, .inr (8, [Value.int v1na0_0, a0g_1, a0g_2, a0g_3, a0g_4, a0g_5, a0g_6, a0g_7, a0g_8, a0g_9, a0g_10, Value.int v1na0_11, a0g_12, a0g_13, Value.int a0_14, Value.ref a0_15, a0g_16, Value.ref a0_17, Value.ref a0_18, a0g_19, a0g_20, a0g_21, a0g_22, Value.ref a0_23, Value.ref a0_24, Value.int v65na0_25, Value.int j101a0_26, Value.int j101a0_27, Value.int j101a0_28, a0g_29, a0g_30, a0g_31, a0g_32, a0g_33, a0g_34, a0g_35, a0g_36, a0g_37, a0g_38, a0g_39])), (a0_15, .inl (ka0_15, 156, .inl (fa0_15))), (a0_23, .inl (ka0_23, 3, .inl (f82))), (a0_24, .inl (ka0_24, 3, .inl (f97))), (a0_17, .inl (ka0_17, 23, .inl (fa0_17))), (a0_18, .inl (ka0_18, 23, .inl (j101a0_18_a)))] H → va_D A [(a0, .inr (8, [Value.int v1na0_0, a0g_1, a0g_2, a0g_3, a0g_4, a0g_5, a0g_6, a0g_7, a0g_8, a0g_9, a0g_10, Value.int v1na0_11, a0g_12, a0g_13, Value.int a0_14, Value.ref a0_15, a0g_16, Value.ref a0_17, Value.ref a0_18, a0g_19, a0g_20, a0g_21, a0g_22, Value.ref a0_23, Value.ref a0_24, Value.int v65na0_25, Value.int j101a0_26, Value.int j101a0_27, Value.int j101a0_28, a0g_29, a0g_30, a0g_31, a0g_32, a0g_33, a0g_34, a0g_35, a0g_36, a0g_37, a0g_38, a0g_39])), (a0_15, .inl (ka0_15, 156, .inl (fa0_15))), (a0_23, .inl (ka0_23, 3, .inl (f82))), (a0_24, .inl (ka0_24, 3, .inl (f97))), (a0_17, .inl (ka0_17, 23, .inl (fa0_17))), (a0_18, .inl (ka0_18, 23, .inl (j101a0_18_a)))] → va_S A s.heap H locs → lv_has ls 9 [(0, .ref a0), (1, .int a1), (2, .int a2), (4, .int j193l4), (5, .int j193l5), (6, .int j193l6), (7, .int j46l7)] → K H locs (F0 m 193 ls []) := by
                      intro j193l4 j193l5 j193l6 H locs ls  bj193l4_l bj193l4_u bj193l5_u hP hD hS hl
                      refine (hK0 _ _ _).mpr ?_
                      obtain ⟨x193, ex193⟩ : ∃ y : Int32, y = j46l7 + Int32.ofInt 1 := ⟨_, rfl⟩
                      have qx193 : x193.toInt = j46l7.toInt + 1 := ai_inc ex193 (by decide) (by decide) u61f_j46l7 (by decide)
                      have bx193 : (1 : Int) ≤ x193.toInt ∧ x193.toInt ≤ 81 := ⟨by rw [qx193]; exact Int.add_le_add bj46l7_l (Int.le_refl _), by rw [qx193]; exact Int.add_le_add u61f_j46l7 (Int.le_refl _)⟩
                      refine lv_iinc (v := x193) (lv' := [(7, .int x193), (0, .ref a0), (1, .int a1), (2, .int a2), (4, .int j193l4), (5, .int j193l5), (6, .int j193l6)]) hx hb dX8_patrol_193 hl (k := 6) rfl ex193.symm (by decide) rfl (fun ls hl => ?_)
                      refine lv_goto (tgt := 46) hx hb dX8_patrol_196 (by decide) ?_
                      exact (hK0 _ _ _).mp (ih46 x193 j193l6 j193l5 j193l4 v65na0_25 j101a0_26 j101a0_27 j101a0_28 f82 f97 j101a0_18_a _ _ _ (by have h0 := qx193; omega) (Int.le_trans zq4 bx193.1) (Int.le_trans bx193.2 zq173) bj193l5_u bj193l4_l bj193l4_u bf82 bf97 bj101a0_18_a hP hD hS (lv_sub hl [1, 2, 3, 4, 5, 6, 0] rfl))
                    refine lv_icmp_gt (tgt := 193) hx hb dX8_patrol_137 (by decide) (fun c137 => ?_) (fun c137 => ?_)
                    · have gc137 := ai_lt c137
                      have u137t_j46l5 : j46l5.toInt ≤ (100000000 : Int) := bj46l5_u
                      have l137t_r128 : (-2147483647 : Int) ≤ r128.toInt := ai_ltlo gc137 (ai_min j46l5)
                      exact (hK0 _ _ _).mp (J193 j46l4 j46l5 j46l6 _ _ _  bj46l4_l bj46l4_u u137t_j46l5 hP hD hS (lv_sub hl [1, 2, 3, 4, 5, 6, 7] rfl))
                    · have gc137 := ai_nlt c137
                      have u137f_r128 : r128.toInt ≤ (100000000 : Int) := Int.le_trans gc137 bj46l5_u
                      refine lv_iload hx hb dX8_patrol_140 (lv_at hl 0 rfl) ?_
                      refine lv_iload hx hb dX8_patrol_142 (lv_at hl 5 rfl) ?_
                      have J162 : ∀ (H : Heap) (locs : List Loc) (ls : Array Slot), va_P (dC, dI) vwCl [(a0, .inr (8, [Value.int v1na0_0, a0g_1, a0g_2, a0g_3, a0g_4, a0g_5, a0g_6, a0g_7, a0g_8, a0g_9, a0g_10, Value.int v1na0_11, a0g_12, a0g_13, Value.int a0_14, Value.ref a0_15, a0g_16, Value.ref a0_17, Value.ref a0_18, a0g_19, a0g_20, a0g_21, a0g_22, Value.ref a0_23, Value.ref a0_24, Value.int v65na0_25, Value.int j101a0_26, Value.int j101a0_27, Value.int j101a0_28, a0g_29, a0g_30, a0g_31, a0g_32, a0g_33, a0g_34, a0g_35, a0g_36, a0g_37, a0g_38, a0g_39])), (a0_15, .inl (ka0_15, 156, .inl (fa0_15))), (a0_23, .inl (ka0_23, 3, .inl (f82))), (a0_24, .inl (ka0_24, 3, .inl (f97))), (a0_17, .inl (ka0_17, 23, .inl (fa0_17))), (a0_18, .inl (ka0_18, 23, .inl (j101a0_18_a)))] H → va_D A [(a0, .inr (8, [Value.int v1na0_0, a0g_1, a0g_2, a0g_3, a0g_4, a0g_5, a0g_6, a0g_7, a0g_8, a0g_9, a0g_10, Value.int v1na0_11, a0g_12, a0g_13, Value.int a0_14, Value.ref a0_15, a0g_16, Value.ref a0_17, Value.ref a0_18, a0g_19, a0g_20, a0g_21, a0g_22, Value.ref a0_23, Value.ref a0_24, Value.int v65na0_25, Value.int j101a0_26, Value.int j101a0_27, Value.int j101a0_28, a0g_29, a0g_30, a0g_31, a0g_32, a0g_33, a0g_34, a0g_35, a0g_36, a0g_37, a0g_38, a0g_39])), (a0_15, .inl (ka0_15, 156, .inl (fa0_15))), (a0_23, .inl (ka0_23, 3, .inl (f82))), (a0_24, .inl (ka0_24, 3, .inl (f97))), (a0_17, .inl (ka0_17, 23, .inl (fa0_17))), (a0_18, .inl (ka0_18, 23, .inl (j101a0_18_a)))] → va_S A s.heap H locs → lv_has ls 9 [(0, .ref a0), (1, .int a1), (2, .int a2), (7, .int j46l7), (8, .int r128)] → K H locs (F0 m 162 ls []) := by
                        intro  H locs ls   hP hD hS hl
                        refine (hK0 _ _ _).mpr ?_
                        refine lv_bipush (v := 10) hx hb dX8_patrol_162 zk_bipush_10 ?_
                        refine lv_aload_n hx hb dX8_patrol_164 rfl (lv_at hl 0 rfl) ?_
                        refine va_get (D := (dC, dI)) (ci := 8) (v := .ref a0_23) (C := RX8) (T := TX8) (N := 40) hx hb hts zi_X8_patrol_8 hown hK hP 0 rfl rfl 23 (by decide) (hts (.fieldLink RX8 38 "WaxTurnsModel" "from" "[I") (zm_X8_patrol_r1 (List.mem_of_getElem? (i := 2) rfl))) (fun _ h9 => h9) rfl dX8_patrol_165 ?_
                        refine lv_iload_n hx hb dX8_patrol_168 rfl (lv_at hl 1 rfl) ?_
                        refine va_iald hx hb hK hP 2 1 rfl rfl (ai_in l7k0_a1 u7k0_a1 (by decide) (by decide)) dX8_patrol_169 ?_
                        refine lv_topi (fun x169 ex169 => ?_)
                        have bx169 : (0 : Int) ≤ x169.toInt ∧ x169.toInt ≤ 80 := by rw [ex169]; exact bf82 _
                        refine lv_imul hx hb dX8_patrol_170 ?_
                        refine lv_topi (fun x170 ex170 => ?_)
                        have qx170 : x170.toInt = (10 : Int32).toInt * x169.toInt ∧ (0 : Int) ≤ x170.toInt ∧ x170.toInt ≤ 800 := ai_mul ex170 ⟨zq26, zq27⟩ ⟨bx169.1, bx169.2⟩ (by decide) (by decide) zq91
                        have wx170 : x170.toInt = 10 * x169.toInt := qx170.1
                        refine lv_aload_n hx hb dX8_patrol_171 rfl (lv_at hl 0 rfl) ?_
                        refine va_get (D := (dC, dI)) (ci := 8) (v := .ref a0_24) (C := RX8) (T := TX8) (N := 40) hx hb hts zi_X8_patrol_8 hown hK hP 0 rfl rfl 24 (by decide) (hts (.fieldLink RX8 41 "WaxTurnsModel" "to" "[I") (zm_X8_patrol_r1 (List.mem_of_getElem? (i := 3) rfl))) (fun _ h9 => h9) rfl dX8_patrol_172 ?_
                        refine lv_iload_n hx hb dX8_patrol_175 rfl (lv_at hl 1 rfl) ?_
                        refine va_iald hx hb hK hP 3 2 rfl rfl (ai_in l7k0_a1 u7k0_a1 (by decide) (by decide)) dX8_patrol_176 ?_
                        refine lv_topi (fun x176 ex176 => ?_)
                        have bx176 : (0 : Int) ≤ x176.toInt ∧ x176.toInt ≤ 80 := by rw [ex176]; exact bf97 _
                        refine lv_iadd hx hb dX8_patrol_177 ?_
                        refine lv_topi (fun x177 ex177 => ?_)
                        have qx177 : x177.toInt = x170.toInt + x176.toInt := ai_add ex177 ⟨qx170.2.1, qx170.2.2⟩ ⟨bx176.1, bx176.2⟩ (by decide) (by decide)
                        have bx177 : (0 : Int) ≤ x177.toInt ∧ x177.toInt ≤ 880 := ⟨by rw [qx177]; exact Int.add_le_add qx170.2.1 bx176.1, by rw [qx177]; exact Int.add_le_add qx170.2.2 bx176.2⟩
                        refine lv_istore (lv' := [(4, .int x177), (0, .ref a0), (1, .int a1), (2, .int a2), (7, .int j46l7), (8, .int r128)]) hx hb dX8_patrol_178 hl (by decide) rfl (fun ls hl => ?_)
                        refine lv_iload hx hb dX8_patrol_180 (lv_at hl 5 rfl) ?_
                        refine lv_istore (lv' := [(5, .int r128), (4, .int x177), (0, .ref a0), (1, .int a1), (2, .int a2), (7, .int j46l7), (8, .int r128)]) hx hb dX8_patrol_182 hl (by decide) rfl (fun ls hl => ?_)
                        refine lv_aload_n hx hb dX8_patrol_184 rfl (lv_at hl 2 rfl) ?_
                        refine va_get (D := (dC, dI)) (ci := 8) (v := .ref a0_18) (C := RX8) (T := TX8) (N := 40) hx hb hts zi_X8_patrol_8 hown hK hP 0 rfl rfl 18 (by decide) (hts (.fieldLink RX8 29 "WaxTurnsModel" "trial" "[I") (zm_X8_patrol_r1 (List.mem_of_getElem? (i := 4) rfl))) (fun _ h9 => h9) rfl dX8_patrol_185 ?_
                        refine lv_bipush (v := 22) hx hb dX8_patrol_188 zk_bipush_22 ?_
                        refine va_iald hx hb hK hP 5 4 rfl rfl (by unfold vp_in; decide +kernel) dX8_patrol_190 ?_
                        refine lv_topi (fun x190 ex190 => ?_)
                        refine lv_istore (lv' := [(6, .int x190), (5, .int r128), (4, .int x177), (0, .ref a0), (1, .int a1), (2, .int a2), (7, .int j46l7), (8, .int r128)]) hx hb dX8_patrol_191 hl (by decide) rfl (fun ls hl => ?_)
                        exact (hK0 _ _ _).mp (J193 x177 r128 x190 _ _ _  (Int.le_trans zq75 bx177.1) bx177.2 u137f_r128 hP hD hS (lv_sub hl [3, 4, 5, 2, 1, 0, 6] rfl))
                      refine lv_icmp_ne (tgt := 162) hx hb dX8_patrol_144 (by decide) (fun c144 => ?_) (fun c144 => ?_)
                      · have gc144 := ai_ne c144
                        exact (hK0 _ _ _).mp (J162  _ _ _   hP hD hS (lv_sub hl [1, 2, 3, 7, 0] rfl))
                      · have gc144 := ai_eq c144
                        have u144f_r128 : r128.toInt ≤ (100000000 : Int) := u137f_r128
                        have u144f_j46l5 : j46l5.toInt ≤ (100000000 : Int) := bj46l5_u
                        refine lv_aload_n hx hb dX8_patrol_147 rfl (lv_at hl 1 rfl) ?_
                        refine va_get (D := (dC, dI)) (ci := 8) (v := .ref a0_18) (C := RX8) (T := TX8) (N := 40) hx hb hts zi_X8_patrol_8 hown hK hP 0 rfl rfl 18 (by decide) (hts (.fieldLink RX8 29 "WaxTurnsModel" "trial" "[I") (zm_X8_patrol_r1 (List.mem_of_getElem? (i := 4) rfl))) (fun _ h9 => h9) rfl dX8_patrol_148 ?_
                        refine lv_bipush (v := 22) hx hb dX8_patrol_151 zk_bipush_22 ?_
                        refine va_iald hx hb hK hP 5 4 rfl rfl (by unfold vp_in; decide +kernel) dX8_patrol_153 ?_
                        refine lv_topi (fun x153 ex153 => ?_)
                        refine lv_iload hx hb dX8_patrol_154 (lv_at hl 6 rfl) ?_
                        refine lv_icmp_gt (tgt := 162) hx hb dX8_patrol_156 (by decide) (fun c156 => ?_) (fun c156 => ?_)
                        · have gc156 := ai_lt c156
                          have u156t_j46l6 : j46l6.toInt ≤ (2147483646 : Int) := ai_lthi gc156 (ai_max x153)
                          have l156t_x153 : (-2147483647 : Int) ≤ x153.toInt := ai_ltlo gc156 (ai_min j46l6)
                          exact (hK0 _ _ _).mp (J162  _ _ _   hP hD hS (lv_sub hl [1, 2, 3, 7, 0] rfl))
                        · have gc156 := ai_nlt c156
                          refine lv_goto (tgt := 193) hx hb dX8_patrol_159 (by decide) ?_
                          exact (hK0 _ _ _).mp (J193 j46l4 j46l5 j46l6 _ _ _  bj46l4_l bj46l4_u u144f_j46l5 hP hD hS (lv_sub hl [1, 2, 3, 4, 5, 6, 7] rfl))
                  · have gc104 := ai_nle c104
                    have u104f_j101l8 : j101l8.toInt ≤ (59 : Int) := ai_lthi gc104 u14k0_a2
                    have l104f_a2 : (1 : Int) ≤ a2.toInt := l14k0_a2
                    refine lv_aload_n hx hb dX8_patrol_107 rfl (lv_at hl 0 rfl) ?_
                    refine lv_aload_n hx hb dX8_patrol_108 rfl (lv_at hl 0 rfl) ?_
                    refine va_get (D := (dC, dI)) (ci := 8) (v := .ref a0_18) (C := RX8) (T := TX8) (N := 40) hx hb hts zi_X8_patrol_8 hown hK hP 0 rfl rfl 18 (by decide) (hts (.fieldLink RX8 29 "WaxTurnsModel" "trial" "[I") (zm_X8_patrol_r1 (List.mem_of_getElem? (i := 4) rfl))) (fun _ h9 => h9) rfl dX8_patrol_109 ?_
                    obtain ⟨hPc, hDc, hFc, hCc⟩ := zc_cut (wc := [(a0, .inr (8, [Value.int v1na0_0, a0g_1, a0g_2, a0g_3, a0g_4, a0g_5, a0g_6, a0g_7, a0g_8, a0g_9, a0g_10, Value.int v1na0_11, a0g_12, a0g_13, Value.int a0_14, Value.ref a0_15, a0g_16, Value.ref a0_17, Value.ref a0_18, a0g_19, a0g_20, a0g_21, a0g_22, Value.ref a0_23, Value.ref a0_24, Value.int v65na0_25, Value.int j101a0_26, Value.int j101a0_27, Value.int j101a0_28, a0g_29, a0g_30, a0g_31, a0g_32, a0g_33, a0g_34, a0g_35, a0g_36, a0g_37, a0g_38, a0g_39])), (a0_18, .inl (ka0_18, 23, .inl (j101a0_18_a))), (a0_15, .inl (ka0_15, 156, .inl (fa0_15))), (a0_24, .inl (ka0_24, 3, .inl (f97))), (a0_23, .inl (ka0_23, 3, .inl (f82)))]) hP hD hS hA [0, 5, 1, 3, 2] (by decide +kernel) rfl
                    have hKc := hK.sub (tys' := [(ka0_18, .int), (ka0_15, .int), (ka0_24, .int), (ka0_23, .int)]) [4, 0, 2, 1] rfl
                    refine va_callv (va_runV (As := [.ref a0_18]) (rest := []) ⟨hx, hb, hml, hown, hts⟩ (c_X8_minuteOn l dC dI H.size a0 a0_18 (Value.int v1na0_0) a0g_1 a0g_2 a0g_3 a0g_4 a0g_5 a0g_6 a0g_7 a0g_8 a0g_9 a0g_10 (Value.int v1na0_11) a0g_12 a0g_13 (Value.int a0_14) a0g_16 (Value.ref a0_17) (Value.ref a0_18) a0g_19 a0g_20 a0g_21 a0g_22 a0g_29 a0g_30 a0g_31 a0g_32 a0g_33 a0g_34 a0g_35 a0g_36 a0g_37 a0g_38 a0g_39 a0_15 a0_23 a0_24 v65na0_25 j101a0_26 j101a0_27 j101a0_28 ka0_18 j101a0_18_a ka0_15 fa0_15 ka0_24 f97 ka0_23 f82 bj101a0_18_a bfa0_15 bf97 bf82 hkm) (cwV 1 hts gX8_patrol_X8_minuteOn rfl rfl rfl zd_X8_minuteOn ⟨Nat.le_of_ble_eq_true rfl, Nat.le_of_ble_eq_true rfl⟩) ⟨ax_blind (fun _ _ _ _ _ => trivial), zr_8 hKc hPc (q0 := 0) rfl, ax_pre hPc hKc hDc (fun _ _ => trivial)⟩ rfl rfl hl.1 rfl (lv_room (Nat.le_of_ble_eq_true rfl)) dX8_patrol_112 ⟨Nat.le_of_ble_eq_true rfl, Nat.le_of_ble_eq_true rfl⟩) hS (fun q _ h => hFc q h) hFc (fun u t H locs ht hvm hw hB hz1 hk1 hS => ?_)
                    obtain ⟨v112na0_26, v112na0_27, v112na0_28, v112nfa1, bv112nfa1, hP1, hK1, hD1⟩ := hB
                    rw [ht] at hP1
                    obtain ⟨hP, hD⟩ := zc_back (w := [(a0, .inr (8, [Value.int v1na0_0, a0g_1, a0g_2, a0g_3, a0g_4, a0g_5, a0g_6, a0g_7, a0g_8, a0g_9, a0g_10, Value.int v1na0_11, a0g_12, a0g_13, Value.int a0_14, Value.ref a0_15, a0g_16, Value.ref a0_17, Value.ref a0_18, a0g_19, a0g_20, a0g_21, a0g_22, Value.ref a0_23, Value.ref a0_24, Value.int v65na0_25, Value.int v112na0_26, Value.int v112na0_27, Value.int v112na0_28, a0g_29, a0g_30, a0g_31, a0g_32, a0g_33, a0g_34, a0g_35, a0g_36, a0g_37, a0g_38, a0g_39])), (a0_15, .inl (ka0_15, 156, .inl (fa0_15))), (a0_23, .inl (ka0_23, 3, .inl (f82))), (a0_24, .inl (ka0_24, 3, .inl (f97))), (a0_17, .inl (ka0_17, 23, .inl (fa0_17))), (a0_18, .inl (ka0_18, 23, .inl (v112nfa1)))]) hP hD hCc hk1 hFc hP1 hD1 [.inr 0, .inr 2, .inr 4, .inr 3, .inl 4, .inr 1] (by decide +kernel) rfl
                    obtain ⟨x115, ex115⟩ : ∃ y : Int32, y = j101l8 + Int32.ofInt 1 := ⟨_, rfl⟩
                    have qx115 : x115.toInt = j101l8.toInt + 1 := ai_inc ex115 (by decide) (by decide) u104f_j101l8 (by decide)
                    have bx115 : (1 : Int) ≤ x115.toInt ∧ x115.toInt ≤ 60 := ⟨by rw [qx115]; exact Int.add_le_add bj101l8_l (Int.le_refl _), by rw [qx115]; exact Int.add_le_add u104f_j101l8 (Int.le_refl _)⟩
                    refine lv_iinc (v := x115) (lv' := [(8, .int x115), (0, .ref a0), (1, .int a1), (2, .int a2), (4, .int j46l4), (5, .int j46l5), (6, .int j46l6), (7, .int j46l7)]) hx hb dX8_patrol_115 hl (k := 7) rfl ex115.symm (by decide) rfl (fun ls hl => ?_)
                    refine lv_goto (tgt := 101) hx hb dX8_patrol_118 (by decide) ?_
                    exact (hK0 _ _ _).mp (ih101 x115 v112na0_26 v112na0_27 v112na0_28 v112nfa1 _ _ _ (by have h0 := qx115; omega) (Int.le_trans zq4 bx115.1) bx115.2 bv112nfa1 hP hD hS (lv_sub hl [1, 2, 3, 4, 5, 6, 7, 0] rfl))
              exact (hK0 _ _ _).mp (J101 61 0 j46a0_26 j46a0_27 j46a0_28 v65nfa0_18 _ _ _ (by have h1 : (0 : Int) ≤ (0 : Int32).toInt := zq5; have h2 : (0 : Int32).toInt ≤ (0 : Int) := zq6; omega) zq5 (Int.le_trans zq6 zq128) bv65nfa0_18 hP hD hS (lv_sub hl [1, 2, 3, 4, 5, 6, 7, 0] rfl))
        exact (hK0 _ _ _).mp (J46 100 0 (-1) 100000000 (-2) a0_25 a0_26 a0_27 a0_28 fa0_23 fa0_24 fa0_18 _ _ _ (by have h1 : (0 : Int) ≤ (0 : Int32).toInt := zq5; have h2 : (0 : Int32).toInt ≤ (0 : Int) := zq6; omega) zq5 (Int.le_trans zq6 zq41) zq174 zq45 (Int.le_trans zq44 zq175) bfa0_23 bfa0_24 bfa0_18 hP hD hS (lv_sub hl [5, 6, 7, 3, 2, 1, 0] rfl))
    · obtain ⟨hw, h14⟩ := hw
      subst hw
      obtain ⟨hPc, hDc, hFc, hCc⟩ := zc_cut (wc := [(a0, .inr (8, [Value.int v1na0_0, a0g_1, a0g_2, a0g_3, a0g_4, a0g_5, a0g_6, a0g_7, a0g_8, a0g_9, a0g_10, Value.int v1na0_11, a0g_12, a0g_13, Value.int a0_14, Value.ref a0_15, a0g_16, Value.ref a0_17, Value.ref a0_18, a0g_19, a0g_20, a0g_21, a0g_22, Value.ref a0_23, Value.ref a0_24, Value.int a0_25, Value.int a0_26, Value.int a0_27, Value.int a0_28, a0g_29, a0g_30, a0g_31, a0g_32, a0g_33, a0g_34, a0g_35, a0g_36, a0g_37, a0g_38, a0g_39]))]) hP hD hS hA [0] (by decide +kernel) rfl
      have hKc := hK.sub (tys' := []) [] rfl
      refine va_calli (va_runV (As := [.int 1, .int 0]) (rest := []) ⟨hx, hb, hml, hown, hts⟩ (c_X8_whyB l dC dI H.size a0 1 0 (Value.int v1na0_0) a0g_1 a0g_2 a0g_3 a0g_4 a0g_5 a0g_6 a0g_7 a0g_8 a0g_9 a0g_10 (Value.int v1na0_11) a0g_12 a0g_13 (Value.int a0_14) (Value.ref a0_15) a0g_16 (Value.ref a0_17) (Value.ref a0_18) a0g_19 a0g_20 a0g_21 a0g_22 (Value.ref a0_23) (Value.ref a0_24) (Value.int a0_25) (Value.int a0_26) (Value.int a0_27) (Value.int a0_28) a0g_29 a0g_30 a0g_31 a0g_32 a0g_33 a0g_34 a0g_35 a0g_36 a0g_37 a0g_38 a0g_39 (Int.le_trans zq4 zq1) zq0 zq5 (Int.le_trans zq6 zq4)) (cwV 2 hts gX8_patrol_X8_why rfl rfl rfl zd_X8_why ⟨Nat.le_of_ble_eq_true rfl, Nat.le_of_ble_eq_true rfl⟩) ⟨ax_blind (fun _ _ _ _ _ => trivial), zr_8 hKc hPc (q0 := 0) rfl, ax_pre hPc hKc hDc (fun _ _ => trivial)⟩ rfl rfl hl.1 rfl (lv_room (Nat.le_of_ble_eq_true rfl)) dX8_patrol_17 ⟨Nat.le_of_ble_eq_true rfl, Nat.le_of_ble_eq_true rfl⟩) hS (fun q _ h => hFc q h) hFc (fun r17 u t H locs ht hvm hw hB hz1 hk1 hS => ?_)
      obtain ⟨hP1, hK1, hD1⟩ := hB
      rw [ht] at hP1
      obtain ⟨hP, hD⟩ := zc_back (w := [(a0, .inr (8, [Value.int v1na0_0, a0g_1, a0g_2, a0g_3, a0g_4, a0g_5, a0g_6, a0g_7, a0g_8, a0g_9, a0g_10, Value.int v1na0_11, a0g_12, a0g_13, Value.int a0_14, Value.ref a0_15, a0g_16, Value.ref a0_17, Value.ref a0_18, a0g_19, a0g_20, a0g_21, a0g_22, Value.ref a0_23, Value.ref a0_24, Value.int a0_25, Value.int a0_26, Value.int a0_27, Value.int a0_28, a0g_29, a0g_30, a0g_31, a0g_32, a0g_33, a0g_34, a0g_35, a0g_36, a0g_37, a0g_38, a0g_39])), (a0_15, .inl (ka0_15, 156, .inl (fa0_15))), (a0_23, .inl (ka0_23, 3, .inl (fa0_23))), (a0_24, .inl (ka0_24, 3, .inl (fa0_24))), (a0_17, .inl (ka0_17, 23, .inl (fa0_17))), (a0_18, .inl (ka0_18, 23, .inl (fa0_18)))]) hP hD hCc hk1 hFc hP1 hD1 [.inr 0, .inl 1, .inl 2, .inl 3, .inl 4, .inl 5] (by decide +kernel) rfl
      rcases hw with hw | hw | hw
      · obtain ⟨hw, h17_0, h17_1, h17_2, h17_3⟩ := hw
        subst hw
        refine lv_istore_n (lv' := [(3, .int 2), (0, .ref a0), (1, .int a1), (2, .int a2)]) hx hb dX8_patrol_20 rfl hl (by decide) rfl (fun ls hl => ?_)
        refine lv_iload_n hx hb dX8_patrol_21 rfl (lv_at hl 0 rfl) ?_
        refine lv_if_eq (tgt := 31) hx hb dX8_patrol_22 (by decide) (fun c22 => absurd c22 (by decide +kernel)) (fun _ => ?_)
        refine lv_aload_n hx hb dX8_patrol_25 rfl (lv_at hl 1 rfl) ?_
        refine lv_iload_n hx hb dX8_patrol_26 rfl (lv_at hl 0 rfl) ?_
        obtain ⟨hPc, hDc, hFc, hCc⟩ := zc_cut (wc := [(a0, .inr (8, [Value.int v1na0_0, a0g_1, a0g_2, a0g_3, a0g_4, a0g_5, a0g_6, a0g_7, a0g_8, a0g_9, a0g_10, Value.int v1na0_11, a0g_12, a0g_13, Value.int a0_14, Value.ref a0_15, a0g_16, Value.ref a0_17, Value.ref a0_18, a0g_19, a0g_20, a0g_21, a0g_22, Value.ref a0_23, Value.ref a0_24, Value.int a0_25, Value.int a0_26, Value.int a0_27, Value.int a0_28, a0g_29, a0g_30, a0g_31, a0g_32, a0g_33, a0g_34, a0g_35, a0g_36, a0g_37, a0g_38, a0g_39]))]) hP hD hS hA [0] (by decide +kernel) rfl
        have hKc := hK.sub (tys' := []) [] rfl
        refine va_calli (va_runV (As := [.int 2]) (rest := []) ⟨hx, hb, hml, hown, hts⟩ (c_X8_no l dC dI H.size a0 2 (Value.int v1na0_0) a0g_1 a0g_2 a0g_3 a0g_4 a0g_5 a0g_6 a0g_7 a0g_8 a0g_9 a0g_10 a0g_12 a0g_13 (Value.int a0_14) (Value.ref a0_15) a0g_16 (Value.ref a0_17) (Value.ref a0_18) a0g_19 a0g_20 a0g_21 a0g_22 (Value.ref a0_23) (Value.ref a0_24) (Value.int a0_25) (Value.int a0_26) (Value.int a0_27) (Value.int a0_28) a0g_29 a0g_30 a0g_31 a0g_32 a0g_33 a0g_34 a0g_35 a0g_36 a0g_37 a0g_38 a0g_39 v1na0_11 ) (cwV 1 hts gX8_patrol_X8_no rfl rfl rfl zd_X8_no ⟨Nat.le_of_ble_eq_true rfl, Nat.le_of_ble_eq_true rfl⟩) ⟨ax_blind (fun _ _ _ _ _ => trivial), zr_8 hKc hPc (q0 := 0) rfl, ax_pre hPc hKc hDc (fun _ _ => trivial)⟩ rfl rfl hl.1 rfl (lv_room (Nat.le_of_ble_eq_true rfl)) dX8_patrol_27 ⟨Nat.le_of_ble_eq_true rfl, Nat.le_of_ble_eq_true rfl⟩) hS (fun q _ h => hFc q h) hFc (fun r27 u t H locs ht hvm hw hB hz1 hk1 hS => ?_)
        obtain ⟨v27na0_11, hP1, hK1, hD1⟩ := hB
        rw [ht] at hP1
        obtain ⟨hP, hD⟩ := zc_back (w := [(a0, .inr (8, [Value.int v1na0_0, a0g_1, a0g_2, a0g_3, a0g_4, a0g_5, a0g_6, a0g_7, a0g_8, a0g_9, a0g_10, Value.int v27na0_11, a0g_12, a0g_13, Value.int a0_14, Value.ref a0_15, a0g_16, Value.ref a0_17, Value.ref a0_18, a0g_19, a0g_20, a0g_21, a0g_22, Value.ref a0_23, Value.ref a0_24, Value.int a0_25, Value.int a0_26, Value.int a0_27, Value.int a0_28, a0g_29, a0g_30, a0g_31, a0g_32, a0g_33, a0g_34, a0g_35, a0g_36, a0g_37, a0g_38, a0g_39])), (a0_15, .inl (ka0_15, 156, .inl (fa0_15))), (a0_23, .inl (ka0_23, 3, .inl (fa0_23))), (a0_24, .inl (ka0_24, 3, .inl (fa0_24))), (a0_17, .inl (ka0_17, 23, .inl (fa0_17))), (a0_18, .inl (ka0_18, 23, .inl (fa0_18)))]) hP hD hCc hk1 hFc hP1 hD1 [.inr 0, .inl 1, .inl 2, .inl 3, .inl 4, .inl 5] (by decide +kernel) rfl
        have hw : r27 = (-1) := hw
        have hw := hw.symm
        subst hw
        exact W.iret (v := (-1)) hx hb hr (fun t ht hW => ⟨⟨(-1), (), rfl, ⟨(Int.le_trans zq76 zq70), (Int.le_trans zq71 zq94)⟩, v1na0_0, v27na0_11, a0_25, a0_26, a0_27, a0_28, fa0_23, fa0_24, fa0_18, bfa0_23, bfa0_24, bfa0_18, by rw [ht]; exact hP, va_K.moved hW.alike hK, hD⟩, hS.F ht⟩) hS.2.2 dX8_patrol_30
      · obtain ⟨hw, h17_0, h17_1⟩ := hw
        subst hw
        exact absurd h17_1 (by decide)
      · obtain ⟨hw, h17_0, h17_1, h17_2, h17_3⟩ := hw
        subst hw
        exact absurd h17_2 (by decide)
  · subst hw
    refine lv_iload_n hx hb dX8_patrol_10 rfl (lv_at hl 2 rfl) ?_
    refine lv_iconst (v := 1) hx hb dX8_patrol_11 zk_iconst_1 ?_
    refine lv_bipush (v := 60) hx hb dX8_patrol_12 zk_bipush_60 ?_
    obtain ⟨hPc, hDc, hFc, hCc⟩ := zc_cut (wc := []) hP hD hS hA [] (by decide +kernel) rfl
    have hKc := hK.sub (tys' := []) [] rfl
    refine va_calli (va_runS (As := [.int a2, .int 1, .int 60]) (rest := [.int 0, .ref a0]) ⟨hx, hb, hml, hown, hts⟩ (c_X8_in l dC dI H.size a2 1 60 ) (va_cwS 3 hts gX8_patrol_X8_in rfl rfl rfl zd_X8_in.2 ⟨Nat.le_of_ble_eq_true rfl, Nat.le_of_ble_eq_true rfl⟩) ⟨ax_blind (fun _ _ _ _ _ => trivial), ax_pre hPc hKc hDc (fun _ _ => trivial)⟩ rfl rfl hl.1 rfl (lv_room (Nat.le_of_ble_eq_true rfl)) dX8_patrol_14 ⟨Nat.le_of_ble_eq_true rfl, Nat.le_of_ble_eq_true rfl⟩) hS (fun q _ h => hFc q h) hFc (fun r14 u t H locs ht hvm hw hB hz1 hk1 hS => ?_)
    obtain ⟨hP1, hK1, hD1⟩ := hB
    rw [ht] at hP1
    obtain ⟨hP, hD⟩ := zc_back (w := [(a0, .inr (8, [Value.int v1na0_0, a0g_1, a0g_2, a0g_3, a0g_4, a0g_5, a0g_6, a0g_7, a0g_8, a0g_9, a0g_10, Value.int v1na0_11, a0g_12, a0g_13, Value.int a0_14, Value.ref a0_15, a0g_16, Value.ref a0_17, Value.ref a0_18, a0g_19, a0g_20, a0g_21, a0g_22, Value.ref a0_23, Value.ref a0_24, Value.int a0_25, Value.int a0_26, Value.int a0_27, Value.int a0_28, a0g_29, a0g_30, a0g_31, a0g_32, a0g_33, a0g_34, a0g_35, a0g_36, a0g_37, a0g_38, a0g_39])), (a0_15, .inl (ka0_15, 156, .inl (fa0_15))), (a0_23, .inl (ka0_23, 3, .inl (fa0_23))), (a0_24, .inl (ka0_24, 3, .inl (fa0_24))), (a0_17, .inl (ka0_17, 23, .inl (fa0_17))), (a0_18, .inl (ka0_18, 23, .inl (fa0_18)))]) hP hD hCc hk1 hFc hP1 hD1 [.inl 0, .inl 1, .inl 2, .inl 3, .inl 4, .inl 5] (by decide +kernel) rfl
    rcases hw with hw | hw
    · obtain ⟨hw, h14⟩ := hw
      subst hw
      have l14k0_a2 : (1 : Int) ≤ a2.toInt := Int.le_trans zq1 h14.1
      have u14k0_a2 : a2.toInt ≤ (60 : Int) := Int.le_trans h14.2 zq46
      obtain ⟨hPc, hDc, hFc, hCc⟩ := zc_cut (wc := [(a0, .inr (8, [Value.int v1na0_0, a0g_1, a0g_2, a0g_3, a0g_4, a0g_5, a0g_6, a0g_7, a0g_8, a0g_9, a0g_10, Value.int v1na0_11, a0g_12, a0g_13, Value.int a0_14, Value.ref a0_15, a0g_16, Value.ref a0_17, Value.ref a0_18, a0g_19, a0g_20, a0g_21, a0g_22, Value.ref a0_23, Value.ref a0_24, Value.int a0_25, Value.int a0_26, Value.int a0_27, Value.int a0_28, a0g_29, a0g_30, a0g_31, a0g_32, a0g_33, a0g_34, a0g_35, a0g_36, a0g_37, a0g_38, a0g_39]))]) hP hD hS hA [0] (by decide +kernel) rfl
      have hKc := hK.sub (tys' := []) [] rfl
      refine va_calli (va_runV (As := [.int 0, .int 1]) (rest := []) ⟨hx, hb, hml, hown, hts⟩ (c_X8_whyB l dC dI H.size a0 0 1 (Value.int v1na0_0) a0g_1 a0g_2 a0g_3 a0g_4 a0g_5 a0g_6 a0g_7 a0g_8 a0g_9 a0g_10 (Value.int v1na0_11) a0g_12 a0g_13 (Value.int a0_14) (Value.ref a0_15) a0g_16 (Value.ref a0_17) (Value.ref a0_18) a0g_19 a0g_20 a0g_21 a0g_22 (Value.ref a0_23) (Value.ref a0_24) (Value.int a0_25) (Value.int a0_26) (Value.int a0_27) (Value.int a0_28) a0g_29 a0g_30 a0g_31 a0g_32 a0g_33 a0g_34 a0g_35 a0g_36 a0g_37 a0g_38 a0g_39 zq5 (Int.le_trans zq6 zq4) (Int.le_trans zq4 zq1) zq0) (cwV 2 hts gX8_patrol_X8_why rfl rfl rfl zd_X8_why ⟨Nat.le_of_ble_eq_true rfl, Nat.le_of_ble_eq_true rfl⟩) ⟨ax_blind (fun _ _ _ _ _ => trivial), zr_8 hKc hPc (q0 := 0) rfl, ax_pre hPc hKc hDc (fun _ _ => trivial)⟩ rfl rfl hl.1 rfl (lv_room (Nat.le_of_ble_eq_true rfl)) dX8_patrol_17 ⟨Nat.le_of_ble_eq_true rfl, Nat.le_of_ble_eq_true rfl⟩) hS (fun q _ h => hFc q h) hFc (fun r17 u t H locs ht hvm hw hB hz1 hk1 hS => ?_)
      obtain ⟨hP1, hK1, hD1⟩ := hB
      rw [ht] at hP1
      obtain ⟨hP, hD⟩ := zc_back (w := [(a0, .inr (8, [Value.int v1na0_0, a0g_1, a0g_2, a0g_3, a0g_4, a0g_5, a0g_6, a0g_7, a0g_8, a0g_9, a0g_10, Value.int v1na0_11, a0g_12, a0g_13, Value.int a0_14, Value.ref a0_15, a0g_16, Value.ref a0_17, Value.ref a0_18, a0g_19, a0g_20, a0g_21, a0g_22, Value.ref a0_23, Value.ref a0_24, Value.int a0_25, Value.int a0_26, Value.int a0_27, Value.int a0_28, a0g_29, a0g_30, a0g_31, a0g_32, a0g_33, a0g_34, a0g_35, a0g_36, a0g_37, a0g_38, a0g_39])), (a0_15, .inl (ka0_15, 156, .inl (fa0_15))), (a0_23, .inl (ka0_23, 3, .inl (fa0_23))), (a0_24, .inl (ka0_24, 3, .inl (fa0_24))), (a0_17, .inl (ka0_17, 23, .inl (fa0_17))), (a0_18, .inl (ka0_18, 23, .inl (fa0_18)))]) hP hD hCc hk1 hFc hP1 hD1 [.inr 0, .inl 1, .inl 2, .inl 3, .inl 4, .inl 5] (by decide +kernel) rfl
      rcases hw with hw | hw | hw
      · obtain ⟨hw, h17_0, h17_1, h17_2, h17_3⟩ := hw
        subst hw
        exact absurd h17_0 (by decide)
      · obtain ⟨hw, h17_0, h17_1⟩ := hw
        subst hw
        refine lv_istore_n (lv' := [(3, .int 1), (0, .ref a0), (1, .int a1), (2, .int a2)]) hx hb dX8_patrol_20 rfl hl (by decide) rfl (fun ls hl => ?_)
        refine lv_iload_n hx hb dX8_patrol_21 rfl (lv_at hl 0 rfl) ?_
        refine lv_if_eq (tgt := 31) hx hb dX8_patrol_22 (by decide) (fun c22 => absurd c22 (by decide +kernel)) (fun _ => ?_)
        refine lv_aload_n hx hb dX8_patrol_25 rfl (lv_at hl 1 rfl) ?_
        refine lv_iload_n hx hb dX8_patrol_26 rfl (lv_at hl 0 rfl) ?_
        obtain ⟨hPc, hDc, hFc, hCc⟩ := zc_cut (wc := [(a0, .inr (8, [Value.int v1na0_0, a0g_1, a0g_2, a0g_3, a0g_4, a0g_5, a0g_6, a0g_7, a0g_8, a0g_9, a0g_10, Value.int v1na0_11, a0g_12, a0g_13, Value.int a0_14, Value.ref a0_15, a0g_16, Value.ref a0_17, Value.ref a0_18, a0g_19, a0g_20, a0g_21, a0g_22, Value.ref a0_23, Value.ref a0_24, Value.int a0_25, Value.int a0_26, Value.int a0_27, Value.int a0_28, a0g_29, a0g_30, a0g_31, a0g_32, a0g_33, a0g_34, a0g_35, a0g_36, a0g_37, a0g_38, a0g_39]))]) hP hD hS hA [0] (by decide +kernel) rfl
        have hKc := hK.sub (tys' := []) [] rfl
        refine va_calli (va_runV (As := [.int 1]) (rest := []) ⟨hx, hb, hml, hown, hts⟩ (c_X8_no l dC dI H.size a0 1 (Value.int v1na0_0) a0g_1 a0g_2 a0g_3 a0g_4 a0g_5 a0g_6 a0g_7 a0g_8 a0g_9 a0g_10 a0g_12 a0g_13 (Value.int a0_14) (Value.ref a0_15) a0g_16 (Value.ref a0_17) (Value.ref a0_18) a0g_19 a0g_20 a0g_21 a0g_22 (Value.ref a0_23) (Value.ref a0_24) (Value.int a0_25) (Value.int a0_26) (Value.int a0_27) (Value.int a0_28) a0g_29 a0g_30 a0g_31 a0g_32 a0g_33 a0g_34 a0g_35 a0g_36 a0g_37 a0g_38 a0g_39 v1na0_11 ) (cwV 1 hts gX8_patrol_X8_no rfl rfl rfl zd_X8_no ⟨Nat.le_of_ble_eq_true rfl, Nat.le_of_ble_eq_true rfl⟩) ⟨ax_blind (fun _ _ _ _ _ => trivial), zr_8 hKc hPc (q0 := 0) rfl, ax_pre hPc hKc hDc (fun _ _ => trivial)⟩ rfl rfl hl.1 rfl (lv_room (Nat.le_of_ble_eq_true rfl)) dX8_patrol_27 ⟨Nat.le_of_ble_eq_true rfl, Nat.le_of_ble_eq_true rfl⟩) hS (fun q _ h => hFc q h) hFc (fun r27 u t H locs ht hvm hw hB hz1 hk1 hS => ?_)
        obtain ⟨v27na0_11, hP1, hK1, hD1⟩ := hB
        rw [ht] at hP1
        obtain ⟨hP, hD⟩ := zc_back (w := [(a0, .inr (8, [Value.int v1na0_0, a0g_1, a0g_2, a0g_3, a0g_4, a0g_5, a0g_6, a0g_7, a0g_8, a0g_9, a0g_10, Value.int v27na0_11, a0g_12, a0g_13, Value.int a0_14, Value.ref a0_15, a0g_16, Value.ref a0_17, Value.ref a0_18, a0g_19, a0g_20, a0g_21, a0g_22, Value.ref a0_23, Value.ref a0_24, Value.int a0_25, Value.int a0_26, Value.int a0_27, Value.int a0_28, a0g_29, a0g_30, a0g_31, a0g_32, a0g_33, a0g_34, a0g_35, a0g_36, a0g_37, a0g_38, a0g_39])), (a0_15, .inl (ka0_15, 156, .inl (fa0_15))), (a0_23, .inl (ka0_23, 3, .inl (fa0_23))), (a0_24, .inl (ka0_24, 3, .inl (fa0_24))), (a0_17, .inl (ka0_17, 23, .inl (fa0_17))), (a0_18, .inl (ka0_18, 23, .inl (fa0_18)))]) hP hD hCc hk1 hFc hP1 hD1 [.inr 0, .inl 1, .inl 2, .inl 3, .inl 4, .inl 5] (by decide +kernel) rfl
        have hw : r27 = (-1) := hw
        have hw := hw.symm
        subst hw
        exact W.iret (v := (-1)) hx hb hr (fun t ht hW => ⟨⟨(-1), (), rfl, ⟨(Int.le_trans zq76 zq70), (Int.le_trans zq71 zq94)⟩, v1na0_0, v27na0_11, a0_25, a0_26, a0_27, a0_28, fa0_23, fa0_24, fa0_18, bfa0_23, bfa0_24, bfa0_18, by rw [ht]; exact hP, va_K.moved hW.alike hK, hD⟩, hS.F ht⟩) hS.2.2 dX8_patrol_30
      · obtain ⟨hw, h17_0, h17_1, h17_2, h17_3⟩ := hw
        subst hw
        exact absurd h17_0 (by decide)
    · obtain ⟨hw, h14⟩ := hw
      subst hw
      obtain ⟨hPc, hDc, hFc, hCc⟩ := zc_cut (wc := [(a0, .inr (8, [Value.int v1na0_0, a0g_1, a0g_2, a0g_3, a0g_4, a0g_5, a0g_6, a0g_7, a0g_8, a0g_9, a0g_10, Value.int v1na0_11, a0g_12, a0g_13, Value.int a0_14, Value.ref a0_15, a0g_16, Value.ref a0_17, Value.ref a0_18, a0g_19, a0g_20, a0g_21, a0g_22, Value.ref a0_23, Value.ref a0_24, Value.int a0_25, Value.int a0_26, Value.int a0_27, Value.int a0_28, a0g_29, a0g_30, a0g_31, a0g_32, a0g_33, a0g_34, a0g_35, a0g_36, a0g_37, a0g_38, a0g_39]))]) hP hD hS hA [0] (by decide +kernel) rfl
      have hKc := hK.sub (tys' := []) [] rfl
      refine va_calli (va_runV (As := [.int 0, .int 0]) (rest := []) ⟨hx, hb, hml, hown, hts⟩ (c_X8_whyB l dC dI H.size a0 0 0 (Value.int v1na0_0) a0g_1 a0g_2 a0g_3 a0g_4 a0g_5 a0g_6 a0g_7 a0g_8 a0g_9 a0g_10 (Value.int v1na0_11) a0g_12 a0g_13 (Value.int a0_14) (Value.ref a0_15) a0g_16 (Value.ref a0_17) (Value.ref a0_18) a0g_19 a0g_20 a0g_21 a0g_22 (Value.ref a0_23) (Value.ref a0_24) (Value.int a0_25) (Value.int a0_26) (Value.int a0_27) (Value.int a0_28) a0g_29 a0g_30 a0g_31 a0g_32 a0g_33 a0g_34 a0g_35 a0g_36 a0g_37 a0g_38 a0g_39 zq5 (Int.le_trans zq6 zq4) zq5 (Int.le_trans zq6 zq4)) (cwV 2 hts gX8_patrol_X8_why rfl rfl rfl zd_X8_why ⟨Nat.le_of_ble_eq_true rfl, Nat.le_of_ble_eq_true rfl⟩) ⟨ax_blind (fun _ _ _ _ _ => trivial), zr_8 hKc hPc (q0 := 0) rfl, ax_pre hPc hKc hDc (fun _ _ => trivial)⟩ rfl rfl hl.1 rfl (lv_room (Nat.le_of_ble_eq_true rfl)) dX8_patrol_17 ⟨Nat.le_of_ble_eq_true rfl, Nat.le_of_ble_eq_true rfl⟩) hS (fun q _ h => hFc q h) hFc (fun r17 u t H locs ht hvm hw hB hz1 hk1 hS => ?_)
      obtain ⟨hP1, hK1, hD1⟩ := hB
      rw [ht] at hP1
      obtain ⟨hP, hD⟩ := zc_back (w := [(a0, .inr (8, [Value.int v1na0_0, a0g_1, a0g_2, a0g_3, a0g_4, a0g_5, a0g_6, a0g_7, a0g_8, a0g_9, a0g_10, Value.int v1na0_11, a0g_12, a0g_13, Value.int a0_14, Value.ref a0_15, a0g_16, Value.ref a0_17, Value.ref a0_18, a0g_19, a0g_20, a0g_21, a0g_22, Value.ref a0_23, Value.ref a0_24, Value.int a0_25, Value.int a0_26, Value.int a0_27, Value.int a0_28, a0g_29, a0g_30, a0g_31, a0g_32, a0g_33, a0g_34, a0g_35, a0g_36, a0g_37, a0g_38, a0g_39])), (a0_15, .inl (ka0_15, 156, .inl (fa0_15))), (a0_23, .inl (ka0_23, 3, .inl (fa0_23))), (a0_24, .inl (ka0_24, 3, .inl (fa0_24))), (a0_17, .inl (ka0_17, 23, .inl (fa0_17))), (a0_18, .inl (ka0_18, 23, .inl (fa0_18)))]) hP hD hCc hk1 hFc hP1 hD1 [.inr 0, .inl 1, .inl 2, .inl 3, .inl 4, .inl 5] (by decide +kernel) rfl
      rcases hw with hw | hw | hw
      · obtain ⟨hw, h17_0, h17_1, h17_2, h17_3⟩ := hw
        subst hw
        exact absurd h17_0 (by decide)
      · obtain ⟨hw, h17_0, h17_1⟩ := hw
        subst hw
        refine lv_istore_n (lv' := [(3, .int 1), (0, .ref a0), (1, .int a1), (2, .int a2)]) hx hb dX8_patrol_20 rfl hl (by decide) rfl (fun ls hl => ?_)
        refine lv_iload_n hx hb dX8_patrol_21 rfl (lv_at hl 0 rfl) ?_
        refine lv_if_eq (tgt := 31) hx hb dX8_patrol_22 (by decide) (fun c22 => absurd c22 (by decide +kernel)) (fun _ => ?_)
        refine lv_aload_n hx hb dX8_patrol_25 rfl (lv_at hl 1 rfl) ?_
        refine lv_iload_n hx hb dX8_patrol_26 rfl (lv_at hl 0 rfl) ?_
        obtain ⟨hPc, hDc, hFc, hCc⟩ := zc_cut (wc := [(a0, .inr (8, [Value.int v1na0_0, a0g_1, a0g_2, a0g_3, a0g_4, a0g_5, a0g_6, a0g_7, a0g_8, a0g_9, a0g_10, Value.int v1na0_11, a0g_12, a0g_13, Value.int a0_14, Value.ref a0_15, a0g_16, Value.ref a0_17, Value.ref a0_18, a0g_19, a0g_20, a0g_21, a0g_22, Value.ref a0_23, Value.ref a0_24, Value.int a0_25, Value.int a0_26, Value.int a0_27, Value.int a0_28, a0g_29, a0g_30, a0g_31, a0g_32, a0g_33, a0g_34, a0g_35, a0g_36, a0g_37, a0g_38, a0g_39]))]) hP hD hS hA [0] (by decide +kernel) rfl
        have hKc := hK.sub (tys' := []) [] rfl
        refine va_calli (va_runV (As := [.int 1]) (rest := []) ⟨hx, hb, hml, hown, hts⟩ (c_X8_no l dC dI H.size a0 1 (Value.int v1na0_0) a0g_1 a0g_2 a0g_3 a0g_4 a0g_5 a0g_6 a0g_7 a0g_8 a0g_9 a0g_10 a0g_12 a0g_13 (Value.int a0_14) (Value.ref a0_15) a0g_16 (Value.ref a0_17) (Value.ref a0_18) a0g_19 a0g_20 a0g_21 a0g_22 (Value.ref a0_23) (Value.ref a0_24) (Value.int a0_25) (Value.int a0_26) (Value.int a0_27) (Value.int a0_28) a0g_29 a0g_30 a0g_31 a0g_32 a0g_33 a0g_34 a0g_35 a0g_36 a0g_37 a0g_38 a0g_39 v1na0_11 ) (cwV 1 hts gX8_patrol_X8_no rfl rfl rfl zd_X8_no ⟨Nat.le_of_ble_eq_true rfl, Nat.le_of_ble_eq_true rfl⟩) ⟨ax_blind (fun _ _ _ _ _ => trivial), zr_8 hKc hPc (q0 := 0) rfl, ax_pre hPc hKc hDc (fun _ _ => trivial)⟩ rfl rfl hl.1 rfl (lv_room (Nat.le_of_ble_eq_true rfl)) dX8_patrol_27 ⟨Nat.le_of_ble_eq_true rfl, Nat.le_of_ble_eq_true rfl⟩) hS (fun q _ h => hFc q h) hFc (fun r27 u t H locs ht hvm hw hB hz1 hk1 hS => ?_)
        obtain ⟨v27na0_11, hP1, hK1, hD1⟩ := hB
        rw [ht] at hP1
        obtain ⟨hP, hD⟩ := zc_back (w := [(a0, .inr (8, [Value.int v1na0_0, a0g_1, a0g_2, a0g_3, a0g_4, a0g_5, a0g_6, a0g_7, a0g_8, a0g_9, a0g_10, Value.int v27na0_11, a0g_12, a0g_13, Value.int a0_14, Value.ref a0_15, a0g_16, Value.ref a0_17, Value.ref a0_18, a0g_19, a0g_20, a0g_21, a0g_22, Value.ref a0_23, Value.ref a0_24, Value.int a0_25, Value.int a0_26, Value.int a0_27, Value.int a0_28, a0g_29, a0g_30, a0g_31, a0g_32, a0g_33, a0g_34, a0g_35, a0g_36, a0g_37, a0g_38, a0g_39])), (a0_15, .inl (ka0_15, 156, .inl (fa0_15))), (a0_23, .inl (ka0_23, 3, .inl (fa0_23))), (a0_24, .inl (ka0_24, 3, .inl (fa0_24))), (a0_17, .inl (ka0_17, 23, .inl (fa0_17))), (a0_18, .inl (ka0_18, 23, .inl (fa0_18)))]) hP hD hCc hk1 hFc hP1 hD1 [.inr 0, .inl 1, .inl 2, .inl 3, .inl 4, .inl 5] (by decide +kernel) rfl
        have hw : r27 = (-1) := hw
        have hw := hw.symm
        subst hw
        exact W.iret (v := (-1)) hx hb hr (fun t ht hW => ⟨⟨(-1), (), rfl, ⟨(Int.le_trans zq76 zq70), (Int.le_trans zq71 zq94)⟩, v1na0_0, v27na0_11, a0_25, a0_26, a0_27, a0_28, fa0_23, fa0_24, fa0_18, bfa0_23, bfa0_24, bfa0_18, by rw [ht]; exact hP, va_K.moved hW.alike hK, hD⟩, hS.F ht⟩) hS.2.2 dX8_patrol_30
      · obtain ⟨hw, h17_0, h17_1, h17_2, h17_3⟩ := hw
        subst hw
        exact absurd h17_0 (by decide)
