set_option maxHeartbeats 4000000 in
set_option maxRecDepth 100000 in
theorem c_X8_minuteOn (l : Launch) (dC : Nat → ClassId) (dI : Nat → Nat → Nat) (sz : Nat) (a0 : Nat) (a1 : Nat) (a0g_0 a0g_1 a0g_2 a0g_3 a0g_4 a0g_5 a0g_6 a0g_7 a0g_8 a0g_9 a0g_10 a0g_11 a0g_12 a0g_13 a0g_14 a0g_16 a0g_17 a0g_18 a0g_19 a0g_20 a0g_21 a0g_22 a0g_29 a0g_30 a0g_31 a0g_32 a0g_33 a0g_34 a0g_35 a0g_36 a0g_37 a0g_38 a0g_39 : Value) (a0_15 : Nat) (a0_23 : Nat) (a0_24 : Nat) (a0_25 : Int32) (a0_26 : Int32) (a0_27 : Int32) (a0_28 : Int32) (ka1 : ClassId) (fa1 : Nat → Int32) (ka0_15 : ClassId) (fa0_15 : Nat → Int32) (ka0_24 : ClassId) (fa0_24 : Nat → Int32) (ka0_23 : ClassId) (fa0_23 : Nat → Int32) (bfa1 : ((∀ k : Nat, 0 ≤ k → k ≤ 8 → (0 : Int) ≤ (fa1 k).toInt ∧ (fa1 k).toInt ≤ 8) ∧ (∀ k : Nat, 19 ≤ k → k ≤ 19 → (0 : Int) ≤ (fa1 k).toInt ∧ (fa1 k).toInt ≤ 8) ∧ (∀ k : Nat, 20 ≤ k → k ≤ 20 → (0 : Int) ≤ (fa1 k).toInt ∧ (fa1 k).toInt ≤ 19))) (bfa0_15 : ((∀ k : Nat, 0 ≤ k → k ≤ 0 → (2 : Int) ≤ (fa0_15 k).toInt ∧ (fa0_15 k).toInt ≤ 9) ∧ (∀ k : Nat, 1 ≤ k → k ≤ 1 → (1 : Int) ≤ (fa0_15 k).toInt ∧ (fa0_15 k).toInt ≤ 20) ∧ (∀ k : Nat, 2 ≤ k → k ≤ 2 → (0 : Int) ≤ (fa0_15 k).toInt ∧ (fa0_15 k).toInt ≤ 8) ∧ (∀ k : Nat, 3 ≤ k → k ≤ 3 → (0 : Int) ≤ (fa0_15 k).toInt ∧ (fa0_15 k).toInt ≤ 100) ∧ (∀ k : Nat, 4 ≤ k → k ≤ 4 → (0 : Int) ≤ (fa0_15 k).toInt ∧ (fa0_15 k).toInt ≤ 9) ∧ (∀ k : Nat, 5 ≤ k → k ≤ 5 → (0 : Int) ≤ (fa0_15 k).toInt ∧ (fa0_15 k).toInt ≤ 3) ∧ (∀ k : Nat, 6 ≤ k → k ≤ 6 → (0 : Int) ≤ (fa0_15 k).toInt ∧ (fa0_15 k).toInt ≤ 6) ∧ (∀ k : Nat, 7 ≤ k → k ≤ 9 → (0 : Int) ≤ (fa0_15 k).toInt ∧ (fa0_15 k).toInt ≤ 8) ∧ (∀ k : Nat, 12 ≤ k → k ≤ 29 → (0 : Int) ≤ (fa0_15 k).toInt ∧ (fa0_15 k).toInt ≤ 20) ∧ (∀ k : Nat, 30 ≤ k → k ≤ 35 → (0 : Int) ≤ (fa0_15 k).toInt ∧ (fa0_15 k).toInt ≤ 8) ∧ (∀ k : Nat, 36 ≤ k → k ≤ 47 → (0 : Int) ≤ (fa0_15 k).toInt ∧ (fa0_15 k).toInt ≤ 999))) (bfa0_24 : (∀ k, (0 : Int) ≤ (fa0_24 k).toInt ∧ (fa0_24 k).toInt ≤ 80)) (bfa0_23 : (∀ k, (0 : Int) ≤ (fa0_23 k).toInt ∧ (fa0_23 k).toInt ≤ 80)) (hkm : ∀ (j i0 i : Int32), (0 : Int) ≤ j.toInt → j.toInt ≤ 8 → i0.toInt = 12 + 2 * j.toInt → i.toInt = 13 + 2 * j.toInt → (fa0_15 i0.toNatClampNeg).toInt = (1 : Int32).toInt → (1 : Int) ≤ (fa0_15 i.toNatClampNeg).toInt) : Met l yX8_minuteOn wsX8_minuteOn ({ frames := 3, cells := 0, slots := 0, locals := 73 }) (va_Pc [.ref a0, .ref a1] (ax_C dC dI sz [(a0, .inr (8, [a0g_0, a0g_1, a0g_2, a0g_3, a0g_4, a0g_5, a0g_6, a0g_7, a0g_8, a0g_9, a0g_10, a0g_11, a0g_12, a0g_13, a0g_14, Value.ref a0_15, a0g_16, a0g_17, a0g_18, a0g_19, a0g_20, a0g_21, a0g_22, Value.ref a0_23, Value.ref a0_24, Value.int a0_25, Value.int a0_26, Value.int a0_27, Value.int a0_28, a0g_29, a0g_30, a0g_31, a0g_32, a0g_33, a0g_34, a0g_35, a0g_36, a0g_37, a0g_38, a0g_39])), (a1, .inl (ka1, 23, .inl (fa1))), (a0_15, .inl (ka0_15, 156, .inl (fa0_15))), (a0_24, .inl (ka0_24, 3, .inl (fa0_24))), (a0_23, .inl (ka0_23, 3, .inl (fa0_23)))] [(ka1, .int), (ka0_15, .int), (ka0_24, .int), (ka0_23, .int)] (fun _ => True))) (va_Qv (fun (_ : Unit) => True) (fun (_ : Unit) (t : State) => ∃ na0_26 : Int32, ∃ na0_27 : Int32, ∃ na0_28 : Int32, ∃ nfa1 : Nat → Int32, ((∀ k : Nat, 0 ≤ k → k ≤ 8 → (0 : Int) ≤ (nfa1 k).toInt ∧ (nfa1 k).toInt ≤ 8) ∧ (∀ k : Nat, 19 ≤ k → k ≤ 19 → (0 : Int) ≤ (nfa1 k).toInt ∧ (nfa1 k).toInt ≤ 8) ∧ (∀ k : Nat, 20 ≤ k → k ≤ 20 → (0 : Int) ≤ (nfa1 k).toInt ∧ (nfa1 k).toInt ≤ 19)) ∧ ax_B dC dI (va_A [(a0, .inr (8, [a0g_0, a0g_1, a0g_2, a0g_3, a0g_4, a0g_5, a0g_6, a0g_7, a0g_8, a0g_9, a0g_10, a0g_11, a0g_12, a0g_13, a0g_14, Value.ref a0_15, a0g_16, a0g_17, a0g_18, a0g_19, a0g_20, a0g_21, a0g_22, Value.ref a0_23, Value.ref a0_24, Value.int a0_25, Value.int a0_26, Value.int a0_27, Value.int a0_28, a0g_29, a0g_30, a0g_31, a0g_32, a0g_33, a0g_34, a0g_35, a0g_36, a0g_37, a0g_38, a0g_39])), (a1, .inl (ka1, 23, .inl (fa1))), (a0_15, .inl (ka0_15, 156, .inl (fa0_15))), (a0_24, .inl (ka0_24, 3, .inl (fa0_24))), (a0_23, .inl (ka0_23, 3, .inl (fa0_23)))] sz) [(a0, .inr (8, [a0g_0, a0g_1, a0g_2, a0g_3, a0g_4, a0g_5, a0g_6, a0g_7, a0g_8, a0g_9, a0g_10, a0g_11, a0g_12, a0g_13, a0g_14, Value.ref a0_15, a0g_16, a0g_17, a0g_18, a0g_19, a0g_20, a0g_21, a0g_22, Value.ref a0_23, Value.ref a0_24, Value.int a0_25, Value.int na0_26, Value.int na0_27, Value.int na0_28, a0g_29, a0g_30, a0g_31, a0g_32, a0g_33, a0g_34, a0g_35, a0g_36, a0g_37, a0g_38, a0g_39])), (a1, .inl (ka1, 23, .inl (nfa1))), (a0_15, .inl (ka0_15, 156, .inl (fa0_15))), (a0_24, .inl (ka0_24, 3, .inl (fa0_24))), (a0_23, .inl (ka0_23, 3, .inl (fa0_23)))] [(ka1, .int), (ka0_15, .int), (ka0_24, .int), (ka0_23, .int)] t) (va_A [(a0, .inr (8, [a0g_0, a0g_1, a0g_2, a0g_3, a0g_4, a0g_5, a0g_6, a0g_7, a0g_8, a0g_9, a0g_10, a0g_11, a0g_12, a0g_13, a0g_14, Value.ref a0_15, a0g_16, a0g_17, a0g_18, a0g_19, a0g_20, a0g_21, a0g_22, Value.ref a0_23, Value.ref a0_24, Value.int a0_25, Value.int a0_26, Value.int a0_27, Value.int a0_28, a0g_29, a0g_30, a0g_31, a0g_32, a0g_33, a0g_34, a0g_35, a0g_36, a0g_37, a0g_38, a0g_39])), (a1, .inl (ka1, 23, .inl (fa1))), (a0_15, .inl (ka0_15, 156, .inl (fa0_15))), (a0_24, .inl (ka0_24, 3, .inl (fa0_24))), (a0_23, .inl (ka0_23, 3, .inl (fa0_23)))] sz)) 0 0 (va_A [(a0, .inr (8, [a0g_0, a0g_1, a0g_2, a0g_3, a0g_4, a0g_5, a0g_6, a0g_7, a0g_8, a0g_9, a0g_10, a0g_11, a0g_12, a0g_13, a0g_14, Value.ref a0_15, a0g_16, a0g_17, a0g_18, a0g_19, a0g_20, a0g_21, a0g_22, Value.ref a0_23, Value.ref a0_24, Value.int a0_25, Value.int a0_26, Value.int a0_27, Value.int a0_28, a0g_29, a0g_30, a0g_31, a0g_32, a0g_33, a0g_34, a0g_35, a0g_36, a0g_37, a0g_38, a0g_39])), (a1, .inl (ka1, 23, .inl (fa1))), (a0_15, .inl (ka0_15, 156, .inl (fa0_15))), (a0_24, .inl (ka0_24, 3, .inl (fa0_24))), (a0_23, .inl (ka0_23, 3, .inl (fa0_23)))] sz) := by
  refine Met.ofW (cc := cX8_minuteOn) (maxL := 3) (ret := none) (by decide) rfl ?_
  intro p e s m args below meth c s₁ B hml hv
  obtain ⟨rfl, hsz, hP, hK, hD0, hE⟩ := hv
  have hx := B.exec
  have hb := B.bytes
  have hr := B.returns
  have hts := atoms_spec (ws := wsX8_minuteOn) B.pre
  have hown : s.vm.findClass RX8 = some m.cls := findClass_of_methodNamed B.named
  have hlocks := B.notSynchronized
  subst hsz
  have hD := hD0.self (sz := s.heap.size)
  generalize hAe : va_A [(a0, .inr (8, [a0g_0, a0g_1, a0g_2, a0g_3, a0g_4, a0g_5, a0g_6, a0g_7, a0g_8, a0g_9, a0g_10, a0g_11, a0g_12, a0g_13, a0g_14, Value.ref a0_15, a0g_16, a0g_17, a0g_18, a0g_19, a0g_20, a0g_21, a0g_22, Value.ref a0_23, Value.ref a0_24, Value.int a0_25, Value.int a0_26, Value.int a0_27, Value.int a0_28, a0g_29, a0g_30, a0g_31, a0g_32, a0g_33, a0g_34, a0g_35, a0g_36, a0g_37, a0g_38, a0g_39])), (a1, .inl (ka1, 23, .inl (fa1))), (a0_15, .inl (ka0_15, 156, .inl (fa0_15))), (a0_24, .inl (ka0_24, 3, .inl (fa0_24))), (a0_23, .inl (ka0_23, 3, .inl (fa0_23)))] s.heap.size = A at hD ⊢
  have hA : ∀ q : Nat, s.heap.size ≤ q → A q := fun q h => by rw [← hAe]; exact Or.inr h
  have hS : va_S A s.heap s.heap [] := va_S.rf
  have hP : va_P (dC, dI) vwCl [(a0, .inr (8, [a0g_0, a0g_1, a0g_2, a0g_3, a0g_4, a0g_5, a0g_6, a0g_7, a0g_8, a0g_9, a0g_10, a0g_11, a0g_12, a0g_13, a0g_14, Value.ref a0_15, a0g_16, a0g_17, a0g_18, a0g_19, a0g_20, a0g_21, a0g_22, Value.ref a0_23, Value.ref a0_24, Value.int a0_25, Value.int a0_26, Value.int a0_27, Value.int a0_28, a0g_29, a0g_30, a0g_31, a0g_32, a0g_33, a0g_34, a0g_35, a0g_36, a0g_37, a0g_38, a0g_39])), (a1, .inl (ka1, 23, .inl (fa1))), (a0_15, .inl (ka0_15, 156, .inl (fa0_15))), (a0_24, .inl (ka0_24, 3, .inl (fa0_24))), (a0_23, .inl (ka0_23, 3, .inl (fa0_23)))] s.heap := hP
  have hl := lv_entry ([.ref a0, .ref a1]) (n := 3) (Nat.le_of_ble_eq_true rfl)
  rw [lg_entry_eq]
  generalize (lg_sl ([.ref a0, .ref a1]) ++ List.replicate (3 - (lg_sl ([.ref a0, .ref a1])).length) Slot.unset).toArray = ls at hl ⊢
  have hl : lv_has ls 3 [(0, .ref a0), (1, .ref a1)] := hl
  refine lv_aload_n hx hb dX8_minuteOn_0 rfl (lv_at hl 1 rfl) ?_
  refine lv_bipush (v := 19) hx hb dX8_minuteOn_1 zk_bipush_19 ?_
  refine va_iald hx hb hK hP 1 0 rfl rfl (by unfold vp_in; decide +kernel) dX8_minuteOn_3 ?_
  refine lv_topi (fun x3 ex3 => ?_)
  have bx3 : (0 : Int) ≤ x3.toInt ∧ x3.toInt ≤ 8 := by rw [ex3]; exact ai_rd bfa1.2.1 zq160 zq161 (by decide) (by decide) (by decide)
  refine lv_istore_n (lv' := [(2, .int x3), (0, .ref a0), (1, .ref a1)]) hx hb dX8_minuteOn_4 rfl hl (by decide) rfl (fun ls hl => ?_)
  refine lv_aload_n hx hb dX8_minuteOn_5 rfl (lv_at hl 1 rfl) ?_
  refine lv_iconst (v := 0) hx hb dX8_minuteOn_6 zk_iconst_0 ?_
  refine va_put (D := (dC, dI)) (ci := 8) (v := .int 0) (ty := .int) (C := RX8) (T := TX8) (N := 40) hx hb hts zi_X8_minuteOn_8 tyX8 tyX8_ok nmX8 hown hK hP hD hS 0 rfl rfl 28 (by decide) (hts (.fieldLink RX8 248 "WaxTurnsModel" "said" "I") (zm_X8_minuteOn_r1 (List.mem_of_getElem? (i := 0) rfl))) (fun _ h9 => h9) rfl (tyX8_ok 28 (by decide)) rfl rfl (Nat.le_of_ble_eq_true rfl) dX8_minuteOn_7 (fun H locs hP hD hS => ?_)
  obtain ⟨hP, hD⟩ := zc_re (w := [(a0, .inr (8, [a0g_0, a0g_1, a0g_2, a0g_3, a0g_4, a0g_5, a0g_6, a0g_7, a0g_8, a0g_9, a0g_10, a0g_11, a0g_12, a0g_13, a0g_14, Value.ref a0_15, a0g_16, a0g_17, a0g_18, a0g_19, a0g_20, a0g_21, a0g_22, Value.ref a0_23, Value.ref a0_24, Value.int a0_25, Value.int a0_26, Value.int a0_27, Value.int 0, a0g_29, a0g_30, a0g_31, a0g_32, a0g_33, a0g_34, a0g_35, a0g_36, a0g_37, a0g_38, a0g_39])), (a1, .inl (ka1, 23, .inl (fa1))), (a0_15, .inl (ka0_15, 156, .inl (fa0_15))), (a0_24, .inl (ka0_24, 3, .inl (fa0_24))), (a0_23, .inl (ka0_23, 3, .inl (fa0_23)))]) hP hD rfl
  refine lv_aload_n hx hb dX8_minuteOn_10 rfl (lv_at hl 2 rfl) ?_
  refine lv_bipush (v := 18) hx hb dX8_minuteOn_11 zk_bipush_18 ?_
  refine va_iald hx hb hK hP 1 0 rfl rfl (by unfold vp_in; decide +kernel) dX8_minuteOn_13 ?_
  refine lv_topi (fun x13 ex13 => ?_)
  refine lv_iload_n hx hb dX8_minuteOn_14 rfl (lv_at hl 0 rfl) ?_
  obtain ⟨hPc, hDc, hFc, hCc⟩ := zc_cut (wc := []) hP hD hS hA [] (by decide +kernel) rfl
  have hKc := hK.sub (tys' := []) [] rfl
  refine va_calli (va_runS (As := [.int x13, .int x3]) (rest := []) ⟨hx, hb, hml, hown, hts⟩ (c_X8_hasBit l dC dI H.size x13 x3 ) (va_cwS 2 hts gX8_minuteOn_X8_hasBit rfl rfl rfl zd_X8_hasBit.2 ⟨Nat.le_of_ble_eq_true rfl, Nat.le_of_ble_eq_true rfl⟩) ⟨ax_blind (fun _ _ _ _ _ => trivial), ax_pre hPc hKc hDc (fun _ _ => trivial)⟩ rfl rfl hl.1 rfl (lv_room (Nat.le_of_ble_eq_true rfl)) dX8_minuteOn_15 ⟨Nat.le_of_ble_eq_true rfl, Nat.le_of_ble_eq_true rfl⟩) hS (fun q _ h => hFc q h) hFc (fun r15 u t H locs ht hvm hw hB hz1 hk1 hS => ?_)
  obtain ⟨hP1, hK1, hD1⟩ := hB
  rw [ht] at hP1
  obtain ⟨hP, hD⟩ := zc_back (w := [(a0, .inr (8, [a0g_0, a0g_1, a0g_2, a0g_3, a0g_4, a0g_5, a0g_6, a0g_7, a0g_8, a0g_9, a0g_10, a0g_11, a0g_12, a0g_13, a0g_14, Value.ref a0_15, a0g_16, a0g_17, a0g_18, a0g_19, a0g_20, a0g_21, a0g_22, Value.ref a0_23, Value.ref a0_24, Value.int a0_25, Value.int a0_26, Value.int a0_27, Value.int 0, a0g_29, a0g_30, a0g_31, a0g_32, a0g_33, a0g_34, a0g_35, a0g_36, a0g_37, a0g_38, a0g_39])), (a1, .inl (ka1, 23, .inl (fa1))), (a0_15, .inl (ka0_15, 156, .inl (fa0_15))), (a0_24, .inl (ka0_24, 3, .inl (fa0_24))), (a0_23, .inl (ka0_23, 3, .inl (fa0_23)))]) hP hD hCc hk1 hFc hP1 hD1 [.inl 0, .inl 1, .inl 2, .inl 3, .inl 4] (by decide +kernel) rfl
  rcases hw with hw | hw
  · subst hw
    refine lv_if_ne (tgt := 66) hx hb dX8_minuteOn_18 (by decide) (fun _ => ?_) (fun c18 => absurd c18 (by decide +kernel))
    refine lv_aload_n hx hb dX8_minuteOn_66 rfl (lv_at hl 1 rfl) ?_
    refine lv_iload_n hx hb dX8_minuteOn_67 rfl (lv_at hl 0 rfl) ?_
    refine va_put (D := (dC, dI)) (ci := 8) (v := .int x3) (ty := .int) (C := RX8) (T := TX8) (N := 40) hx hb hts zi_X8_minuteOn_8 tyX8 tyX8_ok nmX8 hown hK hP hD hS 0 rfl rfl 26 (by decide) (hts (.fieldLink RX8 258 "WaxTurnsModel" "lived" "I") (zm_X8_minuteOn_r1 (List.mem_of_getElem? (i := 2) rfl))) (fun _ h9 => h9) rfl (tyX8_ok 26 (by decide)) rfl rfl (Nat.le_of_ble_eq_true rfl) dX8_minuteOn_68 (fun H locs hP hD hS => ?_)
    obtain ⟨hP, hD⟩ := zc_re (w := [(a0, .inr (8, [a0g_0, a0g_1, a0g_2, a0g_3, a0g_4, a0g_5, a0g_6, a0g_7, a0g_8, a0g_9, a0g_10, a0g_11, a0g_12, a0g_13, a0g_14, Value.ref a0_15, a0g_16, a0g_17, a0g_18, a0g_19, a0g_20, a0g_21, a0g_22, Value.ref a0_23, Value.ref a0_24, Value.int a0_25, Value.int x3, Value.int a0_27, Value.int 0, a0g_29, a0g_30, a0g_31, a0g_32, a0g_33, a0g_34, a0g_35, a0g_36, a0g_37, a0g_38, a0g_39])), (a1, .inl (ka1, 23, .inl (fa1))), (a0_15, .inl (ka0_15, 156, .inl (fa0_15))), (a0_24, .inl (ka0_24, 3, .inl (fa0_24))), (a0_23, .inl (ka0_23, 3, .inl (fa0_23)))]) hP hD rfl
    refine lv_aload_n hx hb dX8_minuteOn_71 rfl (lv_at hl 1 rfl) ?_
    refine lv_aload_n hx hb dX8_minuteOn_72 rfl (lv_at hl 2 rfl) ?_
    refine lv_bipush (v := 18) hx hb dX8_minuteOn_73 zk_bipush_18 ?_
    refine va_iald hx hb hK hP 1 0 rfl rfl (by unfold vp_in; decide +kernel) dX8_minuteOn_75 ?_
    refine ax_ti x13 ex13.symm ?_
    refine lv_iload_n hx hb dX8_minuteOn_76 rfl (lv_at hl 0 rfl) ?_
    obtain ⟨hPc, hDc, hFc, hCc⟩ := zc_cut (wc := []) hP hD hS hA [] (by decide +kernel) rfl
    have hKc := hK.sub (tys' := []) [] rfl
    refine va_calli (va_runS (As := [.int x13, .int x3]) (rest := [.ref a0]) ⟨hx, hb, hml, hown, hts⟩ (c_X8_hasBit l dC dI H.size x13 x3 ) (va_cwS 2 hts gX8_minuteOn_X8_hasBit rfl rfl rfl zd_X8_hasBit.2 ⟨Nat.le_of_ble_eq_true rfl, Nat.le_of_ble_eq_true rfl⟩) ⟨ax_blind (fun _ _ _ _ _ => trivial), ax_pre hPc hKc hDc (fun _ _ => trivial)⟩ rfl rfl hl.1 rfl (lv_room (Nat.le_of_ble_eq_true rfl)) dX8_minuteOn_77 ⟨Nat.le_of_ble_eq_true rfl, Nat.le_of_ble_eq_true rfl⟩) hS (fun q _ h => hFc q h) hFc (fun r77 u t H locs ht hvm hw hB hz1 hk1 hS => ?_)
    obtain ⟨hP1, hK1, hD1⟩ := hB
    rw [ht] at hP1
    obtain ⟨hP, hD⟩ := zc_back (w := [(a0, .inr (8, [a0g_0, a0g_1, a0g_2, a0g_3, a0g_4, a0g_5, a0g_6, a0g_7, a0g_8, a0g_9, a0g_10, a0g_11, a0g_12, a0g_13, a0g_14, Value.ref a0_15, a0g_16, a0g_17, a0g_18, a0g_19, a0g_20, a0g_21, a0g_22, Value.ref a0_23, Value.ref a0_24, Value.int a0_25, Value.int x3, Value.int a0_27, Value.int 0, a0g_29, a0g_30, a0g_31, a0g_32, a0g_33, a0g_34, a0g_35, a0g_36, a0g_37, a0g_38, a0g_39])), (a1, .inl (ka1, 23, .inl (fa1))), (a0_15, .inl (ka0_15, 156, .inl (fa0_15))), (a0_24, .inl (ka0_24, 3, .inl (fa0_24))), (a0_23, .inl (ka0_23, 3, .inl (fa0_23)))]) hP hD hCc hk1 hFc hP1 hD1 [.inl 0, .inl 1, .inl 2, .inl 3, .inl 4] (by decide +kernel) rfl
    rcases hw with hw | hw
    · subst hw
      refine lv_if_eq (tgt := 87) hx hb dX8_minuteOn_80 (by decide) (fun c80 => absurd c80 (by decide +kernel)) (fun _ => ?_)
      refine lv_iconst (v := (-1)) hx hb dX8_minuteOn_83 zk_iconst_n1 ?_
      refine lv_goto (tgt := 90) hx hb dX8_minuteOn_84 (by decide) ?_
      refine va_put (D := (dC, dI)) (ci := 8) (v := .int (-1)) (ty := .int) (C := RX8) (T := TX8) (N := 40) hx hb hts zi_X8_minuteOn_8 tyX8 tyX8_ok nmX8 hown hK hP hD hS 0 rfl rfl 27 (by decide) (hts (.fieldLink RX8 261 "WaxTurnsModel" "livedAt" "I") (zm_X8_minuteOn_r1 (List.mem_of_getElem? (i := 3) rfl))) (fun _ h9 => h9) rfl (tyX8_ok 27 (by decide)) rfl rfl (Nat.le_of_ble_eq_true rfl) dX8_minuteOn_90 (fun H locs hP hD hS => ?_)
      obtain ⟨hP, hD⟩ := zc_re (w := [(a0, .inr (8, [a0g_0, a0g_1, a0g_2, a0g_3, a0g_4, a0g_5, a0g_6, a0g_7, a0g_8, a0g_9, a0g_10, a0g_11, a0g_12, a0g_13, a0g_14, Value.ref a0_15, a0g_16, a0g_17, a0g_18, a0g_19, a0g_20, a0g_21, a0g_22, Value.ref a0_23, Value.ref a0_24, Value.int a0_25, Value.int x3, Value.int (-1), Value.int 0, a0g_29, a0g_30, a0g_31, a0g_32, a0g_33, a0g_34, a0g_35, a0g_36, a0g_37, a0g_38, a0g_39])), (a1, .inl (ka1, 23, .inl (fa1))), (a0_15, .inl (ka0_15, 156, .inl (fa0_15))), (a0_24, .inl (ka0_24, 3, .inl (fa0_24))), (a0_23, .inl (ka0_23, 3, .inl (fa0_23)))]) hP hD rfl
      refine lv_aload_n hx hb dX8_minuteOn_93 rfl (lv_at hl 2 rfl) ?_
      refine lv_bipush (v := 21) hx hb dX8_minuteOn_94 zk_bipush_21 ?_
      refine lv_dup2_11 hx hb dX8_minuteOn_96 rfl rfl ?_
      refine va_iald hx hb hK hP 1 0 rfl rfl (by unfold vp_in; decide +kernel) dX8_minuteOn_97 ?_
      refine lv_topi (fun x97 ex97 => ?_)
      refine lv_iconst (v := 1) hx hb dX8_minuteOn_98 zk_iconst_1 ?_
      refine lv_iadd hx hb dX8_minuteOn_99 ?_
      refine lv_topi (fun x99 ex99 => ?_)
      refine va_iast hx hb hK hP hD hS 1 0 rfl rfl (by unfold vp_in; decide +kernel) dX8_minuteOn_100 (fun H locs hP hD hS => ?_)
      obtain ⟨f100, ef100⟩ : ∃ g9 : Nat → Int32, g9 = upd fa1 (21 : Int32).toNatClampNeg x99 := ⟨_, rfl⟩
      rw [← ef100] at hP hD
      obtain ⟨hP, hD⟩ := zc_re (w := [(a0, .inr (8, [a0g_0, a0g_1, a0g_2, a0g_3, a0g_4, a0g_5, a0g_6, a0g_7, a0g_8, a0g_9, a0g_10, a0g_11, a0g_12, a0g_13, a0g_14, Value.ref a0_15, a0g_16, a0g_17, a0g_18, a0g_19, a0g_20, a0g_21, a0g_22, Value.ref a0_23, Value.ref a0_24, Value.int a0_25, Value.int x3, Value.int (-1), Value.int 0, a0g_29, a0g_30, a0g_31, a0g_32, a0g_33, a0g_34, a0g_35, a0g_36, a0g_37, a0g_38, a0g_39])), (a1, .inl (ka1, 23, .inl (f100))), (a0_15, .inl (ka0_15, 156, .inl (fa0_15))), (a0_24, .inl (ka0_24, 3, .inl (fa0_24))), (a0_23, .inl (ka0_23, 3, .inl (fa0_23)))]) hP hD rfl
      have bf100 : ((∀ k : Nat, 0 ≤ k → k ≤ 8 → (0 : Int) ≤ (f100 k).toInt ∧ (f100 k).toInt ≤ 8) ∧ (∀ k : Nat, 19 ≤ k → k ≤ 19 → (0 : Int) ≤ (f100 k).toInt ∧ (f100 k).toInt ≤ 8) ∧ (∀ k : Nat, 20 ≤ k → k ≤ 20 → (0 : Int) ≤ (f100 k).toInt ∧ (f100 k).toInt ≤ 19)) := by rw [ef100]; exact ⟨ai_updO bfa1.1 _ (Or.inr (ai_ngt_of zq162 (by decide) (by decide))), ai_updO bfa1.2.1 _ (Or.inr (ai_ngt_of zq162 (by decide) (by decide))), ai_updO bfa1.2.2 _ (Or.inr (ai_ngt_of zq162 (by decide) (by decide)))⟩
      have kf100_21 : f100 21 = x99 := by rw [ef100]; exact ai_k1 (by decide +kernel)
      refine lv_aload_n hx hb dX8_minuteOn_101 rfl (lv_at hl 2 rfl) ?_
      refine lv_bipush (v := 20) hx hb dX8_minuteOn_102 zk_bipush_20 ?_
      refine lv_dup2_11 hx hb dX8_minuteOn_104 rfl rfl ?_
      refine va_iald hx hb hK hP 1 0 rfl rfl (by unfold vp_in; decide +kernel) dX8_minuteOn_105 ?_
      refine lv_topi (fun x105 ex105 => ?_)
      have bx105 : (0 : Int) ≤ x105.toInt ∧ x105.toInt ≤ 19 := by rw [ex105]; exact ai_rd bf100.2.2 zq153 zq154 (by decide) (by decide) (by decide)
      refine lv_iconst (v := 1) hx hb dX8_minuteOn_106 zk_iconst_1 ?_
      refine lv_iadd hx hb dX8_minuteOn_107 ?_
      refine lv_topi (fun x107 ex107 => ?_)
      have qx107 : x107.toInt = x105.toInt + (1 : Int32).toInt := ai_add ex107 ⟨bx105.1, bx105.2⟩ ⟨zq1, zq0⟩ (by decide) (by decide)
      have bx107 : (1 : Int) ≤ x107.toInt ∧ x107.toInt ≤ 20 := ⟨by rw [qx107]; exact Int.add_le_add bx105.1 zq1, by rw [qx107]; exact Int.add_le_add bx105.2 zq0⟩
      have wx107 : x107.toInt = x105.toInt + 1 := qx107
      refine va_iast hx hb hK hP hD hS 1 0 rfl rfl (by unfold vp_in; decide +kernel) dX8_minuteOn_108 (fun H locs hP hD hS => ?_)
      obtain ⟨f108, ef108⟩ : ∃ g9 : Nat → Int32, g9 = upd f100 (20 : Int32).toNatClampNeg x107 := ⟨_, rfl⟩
      rw [← ef108] at hP hD
      obtain ⟨hP, hD⟩ := zc_re (w := [(a0, .inr (8, [a0g_0, a0g_1, a0g_2, a0g_3, a0g_4, a0g_5, a0g_6, a0g_7, a0g_8, a0g_9, a0g_10, a0g_11, a0g_12, a0g_13, a0g_14, Value.ref a0_15, a0g_16, a0g_17, a0g_18, a0g_19, a0g_20, a0g_21, a0g_22, Value.ref a0_23, Value.ref a0_24, Value.int a0_25, Value.int x3, Value.int (-1), Value.int 0, a0g_29, a0g_30, a0g_31, a0g_32, a0g_33, a0g_34, a0g_35, a0g_36, a0g_37, a0g_38, a0g_39])), (a1, .inl (ka1, 23, .inl (f108))), (a0_15, .inl (ka0_15, 156, .inl (fa0_15))), (a0_24, .inl (ka0_24, 3, .inl (fa0_24))), (a0_23, .inl (ka0_23, 3, .inl (fa0_23)))]) hP hD rfl
      have bf108 : ((∀ k : Nat, 0 ≤ k → k ≤ 8 → (0 : Int) ≤ (f108 k).toInt ∧ (f108 k).toInt ≤ 8) ∧ (∀ k : Nat, 19 ≤ k → k ≤ 19 → (0 : Int) ≤ (f108 k).toInt ∧ (f108 k).toInt ≤ 8) ∧ True) := by rw [ef108]; exact ⟨ai_updO bf100.1 _ (Or.inr (ai_ngt_of zq153 (by decide) (by decide))), ai_updO bf100.2.1 _ (Or.inr (ai_ngt_of zq153 (by decide) (by decide))), trivial⟩
      have kf108_20 : f108 20 = x107 := by rw [ef108]; exact ai_k1 (by decide +kernel)
      have kf108_21 : f108 21 = x99 := by rw [ef108]; exact ai_k2 (by decide +kernel) kf100_21
      refine lv_aload_n hx hb dX8_minuteOn_109 rfl (lv_at hl 2 rfl) ?_
      refine lv_bipush (v := 20) hx hb dX8_minuteOn_110 zk_bipush_20 ?_
      refine va_iald hx hb hK hP 1 0 rfl rfl (by unfold vp_in; decide +kernel) dX8_minuteOn_112 ?_
      refine ax_ti x107 ((congrArg f108 (by decide +kernel : (20 : Int32).toNatClampNeg = 20)).trans kf108_20) ?_
      refine lv_aload_n hx hb dX8_minuteOn_113 rfl (lv_at hl 1 rfl) ?_
      refine va_get (D := (dC, dI)) (ci := 8) (v := .ref a0_15) (C := RX8) (T := TX8) (N := 40) hx hb hts zi_X8_minuteOn_8 hown hK hP 0 rfl rfl 15 (by decide) (hts (.fieldLink RX8 20 "WaxTurnsModel" "\x72" "[I") (zm_X8_minuteOn_r1 (List.mem_of_getElem? (i := 1) rfl))) (fun _ h9 => h9) rfl dX8_minuteOn_114 ?_
      refine lv_iconst (v := 1) hx hb dX8_minuteOn_117 zk_iconst_1 ?_
      refine va_iald hx hb hK hP 2 1 rfl rfl (by unfold vp_in; decide +kernel) dX8_minuteOn_118 ?_
      refine lv_topi (fun x118 ex118 => ?_)
      have bx118 : (1 : Int) ≤ x118.toInt ∧ x118.toInt ≤ 20 := by rw [ex118]; exact ai_rd bfa0_15.2.1 zq1 zq0 (by decide) (by decide) (by decide)
      refine lv_icmp_ge (tgt := 123) hx hb dX8_minuteOn_119 (by decide) (fun c119 => ?_) (fun c119 => ?_)
      · have gc119 := ai_le c119
        have u119t_x118 : x118.toInt ≤ (20 : Int) := bx118.2
        have l119t_x107 : (1 : Int) ≤ x107.toInt := bx107.1
        refine lv_aload_n hx hb dX8_minuteOn_123 rfl (lv_at hl 2 rfl) ?_
        refine lv_bipush (v := 20) hx hb dX8_minuteOn_124 zk_bipush_20 ?_
        refine lv_iconst (v := 0) hx hb dX8_minuteOn_126 zk_iconst_0 ?_
        refine va_iast hx hb hK hP hD hS 1 0 rfl rfl (by unfold vp_in; decide +kernel) dX8_minuteOn_127 (fun H locs hP hD hS => ?_)
        obtain ⟨f127, ef127⟩ : ∃ g9 : Nat → Int32, g9 = upd f108 (20 : Int32).toNatClampNeg (0 : Int32) := ⟨_, rfl⟩
        rw [← ef127] at hP hD
        obtain ⟨hP, hD⟩ := zc_re (w := [(a0, .inr (8, [a0g_0, a0g_1, a0g_2, a0g_3, a0g_4, a0g_5, a0g_6, a0g_7, a0g_8, a0g_9, a0g_10, a0g_11, a0g_12, a0g_13, a0g_14, Value.ref a0_15, a0g_16, a0g_17, a0g_18, a0g_19, a0g_20, a0g_21, a0g_22, Value.ref a0_23, Value.ref a0_24, Value.int a0_25, Value.int x3, Value.int (-1), Value.int 0, a0g_29, a0g_30, a0g_31, a0g_32, a0g_33, a0g_34, a0g_35, a0g_36, a0g_37, a0g_38, a0g_39])), (a1, .inl (ka1, 23, .inl (f127))), (a0_15, .inl (ka0_15, 156, .inl (fa0_15))), (a0_24, .inl (ka0_24, 3, .inl (fa0_24))), (a0_23, .inl (ka0_23, 3, .inl (fa0_23)))]) hP hD rfl
        have bf127 : ((∀ k : Nat, 0 ≤ k → k ≤ 8 → (0 : Int) ≤ (f127 k).toInt ∧ (f127 k).toInt ≤ 8) ∧ (∀ k : Nat, 19 ≤ k → k ≤ 19 → (0 : Int) ≤ (f127 k).toInt ∧ (f127 k).toInt ≤ 8) ∧ (∀ k : Nat, 20 ≤ k → k ≤ 20 → (0 : Int) ≤ (f127 k).toInt ∧ (f127 k).toInt ≤ 19)) := by rw [ef127]; exact ⟨ai_updO bf108.1 _ (Or.inr (ai_ngt_of zq153 (by decide) (by decide))), ai_updO bf108.2.1 _ (Or.inr (ai_ngt_of zq153 (by decide) (by decide))), ai_new (by decide +kernel) ⟨zq5, (Int.le_trans zq6 zq163)⟩⟩
        have kf127_20 : f127 20 = 0 := by rw [ef127]; exact ai_k1 (by decide +kernel)
        have kf127_21 : f127 21 = x99 := by rw [ef127]; exact ai_k2 (by decide +kernel) kf108_21
        refine lv_aload_n hx hb dX8_minuteOn_128 rfl (lv_at hl 2 rfl) ?_
        refine lv_bipush (v := 19) hx hb dX8_minuteOn_129 zk_bipush_19 ?_
        refine lv_aload_n hx hb dX8_minuteOn_131 rfl (lv_at hl 1 rfl) ?_
        refine lv_iload_n hx hb dX8_minuteOn_132 rfl (lv_at hl 0 rfl) ?_
        obtain ⟨hPc, hDc, hFc, hCc⟩ := zc_cut (wc := [(a0, .inr (8, [a0g_0, a0g_1, a0g_2, a0g_3, a0g_4, a0g_5, a0g_6, a0g_7, a0g_8, a0g_9, a0g_10, a0g_11, a0g_12, a0g_13, a0g_14, Value.ref a0_15, a0g_16, a0g_17, a0g_18, a0g_19, a0g_20, a0g_21, a0g_22, Value.ref a0_23, Value.ref a0_24, Value.int a0_25, Value.int x3, Value.int (-1), Value.int 0, a0g_29, a0g_30, a0g_31, a0g_32, a0g_33, a0g_34, a0g_35, a0g_36, a0g_37, a0g_38, a0g_39])), (a0_15, .inl (ka0_15, 156, .inl (fa0_15)))]) hP hD hS hA [0, 2] (by decide +kernel) rfl
        have hKc := hK.sub (tys' := [(ka0_15, .int)]) [1] rfl
        refine va_calli (va_runV (As := [.int x3]) (rest := [.int 19, .ref a1]) ⟨hx, hb, hml, hown, hts⟩ (c_X8_nextOf l dC dI H.size a0 x3 a0g_0 a0g_1 a0g_2 a0g_3 a0g_4 a0g_5 a0g_6 a0g_7 a0g_8 a0g_9 a0g_10 a0g_11 a0g_12 a0g_13 a0g_14 a0g_16 a0g_17 a0g_18 a0g_19 a0g_20 a0g_21 a0g_22 (Value.ref a0_23) (Value.ref a0_24) (Value.int a0_25) (Value.int x3) (Value.int (-1)) (Value.int 0) a0g_29 a0g_30 a0g_31 a0g_32 a0g_33 a0g_34 a0g_35 a0g_36 a0g_37 a0g_38 a0g_39 a0_15 ka0_15 fa0_15 bx3.1 bx3.2 bfa0_15) (cwV 1 hts gX8_minuteOn_X8_nextOf rfl rfl rfl zd_X8_nextOf ⟨Nat.le_of_ble_eq_true rfl, Nat.le_of_ble_eq_true rfl⟩) ⟨ax_blind (fun _ _ _ _ _ => trivial), zr_8 hKc hPc (q0 := 0) rfl, ax_pre hPc hKc hDc (fun _ _ => trivial)⟩ rfl rfl hl.1 rfl (lv_room (Nat.le_of_ble_eq_true rfl)) dX8_minuteOn_133 ⟨Nat.le_of_ble_eq_true rfl, Nat.le_of_ble_eq_true rfl⟩) hS (fun q _ h => hFc q h) hFc (fun r133 u t H locs ht hvm hw hB hz1 hk1 hS => ?_)
        obtain ⟨hP1, hK1, hD1⟩ := hB
        rw [ht] at hP1
        obtain ⟨hP, hD⟩ := zc_back (w := [(a0, .inr (8, [a0g_0, a0g_1, a0g_2, a0g_3, a0g_4, a0g_5, a0g_6, a0g_7, a0g_8, a0g_9, a0g_10, a0g_11, a0g_12, a0g_13, a0g_14, Value.ref a0_15, a0g_16, a0g_17, a0g_18, a0g_19, a0g_20, a0g_21, a0g_22, Value.ref a0_23, Value.ref a0_24, Value.int a0_25, Value.int x3, Value.int (-1), Value.int 0, a0g_29, a0g_30, a0g_31, a0g_32, a0g_33, a0g_34, a0g_35, a0g_36, a0g_37, a0g_38, a0g_39])), (a1, .inl (ka1, 23, .inl (f127))), (a0_15, .inl (ka0_15, 156, .inl (fa0_15))), (a0_24, .inl (ka0_24, 3, .inl (fa0_24))), (a0_23, .inl (ka0_23, 3, .inl (fa0_23)))]) hP hD hCc hk1 hFc hP1 hD1 [.inr 0, .inl 1, .inr 1, .inl 3, .inl 4] (by decide +kernel) rfl
        have hw : (0 : Int) ≤ r133.toInt ∧ r133.toInt ≤ (8 : Int) := hw
        obtain ⟨h133_0, h133_1⟩ := hw
        refine va_iast hx hb hK hP hD hS 1 0 rfl rfl (by unfold vp_in; decide +kernel) dX8_minuteOn_136 (fun H locs hP hD hS => ?_)
        obtain ⟨f136, ef136⟩ : ∃ g9 : Nat → Int32, g9 = upd f127 (19 : Int32).toNatClampNeg r133 := ⟨_, rfl⟩
        rw [← ef136] at hP hD
        obtain ⟨hP, hD⟩ := zc_re (w := [(a0, .inr (8, [a0g_0, a0g_1, a0g_2, a0g_3, a0g_4, a0g_5, a0g_6, a0g_7, a0g_8, a0g_9, a0g_10, a0g_11, a0g_12, a0g_13, a0g_14, Value.ref a0_15, a0g_16, a0g_17, a0g_18, a0g_19, a0g_20, a0g_21, a0g_22, Value.ref a0_23, Value.ref a0_24, Value.int a0_25, Value.int x3, Value.int (-1), Value.int 0, a0g_29, a0g_30, a0g_31, a0g_32, a0g_33, a0g_34, a0g_35, a0g_36, a0g_37, a0g_38, a0g_39])), (a1, .inl (ka1, 23, .inl (f136))), (a0_15, .inl (ka0_15, 156, .inl (fa0_15))), (a0_24, .inl (ka0_24, 3, .inl (fa0_24))), (a0_23, .inl (ka0_23, 3, .inl (fa0_23)))]) hP hD rfl
        have bf136 : ((∀ k : Nat, 0 ≤ k → k ≤ 8 → (0 : Int) ≤ (f136 k).toInt ∧ (f136 k).toInt ≤ 8) ∧ (∀ k : Nat, 19 ≤ k → k ≤ 19 → (0 : Int) ≤ (f136 k).toInt ∧ (f136 k).toInt ≤ 8) ∧ (∀ k : Nat, 20 ≤ k → k ≤ 20 → (0 : Int) ≤ (f136 k).toInt ∧ (f136 k).toInt ≤ 19)) := by rw [ef136]; exact ⟨ai_updO bf127.1 _ (Or.inr (ai_ngt_of zq160 (by decide) (by decide))), ai_updS bf127.2.1 _ ⟨h133_0, h133_1⟩, ai_updO bf127.2.2 _ (Or.inl (ai_nlt_of zq160 zq161 (by decide) (by decide)))⟩
        have kf136_19 : f136 19 = r133 := by rw [ef136]; exact ai_k1 (by decide +kernel)
        have kf136_20 : f136 20 = 0 := by rw [ef136]; exact ai_k2 (by decide +kernel) kf127_20
        have kf136_21 : f136 21 = x99 := by rw [ef136]; exact ai_k2 (by decide +kernel) kf127_21
        exact W.vret hx hb hr (fun t ht hW => ⟨⟨(), rfl, trivial, x3, (-1), 0, f136, bf136, by rw [ht]; exact hP, va_K.moved hW.alike hK, hD⟩, hS.F ht⟩) hS.2.2 dX8_minuteOn_137
      · have gc119 := ai_nle c119
        have u119f_x107 : x107.toInt ≤ (19 : Int) := ai_lthi gc119 bx118.2
        have u119f_x105 : x105.toInt ≤ (18 : Int) := by have h1 := wx107; have h2 := u119f_x107; omega
        have l119f_x118 : (2 : Int) ≤ x118.toInt := ai_ltlo gc119 bx107.1
        exact W.vret hx hb hr (fun t ht hW => ⟨⟨(), rfl, trivial, x3, (-1), 0, f108, ⟨bf108.1, bf108.2.1, ai_one (by rw [kf108_20]; exact ⟨(Int.le_trans zq4 bx107.1), u119f_x107⟩)⟩, by rw [ht]; exact hP, va_K.moved hW.alike hK, hD⟩, hS.F ht⟩) hS.2.2 dX8_minuteOn_122
    · subst hw
      refine lv_if_eq (tgt := 87) hx hb dX8_minuteOn_80 (by decide) (fun _ => ?_) (fun c80 => absurd (by decide +kernel) c80)
      refine lv_aload_n hx hb dX8_minuteOn_87 rfl (lv_at hl 2 rfl) ?_
      refine lv_iload_n hx hb dX8_minuteOn_88 rfl (lv_at hl 0 rfl) ?_
      refine va_iald hx hb hK hP 1 0 rfl rfl (ai_in bx3.1 bx3.2 (by decide) (by decide)) dX8_minuteOn_89 ?_
      refine lv_topi (fun x89 ex89 => ?_)
      have bx89 : (0 : Int) ≤ x89.toInt ∧ x89.toInt ≤ 8 := by rw [ex89]; exact ai_rd bfa1.1 bx3.1 bx3.2 (by decide) (by decide) (by decide)
      refine va_put (D := (dC, dI)) (ci := 8) (v := .int x89) (ty := .int) (C := RX8) (T := TX8) (N := 40) hx hb hts zi_X8_minuteOn_8 tyX8 tyX8_ok nmX8 hown hK hP hD hS 0 rfl rfl 27 (by decide) (hts (.fieldLink RX8 261 "WaxTurnsModel" "livedAt" "I") (zm_X8_minuteOn_r1 (List.mem_of_getElem? (i := 3) rfl))) (fun _ h9 => h9) rfl (tyX8_ok 27 (by decide)) rfl rfl (Nat.le_of_ble_eq_true rfl) dX8_minuteOn_90 (fun H locs hP hD hS => ?_)
      obtain ⟨hP, hD⟩ := zc_re (w := [(a0, .inr (8, [a0g_0, a0g_1, a0g_2, a0g_3, a0g_4, a0g_5, a0g_6, a0g_7, a0g_8, a0g_9, a0g_10, a0g_11, a0g_12, a0g_13, a0g_14, Value.ref a0_15, a0g_16, a0g_17, a0g_18, a0g_19, a0g_20, a0g_21, a0g_22, Value.ref a0_23, Value.ref a0_24, Value.int a0_25, Value.int x3, Value.int x89, Value.int 0, a0g_29, a0g_30, a0g_31, a0g_32, a0g_33, a0g_34, a0g_35, a0g_36, a0g_37, a0g_38, a0g_39])), (a1, .inl (ka1, 23, .inl (fa1))), (a0_15, .inl (ka0_15, 156, .inl (fa0_15))), (a0_24, .inl (ka0_24, 3, .inl (fa0_24))), (a0_23, .inl (ka0_23, 3, .inl (fa0_23)))]) hP hD rfl
      refine lv_aload_n hx hb dX8_minuteOn_93 rfl (lv_at hl 2 rfl) ?_
      refine lv_bipush (v := 21) hx hb dX8_minuteOn_94 zk_bipush_21 ?_
      refine lv_dup2_11 hx hb dX8_minuteOn_96 rfl rfl ?_
      refine va_iald hx hb hK hP 1 0 rfl rfl (by unfold vp_in; decide +kernel) dX8_minuteOn_97 ?_
      refine lv_topi (fun x97 ex97 => ?_)
      refine lv_iconst (v := 1) hx hb dX8_minuteOn_98 zk_iconst_1 ?_
      refine lv_iadd hx hb dX8_minuteOn_99 ?_
      refine lv_topi (fun x99 ex99 => ?_)
      refine va_iast hx hb hK hP hD hS 1 0 rfl rfl (by unfold vp_in; decide +kernel) dX8_minuteOn_100 (fun H locs hP hD hS => ?_)
      obtain ⟨f100, ef100⟩ : ∃ g9 : Nat → Int32, g9 = upd fa1 (21 : Int32).toNatClampNeg x99 := ⟨_, rfl⟩
      rw [← ef100] at hP hD
      obtain ⟨hP, hD⟩ := zc_re (w := [(a0, .inr (8, [a0g_0, a0g_1, a0g_2, a0g_3, a0g_4, a0g_5, a0g_6, a0g_7, a0g_8, a0g_9, a0g_10, a0g_11, a0g_12, a0g_13, a0g_14, Value.ref a0_15, a0g_16, a0g_17, a0g_18, a0g_19, a0g_20, a0g_21, a0g_22, Value.ref a0_23, Value.ref a0_24, Value.int a0_25, Value.int x3, Value.int x89, Value.int 0, a0g_29, a0g_30, a0g_31, a0g_32, a0g_33, a0g_34, a0g_35, a0g_36, a0g_37, a0g_38, a0g_39])), (a1, .inl (ka1, 23, .inl (f100))), (a0_15, .inl (ka0_15, 156, .inl (fa0_15))), (a0_24, .inl (ka0_24, 3, .inl (fa0_24))), (a0_23, .inl (ka0_23, 3, .inl (fa0_23)))]) hP hD rfl
      have bf100 : ((∀ k : Nat, 0 ≤ k → k ≤ 8 → (0 : Int) ≤ (f100 k).toInt ∧ (f100 k).toInt ≤ 8) ∧ (∀ k : Nat, 19 ≤ k → k ≤ 19 → (0 : Int) ≤ (f100 k).toInt ∧ (f100 k).toInt ≤ 8) ∧ (∀ k : Nat, 20 ≤ k → k ≤ 20 → (0 : Int) ≤ (f100 k).toInt ∧ (f100 k).toInt ≤ 19)) := by rw [ef100]; exact ⟨ai_updO bfa1.1 _ (Or.inr (ai_ngt_of zq162 (by decide) (by decide))), ai_updO bfa1.2.1 _ (Or.inr (ai_ngt_of zq162 (by decide) (by decide))), ai_updO bfa1.2.2 _ (Or.inr (ai_ngt_of zq162 (by decide) (by decide)))⟩
      have kf100_21 : f100 21 = x99 := by rw [ef100]; exact ai_k1 (by decide +kernel)
      refine lv_aload_n hx hb dX8_minuteOn_101 rfl (lv_at hl 2 rfl) ?_
      refine lv_bipush (v := 20) hx hb dX8_minuteOn_102 zk_bipush_20 ?_
      refine lv_dup2_11 hx hb dX8_minuteOn_104 rfl rfl ?_
      refine va_iald hx hb hK hP 1 0 rfl rfl (by unfold vp_in; decide +kernel) dX8_minuteOn_105 ?_
      refine lv_topi (fun x105 ex105 => ?_)
      have bx105 : (0 : Int) ≤ x105.toInt ∧ x105.toInt ≤ 19 := by rw [ex105]; exact ai_rd bf100.2.2 zq153 zq154 (by decide) (by decide) (by decide)
      refine lv_iconst (v := 1) hx hb dX8_minuteOn_106 zk_iconst_1 ?_
      refine lv_iadd hx hb dX8_minuteOn_107 ?_
      refine lv_topi (fun x107 ex107 => ?_)
      have qx107 : x107.toInt = x105.toInt + (1 : Int32).toInt := ai_add ex107 ⟨bx105.1, bx105.2⟩ ⟨zq1, zq0⟩ (by decide) (by decide)
      have bx107 : (1 : Int) ≤ x107.toInt ∧ x107.toInt ≤ 20 := ⟨by rw [qx107]; exact Int.add_le_add bx105.1 zq1, by rw [qx107]; exact Int.add_le_add bx105.2 zq0⟩
      have wx107 : x107.toInt = x105.toInt + 1 := qx107
      refine va_iast hx hb hK hP hD hS 1 0 rfl rfl (by unfold vp_in; decide +kernel) dX8_minuteOn_108 (fun H locs hP hD hS => ?_)
      obtain ⟨f108, ef108⟩ : ∃ g9 : Nat → Int32, g9 = upd f100 (20 : Int32).toNatClampNeg x107 := ⟨_, rfl⟩
      rw [← ef108] at hP hD
      obtain ⟨hP, hD⟩ := zc_re (w := [(a0, .inr (8, [a0g_0, a0g_1, a0g_2, a0g_3, a0g_4, a0g_5, a0g_6, a0g_7, a0g_8, a0g_9, a0g_10, a0g_11, a0g_12, a0g_13, a0g_14, Value.ref a0_15, a0g_16, a0g_17, a0g_18, a0g_19, a0g_20, a0g_21, a0g_22, Value.ref a0_23, Value.ref a0_24, Value.int a0_25, Value.int x3, Value.int x89, Value.int 0, a0g_29, a0g_30, a0g_31, a0g_32, a0g_33, a0g_34, a0g_35, a0g_36, a0g_37, a0g_38, a0g_39])), (a1, .inl (ka1, 23, .inl (f108))), (a0_15, .inl (ka0_15, 156, .inl (fa0_15))), (a0_24, .inl (ka0_24, 3, .inl (fa0_24))), (a0_23, .inl (ka0_23, 3, .inl (fa0_23)))]) hP hD rfl
      have bf108 : ((∀ k : Nat, 0 ≤ k → k ≤ 8 → (0 : Int) ≤ (f108 k).toInt ∧ (f108 k).toInt ≤ 8) ∧ (∀ k : Nat, 19 ≤ k → k ≤ 19 → (0 : Int) ≤ (f108 k).toInt ∧ (f108 k).toInt ≤ 8) ∧ True) := by rw [ef108]; exact ⟨ai_updO bf100.1 _ (Or.inr (ai_ngt_of zq153 (by decide) (by decide))), ai_updO bf100.2.1 _ (Or.inr (ai_ngt_of zq153 (by decide) (by decide))), trivial⟩
      have kf108_20 : f108 20 = x107 := by rw [ef108]; exact ai_k1 (by decide +kernel)
      have kf108_21 : f108 21 = x99 := by rw [ef108]; exact ai_k2 (by decide +kernel) kf100_21
      refine lv_aload_n hx hb dX8_minuteOn_109 rfl (lv_at hl 2 rfl) ?_
      refine lv_bipush (v := 20) hx hb dX8_minuteOn_110 zk_bipush_20 ?_
      refine va_iald hx hb hK hP 1 0 rfl rfl (by unfold vp_in; decide +kernel) dX8_minuteOn_112 ?_
      refine ax_ti x107 ((congrArg f108 (by decide +kernel : (20 : Int32).toNatClampNeg = 20)).trans kf108_20) ?_
      refine lv_aload_n hx hb dX8_minuteOn_113 rfl (lv_at hl 1 rfl) ?_
      refine va_get (D := (dC, dI)) (ci := 8) (v := .ref a0_15) (C := RX8) (T := TX8) (N := 40) hx hb hts zi_X8_minuteOn_8 hown hK hP 0 rfl rfl 15 (by decide) (hts (.fieldLink RX8 20 "WaxTurnsModel" "\x72" "[I") (zm_X8_minuteOn_r1 (List.mem_of_getElem? (i := 1) rfl))) (fun _ h9 => h9) rfl dX8_minuteOn_114 ?_
      refine lv_iconst (v := 1) hx hb dX8_minuteOn_117 zk_iconst_1 ?_
      refine va_iald hx hb hK hP 2 1 rfl rfl (by unfold vp_in; decide +kernel) dX8_minuteOn_118 ?_
      refine lv_topi (fun x118 ex118 => ?_)
      have bx118 : (1 : Int) ≤ x118.toInt ∧ x118.toInt ≤ 20 := by rw [ex118]; exact ai_rd bfa0_15.2.1 zq1 zq0 (by decide) (by decide) (by decide)
      refine lv_icmp_ge (tgt := 123) hx hb dX8_minuteOn_119 (by decide) (fun c119 => ?_) (fun c119 => ?_)
      · have gc119 := ai_le c119
        have u119t_x118 : x118.toInt ≤ (20 : Int) := bx118.2
        have l119t_x107 : (1 : Int) ≤ x107.toInt := bx107.1
        refine lv_aload_n hx hb dX8_minuteOn_123 rfl (lv_at hl 2 rfl) ?_
        refine lv_bipush (v := 20) hx hb dX8_minuteOn_124 zk_bipush_20 ?_
        refine lv_iconst (v := 0) hx hb dX8_minuteOn_126 zk_iconst_0 ?_
        refine va_iast hx hb hK hP hD hS 1 0 rfl rfl (by unfold vp_in; decide +kernel) dX8_minuteOn_127 (fun H locs hP hD hS => ?_)
        obtain ⟨f127, ef127⟩ : ∃ g9 : Nat → Int32, g9 = upd f108 (20 : Int32).toNatClampNeg (0 : Int32) := ⟨_, rfl⟩
        rw [← ef127] at hP hD
        obtain ⟨hP, hD⟩ := zc_re (w := [(a0, .inr (8, [a0g_0, a0g_1, a0g_2, a0g_3, a0g_4, a0g_5, a0g_6, a0g_7, a0g_8, a0g_9, a0g_10, a0g_11, a0g_12, a0g_13, a0g_14, Value.ref a0_15, a0g_16, a0g_17, a0g_18, a0g_19, a0g_20, a0g_21, a0g_22, Value.ref a0_23, Value.ref a0_24, Value.int a0_25, Value.int x3, Value.int x89, Value.int 0, a0g_29, a0g_30, a0g_31, a0g_32, a0g_33, a0g_34, a0g_35, a0g_36, a0g_37, a0g_38, a0g_39])), (a1, .inl (ka1, 23, .inl (f127))), (a0_15, .inl (ka0_15, 156, .inl (fa0_15))), (a0_24, .inl (ka0_24, 3, .inl (fa0_24))), (a0_23, .inl (ka0_23, 3, .inl (fa0_23)))]) hP hD rfl
        have bf127 : ((∀ k : Nat, 0 ≤ k → k ≤ 8 → (0 : Int) ≤ (f127 k).toInt ∧ (f127 k).toInt ≤ 8) ∧ (∀ k : Nat, 19 ≤ k → k ≤ 19 → (0 : Int) ≤ (f127 k).toInt ∧ (f127 k).toInt ≤ 8) ∧ (∀ k : Nat, 20 ≤ k → k ≤ 20 → (0 : Int) ≤ (f127 k).toInt ∧ (f127 k).toInt ≤ 19)) := by rw [ef127]; exact ⟨ai_updO bf108.1 _ (Or.inr (ai_ngt_of zq153 (by decide) (by decide))), ai_updO bf108.2.1 _ (Or.inr (ai_ngt_of zq153 (by decide) (by decide))), ai_new (by decide +kernel) ⟨zq5, (Int.le_trans zq6 zq163)⟩⟩
        have kf127_20 : f127 20 = 0 := by rw [ef127]; exact ai_k1 (by decide +kernel)
        have kf127_21 : f127 21 = x99 := by rw [ef127]; exact ai_k2 (by decide +kernel) kf108_21
        refine lv_aload_n hx hb dX8_minuteOn_128 rfl (lv_at hl 2 rfl) ?_
        refine lv_bipush (v := 19) hx hb dX8_minuteOn_129 zk_bipush_19 ?_
        refine lv_aload_n hx hb dX8_minuteOn_131 rfl (lv_at hl 1 rfl) ?_
        refine lv_iload_n hx hb dX8_minuteOn_132 rfl (lv_at hl 0 rfl) ?_
        obtain ⟨hPc, hDc, hFc, hCc⟩ := zc_cut (wc := [(a0, .inr (8, [a0g_0, a0g_1, a0g_2, a0g_3, a0g_4, a0g_5, a0g_6, a0g_7, a0g_8, a0g_9, a0g_10, a0g_11, a0g_12, a0g_13, a0g_14, Value.ref a0_15, a0g_16, a0g_17, a0g_18, a0g_19, a0g_20, a0g_21, a0g_22, Value.ref a0_23, Value.ref a0_24, Value.int a0_25, Value.int x3, Value.int x89, Value.int 0, a0g_29, a0g_30, a0g_31, a0g_32, a0g_33, a0g_34, a0g_35, a0g_36, a0g_37, a0g_38, a0g_39])), (a0_15, .inl (ka0_15, 156, .inl (fa0_15)))]) hP hD hS hA [0, 2] (by decide +kernel) rfl
        have hKc := hK.sub (tys' := [(ka0_15, .int)]) [1] rfl
        refine va_calli (va_runV (As := [.int x3]) (rest := [.int 19, .ref a1]) ⟨hx, hb, hml, hown, hts⟩ (c_X8_nextOf l dC dI H.size a0 x3 a0g_0 a0g_1 a0g_2 a0g_3 a0g_4 a0g_5 a0g_6 a0g_7 a0g_8 a0g_9 a0g_10 a0g_11 a0g_12 a0g_13 a0g_14 a0g_16 a0g_17 a0g_18 a0g_19 a0g_20 a0g_21 a0g_22 (Value.ref a0_23) (Value.ref a0_24) (Value.int a0_25) (Value.int x3) (Value.int x89) (Value.int 0) a0g_29 a0g_30 a0g_31 a0g_32 a0g_33 a0g_34 a0g_35 a0g_36 a0g_37 a0g_38 a0g_39 a0_15 ka0_15 fa0_15 bx3.1 bx3.2 bfa0_15) (cwV 1 hts gX8_minuteOn_X8_nextOf rfl rfl rfl zd_X8_nextOf ⟨Nat.le_of_ble_eq_true rfl, Nat.le_of_ble_eq_true rfl⟩) ⟨ax_blind (fun _ _ _ _ _ => trivial), zr_8 hKc hPc (q0 := 0) rfl, ax_pre hPc hKc hDc (fun _ _ => trivial)⟩ rfl rfl hl.1 rfl (lv_room (Nat.le_of_ble_eq_true rfl)) dX8_minuteOn_133 ⟨Nat.le_of_ble_eq_true rfl, Nat.le_of_ble_eq_true rfl⟩) hS (fun q _ h => hFc q h) hFc (fun r133 u t H locs ht hvm hw hB hz1 hk1 hS => ?_)
        obtain ⟨hP1, hK1, hD1⟩ := hB
        rw [ht] at hP1
        obtain ⟨hP, hD⟩ := zc_back (w := [(a0, .inr (8, [a0g_0, a0g_1, a0g_2, a0g_3, a0g_4, a0g_5, a0g_6, a0g_7, a0g_8, a0g_9, a0g_10, a0g_11, a0g_12, a0g_13, a0g_14, Value.ref a0_15, a0g_16, a0g_17, a0g_18, a0g_19, a0g_20, a0g_21, a0g_22, Value.ref a0_23, Value.ref a0_24, Value.int a0_25, Value.int x3, Value.int x89, Value.int 0, a0g_29, a0g_30, a0g_31, a0g_32, a0g_33, a0g_34, a0g_35, a0g_36, a0g_37, a0g_38, a0g_39])), (a1, .inl (ka1, 23, .inl (f127))), (a0_15, .inl (ka0_15, 156, .inl (fa0_15))), (a0_24, .inl (ka0_24, 3, .inl (fa0_24))), (a0_23, .inl (ka0_23, 3, .inl (fa0_23)))]) hP hD hCc hk1 hFc hP1 hD1 [.inr 0, .inl 1, .inr 1, .inl 3, .inl 4] (by decide +kernel) rfl
        have hw : (0 : Int) ≤ r133.toInt ∧ r133.toInt ≤ (8 : Int) := hw
        obtain ⟨h133_0, h133_1⟩ := hw
        refine va_iast hx hb hK hP hD hS 1 0 rfl rfl (by unfold vp_in; decide +kernel) dX8_minuteOn_136 (fun H locs hP hD hS => ?_)
        obtain ⟨f136, ef136⟩ : ∃ g9 : Nat → Int32, g9 = upd f127 (19 : Int32).toNatClampNeg r133 := ⟨_, rfl⟩
        rw [← ef136] at hP hD
        obtain ⟨hP, hD⟩ := zc_re (w := [(a0, .inr (8, [a0g_0, a0g_1, a0g_2, a0g_3, a0g_4, a0g_5, a0g_6, a0g_7, a0g_8, a0g_9, a0g_10, a0g_11, a0g_12, a0g_13, a0g_14, Value.ref a0_15, a0g_16, a0g_17, a0g_18, a0g_19, a0g_20, a0g_21, a0g_22, Value.ref a0_23, Value.ref a0_24, Value.int a0_25, Value.int x3, Value.int x89, Value.int 0, a0g_29, a0g_30, a0g_31, a0g_32, a0g_33, a0g_34, a0g_35, a0g_36, a0g_37, a0g_38, a0g_39])), (a1, .inl (ka1, 23, .inl (f136))), (a0_15, .inl (ka0_15, 156, .inl (fa0_15))), (a0_24, .inl (ka0_24, 3, .inl (fa0_24))), (a0_23, .inl (ka0_23, 3, .inl (fa0_23)))]) hP hD rfl
        have bf136 : ((∀ k : Nat, 0 ≤ k → k ≤ 8 → (0 : Int) ≤ (f136 k).toInt ∧ (f136 k).toInt ≤ 8) ∧ (∀ k : Nat, 19 ≤ k → k ≤ 19 → (0 : Int) ≤ (f136 k).toInt ∧ (f136 k).toInt ≤ 8) ∧ (∀ k : Nat, 20 ≤ k → k ≤ 20 → (0 : Int) ≤ (f136 k).toInt ∧ (f136 k).toInt ≤ 19)) := by rw [ef136]; exact ⟨ai_updO bf127.1 _ (Or.inr (ai_ngt_of zq160 (by decide) (by decide))), ai_updS bf127.2.1 _ ⟨h133_0, h133_1⟩, ai_updO bf127.2.2 _ (Or.inl (ai_nlt_of zq160 zq161 (by decide) (by decide)))⟩
        have kf136_19 : f136 19 = r133 := by rw [ef136]; exact ai_k1 (by decide +kernel)
        have kf136_20 : f136 20 = 0 := by rw [ef136]; exact ai_k2 (by decide +kernel) kf127_20
        have kf136_21 : f136 21 = x99 := by rw [ef136]; exact ai_k2 (by decide +kernel) kf127_21
        exact W.vret hx hb hr (fun t ht hW => ⟨⟨(), rfl, trivial, x3, x89, 0, f136, bf136, by rw [ht]; exact hP, va_K.moved hW.alike hK, hD⟩, hS.F ht⟩) hS.2.2 dX8_minuteOn_137
      · have gc119 := ai_nle c119
        have u119f_x107 : x107.toInt ≤ (19 : Int) := ai_lthi gc119 bx118.2
        have u119f_x105 : x105.toInt ≤ (18 : Int) := by have h1 := wx107; have h2 := u119f_x107; omega
        have l119f_x118 : (2 : Int) ≤ x118.toInt := ai_ltlo gc119 bx107.1
        exact W.vret hx hb hr (fun t ht hW => ⟨⟨(), rfl, trivial, x3, x89, 0, f108, ⟨bf108.1, bf108.2.1, ai_one (by rw [kf108_20]; exact ⟨(Int.le_trans zq4 bx107.1), u119f_x107⟩)⟩, by rw [ht]; exact hP, va_K.moved hW.alike hK, hD⟩, hS.F ht⟩) hS.2.2 dX8_minuteOn_122
  · subst hw
    refine lv_if_ne (tgt := 66) hx hb dX8_minuteOn_18 (by decide) (fun c18 => absurd (by decide +kernel) c18) (fun _ => ?_)
    refine lv_aload_n hx hb dX8_minuteOn_21 rfl (lv_at hl 1 rfl) ?_
    refine va_get (D := (dC, dI)) (ci := 8) (v := .ref a0_15) (C := RX8) (T := TX8) (N := 40) hx hb hts zi_X8_minuteOn_8 hown hK hP 0 rfl rfl 15 (by decide) (hts (.fieldLink RX8 20 "WaxTurnsModel" "\x72" "[I") (zm_X8_minuteOn_r1 (List.mem_of_getElem? (i := 1) rfl))) (fun _ h9 => h9) rfl dX8_minuteOn_22 ?_
    refine lv_bipush (v := 12) hx hb dX8_minuteOn_25 zk_bipush_12 ?_
    refine lv_iconst (v := 2) hx hb dX8_minuteOn_27 zk_iconst_2 ?_
    refine lv_iload_n hx hb dX8_minuteOn_28 rfl (lv_at hl 0 rfl) ?_
    refine lv_imul hx hb dX8_minuteOn_29 ?_
    refine lv_topi (fun x29 ex29 => ?_)
    have qx29 : x29.toInt = (2 : Int32).toInt * x3.toInt ∧ (0 : Int) ≤ x29.toInt ∧ x29.toInt ≤ 16 := ai_mul ex29 ⟨zq12, zq13⟩ ⟨bx3.1, bx3.2⟩ (by decide) (by decide) zq155
    have wx29 : x29.toInt = 2 * x3.toInt := qx29.1
    refine lv_iadd hx hb dX8_minuteOn_30 ?_
    refine lv_topi (fun x30 ex30 => ?_)
    have qx30 : x30.toInt = (12 : Int32).toInt + x29.toInt := ai_add ex30 ⟨zq119, zq120⟩ ⟨qx29.2.1, qx29.2.2⟩ (by decide) (by decide)
    have bx30 : (12 : Int) ≤ x30.toInt ∧ x30.toInt ≤ 28 := ⟨by rw [qx30]; exact Int.add_le_add zq119 qx29.2.1, by rw [qx30]; exact Int.add_le_add zq120 qx29.2.2⟩
    have wx30 : x30.toInt = 12 + x29.toInt := qx30
    refine va_iald hx hb hK hP 2 1 rfl rfl (ai_in bx30.1 bx30.2 (by decide) (by decide)) dX8_minuteOn_31 ?_
    refine lv_topi (fun x31 ex31 => ?_)
    have bx31 : (0 : Int) ≤ x31.toInt ∧ x31.toInt ≤ 20 := by rw [ex31]; exact ai_rd bfa0_15.2.2.2.2.2.2.2.2.1 bx30.1 bx30.2 (by decide) (by decide) (by decide)
    refine lv_iconst (v := 1) hx hb dX8_minuteOn_32 zk_iconst_1 ?_
    refine lv_icmp_ne (tgt := 45) hx hb dX8_minuteOn_33 (by decide) (fun c33 => ?_) (fun c33 => ?_)
    · have gc33 := ai_ne c33
      refine lv_aload_n hx hb dX8_minuteOn_45 rfl (lv_at hl 1 rfl) ?_
      refine va_get (D := (dC, dI)) (ci := 8) (v := .ref a0_15) (C := RX8) (T := TX8) (N := 40) hx hb hts zi_X8_minuteOn_8 hown hK hP 0 rfl rfl 15 (by decide) (hts (.fieldLink RX8 20 "WaxTurnsModel" "\x72" "[I") (zm_X8_minuteOn_r1 (List.mem_of_getElem? (i := 1) rfl))) (fun _ h9 => h9) rfl dX8_minuteOn_46 ?_
      refine lv_bipush (v := 12) hx hb dX8_minuteOn_49 zk_bipush_12 ?_
      refine lv_iconst (v := 2) hx hb dX8_minuteOn_51 zk_iconst_2 ?_
      refine lv_iload_n hx hb dX8_minuteOn_52 rfl (lv_at hl 0 rfl) ?_
      refine lv_imul hx hb dX8_minuteOn_53 ?_
      refine ax_ti x29 ex29.symm ?_
      refine lv_iadd hx hb dX8_minuteOn_54 ?_
      refine ax_ti x30 ex30.symm ?_
      refine va_iald hx hb hK hP 2 1 rfl rfl (ai_in bx30.1 bx30.2 (by decide) (by decide)) dX8_minuteOn_55 ?_
      refine ax_ti x31 ex31.symm ?_
      refine lv_iconst (v := 2) hx hb dX8_minuteOn_56 zk_iconst_2 ?_
      refine lv_icmp_ne (tgt := 66) hx hb dX8_minuteOn_57 (by decide) (fun c57 => ?_) (fun c57 => ?_)
      · have gc57 := ai_ne c57
        refine lv_aload_n hx hb dX8_minuteOn_66 rfl (lv_at hl 1 rfl) ?_
        refine lv_iload_n hx hb dX8_minuteOn_67 rfl (lv_at hl 0 rfl) ?_
        refine va_put (D := (dC, dI)) (ci := 8) (v := .int x3) (ty := .int) (C := RX8) (T := TX8) (N := 40) hx hb hts zi_X8_minuteOn_8 tyX8 tyX8_ok nmX8 hown hK hP hD hS 0 rfl rfl 26 (by decide) (hts (.fieldLink RX8 258 "WaxTurnsModel" "lived" "I") (zm_X8_minuteOn_r1 (List.mem_of_getElem? (i := 2) rfl))) (fun _ h9 => h9) rfl (tyX8_ok 26 (by decide)) rfl rfl (Nat.le_of_ble_eq_true rfl) dX8_minuteOn_68 (fun H locs hP hD hS => ?_)
        obtain ⟨hP, hD⟩ := zc_re (w := [(a0, .inr (8, [a0g_0, a0g_1, a0g_2, a0g_3, a0g_4, a0g_5, a0g_6, a0g_7, a0g_8, a0g_9, a0g_10, a0g_11, a0g_12, a0g_13, a0g_14, Value.ref a0_15, a0g_16, a0g_17, a0g_18, a0g_19, a0g_20, a0g_21, a0g_22, Value.ref a0_23, Value.ref a0_24, Value.int a0_25, Value.int x3, Value.int a0_27, Value.int 0, a0g_29, a0g_30, a0g_31, a0g_32, a0g_33, a0g_34, a0g_35, a0g_36, a0g_37, a0g_38, a0g_39])), (a1, .inl (ka1, 23, .inl (fa1))), (a0_15, .inl (ka0_15, 156, .inl (fa0_15))), (a0_24, .inl (ka0_24, 3, .inl (fa0_24))), (a0_23, .inl (ka0_23, 3, .inl (fa0_23)))]) hP hD rfl
        refine lv_aload_n hx hb dX8_minuteOn_71 rfl (lv_at hl 1 rfl) ?_
        refine lv_aload_n hx hb dX8_minuteOn_72 rfl (lv_at hl 2 rfl) ?_
        refine lv_bipush (v := 18) hx hb dX8_minuteOn_73 zk_bipush_18 ?_
        refine va_iald hx hb hK hP 1 0 rfl rfl (by unfold vp_in; decide +kernel) dX8_minuteOn_75 ?_
        refine ax_ti x13 ex13.symm ?_
        refine lv_iload_n hx hb dX8_minuteOn_76 rfl (lv_at hl 0 rfl) ?_
        obtain ⟨hPc, hDc, hFc, hCc⟩ := zc_cut (wc := []) hP hD hS hA [] (by decide +kernel) rfl
        have hKc := hK.sub (tys' := []) [] rfl
        refine va_calli (va_runS (As := [.int x13, .int x3]) (rest := [.ref a0]) ⟨hx, hb, hml, hown, hts⟩ (c_X8_hasBit l dC dI H.size x13 x3 ) (va_cwS 2 hts gX8_minuteOn_X8_hasBit rfl rfl rfl zd_X8_hasBit.2 ⟨Nat.le_of_ble_eq_true rfl, Nat.le_of_ble_eq_true rfl⟩) ⟨ax_blind (fun _ _ _ _ _ => trivial), ax_pre hPc hKc hDc (fun _ _ => trivial)⟩ rfl rfl hl.1 rfl (lv_room (Nat.le_of_ble_eq_true rfl)) dX8_minuteOn_77 ⟨Nat.le_of_ble_eq_true rfl, Nat.le_of_ble_eq_true rfl⟩) hS (fun q _ h => hFc q h) hFc (fun r77 u t H locs ht hvm hw hB hz1 hk1 hS => ?_)
        obtain ⟨hP1, hK1, hD1⟩ := hB
        rw [ht] at hP1
        obtain ⟨hP, hD⟩ := zc_back (w := [(a0, .inr (8, [a0g_0, a0g_1, a0g_2, a0g_3, a0g_4, a0g_5, a0g_6, a0g_7, a0g_8, a0g_9, a0g_10, a0g_11, a0g_12, a0g_13, a0g_14, Value.ref a0_15, a0g_16, a0g_17, a0g_18, a0g_19, a0g_20, a0g_21, a0g_22, Value.ref a0_23, Value.ref a0_24, Value.int a0_25, Value.int x3, Value.int a0_27, Value.int 0, a0g_29, a0g_30, a0g_31, a0g_32, a0g_33, a0g_34, a0g_35, a0g_36, a0g_37, a0g_38, a0g_39])), (a1, .inl (ka1, 23, .inl (fa1))), (a0_15, .inl (ka0_15, 156, .inl (fa0_15))), (a0_24, .inl (ka0_24, 3, .inl (fa0_24))), (a0_23, .inl (ka0_23, 3, .inl (fa0_23)))]) hP hD hCc hk1 hFc hP1 hD1 [.inl 0, .inl 1, .inl 2, .inl 3, .inl 4] (by decide +kernel) rfl
        rcases hw with hw | hw
        · subst hw
          refine lv_if_eq (tgt := 87) hx hb dX8_minuteOn_80 (by decide) (fun c80 => absurd c80 (by decide +kernel)) (fun _ => ?_)
          refine lv_iconst (v := (-1)) hx hb dX8_minuteOn_83 zk_iconst_n1 ?_
          refine lv_goto (tgt := 90) hx hb dX8_minuteOn_84 (by decide) ?_
          refine va_put (D := (dC, dI)) (ci := 8) (v := .int (-1)) (ty := .int) (C := RX8) (T := TX8) (N := 40) hx hb hts zi_X8_minuteOn_8 tyX8 tyX8_ok nmX8 hown hK hP hD hS 0 rfl rfl 27 (by decide) (hts (.fieldLink RX8 261 "WaxTurnsModel" "livedAt" "I") (zm_X8_minuteOn_r1 (List.mem_of_getElem? (i := 3) rfl))) (fun _ h9 => h9) rfl (tyX8_ok 27 (by decide)) rfl rfl (Nat.le_of_ble_eq_true rfl) dX8_minuteOn_90 (fun H locs hP hD hS => ?_)
          obtain ⟨hP, hD⟩ := zc_re (w := [(a0, .inr (8, [a0g_0, a0g_1, a0g_2, a0g_3, a0g_4, a0g_5, a0g_6, a0g_7, a0g_8, a0g_9, a0g_10, a0g_11, a0g_12, a0g_13, a0g_14, Value.ref a0_15, a0g_16, a0g_17, a0g_18, a0g_19, a0g_20, a0g_21, a0g_22, Value.ref a0_23, Value.ref a0_24, Value.int a0_25, Value.int x3, Value.int (-1), Value.int 0, a0g_29, a0g_30, a0g_31, a0g_32, a0g_33, a0g_34, a0g_35, a0g_36, a0g_37, a0g_38, a0g_39])), (a1, .inl (ka1, 23, .inl (fa1))), (a0_15, .inl (ka0_15, 156, .inl (fa0_15))), (a0_24, .inl (ka0_24, 3, .inl (fa0_24))), (a0_23, .inl (ka0_23, 3, .inl (fa0_23)))]) hP hD rfl
          refine lv_aload_n hx hb dX8_minuteOn_93 rfl (lv_at hl 2 rfl) ?_
          refine lv_bipush (v := 21) hx hb dX8_minuteOn_94 zk_bipush_21 ?_
          refine lv_dup2_11 hx hb dX8_minuteOn_96 rfl rfl ?_
          refine va_iald hx hb hK hP 1 0 rfl rfl (by unfold vp_in; decide +kernel) dX8_minuteOn_97 ?_
          refine lv_topi (fun x97 ex97 => ?_)
          refine lv_iconst (v := 1) hx hb dX8_minuteOn_98 zk_iconst_1 ?_
          refine lv_iadd hx hb dX8_minuteOn_99 ?_
          refine lv_topi (fun x99 ex99 => ?_)
          refine va_iast hx hb hK hP hD hS 1 0 rfl rfl (by unfold vp_in; decide +kernel) dX8_minuteOn_100 (fun H locs hP hD hS => ?_)
          obtain ⟨f100, ef100⟩ : ∃ g9 : Nat → Int32, g9 = upd fa1 (21 : Int32).toNatClampNeg x99 := ⟨_, rfl⟩
          rw [← ef100] at hP hD
          obtain ⟨hP, hD⟩ := zc_re (w := [(a0, .inr (8, [a0g_0, a0g_1, a0g_2, a0g_3, a0g_4, a0g_5, a0g_6, a0g_7, a0g_8, a0g_9, a0g_10, a0g_11, a0g_12, a0g_13, a0g_14, Value.ref a0_15, a0g_16, a0g_17, a0g_18, a0g_19, a0g_20, a0g_21, a0g_22, Value.ref a0_23, Value.ref a0_24, Value.int a0_25, Value.int x3, Value.int (-1), Value.int 0, a0g_29, a0g_30, a0g_31, a0g_32, a0g_33, a0g_34, a0g_35, a0g_36, a0g_37, a0g_38, a0g_39])), (a1, .inl (ka1, 23, .inl (f100))), (a0_15, .inl (ka0_15, 156, .inl (fa0_15))), (a0_24, .inl (ka0_24, 3, .inl (fa0_24))), (a0_23, .inl (ka0_23, 3, .inl (fa0_23)))]) hP hD rfl
          have bf100 : ((∀ k : Nat, 0 ≤ k → k ≤ 8 → (0 : Int) ≤ (f100 k).toInt ∧ (f100 k).toInt ≤ 8) ∧ (∀ k : Nat, 19 ≤ k → k ≤ 19 → (0 : Int) ≤ (f100 k).toInt ∧ (f100 k).toInt ≤ 8) ∧ (∀ k : Nat, 20 ≤ k → k ≤ 20 → (0 : Int) ≤ (f100 k).toInt ∧ (f100 k).toInt ≤ 19)) := by rw [ef100]; exact ⟨ai_updO bfa1.1 _ (Or.inr (ai_ngt_of zq162 (by decide) (by decide))), ai_updO bfa1.2.1 _ (Or.inr (ai_ngt_of zq162 (by decide) (by decide))), ai_updO bfa1.2.2 _ (Or.inr (ai_ngt_of zq162 (by decide) (by decide)))⟩
          have kf100_21 : f100 21 = x99 := by rw [ef100]; exact ai_k1 (by decide +kernel)
          refine lv_aload_n hx hb dX8_minuteOn_101 rfl (lv_at hl 2 rfl) ?_
          refine lv_bipush (v := 20) hx hb dX8_minuteOn_102 zk_bipush_20 ?_
          refine lv_dup2_11 hx hb dX8_minuteOn_104 rfl rfl ?_
          refine va_iald hx hb hK hP 1 0 rfl rfl (by unfold vp_in; decide +kernel) dX8_minuteOn_105 ?_
          refine lv_topi (fun x105 ex105 => ?_)
          have bx105 : (0 : Int) ≤ x105.toInt ∧ x105.toInt ≤ 19 := by rw [ex105]; exact ai_rd bf100.2.2 zq153 zq154 (by decide) (by decide) (by decide)
          refine lv_iconst (v := 1) hx hb dX8_minuteOn_106 zk_iconst_1 ?_
          refine lv_iadd hx hb dX8_minuteOn_107 ?_
          refine lv_topi (fun x107 ex107 => ?_)
          have qx107 : x107.toInt = x105.toInt + (1 : Int32).toInt := ai_add ex107 ⟨bx105.1, bx105.2⟩ ⟨zq1, zq0⟩ (by decide) (by decide)
          have bx107 : (1 : Int) ≤ x107.toInt ∧ x107.toInt ≤ 20 := ⟨by rw [qx107]; exact Int.add_le_add bx105.1 zq1, by rw [qx107]; exact Int.add_le_add bx105.2 zq0⟩
          have wx107 : x107.toInt = x105.toInt + 1 := qx107
          refine va_iast hx hb hK hP hD hS 1 0 rfl rfl (by unfold vp_in; decide +kernel) dX8_minuteOn_108 (fun H locs hP hD hS => ?_)
          obtain ⟨f108, ef108⟩ : ∃ g9 : Nat → Int32, g9 = upd f100 (20 : Int32).toNatClampNeg x107 := ⟨_, rfl⟩
          rw [← ef108] at hP hD
          obtain ⟨hP, hD⟩ := zc_re (w := [(a0, .inr (8, [a0g_0, a0g_1, a0g_2, a0g_3, a0g_4, a0g_5, a0g_6, a0g_7, a0g_8, a0g_9, a0g_10, a0g_11, a0g_12, a0g_13, a0g_14, Value.ref a0_15, a0g_16, a0g_17, a0g_18, a0g_19, a0g_20, a0g_21, a0g_22, Value.ref a0_23, Value.ref a0_24, Value.int a0_25, Value.int x3, Value.int (-1), Value.int 0, a0g_29, a0g_30, a0g_31, a0g_32, a0g_33, a0g_34, a0g_35, a0g_36, a0g_37, a0g_38, a0g_39])), (a1, .inl (ka1, 23, .inl (f108))), (a0_15, .inl (ka0_15, 156, .inl (fa0_15))), (a0_24, .inl (ka0_24, 3, .inl (fa0_24))), (a0_23, .inl (ka0_23, 3, .inl (fa0_23)))]) hP hD rfl
          have bf108 : ((∀ k : Nat, 0 ≤ k → k ≤ 8 → (0 : Int) ≤ (f108 k).toInt ∧ (f108 k).toInt ≤ 8) ∧ (∀ k : Nat, 19 ≤ k → k ≤ 19 → (0 : Int) ≤ (f108 k).toInt ∧ (f108 k).toInt ≤ 8) ∧ True) := by rw [ef108]; exact ⟨ai_updO bf100.1 _ (Or.inr (ai_ngt_of zq153 (by decide) (by decide))), ai_updO bf100.2.1 _ (Or.inr (ai_ngt_of zq153 (by decide) (by decide))), trivial⟩
          have kf108_20 : f108 20 = x107 := by rw [ef108]; exact ai_k1 (by decide +kernel)
          have kf108_21 : f108 21 = x99 := by rw [ef108]; exact ai_k2 (by decide +kernel) kf100_21
          refine lv_aload_n hx hb dX8_minuteOn_109 rfl (lv_at hl 2 rfl) ?_
          refine lv_bipush (v := 20) hx hb dX8_minuteOn_110 zk_bipush_20 ?_
          refine va_iald hx hb hK hP 1 0 rfl rfl (by unfold vp_in; decide +kernel) dX8_minuteOn_112 ?_
          refine ax_ti x107 ((congrArg f108 (by decide +kernel : (20 : Int32).toNatClampNeg = 20)).trans kf108_20) ?_
          refine lv_aload_n hx hb dX8_minuteOn_113 rfl (lv_at hl 1 rfl) ?_
          refine va_get (D := (dC, dI)) (ci := 8) (v := .ref a0_15) (C := RX8) (T := TX8) (N := 40) hx hb hts zi_X8_minuteOn_8 hown hK hP 0 rfl rfl 15 (by decide) (hts (.fieldLink RX8 20 "WaxTurnsModel" "\x72" "[I") (zm_X8_minuteOn_r1 (List.mem_of_getElem? (i := 1) rfl))) (fun _ h9 => h9) rfl dX8_minuteOn_114 ?_
          refine lv_iconst (v := 1) hx hb dX8_minuteOn_117 zk_iconst_1 ?_
          refine va_iald hx hb hK hP 2 1 rfl rfl (by unfold vp_in; decide +kernel) dX8_minuteOn_118 ?_
          refine lv_topi (fun x118 ex118 => ?_)
          have bx118 : (1 : Int) ≤ x118.toInt ∧ x118.toInt ≤ 20 := by rw [ex118]; exact ai_rd bfa0_15.2.1 zq1 zq0 (by decide) (by decide) (by decide)
          refine lv_icmp_ge (tgt := 123) hx hb dX8_minuteOn_119 (by decide) (fun c119 => ?_) (fun c119 => ?_)
          · have gc119 := ai_le c119
            have u119t_x118 : x118.toInt ≤ (20 : Int) := bx118.2
            have l119t_x107 : (1 : Int) ≤ x107.toInt := bx107.1
            refine lv_aload_n hx hb dX8_minuteOn_123 rfl (lv_at hl 2 rfl) ?_
            refine lv_bipush (v := 20) hx hb dX8_minuteOn_124 zk_bipush_20 ?_
            refine lv_iconst (v := 0) hx hb dX8_minuteOn_126 zk_iconst_0 ?_
            refine va_iast hx hb hK hP hD hS 1 0 rfl rfl (by unfold vp_in; decide +kernel) dX8_minuteOn_127 (fun H locs hP hD hS => ?_)
            obtain ⟨f127, ef127⟩ : ∃ g9 : Nat → Int32, g9 = upd f108 (20 : Int32).toNatClampNeg (0 : Int32) := ⟨_, rfl⟩
            rw [← ef127] at hP hD
            obtain ⟨hP, hD⟩ := zc_re (w := [(a0, .inr (8, [a0g_0, a0g_1, a0g_2, a0g_3, a0g_4, a0g_5, a0g_6, a0g_7, a0g_8, a0g_9, a0g_10, a0g_11, a0g_12, a0g_13, a0g_14, Value.ref a0_15, a0g_16, a0g_17, a0g_18, a0g_19, a0g_20, a0g_21, a0g_22, Value.ref a0_23, Value.ref a0_24, Value.int a0_25, Value.int x3, Value.int (-1), Value.int 0, a0g_29, a0g_30, a0g_31, a0g_32, a0g_33, a0g_34, a0g_35, a0g_36, a0g_37, a0g_38, a0g_39])), (a1, .inl (ka1, 23, .inl (f127))), (a0_15, .inl (ka0_15, 156, .inl (fa0_15))), (a0_24, .inl (ka0_24, 3, .inl (fa0_24))), (a0_23, .inl (ka0_23, 3, .inl (fa0_23)))]) hP hD rfl
            have bf127 : ((∀ k : Nat, 0 ≤ k → k ≤ 8 → (0 : Int) ≤ (f127 k).toInt ∧ (f127 k).toInt ≤ 8) ∧ (∀ k : Nat, 19 ≤ k → k ≤ 19 → (0 : Int) ≤ (f127 k).toInt ∧ (f127 k).toInt ≤ 8) ∧ (∀ k : Nat, 20 ≤ k → k ≤ 20 → (0 : Int) ≤ (f127 k).toInt ∧ (f127 k).toInt ≤ 19)) := by rw [ef127]; exact ⟨ai_updO bf108.1 _ (Or.inr (ai_ngt_of zq153 (by decide) (by decide))), ai_updO bf108.2.1 _ (Or.inr (ai_ngt_of zq153 (by decide) (by decide))), ai_new (by decide +kernel) ⟨zq5, (Int.le_trans zq6 zq163)⟩⟩
            have kf127_20 : f127 20 = 0 := by rw [ef127]; exact ai_k1 (by decide +kernel)
            have kf127_21 : f127 21 = x99 := by rw [ef127]; exact ai_k2 (by decide +kernel) kf108_21
            refine lv_aload_n hx hb dX8_minuteOn_128 rfl (lv_at hl 2 rfl) ?_
            refine lv_bipush (v := 19) hx hb dX8_minuteOn_129 zk_bipush_19 ?_
            refine lv_aload_n hx hb dX8_minuteOn_131 rfl (lv_at hl 1 rfl) ?_
            refine lv_iload_n hx hb dX8_minuteOn_132 rfl (lv_at hl 0 rfl) ?_
            obtain ⟨hPc, hDc, hFc, hCc⟩ := zc_cut (wc := [(a0, .inr (8, [a0g_0, a0g_1, a0g_2, a0g_3, a0g_4, a0g_5, a0g_6, a0g_7, a0g_8, a0g_9, a0g_10, a0g_11, a0g_12, a0g_13, a0g_14, Value.ref a0_15, a0g_16, a0g_17, a0g_18, a0g_19, a0g_20, a0g_21, a0g_22, Value.ref a0_23, Value.ref a0_24, Value.int a0_25, Value.int x3, Value.int (-1), Value.int 0, a0g_29, a0g_30, a0g_31, a0g_32, a0g_33, a0g_34, a0g_35, a0g_36, a0g_37, a0g_38, a0g_39])), (a0_15, .inl (ka0_15, 156, .inl (fa0_15)))]) hP hD hS hA [0, 2] (by decide +kernel) rfl
            have hKc := hK.sub (tys' := [(ka0_15, .int)]) [1] rfl
            refine va_calli (va_runV (As := [.int x3]) (rest := [.int 19, .ref a1]) ⟨hx, hb, hml, hown, hts⟩ (c_X8_nextOf l dC dI H.size a0 x3 a0g_0 a0g_1 a0g_2 a0g_3 a0g_4 a0g_5 a0g_6 a0g_7 a0g_8 a0g_9 a0g_10 a0g_11 a0g_12 a0g_13 a0g_14 a0g_16 a0g_17 a0g_18 a0g_19 a0g_20 a0g_21 a0g_22 (Value.ref a0_23) (Value.ref a0_24) (Value.int a0_25) (Value.int x3) (Value.int (-1)) (Value.int 0) a0g_29 a0g_30 a0g_31 a0g_32 a0g_33 a0g_34 a0g_35 a0g_36 a0g_37 a0g_38 a0g_39 a0_15 ka0_15 fa0_15 bx3.1 bx3.2 bfa0_15) (cwV 1 hts gX8_minuteOn_X8_nextOf rfl rfl rfl zd_X8_nextOf ⟨Nat.le_of_ble_eq_true rfl, Nat.le_of_ble_eq_true rfl⟩) ⟨ax_blind (fun _ _ _ _ _ => trivial), zr_8 hKc hPc (q0 := 0) rfl, ax_pre hPc hKc hDc (fun _ _ => trivial)⟩ rfl rfl hl.1 rfl (lv_room (Nat.le_of_ble_eq_true rfl)) dX8_minuteOn_133 ⟨Nat.le_of_ble_eq_true rfl, Nat.le_of_ble_eq_true rfl⟩) hS (fun q _ h => hFc q h) hFc (fun r133 u t H locs ht hvm hw hB hz1 hk1 hS => ?_)
            obtain ⟨hP1, hK1, hD1⟩ := hB
            rw [ht] at hP1
            obtain ⟨hP, hD⟩ := zc_back (w := [(a0, .inr (8, [a0g_0, a0g_1, a0g_2, a0g_3, a0g_4, a0g_5, a0g_6, a0g_7, a0g_8, a0g_9, a0g_10, a0g_11, a0g_12, a0g_13, a0g_14, Value.ref a0_15, a0g_16, a0g_17, a0g_18, a0g_19, a0g_20, a0g_21, a0g_22, Value.ref a0_23, Value.ref a0_24, Value.int a0_25, Value.int x3, Value.int (-1), Value.int 0, a0g_29, a0g_30, a0g_31, a0g_32, a0g_33, a0g_34, a0g_35, a0g_36, a0g_37, a0g_38, a0g_39])), (a1, .inl (ka1, 23, .inl (f127))), (a0_15, .inl (ka0_15, 156, .inl (fa0_15))), (a0_24, .inl (ka0_24, 3, .inl (fa0_24))), (a0_23, .inl (ka0_23, 3, .inl (fa0_23)))]) hP hD hCc hk1 hFc hP1 hD1 [.inr 0, .inl 1, .inr 1, .inl 3, .inl 4] (by decide +kernel) rfl
            have hw : (0 : Int) ≤ r133.toInt ∧ r133.toInt ≤ (8 : Int) := hw
            obtain ⟨h133_0, h133_1⟩ := hw
            refine va_iast hx hb hK hP hD hS 1 0 rfl rfl (by unfold vp_in; decide +kernel) dX8_minuteOn_136 (fun H locs hP hD hS => ?_)
            obtain ⟨f136, ef136⟩ : ∃ g9 : Nat → Int32, g9 = upd f127 (19 : Int32).toNatClampNeg r133 := ⟨_, rfl⟩
            rw [← ef136] at hP hD
            obtain ⟨hP, hD⟩ := zc_re (w := [(a0, .inr (8, [a0g_0, a0g_1, a0g_2, a0g_3, a0g_4, a0g_5, a0g_6, a0g_7, a0g_8, a0g_9, a0g_10, a0g_11, a0g_12, a0g_13, a0g_14, Value.ref a0_15, a0g_16, a0g_17, a0g_18, a0g_19, a0g_20, a0g_21, a0g_22, Value.ref a0_23, Value.ref a0_24, Value.int a0_25, Value.int x3, Value.int (-1), Value.int 0, a0g_29, a0g_30, a0g_31, a0g_32, a0g_33, a0g_34, a0g_35, a0g_36, a0g_37, a0g_38, a0g_39])), (a1, .inl (ka1, 23, .inl (f136))), (a0_15, .inl (ka0_15, 156, .inl (fa0_15))), (a0_24, .inl (ka0_24, 3, .inl (fa0_24))), (a0_23, .inl (ka0_23, 3, .inl (fa0_23)))]) hP hD rfl
            have bf136 : ((∀ k : Nat, 0 ≤ k → k ≤ 8 → (0 : Int) ≤ (f136 k).toInt ∧ (f136 k).toInt ≤ 8) ∧ (∀ k : Nat, 19 ≤ k → k ≤ 19 → (0 : Int) ≤ (f136 k).toInt ∧ (f136 k).toInt ≤ 8) ∧ (∀ k : Nat, 20 ≤ k → k ≤ 20 → (0 : Int) ≤ (f136 k).toInt ∧ (f136 k).toInt ≤ 19)) := by rw [ef136]; exact ⟨ai_updO bf127.1 _ (Or.inr (ai_ngt_of zq160 (by decide) (by decide))), ai_updS bf127.2.1 _ ⟨h133_0, h133_1⟩, ai_updO bf127.2.2 _ (Or.inl (ai_nlt_of zq160 zq161 (by decide) (by decide)))⟩
            have kf136_19 : f136 19 = r133 := by rw [ef136]; exact ai_k1 (by decide +kernel)
            have kf136_20 : f136 20 = 0 := by rw [ef136]; exact ai_k2 (by decide +kernel) kf127_20
            have kf136_21 : f136 21 = x99 := by rw [ef136]; exact ai_k2 (by decide +kernel) kf127_21
            exact W.vret hx hb hr (fun t ht hW => ⟨⟨(), rfl, trivial, x3, (-1), 0, f136, bf136, by rw [ht]; exact hP, va_K.moved hW.alike hK, hD⟩, hS.F ht⟩) hS.2.2 dX8_minuteOn_137
          · have gc119 := ai_nle c119
            have u119f_x107 : x107.toInt ≤ (19 : Int) := ai_lthi gc119 bx118.2
            have u119f_x105 : x105.toInt ≤ (18 : Int) := by have h1 := wx107; have h2 := u119f_x107; omega
            have l119f_x118 : (2 : Int) ≤ x118.toInt := ai_ltlo gc119 bx107.1
            exact W.vret hx hb hr (fun t ht hW => ⟨⟨(), rfl, trivial, x3, (-1), 0, f108, ⟨bf108.1, bf108.2.1, ai_one (by rw [kf108_20]; exact ⟨(Int.le_trans zq4 bx107.1), u119f_x107⟩)⟩, by rw [ht]; exact hP, va_K.moved hW.alike hK, hD⟩, hS.F ht⟩) hS.2.2 dX8_minuteOn_122
        · subst hw
          refine lv_if_eq (tgt := 87) hx hb dX8_minuteOn_80 (by decide) (fun _ => ?_) (fun c80 => absurd (by decide +kernel) c80)
          refine lv_aload_n hx hb dX8_minuteOn_87 rfl (lv_at hl 2 rfl) ?_
          refine lv_iload_n hx hb dX8_minuteOn_88 rfl (lv_at hl 0 rfl) ?_
          refine va_iald hx hb hK hP 1 0 rfl rfl (ai_in bx3.1 bx3.2 (by decide) (by decide)) dX8_minuteOn_89 ?_
          refine lv_topi (fun x89 ex89 => ?_)
          have bx89 : (0 : Int) ≤ x89.toInt ∧ x89.toInt ≤ 8 := by rw [ex89]; exact ai_rd bfa1.1 bx3.1 bx3.2 (by decide) (by decide) (by decide)
          refine va_put (D := (dC, dI)) (ci := 8) (v := .int x89) (ty := .int) (C := RX8) (T := TX8) (N := 40) hx hb hts zi_X8_minuteOn_8 tyX8 tyX8_ok nmX8 hown hK hP hD hS 0 rfl rfl 27 (by decide) (hts (.fieldLink RX8 261 "WaxTurnsModel" "livedAt" "I") (zm_X8_minuteOn_r1 (List.mem_of_getElem? (i := 3) rfl))) (fun _ h9 => h9) rfl (tyX8_ok 27 (by decide)) rfl rfl (Nat.le_of_ble_eq_true rfl) dX8_minuteOn_90 (fun H locs hP hD hS => ?_)
          obtain ⟨hP, hD⟩ := zc_re (w := [(a0, .inr (8, [a0g_0, a0g_1, a0g_2, a0g_3, a0g_4, a0g_5, a0g_6, a0g_7, a0g_8, a0g_9, a0g_10, a0g_11, a0g_12, a0g_13, a0g_14, Value.ref a0_15, a0g_16, a0g_17, a0g_18, a0g_19, a0g_20, a0g_21, a0g_22, Value.ref a0_23, Value.ref a0_24, Value.int a0_25, Value.int x3, Value.int x89, Value.int 0, a0g_29, a0g_30, a0g_31, a0g_32, a0g_33, a0g_34, a0g_35, a0g_36, a0g_37, a0g_38, a0g_39])), (a1, .inl (ka1, 23, .inl (fa1))), (a0_15, .inl (ka0_15, 156, .inl (fa0_15))), (a0_24, .inl (ka0_24, 3, .inl (fa0_24))), (a0_23, .inl (ka0_23, 3, .inl (fa0_23)))]) hP hD rfl
          refine lv_aload_n hx hb dX8_minuteOn_93 rfl (lv_at hl 2 rfl) ?_
          refine lv_bipush (v := 21) hx hb dX8_minuteOn_94 zk_bipush_21 ?_
          refine lv_dup2_11 hx hb dX8_minuteOn_96 rfl rfl ?_
          refine va_iald hx hb hK hP 1 0 rfl rfl (by unfold vp_in; decide +kernel) dX8_minuteOn_97 ?_
          refine lv_topi (fun x97 ex97 => ?_)
          refine lv_iconst (v := 1) hx hb dX8_minuteOn_98 zk_iconst_1 ?_
          refine lv_iadd hx hb dX8_minuteOn_99 ?_
          refine lv_topi (fun x99 ex99 => ?_)
          refine va_iast hx hb hK hP hD hS 1 0 rfl rfl (by unfold vp_in; decide +kernel) dX8_minuteOn_100 (fun H locs hP hD hS => ?_)
          obtain ⟨f100, ef100⟩ : ∃ g9 : Nat → Int32, g9 = upd fa1 (21 : Int32).toNatClampNeg x99 := ⟨_, rfl⟩
          rw [← ef100] at hP hD
          obtain ⟨hP, hD⟩ := zc_re (w := [(a0, .inr (8, [a0g_0, a0g_1, a0g_2, a0g_3, a0g_4, a0g_5, a0g_6, a0g_7, a0g_8, a0g_9, a0g_10, a0g_11, a0g_12, a0g_13, a0g_14, Value.ref a0_15, a0g_16, a0g_17, a0g_18, a0g_19, a0g_20, a0g_21, a0g_22, Value.ref a0_23, Value.ref a0_24, Value.int a0_25, Value.int x3, Value.int x89, Value.int 0, a0g_29, a0g_30, a0g_31, a0g_32, a0g_33, a0g_34, a0g_35, a0g_36, a0g_37, a0g_38, a0g_39])), (a1, .inl (ka1, 23, .inl (f100))), (a0_15, .inl (ka0_15, 156, .inl (fa0_15))), (a0_24, .inl (ka0_24, 3, .inl (fa0_24))), (a0_23, .inl (ka0_23, 3, .inl (fa0_23)))]) hP hD rfl
          have bf100 : ((∀ k : Nat, 0 ≤ k → k ≤ 8 → (0 : Int) ≤ (f100 k).toInt ∧ (f100 k).toInt ≤ 8) ∧ (∀ k : Nat, 19 ≤ k → k ≤ 19 → (0 : Int) ≤ (f100 k).toInt ∧ (f100 k).toInt ≤ 8) ∧ (∀ k : Nat, 20 ≤ k → k ≤ 20 → (0 : Int) ≤ (f100 k).toInt ∧ (f100 k).toInt ≤ 19)) := by rw [ef100]; exact ⟨ai_updO bfa1.1 _ (Or.inr (ai_ngt_of zq162 (by decide) (by decide))), ai_updO bfa1.2.1 _ (Or.inr (ai_ngt_of zq162 (by decide) (by decide))), ai_updO bfa1.2.2 _ (Or.inr (ai_ngt_of zq162 (by decide) (by decide)))⟩
          have kf100_21 : f100 21 = x99 := by rw [ef100]; exact ai_k1 (by decide +kernel)
          refine lv_aload_n hx hb dX8_minuteOn_101 rfl (lv_at hl 2 rfl) ?_
          refine lv_bipush (v := 20) hx hb dX8_minuteOn_102 zk_bipush_20 ?_
          refine lv_dup2_11 hx hb dX8_minuteOn_104 rfl rfl ?_
          refine va_iald hx hb hK hP 1 0 rfl rfl (by unfold vp_in; decide +kernel) dX8_minuteOn_105 ?_
          refine lv_topi (fun x105 ex105 => ?_)
          have bx105 : (0 : Int) ≤ x105.toInt ∧ x105.toInt ≤ 19 := by rw [ex105]; exact ai_rd bf100.2.2 zq153 zq154 (by decide) (by decide) (by decide)
          refine lv_iconst (v := 1) hx hb dX8_minuteOn_106 zk_iconst_1 ?_
          refine lv_iadd hx hb dX8_minuteOn_107 ?_
          refine lv_topi (fun x107 ex107 => ?_)
          have qx107 : x107.toInt = x105.toInt + (1 : Int32).toInt := ai_add ex107 ⟨bx105.1, bx105.2⟩ ⟨zq1, zq0⟩ (by decide) (by decide)
          have bx107 : (1 : Int) ≤ x107.toInt ∧ x107.toInt ≤ 20 := ⟨by rw [qx107]; exact Int.add_le_add bx105.1 zq1, by rw [qx107]; exact Int.add_le_add bx105.2 zq0⟩
          have wx107 : x107.toInt = x105.toInt + 1 := qx107
          refine va_iast hx hb hK hP hD hS 1 0 rfl rfl (by unfold vp_in; decide +kernel) dX8_minuteOn_108 (fun H locs hP hD hS => ?_)
          obtain ⟨f108, ef108⟩ : ∃ g9 : Nat → Int32, g9 = upd f100 (20 : Int32).toNatClampNeg x107 := ⟨_, rfl⟩
          rw [← ef108] at hP hD
          obtain ⟨hP, hD⟩ := zc_re (w := [(a0, .inr (8, [a0g_0, a0g_1, a0g_2, a0g_3, a0g_4, a0g_5, a0g_6, a0g_7, a0g_8, a0g_9, a0g_10, a0g_11, a0g_12, a0g_13, a0g_14, Value.ref a0_15, a0g_16, a0g_17, a0g_18, a0g_19, a0g_20, a0g_21, a0g_22, Value.ref a0_23, Value.ref a0_24, Value.int a0_25, Value.int x3, Value.int x89, Value.int 0, a0g_29, a0g_30, a0g_31, a0g_32, a0g_33, a0g_34, a0g_35, a0g_36, a0g_37, a0g_38, a0g_39])), (a1, .inl (ka1, 23, .inl (f108))), (a0_15, .inl (ka0_15, 156, .inl (fa0_15))), (a0_24, .inl (ka0_24, 3, .inl (fa0_24))), (a0_23, .inl (ka0_23, 3, .inl (fa0_23)))]) hP hD rfl
          have bf108 : ((∀ k : Nat, 0 ≤ k → k ≤ 8 → (0 : Int) ≤ (f108 k).toInt ∧ (f108 k).toInt ≤ 8) ∧ (∀ k : Nat, 19 ≤ k → k ≤ 19 → (0 : Int) ≤ (f108 k).toInt ∧ (f108 k).toInt ≤ 8) ∧ True) := by rw [ef108]; exact ⟨ai_updO bf100.1 _ (Or.inr (ai_ngt_of zq153 (by decide) (by decide))), ai_updO bf100.2.1 _ (Or.inr (ai_ngt_of zq153 (by decide) (by decide))), trivial⟩
          have kf108_20 : f108 20 = x107 := by rw [ef108]; exact ai_k1 (by decide +kernel)
          have kf108_21 : f108 21 = x99 := by rw [ef108]; exact ai_k2 (by decide +kernel) kf100_21
          refine lv_aload_n hx hb dX8_minuteOn_109 rfl (lv_at hl 2 rfl) ?_
          refine lv_bipush (v := 20) hx hb dX8_minuteOn_110 zk_bipush_20 ?_
          refine va_iald hx hb hK hP 1 0 rfl rfl (by unfold vp_in; decide +kernel) dX8_minuteOn_112 ?_
          refine ax_ti x107 ((congrArg f108 (by decide +kernel : (20 : Int32).toNatClampNeg = 20)).trans kf108_20) ?_
          refine lv_aload_n hx hb dX8_minuteOn_113 rfl (lv_at hl 1 rfl) ?_
          refine va_get (D := (dC, dI)) (ci := 8) (v := .ref a0_15) (C := RX8) (T := TX8) (N := 40) hx hb hts zi_X8_minuteOn_8 hown hK hP 0 rfl rfl 15 (by decide) (hts (.fieldLink RX8 20 "WaxTurnsModel" "\x72" "[I") (zm_X8_minuteOn_r1 (List.mem_of_getElem? (i := 1) rfl))) (fun _ h9 => h9) rfl dX8_minuteOn_114 ?_
          refine lv_iconst (v := 1) hx hb dX8_minuteOn_117 zk_iconst_1 ?_
          refine va_iald hx hb hK hP 2 1 rfl rfl (by unfold vp_in; decide +kernel) dX8_minuteOn_118 ?_
          refine lv_topi (fun x118 ex118 => ?_)
          have bx118 : (1 : Int) ≤ x118.toInt ∧ x118.toInt ≤ 20 := by rw [ex118]; exact ai_rd bfa0_15.2.1 zq1 zq0 (by decide) (by decide) (by decide)
          refine lv_icmp_ge (tgt := 123) hx hb dX8_minuteOn_119 (by decide) (fun c119 => ?_) (fun c119 => ?_)
          · have gc119 := ai_le c119
            have u119t_x118 : x118.toInt ≤ (20 : Int) := bx118.2
            have l119t_x107 : (1 : Int) ≤ x107.toInt := bx107.1
            refine lv_aload_n hx hb dX8_minuteOn_123 rfl (lv_at hl 2 rfl) ?_
            refine lv_bipush (v := 20) hx hb dX8_minuteOn_124 zk_bipush_20 ?_
            refine lv_iconst (v := 0) hx hb dX8_minuteOn_126 zk_iconst_0 ?_
            refine va_iast hx hb hK hP hD hS 1 0 rfl rfl (by unfold vp_in; decide +kernel) dX8_minuteOn_127 (fun H locs hP hD hS => ?_)
            obtain ⟨f127, ef127⟩ : ∃ g9 : Nat → Int32, g9 = upd f108 (20 : Int32).toNatClampNeg (0 : Int32) := ⟨_, rfl⟩
            rw [← ef127] at hP hD
            obtain ⟨hP, hD⟩ := zc_re (w := [(a0, .inr (8, [a0g_0, a0g_1, a0g_2, a0g_3, a0g_4, a0g_5, a0g_6, a0g_7, a0g_8, a0g_9, a0g_10, a0g_11, a0g_12, a0g_13, a0g_14, Value.ref a0_15, a0g_16, a0g_17, a0g_18, a0g_19, a0g_20, a0g_21, a0g_22, Value.ref a0_23, Value.ref a0_24, Value.int a0_25, Value.int x3, Value.int x89, Value.int 0, a0g_29, a0g_30, a0g_31, a0g_32, a0g_33, a0g_34, a0g_35, a0g_36, a0g_37, a0g_38, a0g_39])), (a1, .inl (ka1, 23, .inl (f127))), (a0_15, .inl (ka0_15, 156, .inl (fa0_15))), (a0_24, .inl (ka0_24, 3, .inl (fa0_24))), (a0_23, .inl (ka0_23, 3, .inl (fa0_23)))]) hP hD rfl
            have bf127 : ((∀ k : Nat, 0 ≤ k → k ≤ 8 → (0 : Int) ≤ (f127 k).toInt ∧ (f127 k).toInt ≤ 8) ∧ (∀ k : Nat, 19 ≤ k → k ≤ 19 → (0 : Int) ≤ (f127 k).toInt ∧ (f127 k).toInt ≤ 8) ∧ (∀ k : Nat, 20 ≤ k → k ≤ 20 → (0 : Int) ≤ (f127 k).toInt ∧ (f127 k).toInt ≤ 19)) := by rw [ef127]; exact ⟨ai_updO bf108.1 _ (Or.inr (ai_ngt_of zq153 (by decide) (by decide))), ai_updO bf108.2.1 _ (Or.inr (ai_ngt_of zq153 (by decide) (by decide))), ai_new (by decide +kernel) ⟨zq5, (Int.le_trans zq6 zq163)⟩⟩
            have kf127_20 : f127 20 = 0 := by rw [ef127]; exact ai_k1 (by decide +kernel)
            have kf127_21 : f127 21 = x99 := by rw [ef127]; exact ai_k2 (by decide +kernel) kf108_21
            refine lv_aload_n hx hb dX8_minuteOn_128 rfl (lv_at hl 2 rfl) ?_
            refine lv_bipush (v := 19) hx hb dX8_minuteOn_129 zk_bipush_19 ?_
            refine lv_aload_n hx hb dX8_minuteOn_131 rfl (lv_at hl 1 rfl) ?_
            refine lv_iload_n hx hb dX8_minuteOn_132 rfl (lv_at hl 0 rfl) ?_
            obtain ⟨hPc, hDc, hFc, hCc⟩ := zc_cut (wc := [(a0, .inr (8, [a0g_0, a0g_1, a0g_2, a0g_3, a0g_4, a0g_5, a0g_6, a0g_7, a0g_8, a0g_9, a0g_10, a0g_11, a0g_12, a0g_13, a0g_14, Value.ref a0_15, a0g_16, a0g_17, a0g_18, a0g_19, a0g_20, a0g_21, a0g_22, Value.ref a0_23, Value.ref a0_24, Value.int a0_25, Value.int x3, Value.int x89, Value.int 0, a0g_29, a0g_30, a0g_31, a0g_32, a0g_33, a0g_34, a0g_35, a0g_36, a0g_37, a0g_38, a0g_39])), (a0_15, .inl (ka0_15, 156, .inl (fa0_15)))]) hP hD hS hA [0, 2] (by decide +kernel) rfl
            have hKc := hK.sub (tys' := [(ka0_15, .int)]) [1] rfl
            refine va_calli (va_runV (As := [.int x3]) (rest := [.int 19, .ref a1]) ⟨hx, hb, hml, hown, hts⟩ (c_X8_nextOf l dC dI H.size a0 x3 a0g_0 a0g_1 a0g_2 a0g_3 a0g_4 a0g_5 a0g_6 a0g_7 a0g_8 a0g_9 a0g_10 a0g_11 a0g_12 a0g_13 a0g_14 a0g_16 a0g_17 a0g_18 a0g_19 a0g_20 a0g_21 a0g_22 (Value.ref a0_23) (Value.ref a0_24) (Value.int a0_25) (Value.int x3) (Value.int x89) (Value.int 0) a0g_29 a0g_30 a0g_31 a0g_32 a0g_33 a0g_34 a0g_35 a0g_36 a0g_37 a0g_38 a0g_39 a0_15 ka0_15 fa0_15 bx3.1 bx3.2 bfa0_15) (cwV 1 hts gX8_minuteOn_X8_nextOf rfl rfl rfl zd_X8_nextOf ⟨Nat.le_of_ble_eq_true rfl, Nat.le_of_ble_eq_true rfl⟩) ⟨ax_blind (fun _ _ _ _ _ => trivial), zr_8 hKc hPc (q0 := 0) rfl, ax_pre hPc hKc hDc (fun _ _ => trivial)⟩ rfl rfl hl.1 rfl (lv_room (Nat.le_of_ble_eq_true rfl)) dX8_minuteOn_133 ⟨Nat.le_of_ble_eq_true rfl, Nat.le_of_ble_eq_true rfl⟩) hS (fun q _ h => hFc q h) hFc (fun r133 u t H locs ht hvm hw hB hz1 hk1 hS => ?_)
            obtain ⟨hP1, hK1, hD1⟩ := hB
            rw [ht] at hP1
            obtain ⟨hP, hD⟩ := zc_back (w := [(a0, .inr (8, [a0g_0, a0g_1, a0g_2, a0g_3, a0g_4, a0g_5, a0g_6, a0g_7, a0g_8, a0g_9, a0g_10, a0g_11, a0g_12, a0g_13, a0g_14, Value.ref a0_15, a0g_16, a0g_17, a0g_18, a0g_19, a0g_20, a0g_21, a0g_22, Value.ref a0_23, Value.ref a0_24, Value.int a0_25, Value.int x3, Value.int x89, Value.int 0, a0g_29, a0g_30, a0g_31, a0g_32, a0g_33, a0g_34, a0g_35, a0g_36, a0g_37, a0g_38, a0g_39])), (a1, .inl (ka1, 23, .inl (f127))), (a0_15, .inl (ka0_15, 156, .inl (fa0_15))), (a0_24, .inl (ka0_24, 3, .inl (fa0_24))), (a0_23, .inl (ka0_23, 3, .inl (fa0_23)))]) hP hD hCc hk1 hFc hP1 hD1 [.inr 0, .inl 1, .inr 1, .inl 3, .inl 4] (by decide +kernel) rfl
            have hw : (0 : Int) ≤ r133.toInt ∧ r133.toInt ≤ (8 : Int) := hw
            obtain ⟨h133_0, h133_1⟩ := hw
            refine va_iast hx hb hK hP hD hS 1 0 rfl rfl (by unfold vp_in; decide +kernel) dX8_minuteOn_136 (fun H locs hP hD hS => ?_)
            obtain ⟨f136, ef136⟩ : ∃ g9 : Nat → Int32, g9 = upd f127 (19 : Int32).toNatClampNeg r133 := ⟨_, rfl⟩
            rw [← ef136] at hP hD
            obtain ⟨hP, hD⟩ := zc_re (w := [(a0, .inr (8, [a0g_0, a0g_1, a0g_2, a0g_3, a0g_4, a0g_5, a0g_6, a0g_7, a0g_8, a0g_9, a0g_10, a0g_11, a0g_12, a0g_13, a0g_14, Value.ref a0_15, a0g_16, a0g_17, a0g_18, a0g_19, a0g_20, a0g_21, a0g_22, Value.ref a0_23, Value.ref a0_24, Value.int a0_25, Value.int x3, Value.int x89, Value.int 0, a0g_29, a0g_30, a0g_31, a0g_32, a0g_33, a0g_34, a0g_35, a0g_36, a0g_37, a0g_38, a0g_39])), (a1, .inl (ka1, 23, .inl (f136))), (a0_15, .inl (ka0_15, 156, .inl (fa0_15))), (a0_24, .inl (ka0_24, 3, .inl (fa0_24))), (a0_23, .inl (ka0_23, 3, .inl (fa0_23)))]) hP hD rfl
            have bf136 : ((∀ k : Nat, 0 ≤ k → k ≤ 8 → (0 : Int) ≤ (f136 k).toInt ∧ (f136 k).toInt ≤ 8) ∧ (∀ k : Nat, 19 ≤ k → k ≤ 19 → (0 : Int) ≤ (f136 k).toInt ∧ (f136 k).toInt ≤ 8) ∧ (∀ k : Nat, 20 ≤ k → k ≤ 20 → (0 : Int) ≤ (f136 k).toInt ∧ (f136 k).toInt ≤ 19)) := by rw [ef136]; exact ⟨ai_updO bf127.1 _ (Or.inr (ai_ngt_of zq160 (by decide) (by decide))), ai_updS bf127.2.1 _ ⟨h133_0, h133_1⟩, ai_updO bf127.2.2 _ (Or.inl (ai_nlt_of zq160 zq161 (by decide) (by decide)))⟩
            have kf136_19 : f136 19 = r133 := by rw [ef136]; exact ai_k1 (by decide +kernel)
            have kf136_20 : f136 20 = 0 := by rw [ef136]; exact ai_k2 (by decide +kernel) kf127_20
            have kf136_21 : f136 21 = x99 := by rw [ef136]; exact ai_k2 (by decide +kernel) kf127_21
            exact W.vret hx hb hr (fun t ht hW => ⟨⟨(), rfl, trivial, x3, x89, 0, f136, bf136, by rw [ht]; exact hP, va_K.moved hW.alike hK, hD⟩, hS.F ht⟩) hS.2.2 dX8_minuteOn_137
          · have gc119 := ai_nle c119
            have u119f_x107 : x107.toInt ≤ (19 : Int) := ai_lthi gc119 bx118.2
            have u119f_x105 : x105.toInt ≤ (18 : Int) := by have h1 := wx107; have h2 := u119f_x107; omega
            have l119f_x118 : (2 : Int) ≤ x118.toInt := ai_ltlo gc119 bx107.1
            exact W.vret hx hb hr (fun t ht hW => ⟨⟨(), rfl, trivial, x3, x89, 0, f108, ⟨bf108.1, bf108.2.1, ai_one (by rw [kf108_20]; exact ⟨(Int.le_trans zq4 bx107.1), u119f_x107⟩)⟩, by rw [ht]; exact hP, va_K.moved hW.alike hK, hD⟩, hS.F ht⟩) hS.2.2 dX8_minuteOn_122
      · have gc57 := ai_eq c57
        have u57f_x31 : x31.toInt ≤ (2 : Int) := Int.le_trans (Int.le_of_eq gc57) zq13
        have l57f_x31 : (2 : Int) ≤ x31.toInt := Int.le_trans zq12 (Int.le_of_eq gc57.symm)
        refine lv_aload_n hx hb dX8_minuteOn_60 rfl (lv_at hl 1 rfl) ?_
        refine lv_aload_n hx hb dX8_minuteOn_61 rfl (lv_at hl 2 rfl) ?_
        refine lv_iload_n hx hb dX8_minuteOn_62 rfl (lv_at hl 0 rfl) ?_
        obtain ⟨hPc, hDc, hFc, hCc⟩ := zc_cut (wc := [(a0, .inr (8, [a0g_0, a0g_1, a0g_2, a0g_3, a0g_4, a0g_5, a0g_6, a0g_7, a0g_8, a0g_9, a0g_10, a0g_11, a0g_12, a0g_13, a0g_14, Value.ref a0_15, a0g_16, a0g_17, a0g_18, a0g_19, a0g_20, a0g_21, a0g_22, Value.ref a0_23, Value.ref a0_24, Value.int a0_25, Value.int a0_26, Value.int a0_27, Value.int 0, a0g_29, a0g_30, a0g_31, a0g_32, a0g_33, a0g_34, a0g_35, a0g_36, a0g_37, a0g_38, a0g_39])), (a1, .inl (ka1, 23, .inl (fa1))), (a0_15, .inl (ka0_15, 156, .inl (fa0_15))), (a0_24, .inl (ka0_24, 3, .inl (fa0_24))), (a0_23, .inl (ka0_23, 3, .inl (fa0_23)))]) hP hD hS hA [0, 1, 2, 3, 4] (by decide +kernel) rfl
        have hKc := hK.sub (tys' := [(ka1, .int), (ka0_15, .int), (ka0_24, .int), (ka0_23, .int)]) [0, 1, 2, 3] rfl
        refine va_callv (va_runV (As := [.ref a1, .int x3]) (rest := []) ⟨hx, hb, hml, hown, hts⟩ (c_X8_speakOn l dC dI H.size a0 a1 x3 a0g_0 a0g_1 a0g_2 a0g_3 a0g_4 a0g_5 a0g_6 a0g_7 a0g_8 a0g_9 a0g_10 a0g_11 a0g_12 a0g_13 a0g_14 a0g_16 a0g_17 a0g_18 a0g_19 a0g_20 a0g_21 a0g_22 (Value.int a0_26) (Value.int a0_27) a0g_29 a0g_30 a0g_31 a0g_32 a0g_33 a0g_34 a0g_35 a0g_36 a0g_37 a0g_38 a0g_39 a0_15 a0_23 a0_24 a0_25 0 ka1 fa1 ka0_15 fa0_15 ka0_24 fa0_24 ka0_23 fa0_23 bx3.1 bx3.2 bfa1 bfa0_15 bfa0_24 bfa0_23) (cwV 2 hts gX8_minuteOn_X8_speakOn rfl rfl rfl zd_X8_speakOn ⟨Nat.le_of_ble_eq_true rfl, Nat.le_of_ble_eq_true rfl⟩) ⟨ax_blind (fun _ _ _ _ _ => trivial), zr_8 hKc hPc (q0 := 0) rfl, ax_pre hPc hKc hDc (fun _ _ => trivial)⟩ rfl rfl hl.1 rfl (lv_room (Nat.le_of_ble_eq_true rfl)) dX8_minuteOn_63 ⟨Nat.le_of_ble_eq_true rfl, Nat.le_of_ble_eq_true rfl⟩) hS (fun q _ h => hFc q h) hFc (fun u t H locs ht hvm hw hB hz1 hk1 hS => ?_)
        obtain ⟨v63na0_28, v63nfa1, bv63nfa1, hP1, hK1, hD1⟩ := hB
        rw [ht] at hP1
        obtain ⟨hP, hD⟩ := zc_back (w := [(a0, .inr (8, [a0g_0, a0g_1, a0g_2, a0g_3, a0g_4, a0g_5, a0g_6, a0g_7, a0g_8, a0g_9, a0g_10, a0g_11, a0g_12, a0g_13, a0g_14, Value.ref a0_15, a0g_16, a0g_17, a0g_18, a0g_19, a0g_20, a0g_21, a0g_22, Value.ref a0_23, Value.ref a0_24, Value.int a0_25, Value.int a0_26, Value.int a0_27, Value.int v63na0_28, a0g_29, a0g_30, a0g_31, a0g_32, a0g_33, a0g_34, a0g_35, a0g_36, a0g_37, a0g_38, a0g_39])), (a1, .inl (ka1, 23, .inl (v63nfa1))), (a0_15, .inl (ka0_15, 156, .inl (fa0_15))), (a0_24, .inl (ka0_24, 3, .inl (fa0_24))), (a0_23, .inl (ka0_23, 3, .inl (fa0_23)))]) hP hD hCc hk1 hFc hP1 hD1 [.inr 0, .inr 1, .inr 2, .inr 3, .inr 4] (by decide +kernel) rfl
        refine lv_aload_n hx hb dX8_minuteOn_66 rfl (lv_at hl 1 rfl) ?_
        refine lv_iload_n hx hb dX8_minuteOn_67 rfl (lv_at hl 0 rfl) ?_
        refine va_put (D := (dC, dI)) (ci := 8) (v := .int x3) (ty := .int) (C := RX8) (T := TX8) (N := 40) hx hb hts zi_X8_minuteOn_8 tyX8 tyX8_ok nmX8 hown hK hP hD hS 0 rfl rfl 26 (by decide) (hts (.fieldLink RX8 258 "WaxTurnsModel" "lived" "I") (zm_X8_minuteOn_r1 (List.mem_of_getElem? (i := 2) rfl))) (fun _ h9 => h9) rfl (tyX8_ok 26 (by decide)) rfl rfl (Nat.le_of_ble_eq_true rfl) dX8_minuteOn_68 (fun H locs hP hD hS => ?_)
        obtain ⟨hP, hD⟩ := zc_re (w := [(a0, .inr (8, [a0g_0, a0g_1, a0g_2, a0g_3, a0g_4, a0g_5, a0g_6, a0g_7, a0g_8, a0g_9, a0g_10, a0g_11, a0g_12, a0g_13, a0g_14, Value.ref a0_15, a0g_16, a0g_17, a0g_18, a0g_19, a0g_20, a0g_21, a0g_22, Value.ref a0_23, Value.ref a0_24, Value.int a0_25, Value.int x3, Value.int a0_27, Value.int v63na0_28, a0g_29, a0g_30, a0g_31, a0g_32, a0g_33, a0g_34, a0g_35, a0g_36, a0g_37, a0g_38, a0g_39])), (a1, .inl (ka1, 23, .inl (v63nfa1))), (a0_15, .inl (ka0_15, 156, .inl (fa0_15))), (a0_24, .inl (ka0_24, 3, .inl (fa0_24))), (a0_23, .inl (ka0_23, 3, .inl (fa0_23)))]) hP hD rfl
        refine lv_aload_n hx hb dX8_minuteOn_71 rfl (lv_at hl 1 rfl) ?_
        refine lv_aload_n hx hb dX8_minuteOn_72 rfl (lv_at hl 2 rfl) ?_
        refine lv_bipush (v := 18) hx hb dX8_minuteOn_73 zk_bipush_18 ?_
        refine va_iald hx hb hK hP 1 0 rfl rfl (by unfold vp_in; decide +kernel) dX8_minuteOn_75 ?_
        refine lv_topi (fun x75 ex75 => ?_)
        refine lv_iload_n hx hb dX8_minuteOn_76 rfl (lv_at hl 0 rfl) ?_
        obtain ⟨hPc, hDc, hFc, hCc⟩ := zc_cut (wc := []) hP hD hS hA [] (by decide +kernel) rfl
        have hKc := hK.sub (tys' := []) [] rfl
        refine va_calli (va_runS (As := [.int x75, .int x3]) (rest := [.ref a0]) ⟨hx, hb, hml, hown, hts⟩ (c_X8_hasBit l dC dI H.size x75 x3 ) (va_cwS 2 hts gX8_minuteOn_X8_hasBit rfl rfl rfl zd_X8_hasBit.2 ⟨Nat.le_of_ble_eq_true rfl, Nat.le_of_ble_eq_true rfl⟩) ⟨ax_blind (fun _ _ _ _ _ => trivial), ax_pre hPc hKc hDc (fun _ _ => trivial)⟩ rfl rfl hl.1 rfl (lv_room (Nat.le_of_ble_eq_true rfl)) dX8_minuteOn_77 ⟨Nat.le_of_ble_eq_true rfl, Nat.le_of_ble_eq_true rfl⟩) hS (fun q _ h => hFc q h) hFc (fun r77 u t H locs ht hvm hw hB hz1 hk1 hS => ?_)
        obtain ⟨hP1, hK1, hD1⟩ := hB
        rw [ht] at hP1
        obtain ⟨hP, hD⟩ := zc_back (w := [(a0, .inr (8, [a0g_0, a0g_1, a0g_2, a0g_3, a0g_4, a0g_5, a0g_6, a0g_7, a0g_8, a0g_9, a0g_10, a0g_11, a0g_12, a0g_13, a0g_14, Value.ref a0_15, a0g_16, a0g_17, a0g_18, a0g_19, a0g_20, a0g_21, a0g_22, Value.ref a0_23, Value.ref a0_24, Value.int a0_25, Value.int x3, Value.int a0_27, Value.int v63na0_28, a0g_29, a0g_30, a0g_31, a0g_32, a0g_33, a0g_34, a0g_35, a0g_36, a0g_37, a0g_38, a0g_39])), (a1, .inl (ka1, 23, .inl (v63nfa1))), (a0_15, .inl (ka0_15, 156, .inl (fa0_15))), (a0_24, .inl (ka0_24, 3, .inl (fa0_24))), (a0_23, .inl (ka0_23, 3, .inl (fa0_23)))]) hP hD hCc hk1 hFc hP1 hD1 [.inl 0, .inl 1, .inl 2, .inl 3, .inl 4] (by decide +kernel) rfl
        rcases hw with hw | hw
        · subst hw
          refine lv_if_eq (tgt := 87) hx hb dX8_minuteOn_80 (by decide) (fun c80 => absurd c80 (by decide +kernel)) (fun _ => ?_)
          refine lv_iconst (v := (-1)) hx hb dX8_minuteOn_83 zk_iconst_n1 ?_
          refine lv_goto (tgt := 90) hx hb dX8_minuteOn_84 (by decide) ?_
          refine va_put (D := (dC, dI)) (ci := 8) (v := .int (-1)) (ty := .int) (C := RX8) (T := TX8) (N := 40) hx hb hts zi_X8_minuteOn_8 tyX8 tyX8_ok nmX8 hown hK hP hD hS 0 rfl rfl 27 (by decide) (hts (.fieldLink RX8 261 "WaxTurnsModel" "livedAt" "I") (zm_X8_minuteOn_r1 (List.mem_of_getElem? (i := 3) rfl))) (fun _ h9 => h9) rfl (tyX8_ok 27 (by decide)) rfl rfl (Nat.le_of_ble_eq_true rfl) dX8_minuteOn_90 (fun H locs hP hD hS => ?_)
          obtain ⟨hP, hD⟩ := zc_re (w := [(a0, .inr (8, [a0g_0, a0g_1, a0g_2, a0g_3, a0g_4, a0g_5, a0g_6, a0g_7, a0g_8, a0g_9, a0g_10, a0g_11, a0g_12, a0g_13, a0g_14, Value.ref a0_15, a0g_16, a0g_17, a0g_18, a0g_19, a0g_20, a0g_21, a0g_22, Value.ref a0_23, Value.ref a0_24, Value.int a0_25, Value.int x3, Value.int (-1), Value.int v63na0_28, a0g_29, a0g_30, a0g_31, a0g_32, a0g_33, a0g_34, a0g_35, a0g_36, a0g_37, a0g_38, a0g_39])), (a1, .inl (ka1, 23, .inl (v63nfa1))), (a0_15, .inl (ka0_15, 156, .inl (fa0_15))), (a0_24, .inl (ka0_24, 3, .inl (fa0_24))), (a0_23, .inl (ka0_23, 3, .inl (fa0_23)))]) hP hD rfl
          refine lv_aload_n hx hb dX8_minuteOn_93 rfl (lv_at hl 2 rfl) ?_
          refine lv_bipush (v := 21) hx hb dX8_minuteOn_94 zk_bipush_21 ?_
          refine lv_dup2_11 hx hb dX8_minuteOn_96 rfl rfl ?_
          refine va_iald hx hb hK hP 1 0 rfl rfl (by unfold vp_in; decide +kernel) dX8_minuteOn_97 ?_
          refine lv_topi (fun x97 ex97 => ?_)
          refine lv_iconst (v := 1) hx hb dX8_minuteOn_98 zk_iconst_1 ?_
          refine lv_iadd hx hb dX8_minuteOn_99 ?_
          refine lv_topi (fun x99 ex99 => ?_)
          refine va_iast hx hb hK hP hD hS 1 0 rfl rfl (by unfold vp_in; decide +kernel) dX8_minuteOn_100 (fun H locs hP hD hS => ?_)
          obtain ⟨f100, ef100⟩ : ∃ g9 : Nat → Int32, g9 = upd v63nfa1 (21 : Int32).toNatClampNeg x99 := ⟨_, rfl⟩
          rw [← ef100] at hP hD
          obtain ⟨hP, hD⟩ := zc_re (w := [(a0, .inr (8, [a0g_0, a0g_1, a0g_2, a0g_3, a0g_4, a0g_5, a0g_6, a0g_7, a0g_8, a0g_9, a0g_10, a0g_11, a0g_12, a0g_13, a0g_14, Value.ref a0_15, a0g_16, a0g_17, a0g_18, a0g_19, a0g_20, a0g_21, a0g_22, Value.ref a0_23, Value.ref a0_24, Value.int a0_25, Value.int x3, Value.int (-1), Value.int v63na0_28, a0g_29, a0g_30, a0g_31, a0g_32, a0g_33, a0g_34, a0g_35, a0g_36, a0g_37, a0g_38, a0g_39])), (a1, .inl (ka1, 23, .inl (f100))), (a0_15, .inl (ka0_15, 156, .inl (fa0_15))), (a0_24, .inl (ka0_24, 3, .inl (fa0_24))), (a0_23, .inl (ka0_23, 3, .inl (fa0_23)))]) hP hD rfl
          have bf100 : ((∀ k : Nat, 0 ≤ k → k ≤ 8 → (0 : Int) ≤ (f100 k).toInt ∧ (f100 k).toInt ≤ 8) ∧ (∀ k : Nat, 19 ≤ k → k ≤ 19 → (0 : Int) ≤ (f100 k).toInt ∧ (f100 k).toInt ≤ 8) ∧ (∀ k : Nat, 20 ≤ k → k ≤ 20 → (0 : Int) ≤ (f100 k).toInt ∧ (f100 k).toInt ≤ 19)) := by rw [ef100]; exact ⟨ai_updO bv63nfa1.1 _ (Or.inr (ai_ngt_of zq162 (by decide) (by decide))), ai_updO bv63nfa1.2.1 _ (Or.inr (ai_ngt_of zq162 (by decide) (by decide))), ai_updO bv63nfa1.2.2 _ (Or.inr (ai_ngt_of zq162 (by decide) (by decide)))⟩
          have kf100_21 : f100 21 = x99 := by rw [ef100]; exact ai_k1 (by decide +kernel)
          refine lv_aload_n hx hb dX8_minuteOn_101 rfl (lv_at hl 2 rfl) ?_
          refine lv_bipush (v := 20) hx hb dX8_minuteOn_102 zk_bipush_20 ?_
          refine lv_dup2_11 hx hb dX8_minuteOn_104 rfl rfl ?_
          refine va_iald hx hb hK hP 1 0 rfl rfl (by unfold vp_in; decide +kernel) dX8_minuteOn_105 ?_
          refine lv_topi (fun x105 ex105 => ?_)
          have bx105 : (0 : Int) ≤ x105.toInt ∧ x105.toInt ≤ 19 := by rw [ex105]; exact ai_rd bf100.2.2 zq153 zq154 (by decide) (by decide) (by decide)
          refine lv_iconst (v := 1) hx hb dX8_minuteOn_106 zk_iconst_1 ?_
          refine lv_iadd hx hb dX8_minuteOn_107 ?_
          refine lv_topi (fun x107 ex107 => ?_)
          have qx107 : x107.toInt = x105.toInt + (1 : Int32).toInt := ai_add ex107 ⟨bx105.1, bx105.2⟩ ⟨zq1, zq0⟩ (by decide) (by decide)
          have bx107 : (1 : Int) ≤ x107.toInt ∧ x107.toInt ≤ 20 := ⟨by rw [qx107]; exact Int.add_le_add bx105.1 zq1, by rw [qx107]; exact Int.add_le_add bx105.2 zq0⟩
          have wx107 : x107.toInt = x105.toInt + 1 := qx107
          refine va_iast hx hb hK hP hD hS 1 0 rfl rfl (by unfold vp_in; decide +kernel) dX8_minuteOn_108 (fun H locs hP hD hS => ?_)
          obtain ⟨f108, ef108⟩ : ∃ g9 : Nat → Int32, g9 = upd f100 (20 : Int32).toNatClampNeg x107 := ⟨_, rfl⟩
          rw [← ef108] at hP hD
          obtain ⟨hP, hD⟩ := zc_re (w := [(a0, .inr (8, [a0g_0, a0g_1, a0g_2, a0g_3, a0g_4, a0g_5, a0g_6, a0g_7, a0g_8, a0g_9, a0g_10, a0g_11, a0g_12, a0g_13, a0g_14, Value.ref a0_15, a0g_16, a0g_17, a0g_18, a0g_19, a0g_20, a0g_21, a0g_22, Value.ref a0_23, Value.ref a0_24, Value.int a0_25, Value.int x3, Value.int (-1), Value.int v63na0_28, a0g_29, a0g_30, a0g_31, a0g_32, a0g_33, a0g_34, a0g_35, a0g_36, a0g_37, a0g_38, a0g_39])), (a1, .inl (ka1, 23, .inl (f108))), (a0_15, .inl (ka0_15, 156, .inl (fa0_15))), (a0_24, .inl (ka0_24, 3, .inl (fa0_24))), (a0_23, .inl (ka0_23, 3, .inl (fa0_23)))]) hP hD rfl
          have bf108 : ((∀ k : Nat, 0 ≤ k → k ≤ 8 → (0 : Int) ≤ (f108 k).toInt ∧ (f108 k).toInt ≤ 8) ∧ (∀ k : Nat, 19 ≤ k → k ≤ 19 → (0 : Int) ≤ (f108 k).toInt ∧ (f108 k).toInt ≤ 8) ∧ True) := by rw [ef108]; exact ⟨ai_updO bf100.1 _ (Or.inr (ai_ngt_of zq153 (by decide) (by decide))), ai_updO bf100.2.1 _ (Or.inr (ai_ngt_of zq153 (by decide) (by decide))), trivial⟩
          have kf108_20 : f108 20 = x107 := by rw [ef108]; exact ai_k1 (by decide +kernel)
          have kf108_21 : f108 21 = x99 := by rw [ef108]; exact ai_k2 (by decide +kernel) kf100_21
          refine lv_aload_n hx hb dX8_minuteOn_109 rfl (lv_at hl 2 rfl) ?_
          refine lv_bipush (v := 20) hx hb dX8_minuteOn_110 zk_bipush_20 ?_
          refine va_iald hx hb hK hP 1 0 rfl rfl (by unfold vp_in; decide +kernel) dX8_minuteOn_112 ?_
          refine ax_ti x107 ((congrArg f108 (by decide +kernel : (20 : Int32).toNatClampNeg = 20)).trans kf108_20) ?_
          refine lv_aload_n hx hb dX8_minuteOn_113 rfl (lv_at hl 1 rfl) ?_
          refine va_get (D := (dC, dI)) (ci := 8) (v := .ref a0_15) (C := RX8) (T := TX8) (N := 40) hx hb hts zi_X8_minuteOn_8 hown hK hP 0 rfl rfl 15 (by decide) (hts (.fieldLink RX8 20 "WaxTurnsModel" "\x72" "[I") (zm_X8_minuteOn_r1 (List.mem_of_getElem? (i := 1) rfl))) (fun _ h9 => h9) rfl dX8_minuteOn_114 ?_
          refine lv_iconst (v := 1) hx hb dX8_minuteOn_117 zk_iconst_1 ?_
          refine va_iald hx hb hK hP 2 1 rfl rfl (by unfold vp_in; decide +kernel) dX8_minuteOn_118 ?_
          refine lv_topi (fun x118 ex118 => ?_)
          have bx118 : (1 : Int) ≤ x118.toInt ∧ x118.toInt ≤ 20 := by rw [ex118]; exact ai_rd bfa0_15.2.1 zq1 zq0 (by decide) (by decide) (by decide)
          refine lv_icmp_ge (tgt := 123) hx hb dX8_minuteOn_119 (by decide) (fun c119 => ?_) (fun c119 => ?_)
          · have gc119 := ai_le c119
            have u119t_x118 : x118.toInt ≤ (20 : Int) := bx118.2
            have l119t_x107 : (1 : Int) ≤ x107.toInt := bx107.1
            refine lv_aload_n hx hb dX8_minuteOn_123 rfl (lv_at hl 2 rfl) ?_
            refine lv_bipush (v := 20) hx hb dX8_minuteOn_124 zk_bipush_20 ?_
            refine lv_iconst (v := 0) hx hb dX8_minuteOn_126 zk_iconst_0 ?_
            refine va_iast hx hb hK hP hD hS 1 0 rfl rfl (by unfold vp_in; decide +kernel) dX8_minuteOn_127 (fun H locs hP hD hS => ?_)
            obtain ⟨f127, ef127⟩ : ∃ g9 : Nat → Int32, g9 = upd f108 (20 : Int32).toNatClampNeg (0 : Int32) := ⟨_, rfl⟩
            rw [← ef127] at hP hD
            obtain ⟨hP, hD⟩ := zc_re (w := [(a0, .inr (8, [a0g_0, a0g_1, a0g_2, a0g_3, a0g_4, a0g_5, a0g_6, a0g_7, a0g_8, a0g_9, a0g_10, a0g_11, a0g_12, a0g_13, a0g_14, Value.ref a0_15, a0g_16, a0g_17, a0g_18, a0g_19, a0g_20, a0g_21, a0g_22, Value.ref a0_23, Value.ref a0_24, Value.int a0_25, Value.int x3, Value.int (-1), Value.int v63na0_28, a0g_29, a0g_30, a0g_31, a0g_32, a0g_33, a0g_34, a0g_35, a0g_36, a0g_37, a0g_38, a0g_39])), (a1, .inl (ka1, 23, .inl (f127))), (a0_15, .inl (ka0_15, 156, .inl (fa0_15))), (a0_24, .inl (ka0_24, 3, .inl (fa0_24))), (a0_23, .inl (ka0_23, 3, .inl (fa0_23)))]) hP hD rfl
            have bf127 : ((∀ k : Nat, 0 ≤ k → k ≤ 8 → (0 : Int) ≤ (f127 k).toInt ∧ (f127 k).toInt ≤ 8) ∧ (∀ k : Nat, 19 ≤ k → k ≤ 19 → (0 : Int) ≤ (f127 k).toInt ∧ (f127 k).toInt ≤ 8) ∧ (∀ k : Nat, 20 ≤ k → k ≤ 20 → (0 : Int) ≤ (f127 k).toInt ∧ (f127 k).toInt ≤ 19)) := by rw [ef127]; exact ⟨ai_updO bf108.1 _ (Or.inr (ai_ngt_of zq153 (by decide) (by decide))), ai_updO bf108.2.1 _ (Or.inr (ai_ngt_of zq153 (by decide) (by decide))), ai_new (by decide +kernel) ⟨zq5, (Int.le_trans zq6 zq163)⟩⟩
            have kf127_20 : f127 20 = 0 := by rw [ef127]; exact ai_k1 (by decide +kernel)
            have kf127_21 : f127 21 = x99 := by rw [ef127]; exact ai_k2 (by decide +kernel) kf108_21
            refine lv_aload_n hx hb dX8_minuteOn_128 rfl (lv_at hl 2 rfl) ?_
            refine lv_bipush (v := 19) hx hb dX8_minuteOn_129 zk_bipush_19 ?_
            refine lv_aload_n hx hb dX8_minuteOn_131 rfl (lv_at hl 1 rfl) ?_
            refine lv_iload_n hx hb dX8_minuteOn_132 rfl (lv_at hl 0 rfl) ?_
            obtain ⟨hPc, hDc, hFc, hCc⟩ := zc_cut (wc := [(a0, .inr (8, [a0g_0, a0g_1, a0g_2, a0g_3, a0g_4, a0g_5, a0g_6, a0g_7, a0g_8, a0g_9, a0g_10, a0g_11, a0g_12, a0g_13, a0g_14, Value.ref a0_15, a0g_16, a0g_17, a0g_18, a0g_19, a0g_20, a0g_21, a0g_22, Value.ref a0_23, Value.ref a0_24, Value.int a0_25, Value.int x3, Value.int (-1), Value.int v63na0_28, a0g_29, a0g_30, a0g_31, a0g_32, a0g_33, a0g_34, a0g_35, a0g_36, a0g_37, a0g_38, a0g_39])), (a0_15, .inl (ka0_15, 156, .inl (fa0_15)))]) hP hD hS hA [0, 2] (by decide +kernel) rfl
            have hKc := hK.sub (tys' := [(ka0_15, .int)]) [1] rfl
            refine va_calli (va_runV (As := [.int x3]) (rest := [.int 19, .ref a1]) ⟨hx, hb, hml, hown, hts⟩ (c_X8_nextOf l dC dI H.size a0 x3 a0g_0 a0g_1 a0g_2 a0g_3 a0g_4 a0g_5 a0g_6 a0g_7 a0g_8 a0g_9 a0g_10 a0g_11 a0g_12 a0g_13 a0g_14 a0g_16 a0g_17 a0g_18 a0g_19 a0g_20 a0g_21 a0g_22 (Value.ref a0_23) (Value.ref a0_24) (Value.int a0_25) (Value.int x3) (Value.int (-1)) (Value.int v63na0_28) a0g_29 a0g_30 a0g_31 a0g_32 a0g_33 a0g_34 a0g_35 a0g_36 a0g_37 a0g_38 a0g_39 a0_15 ka0_15 fa0_15 bx3.1 bx3.2 bfa0_15) (cwV 1 hts gX8_minuteOn_X8_nextOf rfl rfl rfl zd_X8_nextOf ⟨Nat.le_of_ble_eq_true rfl, Nat.le_of_ble_eq_true rfl⟩) ⟨ax_blind (fun _ _ _ _ _ => trivial), zr_8 hKc hPc (q0 := 0) rfl, ax_pre hPc hKc hDc (fun _ _ => trivial)⟩ rfl rfl hl.1 rfl (lv_room (Nat.le_of_ble_eq_true rfl)) dX8_minuteOn_133 ⟨Nat.le_of_ble_eq_true rfl, Nat.le_of_ble_eq_true rfl⟩) hS (fun q _ h => hFc q h) hFc (fun r133 u t H locs ht hvm hw hB hz1 hk1 hS => ?_)
            obtain ⟨hP1, hK1, hD1⟩ := hB
            rw [ht] at hP1
            obtain ⟨hP, hD⟩ := zc_back (w := [(a0, .inr (8, [a0g_0, a0g_1, a0g_2, a0g_3, a0g_4, a0g_5, a0g_6, a0g_7, a0g_8, a0g_9, a0g_10, a0g_11, a0g_12, a0g_13, a0g_14, Value.ref a0_15, a0g_16, a0g_17, a0g_18, a0g_19, a0g_20, a0g_21, a0g_22, Value.ref a0_23, Value.ref a0_24, Value.int a0_25, Value.int x3, Value.int (-1), Value.int v63na0_28, a0g_29, a0g_30, a0g_31, a0g_32, a0g_33, a0g_34, a0g_35, a0g_36, a0g_37, a0g_38, a0g_39])), (a1, .inl (ka1, 23, .inl (f127))), (a0_15, .inl (ka0_15, 156, .inl (fa0_15))), (a0_24, .inl (ka0_24, 3, .inl (fa0_24))), (a0_23, .inl (ka0_23, 3, .inl (fa0_23)))]) hP hD hCc hk1 hFc hP1 hD1 [.inr 0, .inl 1, .inr 1, .inl 3, .inl 4] (by decide +kernel) rfl
            have hw : (0 : Int) ≤ r133.toInt ∧ r133.toInt ≤ (8 : Int) := hw
            obtain ⟨h133_0, h133_1⟩ := hw
            refine va_iast hx hb hK hP hD hS 1 0 rfl rfl (by unfold vp_in; decide +kernel) dX8_minuteOn_136 (fun H locs hP hD hS => ?_)
            obtain ⟨f136, ef136⟩ : ∃ g9 : Nat → Int32, g9 = upd f127 (19 : Int32).toNatClampNeg r133 := ⟨_, rfl⟩
            rw [← ef136] at hP hD
            obtain ⟨hP, hD⟩ := zc_re (w := [(a0, .inr (8, [a0g_0, a0g_1, a0g_2, a0g_3, a0g_4, a0g_5, a0g_6, a0g_7, a0g_8, a0g_9, a0g_10, a0g_11, a0g_12, a0g_13, a0g_14, Value.ref a0_15, a0g_16, a0g_17, a0g_18, a0g_19, a0g_20, a0g_21, a0g_22, Value.ref a0_23, Value.ref a0_24, Value.int a0_25, Value.int x3, Value.int (-1), Value.int v63na0_28, a0g_29, a0g_30, a0g_31, a0g_32, a0g_33, a0g_34, a0g_35, a0g_36, a0g_37, a0g_38, a0g_39])), (a1, .inl (ka1, 23, .inl (f136))), (a0_15, .inl (ka0_15, 156, .inl (fa0_15))), (a0_24, .inl (ka0_24, 3, .inl (fa0_24))), (a0_23, .inl (ka0_23, 3, .inl (fa0_23)))]) hP hD rfl
            have bf136 : ((∀ k : Nat, 0 ≤ k → k ≤ 8 → (0 : Int) ≤ (f136 k).toInt ∧ (f136 k).toInt ≤ 8) ∧ (∀ k : Nat, 19 ≤ k → k ≤ 19 → (0 : Int) ≤ (f136 k).toInt ∧ (f136 k).toInt ≤ 8) ∧ (∀ k : Nat, 20 ≤ k → k ≤ 20 → (0 : Int) ≤ (f136 k).toInt ∧ (f136 k).toInt ≤ 19)) := by rw [ef136]; exact ⟨ai_updO bf127.1 _ (Or.inr (ai_ngt_of zq160 (by decide) (by decide))), ai_updS bf127.2.1 _ ⟨h133_0, h133_1⟩, ai_updO bf127.2.2 _ (Or.inl (ai_nlt_of zq160 zq161 (by decide) (by decide)))⟩
            have kf136_19 : f136 19 = r133 := by rw [ef136]; exact ai_k1 (by decide +kernel)
            have kf136_20 : f136 20 = 0 := by rw [ef136]; exact ai_k2 (by decide +kernel) kf127_20
            have kf136_21 : f136 21 = x99 := by rw [ef136]; exact ai_k2 (by decide +kernel) kf127_21
            exact W.vret hx hb hr (fun t ht hW => ⟨⟨(), rfl, trivial, x3, (-1), v63na0_28, f136, bf136, by rw [ht]; exact hP, va_K.moved hW.alike hK, hD⟩, hS.F ht⟩) hS.2.2 dX8_minuteOn_137
          · have gc119 := ai_nle c119
            have u119f_x107 : x107.toInt ≤ (19 : Int) := ai_lthi gc119 bx118.2
            have u119f_x105 : x105.toInt ≤ (18 : Int) := by have h1 := wx107; have h2 := u119f_x107; omega
            have l119f_x118 : (2 : Int) ≤ x118.toInt := ai_ltlo gc119 bx107.1
            exact W.vret hx hb hr (fun t ht hW => ⟨⟨(), rfl, trivial, x3, (-1), v63na0_28, f108, ⟨bf108.1, bf108.2.1, ai_one (by rw [kf108_20]; exact ⟨(Int.le_trans zq4 bx107.1), u119f_x107⟩)⟩, by rw [ht]; exact hP, va_K.moved hW.alike hK, hD⟩, hS.F ht⟩) hS.2.2 dX8_minuteOn_122
        · subst hw
          refine lv_if_eq (tgt := 87) hx hb dX8_minuteOn_80 (by decide) (fun _ => ?_) (fun c80 => absurd (by decide +kernel) c80)
          refine lv_aload_n hx hb dX8_minuteOn_87 rfl (lv_at hl 2 rfl) ?_
          refine lv_iload_n hx hb dX8_minuteOn_88 rfl (lv_at hl 0 rfl) ?_
          refine va_iald hx hb hK hP 1 0 rfl rfl (ai_in bx3.1 bx3.2 (by decide) (by decide)) dX8_minuteOn_89 ?_
          refine lv_topi (fun x89 ex89 => ?_)
          have bx89 : (0 : Int) ≤ x89.toInt ∧ x89.toInt ≤ 8 := by rw [ex89]; exact ai_rd bv63nfa1.1 bx3.1 bx3.2 (by decide) (by decide) (by decide)
          refine va_put (D := (dC, dI)) (ci := 8) (v := .int x89) (ty := .int) (C := RX8) (T := TX8) (N := 40) hx hb hts zi_X8_minuteOn_8 tyX8 tyX8_ok nmX8 hown hK hP hD hS 0 rfl rfl 27 (by decide) (hts (.fieldLink RX8 261 "WaxTurnsModel" "livedAt" "I") (zm_X8_minuteOn_r1 (List.mem_of_getElem? (i := 3) rfl))) (fun _ h9 => h9) rfl (tyX8_ok 27 (by decide)) rfl rfl (Nat.le_of_ble_eq_true rfl) dX8_minuteOn_90 (fun H locs hP hD hS => ?_)
          obtain ⟨hP, hD⟩ := zc_re (w := [(a0, .inr (8, [a0g_0, a0g_1, a0g_2, a0g_3, a0g_4, a0g_5, a0g_6, a0g_7, a0g_8, a0g_9, a0g_10, a0g_11, a0g_12, a0g_13, a0g_14, Value.ref a0_15, a0g_16, a0g_17, a0g_18, a0g_19, a0g_20, a0g_21, a0g_22, Value.ref a0_23, Value.ref a0_24, Value.int a0_25, Value.int x3, Value.int x89, Value.int v63na0_28, a0g_29, a0g_30, a0g_31, a0g_32, a0g_33, a0g_34, a0g_35, a0g_36, a0g_37, a0g_38, a0g_39])), (a1, .inl (ka1, 23, .inl (v63nfa1))), (a0_15, .inl (ka0_15, 156, .inl (fa0_15))), (a0_24, .inl (ka0_24, 3, .inl (fa0_24))), (a0_23, .inl (ka0_23, 3, .inl (fa0_23)))]) hP hD rfl
          refine lv_aload_n hx hb dX8_minuteOn_93 rfl (lv_at hl 2 rfl) ?_
          refine lv_bipush (v := 21) hx hb dX8_minuteOn_94 zk_bipush_21 ?_
          refine lv_dup2_11 hx hb dX8_minuteOn_96 rfl rfl ?_
          refine va_iald hx hb hK hP 1 0 rfl rfl (by unfold vp_in; decide +kernel) dX8_minuteOn_97 ?_
          refine lv_topi (fun x97 ex97 => ?_)
          refine lv_iconst (v := 1) hx hb dX8_minuteOn_98 zk_iconst_1 ?_
          refine lv_iadd hx hb dX8_minuteOn_99 ?_
          refine lv_topi (fun x99 ex99 => ?_)
          refine va_iast hx hb hK hP hD hS 1 0 rfl rfl (by unfold vp_in; decide +kernel) dX8_minuteOn_100 (fun H locs hP hD hS => ?_)
          obtain ⟨f100, ef100⟩ : ∃ g9 : Nat → Int32, g9 = upd v63nfa1 (21 : Int32).toNatClampNeg x99 := ⟨_, rfl⟩
          rw [← ef100] at hP hD
          obtain ⟨hP, hD⟩ := zc_re (w := [(a0, .inr (8, [a0g_0, a0g_1, a0g_2, a0g_3, a0g_4, a0g_5, a0g_6, a0g_7, a0g_8, a0g_9, a0g_10, a0g_11, a0g_12, a0g_13, a0g_14, Value.ref a0_15, a0g_16, a0g_17, a0g_18, a0g_19, a0g_20, a0g_21, a0g_22, Value.ref a0_23, Value.ref a0_24, Value.int a0_25, Value.int x3, Value.int x89, Value.int v63na0_28, a0g_29, a0g_30, a0g_31, a0g_32, a0g_33, a0g_34, a0g_35, a0g_36, a0g_37, a0g_38, a0g_39])), (a1, .inl (ka1, 23, .inl (f100))), (a0_15, .inl (ka0_15, 156, .inl (fa0_15))), (a0_24, .inl (ka0_24, 3, .inl (fa0_24))), (a0_23, .inl (ka0_23, 3, .inl (fa0_23)))]) hP hD rfl
          have bf100 : ((∀ k : Nat, 0 ≤ k → k ≤ 8 → (0 : Int) ≤ (f100 k).toInt ∧ (f100 k).toInt ≤ 8) ∧ (∀ k : Nat, 19 ≤ k → k ≤ 19 → (0 : Int) ≤ (f100 k).toInt ∧ (f100 k).toInt ≤ 8) ∧ (∀ k : Nat, 20 ≤ k → k ≤ 20 → (0 : Int) ≤ (f100 k).toInt ∧ (f100 k).toInt ≤ 19)) := by rw [ef100]; exact ⟨ai_updO bv63nfa1.1 _ (Or.inr (ai_ngt_of zq162 (by decide) (by decide))), ai_updO bv63nfa1.2.1 _ (Or.inr (ai_ngt_of zq162 (by decide) (by decide))), ai_updO bv63nfa1.2.2 _ (Or.inr (ai_ngt_of zq162 (by decide) (by decide)))⟩
          have kf100_21 : f100 21 = x99 := by rw [ef100]; exact ai_k1 (by decide +kernel)
          refine lv_aload_n hx hb dX8_minuteOn_101 rfl (lv_at hl 2 rfl) ?_
          refine lv_bipush (v := 20) hx hb dX8_minuteOn_102 zk_bipush_20 ?_
          refine lv_dup2_11 hx hb dX8_minuteOn_104 rfl rfl ?_
          refine va_iald hx hb hK hP 1 0 rfl rfl (by unfold vp_in; decide +kernel) dX8_minuteOn_105 ?_
          refine lv_topi (fun x105 ex105 => ?_)
          have bx105 : (0 : Int) ≤ x105.toInt ∧ x105.toInt ≤ 19 := by rw [ex105]; exact ai_rd bf100.2.2 zq153 zq154 (by decide) (by decide) (by decide)
          refine lv_iconst (v := 1) hx hb dX8_minuteOn_106 zk_iconst_1 ?_
          refine lv_iadd hx hb dX8_minuteOn_107 ?_
          refine lv_topi (fun x107 ex107 => ?_)
          have qx107 : x107.toInt = x105.toInt + (1 : Int32).toInt := ai_add ex107 ⟨bx105.1, bx105.2⟩ ⟨zq1, zq0⟩ (by decide) (by decide)
          have bx107 : (1 : Int) ≤ x107.toInt ∧ x107.toInt ≤ 20 := ⟨by rw [qx107]; exact Int.add_le_add bx105.1 zq1, by rw [qx107]; exact Int.add_le_add bx105.2 zq0⟩
          have wx107 : x107.toInt = x105.toInt + 1 := qx107
          refine va_iast hx hb hK hP hD hS 1 0 rfl rfl (by unfold vp_in; decide +kernel) dX8_minuteOn_108 (fun H locs hP hD hS => ?_)
          obtain ⟨f108, ef108⟩ : ∃ g9 : Nat → Int32, g9 = upd f100 (20 : Int32).toNatClampNeg x107 := ⟨_, rfl⟩
          rw [← ef108] at hP hD
          obtain ⟨hP, hD⟩ := zc_re (w := [(a0, .inr (8, [a0g_0, a0g_1, a0g_2, a0g_3, a0g_4, a0g_5, a0g_6, a0g_7, a0g_8, a0g_9, a0g_10, a0g_11, a0g_12, a0g_13, a0g_14, Value.ref a0_15, a0g_16, a0g_17, a0g_18, a0g_19, a0g_20, a0g_21, a0g_22, Value.ref a0_23, Value.ref a0_24, Value.int a0_25, Value.int x3, Value.int x89, Value.int v63na0_28, a0g_29, a0g_30, a0g_31, a0g_32, a0g_33, a0g_34, a0g_35, a0g_36, a0g_37, a0g_38, a0g_39])), (a1, .inl (ka1, 23, .inl (f108))), (a0_15, .inl (ka0_15, 156, .inl (fa0_15))), (a0_24, .inl (ka0_24, 3, .inl (fa0_24))), (a0_23, .inl (ka0_23, 3, .inl (fa0_23)))]) hP hD rfl
          have bf108 : ((∀ k : Nat, 0 ≤ k → k ≤ 8 → (0 : Int) ≤ (f108 k).toInt ∧ (f108 k).toInt ≤ 8) ∧ (∀ k : Nat, 19 ≤ k → k ≤ 19 → (0 : Int) ≤ (f108 k).toInt ∧ (f108 k).toInt ≤ 8) ∧ True) := by rw [ef108]; exact ⟨ai_updO bf100.1 _ (Or.inr (ai_ngt_of zq153 (by decide) (by decide))), ai_updO bf100.2.1 _ (Or.inr (ai_ngt_of zq153 (by decide) (by decide))), trivial⟩
          have kf108_20 : f108 20 = x107 := by rw [ef108]; exact ai_k1 (by decide +kernel)
          have kf108_21 : f108 21 = x99 := by rw [ef108]; exact ai_k2 (by decide +kernel) kf100_21
          refine lv_aload_n hx hb dX8_minuteOn_109 rfl (lv_at hl 2 rfl) ?_
          refine lv_bipush (v := 20) hx hb dX8_minuteOn_110 zk_bipush_20 ?_
          refine va_iald hx hb hK hP 1 0 rfl rfl (by unfold vp_in; decide +kernel) dX8_minuteOn_112 ?_
          refine ax_ti x107 ((congrArg f108 (by decide +kernel : (20 : Int32).toNatClampNeg = 20)).trans kf108_20) ?_
          refine lv_aload_n hx hb dX8_minuteOn_113 rfl (lv_at hl 1 rfl) ?_
          refine va_get (D := (dC, dI)) (ci := 8) (v := .ref a0_15) (C := RX8) (T := TX8) (N := 40) hx hb hts zi_X8_minuteOn_8 hown hK hP 0 rfl rfl 15 (by decide) (hts (.fieldLink RX8 20 "WaxTurnsModel" "\x72" "[I") (zm_X8_minuteOn_r1 (List.mem_of_getElem? (i := 1) rfl))) (fun _ h9 => h9) rfl dX8_minuteOn_114 ?_
          refine lv_iconst (v := 1) hx hb dX8_minuteOn_117 zk_iconst_1 ?_
          refine va_iald hx hb hK hP 2 1 rfl rfl (by unfold vp_in; decide +kernel) dX8_minuteOn_118 ?_
          refine lv_topi (fun x118 ex118 => ?_)
          have bx118 : (1 : Int) ≤ x118.toInt ∧ x118.toInt ≤ 20 := by rw [ex118]; exact ai_rd bfa0_15.2.1 zq1 zq0 (by decide) (by decide) (by decide)
          refine lv_icmp_ge (tgt := 123) hx hb dX8_minuteOn_119 (by decide) (fun c119 => ?_) (fun c119 => ?_)
          · have gc119 := ai_le c119
            have u119t_x118 : x118.toInt ≤ (20 : Int) := bx118.2
            have l119t_x107 : (1 : Int) ≤ x107.toInt := bx107.1
            refine lv_aload_n hx hb dX8_minuteOn_123 rfl (lv_at hl 2 rfl) ?_
            refine lv_bipush (v := 20) hx hb dX8_minuteOn_124 zk_bipush_20 ?_
            refine lv_iconst (v := 0) hx hb dX8_minuteOn_126 zk_iconst_0 ?_
            refine va_iast hx hb hK hP hD hS 1 0 rfl rfl (by unfold vp_in; decide +kernel) dX8_minuteOn_127 (fun H locs hP hD hS => ?_)
            obtain ⟨f127, ef127⟩ : ∃ g9 : Nat → Int32, g9 = upd f108 (20 : Int32).toNatClampNeg (0 : Int32) := ⟨_, rfl⟩
            rw [← ef127] at hP hD
            obtain ⟨hP, hD⟩ := zc_re (w := [(a0, .inr (8, [a0g_0, a0g_1, a0g_2, a0g_3, a0g_4, a0g_5, a0g_6, a0g_7, a0g_8, a0g_9, a0g_10, a0g_11, a0g_12, a0g_13, a0g_14, Value.ref a0_15, a0g_16, a0g_17, a0g_18, a0g_19, a0g_20, a0g_21, a0g_22, Value.ref a0_23, Value.ref a0_24, Value.int a0_25, Value.int x3, Value.int x89, Value.int v63na0_28, a0g_29, a0g_30, a0g_31, a0g_32, a0g_33, a0g_34, a0g_35, a0g_36, a0g_37, a0g_38, a0g_39])), (a1, .inl (ka1, 23, .inl (f127))), (a0_15, .inl (ka0_15, 156, .inl (fa0_15))), (a0_24, .inl (ka0_24, 3, .inl (fa0_24))), (a0_23, .inl (ka0_23, 3, .inl (fa0_23)))]) hP hD rfl
            have bf127 : ((∀ k : Nat, 0 ≤ k → k ≤ 8 → (0 : Int) ≤ (f127 k).toInt ∧ (f127 k).toInt ≤ 8) ∧ (∀ k : Nat, 19 ≤ k → k ≤ 19 → (0 : Int) ≤ (f127 k).toInt ∧ (f127 k).toInt ≤ 8) ∧ (∀ k : Nat, 20 ≤ k → k ≤ 20 → (0 : Int) ≤ (f127 k).toInt ∧ (f127 k).toInt ≤ 19)) := by rw [ef127]; exact ⟨ai_updO bf108.1 _ (Or.inr (ai_ngt_of zq153 (by decide) (by decide))), ai_updO bf108.2.1 _ (Or.inr (ai_ngt_of zq153 (by decide) (by decide))), ai_new (by decide +kernel) ⟨zq5, (Int.le_trans zq6 zq163)⟩⟩
            have kf127_20 : f127 20 = 0 := by rw [ef127]; exact ai_k1 (by decide +kernel)
            have kf127_21 : f127 21 = x99 := by rw [ef127]; exact ai_k2 (by decide +kernel) kf108_21
            refine lv_aload_n hx hb dX8_minuteOn_128 rfl (lv_at hl 2 rfl) ?_
            refine lv_bipush (v := 19) hx hb dX8_minuteOn_129 zk_bipush_19 ?_
            refine lv_aload_n hx hb dX8_minuteOn_131 rfl (lv_at hl 1 rfl) ?_
            refine lv_iload_n hx hb dX8_minuteOn_132 rfl (lv_at hl 0 rfl) ?_
            obtain ⟨hPc, hDc, hFc, hCc⟩ := zc_cut (wc := [(a0, .inr (8, [a0g_0, a0g_1, a0g_2, a0g_3, a0g_4, a0g_5, a0g_6, a0g_7, a0g_8, a0g_9, a0g_10, a0g_11, a0g_12, a0g_13, a0g_14, Value.ref a0_15, a0g_16, a0g_17, a0g_18, a0g_19, a0g_20, a0g_21, a0g_22, Value.ref a0_23, Value.ref a0_24, Value.int a0_25, Value.int x3, Value.int x89, Value.int v63na0_28, a0g_29, a0g_30, a0g_31, a0g_32, a0g_33, a0g_34, a0g_35, a0g_36, a0g_37, a0g_38, a0g_39])), (a0_15, .inl (ka0_15, 156, .inl (fa0_15)))]) hP hD hS hA [0, 2] (by decide +kernel) rfl
            have hKc := hK.sub (tys' := [(ka0_15, .int)]) [1] rfl
            refine va_calli (va_runV (As := [.int x3]) (rest := [.int 19, .ref a1]) ⟨hx, hb, hml, hown, hts⟩ (c_X8_nextOf l dC dI H.size a0 x3 a0g_0 a0g_1 a0g_2 a0g_3 a0g_4 a0g_5 a0g_6 a0g_7 a0g_8 a0g_9 a0g_10 a0g_11 a0g_12 a0g_13 a0g_14 a0g_16 a0g_17 a0g_18 a0g_19 a0g_20 a0g_21 a0g_22 (Value.ref a0_23) (Value.ref a0_24) (Value.int a0_25) (Value.int x3) (Value.int x89) (Value.int v63na0_28) a0g_29 a0g_30 a0g_31 a0g_32 a0g_33 a0g_34 a0g_35 a0g_36 a0g_37 a0g_38 a0g_39 a0_15 ka0_15 fa0_15 bx3.1 bx3.2 bfa0_15) (cwV 1 hts gX8_minuteOn_X8_nextOf rfl rfl rfl zd_X8_nextOf ⟨Nat.le_of_ble_eq_true rfl, Nat.le_of_ble_eq_true rfl⟩) ⟨ax_blind (fun _ _ _ _ _ => trivial), zr_8 hKc hPc (q0 := 0) rfl, ax_pre hPc hKc hDc (fun _ _ => trivial)⟩ rfl rfl hl.1 rfl (lv_room (Nat.le_of_ble_eq_true rfl)) dX8_minuteOn_133 ⟨Nat.le_of_ble_eq_true rfl, Nat.le_of_ble_eq_true rfl⟩) hS (fun q _ h => hFc q h) hFc (fun r133 u t H locs ht hvm hw hB hz1 hk1 hS => ?_)
            obtain ⟨hP1, hK1, hD1⟩ := hB
            rw [ht] at hP1
            obtain ⟨hP, hD⟩ := zc_back (w := [(a0, .inr (8, [a0g_0, a0g_1, a0g_2, a0g_3, a0g_4, a0g_5, a0g_6, a0g_7, a0g_8, a0g_9, a0g_10, a0g_11, a0g_12, a0g_13, a0g_14, Value.ref a0_15, a0g_16, a0g_17, a0g_18, a0g_19, a0g_20, a0g_21, a0g_22, Value.ref a0_23, Value.ref a0_24, Value.int a0_25, Value.int x3, Value.int x89, Value.int v63na0_28, a0g_29, a0g_30, a0g_31, a0g_32, a0g_33, a0g_34, a0g_35, a0g_36, a0g_37, a0g_38, a0g_39])), (a1, .inl (ka1, 23, .inl (f127))), (a0_15, .inl (ka0_15, 156, .inl (fa0_15))), (a0_24, .inl (ka0_24, 3, .inl (fa0_24))), (a0_23, .inl (ka0_23, 3, .inl (fa0_23)))]) hP hD hCc hk1 hFc hP1 hD1 [.inr 0, .inl 1, .inr 1, .inl 3, .inl 4] (by decide +kernel) rfl
            have hw : (0 : Int) ≤ r133.toInt ∧ r133.toInt ≤ (8 : Int) := hw
            obtain ⟨h133_0, h133_1⟩ := hw
            refine va_iast hx hb hK hP hD hS 1 0 rfl rfl (by unfold vp_in; decide +kernel) dX8_minuteOn_136 (fun H locs hP hD hS => ?_)
            obtain ⟨f136, ef136⟩ : ∃ g9 : Nat → Int32, g9 = upd f127 (19 : Int32).toNatClampNeg r133 := ⟨_, rfl⟩
            rw [← ef136] at hP hD
            obtain ⟨hP, hD⟩ := zc_re (w := [(a0, .inr (8, [a0g_0, a0g_1, a0g_2, a0g_3, a0g_4, a0g_5, a0g_6, a0g_7, a0g_8, a0g_9, a0g_10, a0g_11, a0g_12, a0g_13, a0g_14, Value.ref a0_15, a0g_16, a0g_17, a0g_18, a0g_19, a0g_20, a0g_21, a0g_22, Value.ref a0_23, Value.ref a0_24, Value.int a0_25, Value.int x3, Value.int x89, Value.int v63na0_28, a0g_29, a0g_30, a0g_31, a0g_32, a0g_33, a0g_34, a0g_35, a0g_36, a0g_37, a0g_38, a0g_39])), (a1, .inl (ka1, 23, .inl (f136))), (a0_15, .inl (ka0_15, 156, .inl (fa0_15))), (a0_24, .inl (ka0_24, 3, .inl (fa0_24))), (a0_23, .inl (ka0_23, 3, .inl (fa0_23)))]) hP hD rfl
            have bf136 : ((∀ k : Nat, 0 ≤ k → k ≤ 8 → (0 : Int) ≤ (f136 k).toInt ∧ (f136 k).toInt ≤ 8) ∧ (∀ k : Nat, 19 ≤ k → k ≤ 19 → (0 : Int) ≤ (f136 k).toInt ∧ (f136 k).toInt ≤ 8) ∧ (∀ k : Nat, 20 ≤ k → k ≤ 20 → (0 : Int) ≤ (f136 k).toInt ∧ (f136 k).toInt ≤ 19)) := by rw [ef136]; exact ⟨ai_updO bf127.1 _ (Or.inr (ai_ngt_of zq160 (by decide) (by decide))), ai_updS bf127.2.1 _ ⟨h133_0, h133_1⟩, ai_updO bf127.2.2 _ (Or.inl (ai_nlt_of zq160 zq161 (by decide) (by decide)))⟩
            have kf136_19 : f136 19 = r133 := by rw [ef136]; exact ai_k1 (by decide +kernel)
            have kf136_20 : f136 20 = 0 := by rw [ef136]; exact ai_k2 (by decide +kernel) kf127_20
            have kf136_21 : f136 21 = x99 := by rw [ef136]; exact ai_k2 (by decide +kernel) kf127_21
            exact W.vret hx hb hr (fun t ht hW => ⟨⟨(), rfl, trivial, x3, x89, v63na0_28, f136, bf136, by rw [ht]; exact hP, va_K.moved hW.alike hK, hD⟩, hS.F ht⟩) hS.2.2 dX8_minuteOn_137
          · have gc119 := ai_nle c119
            have u119f_x107 : x107.toInt ≤ (19 : Int) := ai_lthi gc119 bx118.2
            have u119f_x105 : x105.toInt ≤ (18 : Int) := by have h1 := wx107; have h2 := u119f_x107; omega
            have l119f_x118 : (2 : Int) ≤ x118.toInt := ai_ltlo gc119 bx107.1
            exact W.vret hx hb hr (fun t ht hW => ⟨⟨(), rfl, trivial, x3, x89, v63na0_28, f108, ⟨bf108.1, bf108.2.1, ai_one (by rw [kf108_20]; exact ⟨(Int.le_trans zq4 bx107.1), u119f_x107⟩)⟩, by rw [ht]; exact hP, va_K.moved hW.alike hK, hD⟩, hS.F ht⟩) hS.2.2 dX8_minuteOn_122
    · have gc33 := ai_eq c33
      have u33f_x31 : x31.toInt ≤ (1 : Int) := Int.le_trans (Int.le_of_eq gc33) zq0
      have l33f_x31 : (1 : Int) ≤ x31.toInt := Int.le_trans zq1 (Int.le_of_eq gc33.symm)
      refine lv_aload_n hx hb dX8_minuteOn_36 rfl (lv_at hl 1 rfl) ?_
      refine lv_aload_n hx hb dX8_minuteOn_37 rfl (lv_at hl 2 rfl) ?_
      refine lv_iload_n hx hb dX8_minuteOn_38 rfl (lv_at hl 0 rfl) ?_
      obtain ⟨hPc, hDc, hFc, hCc⟩ := zc_cut (wc := [(a0, .inr (8, [a0g_0, a0g_1, a0g_2, a0g_3, a0g_4, a0g_5, a0g_6, a0g_7, a0g_8, a0g_9, a0g_10, a0g_11, a0g_12, a0g_13, a0g_14, Value.ref a0_15, a0g_16, a0g_17, a0g_18, a0g_19, a0g_20, a0g_21, a0g_22, Value.ref a0_23, Value.ref a0_24, Value.int a0_25, Value.int a0_26, Value.int a0_27, Value.int 0, a0g_29, a0g_30, a0g_31, a0g_32, a0g_33, a0g_34, a0g_35, a0g_36, a0g_37, a0g_38, a0g_39])), (a1, .inl (ka1, 23, .inl (fa1))), (a0_15, .inl (ka0_15, 156, .inl (fa0_15))), (a0_24, .inl (ka0_24, 3, .inl (fa0_24))), (a0_23, .inl (ka0_23, 3, .inl (fa0_23)))]) hP hD hS hA [0, 1, 2, 3, 4] (by decide +kernel) rfl
      have hKc := hK.sub (tys' := [(ka1, .int), (ka0_15, .int), (ka0_24, .int), (ka0_23, .int)]) [0, 1, 2, 3] rfl
      refine va_callv (va_runV (As := [.ref a1, .int x3]) (rest := []) ⟨hx, hb, hml, hown, hts⟩ (c_X8_walkOn l dC dI H.size a0 a1 x3 a0g_0 a0g_1 a0g_2 a0g_3 a0g_4 a0g_5 a0g_6 a0g_7 a0g_8 a0g_9 a0g_10 a0g_11 a0g_12 a0g_13 a0g_14 a0g_16 a0g_17 a0g_18 a0g_19 a0g_20 a0g_21 a0g_22 (Value.int a0_26) (Value.int a0_27) (Value.int 0) a0g_29 a0g_30 a0g_31 a0g_32 a0g_33 a0g_34 a0g_35 a0g_36 a0g_37 a0g_38 a0g_39 a0_15 a0_23 a0_24 a0_25 ka1 fa1 ka0_15 fa0_15 ka0_24 fa0_24 ka0_23 fa0_23 bx3.1 bx3.2 bfa1 bfa0_15 bfa0_24 bfa0_23 (fun i hi => hkm x3 x30 i bx3.1 bx3.2 (by omega) (by omega) (by rw [← ex31]; exact (ai_eq c33)))) (cwV 2 hts gX8_minuteOn_X8_walkOn rfl rfl rfl zd_X8_walkOn ⟨Nat.le_of_ble_eq_true rfl, Nat.le_of_ble_eq_true rfl⟩) ⟨ax_blind (fun _ _ _ _ _ => trivial), zr_8 hKc hPc (q0 := 0) rfl, ax_pre hPc hKc hDc (fun _ _ => trivial)⟩ rfl rfl hl.1 rfl (lv_room (Nat.le_of_ble_eq_true rfl)) dX8_minuteOn_39 ⟨Nat.le_of_ble_eq_true rfl, Nat.le_of_ble_eq_true rfl⟩) hS (fun q _ h => hFc q h) hFc (fun u t H locs ht hvm hw hB hz1 hk1 hS => ?_)
      obtain ⟨v39nfa1, bv39nfa1, hP1, hK1, hD1⟩ := hB
      rw [ht] at hP1
      obtain ⟨hP, hD⟩ := zc_back (w := [(a0, .inr (8, [a0g_0, a0g_1, a0g_2, a0g_3, a0g_4, a0g_5, a0g_6, a0g_7, a0g_8, a0g_9, a0g_10, a0g_11, a0g_12, a0g_13, a0g_14, Value.ref a0_15, a0g_16, a0g_17, a0g_18, a0g_19, a0g_20, a0g_21, a0g_22, Value.ref a0_23, Value.ref a0_24, Value.int a0_25, Value.int a0_26, Value.int a0_27, Value.int 0, a0g_29, a0g_30, a0g_31, a0g_32, a0g_33, a0g_34, a0g_35, a0g_36, a0g_37, a0g_38, a0g_39])), (a1, .inl (ka1, 23, .inl (v39nfa1))), (a0_15, .inl (ka0_15, 156, .inl (fa0_15))), (a0_24, .inl (ka0_24, 3, .inl (fa0_24))), (a0_23, .inl (ka0_23, 3, .inl (fa0_23)))]) hP hD hCc hk1 hFc hP1 hD1 [.inr 0, .inr 1, .inr 2, .inr 3, .inr 4] (by decide +kernel) rfl
      refine lv_goto (tgt := 66) hx hb dX8_minuteOn_42 (by decide) ?_
      refine lv_aload_n hx hb dX8_minuteOn_66 rfl (lv_at hl 1 rfl) ?_
      refine lv_iload_n hx hb dX8_minuteOn_67 rfl (lv_at hl 0 rfl) ?_
      refine va_put (D := (dC, dI)) (ci := 8) (v := .int x3) (ty := .int) (C := RX8) (T := TX8) (N := 40) hx hb hts zi_X8_minuteOn_8 tyX8 tyX8_ok nmX8 hown hK hP hD hS 0 rfl rfl 26 (by decide) (hts (.fieldLink RX8 258 "WaxTurnsModel" "lived" "I") (zm_X8_minuteOn_r1 (List.mem_of_getElem? (i := 2) rfl))) (fun _ h9 => h9) rfl (tyX8_ok 26 (by decide)) rfl rfl (Nat.le_of_ble_eq_true rfl) dX8_minuteOn_68 (fun H locs hP hD hS => ?_)
      obtain ⟨hP, hD⟩ := zc_re (w := [(a0, .inr (8, [a0g_0, a0g_1, a0g_2, a0g_3, a0g_4, a0g_5, a0g_6, a0g_7, a0g_8, a0g_9, a0g_10, a0g_11, a0g_12, a0g_13, a0g_14, Value.ref a0_15, a0g_16, a0g_17, a0g_18, a0g_19, a0g_20, a0g_21, a0g_22, Value.ref a0_23, Value.ref a0_24, Value.int a0_25, Value.int x3, Value.int a0_27, Value.int 0, a0g_29, a0g_30, a0g_31, a0g_32, a0g_33, a0g_34, a0g_35, a0g_36, a0g_37, a0g_38, a0g_39])), (a1, .inl (ka1, 23, .inl (v39nfa1))), (a0_15, .inl (ka0_15, 156, .inl (fa0_15))), (a0_24, .inl (ka0_24, 3, .inl (fa0_24))), (a0_23, .inl (ka0_23, 3, .inl (fa0_23)))]) hP hD rfl
      refine lv_aload_n hx hb dX8_minuteOn_71 rfl (lv_at hl 1 rfl) ?_
      refine lv_aload_n hx hb dX8_minuteOn_72 rfl (lv_at hl 2 rfl) ?_
      refine lv_bipush (v := 18) hx hb dX8_minuteOn_73 zk_bipush_18 ?_
      refine va_iald hx hb hK hP 1 0 rfl rfl (by unfold vp_in; decide +kernel) dX8_minuteOn_75 ?_
      refine lv_topi (fun x75 ex75 => ?_)
      refine lv_iload_n hx hb dX8_minuteOn_76 rfl (lv_at hl 0 rfl) ?_
      obtain ⟨hPc, hDc, hFc, hCc⟩ := zc_cut (wc := []) hP hD hS hA [] (by decide +kernel) rfl
      have hKc := hK.sub (tys' := []) [] rfl
      refine va_calli (va_runS (As := [.int x75, .int x3]) (rest := [.ref a0]) ⟨hx, hb, hml, hown, hts⟩ (c_X8_hasBit l dC dI H.size x75 x3 ) (va_cwS 2 hts gX8_minuteOn_X8_hasBit rfl rfl rfl zd_X8_hasBit.2 ⟨Nat.le_of_ble_eq_true rfl, Nat.le_of_ble_eq_true rfl⟩) ⟨ax_blind (fun _ _ _ _ _ => trivial), ax_pre hPc hKc hDc (fun _ _ => trivial)⟩ rfl rfl hl.1 rfl (lv_room (Nat.le_of_ble_eq_true rfl)) dX8_minuteOn_77 ⟨Nat.le_of_ble_eq_true rfl, Nat.le_of_ble_eq_true rfl⟩) hS (fun q _ h => hFc q h) hFc (fun r77 u t H locs ht hvm hw hB hz1 hk1 hS => ?_)
      obtain ⟨hP1, hK1, hD1⟩ := hB
      rw [ht] at hP1
      obtain ⟨hP, hD⟩ := zc_back (w := [(a0, .inr (8, [a0g_0, a0g_1, a0g_2, a0g_3, a0g_4, a0g_5, a0g_6, a0g_7, a0g_8, a0g_9, a0g_10, a0g_11, a0g_12, a0g_13, a0g_14, Value.ref a0_15, a0g_16, a0g_17, a0g_18, a0g_19, a0g_20, a0g_21, a0g_22, Value.ref a0_23, Value.ref a0_24, Value.int a0_25, Value.int x3, Value.int a0_27, Value.int 0, a0g_29, a0g_30, a0g_31, a0g_32, a0g_33, a0g_34, a0g_35, a0g_36, a0g_37, a0g_38, a0g_39])), (a1, .inl (ka1, 23, .inl (v39nfa1))), (a0_15, .inl (ka0_15, 156, .inl (fa0_15))), (a0_24, .inl (ka0_24, 3, .inl (fa0_24))), (a0_23, .inl (ka0_23, 3, .inl (fa0_23)))]) hP hD hCc hk1 hFc hP1 hD1 [.inl 0, .inl 1, .inl 2, .inl 3, .inl 4] (by decide +kernel) rfl
      rcases hw with hw | hw
      · subst hw
        refine lv_if_eq (tgt := 87) hx hb dX8_minuteOn_80 (by decide) (fun c80 => absurd c80 (by decide +kernel)) (fun _ => ?_)
        refine lv_iconst (v := (-1)) hx hb dX8_minuteOn_83 zk_iconst_n1 ?_
        refine lv_goto (tgt := 90) hx hb dX8_minuteOn_84 (by decide) ?_
        refine va_put (D := (dC, dI)) (ci := 8) (v := .int (-1)) (ty := .int) (C := RX8) (T := TX8) (N := 40) hx hb hts zi_X8_minuteOn_8 tyX8 tyX8_ok nmX8 hown hK hP hD hS 0 rfl rfl 27 (by decide) (hts (.fieldLink RX8 261 "WaxTurnsModel" "livedAt" "I") (zm_X8_minuteOn_r1 (List.mem_of_getElem? (i := 3) rfl))) (fun _ h9 => h9) rfl (tyX8_ok 27 (by decide)) rfl rfl (Nat.le_of_ble_eq_true rfl) dX8_minuteOn_90 (fun H locs hP hD hS => ?_)
        obtain ⟨hP, hD⟩ := zc_re (w := [(a0, .inr (8, [a0g_0, a0g_1, a0g_2, a0g_3, a0g_4, a0g_5, a0g_6, a0g_7, a0g_8, a0g_9, a0g_10, a0g_11, a0g_12, a0g_13, a0g_14, Value.ref a0_15, a0g_16, a0g_17, a0g_18, a0g_19, a0g_20, a0g_21, a0g_22, Value.ref a0_23, Value.ref a0_24, Value.int a0_25, Value.int x3, Value.int (-1), Value.int 0, a0g_29, a0g_30, a0g_31, a0g_32, a0g_33, a0g_34, a0g_35, a0g_36, a0g_37, a0g_38, a0g_39])), (a1, .inl (ka1, 23, .inl (v39nfa1))), (a0_15, .inl (ka0_15, 156, .inl (fa0_15))), (a0_24, .inl (ka0_24, 3, .inl (fa0_24))), (a0_23, .inl (ka0_23, 3, .inl (fa0_23)))]) hP hD rfl
        refine lv_aload_n hx hb dX8_minuteOn_93 rfl (lv_at hl 2 rfl) ?_
        refine lv_bipush (v := 21) hx hb dX8_minuteOn_94 zk_bipush_21 ?_
        refine lv_dup2_11 hx hb dX8_minuteOn_96 rfl rfl ?_
        refine va_iald hx hb hK hP 1 0 rfl rfl (by unfold vp_in; decide +kernel) dX8_minuteOn_97 ?_
        refine lv_topi (fun x97 ex97 => ?_)
        refine lv_iconst (v := 1) hx hb dX8_minuteOn_98 zk_iconst_1 ?_
        refine lv_iadd hx hb dX8_minuteOn_99 ?_
        refine lv_topi (fun x99 ex99 => ?_)
        refine va_iast hx hb hK hP hD hS 1 0 rfl rfl (by unfold vp_in; decide +kernel) dX8_minuteOn_100 (fun H locs hP hD hS => ?_)
        obtain ⟨f100, ef100⟩ : ∃ g9 : Nat → Int32, g9 = upd v39nfa1 (21 : Int32).toNatClampNeg x99 := ⟨_, rfl⟩
        rw [← ef100] at hP hD
        obtain ⟨hP, hD⟩ := zc_re (w := [(a0, .inr (8, [a0g_0, a0g_1, a0g_2, a0g_3, a0g_4, a0g_5, a0g_6, a0g_7, a0g_8, a0g_9, a0g_10, a0g_11, a0g_12, a0g_13, a0g_14, Value.ref a0_15, a0g_16, a0g_17, a0g_18, a0g_19, a0g_20, a0g_21, a0g_22, Value.ref a0_23, Value.ref a0_24, Value.int a0_25, Value.int x3, Value.int (-1), Value.int 0, a0g_29, a0g_30, a0g_31, a0g_32, a0g_33, a0g_34, a0g_35, a0g_36, a0g_37, a0g_38, a0g_39])), (a1, .inl (ka1, 23, .inl (f100))), (a0_15, .inl (ka0_15, 156, .inl (fa0_15))), (a0_24, .inl (ka0_24, 3, .inl (fa0_24))), (a0_23, .inl (ka0_23, 3, .inl (fa0_23)))]) hP hD rfl
        have bf100 : ((∀ k : Nat, 0 ≤ k → k ≤ 8 → (0 : Int) ≤ (f100 k).toInt ∧ (f100 k).toInt ≤ 8) ∧ (∀ k : Nat, 19 ≤ k → k ≤ 19 → (0 : Int) ≤ (f100 k).toInt ∧ (f100 k).toInt ≤ 8) ∧ (∀ k : Nat, 20 ≤ k → k ≤ 20 → (0 : Int) ≤ (f100 k).toInt ∧ (f100 k).toInt ≤ 19)) := by rw [ef100]; exact ⟨ai_updO bv39nfa1.1 _ (Or.inr (ai_ngt_of zq162 (by decide) (by decide))), ai_updO bv39nfa1.2.1 _ (Or.inr (ai_ngt_of zq162 (by decide) (by decide))), ai_updO bv39nfa1.2.2 _ (Or.inr (ai_ngt_of zq162 (by decide) (by decide)))⟩
        have kf100_21 : f100 21 = x99 := by rw [ef100]; exact ai_k1 (by decide +kernel)
        refine lv_aload_n hx hb dX8_minuteOn_101 rfl (lv_at hl 2 rfl) ?_
        refine lv_bipush (v := 20) hx hb dX8_minuteOn_102 zk_bipush_20 ?_
        refine lv_dup2_11 hx hb dX8_minuteOn_104 rfl rfl ?_
        refine va_iald hx hb hK hP 1 0 rfl rfl (by unfold vp_in; decide +kernel) dX8_minuteOn_105 ?_
        refine lv_topi (fun x105 ex105 => ?_)
        have bx105 : (0 : Int) ≤ x105.toInt ∧ x105.toInt ≤ 19 := by rw [ex105]; exact ai_rd bf100.2.2 zq153 zq154 (by decide) (by decide) (by decide)
        refine lv_iconst (v := 1) hx hb dX8_minuteOn_106 zk_iconst_1 ?_
        refine lv_iadd hx hb dX8_minuteOn_107 ?_
        refine lv_topi (fun x107 ex107 => ?_)
        have qx107 : x107.toInt = x105.toInt + (1 : Int32).toInt := ai_add ex107 ⟨bx105.1, bx105.2⟩ ⟨zq1, zq0⟩ (by decide) (by decide)
        have bx107 : (1 : Int) ≤ x107.toInt ∧ x107.toInt ≤ 20 := ⟨by rw [qx107]; exact Int.add_le_add bx105.1 zq1, by rw [qx107]; exact Int.add_le_add bx105.2 zq0⟩
        have wx107 : x107.toInt = x105.toInt + 1 := qx107
        refine va_iast hx hb hK hP hD hS 1 0 rfl rfl (by unfold vp_in; decide +kernel) dX8_minuteOn_108 (fun H locs hP hD hS => ?_)
        obtain ⟨f108, ef108⟩ : ∃ g9 : Nat → Int32, g9 = upd f100 (20 : Int32).toNatClampNeg x107 := ⟨_, rfl⟩
        rw [← ef108] at hP hD
        obtain ⟨hP, hD⟩ := zc_re (w := [(a0, .inr (8, [a0g_0, a0g_1, a0g_2, a0g_3, a0g_4, a0g_5, a0g_6, a0g_7, a0g_8, a0g_9, a0g_10, a0g_11, a0g_12, a0g_13, a0g_14, Value.ref a0_15, a0g_16, a0g_17, a0g_18, a0g_19, a0g_20, a0g_21, a0g_22, Value.ref a0_23, Value.ref a0_24, Value.int a0_25, Value.int x3, Value.int (-1), Value.int 0, a0g_29, a0g_30, a0g_31, a0g_32, a0g_33, a0g_34, a0g_35, a0g_36, a0g_37, a0g_38, a0g_39])), (a1, .inl (ka1, 23, .inl (f108))), (a0_15, .inl (ka0_15, 156, .inl (fa0_15))), (a0_24, .inl (ka0_24, 3, .inl (fa0_24))), (a0_23, .inl (ka0_23, 3, .inl (fa0_23)))]) hP hD rfl
        have bf108 : ((∀ k : Nat, 0 ≤ k → k ≤ 8 → (0 : Int) ≤ (f108 k).toInt ∧ (f108 k).toInt ≤ 8) ∧ (∀ k : Nat, 19 ≤ k → k ≤ 19 → (0 : Int) ≤ (f108 k).toInt ∧ (f108 k).toInt ≤ 8) ∧ True) := by rw [ef108]; exact ⟨ai_updO bf100.1 _ (Or.inr (ai_ngt_of zq153 (by decide) (by decide))), ai_updO bf100.2.1 _ (Or.inr (ai_ngt_of zq153 (by decide) (by decide))), trivial⟩
        have kf108_20 : f108 20 = x107 := by rw [ef108]; exact ai_k1 (by decide +kernel)
        have kf108_21 : f108 21 = x99 := by rw [ef108]; exact ai_k2 (by decide +kernel) kf100_21
        refine lv_aload_n hx hb dX8_minuteOn_109 rfl (lv_at hl 2 rfl) ?_
        refine lv_bipush (v := 20) hx hb dX8_minuteOn_110 zk_bipush_20 ?_
        refine va_iald hx hb hK hP 1 0 rfl rfl (by unfold vp_in; decide +kernel) dX8_minuteOn_112 ?_
        refine ax_ti x107 ((congrArg f108 (by decide +kernel : (20 : Int32).toNatClampNeg = 20)).trans kf108_20) ?_
        refine lv_aload_n hx hb dX8_minuteOn_113 rfl (lv_at hl 1 rfl) ?_
        refine va_get (D := (dC, dI)) (ci := 8) (v := .ref a0_15) (C := RX8) (T := TX8) (N := 40) hx hb hts zi_X8_minuteOn_8 hown hK hP 0 rfl rfl 15 (by decide) (hts (.fieldLink RX8 20 "WaxTurnsModel" "\x72" "[I") (zm_X8_minuteOn_r1 (List.mem_of_getElem? (i := 1) rfl))) (fun _ h9 => h9) rfl dX8_minuteOn_114 ?_
        refine lv_iconst (v := 1) hx hb dX8_minuteOn_117 zk_iconst_1 ?_
        refine va_iald hx hb hK hP 2 1 rfl rfl (by unfold vp_in; decide +kernel) dX8_minuteOn_118 ?_
        refine lv_topi (fun x118 ex118 => ?_)
        have bx118 : (1 : Int) ≤ x118.toInt ∧ x118.toInt ≤ 20 := by rw [ex118]; exact ai_rd bfa0_15.2.1 zq1 zq0 (by decide) (by decide) (by decide)
        refine lv_icmp_ge (tgt := 123) hx hb dX8_minuteOn_119 (by decide) (fun c119 => ?_) (fun c119 => ?_)
        · have gc119 := ai_le c119
          have u119t_x118 : x118.toInt ≤ (20 : Int) := bx118.2
          have l119t_x107 : (1 : Int) ≤ x107.toInt := bx107.1
          refine lv_aload_n hx hb dX8_minuteOn_123 rfl (lv_at hl 2 rfl) ?_
          refine lv_bipush (v := 20) hx hb dX8_minuteOn_124 zk_bipush_20 ?_
          refine lv_iconst (v := 0) hx hb dX8_minuteOn_126 zk_iconst_0 ?_
          refine va_iast hx hb hK hP hD hS 1 0 rfl rfl (by unfold vp_in; decide +kernel) dX8_minuteOn_127 (fun H locs hP hD hS => ?_)
          obtain ⟨f127, ef127⟩ : ∃ g9 : Nat → Int32, g9 = upd f108 (20 : Int32).toNatClampNeg (0 : Int32) := ⟨_, rfl⟩
          rw [← ef127] at hP hD
          obtain ⟨hP, hD⟩ := zc_re (w := [(a0, .inr (8, [a0g_0, a0g_1, a0g_2, a0g_3, a0g_4, a0g_5, a0g_6, a0g_7, a0g_8, a0g_9, a0g_10, a0g_11, a0g_12, a0g_13, a0g_14, Value.ref a0_15, a0g_16, a0g_17, a0g_18, a0g_19, a0g_20, a0g_21, a0g_22, Value.ref a0_23, Value.ref a0_24, Value.int a0_25, Value.int x3, Value.int (-1), Value.int 0, a0g_29, a0g_30, a0g_31, a0g_32, a0g_33, a0g_34, a0g_35, a0g_36, a0g_37, a0g_38, a0g_39])), (a1, .inl (ka1, 23, .inl (f127))), (a0_15, .inl (ka0_15, 156, .inl (fa0_15))), (a0_24, .inl (ka0_24, 3, .inl (fa0_24))), (a0_23, .inl (ka0_23, 3, .inl (fa0_23)))]) hP hD rfl
          have bf127 : ((∀ k : Nat, 0 ≤ k → k ≤ 8 → (0 : Int) ≤ (f127 k).toInt ∧ (f127 k).toInt ≤ 8) ∧ (∀ k : Nat, 19 ≤ k → k ≤ 19 → (0 : Int) ≤ (f127 k).toInt ∧ (f127 k).toInt ≤ 8) ∧ (∀ k : Nat, 20 ≤ k → k ≤ 20 → (0 : Int) ≤ (f127 k).toInt ∧ (f127 k).toInt ≤ 19)) := by rw [ef127]; exact ⟨ai_updO bf108.1 _ (Or.inr (ai_ngt_of zq153 (by decide) (by decide))), ai_updO bf108.2.1 _ (Or.inr (ai_ngt_of zq153 (by decide) (by decide))), ai_new (by decide +kernel) ⟨zq5, (Int.le_trans zq6 zq163)⟩⟩
          have kf127_20 : f127 20 = 0 := by rw [ef127]; exact ai_k1 (by decide +kernel)
          have kf127_21 : f127 21 = x99 := by rw [ef127]; exact ai_k2 (by decide +kernel) kf108_21
          refine lv_aload_n hx hb dX8_minuteOn_128 rfl (lv_at hl 2 rfl) ?_
          refine lv_bipush (v := 19) hx hb dX8_minuteOn_129 zk_bipush_19 ?_
          refine lv_aload_n hx hb dX8_minuteOn_131 rfl (lv_at hl 1 rfl) ?_
          refine lv_iload_n hx hb dX8_minuteOn_132 rfl (lv_at hl 0 rfl) ?_
          obtain ⟨hPc, hDc, hFc, hCc⟩ := zc_cut (wc := [(a0, .inr (8, [a0g_0, a0g_1, a0g_2, a0g_3, a0g_4, a0g_5, a0g_6, a0g_7, a0g_8, a0g_9, a0g_10, a0g_11, a0g_12, a0g_13, a0g_14, Value.ref a0_15, a0g_16, a0g_17, a0g_18, a0g_19, a0g_20, a0g_21, a0g_22, Value.ref a0_23, Value.ref a0_24, Value.int a0_25, Value.int x3, Value.int (-1), Value.int 0, a0g_29, a0g_30, a0g_31, a0g_32, a0g_33, a0g_34, a0g_35, a0g_36, a0g_37, a0g_38, a0g_39])), (a0_15, .inl (ka0_15, 156, .inl (fa0_15)))]) hP hD hS hA [0, 2] (by decide +kernel) rfl
          have hKc := hK.sub (tys' := [(ka0_15, .int)]) [1] rfl
          refine va_calli (va_runV (As := [.int x3]) (rest := [.int 19, .ref a1]) ⟨hx, hb, hml, hown, hts⟩ (c_X8_nextOf l dC dI H.size a0 x3 a0g_0 a0g_1 a0g_2 a0g_3 a0g_4 a0g_5 a0g_6 a0g_7 a0g_8 a0g_9 a0g_10 a0g_11 a0g_12 a0g_13 a0g_14 a0g_16 a0g_17 a0g_18 a0g_19 a0g_20 a0g_21 a0g_22 (Value.ref a0_23) (Value.ref a0_24) (Value.int a0_25) (Value.int x3) (Value.int (-1)) (Value.int 0) a0g_29 a0g_30 a0g_31 a0g_32 a0g_33 a0g_34 a0g_35 a0g_36 a0g_37 a0g_38 a0g_39 a0_15 ka0_15 fa0_15 bx3.1 bx3.2 bfa0_15) (cwV 1 hts gX8_minuteOn_X8_nextOf rfl rfl rfl zd_X8_nextOf ⟨Nat.le_of_ble_eq_true rfl, Nat.le_of_ble_eq_true rfl⟩) ⟨ax_blind (fun _ _ _ _ _ => trivial), zr_8 hKc hPc (q0 := 0) rfl, ax_pre hPc hKc hDc (fun _ _ => trivial)⟩ rfl rfl hl.1 rfl (lv_room (Nat.le_of_ble_eq_true rfl)) dX8_minuteOn_133 ⟨Nat.le_of_ble_eq_true rfl, Nat.le_of_ble_eq_true rfl⟩) hS (fun q _ h => hFc q h) hFc (fun r133 u t H locs ht hvm hw hB hz1 hk1 hS => ?_)
          obtain ⟨hP1, hK1, hD1⟩ := hB
          rw [ht] at hP1
          obtain ⟨hP, hD⟩ := zc_back (w := [(a0, .inr (8, [a0g_0, a0g_1, a0g_2, a0g_3, a0g_4, a0g_5, a0g_6, a0g_7, a0g_8, a0g_9, a0g_10, a0g_11, a0g_12, a0g_13, a0g_14, Value.ref a0_15, a0g_16, a0g_17, a0g_18, a0g_19, a0g_20, a0g_21, a0g_22, Value.ref a0_23, Value.ref a0_24, Value.int a0_25, Value.int x3, Value.int (-1), Value.int 0, a0g_29, a0g_30, a0g_31, a0g_32, a0g_33, a0g_34, a0g_35, a0g_36, a0g_37, a0g_38, a0g_39])), (a1, .inl (ka1, 23, .inl (f127))), (a0_15, .inl (ka0_15, 156, .inl (fa0_15))), (a0_24, .inl (ka0_24, 3, .inl (fa0_24))), (a0_23, .inl (ka0_23, 3, .inl (fa0_23)))]) hP hD hCc hk1 hFc hP1 hD1 [.inr 0, .inl 1, .inr 1, .inl 3, .inl 4] (by decide +kernel) rfl
          have hw : (0 : Int) ≤ r133.toInt ∧ r133.toInt ≤ (8 : Int) := hw
          obtain ⟨h133_0, h133_1⟩ := hw
          refine va_iast hx hb hK hP hD hS 1 0 rfl rfl (by unfold vp_in; decide +kernel) dX8_minuteOn_136 (fun H locs hP hD hS => ?_)
          obtain ⟨f136, ef136⟩ : ∃ g9 : Nat → Int32, g9 = upd f127 (19 : Int32).toNatClampNeg r133 := ⟨_, rfl⟩
          rw [← ef136] at hP hD
          obtain ⟨hP, hD⟩ := zc_re (w := [(a0, .inr (8, [a0g_0, a0g_1, a0g_2, a0g_3, a0g_4, a0g_5, a0g_6, a0g_7, a0g_8, a0g_9, a0g_10, a0g_11, a0g_12, a0g_13, a0g_14, Value.ref a0_15, a0g_16, a0g_17, a0g_18, a0g_19, a0g_20, a0g_21, a0g_22, Value.ref a0_23, Value.ref a0_24, Value.int a0_25, Value.int x3, Value.int (-1), Value.int 0, a0g_29, a0g_30, a0g_31, a0g_32, a0g_33, a0g_34, a0g_35, a0g_36, a0g_37, a0g_38, a0g_39])), (a1, .inl (ka1, 23, .inl (f136))), (a0_15, .inl (ka0_15, 156, .inl (fa0_15))), (a0_24, .inl (ka0_24, 3, .inl (fa0_24))), (a0_23, .inl (ka0_23, 3, .inl (fa0_23)))]) hP hD rfl
          have bf136 : ((∀ k : Nat, 0 ≤ k → k ≤ 8 → (0 : Int) ≤ (f136 k).toInt ∧ (f136 k).toInt ≤ 8) ∧ (∀ k : Nat, 19 ≤ k → k ≤ 19 → (0 : Int) ≤ (f136 k).toInt ∧ (f136 k).toInt ≤ 8) ∧ (∀ k : Nat, 20 ≤ k → k ≤ 20 → (0 : Int) ≤ (f136 k).toInt ∧ (f136 k).toInt ≤ 19)) := by rw [ef136]; exact ⟨ai_updO bf127.1 _ (Or.inr (ai_ngt_of zq160 (by decide) (by decide))), ai_updS bf127.2.1 _ ⟨h133_0, h133_1⟩, ai_updO bf127.2.2 _ (Or.inl (ai_nlt_of zq160 zq161 (by decide) (by decide)))⟩
          have kf136_19 : f136 19 = r133 := by rw [ef136]; exact ai_k1 (by decide +kernel)
          have kf136_20 : f136 20 = 0 := by rw [ef136]; exact ai_k2 (by decide +kernel) kf127_20
          have kf136_21 : f136 21 = x99 := by rw [ef136]; exact ai_k2 (by decide +kernel) kf127_21
          exact W.vret hx hb hr (fun t ht hW => ⟨⟨(), rfl, trivial, x3, (-1), 0, f136, bf136, by rw [ht]; exact hP, va_K.moved hW.alike hK, hD⟩, hS.F ht⟩) hS.2.2 dX8_minuteOn_137
        · have gc119 := ai_nle c119
          have u119f_x107 : x107.toInt ≤ (19 : Int) := ai_lthi gc119 bx118.2
          have u119f_x105 : x105.toInt ≤ (18 : Int) := by have h1 := wx107; have h2 := u119f_x107; omega
          have l119f_x118 : (2 : Int) ≤ x118.toInt := ai_ltlo gc119 bx107.1
          exact W.vret hx hb hr (fun t ht hW => ⟨⟨(), rfl, trivial, x3, (-1), 0, f108, ⟨bf108.1, bf108.2.1, ai_one (by rw [kf108_20]; exact ⟨(Int.le_trans zq4 bx107.1), u119f_x107⟩)⟩, by rw [ht]; exact hP, va_K.moved hW.alike hK, hD⟩, hS.F ht⟩) hS.2.2 dX8_minuteOn_122
      · subst hw
        refine lv_if_eq (tgt := 87) hx hb dX8_minuteOn_80 (by decide) (fun _ => ?_) (fun c80 => absurd (by decide +kernel) c80)
        refine lv_aload_n hx hb dX8_minuteOn_87 rfl (lv_at hl 2 rfl) ?_
        refine lv_iload_n hx hb dX8_minuteOn_88 rfl (lv_at hl 0 rfl) ?_
        refine va_iald hx hb hK hP 1 0 rfl rfl (ai_in bx3.1 bx3.2 (by decide) (by decide)) dX8_minuteOn_89 ?_
        refine lv_topi (fun x89 ex89 => ?_)
        have bx89 : (0 : Int) ≤ x89.toInt ∧ x89.toInt ≤ 8 := by rw [ex89]; exact ai_rd bv39nfa1.1 bx3.1 bx3.2 (by decide) (by decide) (by decide)
        refine va_put (D := (dC, dI)) (ci := 8) (v := .int x89) (ty := .int) (C := RX8) (T := TX8) (N := 40) hx hb hts zi_X8_minuteOn_8 tyX8 tyX8_ok nmX8 hown hK hP hD hS 0 rfl rfl 27 (by decide) (hts (.fieldLink RX8 261 "WaxTurnsModel" "livedAt" "I") (zm_X8_minuteOn_r1 (List.mem_of_getElem? (i := 3) rfl))) (fun _ h9 => h9) rfl (tyX8_ok 27 (by decide)) rfl rfl (Nat.le_of_ble_eq_true rfl) dX8_minuteOn_90 (fun H locs hP hD hS => ?_)
        obtain ⟨hP, hD⟩ := zc_re (w := [(a0, .inr (8, [a0g_0, a0g_1, a0g_2, a0g_3, a0g_4, a0g_5, a0g_6, a0g_7, a0g_8, a0g_9, a0g_10, a0g_11, a0g_12, a0g_13, a0g_14, Value.ref a0_15, a0g_16, a0g_17, a0g_18, a0g_19, a0g_20, a0g_21, a0g_22, Value.ref a0_23, Value.ref a0_24, Value.int a0_25, Value.int x3, Value.int x89, Value.int 0, a0g_29, a0g_30, a0g_31, a0g_32, a0g_33, a0g_34, a0g_35, a0g_36, a0g_37, a0g_38, a0g_39])), (a1, .inl (ka1, 23, .inl (v39nfa1))), (a0_15, .inl (ka0_15, 156, .inl (fa0_15))), (a0_24, .inl (ka0_24, 3, .inl (fa0_24))), (a0_23, .inl (ka0_23, 3, .inl (fa0_23)))]) hP hD rfl
        refine lv_aload_n hx hb dX8_minuteOn_93 rfl (lv_at hl 2 rfl) ?_
        refine lv_bipush (v := 21) hx hb dX8_minuteOn_94 zk_bipush_21 ?_
        refine lv_dup2_11 hx hb dX8_minuteOn_96 rfl rfl ?_
        refine va_iald hx hb hK hP 1 0 rfl rfl (by unfold vp_in; decide +kernel) dX8_minuteOn_97 ?_
        refine lv_topi (fun x97 ex97 => ?_)
        refine lv_iconst (v := 1) hx hb dX8_minuteOn_98 zk_iconst_1 ?_
        refine lv_iadd hx hb dX8_minuteOn_99 ?_
        refine lv_topi (fun x99 ex99 => ?_)
        refine va_iast hx hb hK hP hD hS 1 0 rfl rfl (by unfold vp_in; decide +kernel) dX8_minuteOn_100 (fun H locs hP hD hS => ?_)
        obtain ⟨f100, ef100⟩ : ∃ g9 : Nat → Int32, g9 = upd v39nfa1 (21 : Int32).toNatClampNeg x99 := ⟨_, rfl⟩
        rw [← ef100] at hP hD
        obtain ⟨hP, hD⟩ := zc_re (w := [(a0, .inr (8, [a0g_0, a0g_1, a0g_2, a0g_3, a0g_4, a0g_5, a0g_6, a0g_7, a0g_8, a0g_9, a0g_10, a0g_11, a0g_12, a0g_13, a0g_14, Value.ref a0_15, a0g_16, a0g_17, a0g_18, a0g_19, a0g_20, a0g_21, a0g_22, Value.ref a0_23, Value.ref a0_24, Value.int a0_25, Value.int x3, Value.int x89, Value.int 0, a0g_29, a0g_30, a0g_31, a0g_32, a0g_33, a0g_34, a0g_35, a0g_36, a0g_37, a0g_38, a0g_39])), (a1, .inl (ka1, 23, .inl (f100))), (a0_15, .inl (ka0_15, 156, .inl (fa0_15))), (a0_24, .inl (ka0_24, 3, .inl (fa0_24))), (a0_23, .inl (ka0_23, 3, .inl (fa0_23)))]) hP hD rfl
        have bf100 : ((∀ k : Nat, 0 ≤ k → k ≤ 8 → (0 : Int) ≤ (f100 k).toInt ∧ (f100 k).toInt ≤ 8) ∧ (∀ k : Nat, 19 ≤ k → k ≤ 19 → (0 : Int) ≤ (f100 k).toInt ∧ (f100 k).toInt ≤ 8) ∧ (∀ k : Nat, 20 ≤ k → k ≤ 20 → (0 : Int) ≤ (f100 k).toInt ∧ (f100 k).toInt ≤ 19)) := by rw [ef100]; exact ⟨ai_updO bv39nfa1.1 _ (Or.inr (ai_ngt_of zq162 (by decide) (by decide))), ai_updO bv39nfa1.2.1 _ (Or.inr (ai_ngt_of zq162 (by decide) (by decide))), ai_updO bv39nfa1.2.2 _ (Or.inr (ai_ngt_of zq162 (by decide) (by decide)))⟩
        have kf100_21 : f100 21 = x99 := by rw [ef100]; exact ai_k1 (by decide +kernel)
        refine lv_aload_n hx hb dX8_minuteOn_101 rfl (lv_at hl 2 rfl) ?_
        refine lv_bipush (v := 20) hx hb dX8_minuteOn_102 zk_bipush_20 ?_
        refine lv_dup2_11 hx hb dX8_minuteOn_104 rfl rfl ?_
        refine va_iald hx hb hK hP 1 0 rfl rfl (by unfold vp_in; decide +kernel) dX8_minuteOn_105 ?_
        refine lv_topi (fun x105 ex105 => ?_)
        have bx105 : (0 : Int) ≤ x105.toInt ∧ x105.toInt ≤ 19 := by rw [ex105]; exact ai_rd bf100.2.2 zq153 zq154 (by decide) (by decide) (by decide)
        refine lv_iconst (v := 1) hx hb dX8_minuteOn_106 zk_iconst_1 ?_
        refine lv_iadd hx hb dX8_minuteOn_107 ?_
        refine lv_topi (fun x107 ex107 => ?_)
        have qx107 : x107.toInt = x105.toInt + (1 : Int32).toInt := ai_add ex107 ⟨bx105.1, bx105.2⟩ ⟨zq1, zq0⟩ (by decide) (by decide)
        have bx107 : (1 : Int) ≤ x107.toInt ∧ x107.toInt ≤ 20 := ⟨by rw [qx107]; exact Int.add_le_add bx105.1 zq1, by rw [qx107]; exact Int.add_le_add bx105.2 zq0⟩
        have wx107 : x107.toInt = x105.toInt + 1 := qx107
        refine va_iast hx hb hK hP hD hS 1 0 rfl rfl (by unfold vp_in; decide +kernel) dX8_minuteOn_108 (fun H locs hP hD hS => ?_)
        obtain ⟨f108, ef108⟩ : ∃ g9 : Nat → Int32, g9 = upd f100 (20 : Int32).toNatClampNeg x107 := ⟨_, rfl⟩
        rw [← ef108] at hP hD
        obtain ⟨hP, hD⟩ := zc_re (w := [(a0, .inr (8, [a0g_0, a0g_1, a0g_2, a0g_3, a0g_4, a0g_5, a0g_6, a0g_7, a0g_8, a0g_9, a0g_10, a0g_11, a0g_12, a0g_13, a0g_14, Value.ref a0_15, a0g_16, a0g_17, a0g_18, a0g_19, a0g_20, a0g_21, a0g_22, Value.ref a0_23, Value.ref a0_24, Value.int a0_25, Value.int x3, Value.int x89, Value.int 0, a0g_29, a0g_30, a0g_31, a0g_32, a0g_33, a0g_34, a0g_35, a0g_36, a0g_37, a0g_38, a0g_39])), (a1, .inl (ka1, 23, .inl (f108))), (a0_15, .inl (ka0_15, 156, .inl (fa0_15))), (a0_24, .inl (ka0_24, 3, .inl (fa0_24))), (a0_23, .inl (ka0_23, 3, .inl (fa0_23)))]) hP hD rfl
        have bf108 : ((∀ k : Nat, 0 ≤ k → k ≤ 8 → (0 : Int) ≤ (f108 k).toInt ∧ (f108 k).toInt ≤ 8) ∧ (∀ k : Nat, 19 ≤ k → k ≤ 19 → (0 : Int) ≤ (f108 k).toInt ∧ (f108 k).toInt ≤ 8) ∧ True) := by rw [ef108]; exact ⟨ai_updO bf100.1 _ (Or.inr (ai_ngt_of zq153 (by decide) (by decide))), ai_updO bf100.2.1 _ (Or.inr (ai_ngt_of zq153 (by decide) (by decide))), trivial⟩
        have kf108_20 : f108 20 = x107 := by rw [ef108]; exact ai_k1 (by decide +kernel)
        have kf108_21 : f108 21 = x99 := by rw [ef108]; exact ai_k2 (by decide +kernel) kf100_21
        refine lv_aload_n hx hb dX8_minuteOn_109 rfl (lv_at hl 2 rfl) ?_
        refine lv_bipush (v := 20) hx hb dX8_minuteOn_110 zk_bipush_20 ?_
        refine va_iald hx hb hK hP 1 0 rfl rfl (by unfold vp_in; decide +kernel) dX8_minuteOn_112 ?_
        refine ax_ti x107 ((congrArg f108 (by decide +kernel : (20 : Int32).toNatClampNeg = 20)).trans kf108_20) ?_
        refine lv_aload_n hx hb dX8_minuteOn_113 rfl (lv_at hl 1 rfl) ?_
        refine va_get (D := (dC, dI)) (ci := 8) (v := .ref a0_15) (C := RX8) (T := TX8) (N := 40) hx hb hts zi_X8_minuteOn_8 hown hK hP 0 rfl rfl 15 (by decide) (hts (.fieldLink RX8 20 "WaxTurnsModel" "\x72" "[I") (zm_X8_minuteOn_r1 (List.mem_of_getElem? (i := 1) rfl))) (fun _ h9 => h9) rfl dX8_minuteOn_114 ?_
        refine lv_iconst (v := 1) hx hb dX8_minuteOn_117 zk_iconst_1 ?_
        refine va_iald hx hb hK hP 2 1 rfl rfl (by unfold vp_in; decide +kernel) dX8_minuteOn_118 ?_
        refine lv_topi (fun x118 ex118 => ?_)
        have bx118 : (1 : Int) ≤ x118.toInt ∧ x118.toInt ≤ 20 := by rw [ex118]; exact ai_rd bfa0_15.2.1 zq1 zq0 (by decide) (by decide) (by decide)
        refine lv_icmp_ge (tgt := 123) hx hb dX8_minuteOn_119 (by decide) (fun c119 => ?_) (fun c119 => ?_)
        · have gc119 := ai_le c119
          have u119t_x118 : x118.toInt ≤ (20 : Int) := bx118.2
          have l119t_x107 : (1 : Int) ≤ x107.toInt := bx107.1
          refine lv_aload_n hx hb dX8_minuteOn_123 rfl (lv_at hl 2 rfl) ?_
          refine lv_bipush (v := 20) hx hb dX8_minuteOn_124 zk_bipush_20 ?_
          refine lv_iconst (v := 0) hx hb dX8_minuteOn_126 zk_iconst_0 ?_
          refine va_iast hx hb hK hP hD hS 1 0 rfl rfl (by unfold vp_in; decide +kernel) dX8_minuteOn_127 (fun H locs hP hD hS => ?_)
          obtain ⟨f127, ef127⟩ : ∃ g9 : Nat → Int32, g9 = upd f108 (20 : Int32).toNatClampNeg (0 : Int32) := ⟨_, rfl⟩
          rw [← ef127] at hP hD
          obtain ⟨hP, hD⟩ := zc_re (w := [(a0, .inr (8, [a0g_0, a0g_1, a0g_2, a0g_3, a0g_4, a0g_5, a0g_6, a0g_7, a0g_8, a0g_9, a0g_10, a0g_11, a0g_12, a0g_13, a0g_14, Value.ref a0_15, a0g_16, a0g_17, a0g_18, a0g_19, a0g_20, a0g_21, a0g_22, Value.ref a0_23, Value.ref a0_24, Value.int a0_25, Value.int x3, Value.int x89, Value.int 0, a0g_29, a0g_30, a0g_31, a0g_32, a0g_33, a0g_34, a0g_35, a0g_36, a0g_37, a0g_38, a0g_39])), (a1, .inl (ka1, 23, .inl (f127))), (a0_15, .inl (ka0_15, 156, .inl (fa0_15))), (a0_24, .inl (ka0_24, 3, .inl (fa0_24))), (a0_23, .inl (ka0_23, 3, .inl (fa0_23)))]) hP hD rfl
          have bf127 : ((∀ k : Nat, 0 ≤ k → k ≤ 8 → (0 : Int) ≤ (f127 k).toInt ∧ (f127 k).toInt ≤ 8) ∧ (∀ k : Nat, 19 ≤ k → k ≤ 19 → (0 : Int) ≤ (f127 k).toInt ∧ (f127 k).toInt ≤ 8) ∧ (∀ k : Nat, 20 ≤ k → k ≤ 20 → (0 : Int) ≤ (f127 k).toInt ∧ (f127 k).toInt ≤ 19)) := by rw [ef127]; exact ⟨ai_updO bf108.1 _ (Or.inr (ai_ngt_of zq153 (by decide) (by decide))), ai_updO bf108.2.1 _ (Or.inr (ai_ngt_of zq153 (by decide) (by decide))), ai_new (by decide +kernel) ⟨zq5, (Int.le_trans zq6 zq163)⟩⟩
          have kf127_20 : f127 20 = 0 := by rw [ef127]; exact ai_k1 (by decide +kernel)
          have kf127_21 : f127 21 = x99 := by rw [ef127]; exact ai_k2 (by decide +kernel) kf108_21
          refine lv_aload_n hx hb dX8_minuteOn_128 rfl (lv_at hl 2 rfl) ?_
          refine lv_bipush (v := 19) hx hb dX8_minuteOn_129 zk_bipush_19 ?_
          refine lv_aload_n hx hb dX8_minuteOn_131 rfl (lv_at hl 1 rfl) ?_
          refine lv_iload_n hx hb dX8_minuteOn_132 rfl (lv_at hl 0 rfl) ?_
          obtain ⟨hPc, hDc, hFc, hCc⟩ := zc_cut (wc := [(a0, .inr (8, [a0g_0, a0g_1, a0g_2, a0g_3, a0g_4, a0g_5, a0g_6, a0g_7, a0g_8, a0g_9, a0g_10, a0g_11, a0g_12, a0g_13, a0g_14, Value.ref a0_15, a0g_16, a0g_17, a0g_18, a0g_19, a0g_20, a0g_21, a0g_22, Value.ref a0_23, Value.ref a0_24, Value.int a0_25, Value.int x3, Value.int x89, Value.int 0, a0g_29, a0g_30, a0g_31, a0g_32, a0g_33, a0g_34, a0g_35, a0g_36, a0g_37, a0g_38, a0g_39])), (a0_15, .inl (ka0_15, 156, .inl (fa0_15)))]) hP hD hS hA [0, 2] (by decide +kernel) rfl
          have hKc := hK.sub (tys' := [(ka0_15, .int)]) [1] rfl
          refine va_calli (va_runV (As := [.int x3]) (rest := [.int 19, .ref a1]) ⟨hx, hb, hml, hown, hts⟩ (c_X8_nextOf l dC dI H.size a0 x3 a0g_0 a0g_1 a0g_2 a0g_3 a0g_4 a0g_5 a0g_6 a0g_7 a0g_8 a0g_9 a0g_10 a0g_11 a0g_12 a0g_13 a0g_14 a0g_16 a0g_17 a0g_18 a0g_19 a0g_20 a0g_21 a0g_22 (Value.ref a0_23) (Value.ref a0_24) (Value.int a0_25) (Value.int x3) (Value.int x89) (Value.int 0) a0g_29 a0g_30 a0g_31 a0g_32 a0g_33 a0g_34 a0g_35 a0g_36 a0g_37 a0g_38 a0g_39 a0_15 ka0_15 fa0_15 bx3.1 bx3.2 bfa0_15) (cwV 1 hts gX8_minuteOn_X8_nextOf rfl rfl rfl zd_X8_nextOf ⟨Nat.le_of_ble_eq_true rfl, Nat.le_of_ble_eq_true rfl⟩) ⟨ax_blind (fun _ _ _ _ _ => trivial), zr_8 hKc hPc (q0 := 0) rfl, ax_pre hPc hKc hDc (fun _ _ => trivial)⟩ rfl rfl hl.1 rfl (lv_room (Nat.le_of_ble_eq_true rfl)) dX8_minuteOn_133 ⟨Nat.le_of_ble_eq_true rfl, Nat.le_of_ble_eq_true rfl⟩) hS (fun q _ h => hFc q h) hFc (fun r133 u t H locs ht hvm hw hB hz1 hk1 hS => ?_)
          obtain ⟨hP1, hK1, hD1⟩ := hB
          rw [ht] at hP1
          obtain ⟨hP, hD⟩ := zc_back (w := [(a0, .inr (8, [a0g_0, a0g_1, a0g_2, a0g_3, a0g_4, a0g_5, a0g_6, a0g_7, a0g_8, a0g_9, a0g_10, a0g_11, a0g_12, a0g_13, a0g_14, Value.ref a0_15, a0g_16, a0g_17, a0g_18, a0g_19, a0g_20, a0g_21, a0g_22, Value.ref a0_23, Value.ref a0_24, Value.int a0_25, Value.int x3, Value.int x89, Value.int 0, a0g_29, a0g_30, a0g_31, a0g_32, a0g_33, a0g_34, a0g_35, a0g_36, a0g_37, a0g_38, a0g_39])), (a1, .inl (ka1, 23, .inl (f127))), (a0_15, .inl (ka0_15, 156, .inl (fa0_15))), (a0_24, .inl (ka0_24, 3, .inl (fa0_24))), (a0_23, .inl (ka0_23, 3, .inl (fa0_23)))]) hP hD hCc hk1 hFc hP1 hD1 [.inr 0, .inl 1, .inr 1, .inl 3, .inl 4] (by decide +kernel) rfl
          have hw : (0 : Int) ≤ r133.toInt ∧ r133.toInt ≤ (8 : Int) := hw
          obtain ⟨h133_0, h133_1⟩ := hw
          refine va_iast hx hb hK hP hD hS 1 0 rfl rfl (by unfold vp_in; decide +kernel) dX8_minuteOn_136 (fun H locs hP hD hS => ?_)
          obtain ⟨f136, ef136⟩ : ∃ g9 : Nat → Int32, g9 = upd f127 (19 : Int32).toNatClampNeg r133 := ⟨_, rfl⟩
          rw [← ef136] at hP hD
          obtain ⟨hP, hD⟩ := zc_re (w := [(a0, .inr (8, [a0g_0, a0g_1, a0g_2, a0g_3, a0g_4, a0g_5, a0g_6, a0g_7, a0g_8, a0g_9, a0g_10, a0g_11, a0g_12, a0g_13, a0g_14, Value.ref a0_15, a0g_16, a0g_17, a0g_18, a0g_19, a0g_20, a0g_21, a0g_22, Value.ref a0_23, Value.ref a0_24, Value.int a0_25, Value.int x3, Value.int x89, Value.int 0, a0g_29, a0g_30, a0g_31, a0g_32, a0g_33, a0g_34, a0g_35, a0g_36, a0g_37, a0g_38, a0g_39])), (a1, .inl (ka1, 23, .inl (f136))), (a0_15, .inl (ka0_15, 156, .inl (fa0_15))), (a0_24, .inl (ka0_24, 3, .inl (fa0_24))), (a0_23, .inl (ka0_23, 3, .inl (fa0_23)))]) hP hD rfl
          have bf136 : ((∀ k : Nat, 0 ≤ k → k ≤ 8 → (0 : Int) ≤ (f136 k).toInt ∧ (f136 k).toInt ≤ 8) ∧ (∀ k : Nat, 19 ≤ k → k ≤ 19 → (0 : Int) ≤ (f136 k).toInt ∧ (f136 k).toInt ≤ 8) ∧ (∀ k : Nat, 20 ≤ k → k ≤ 20 → (0 : Int) ≤ (f136 k).toInt ∧ (f136 k).toInt ≤ 19)) := by rw [ef136]; exact ⟨ai_updO bf127.1 _ (Or.inr (ai_ngt_of zq160 (by decide) (by decide))), ai_updS bf127.2.1 _ ⟨h133_0, h133_1⟩, ai_updO bf127.2.2 _ (Or.inl (ai_nlt_of zq160 zq161 (by decide) (by decide)))⟩
          have kf136_19 : f136 19 = r133 := by rw [ef136]; exact ai_k1 (by decide +kernel)
          have kf136_20 : f136 20 = 0 := by rw [ef136]; exact ai_k2 (by decide +kernel) kf127_20
          have kf136_21 : f136 21 = x99 := by rw [ef136]; exact ai_k2 (by decide +kernel) kf127_21
          exact W.vret hx hb hr (fun t ht hW => ⟨⟨(), rfl, trivial, x3, x89, 0, f136, bf136, by rw [ht]; exact hP, va_K.moved hW.alike hK, hD⟩, hS.F ht⟩) hS.2.2 dX8_minuteOn_137
        · have gc119 := ai_nle c119
          have u119f_x107 : x107.toInt ≤ (19 : Int) := ai_lthi gc119 bx118.2
          have u119f_x105 : x105.toInt ≤ (18 : Int) := by have h1 := wx107; have h2 := u119f_x107; omega
          have l119f_x118 : (2 : Int) ≤ x118.toInt := ai_ltlo gc119 bx107.1
          exact W.vret hx hb hr (fun t ht hW => ⟨⟨(), rfl, trivial, x3, x89, 0, f108, ⟨bf108.1, bf108.2.1, ai_one (by rw [kf108_20]; exact ⟨(Int.le_trans zq4 bx107.1), u119f_x107⟩)⟩, by rw [ht]; exact hP, va_K.moved hW.alike hK, hD⟩, hS.F ht⟩) hS.2.2 dX8_minuteOn_122
