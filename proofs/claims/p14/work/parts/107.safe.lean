section P107_safe
set_option maxHeartbeats 4000000 in
set_option maxRecDepth 100000 in
theorem c_X7_postsHold (l : Launch) (dC : Nat → ClassId) (dI : Nat → Nat → Nat) (sz : Nat) (a0 : Nat) (a1 : Int32) (a2 : Int32) (a0g_0 a0g_4 a0g_5 a0g_6 a0g_8 a0g_9 a0g_10 : Value) (a0_1 : Nat) (a0_2 : Nat) (a0_3 : Nat) (a0_7 : Nat) (a0_3_0 : Int32) (a0_3_1 : Int32) (a0_3_2 : Nat) (a0_3_3 : Nat) (a0_2_0 : Int32) (a0_2_1 : Int32) (a0_2_2 : Int32) (a0_2_3 : Int32) (a0_2_4 : Int32) (a0_2_5 : Nat) (a0_2_6 : Nat) (a0_1_0 : Int32) (a0_1_1 : Int32) (a0_1_2 : Int32) (a0_1_3 : Int32) (a0_1_4 : Int32) (a0_1_5 : Nat) (a0_1_6 : Nat) (ka0_1_5 : ClassId) (fa0_1_5 : Nat → Int32) (ka0_2_5 : ClassId) (fa0_2_5 : Nat → Int32) (ka0_1_6 : ClassId) (fa0_1_6 : Nat → Int32) (ka0_2_6 : ClassId) (fa0_2_6 : Nat → Int32) (a0_7_0 : Int32) (a0_7_1 : Int32) (a0_7_2 : Int32) (a0_7g_3 a0_7g_4 a0_7g_7 a0_7g_8 a0_7g_9 a0_7g_12 a0_7g_13 a0_7g_14 : Value) (a0_7_5 : Int32) (a0_7_6 : Int32) (a0_7_10 : Nat) (a0_7_11 : Nat) (ka0_7_10 : ClassId) (fa0_7_10 : Nat → Int32) (ka0_7_11 : ClassId) (fa0_7_11 : Nat → Int32) (ka0_3_3 : ClassId) (fa0_3_3 : Nat → Int32) (ka0_3_2 : ClassId) (fa0_3_2 : Nat → Int32) (ba2_l : (0 : Int) ≤ a2.toInt) (ba2_u : a2.toInt ≤ (60 : Int)) (ba0_3_0_l : (0 : Int) ≤ a0_3_0.toInt) (ba0_3_0_u : a0_3_0.toInt ≤ (3 : Int)) (ba0_2_1_l : (0 : Int) ≤ a0_2_1.toInt) (ba0_2_1_u : a0_2_1.toInt ≤ (8 : Int)) (ba0_1_1_l : (0 : Int) ≤ a0_1_1.toInt) (ba0_1_1_u : a0_1_1.toInt ≤ (8 : Int)) (ba0_7_0_l : (0 : Int) ≤ a0_7_0.toInt) (ba0_7_0_u : a0_7_0.toInt ≤ (9 : Int)) (ba0_7_5_l : (0 : Int) ≤ a0_7_5.toInt) (ba0_7_5_u : a0_7_5.toInt ≤ (8 : Int)) (ba0_7_6_l : (0 : Int) ≤ a0_7_6.toInt) (ba0_7_6_u : a0_7_6.toInt ≤ (8 : Int)) (bfa0_3_3 : (∀ k, (0 : Int) ≤ (fa0_3_3 k).toInt ∧ (fa0_3_3 k).toInt ≤ 80)) (bfa0_3_2 : (∀ k, (0 : Int) ≤ (fa0_3_2 k).toInt ∧ (fa0_3_2 k).toInt ≤ 80)) : Met l yX7_postsHold wsX7_postsHold ({ frames := 5, cells := 0, slots := 0, locals := 122 }) (va_Pc [.ref a0, .int a1, .int a2] (ax_C dC dI sz [(a0, .inr (7, [a0g_0, .ref a0_1, .ref a0_2, .ref a0_3, a0g_4, a0g_5, a0g_6, .ref a0_7, a0g_8, a0g_9, a0g_10])), (a0_3, .inr (6, [.int a0_3_0, .int a0_3_1, .ref a0_3_2, .ref a0_3_3])), (a0_2, .inr (5, [.int a0_2_0, .int a0_2_1, .int a0_2_2, .int a0_2_3, .int a0_2_4, .ref a0_2_5, .ref a0_2_6])), (a0_1, .inr (5, [.int a0_1_0, .int a0_1_1, .int a0_1_2, .int a0_1_3, .int a0_1_4, .ref a0_1_5, .ref a0_1_6])), (a0_1_5, .inl (ka0_1_5, 9, .inl (fa0_1_5))), (a0_2_5, .inl (ka0_2_5, 9, .inl (fa0_2_5))), (a0_1_6, .inl (ka0_1_6, 9, .inl (fa0_1_6))), (a0_2_6, .inl (ka0_2_6, 9, .inl (fa0_2_6))), (a0_7, .inr (0, [.int a0_7_0, .int a0_7_1, .int a0_7_2, a0_7g_3, a0_7g_4, .int a0_7_5, .int a0_7_6, a0_7g_7, a0_7g_8, a0_7g_9, .ref a0_7_10, .ref a0_7_11, a0_7g_12, a0_7g_13, a0_7g_14])), (a0_7_10, .inl (ka0_7_10, 9, .inl (fa0_7_10))), (a0_7_11, .inl (ka0_7_11, 9, .inl (fa0_7_11))), (a0_3_3, .inl (ka0_3_3, 3, .inl (fa0_3_3))), (a0_3_2, .inl (ka0_3_2, 3, .inl (fa0_3_2)))] [(ka0_1_5, .int), (ka0_2_5, .int), (ka0_1_6, .int), (ka0_2_6, .int), (ka0_7_10, .int), (ka0_7_11, .int), (ka0_3_3, .int), (ka0_3_2, .int)] (fun U => va_Nw (.methodLinkNest RX0 118 yX7_within RX7) U ∧ va_Nw (.methodLinkNest RX5 38 yX7_hasBit RX7) U ∧ va_Nw (.methodLinkNest RX0 129 yX7_hasBit RX7) U))) (va_Qi (fun (r : Int32) (_ : Unit) => (r = 1) ∨ (r = 0)) (fun (_ : Unit) (t : State) => ∃ na0_3_1 : Int32, ∃ na0_2_0 : Int32, ∃ na0_2_1 : Int32, ∃ na0_2_2 : Int32, ∃ na0_2_3 : Int32, ∃ na0_2_4 : Int32, ∃ nfa0_2_5 : Nat → Int32, ∃ nfa0_2_6 : Nat → Int32, ((0 : Int) ≤ na0_2_1.toInt ∧ na0_2_1.toInt ≤ 8) ∧ ax_B dC dI (va_A [(a0, .inr (7, [a0g_0, .ref a0_1, .ref a0_2, .ref a0_3, a0g_4, a0g_5, a0g_6, .ref a0_7, a0g_8, a0g_9, a0g_10])), (a0_3, .inr (6, [.int a0_3_0, .int a0_3_1, .ref a0_3_2, .ref a0_3_3])), (a0_2, .inr (5, [.int a0_2_0, .int a0_2_1, .int a0_2_2, .int a0_2_3, .int a0_2_4, .ref a0_2_5, .ref a0_2_6])), (a0_1, .inr (5, [.int a0_1_0, .int a0_1_1, .int a0_1_2, .int a0_1_3, .int a0_1_4, .ref a0_1_5, .ref a0_1_6])), (a0_1_5, .inl (ka0_1_5, 9, .inl (fa0_1_5))), (a0_2_5, .inl (ka0_2_5, 9, .inl (fa0_2_5))), (a0_1_6, .inl (ka0_1_6, 9, .inl (fa0_1_6))), (a0_2_6, .inl (ka0_2_6, 9, .inl (fa0_2_6))), (a0_7, .inr (0, [.int a0_7_0, .int a0_7_1, .int a0_7_2, a0_7g_3, a0_7g_4, .int a0_7_5, .int a0_7_6, a0_7g_7, a0_7g_8, a0_7g_9, .ref a0_7_10, .ref a0_7_11, a0_7g_12, a0_7g_13, a0_7g_14])), (a0_7_10, .inl (ka0_7_10, 9, .inl (fa0_7_10))), (a0_7_11, .inl (ka0_7_11, 9, .inl (fa0_7_11))), (a0_3_3, .inl (ka0_3_3, 3, .inl (fa0_3_3))), (a0_3_2, .inl (ka0_3_2, 3, .inl (fa0_3_2)))] sz) [(a0, .inr (7, [a0g_0, .ref a0_1, .ref a0_2, .ref a0_3, a0g_4, a0g_5, a0g_6, .ref a0_7, a0g_8, a0g_9, a0g_10])), (a0_3, .inr (6, [.int a0_3_0, .int na0_3_1, .ref a0_3_2, .ref a0_3_3])), (a0_2, .inr (5, [.int na0_2_0, .int na0_2_1, .int na0_2_2, .int na0_2_3, .int na0_2_4, .ref a0_2_5, .ref a0_2_6])), (a0_1, .inr (5, [.int a0_1_0, .int a0_1_1, .int a0_1_2, .int a0_1_3, .int a0_1_4, .ref a0_1_5, .ref a0_1_6])), (a0_1_5, .inl (ka0_1_5, 9, .inl (fa0_1_5))), (a0_2_5, .inl (ka0_2_5, 9, .inl (nfa0_2_5))), (a0_1_6, .inl (ka0_1_6, 9, .inl (fa0_1_6))), (a0_2_6, .inl (ka0_2_6, 9, .inl (nfa0_2_6))), (a0_7, .inr (0, [.int a0_7_0, .int a0_7_1, .int a0_7_2, a0_7g_3, a0_7g_4, .int a0_7_5, .int a0_7_6, a0_7g_7, a0_7g_8, a0_7g_9, .ref a0_7_10, .ref a0_7_11, a0_7g_12, a0_7g_13, a0_7g_14])), (a0_7_10, .inl (ka0_7_10, 9, .inl (fa0_7_10))), (a0_7_11, .inl (ka0_7_11, 9, .inl (fa0_7_11))), (a0_3_3, .inl (ka0_3_3, 3, .inl (fa0_3_3))), (a0_3_2, .inl (ka0_3_2, 3, .inl (fa0_3_2)))] [(ka0_1_5, .int), (ka0_2_5, .int), (ka0_1_6, .int), (ka0_2_6, .int), (ka0_7_10, .int), (ka0_7_11, .int), (ka0_3_3, .int), (ka0_3_2, .int)] t) (va_A [(a0, .inr (7, [a0g_0, .ref a0_1, .ref a0_2, .ref a0_3, a0g_4, a0g_5, a0g_6, .ref a0_7, a0g_8, a0g_9, a0g_10])), (a0_3, .inr (6, [.int a0_3_0, .int a0_3_1, .ref a0_3_2, .ref a0_3_3])), (a0_2, .inr (5, [.int a0_2_0, .int a0_2_1, .int a0_2_2, .int a0_2_3, .int a0_2_4, .ref a0_2_5, .ref a0_2_6])), (a0_1, .inr (5, [.int a0_1_0, .int a0_1_1, .int a0_1_2, .int a0_1_3, .int a0_1_4, .ref a0_1_5, .ref a0_1_6])), (a0_1_5, .inl (ka0_1_5, 9, .inl (fa0_1_5))), (a0_2_5, .inl (ka0_2_5, 9, .inl (fa0_2_5))), (a0_1_6, .inl (ka0_1_6, 9, .inl (fa0_1_6))), (a0_2_6, .inl (ka0_2_6, 9, .inl (fa0_2_6))), (a0_7, .inr (0, [.int a0_7_0, .int a0_7_1, .int a0_7_2, a0_7g_3, a0_7g_4, .int a0_7_5, .int a0_7_6, a0_7g_7, a0_7g_8, a0_7g_9, .ref a0_7_10, .ref a0_7_11, a0_7g_12, a0_7g_13, a0_7g_14])), (a0_7_10, .inl (ka0_7_10, 9, .inl (fa0_7_10))), (a0_7_11, .inl (ka0_7_11, 9, .inl (fa0_7_11))), (a0_3_3, .inl (ka0_3_3, 3, .inl (fa0_3_3))), (a0_3_2, .inl (ka0_3_2, 3, .inl (fa0_3_2)))] sz)) 0 0 (va_A [(a0, .inr (7, [a0g_0, .ref a0_1, .ref a0_2, .ref a0_3, a0g_4, a0g_5, a0g_6, .ref a0_7, a0g_8, a0g_9, a0g_10])), (a0_3, .inr (6, [.int a0_3_0, .int a0_3_1, .ref a0_3_2, .ref a0_3_3])), (a0_2, .inr (5, [.int a0_2_0, .int a0_2_1, .int a0_2_2, .int a0_2_3, .int a0_2_4, .ref a0_2_5, .ref a0_2_6])), (a0_1, .inr (5, [.int a0_1_0, .int a0_1_1, .int a0_1_2, .int a0_1_3, .int a0_1_4, .ref a0_1_5, .ref a0_1_6])), (a0_1_5, .inl (ka0_1_5, 9, .inl (fa0_1_5))), (a0_2_5, .inl (ka0_2_5, 9, .inl (fa0_2_5))), (a0_1_6, .inl (ka0_1_6, 9, .inl (fa0_1_6))), (a0_2_6, .inl (ka0_2_6, 9, .inl (fa0_2_6))), (a0_7, .inr (0, [.int a0_7_0, .int a0_7_1, .int a0_7_2, a0_7g_3, a0_7g_4, .int a0_7_5, .int a0_7_6, a0_7g_7, a0_7g_8, a0_7g_9, .ref a0_7_10, .ref a0_7_11, a0_7g_12, a0_7g_13, a0_7g_14])), (a0_7_10, .inl (ka0_7_10, 9, .inl (fa0_7_10))), (a0_7_11, .inl (ka0_7_11, 9, .inl (fa0_7_11))), (a0_3_3, .inl (ka0_3_3, 3, .inl (fa0_3_3))), (a0_3_2, .inl (ka0_3_2, 3, .inl (fa0_3_2)))] sz) := by
  refine Met.ofW (cc := cX7_postsHold) (maxL := 3) (ret := (some .boolean)) (by decide) rfl ?_
  intro p e s m args below meth c s₁ B hml hv
  obtain ⟨rfl, hsz, hP, hK, hD0, hE⟩ := hv
  have hx := B.exec
  have hb := B.bytes
  have hr := B.returns
  have hts := atoms_spec (ws := wsX7_postsHold) B.pre
  have hown : s.vm.findClass RX7 = some m.cls := findClass_of_methodNamed B.named
  have hlocks := B.notSynchronized
  subst hsz
  have hD := hD0.self (sz := s.heap.size)
  generalize hAe : va_A [(a0, .inr (7, [a0g_0, .ref a0_1, .ref a0_2, .ref a0_3, a0g_4, a0g_5, a0g_6, .ref a0_7, a0g_8, a0g_9, a0g_10])), (a0_3, .inr (6, [.int a0_3_0, .int a0_3_1, .ref a0_3_2, .ref a0_3_3])), (a0_2, .inr (5, [.int a0_2_0, .int a0_2_1, .int a0_2_2, .int a0_2_3, .int a0_2_4, .ref a0_2_5, .ref a0_2_6])), (a0_1, .inr (5, [.int a0_1_0, .int a0_1_1, .int a0_1_2, .int a0_1_3, .int a0_1_4, .ref a0_1_5, .ref a0_1_6])), (a0_1_5, .inl (ka0_1_5, 9, .inl (fa0_1_5))), (a0_2_5, .inl (ka0_2_5, 9, .inl (fa0_2_5))), (a0_1_6, .inl (ka0_1_6, 9, .inl (fa0_1_6))), (a0_2_6, .inl (ka0_2_6, 9, .inl (fa0_2_6))), (a0_7, .inr (0, [.int a0_7_0, .int a0_7_1, .int a0_7_2, a0_7g_3, a0_7g_4, .int a0_7_5, .int a0_7_6, a0_7g_7, a0_7g_8, a0_7g_9, .ref a0_7_10, .ref a0_7_11, a0_7g_12, a0_7g_13, a0_7g_14])), (a0_7_10, .inl (ka0_7_10, 9, .inl (fa0_7_10))), (a0_7_11, .inl (ka0_7_11, 9, .inl (fa0_7_11))), (a0_3_3, .inl (ka0_3_3, 3, .inl (fa0_3_3))), (a0_3_2, .inl (ka0_3_2, 3, .inl (fa0_3_2)))] s.heap.size = A at hD ⊢
  have hA : ∀ q : Nat, s.heap.size ≤ q → A q := fun q h => by rw [← hAe]; exact Or.inr h
  have hS : va_S A s.heap s.heap [] := va_S.rf
  have hP : va_P (dC, dI) vwCl [(a0, .inr (7, [a0g_0, .ref a0_1, .ref a0_2, .ref a0_3, a0g_4, a0g_5, a0g_6, .ref a0_7, a0g_8, a0g_9, a0g_10])), (a0_3, .inr (6, [.int a0_3_0, .int a0_3_1, .ref a0_3_2, .ref a0_3_3])), (a0_2, .inr (5, [.int a0_2_0, .int a0_2_1, .int a0_2_2, .int a0_2_3, .int a0_2_4, .ref a0_2_5, .ref a0_2_6])), (a0_1, .inr (5, [.int a0_1_0, .int a0_1_1, .int a0_1_2, .int a0_1_3, .int a0_1_4, .ref a0_1_5, .ref a0_1_6])), (a0_1_5, .inl (ka0_1_5, 9, .inl (fa0_1_5))), (a0_2_5, .inl (ka0_2_5, 9, .inl (fa0_2_5))), (a0_1_6, .inl (ka0_1_6, 9, .inl (fa0_1_6))), (a0_2_6, .inl (ka0_2_6, 9, .inl (fa0_2_6))), (a0_7, .inr (0, [.int a0_7_0, .int a0_7_1, .int a0_7_2, a0_7g_3, a0_7g_4, .int a0_7_5, .int a0_7_6, a0_7g_7, a0_7g_8, a0_7g_9, .ref a0_7_10, .ref a0_7_11, a0_7g_12, a0_7g_13, a0_7g_14])), (a0_7_10, .inl (ka0_7_10, 9, .inl (fa0_7_10))), (a0_7_11, .inl (ka0_7_11, 9, .inl (fa0_7_11))), (a0_3_3, .inl (ka0_3_3, 3, .inl (fa0_3_3))), (a0_3_2, .inl (ka0_3_2, 3, .inl (fa0_3_2)))] s.heap := hP
  obtain ⟨hE0, hE1, hE2⟩ := hE
  have hl := lv_entry ([.ref a0, .int a1, .int a2]) (n := 3) (Nat.le_of_ble_eq_true rfl)
  rw [lg_entry_eq]
  generalize (lg_sl ([.ref a0, .int a1, .int a2]) ++ List.replicate (3 - (lg_sl ([.ref a0, .int a1, .int a2])).length) Slot.unset).toArray = ls at hl ⊢
  have hl : lv_has ls 3 [(0, .ref a0), (1, .int a1), (2, .int a2)] := hl
  refine lv_aload_n hx hb dX7_postsHold_0 rfl (lv_at hl 0 rfl) ?_
  refine va_get (D := (dC, dI)) (ci := 7) (v := .ref a0_3) (C := RX7) (T := TX7) (N := 11) hx hb hts zi_X7_postsHold_7 hown hK hP 0 rfl rfl 3 (by decide) (hts (.fieldLink RX7 29 "WaxTurns" "trial" "LWaxTurns$Watchers;") (zm_X7_postsHold_r1 (List.mem_of_getElem? (i := 0) rfl))) (fun _ h9 => h9) rfl dX7_postsHold_1 ?_
  refine lv_iload_n hx hb dX7_postsHold_4 rfl (lv_at hl 1 rfl) ?_
  refine va_put (D := (dC, dI)) (ci := 6) (v := .int a1) (ty := .int) (C := RX6) (T := TX6) (N := 4) hx hb hts zi_X7_postsHold_6 tyX6 tyX6_ok nmX6 hown hK hP hD hS 1 rfl rfl 1 (by decide) (hts (.fieldLink RX7 375 "WaxTurns$Watchers" "posts" "I") (zm_X7_postsHold_r1 (List.mem_of_getElem? (i := 1) rfl))) (fun _ h9 => h9) rfl (tyX6_ok 1 (by decide)) rfl rfl (Nat.le_of_ble_eq_true rfl) dX7_postsHold_5 (fun H locs hP hD hS => ?_)
  obtain ⟨hP, hD⟩ := zc_re (w := [(a0, .inr (7, [a0g_0, .ref a0_1, .ref a0_2, .ref a0_3, a0g_4, a0g_5, a0g_6, .ref a0_7, a0g_8, a0g_9, a0g_10])), (a0_3, .inr (6, [.int a0_3_0, .int a1, .ref a0_3_2, .ref a0_3_3])), (a0_2, .inr (5, [.int a0_2_0, .int a0_2_1, .int a0_2_2, .int a0_2_3, .int a0_2_4, .ref a0_2_5, .ref a0_2_6])), (a0_1, .inr (5, [.int a0_1_0, .int a0_1_1, .int a0_1_2, .int a0_1_3, .int a0_1_4, .ref a0_1_5, .ref a0_1_6])), (a0_1_5, .inl (ka0_1_5, 9, .inl (fa0_1_5))), (a0_2_5, .inl (ka0_2_5, 9, .inl (fa0_2_5))), (a0_1_6, .inl (ka0_1_6, 9, .inl (fa0_1_6))), (a0_2_6, .inl (ka0_2_6, 9, .inl (fa0_2_6))), (a0_7, .inr (0, [.int a0_7_0, .int a0_7_1, .int a0_7_2, a0_7g_3, a0_7g_4, .int a0_7_5, .int a0_7_6, a0_7g_7, a0_7g_8, a0_7g_9, .ref a0_7_10, .ref a0_7_11, a0_7g_12, a0_7g_13, a0_7g_14])), (a0_7_10, .inl (ka0_7_10, 9, .inl (fa0_7_10))), (a0_7_11, .inl (ka0_7_11, 9, .inl (fa0_7_11))), (a0_3_3, .inl (ka0_3_3, 3, .inl (fa0_3_3))), (a0_3_2, .inl (ka0_3_2, 3, .inl (fa0_3_2)))]) hP hD rfl
  refine lv_aload_n hx hb dX7_postsHold_8 rfl (lv_at hl 0 rfl) ?_
  refine va_get (D := (dC, dI)) (ci := 7) (v := .ref a0_2) (C := RX7) (T := TX7) (N := 11) hx hb hts zi_X7_postsHold_7 hown hK hP 0 rfl rfl 2 (by decide) (hts (.fieldLink RX7 23 "WaxTurns" "ahead" "LWaxTurns$Scene;") (zm_X7_postsHold_r1 (List.mem_of_getElem? (i := 2) rfl))) (fun _ h9 => h9) rfl dX7_postsHold_9 ?_
  refine lv_aload_n hx hb dX7_postsHold_12 rfl (lv_at hl 0 rfl) ?_
  refine va_get (D := (dC, dI)) (ci := 7) (v := .ref a0_1) (C := RX7) (T := TX7) (N := 11) hx hb hts zi_X7_postsHold_7 hown hK hP 0 rfl rfl 1 (by decide) (hts (.fieldLink RX7 19 "WaxTurns" "now" "LWaxTurns$Scene;") (zm_X7_postsHold_r1 (List.mem_of_getElem? (i := 3) rfl))) (fun _ h9 => h9) rfl dX7_postsHold_13 ?_
  obtain ⟨hPc, hDc, hFc, hCc⟩ := zc_cut (wc := [(a0_2, .inr (5, [.int a0_2_0, .int a0_2_1, .int a0_2_2, .int a0_2_3, .int a0_2_4, .ref a0_2_5, .ref a0_2_6])), (a0_1, .inr (5, [.int a0_1_0, .int a0_1_1, .int a0_1_2, .int a0_1_3, .int a0_1_4, .ref a0_1_5, .ref a0_1_6])), (a0_1_5, .inl (ka0_1_5, 9, .inl (fa0_1_5))), (a0_2_5, .inl (ka0_2_5, 9, .inl (fa0_2_5))), (a0_1_6, .inl (ka0_1_6, 9, .inl (fa0_1_6))), (a0_2_6, .inl (ka0_2_6, 9, .inl (fa0_2_6)))]) hP hD hS hA [2, 3, 4, 5, 6, 7] (by decide +kernel) rfl
  have hKc := hK.sub (tys' := [(ka0_1_5, .int), (ka0_2_5, .int), (ka0_1_6, .int), (ka0_2_6, .int)]) [0, 1, 2, 3] rfl
  refine va_callv (va_runV (As := [.ref a0_1]) (rest := []) ⟨hx, hb, hml, hown, hts⟩ (c_X5_copyFrom l dC dI H.size a0_2 a0_1 a0_2_0 a0_2_1 a0_2_2 a0_2_3 a0_2_4 a0_2_5 a0_2_6 a0_1_0 a0_1_1 a0_1_2 a0_1_3 a0_1_4 a0_1_5 a0_1_6 ka0_1_5 fa0_1_5 ka0_2_5 fa0_2_5 ka0_1_6 fa0_1_6 ka0_2_6 fa0_2_6 ba0_2_1_l ba0_2_1_u ba0_1_1_l ba0_1_1_u) (cwV 1 hts gX7_postsHold_X5_copyFrom rfl rfl rfl zd_X5_copyFrom ⟨Nat.le_of_ble_eq_true rfl, Nat.le_of_ble_eq_true rfl⟩) ⟨ax_blind (fun _ _ _ _ _ => trivial), zr_5 hKc hPc (q0 := 0) rfl, ax_pre hPc hKc hDc (fun _ _ => trivial)⟩ rfl rfl hl.1 rfl (lv_room (Nat.le_of_ble_eq_true rfl)) dX7_postsHold_16 ⟨Nat.le_of_ble_eq_true rfl, Nat.le_of_ble_eq_true rfl⟩) hS (fun q _ h => hFc q h) hFc (fun u t H locs ht hvm hw hB hz1 hk1 hS => ?_)
  obtain ⟨v16na0_0, v16na0_1, v16na0_2, v16na0_3, v16na0_4, v16nfa0_5, v16nfa0_6, bv16na0_1, hP1, hK1, hD1⟩ := hB
  rw [ht] at hP1
  obtain ⟨hP, hD⟩ := zc_back (w := [(a0, .inr (7, [a0g_0, .ref a0_1, .ref a0_2, .ref a0_3, a0g_4, a0g_5, a0g_6, .ref a0_7, a0g_8, a0g_9, a0g_10])), (a0_3, .inr (6, [.int a0_3_0, .int a1, .ref a0_3_2, .ref a0_3_3])), (a0_2, .inr (5, [.int v16na0_0, .int v16na0_1, .int v16na0_2, .int v16na0_3, .int v16na0_4, .ref a0_2_5, .ref a0_2_6])), (a0_1, .inr (5, [.int a0_1_0, .int a0_1_1, .int a0_1_2, .int a0_1_3, .int a0_1_4, .ref a0_1_5, .ref a0_1_6])), (a0_1_5, .inl (ka0_1_5, 9, .inl (fa0_1_5))), (a0_2_5, .inl (ka0_2_5, 9, .inl (v16nfa0_5))), (a0_1_6, .inl (ka0_1_6, 9, .inl (fa0_1_6))), (a0_2_6, .inl (ka0_2_6, 9, .inl (v16nfa0_6))), (a0_7, .inr (0, [.int a0_7_0, .int a0_7_1, .int a0_7_2, a0_7g_3, a0_7g_4, .int a0_7_5, .int a0_7_6, a0_7g_7, a0_7g_8, a0_7g_9, .ref a0_7_10, .ref a0_7_11, a0_7g_12, a0_7g_13, a0_7g_14])), (a0_7_10, .inl (ka0_7_10, 9, .inl (fa0_7_10))), (a0_7_11, .inl (ka0_7_11, 9, .inl (fa0_7_11))), (a0_3_3, .inl (ka0_3_3, 3, .inl (fa0_3_3))), (a0_3_2, .inl (ka0_3_2, 3, .inl (fa0_3_2)))]) hP hD hCc hk1 hFc hP1 hD1 [.inl 0, .inl 1, .inr 0, .inr 1, .inr 2, .inr 3, .inr 4, .inr 5, .inl 8, .inl 9, .inl 10, .inl 11, .inl 12] (by decide +kernel) rfl
  refine lv_aload_n hx hb dX7_postsHold_19 rfl (lv_at hl 0 rfl) ?_
  refine lv_aload_n hx hb dX7_postsHold_20 rfl (lv_at hl 0 rfl) ?_
  refine va_get (D := (dC, dI)) (ci := 7) (v := .ref a0_3) (C := RX7) (T := TX7) (N := 11) hx hb hts zi_X7_postsHold_7 hown hK hP 0 rfl rfl 3 (by decide) (hts (.fieldLink RX7 29 "WaxTurns" "trial" "LWaxTurns$Watchers;") (zm_X7_postsHold_r1 (List.mem_of_getElem? (i := 0) rfl))) (fun _ h9 => h9) rfl dX7_postsHold_21 ?_
  refine lv_iload_n hx hb dX7_postsHold_24 rfl (lv_at hl 2 rfl) ?_
  obtain ⟨hPc, hDc, hFc, hCc⟩ := zc_cut (wc := [(a0, .inr (7, [a0g_0, .ref a0_1, .ref a0_2, .ref a0_3, a0g_4, a0g_5, a0g_6, .ref a0_7, a0g_8, a0g_9, a0g_10])), (a0_2, .inr (5, [.int v16na0_0, .int v16na0_1, .int v16na0_2, .int v16na0_3, .int v16na0_4, .ref a0_2_5, .ref a0_2_6])), (a0_7, .inr (0, [.int a0_7_0, .int a0_7_1, .int a0_7_2, a0_7g_3, a0_7g_4, .int a0_7_5, .int a0_7_6, a0_7g_7, a0_7g_8, a0_7g_9, .ref a0_7_10, .ref a0_7_11, a0_7g_12, a0_7g_13, a0_7g_14])), (a0_7_10, .inl (ka0_7_10, 9, .inl (fa0_7_10))), (a0_7_11, .inl (ka0_7_11, 9, .inl (fa0_7_11))), (a0_2_5, .inl (ka0_2_5, 9, .inl (v16nfa0_5))), (a0_3, .inr (6, [.int a0_3_0, .int a1, .ref a0_3_2, .ref a0_3_3])), (a0_3_3, .inl (ka0_3_3, 3, .inl (fa0_3_3))), (a0_3_2, .inl (ka0_3_2, 3, .inl (fa0_3_2))), (a0_2_6, .inl (ka0_2_6, 9, .inl (v16nfa0_6)))]) hP hD hS hA [0, 2, 8, 9, 10, 5, 1, 11, 12, 7] (by decide +kernel) rfl
  have hKc := hK.sub (tys' := [(ka0_7_10, .int), (ka0_7_11, .int), (ka0_2_5, .int), (ka0_3_3, .int), (ka0_3_2, .int), (ka0_2_6, .int)]) [4, 5, 1, 6, 7, 3] rfl
  refine va_calli (va_runV (As := [.ref a0_3, .int a2]) (rest := []) ⟨hx, hb, hml, hown, hts⟩ (c_X7_minutesTillGone l dC dI H.size a0 a0_3 a2 a0g_0 (.ref a0_1) (.ref a0_3) a0g_4 a0g_5 a0g_6 a0g_8 a0g_9 a0g_10 a0_2 a0_7 v16na0_0 v16na0_1 v16na0_2 v16na0_3 v16na0_4 a0_2_5 a0_2_6 a0_7_0 a0_7_1 a0_7_2 a0_7g_3 a0_7g_4 a0_7g_7 a0_7g_8 a0_7g_9 a0_7g_12 a0_7g_13 a0_7g_14 a0_7_5 a0_7_6 a0_7_10 a0_7_11 ka0_7_10 fa0_7_10 ka0_7_11 fa0_7_11 ka0_2_5 v16nfa0_5 a0_3_0 a1 a0_3_2 a0_3_3 ka0_3_3 fa0_3_3 ka0_3_2 fa0_3_2 ka0_2_6 v16nfa0_6 ba2_l (Int.le_trans ba2_u zq63) bv16na0_1.1 bv16na0_1.2 ba0_7_0_l ba0_7_0_u ba0_7_5_l ba0_7_5_u ba0_7_6_l ba0_7_6_u ba0_3_0_l ba0_3_0_u bfa0_3_3 bfa0_3_2) (cwV 2 hts gX7_postsHold_X7_minutesTillGone rfl rfl rfl zd_X7_minutesTillGone ⟨Nat.le_of_ble_eq_true rfl, Nat.le_of_ble_eq_true rfl⟩) ⟨ax_blind (fun _ _ _ _ hq => ⟨va_Nw.same rfl rfl (hq.1), va_Nw.same rfl rfl (hq.2.1), va_Nw.same rfl rfl (hq.2.2)⟩), zr_7 hKc hPc (q0 := 0) rfl, ax_pre hPc hKc hDc (fun _ hW => ⟨va_Nw.warmM hW hE0, va_Nw.warmM hW hE1, va_Nw.warmM hW hE2⟩)⟩ rfl rfl hl.1 rfl (lv_room (Nat.le_of_ble_eq_true rfl)) dX7_postsHold_25 ⟨Nat.le_of_ble_eq_true rfl, Nat.le_of_ble_eq_true rfl⟩) hS (fun q _ h => hFc q h) hFc (fun r25 u t H locs ht hvm hw hB hz1 hk1 hS => ?_)
  obtain ⟨v25na0_2_0, v25na0_2_1, v25na0_2_2, v25na0_2_3, v25na0_2_4, v25nfa0_2_5, v25nfa0_2_6, bv25na0_2_1, hP1, hK1, hD1⟩ := hB
  rw [ht] at hP1
  obtain ⟨hP, hD⟩ := zc_back (w := [(a0, .inr (7, [a0g_0, .ref a0_1, .ref a0_2, .ref a0_3, a0g_4, a0g_5, a0g_6, .ref a0_7, a0g_8, a0g_9, a0g_10])), (a0_3, .inr (6, [.int a0_3_0, .int a1, .ref a0_3_2, .ref a0_3_3])), (a0_2, .inr (5, [.int v25na0_2_0, .int v25na0_2_1, .int v25na0_2_2, .int v25na0_2_3, .int v25na0_2_4, .ref a0_2_5, .ref a0_2_6])), (a0_1, .inr (5, [.int a0_1_0, .int a0_1_1, .int a0_1_2, .int a0_1_3, .int a0_1_4, .ref a0_1_5, .ref a0_1_6])), (a0_1_5, .inl (ka0_1_5, 9, .inl (fa0_1_5))), (a0_2_5, .inl (ka0_2_5, 9, .inl (v25nfa0_2_5))), (a0_1_6, .inl (ka0_1_6, 9, .inl (fa0_1_6))), (a0_2_6, .inl (ka0_2_6, 9, .inl (v25nfa0_2_6))), (a0_7, .inr (0, [.int a0_7_0, .int a0_7_1, .int a0_7_2, a0_7g_3, a0_7g_4, .int a0_7_5, .int a0_7_6, a0_7g_7, a0_7g_8, a0_7g_9, .ref a0_7_10, .ref a0_7_11, a0_7g_12, a0_7g_13, a0_7g_14])), (a0_7_10, .inl (ka0_7_10, 9, .inl (fa0_7_10))), (a0_7_11, .inl (ka0_7_11, 9, .inl (fa0_7_11))), (a0_3_3, .inl (ka0_3_3, 3, .inl (fa0_3_3))), (a0_3_2, .inl (ka0_3_2, 3, .inl (fa0_3_2)))]) hP hD hCc hk1 hFc hP1 hD1 [.inr 0, .inr 6, .inr 1, .inl 3, .inl 4, .inr 5, .inl 6, .inr 9, .inr 2, .inr 3, .inr 4, .inr 7, .inr 8] (by decide +kernel) rfl
  have hw : (-2 : Int) ≤ r25.toInt ∧ r25.toInt ≤ (300 : Int) := hw
  obtain ⟨h25_0, h25_1⟩ := hw
  refine lv_bipush (v := (-2)) hx hb dX7_postsHold_28 zk_bipush_n2 ?_
  refine lv_icmp_ne (tgt := 37) hx hb dX7_postsHold_30 (by decide) (fun c30 => ?_) (fun c30 => ?_)
  · have gc30 := ai_ne c30
    have l30t_r25 : (-1 : Int) ≤ r25.toInt := (by have h1 := h25_0; have h2 : ((-2) : Int32).toInt = -2 := (by decide); rw [h2] at gc30; omega)
    refine lv_iconst (v := 0) hx hb dX7_postsHold_37 zk_iconst_0 ?_
    exact W.zret (v := 0) hx hb hr rfl (fun t ht hW => ⟨⟨0, (), rfl, (Or.inr (rfl)), a1, v25na0_2_0, v25na0_2_1, v25na0_2_2, v25na0_2_3, v25na0_2_4, v25nfa0_2_5, v25nfa0_2_6, ⟨bv25na0_2_1.1, bv25na0_2_1.2⟩, by rw [ht]; exact hP, va_K.moved hW.alike hK, hD⟩, hS.F ht⟩) hS.2.2 dX7_postsHold_38
  · have gc30 := ai_eq c30
    have u30f_r25 : r25.toInt ≤ (-2 : Int) := Int.le_trans (Int.le_of_eq gc30) zq44
    have l30f_r25 : (-2 : Int) ≤ r25.toInt := h25_0
    refine lv_iconst (v := 1) hx hb dX7_postsHold_33 zk_iconst_1 ?_
    refine lv_goto (tgt := 38) hx hb dX7_postsHold_34 (by decide) ?_
    exact W.zret (v := 1) hx hb hr rfl (fun t ht hW => ⟨⟨1, (), rfl, (Or.inl (rfl)), a1, v25na0_2_0, v25na0_2_1, v25na0_2_2, v25na0_2_3, v25na0_2_4, v25nfa0_2_5, v25nfa0_2_6, ⟨bv25na0_2_1.1, bv25na0_2_1.2⟩, by rw [ht]; exact hP, va_K.moved hW.alike hK, hD⟩, hS.F ht⟩) hS.2.2 dX7_postsHold_38

set_option maxHeartbeats 4000000 in
set_option maxRecDepth 100000 in
theorem c_X7_figureShare (l : Launch) (dC : Nat → ClassId) (dI : Nat → Nat → Nat) (sz : Nat) (a1 : Int32) (a2 : Int32) (a3 : Int32)  : Met l yX7_figureShare wsX7_figureShare ({ frames := 0, cells := 0, slots := 0, locals := 0 }) (va_Pc [.int a1, .int a2, .int a3] (ax_C dC dI sz [] [] (fun _ => True))) (va_Qi (fun (r : Int32) (_ : Unit) => True) (fun (_ : Unit) (t : State) => ax_B dC dI (va_A [] sz) [] [] t) (va_A [] sz)) 0 0 (va_A [] sz) := by
  refine Met.ofW (cc := cX7_figureShare) (maxL := 3) (ret := (some .int)) (by decide) rfl ?_
  intro p e s m args below meth c s₁ B hml hv
  obtain ⟨rfl, hsz, hP, hK, hD0, hE⟩ := hv
  have hx := B.exec
  have hb := B.bytes
  have hr := B.returns
  have hts := atoms_spec (ws := wsX7_figureShare) B.pre
  have hown : s.vm.findClass RX7 = some m.cls := findClass_of_methodNamed B.named
  have hlocks := B.notSynchronized
  subst hsz
  have hD := hD0.self (sz := s.heap.size)
  generalize hAe : va_A [] s.heap.size = A at hD ⊢
  have hA : ∀ q : Nat, s.heap.size ≤ q → A q := fun q h => by rw [← hAe]; exact Or.inr h
  have hS : va_S A s.heap s.heap [] := va_S.rf
  have hP : va_P (dC, dI) vwCl [] s.heap := hP
  have hl := lv_entry ([.int a1, .int a2, .int a3]) (n := 3) (Nat.le_of_ble_eq_true rfl)
  rw [lg_entry_eq]
  generalize (lg_sl ([.int a1, .int a2, .int a3]) ++ List.replicate (3 - (lg_sl ([.int a1, .int a2, .int a3])).length) Slot.unset).toArray = ls at hl ⊢
  have hl : lv_has ls 3 [(0, .int a1), (1, .int a2), (2, .int a3)] := hl
  refine lv_iload_n hx hb dX7_figureShare_0 rfl (lv_at hl 1 rfl) ?_
  refine lv_if_eq (tgt := 15) hx hb dX7_figureShare_1 (by decide) (fun c1 => ?_) (fun c1 => ?_)
  · have gc1 := ai_eq c1
    have u1t_a2 : a2.toInt ≤ (0 : Int) := Int.le_trans (Int.le_of_eq gc1) zq6
    have l1t_a2 : (0 : Int) ≤ a2.toInt := Int.le_trans zq5 (Int.le_of_eq gc1.symm)
    refine lv_iload_n hx hb dX7_figureShare_15 rfl (lv_at hl 2 rfl) ?_
    refine lv_if_eq (tgt := 23) hx hb dX7_figureShare_16 (by decide) (fun c16 => ?_) (fun c16 => ?_)
    · have gc16 := ai_eq c16
      have u16t_a3 : a3.toInt ≤ (0 : Int) := Int.le_trans (Int.le_of_eq gc16) zq6
      have l16t_a3 : (0 : Int) ≤ a3.toInt := Int.le_trans zq5 (Int.le_of_eq gc16.symm)
      refine lv_iconst (v := 0) hx hb dX7_figureShare_23 zk_iconst_0 ?_
      exact W.iret (v := 0) hx hb hr (fun t ht hW => ⟨⟨0, (), rfl, trivial, by rw [ht]; exact hP, va_K.moved hW.alike hK, hD⟩, hS.F ht⟩) hS.2.2 dX7_figureShare_24
    · have gc16 := ai_ne c16
      refine lv_iconst (v := 1) hx hb dX7_figureShare_19 zk_iconst_1 ?_
      refine lv_goto (tgt := 24) hx hb dX7_figureShare_20 (by decide) ?_
      exact W.iret (v := 1) hx hb hr (fun t ht hW => ⟨⟨1, (), rfl, trivial, by rw [ht]; exact hP, va_K.moved hW.alike hK, hD⟩, hS.F ht⟩) hS.2.2 dX7_figureShare_24
  · have gc1 := ai_ne c1
    refine lv_iload_n hx hb dX7_figureShare_4 rfl (lv_at hl 2 rfl) ?_
    refine lv_if_eq (tgt := 13) hx hb dX7_figureShare_5 (by decide) (fun c5 => ?_) (fun c5 => ?_)
    · have gc5 := ai_eq c5
      have u5t_a3 : a3.toInt ≤ (0 : Int) := Int.le_trans (Int.le_of_eq gc5) zq6
      have l5t_a3 : (0 : Int) ≤ a3.toInt := Int.le_trans zq5 (Int.le_of_eq gc5.symm)
      refine lv_iconst (v := 4) hx hb dX7_figureShare_13 zk_iconst_4 ?_
      exact W.iret (v := 4) hx hb hr (fun t ht hW => ⟨⟨4, (), rfl, trivial, by rw [ht]; exact hP, va_K.moved hW.alike hK, hD⟩, hS.F ht⟩) hS.2.2 dX7_figureShare_14
    · have gc5 := ai_ne c5
      refine lv_iload_n hx hb dX7_figureShare_8 rfl (lv_at hl 0 rfl) ?_
      refine lv_ineg hx hb dX7_figureShare_9 ?_
      refine lv_topi (fun x9 ex9 => ?_)
      refine lv_goto (tgt := 14) hx hb dX7_figureShare_10 (by decide) ?_
      exact W.iret (v := x9) hx hb hr (fun t ht hW => ⟨⟨x9, (), rfl, trivial, by rw [ht]; exact hP, va_K.moved hW.alike hK, hD⟩, hS.F ht⟩) hS.2.2 dX7_figureShare_14

set_option maxHeartbeats 4000000 in
set_option maxRecDepth 100000 in
theorem c_X7_attendantShare (l : Launch) (dC : Nat → ClassId) (dI : Nat → Nat → Nat) (sz : Nat) (a1 : Int32) (a2 : Int32)  : Met l yX7_attendantShare wsX7_attendantShare ({ frames := 0, cells := 0, slots := 0, locals := 0 }) (va_Pc [.int a1, .int a2] (ax_C dC dI sz [] [] (fun _ => True))) (va_Qi (fun (r : Int32) (_ : Unit) => (r = 3) ∨ (r = 1 ∧ (0 : Int) ≤ a1.toInt ∧ a1.toInt ≤ (0 : Int) ∧ (0 : Int) ≤ a2.toInt ∧ a2.toInt ≤ (0 : Int)) ∨ (r = 0 ∧ (0 : Int) ≤ a2.toInt ∧ a2.toInt ≤ (0 : Int)) ∨ (r = (-1) ∧ (0 : Int) ≤ a1.toInt ∧ a1.toInt ≤ (0 : Int))) (fun (_ : Unit) (t : State) => ax_B dC dI (va_A [] sz) [] [] t) (va_A [] sz)) 0 0 (va_A [] sz) := by
  refine Met.ofW (cc := cX7_attendantShare) (maxL := 2) (ret := (some .int)) (by decide) rfl ?_
  intro p e s m args below meth c s₁ B hml hv
  obtain ⟨rfl, hsz, hP, hK, hD0, hE⟩ := hv
  have hx := B.exec
  have hb := B.bytes
  have hr := B.returns
  have hts := atoms_spec (ws := wsX7_attendantShare) B.pre
  have hown : s.vm.findClass RX7 = some m.cls := findClass_of_methodNamed B.named
  have hlocks := B.notSynchronized
  subst hsz
  have hD := hD0.self (sz := s.heap.size)
  generalize hAe : va_A [] s.heap.size = A at hD ⊢
  have hA : ∀ q : Nat, s.heap.size ≤ q → A q := fun q h => by rw [← hAe]; exact Or.inr h
  have hS : va_S A s.heap s.heap [] := va_S.rf
  have hP : va_P (dC, dI) vwCl [] s.heap := hP
  have hl := lv_entry ([.int a1, .int a2]) (n := 2) (Nat.le_of_ble_eq_true rfl)
  rw [lg_entry_eq]
  generalize (lg_sl ([.int a1, .int a2]) ++ List.replicate (2 - (lg_sl ([.int a1, .int a2])).length) Slot.unset).toArray = ls at hl ⊢
  have hl : lv_has ls 2 [(0, .int a1), (1, .int a2)] := hl
  refine lv_iload_n hx hb dX7_attendantShare_0 rfl (lv_at hl 0 rfl) ?_
  refine lv_if_eq (tgt := 14) hx hb dX7_attendantShare_1 (by decide) (fun c1 => ?_) (fun c1 => ?_)
  · have gc1 := ai_eq c1
    have u1t_a1 : a1.toInt ≤ (0 : Int) := Int.le_trans (Int.le_of_eq gc1) zq6
    have l1t_a1 : (0 : Int) ≤ a1.toInt := Int.le_trans zq5 (Int.le_of_eq gc1.symm)
    refine lv_iload_n hx hb dX7_attendantShare_14 rfl (lv_at hl 1 rfl) ?_
    refine lv_if_eq (tgt := 22) hx hb dX7_attendantShare_15 (by decide) (fun c15 => ?_) (fun c15 => ?_)
    · have gc15 := ai_eq c15
      have u15t_a2 : a2.toInt ≤ (0 : Int) := Int.le_trans (Int.le_of_eq gc15) zq6
      have l15t_a2 : (0 : Int) ≤ a2.toInt := Int.le_trans zq5 (Int.le_of_eq gc15.symm)
      refine lv_iconst (v := 1) hx hb dX7_attendantShare_22 zk_iconst_1 ?_
      exact W.iret (v := 1) hx hb hr (fun t ht hW => ⟨⟨1, (), rfl, (Or.inr (Or.inl ⟨rfl, l1t_a1, u1t_a1, l15t_a2, u15t_a2⟩)), by rw [ht]; exact hP, va_K.moved hW.alike hK, hD⟩, hS.F ht⟩) hS.2.2 dX7_attendantShare_23
    · have gc15 := ai_ne c15
      refine lv_iconst (v := (-1)) hx hb dX7_attendantShare_18 zk_iconst_n1 ?_
      refine lv_goto (tgt := 23) hx hb dX7_attendantShare_19 (by decide) ?_
      exact W.iret (v := (-1)) hx hb hr (fun t ht hW => ⟨⟨(-1), (), rfl, (Or.inr (Or.inr (Or.inr (⟨rfl, l1t_a1, u1t_a1⟩)))), by rw [ht]; exact hP, va_K.moved hW.alike hK, hD⟩, hS.F ht⟩) hS.2.2 dX7_attendantShare_23
  · have gc1 := ai_ne c1
    refine lv_iload_n hx hb dX7_attendantShare_4 rfl (lv_at hl 1 rfl) ?_
    refine lv_if_eq (tgt := 12) hx hb dX7_attendantShare_5 (by decide) (fun c5 => ?_) (fun c5 => ?_)
    · have gc5 := ai_eq c5
      have u5t_a2 : a2.toInt ≤ (0 : Int) := Int.le_trans (Int.le_of_eq gc5) zq6
      have l5t_a2 : (0 : Int) ≤ a2.toInt := Int.le_trans zq5 (Int.le_of_eq gc5.symm)
      refine lv_iconst (v := 0) hx hb dX7_attendantShare_12 zk_iconst_0 ?_
      exact W.iret (v := 0) hx hb hr (fun t ht hW => ⟨⟨0, (), rfl, (Or.inr (Or.inr (Or.inl ⟨rfl, l5t_a2, u5t_a2⟩))), by rw [ht]; exact hP, va_K.moved hW.alike hK, hD⟩, hS.F ht⟩) hS.2.2 dX7_attendantShare_13
    · have gc5 := ai_ne c5
      refine lv_iconst (v := 3) hx hb dX7_attendantShare_8 zk_iconst_3 ?_
      refine lv_goto (tgt := 13) hx hb dX7_attendantShare_9 (by decide) ?_
      exact W.iret (v := 3) hx hb hr (fun t ht hW => ⟨⟨3, (), rfl, (Or.inl (rfl)), by rw [ht]; exact hP, va_K.moved hW.alike hK, hD⟩, hS.F ht⟩) hS.2.2 dX7_attendantShare_13

set_option maxHeartbeats 4000000 in
set_option maxRecDepth 100000 in
theorem c_X7_isRest (l : Launch) (dC : Nat → ClassId) (dI : Nat → Nat → Nat) (sz : Nat) (a1 : Int32) (a2 : Int32) (a3 : Int32)  : Met l yX7_isRest wsX7_isRest ({ frames := 1, cells := 0, slots := 0, locals := 22 }) (va_Pc [.int a1, .int a2, .int a3] (ax_C dC dI sz [] [] (fun _ => True))) (va_Qi (fun (r : Int32) (_ : Unit) => (r = 1) ∨ (r = 0)) (fun (_ : Unit) (t : State) => ax_B dC dI (va_A [] sz) [] [] t) (va_A [] sz)) 0 0 (va_A [] sz) := by
  refine Met.ofW (cc := cX7_isRest) (maxL := 3) (ret := (some .boolean)) (by decide) rfl ?_
  intro p e s m args below meth c s₁ B hml hv
  obtain ⟨rfl, hsz, hP, hK, hD0, hE⟩ := hv
  have hx := B.exec
  have hb := B.bytes
  have hr := B.returns
  have hts := atoms_spec (ws := wsX7_isRest) B.pre
  have hown : s.vm.findClass RX7 = some m.cls := findClass_of_methodNamed B.named
  have hlocks := B.notSynchronized
  subst hsz
  have hD := hD0.self (sz := s.heap.size)
  generalize hAe : va_A [] s.heap.size = A at hD ⊢
  have hA : ∀ q : Nat, s.heap.size ≤ q → A q := fun q h => by rw [← hAe]; exact Or.inr h
  have hS : va_S A s.heap s.heap [] := va_S.rf
  have hP : va_P (dC, dI) vwCl [] s.heap := hP
  have hl := lv_entry ([.int a1, .int a2, .int a3]) (n := 3) (Nat.le_of_ble_eq_true rfl)
  rw [lg_entry_eq]
  generalize (lg_sl ([.int a1, .int a2, .int a3]) ++ List.replicate (3 - (lg_sl ([.int a1, .int a2, .int a3])).length) Slot.unset).toArray = ls at hl ⊢
  have hl : lv_has ls 3 [(0, .int a1), (1, .int a2), (2, .int a3)] := hl
  refine lv_iload_n hx hb dX7_isRest_0 rfl (lv_at hl 0 rfl) ?_
  refine lv_iload_n hx hb dX7_isRest_1 rfl (lv_at hl 1 rfl) ?_
  refine lv_iload_n hx hb dX7_isRest_2 rfl (lv_at hl 2 rfl) ?_
  obtain ⟨hPc, hDc, hFc, hCc⟩ := zc_cut (wc := []) hP hD hS hA [] (by decide +kernel) rfl
  have hKc := hK.sub (tys' := []) [] rfl
  refine va_calli (va_runS (As := [.int a1, .int a2, .int a3]) (rest := []) ⟨hx, hb, hml, hown, hts⟩ (c_X7_figureShare l dC dI s.heap.size a1 a2 a3 ) (va_cwS 3 hts gX7_isRest_X7_figureShare rfl rfl rfl zd_X7_figureShare.2 ⟨Nat.le_of_ble_eq_true rfl, Nat.le_of_ble_eq_true rfl⟩) ⟨ax_blind (fun _ _ _ _ _ => trivial), ax_pre hPc hKc hDc (fun _ _ => trivial)⟩ rfl rfl hl.1 rfl (lv_room (Nat.le_of_ble_eq_true rfl)) dX7_isRest_3 ⟨Nat.le_of_ble_eq_true rfl, Nat.le_of_ble_eq_true rfl⟩) hS (fun q _ h => hFc q h) hFc (fun r3 u t H locs ht hvm hw hB hz1 hk1 hS => ?_)
  obtain ⟨hP1, hK1, hD1⟩ := hB
  rw [ht] at hP1
  obtain ⟨hP, hD⟩ := zc_back (w := []) hP hD hCc hk1 hFc hP1 hD1 [] (by decide +kernel) rfl
  refine lv_iload_n hx hb dX7_isRest_6 rfl (lv_at hl 0 rfl) ?_
  refine lv_iload_n hx hb dX7_isRest_7 rfl (lv_at hl 1 rfl) ?_
  refine lv_if_ne (tgt := 15) hx hb dX7_isRest_8 (by decide) (fun c8 => ?_) (fun c8 => ?_)
  · have gc8 := ai_ne c8
    refine lv_iconst (v := 0) hx hb dX7_isRest_15 zk_iconst_0 ?_
    refine lv_iload_n hx hb dX7_isRest_16 rfl (lv_at hl 2 rfl) ?_
    obtain ⟨hPc, hDc, hFc, hCc⟩ := zc_cut (wc := []) hP hD hS hA [] (by decide +kernel) rfl
    have hKc := hK.sub (tys' := []) [] rfl
    refine va_calli (va_runS (As := [.int a1, .int 0, .int a3]) (rest := [.int r3]) ⟨hx, hb, hml, hown, hts⟩ (c_X7_figureShare l dC dI H.size a1 0 a3 ) (va_cwS 3 hts gX7_isRest_X7_figureShare rfl rfl rfl zd_X7_figureShare.2 ⟨Nat.le_of_ble_eq_true rfl, Nat.le_of_ble_eq_true rfl⟩) ⟨ax_blind (fun _ _ _ _ _ => trivial), ax_pre hPc hKc hDc (fun _ _ => trivial)⟩ rfl rfl hl.1 rfl (lv_room (Nat.le_of_ble_eq_true rfl)) dX7_isRest_17 ⟨Nat.le_of_ble_eq_true rfl, Nat.le_of_ble_eq_true rfl⟩) hS (fun q _ h => hFc q h) hFc (fun r17 u t H locs ht hvm hw hB hz1 hk1 hS => ?_)
    obtain ⟨hP1, hK1, hD1⟩ := hB
    rw [ht] at hP1
    obtain ⟨hP, hD⟩ := zc_back (w := []) hP hD hCc hk1 hFc hP1 hD1 [] (by decide +kernel) rfl
    refine lv_icmp_lt (tgt := 48) hx hb dX7_isRest_20 (by decide) (fun c20 => ?_) (fun c20 => ?_)
    · have gc20 := ai_lt c20
      have u20t_r3 : r3.toInt ≤ (2147483646 : Int) := ai_lthi gc20 (ai_max r17)
      have l20t_r17 : (-2147483647 : Int) ≤ r17.toInt := ai_ltlo gc20 (ai_min r3)
      refine lv_iconst (v := 0) hx hb dX7_isRest_48 zk_iconst_0 ?_
      exact W.zret (v := 0) hx hb hr rfl (fun t ht hW => ⟨⟨0, (), rfl, (Or.inr (rfl)), by rw [ht]; exact hP, va_K.moved hW.alike hK, hD⟩, hS.F ht⟩) hS.2.2 dX7_isRest_49
    · have gc20 := ai_nlt c20
      refine lv_iload_n hx hb dX7_isRest_23 rfl (lv_at hl 1 rfl) ?_
      refine lv_iload_n hx hb dX7_isRest_24 rfl (lv_at hl 2 rfl) ?_
      obtain ⟨hPc, hDc, hFc, hCc⟩ := zc_cut (wc := []) hP hD hS hA [] (by decide +kernel) rfl
      have hKc := hK.sub (tys' := []) [] rfl
      refine va_calli (va_runS (As := [.int a2, .int a3]) (rest := []) ⟨hx, hb, hml, hown, hts⟩ (c_X7_attendantShare l dC dI H.size a2 a3 ) (va_cwS 2 hts gX7_isRest_X7_attendantShare rfl rfl rfl zd_X7_attendantShare.2 ⟨Nat.le_of_ble_eq_true rfl, Nat.le_of_ble_eq_true rfl⟩) ⟨ax_blind (fun _ _ _ _ _ => trivial), ax_pre hPc hKc hDc (fun _ _ => trivial)⟩ rfl rfl hl.1 rfl (lv_room (Nat.le_of_ble_eq_true rfl)) dX7_isRest_25 ⟨Nat.le_of_ble_eq_true rfl, Nat.le_of_ble_eq_true rfl⟩) hS (fun q _ h => hFc q h) hFc (fun r25 u t H locs ht hvm hw hB hz1 hk1 hS => ?_)
      obtain ⟨hP1, hK1, hD1⟩ := hB
      rw [ht] at hP1
      obtain ⟨hP, hD⟩ := zc_back (w := []) hP hD hCc hk1 hFc hP1 hD1 [] (by decide +kernel) rfl
      rcases hw with hw | hw | hw | hw
      · subst hw
        refine lv_iload_n hx hb dX7_isRest_28 rfl (lv_at hl 1 rfl) ?_
        refine lv_iload_n hx hb dX7_isRest_29 rfl (lv_at hl 2 rfl) ?_
        refine lv_if_ne (tgt := 37) hx hb dX7_isRest_30 (by decide) (fun c30 => ?_) (fun c30 => ?_)
        · have gc30 := ai_ne c30
          refine lv_iconst (v := 0) hx hb dX7_isRest_37 zk_iconst_0 ?_
          obtain ⟨hPc, hDc, hFc, hCc⟩ := zc_cut (wc := []) hP hD hS hA [] (by decide +kernel) rfl
          have hKc := hK.sub (tys' := []) [] rfl
          refine va_calli (va_runS (As := [.int a2, .int 0]) (rest := [.int 3]) ⟨hx, hb, hml, hown, hts⟩ (c_X7_attendantShare l dC dI H.size a2 0 ) (va_cwS 2 hts gX7_isRest_X7_attendantShare rfl rfl rfl zd_X7_attendantShare.2 ⟨Nat.le_of_ble_eq_true rfl, Nat.le_of_ble_eq_true rfl⟩) ⟨ax_blind (fun _ _ _ _ _ => trivial), ax_pre hPc hKc hDc (fun _ _ => trivial)⟩ rfl rfl hl.1 rfl (lv_room (Nat.le_of_ble_eq_true rfl)) dX7_isRest_38 ⟨Nat.le_of_ble_eq_true rfl, Nat.le_of_ble_eq_true rfl⟩) hS (fun q _ h => hFc q h) hFc (fun r38 u t H locs ht hvm hw hB hz1 hk1 hS => ?_)
          obtain ⟨hP1, hK1, hD1⟩ := hB
          rw [ht] at hP1
          obtain ⟨hP, hD⟩ := zc_back (w := []) hP hD hCc hk1 hFc hP1 hD1 [] (by decide +kernel) rfl
          rcases hw with hw | hw | hw | hw
          · subst hw
            refine lv_icmp_lt (tgt := 48) hx hb dX7_isRest_41 (by decide) (fun c41 => absurd c41 (by decide +kernel)) (fun _ => ?_)
            refine lv_iconst (v := 1) hx hb dX7_isRest_44 zk_iconst_1 ?_
            refine lv_goto (tgt := 49) hx hb dX7_isRest_45 (by decide) ?_
            exact W.zret (v := 1) hx hb hr rfl (fun t ht hW => ⟨⟨1, (), rfl, (Or.inl (rfl)), by rw [ht]; exact hP, va_K.moved hW.alike hK, hD⟩, hS.F ht⟩) hS.2.2 dX7_isRest_49
          · obtain ⟨hw, h38_0, h38_1, h38_2, h38_3⟩ := hw
            subst hw
            have l38k1_a2 : (0 : Int) ≤ a2.toInt := h38_0
            have u38k1_a2 : a2.toInt ≤ (0 : Int) := h38_1
            refine lv_icmp_lt (tgt := 48) hx hb dX7_isRest_41 (by decide) (fun c41 => absurd c41 (by decide +kernel)) (fun _ => ?_)
            refine lv_iconst (v := 1) hx hb dX7_isRest_44 zk_iconst_1 ?_
            refine lv_goto (tgt := 49) hx hb dX7_isRest_45 (by decide) ?_
            exact W.zret (v := 1) hx hb hr rfl (fun t ht hW => ⟨⟨1, (), rfl, (Or.inl (rfl)), by rw [ht]; exact hP, va_K.moved hW.alike hK, hD⟩, hS.F ht⟩) hS.2.2 dX7_isRest_49
          · obtain ⟨hw, h38_0, h38_1⟩ := hw
            subst hw
            refine lv_icmp_lt (tgt := 48) hx hb dX7_isRest_41 (by decide) (fun c41 => absurd c41 (by decide +kernel)) (fun _ => ?_)
            refine lv_iconst (v := 1) hx hb dX7_isRest_44 zk_iconst_1 ?_
            refine lv_goto (tgt := 49) hx hb dX7_isRest_45 (by decide) ?_
            exact W.zret (v := 1) hx hb hr rfl (fun t ht hW => ⟨⟨1, (), rfl, (Or.inl (rfl)), by rw [ht]; exact hP, va_K.moved hW.alike hK, hD⟩, hS.F ht⟩) hS.2.2 dX7_isRest_49
          · obtain ⟨hw, h38_0, h38_1⟩ := hw
            subst hw
            have l38k3_a2 : (0 : Int) ≤ a2.toInt := h38_0
            have u38k3_a2 : a2.toInt ≤ (0 : Int) := h38_1
            refine lv_icmp_lt (tgt := 48) hx hb dX7_isRest_41 (by decide) (fun c41 => absurd c41 (by decide +kernel)) (fun _ => ?_)
            refine lv_iconst (v := 1) hx hb dX7_isRest_44 zk_iconst_1 ?_
            refine lv_goto (tgt := 49) hx hb dX7_isRest_45 (by decide) ?_
            exact W.zret (v := 1) hx hb hr rfl (fun t ht hW => ⟨⟨1, (), rfl, (Or.inl (rfl)), by rw [ht]; exact hP, va_K.moved hW.alike hK, hD⟩, hS.F ht⟩) hS.2.2 dX7_isRest_49
        · have gc30 := ai_eq c30
          have u30f_a3 : a3.toInt ≤ (0 : Int) := Int.le_trans (Int.le_of_eq gc30) zq6
          have l30f_a3 : (0 : Int) ≤ a3.toInt := Int.le_trans zq5 (Int.le_of_eq gc30.symm)
          refine lv_iconst (v := 1) hx hb dX7_isRest_33 zk_iconst_1 ?_
          refine lv_goto (tgt := 38) hx hb dX7_isRest_34 (by decide) ?_
          obtain ⟨hPc, hDc, hFc, hCc⟩ := zc_cut (wc := []) hP hD hS hA [] (by decide +kernel) rfl
          have hKc := hK.sub (tys' := []) [] rfl
          refine va_calli (va_runS (As := [.int a2, .int 1]) (rest := [.int 3]) ⟨hx, hb, hml, hown, hts⟩ (c_X7_attendantShare l dC dI H.size a2 1 ) (va_cwS 2 hts gX7_isRest_X7_attendantShare rfl rfl rfl zd_X7_attendantShare.2 ⟨Nat.le_of_ble_eq_true rfl, Nat.le_of_ble_eq_true rfl⟩) ⟨ax_blind (fun _ _ _ _ _ => trivial), ax_pre hPc hKc hDc (fun _ _ => trivial)⟩ rfl rfl hl.1 rfl (lv_room (Nat.le_of_ble_eq_true rfl)) dX7_isRest_38 ⟨Nat.le_of_ble_eq_true rfl, Nat.le_of_ble_eq_true rfl⟩) hS (fun q _ h => hFc q h) hFc (fun r38 u t H locs ht hvm hw hB hz1 hk1 hS => ?_)
          obtain ⟨hP1, hK1, hD1⟩ := hB
          rw [ht] at hP1
          obtain ⟨hP, hD⟩ := zc_back (w := []) hP hD hCc hk1 hFc hP1 hD1 [] (by decide +kernel) rfl
          rcases hw with hw | hw | hw | hw
          · subst hw
            refine lv_icmp_lt (tgt := 48) hx hb dX7_isRest_41 (by decide) (fun c41 => absurd c41 (by decide +kernel)) (fun _ => ?_)
            refine lv_iconst (v := 1) hx hb dX7_isRest_44 zk_iconst_1 ?_
            refine lv_goto (tgt := 49) hx hb dX7_isRest_45 (by decide) ?_
            exact W.zret (v := 1) hx hb hr rfl (fun t ht hW => ⟨⟨1, (), rfl, (Or.inl (rfl)), by rw [ht]; exact hP, va_K.moved hW.alike hK, hD⟩, hS.F ht⟩) hS.2.2 dX7_isRest_49
          · obtain ⟨hw, h38_0, h38_1, h38_2, h38_3⟩ := hw
            subst hw
            have l38k1_a2 : (0 : Int) ≤ a2.toInt := h38_0
            have u38k1_a2 : a2.toInt ≤ (0 : Int) := h38_1
            exact absurd h38_3 (by decide)
          · obtain ⟨hw, h38_0, h38_1⟩ := hw
            subst hw
            exact absurd h38_1 (by decide)
          · obtain ⟨hw, h38_0, h38_1⟩ := hw
            subst hw
            have l38k3_a2 : (0 : Int) ≤ a2.toInt := h38_0
            have u38k3_a2 : a2.toInt ≤ (0 : Int) := h38_1
            refine lv_icmp_lt (tgt := 48) hx hb dX7_isRest_41 (by decide) (fun c41 => absurd c41 (by decide +kernel)) (fun _ => ?_)
            refine lv_iconst (v := 1) hx hb dX7_isRest_44 zk_iconst_1 ?_
            refine lv_goto (tgt := 49) hx hb dX7_isRest_45 (by decide) ?_
            exact W.zret (v := 1) hx hb hr rfl (fun t ht hW => ⟨⟨1, (), rfl, (Or.inl (rfl)), by rw [ht]; exact hP, va_K.moved hW.alike hK, hD⟩, hS.F ht⟩) hS.2.2 dX7_isRest_49
      · obtain ⟨hw, h25_0, h25_1, h25_2, h25_3⟩ := hw
        subst hw
        have l25k1_a2 : (0 : Int) ≤ a2.toInt := h25_0
        have u25k1_a2 : a2.toInt ≤ (0 : Int) := h25_1
        have l25k1_a3 : (0 : Int) ≤ a3.toInt := h25_2
        have u25k1_a3 : a3.toInt ≤ (0 : Int) := h25_3
        refine lv_iload_n hx hb dX7_isRest_28 rfl (lv_at hl 1 rfl) ?_
        refine lv_iload_n hx hb dX7_isRest_29 rfl (lv_at hl 2 rfl) ?_
        refine lv_if_ne (tgt := 37) hx hb dX7_isRest_30 (by decide) (fun c30 => ?_) (fun c30 => ?_)
        · have gc30 := ai_ne c30
          have l30t_a3 : (1 : Int) ≤ a3.toInt := (by have h1 := l25k1_a3; have h2 : (0 : Int32).toInt = 0 := (by decide); rw [h2] at gc30; omega)
          have u30t_a3 : a3.toInt ≤ (-1 : Int) := (by have h1 := u25k1_a3; have h2 : (0 : Int32).toInt = 0 := (by decide); rw [h2] at gc30; omega)
          exact absurd (Int.le_trans l30t_a3 u30t_a3) (by decide)
        · have gc30 := ai_eq c30
          have u30f_a3 : a3.toInt ≤ (0 : Int) := u25k1_a3
          have l30f_a3 : (0 : Int) ≤ a3.toInt := l25k1_a3
          refine lv_iconst (v := 1) hx hb dX7_isRest_33 zk_iconst_1 ?_
          refine lv_goto (tgt := 38) hx hb dX7_isRest_34 (by decide) ?_
          obtain ⟨hPc, hDc, hFc, hCc⟩ := zc_cut (wc := []) hP hD hS hA [] (by decide +kernel) rfl
          have hKc := hK.sub (tys' := []) [] rfl
          refine va_calli (va_runS (As := [.int a2, .int 1]) (rest := [.int 1]) ⟨hx, hb, hml, hown, hts⟩ (c_X7_attendantShare l dC dI H.size a2 1 ) (va_cwS 2 hts gX7_isRest_X7_attendantShare rfl rfl rfl zd_X7_attendantShare.2 ⟨Nat.le_of_ble_eq_true rfl, Nat.le_of_ble_eq_true rfl⟩) ⟨ax_blind (fun _ _ _ _ _ => trivial), ax_pre hPc hKc hDc (fun _ _ => trivial)⟩ rfl rfl hl.1 rfl (lv_room (Nat.le_of_ble_eq_true rfl)) dX7_isRest_38 ⟨Nat.le_of_ble_eq_true rfl, Nat.le_of_ble_eq_true rfl⟩) hS (fun q _ h => hFc q h) hFc (fun r38 u t H locs ht hvm hw hB hz1 hk1 hS => ?_)
          obtain ⟨hP1, hK1, hD1⟩ := hB
          rw [ht] at hP1
          obtain ⟨hP, hD⟩ := zc_back (w := []) hP hD hCc hk1 hFc hP1 hD1 [] (by decide +kernel) rfl
          rcases hw with hw | hw | hw | hw
          · subst hw
            refine lv_icmp_lt (tgt := 48) hx hb dX7_isRest_41 (by decide) (fun _ => ?_) (fun c41 => absurd (by decide +kernel) c41)
            refine lv_iconst (v := 0) hx hb dX7_isRest_48 zk_iconst_0 ?_
            exact W.zret (v := 0) hx hb hr rfl (fun t ht hW => ⟨⟨0, (), rfl, (Or.inr (rfl)), by rw [ht]; exact hP, va_K.moved hW.alike hK, hD⟩, hS.F ht⟩) hS.2.2 dX7_isRest_49
          · obtain ⟨hw, h38_0, h38_1, h38_2, h38_3⟩ := hw
            subst hw
            have l38k1_a2 : (0 : Int) ≤ a2.toInt := l25k1_a2
            have u38k1_a2 : a2.toInt ≤ (0 : Int) := u25k1_a2
            exact absurd h38_3 (by decide)
          · obtain ⟨hw, h38_0, h38_1⟩ := hw
            subst hw
            exact absurd h38_1 (by decide)
          · obtain ⟨hw, h38_0, h38_1⟩ := hw
            subst hw
            have l38k3_a2 : (0 : Int) ≤ a2.toInt := l25k1_a2
            have u38k3_a2 : a2.toInt ≤ (0 : Int) := u25k1_a2
            refine lv_icmp_lt (tgt := 48) hx hb dX7_isRest_41 (by decide) (fun c41 => absurd c41 (by decide +kernel)) (fun _ => ?_)
            refine lv_iconst (v := 1) hx hb dX7_isRest_44 zk_iconst_1 ?_
            refine lv_goto (tgt := 49) hx hb dX7_isRest_45 (by decide) ?_
            exact W.zret (v := 1) hx hb hr rfl (fun t ht hW => ⟨⟨1, (), rfl, (Or.inl (rfl)), by rw [ht]; exact hP, va_K.moved hW.alike hK, hD⟩, hS.F ht⟩) hS.2.2 dX7_isRest_49
      · obtain ⟨hw, h25_0, h25_1⟩ := hw
        subst hw
        have l25k2_a3 : (0 : Int) ≤ a3.toInt := h25_0
        have u25k2_a3 : a3.toInt ≤ (0 : Int) := h25_1
        refine lv_iload_n hx hb dX7_isRest_28 rfl (lv_at hl 1 rfl) ?_
        refine lv_iload_n hx hb dX7_isRest_29 rfl (lv_at hl 2 rfl) ?_
        refine lv_if_ne (tgt := 37) hx hb dX7_isRest_30 (by decide) (fun c30 => ?_) (fun c30 => ?_)
        · have gc30 := ai_ne c30
          have l30t_a3 : (1 : Int) ≤ a3.toInt := (by have h1 := l25k2_a3; have h2 : (0 : Int32).toInt = 0 := (by decide); rw [h2] at gc30; omega)
          have u30t_a3 : a3.toInt ≤ (-1 : Int) := (by have h1 := u25k2_a3; have h2 : (0 : Int32).toInt = 0 := (by decide); rw [h2] at gc30; omega)
          exact absurd (Int.le_trans l30t_a3 u30t_a3) (by decide)
        · have gc30 := ai_eq c30
          have u30f_a3 : a3.toInt ≤ (0 : Int) := u25k2_a3
          have l30f_a3 : (0 : Int) ≤ a3.toInt := l25k2_a3
          refine lv_iconst (v := 1) hx hb dX7_isRest_33 zk_iconst_1 ?_
          refine lv_goto (tgt := 38) hx hb dX7_isRest_34 (by decide) ?_
          obtain ⟨hPc, hDc, hFc, hCc⟩ := zc_cut (wc := []) hP hD hS hA [] (by decide +kernel) rfl
          have hKc := hK.sub (tys' := []) [] rfl
          refine va_calli (va_runS (As := [.int a2, .int 1]) (rest := [.int 0]) ⟨hx, hb, hml, hown, hts⟩ (c_X7_attendantShare l dC dI H.size a2 1 ) (va_cwS 2 hts gX7_isRest_X7_attendantShare rfl rfl rfl zd_X7_attendantShare.2 ⟨Nat.le_of_ble_eq_true rfl, Nat.le_of_ble_eq_true rfl⟩) ⟨ax_blind (fun _ _ _ _ _ => trivial), ax_pre hPc hKc hDc (fun _ _ => trivial)⟩ rfl rfl hl.1 rfl (lv_room (Nat.le_of_ble_eq_true rfl)) dX7_isRest_38 ⟨Nat.le_of_ble_eq_true rfl, Nat.le_of_ble_eq_true rfl⟩) hS (fun q _ h => hFc q h) hFc (fun r38 u t H locs ht hvm hw hB hz1 hk1 hS => ?_)
          obtain ⟨hP1, hK1, hD1⟩ := hB
          rw [ht] at hP1
          obtain ⟨hP, hD⟩ := zc_back (w := []) hP hD hCc hk1 hFc hP1 hD1 [] (by decide +kernel) rfl
          rcases hw with hw | hw | hw | hw
          · subst hw
            refine lv_icmp_lt (tgt := 48) hx hb dX7_isRest_41 (by decide) (fun _ => ?_) (fun c41 => absurd (by decide +kernel) c41)
            refine lv_iconst (v := 0) hx hb dX7_isRest_48 zk_iconst_0 ?_
            exact W.zret (v := 0) hx hb hr rfl (fun t ht hW => ⟨⟨0, (), rfl, (Or.inr (rfl)), by rw [ht]; exact hP, va_K.moved hW.alike hK, hD⟩, hS.F ht⟩) hS.2.2 dX7_isRest_49
          · obtain ⟨hw, h38_0, h38_1, h38_2, h38_3⟩ := hw
            subst hw
            have l38k1_a2 : (0 : Int) ≤ a2.toInt := h38_0
            have u38k1_a2 : a2.toInt ≤ (0 : Int) := h38_1
            exact absurd h38_3 (by decide)
          · obtain ⟨hw, h38_0, h38_1⟩ := hw
            subst hw
            exact absurd h38_1 (by decide)
          · obtain ⟨hw, h38_0, h38_1⟩ := hw
            subst hw
            have l38k3_a2 : (0 : Int) ≤ a2.toInt := h38_0
            have u38k3_a2 : a2.toInt ≤ (0 : Int) := h38_1
            refine lv_icmp_lt (tgt := 48) hx hb dX7_isRest_41 (by decide) (fun c41 => absurd c41 (by decide +kernel)) (fun _ => ?_)
            refine lv_iconst (v := 1) hx hb dX7_isRest_44 zk_iconst_1 ?_
            refine lv_goto (tgt := 49) hx hb dX7_isRest_45 (by decide) ?_
            exact W.zret (v := 1) hx hb hr rfl (fun t ht hW => ⟨⟨1, (), rfl, (Or.inl (rfl)), by rw [ht]; exact hP, va_K.moved hW.alike hK, hD⟩, hS.F ht⟩) hS.2.2 dX7_isRest_49
      · obtain ⟨hw, h25_0, h25_1⟩ := hw
        subst hw
        have l25k3_a2 : (0 : Int) ≤ a2.toInt := h25_0
        have u25k3_a2 : a2.toInt ≤ (0 : Int) := h25_1
        refine lv_iload_n hx hb dX7_isRest_28 rfl (lv_at hl 1 rfl) ?_
        refine lv_iload_n hx hb dX7_isRest_29 rfl (lv_at hl 2 rfl) ?_
        refine lv_if_ne (tgt := 37) hx hb dX7_isRest_30 (by decide) (fun c30 => ?_) (fun c30 => ?_)
        · have gc30 := ai_ne c30
          refine lv_iconst (v := 0) hx hb dX7_isRest_37 zk_iconst_0 ?_
          obtain ⟨hPc, hDc, hFc, hCc⟩ := zc_cut (wc := []) hP hD hS hA [] (by decide +kernel) rfl
          have hKc := hK.sub (tys' := []) [] rfl
          refine va_calli (va_runS (As := [.int a2, .int 0]) (rest := [.int (-1)]) ⟨hx, hb, hml, hown, hts⟩ (c_X7_attendantShare l dC dI H.size a2 0 ) (va_cwS 2 hts gX7_isRest_X7_attendantShare rfl rfl rfl zd_X7_attendantShare.2 ⟨Nat.le_of_ble_eq_true rfl, Nat.le_of_ble_eq_true rfl⟩) ⟨ax_blind (fun _ _ _ _ _ => trivial), ax_pre hPc hKc hDc (fun _ _ => trivial)⟩ rfl rfl hl.1 rfl (lv_room (Nat.le_of_ble_eq_true rfl)) dX7_isRest_38 ⟨Nat.le_of_ble_eq_true rfl, Nat.le_of_ble_eq_true rfl⟩) hS (fun q _ h => hFc q h) hFc (fun r38 u t H locs ht hvm hw hB hz1 hk1 hS => ?_)
          obtain ⟨hP1, hK1, hD1⟩ := hB
          rw [ht] at hP1
          obtain ⟨hP, hD⟩ := zc_back (w := []) hP hD hCc hk1 hFc hP1 hD1 [] (by decide +kernel) rfl
          rcases hw with hw | hw | hw | hw
          · subst hw
            refine lv_icmp_lt (tgt := 48) hx hb dX7_isRest_41 (by decide) (fun _ => ?_) (fun c41 => absurd (by decide +kernel) c41)
            refine lv_iconst (v := 0) hx hb dX7_isRest_48 zk_iconst_0 ?_
            exact W.zret (v := 0) hx hb hr rfl (fun t ht hW => ⟨⟨0, (), rfl, (Or.inr (rfl)), by rw [ht]; exact hP, va_K.moved hW.alike hK, hD⟩, hS.F ht⟩) hS.2.2 dX7_isRest_49
          · obtain ⟨hw, h38_0, h38_1, h38_2, h38_3⟩ := hw
            subst hw
            have l38k1_a2 : (0 : Int) ≤ a2.toInt := l25k3_a2
            have u38k1_a2 : a2.toInt ≤ (0 : Int) := u25k3_a2
            refine lv_icmp_lt (tgt := 48) hx hb dX7_isRest_41 (by decide) (fun _ => ?_) (fun c41 => absurd (by decide +kernel) c41)
            refine lv_iconst (v := 0) hx hb dX7_isRest_48 zk_iconst_0 ?_
            exact W.zret (v := 0) hx hb hr rfl (fun t ht hW => ⟨⟨0, (), rfl, (Or.inr (rfl)), by rw [ht]; exact hP, va_K.moved hW.alike hK, hD⟩, hS.F ht⟩) hS.2.2 dX7_isRest_49
          · obtain ⟨hw, h38_0, h38_1⟩ := hw
            subst hw
            refine lv_icmp_lt (tgt := 48) hx hb dX7_isRest_41 (by decide) (fun _ => ?_) (fun c41 => absurd (by decide +kernel) c41)
            refine lv_iconst (v := 0) hx hb dX7_isRest_48 zk_iconst_0 ?_
            exact W.zret (v := 0) hx hb hr rfl (fun t ht hW => ⟨⟨0, (), rfl, (Or.inr (rfl)), by rw [ht]; exact hP, va_K.moved hW.alike hK, hD⟩, hS.F ht⟩) hS.2.2 dX7_isRest_49
          · obtain ⟨hw, h38_0, h38_1⟩ := hw
            subst hw
            have l38k3_a2 : (0 : Int) ≤ a2.toInt := l25k3_a2
            have u38k3_a2 : a2.toInt ≤ (0 : Int) := u25k3_a2
            refine lv_icmp_lt (tgt := 48) hx hb dX7_isRest_41 (by decide) (fun c41 => absurd c41 (by decide +kernel)) (fun _ => ?_)
            refine lv_iconst (v := 1) hx hb dX7_isRest_44 zk_iconst_1 ?_
            refine lv_goto (tgt := 49) hx hb dX7_isRest_45 (by decide) ?_
            exact W.zret (v := 1) hx hb hr rfl (fun t ht hW => ⟨⟨1, (), rfl, (Or.inl (rfl)), by rw [ht]; exact hP, va_K.moved hW.alike hK, hD⟩, hS.F ht⟩) hS.2.2 dX7_isRest_49
        · have gc30 := ai_eq c30
          have u30f_a3 : a3.toInt ≤ (0 : Int) := Int.le_trans (Int.le_of_eq gc30) zq6
          have l30f_a3 : (0 : Int) ≤ a3.toInt := Int.le_trans zq5 (Int.le_of_eq gc30.symm)
          refine lv_iconst (v := 1) hx hb dX7_isRest_33 zk_iconst_1 ?_
          refine lv_goto (tgt := 38) hx hb dX7_isRest_34 (by decide) ?_
          obtain ⟨hPc, hDc, hFc, hCc⟩ := zc_cut (wc := []) hP hD hS hA [] (by decide +kernel) rfl
          have hKc := hK.sub (tys' := []) [] rfl
          refine va_calli (va_runS (As := [.int a2, .int 1]) (rest := [.int (-1)]) ⟨hx, hb, hml, hown, hts⟩ (c_X7_attendantShare l dC dI H.size a2 1 ) (va_cwS 2 hts gX7_isRest_X7_attendantShare rfl rfl rfl zd_X7_attendantShare.2 ⟨Nat.le_of_ble_eq_true rfl, Nat.le_of_ble_eq_true rfl⟩) ⟨ax_blind (fun _ _ _ _ _ => trivial), ax_pre hPc hKc hDc (fun _ _ => trivial)⟩ rfl rfl hl.1 rfl (lv_room (Nat.le_of_ble_eq_true rfl)) dX7_isRest_38 ⟨Nat.le_of_ble_eq_true rfl, Nat.le_of_ble_eq_true rfl⟩) hS (fun q _ h => hFc q h) hFc (fun r38 u t H locs ht hvm hw hB hz1 hk1 hS => ?_)
          obtain ⟨hP1, hK1, hD1⟩ := hB
          rw [ht] at hP1
          obtain ⟨hP, hD⟩ := zc_back (w := []) hP hD hCc hk1 hFc hP1 hD1 [] (by decide +kernel) rfl
          rcases hw with hw | hw | hw | hw
          · subst hw
            refine lv_icmp_lt (tgt := 48) hx hb dX7_isRest_41 (by decide) (fun _ => ?_) (fun c41 => absurd (by decide +kernel) c41)
            refine lv_iconst (v := 0) hx hb dX7_isRest_48 zk_iconst_0 ?_
            exact W.zret (v := 0) hx hb hr rfl (fun t ht hW => ⟨⟨0, (), rfl, (Or.inr (rfl)), by rw [ht]; exact hP, va_K.moved hW.alike hK, hD⟩, hS.F ht⟩) hS.2.2 dX7_isRest_49
          · obtain ⟨hw, h38_0, h38_1, h38_2, h38_3⟩ := hw
            subst hw
            have l38k1_a2 : (0 : Int) ≤ a2.toInt := l25k3_a2
            have u38k1_a2 : a2.toInt ≤ (0 : Int) := u25k3_a2
            exact absurd h38_3 (by decide)
          · obtain ⟨hw, h38_0, h38_1⟩ := hw
            subst hw
            exact absurd h38_1 (by decide)
          · obtain ⟨hw, h38_0, h38_1⟩ := hw
            subst hw
            have l38k3_a2 : (0 : Int) ≤ a2.toInt := l25k3_a2
            have u38k3_a2 : a2.toInt ≤ (0 : Int) := u25k3_a2
            refine lv_icmp_lt (tgt := 48) hx hb dX7_isRest_41 (by decide) (fun c41 => absurd c41 (by decide +kernel)) (fun _ => ?_)
            refine lv_iconst (v := 1) hx hb dX7_isRest_44 zk_iconst_1 ?_
            refine lv_goto (tgt := 49) hx hb dX7_isRest_45 (by decide) ?_
            exact W.zret (v := 1) hx hb hr rfl (fun t ht hW => ⟨⟨1, (), rfl, (Or.inl (rfl)), by rw [ht]; exact hP, va_K.moved hW.alike hK, hD⟩, hS.F ht⟩) hS.2.2 dX7_isRest_49
  · have gc8 := ai_eq c8
    have u8f_a2 : a2.toInt ≤ (0 : Int) := Int.le_trans (Int.le_of_eq gc8) zq6
    have l8f_a2 : (0 : Int) ≤ a2.toInt := Int.le_trans zq5 (Int.le_of_eq gc8.symm)
    refine lv_iconst (v := 1) hx hb dX7_isRest_11 zk_iconst_1 ?_
    refine lv_goto (tgt := 16) hx hb dX7_isRest_12 (by decide) ?_
    refine lv_iload_n hx hb dX7_isRest_16 rfl (lv_at hl 2 rfl) ?_
    obtain ⟨hPc, hDc, hFc, hCc⟩ := zc_cut (wc := []) hP hD hS hA [] (by decide +kernel) rfl
    have hKc := hK.sub (tys' := []) [] rfl
    refine va_calli (va_runS (As := [.int a1, .int 1, .int a3]) (rest := [.int r3]) ⟨hx, hb, hml, hown, hts⟩ (c_X7_figureShare l dC dI H.size a1 1 a3 ) (va_cwS 3 hts gX7_isRest_X7_figureShare rfl rfl rfl zd_X7_figureShare.2 ⟨Nat.le_of_ble_eq_true rfl, Nat.le_of_ble_eq_true rfl⟩) ⟨ax_blind (fun _ _ _ _ _ => trivial), ax_pre hPc hKc hDc (fun _ _ => trivial)⟩ rfl rfl hl.1 rfl (lv_room (Nat.le_of_ble_eq_true rfl)) dX7_isRest_17 ⟨Nat.le_of_ble_eq_true rfl, Nat.le_of_ble_eq_true rfl⟩) hS (fun q _ h => hFc q h) hFc (fun r17 u t H locs ht hvm hw hB hz1 hk1 hS => ?_)
    obtain ⟨hP1, hK1, hD1⟩ := hB
    rw [ht] at hP1
    obtain ⟨hP, hD⟩ := zc_back (w := []) hP hD hCc hk1 hFc hP1 hD1 [] (by decide +kernel) rfl
    refine lv_icmp_lt (tgt := 48) hx hb dX7_isRest_20 (by decide) (fun c20 => ?_) (fun c20 => ?_)
    · have gc20 := ai_lt c20
      have u20t_r3 : r3.toInt ≤ (2147483646 : Int) := ai_lthi gc20 (ai_max r17)
      have l20t_r17 : (-2147483647 : Int) ≤ r17.toInt := ai_ltlo gc20 (ai_min r3)
      refine lv_iconst (v := 0) hx hb dX7_isRest_48 zk_iconst_0 ?_
      exact W.zret (v := 0) hx hb hr rfl (fun t ht hW => ⟨⟨0, (), rfl, (Or.inr (rfl)), by rw [ht]; exact hP, va_K.moved hW.alike hK, hD⟩, hS.F ht⟩) hS.2.2 dX7_isRest_49
    · have gc20 := ai_nlt c20
      refine lv_iload_n hx hb dX7_isRest_23 rfl (lv_at hl 1 rfl) ?_
      refine lv_iload_n hx hb dX7_isRest_24 rfl (lv_at hl 2 rfl) ?_
      obtain ⟨hPc, hDc, hFc, hCc⟩ := zc_cut (wc := []) hP hD hS hA [] (by decide +kernel) rfl
      have hKc := hK.sub (tys' := []) [] rfl
      refine va_calli (va_runS (As := [.int a2, .int a3]) (rest := []) ⟨hx, hb, hml, hown, hts⟩ (c_X7_attendantShare l dC dI H.size a2 a3 ) (va_cwS 2 hts gX7_isRest_X7_attendantShare rfl rfl rfl zd_X7_attendantShare.2 ⟨Nat.le_of_ble_eq_true rfl, Nat.le_of_ble_eq_true rfl⟩) ⟨ax_blind (fun _ _ _ _ _ => trivial), ax_pre hPc hKc hDc (fun _ _ => trivial)⟩ rfl rfl hl.1 rfl (lv_room (Nat.le_of_ble_eq_true rfl)) dX7_isRest_25 ⟨Nat.le_of_ble_eq_true rfl, Nat.le_of_ble_eq_true rfl⟩) hS (fun q _ h => hFc q h) hFc (fun r25 u t H locs ht hvm hw hB hz1 hk1 hS => ?_)
      obtain ⟨hP1, hK1, hD1⟩ := hB
      rw [ht] at hP1
      obtain ⟨hP, hD⟩ := zc_back (w := []) hP hD hCc hk1 hFc hP1 hD1 [] (by decide +kernel) rfl
      rcases hw with hw | hw | hw | hw
      · subst hw
        refine lv_iload_n hx hb dX7_isRest_28 rfl (lv_at hl 1 rfl) ?_
        refine lv_iload_n hx hb dX7_isRest_29 rfl (lv_at hl 2 rfl) ?_
        refine lv_if_ne (tgt := 37) hx hb dX7_isRest_30 (by decide) (fun c30 => ?_) (fun c30 => ?_)
        · have gc30 := ai_ne c30
          refine lv_iconst (v := 0) hx hb dX7_isRest_37 zk_iconst_0 ?_
          obtain ⟨hPc, hDc, hFc, hCc⟩ := zc_cut (wc := []) hP hD hS hA [] (by decide +kernel) rfl
          have hKc := hK.sub (tys' := []) [] rfl
          refine va_calli (va_runS (As := [.int a2, .int 0]) (rest := [.int 3]) ⟨hx, hb, hml, hown, hts⟩ (c_X7_attendantShare l dC dI H.size a2 0 ) (va_cwS 2 hts gX7_isRest_X7_attendantShare rfl rfl rfl zd_X7_attendantShare.2 ⟨Nat.le_of_ble_eq_true rfl, Nat.le_of_ble_eq_true rfl⟩) ⟨ax_blind (fun _ _ _ _ _ => trivial), ax_pre hPc hKc hDc (fun _ _ => trivial)⟩ rfl rfl hl.1 rfl (lv_room (Nat.le_of_ble_eq_true rfl)) dX7_isRest_38 ⟨Nat.le_of_ble_eq_true rfl, Nat.le_of_ble_eq_true rfl⟩) hS (fun q _ h => hFc q h) hFc (fun r38 u t H locs ht hvm hw hB hz1 hk1 hS => ?_)
          obtain ⟨hP1, hK1, hD1⟩ := hB
          rw [ht] at hP1
          obtain ⟨hP, hD⟩ := zc_back (w := []) hP hD hCc hk1 hFc hP1 hD1 [] (by decide +kernel) rfl
          rcases hw with hw | hw | hw | hw
          · subst hw
            refine lv_icmp_lt (tgt := 48) hx hb dX7_isRest_41 (by decide) (fun c41 => absurd c41 (by decide +kernel)) (fun _ => ?_)
            refine lv_iconst (v := 1) hx hb dX7_isRest_44 zk_iconst_1 ?_
            refine lv_goto (tgt := 49) hx hb dX7_isRest_45 (by decide) ?_
            exact W.zret (v := 1) hx hb hr rfl (fun t ht hW => ⟨⟨1, (), rfl, (Or.inl (rfl)), by rw [ht]; exact hP, va_K.moved hW.alike hK, hD⟩, hS.F ht⟩) hS.2.2 dX7_isRest_49
          · obtain ⟨hw, h38_0, h38_1, h38_2, h38_3⟩ := hw
            subst hw
            have l38k1_a2 : (0 : Int) ≤ a2.toInt := l8f_a2
            have u38k1_a2 : a2.toInt ≤ (0 : Int) := u8f_a2
            refine lv_icmp_lt (tgt := 48) hx hb dX7_isRest_41 (by decide) (fun c41 => absurd c41 (by decide +kernel)) (fun _ => ?_)
            refine lv_iconst (v := 1) hx hb dX7_isRest_44 zk_iconst_1 ?_
            refine lv_goto (tgt := 49) hx hb dX7_isRest_45 (by decide) ?_
            exact W.zret (v := 1) hx hb hr rfl (fun t ht hW => ⟨⟨1, (), rfl, (Or.inl (rfl)), by rw [ht]; exact hP, va_K.moved hW.alike hK, hD⟩, hS.F ht⟩) hS.2.2 dX7_isRest_49
          · obtain ⟨hw, h38_0, h38_1⟩ := hw
            subst hw
            refine lv_icmp_lt (tgt := 48) hx hb dX7_isRest_41 (by decide) (fun c41 => absurd c41 (by decide +kernel)) (fun _ => ?_)
            refine lv_iconst (v := 1) hx hb dX7_isRest_44 zk_iconst_1 ?_
            refine lv_goto (tgt := 49) hx hb dX7_isRest_45 (by decide) ?_
            exact W.zret (v := 1) hx hb hr rfl (fun t ht hW => ⟨⟨1, (), rfl, (Or.inl (rfl)), by rw [ht]; exact hP, va_K.moved hW.alike hK, hD⟩, hS.F ht⟩) hS.2.2 dX7_isRest_49
          · obtain ⟨hw, h38_0, h38_1⟩ := hw
            subst hw
            have l38k3_a2 : (0 : Int) ≤ a2.toInt := l8f_a2
            have u38k3_a2 : a2.toInt ≤ (0 : Int) := u8f_a2
            refine lv_icmp_lt (tgt := 48) hx hb dX7_isRest_41 (by decide) (fun c41 => absurd c41 (by decide +kernel)) (fun _ => ?_)
            refine lv_iconst (v := 1) hx hb dX7_isRest_44 zk_iconst_1 ?_
            refine lv_goto (tgt := 49) hx hb dX7_isRest_45 (by decide) ?_
            exact W.zret (v := 1) hx hb hr rfl (fun t ht hW => ⟨⟨1, (), rfl, (Or.inl (rfl)), by rw [ht]; exact hP, va_K.moved hW.alike hK, hD⟩, hS.F ht⟩) hS.2.2 dX7_isRest_49
        · have gc30 := ai_eq c30
          have u30f_a3 : a3.toInt ≤ (0 : Int) := Int.le_trans (Int.le_of_eq gc30) zq6
          have l30f_a3 : (0 : Int) ≤ a3.toInt := Int.le_trans zq5 (Int.le_of_eq gc30.symm)
          refine lv_iconst (v := 1) hx hb dX7_isRest_33 zk_iconst_1 ?_
          refine lv_goto (tgt := 38) hx hb dX7_isRest_34 (by decide) ?_
          obtain ⟨hPc, hDc, hFc, hCc⟩ := zc_cut (wc := []) hP hD hS hA [] (by decide +kernel) rfl
          have hKc := hK.sub (tys' := []) [] rfl
          refine va_calli (va_runS (As := [.int a2, .int 1]) (rest := [.int 3]) ⟨hx, hb, hml, hown, hts⟩ (c_X7_attendantShare l dC dI H.size a2 1 ) (va_cwS 2 hts gX7_isRest_X7_attendantShare rfl rfl rfl zd_X7_attendantShare.2 ⟨Nat.le_of_ble_eq_true rfl, Nat.le_of_ble_eq_true rfl⟩) ⟨ax_blind (fun _ _ _ _ _ => trivial), ax_pre hPc hKc hDc (fun _ _ => trivial)⟩ rfl rfl hl.1 rfl (lv_room (Nat.le_of_ble_eq_true rfl)) dX7_isRest_38 ⟨Nat.le_of_ble_eq_true rfl, Nat.le_of_ble_eq_true rfl⟩) hS (fun q _ h => hFc q h) hFc (fun r38 u t H locs ht hvm hw hB hz1 hk1 hS => ?_)
          obtain ⟨hP1, hK1, hD1⟩ := hB
          rw [ht] at hP1
          obtain ⟨hP, hD⟩ := zc_back (w := []) hP hD hCc hk1 hFc hP1 hD1 [] (by decide +kernel) rfl
          rcases hw with hw | hw | hw | hw
          · subst hw
            refine lv_icmp_lt (tgt := 48) hx hb dX7_isRest_41 (by decide) (fun c41 => absurd c41 (by decide +kernel)) (fun _ => ?_)
            refine lv_iconst (v := 1) hx hb dX7_isRest_44 zk_iconst_1 ?_
            refine lv_goto (tgt := 49) hx hb dX7_isRest_45 (by decide) ?_
            exact W.zret (v := 1) hx hb hr rfl (fun t ht hW => ⟨⟨1, (), rfl, (Or.inl (rfl)), by rw [ht]; exact hP, va_K.moved hW.alike hK, hD⟩, hS.F ht⟩) hS.2.2 dX7_isRest_49
          · obtain ⟨hw, h38_0, h38_1, h38_2, h38_3⟩ := hw
            subst hw
            have l38k1_a2 : (0 : Int) ≤ a2.toInt := l8f_a2
            have u38k1_a2 : a2.toInt ≤ (0 : Int) := u8f_a2
            exact absurd h38_3 (by decide)
          · obtain ⟨hw, h38_0, h38_1⟩ := hw
            subst hw
            exact absurd h38_1 (by decide)
          · obtain ⟨hw, h38_0, h38_1⟩ := hw
            subst hw
            have l38k3_a2 : (0 : Int) ≤ a2.toInt := l8f_a2
            have u38k3_a2 : a2.toInt ≤ (0 : Int) := u8f_a2
            refine lv_icmp_lt (tgt := 48) hx hb dX7_isRest_41 (by decide) (fun c41 => absurd c41 (by decide +kernel)) (fun _ => ?_)
            refine lv_iconst (v := 1) hx hb dX7_isRest_44 zk_iconst_1 ?_
            refine lv_goto (tgt := 49) hx hb dX7_isRest_45 (by decide) ?_
            exact W.zret (v := 1) hx hb hr rfl (fun t ht hW => ⟨⟨1, (), rfl, (Or.inl (rfl)), by rw [ht]; exact hP, va_K.moved hW.alike hK, hD⟩, hS.F ht⟩) hS.2.2 dX7_isRest_49
      · obtain ⟨hw, h25_0, h25_1, h25_2, h25_3⟩ := hw
        subst hw
        have l25k1_a2 : (0 : Int) ≤ a2.toInt := l8f_a2
        have u25k1_a2 : a2.toInt ≤ (0 : Int) := u8f_a2
        have l25k1_a3 : (0 : Int) ≤ a3.toInt := h25_2
        have u25k1_a3 : a3.toInt ≤ (0 : Int) := h25_3
        refine lv_iload_n hx hb dX7_isRest_28 rfl (lv_at hl 1 rfl) ?_
        refine lv_iload_n hx hb dX7_isRest_29 rfl (lv_at hl 2 rfl) ?_
        refine lv_if_ne (tgt := 37) hx hb dX7_isRest_30 (by decide) (fun c30 => ?_) (fun c30 => ?_)
        · have gc30 := ai_ne c30
          have l30t_a3 : (1 : Int) ≤ a3.toInt := (by have h1 := l25k1_a3; have h2 : (0 : Int32).toInt = 0 := (by decide); rw [h2] at gc30; omega)
          have u30t_a3 : a3.toInt ≤ (-1 : Int) := (by have h1 := u25k1_a3; have h2 : (0 : Int32).toInt = 0 := (by decide); rw [h2] at gc30; omega)
          exact absurd (Int.le_trans l30t_a3 u30t_a3) (by decide)
        · have gc30 := ai_eq c30
          have u30f_a3 : a3.toInt ≤ (0 : Int) := u25k1_a3
          have l30f_a3 : (0 : Int) ≤ a3.toInt := l25k1_a3
          refine lv_iconst (v := 1) hx hb dX7_isRest_33 zk_iconst_1 ?_
          refine lv_goto (tgt := 38) hx hb dX7_isRest_34 (by decide) ?_
          obtain ⟨hPc, hDc, hFc, hCc⟩ := zc_cut (wc := []) hP hD hS hA [] (by decide +kernel) rfl
          have hKc := hK.sub (tys' := []) [] rfl
          refine va_calli (va_runS (As := [.int a2, .int 1]) (rest := [.int 1]) ⟨hx, hb, hml, hown, hts⟩ (c_X7_attendantShare l dC dI H.size a2 1 ) (va_cwS 2 hts gX7_isRest_X7_attendantShare rfl rfl rfl zd_X7_attendantShare.2 ⟨Nat.le_of_ble_eq_true rfl, Nat.le_of_ble_eq_true rfl⟩) ⟨ax_blind (fun _ _ _ _ _ => trivial), ax_pre hPc hKc hDc (fun _ _ => trivial)⟩ rfl rfl hl.1 rfl (lv_room (Nat.le_of_ble_eq_true rfl)) dX7_isRest_38 ⟨Nat.le_of_ble_eq_true rfl, Nat.le_of_ble_eq_true rfl⟩) hS (fun q _ h => hFc q h) hFc (fun r38 u t H locs ht hvm hw hB hz1 hk1 hS => ?_)
          obtain ⟨hP1, hK1, hD1⟩ := hB
          rw [ht] at hP1
          obtain ⟨hP, hD⟩ := zc_back (w := []) hP hD hCc hk1 hFc hP1 hD1 [] (by decide +kernel) rfl
          rcases hw with hw | hw | hw | hw
          · subst hw
            refine lv_icmp_lt (tgt := 48) hx hb dX7_isRest_41 (by decide) (fun _ => ?_) (fun c41 => absurd (by decide +kernel) c41)
            refine lv_iconst (v := 0) hx hb dX7_isRest_48 zk_iconst_0 ?_
            exact W.zret (v := 0) hx hb hr rfl (fun t ht hW => ⟨⟨0, (), rfl, (Or.inr (rfl)), by rw [ht]; exact hP, va_K.moved hW.alike hK, hD⟩, hS.F ht⟩) hS.2.2 dX7_isRest_49
          · obtain ⟨hw, h38_0, h38_1, h38_2, h38_3⟩ := hw
            subst hw
            have l38k1_a2 : (0 : Int) ≤ a2.toInt := l25k1_a2
            have u38k1_a2 : a2.toInt ≤ (0 : Int) := u25k1_a2
            exact absurd h38_3 (by decide)
          · obtain ⟨hw, h38_0, h38_1⟩ := hw
            subst hw
            exact absurd h38_1 (by decide)
          · obtain ⟨hw, h38_0, h38_1⟩ := hw
            subst hw
            have l38k3_a2 : (0 : Int) ≤ a2.toInt := l25k1_a2
            have u38k3_a2 : a2.toInt ≤ (0 : Int) := u25k1_a2
            refine lv_icmp_lt (tgt := 48) hx hb dX7_isRest_41 (by decide) (fun c41 => absurd c41 (by decide +kernel)) (fun _ => ?_)
            refine lv_iconst (v := 1) hx hb dX7_isRest_44 zk_iconst_1 ?_
            refine lv_goto (tgt := 49) hx hb dX7_isRest_45 (by decide) ?_
            exact W.zret (v := 1) hx hb hr rfl (fun t ht hW => ⟨⟨1, (), rfl, (Or.inl (rfl)), by rw [ht]; exact hP, va_K.moved hW.alike hK, hD⟩, hS.F ht⟩) hS.2.2 dX7_isRest_49
      · obtain ⟨hw, h25_0, h25_1⟩ := hw
        subst hw
        have l25k2_a3 : (0 : Int) ≤ a3.toInt := h25_0
        have u25k2_a3 : a3.toInt ≤ (0 : Int) := h25_1
        refine lv_iload_n hx hb dX7_isRest_28 rfl (lv_at hl 1 rfl) ?_
        refine lv_iload_n hx hb dX7_isRest_29 rfl (lv_at hl 2 rfl) ?_
        refine lv_if_ne (tgt := 37) hx hb dX7_isRest_30 (by decide) (fun c30 => ?_) (fun c30 => ?_)
        · have gc30 := ai_ne c30
          have l30t_a3 : (1 : Int) ≤ a3.toInt := (by have h1 := l25k2_a3; have h2 : (0 : Int32).toInt = 0 := (by decide); rw [h2] at gc30; omega)
          have u30t_a3 : a3.toInt ≤ (-1 : Int) := (by have h1 := u25k2_a3; have h2 : (0 : Int32).toInt = 0 := (by decide); rw [h2] at gc30; omega)
          exact absurd (Int.le_trans l30t_a3 u30t_a3) (by decide)
        · have gc30 := ai_eq c30
          have u30f_a3 : a3.toInt ≤ (0 : Int) := u25k2_a3
          have l30f_a3 : (0 : Int) ≤ a3.toInt := l25k2_a3
          refine lv_iconst (v := 1) hx hb dX7_isRest_33 zk_iconst_1 ?_
          refine lv_goto (tgt := 38) hx hb dX7_isRest_34 (by decide) ?_
          obtain ⟨hPc, hDc, hFc, hCc⟩ := zc_cut (wc := []) hP hD hS hA [] (by decide +kernel) rfl
          have hKc := hK.sub (tys' := []) [] rfl
          refine va_calli (va_runS (As := [.int a2, .int 1]) (rest := [.int 0]) ⟨hx, hb, hml, hown, hts⟩ (c_X7_attendantShare l dC dI H.size a2 1 ) (va_cwS 2 hts gX7_isRest_X7_attendantShare rfl rfl rfl zd_X7_attendantShare.2 ⟨Nat.le_of_ble_eq_true rfl, Nat.le_of_ble_eq_true rfl⟩) ⟨ax_blind (fun _ _ _ _ _ => trivial), ax_pre hPc hKc hDc (fun _ _ => trivial)⟩ rfl rfl hl.1 rfl (lv_room (Nat.le_of_ble_eq_true rfl)) dX7_isRest_38 ⟨Nat.le_of_ble_eq_true rfl, Nat.le_of_ble_eq_true rfl⟩) hS (fun q _ h => hFc q h) hFc (fun r38 u t H locs ht hvm hw hB hz1 hk1 hS => ?_)
          obtain ⟨hP1, hK1, hD1⟩ := hB
          rw [ht] at hP1
          obtain ⟨hP, hD⟩ := zc_back (w := []) hP hD hCc hk1 hFc hP1 hD1 [] (by decide +kernel) rfl
          rcases hw with hw | hw | hw | hw
          · subst hw
            refine lv_icmp_lt (tgt := 48) hx hb dX7_isRest_41 (by decide) (fun _ => ?_) (fun c41 => absurd (by decide +kernel) c41)
            refine lv_iconst (v := 0) hx hb dX7_isRest_48 zk_iconst_0 ?_
            exact W.zret (v := 0) hx hb hr rfl (fun t ht hW => ⟨⟨0, (), rfl, (Or.inr (rfl)), by rw [ht]; exact hP, va_K.moved hW.alike hK, hD⟩, hS.F ht⟩) hS.2.2 dX7_isRest_49
          · obtain ⟨hw, h38_0, h38_1, h38_2, h38_3⟩ := hw
            subst hw
            have l38k1_a2 : (0 : Int) ≤ a2.toInt := l8f_a2
            have u38k1_a2 : a2.toInt ≤ (0 : Int) := u8f_a2
            exact absurd h38_3 (by decide)
          · obtain ⟨hw, h38_0, h38_1⟩ := hw
            subst hw
            exact absurd h38_1 (by decide)
          · obtain ⟨hw, h38_0, h38_1⟩ := hw
            subst hw
            have l38k3_a2 : (0 : Int) ≤ a2.toInt := l8f_a2
            have u38k3_a2 : a2.toInt ≤ (0 : Int) := u8f_a2
            refine lv_icmp_lt (tgt := 48) hx hb dX7_isRest_41 (by decide) (fun c41 => absurd c41 (by decide +kernel)) (fun _ => ?_)
            refine lv_iconst (v := 1) hx hb dX7_isRest_44 zk_iconst_1 ?_
            refine lv_goto (tgt := 49) hx hb dX7_isRest_45 (by decide) ?_
            exact W.zret (v := 1) hx hb hr rfl (fun t ht hW => ⟨⟨1, (), rfl, (Or.inl (rfl)), by rw [ht]; exact hP, va_K.moved hW.alike hK, hD⟩, hS.F ht⟩) hS.2.2 dX7_isRest_49
      · obtain ⟨hw, h25_0, h25_1⟩ := hw
        subst hw
        have l25k3_a2 : (0 : Int) ≤ a2.toInt := l8f_a2
        have u25k3_a2 : a2.toInt ≤ (0 : Int) := u8f_a2
        refine lv_iload_n hx hb dX7_isRest_28 rfl (lv_at hl 1 rfl) ?_
        refine lv_iload_n hx hb dX7_isRest_29 rfl (lv_at hl 2 rfl) ?_
        refine lv_if_ne (tgt := 37) hx hb dX7_isRest_30 (by decide) (fun c30 => ?_) (fun c30 => ?_)
        · have gc30 := ai_ne c30
          refine lv_iconst (v := 0) hx hb dX7_isRest_37 zk_iconst_0 ?_
          obtain ⟨hPc, hDc, hFc, hCc⟩ := zc_cut (wc := []) hP hD hS hA [] (by decide +kernel) rfl
          have hKc := hK.sub (tys' := []) [] rfl
          refine va_calli (va_runS (As := [.int a2, .int 0]) (rest := [.int (-1)]) ⟨hx, hb, hml, hown, hts⟩ (c_X7_attendantShare l dC dI H.size a2 0 ) (va_cwS 2 hts gX7_isRest_X7_attendantShare rfl rfl rfl zd_X7_attendantShare.2 ⟨Nat.le_of_ble_eq_true rfl, Nat.le_of_ble_eq_true rfl⟩) ⟨ax_blind (fun _ _ _ _ _ => trivial), ax_pre hPc hKc hDc (fun _ _ => trivial)⟩ rfl rfl hl.1 rfl (lv_room (Nat.le_of_ble_eq_true rfl)) dX7_isRest_38 ⟨Nat.le_of_ble_eq_true rfl, Nat.le_of_ble_eq_true rfl⟩) hS (fun q _ h => hFc q h) hFc (fun r38 u t H locs ht hvm hw hB hz1 hk1 hS => ?_)
          obtain ⟨hP1, hK1, hD1⟩ := hB
          rw [ht] at hP1
          obtain ⟨hP, hD⟩ := zc_back (w := []) hP hD hCc hk1 hFc hP1 hD1 [] (by decide +kernel) rfl
          rcases hw with hw | hw | hw | hw
          · subst hw
            refine lv_icmp_lt (tgt := 48) hx hb dX7_isRest_41 (by decide) (fun _ => ?_) (fun c41 => absurd (by decide +kernel) c41)
            refine lv_iconst (v := 0) hx hb dX7_isRest_48 zk_iconst_0 ?_
            exact W.zret (v := 0) hx hb hr rfl (fun t ht hW => ⟨⟨0, (), rfl, (Or.inr (rfl)), by rw [ht]; exact hP, va_K.moved hW.alike hK, hD⟩, hS.F ht⟩) hS.2.2 dX7_isRest_49
          · obtain ⟨hw, h38_0, h38_1, h38_2, h38_3⟩ := hw
            subst hw
            have l38k1_a2 : (0 : Int) ≤ a2.toInt := l25k3_a2
            have u38k1_a2 : a2.toInt ≤ (0 : Int) := u25k3_a2
            refine lv_icmp_lt (tgt := 48) hx hb dX7_isRest_41 (by decide) (fun _ => ?_) (fun c41 => absurd (by decide +kernel) c41)
            refine lv_iconst (v := 0) hx hb dX7_isRest_48 zk_iconst_0 ?_
            exact W.zret (v := 0) hx hb hr rfl (fun t ht hW => ⟨⟨0, (), rfl, (Or.inr (rfl)), by rw [ht]; exact hP, va_K.moved hW.alike hK, hD⟩, hS.F ht⟩) hS.2.2 dX7_isRest_49
          · obtain ⟨hw, h38_0, h38_1⟩ := hw
            subst hw
            refine lv_icmp_lt (tgt := 48) hx hb dX7_isRest_41 (by decide) (fun _ => ?_) (fun c41 => absurd (by decide +kernel) c41)
            refine lv_iconst (v := 0) hx hb dX7_isRest_48 zk_iconst_0 ?_
            exact W.zret (v := 0) hx hb hr rfl (fun t ht hW => ⟨⟨0, (), rfl, (Or.inr (rfl)), by rw [ht]; exact hP, va_K.moved hW.alike hK, hD⟩, hS.F ht⟩) hS.2.2 dX7_isRest_49
          · obtain ⟨hw, h38_0, h38_1⟩ := hw
            subst hw
            have l38k3_a2 : (0 : Int) ≤ a2.toInt := l25k3_a2
            have u38k3_a2 : a2.toInt ≤ (0 : Int) := u25k3_a2
            refine lv_icmp_lt (tgt := 48) hx hb dX7_isRest_41 (by decide) (fun c41 => absurd c41 (by decide +kernel)) (fun _ => ?_)
            refine lv_iconst (v := 1) hx hb dX7_isRest_44 zk_iconst_1 ?_
            refine lv_goto (tgt := 49) hx hb dX7_isRest_45 (by decide) ?_
            exact W.zret (v := 1) hx hb hr rfl (fun t ht hW => ⟨⟨1, (), rfl, (Or.inl (rfl)), by rw [ht]; exact hP, va_K.moved hW.alike hK, hD⟩, hS.F ht⟩) hS.2.2 dX7_isRest_49
        · have gc30 := ai_eq c30
          have u30f_a3 : a3.toInt ≤ (0 : Int) := Int.le_trans (Int.le_of_eq gc30) zq6
          have l30f_a3 : (0 : Int) ≤ a3.toInt := Int.le_trans zq5 (Int.le_of_eq gc30.symm)
          refine lv_iconst (v := 1) hx hb dX7_isRest_33 zk_iconst_1 ?_
          refine lv_goto (tgt := 38) hx hb dX7_isRest_34 (by decide) ?_
          obtain ⟨hPc, hDc, hFc, hCc⟩ := zc_cut (wc := []) hP hD hS hA [] (by decide +kernel) rfl
          have hKc := hK.sub (tys' := []) [] rfl
          refine va_calli (va_runS (As := [.int a2, .int 1]) (rest := [.int (-1)]) ⟨hx, hb, hml, hown, hts⟩ (c_X7_attendantShare l dC dI H.size a2 1 ) (va_cwS 2 hts gX7_isRest_X7_attendantShare rfl rfl rfl zd_X7_attendantShare.2 ⟨Nat.le_of_ble_eq_true rfl, Nat.le_of_ble_eq_true rfl⟩) ⟨ax_blind (fun _ _ _ _ _ => trivial), ax_pre hPc hKc hDc (fun _ _ => trivial)⟩ rfl rfl hl.1 rfl (lv_room (Nat.le_of_ble_eq_true rfl)) dX7_isRest_38 ⟨Nat.le_of_ble_eq_true rfl, Nat.le_of_ble_eq_true rfl⟩) hS (fun q _ h => hFc q h) hFc (fun r38 u t H locs ht hvm hw hB hz1 hk1 hS => ?_)
          obtain ⟨hP1, hK1, hD1⟩ := hB
          rw [ht] at hP1
          obtain ⟨hP, hD⟩ := zc_back (w := []) hP hD hCc hk1 hFc hP1 hD1 [] (by decide +kernel) rfl
          rcases hw with hw | hw | hw | hw
          · subst hw
            refine lv_icmp_lt (tgt := 48) hx hb dX7_isRest_41 (by decide) (fun _ => ?_) (fun c41 => absurd (by decide +kernel) c41)
            refine lv_iconst (v := 0) hx hb dX7_isRest_48 zk_iconst_0 ?_
            exact W.zret (v := 0) hx hb hr rfl (fun t ht hW => ⟨⟨0, (), rfl, (Or.inr (rfl)), by rw [ht]; exact hP, va_K.moved hW.alike hK, hD⟩, hS.F ht⟩) hS.2.2 dX7_isRest_49
          · obtain ⟨hw, h38_0, h38_1, h38_2, h38_3⟩ := hw
            subst hw
            have l38k1_a2 : (0 : Int) ≤ a2.toInt := l25k3_a2
            have u38k1_a2 : a2.toInt ≤ (0 : Int) := u25k3_a2
            exact absurd h38_3 (by decide)
          · obtain ⟨hw, h38_0, h38_1⟩ := hw
            subst hw
            exact absurd h38_1 (by decide)
          · obtain ⟨hw, h38_0, h38_1⟩ := hw
            subst hw
            have l38k3_a2 : (0 : Int) ≤ a2.toInt := l25k3_a2
            have u38k3_a2 : a2.toInt ≤ (0 : Int) := u25k3_a2
            refine lv_icmp_lt (tgt := 48) hx hb dX7_isRest_41 (by decide) (fun c41 => absurd c41 (by decide +kernel)) (fun _ => ?_)
            refine lv_iconst (v := 1) hx hb dX7_isRest_44 zk_iconst_1 ?_
            refine lv_goto (tgt := 49) hx hb dX7_isRest_45 (by decide) ?_
            exact W.zret (v := 1) hx hb hr rfl (fun t ht hW => ⟨⟨1, (), rfl, (Or.inl (rfl)), by rw [ht]; exact hP, va_K.moved hW.alike hK, hD⟩, hS.F ht⟩) hS.2.2 dX7_isRest_49

set_option maxHeartbeats 4000000 in
set_option maxRecDepth 100000 in
theorem c_X7_ownTurns (l : Launch) (dC : Nat → ClassId) (dI : Nat → Nat → Nat) (sz : Nat) (a0 : Nat) (a1 : Int32) (a2 : Int32) (a0g_0 a0g_2 a0g_3 a0g_4 a0g_5 a0g_6 a0g_8 a0g_9 a0g_10 : Value) (a0_1 : Nat) (a0_7 : Nat) (a0_1g_0 a0_1g_2 a0_1g_3 a0_1g_4 a0_1g_5 a0_1g_6 : Value) (a0_1_1 : Int32) (a0_7_0 : Int32) (a0_7g_1 a0_7g_2 a0_7g_3 a0_7g_4 a0_7g_7 a0_7g_8 a0_7g_9 a0_7g_10 a0_7g_11 a0_7g_12 a0_7g_13 a0_7g_14 : Value) (a0_7_5 : Int32) (a0_7_6 : Int32) (ba0_1_1_l : (0 : Int) ≤ a0_1_1.toInt) (ba0_1_1_u : a0_1_1.toInt ≤ (8 : Int)) (ba0_7_0_l : (0 : Int) ≤ a0_7_0.toInt) (ba0_7_0_u : a0_7_0.toInt ≤ (9 : Int)) (ba0_7_5_l : (0 : Int) ≤ a0_7_5.toInt) (ba0_7_5_u : a0_7_5.toInt ≤ (8 : Int)) (ba0_7_6_l : (0 : Int) ≤ a0_7_6.toInt) (ba0_7_6_u : a0_7_6.toInt ≤ (8 : Int)) : Met l yX7_ownTurns wsX7_ownTurns ({ frames := 1, cells := 0, slots := 0, locals := 21 }) (va_Pc [.ref a0, .int a1, .int a2] (ax_C dC dI sz [(a0, .inr (7, [a0g_0, .ref a0_1, a0g_2, a0g_3, a0g_4, a0g_5, a0g_6, .ref a0_7, a0g_8, a0g_9, a0g_10])), (a0_1, .inr (5, [a0_1g_0, .int a0_1_1, a0_1g_2, a0_1g_3, a0_1g_4, a0_1g_5, a0_1g_6])), (a0_7, .inr (0, [.int a0_7_0, a0_7g_1, a0_7g_2, a0_7g_3, a0_7g_4, .int a0_7_5, .int a0_7_6, a0_7g_7, a0_7g_8, a0_7g_9, a0_7g_10, a0_7g_11, a0_7g_12, a0_7g_13, a0_7g_14]))] [] (fun _ => True))) (va_Qi (fun (r : Int32) (_ : Unit) => True) (fun (_ : Unit) (t : State) => ax_B dC dI (va_A [(a0, .inr (7, [a0g_0, .ref a0_1, a0g_2, a0g_3, a0g_4, a0g_5, a0g_6, .ref a0_7, a0g_8, a0g_9, a0g_10])), (a0_1, .inr (5, [a0_1g_0, .int a0_1_1, a0_1g_2, a0_1g_3, a0_1g_4, a0_1g_5, a0_1g_6])), (a0_7, .inr (0, [.int a0_7_0, a0_7g_1, a0_7g_2, a0_7g_3, a0_7g_4, .int a0_7_5, .int a0_7_6, a0_7g_7, a0_7g_8, a0_7g_9, a0_7g_10, a0_7g_11, a0_7g_12, a0_7g_13, a0_7g_14]))] sz) [(a0, .inr (7, [a0g_0, .ref a0_1, a0g_2, a0g_3, a0g_4, a0g_5, a0g_6, .ref a0_7, a0g_8, a0g_9, a0g_10])), (a0_1, .inr (5, [a0_1g_0, .int a0_1_1, a0_1g_2, a0_1g_3, a0_1g_4, a0_1g_5, a0_1g_6])), (a0_7, .inr (0, [.int a0_7_0, a0_7g_1, a0_7g_2, a0_7g_3, a0_7g_4, .int a0_7_5, .int a0_7_6, a0_7g_7, a0_7g_8, a0_7g_9, a0_7g_10, a0_7g_11, a0_7g_12, a0_7g_13, a0_7g_14]))] [] t) (va_A [(a0, .inr (7, [a0g_0, .ref a0_1, a0g_2, a0g_3, a0g_4, a0g_5, a0g_6, .ref a0_7, a0g_8, a0g_9, a0g_10])), (a0_1, .inr (5, [a0_1g_0, .int a0_1_1, a0_1g_2, a0_1g_3, a0_1g_4, a0_1g_5, a0_1g_6])), (a0_7, .inr (0, [.int a0_7_0, a0_7g_1, a0_7g_2, a0_7g_3, a0_7g_4, .int a0_7_5, .int a0_7_6, a0_7g_7, a0_7g_8, a0_7g_9, a0_7g_10, a0_7g_11, a0_7g_12, a0_7g_13, a0_7g_14]))] sz)) 0 0 (va_A [(a0, .inr (7, [a0g_0, .ref a0_1, a0g_2, a0g_3, a0g_4, a0g_5, a0g_6, .ref a0_7, a0g_8, a0g_9, a0g_10])), (a0_1, .inr (5, [a0_1g_0, .int a0_1_1, a0_1g_2, a0_1g_3, a0_1g_4, a0_1g_5, a0_1g_6])), (a0_7, .inr (0, [.int a0_7_0, a0_7g_1, a0_7g_2, a0_7g_3, a0_7g_4, .int a0_7_5, .int a0_7_6, a0_7g_7, a0_7g_8, a0_7g_9, a0_7g_10, a0_7g_11, a0_7g_12, a0_7g_13, a0_7g_14]))] sz) := by
  refine Met.ofW (cc := cX7_ownTurns) (maxL := 6) (ret := (some .int)) (by decide) rfl ?_
  intro p e s m args below meth c s₁ B hml hv
  obtain ⟨rfl, hsz, hP, hK, hD0, hE⟩ := hv
  have hx := B.exec
  have hb := B.bytes
  have hr := B.returns
  have hts := atoms_spec (ws := wsX7_ownTurns) B.pre
  have hown : s.vm.findClass RX7 = some m.cls := findClass_of_methodNamed B.named
  have hlocks := B.notSynchronized
  subst hsz
  have hD := hD0.self (sz := s.heap.size)
  generalize hAe : va_A [(a0, .inr (7, [a0g_0, .ref a0_1, a0g_2, a0g_3, a0g_4, a0g_5, a0g_6, .ref a0_7, a0g_8, a0g_9, a0g_10])), (a0_1, .inr (5, [a0_1g_0, .int a0_1_1, a0_1g_2, a0_1g_3, a0_1g_4, a0_1g_5, a0_1g_6])), (a0_7, .inr (0, [.int a0_7_0, a0_7g_1, a0_7g_2, a0_7g_3, a0_7g_4, .int a0_7_5, .int a0_7_6, a0_7g_7, a0_7g_8, a0_7g_9, a0_7g_10, a0_7g_11, a0_7g_12, a0_7g_13, a0_7g_14]))] s.heap.size = A at hD ⊢
  have hA : ∀ q : Nat, s.heap.size ≤ q → A q := fun q h => by rw [← hAe]; exact Or.inr h
  have hS : va_S A s.heap s.heap [] := va_S.rf
  have hP : va_P (dC, dI) vwCl [(a0, .inr (7, [a0g_0, .ref a0_1, a0g_2, a0g_3, a0g_4, a0g_5, a0g_6, .ref a0_7, a0g_8, a0g_9, a0g_10])), (a0_1, .inr (5, [a0_1g_0, .int a0_1_1, a0_1g_2, a0_1g_3, a0_1g_4, a0_1g_5, a0_1g_6])), (a0_7, .inr (0, [.int a0_7_0, a0_7g_1, a0_7g_2, a0_7g_3, a0_7g_4, .int a0_7_5, .int a0_7_6, a0_7g_7, a0_7g_8, a0_7g_9, a0_7g_10, a0_7g_11, a0_7g_12, a0_7g_13, a0_7g_14]))] s.heap := hP
  have hl := lv_entry ([.ref a0, .int a1, .int a2]) (n := 6) (Nat.le_of_ble_eq_true rfl)
  rw [lg_entry_eq]
  generalize (lg_sl ([.ref a0, .int a1, .int a2]) ++ List.replicate (6 - (lg_sl ([.ref a0, .int a1, .int a2])).length) Slot.unset).toArray = ls at hl ⊢
  have hl : lv_has ls 6 [(0, .ref a0), (1, .int a1), (2, .int a2)] := hl
  refine ai_open (fun K hK0 => ?_)
  refine (hK0 _ _ _).mpr ?_
  refine lv_iconst (v := 0) hx hb dX7_ownTurns_0 zk_iconst_0 ?_
  refine lv_istore_n (lv' := [(3, .int 0), (0, .ref a0), (1, .int a1), (2, .int a2)]) hx hb dX7_ownTurns_1 rfl hl (by decide) rfl (fun ls hl => ?_)
  refine lv_aload_n hx hb dX7_ownTurns_2 rfl (lv_at hl 1 rfl) ?_
  refine va_get (D := (dC, dI)) (ci := 7) (v := .ref a0_1) (C := RX7) (T := TX7) (N := 11) hx hb hts zi_X7_ownTurns_7 hown hK hP 0 rfl rfl 1 (by decide) (hts (.fieldLink RX7 19 "WaxTurns" "now" "LWaxTurns$Scene;") (List.mem_cons_of_mem _ (List.mem_append_left _ (List.mem_append_left _ (List.mem_append_left _ (List.mem_of_getElem? (i := 0) rfl)))))) (fun _ h9 => h9) rfl dX7_ownTurns_3 ?_
  refine va_get (D := (dC, dI)) (ci := 5) (v := .int a0_1_1) (C := RX5) (T := TX5) (N := 7) hx hb hts zi_X7_ownTurns_5 hown hK hP 1 rfl rfl 1 (by decide) (hts (.fieldLink RX7 158 "WaxTurns$Scene" "turn" "I") (List.mem_cons_of_mem _ (List.mem_append_left _ (List.mem_append_left _ (List.mem_append_left _ (List.mem_of_getElem? (i := 1) rfl)))))) (fun _ h9 => h9) rfl dX7_ownTurns_6 ?_
  refine lv_istore (lv' := [(4, .int a0_1_1), (3, .int 0), (0, .ref a0), (1, .int a1), (2, .int a2)]) hx hb dX7_ownTurns_9 hl (by decide) rfl (fun ls hl => ?_)
  refine lv_iconst (v := 0) hx hb dX7_ownTurns_11 zk_iconst_0 ?_
  refine lv_istore (lv' := [(5, .int 0), (4, .int a0_1_1), (3, .int 0), (0, .ref a0), (1, .int a1), (2, .int a2)]) hx hb dX7_ownTurns_12 hl (by decide) rfl (fun ls hl => ?_)
  have J14 : ∀ (n : Nat) (j14l5 : Int32) (j14l4 : Int32) (j14l3 : Int32) (H : Heap) (locs : List Loc) (ls : Array Slot), (2147483648 : Int) - j14l5.toInt ≤ (n : Int) → (0 : Int) ≤ j14l5.toInt → (0 : Int) ≤ j14l4.toInt → j14l4.toInt ≤ (8 : Int) → va_P (dC, dI) vwCl [(a0, .inr (7, [a0g_0, .ref a0_1, a0g_2, a0g_3, a0g_4, a0g_5, a0g_6, .ref a0_7, a0g_8, a0g_9, a0g_10])), (a0_1, .inr (5, [a0_1g_0, .int a0_1_1, a0_1g_2, a0_1g_3, a0_1g_4, a0_1g_5, a0_1g_6])), (a0_7, .inr (0, [.int a0_7_0, a0_7g_1, a0_7g_2, a0_7g_3, a0_7g_4, .int a0_7_5, .int a0_7_6, a0_7g_7, a0_7g_8, a0_7g_9, a0_7g_10, a0_7g_11, a0_7g_12, a0_7g_13, a0_7g_14]))] H → va_D A [(a0, .inr (7, [a0g_0, .ref a0_1, a0g_2, a0g_3, a0g_4, a0g_5, a0g_6, .ref a0_7, a0g_8, a0g_9, a0g_10])), (a0_1, .inr (5, [a0_1g_0, .int a0_1_1, a0_1g_2, a0_1g_3, a0_1g_4, a0_1g_5, a0_1g_6])), (a0_7, .inr (0, [.int a0_7_0, a0_7g_1, a0_7g_2, a0_7g_3, a0_7g_4, .int a0_7_5, .int a0_7_6, a0_7g_7, a0_7g_8, a0_7g_9, a0_7g_10, a0_7g_11, a0_7g_12, a0_7g_13, a0_7g_14]))] → va_S A s.heap H locs → lv_has ls 6 [(0, .ref a0), (1, .int a1), (2, .int a2), (3, .int j14l3), (4, .int j14l4), (5, .int j14l5)] → K H locs (F0 m 14 ls []) := by
    intro n
    induction n with
    | zero =>
      intro j14l5 j14l4 j14l3 H locs ls hm bj14l5_l bj14l4_l bj14l4_u hP hD hS hl
      have h8 := ai_min j14l5
      have h9 := ai_max j14l5
      exact absurd hm (by omega)
    | succ n ih14 =>
      intro j14l5 j14l4 j14l3 H locs ls hm bj14l5_l bj14l4_l bj14l4_u hP hD hS hl
      refine (hK0 _ _ _).mpr ?_
      have hm14 := hm
      refine lv_iload hx hb dX7_ownTurns_14 (lv_at hl 5 rfl) ?_
      refine lv_iload_n hx hb dX7_ownTurns_16 rfl (lv_at hl 2 rfl) ?_
      refine lv_icmp_ge (tgt := 46) hx hb dX7_ownTurns_17 (by decide) (fun c17 => ?_) (fun c17 => ?_)
      · have gc17 := ai_le c17
        refine lv_iload_n hx hb dX7_ownTurns_46 rfl (lv_at hl 3 rfl) ?_
        exact W.iret (v := j14l3) hx hb hr (fun t ht hW => ⟨⟨j14l3, (), rfl, trivial, by rw [ht]; exact hP, va_K.moved hW.alike hK, hD⟩, hS.F ht⟩) hS.2.2 dX7_ownTurns_47
      · have gc17 := ai_nle c17
        have u17f_j14l5 : j14l5.toInt ≤ (2147483646 : Int) := ai_lthi gc17 (ai_max a2)
        have l17f_a2 : (1 : Int) ≤ a2.toInt := ai_ltlo gc17 bj14l5_l
        refine lv_aload_n hx hb dX7_ownTurns_20 rfl (lv_at hl 0 rfl) ?_
        refine va_get (D := (dC, dI)) (ci := 7) (v := .ref a0_7) (C := RX7) (T := TX7) (N := 11) hx hb hts zi_X7_ownTurns_7 hown hK hP 0 rfl rfl 7 (by decide) (hts (.fieldLink RX7 57 "WaxTurns" "hall" "LWaxTurns$Hall;") (List.mem_cons_of_mem _ (List.mem_append_left _ (List.mem_append_left _ (List.mem_append_left _ (List.mem_of_getElem? (i := 2) rfl)))))) (fun _ h9 => h9) rfl dX7_ownTurns_21 ?_
        refine lv_iload hx hb dX7_ownTurns_24 (lv_at hl 4 rfl) ?_
        obtain ⟨hPc, hDc, hFc, hCc⟩ := zc_cut (wc := [(a0_7, .inr (0, [.int a0_7_0, a0_7g_1, a0_7g_2, a0_7g_3, a0_7g_4, .int a0_7_5, .int a0_7_6, a0_7g_7, a0_7g_8, a0_7g_9, a0_7g_10, a0_7g_11, a0_7g_12, a0_7g_13, a0_7g_14]))]) hP hD hS hA [2] (by decide +kernel) rfl
        have hKc := hK.sub (tys' := []) [] rfl
        refine va_calli (va_runV (As := [.int j14l4]) (rest := []) ⟨hx, hb, hml, hown, hts⟩ (c_X0_next l dC dI H.size a0_7 j14l4 a0_7_0 a0_7g_1 a0_7g_2 a0_7g_3 a0_7g_4 a0_7g_7 a0_7g_8 a0_7g_9 a0_7g_10 a0_7g_11 a0_7g_12 a0_7g_13 a0_7g_14 a0_7_5 a0_7_6 bj14l4_l bj14l4_u ba0_7_0_l ba0_7_0_u ba0_7_5_l ba0_7_5_u ba0_7_6_l ba0_7_6_u) (cwV 1 hts gX7_ownTurns_X0_next rfl rfl rfl zd_X0_next ⟨Nat.le_of_ble_eq_true rfl, Nat.le_of_ble_eq_true rfl⟩) ⟨ax_blind (fun _ _ _ _ _ => trivial), zr_0 hKc hPc (q0 := 0) rfl, ax_pre hPc hKc hDc (fun _ _ => trivial)⟩ rfl rfl hl.1 rfl (lv_room (Nat.le_of_ble_eq_true rfl)) dX7_ownTurns_26 ⟨Nat.le_of_ble_eq_true rfl, Nat.le_of_ble_eq_true rfl⟩) hS (fun q _ h => hFc q h) hFc (fun r26 u t H locs ht hvm hw hB hz1 hk1 hS => ?_)
        obtain ⟨hP1, hK1, hD1⟩ := hB
        rw [ht] at hP1
        obtain ⟨hP, hD⟩ := zc_back (w := [(a0, .inr (7, [a0g_0, .ref a0_1, a0g_2, a0g_3, a0g_4, a0g_5, a0g_6, .ref a0_7, a0g_8, a0g_9, a0g_10])), (a0_1, .inr (5, [a0_1g_0, .int a0_1_1, a0_1g_2, a0_1g_3, a0_1g_4, a0_1g_5, a0_1g_6])), (a0_7, .inr (0, [.int a0_7_0, a0_7g_1, a0_7g_2, a0_7g_3, a0_7g_4, .int a0_7_5, .int a0_7_6, a0_7g_7, a0_7g_8, a0_7g_9, a0_7g_10, a0_7g_11, a0_7g_12, a0_7g_13, a0_7g_14]))]) hP hD hCc hk1 hFc hP1 hD1 [.inl 0, .inl 1, .inr 0] (by decide +kernel) rfl
        have hw : (0 : Int) ≤ r26.toInt ∧ r26.toInt ≤ (8 : Int) := hw
        obtain ⟨h26_0, h26_1⟩ := hw
        refine lv_istore (lv' := [(4, .int r26), (0, .ref a0), (1, .int a1), (2, .int a2), (3, .int j14l3), (5, .int j14l5)]) hx hb dX7_ownTurns_29 hl (by decide) rfl (fun ls hl => ?_)
        refine lv_iload hx hb dX7_ownTurns_31 (lv_at hl 0 rfl) ?_
        refine lv_iload_n hx hb dX7_ownTurns_33 rfl (lv_at hl 2 rfl) ?_
        have J40 : ∀ (j40l3 : Int32) (H : Heap) (locs : List Loc) (ls : Array Slot), va_P (dC, dI) vwCl [(a0, .inr (7, [a0g_0, .ref a0_1, a0g_2, a0g_3, a0g_4, a0g_5, a0g_6, .ref a0_7, a0g_8, a0g_9, a0g_10])), (a0_1, .inr (5, [a0_1g_0, .int a0_1_1, a0_1g_2, a0_1g_3, a0_1g_4, a0_1g_5, a0_1g_6])), (a0_7, .inr (0, [.int a0_7_0, a0_7g_1, a0_7g_2, a0_7g_3, a0_7g_4, .int a0_7_5, .int a0_7_6, a0_7g_7, a0_7g_8, a0_7g_9, a0_7g_10, a0_7g_11, a0_7g_12, a0_7g_13, a0_7g_14]))] H → va_D A [(a0, .inr (7, [a0g_0, .ref a0_1, a0g_2, a0g_3, a0g_4, a0g_5, a0g_6, .ref a0_7, a0g_8, a0g_9, a0g_10])), (a0_1, .inr (5, [a0_1g_0, .int a0_1_1, a0_1g_2, a0_1g_3, a0_1g_4, a0_1g_5, a0_1g_6])), (a0_7, .inr (0, [.int a0_7_0, a0_7g_1, a0_7g_2, a0_7g_3, a0_7g_4, .int a0_7_5, .int a0_7_6, a0_7g_7, a0_7g_8, a0_7g_9, a0_7g_10, a0_7g_11, a0_7g_12, a0_7g_13, a0_7g_14]))] → va_S A s.heap H locs → lv_has ls 6 [(0, .ref a0), (1, .int a1), (2, .int a2), (3, .int j40l3), (4, .int r26), (5, .int j14l5)] → K H locs (F0 m 40 ls []) := by
          intro j40l3 H locs ls   hP hD hS hl
          refine (hK0 _ _ _).mpr ?_
          obtain ⟨x40, ex40⟩ : ∃ y : Int32, y = j14l5 + Int32.ofInt 1 := ⟨_, rfl⟩
          have qx40 : x40.toInt = j14l5.toInt + 1 := ai_inc ex40 (by decide) (by decide) u17f_j14l5 (by decide)
          have bx40 : (1 : Int) ≤ x40.toInt ∧ x40.toInt ≤ 2147483647 := ⟨by rw [qx40]; exact Int.add_le_add bj14l5_l (Int.le_refl _), by rw [qx40]; exact Int.add_le_add u17f_j14l5 (Int.le_refl _)⟩
          refine lv_iinc (v := x40) (lv' := [(5, .int x40), (0, .ref a0), (1, .int a1), (2, .int a2), (3, .int j40l3), (4, .int r26)]) hx hb dX7_ownTurns_40 hl (k := 5) rfl ex40.symm (by decide) rfl (fun ls hl => ?_)
          refine lv_goto (tgt := 14) hx hb dX7_ownTurns_43 (by decide) ?_
          exact (hK0 _ _ _).mp (ih14 x40 r26 j40l3 _ _ _ (by have h0 := qx40; omega) (Int.le_trans zq4 bx40.1) h26_0 h26_1 hP hD hS (lv_sub hl [1, 2, 3, 4, 5, 0] rfl))
        refine lv_icmp_ne (tgt := 40) hx hb dX7_ownTurns_34 (by decide) (fun c34 => ?_) (fun c34 => ?_)
        · have gc34 := ai_ne c34
          exact (hK0 _ _ _).mp (J40 j14l3 _ _ _   hP hD hS (lv_sub hl [1, 2, 3, 4, 0, 5] rfl))
        · have gc34 := ai_eq c34
          have u34f_a1 : a1.toInt ≤ (8 : Int) := Int.le_trans (Int.le_of_eq gc34.symm) h26_1
          have l34f_a1 : (0 : Int) ≤ a1.toInt := Int.le_trans h26_0 (Int.le_of_eq gc34)
          obtain ⟨x37, ex37⟩ : ∃ y : Int32, y = j14l3 + Int32.ofInt 1 := ⟨_, rfl⟩
          refine lv_iinc (v := x37) (lv' := [(3, .int x37), (4, .int r26), (0, .ref a0), (1, .int a1), (2, .int a2), (5, .int j14l5)]) hx hb dX7_ownTurns_37 hl (k := 4) rfl ex37.symm (by decide) rfl (fun ls hl => ?_)
          exact (hK0 _ _ _).mp (J40 x37 _ _ _   hP hD hS (lv_sub hl [2, 3, 4, 0, 1, 5] rfl))
  exact (hK0 _ _ _).mp (J14 2147483648 0 a0_1_1 0 _ _ _ (by have h1 : (0 : Int) ≤ (0 : Int32).toInt := zq5; have h2 : (0 : Int32).toInt ≤ (0 : Int) := zq6; omega) zq5 ba0_1_1_l ba0_1_1_u hP hD hS (lv_sub hl [3, 4, 5, 2, 1, 0] rfl))

set_option maxHeartbeats 4000000 in
set_option maxRecDepth 100000 in
theorem c_X7_inLowestTerms (l : Launch) (dC : Nat → ClassId) (dI : Nat → Nat → Nat) (sz : Nat) (a1 : Int64) (a2 : Int64) (a3 : Int32)  : Met l yX7_inLowestTerms wsX7_inLowestTerms ({ frames := 0, cells := 0, slots := 0, locals := 0 }) (va_Pc [.long a1, .long a2, .int a3] (ax_C dC dI sz [] [] (fun _ => True))) (va_Ql (fun (r : Int64) (_ : Unit) => True) (fun (_ : Unit) (t : State) => ax_B dC dI (va_A [] sz) [] [] t) (va_A [] sz)) 0 0 (va_A [] sz) := by
  refine Met.ofW (cc := cX7_inLowestTerms) (maxL := 12) (ret := (some .long)) (by decide) rfl ?_
  intro p e s m args below meth c s₁ B hml hv
  obtain ⟨rfl, hsz, hP, hK, hD0, hE⟩ := hv
  have hx := B.exec
  have hb := B.bytes
  have hr := B.returns
  have hts := atoms_spec (ws := wsX7_inLowestTerms) B.pre
  have hown : s.vm.findClass RX7 = some m.cls := findClass_of_methodNamed B.named
  have hlocks := B.notSynchronized
  subst hsz
  have hD := hD0.self (sz := s.heap.size)
  generalize hAe : va_A [] s.heap.size = A at hD ⊢
  have hA : ∀ q : Nat, s.heap.size ≤ q → A q := fun q h => by rw [← hAe]; exact Or.inr h
  have hS : va_S A s.heap s.heap [] := va_S.rf
  have hP : va_P (dC, dI) vwCl [] s.heap := hP
  have hl := lv_entry ([.long a1, .long a2, .int a3]) (n := 12) (Nat.le_of_ble_eq_true rfl)
  rw [lg_entry_eq]
  generalize (lg_sl ([.long a1, .long a2, .int a3]) ++ List.replicate (12 - (lg_sl ([.long a1, .long a2, .int a3])).length) Slot.unset).toArray = ls at hl ⊢
  have hl : lv_has ls 12 [(0, .long a1), (2, .long a2), (4, .int a3)] := hl
  refine ai_open (fun K hK0 => ?_)
  refine (hK0 _ _ _).mpr ?_
  refine lv_lload_n hx hb dX7_inLowestTerms_0 rfl (lv_at hl 1 rfl) ?_
  refine lv_lstore (lv' := [(5, .long a2), (0, .long a1), (2, .long a2), (4, .int a3)]) hx hb dX7_inLowestTerms_1 hl (by decide) rfl (fun ls hl => ?_)
  refine lv_lload_n hx hb dX7_inLowestTerms_3 rfl (lv_at hl 1 rfl) ?_
  refine lv_lstore (lv' := [(7, .long a1), (5, .long a2), (0, .long a1), (2, .long a2), (4, .int a3)]) hx hb dX7_inLowestTerms_4 hl (by decide) rfl (fun ls hl => ?_)
  refine lv_iconst (v := 0) hx hb dX7_inLowestTerms_6 zk_iconst_0 ?_
  refine lv_istore (lv' := [(9, .int 0), (7, .long a1), (5, .long a2), (0, .long a1), (2, .long a2), (4, .int a3)]) hx hb dX7_inLowestTerms_7 hl (by decide) rfl (fun ls hl => ?_)
  have J9 : ∀ (n : Nat) (j9l9 : Int32) (j9l7 : Int64) (j9l5 : Int64) (H : Heap) (locs : List Loc) (ls : Array Slot), (201 : Int) - j9l9.toInt ≤ (n : Int) → (0 : Int) ≤ j9l9.toInt → j9l9.toInt ≤ (200 : Int) → va_P (dC, dI) vwCl [] H → va_D A [] → va_S A s.heap H locs → lv_has ls 12 [(0, .long a1), (2, .long a2), (4, .int a3), (5, .long j9l5), (7, .long j9l7), (9, .int j9l9)] → K H locs (F0 m 9 ls []) := by
    intro n
    induction n with
    | zero =>
      intro j9l9 j9l7 j9l5 H locs ls hm bj9l9_l bj9l9_u hP hD hS hl
      have h8 := ai_min j9l9
      have h9 := ai_max j9l9
      exact absurd hm (by omega)
    | succ n ih9 =>
      intro j9l9 j9l7 j9l5 H locs ls hm bj9l9_l bj9l9_u hP hD hS hl
      refine (hK0 _ _ _).mpr ?_
      have hm9 := hm
      refine lv_iload hx hb dX7_inLowestTerms_9 (lv_at hl 5 rfl) ?_
      refine lv_sipush (v := 200) hx hb dX7_inLowestTerms_11 zk_sipush_200 ?_
      have J45 : ∀ (H : Heap) (locs : List Loc) (ls : Array Slot), va_P (dC, dI) vwCl [] H → va_D A [] → va_S A s.heap H locs → lv_has ls 12 [(0, .long a1), (2, .long a2), (4, .int a3), (5, .long j9l5)] → K H locs (F0 m 45 ls []) := by
        intro  H locs ls   hP hD hS hl
        refine (hK0 _ _ _).mpr ?_
        refine lv_iload hx hb dX7_inLowestTerms_45 (lv_at hl 2 rfl) ?_
        have J55 : ∀ (j55s0 : Int64) (H : Heap) (locs : List Loc) (ls : Array Slot), va_P (dC, dI) vwCl [] H → va_D A [] → va_S A s.heap H locs → lv_has ls 12 [(5, .long j9l5)] → K H locs (F0 m 55 ls [.long j55s0]) := by
          intro j55s0 H locs ls   hP hD hS hl
          refine (hK0 _ _ _).mpr ?_
          refine lv_lstore (lv' := [(9, .long j55s0), (5, .long j9l5)]) hx hb dX7_inLowestTerms_55 hl (by decide) rfl (fun ls hl => ?_)
          refine lv_lload hx hb dX7_inLowestTerms_57 (lv_at hl 1 rfl) ?_
          refine lv_lconst (v := 0) hx hb dX7_inLowestTerms_59 (by decide) ?_
          refine W.lcmp hx hb dX7_inLowestTerms_60 ?_
          refine lv_topi (fun x60 ex60 => ?_)
          refine lv_if_ne (tgt := 69) hx hb dX7_inLowestTerms_61 (by decide) (fun c61 => ?_) (fun c61 => ?_)
          · have gc61 := ai_ne c61
            have zc61 : ¬ j9l5 = 0 := ai_lcne ex60 c61
            refine lv_lload hx hb dX7_inLowestTerms_69 (lv_at hl 0 rfl) ?_
            refine lv_lload hx hb dX7_inLowestTerms_71 (lv_at hl 1 rfl) ?_
            refine lv_ldiv hx hb dX7_inLowestTerms_73 zc61 ?_
            refine lv_topl (fun x73 ex73 => ?_)
            exact W.lret (v := x73) hx hb hr (fun t ht hW => ⟨⟨x73, (), rfl, trivial, by rw [ht]; exact hP, va_K.moved hW.alike hK, hD⟩, hS.F ht⟩) hS.2.2 dX7_inLowestTerms_74
          · have gc61 := ai_eq c61
            have u61f_x60 : x60.toInt ≤ (0 : Int) := Int.le_trans (Int.le_of_eq gc61) zq6
            have l61f_x60 : (0 : Int) ≤ x60.toInt := Int.le_trans zq5 (Int.le_of_eq gc61.symm)
            refine lv_lload hx hb dX7_inLowestTerms_64 (lv_at hl 0 rfl) ?_
            refine lv_goto (tgt := 74) hx hb dX7_inLowestTerms_66 (by decide) ?_
            exact W.lret (v := j55s0) hx hb hr (fun t ht hW => ⟨⟨j55s0, (), rfl, trivial, by rw [ht]; exact hP, va_K.moved hW.alike hK, hD⟩, hS.F ht⟩) hS.2.2 dX7_inLowestTerms_74
        refine lv_if_eq (tgt := 54) hx hb dX7_inLowestTerms_47 (by decide) (fun c47 => ?_) (fun c47 => ?_)
        · have gc47 := ai_eq c47
          have u47t_a3 : a3.toInt ≤ (0 : Int) := Int.le_trans (Int.le_of_eq gc47) zq6
          have l47t_a3 : (0 : Int) ≤ a3.toInt := Int.le_trans zq5 (Int.le_of_eq gc47.symm)
          refine lv_lload_n hx hb dX7_inLowestTerms_54 rfl (lv_at hl 0 rfl) ?_
          exact (hK0 _ _ _).mp (J55 a1 _ _ _   hP hD hS (lv_sub hl [3] rfl))
        · have gc47 := ai_ne c47
          refine lv_lload_n hx hb dX7_inLowestTerms_50 rfl (lv_at hl 1 rfl) ?_
          refine lv_goto (tgt := 55) hx hb dX7_inLowestTerms_51 (by decide) ?_
          exact (hK0 _ _ _).mp (J55 a2 _ _ _   hP hD hS (lv_sub hl [3] rfl))
      refine lv_icmp_ge (tgt := 45) hx hb dX7_inLowestTerms_14 (by decide) (fun c14 => ?_) (fun c14 => ?_)
      · have gc14 := ai_le c14
        have l14t_j9l9 : (200 : Int) ≤ j9l9.toInt := Int.le_trans zq64 gc14
        exact (hK0 _ _ _).mp (J45  _ _ _   hP hD hS (lv_sub hl [0, 1, 2, 3] rfl))
      · have gc14 := ai_nle c14
        have u14f_j9l9 : j9l9.toInt ≤ (199 : Int) := ai_lthi gc14 zq65
        refine lv_lload hx hb dX7_inLowestTerms_17 (lv_at hl 4 rfl) ?_
        refine lv_lconst (v := 0) hx hb dX7_inLowestTerms_19 (by decide) ?_
        refine W.lcmp hx hb dX7_inLowestTerms_20 ?_
        refine lv_topi (fun x20 ex20 => ?_)
        refine lv_if_eq (tgt := 45) hx hb dX7_inLowestTerms_21 (by decide) (fun c21 => ?_) (fun c21 => ?_)
        · have gc21 := ai_eq c21
          have u21t_x20 : x20.toInt ≤ (0 : Int) := Int.le_trans (Int.le_of_eq gc21) zq6
          have l21t_x20 : (0 : Int) ≤ x20.toInt := Int.le_trans zq5 (Int.le_of_eq gc21.symm)
          exact (hK0 _ _ _).mp (J45  _ _ _   hP hD hS (lv_sub hl [0, 1, 2, 3] rfl))
        · have gc21 := ai_ne c21
          have zc21 : ¬ j9l7 = 0 := ai_lcne ex20 c21
          refine lv_lload hx hb dX7_inLowestTerms_24 (lv_at hl 3 rfl) ?_
          refine lv_lload hx hb dX7_inLowestTerms_26 (lv_at hl 4 rfl) ?_
          refine lv_lrem hx hb dX7_inLowestTerms_28 zc21 ?_
          refine lv_topl (fun x28 ex28 => ?_)
          refine lv_lstore (lv' := [(10, .long x28), (0, .long a1), (2, .long a2), (4, .int a3), (5, .long j9l5), (7, .long j9l7), (9, .int j9l9)]) hx hb dX7_inLowestTerms_29 hl (by decide) rfl (fun ls hl => ?_)
          refine lv_lload hx hb dX7_inLowestTerms_31 (lv_at hl 5 rfl) ?_
          refine lv_lstore (lv' := [(5, .long j9l7), (10, .long x28), (0, .long a1), (2, .long a2), (4, .int a3), (7, .long j9l7), (9, .int j9l9)]) hx hb dX7_inLowestTerms_33 hl (by decide) rfl (fun ls hl => ?_)
          refine lv_lload hx hb dX7_inLowestTerms_35 (lv_at hl 1 rfl) ?_
          refine lv_lstore (lv' := [(7, .long x28), (5, .long j9l7), (10, .long x28), (0, .long a1), (2, .long a2), (4, .int a3), (9, .int j9l9)]) hx hb dX7_inLowestTerms_37 hl (by decide) rfl (fun ls hl => ?_)
          obtain ⟨x39, ex39⟩ : ∃ y : Int32, y = j9l9 + Int32.ofInt 1 := ⟨_, rfl⟩
          have qx39 : x39.toInt = j9l9.toInt + 1 := ai_inc ex39 (by decide) (by decide) u14f_j9l9 (by decide)
          have bx39 : (1 : Int) ≤ x39.toInt ∧ x39.toInt ≤ 200 := ⟨by rw [qx39]; exact Int.add_le_add bj9l9_l (Int.le_refl _), by rw [qx39]; exact Int.add_le_add u14f_j9l9 (Int.le_refl _)⟩
          refine lv_iinc (v := x39) (lv' := [(9, .int x39), (7, .long x28), (5, .long j9l7), (10, .long x28), (0, .long a1), (2, .long a2), (4, .int a3)]) hx hb dX7_inLowestTerms_39 hl (k := 6) rfl ex39.symm (by decide) rfl (fun ls hl => ?_)
          refine lv_goto (tgt := 9) hx hb dX7_inLowestTerms_42 (by decide) ?_
          exact (hK0 _ _ _).mp (ih9 x39 x28 j9l7 _ _ _ (by have h0 := qx39; omega) (Int.le_trans zq4 bx39.1) bx39.2 hP hD hS (lv_sub hl [4, 5, 6, 2, 1, 0] rfl))
  exact (hK0 _ _ _).mp (J9 201 0 a1 a2 _ _ _ (by have h1 : (0 : Int) ≤ (0 : Int32).toInt := zq5; have h2 : (0 : Int32).toInt ≤ (0 : Int) := zq6; omega) zq5 (Int.le_trans zq6 zq66) hP hD hS (lv_sub hl [3, 4, 5, 2, 1, 0] rfl))
end P107_safe
section P108_safe
set_option maxHeartbeats 4000000 in
set_option maxRecDepth 100000 in
theorem c_X7_nextDraw (l : Launch) (dC : Nat → ClassId) (dI : Nat → Nat → Nat) (sz : Nat) (a1 : Int32)  : Met l yX7_nextDraw wsX7_nextDraw ({ frames := 0, cells := 0, slots := 0, locals := 0 }) (va_Pc [.int a1] (ax_C dC dI sz [] [] (fun _ => True))) (va_Qi (fun (r : Int32) (_ : Unit) => True) (fun (_ : Unit) (t : State) => ax_B dC dI (va_A [] sz) [] [] t) (va_A [] sz)) 0 0 (va_A [] sz) := by
  refine Met.ofW (cc := cX7_nextDraw) (maxL := 1) (ret := (some .int)) (by decide) rfl ?_
  intro p e s m args below meth c s₁ B hml hv
  obtain ⟨rfl, hsz, hP, hK, hD0, hE⟩ := hv
  have hx := B.exec
  have hb := B.bytes
  have hr := B.returns
  have hts := atoms_spec (ws := wsX7_nextDraw) B.pre
  have hown : s.vm.findClass RX7 = some m.cls := findClass_of_methodNamed B.named
  have hlocks := B.notSynchronized
  subst hsz
  have hD := hD0.self (sz := s.heap.size)
  generalize hAe : va_A [] s.heap.size = A at hD ⊢
  have hA : ∀ q : Nat, s.heap.size ≤ q → A q := fun q h => by rw [← hAe]; exact Or.inr h
  have hS : va_S A s.heap s.heap [] := va_S.rf
  have hP : va_P (dC, dI) vwCl [] s.heap := hP
  have hl := lv_entry ([.int a1]) (n := 1) (Nat.le_of_ble_eq_true rfl)
  rw [lg_entry_eq]
  generalize (lg_sl ([.int a1]) ++ List.replicate (1 - (lg_sl ([.int a1])).length) Slot.unset).toArray = ls at hl ⊢
  have hl : lv_has ls 1 [(0, .int a1)] := hl
  refine lv_bipush (v := 75) hx hb dX7_nextDraw_0 zk_bipush_75 ?_
  refine lv_iload_n hx hb dX7_nextDraw_2 rfl (lv_at hl 0 rfl) ?_
  refine lv_imul hx hb dX7_nextDraw_3 ?_
  refine lv_topi (fun x3 ex3 => ?_)
  refine lv_bipush (v := 74) hx hb dX7_nextDraw_4 zk_bipush_74 ?_
  refine lv_iadd hx hb dX7_nextDraw_6 ?_
  refine lv_topi (fun x6 ex6 => ?_)
  refine lv_ldcw (v := 65537) hx hb hown (hts (.constant RX7 378 (65537)) (List.mem_cons_of_mem _ (List.mem_of_getElem? (i := 0) rfl))) dX7_nextDraw_7 ?_
  refine lv_irem hx hb dX7_nextDraw_10 (by decide +kernel) ?_
  refine lv_topi (fun x10 ex10 => ?_)
  exact W.iret (v := x10) hx hb hr (fun t ht hW => ⟨⟨x10, (), rfl, trivial, by rw [ht]; exact hP, va_K.moved hW.alike hK, hD⟩, hS.F ht⟩) hS.2.2 dX7_nextDraw_11

set_option maxHeartbeats 4000000 in
set_option maxRecDepth 100000 in
theorem c_X7_isShut (l : Launch) (dC : Nat → ClassId) (dI : Nat → Nat → Nat) (sz : Nat) (a0 : Nat) (a1 : Int32) (a0g_0 a0g_1 a0g_2 a0g_3 a0g_4 a0g_5 a0g_6 a0g_8 a0g_9 a0g_10 : Value) (a0_7 : Nat) (a0_7g_0 a0_7g_1 a0_7g_2 a0_7g_4 a0_7g_5 a0_7g_6 a0_7g_7 a0_7g_8 a0_7g_9 a0_7g_10 a0_7g_11 a0_7g_12 a0_7g_13 a0_7g_14 : Value) (a0_7_3 : Int32)  : Met l yX7_isShut wsX7_isShut ({ frames := 0, cells := 0, slots := 0, locals := 0 }) (va_Pc [.ref a0, .int a1] (ax_C dC dI sz [(a0, .inr (7, [a0g_0, a0g_1, a0g_2, a0g_3, a0g_4, a0g_5, a0g_6, .ref a0_7, a0g_8, a0g_9, a0g_10])), (a0_7, .inr (0, [a0_7g_0, a0_7g_1, a0_7g_2, .int a0_7_3, a0_7g_4, a0_7g_5, a0_7g_6, a0_7g_7, a0_7g_8, a0_7g_9, a0_7g_10, a0_7g_11, a0_7g_12, a0_7g_13, a0_7g_14]))] [] (fun _ => True))) (va_Qi (fun (r : Int32) (_ : Unit) => (r = 1 ∧ (-2147483647 : Int) ≤ a0_7_3.toInt) ∨ (r = 0)) (fun (_ : Unit) (t : State) => ax_B dC dI (va_A [(a0, .inr (7, [a0g_0, a0g_1, a0g_2, a0g_3, a0g_4, a0g_5, a0g_6, .ref a0_7, a0g_8, a0g_9, a0g_10])), (a0_7, .inr (0, [a0_7g_0, a0_7g_1, a0_7g_2, .int a0_7_3, a0_7g_4, a0_7g_5, a0_7g_6, a0_7g_7, a0_7g_8, a0_7g_9, a0_7g_10, a0_7g_11, a0_7g_12, a0_7g_13, a0_7g_14]))] sz) [(a0, .inr (7, [a0g_0, a0g_1, a0g_2, a0g_3, a0g_4, a0g_5, a0g_6, .ref a0_7, a0g_8, a0g_9, a0g_10])), (a0_7, .inr (0, [a0_7g_0, a0_7g_1, a0_7g_2, .int a0_7_3, a0_7g_4, a0_7g_5, a0_7g_6, a0_7g_7, a0_7g_8, a0_7g_9, a0_7g_10, a0_7g_11, a0_7g_12, a0_7g_13, a0_7g_14]))] [] t) (va_A [(a0, .inr (7, [a0g_0, a0g_1, a0g_2, a0g_3, a0g_4, a0g_5, a0g_6, .ref a0_7, a0g_8, a0g_9, a0g_10])), (a0_7, .inr (0, [a0_7g_0, a0_7g_1, a0_7g_2, .int a0_7_3, a0_7g_4, a0_7g_5, a0_7g_6, a0_7g_7, a0_7g_8, a0_7g_9, a0_7g_10, a0_7g_11, a0_7g_12, a0_7g_13, a0_7g_14]))] sz)) 0 0 (va_A [(a0, .inr (7, [a0g_0, a0g_1, a0g_2, a0g_3, a0g_4, a0g_5, a0g_6, .ref a0_7, a0g_8, a0g_9, a0g_10])), (a0_7, .inr (0, [a0_7g_0, a0_7g_1, a0_7g_2, .int a0_7_3, a0_7g_4, a0_7g_5, a0_7g_6, a0_7g_7, a0_7g_8, a0_7g_9, a0_7g_10, a0_7g_11, a0_7g_12, a0_7g_13, a0_7g_14]))] sz) := by
  refine Met.ofW (cc := cX7_isShut) (maxL := 2) (ret := (some .boolean)) (by decide) rfl ?_
  intro p e s m args below meth c s₁ B hml hv
  obtain ⟨rfl, hsz, hP, hK, hD0, hE⟩ := hv
  have hx := B.exec
  have hb := B.bytes
  have hr := B.returns
  have hts := atoms_spec (ws := wsX7_isShut) B.pre
  have hown : s.vm.findClass RX7 = some m.cls := findClass_of_methodNamed B.named
  have hlocks := B.notSynchronized
  subst hsz
  have hD := hD0.self (sz := s.heap.size)
  generalize hAe : va_A [(a0, .inr (7, [a0g_0, a0g_1, a0g_2, a0g_3, a0g_4, a0g_5, a0g_6, .ref a0_7, a0g_8, a0g_9, a0g_10])), (a0_7, .inr (0, [a0_7g_0, a0_7g_1, a0_7g_2, .int a0_7_3, a0_7g_4, a0_7g_5, a0_7g_6, a0_7g_7, a0_7g_8, a0_7g_9, a0_7g_10, a0_7g_11, a0_7g_12, a0_7g_13, a0_7g_14]))] s.heap.size = A at hD ⊢
  have hA : ∀ q : Nat, s.heap.size ≤ q → A q := fun q h => by rw [← hAe]; exact Or.inr h
  have hS : va_S A s.heap s.heap [] := va_S.rf
  have hP : va_P (dC, dI) vwCl [(a0, .inr (7, [a0g_0, a0g_1, a0g_2, a0g_3, a0g_4, a0g_5, a0g_6, .ref a0_7, a0g_8, a0g_9, a0g_10])), (a0_7, .inr (0, [a0_7g_0, a0_7g_1, a0_7g_2, .int a0_7_3, a0_7g_4, a0_7g_5, a0_7g_6, a0_7g_7, a0_7g_8, a0_7g_9, a0_7g_10, a0_7g_11, a0_7g_12, a0_7g_13, a0_7g_14]))] s.heap := hP
  have hl := lv_entry ([.ref a0, .int a1]) (n := 2) (Nat.le_of_ble_eq_true rfl)
  rw [lg_entry_eq]
  generalize (lg_sl ([.ref a0, .int a1]) ++ List.replicate (2 - (lg_sl ([.ref a0, .int a1])).length) Slot.unset).toArray = ls at hl ⊢
  have hl : lv_has ls 2 [(0, .ref a0), (1, .int a1)] := hl
  refine lv_iload_n hx hb dX7_isShut_0 rfl (lv_at hl 1 rfl) ?_
  refine lv_bipush (v := 100) hx hb dX7_isShut_1 zk_bipush_100 ?_
  refine lv_irem hx hb dX7_isShut_3 (by decide +kernel) ?_
  refine lv_topi (fun x3 ex3 => ?_)
  refine lv_aload_n hx hb dX7_isShut_4 rfl (lv_at hl 0 rfl) ?_
  refine va_get (D := (dC, dI)) (ci := 7) (v := .ref a0_7) (C := RX7) (T := TX7) (N := 11) hx hb hts zi_X7_isShut_7 hown hK hP 0 rfl rfl 7 (by decide) (hts (.fieldLink RX7 57 "WaxTurns" "hall" "LWaxTurns$Hall;") (List.mem_cons_of_mem _ (List.mem_append_left _ (List.mem_append_left _ (List.mem_of_getElem? (i := 0) rfl))))) (fun _ h9 => h9) rfl dX7_isShut_5 ?_
  refine va_get (D := (dC, dI)) (ci := 0) (v := .int a0_7_3) (C := RX0) (T := TX0) (N := 15) hx hb hts zi_X7_isShut_0 hown hK hP 1 rfl rfl 3 (by decide) (hts (.fieldLink RX7 316 "WaxTurns$Hall" "shut" "I") (List.mem_cons_of_mem _ (List.mem_append_left _ (List.mem_append_left _ (List.mem_of_getElem? (i := 1) rfl))))) (fun _ h9 => h9) rfl dX7_isShut_8 ?_
  refine lv_icmp_ge (tgt := 18) hx hb dX7_isShut_11 (by decide) (fun c11 => ?_) (fun c11 => ?_)
  · have gc11 := ai_le c11
    refine lv_iconst (v := 0) hx hb dX7_isShut_18 zk_iconst_0 ?_
    exact W.zret (v := 0) hx hb hr rfl (fun t ht hW => ⟨⟨0, (), rfl, (Or.inr (rfl)), by rw [ht]; exact hP, va_K.moved hW.alike hK, hD⟩, hS.F ht⟩) hS.2.2 dX7_isShut_19
  · have gc11 := ai_nle c11
    have u11f_x3 : x3.toInt ≤ (2147483646 : Int) := ai_lthi gc11 (ai_max a0_7_3)
    have l11f_a0_7_3 : (-2147483647 : Int) ≤ a0_7_3.toInt := ai_ltlo gc11 (ai_min x3)
    refine lv_iconst (v := 1) hx hb dX7_isShut_14 zk_iconst_1 ?_
    refine lv_goto (tgt := 19) hx hb dX7_isShut_15 (by decide) ?_
    exact W.zret (v := 1) hx hb hr rfl (fun t ht hW => ⟨⟨1, (), rfl, (Or.inl ⟨rfl, l11f_a0_7_3⟩), by rw [ht]; exact hP, va_K.moved hW.alike hK, hD⟩, hS.F ht⟩) hS.2.2 dX7_isShut_19

set_option maxHeartbeats 4000000 in
set_option maxRecDepth 100000 in
theorem c_J6_bitCount_0f7a4 (l : Launch) (dC : Nat → ClassId) (dI : Nat → Nat → Nat) (sz : Nat) (a1 : Int32)  : Met l yJ6_bitCount_0f7a4 wsJ6_bitCount_0f7a4 ({ frames := 0, cells := 0, slots := 0, locals := 0 }) (va_Pc [.int a1] (ax_C dC dI sz [] [] (fun _ => True))) (va_Qi (fun (r : Int32) (_ : Unit) => True) (fun (_ : Unit) (t : State) => ax_B dC dI (va_A [] sz) [] [] t) (va_A [] sz)) 0 0 (va_A [] sz) := by
  refine Met.ofW (cc := cJ6_bitCount_0f7a4) (maxL := 1) (ret := (some .int)) (by decide) rfl ?_
  intro p e s m args below meth c s₁ B hml hv
  obtain ⟨rfl, hsz, hP, hK, hD0, hE⟩ := hv
  have hx := B.exec
  have hb := B.bytes
  have hr := B.returns
  have hts := atoms_spec (ws := wsJ6_bitCount_0f7a4) B.pre
  have hown : s.vm.findClass RJ6 = some m.cls := findClass_of_methodNamed B.named
  have hlocks := B.notSynchronized
  subst hsz
  have hD := hD0.self (sz := s.heap.size)
  generalize hAe : va_A [] s.heap.size = A at hD ⊢
  have hA : ∀ q : Nat, s.heap.size ≤ q → A q := fun q h => by rw [← hAe]; exact Or.inr h
  have hS : va_S A s.heap s.heap [] := va_S.rf
  have hP : va_P (dC, dI) vwCl [] s.heap := hP
  have hl := lv_entry ([.int a1]) (n := 1) (Nat.le_of_ble_eq_true rfl)
  rw [lg_entry_eq]
  generalize (lg_sl ([.int a1]) ++ List.replicate (1 - (lg_sl ([.int a1])).length) Slot.unset).toArray = ls at hl ⊢
  have hl : lv_has ls 1 [(0, .int a1)] := hl
  refine lv_iload_n hx hb dJ6_bitCount_0f7a4_0 rfl (lv_at hl 0 rfl) ?_
  refine lv_iload_n hx hb dJ6_bitCount_0f7a4_1 rfl (lv_at hl 0 rfl) ?_
  refine lv_iconst (v := 1) hx hb dJ6_bitCount_0f7a4_2 zk_iconst_1 ?_
  refine lv_iushr hx hb dJ6_bitCount_0f7a4_3 rfl ?_
  refine lv_topi (fun x3 ex3 => ?_)
  refine lv_ldcw (v := 1431655765) hx hb hown (hts (.constant RJ6 265 (1431655765)) (List.mem_cons_of_mem _ (List.mem_of_getElem? (i := 0) rfl))) dJ6_bitCount_0f7a4_4 ?_
  refine lv_iand hx hb dJ6_bitCount_0f7a4_7 ?_
  refine lv_topi (fun x7 ex7 => ?_)
  refine lv_isub hx hb dJ6_bitCount_0f7a4_8 ?_
  refine lv_topi (fun x8 ex8 => ?_)
  refine lv_istore_n (lv' := [(0, .int x8)]) hx hb dJ6_bitCount_0f7a4_9 rfl hl (by decide) rfl (fun ls hl => ?_)
  refine lv_iload_n hx hb dJ6_bitCount_0f7a4_10 rfl (lv_at hl 0 rfl) ?_
  refine lv_ldcw (v := 858993459) hx hb hown (hts (.constant RJ6 266 (858993459)) (List.mem_cons_of_mem _ (List.mem_of_getElem? (i := 1) rfl))) dJ6_bitCount_0f7a4_11 ?_
  refine lv_iand hx hb dJ6_bitCount_0f7a4_14 ?_
  refine lv_topi (fun x14 ex14 => ?_)
  refine lv_iload_n hx hb dJ6_bitCount_0f7a4_15 rfl (lv_at hl 0 rfl) ?_
  refine lv_iconst (v := 2) hx hb dJ6_bitCount_0f7a4_16 zk_iconst_2 ?_
  refine lv_iushr hx hb dJ6_bitCount_0f7a4_17 rfl ?_
  refine lv_topi (fun x17 ex17 => ?_)
  refine lv_ldcw (v := 858993459) hx hb hown (hts (.constant RJ6 266 (858993459)) (List.mem_cons_of_mem _ (List.mem_of_getElem? (i := 1) rfl))) dJ6_bitCount_0f7a4_18 ?_
  refine lv_iand hx hb dJ6_bitCount_0f7a4_21 ?_
  refine lv_topi (fun x21 ex21 => ?_)
  refine lv_iadd hx hb dJ6_bitCount_0f7a4_22 ?_
  refine lv_topi (fun x22 ex22 => ?_)
  refine lv_istore_n (lv' := [(0, .int x22)]) hx hb dJ6_bitCount_0f7a4_23 rfl hl (by decide) rfl (fun ls hl => ?_)
  refine lv_iload_n hx hb dJ6_bitCount_0f7a4_24 rfl (lv_at hl 0 rfl) ?_
  refine lv_iload_n hx hb dJ6_bitCount_0f7a4_25 rfl (lv_at hl 0 rfl) ?_
  refine lv_iconst (v := 4) hx hb dJ6_bitCount_0f7a4_26 zk_iconst_4 ?_
  refine lv_iushr hx hb dJ6_bitCount_0f7a4_27 rfl ?_
  refine lv_topi (fun x27 ex27 => ?_)
  refine lv_iadd hx hb dJ6_bitCount_0f7a4_28 ?_
  refine lv_topi (fun x28 ex28 => ?_)
  refine lv_ldcw (v := 252645135) hx hb hown (hts (.constant RJ6 267 (252645135)) (List.mem_cons_of_mem _ (List.mem_of_getElem? (i := 2) rfl))) dJ6_bitCount_0f7a4_29 ?_
  refine lv_iand hx hb dJ6_bitCount_0f7a4_32 ?_
  refine lv_topi (fun x32 ex32 => ?_)
  refine lv_istore_n (lv' := [(0, .int x32)]) hx hb dJ6_bitCount_0f7a4_33 rfl hl (by decide) rfl (fun ls hl => ?_)
  refine lv_iload_n hx hb dJ6_bitCount_0f7a4_34 rfl (lv_at hl 0 rfl) ?_
  refine lv_iload_n hx hb dJ6_bitCount_0f7a4_35 rfl (lv_at hl 0 rfl) ?_
  refine lv_bipush (v := 8) hx hb dJ6_bitCount_0f7a4_36 zk_bipush_8 ?_
  refine lv_iushr hx hb dJ6_bitCount_0f7a4_38 rfl ?_
  refine lv_topi (fun x38 ex38 => ?_)
  refine lv_iadd hx hb dJ6_bitCount_0f7a4_39 ?_
  refine lv_topi (fun x39 ex39 => ?_)
  refine lv_istore_n (lv' := [(0, .int x39)]) hx hb dJ6_bitCount_0f7a4_40 rfl hl (by decide) rfl (fun ls hl => ?_)
  refine lv_iload_n hx hb dJ6_bitCount_0f7a4_41 rfl (lv_at hl 0 rfl) ?_
  refine lv_iload_n hx hb dJ6_bitCount_0f7a4_42 rfl (lv_at hl 0 rfl) ?_
  refine lv_bipush (v := 16) hx hb dJ6_bitCount_0f7a4_43 zk_bipush_16 ?_
  refine lv_iushr hx hb dJ6_bitCount_0f7a4_45 rfl ?_
  refine lv_topi (fun x45 ex45 => ?_)
  refine lv_iadd hx hb dJ6_bitCount_0f7a4_46 ?_
  refine lv_topi (fun x46 ex46 => ?_)
  refine lv_istore_n (lv' := [(0, .int x46)]) hx hb dJ6_bitCount_0f7a4_47 rfl hl (by decide) rfl (fun ls hl => ?_)
  refine lv_iload_n hx hb dJ6_bitCount_0f7a4_48 rfl (lv_at hl 0 rfl) ?_
  refine lv_bipush (v := 63) hx hb dJ6_bitCount_0f7a4_49 zk_bipush_63 ?_
  refine lv_iand hx hb dJ6_bitCount_0f7a4_51 ?_
  refine lv_topi (fun x51 ex51 => ?_)
  exact W.iret (v := x51) hx hb hr (fun t ht hW => ⟨⟨x51, (), rfl, trivial, by rw [ht]; exact hP, va_K.moved hW.alike hK, hD⟩, hS.F ht⟩) hS.2.2 dJ6_bitCount_0f7a4_52

set_option maxHeartbeats 4000000 in
set_option maxRecDepth 100000 in
theorem c_X0_sizeTold (l : Launch) (dC : Nat → ClassId) (dI : Nat → Nat → Nat) (sz : Nat) (a0 : Nat) (a1 : Int32) (a0_0 : Int32) (a0_1 : Int32) (a0_2 : Int32) (a0_3 : Int32) (a0g_4 a0g_10 a0g_11 a0g_12 a0g_13 : Value) (a0_5 : Int32) (a0_6 : Int32) (a0_7 : Int32) (a0_8 : Int32) (a0_9 : Int32) (a0_14 : Nat) (a0_14_0 : Int32) (a0_14g_1 a0_14g_2 a0_14g_3 : Value) (ba0_0_l : (0 : Int) ≤ a0_0.toInt) (ba0_0_u : a0_0.toInt ≤ (9 : Int)) (ba0_5_l : (0 : Int) ≤ a0_5.toInt) (ba0_5_u : a0_5.toInt ≤ (8 : Int)) (ba0_6_l : (0 : Int) ≤ a0_6.toInt) (ba0_6_u : a0_6.toInt ≤ (8 : Int)) (ba0_7_l : (0 : Int) ≤ a0_7.toInt) (ba0_7_u : a0_7.toInt ≤ (8 : Int)) (ba0_9_l : (0 : Int) ≤ a0_9.toInt) (ba0_9_u : a0_9.toInt ≤ (6 : Int)) (ba0_14_0_l : (0 : Int) ≤ a0_14_0.toInt) (ba0_14_0_u : a0_14_0.toInt ≤ (3 : Int)) : Met l yX0_sizeTold wsX0_sizeTold ({ frames := 1, cells := 0, slots := 0, locals := 20 }) (va_Pc [.ref a0, .int a1] (ax_C dC dI sz [(a0, .inr (0, [.int a0_0, .int a0_1, .int a0_2, .int a0_3, a0g_4, .int a0_5, .int a0_6, .int a0_7, .int a0_8, .int a0_9, a0g_10, a0g_11, a0g_12, a0g_13, .ref a0_14])), (a0_14, .inr (6, [.int a0_14_0, a0_14g_1, a0_14g_2, a0_14g_3]))] [] (fun _ => True))) (va_Qi (fun (r : Int32) (_ : Unit) => True) (fun (_ : Unit) (t : State) => ax_B dC dI (va_A [(a0, .inr (0, [.int a0_0, .int a0_1, .int a0_2, .int a0_3, a0g_4, .int a0_5, .int a0_6, .int a0_7, .int a0_8, .int a0_9, a0g_10, a0g_11, a0g_12, a0g_13, .ref a0_14])), (a0_14, .inr (6, [.int a0_14_0, a0_14g_1, a0_14g_2, a0_14g_3]))] sz) [(a0, .inr (0, [.int a0_0, .int a0_1, .int a0_2, .int a0_3, a0g_4, .int a0_5, .int a0_6, .int a0_7, .int a0_8, .int a0_9, a0g_10, a0g_11, a0g_12, a0g_13, .ref a0_14])), (a0_14, .inr (6, [.int a0_14_0, a0_14g_1, a0_14g_2, a0_14g_3]))] [] t) (va_A [(a0, .inr (0, [.int a0_0, .int a0_1, .int a0_2, .int a0_3, a0g_4, .int a0_5, .int a0_6, .int a0_7, .int a0_8, .int a0_9, a0g_10, a0g_11, a0g_12, a0g_13, .ref a0_14])), (a0_14, .inr (6, [.int a0_14_0, a0_14g_1, a0_14g_2, a0_14g_3]))] sz)) 0 0 (va_A [(a0, .inr (0, [.int a0_0, .int a0_1, .int a0_2, .int a0_3, a0g_4, .int a0_5, .int a0_6, .int a0_7, .int a0_8, .int a0_9, a0g_10, a0g_11, a0g_12, a0g_13, .ref a0_14])), (a0_14, .inr (6, [.int a0_14_0, a0_14g_1, a0_14g_2, a0_14g_3]))] sz) := by
  refine Met.ofW (cc := cX0_sizeTold) (maxL := 2) (ret := (some .int)) (by decide) rfl ?_
  intro p e s m args below meth c s₁ B hml hv
  obtain ⟨rfl, hsz, hP, hK, hD0, hE⟩ := hv
  have hx := B.exec
  have hb := B.bytes
  have hr := B.returns
  have hts := atoms_spec (ws := wsX0_sizeTold) B.pre
  have hown : s.vm.findClass RX0 = some m.cls := findClass_of_methodNamed B.named
  have hlocks := B.notSynchronized
  subst hsz
  have hD := hD0.self (sz := s.heap.size)
  generalize hAe : va_A [(a0, .inr (0, [.int a0_0, .int a0_1, .int a0_2, .int a0_3, a0g_4, .int a0_5, .int a0_6, .int a0_7, .int a0_8, .int a0_9, a0g_10, a0g_11, a0g_12, a0g_13, .ref a0_14])), (a0_14, .inr (6, [.int a0_14_0, a0_14g_1, a0_14g_2, a0_14g_3]))] s.heap.size = A at hD ⊢
  have hA : ∀ q : Nat, s.heap.size ≤ q → A q := fun q h => by rw [← hAe]; exact Or.inr h
  have hS : va_S A s.heap s.heap [] := va_S.rf
  have hP : va_P (dC, dI) vwCl [(a0, .inr (0, [.int a0_0, .int a0_1, .int a0_2, .int a0_3, a0g_4, .int a0_5, .int a0_6, .int a0_7, .int a0_8, .int a0_9, a0g_10, a0g_11, a0g_12, a0g_13, .ref a0_14])), (a0_14, .inr (6, [.int a0_14_0, a0_14g_1, a0_14g_2, a0_14g_3]))] s.heap := hP
  have hl := lv_entry ([.ref a0, .int a1]) (n := 2) (Nat.le_of_ble_eq_true rfl)
  rw [lg_entry_eq]
  generalize (lg_sl ([.ref a0, .int a1]) ++ List.replicate (2 - (lg_sl ([.ref a0, .int a1])).length) Slot.unset).toArray = ls at hl ⊢
  have hl : lv_has ls 2 [(0, .ref a0), (1, .int a1)] := hl
  refine lv_iload_n hx hb dX0_sizeTold_0 rfl (lv_at hl 1 rfl) ?_
  by_cases n_1 : a1 = 0
  · subst n_1
    refine lv_tableIn (off := 55) (tgt := 56) hx hb dX0_sizeTold_1 (by decide) (by decide) (by decide +kernel) (by decide) ?_
    refine lv_aload_n hx hb dX0_sizeTold_56 rfl (lv_at hl 0 rfl) ?_
    refine va_get (D := (dC, dI)) (ci := 0) (v := .int a0_0) (C := RX0) (T := TX0) (N := 15) hx hb hts zi_X0_sizeTold_0 hown hK hP 0 rfl rfl 0 (by decide) (hts (.fieldLink RX0 31 "WaxTurns$Hall" "figures" "I") (List.mem_cons_of_mem _ (List.mem_append_left _ (List.mem_append_left _ (List.mem_of_getElem? (i := 0) rfl))))) (fun _ h9 => h9) rfl dX0_sizeTold_57 ?_
    exact W.iret (v := a0_0) hx hb hr (fun t ht hW => ⟨⟨a0_0, (), rfl, trivial, by rw [ht]; exact hP, va_K.moved hW.alike hK, hD⟩, hS.F ht⟩) hS.2.2 dX0_sizeTold_60
  by_cases n_2 : a1 = 1
  · subst n_2
    refine lv_tableIn (off := 60) (tgt := 61) hx hb dX0_sizeTold_1 (by decide) (by decide) (by decide +kernel) (by decide) ?_
    refine lv_aload_n hx hb dX0_sizeTold_61 rfl (lv_at hl 0 rfl) ?_
    refine va_get (D := (dC, dI)) (ci := 0) (v := .int a0_1) (C := RX0) (T := TX0) (N := 15) hx hb hts zi_X0_sizeTold_0 hown hK hP 0 rfl rfl 1 (by decide) (hts (.fieldLink RX0 48 "WaxTurns$Hall" "span" "I") (List.mem_cons_of_mem _ (List.mem_append_left _ (List.mem_append_left _ (List.mem_of_getElem? (i := 1) rfl))))) (fun _ h9 => h9) rfl dX0_sizeTold_62 ?_
    exact W.iret (v := a0_1) hx hb hr (fun t ht hW => ⟨⟨a0_1, (), rfl, trivial, by rw [ht]; exact hP, va_K.moved hW.alike hK, hD⟩, hS.F ht⟩) hS.2.2 dX0_sizeTold_65
  by_cases n_3 : a1 = 2
  · subst n_3
    refine lv_tableIn (off := 65) (tgt := 66) hx hb dX0_sizeTold_1 (by decide) (by decide) (by decide +kernel) (by decide) ?_
    refine lv_aload_n hx hb dX0_sizeTold_66 rfl (lv_at hl 0 rfl) ?_
    refine va_get (D := (dC, dI)) (ci := 0) (v := .int a0_2) (C := RX0) (T := TX0) (N := 15) hx hb hts zi_X0_sizeTold_0 hown hK hP 0 rfl rfl 2 (by decide) (hts (.fieldLink RX0 51 "WaxTurns$Hall" "stairsPlace" "I") (List.mem_cons_of_mem _ (List.mem_append_left _ (List.mem_append_left _ (List.mem_of_getElem? (i := 2) rfl))))) (fun _ h9 => h9) rfl dX0_sizeTold_67 ?_
    exact W.iret (v := a0_2) hx hb hr (fun t ht hW => ⟨⟨a0_2, (), rfl, trivial, by rw [ht]; exact hP, va_K.moved hW.alike hK, hD⟩, hS.F ht⟩) hS.2.2 dX0_sizeTold_70
  by_cases n_4 : a1 = 3
  · subst n_4
    refine lv_tableIn (off := 70) (tgt := 71) hx hb dX0_sizeTold_1 (by decide) (by decide) (by decide +kernel) (by decide) ?_
    refine lv_aload_n hx hb dX0_sizeTold_71 rfl (lv_at hl 0 rfl) ?_
    refine va_get (D := (dC, dI)) (ci := 0) (v := .int a0_3) (C := RX0) (T := TX0) (N := 15) hx hb hts zi_X0_sizeTold_0 hown hK hP 0 rfl rfl 3 (by decide) (hts (.fieldLink RX0 54 "WaxTurns$Hall" "shut" "I") (List.mem_cons_of_mem _ (List.mem_append_left _ (List.mem_append_left _ (List.mem_of_getElem? (i := 3) rfl))))) (fun _ h9 => h9) rfl dX0_sizeTold_72 ?_
    exact W.iret (v := a0_3) hx hb hr (fun t ht hW => ⟨⟨a0_3, (), rfl, trivial, by rw [ht]; exact hP, va_K.moved hW.alike hK, hD⟩, hS.F ht⟩) hS.2.2 dX0_sizeTold_75
  by_cases n_5 : a1 = 4
  · subst n_5
    refine lv_tableIn (off := 75) (tgt := 76) hx hb dX0_sizeTold_1 (by decide) (by decide) (by decide +kernel) (by decide) ?_
    refine lv_aload_n hx hb dX0_sizeTold_76 rfl (lv_at hl 0 rfl) ?_
    refine va_get (D := (dC, dI)) (ci := 0) (v := .int a0_8) (C := RX0) (T := TX0) (N := 15) hx hb hts zi_X0_sizeTold_0 hown hK hP 0 rfl rfl 8 (by decide) (hts (.fieldLink RX0 39 "WaxTurns$Hall" "toldBits" "I") (List.mem_cons_of_mem _ (List.mem_append_left _ (List.mem_append_left _ (List.mem_of_getElem? (i := 4) rfl))))) (fun _ h9 => h9) rfl dX0_sizeTold_77 ?_
    obtain ⟨hPc, hDc, hFc, hCc⟩ := zc_cut (wc := []) hP hD hS hA [] (by decide +kernel) rfl
    have hKc := hK.sub (tys' := []) [] rfl
    refine va_calli (va_runS (As := [.int a0_8]) (rest := []) ⟨hx, hb, hml, hown, hts⟩ (c_J6_bitCount_0f7a4 l dC dI s.heap.size a0_8 ) (va_cwS 1 hts gX0_sizeTold_J6_bitCount_0f7a4 rfl rfl rfl zd_J6_bitCount_0f7a4.2 ⟨Nat.le_of_ble_eq_true rfl, Nat.le_of_ble_eq_true rfl⟩) ⟨ax_blind (fun _ _ _ _ _ => trivial), ax_pre hPc hKc hDc (fun _ _ => trivial)⟩ rfl rfl hl.1 rfl (lv_room (Nat.le_of_ble_eq_true rfl)) dX0_sizeTold_80 ⟨Nat.le_of_ble_eq_true rfl, Nat.le_of_ble_eq_true rfl⟩) hS (fun q _ h => hFc q h) hFc (fun r80 u t H locs ht hvm hw hB hz1 hk1 hS => ?_)
    obtain ⟨hP1, hK1, hD1⟩ := hB
    rw [ht] at hP1
    obtain ⟨hP, hD⟩ := zc_back (w := [(a0, .inr (0, [.int a0_0, .int a0_1, .int a0_2, .int a0_3, a0g_4, .int a0_5, .int a0_6, .int a0_7, .int a0_8, .int a0_9, a0g_10, a0g_11, a0g_12, a0g_13, .ref a0_14])), (a0_14, .inr (6, [.int a0_14_0, a0_14g_1, a0_14g_2, a0_14g_3]))]) hP hD hCc hk1 hFc hP1 hD1 [.inl 0, .inl 1] (by decide +kernel) rfl
    exact W.iret (v := r80) hx hb hr (fun t ht hW => ⟨⟨r80, (), rfl, trivial, by rw [ht]; exact hP, va_K.moved hW.alike hK, hD⟩, hS.F ht⟩) hS.2.2 dX0_sizeTold_83
  by_cases n_6 : a1 = 5
  · subst n_6
    refine lv_tableIn (off := 83) (tgt := 84) hx hb dX0_sizeTold_1 (by decide) (by decide) (by decide +kernel) (by decide) ?_
    refine lv_aload_n hx hb dX0_sizeTold_84 rfl (lv_at hl 0 rfl) ?_
    refine va_get (D := (dC, dI)) (ci := 0) (v := .ref a0_14) (C := RX0) (T := TX0) (N := 15) hx hb hts zi_X0_sizeTold_0 hown hK hP 0 rfl rfl 14 (by decide) (hts (.fieldLink RX0 27 "WaxTurns$Hall" "watchers" "LWaxTurns$Watchers;") (List.mem_cons_of_mem _ (List.mem_append_left _ (List.mem_append_left _ (List.mem_of_getElem? (i := 5) rfl))))) (fun _ h9 => h9) rfl dX0_sizeTold_85 ?_
    refine va_get (D := (dC, dI)) (ci := 6) (v := .int a0_14_0) (C := RX6) (T := TX6) (N := 4) hx hb hts zi_X0_sizeTold_6 hown hK hP 1 rfl rfl 0 (by decide) (hts (.fieldLink RX0 45 "WaxTurns$Watchers" "count" "I") (List.mem_cons_of_mem _ (List.mem_append_left _ (List.mem_append_left _ (List.mem_of_getElem? (i := 6) rfl))))) (fun _ h9 => h9) rfl dX0_sizeTold_88 ?_
    exact W.iret (v := a0_14_0) hx hb hr (fun t ht hW => ⟨⟨a0_14_0, (), rfl, trivial, by rw [ht]; exact hP, va_K.moved hW.alike hK, hD⟩, hS.F ht⟩) hS.2.2 dX0_sizeTold_91
  by_cases n_7 : a1 = 6
  · subst n_7
    refine lv_tableIn (off := 91) (tgt := 92) hx hb dX0_sizeTold_1 (by decide) (by decide) (by decide +kernel) (by decide) ?_
    refine lv_aload_n hx hb dX0_sizeTold_92 rfl (lv_at hl 0 rfl) ?_
    refine va_get (D := (dC, dI)) (ci := 0) (v := .int a0_9) (C := RX0) (T := TX0) (N := 15) hx hb hts zi_X0_sizeTold_0 hown hK hP 0 rfl rfl 9 (by decide) (hts (.fieldLink RX0 42 "WaxTurns$Hall" "seenCount" "I") (List.mem_cons_of_mem _ (List.mem_append_left _ (List.mem_append_left _ (List.mem_of_getElem? (i := 7) rfl))))) (fun _ h9 => h9) rfl dX0_sizeTold_93 ?_
    exact W.iret (v := a0_9) hx hb hr (fun t ht hW => ⟨⟨a0_9, (), rfl, trivial, by rw [ht]; exact hP, va_K.moved hW.alike hK, hD⟩, hS.F ht⟩) hS.2.2 dX0_sizeTold_96
  by_cases n_8 : a1 = 7
  · subst n_8
    refine lv_tableIn (off := 96) (tgt := 97) hx hb dX0_sizeTold_1 (by decide) (by decide) (by decide +kernel) (by decide) ?_
    refine lv_aload_n hx hb dX0_sizeTold_97 rfl (lv_at hl 0 rfl) ?_
    refine va_get (D := (dC, dI)) (ci := 0) (v := .int a0_5) (C := RX0) (T := TX0) (N := 15) hx hb hts zi_X0_sizeTold_0 hown hK hP 0 rfl rfl 5 (by decide) (hts (.fieldLink RX0 63 "WaxTurns$Hall" "times" "I") (List.mem_cons_of_mem _ (List.mem_append_left _ (List.mem_append_left _ (List.mem_of_getElem? (i := 8) rfl))))) (fun _ h9 => h9) rfl dX0_sizeTold_98 ?_
    exact W.iret (v := a0_5) hx hb hr (fun t ht hW => ⟨⟨a0_5, (), rfl, trivial, by rw [ht]; exact hP, va_K.moved hW.alike hK, hD⟩, hS.F ht⟩) hS.2.2 dX0_sizeTold_101
  by_cases n_9 : a1 = 8
  · subst n_9
    refine lv_tableIn (off := 101) (tgt := 102) hx hb dX0_sizeTold_1 (by decide) (by decide) (by decide +kernel) (by decide) ?_
    refine lv_aload_n hx hb dX0_sizeTold_102 rfl (lv_at hl 0 rfl) ?_
    refine va_get (D := (dC, dI)) (ci := 0) (v := .int a0_6) (C := RX0) (T := TX0) (N := 15) hx hb hts zi_X0_sizeTold_0 hown hK hP 0 rfl rfl 6 (by decide) (hts (.fieldLink RX0 66 "WaxTurns$Hall" "plus" "I") (List.mem_cons_of_mem _ (List.mem_append_left _ (List.mem_append_left _ (List.mem_of_getElem? (i := 9) rfl))))) (fun _ h9 => h9) rfl dX0_sizeTold_103 ?_
    exact W.iret (v := a0_6) hx hb hr (fun t ht hW => ⟨⟨a0_6, (), rfl, trivial, by rw [ht]; exact hP, va_K.moved hW.alike hK, hD⟩, hS.F ht⟩) hS.2.2 dX0_sizeTold_106
  by_cases n_10 : a1 = 9
  · subst n_10
    refine lv_tableIn (off := 106) (tgt := 107) hx hb dX0_sizeTold_1 (by decide) (by decide) (by decide +kernel) (by decide) ?_
    refine lv_aload_n hx hb dX0_sizeTold_107 rfl (lv_at hl 0 rfl) ?_
    refine va_get (D := (dC, dI)) (ci := 0) (v := .int a0_7) (C := RX0) (T := TX0) (N := 15) hx hb hts zi_X0_sizeTold_0 hown hK hP 0 rfl rfl 7 (by decide) (hts (.fieldLink RX0 69 "WaxTurns$Hall" "first" "I") (List.mem_cons_of_mem _ (List.mem_append_left _ (List.mem_append_left _ (List.mem_of_getElem? (i := 10) rfl))))) (fun _ h9 => h9) rfl dX0_sizeTold_108 ?_
    exact W.iret (v := a0_7) hx hb hr (fun t ht hW => ⟨⟨a0_7, (), rfl, trivial, by rw [ht]; exact hP, va_K.moved hW.alike hK, hD⟩, hS.F ht⟩) hS.2.2 dX0_sizeTold_111
  have o_11 : a1.toInt < 0 ∨ 9 < a1.toInt := by
    have en_1 : a1.toInt ≠ 0 := fun h9 => n_1 (Int32.toInt_inj.mp (h9.trans (by decide)))
    have en_2 : a1.toInt ≠ 1 := fun h9 => n_2 (Int32.toInt_inj.mp (h9.trans (by decide)))
    have en_3 : a1.toInt ≠ 2 := fun h9 => n_3 (Int32.toInt_inj.mp (h9.trans (by decide)))
    have en_4 : a1.toInt ≠ 3 := fun h9 => n_4 (Int32.toInt_inj.mp (h9.trans (by decide)))
    have en_5 : a1.toInt ≠ 4 := fun h9 => n_5 (Int32.toInt_inj.mp (h9.trans (by decide)))
    have en_6 : a1.toInt ≠ 5 := fun h9 => n_6 (Int32.toInt_inj.mp (h9.trans (by decide)))
    have en_7 : a1.toInt ≠ 6 := fun h9 => n_7 (Int32.toInt_inj.mp (h9.trans (by decide)))
    have en_8 : a1.toInt ≠ 7 := fun h9 => n_8 (Int32.toInt_inj.mp (h9.trans (by decide)))
    have en_9 : a1.toInt ≠ 8 := fun h9 => n_9 (Int32.toInt_inj.mp (h9.trans (by decide)))
    have en_10 : a1.toInt ≠ 9 := fun h9 => n_10 (Int32.toInt_inj.mp (h9.trans (by decide)))
    omega
  refine lv_tableOut (tgt := 112) hx hb dX0_sizeTold_1 o_11 (by decide) ?_
  refine lv_iconst (v := (-1)) hx hb dX0_sizeTold_112 zk_iconst_n1 ?_
  exact W.iret (v := (-1)) hx hb hr (fun t ht hW => ⟨⟨(-1), (), rfl, trivial, by rw [ht]; exact hP, va_K.moved hW.alike hK, hD⟩, hS.F ht⟩) hS.2.2 dX0_sizeTold_113

set_option maxHeartbeats 4000000 in
set_option maxRecDepth 100000 in
theorem c_X7_fault (l : Launch) (dC : Nat → ClassId) (dI : Nat → Nat → Nat) (sz : Nat) (a0 : Nat) (a0g_0 a0g_1 a0g_2 a0g_3 a0g_4 a0g_5 a0g_6 a0g_7 a0g_8 a0g_10 : Value) (a0_9 : Int32)  : Met l yX7_fault wsX7_fault ({ frames := 0, cells := 0, slots := 0, locals := 0 }) (va_Pc [.ref a0] (ax_C dC dI sz [(a0, .inr (7, [a0g_0, a0g_1, a0g_2, a0g_3, a0g_4, a0g_5, a0g_6, a0g_7, a0g_8, .int a0_9, a0g_10]))] [] (fun _ => True))) (va_Qi (fun (r : Int32) (_ : Unit) => True) (fun (_ : Unit) (t : State) => ax_B dC dI (va_A [(a0, .inr (7, [a0g_0, a0g_1, a0g_2, a0g_3, a0g_4, a0g_5, a0g_6, a0g_7, a0g_8, .int a0_9, a0g_10]))] sz) [(a0, .inr (7, [a0g_0, a0g_1, a0g_2, a0g_3, a0g_4, a0g_5, a0g_6, a0g_7, a0g_8, .int a0_9, a0g_10]))] [] t) (va_A [(a0, .inr (7, [a0g_0, a0g_1, a0g_2, a0g_3, a0g_4, a0g_5, a0g_6, a0g_7, a0g_8, .int a0_9, a0g_10]))] sz)) 0 0 (va_A [(a0, .inr (7, [a0g_0, a0g_1, a0g_2, a0g_3, a0g_4, a0g_5, a0g_6, a0g_7, a0g_8, .int a0_9, a0g_10]))] sz) := by
  refine Met.ofW (cc := cX7_fault) (maxL := 1) (ret := (some .int)) (by decide) rfl ?_
  intro p e s m args below meth c s₁ B hml hv
  obtain ⟨rfl, hsz, hP, hK, hD0, hE⟩ := hv
  have hx := B.exec
  have hb := B.bytes
  have hr := B.returns
  have hts := atoms_spec (ws := wsX7_fault) B.pre
  have hown : s.vm.findClass RX7 = some m.cls := findClass_of_methodNamed B.named
  have hlocks := B.notSynchronized
  subst hsz
  have hD := hD0.self (sz := s.heap.size)
  generalize hAe : va_A [(a0, .inr (7, [a0g_0, a0g_1, a0g_2, a0g_3, a0g_4, a0g_5, a0g_6, a0g_7, a0g_8, .int a0_9, a0g_10]))] s.heap.size = A at hD ⊢
  have hA : ∀ q : Nat, s.heap.size ≤ q → A q := fun q h => by rw [← hAe]; exact Or.inr h
  have hS : va_S A s.heap s.heap [] := va_S.rf
  have hP : va_P (dC, dI) vwCl [(a0, .inr (7, [a0g_0, a0g_1, a0g_2, a0g_3, a0g_4, a0g_5, a0g_6, a0g_7, a0g_8, .int a0_9, a0g_10]))] s.heap := hP
  have hl := lv_entry ([.ref a0]) (n := 1) (Nat.le_of_ble_eq_true rfl)
  rw [lg_entry_eq]
  generalize (lg_sl ([.ref a0]) ++ List.replicate (1 - (lg_sl ([.ref a0])).length) Slot.unset).toArray = ls at hl ⊢
  have hl : lv_has ls 1 [(0, .ref a0)] := hl
  refine lv_aload_n hx hb dX7_fault_0 rfl (lv_at hl 0 rfl) ?_
  refine va_get (D := (dC, dI)) (ci := 7) (v := .int a0_9) (C := RX7) (T := TX7) (N := 11) hx hb hts zi_X7_fault_7 hown hK hP 0 rfl rfl 9 (by decide) (hts (.fieldLink RX7 65 "WaxTurns" "latestFault" "I") (List.mem_cons_of_mem _ (List.mem_append_left _ (List.mem_of_getElem? (i := 0) rfl)))) (fun _ h9 => h9) rfl dX7_fault_1 ?_
  exact W.iret (v := a0_9) hx hb hr (fun t ht hW => ⟨⟨a0_9, (), rfl, trivial, by rw [ht]; exact hP, va_K.moved hW.alike hK, hD⟩, hS.F ht⟩) hS.2.2 dX7_fault_4

set_option maxHeartbeats 4000000 in
set_option maxRecDepth 100000 in
theorem c_X7_where (l : Launch) (dC : Nat → ClassId) (dI : Nat → Nat → Nat) (sz : Nat) (a0 : Nat) (a0g_0 a0g_1 a0g_2 a0g_3 a0g_4 a0g_5 a0g_6 a0g_7 a0g_9 : Value) (a0_8 : Int32) (a0_10 : Int32)  : Met l yX7_where wsX7_where ({ frames := 0, cells := 0, slots := 0, locals := 0 }) (va_Pc [.ref a0] (ax_C dC dI sz [(a0, .inr (7, [a0g_0, a0g_1, a0g_2, a0g_3, a0g_4, a0g_5, a0g_6, a0g_7, .int a0_8, a0g_9, .int a0_10]))] [] (fun _ => True))) (va_Qi (fun (r : Int32) (_ : Unit) => True) (fun (_ : Unit) (t : State) => ax_B dC dI (va_A [(a0, .inr (7, [a0g_0, a0g_1, a0g_2, a0g_3, a0g_4, a0g_5, a0g_6, a0g_7, .int a0_8, a0g_9, .int a0_10]))] sz) [(a0, .inr (7, [a0g_0, a0g_1, a0g_2, a0g_3, a0g_4, a0g_5, a0g_6, a0g_7, .int a0_8, a0g_9, .int a0_10]))] [] t) (va_A [(a0, .inr (7, [a0g_0, a0g_1, a0g_2, a0g_3, a0g_4, a0g_5, a0g_6, a0g_7, .int a0_8, a0g_9, .int a0_10]))] sz)) 0 0 (va_A [(a0, .inr (7, [a0g_0, a0g_1, a0g_2, a0g_3, a0g_4, a0g_5, a0g_6, a0g_7, .int a0_8, a0g_9, .int a0_10]))] sz) := by
  refine Met.ofW (cc := cX7_where) (maxL := 1) (ret := (some .int)) (by decide) rfl ?_
  intro p e s m args below meth c s₁ B hml hv
  obtain ⟨rfl, hsz, hP, hK, hD0, hE⟩ := hv
  have hx := B.exec
  have hb := B.bytes
  have hr := B.returns
  have hts := atoms_spec (ws := wsX7_where) B.pre
  have hown : s.vm.findClass RX7 = some m.cls := findClass_of_methodNamed B.named
  have hlocks := B.notSynchronized
  subst hsz
  have hD := hD0.self (sz := s.heap.size)
  generalize hAe : va_A [(a0, .inr (7, [a0g_0, a0g_1, a0g_2, a0g_3, a0g_4, a0g_5, a0g_6, a0g_7, .int a0_8, a0g_9, .int a0_10]))] s.heap.size = A at hD ⊢
  have hA : ∀ q : Nat, s.heap.size ≤ q → A q := fun q h => by rw [← hAe]; exact Or.inr h
  have hS : va_S A s.heap s.heap [] := va_S.rf
  have hP : va_P (dC, dI) vwCl [(a0, .inr (7, [a0g_0, a0g_1, a0g_2, a0g_3, a0g_4, a0g_5, a0g_6, a0g_7, .int a0_8, a0g_9, .int a0_10]))] s.heap := hP
  have hl := lv_entry ([.ref a0]) (n := 1) (Nat.le_of_ble_eq_true rfl)
  rw [lg_entry_eq]
  generalize (lg_sl ([.ref a0]) ++ List.replicate (1 - (lg_sl ([.ref a0])).length) Slot.unset).toArray = ls at hl ⊢
  have hl : lv_has ls 1 [(0, .ref a0)] := hl
  refine lv_aload_n hx hb dX7_where_0 rfl (lv_at hl 0 rfl) ?_
  refine va_get (D := (dC, dI)) (ci := 7) (v := .int a0_8) (C := RX7) (T := TX7) (N := 11) hx hb hts zi_X7_where_7 hown hK hP 0 rfl rfl 8 (by decide) (hts (.fieldLink RX7 61 "WaxTurns" "latestTrouble" "I") (List.mem_cons_of_mem _ (List.mem_append_left _ (List.mem_of_getElem? (i := 0) rfl)))) (fun _ h9 => h9) rfl dX7_where_1 ?_
  refine lv_iconst (v := 4) hx hb dX7_where_4 zk_iconst_4 ?_
  refine lv_icmp_ne (tgt := 15) hx hb dX7_where_5 (by decide) (fun c5 => ?_) (fun c5 => ?_)
  · have gc5 := ai_ne c5
    refine lv_iconst (v := (-1)) hx hb dX7_where_15 zk_iconst_n1 ?_
    exact W.iret (v := (-1)) hx hb hr (fun t ht hW => ⟨⟨(-1), (), rfl, trivial, by rw [ht]; exact hP, va_K.moved hW.alike hK, hD⟩, hS.F ht⟩) hS.2.2 dX7_where_16
  · have gc5 := ai_eq c5
    have u5f_a0_8 : a0_8.toInt ≤ (4 : Int) := Int.le_trans (Int.le_of_eq gc5) zq67
    have l5f_a0_8 : (4 : Int) ≤ a0_8.toInt := Int.le_trans zq68 (Int.le_of_eq gc5.symm)
    refine lv_aload_n hx hb dX7_where_8 rfl (lv_at hl 0 rfl) ?_
    refine va_get (D := (dC, dI)) (ci := 7) (v := .int a0_10) (C := RX7) (T := TX7) (N := 11) hx hb hts zi_X7_where_7 hown hK hP 0 rfl rfl 10 (by decide) (hts (.fieldLink RX7 68 "WaxTurns" "faultPlace" "I") (List.mem_cons_of_mem _ (List.mem_append_left _ (List.mem_of_getElem? (i := 1) rfl)))) (fun _ h9 => h9) rfl dX7_where_9 ?_
    refine lv_goto (tgt := 16) hx hb dX7_where_12 (by decide) ?_
    exact W.iret (v := a0_10) hx hb hr (fun t ht hW => ⟨⟨a0_10, (), rfl, trivial, by rw [ht]; exact hP, va_K.moved hW.alike hK, hD⟩, hS.F ht⟩) hS.2.2 dX7_where_16

set_option maxHeartbeats 4000000 in
set_option maxRecDepth 100000 in
theorem c_X7_trouble (l : Launch) (dC : Nat → ClassId) (dI : Nat → Nat → Nat) (sz : Nat) (a0 : Nat) (a0g_0 a0g_1 a0g_2 a0g_3 a0g_4 a0g_5 a0g_6 a0g_7 a0g_9 a0g_10 : Value) (a0_8 : Int32)  : Met l yX7_trouble wsX7_trouble ({ frames := 0, cells := 0, slots := 0, locals := 0 }) (va_Pc [.ref a0] (ax_C dC dI sz [(a0, .inr (7, [a0g_0, a0g_1, a0g_2, a0g_3, a0g_4, a0g_5, a0g_6, a0g_7, .int a0_8, a0g_9, a0g_10]))] [] (fun _ => True))) (va_Qi (fun (r : Int32) (_ : Unit) => True) (fun (_ : Unit) (t : State) => ax_B dC dI (va_A [(a0, .inr (7, [a0g_0, a0g_1, a0g_2, a0g_3, a0g_4, a0g_5, a0g_6, a0g_7, .int a0_8, a0g_9, a0g_10]))] sz) [(a0, .inr (7, [a0g_0, a0g_1, a0g_2, a0g_3, a0g_4, a0g_5, a0g_6, a0g_7, .int a0_8, a0g_9, a0g_10]))] [] t) (va_A [(a0, .inr (7, [a0g_0, a0g_1, a0g_2, a0g_3, a0g_4, a0g_5, a0g_6, a0g_7, .int a0_8, a0g_9, a0g_10]))] sz)) 0 0 (va_A [(a0, .inr (7, [a0g_0, a0g_1, a0g_2, a0g_3, a0g_4, a0g_5, a0g_6, a0g_7, .int a0_8, a0g_9, a0g_10]))] sz) := by
  refine Met.ofW (cc := cX7_trouble) (maxL := 1) (ret := (some .int)) (by decide) rfl ?_
  intro p e s m args below meth c s₁ B hml hv
  obtain ⟨rfl, hsz, hP, hK, hD0, hE⟩ := hv
  have hx := B.exec
  have hb := B.bytes
  have hr := B.returns
  have hts := atoms_spec (ws := wsX7_trouble) B.pre
  have hown : s.vm.findClass RX7 = some m.cls := findClass_of_methodNamed B.named
  have hlocks := B.notSynchronized
  subst hsz
  have hD := hD0.self (sz := s.heap.size)
  generalize hAe : va_A [(a0, .inr (7, [a0g_0, a0g_1, a0g_2, a0g_3, a0g_4, a0g_5, a0g_6, a0g_7, .int a0_8, a0g_9, a0g_10]))] s.heap.size = A at hD ⊢
  have hA : ∀ q : Nat, s.heap.size ≤ q → A q := fun q h => by rw [← hAe]; exact Or.inr h
  have hS : va_S A s.heap s.heap [] := va_S.rf
  have hP : va_P (dC, dI) vwCl [(a0, .inr (7, [a0g_0, a0g_1, a0g_2, a0g_3, a0g_4, a0g_5, a0g_6, a0g_7, .int a0_8, a0g_9, a0g_10]))] s.heap := hP
  have hl := lv_entry ([.ref a0]) (n := 1) (Nat.le_of_ble_eq_true rfl)
  rw [lg_entry_eq]
  generalize (lg_sl ([.ref a0]) ++ List.replicate (1 - (lg_sl ([.ref a0])).length) Slot.unset).toArray = ls at hl ⊢
  have hl : lv_has ls 1 [(0, .ref a0)] := hl
  refine lv_aload_n hx hb dX7_trouble_0 rfl (lv_at hl 0 rfl) ?_
  refine va_get (D := (dC, dI)) (ci := 7) (v := .int a0_8) (C := RX7) (T := TX7) (N := 11) hx hb hts zi_X7_trouble_7 hown hK hP 0 rfl rfl 8 (by decide) (hts (.fieldLink RX7 61 "WaxTurns" "latestTrouble" "I") (List.mem_cons_of_mem _ (List.mem_append_left _ (List.mem_of_getElem? (i := 0) rfl)))) (fun _ h9 => h9) rfl dX7_trouble_1 ?_
  exact W.iret (v := a0_8) hx hb hr (fun t ht hW => ⟨⟨a0_8, (), rfl, trivial, by rw [ht]; exact hP, va_K.moved hW.alike hK, hD⟩, hS.F ht⟩) hS.2.2 dX7_trouble_4

set_option maxHeartbeats 4000000 in
set_option maxRecDepth 100000 in
theorem c_X7_figure (l : Launch) (dC : Nat → ClassId) (dI : Nat → Nat → Nat) (sz : Nat) (a0 : Nat) (a1 : Int32) (a2 : Int32) (a0g_0 a0g_2 a0g_3 a0g_4 a0g_5 a0g_6 a0g_9 a0g_10 : Value) (a0_1 : Nat) (a0_7 : Nat) (a0_8 : Int32) (a0_7_0 : Int32) (a0_7g_1 a0_7g_2 a0_7g_3 a0_7g_4 a0_7g_5 a0_7g_6 a0_7g_7 a0_7g_8 a0_7g_9 a0_7g_12 a0_7g_13 a0_7g_14 : Value) (a0_7_10 : Nat) (a0_7_11 : Nat) (ka0_7_10 : ClassId) (fa0_7_10 : Nat → Int32) (ka0_7_11 : ClassId) (fa0_7_11 : Nat → Int32) (a0_1g_0 a0_1g_1 a0_1g_2 a0_1g_4 : Value) (a0_1_3 : Int32) (a0_1_5 : Nat) (a0_1_6 : Nat) (ka0_1_5 : ClassId) (fa0_1_5 : Nat → Int32) (ka0_1_6 : ClassId) (fa0_1_6 : Nat → Int32) (ba0_7_0_l : (0 : Int) ≤ a0_7_0.toInt) (ba0_7_0_u : a0_7_0.toInt ≤ (9 : Int)) : Met l yX7_figure wsX7_figure ({ frames := 2, cells := 0, slots := 0, locals := 43 }) (va_Pc [.ref a0, .int a1, .int a2] (ax_C dC dI sz [(a0, .inr (7, [a0g_0, .ref a0_1, a0g_2, a0g_3, a0g_4, a0g_5, a0g_6, .ref a0_7, .int a0_8, a0g_9, a0g_10])), (a0_7, .inr (0, [.int a0_7_0, a0_7g_1, a0_7g_2, a0_7g_3, a0_7g_4, a0_7g_5, a0_7g_6, a0_7g_7, a0_7g_8, a0_7g_9, .ref a0_7_10, .ref a0_7_11, a0_7g_12, a0_7g_13, a0_7g_14])), (a0_7_10, .inl (ka0_7_10, 9, .inl (fa0_7_10))), (a0_7_11, .inl (ka0_7_11, 9, .inl (fa0_7_11))), (a0_1, .inr (5, [a0_1g_0, a0_1g_1, a0_1g_2, .int a0_1_3, a0_1g_4, .ref a0_1_5, .ref a0_1_6])), (a0_1_5, .inl (ka0_1_5, 9, .inl (fa0_1_5))), (a0_1_6, .inl (ka0_1_6, 9, .inl (fa0_1_6)))] [(ka0_7_10, .int), (ka0_7_11, .int), (ka0_1_5, .int), (ka0_1_6, .int)] (fun U => va_Nw (.methodLinkNest RX5 38 yX7_hasBit RX7) U))) (va_Qi (fun (r : Int32) (_ : Unit) => True) (fun (_ : Unit) (t : State) => ∃ na0_8 : Int32, ax_B dC dI (va_A [(a0, .inr (7, [a0g_0, .ref a0_1, a0g_2, a0g_3, a0g_4, a0g_5, a0g_6, .ref a0_7, .int a0_8, a0g_9, a0g_10])), (a0_7, .inr (0, [.int a0_7_0, a0_7g_1, a0_7g_2, a0_7g_3, a0_7g_4, a0_7g_5, a0_7g_6, a0_7g_7, a0_7g_8, a0_7g_9, .ref a0_7_10, .ref a0_7_11, a0_7g_12, a0_7g_13, a0_7g_14])), (a0_7_10, .inl (ka0_7_10, 9, .inl (fa0_7_10))), (a0_7_11, .inl (ka0_7_11, 9, .inl (fa0_7_11))), (a0_1, .inr (5, [a0_1g_0, a0_1g_1, a0_1g_2, .int a0_1_3, a0_1g_4, .ref a0_1_5, .ref a0_1_6])), (a0_1_5, .inl (ka0_1_5, 9, .inl (fa0_1_5))), (a0_1_6, .inl (ka0_1_6, 9, .inl (fa0_1_6)))] sz) [(a0, .inr (7, [a0g_0, .ref a0_1, a0g_2, a0g_3, a0g_4, a0g_5, a0g_6, .ref a0_7, .int na0_8, a0g_9, a0g_10])), (a0_7, .inr (0, [.int a0_7_0, a0_7g_1, a0_7g_2, a0_7g_3, a0_7g_4, a0_7g_5, a0_7g_6, a0_7g_7, a0_7g_8, a0_7g_9, .ref a0_7_10, .ref a0_7_11, a0_7g_12, a0_7g_13, a0_7g_14])), (a0_7_10, .inl (ka0_7_10, 9, .inl (fa0_7_10))), (a0_7_11, .inl (ka0_7_11, 9, .inl (fa0_7_11))), (a0_1, .inr (5, [a0_1g_0, a0_1g_1, a0_1g_2, .int a0_1_3, a0_1g_4, .ref a0_1_5, .ref a0_1_6])), (a0_1_5, .inl (ka0_1_5, 9, .inl (fa0_1_5))), (a0_1_6, .inl (ka0_1_6, 9, .inl (fa0_1_6)))] [(ka0_7_10, .int), (ka0_7_11, .int), (ka0_1_5, .int), (ka0_1_6, .int)] t) (va_A [(a0, .inr (7, [a0g_0, .ref a0_1, a0g_2, a0g_3, a0g_4, a0g_5, a0g_6, .ref a0_7, .int a0_8, a0g_9, a0g_10])), (a0_7, .inr (0, [.int a0_7_0, a0_7g_1, a0_7g_2, a0_7g_3, a0_7g_4, a0_7g_5, a0_7g_6, a0_7g_7, a0_7g_8, a0_7g_9, .ref a0_7_10, .ref a0_7_11, a0_7g_12, a0_7g_13, a0_7g_14])), (a0_7_10, .inl (ka0_7_10, 9, .inl (fa0_7_10))), (a0_7_11, .inl (ka0_7_11, 9, .inl (fa0_7_11))), (a0_1, .inr (5, [a0_1g_0, a0_1g_1, a0_1g_2, .int a0_1_3, a0_1g_4, .ref a0_1_5, .ref a0_1_6])), (a0_1_5, .inl (ka0_1_5, 9, .inl (fa0_1_5))), (a0_1_6, .inl (ka0_1_6, 9, .inl (fa0_1_6)))] sz)) 0 0 (va_A [(a0, .inr (7, [a0g_0, .ref a0_1, a0g_2, a0g_3, a0g_4, a0g_5, a0g_6, .ref a0_7, .int a0_8, a0g_9, a0g_10])), (a0_7, .inr (0, [.int a0_7_0, a0_7g_1, a0_7g_2, a0_7g_3, a0_7g_4, a0_7g_5, a0_7g_6, a0_7g_7, a0_7g_8, a0_7g_9, .ref a0_7_10, .ref a0_7_11, a0_7g_12, a0_7g_13, a0_7g_14])), (a0_7_10, .inl (ka0_7_10, 9, .inl (fa0_7_10))), (a0_7_11, .inl (ka0_7_11, 9, .inl (fa0_7_11))), (a0_1, .inr (5, [a0_1g_0, a0_1g_1, a0_1g_2, .int a0_1_3, a0_1g_4, .ref a0_1_5, .ref a0_1_6])), (a0_1_5, .inl (ka0_1_5, 9, .inl (fa0_1_5))), (a0_1_6, .inl (ka0_1_6, 9, .inl (fa0_1_6)))] sz) := by
  refine Met.ofW (cc := cX7_figure) (maxL := 3) (ret := (some .int)) (by decide) rfl ?_
  intro p e s m args below meth c s₁ B hml hv
  obtain ⟨rfl, hsz, hP, hK, hD0, hE⟩ := hv
  have hx := B.exec
  have hb := B.bytes
  have hr := B.returns
  have hts := atoms_spec (ws := wsX7_figure) B.pre
  have hown : s.vm.findClass RX7 = some m.cls := findClass_of_methodNamed B.named
  have hlocks := B.notSynchronized
  subst hsz
  have hD := hD0.self (sz := s.heap.size)
  generalize hAe : va_A [(a0, .inr (7, [a0g_0, .ref a0_1, a0g_2, a0g_3, a0g_4, a0g_5, a0g_6, .ref a0_7, .int a0_8, a0g_9, a0g_10])), (a0_7, .inr (0, [.int a0_7_0, a0_7g_1, a0_7g_2, a0_7g_3, a0_7g_4, a0_7g_5, a0_7g_6, a0_7g_7, a0_7g_8, a0_7g_9, .ref a0_7_10, .ref a0_7_11, a0_7g_12, a0_7g_13, a0_7g_14])), (a0_7_10, .inl (ka0_7_10, 9, .inl (fa0_7_10))), (a0_7_11, .inl (ka0_7_11, 9, .inl (fa0_7_11))), (a0_1, .inr (5, [a0_1g_0, a0_1g_1, a0_1g_2, .int a0_1_3, a0_1g_4, .ref a0_1_5, .ref a0_1_6])), (a0_1_5, .inl (ka0_1_5, 9, .inl (fa0_1_5))), (a0_1_6, .inl (ka0_1_6, 9, .inl (fa0_1_6)))] s.heap.size = A at hD ⊢
  have hA : ∀ q : Nat, s.heap.size ≤ q → A q := fun q h => by rw [← hAe]; exact Or.inr h
  have hS : va_S A s.heap s.heap [] := va_S.rf
  have hP : va_P (dC, dI) vwCl [(a0, .inr (7, [a0g_0, .ref a0_1, a0g_2, a0g_3, a0g_4, a0g_5, a0g_6, .ref a0_7, .int a0_8, a0g_9, a0g_10])), (a0_7, .inr (0, [.int a0_7_0, a0_7g_1, a0_7g_2, a0_7g_3, a0_7g_4, a0_7g_5, a0_7g_6, a0_7g_7, a0_7g_8, a0_7g_9, .ref a0_7_10, .ref a0_7_11, a0_7g_12, a0_7g_13, a0_7g_14])), (a0_7_10, .inl (ka0_7_10, 9, .inl (fa0_7_10))), (a0_7_11, .inl (ka0_7_11, 9, .inl (fa0_7_11))), (a0_1, .inr (5, [a0_1g_0, a0_1g_1, a0_1g_2, .int a0_1_3, a0_1g_4, .ref a0_1_5, .ref a0_1_6])), (a0_1_5, .inl (ka0_1_5, 9, .inl (fa0_1_5))), (a0_1_6, .inl (ka0_1_6, 9, .inl (fa0_1_6)))] s.heap := hP
  have hE0 := hE
  have hl := lv_entry ([.ref a0, .int a1, .int a2]) (n := 3) (Nat.le_of_ble_eq_true rfl)
  rw [lg_entry_eq]
  generalize (lg_sl ([.ref a0, .int a1, .int a2]) ++ List.replicate (3 - (lg_sl ([.ref a0, .int a1, .int a2])).length) Slot.unset).toArray = ls at hl ⊢
  have hl : lv_has ls 3 [(0, .ref a0), (1, .int a1), (2, .int a2)] := hl
  refine lv_aload_n hx hb dX7_figure_0 rfl (lv_at hl 0 rfl) ?_
  refine lv_iload_n hx hb dX7_figure_1 rfl (lv_at hl 1 rfl) ?_
  obtain ⟨hPc, hDc, hFc, hCc⟩ := zc_cut (wc := [(a0, .inr (7, [a0g_0, .ref a0_1, a0g_2, a0g_3, a0g_4, a0g_5, a0g_6, .ref a0_7, .int a0_8, a0g_9, a0g_10])), (a0_7, .inr (0, [.int a0_7_0, a0_7g_1, a0_7g_2, a0_7g_3, a0_7g_4, a0_7g_5, a0_7g_6, a0_7g_7, a0_7g_8, a0_7g_9, .ref a0_7_10, .ref a0_7_11, a0_7g_12, a0_7g_13, a0_7g_14]))]) hP hD hS hA [0, 1] (by decide +kernel) rfl
  have hKc := hK.sub (tys' := []) [] rfl
  refine va_calli (va_runV (As := [.int a1]) (rest := []) ⟨hx, hb, hml, hown, hts⟩ (c_X7_isFigure l dC dI s.heap.size a0 a1 a0g_0 (.ref a0_1) a0g_2 a0g_3 a0g_4 a0g_5 a0g_6 (.int a0_8) a0g_9 a0g_10 a0_7 a0_7_0 a0_7g_1 a0_7g_2 a0_7g_3 a0_7g_4 a0_7g_5 a0_7g_6 a0_7g_7 a0_7g_8 a0_7g_9 (.ref a0_7_10) (.ref a0_7_11) a0_7g_12 a0_7g_13 a0_7g_14 ba0_7_0_l ba0_7_0_u) (cwV 1 hts gX7_figure_X7_isFigure rfl rfl rfl zd_X7_isFigure ⟨Nat.le_of_ble_eq_true rfl, Nat.le_of_ble_eq_true rfl⟩) ⟨ax_blind (fun _ _ _ _ _ => trivial), zr_7 hKc hPc (q0 := 0) rfl, ax_pre hPc hKc hDc (fun _ _ => trivial)⟩ rfl rfl hl.1 rfl (lv_room (Nat.le_of_ble_eq_true rfl)) dX7_figure_2 ⟨Nat.le_of_ble_eq_true rfl, Nat.le_of_ble_eq_true rfl⟩) hS (fun q _ h => hFc q h) hFc (fun r2 u t H locs ht hvm hw hB hz1 hk1 hS => ?_)
  obtain ⟨hP1, hK1, hD1⟩ := hB
  rw [ht] at hP1
  obtain ⟨hP, hD⟩ := zc_back (w := [(a0, .inr (7, [a0g_0, .ref a0_1, a0g_2, a0g_3, a0g_4, a0g_5, a0g_6, .ref a0_7, .int a0_8, a0g_9, a0g_10])), (a0_7, .inr (0, [.int a0_7_0, a0_7g_1, a0_7g_2, a0_7g_3, a0_7g_4, a0_7g_5, a0_7g_6, a0_7g_7, a0_7g_8, a0_7g_9, .ref a0_7_10, .ref a0_7_11, a0_7g_12, a0_7g_13, a0_7g_14])), (a0_7_10, .inl (ka0_7_10, 9, .inl (fa0_7_10))), (a0_7_11, .inl (ka0_7_11, 9, .inl (fa0_7_11))), (a0_1, .inr (5, [a0_1g_0, a0_1g_1, a0_1g_2, .int a0_1_3, a0_1g_4, .ref a0_1_5, .ref a0_1_6])), (a0_1_5, .inl (ka0_1_5, 9, .inl (fa0_1_5))), (a0_1_6, .inl (ka0_1_6, 9, .inl (fa0_1_6)))]) hP hD hCc hk1 hFc hP1 hD1 [.inr 0, .inr 1, .inl 2, .inl 3, .inl 4, .inl 5, .inl 6] (by decide +kernel) rfl
  rcases hw with hw | hw
  · obtain ⟨hw, h2_0, h2_1, h2_2, h2_3⟩ := hw
    subst hw
    have l2k0_a1 : (0 : Int) ≤ a1.toInt := h2_0
    have u2k0_a1 : a1.toInt ≤ (8 : Int) := h2_1
    have l2k0_a0_7_0 : (1 : Int) ≤ a0_7_0.toInt := h2_2
    have u2k0_a0_7_0 : a0_7_0.toInt ≤ (9 : Int) := ba0_7_0_u
    refine lv_if_eq (tgt := 17) hx hb dX7_figure_5 (by decide) (fun c5 => absurd c5 (by decide +kernel)) (fun _ => ?_)
    refine lv_iload_n hx hb dX7_figure_8 rfl (lv_at hl 2 rfl) ?_
    refine lv_iconst (v := 0) hx hb dX7_figure_9 zk_iconst_0 ?_
    refine lv_iconst (v := 4) hx hb dX7_figure_10 zk_iconst_4 ?_
    obtain ⟨hPc, hDc, hFc, hCc⟩ := zc_cut (wc := []) hP hD hS hA [] (by decide +kernel) rfl
    have hKc := hK.sub (tys' := []) [] rfl
    refine va_calli (va_runS (As := [.int a2, .int 0, .int 4]) (rest := []) ⟨hx, hb, hml, hown, hts⟩ (c_X7_within l dC dI H.size a2 0 4 ) (va_cwS 3 hts gX7_figure_X7_within rfl rfl rfl zd_X7_within.2 ⟨Nat.le_of_ble_eq_true rfl, Nat.le_of_ble_eq_true rfl⟩) ⟨ax_blind (fun _ _ _ _ _ => trivial), ax_pre hPc hKc hDc (fun _ _ => trivial)⟩ rfl rfl hl.1 rfl (lv_room (Nat.le_of_ble_eq_true rfl)) dX7_figure_11 ⟨Nat.le_of_ble_eq_true rfl, Nat.le_of_ble_eq_true rfl⟩) hS (fun q _ h => hFc q h) hFc (fun r11 u t H locs ht hvm hw hB hz1 hk1 hS => ?_)
    obtain ⟨hP1, hK1, hD1⟩ := hB
    rw [ht] at hP1
    obtain ⟨hP, hD⟩ := zc_back (w := [(a0, .inr (7, [a0g_0, .ref a0_1, a0g_2, a0g_3, a0g_4, a0g_5, a0g_6, .ref a0_7, .int a0_8, a0g_9, a0g_10])), (a0_7, .inr (0, [.int a0_7_0, a0_7g_1, a0_7g_2, a0_7g_3, a0_7g_4, a0_7g_5, a0_7g_6, a0_7g_7, a0_7g_8, a0_7g_9, .ref a0_7_10, .ref a0_7_11, a0_7g_12, a0_7g_13, a0_7g_14])), (a0_7_10, .inl (ka0_7_10, 9, .inl (fa0_7_10))), (a0_7_11, .inl (ka0_7_11, 9, .inl (fa0_7_11))), (a0_1, .inr (5, [a0_1g_0, a0_1g_1, a0_1g_2, .int a0_1_3, a0_1g_4, .ref a0_1_5, .ref a0_1_6])), (a0_1_5, .inl (ka0_1_5, 9, .inl (fa0_1_5))), (a0_1_6, .inl (ka0_1_6, 9, .inl (fa0_1_6)))]) hP hD hCc hk1 hFc hP1 hD1 [.inl 0, .inl 1, .inl 2, .inl 3, .inl 4, .inl 5, .inl 6] (by decide +kernel) rfl
    rcases hw with hw | hw
    · obtain ⟨hw, h11⟩ := hw
      subst hw
      have l11k0_a2 : (0 : Int) ≤ a2.toInt := Int.le_trans zq5 h11.1
      have u11k0_a2 : a2.toInt ≤ (4 : Int) := Int.le_trans h11.2 zq67
      refine lv_if_ne (tgt := 23) hx hb dX7_figure_14 (by decide) (fun _ => ?_) (fun c14 => absurd c14 (by decide +kernel))
      refine lv_iload_n hx hb dX7_figure_23 rfl (lv_at hl 2 rfl) ?_
      by_cases n_1 : a2 = 0
      · subst n_1
        refine lv_tableIn (off := 32) (tgt := 56) hx hb dX7_figure_24 (by decide) (by decide) (by decide +kernel) (by decide) ?_
        refine lv_aload_n hx hb dX7_figure_56 rfl (lv_at hl 0 rfl) ?_
        refine lv_aload_n hx hb dX7_figure_57 rfl (lv_at hl 0 rfl) ?_
        refine va_get (D := (dC, dI)) (ci := 7) (v := .ref a0_7) (C := RX7) (T := TX7) (N := 11) hx hb hts zi_X7_figure_7 hown hK hP 0 rfl rfl 7 (by decide) (hts (.fieldLink RX7 57 "WaxTurns" "hall" "LWaxTurns$Hall;") (zm_X7_figure_r1 (List.mem_of_getElem? (i := 0) rfl))) (fun _ h9 => h9) rfl dX7_figure_58 ?_
        refine va_get (D := (dC, dI)) (ci := 0) (v := .ref a0_7_10) (C := RX0) (T := TX0) (N := 15) hx hb hts zi_X7_figure_0 hown hK hP 1 rfl rfl 10 (by decide) (hts (.fieldLink RX7 119 "WaxTurns$Hall" "kinds" "[I") (zm_X7_figure_r1 (List.mem_of_getElem? (i := 1) rfl))) (fun _ h9 => h9) rfl dX7_figure_61 ?_
        refine lv_iload_n hx hb dX7_figure_64 rfl (lv_at hl 1 rfl) ?_
        refine va_iald hx hb hK hP 2 0 rfl rfl (ai_in l2k0_a1 u2k0_a1 (by decide) (by decide)) dX7_figure_65 ?_
        refine lv_topi (fun x65 ex65 => ?_)
        obtain ⟨hPc, hDc, hFc, hCc⟩ := zc_cut (wc := [(a0, .inr (7, [a0g_0, .ref a0_1, a0g_2, a0g_3, a0g_4, a0g_5, a0g_6, .ref a0_7, .int a0_8, a0g_9, a0g_10]))]) hP hD hS hA [0] (by decide +kernel) rfl
        have hKc := hK.sub (tys' := []) [] rfl
        refine va_calli (va_runV (As := [.int x65]) (rest := []) ⟨hx, hb, hml, hown, hts⟩ (c_X7_answered l dC dI H.size a0 x65 a0g_0 (.ref a0_1) a0g_2 a0g_3 a0g_4 a0g_5 a0g_6 (.ref a0_7) a0g_9 a0g_10 a0_8 ) (cwV 1 hts gX7_figure_X7_answered rfl rfl rfl zd_X7_answered ⟨Nat.le_of_ble_eq_true rfl, Nat.le_of_ble_eq_true rfl⟩) ⟨ax_blind (fun _ _ _ _ _ => trivial), zr_7 hKc hPc (q0 := 0) rfl, ax_pre hPc hKc hDc (fun _ _ => trivial)⟩ rfl rfl hl.1 rfl (lv_room (Nat.le_of_ble_eq_true rfl)) dX7_figure_66 ⟨Nat.le_of_ble_eq_true rfl, Nat.le_of_ble_eq_true rfl⟩) hS (fun q _ h => hFc q h) hFc (fun r66 u t H locs ht hvm hw hB hz1 hk1 hS => ?_)
        obtain ⟨v66na0_8, hP1, hK1, hD1⟩ := hB
        rw [ht] at hP1
        obtain ⟨hP, hD⟩ := zc_back (w := [(a0, .inr (7, [a0g_0, .ref a0_1, a0g_2, a0g_3, a0g_4, a0g_5, a0g_6, .ref a0_7, .int v66na0_8, a0g_9, a0g_10])), (a0_7, .inr (0, [.int a0_7_0, a0_7g_1, a0_7g_2, a0_7g_3, a0_7g_4, a0_7g_5, a0_7g_6, a0_7g_7, a0_7g_8, a0_7g_9, .ref a0_7_10, .ref a0_7_11, a0_7g_12, a0_7g_13, a0_7g_14])), (a0_7_10, .inl (ka0_7_10, 9, .inl (fa0_7_10))), (a0_7_11, .inl (ka0_7_11, 9, .inl (fa0_7_11))), (a0_1, .inr (5, [a0_1g_0, a0_1g_1, a0_1g_2, .int a0_1_3, a0_1g_4, .ref a0_1_5, .ref a0_1_6])), (a0_1_5, .inl (ka0_1_5, 9, .inl (fa0_1_5))), (a0_1_6, .inl (ka0_1_6, 9, .inl (fa0_1_6)))]) hP hD hCc hk1 hFc hP1 hD1 [.inr 0, .inl 1, .inl 2, .inl 3, .inl 4, .inl 5, .inl 6] (by decide +kernel) rfl
        have hw : r66 = x65 := hw
        have hw := hw.symm
        subst hw
        exact W.iret (v := x65) hx hb hr (fun t ht hW => ⟨⟨x65, (), rfl, trivial, v66na0_8, by rw [ht]; exact hP, va_K.moved hW.alike hK, hD⟩, hS.F ht⟩) hS.2.2 dX7_figure_69
      by_cases n_2 : a2 = 1
      · subst n_2
        refine lv_tableIn (off := 46) (tgt := 70) hx hb dX7_figure_24 (by decide) (by decide) (by decide +kernel) (by decide) ?_
        refine lv_aload_n hx hb dX7_figure_70 rfl (lv_at hl 0 rfl) ?_
        refine lv_aload_n hx hb dX7_figure_71 rfl (lv_at hl 0 rfl) ?_
        refine va_get (D := (dC, dI)) (ci := 7) (v := .ref a0_7) (C := RX7) (T := TX7) (N := 11) hx hb hts zi_X7_figure_7 hown hK hP 0 rfl rfl 7 (by decide) (hts (.fieldLink RX7 57 "WaxTurns" "hall" "LWaxTurns$Hall;") (zm_X7_figure_r1 (List.mem_of_getElem? (i := 0) rfl))) (fun _ h9 => h9) rfl dX7_figure_72 ?_
        refine va_get (D := (dC, dI)) (ci := 0) (v := .ref a0_7_11) (C := RX0) (T := TX0) (N := 15) hx hb hts zi_X7_figure_0 hown hK hP 1 rfl rfl 11 (by decide) (hts (.fieldLink RX7 123 "WaxTurns$Hall" "measures" "[I") (zm_X7_figure_r1 (List.mem_of_getElem? (i := 2) rfl))) (fun _ h9 => h9) rfl dX7_figure_75 ?_
        refine lv_iload_n hx hb dX7_figure_78 rfl (lv_at hl 1 rfl) ?_
        refine va_iald hx hb hK hP 3 1 rfl rfl (ai_in l2k0_a1 u2k0_a1 (by decide) (by decide)) dX7_figure_79 ?_
        refine lv_topi (fun x79 ex79 => ?_)
        obtain ⟨hPc, hDc, hFc, hCc⟩ := zc_cut (wc := [(a0, .inr (7, [a0g_0, .ref a0_1, a0g_2, a0g_3, a0g_4, a0g_5, a0g_6, .ref a0_7, .int a0_8, a0g_9, a0g_10]))]) hP hD hS hA [0] (by decide +kernel) rfl
        have hKc := hK.sub (tys' := []) [] rfl
        refine va_calli (va_runV (As := [.int x79]) (rest := []) ⟨hx, hb, hml, hown, hts⟩ (c_X7_answered l dC dI H.size a0 x79 a0g_0 (.ref a0_1) a0g_2 a0g_3 a0g_4 a0g_5 a0g_6 (.ref a0_7) a0g_9 a0g_10 a0_8 ) (cwV 1 hts gX7_figure_X7_answered rfl rfl rfl zd_X7_answered ⟨Nat.le_of_ble_eq_true rfl, Nat.le_of_ble_eq_true rfl⟩) ⟨ax_blind (fun _ _ _ _ _ => trivial), zr_7 hKc hPc (q0 := 0) rfl, ax_pre hPc hKc hDc (fun _ _ => trivial)⟩ rfl rfl hl.1 rfl (lv_room (Nat.le_of_ble_eq_true rfl)) dX7_figure_80 ⟨Nat.le_of_ble_eq_true rfl, Nat.le_of_ble_eq_true rfl⟩) hS (fun q _ h => hFc q h) hFc (fun r80 u t H locs ht hvm hw hB hz1 hk1 hS => ?_)
        obtain ⟨v80na0_8, hP1, hK1, hD1⟩ := hB
        rw [ht] at hP1
        obtain ⟨hP, hD⟩ := zc_back (w := [(a0, .inr (7, [a0g_0, .ref a0_1, a0g_2, a0g_3, a0g_4, a0g_5, a0g_6, .ref a0_7, .int v80na0_8, a0g_9, a0g_10])), (a0_7, .inr (0, [.int a0_7_0, a0_7g_1, a0_7g_2, a0_7g_3, a0_7g_4, a0_7g_5, a0_7g_6, a0_7g_7, a0_7g_8, a0_7g_9, .ref a0_7_10, .ref a0_7_11, a0_7g_12, a0_7g_13, a0_7g_14])), (a0_7_10, .inl (ka0_7_10, 9, .inl (fa0_7_10))), (a0_7_11, .inl (ka0_7_11, 9, .inl (fa0_7_11))), (a0_1, .inr (5, [a0_1g_0, a0_1g_1, a0_1g_2, .int a0_1_3, a0_1g_4, .ref a0_1_5, .ref a0_1_6])), (a0_1_5, .inl (ka0_1_5, 9, .inl (fa0_1_5))), (a0_1_6, .inl (ka0_1_6, 9, .inl (fa0_1_6)))]) hP hD hCc hk1 hFc hP1 hD1 [.inr 0, .inl 1, .inl 2, .inl 3, .inl 4, .inl 5, .inl 6] (by decide +kernel) rfl
        have hw : r80 = x79 := hw
        have hw := hw.symm
        subst hw
        exact W.iret (v := x79) hx hb hr (fun t ht hW => ⟨⟨x79, (), rfl, trivial, v80na0_8, by rw [ht]; exact hP, va_K.moved hW.alike hK, hD⟩, hS.F ht⟩) hS.2.2 dX7_figure_83
      by_cases n_3 : a2 = 2
      · subst n_3
        refine lv_tableIn (off := 60) (tgt := 84) hx hb dX7_figure_24 (by decide) (by decide) (by decide +kernel) (by decide) ?_
        refine lv_aload_n hx hb dX7_figure_84 rfl (lv_at hl 0 rfl) ?_
        refine lv_aload_n hx hb dX7_figure_85 rfl (lv_at hl 0 rfl) ?_
        refine va_get (D := (dC, dI)) (ci := 7) (v := .ref a0_1) (C := RX7) (T := TX7) (N := 11) hx hb hts zi_X7_figure_7 hown hK hP 0 rfl rfl 1 (by decide) (hts (.fieldLink RX7 19 "WaxTurns" "now" "LWaxTurns$Scene;") (zm_X7_figure_r1 (List.mem_of_getElem? (i := 3) rfl))) (fun _ h9 => h9) rfl dX7_figure_86 ?_
        refine va_get (D := (dC, dI)) (ci := 5) (v := .ref a0_1_5) (C := RX5) (T := TX5) (N := 7) hx hb hts zi_X7_figure_5 hown hK hP 4 rfl rfl 5 (by decide) (hts (.fieldLink RX7 126 "WaxTurns$Scene" "places" "[I") (zm_X7_figure_r1 (List.mem_of_getElem? (i := 4) rfl))) (fun _ h9 => h9) rfl dX7_figure_89 ?_
        refine lv_iload_n hx hb dX7_figure_92 rfl (lv_at hl 1 rfl) ?_
        refine va_iald hx hb hK hP 5 2 rfl rfl (ai_in l2k0_a1 u2k0_a1 (by decide) (by decide)) dX7_figure_93 ?_
        refine lv_topi (fun x93 ex93 => ?_)
        obtain ⟨hPc, hDc, hFc, hCc⟩ := zc_cut (wc := [(a0, .inr (7, [a0g_0, .ref a0_1, a0g_2, a0g_3, a0g_4, a0g_5, a0g_6, .ref a0_7, .int a0_8, a0g_9, a0g_10]))]) hP hD hS hA [0] (by decide +kernel) rfl
        have hKc := hK.sub (tys' := []) [] rfl
        refine va_calli (va_runV (As := [.int x93]) (rest := []) ⟨hx, hb, hml, hown, hts⟩ (c_X7_answered l dC dI H.size a0 x93 a0g_0 (.ref a0_1) a0g_2 a0g_3 a0g_4 a0g_5 a0g_6 (.ref a0_7) a0g_9 a0g_10 a0_8 ) (cwV 1 hts gX7_figure_X7_answered rfl rfl rfl zd_X7_answered ⟨Nat.le_of_ble_eq_true rfl, Nat.le_of_ble_eq_true rfl⟩) ⟨ax_blind (fun _ _ _ _ _ => trivial), zr_7 hKc hPc (q0 := 0) rfl, ax_pre hPc hKc hDc (fun _ _ => trivial)⟩ rfl rfl hl.1 rfl (lv_room (Nat.le_of_ble_eq_true rfl)) dX7_figure_94 ⟨Nat.le_of_ble_eq_true rfl, Nat.le_of_ble_eq_true rfl⟩) hS (fun q _ h => hFc q h) hFc (fun r94 u t H locs ht hvm hw hB hz1 hk1 hS => ?_)
        obtain ⟨v94na0_8, hP1, hK1, hD1⟩ := hB
        rw [ht] at hP1
        obtain ⟨hP, hD⟩ := zc_back (w := [(a0, .inr (7, [a0g_0, .ref a0_1, a0g_2, a0g_3, a0g_4, a0g_5, a0g_6, .ref a0_7, .int v94na0_8, a0g_9, a0g_10])), (a0_7, .inr (0, [.int a0_7_0, a0_7g_1, a0_7g_2, a0_7g_3, a0_7g_4, a0_7g_5, a0_7g_6, a0_7g_7, a0_7g_8, a0_7g_9, .ref a0_7_10, .ref a0_7_11, a0_7g_12, a0_7g_13, a0_7g_14])), (a0_7_10, .inl (ka0_7_10, 9, .inl (fa0_7_10))), (a0_7_11, .inl (ka0_7_11, 9, .inl (fa0_7_11))), (a0_1, .inr (5, [a0_1g_0, a0_1g_1, a0_1g_2, .int a0_1_3, a0_1g_4, .ref a0_1_5, .ref a0_1_6])), (a0_1_5, .inl (ka0_1_5, 9, .inl (fa0_1_5))), (a0_1_6, .inl (ka0_1_6, 9, .inl (fa0_1_6)))]) hP hD hCc hk1 hFc hP1 hD1 [.inr 0, .inl 1, .inl 2, .inl 3, .inl 4, .inl 5, .inl 6] (by decide +kernel) rfl
        have hw : r94 = x93 := hw
        have hw := hw.symm
        subst hw
        exact W.iret (v := x93) hx hb hr (fun t ht hW => ⟨⟨x93, (), rfl, trivial, v94na0_8, by rw [ht]; exact hP, va_K.moved hW.alike hK, hD⟩, hS.F ht⟩) hS.2.2 dX7_figure_97
      by_cases n_4 : a2 = 3
      · subst n_4
        refine lv_tableIn (off := 74) (tgt := 98) hx hb dX7_figure_24 (by decide) (by decide) (by decide +kernel) (by decide) ?_
        refine lv_aload_n hx hb dX7_figure_98 rfl (lv_at hl 0 rfl) ?_
        refine lv_aload_n hx hb dX7_figure_99 rfl (lv_at hl 0 rfl) ?_
        refine va_get (D := (dC, dI)) (ci := 7) (v := .ref a0_1) (C := RX7) (T := TX7) (N := 11) hx hb hts zi_X7_figure_7 hown hK hP 0 rfl rfl 1 (by decide) (hts (.fieldLink RX7 19 "WaxTurns" "now" "LWaxTurns$Scene;") (zm_X7_figure_r1 (List.mem_of_getElem? (i := 3) rfl))) (fun _ h9 => h9) rfl dX7_figure_100 ?_
        refine lv_iload_n hx hb dX7_figure_103 rfl (lv_at hl 1 rfl) ?_
        obtain ⟨hPc, hDc, hFc, hCc⟩ := zc_cut (wc := [(a0_1, .inr (5, [a0_1g_0, a0_1g_1, a0_1g_2, .int a0_1_3, a0_1g_4, .ref a0_1_5, .ref a0_1_6]))]) hP hD hS hA [4] (by decide +kernel) rfl
        have hKc := hK.sub (tys' := []) [] rfl
        refine va_calli (va_runV (As := [.int a1]) (rest := [.ref a0]) ⟨hx, hb, hml, hown, hts⟩ (c_X5_isGone l dC dI H.size a0_1 a1 a0_1g_0 a0_1g_1 a0_1g_2 a0_1g_4 (.ref a0_1_5) (.ref a0_1_6) a0_1_3 ) (cwV 1 hts gX7_figure_X5_isGone rfl rfl rfl zd_X5_isGone ⟨Nat.le_of_ble_eq_true rfl, Nat.le_of_ble_eq_true rfl⟩) ⟨ax_blind (fun _ _ _ _ hq => va_Nw.same rfl rfl (hq)), zr_5 hKc hPc (q0 := 0) rfl, ax_pre hPc hKc hDc (fun _ hW => va_Nw.warmM hW hE0)⟩ rfl rfl hl.1 rfl (lv_room (Nat.le_of_ble_eq_true rfl)) dX7_figure_104 ⟨Nat.le_of_ble_eq_true rfl, Nat.le_of_ble_eq_true rfl⟩) hS (fun q _ h => hFc q h) hFc (fun r104 u t H locs ht hvm hw hB hz1 hk1 hS => ?_)
        obtain ⟨hP1, hK1, hD1⟩ := hB
        rw [ht] at hP1
        obtain ⟨hP, hD⟩ := zc_back (w := [(a0, .inr (7, [a0g_0, .ref a0_1, a0g_2, a0g_3, a0g_4, a0g_5, a0g_6, .ref a0_7, .int a0_8, a0g_9, a0g_10])), (a0_7, .inr (0, [.int a0_7_0, a0_7g_1, a0_7g_2, a0_7g_3, a0_7g_4, a0_7g_5, a0_7g_6, a0_7g_7, a0_7g_8, a0_7g_9, .ref a0_7_10, .ref a0_7_11, a0_7g_12, a0_7g_13, a0_7g_14])), (a0_7_10, .inl (ka0_7_10, 9, .inl (fa0_7_10))), (a0_7_11, .inl (ka0_7_11, 9, .inl (fa0_7_11))), (a0_1, .inr (5, [a0_1g_0, a0_1g_1, a0_1g_2, .int a0_1_3, a0_1g_4, .ref a0_1_5, .ref a0_1_6])), (a0_1_5, .inl (ka0_1_5, 9, .inl (fa0_1_5))), (a0_1_6, .inl (ka0_1_6, 9, .inl (fa0_1_6)))]) hP hD hCc hk1 hFc hP1 hD1 [.inl 0, .inl 1, .inl 2, .inl 3, .inr 0, .inl 5, .inl 6] (by decide +kernel) rfl
        rcases hw with hw | hw
        · subst hw
          refine lv_if_eq (tgt := 114) hx hb dX7_figure_107 (by decide) (fun c107 => absurd c107 (by decide +kernel)) (fun _ => ?_)
          refine lv_iconst (v := 1) hx hb dX7_figure_110 zk_iconst_1 ?_
          refine lv_goto (tgt := 115) hx hb dX7_figure_111 (by decide) ?_
          obtain ⟨hPc, hDc, hFc, hCc⟩ := zc_cut (wc := [(a0, .inr (7, [a0g_0, .ref a0_1, a0g_2, a0g_3, a0g_4, a0g_5, a0g_6, .ref a0_7, .int a0_8, a0g_9, a0g_10]))]) hP hD hS hA [0] (by decide +kernel) rfl
          have hKc := hK.sub (tys' := []) [] rfl
          refine va_calli (va_runV (As := [.int 1]) (rest := []) ⟨hx, hb, hml, hown, hts⟩ (c_X7_answered l dC dI H.size a0 1 a0g_0 (.ref a0_1) a0g_2 a0g_3 a0g_4 a0g_5 a0g_6 (.ref a0_7) a0g_9 a0g_10 a0_8 ) (cwV 1 hts gX7_figure_X7_answered rfl rfl rfl zd_X7_answered ⟨Nat.le_of_ble_eq_true rfl, Nat.le_of_ble_eq_true rfl⟩) ⟨ax_blind (fun _ _ _ _ _ => trivial), zr_7 hKc hPc (q0 := 0) rfl, ax_pre hPc hKc hDc (fun _ _ => trivial)⟩ rfl rfl hl.1 rfl (lv_room (Nat.le_of_ble_eq_true rfl)) dX7_figure_115 ⟨Nat.le_of_ble_eq_true rfl, Nat.le_of_ble_eq_true rfl⟩) hS (fun q _ h => hFc q h) hFc (fun r115 u t H locs ht hvm hw hB hz1 hk1 hS => ?_)
          obtain ⟨v115na0_8, hP1, hK1, hD1⟩ := hB
          rw [ht] at hP1
          obtain ⟨hP, hD⟩ := zc_back (w := [(a0, .inr (7, [a0g_0, .ref a0_1, a0g_2, a0g_3, a0g_4, a0g_5, a0g_6, .ref a0_7, .int v115na0_8, a0g_9, a0g_10])), (a0_7, .inr (0, [.int a0_7_0, a0_7g_1, a0_7g_2, a0_7g_3, a0_7g_4, a0_7g_5, a0_7g_6, a0_7g_7, a0_7g_8, a0_7g_9, .ref a0_7_10, .ref a0_7_11, a0_7g_12, a0_7g_13, a0_7g_14])), (a0_7_10, .inl (ka0_7_10, 9, .inl (fa0_7_10))), (a0_7_11, .inl (ka0_7_11, 9, .inl (fa0_7_11))), (a0_1, .inr (5, [a0_1g_0, a0_1g_1, a0_1g_2, .int a0_1_3, a0_1g_4, .ref a0_1_5, .ref a0_1_6])), (a0_1_5, .inl (ka0_1_5, 9, .inl (fa0_1_5))), (a0_1_6, .inl (ka0_1_6, 9, .inl (fa0_1_6)))]) hP hD hCc hk1 hFc hP1 hD1 [.inr 0, .inl 1, .inl 2, .inl 3, .inl 4, .inl 5, .inl 6] (by decide +kernel) rfl
          have hw : r115 = 1 := hw
          have hw := hw.symm
          subst hw
          exact W.iret (v := 1) hx hb hr (fun t ht hW => ⟨⟨1, (), rfl, trivial, v115na0_8, by rw [ht]; exact hP, va_K.moved hW.alike hK, hD⟩, hS.F ht⟩) hS.2.2 dX7_figure_118
        · subst hw
          refine lv_if_eq (tgt := 114) hx hb dX7_figure_107 (by decide) (fun _ => ?_) (fun c107 => absurd (by decide +kernel) c107)
          refine lv_iconst (v := 0) hx hb dX7_figure_114 zk_iconst_0 ?_
          obtain ⟨hPc, hDc, hFc, hCc⟩ := zc_cut (wc := [(a0, .inr (7, [a0g_0, .ref a0_1, a0g_2, a0g_3, a0g_4, a0g_5, a0g_6, .ref a0_7, .int a0_8, a0g_9, a0g_10]))]) hP hD hS hA [0] (by decide +kernel) rfl
          have hKc := hK.sub (tys' := []) [] rfl
          refine va_calli (va_runV (As := [.int 0]) (rest := []) ⟨hx, hb, hml, hown, hts⟩ (c_X7_answered l dC dI H.size a0 0 a0g_0 (.ref a0_1) a0g_2 a0g_3 a0g_4 a0g_5 a0g_6 (.ref a0_7) a0g_9 a0g_10 a0_8 ) (cwV 1 hts gX7_figure_X7_answered rfl rfl rfl zd_X7_answered ⟨Nat.le_of_ble_eq_true rfl, Nat.le_of_ble_eq_true rfl⟩) ⟨ax_blind (fun _ _ _ _ _ => trivial), zr_7 hKc hPc (q0 := 0) rfl, ax_pre hPc hKc hDc (fun _ _ => trivial)⟩ rfl rfl hl.1 rfl (lv_room (Nat.le_of_ble_eq_true rfl)) dX7_figure_115 ⟨Nat.le_of_ble_eq_true rfl, Nat.le_of_ble_eq_true rfl⟩) hS (fun q _ h => hFc q h) hFc (fun r115 u t H locs ht hvm hw hB hz1 hk1 hS => ?_)
          obtain ⟨v115na0_8, hP1, hK1, hD1⟩ := hB
          rw [ht] at hP1
          obtain ⟨hP, hD⟩ := zc_back (w := [(a0, .inr (7, [a0g_0, .ref a0_1, a0g_2, a0g_3, a0g_4, a0g_5, a0g_6, .ref a0_7, .int v115na0_8, a0g_9, a0g_10])), (a0_7, .inr (0, [.int a0_7_0, a0_7g_1, a0_7g_2, a0_7g_3, a0_7g_4, a0_7g_5, a0_7g_6, a0_7g_7, a0_7g_8, a0_7g_9, .ref a0_7_10, .ref a0_7_11, a0_7g_12, a0_7g_13, a0_7g_14])), (a0_7_10, .inl (ka0_7_10, 9, .inl (fa0_7_10))), (a0_7_11, .inl (ka0_7_11, 9, .inl (fa0_7_11))), (a0_1, .inr (5, [a0_1g_0, a0_1g_1, a0_1g_2, .int a0_1_3, a0_1g_4, .ref a0_1_5, .ref a0_1_6])), (a0_1_5, .inl (ka0_1_5, 9, .inl (fa0_1_5))), (a0_1_6, .inl (ka0_1_6, 9, .inl (fa0_1_6)))]) hP hD hCc hk1 hFc hP1 hD1 [.inr 0, .inl 1, .inl 2, .inl 3, .inl 4, .inl 5, .inl 6] (by decide +kernel) rfl
          have hw : r115 = 0 := hw
          have hw := hw.symm
          subst hw
          exact W.iret (v := 0) hx hb hr (fun t ht hW => ⟨⟨0, (), rfl, trivial, v115na0_8, by rw [ht]; exact hP, va_K.moved hW.alike hK, hD⟩, hS.F ht⟩) hS.2.2 dX7_figure_118
      have o_5 : a2.toInt < 0 ∨ 3 < a2.toInt := by
        have en_1 : a2.toInt ≠ 0 := fun h9 => n_1 (Int32.toInt_inj.mp (h9.trans (by decide)))
        have en_2 : a2.toInt ≠ 1 := fun h9 => n_2 (Int32.toInt_inj.mp (h9.trans (by decide)))
        have en_3 : a2.toInt ≠ 2 := fun h9 => n_3 (Int32.toInt_inj.mp (h9.trans (by decide)))
        have en_4 : a2.toInt ≠ 3 := fun h9 => n_4 (Int32.toInt_inj.mp (h9.trans (by decide)))
        omega
      refine lv_tableOut (tgt := 119) hx hb dX7_figure_24 o_5 (by decide) ?_
      refine lv_aload_n hx hb dX7_figure_119 rfl (lv_at hl 0 rfl) ?_
      refine lv_aload_n hx hb dX7_figure_120 rfl (lv_at hl 0 rfl) ?_
      refine va_get (D := (dC, dI)) (ci := 7) (v := .ref a0_1) (C := RX7) (T := TX7) (N := 11) hx hb hts zi_X7_figure_7 hown hK hP 0 rfl rfl 1 (by decide) (hts (.fieldLink RX7 19 "WaxTurns" "now" "LWaxTurns$Scene;") (zm_X7_figure_r1 (List.mem_of_getElem? (i := 3) rfl))) (fun _ h9 => h9) rfl dX7_figure_121 ?_
      refine va_get (D := (dC, dI)) (ci := 5) (v := .ref a0_1_6) (C := RX5) (T := TX5) (N := 7) hx hb hts zi_X7_figure_5 hown hK hP 4 rfl rfl 6 (by decide) (hts (.fieldLink RX7 132 "WaxTurns$Scene" "heardBits" "[I") (zm_X7_figure_r1 (List.mem_of_getElem? (i := 5) rfl))) (fun _ h9 => h9) rfl dX7_figure_124 ?_
      refine lv_iload_n hx hb dX7_figure_127 rfl (lv_at hl 1 rfl) ?_
      refine va_iald hx hb hK hP 6 3 rfl rfl (ai_in l2k0_a1 u2k0_a1 (by decide) (by decide)) dX7_figure_128 ?_
      refine lv_topi (fun x128 ex128 => ?_)
      obtain ⟨hPc, hDc, hFc, hCc⟩ := zc_cut (wc := [(a0, .inr (7, [a0g_0, .ref a0_1, a0g_2, a0g_3, a0g_4, a0g_5, a0g_6, .ref a0_7, .int a0_8, a0g_9, a0g_10]))]) hP hD hS hA [0] (by decide +kernel) rfl
      have hKc := hK.sub (tys' := []) [] rfl
      refine va_calli (va_runV (As := [.int x128]) (rest := []) ⟨hx, hb, hml, hown, hts⟩ (c_X7_answered l dC dI H.size a0 x128 a0g_0 (.ref a0_1) a0g_2 a0g_3 a0g_4 a0g_5 a0g_6 (.ref a0_7) a0g_9 a0g_10 a0_8 ) (cwV 1 hts gX7_figure_X7_answered rfl rfl rfl zd_X7_answered ⟨Nat.le_of_ble_eq_true rfl, Nat.le_of_ble_eq_true rfl⟩) ⟨ax_blind (fun _ _ _ _ _ => trivial), zr_7 hKc hPc (q0 := 0) rfl, ax_pre hPc hKc hDc (fun _ _ => trivial)⟩ rfl rfl hl.1 rfl (lv_room (Nat.le_of_ble_eq_true rfl)) dX7_figure_129 ⟨Nat.le_of_ble_eq_true rfl, Nat.le_of_ble_eq_true rfl⟩) hS (fun q _ h => hFc q h) hFc (fun r129 u t H locs ht hvm hw hB hz1 hk1 hS => ?_)
      obtain ⟨v129na0_8, hP1, hK1, hD1⟩ := hB
      rw [ht] at hP1
      obtain ⟨hP, hD⟩ := zc_back (w := [(a0, .inr (7, [a0g_0, .ref a0_1, a0g_2, a0g_3, a0g_4, a0g_5, a0g_6, .ref a0_7, .int v129na0_8, a0g_9, a0g_10])), (a0_7, .inr (0, [.int a0_7_0, a0_7g_1, a0_7g_2, a0_7g_3, a0_7g_4, a0_7g_5, a0_7g_6, a0_7g_7, a0_7g_8, a0_7g_9, .ref a0_7_10, .ref a0_7_11, a0_7g_12, a0_7g_13, a0_7g_14])), (a0_7_10, .inl (ka0_7_10, 9, .inl (fa0_7_10))), (a0_7_11, .inl (ka0_7_11, 9, .inl (fa0_7_11))), (a0_1, .inr (5, [a0_1g_0, a0_1g_1, a0_1g_2, .int a0_1_3, a0_1g_4, .ref a0_1_5, .ref a0_1_6])), (a0_1_5, .inl (ka0_1_5, 9, .inl (fa0_1_5))), (a0_1_6, .inl (ka0_1_6, 9, .inl (fa0_1_6)))]) hP hD hCc hk1 hFc hP1 hD1 [.inr 0, .inl 1, .inl 2, .inl 3, .inl 4, .inl 5, .inl 6] (by decide +kernel) rfl
      have hw : r129 = x128 := hw
      have hw := hw.symm
      subst hw
      exact W.iret (v := x128) hx hb hr (fun t ht hW => ⟨⟨x128, (), rfl, trivial, v129na0_8, by rw [ht]; exact hP, va_K.moved hW.alike hK, hD⟩, hS.F ht⟩) hS.2.2 dX7_figure_132
    · obtain ⟨hw, h11⟩ := hw
      subst hw
      refine lv_if_ne (tgt := 23) hx hb dX7_figure_14 (by decide) (fun c14 => absurd (by decide +kernel) c14) (fun _ => ?_)
      refine lv_aload_n hx hb dX7_figure_17 rfl (lv_at hl 0 rfl) ?_
      refine lv_iconst (v := 1) hx hb dX7_figure_18 zk_iconst_1 ?_
      obtain ⟨hPc, hDc, hFc, hCc⟩ := zc_cut (wc := [(a0, .inr (7, [a0g_0, .ref a0_1, a0g_2, a0g_3, a0g_4, a0g_5, a0g_6, .ref a0_7, .int a0_8, a0g_9, a0g_10]))]) hP hD hS hA [0] (by decide +kernel) rfl
      have hKc := hK.sub (tys' := []) [] rfl
      refine va_calli (va_runV (As := [.int 1]) (rest := []) ⟨hx, hb, hml, hown, hts⟩ (c_X7_refused l dC dI H.size a0 1 a0g_0 (.ref a0_1) a0g_2 a0g_3 a0g_4 a0g_5 a0g_6 (.ref a0_7) a0g_9 a0g_10 a0_8 ) (cwV 1 hts gX7_figure_X7_refused rfl rfl rfl zd_X7_refused ⟨Nat.le_of_ble_eq_true rfl, Nat.le_of_ble_eq_true rfl⟩) ⟨ax_blind (fun _ _ _ _ _ => trivial), zr_7 hKc hPc (q0 := 0) rfl, ax_pre hPc hKc hDc (fun _ _ => trivial)⟩ rfl rfl hl.1 rfl (lv_room (Nat.le_of_ble_eq_true rfl)) dX7_figure_19 ⟨Nat.le_of_ble_eq_true rfl, Nat.le_of_ble_eq_true rfl⟩) hS (fun q _ h => hFc q h) hFc (fun r19 u t H locs ht hvm hw hB hz1 hk1 hS => ?_)
      obtain ⟨v19na0_8, hP1, hK1, hD1⟩ := hB
      rw [ht] at hP1
      obtain ⟨hP, hD⟩ := zc_back (w := [(a0, .inr (7, [a0g_0, .ref a0_1, a0g_2, a0g_3, a0g_4, a0g_5, a0g_6, .ref a0_7, .int v19na0_8, a0g_9, a0g_10])), (a0_7, .inr (0, [.int a0_7_0, a0_7g_1, a0_7g_2, a0_7g_3, a0_7g_4, a0_7g_5, a0_7g_6, a0_7g_7, a0_7g_8, a0_7g_9, .ref a0_7_10, .ref a0_7_11, a0_7g_12, a0_7g_13, a0_7g_14])), (a0_7_10, .inl (ka0_7_10, 9, .inl (fa0_7_10))), (a0_7_11, .inl (ka0_7_11, 9, .inl (fa0_7_11))), (a0_1, .inr (5, [a0_1g_0, a0_1g_1, a0_1g_2, .int a0_1_3, a0_1g_4, .ref a0_1_5, .ref a0_1_6])), (a0_1_5, .inl (ka0_1_5, 9, .inl (fa0_1_5))), (a0_1_6, .inl (ka0_1_6, 9, .inl (fa0_1_6)))]) hP hD hCc hk1 hFc hP1 hD1 [.inr 0, .inl 1, .inl 2, .inl 3, .inl 4, .inl 5, .inl 6] (by decide +kernel) rfl
      have hw : r19 = (-1) := hw
      have hw := hw.symm
      subst hw
      exact W.iret (v := (-1)) hx hb hr (fun t ht hW => ⟨⟨(-1), (), rfl, trivial, v19na0_8, by rw [ht]; exact hP, va_K.moved hW.alike hK, hD⟩, hS.F ht⟩) hS.2.2 dX7_figure_22
  · subst hw
    refine lv_if_eq (tgt := 17) hx hb dX7_figure_5 (by decide) (fun _ => ?_) (fun c5 => absurd (by decide +kernel) c5)
    refine lv_aload_n hx hb dX7_figure_17 rfl (lv_at hl 0 rfl) ?_
    refine lv_iconst (v := 1) hx hb dX7_figure_18 zk_iconst_1 ?_
    obtain ⟨hPc, hDc, hFc, hCc⟩ := zc_cut (wc := [(a0, .inr (7, [a0g_0, .ref a0_1, a0g_2, a0g_3, a0g_4, a0g_5, a0g_6, .ref a0_7, .int a0_8, a0g_9, a0g_10]))]) hP hD hS hA [0] (by decide +kernel) rfl
    have hKc := hK.sub (tys' := []) [] rfl
    refine va_calli (va_runV (As := [.int 1]) (rest := []) ⟨hx, hb, hml, hown, hts⟩ (c_X7_refused l dC dI H.size a0 1 a0g_0 (.ref a0_1) a0g_2 a0g_3 a0g_4 a0g_5 a0g_6 (.ref a0_7) a0g_9 a0g_10 a0_8 ) (cwV 1 hts gX7_figure_X7_refused rfl rfl rfl zd_X7_refused ⟨Nat.le_of_ble_eq_true rfl, Nat.le_of_ble_eq_true rfl⟩) ⟨ax_blind (fun _ _ _ _ _ => trivial), zr_7 hKc hPc (q0 := 0) rfl, ax_pre hPc hKc hDc (fun _ _ => trivial)⟩ rfl rfl hl.1 rfl (lv_room (Nat.le_of_ble_eq_true rfl)) dX7_figure_19 ⟨Nat.le_of_ble_eq_true rfl, Nat.le_of_ble_eq_true rfl⟩) hS (fun q _ h => hFc q h) hFc (fun r19 u t H locs ht hvm hw hB hz1 hk1 hS => ?_)
    obtain ⟨v19na0_8, hP1, hK1, hD1⟩ := hB
    rw [ht] at hP1
    obtain ⟨hP, hD⟩ := zc_back (w := [(a0, .inr (7, [a0g_0, .ref a0_1, a0g_2, a0g_3, a0g_4, a0g_5, a0g_6, .ref a0_7, .int v19na0_8, a0g_9, a0g_10])), (a0_7, .inr (0, [.int a0_7_0, a0_7g_1, a0_7g_2, a0_7g_3, a0_7g_4, a0_7g_5, a0_7g_6, a0_7g_7, a0_7g_8, a0_7g_9, .ref a0_7_10, .ref a0_7_11, a0_7g_12, a0_7g_13, a0_7g_14])), (a0_7_10, .inl (ka0_7_10, 9, .inl (fa0_7_10))), (a0_7_11, .inl (ka0_7_11, 9, .inl (fa0_7_11))), (a0_1, .inr (5, [a0_1g_0, a0_1g_1, a0_1g_2, .int a0_1_3, a0_1g_4, .ref a0_1_5, .ref a0_1_6])), (a0_1_5, .inl (ka0_1_5, 9, .inl (fa0_1_5))), (a0_1_6, .inl (ka0_1_6, 9, .inl (fa0_1_6)))]) hP hD hCc hk1 hFc hP1 hD1 [.inr 0, .inl 1, .inl 2, .inl 3, .inl 4, .inl 5, .inl 6] (by decide +kernel) rfl
    have hw : r19 = (-1) := hw
    have hw := hw.symm
    subst hw
    exact W.iret (v := (-1)) hx hb hr (fun t ht hW => ⟨⟨(-1), (), rfl, trivial, v19na0_8, by rw [ht]; exact hP, va_K.moved hW.alike hK, hD⟩, hS.F ht⟩) hS.2.2 dX7_figure_22

set_option maxHeartbeats 4000000 in
set_option maxRecDepth 100000 in
theorem c_X7_watcher (l : Launch) (dC : Nat → ClassId) (dI : Nat → Nat → Nat) (sz : Nat) (a0 : Nat) (a1 : Int32) (a2 : Int32) (a0g_0 a0g_2 a0g_3 a0g_4 a0g_5 a0g_6 a0g_9 a0g_10 : Value) (a0_1 : Nat) (a0_7 : Nat) (a0_8 : Int32) (a0_7g_0 a0_7g_1 a0_7g_2 a0_7g_3 a0_7g_4 a0_7g_5 a0_7g_6 a0_7g_7 a0_7g_8 a0_7g_9 a0_7g_10 a0_7g_11 a0_7g_12 a0_7g_13 : Value) (a0_7_14 : Nat) (a0_7_14_0 : Int32) (a0_7_14g_1 : Value) (a0_7_14_2 : Nat) (a0_7_14_3 : Nat) (ka0_7_14_2 : ClassId) (fa0_7_14_2 : Nat → Int32) (ka0_7_14_3 : ClassId) (fa0_7_14_3 : Nat → Int32) (a0_1_0 : Int32) (a0_1g_1 a0_1g_2 a0_1g_3 a0_1g_4 a0_1g_5 a0_1g_6 : Value) (ba0_7_14_0_l : (0 : Int) ≤ a0_7_14_0.toInt) (ba0_7_14_0_u : a0_7_14_0.toInt ≤ (3 : Int)) (bfa0_7_14_2 : (∀ k, (0 : Int) ≤ (fa0_7_14_2 k).toInt ∧ (fa0_7_14_2 k).toInt ≤ 80)) (bfa0_7_14_3 : (∀ k, (0 : Int) ≤ (fa0_7_14_3 k).toInt ∧ (fa0_7_14_3 k).toInt ≤ 80)) : Met l yX7_watcher wsX7_watcher ({ frames := 2, cells := 0, slots := 0, locals := 43 }) (va_Pc [.ref a0, .int a1, .int a2] (ax_C dC dI sz [(a0, .inr (7, [a0g_0, .ref a0_1, a0g_2, a0g_3, a0g_4, a0g_5, a0g_6, .ref a0_7, .int a0_8, a0g_9, a0g_10])), (a0_7, .inr (0, [a0_7g_0, a0_7g_1, a0_7g_2, a0_7g_3, a0_7g_4, a0_7g_5, a0_7g_6, a0_7g_7, a0_7g_8, a0_7g_9, a0_7g_10, a0_7g_11, a0_7g_12, a0_7g_13, .ref a0_7_14])), (a0_7_14, .inr (6, [.int a0_7_14_0, a0_7_14g_1, .ref a0_7_14_2, .ref a0_7_14_3])), (a0_7_14_2, .inl (ka0_7_14_2, 3, .inl (fa0_7_14_2))), (a0_7_14_3, .inl (ka0_7_14_3, 3, .inl (fa0_7_14_3))), (a0_1, .inr (5, [.int a0_1_0, a0_1g_1, a0_1g_2, a0_1g_3, a0_1g_4, a0_1g_5, a0_1g_6]))] [(ka0_7_14_2, .int), (ka0_7_14_3, .int)] (fun _ => True))) (va_Qi (fun (r : Int32) (_ : Unit) => True) (fun (_ : Unit) (t : State) => ∃ na0_8 : Int32, ax_B dC dI (va_A [(a0, .inr (7, [a0g_0, .ref a0_1, a0g_2, a0g_3, a0g_4, a0g_5, a0g_6, .ref a0_7, .int a0_8, a0g_9, a0g_10])), (a0_7, .inr (0, [a0_7g_0, a0_7g_1, a0_7g_2, a0_7g_3, a0_7g_4, a0_7g_5, a0_7g_6, a0_7g_7, a0_7g_8, a0_7g_9, a0_7g_10, a0_7g_11, a0_7g_12, a0_7g_13, .ref a0_7_14])), (a0_7_14, .inr (6, [.int a0_7_14_0, a0_7_14g_1, .ref a0_7_14_2, .ref a0_7_14_3])), (a0_7_14_2, .inl (ka0_7_14_2, 3, .inl (fa0_7_14_2))), (a0_7_14_3, .inl (ka0_7_14_3, 3, .inl (fa0_7_14_3))), (a0_1, .inr (5, [.int a0_1_0, a0_1g_1, a0_1g_2, a0_1g_3, a0_1g_4, a0_1g_5, a0_1g_6]))] sz) [(a0, .inr (7, [a0g_0, .ref a0_1, a0g_2, a0g_3, a0g_4, a0g_5, a0g_6, .ref a0_7, .int na0_8, a0g_9, a0g_10])), (a0_7, .inr (0, [a0_7g_0, a0_7g_1, a0_7g_2, a0_7g_3, a0_7g_4, a0_7g_5, a0_7g_6, a0_7g_7, a0_7g_8, a0_7g_9, a0_7g_10, a0_7g_11, a0_7g_12, a0_7g_13, .ref a0_7_14])), (a0_7_14, .inr (6, [.int a0_7_14_0, a0_7_14g_1, .ref a0_7_14_2, .ref a0_7_14_3])), (a0_7_14_2, .inl (ka0_7_14_2, 3, .inl (fa0_7_14_2))), (a0_7_14_3, .inl (ka0_7_14_3, 3, .inl (fa0_7_14_3))), (a0_1, .inr (5, [.int a0_1_0, a0_1g_1, a0_1g_2, a0_1g_3, a0_1g_4, a0_1g_5, a0_1g_6]))] [(ka0_7_14_2, .int), (ka0_7_14_3, .int)] t) (va_A [(a0, .inr (7, [a0g_0, .ref a0_1, a0g_2, a0g_3, a0g_4, a0g_5, a0g_6, .ref a0_7, .int a0_8, a0g_9, a0g_10])), (a0_7, .inr (0, [a0_7g_0, a0_7g_1, a0_7g_2, a0_7g_3, a0_7g_4, a0_7g_5, a0_7g_6, a0_7g_7, a0_7g_8, a0_7g_9, a0_7g_10, a0_7g_11, a0_7g_12, a0_7g_13, .ref a0_7_14])), (a0_7_14, .inr (6, [.int a0_7_14_0, a0_7_14g_1, .ref a0_7_14_2, .ref a0_7_14_3])), (a0_7_14_2, .inl (ka0_7_14_2, 3, .inl (fa0_7_14_2))), (a0_7_14_3, .inl (ka0_7_14_3, 3, .inl (fa0_7_14_3))), (a0_1, .inr (5, [.int a0_1_0, a0_1g_1, a0_1g_2, a0_1g_3, a0_1g_4, a0_1g_5, a0_1g_6]))] sz)) 0 0 (va_A [(a0, .inr (7, [a0g_0, .ref a0_1, a0g_2, a0g_3, a0g_4, a0g_5, a0g_6, .ref a0_7, .int a0_8, a0g_9, a0g_10])), (a0_7, .inr (0, [a0_7g_0, a0_7g_1, a0_7g_2, a0_7g_3, a0_7g_4, a0_7g_5, a0_7g_6, a0_7g_7, a0_7g_8, a0_7g_9, a0_7g_10, a0_7g_11, a0_7g_12, a0_7g_13, .ref a0_7_14])), (a0_7_14, .inr (6, [.int a0_7_14_0, a0_7_14g_1, .ref a0_7_14_2, .ref a0_7_14_3])), (a0_7_14_2, .inl (ka0_7_14_2, 3, .inl (fa0_7_14_2))), (a0_7_14_3, .inl (ka0_7_14_3, 3, .inl (fa0_7_14_3))), (a0_1, .inr (5, [.int a0_1_0, a0_1g_1, a0_1g_2, a0_1g_3, a0_1g_4, a0_1g_5, a0_1g_6]))] sz) := by
  refine Met.ofW (cc := cX7_watcher) (maxL := 3) (ret := (some .int)) (by decide) rfl ?_
  intro p e s m args below meth c s₁ B hml hv
  obtain ⟨rfl, hsz, hP, hK, hD0, hE⟩ := hv
  have hx := B.exec
  have hb := B.bytes
  have hr := B.returns
  have hts := atoms_spec (ws := wsX7_watcher) B.pre
  have hown : s.vm.findClass RX7 = some m.cls := findClass_of_methodNamed B.named
  have hlocks := B.notSynchronized
  subst hsz
  have hD := hD0.self (sz := s.heap.size)
  generalize hAe : va_A [(a0, .inr (7, [a0g_0, .ref a0_1, a0g_2, a0g_3, a0g_4, a0g_5, a0g_6, .ref a0_7, .int a0_8, a0g_9, a0g_10])), (a0_7, .inr (0, [a0_7g_0, a0_7g_1, a0_7g_2, a0_7g_3, a0_7g_4, a0_7g_5, a0_7g_6, a0_7g_7, a0_7g_8, a0_7g_9, a0_7g_10, a0_7g_11, a0_7g_12, a0_7g_13, .ref a0_7_14])), (a0_7_14, .inr (6, [.int a0_7_14_0, a0_7_14g_1, .ref a0_7_14_2, .ref a0_7_14_3])), (a0_7_14_2, .inl (ka0_7_14_2, 3, .inl (fa0_7_14_2))), (a0_7_14_3, .inl (ka0_7_14_3, 3, .inl (fa0_7_14_3))), (a0_1, .inr (5, [.int a0_1_0, a0_1g_1, a0_1g_2, a0_1g_3, a0_1g_4, a0_1g_5, a0_1g_6]))] s.heap.size = A at hD ⊢
  have hA : ∀ q : Nat, s.heap.size ≤ q → A q := fun q h => by rw [← hAe]; exact Or.inr h
  have hS : va_S A s.heap s.heap [] := va_S.rf
  have hP : va_P (dC, dI) vwCl [(a0, .inr (7, [a0g_0, .ref a0_1, a0g_2, a0g_3, a0g_4, a0g_5, a0g_6, .ref a0_7, .int a0_8, a0g_9, a0g_10])), (a0_7, .inr (0, [a0_7g_0, a0_7g_1, a0_7g_2, a0_7g_3, a0_7g_4, a0_7g_5, a0_7g_6, a0_7g_7, a0_7g_8, a0_7g_9, a0_7g_10, a0_7g_11, a0_7g_12, a0_7g_13, .ref a0_7_14])), (a0_7_14, .inr (6, [.int a0_7_14_0, a0_7_14g_1, .ref a0_7_14_2, .ref a0_7_14_3])), (a0_7_14_2, .inl (ka0_7_14_2, 3, .inl (fa0_7_14_2))), (a0_7_14_3, .inl (ka0_7_14_3, 3, .inl (fa0_7_14_3))), (a0_1, .inr (5, [.int a0_1_0, a0_1g_1, a0_1g_2, a0_1g_3, a0_1g_4, a0_1g_5, a0_1g_6]))] s.heap := hP
  have hl := lv_entry ([.ref a0, .int a1, .int a2]) (n := 3) (Nat.le_of_ble_eq_true rfl)
  rw [lg_entry_eq]
  generalize (lg_sl ([.ref a0, .int a1, .int a2]) ++ List.replicate (3 - (lg_sl ([.ref a0, .int a1, .int a2])).length) Slot.unset).toArray = ls at hl ⊢
  have hl : lv_has ls 3 [(0, .ref a0), (1, .int a1), (2, .int a2)] := hl
  refine lv_aload_n hx hb dX7_watcher_0 rfl (lv_at hl 0 rfl) ?_
  refine lv_iload_n hx hb dX7_watcher_1 rfl (lv_at hl 1 rfl) ?_
  obtain ⟨hPc, hDc, hFc, hCc⟩ := zc_cut (wc := [(a0, .inr (7, [a0g_0, .ref a0_1, a0g_2, a0g_3, a0g_4, a0g_5, a0g_6, .ref a0_7, .int a0_8, a0g_9, a0g_10])), (a0_7, .inr (0, [a0_7g_0, a0_7g_1, a0_7g_2, a0_7g_3, a0_7g_4, a0_7g_5, a0_7g_6, a0_7g_7, a0_7g_8, a0_7g_9, a0_7g_10, a0_7g_11, a0_7g_12, a0_7g_13, .ref a0_7_14])), (a0_7_14, .inr (6, [.int a0_7_14_0, a0_7_14g_1, .ref a0_7_14_2, .ref a0_7_14_3]))]) hP hD hS hA [0, 1, 2] (by decide +kernel) rfl
  have hKc := hK.sub (tys' := []) [] rfl
  refine va_calli (va_runV (As := [.int a1]) (rest := []) ⟨hx, hb, hml, hown, hts⟩ (c_X7_isWatcher l dC dI s.heap.size a0 a1 a0g_0 (.ref a0_1) a0g_2 a0g_3 a0g_4 a0g_5 a0g_6 (.int a0_8) a0g_9 a0g_10 a0_7 a0_7g_0 a0_7g_1 a0_7g_2 a0_7g_3 a0_7g_4 a0_7g_5 a0_7g_6 a0_7g_7 a0_7g_8 a0_7g_9 a0_7g_10 a0_7g_11 a0_7g_12 a0_7g_13 a0_7_14 a0_7_14_0 a0_7_14g_1 (.ref a0_7_14_2) (.ref a0_7_14_3) ba0_7_14_0_l ba0_7_14_0_u) (cwV 1 hts gX7_watcher_X7_isWatcher rfl rfl rfl zd_X7_isWatcher ⟨Nat.le_of_ble_eq_true rfl, Nat.le_of_ble_eq_true rfl⟩) ⟨ax_blind (fun _ _ _ _ _ => trivial), zr_7 hKc hPc (q0 := 0) rfl, ax_pre hPc hKc hDc (fun _ _ => trivial)⟩ rfl rfl hl.1 rfl (lv_room (Nat.le_of_ble_eq_true rfl)) dX7_watcher_2 ⟨Nat.le_of_ble_eq_true rfl, Nat.le_of_ble_eq_true rfl⟩) hS (fun q _ h => hFc q h) hFc (fun r2 u t H locs ht hvm hw hB hz1 hk1 hS => ?_)
  obtain ⟨hP1, hK1, hD1⟩ := hB
  rw [ht] at hP1
  obtain ⟨hP, hD⟩ := zc_back (w := [(a0, .inr (7, [a0g_0, .ref a0_1, a0g_2, a0g_3, a0g_4, a0g_5, a0g_6, .ref a0_7, .int a0_8, a0g_9, a0g_10])), (a0_7, .inr (0, [a0_7g_0, a0_7g_1, a0_7g_2, a0_7g_3, a0_7g_4, a0_7g_5, a0_7g_6, a0_7g_7, a0_7g_8, a0_7g_9, a0_7g_10, a0_7g_11, a0_7g_12, a0_7g_13, .ref a0_7_14])), (a0_7_14, .inr (6, [.int a0_7_14_0, a0_7_14g_1, .ref a0_7_14_2, .ref a0_7_14_3])), (a0_7_14_2, .inl (ka0_7_14_2, 3, .inl (fa0_7_14_2))), (a0_7_14_3, .inl (ka0_7_14_3, 3, .inl (fa0_7_14_3))), (a0_1, .inr (5, [.int a0_1_0, a0_1g_1, a0_1g_2, a0_1g_3, a0_1g_4, a0_1g_5, a0_1g_6]))]) hP hD hCc hk1 hFc hP1 hD1 [.inr 0, .inr 1, .inr 2, .inl 3, .inl 4, .inl 5] (by decide +kernel) rfl
  rcases hw with hw | hw
  · obtain ⟨hw, h2_0, h2_1, h2_2, h2_3⟩ := hw
    subst hw
    have l2k0_a1 : (0 : Int) ≤ a1.toInt := h2_0
    have u2k0_a1 : a1.toInt ≤ (2 : Int) := h2_1
    have l2k0_a0_7_14_0 : (1 : Int) ≤ a0_7_14_0.toInt := h2_2
    have u2k0_a0_7_14_0 : a0_7_14_0.toInt ≤ (3 : Int) := ba0_7_14_0_u
    refine lv_if_eq (tgt := 17) hx hb dX7_watcher_5 (by decide) (fun c5 => absurd c5 (by decide +kernel)) (fun _ => ?_)
    refine lv_iload_n hx hb dX7_watcher_8 rfl (lv_at hl 2 rfl) ?_
    refine lv_iconst (v := 0) hx hb dX7_watcher_9 zk_iconst_0 ?_
    refine lv_iconst (v := 2) hx hb dX7_watcher_10 zk_iconst_2 ?_
    obtain ⟨hPc, hDc, hFc, hCc⟩ := zc_cut (wc := []) hP hD hS hA [] (by decide +kernel) rfl
    have hKc := hK.sub (tys' := []) [] rfl
    refine va_calli (va_runS (As := [.int a2, .int 0, .int 2]) (rest := []) ⟨hx, hb, hml, hown, hts⟩ (c_X7_within l dC dI H.size a2 0 2 ) (va_cwS 3 hts gX7_watcher_X7_within rfl rfl rfl zd_X7_within.2 ⟨Nat.le_of_ble_eq_true rfl, Nat.le_of_ble_eq_true rfl⟩) ⟨ax_blind (fun _ _ _ _ _ => trivial), ax_pre hPc hKc hDc (fun _ _ => trivial)⟩ rfl rfl hl.1 rfl (lv_room (Nat.le_of_ble_eq_true rfl)) dX7_watcher_11 ⟨Nat.le_of_ble_eq_true rfl, Nat.le_of_ble_eq_true rfl⟩) hS (fun q _ h => hFc q h) hFc (fun r11 u t H locs ht hvm hw hB hz1 hk1 hS => ?_)
    obtain ⟨hP1, hK1, hD1⟩ := hB
    rw [ht] at hP1
    obtain ⟨hP, hD⟩ := zc_back (w := [(a0, .inr (7, [a0g_0, .ref a0_1, a0g_2, a0g_3, a0g_4, a0g_5, a0g_6, .ref a0_7, .int a0_8, a0g_9, a0g_10])), (a0_7, .inr (0, [a0_7g_0, a0_7g_1, a0_7g_2, a0_7g_3, a0_7g_4, a0_7g_5, a0_7g_6, a0_7g_7, a0_7g_8, a0_7g_9, a0_7g_10, a0_7g_11, a0_7g_12, a0_7g_13, .ref a0_7_14])), (a0_7_14, .inr (6, [.int a0_7_14_0, a0_7_14g_1, .ref a0_7_14_2, .ref a0_7_14_3])), (a0_7_14_2, .inl (ka0_7_14_2, 3, .inl (fa0_7_14_2))), (a0_7_14_3, .inl (ka0_7_14_3, 3, .inl (fa0_7_14_3))), (a0_1, .inr (5, [.int a0_1_0, a0_1g_1, a0_1g_2, a0_1g_3, a0_1g_4, a0_1g_5, a0_1g_6]))]) hP hD hCc hk1 hFc hP1 hD1 [.inl 0, .inl 1, .inl 2, .inl 3, .inl 4, .inl 5] (by decide +kernel) rfl
    rcases hw with hw | hw
    · obtain ⟨hw, h11⟩ := hw
      subst hw
      have l11k0_a2 : (0 : Int) ≤ a2.toInt := Int.le_trans zq5 h11.1
      have u11k0_a2 : a2.toInt ≤ (2 : Int) := Int.le_trans h11.2 zq13
      refine lv_if_ne (tgt := 23) hx hb dX7_watcher_14 (by decide) (fun _ => ?_) (fun c14 => absurd c14 (by decide +kernel))
      refine lv_iload_n hx hb dX7_watcher_23 rfl (lv_at hl 2 rfl) ?_
      have hv24 : a2 = 0 ∨ a2 = 1 ∨ a2 = 2 := by
        have h1 : (0 : Int) ≤ a2.toInt := l11k0_a2
        have h2 : a2.toInt ≤ (2 : Int) := u11k0_a2
        rcases (show a2.toInt = 0 ∨ a2.toInt = 1 ∨ a2.toInt = 2 by omega) with h | h | h
        · exact Or.inl (Int32.toInt_inj.mp (h.trans (by decide)))
        · exact Or.inr (Or.inl (Int32.toInt_inj.mp (h.trans (by decide))))
        · exact Or.inr (Or.inr (Int32.toInt_inj.mp (h.trans (by decide))))
      rcases hv24 with rfl | rfl | rfl
      · refine lv_lookup (off := 28) (tgt := 52) hx hb dX7_watcher_24 (by decide +kernel) (by decide +kernel) (by decide) ?_
        refine lv_aload_n hx hb dX7_watcher_52 rfl (lv_at hl 0 rfl) ?_
        refine lv_aload_n hx hb dX7_watcher_53 rfl (lv_at hl 0 rfl) ?_
        refine va_get (D := (dC, dI)) (ci := 7) (v := .ref a0_7) (C := RX7) (T := TX7) (N := 11) hx hb hts zi_X7_watcher_7 hown hK hP 0 rfl rfl 7 (by decide) (hts (.fieldLink RX7 57 "WaxTurns" "hall" "LWaxTurns$Hall;") (zm_X7_watcher_r1 (List.mem_of_getElem? (i := 0) rfl))) (fun _ h9 => h9) rfl dX7_watcher_54 ?_
        refine va_get (D := (dC, dI)) (ci := 0) (v := .ref a0_7_14) (C := RX0) (T := TX0) (N := 15) hx hb hts zi_X7_watcher_0 hown hK hP 1 rfl rfl 14 (by decide) (hts (.fieldLink RX7 138 "WaxTurns$Hall" "watchers" "LWaxTurns$Watchers;") (zm_X7_watcher_r1 (List.mem_of_getElem? (i := 1) rfl))) (fun _ h9 => h9) rfl dX7_watcher_57 ?_
        refine va_get (D := (dC, dI)) (ci := 6) (v := .ref a0_7_14_2) (C := RX6) (T := TX6) (N := 4) hx hb hts zi_X7_watcher_6 hown hK hP 2 rfl rfl 2 (by decide) (hts (.fieldLink RX7 141 "WaxTurns$Watchers" "from" "[I") (zm_X7_watcher_r1 (List.mem_of_getElem? (i := 2) rfl))) (fun _ h9 => h9) rfl dX7_watcher_60 ?_
        refine lv_iload_n hx hb dX7_watcher_63 rfl (lv_at hl 1 rfl) ?_
        refine va_iald hx hb hK hP 3 0 rfl rfl (ai_in l2k0_a1 u2k0_a1 (by decide) (by decide)) dX7_watcher_64 ?_
        refine lv_topi (fun x64 ex64 => ?_)
        have bx64 : (0 : Int) ≤ x64.toInt ∧ x64.toInt ≤ 80 := by rw [ex64]; exact bfa0_7_14_2 _
        obtain ⟨hPc, hDc, hFc, hCc⟩ := zc_cut (wc := [(a0, .inr (7, [a0g_0, .ref a0_1, a0g_2, a0g_3, a0g_4, a0g_5, a0g_6, .ref a0_7, .int a0_8, a0g_9, a0g_10]))]) hP hD hS hA [0] (by decide +kernel) rfl
        have hKc := hK.sub (tys' := []) [] rfl
        refine va_calli (va_runV (As := [.int x64]) (rest := []) ⟨hx, hb, hml, hown, hts⟩ (c_X7_answered l dC dI H.size a0 x64 a0g_0 (.ref a0_1) a0g_2 a0g_3 a0g_4 a0g_5 a0g_6 (.ref a0_7) a0g_9 a0g_10 a0_8 ) (cwV 1 hts gX7_watcher_X7_answered rfl rfl rfl zd_X7_answered ⟨Nat.le_of_ble_eq_true rfl, Nat.le_of_ble_eq_true rfl⟩) ⟨ax_blind (fun _ _ _ _ _ => trivial), zr_7 hKc hPc (q0 := 0) rfl, ax_pre hPc hKc hDc (fun _ _ => trivial)⟩ rfl rfl hl.1 rfl (lv_room (Nat.le_of_ble_eq_true rfl)) dX7_watcher_65 ⟨Nat.le_of_ble_eq_true rfl, Nat.le_of_ble_eq_true rfl⟩) hS (fun q _ h => hFc q h) hFc (fun r65 u t H locs ht hvm hw hB hz1 hk1 hS => ?_)
        obtain ⟨v65na0_8, hP1, hK1, hD1⟩ := hB
        rw [ht] at hP1
        obtain ⟨hP, hD⟩ := zc_back (w := [(a0, .inr (7, [a0g_0, .ref a0_1, a0g_2, a0g_3, a0g_4, a0g_5, a0g_6, .ref a0_7, .int v65na0_8, a0g_9, a0g_10])), (a0_7, .inr (0, [a0_7g_0, a0_7g_1, a0_7g_2, a0_7g_3, a0_7g_4, a0_7g_5, a0_7g_6, a0_7g_7, a0_7g_8, a0_7g_9, a0_7g_10, a0_7g_11, a0_7g_12, a0_7g_13, .ref a0_7_14])), (a0_7_14, .inr (6, [.int a0_7_14_0, a0_7_14g_1, .ref a0_7_14_2, .ref a0_7_14_3])), (a0_7_14_2, .inl (ka0_7_14_2, 3, .inl (fa0_7_14_2))), (a0_7_14_3, .inl (ka0_7_14_3, 3, .inl (fa0_7_14_3))), (a0_1, .inr (5, [.int a0_1_0, a0_1g_1, a0_1g_2, a0_1g_3, a0_1g_4, a0_1g_5, a0_1g_6]))]) hP hD hCc hk1 hFc hP1 hD1 [.inr 0, .inl 1, .inl 2, .inl 3, .inl 4, .inl 5] (by decide +kernel) rfl
        have hw : r65 = x64 := hw
        have hw := hw.symm
        subst hw
        exact W.iret (v := x64) hx hb hr (fun t ht hW => ⟨⟨x64, (), rfl, trivial, v65na0_8, by rw [ht]; exact hP, va_K.moved hW.alike hK, hD⟩, hS.F ht⟩) hS.2.2 dX7_watcher_68
      · refine lv_lookup (off := 45) (tgt := 69) hx hb dX7_watcher_24 (by decide +kernel) (by decide +kernel) (by decide) ?_
        refine lv_aload_n hx hb dX7_watcher_69 rfl (lv_at hl 0 rfl) ?_
        refine lv_aload_n hx hb dX7_watcher_70 rfl (lv_at hl 0 rfl) ?_
        refine va_get (D := (dC, dI)) (ci := 7) (v := .ref a0_7) (C := RX7) (T := TX7) (N := 11) hx hb hts zi_X7_watcher_7 hown hK hP 0 rfl rfl 7 (by decide) (hts (.fieldLink RX7 57 "WaxTurns" "hall" "LWaxTurns$Hall;") (zm_X7_watcher_r1 (List.mem_of_getElem? (i := 0) rfl))) (fun _ h9 => h9) rfl dX7_watcher_71 ?_
        refine va_get (D := (dC, dI)) (ci := 0) (v := .ref a0_7_14) (C := RX0) (T := TX0) (N := 15) hx hb hts zi_X7_watcher_0 hown hK hP 1 rfl rfl 14 (by decide) (hts (.fieldLink RX7 138 "WaxTurns$Hall" "watchers" "LWaxTurns$Watchers;") (zm_X7_watcher_r1 (List.mem_of_getElem? (i := 1) rfl))) (fun _ h9 => h9) rfl dX7_watcher_74 ?_
        refine va_get (D := (dC, dI)) (ci := 6) (v := .ref a0_7_14_3) (C := RX6) (T := TX6) (N := 4) hx hb hts zi_X7_watcher_6 hown hK hP 2 rfl rfl 3 (by decide) (hts (.fieldLink RX7 144 "WaxTurns$Watchers" "to" "[I") (zm_X7_watcher_r1 (List.mem_of_getElem? (i := 3) rfl))) (fun _ h9 => h9) rfl dX7_watcher_77 ?_
        refine lv_iload_n hx hb dX7_watcher_80 rfl (lv_at hl 1 rfl) ?_
        refine va_iald hx hb hK hP 4 1 rfl rfl (ai_in l2k0_a1 u2k0_a1 (by decide) (by decide)) dX7_watcher_81 ?_
        refine lv_topi (fun x81 ex81 => ?_)
        have bx81 : (0 : Int) ≤ x81.toInt ∧ x81.toInt ≤ 80 := by rw [ex81]; exact bfa0_7_14_3 _
        obtain ⟨hPc, hDc, hFc, hCc⟩ := zc_cut (wc := [(a0, .inr (7, [a0g_0, .ref a0_1, a0g_2, a0g_3, a0g_4, a0g_5, a0g_6, .ref a0_7, .int a0_8, a0g_9, a0g_10]))]) hP hD hS hA [0] (by decide +kernel) rfl
        have hKc := hK.sub (tys' := []) [] rfl
        refine va_calli (va_runV (As := [.int x81]) (rest := []) ⟨hx, hb, hml, hown, hts⟩ (c_X7_answered l dC dI H.size a0 x81 a0g_0 (.ref a0_1) a0g_2 a0g_3 a0g_4 a0g_5 a0g_6 (.ref a0_7) a0g_9 a0g_10 a0_8 ) (cwV 1 hts gX7_watcher_X7_answered rfl rfl rfl zd_X7_answered ⟨Nat.le_of_ble_eq_true rfl, Nat.le_of_ble_eq_true rfl⟩) ⟨ax_blind (fun _ _ _ _ _ => trivial), zr_7 hKc hPc (q0 := 0) rfl, ax_pre hPc hKc hDc (fun _ _ => trivial)⟩ rfl rfl hl.1 rfl (lv_room (Nat.le_of_ble_eq_true rfl)) dX7_watcher_82 ⟨Nat.le_of_ble_eq_true rfl, Nat.le_of_ble_eq_true rfl⟩) hS (fun q _ h => hFc q h) hFc (fun r82 u t H locs ht hvm hw hB hz1 hk1 hS => ?_)
        obtain ⟨v82na0_8, hP1, hK1, hD1⟩ := hB
        rw [ht] at hP1
        obtain ⟨hP, hD⟩ := zc_back (w := [(a0, .inr (7, [a0g_0, .ref a0_1, a0g_2, a0g_3, a0g_4, a0g_5, a0g_6, .ref a0_7, .int v82na0_8, a0g_9, a0g_10])), (a0_7, .inr (0, [a0_7g_0, a0_7g_1, a0_7g_2, a0_7g_3, a0_7g_4, a0_7g_5, a0_7g_6, a0_7g_7, a0_7g_8, a0_7g_9, a0_7g_10, a0_7g_11, a0_7g_12, a0_7g_13, .ref a0_7_14])), (a0_7_14, .inr (6, [.int a0_7_14_0, a0_7_14g_1, .ref a0_7_14_2, .ref a0_7_14_3])), (a0_7_14_2, .inl (ka0_7_14_2, 3, .inl (fa0_7_14_2))), (a0_7_14_3, .inl (ka0_7_14_3, 3, .inl (fa0_7_14_3))), (a0_1, .inr (5, [.int a0_1_0, a0_1g_1, a0_1g_2, a0_1g_3, a0_1g_4, a0_1g_5, a0_1g_6]))]) hP hD hCc hk1 hFc hP1 hD1 [.inr 0, .inl 1, .inl 2, .inl 3, .inl 4, .inl 5] (by decide +kernel) rfl
        have hw : r82 = x81 := hw
        have hw := hw.symm
        subst hw
        exact W.iret (v := x81) hx hb hr (fun t ht hW => ⟨⟨x81, (), rfl, trivial, v82na0_8, by rw [ht]; exact hP, va_K.moved hW.alike hK, hD⟩, hS.F ht⟩) hS.2.2 dX7_watcher_85
      · refine lv_lookup (off := 62) (tgt := 86) hx hb dX7_watcher_24 (by decide +kernel) (by decide +kernel) (by decide) ?_
        refine lv_aload_n hx hb dX7_watcher_86 rfl (lv_at hl 0 rfl) ?_
        refine lv_aload_n hx hb dX7_watcher_87 rfl (lv_at hl 0 rfl) ?_
        refine va_get (D := (dC, dI)) (ci := 7) (v := .ref a0_7) (C := RX7) (T := TX7) (N := 11) hx hb hts zi_X7_watcher_7 hown hK hP 0 rfl rfl 7 (by decide) (hts (.fieldLink RX7 57 "WaxTurns" "hall" "LWaxTurns$Hall;") (zm_X7_watcher_r1 (List.mem_of_getElem? (i := 0) rfl))) (fun _ h9 => h9) rfl dX7_watcher_88 ?_
        refine va_get (D := (dC, dI)) (ci := 0) (v := .ref a0_7_14) (C := RX0) (T := TX0) (N := 15) hx hb hts zi_X7_watcher_0 hown hK hP 1 rfl rfl 14 (by decide) (hts (.fieldLink RX7 138 "WaxTurns$Hall" "watchers" "LWaxTurns$Watchers;") (zm_X7_watcher_r1 (List.mem_of_getElem? (i := 1) rfl))) (fun _ h9 => h9) rfl dX7_watcher_91 ?_
        refine lv_iload_n hx hb dX7_watcher_94 rfl (lv_at hl 1 rfl) ?_
        refine lv_aload_n hx hb dX7_watcher_95 rfl (lv_at hl 0 rfl) ?_
        refine va_get (D := (dC, dI)) (ci := 7) (v := .ref a0_1) (C := RX7) (T := TX7) (N := 11) hx hb hts zi_X7_watcher_7 hown hK hP 0 rfl rfl 1 (by decide) (hts (.fieldLink RX7 19 "WaxTurns" "now" "LWaxTurns$Scene;") (zm_X7_watcher_r1 (List.mem_of_getElem? (i := 4) rfl))) (fun _ h9 => h9) rfl dX7_watcher_96 ?_
        refine va_get (D := (dC, dI)) (ci := 5) (v := .int a0_1_0) (C := RX5) (T := TX5) (N := 7) hx hb hts zi_X7_watcher_5 hown hK hP 5 rfl rfl 0 (by decide) (hts (.fieldLink RX7 147 "WaxTurns$Scene" "minute" "I") (zm_X7_watcher_r1 (List.mem_of_getElem? (i := 5) rfl))) (fun _ h9 => h9) rfl dX7_watcher_99 ?_
        obtain ⟨hPc, hDc, hFc, hCc⟩ := zc_cut (wc := [(a0_7_14, .inr (6, [.int a0_7_14_0, a0_7_14g_1, .ref a0_7_14_2, .ref a0_7_14_3])), (a0_7_14_3, .inl (ka0_7_14_3, 3, .inl (fa0_7_14_3))), (a0_7_14_2, .inl (ka0_7_14_2, 3, .inl (fa0_7_14_2)))]) hP hD hS hA [2, 4, 3] (by decide +kernel) rfl
        have hKc := hK.sub (tys' := [(ka0_7_14_3, .int), (ka0_7_14_2, .int)]) [1, 0] rfl
        refine va_calli (va_runV (As := [.int a1, .int a0_1_0]) (rest := [.ref a0]) ⟨hx, hb, hml, hown, hts⟩ (c_X6_placeOf l dC dI H.size a0_7_14 a1 a0_1_0 (.int a0_7_14_0) a0_7_14g_1 a0_7_14_2 a0_7_14_3 ka0_7_14_3 fa0_7_14_3 ka0_7_14_2 fa0_7_14_2 l2k0_a1 u2k0_a1 bfa0_7_14_3 bfa0_7_14_2) (cwV 2 hts gX7_watcher_X6_placeOf rfl rfl rfl zd_X6_placeOf ⟨Nat.le_of_ble_eq_true rfl, Nat.le_of_ble_eq_true rfl⟩) ⟨ax_blind (fun _ _ _ _ _ => trivial), zr_6 hKc hPc (q0 := 0) rfl, ax_pre hPc hKc hDc (fun _ _ => trivial)⟩ rfl rfl hl.1 rfl (lv_room (Nat.le_of_ble_eq_true rfl)) dX7_watcher_102 ⟨Nat.le_of_ble_eq_true rfl, Nat.le_of_ble_eq_true rfl⟩) hS (fun q _ h => hFc q h) hFc (fun r102 u t H locs ht hvm hw hB hz1 hk1 hS => ?_)
        obtain ⟨hP1, hK1, hD1⟩ := hB
        rw [ht] at hP1
        obtain ⟨hP, hD⟩ := zc_back (w := [(a0, .inr (7, [a0g_0, .ref a0_1, a0g_2, a0g_3, a0g_4, a0g_5, a0g_6, .ref a0_7, .int a0_8, a0g_9, a0g_10])), (a0_7, .inr (0, [a0_7g_0, a0_7g_1, a0_7g_2, a0_7g_3, a0_7g_4, a0_7g_5, a0_7g_6, a0_7g_7, a0_7g_8, a0_7g_9, a0_7g_10, a0_7g_11, a0_7g_12, a0_7g_13, .ref a0_7_14])), (a0_7_14, .inr (6, [.int a0_7_14_0, a0_7_14g_1, .ref a0_7_14_2, .ref a0_7_14_3])), (a0_7_14_2, .inl (ka0_7_14_2, 3, .inl (fa0_7_14_2))), (a0_7_14_3, .inl (ka0_7_14_3, 3, .inl (fa0_7_14_3))), (a0_1, .inr (5, [.int a0_1_0, a0_1g_1, a0_1g_2, a0_1g_3, a0_1g_4, a0_1g_5, a0_1g_6]))]) hP hD hCc hk1 hFc hP1 hD1 [.inl 0, .inl 1, .inr 0, .inr 2, .inr 1, .inl 5] (by decide +kernel) rfl
        obtain ⟨hPc, hDc, hFc, hCc⟩ := zc_cut (wc := [(a0, .inr (7, [a0g_0, .ref a0_1, a0g_2, a0g_3, a0g_4, a0g_5, a0g_6, .ref a0_7, .int a0_8, a0g_9, a0g_10]))]) hP hD hS hA [0] (by decide +kernel) rfl
        have hKc := hK.sub (tys' := []) [] rfl
        refine va_calli (va_runV (As := [.int r102]) (rest := []) ⟨hx, hb, hml, hown, hts⟩ (c_X7_answered l dC dI H.size a0 r102 a0g_0 (.ref a0_1) a0g_2 a0g_3 a0g_4 a0g_5 a0g_6 (.ref a0_7) a0g_9 a0g_10 a0_8 ) (cwV 1 hts gX7_watcher_X7_answered rfl rfl rfl zd_X7_answered ⟨Nat.le_of_ble_eq_true rfl, Nat.le_of_ble_eq_true rfl⟩) ⟨ax_blind (fun _ _ _ _ _ => trivial), zr_7 hKc hPc (q0 := 0) rfl, ax_pre hPc hKc hDc (fun _ _ => trivial)⟩ rfl rfl hl.1 rfl (lv_room (Nat.le_of_ble_eq_true rfl)) dX7_watcher_105 ⟨Nat.le_of_ble_eq_true rfl, Nat.le_of_ble_eq_true rfl⟩) hS (fun q _ h => hFc q h) hFc (fun r105 u t H locs ht hvm hw hB hz1 hk1 hS => ?_)
        obtain ⟨v105na0_8, hP1, hK1, hD1⟩ := hB
        rw [ht] at hP1
        obtain ⟨hP, hD⟩ := zc_back (w := [(a0, .inr (7, [a0g_0, .ref a0_1, a0g_2, a0g_3, a0g_4, a0g_5, a0g_6, .ref a0_7, .int v105na0_8, a0g_9, a0g_10])), (a0_7, .inr (0, [a0_7g_0, a0_7g_1, a0_7g_2, a0_7g_3, a0_7g_4, a0_7g_5, a0_7g_6, a0_7g_7, a0_7g_8, a0_7g_9, a0_7g_10, a0_7g_11, a0_7g_12, a0_7g_13, .ref a0_7_14])), (a0_7_14, .inr (6, [.int a0_7_14_0, a0_7_14g_1, .ref a0_7_14_2, .ref a0_7_14_3])), (a0_7_14_2, .inl (ka0_7_14_2, 3, .inl (fa0_7_14_2))), (a0_7_14_3, .inl (ka0_7_14_3, 3, .inl (fa0_7_14_3))), (a0_1, .inr (5, [.int a0_1_0, a0_1g_1, a0_1g_2, a0_1g_3, a0_1g_4, a0_1g_5, a0_1g_6]))]) hP hD hCc hk1 hFc hP1 hD1 [.inr 0, .inl 1, .inl 2, .inl 3, .inl 4, .inl 5] (by decide +kernel) rfl
        have hw : r105 = r102 := hw
        have hw := hw.symm
        subst hw
        exact W.iret (v := r102) hx hb hr (fun t ht hW => ⟨⟨r102, (), rfl, trivial, v105na0_8, by rw [ht]; exact hP, va_K.moved hW.alike hK, hD⟩, hS.F ht⟩) hS.2.2 dX7_watcher_108
    · obtain ⟨hw, h11⟩ := hw
      subst hw
      refine lv_if_ne (tgt := 23) hx hb dX7_watcher_14 (by decide) (fun c14 => absurd (by decide +kernel) c14) (fun _ => ?_)
      refine lv_aload_n hx hb dX7_watcher_17 rfl (lv_at hl 0 rfl) ?_
      refine lv_iconst (v := 1) hx hb dX7_watcher_18 zk_iconst_1 ?_
      obtain ⟨hPc, hDc, hFc, hCc⟩ := zc_cut (wc := [(a0, .inr (7, [a0g_0, .ref a0_1, a0g_2, a0g_3, a0g_4, a0g_5, a0g_6, .ref a0_7, .int a0_8, a0g_9, a0g_10]))]) hP hD hS hA [0] (by decide +kernel) rfl
      have hKc := hK.sub (tys' := []) [] rfl
      refine va_calli (va_runV (As := [.int 1]) (rest := []) ⟨hx, hb, hml, hown, hts⟩ (c_X7_refused l dC dI H.size a0 1 a0g_0 (.ref a0_1) a0g_2 a0g_3 a0g_4 a0g_5 a0g_6 (.ref a0_7) a0g_9 a0g_10 a0_8 ) (cwV 1 hts gX7_watcher_X7_refused rfl rfl rfl zd_X7_refused ⟨Nat.le_of_ble_eq_true rfl, Nat.le_of_ble_eq_true rfl⟩) ⟨ax_blind (fun _ _ _ _ _ => trivial), zr_7 hKc hPc (q0 := 0) rfl, ax_pre hPc hKc hDc (fun _ _ => trivial)⟩ rfl rfl hl.1 rfl (lv_room (Nat.le_of_ble_eq_true rfl)) dX7_watcher_19 ⟨Nat.le_of_ble_eq_true rfl, Nat.le_of_ble_eq_true rfl⟩) hS (fun q _ h => hFc q h) hFc (fun r19 u t H locs ht hvm hw hB hz1 hk1 hS => ?_)
      obtain ⟨v19na0_8, hP1, hK1, hD1⟩ := hB
      rw [ht] at hP1
      obtain ⟨hP, hD⟩ := zc_back (w := [(a0, .inr (7, [a0g_0, .ref a0_1, a0g_2, a0g_3, a0g_4, a0g_5, a0g_6, .ref a0_7, .int v19na0_8, a0g_9, a0g_10])), (a0_7, .inr (0, [a0_7g_0, a0_7g_1, a0_7g_2, a0_7g_3, a0_7g_4, a0_7g_5, a0_7g_6, a0_7g_7, a0_7g_8, a0_7g_9, a0_7g_10, a0_7g_11, a0_7g_12, a0_7g_13, .ref a0_7_14])), (a0_7_14, .inr (6, [.int a0_7_14_0, a0_7_14g_1, .ref a0_7_14_2, .ref a0_7_14_3])), (a0_7_14_2, .inl (ka0_7_14_2, 3, .inl (fa0_7_14_2))), (a0_7_14_3, .inl (ka0_7_14_3, 3, .inl (fa0_7_14_3))), (a0_1, .inr (5, [.int a0_1_0, a0_1g_1, a0_1g_2, a0_1g_3, a0_1g_4, a0_1g_5, a0_1g_6]))]) hP hD hCc hk1 hFc hP1 hD1 [.inr 0, .inl 1, .inl 2, .inl 3, .inl 4, .inl 5] (by decide +kernel) rfl
      have hw : r19 = (-1) := hw
      have hw := hw.symm
      subst hw
      exact W.iret (v := (-1)) hx hb hr (fun t ht hW => ⟨⟨(-1), (), rfl, trivial, v19na0_8, by rw [ht]; exact hP, va_K.moved hW.alike hK, hD⟩, hS.F ht⟩) hS.2.2 dX7_watcher_22
  · subst hw
    refine lv_if_eq (tgt := 17) hx hb dX7_watcher_5 (by decide) (fun _ => ?_) (fun c5 => absurd (by decide +kernel) c5)
    refine lv_aload_n hx hb dX7_watcher_17 rfl (lv_at hl 0 rfl) ?_
    refine lv_iconst (v := 1) hx hb dX7_watcher_18 zk_iconst_1 ?_
    obtain ⟨hPc, hDc, hFc, hCc⟩ := zc_cut (wc := [(a0, .inr (7, [a0g_0, .ref a0_1, a0g_2, a0g_3, a0g_4, a0g_5, a0g_6, .ref a0_7, .int a0_8, a0g_9, a0g_10]))]) hP hD hS hA [0] (by decide +kernel) rfl
    have hKc := hK.sub (tys' := []) [] rfl
    refine va_calli (va_runV (As := [.int 1]) (rest := []) ⟨hx, hb, hml, hown, hts⟩ (c_X7_refused l dC dI H.size a0 1 a0g_0 (.ref a0_1) a0g_2 a0g_3 a0g_4 a0g_5 a0g_6 (.ref a0_7) a0g_9 a0g_10 a0_8 ) (cwV 1 hts gX7_watcher_X7_refused rfl rfl rfl zd_X7_refused ⟨Nat.le_of_ble_eq_true rfl, Nat.le_of_ble_eq_true rfl⟩) ⟨ax_blind (fun _ _ _ _ _ => trivial), zr_7 hKc hPc (q0 := 0) rfl, ax_pre hPc hKc hDc (fun _ _ => trivial)⟩ rfl rfl hl.1 rfl (lv_room (Nat.le_of_ble_eq_true rfl)) dX7_watcher_19 ⟨Nat.le_of_ble_eq_true rfl, Nat.le_of_ble_eq_true rfl⟩) hS (fun q _ h => hFc q h) hFc (fun r19 u t H locs ht hvm hw hB hz1 hk1 hS => ?_)
    obtain ⟨v19na0_8, hP1, hK1, hD1⟩ := hB
    rw [ht] at hP1
    obtain ⟨hP, hD⟩ := zc_back (w := [(a0, .inr (7, [a0g_0, .ref a0_1, a0g_2, a0g_3, a0g_4, a0g_5, a0g_6, .ref a0_7, .int v19na0_8, a0g_9, a0g_10])), (a0_7, .inr (0, [a0_7g_0, a0_7g_1, a0_7g_2, a0_7g_3, a0_7g_4, a0_7g_5, a0_7g_6, a0_7g_7, a0_7g_8, a0_7g_9, a0_7g_10, a0_7g_11, a0_7g_12, a0_7g_13, .ref a0_7_14])), (a0_7_14, .inr (6, [.int a0_7_14_0, a0_7_14g_1, .ref a0_7_14_2, .ref a0_7_14_3])), (a0_7_14_2, .inl (ka0_7_14_2, 3, .inl (fa0_7_14_2))), (a0_7_14_3, .inl (ka0_7_14_3, 3, .inl (fa0_7_14_3))), (a0_1, .inr (5, [.int a0_1_0, a0_1g_1, a0_1g_2, a0_1g_3, a0_1g_4, a0_1g_5, a0_1g_6]))]) hP hD hCc hk1 hFc hP1 hD1 [.inr 0, .inl 1, .inl 2, .inl 3, .inl 4, .inl 5] (by decide +kernel) rfl
    have hw : r19 = (-1) := hw
    have hw := hw.symm
    subst hw
    exact W.iret (v := (-1)) hx hb hr (fun t ht hW => ⟨⟨(-1), (), rfl, trivial, v19na0_8, by rw [ht]; exact hP, va_K.moved hW.alike hK, hD⟩, hS.F ht⟩) hS.2.2 dX7_watcher_22
end P108_safe
section P109_safe
set_option maxHeartbeats 4000000 in
set_option maxRecDepth 100000 in
theorem c_X7_alive (l : Launch) (dC : Nat → ClassId) (dI : Nat → Nat → Nat) (sz : Nat) (a0 : Nat) (a0g_0 a0g_2 a0g_3 a0g_4 a0g_5 a0g_6 a0g_9 a0g_10 : Value) (a0_1 : Nat) (a0_7 : Nat) (a0_8 : Int32) (a0_7_0 : Int32) (a0_7g_1 a0_7g_2 a0_7g_3 a0_7g_4 a0_7g_5 a0_7g_6 a0_7g_7 a0_7g_8 a0_7g_9 a0_7g_10 a0_7g_11 a0_7g_12 a0_7g_13 a0_7g_14 : Value) (a0_1g_0 a0_1g_2 a0_1g_3 a0_1g_4 a0_1g_5 a0_1g_6 : Value) (a0_1_1 : Int32) (ba0_7_0_l : (0 : Int) ≤ a0_7_0.toInt) (ba0_7_0_u : a0_7_0.toInt ≤ (9 : Int)) (ba0_1_1_l : (0 : Int) ≤ a0_1_1.toInt) (ba0_1_1_u : a0_1_1.toInt ≤ (8 : Int)) : Met l yX7_alive wsX7_alive ({ frames := 1, cells := 0, slots := 0, locals := 21 }) (va_Pc [.ref a0] (ax_C dC dI sz [(a0, .inr (7, [a0g_0, .ref a0_1, a0g_2, a0g_3, a0g_4, a0g_5, a0g_6, .ref a0_7, .int a0_8, a0g_9, a0g_10])), (a0_7, .inr (0, [.int a0_7_0, a0_7g_1, a0_7g_2, a0_7g_3, a0_7g_4, a0_7g_5, a0_7g_6, a0_7g_7, a0_7g_8, a0_7g_9, a0_7g_10, a0_7g_11, a0_7g_12, a0_7g_13, a0_7g_14])), (a0_1, .inr (5, [a0_1g_0, .int a0_1_1, a0_1g_2, a0_1g_3, a0_1g_4, a0_1g_5, a0_1g_6]))] [] (fun _ => True))) (va_Qi (fun (r : Int32) (_ : Unit) => (-1 : Int) ≤ r.toInt ∧ r.toInt ≤ (8 : Int)) (fun (_ : Unit) (t : State) => ∃ na0_8 : Int32, ax_B dC dI (va_A [(a0, .inr (7, [a0g_0, .ref a0_1, a0g_2, a0g_3, a0g_4, a0g_5, a0g_6, .ref a0_7, .int a0_8, a0g_9, a0g_10])), (a0_7, .inr (0, [.int a0_7_0, a0_7g_1, a0_7g_2, a0_7g_3, a0_7g_4, a0_7g_5, a0_7g_6, a0_7g_7, a0_7g_8, a0_7g_9, a0_7g_10, a0_7g_11, a0_7g_12, a0_7g_13, a0_7g_14])), (a0_1, .inr (5, [a0_1g_0, .int a0_1_1, a0_1g_2, a0_1g_3, a0_1g_4, a0_1g_5, a0_1g_6]))] sz) [(a0, .inr (7, [a0g_0, .ref a0_1, a0g_2, a0g_3, a0g_4, a0g_5, a0g_6, .ref a0_7, .int na0_8, a0g_9, a0g_10])), (a0_7, .inr (0, [.int a0_7_0, a0_7g_1, a0_7g_2, a0_7g_3, a0_7g_4, a0_7g_5, a0_7g_6, a0_7g_7, a0_7g_8, a0_7g_9, a0_7g_10, a0_7g_11, a0_7g_12, a0_7g_13, a0_7g_14])), (a0_1, .inr (5, [a0_1g_0, .int a0_1_1, a0_1g_2, a0_1g_3, a0_1g_4, a0_1g_5, a0_1g_6]))] [] t) (va_A [(a0, .inr (7, [a0g_0, .ref a0_1, a0g_2, a0g_3, a0g_4, a0g_5, a0g_6, .ref a0_7, .int a0_8, a0g_9, a0g_10])), (a0_7, .inr (0, [.int a0_7_0, a0_7g_1, a0_7g_2, a0_7g_3, a0_7g_4, a0_7g_5, a0_7g_6, a0_7g_7, a0_7g_8, a0_7g_9, a0_7g_10, a0_7g_11, a0_7g_12, a0_7g_13, a0_7g_14])), (a0_1, .inr (5, [a0_1g_0, .int a0_1_1, a0_1g_2, a0_1g_3, a0_1g_4, a0_1g_5, a0_1g_6]))] sz)) 0 0 (va_A [(a0, .inr (7, [a0g_0, .ref a0_1, a0g_2, a0g_3, a0g_4, a0g_5, a0g_6, .ref a0_7, .int a0_8, a0g_9, a0g_10])), (a0_7, .inr (0, [.int a0_7_0, a0_7g_1, a0_7g_2, a0_7g_3, a0_7g_4, a0_7g_5, a0_7g_6, a0_7g_7, a0_7g_8, a0_7g_9, a0_7g_10, a0_7g_11, a0_7g_12, a0_7g_13, a0_7g_14])), (a0_1, .inr (5, [a0_1g_0, .int a0_1_1, a0_1g_2, a0_1g_3, a0_1g_4, a0_1g_5, a0_1g_6]))] sz) := by
  refine Met.ofW (cc := cX7_alive) (maxL := 1) (ret := (some .int)) (by decide) rfl ?_
  intro p e s m args below meth c s₁ B hml hv
  obtain ⟨rfl, hsz, hP, hK, hD0, hE⟩ := hv
  have hx := B.exec
  have hb := B.bytes
  have hr := B.returns
  have hts := atoms_spec (ws := wsX7_alive) B.pre
  have hown : s.vm.findClass RX7 = some m.cls := findClass_of_methodNamed B.named
  have hlocks := B.notSynchronized
  subst hsz
  have hD := hD0.self (sz := s.heap.size)
  generalize hAe : va_A [(a0, .inr (7, [a0g_0, .ref a0_1, a0g_2, a0g_3, a0g_4, a0g_5, a0g_6, .ref a0_7, .int a0_8, a0g_9, a0g_10])), (a0_7, .inr (0, [.int a0_7_0, a0_7g_1, a0_7g_2, a0_7g_3, a0_7g_4, a0_7g_5, a0_7g_6, a0_7g_7, a0_7g_8, a0_7g_9, a0_7g_10, a0_7g_11, a0_7g_12, a0_7g_13, a0_7g_14])), (a0_1, .inr (5, [a0_1g_0, .int a0_1_1, a0_1g_2, a0_1g_3, a0_1g_4, a0_1g_5, a0_1g_6]))] s.heap.size = A at hD ⊢
  have hA : ∀ q : Nat, s.heap.size ≤ q → A q := fun q h => by rw [← hAe]; exact Or.inr h
  have hS : va_S A s.heap s.heap [] := va_S.rf
  have hP : va_P (dC, dI) vwCl [(a0, .inr (7, [a0g_0, .ref a0_1, a0g_2, a0g_3, a0g_4, a0g_5, a0g_6, .ref a0_7, .int a0_8, a0g_9, a0g_10])), (a0_7, .inr (0, [.int a0_7_0, a0_7g_1, a0_7g_2, a0_7g_3, a0_7g_4, a0_7g_5, a0_7g_6, a0_7g_7, a0_7g_8, a0_7g_9, a0_7g_10, a0_7g_11, a0_7g_12, a0_7g_13, a0_7g_14])), (a0_1, .inr (5, [a0_1g_0, .int a0_1_1, a0_1g_2, a0_1g_3, a0_1g_4, a0_1g_5, a0_1g_6]))] s.heap := hP
  have hl := lv_entry ([.ref a0]) (n := 1) (Nat.le_of_ble_eq_true rfl)
  rw [lg_entry_eq]
  generalize (lg_sl ([.ref a0]) ++ List.replicate (1 - (lg_sl ([.ref a0])).length) Slot.unset).toArray = ls at hl ⊢
  have hl : lv_has ls 1 [(0, .ref a0)] := hl
  refine lv_aload_n hx hb dX7_alive_0 rfl (lv_at hl 0 rfl) ?_
  obtain ⟨hPc, hDc, hFc, hCc⟩ := zc_cut (wc := [(a0, .inr (7, [a0g_0, .ref a0_1, a0g_2, a0g_3, a0g_4, a0g_5, a0g_6, .ref a0_7, .int a0_8, a0g_9, a0g_10])), (a0_7, .inr (0, [.int a0_7_0, a0_7g_1, a0_7g_2, a0_7g_3, a0_7g_4, a0_7g_5, a0_7g_6, a0_7g_7, a0_7g_8, a0_7g_9, a0_7g_10, a0_7g_11, a0_7g_12, a0_7g_13, a0_7g_14]))]) hP hD hS hA [0, 1] (by decide +kernel) rfl
  have hKc := hK.sub (tys' := []) [] rfl
  refine va_calli (va_runV (As := []) (rest := []) ⟨hx, hb, hml, hown, hts⟩ (c_X7_hasGallery l dC dI s.heap.size a0 a0g_0 (.ref a0_1) a0g_2 a0g_3 a0g_4 a0g_5 a0g_6 (.int a0_8) a0g_9 a0g_10 a0_7 a0_7_0 a0_7g_1 a0_7g_2 a0_7g_3 a0_7g_4 a0_7g_5 a0_7g_6 a0_7g_7 a0_7g_8 a0_7g_9 a0_7g_10 a0_7g_11 a0_7g_12 a0_7g_13 a0_7g_14 ba0_7_0_l ba0_7_0_u) (cwV 0 hts gX7_alive_X7_hasGallery rfl rfl rfl zd_X7_hasGallery ⟨Nat.le_of_ble_eq_true rfl, Nat.le_of_ble_eq_true rfl⟩) ⟨ax_blind (fun _ _ _ _ _ => trivial), zr_7 hKc hPc (q0 := 0) rfl, ax_pre hPc hKc hDc (fun _ _ => trivial)⟩ rfl rfl hl.1 rfl (lv_room (Nat.le_of_ble_eq_true rfl)) dX7_alive_1 ⟨Nat.le_of_ble_eq_true rfl, Nat.le_of_ble_eq_true rfl⟩) hS (fun q _ h => hFc q h) hFc (fun r1 u t H locs ht hvm hw hB hz1 hk1 hS => ?_)
  obtain ⟨hP1, hK1, hD1⟩ := hB
  rw [ht] at hP1
  obtain ⟨hP, hD⟩ := zc_back (w := [(a0, .inr (7, [a0g_0, .ref a0_1, a0g_2, a0g_3, a0g_4, a0g_5, a0g_6, .ref a0_7, .int a0_8, a0g_9, a0g_10])), (a0_7, .inr (0, [.int a0_7_0, a0_7g_1, a0_7g_2, a0_7g_3, a0_7g_4, a0_7g_5, a0_7g_6, a0_7g_7, a0_7g_8, a0_7g_9, a0_7g_10, a0_7g_11, a0_7g_12, a0_7g_13, a0_7g_14])), (a0_1, .inr (5, [a0_1g_0, .int a0_1_1, a0_1g_2, a0_1g_3, a0_1g_4, a0_1g_5, a0_1g_6]))]) hP hD hCc hk1 hFc hP1 hD1 [.inr 0, .inr 1, .inl 2] (by decide +kernel) rfl
  rcases hw with hw | hw
  · obtain ⟨hw, h1_0, h1_1⟩ := hw
    subst hw
    have l1k0_a0_7_0 : (1 : Int) ≤ a0_7_0.toInt := h1_0
    have u1k0_a0_7_0 : a0_7_0.toInt ≤ (9 : Int) := ba0_7_0_u
    refine lv_if_ne (tgt := 13) hx hb dX7_alive_4 (by decide) (fun _ => ?_) (fun c4 => absurd c4 (by decide +kernel))
    refine lv_aload_n hx hb dX7_alive_13 rfl (lv_at hl 0 rfl) ?_
    refine lv_aload_n hx hb dX7_alive_14 rfl (lv_at hl 0 rfl) ?_
    refine va_get (D := (dC, dI)) (ci := 7) (v := .ref a0_1) (C := RX7) (T := TX7) (N := 11) hx hb hts zi_X7_alive_7 hown hK hP 0 rfl rfl 1 (by decide) (hts (.fieldLink RX7 19 "WaxTurns" "now" "LWaxTurns$Scene;") (List.mem_cons_of_mem _ (List.mem_append_left _ (List.mem_append_left _ (List.mem_append_left _ (List.mem_of_getElem? (i := 0) rfl)))))) (fun _ h9 => h9) rfl dX7_alive_15 ?_
    refine va_get (D := (dC, dI)) (ci := 5) (v := .int a0_1_1) (C := RX5) (T := TX5) (N := 7) hx hb hts zi_X7_alive_5 hown hK hP 2 rfl rfl 1 (by decide) (hts (.fieldLink RX7 158 "WaxTurns$Scene" "turn" "I") (List.mem_cons_of_mem _ (List.mem_append_left _ (List.mem_append_left _ (List.mem_append_left _ (List.mem_of_getElem? (i := 1) rfl)))))) (fun _ h9 => h9) rfl dX7_alive_18 ?_
    obtain ⟨hPc, hDc, hFc, hCc⟩ := zc_cut (wc := [(a0, .inr (7, [a0g_0, .ref a0_1, a0g_2, a0g_3, a0g_4, a0g_5, a0g_6, .ref a0_7, .int a0_8, a0g_9, a0g_10]))]) hP hD hS hA [0] (by decide +kernel) rfl
    have hKc := hK.sub (tys' := []) [] rfl
    refine va_calli (va_runV (As := [.int a0_1_1]) (rest := []) ⟨hx, hb, hml, hown, hts⟩ (c_X7_answered l dC dI H.size a0 a0_1_1 a0g_0 (.ref a0_1) a0g_2 a0g_3 a0g_4 a0g_5 a0g_6 (.ref a0_7) a0g_9 a0g_10 a0_8 ) (cwV 1 hts gX7_alive_X7_answered rfl rfl rfl zd_X7_answered ⟨Nat.le_of_ble_eq_true rfl, Nat.le_of_ble_eq_true rfl⟩) ⟨ax_blind (fun _ _ _ _ _ => trivial), zr_7 hKc hPc (q0 := 0) rfl, ax_pre hPc hKc hDc (fun _ _ => trivial)⟩ rfl rfl hl.1 rfl (lv_room (Nat.le_of_ble_eq_true rfl)) dX7_alive_21 ⟨Nat.le_of_ble_eq_true rfl, Nat.le_of_ble_eq_true rfl⟩) hS (fun q _ h => hFc q h) hFc (fun r21 u t H locs ht hvm hw hB hz1 hk1 hS => ?_)
    obtain ⟨v21na0_8, hP1, hK1, hD1⟩ := hB
    rw [ht] at hP1
    obtain ⟨hP, hD⟩ := zc_back (w := [(a0, .inr (7, [a0g_0, .ref a0_1, a0g_2, a0g_3, a0g_4, a0g_5, a0g_6, .ref a0_7, .int v21na0_8, a0g_9, a0g_10])), (a0_7, .inr (0, [.int a0_7_0, a0_7g_1, a0_7g_2, a0_7g_3, a0_7g_4, a0_7g_5, a0_7g_6, a0_7g_7, a0_7g_8, a0_7g_9, a0_7g_10, a0_7g_11, a0_7g_12, a0_7g_13, a0_7g_14])), (a0_1, .inr (5, [a0_1g_0, .int a0_1_1, a0_1g_2, a0_1g_3, a0_1g_4, a0_1g_5, a0_1g_6]))]) hP hD hCc hk1 hFc hP1 hD1 [.inr 0, .inl 1, .inl 2] (by decide +kernel) rfl
    have hw : r21 = a0_1_1 := hw
    have hw := hw.symm
    subst hw
    exact W.iret (v := a0_1_1) hx hb hr (fun t ht hW => ⟨⟨a0_1_1, (), rfl, ⟨(Int.le_trans zq69 ba0_1_1_l), ba0_1_1_u⟩, v21na0_8, by rw [ht]; exact hP, va_K.moved hW.alike hK, hD⟩, hS.F ht⟩) hS.2.2 dX7_alive_24
  · obtain ⟨hw, h1_0, h1_1⟩ := hw
    subst hw
    have l1k1_a0_7_0 : (0 : Int) ≤ a0_7_0.toInt := ba0_7_0_l
    have u1k1_a0_7_0 : a0_7_0.toInt ≤ (0 : Int) := h1_1
    refine lv_if_ne (tgt := 13) hx hb dX7_alive_4 (by decide) (fun c4 => absurd (by decide +kernel) c4) (fun _ => ?_)
    refine lv_aload_n hx hb dX7_alive_7 rfl (lv_at hl 0 rfl) ?_
    refine lv_iconst (v := 1) hx hb dX7_alive_8 zk_iconst_1 ?_
    obtain ⟨hPc, hDc, hFc, hCc⟩ := zc_cut (wc := [(a0, .inr (7, [a0g_0, .ref a0_1, a0g_2, a0g_3, a0g_4, a0g_5, a0g_6, .ref a0_7, .int a0_8, a0g_9, a0g_10]))]) hP hD hS hA [0] (by decide +kernel) rfl
    have hKc := hK.sub (tys' := []) [] rfl
    refine va_calli (va_runV (As := [.int 1]) (rest := []) ⟨hx, hb, hml, hown, hts⟩ (c_X7_refused l dC dI H.size a0 1 a0g_0 (.ref a0_1) a0g_2 a0g_3 a0g_4 a0g_5 a0g_6 (.ref a0_7) a0g_9 a0g_10 a0_8 ) (cwV 1 hts gX7_alive_X7_refused rfl rfl rfl zd_X7_refused ⟨Nat.le_of_ble_eq_true rfl, Nat.le_of_ble_eq_true rfl⟩) ⟨ax_blind (fun _ _ _ _ _ => trivial), zr_7 hKc hPc (q0 := 0) rfl, ax_pre hPc hKc hDc (fun _ _ => trivial)⟩ rfl rfl hl.1 rfl (lv_room (Nat.le_of_ble_eq_true rfl)) dX7_alive_9 ⟨Nat.le_of_ble_eq_true rfl, Nat.le_of_ble_eq_true rfl⟩) hS (fun q _ h => hFc q h) hFc (fun r9 u t H locs ht hvm hw hB hz1 hk1 hS => ?_)
    obtain ⟨v9na0_8, hP1, hK1, hD1⟩ := hB
    rw [ht] at hP1
    obtain ⟨hP, hD⟩ := zc_back (w := [(a0, .inr (7, [a0g_0, .ref a0_1, a0g_2, a0g_3, a0g_4, a0g_5, a0g_6, .ref a0_7, .int v9na0_8, a0g_9, a0g_10])), (a0_7, .inr (0, [.int a0_7_0, a0_7g_1, a0_7g_2, a0_7g_3, a0_7g_4, a0_7g_5, a0_7g_6, a0_7g_7, a0_7g_8, a0_7g_9, a0_7g_10, a0_7g_11, a0_7g_12, a0_7g_13, a0_7g_14])), (a0_1, .inr (5, [a0_1g_0, .int a0_1_1, a0_1g_2, a0_1g_3, a0_1g_4, a0_1g_5, a0_1g_6]))]) hP hD hCc hk1 hFc hP1 hD1 [.inr 0, .inl 1, .inl 2] (by decide +kernel) rfl
    have hw : r9 = (-1) := hw
    have hw := hw.symm
    subst hw
    exact W.iret (v := (-1)) hx hb hr (fun t ht hW => ⟨⟨(-1), (), rfl, ⟨zq70, (Int.le_trans zq71 zq72)⟩, v9na0_8, by rw [ht]; exact hP, va_K.moved hW.alike hK, hD⟩, hS.F ht⟩) hS.2.2 dX7_alive_12

set_option maxHeartbeats 4000000 in
set_option maxRecDepth 100000 in
theorem c_X7_left (l : Launch) (dC : Nat → ClassId) (dI : Nat → Nat → Nat) (sz : Nat) (a0 : Nat) (a0g_0 a0g_2 a0g_3 a0g_4 a0g_5 a0g_6 a0g_9 a0g_10 : Value) (a0_1 : Nat) (a0_7 : Nat) (a0_8 : Int32) (a0_7_0 : Int32) (a0_7_1 : Int32) (a0_7g_2 a0_7g_3 a0_7g_4 a0_7g_5 a0_7g_6 a0_7g_7 a0_7g_8 a0_7g_9 a0_7g_10 a0_7g_11 a0_7g_12 a0_7g_13 a0_7g_14 : Value) (a0_1g_0 a0_1g_1 a0_1g_3 a0_1g_4 a0_1g_5 a0_1g_6 : Value) (a0_1_2 : Int32) (ba0_7_0_l : (0 : Int) ≤ a0_7_0.toInt) (ba0_7_0_u : a0_7_0.toInt ≤ (9 : Int)) : Met l yX7_left wsX7_left ({ frames := 1, cells := 0, slots := 0, locals := 21 }) (va_Pc [.ref a0] (ax_C dC dI sz [(a0, .inr (7, [a0g_0, .ref a0_1, a0g_2, a0g_3, a0g_4, a0g_5, a0g_6, .ref a0_7, .int a0_8, a0g_9, a0g_10])), (a0_7, .inr (0, [.int a0_7_0, .int a0_7_1, a0_7g_2, a0_7g_3, a0_7g_4, a0_7g_5, a0_7g_6, a0_7g_7, a0_7g_8, a0_7g_9, a0_7g_10, a0_7g_11, a0_7g_12, a0_7g_13, a0_7g_14])), (a0_1, .inr (5, [a0_1g_0, a0_1g_1, .int a0_1_2, a0_1g_3, a0_1g_4, a0_1g_5, a0_1g_6]))] [] (fun _ => True))) (va_Qi (fun (r : Int32) (_ : Unit) => True) (fun (_ : Unit) (t : State) => ∃ na0_8 : Int32, ax_B dC dI (va_A [(a0, .inr (7, [a0g_0, .ref a0_1, a0g_2, a0g_3, a0g_4, a0g_5, a0g_6, .ref a0_7, .int a0_8, a0g_9, a0g_10])), (a0_7, .inr (0, [.int a0_7_0, .int a0_7_1, a0_7g_2, a0_7g_3, a0_7g_4, a0_7g_5, a0_7g_6, a0_7g_7, a0_7g_8, a0_7g_9, a0_7g_10, a0_7g_11, a0_7g_12, a0_7g_13, a0_7g_14])), (a0_1, .inr (5, [a0_1g_0, a0_1g_1, .int a0_1_2, a0_1g_3, a0_1g_4, a0_1g_5, a0_1g_6]))] sz) [(a0, .inr (7, [a0g_0, .ref a0_1, a0g_2, a0g_3, a0g_4, a0g_5, a0g_6, .ref a0_7, .int na0_8, a0g_9, a0g_10])), (a0_7, .inr (0, [.int a0_7_0, .int a0_7_1, a0_7g_2, a0_7g_3, a0_7g_4, a0_7g_5, a0_7g_6, a0_7g_7, a0_7g_8, a0_7g_9, a0_7g_10, a0_7g_11, a0_7g_12, a0_7g_13, a0_7g_14])), (a0_1, .inr (5, [a0_1g_0, a0_1g_1, .int a0_1_2, a0_1g_3, a0_1g_4, a0_1g_5, a0_1g_6]))] [] t) (va_A [(a0, .inr (7, [a0g_0, .ref a0_1, a0g_2, a0g_3, a0g_4, a0g_5, a0g_6, .ref a0_7, .int a0_8, a0g_9, a0g_10])), (a0_7, .inr (0, [.int a0_7_0, .int a0_7_1, a0_7g_2, a0_7g_3, a0_7g_4, a0_7g_5, a0_7g_6, a0_7g_7, a0_7g_8, a0_7g_9, a0_7g_10, a0_7g_11, a0_7g_12, a0_7g_13, a0_7g_14])), (a0_1, .inr (5, [a0_1g_0, a0_1g_1, .int a0_1_2, a0_1g_3, a0_1g_4, a0_1g_5, a0_1g_6]))] sz)) 0 0 (va_A [(a0, .inr (7, [a0g_0, .ref a0_1, a0g_2, a0g_3, a0g_4, a0g_5, a0g_6, .ref a0_7, .int a0_8, a0g_9, a0g_10])), (a0_7, .inr (0, [.int a0_7_0, .int a0_7_1, a0_7g_2, a0_7g_3, a0_7g_4, a0_7g_5, a0_7g_6, a0_7g_7, a0_7g_8, a0_7g_9, a0_7g_10, a0_7g_11, a0_7g_12, a0_7g_13, a0_7g_14])), (a0_1, .inr (5, [a0_1g_0, a0_1g_1, .int a0_1_2, a0_1g_3, a0_1g_4, a0_1g_5, a0_1g_6]))] sz) := by
  refine Met.ofW (cc := cX7_left) (maxL := 1) (ret := (some .int)) (by decide) rfl ?_
  intro p e s m args below meth c s₁ B hml hv
  obtain ⟨rfl, hsz, hP, hK, hD0, hE⟩ := hv
  have hx := B.exec
  have hb := B.bytes
  have hr := B.returns
  have hts := atoms_spec (ws := wsX7_left) B.pre
  have hown : s.vm.findClass RX7 = some m.cls := findClass_of_methodNamed B.named
  have hlocks := B.notSynchronized
  subst hsz
  have hD := hD0.self (sz := s.heap.size)
  generalize hAe : va_A [(a0, .inr (7, [a0g_0, .ref a0_1, a0g_2, a0g_3, a0g_4, a0g_5, a0g_6, .ref a0_7, .int a0_8, a0g_9, a0g_10])), (a0_7, .inr (0, [.int a0_7_0, .int a0_7_1, a0_7g_2, a0_7g_3, a0_7g_4, a0_7g_5, a0_7g_6, a0_7g_7, a0_7g_8, a0_7g_9, a0_7g_10, a0_7g_11, a0_7g_12, a0_7g_13, a0_7g_14])), (a0_1, .inr (5, [a0_1g_0, a0_1g_1, .int a0_1_2, a0_1g_3, a0_1g_4, a0_1g_5, a0_1g_6]))] s.heap.size = A at hD ⊢
  have hA : ∀ q : Nat, s.heap.size ≤ q → A q := fun q h => by rw [← hAe]; exact Or.inr h
  have hS : va_S A s.heap s.heap [] := va_S.rf
  have hP : va_P (dC, dI) vwCl [(a0, .inr (7, [a0g_0, .ref a0_1, a0g_2, a0g_3, a0g_4, a0g_5, a0g_6, .ref a0_7, .int a0_8, a0g_9, a0g_10])), (a0_7, .inr (0, [.int a0_7_0, .int a0_7_1, a0_7g_2, a0_7g_3, a0_7g_4, a0_7g_5, a0_7g_6, a0_7g_7, a0_7g_8, a0_7g_9, a0_7g_10, a0_7g_11, a0_7g_12, a0_7g_13, a0_7g_14])), (a0_1, .inr (5, [a0_1g_0, a0_1g_1, .int a0_1_2, a0_1g_3, a0_1g_4, a0_1g_5, a0_1g_6]))] s.heap := hP
  have hl := lv_entry ([.ref a0]) (n := 1) (Nat.le_of_ble_eq_true rfl)
  rw [lg_entry_eq]
  generalize (lg_sl ([.ref a0]) ++ List.replicate (1 - (lg_sl ([.ref a0])).length) Slot.unset).toArray = ls at hl ⊢
  have hl : lv_has ls 1 [(0, .ref a0)] := hl
  refine lv_aload_n hx hb dX7_left_0 rfl (lv_at hl 0 rfl) ?_
  obtain ⟨hPc, hDc, hFc, hCc⟩ := zc_cut (wc := [(a0, .inr (7, [a0g_0, .ref a0_1, a0g_2, a0g_3, a0g_4, a0g_5, a0g_6, .ref a0_7, .int a0_8, a0g_9, a0g_10])), (a0_7, .inr (0, [.int a0_7_0, .int a0_7_1, a0_7g_2, a0_7g_3, a0_7g_4, a0_7g_5, a0_7g_6, a0_7g_7, a0_7g_8, a0_7g_9, a0_7g_10, a0_7g_11, a0_7g_12, a0_7g_13, a0_7g_14]))]) hP hD hS hA [0, 1] (by decide +kernel) rfl
  have hKc := hK.sub (tys' := []) [] rfl
  refine va_calli (va_runV (As := []) (rest := []) ⟨hx, hb, hml, hown, hts⟩ (c_X7_hasGallery l dC dI s.heap.size a0 a0g_0 (.ref a0_1) a0g_2 a0g_3 a0g_4 a0g_5 a0g_6 (.int a0_8) a0g_9 a0g_10 a0_7 a0_7_0 (.int a0_7_1) a0_7g_2 a0_7g_3 a0_7g_4 a0_7g_5 a0_7g_6 a0_7g_7 a0_7g_8 a0_7g_9 a0_7g_10 a0_7g_11 a0_7g_12 a0_7g_13 a0_7g_14 ba0_7_0_l ba0_7_0_u) (cwV 0 hts gX7_left_X7_hasGallery rfl rfl rfl zd_X7_hasGallery ⟨Nat.le_of_ble_eq_true rfl, Nat.le_of_ble_eq_true rfl⟩) ⟨ax_blind (fun _ _ _ _ _ => trivial), zr_7 hKc hPc (q0 := 0) rfl, ax_pre hPc hKc hDc (fun _ _ => trivial)⟩ rfl rfl hl.1 rfl (lv_room (Nat.le_of_ble_eq_true rfl)) dX7_left_1 ⟨Nat.le_of_ble_eq_true rfl, Nat.le_of_ble_eq_true rfl⟩) hS (fun q _ h => hFc q h) hFc (fun r1 u t H locs ht hvm hw hB hz1 hk1 hS => ?_)
  obtain ⟨hP1, hK1, hD1⟩ := hB
  rw [ht] at hP1
  obtain ⟨hP, hD⟩ := zc_back (w := [(a0, .inr (7, [a0g_0, .ref a0_1, a0g_2, a0g_3, a0g_4, a0g_5, a0g_6, .ref a0_7, .int a0_8, a0g_9, a0g_10])), (a0_7, .inr (0, [.int a0_7_0, .int a0_7_1, a0_7g_2, a0_7g_3, a0_7g_4, a0_7g_5, a0_7g_6, a0_7g_7, a0_7g_8, a0_7g_9, a0_7g_10, a0_7g_11, a0_7g_12, a0_7g_13, a0_7g_14])), (a0_1, .inr (5, [a0_1g_0, a0_1g_1, .int a0_1_2, a0_1g_3, a0_1g_4, a0_1g_5, a0_1g_6]))]) hP hD hCc hk1 hFc hP1 hD1 [.inr 0, .inr 1, .inl 2] (by decide +kernel) rfl
  rcases hw with hw | hw
  · obtain ⟨hw, h1_0, h1_1⟩ := hw
    subst hw
    have l1k0_a0_7_0 : (1 : Int) ≤ a0_7_0.toInt := h1_0
    have u1k0_a0_7_0 : a0_7_0.toInt ≤ (9 : Int) := ba0_7_0_u
    refine lv_if_ne (tgt := 13) hx hb dX7_left_4 (by decide) (fun _ => ?_) (fun c4 => absurd c4 (by decide +kernel))
    refine lv_aload_n hx hb dX7_left_13 rfl (lv_at hl 0 rfl) ?_
    refine lv_aload_n hx hb dX7_left_14 rfl (lv_at hl 0 rfl) ?_
    refine va_get (D := (dC, dI)) (ci := 7) (v := .ref a0_7) (C := RX7) (T := TX7) (N := 11) hx hb hts zi_X7_left_7 hown hK hP 0 rfl rfl 7 (by decide) (hts (.fieldLink RX7 57 "WaxTurns" "hall" "LWaxTurns$Hall;") (List.mem_cons_of_mem _ (List.mem_append_left _ (List.mem_append_left _ (List.mem_append_left _ (List.mem_of_getElem? (i := 0) rfl)))))) (fun _ h9 => h9) rfl dX7_left_15 ?_
    refine va_get (D := (dC, dI)) (ci := 0) (v := .int a0_7_1) (C := RX0) (T := TX0) (N := 15) hx hb hts zi_X7_left_0 hown hK hP 1 rfl rfl 1 (by decide) (hts (.fieldLink RX7 161 "WaxTurns$Hall" "span" "I") (List.mem_cons_of_mem _ (List.mem_append_left _ (List.mem_append_left _ (List.mem_append_left _ (List.mem_of_getElem? (i := 1) rfl)))))) (fun _ h9 => h9) rfl dX7_left_18 ?_
    refine lv_aload_n hx hb dX7_left_21 rfl (lv_at hl 0 rfl) ?_
    refine va_get (D := (dC, dI)) (ci := 7) (v := .ref a0_1) (C := RX7) (T := TX7) (N := 11) hx hb hts zi_X7_left_7 hown hK hP 0 rfl rfl 1 (by decide) (hts (.fieldLink RX7 19 "WaxTurns" "now" "LWaxTurns$Scene;") (List.mem_cons_of_mem _ (List.mem_append_left _ (List.mem_append_left _ (List.mem_append_left _ (List.mem_of_getElem? (i := 2) rfl)))))) (fun _ h9 => h9) rfl dX7_left_22 ?_
    refine va_get (D := (dC, dI)) (ci := 5) (v := .int a0_1_2) (C := RX5) (T := TX5) (N := 7) hx hb hts zi_X7_left_5 hown hK hP 2 rfl rfl 2 (by decide) (hts (.fieldLink RX7 164 "WaxTurns$Scene" "spent" "I") (List.mem_cons_of_mem _ (List.mem_append_left _ (List.mem_append_left _ (List.mem_append_left _ (List.mem_of_getElem? (i := 3) rfl)))))) (fun _ h9 => h9) rfl dX7_left_25 ?_
    refine lv_isub hx hb dX7_left_28 ?_
    refine lv_topi (fun x28 ex28 => ?_)
    obtain ⟨hPc, hDc, hFc, hCc⟩ := zc_cut (wc := [(a0, .inr (7, [a0g_0, .ref a0_1, a0g_2, a0g_3, a0g_4, a0g_5, a0g_6, .ref a0_7, .int a0_8, a0g_9, a0g_10]))]) hP hD hS hA [0] (by decide +kernel) rfl
    have hKc := hK.sub (tys' := []) [] rfl
    refine va_calli (va_runV (As := [.int x28]) (rest := []) ⟨hx, hb, hml, hown, hts⟩ (c_X7_answered l dC dI H.size a0 x28 a0g_0 (.ref a0_1) a0g_2 a0g_3 a0g_4 a0g_5 a0g_6 (.ref a0_7) a0g_9 a0g_10 a0_8 ) (cwV 1 hts gX7_left_X7_answered rfl rfl rfl zd_X7_answered ⟨Nat.le_of_ble_eq_true rfl, Nat.le_of_ble_eq_true rfl⟩) ⟨ax_blind (fun _ _ _ _ _ => trivial), zr_7 hKc hPc (q0 := 0) rfl, ax_pre hPc hKc hDc (fun _ _ => trivial)⟩ rfl rfl hl.1 rfl (lv_room (Nat.le_of_ble_eq_true rfl)) dX7_left_29 ⟨Nat.le_of_ble_eq_true rfl, Nat.le_of_ble_eq_true rfl⟩) hS (fun q _ h => hFc q h) hFc (fun r29 u t H locs ht hvm hw hB hz1 hk1 hS => ?_)
    obtain ⟨v29na0_8, hP1, hK1, hD1⟩ := hB
    rw [ht] at hP1
    obtain ⟨hP, hD⟩ := zc_back (w := [(a0, .inr (7, [a0g_0, .ref a0_1, a0g_2, a0g_3, a0g_4, a0g_5, a0g_6, .ref a0_7, .int v29na0_8, a0g_9, a0g_10])), (a0_7, .inr (0, [.int a0_7_0, .int a0_7_1, a0_7g_2, a0_7g_3, a0_7g_4, a0_7g_5, a0_7g_6, a0_7g_7, a0_7g_8, a0_7g_9, a0_7g_10, a0_7g_11, a0_7g_12, a0_7g_13, a0_7g_14])), (a0_1, .inr (5, [a0_1g_0, a0_1g_1, .int a0_1_2, a0_1g_3, a0_1g_4, a0_1g_5, a0_1g_6]))]) hP hD hCc hk1 hFc hP1 hD1 [.inr 0, .inl 1, .inl 2] (by decide +kernel) rfl
    have hw : r29 = x28 := hw
    have hw := hw.symm
    subst hw
    exact W.iret (v := x28) hx hb hr (fun t ht hW => ⟨⟨x28, (), rfl, trivial, v29na0_8, by rw [ht]; exact hP, va_K.moved hW.alike hK, hD⟩, hS.F ht⟩) hS.2.2 dX7_left_32
  · obtain ⟨hw, h1_0, h1_1⟩ := hw
    subst hw
    have l1k1_a0_7_0 : (0 : Int) ≤ a0_7_0.toInt := ba0_7_0_l
    have u1k1_a0_7_0 : a0_7_0.toInt ≤ (0 : Int) := h1_1
    refine lv_if_ne (tgt := 13) hx hb dX7_left_4 (by decide) (fun c4 => absurd (by decide +kernel) c4) (fun _ => ?_)
    refine lv_aload_n hx hb dX7_left_7 rfl (lv_at hl 0 rfl) ?_
    refine lv_iconst (v := 1) hx hb dX7_left_8 zk_iconst_1 ?_
    obtain ⟨hPc, hDc, hFc, hCc⟩ := zc_cut (wc := [(a0, .inr (7, [a0g_0, .ref a0_1, a0g_2, a0g_3, a0g_4, a0g_5, a0g_6, .ref a0_7, .int a0_8, a0g_9, a0g_10]))]) hP hD hS hA [0] (by decide +kernel) rfl
    have hKc := hK.sub (tys' := []) [] rfl
    refine va_calli (va_runV (As := [.int 1]) (rest := []) ⟨hx, hb, hml, hown, hts⟩ (c_X7_refused l dC dI H.size a0 1 a0g_0 (.ref a0_1) a0g_2 a0g_3 a0g_4 a0g_5 a0g_6 (.ref a0_7) a0g_9 a0g_10 a0_8 ) (cwV 1 hts gX7_left_X7_refused rfl rfl rfl zd_X7_refused ⟨Nat.le_of_ble_eq_true rfl, Nat.le_of_ble_eq_true rfl⟩) ⟨ax_blind (fun _ _ _ _ _ => trivial), zr_7 hKc hPc (q0 := 0) rfl, ax_pre hPc hKc hDc (fun _ _ => trivial)⟩ rfl rfl hl.1 rfl (lv_room (Nat.le_of_ble_eq_true rfl)) dX7_left_9 ⟨Nat.le_of_ble_eq_true rfl, Nat.le_of_ble_eq_true rfl⟩) hS (fun q _ h => hFc q h) hFc (fun r9 u t H locs ht hvm hw hB hz1 hk1 hS => ?_)
    obtain ⟨v9na0_8, hP1, hK1, hD1⟩ := hB
    rw [ht] at hP1
    obtain ⟨hP, hD⟩ := zc_back (w := [(a0, .inr (7, [a0g_0, .ref a0_1, a0g_2, a0g_3, a0g_4, a0g_5, a0g_6, .ref a0_7, .int v9na0_8, a0g_9, a0g_10])), (a0_7, .inr (0, [.int a0_7_0, .int a0_7_1, a0_7g_2, a0_7g_3, a0_7g_4, a0_7g_5, a0_7g_6, a0_7g_7, a0_7g_8, a0_7g_9, a0_7g_10, a0_7g_11, a0_7g_12, a0_7g_13, a0_7g_14])), (a0_1, .inr (5, [a0_1g_0, a0_1g_1, .int a0_1_2, a0_1g_3, a0_1g_4, a0_1g_5, a0_1g_6]))]) hP hD hCc hk1 hFc hP1 hD1 [.inr 0, .inl 1, .inl 2] (by decide +kernel) rfl
    have hw : r9 = (-1) := hw
    have hw := hw.symm
    subst hw
    exact W.iret (v := (-1)) hx hb hr (fun t ht hW => ⟨⟨(-1), (), rfl, trivial, v9na0_8, by rw [ht]; exact hP, va_K.moved hW.alike hK, hD⟩, hS.F ht⟩) hS.2.2 dX7_left_12

set_option maxHeartbeats 4000000 in
set_option maxRecDepth 100000 in
theorem c_X7_caught (l : Launch) (dC : Nat → ClassId) (dI : Nat → Nat → Nat) (sz : Nat) (a0 : Nat) (a0g_0 a0g_2 a0g_3 a0g_4 a0g_5 a0g_6 a0g_9 a0g_10 : Value) (a0_1 : Nat) (a0_7 : Nat) (a0_8 : Int32) (a0_7_0 : Int32) (a0_7g_1 a0_7g_2 a0_7g_3 a0_7g_4 a0_7g_5 a0_7g_6 a0_7g_7 a0_7g_8 a0_7g_9 a0_7g_10 a0_7g_11 a0_7g_12 a0_7g_13 a0_7g_14 : Value) (a0_1g_0 a0_1g_1 a0_1g_2 a0_1g_3 a0_1g_5 a0_1g_6 : Value) (a0_1_4 : Int32) (ba0_7_0_l : (0 : Int) ≤ a0_7_0.toInt) (ba0_7_0_u : a0_7_0.toInt ≤ (9 : Int)) : Met l yX7_caught wsX7_caught ({ frames := 1, cells := 0, slots := 0, locals := 21 }) (va_Pc [.ref a0] (ax_C dC dI sz [(a0, .inr (7, [a0g_0, .ref a0_1, a0g_2, a0g_3, a0g_4, a0g_5, a0g_6, .ref a0_7, .int a0_8, a0g_9, a0g_10])), (a0_7, .inr (0, [.int a0_7_0, a0_7g_1, a0_7g_2, a0_7g_3, a0_7g_4, a0_7g_5, a0_7g_6, a0_7g_7, a0_7g_8, a0_7g_9, a0_7g_10, a0_7g_11, a0_7g_12, a0_7g_13, a0_7g_14])), (a0_1, .inr (5, [a0_1g_0, a0_1g_1, a0_1g_2, a0_1g_3, .int a0_1_4, a0_1g_5, a0_1g_6]))] [] (fun _ => True))) (va_Qi (fun (r : Int32) (_ : Unit) => True) (fun (_ : Unit) (t : State) => ∃ na0_8 : Int32, ax_B dC dI (va_A [(a0, .inr (7, [a0g_0, .ref a0_1, a0g_2, a0g_3, a0g_4, a0g_5, a0g_6, .ref a0_7, .int a0_8, a0g_9, a0g_10])), (a0_7, .inr (0, [.int a0_7_0, a0_7g_1, a0_7g_2, a0_7g_3, a0_7g_4, a0_7g_5, a0_7g_6, a0_7g_7, a0_7g_8, a0_7g_9, a0_7g_10, a0_7g_11, a0_7g_12, a0_7g_13, a0_7g_14])), (a0_1, .inr (5, [a0_1g_0, a0_1g_1, a0_1g_2, a0_1g_3, .int a0_1_4, a0_1g_5, a0_1g_6]))] sz) [(a0, .inr (7, [a0g_0, .ref a0_1, a0g_2, a0g_3, a0g_4, a0g_5, a0g_6, .ref a0_7, .int na0_8, a0g_9, a0g_10])), (a0_7, .inr (0, [.int a0_7_0, a0_7g_1, a0_7g_2, a0_7g_3, a0_7g_4, a0_7g_5, a0_7g_6, a0_7g_7, a0_7g_8, a0_7g_9, a0_7g_10, a0_7g_11, a0_7g_12, a0_7g_13, a0_7g_14])), (a0_1, .inr (5, [a0_1g_0, a0_1g_1, a0_1g_2, a0_1g_3, .int a0_1_4, a0_1g_5, a0_1g_6]))] [] t) (va_A [(a0, .inr (7, [a0g_0, .ref a0_1, a0g_2, a0g_3, a0g_4, a0g_5, a0g_6, .ref a0_7, .int a0_8, a0g_9, a0g_10])), (a0_7, .inr (0, [.int a0_7_0, a0_7g_1, a0_7g_2, a0_7g_3, a0_7g_4, a0_7g_5, a0_7g_6, a0_7g_7, a0_7g_8, a0_7g_9, a0_7g_10, a0_7g_11, a0_7g_12, a0_7g_13, a0_7g_14])), (a0_1, .inr (5, [a0_1g_0, a0_1g_1, a0_1g_2, a0_1g_3, .int a0_1_4, a0_1g_5, a0_1g_6]))] sz)) 0 0 (va_A [(a0, .inr (7, [a0g_0, .ref a0_1, a0g_2, a0g_3, a0g_4, a0g_5, a0g_6, .ref a0_7, .int a0_8, a0g_9, a0g_10])), (a0_7, .inr (0, [.int a0_7_0, a0_7g_1, a0_7g_2, a0_7g_3, a0_7g_4, a0_7g_5, a0_7g_6, a0_7g_7, a0_7g_8, a0_7g_9, a0_7g_10, a0_7g_11, a0_7g_12, a0_7g_13, a0_7g_14])), (a0_1, .inr (5, [a0_1g_0, a0_1g_1, a0_1g_2, a0_1g_3, .int a0_1_4, a0_1g_5, a0_1g_6]))] sz) := by
  refine Met.ofW (cc := cX7_caught) (maxL := 1) (ret := (some .int)) (by decide) rfl ?_
  intro p e s m args below meth c s₁ B hml hv
  obtain ⟨rfl, hsz, hP, hK, hD0, hE⟩ := hv
  have hx := B.exec
  have hb := B.bytes
  have hr := B.returns
  have hts := atoms_spec (ws := wsX7_caught) B.pre
  have hown : s.vm.findClass RX7 = some m.cls := findClass_of_methodNamed B.named
  have hlocks := B.notSynchronized
  subst hsz
  have hD := hD0.self (sz := s.heap.size)
  generalize hAe : va_A [(a0, .inr (7, [a0g_0, .ref a0_1, a0g_2, a0g_3, a0g_4, a0g_5, a0g_6, .ref a0_7, .int a0_8, a0g_9, a0g_10])), (a0_7, .inr (0, [.int a0_7_0, a0_7g_1, a0_7g_2, a0_7g_3, a0_7g_4, a0_7g_5, a0_7g_6, a0_7g_7, a0_7g_8, a0_7g_9, a0_7g_10, a0_7g_11, a0_7g_12, a0_7g_13, a0_7g_14])), (a0_1, .inr (5, [a0_1g_0, a0_1g_1, a0_1g_2, a0_1g_3, .int a0_1_4, a0_1g_5, a0_1g_6]))] s.heap.size = A at hD ⊢
  have hA : ∀ q : Nat, s.heap.size ≤ q → A q := fun q h => by rw [← hAe]; exact Or.inr h
  have hS : va_S A s.heap s.heap [] := va_S.rf
  have hP : va_P (dC, dI) vwCl [(a0, .inr (7, [a0g_0, .ref a0_1, a0g_2, a0g_3, a0g_4, a0g_5, a0g_6, .ref a0_7, .int a0_8, a0g_9, a0g_10])), (a0_7, .inr (0, [.int a0_7_0, a0_7g_1, a0_7g_2, a0_7g_3, a0_7g_4, a0_7g_5, a0_7g_6, a0_7g_7, a0_7g_8, a0_7g_9, a0_7g_10, a0_7g_11, a0_7g_12, a0_7g_13, a0_7g_14])), (a0_1, .inr (5, [a0_1g_0, a0_1g_1, a0_1g_2, a0_1g_3, .int a0_1_4, a0_1g_5, a0_1g_6]))] s.heap := hP
  have hl := lv_entry ([.ref a0]) (n := 1) (Nat.le_of_ble_eq_true rfl)
  rw [lg_entry_eq]
  generalize (lg_sl ([.ref a0]) ++ List.replicate (1 - (lg_sl ([.ref a0])).length) Slot.unset).toArray = ls at hl ⊢
  have hl : lv_has ls 1 [(0, .ref a0)] := hl
  refine lv_aload_n hx hb dX7_caught_0 rfl (lv_at hl 0 rfl) ?_
  obtain ⟨hPc, hDc, hFc, hCc⟩ := zc_cut (wc := [(a0, .inr (7, [a0g_0, .ref a0_1, a0g_2, a0g_3, a0g_4, a0g_5, a0g_6, .ref a0_7, .int a0_8, a0g_9, a0g_10])), (a0_7, .inr (0, [.int a0_7_0, a0_7g_1, a0_7g_2, a0_7g_3, a0_7g_4, a0_7g_5, a0_7g_6, a0_7g_7, a0_7g_8, a0_7g_9, a0_7g_10, a0_7g_11, a0_7g_12, a0_7g_13, a0_7g_14]))]) hP hD hS hA [0, 1] (by decide +kernel) rfl
  have hKc := hK.sub (tys' := []) [] rfl
  refine va_calli (va_runV (As := []) (rest := []) ⟨hx, hb, hml, hown, hts⟩ (c_X7_hasGallery l dC dI s.heap.size a0 a0g_0 (.ref a0_1) a0g_2 a0g_3 a0g_4 a0g_5 a0g_6 (.int a0_8) a0g_9 a0g_10 a0_7 a0_7_0 a0_7g_1 a0_7g_2 a0_7g_3 a0_7g_4 a0_7g_5 a0_7g_6 a0_7g_7 a0_7g_8 a0_7g_9 a0_7g_10 a0_7g_11 a0_7g_12 a0_7g_13 a0_7g_14 ba0_7_0_l ba0_7_0_u) (cwV 0 hts gX7_caught_X7_hasGallery rfl rfl rfl zd_X7_hasGallery ⟨Nat.le_of_ble_eq_true rfl, Nat.le_of_ble_eq_true rfl⟩) ⟨ax_blind (fun _ _ _ _ _ => trivial), zr_7 hKc hPc (q0 := 0) rfl, ax_pre hPc hKc hDc (fun _ _ => trivial)⟩ rfl rfl hl.1 rfl (lv_room (Nat.le_of_ble_eq_true rfl)) dX7_caught_1 ⟨Nat.le_of_ble_eq_true rfl, Nat.le_of_ble_eq_true rfl⟩) hS (fun q _ h => hFc q h) hFc (fun r1 u t H locs ht hvm hw hB hz1 hk1 hS => ?_)
  obtain ⟨hP1, hK1, hD1⟩ := hB
  rw [ht] at hP1
  obtain ⟨hP, hD⟩ := zc_back (w := [(a0, .inr (7, [a0g_0, .ref a0_1, a0g_2, a0g_3, a0g_4, a0g_5, a0g_6, .ref a0_7, .int a0_8, a0g_9, a0g_10])), (a0_7, .inr (0, [.int a0_7_0, a0_7g_1, a0_7g_2, a0_7g_3, a0_7g_4, a0_7g_5, a0_7g_6, a0_7g_7, a0_7g_8, a0_7g_9, a0_7g_10, a0_7g_11, a0_7g_12, a0_7g_13, a0_7g_14])), (a0_1, .inr (5, [a0_1g_0, a0_1g_1, a0_1g_2, a0_1g_3, .int a0_1_4, a0_1g_5, a0_1g_6]))]) hP hD hCc hk1 hFc hP1 hD1 [.inr 0, .inr 1, .inl 2] (by decide +kernel) rfl
  rcases hw with hw | hw
  · obtain ⟨hw, h1_0, h1_1⟩ := hw
    subst hw
    have l1k0_a0_7_0 : (1 : Int) ≤ a0_7_0.toInt := h1_0
    have u1k0_a0_7_0 : a0_7_0.toInt ≤ (9 : Int) := ba0_7_0_u
    refine lv_if_ne (tgt := 13) hx hb dX7_caught_4 (by decide) (fun _ => ?_) (fun c4 => absurd c4 (by decide +kernel))
    refine lv_aload_n hx hb dX7_caught_13 rfl (lv_at hl 0 rfl) ?_
    refine lv_aload_n hx hb dX7_caught_14 rfl (lv_at hl 0 rfl) ?_
    refine va_get (D := (dC, dI)) (ci := 7) (v := .ref a0_1) (C := RX7) (T := TX7) (N := 11) hx hb hts zi_X7_caught_7 hown hK hP 0 rfl rfl 1 (by decide) (hts (.fieldLink RX7 19 "WaxTurns" "now" "LWaxTurns$Scene;") (List.mem_cons_of_mem _ (List.mem_append_left _ (List.mem_append_left _ (List.mem_append_left _ (List.mem_of_getElem? (i := 0) rfl)))))) (fun _ h9 => h9) rfl dX7_caught_15 ?_
    refine va_get (D := (dC, dI)) (ci := 5) (v := .int a0_1_4) (C := RX5) (T := TX5) (N := 7) hx hb hts zi_X7_caught_5 hown hK hP 2 rfl rfl 4 (by decide) (hts (.fieldLink RX7 167 "WaxTurns$Scene" "catchCount" "I") (List.mem_cons_of_mem _ (List.mem_append_left _ (List.mem_append_left _ (List.mem_append_left _ (List.mem_of_getElem? (i := 1) rfl)))))) (fun _ h9 => h9) rfl dX7_caught_18 ?_
    obtain ⟨hPc, hDc, hFc, hCc⟩ := zc_cut (wc := [(a0, .inr (7, [a0g_0, .ref a0_1, a0g_2, a0g_3, a0g_4, a0g_5, a0g_6, .ref a0_7, .int a0_8, a0g_9, a0g_10]))]) hP hD hS hA [0] (by decide +kernel) rfl
    have hKc := hK.sub (tys' := []) [] rfl
    refine va_calli (va_runV (As := [.int a0_1_4]) (rest := []) ⟨hx, hb, hml, hown, hts⟩ (c_X7_answered l dC dI H.size a0 a0_1_4 a0g_0 (.ref a0_1) a0g_2 a0g_3 a0g_4 a0g_5 a0g_6 (.ref a0_7) a0g_9 a0g_10 a0_8 ) (cwV 1 hts gX7_caught_X7_answered rfl rfl rfl zd_X7_answered ⟨Nat.le_of_ble_eq_true rfl, Nat.le_of_ble_eq_true rfl⟩) ⟨ax_blind (fun _ _ _ _ _ => trivial), zr_7 hKc hPc (q0 := 0) rfl, ax_pre hPc hKc hDc (fun _ _ => trivial)⟩ rfl rfl hl.1 rfl (lv_room (Nat.le_of_ble_eq_true rfl)) dX7_caught_21 ⟨Nat.le_of_ble_eq_true rfl, Nat.le_of_ble_eq_true rfl⟩) hS (fun q _ h => hFc q h) hFc (fun r21 u t H locs ht hvm hw hB hz1 hk1 hS => ?_)
    obtain ⟨v21na0_8, hP1, hK1, hD1⟩ := hB
    rw [ht] at hP1
    obtain ⟨hP, hD⟩ := zc_back (w := [(a0, .inr (7, [a0g_0, .ref a0_1, a0g_2, a0g_3, a0g_4, a0g_5, a0g_6, .ref a0_7, .int v21na0_8, a0g_9, a0g_10])), (a0_7, .inr (0, [.int a0_7_0, a0_7g_1, a0_7g_2, a0_7g_3, a0_7g_4, a0_7g_5, a0_7g_6, a0_7g_7, a0_7g_8, a0_7g_9, a0_7g_10, a0_7g_11, a0_7g_12, a0_7g_13, a0_7g_14])), (a0_1, .inr (5, [a0_1g_0, a0_1g_1, a0_1g_2, a0_1g_3, .int a0_1_4, a0_1g_5, a0_1g_6]))]) hP hD hCc hk1 hFc hP1 hD1 [.inr 0, .inl 1, .inl 2] (by decide +kernel) rfl
    have hw : r21 = a0_1_4 := hw
    have hw := hw.symm
    subst hw
    exact W.iret (v := a0_1_4) hx hb hr (fun t ht hW => ⟨⟨a0_1_4, (), rfl, trivial, v21na0_8, by rw [ht]; exact hP, va_K.moved hW.alike hK, hD⟩, hS.F ht⟩) hS.2.2 dX7_caught_24
  · obtain ⟨hw, h1_0, h1_1⟩ := hw
    subst hw
    have l1k1_a0_7_0 : (0 : Int) ≤ a0_7_0.toInt := ba0_7_0_l
    have u1k1_a0_7_0 : a0_7_0.toInt ≤ (0 : Int) := h1_1
    refine lv_if_ne (tgt := 13) hx hb dX7_caught_4 (by decide) (fun c4 => absurd (by decide +kernel) c4) (fun _ => ?_)
    refine lv_aload_n hx hb dX7_caught_7 rfl (lv_at hl 0 rfl) ?_
    refine lv_iconst (v := 1) hx hb dX7_caught_8 zk_iconst_1 ?_
    obtain ⟨hPc, hDc, hFc, hCc⟩ := zc_cut (wc := [(a0, .inr (7, [a0g_0, .ref a0_1, a0g_2, a0g_3, a0g_4, a0g_5, a0g_6, .ref a0_7, .int a0_8, a0g_9, a0g_10]))]) hP hD hS hA [0] (by decide +kernel) rfl
    have hKc := hK.sub (tys' := []) [] rfl
    refine va_calli (va_runV (As := [.int 1]) (rest := []) ⟨hx, hb, hml, hown, hts⟩ (c_X7_refused l dC dI H.size a0 1 a0g_0 (.ref a0_1) a0g_2 a0g_3 a0g_4 a0g_5 a0g_6 (.ref a0_7) a0g_9 a0g_10 a0_8 ) (cwV 1 hts gX7_caught_X7_refused rfl rfl rfl zd_X7_refused ⟨Nat.le_of_ble_eq_true rfl, Nat.le_of_ble_eq_true rfl⟩) ⟨ax_blind (fun _ _ _ _ _ => trivial), zr_7 hKc hPc (q0 := 0) rfl, ax_pre hPc hKc hDc (fun _ _ => trivial)⟩ rfl rfl hl.1 rfl (lv_room (Nat.le_of_ble_eq_true rfl)) dX7_caught_9 ⟨Nat.le_of_ble_eq_true rfl, Nat.le_of_ble_eq_true rfl⟩) hS (fun q _ h => hFc q h) hFc (fun r9 u t H locs ht hvm hw hB hz1 hk1 hS => ?_)
    obtain ⟨v9na0_8, hP1, hK1, hD1⟩ := hB
    rw [ht] at hP1
    obtain ⟨hP, hD⟩ := zc_back (w := [(a0, .inr (7, [a0g_0, .ref a0_1, a0g_2, a0g_3, a0g_4, a0g_5, a0g_6, .ref a0_7, .int v9na0_8, a0g_9, a0g_10])), (a0_7, .inr (0, [.int a0_7_0, a0_7g_1, a0_7g_2, a0_7g_3, a0_7g_4, a0_7g_5, a0_7g_6, a0_7g_7, a0_7g_8, a0_7g_9, a0_7g_10, a0_7g_11, a0_7g_12, a0_7g_13, a0_7g_14])), (a0_1, .inr (5, [a0_1g_0, a0_1g_1, a0_1g_2, a0_1g_3, .int a0_1_4, a0_1g_5, a0_1g_6]))]) hP hD hCc hk1 hFc hP1 hD1 [.inr 0, .inl 1, .inl 2] (by decide +kernel) rfl
    have hw : r9 = (-1) := hw
    have hw := hw.symm
    subst hw
    exact W.iret (v := (-1)) hx hb hr (fun t ht hW => ⟨⟨(-1), (), rfl, trivial, v9na0_8, by rw [ht]; exact hP, va_K.moved hW.alike hK, hD⟩, hS.F ht⟩) hS.2.2 dX7_caught_12

set_option maxHeartbeats 4000000 in
set_option maxRecDepth 100000 in
theorem c_X7_turnOf (l : Launch) (dC : Nat → ClassId) (dI : Nat → Nat → Nat) (sz : Nat) (a0 : Nat) (a1 : Int32) (a0g_0 a0g_2 a0g_3 a0g_4 a0g_5 a0g_6 a0g_9 a0g_10 : Value) (a0_1 : Nat) (a0_7 : Nat) (a0_8 : Int32) (a0_7_0 : Int32) (a0_7g_1 a0_7g_2 a0_7g_3 a0_7g_4 a0_7g_7 a0_7g_8 a0_7g_9 a0_7g_10 a0_7g_11 a0_7g_12 a0_7g_13 a0_7g_14 : Value) (a0_7_5 : Int32) (a0_7_6 : Int32) (a0_1g_0 a0_1g_2 a0_1g_3 a0_1g_4 a0_1g_5 a0_1g_6 : Value) (a0_1_1 : Int32) (ba0_7_0_l : (0 : Int) ≤ a0_7_0.toInt) (ba0_7_0_u : a0_7_0.toInt ≤ (9 : Int)) (ba0_7_5_l : (0 : Int) ≤ a0_7_5.toInt) (ba0_7_5_u : a0_7_5.toInt ≤ (8 : Int)) (ba0_7_6_l : (0 : Int) ≤ a0_7_6.toInt) (ba0_7_6_u : a0_7_6.toInt ≤ (8 : Int)) (ba0_1_1_l : (0 : Int) ≤ a0_1_1.toInt) (ba0_1_1_u : a0_1_1.toInt ≤ (8 : Int)) : Met l yX7_turnOf wsX7_turnOf ({ frames := 2, cells := 0, slots := 0, locals := 49 }) (va_Pc [.ref a0, .int a1] (ax_C dC dI sz [(a0, .inr (7, [a0g_0, .ref a0_1, a0g_2, a0g_3, a0g_4, a0g_5, a0g_6, .ref a0_7, .int a0_8, a0g_9, a0g_10])), (a0_7, .inr (0, [.int a0_7_0, a0_7g_1, a0_7g_2, a0_7g_3, a0_7g_4, .int a0_7_5, .int a0_7_6, a0_7g_7, a0_7g_8, a0_7g_9, a0_7g_10, a0_7g_11, a0_7g_12, a0_7g_13, a0_7g_14])), (a0_1, .inr (5, [a0_1g_0, .int a0_1_1, a0_1g_2, a0_1g_3, a0_1g_4, a0_1g_5, a0_1g_6]))] [] (fun _ => True))) (va_Qi (fun (r : Int32) (_ : Unit) => (-1 : Int) ≤ r.toInt ∧ r.toInt ≤ (8 : Int)) (fun (_ : Unit) (t : State) => ∃ na0_8 : Int32, ax_B dC dI (va_A [(a0, .inr (7, [a0g_0, .ref a0_1, a0g_2, a0g_3, a0g_4, a0g_5, a0g_6, .ref a0_7, .int a0_8, a0g_9, a0g_10])), (a0_7, .inr (0, [.int a0_7_0, a0_7g_1, a0_7g_2, a0_7g_3, a0_7g_4, .int a0_7_5, .int a0_7_6, a0_7g_7, a0_7g_8, a0_7g_9, a0_7g_10, a0_7g_11, a0_7g_12, a0_7g_13, a0_7g_14])), (a0_1, .inr (5, [a0_1g_0, .int a0_1_1, a0_1g_2, a0_1g_3, a0_1g_4, a0_1g_5, a0_1g_6]))] sz) [(a0, .inr (7, [a0g_0, .ref a0_1, a0g_2, a0g_3, a0g_4, a0g_5, a0g_6, .ref a0_7, .int na0_8, a0g_9, a0g_10])), (a0_7, .inr (0, [.int a0_7_0, a0_7g_1, a0_7g_2, a0_7g_3, a0_7g_4, .int a0_7_5, .int a0_7_6, a0_7g_7, a0_7g_8, a0_7g_9, a0_7g_10, a0_7g_11, a0_7g_12, a0_7g_13, a0_7g_14])), (a0_1, .inr (5, [a0_1g_0, .int a0_1_1, a0_1g_2, a0_1g_3, a0_1g_4, a0_1g_5, a0_1g_6]))] [] t) (va_A [(a0, .inr (7, [a0g_0, .ref a0_1, a0g_2, a0g_3, a0g_4, a0g_5, a0g_6, .ref a0_7, .int a0_8, a0g_9, a0g_10])), (a0_7, .inr (0, [.int a0_7_0, a0_7g_1, a0_7g_2, a0_7g_3, a0_7g_4, .int a0_7_5, .int a0_7_6, a0_7g_7, a0_7g_8, a0_7g_9, a0_7g_10, a0_7g_11, a0_7g_12, a0_7g_13, a0_7g_14])), (a0_1, .inr (5, [a0_1g_0, .int a0_1_1, a0_1g_2, a0_1g_3, a0_1g_4, a0_1g_5, a0_1g_6]))] sz)) 0 0 (va_A [(a0, .inr (7, [a0g_0, .ref a0_1, a0g_2, a0g_3, a0g_4, a0g_5, a0g_6, .ref a0_7, .int a0_8, a0g_9, a0g_10])), (a0_7, .inr (0, [.int a0_7_0, a0_7g_1, a0_7g_2, a0_7g_3, a0_7g_4, .int a0_7_5, .int a0_7_6, a0_7g_7, a0_7g_8, a0_7g_9, a0_7g_10, a0_7g_11, a0_7g_12, a0_7g_13, a0_7g_14])), (a0_1, .inr (5, [a0_1g_0, .int a0_1_1, a0_1g_2, a0_1g_3, a0_1g_4, a0_1g_5, a0_1g_6]))] sz) := by
  refine Met.ofW (cc := cX7_turnOf) (maxL := 2) (ret := (some .int)) (by decide) rfl ?_
  intro p e s m args below meth c s₁ B hml hv
  obtain ⟨rfl, hsz, hP, hK, hD0, hE⟩ := hv
  have hx := B.exec
  have hb := B.bytes
  have hr := B.returns
  have hts := atoms_spec (ws := wsX7_turnOf) B.pre
  have hown : s.vm.findClass RX7 = some m.cls := findClass_of_methodNamed B.named
  have hlocks := B.notSynchronized
  subst hsz
  have hD := hD0.self (sz := s.heap.size)
  generalize hAe : va_A [(a0, .inr (7, [a0g_0, .ref a0_1, a0g_2, a0g_3, a0g_4, a0g_5, a0g_6, .ref a0_7, .int a0_8, a0g_9, a0g_10])), (a0_7, .inr (0, [.int a0_7_0, a0_7g_1, a0_7g_2, a0_7g_3, a0_7g_4, .int a0_7_5, .int a0_7_6, a0_7g_7, a0_7g_8, a0_7g_9, a0_7g_10, a0_7g_11, a0_7g_12, a0_7g_13, a0_7g_14])), (a0_1, .inr (5, [a0_1g_0, .int a0_1_1, a0_1g_2, a0_1g_3, a0_1g_4, a0_1g_5, a0_1g_6]))] s.heap.size = A at hD ⊢
  have hA : ∀ q : Nat, s.heap.size ≤ q → A q := fun q h => by rw [← hAe]; exact Or.inr h
  have hS : va_S A s.heap s.heap [] := va_S.rf
  have hP : va_P (dC, dI) vwCl [(a0, .inr (7, [a0g_0, .ref a0_1, a0g_2, a0g_3, a0g_4, a0g_5, a0g_6, .ref a0_7, .int a0_8, a0g_9, a0g_10])), (a0_7, .inr (0, [.int a0_7_0, a0_7g_1, a0_7g_2, a0_7g_3, a0_7g_4, .int a0_7_5, .int a0_7_6, a0_7g_7, a0_7g_8, a0_7g_9, a0_7g_10, a0_7g_11, a0_7g_12, a0_7g_13, a0_7g_14])), (a0_1, .inr (5, [a0_1g_0, .int a0_1_1, a0_1g_2, a0_1g_3, a0_1g_4, a0_1g_5, a0_1g_6]))] s.heap := hP
  have hl := lv_entry ([.ref a0, .int a1]) (n := 2) (Nat.le_of_ble_eq_true rfl)
  rw [lg_entry_eq]
  generalize (lg_sl ([.ref a0, .int a1]) ++ List.replicate (2 - (lg_sl ([.ref a0, .int a1])).length) Slot.unset).toArray = ls at hl ⊢
  have hl : lv_has ls 2 [(0, .ref a0), (1, .int a1)] := hl
  refine lv_aload_n hx hb dX7_turnOf_0 rfl (lv_at hl 0 rfl) ?_
  obtain ⟨hPc, hDc, hFc, hCc⟩ := zc_cut (wc := [(a0, .inr (7, [a0g_0, .ref a0_1, a0g_2, a0g_3, a0g_4, a0g_5, a0g_6, .ref a0_7, .int a0_8, a0g_9, a0g_10])), (a0_7, .inr (0, [.int a0_7_0, a0_7g_1, a0_7g_2, a0_7g_3, a0_7g_4, .int a0_7_5, .int a0_7_6, a0_7g_7, a0_7g_8, a0_7g_9, a0_7g_10, a0_7g_11, a0_7g_12, a0_7g_13, a0_7g_14]))]) hP hD hS hA [0, 1] (by decide +kernel) rfl
  have hKc := hK.sub (tys' := []) [] rfl
  refine va_calli (va_runV (As := []) (rest := []) ⟨hx, hb, hml, hown, hts⟩ (c_X7_hasGallery l dC dI s.heap.size a0 a0g_0 (.ref a0_1) a0g_2 a0g_3 a0g_4 a0g_5 a0g_6 (.int a0_8) a0g_9 a0g_10 a0_7 a0_7_0 a0_7g_1 a0_7g_2 a0_7g_3 a0_7g_4 (.int a0_7_5) (.int a0_7_6) a0_7g_7 a0_7g_8 a0_7g_9 a0_7g_10 a0_7g_11 a0_7g_12 a0_7g_13 a0_7g_14 ba0_7_0_l ba0_7_0_u) (cwV 0 hts gX7_turnOf_X7_hasGallery rfl rfl rfl zd_X7_hasGallery ⟨Nat.le_of_ble_eq_true rfl, Nat.le_of_ble_eq_true rfl⟩) ⟨ax_blind (fun _ _ _ _ _ => trivial), zr_7 hKc hPc (q0 := 0) rfl, ax_pre hPc hKc hDc (fun _ _ => trivial)⟩ rfl rfl hl.1 rfl (lv_room (Nat.le_of_ble_eq_true rfl)) dX7_turnOf_1 ⟨Nat.le_of_ble_eq_true rfl, Nat.le_of_ble_eq_true rfl⟩) hS (fun q _ h => hFc q h) hFc (fun r1 u t H locs ht hvm hw hB hz1 hk1 hS => ?_)
  obtain ⟨hP1, hK1, hD1⟩ := hB
  rw [ht] at hP1
  obtain ⟨hP, hD⟩ := zc_back (w := [(a0, .inr (7, [a0g_0, .ref a0_1, a0g_2, a0g_3, a0g_4, a0g_5, a0g_6, .ref a0_7, .int a0_8, a0g_9, a0g_10])), (a0_7, .inr (0, [.int a0_7_0, a0_7g_1, a0_7g_2, a0_7g_3, a0_7g_4, .int a0_7_5, .int a0_7_6, a0_7g_7, a0_7g_8, a0_7g_9, a0_7g_10, a0_7g_11, a0_7g_12, a0_7g_13, a0_7g_14])), (a0_1, .inr (5, [a0_1g_0, .int a0_1_1, a0_1g_2, a0_1g_3, a0_1g_4, a0_1g_5, a0_1g_6]))]) hP hD hCc hk1 hFc hP1 hD1 [.inr 0, .inr 1, .inl 2] (by decide +kernel) rfl
  rcases hw with hw | hw
  · obtain ⟨hw, h1_0, h1_1⟩ := hw
    subst hw
    have l1k0_a0_7_0 : (1 : Int) ≤ a0_7_0.toInt := h1_0
    have u1k0_a0_7_0 : a0_7_0.toInt ≤ (9 : Int) := ba0_7_0_u
    refine lv_if_ne (tgt := 13) hx hb dX7_turnOf_4 (by decide) (fun _ => ?_) (fun c4 => absurd c4 (by decide +kernel))
    refine lv_iload_n hx hb dX7_turnOf_13 rfl (lv_at hl 1 rfl) ?_
    refine lv_iconst (v := 0) hx hb dX7_turnOf_14 zk_iconst_0 ?_
    refine lv_ldc (v := 2000000000) hx hb hown (hts (.constant RX7 170 (2000000000)) (zm_X7_turnOf_r1 (List.mem_of_getElem? (i := 0) rfl))) dX7_turnOf_15 ?_
    obtain ⟨hPc, hDc, hFc, hCc⟩ := zc_cut (wc := []) hP hD hS hA [] (by decide +kernel) rfl
    have hKc := hK.sub (tys' := []) [] rfl
    refine va_calli (va_runS (As := [.int a1, .int 0, .int 2000000000]) (rest := []) ⟨hx, hb, hml, hown, hts⟩ (c_X7_within l dC dI H.size a1 0 2000000000 ) (va_cwS 3 hts gX7_turnOf_X7_within rfl rfl rfl zd_X7_within.2 ⟨Nat.le_of_ble_eq_true rfl, Nat.le_of_ble_eq_true rfl⟩) ⟨ax_blind (fun _ _ _ _ _ => trivial), ax_pre hPc hKc hDc (fun _ _ => trivial)⟩ rfl rfl hl.1 rfl (lv_room (Nat.le_of_ble_eq_true rfl)) dX7_turnOf_17 ⟨Nat.le_of_ble_eq_true rfl, Nat.le_of_ble_eq_true rfl⟩) hS (fun q _ h => hFc q h) hFc (fun r17 u t H locs ht hvm hw hB hz1 hk1 hS => ?_)
    obtain ⟨hP1, hK1, hD1⟩ := hB
    rw [ht] at hP1
    obtain ⟨hP, hD⟩ := zc_back (w := [(a0, .inr (7, [a0g_0, .ref a0_1, a0g_2, a0g_3, a0g_4, a0g_5, a0g_6, .ref a0_7, .int a0_8, a0g_9, a0g_10])), (a0_7, .inr (0, [.int a0_7_0, a0_7g_1, a0_7g_2, a0_7g_3, a0_7g_4, .int a0_7_5, .int a0_7_6, a0_7g_7, a0_7g_8, a0_7g_9, a0_7g_10, a0_7g_11, a0_7g_12, a0_7g_13, a0_7g_14])), (a0_1, .inr (5, [a0_1g_0, .int a0_1_1, a0_1g_2, a0_1g_3, a0_1g_4, a0_1g_5, a0_1g_6]))]) hP hD hCc hk1 hFc hP1 hD1 [.inl 0, .inl 1, .inl 2] (by decide +kernel) rfl
    rcases hw with hw | hw
    · obtain ⟨hw, h17⟩ := hw
      subst hw
      have l17k0_a1 : (0 : Int) ≤ a1.toInt := Int.le_trans zq5 h17.1
      have u17k0_a1 : a1.toInt ≤ (2000000000 : Int) := Int.le_trans h17.2 zq73
      refine lv_if_ne (tgt := 29) hx hb dX7_turnOf_20 (by decide) (fun _ => ?_) (fun c20 => absurd c20 (by decide +kernel))
      refine lv_aload_n hx hb dX7_turnOf_29 rfl (lv_at hl 0 rfl) ?_
      refine lv_aload_n hx hb dX7_turnOf_30 rfl (lv_at hl 0 rfl) ?_
      refine lv_iload_n hx hb dX7_turnOf_31 rfl (lv_at hl 1 rfl) ?_
      obtain ⟨hPc, hDc, hFc, hCc⟩ := zc_cut (wc := [(a0, .inr (7, [a0g_0, .ref a0_1, a0g_2, a0g_3, a0g_4, a0g_5, a0g_6, .ref a0_7, .int a0_8, a0g_9, a0g_10])), (a0_7, .inr (0, [.int a0_7_0, a0_7g_1, a0_7g_2, a0_7g_3, a0_7g_4, .int a0_7_5, .int a0_7_6, a0_7g_7, a0_7g_8, a0_7g_9, a0_7g_10, a0_7g_11, a0_7g_12, a0_7g_13, a0_7g_14])), (a0_1, .inr (5, [a0_1g_0, .int a0_1_1, a0_1g_2, a0_1g_3, a0_1g_4, a0_1g_5, a0_1g_6]))]) hP hD hS hA [0, 1, 2] (by decide +kernel) rfl
      have hKc := hK.sub (tys' := []) [] rfl
      refine va_calli (va_runV (As := [.int a1]) (rest := [.ref a0]) ⟨hx, hb, hml, hown, hts⟩ (c_X7_turnFromNow l dC dI H.size a0 a1 a0g_0 a0g_2 a0g_3 a0g_4 a0g_5 a0g_6 (.int a0_8) a0g_9 a0g_10 a0_1 a0_7 a0_7_0 a0_7g_1 a0_7g_2 a0_7g_3 a0_7g_4 a0_7g_7 a0_7g_8 a0_7g_9 a0_7g_10 a0_7g_11 a0_7g_12 a0_7g_13 a0_7g_14 a0_7_5 a0_7_6 a0_1g_0 a0_1g_2 a0_1g_3 a0_1g_4 a0_1g_5 a0_1g_6 a0_1_1 (Int.le_trans zq4 l1k0_a0_7_0) u1k0_a0_7_0 ba0_7_5_l ba0_7_5_u ba0_7_6_l ba0_7_6_u ba0_1_1_l ba0_1_1_u) (cwV 1 hts gX7_turnOf_X7_turnFromNow rfl rfl rfl zd_X7_turnFromNow ⟨Nat.le_of_ble_eq_true rfl, Nat.le_of_ble_eq_true rfl⟩) ⟨ax_blind (fun _ _ _ _ _ => trivial), zr_7 hKc hPc (q0 := 0) rfl, ax_pre hPc hKc hDc (fun _ _ => trivial)⟩ rfl rfl hl.1 rfl (lv_room (Nat.le_of_ble_eq_true rfl)) dX7_turnOf_32 ⟨Nat.le_of_ble_eq_true rfl, Nat.le_of_ble_eq_true rfl⟩) hS (fun q _ h => hFc q h) hFc (fun r32 u t H locs ht hvm hw hB hz1 hk1 hS => ?_)
      obtain ⟨hP1, hK1, hD1⟩ := hB
      rw [ht] at hP1
      obtain ⟨hP, hD⟩ := zc_back (w := [(a0, .inr (7, [a0g_0, .ref a0_1, a0g_2, a0g_3, a0g_4, a0g_5, a0g_6, .ref a0_7, .int a0_8, a0g_9, a0g_10])), (a0_7, .inr (0, [.int a0_7_0, a0_7g_1, a0_7g_2, a0_7g_3, a0_7g_4, .int a0_7_5, .int a0_7_6, a0_7g_7, a0_7g_8, a0_7g_9, a0_7g_10, a0_7g_11, a0_7g_12, a0_7g_13, a0_7g_14])), (a0_1, .inr (5, [a0_1g_0, .int a0_1_1, a0_1g_2, a0_1g_3, a0_1g_4, a0_1g_5, a0_1g_6]))]) hP hD hCc hk1 hFc hP1 hD1 [.inr 0, .inr 1, .inr 2] (by decide +kernel) rfl
      have hw : (0 : Int) ≤ r32.toInt ∧ r32.toInt ≤ (8 : Int) := hw
      obtain ⟨h32_0, h32_1⟩ := hw
      obtain ⟨hPc, hDc, hFc, hCc⟩ := zc_cut (wc := [(a0, .inr (7, [a0g_0, .ref a0_1, a0g_2, a0g_3, a0g_4, a0g_5, a0g_6, .ref a0_7, .int a0_8, a0g_9, a0g_10]))]) hP hD hS hA [0] (by decide +kernel) rfl
      have hKc := hK.sub (tys' := []) [] rfl
      refine va_calli (va_runV (As := [.int r32]) (rest := []) ⟨hx, hb, hml, hown, hts⟩ (c_X7_answered l dC dI H.size a0 r32 a0g_0 (.ref a0_1) a0g_2 a0g_3 a0g_4 a0g_5 a0g_6 (.ref a0_7) a0g_9 a0g_10 a0_8 ) (cwV 1 hts gX7_turnOf_X7_answered rfl rfl rfl zd_X7_answered ⟨Nat.le_of_ble_eq_true rfl, Nat.le_of_ble_eq_true rfl⟩) ⟨ax_blind (fun _ _ _ _ _ => trivial), zr_7 hKc hPc (q0 := 0) rfl, ax_pre hPc hKc hDc (fun _ _ => trivial)⟩ rfl rfl hl.1 rfl (lv_room (Nat.le_of_ble_eq_true rfl)) dX7_turnOf_35 ⟨Nat.le_of_ble_eq_true rfl, Nat.le_of_ble_eq_true rfl⟩) hS (fun q _ h => hFc q h) hFc (fun r35 u t H locs ht hvm hw hB hz1 hk1 hS => ?_)
      obtain ⟨v35na0_8, hP1, hK1, hD1⟩ := hB
      rw [ht] at hP1
      obtain ⟨hP, hD⟩ := zc_back (w := [(a0, .inr (7, [a0g_0, .ref a0_1, a0g_2, a0g_3, a0g_4, a0g_5, a0g_6, .ref a0_7, .int v35na0_8, a0g_9, a0g_10])), (a0_7, .inr (0, [.int a0_7_0, a0_7g_1, a0_7g_2, a0_7g_3, a0_7g_4, .int a0_7_5, .int a0_7_6, a0_7g_7, a0_7g_8, a0_7g_9, a0_7g_10, a0_7g_11, a0_7g_12, a0_7g_13, a0_7g_14])), (a0_1, .inr (5, [a0_1g_0, .int a0_1_1, a0_1g_2, a0_1g_3, a0_1g_4, a0_1g_5, a0_1g_6]))]) hP hD hCc hk1 hFc hP1 hD1 [.inr 0, .inl 1, .inl 2] (by decide +kernel) rfl
      have hw : r35 = r32 := hw
      have hw := hw.symm
      subst hw
      exact W.iret (v := r32) hx hb hr (fun t ht hW => ⟨⟨r32, (), rfl, ⟨(Int.le_trans zq69 h32_0), h32_1⟩, v35na0_8, by rw [ht]; exact hP, va_K.moved hW.alike hK, hD⟩, hS.F ht⟩) hS.2.2 dX7_turnOf_38
    · obtain ⟨hw, h17⟩ := hw
      subst hw
      refine lv_if_ne (tgt := 29) hx hb dX7_turnOf_20 (by decide) (fun c20 => absurd (by decide +kernel) c20) (fun _ => ?_)
      refine lv_aload_n hx hb dX7_turnOf_23 rfl (lv_at hl 0 rfl) ?_
      refine lv_iconst (v := 2) hx hb dX7_turnOf_24 zk_iconst_2 ?_
      obtain ⟨hPc, hDc, hFc, hCc⟩ := zc_cut (wc := [(a0, .inr (7, [a0g_0, .ref a0_1, a0g_2, a0g_3, a0g_4, a0g_5, a0g_6, .ref a0_7, .int a0_8, a0g_9, a0g_10]))]) hP hD hS hA [0] (by decide +kernel) rfl
      have hKc := hK.sub (tys' := []) [] rfl
      refine va_calli (va_runV (As := [.int 2]) (rest := []) ⟨hx, hb, hml, hown, hts⟩ (c_X7_refused l dC dI H.size a0 2 a0g_0 (.ref a0_1) a0g_2 a0g_3 a0g_4 a0g_5 a0g_6 (.ref a0_7) a0g_9 a0g_10 a0_8 ) (cwV 1 hts gX7_turnOf_X7_refused rfl rfl rfl zd_X7_refused ⟨Nat.le_of_ble_eq_true rfl, Nat.le_of_ble_eq_true rfl⟩) ⟨ax_blind (fun _ _ _ _ _ => trivial), zr_7 hKc hPc (q0 := 0) rfl, ax_pre hPc hKc hDc (fun _ _ => trivial)⟩ rfl rfl hl.1 rfl (lv_room (Nat.le_of_ble_eq_true rfl)) dX7_turnOf_25 ⟨Nat.le_of_ble_eq_true rfl, Nat.le_of_ble_eq_true rfl⟩) hS (fun q _ h => hFc q h) hFc (fun r25 u t H locs ht hvm hw hB hz1 hk1 hS => ?_)
      obtain ⟨v25na0_8, hP1, hK1, hD1⟩ := hB
      rw [ht] at hP1
      obtain ⟨hP, hD⟩ := zc_back (w := [(a0, .inr (7, [a0g_0, .ref a0_1, a0g_2, a0g_3, a0g_4, a0g_5, a0g_6, .ref a0_7, .int v25na0_8, a0g_9, a0g_10])), (a0_7, .inr (0, [.int a0_7_0, a0_7g_1, a0_7g_2, a0_7g_3, a0_7g_4, .int a0_7_5, .int a0_7_6, a0_7g_7, a0_7g_8, a0_7g_9, a0_7g_10, a0_7g_11, a0_7g_12, a0_7g_13, a0_7g_14])), (a0_1, .inr (5, [a0_1g_0, .int a0_1_1, a0_1g_2, a0_1g_3, a0_1g_4, a0_1g_5, a0_1g_6]))]) hP hD hCc hk1 hFc hP1 hD1 [.inr 0, .inl 1, .inl 2] (by decide +kernel) rfl
      have hw : r25 = (-1) := hw
      have hw := hw.symm
      subst hw
      exact W.iret (v := (-1)) hx hb hr (fun t ht hW => ⟨⟨(-1), (), rfl, ⟨zq70, (Int.le_trans zq71 zq72)⟩, v25na0_8, by rw [ht]; exact hP, va_K.moved hW.alike hK, hD⟩, hS.F ht⟩) hS.2.2 dX7_turnOf_28
  · obtain ⟨hw, h1_0, h1_1⟩ := hw
    subst hw
    have l1k1_a0_7_0 : (0 : Int) ≤ a0_7_0.toInt := ba0_7_0_l
    have u1k1_a0_7_0 : a0_7_0.toInt ≤ (0 : Int) := h1_1
    refine lv_if_ne (tgt := 13) hx hb dX7_turnOf_4 (by decide) (fun c4 => absurd (by decide +kernel) c4) (fun _ => ?_)
    refine lv_aload_n hx hb dX7_turnOf_7 rfl (lv_at hl 0 rfl) ?_
    refine lv_iconst (v := 1) hx hb dX7_turnOf_8 zk_iconst_1 ?_
    obtain ⟨hPc, hDc, hFc, hCc⟩ := zc_cut (wc := [(a0, .inr (7, [a0g_0, .ref a0_1, a0g_2, a0g_3, a0g_4, a0g_5, a0g_6, .ref a0_7, .int a0_8, a0g_9, a0g_10]))]) hP hD hS hA [0] (by decide +kernel) rfl
    have hKc := hK.sub (tys' := []) [] rfl
    refine va_calli (va_runV (As := [.int 1]) (rest := []) ⟨hx, hb, hml, hown, hts⟩ (c_X7_refused l dC dI H.size a0 1 a0g_0 (.ref a0_1) a0g_2 a0g_3 a0g_4 a0g_5 a0g_6 (.ref a0_7) a0g_9 a0g_10 a0_8 ) (cwV 1 hts gX7_turnOf_X7_refused rfl rfl rfl zd_X7_refused ⟨Nat.le_of_ble_eq_true rfl, Nat.le_of_ble_eq_true rfl⟩) ⟨ax_blind (fun _ _ _ _ _ => trivial), zr_7 hKc hPc (q0 := 0) rfl, ax_pre hPc hKc hDc (fun _ _ => trivial)⟩ rfl rfl hl.1 rfl (lv_room (Nat.le_of_ble_eq_true rfl)) dX7_turnOf_9 ⟨Nat.le_of_ble_eq_true rfl, Nat.le_of_ble_eq_true rfl⟩) hS (fun q _ h => hFc q h) hFc (fun r9 u t H locs ht hvm hw hB hz1 hk1 hS => ?_)
    obtain ⟨v9na0_8, hP1, hK1, hD1⟩ := hB
    rw [ht] at hP1
    obtain ⟨hP, hD⟩ := zc_back (w := [(a0, .inr (7, [a0g_0, .ref a0_1, a0g_2, a0g_3, a0g_4, a0g_5, a0g_6, .ref a0_7, .int v9na0_8, a0g_9, a0g_10])), (a0_7, .inr (0, [.int a0_7_0, a0_7g_1, a0_7g_2, a0_7g_3, a0_7g_4, .int a0_7_5, .int a0_7_6, a0_7g_7, a0_7g_8, a0_7g_9, a0_7g_10, a0_7g_11, a0_7g_12, a0_7g_13, a0_7g_14])), (a0_1, .inr (5, [a0_1g_0, .int a0_1_1, a0_1g_2, a0_1g_3, a0_1g_4, a0_1g_5, a0_1g_6]))]) hP hD hCc hk1 hFc hP1 hD1 [.inr 0, .inl 1, .inl 2] (by decide +kernel) rfl
    have hw : r9 = (-1) := hw
    have hw := hw.symm
    subst hw
    exact W.iret (v := (-1)) hx hb hr (fun t ht hW => ⟨⟨(-1), (), rfl, ⟨zq70, (Int.le_trans zq71 zq72)⟩, v9na0_8, by rw [ht]; exact hP, va_K.moved hW.alike hK, hD⟩, hS.F ht⟩) hS.2.2 dX7_turnOf_12

set_option maxHeartbeats 4000000 in
set_option maxRecDepth 100000 in
theorem c_X7_turnIn (l : Launch) (dC : Nat → ClassId) (dI : Nat → Nat → Nat) (sz : Nat) (a0 : Nat) (a1 : Int32) (a0g_0 a0g_2 a0g_3 a0g_4 a0g_5 a0g_6 a0g_9 a0g_10 : Value) (a0_1 : Nat) (a0_7 : Nat) (a0_8 : Int32) (a0_7_0 : Int32) (a0_7g_1 a0_7g_2 a0_7g_3 a0_7g_4 a0_7g_7 a0_7g_8 a0_7g_9 a0_7g_10 a0_7g_11 a0_7g_12 a0_7g_13 a0_7g_14 : Value) (a0_7_5 : Int32) (a0_7_6 : Int32) (a0_1g_0 a0_1g_2 a0_1g_3 a0_1g_4 a0_1g_5 a0_1g_6 : Value) (a0_1_1 : Int32) (ba0_7_0_l : (0 : Int) ≤ a0_7_0.toInt) (ba0_7_0_u : a0_7_0.toInt ≤ (9 : Int)) (ba0_7_5_l : (0 : Int) ≤ a0_7_5.toInt) (ba0_7_5_u : a0_7_5.toInt ≤ (8 : Int)) (ba0_7_6_l : (0 : Int) ≤ a0_7_6.toInt) (ba0_7_6_u : a0_7_6.toInt ≤ (8 : Int)) (ba0_1_1_l : (0 : Int) ≤ a0_1_1.toInt) (ba0_1_1_u : a0_1_1.toInt ≤ (8 : Int)) : Met l yX7_turnIn wsX7_turnIn ({ frames := 2, cells := 0, slots := 0, locals := 43 }) (va_Pc [.ref a0, .int a1] (ax_C dC dI sz [(a0, .inr (7, [a0g_0, .ref a0_1, a0g_2, a0g_3, a0g_4, a0g_5, a0g_6, .ref a0_7, .int a0_8, a0g_9, a0g_10])), (a0_7, .inr (0, [.int a0_7_0, a0_7g_1, a0_7g_2, a0_7g_3, a0_7g_4, .int a0_7_5, .int a0_7_6, a0_7g_7, a0_7g_8, a0_7g_9, a0_7g_10, a0_7g_11, a0_7g_12, a0_7g_13, a0_7g_14])), (a0_1, .inr (5, [a0_1g_0, .int a0_1_1, a0_1g_2, a0_1g_3, a0_1g_4, a0_1g_5, a0_1g_6]))] [] (fun _ => True))) (va_Qi (fun (r : Int32) (_ : Unit) => (-2 : Int) ≤ r.toInt ∧ r.toInt ≤ (8 : Int)) (fun (_ : Unit) (t : State) => ∃ na0_8 : Int32, ax_B dC dI (va_A [(a0, .inr (7, [a0g_0, .ref a0_1, a0g_2, a0g_3, a0g_4, a0g_5, a0g_6, .ref a0_7, .int a0_8, a0g_9, a0g_10])), (a0_7, .inr (0, [.int a0_7_0, a0_7g_1, a0_7g_2, a0_7g_3, a0_7g_4, .int a0_7_5, .int a0_7_6, a0_7g_7, a0_7g_8, a0_7g_9, a0_7g_10, a0_7g_11, a0_7g_12, a0_7g_13, a0_7g_14])), (a0_1, .inr (5, [a0_1g_0, .int a0_1_1, a0_1g_2, a0_1g_3, a0_1g_4, a0_1g_5, a0_1g_6]))] sz) [(a0, .inr (7, [a0g_0, .ref a0_1, a0g_2, a0g_3, a0g_4, a0g_5, a0g_6, .ref a0_7, .int na0_8, a0g_9, a0g_10])), (a0_7, .inr (0, [.int a0_7_0, a0_7g_1, a0_7g_2, a0_7g_3, a0_7g_4, .int a0_7_5, .int a0_7_6, a0_7g_7, a0_7g_8, a0_7g_9, a0_7g_10, a0_7g_11, a0_7g_12, a0_7g_13, a0_7g_14])), (a0_1, .inr (5, [a0_1g_0, .int a0_1_1, a0_1g_2, a0_1g_3, a0_1g_4, a0_1g_5, a0_1g_6]))] [] t) (va_A [(a0, .inr (7, [a0g_0, .ref a0_1, a0g_2, a0g_3, a0g_4, a0g_5, a0g_6, .ref a0_7, .int a0_8, a0g_9, a0g_10])), (a0_7, .inr (0, [.int a0_7_0, a0_7g_1, a0_7g_2, a0_7g_3, a0_7g_4, .int a0_7_5, .int a0_7_6, a0_7g_7, a0_7g_8, a0_7g_9, a0_7g_10, a0_7g_11, a0_7g_12, a0_7g_13, a0_7g_14])), (a0_1, .inr (5, [a0_1g_0, .int a0_1_1, a0_1g_2, a0_1g_3, a0_1g_4, a0_1g_5, a0_1g_6]))] sz)) 0 0 (va_A [(a0, .inr (7, [a0g_0, .ref a0_1, a0g_2, a0g_3, a0g_4, a0g_5, a0g_6, .ref a0_7, .int a0_8, a0g_9, a0g_10])), (a0_7, .inr (0, [.int a0_7_0, a0_7g_1, a0_7g_2, a0_7g_3, a0_7g_4, .int a0_7_5, .int a0_7_6, a0_7g_7, a0_7g_8, a0_7g_9, a0_7g_10, a0_7g_11, a0_7g_12, a0_7g_13, a0_7g_14])), (a0_1, .inr (5, [a0_1g_0, .int a0_1_1, a0_1g_2, a0_1g_3, a0_1g_4, a0_1g_5, a0_1g_6]))] sz) := by
  refine Met.ofW (cc := cX7_turnIn) (maxL := 4) (ret := (some .int)) (by decide) rfl ?_
  intro p e s m args below meth c s₁ B hml hv
  obtain ⟨rfl, hsz, hP, hK, hD0, hE⟩ := hv
  have hx := B.exec
  have hb := B.bytes
  have hr := B.returns
  have hts := atoms_spec (ws := wsX7_turnIn) B.pre
  have hown : s.vm.findClass RX7 = some m.cls := findClass_of_methodNamed B.named
  have hlocks := B.notSynchronized
  subst hsz
  have hD := hD0.self (sz := s.heap.size)
  generalize hAe : va_A [(a0, .inr (7, [a0g_0, .ref a0_1, a0g_2, a0g_3, a0g_4, a0g_5, a0g_6, .ref a0_7, .int a0_8, a0g_9, a0g_10])), (a0_7, .inr (0, [.int a0_7_0, a0_7g_1, a0_7g_2, a0_7g_3, a0_7g_4, .int a0_7_5, .int a0_7_6, a0_7g_7, a0_7g_8, a0_7g_9, a0_7g_10, a0_7g_11, a0_7g_12, a0_7g_13, a0_7g_14])), (a0_1, .inr (5, [a0_1g_0, .int a0_1_1, a0_1g_2, a0_1g_3, a0_1g_4, a0_1g_5, a0_1g_6]))] s.heap.size = A at hD ⊢
  have hA : ∀ q : Nat, s.heap.size ≤ q → A q := fun q h => by rw [← hAe]; exact Or.inr h
  have hS : va_S A s.heap s.heap [] := va_S.rf
  have hP : va_P (dC, dI) vwCl [(a0, .inr (7, [a0g_0, .ref a0_1, a0g_2, a0g_3, a0g_4, a0g_5, a0g_6, .ref a0_7, .int a0_8, a0g_9, a0g_10])), (a0_7, .inr (0, [.int a0_7_0, a0_7g_1, a0_7g_2, a0_7g_3, a0_7g_4, .int a0_7_5, .int a0_7_6, a0_7g_7, a0_7g_8, a0_7g_9, a0_7g_10, a0_7g_11, a0_7g_12, a0_7g_13, a0_7g_14])), (a0_1, .inr (5, [a0_1g_0, .int a0_1_1, a0_1g_2, a0_1g_3, a0_1g_4, a0_1g_5, a0_1g_6]))] s.heap := hP
  have hl := lv_entry ([.ref a0, .int a1]) (n := 4) (Nat.le_of_ble_eq_true rfl)
  rw [lg_entry_eq]
  generalize (lg_sl ([.ref a0, .int a1]) ++ List.replicate (4 - (lg_sl ([.ref a0, .int a1])).length) Slot.unset).toArray = ls at hl ⊢
  have hl : lv_has ls 4 [(0, .ref a0), (1, .int a1)] := hl
  refine ai_open (fun K hK0 => ?_)
  refine (hK0 _ _ _).mpr ?_
  refine lv_aload_n hx hb dX7_turnIn_0 rfl (lv_at hl 0 rfl) ?_
  refine lv_iload_n hx hb dX7_turnIn_1 rfl (lv_at hl 1 rfl) ?_
  obtain ⟨hPc, hDc, hFc, hCc⟩ := zc_cut (wc := [(a0, .inr (7, [a0g_0, .ref a0_1, a0g_2, a0g_3, a0g_4, a0g_5, a0g_6, .ref a0_7, .int a0_8, a0g_9, a0g_10])), (a0_7, .inr (0, [.int a0_7_0, a0_7g_1, a0_7g_2, a0_7g_3, a0_7g_4, .int a0_7_5, .int a0_7_6, a0_7g_7, a0_7g_8, a0_7g_9, a0_7g_10, a0_7g_11, a0_7g_12, a0_7g_13, a0_7g_14]))]) hP hD hS hA [0, 1] (by decide +kernel) rfl
  have hKc := hK.sub (tys' := []) [] rfl
  refine va_calli (va_runV (As := [.int a1]) (rest := []) ⟨hx, hb, hml, hown, hts⟩ (c_X7_isFigure l dC dI s.heap.size a0 a1 a0g_0 (.ref a0_1) a0g_2 a0g_3 a0g_4 a0g_5 a0g_6 (.int a0_8) a0g_9 a0g_10 a0_7 a0_7_0 a0_7g_1 a0_7g_2 a0_7g_3 a0_7g_4 (.int a0_7_5) (.int a0_7_6) a0_7g_7 a0_7g_8 a0_7g_9 a0_7g_10 a0_7g_11 a0_7g_12 a0_7g_13 a0_7g_14 ba0_7_0_l ba0_7_0_u) (cwV 1 hts gX7_turnIn_X7_isFigure rfl rfl rfl zd_X7_isFigure ⟨Nat.le_of_ble_eq_true rfl, Nat.le_of_ble_eq_true rfl⟩) ⟨ax_blind (fun _ _ _ _ _ => trivial), zr_7 hKc hPc (q0 := 0) rfl, ax_pre hPc hKc hDc (fun _ _ => trivial)⟩ rfl rfl hl.1 rfl (lv_room (Nat.le_of_ble_eq_true rfl)) dX7_turnIn_2 ⟨Nat.le_of_ble_eq_true rfl, Nat.le_of_ble_eq_true rfl⟩) hS (fun q _ h => hFc q h) hFc (fun r2 u t H locs ht hvm hw hB hz1 hk1 hS => ?_)
  obtain ⟨hP1, hK1, hD1⟩ := hB
  rw [ht] at hP1
  obtain ⟨hP, hD⟩ := zc_back (w := [(a0, .inr (7, [a0g_0, .ref a0_1, a0g_2, a0g_3, a0g_4, a0g_5, a0g_6, .ref a0_7, .int a0_8, a0g_9, a0g_10])), (a0_7, .inr (0, [.int a0_7_0, a0_7g_1, a0_7g_2, a0_7g_3, a0_7g_4, .int a0_7_5, .int a0_7_6, a0_7g_7, a0_7g_8, a0_7g_9, a0_7g_10, a0_7g_11, a0_7g_12, a0_7g_13, a0_7g_14])), (a0_1, .inr (5, [a0_1g_0, .int a0_1_1, a0_1g_2, a0_1g_3, a0_1g_4, a0_1g_5, a0_1g_6]))]) hP hD hCc hk1 hFc hP1 hD1 [.inr 0, .inr 1, .inl 2] (by decide +kernel) rfl
  rcases hw with hw | hw
  · obtain ⟨hw, h2_0, h2_1, h2_2, h2_3⟩ := hw
    subst hw
    have l2k0_a1 : (0 : Int) ≤ a1.toInt := h2_0
    have u2k0_a1 : a1.toInt ≤ (8 : Int) := h2_1
    have l2k0_a0_7_0 : (1 : Int) ≤ a0_7_0.toInt := h2_2
    have u2k0_a0_7_0 : a0_7_0.toInt ≤ (9 : Int) := ba0_7_0_u
    refine lv_if_ne (tgt := 14) hx hb dX7_turnIn_5 (by decide) (fun _ => ?_) (fun c5 => absurd c5 (by decide +kernel))
    refine lv_aload_n hx hb dX7_turnIn_14 rfl (lv_at hl 0 rfl) ?_
    refine va_get (D := (dC, dI)) (ci := 7) (v := .ref a0_1) (C := RX7) (T := TX7) (N := 11) hx hb hts zi_X7_turnIn_7 hown hK hP 0 rfl rfl 1 (by decide) (hts (.fieldLink RX7 19 "WaxTurns" "now" "LWaxTurns$Scene;") (zm_X7_turnIn_r1 (List.mem_of_getElem? (i := 0) rfl))) (fun _ h9 => h9) rfl dX7_turnIn_15 ?_
    refine va_get (D := (dC, dI)) (ci := 5) (v := .int a0_1_1) (C := RX5) (T := TX5) (N := 7) hx hb hts zi_X7_turnIn_5 hown hK hP 2 rfl rfl 1 (by decide) (hts (.fieldLink RX7 158 "WaxTurns$Scene" "turn" "I") (zm_X7_turnIn_r1 (List.mem_of_getElem? (i := 1) rfl))) (fun _ h9 => h9) rfl dX7_turnIn_18 ?_
    refine lv_istore_n (lv' := [(2, .int a0_1_1), (0, .ref a0), (1, .int a1)]) hx hb dX7_turnIn_21 rfl hl (by decide) rfl (fun ls hl => ?_)
    refine lv_iconst (v := 0) hx hb dX7_turnIn_22 zk_iconst_0 ?_
    refine lv_istore_n (lv' := [(3, .int 0), (2, .int a0_1_1), (0, .ref a0), (1, .int a1)]) hx hb dX7_turnIn_23 rfl hl (by decide) rfl (fun ls hl => ?_)
    have J24 : ∀ (n : Nat) (j24l3 : Int32) (j24l2 : Int32) (H : Heap) (locs : List Loc) (ls : Array Slot), (10 : Int) - j24l3.toInt ≤ (n : Int) → (0 : Int) ≤ j24l3.toInt → j24l3.toInt ≤ (9 : Int) → (0 : Int) ≤ j24l2.toInt → j24l2.toInt ≤ (8 : Int) → va_P (dC, dI) vwCl [(a0, .inr (7, [a0g_0, .ref a0_1, a0g_2, a0g_3, a0g_4, a0g_5, a0g_6, .ref a0_7, .int a0_8, a0g_9, a0g_10])), (a0_7, .inr (0, [.int a0_7_0, a0_7g_1, a0_7g_2, a0_7g_3, a0_7g_4, .int a0_7_5, .int a0_7_6, a0_7g_7, a0_7g_8, a0_7g_9, a0_7g_10, a0_7g_11, a0_7g_12, a0_7g_13, a0_7g_14])), (a0_1, .inr (5, [a0_1g_0, .int a0_1_1, a0_1g_2, a0_1g_3, a0_1g_4, a0_1g_5, a0_1g_6]))] H → va_D A [(a0, .inr (7, [a0g_0, .ref a0_1, a0g_2, a0g_3, a0g_4, a0g_5, a0g_6, .ref a0_7, .int a0_8, a0g_9, a0g_10])), (a0_7, .inr (0, [.int a0_7_0, a0_7g_1, a0_7g_2, a0_7g_3, a0_7g_4, .int a0_7_5, .int a0_7_6, a0_7g_7, a0_7g_8, a0_7g_9, a0_7g_10, a0_7g_11, a0_7g_12, a0_7g_13, a0_7g_14])), (a0_1, .inr (5, [a0_1g_0, .int a0_1_1, a0_1g_2, a0_1g_3, a0_1g_4, a0_1g_5, a0_1g_6]))] → va_S A s.heap H locs → lv_has ls 4 [(0, .ref a0), (1, .int a1), (2, .int j24l2), (3, .int j24l3)] → K H locs (F0 m 24 ls []) := by
      intro n
      induction n with
      | zero =>
        intro j24l3 j24l2 H locs ls hm bj24l3_l bj24l3_u bj24l2_l bj24l2_u hP hD hS hl
        have h8 := ai_min j24l3
        have h9 := ai_max j24l3
        exact absurd hm (by omega)
      | succ n ih24 =>
        intro j24l3 j24l2 H locs ls hm bj24l3_l bj24l3_u bj24l2_l bj24l2_u hP hD hS hl
        refine (hK0 _ _ _).mpr ?_
        have hm24 := hm
        refine lv_iload_n hx hb dX7_turnIn_24 rfl (lv_at hl 3 rfl) ?_
        refine lv_aload_n hx hb dX7_turnIn_25 rfl (lv_at hl 0 rfl) ?_
        refine va_get (D := (dC, dI)) (ci := 7) (v := .ref a0_7) (C := RX7) (T := TX7) (N := 11) hx hb hts zi_X7_turnIn_7 hown hK hP 0 rfl rfl 7 (by decide) (hts (.fieldLink RX7 57 "WaxTurns" "hall" "LWaxTurns$Hall;") (zm_X7_turnIn_r1 (List.mem_of_getElem? (i := 2) rfl))) (fun _ h9 => h9) rfl dX7_turnIn_26 ?_
        refine va_get (D := (dC, dI)) (ci := 0) (v := .int a0_7_0) (C := RX0) (T := TX0) (N := 15) hx hb hts zi_X7_turnIn_0 hown hK hP 1 rfl rfl 0 (by decide) (hts (.fieldLink RX7 110 "WaxTurns$Hall" "figures" "I") (zm_X7_turnIn_r1 (List.mem_of_getElem? (i := 3) rfl))) (fun _ h9 => h9) rfl dX7_turnIn_29 ?_
        refine lv_icmp_ge (tgt := 61) hx hb dX7_turnIn_32 (by decide) (fun c32 => ?_) (fun c32 => ?_)
        · have gc32 := ai_le c32
          have u32t_a0_7_0 : a0_7_0.toInt ≤ (9 : Int) := u2k0_a0_7_0
          have l32t_j24l3 : (1 : Int) ≤ j24l3.toInt := Int.le_trans l2k0_a0_7_0 gc32
          refine lv_aload_n hx hb dX7_turnIn_61 rfl (lv_at hl 0 rfl) ?_
          refine lv_bipush (v := (-2)) hx hb dX7_turnIn_62 zk_bipush_n2 ?_
          obtain ⟨hPc, hDc, hFc, hCc⟩ := zc_cut (wc := [(a0, .inr (7, [a0g_0, .ref a0_1, a0g_2, a0g_3, a0g_4, a0g_5, a0g_6, .ref a0_7, .int a0_8, a0g_9, a0g_10]))]) hP hD hS hA [0] (by decide +kernel) rfl
          have hKc := hK.sub (tys' := []) [] rfl
          refine va_calli (va_runV (As := [.int (-2)]) (rest := []) ⟨hx, hb, hml, hown, hts⟩ (c_X7_answered l dC dI H.size a0 (-2) a0g_0 (.ref a0_1) a0g_2 a0g_3 a0g_4 a0g_5 a0g_6 (.ref a0_7) a0g_9 a0g_10 a0_8 ) (cwV 1 hts gX7_turnIn_X7_answered rfl rfl rfl zd_X7_answered ⟨Nat.le_of_ble_eq_true rfl, Nat.le_of_ble_eq_true rfl⟩) ⟨ax_blind (fun _ _ _ _ _ => trivial), zr_7 hKc hPc (q0 := 0) rfl, ax_pre hPc hKc hDc (fun _ _ => trivial)⟩ rfl rfl hl.1 rfl (lv_room (Nat.le_of_ble_eq_true rfl)) dX7_turnIn_64 ⟨Nat.le_of_ble_eq_true rfl, Nat.le_of_ble_eq_true rfl⟩) hS (fun q _ h => hFc q h) hFc (fun r64 u t H locs ht hvm hw hB hz1 hk1 hS => ?_)
          obtain ⟨v64na0_8, hP1, hK1, hD1⟩ := hB
          rw [ht] at hP1
          obtain ⟨hP, hD⟩ := zc_back (w := [(a0, .inr (7, [a0g_0, .ref a0_1, a0g_2, a0g_3, a0g_4, a0g_5, a0g_6, .ref a0_7, .int v64na0_8, a0g_9, a0g_10])), (a0_7, .inr (0, [.int a0_7_0, a0_7g_1, a0_7g_2, a0_7g_3, a0_7g_4, .int a0_7_5, .int a0_7_6, a0_7g_7, a0_7g_8, a0_7g_9, a0_7g_10, a0_7g_11, a0_7g_12, a0_7g_13, a0_7g_14])), (a0_1, .inr (5, [a0_1g_0, .int a0_1_1, a0_1g_2, a0_1g_3, a0_1g_4, a0_1g_5, a0_1g_6]))]) hP hD hCc hk1 hFc hP1 hD1 [.inr 0, .inl 1, .inl 2] (by decide +kernel) rfl
          have hw : r64 = (-2) := hw
          have hw := hw.symm
          subst hw
          exact W.iret (v := (-2)) hx hb hr (fun t ht hW => ⟨⟨(-2), (), rfl, ⟨zq45, (Int.le_trans zq44 zq74)⟩, v64na0_8, by rw [ht]; exact hP, va_K.moved hW.alike hK, hD⟩, hS.F ht⟩) hS.2.2 dX7_turnIn_67
        · have gc32 := ai_nle c32
          have u32f_j24l3 : j24l3.toInt ≤ (8 : Int) := ai_lthi gc32 u2k0_a0_7_0
          have l32f_a0_7_0 : (1 : Int) ≤ a0_7_0.toInt := l2k0_a0_7_0
          refine lv_iload_n hx hb dX7_turnIn_35 rfl (lv_at hl 2 rfl) ?_
          refine lv_iload_n hx hb dX7_turnIn_36 rfl (lv_at hl 1 rfl) ?_
          refine lv_icmp_ne (tgt := 46) hx hb dX7_turnIn_37 (by decide) (fun c37 => ?_) (fun c37 => ?_)
          · have gc37 := ai_ne c37
            refine lv_aload_n hx hb dX7_turnIn_46 rfl (lv_at hl 0 rfl) ?_
            refine va_get (D := (dC, dI)) (ci := 7) (v := .ref a0_7) (C := RX7) (T := TX7) (N := 11) hx hb hts zi_X7_turnIn_7 hown hK hP 0 rfl rfl 7 (by decide) (hts (.fieldLink RX7 57 "WaxTurns" "hall" "LWaxTurns$Hall;") (zm_X7_turnIn_r1 (List.mem_of_getElem? (i := 2) rfl))) (fun _ h9 => h9) rfl dX7_turnIn_47 ?_
            refine lv_iload_n hx hb dX7_turnIn_50 rfl (lv_at hl 2 rfl) ?_
            obtain ⟨hPc, hDc, hFc, hCc⟩ := zc_cut (wc := [(a0_7, .inr (0, [.int a0_7_0, a0_7g_1, a0_7g_2, a0_7g_3, a0_7g_4, .int a0_7_5, .int a0_7_6, a0_7g_7, a0_7g_8, a0_7g_9, a0_7g_10, a0_7g_11, a0_7g_12, a0_7g_13, a0_7g_14]))]) hP hD hS hA [1] (by decide +kernel) rfl
            have hKc := hK.sub (tys' := []) [] rfl
            refine va_calli (va_runV (As := [.int j24l2]) (rest := []) ⟨hx, hb, hml, hown, hts⟩ (c_X0_next l dC dI H.size a0_7 j24l2 a0_7_0 a0_7g_1 a0_7g_2 a0_7g_3 a0_7g_4 a0_7g_7 a0_7g_8 a0_7g_9 a0_7g_10 a0_7g_11 a0_7g_12 a0_7g_13 a0_7g_14 a0_7_5 a0_7_6 bj24l2_l bj24l2_u (Int.le_trans zq4 l32f_a0_7_0) u2k0_a0_7_0 ba0_7_5_l ba0_7_5_u ba0_7_6_l ba0_7_6_u) (cwV 1 hts gX7_turnIn_X0_next rfl rfl rfl zd_X0_next ⟨Nat.le_of_ble_eq_true rfl, Nat.le_of_ble_eq_true rfl⟩) ⟨ax_blind (fun _ _ _ _ _ => trivial), zr_0 hKc hPc (q0 := 0) rfl, ax_pre hPc hKc hDc (fun _ _ => trivial)⟩ rfl rfl hl.1 rfl (lv_room (Nat.le_of_ble_eq_true rfl)) dX7_turnIn_51 ⟨Nat.le_of_ble_eq_true rfl, Nat.le_of_ble_eq_true rfl⟩) hS (fun q _ h => hFc q h) hFc (fun r51 u t H locs ht hvm hw hB hz1 hk1 hS => ?_)
            obtain ⟨hP1, hK1, hD1⟩ := hB
            rw [ht] at hP1
            obtain ⟨hP, hD⟩ := zc_back (w := [(a0, .inr (7, [a0g_0, .ref a0_1, a0g_2, a0g_3, a0g_4, a0g_5, a0g_6, .ref a0_7, .int a0_8, a0g_9, a0g_10])), (a0_7, .inr (0, [.int a0_7_0, a0_7g_1, a0_7g_2, a0_7g_3, a0_7g_4, .int a0_7_5, .int a0_7_6, a0_7g_7, a0_7g_8, a0_7g_9, a0_7g_10, a0_7g_11, a0_7g_12, a0_7g_13, a0_7g_14])), (a0_1, .inr (5, [a0_1g_0, .int a0_1_1, a0_1g_2, a0_1g_3, a0_1g_4, a0_1g_5, a0_1g_6]))]) hP hD hCc hk1 hFc hP1 hD1 [.inl 0, .inr 0, .inl 2] (by decide +kernel) rfl
            have hw : (0 : Int) ≤ r51.toInt ∧ r51.toInt ≤ (8 : Int) := hw
            obtain ⟨h51_0, h51_1⟩ := hw
            refine lv_istore_n (lv' := [(2, .int r51), (0, .ref a0), (1, .int a1), (3, .int j24l3)]) hx hb dX7_turnIn_54 rfl hl (by decide) rfl (fun ls hl => ?_)
            obtain ⟨x55, ex55⟩ : ∃ y : Int32, y = j24l3 + Int32.ofInt 1 := ⟨_, rfl⟩
            have qx55 : x55.toInt = j24l3.toInt + 1 := ai_inc ex55 (by decide) (by decide) u32f_j24l3 (by decide)
            have bx55 : (1 : Int) ≤ x55.toInt ∧ x55.toInt ≤ 9 := ⟨by rw [qx55]; exact Int.add_le_add bj24l3_l (Int.le_refl _), by rw [qx55]; exact Int.add_le_add u32f_j24l3 (Int.le_refl _)⟩
            refine lv_iinc (v := x55) (lv' := [(3, .int x55), (2, .int r51), (0, .ref a0), (1, .int a1)]) hx hb dX7_turnIn_55 hl (k := 3) rfl ex55.symm (by decide) rfl (fun ls hl => ?_)
            refine lv_goto (tgt := 24) hx hb dX7_turnIn_58 (by decide) ?_
            exact (hK0 _ _ _).mp (ih24 x55 r51 _ _ _ (by have h0 := qx55; omega) (Int.le_trans zq4 bx55.1) bx55.2 h51_0 h51_1 hP hD hS (lv_sub hl [2, 3, 1, 0] rfl))
          · have gc37 := ai_eq c37
            have u37f_j24l2 : j24l2.toInt ≤ (8 : Int) := bj24l2_u
            have l37f_j24l2 : (0 : Int) ≤ j24l2.toInt := bj24l2_l
            have u37f_a1 : a1.toInt ≤ (8 : Int) := u2k0_a1
            have l37f_a1 : (0 : Int) ≤ a1.toInt := l2k0_a1
            refine lv_aload_n hx hb dX7_turnIn_40 rfl (lv_at hl 0 rfl) ?_
            refine lv_iload_n hx hb dX7_turnIn_41 rfl (lv_at hl 3 rfl) ?_
            obtain ⟨hPc, hDc, hFc, hCc⟩ := zc_cut (wc := [(a0, .inr (7, [a0g_0, .ref a0_1, a0g_2, a0g_3, a0g_4, a0g_5, a0g_6, .ref a0_7, .int a0_8, a0g_9, a0g_10]))]) hP hD hS hA [0] (by decide +kernel) rfl
            have hKc := hK.sub (tys' := []) [] rfl
            refine va_calli (va_runV (As := [.int j24l3]) (rest := []) ⟨hx, hb, hml, hown, hts⟩ (c_X7_answered l dC dI H.size a0 j24l3 a0g_0 (.ref a0_1) a0g_2 a0g_3 a0g_4 a0g_5 a0g_6 (.ref a0_7) a0g_9 a0g_10 a0_8 ) (cwV 1 hts gX7_turnIn_X7_answered rfl rfl rfl zd_X7_answered ⟨Nat.le_of_ble_eq_true rfl, Nat.le_of_ble_eq_true rfl⟩) ⟨ax_blind (fun _ _ _ _ _ => trivial), zr_7 hKc hPc (q0 := 0) rfl, ax_pre hPc hKc hDc (fun _ _ => trivial)⟩ rfl rfl hl.1 rfl (lv_room (Nat.le_of_ble_eq_true rfl)) dX7_turnIn_42 ⟨Nat.le_of_ble_eq_true rfl, Nat.le_of_ble_eq_true rfl⟩) hS (fun q _ h => hFc q h) hFc (fun r42 u t H locs ht hvm hw hB hz1 hk1 hS => ?_)
            obtain ⟨v42na0_8, hP1, hK1, hD1⟩ := hB
            rw [ht] at hP1
            obtain ⟨hP, hD⟩ := zc_back (w := [(a0, .inr (7, [a0g_0, .ref a0_1, a0g_2, a0g_3, a0g_4, a0g_5, a0g_6, .ref a0_7, .int v42na0_8, a0g_9, a0g_10])), (a0_7, .inr (0, [.int a0_7_0, a0_7g_1, a0_7g_2, a0_7g_3, a0_7g_4, .int a0_7_5, .int a0_7_6, a0_7g_7, a0_7g_8, a0_7g_9, a0_7g_10, a0_7g_11, a0_7g_12, a0_7g_13, a0_7g_14])), (a0_1, .inr (5, [a0_1g_0, .int a0_1_1, a0_1g_2, a0_1g_3, a0_1g_4, a0_1g_5, a0_1g_6]))]) hP hD hCc hk1 hFc hP1 hD1 [.inr 0, .inl 1, .inl 2] (by decide +kernel) rfl
            have hw : r42 = j24l3 := hw
            have hw := hw.symm
            subst hw
            exact W.iret (v := j24l3) hx hb hr (fun t ht hW => ⟨⟨j24l3, (), rfl, ⟨(Int.le_trans zq75 bj24l3_l), u32f_j24l3⟩, v42na0_8, by rw [ht]; exact hP, va_K.moved hW.alike hK, hD⟩, hS.F ht⟩) hS.2.2 dX7_turnIn_45
    exact (hK0 _ _ _).mp (J24 10 0 a0_1_1 _ _ _ (by have h1 : (0 : Int) ≤ (0 : Int32).toInt := zq5; have h2 : (0 : Int32).toInt ≤ (0 : Int) := zq6; omega) zq5 (Int.le_trans zq6 zq7) ba0_1_1_l ba0_1_1_u hP hD hS (lv_sub hl [2, 3, 1, 0] rfl))
  · subst hw
    refine lv_if_ne (tgt := 14) hx hb dX7_turnIn_5 (by decide) (fun c5 => absurd (by decide +kernel) c5) (fun _ => ?_)
    refine lv_aload_n hx hb dX7_turnIn_8 rfl (lv_at hl 0 rfl) ?_
    refine lv_iconst (v := 1) hx hb dX7_turnIn_9 zk_iconst_1 ?_
    obtain ⟨hPc, hDc, hFc, hCc⟩ := zc_cut (wc := [(a0, .inr (7, [a0g_0, .ref a0_1, a0g_2, a0g_3, a0g_4, a0g_5, a0g_6, .ref a0_7, .int a0_8, a0g_9, a0g_10]))]) hP hD hS hA [0] (by decide +kernel) rfl
    have hKc := hK.sub (tys' := []) [] rfl
    refine va_calli (va_runV (As := [.int 1]) (rest := []) ⟨hx, hb, hml, hown, hts⟩ (c_X7_refused l dC dI H.size a0 1 a0g_0 (.ref a0_1) a0g_2 a0g_3 a0g_4 a0g_5 a0g_6 (.ref a0_7) a0g_9 a0g_10 a0_8 ) (cwV 1 hts gX7_turnIn_X7_refused rfl rfl rfl zd_X7_refused ⟨Nat.le_of_ble_eq_true rfl, Nat.le_of_ble_eq_true rfl⟩) ⟨ax_blind (fun _ _ _ _ _ => trivial), zr_7 hKc hPc (q0 := 0) rfl, ax_pre hPc hKc hDc (fun _ _ => trivial)⟩ rfl rfl hl.1 rfl (lv_room (Nat.le_of_ble_eq_true rfl)) dX7_turnIn_10 ⟨Nat.le_of_ble_eq_true rfl, Nat.le_of_ble_eq_true rfl⟩) hS (fun q _ h => hFc q h) hFc (fun r10 u t H locs ht hvm hw hB hz1 hk1 hS => ?_)
    obtain ⟨v10na0_8, hP1, hK1, hD1⟩ := hB
    rw [ht] at hP1
    obtain ⟨hP, hD⟩ := zc_back (w := [(a0, .inr (7, [a0g_0, .ref a0_1, a0g_2, a0g_3, a0g_4, a0g_5, a0g_6, .ref a0_7, .int v10na0_8, a0g_9, a0g_10])), (a0_7, .inr (0, [.int a0_7_0, a0_7g_1, a0_7g_2, a0_7g_3, a0_7g_4, .int a0_7_5, .int a0_7_6, a0_7g_7, a0_7g_8, a0_7g_9, a0_7g_10, a0_7g_11, a0_7g_12, a0_7g_13, a0_7g_14])), (a0_1, .inr (5, [a0_1g_0, .int a0_1_1, a0_1g_2, a0_1g_3, a0_1g_4, a0_1g_5, a0_1g_6]))]) hP hD hCc hk1 hFc hP1 hD1 [.inr 0, .inl 1, .inl 2] (by decide +kernel) rfl
    have hw : r10 = (-1) := hw
    have hw := hw.symm
    subst hw
    exact W.iret (v := (-1)) hx hb hr (fun t ht hW => ⟨⟨(-1), (), rfl, ⟨(Int.le_trans zq76 zq70), (Int.le_trans zq71 zq72)⟩, v10na0_8, by rw [ht]; exact hP, va_K.moved hW.alike hK, hD⟩, hS.F ht⟩) hS.2.2 dX7_turnIn_13

set_option maxHeartbeats 4000000 in
set_option maxRecDepth 100000 in
theorem c_X7_settles (l : Launch) (dC : Nat → ClassId) (dI : Nat → Nat → Nat) (sz : Nat) (a0 : Nat) (a0g_0 a0g_2 a0g_3 a0g_4 a0g_5 a0g_6 a0g_9 a0g_10 : Value) (a0_1 : Nat) (a0_7 : Nat) (a0_8 : Int32) (a0_7_0 : Int32) (a0_7g_1 a0_7g_2 a0_7g_3 a0_7g_4 a0_7g_7 a0_7g_8 a0_7g_9 a0_7g_10 a0_7g_11 a0_7g_12 a0_7g_13 a0_7g_14 : Value) (a0_7_5 : Int32) (a0_7_6 : Int32) (a0_1g_0 a0_1g_2 a0_1g_3 a0_1g_4 a0_1g_5 a0_1g_6 : Value) (a0_1_1 : Int32) (ba0_7_0_l : (0 : Int) ≤ a0_7_0.toInt) (ba0_7_0_u : a0_7_0.toInt ≤ (9 : Int)) (ba0_7_5_l : (0 : Int) ≤ a0_7_5.toInt) (ba0_7_5_u : a0_7_5.toInt ≤ (8 : Int)) (ba0_7_6_l : (0 : Int) ≤ a0_7_6.toInt) (ba0_7_6_u : a0_7_6.toInt ≤ (8 : Int)) (ba0_1_1_l : (0 : Int) ≤ a0_1_1.toInt) (ba0_1_1_u : a0_1_1.toInt ≤ (8 : Int)) : Met l yX7_settles wsX7_settles ({ frames := 3, cells := 0, slots := 0, locals := 72 }) (va_Pc [.ref a0] (ax_C dC dI sz [(a0, .inr (7, [a0g_0, .ref a0_1, a0g_2, a0g_3, a0g_4, a0g_5, a0g_6, .ref a0_7, .int a0_8, a0g_9, a0g_10])), (a0_7, .inr (0, [.int a0_7_0, a0_7g_1, a0_7g_2, a0_7g_3, a0_7g_4, .int a0_7_5, .int a0_7_6, a0_7g_7, a0_7g_8, a0_7g_9, a0_7g_10, a0_7g_11, a0_7g_12, a0_7g_13, a0_7g_14])), (a0_1, .inr (5, [a0_1g_0, .int a0_1_1, a0_1g_2, a0_1g_3, a0_1g_4, a0_1g_5, a0_1g_6]))] [] (fun _ => True))) (va_Qi (fun (r : Int32) (_ : Unit) => (-1 : Int) ≤ r.toInt ∧ r.toInt ≤ (9 : Int)) (fun (_ : Unit) (t : State) => ∃ na0_8 : Int32, ax_B dC dI (va_A [(a0, .inr (7, [a0g_0, .ref a0_1, a0g_2, a0g_3, a0g_4, a0g_5, a0g_6, .ref a0_7, .int a0_8, a0g_9, a0g_10])), (a0_7, .inr (0, [.int a0_7_0, a0_7g_1, a0_7g_2, a0_7g_3, a0_7g_4, .int a0_7_5, .int a0_7_6, a0_7g_7, a0_7g_8, a0_7g_9, a0_7g_10, a0_7g_11, a0_7g_12, a0_7g_13, a0_7g_14])), (a0_1, .inr (5, [a0_1g_0, .int a0_1_1, a0_1g_2, a0_1g_3, a0_1g_4, a0_1g_5, a0_1g_6]))] sz) [(a0, .inr (7, [a0g_0, .ref a0_1, a0g_2, a0g_3, a0g_4, a0g_5, a0g_6, .ref a0_7, .int na0_8, a0g_9, a0g_10])), (a0_7, .inr (0, [.int a0_7_0, a0_7g_1, a0_7g_2, a0_7g_3, a0_7g_4, .int a0_7_5, .int a0_7_6, a0_7g_7, a0_7g_8, a0_7g_9, a0_7g_10, a0_7g_11, a0_7g_12, a0_7g_13, a0_7g_14])), (a0_1, .inr (5, [a0_1g_0, .int a0_1_1, a0_1g_2, a0_1g_3, a0_1g_4, a0_1g_5, a0_1g_6]))] [] t) (va_A [(a0, .inr (7, [a0g_0, .ref a0_1, a0g_2, a0g_3, a0g_4, a0g_5, a0g_6, .ref a0_7, .int a0_8, a0g_9, a0g_10])), (a0_7, .inr (0, [.int a0_7_0, a0_7g_1, a0_7g_2, a0_7g_3, a0_7g_4, .int a0_7_5, .int a0_7_6, a0_7g_7, a0_7g_8, a0_7g_9, a0_7g_10, a0_7g_11, a0_7g_12, a0_7g_13, a0_7g_14])), (a0_1, .inr (5, [a0_1g_0, .int a0_1_1, a0_1g_2, a0_1g_3, a0_1g_4, a0_1g_5, a0_1g_6]))] sz)) 0 0 (va_A [(a0, .inr (7, [a0g_0, .ref a0_1, a0g_2, a0g_3, a0g_4, a0g_5, a0g_6, .ref a0_7, .int a0_8, a0g_9, a0g_10])), (a0_7, .inr (0, [.int a0_7_0, a0_7g_1, a0_7g_2, a0_7g_3, a0_7g_4, .int a0_7_5, .int a0_7_6, a0_7g_7, a0_7g_8, a0_7g_9, a0_7g_10, a0_7g_11, a0_7g_12, a0_7g_13, a0_7g_14])), (a0_1, .inr (5, [a0_1g_0, .int a0_1_1, a0_1g_2, a0_1g_3, a0_1g_4, a0_1g_5, a0_1g_6]))] sz) := by
  refine Met.ofW (cc := cX7_settles) (maxL := 3) (ret := (some .int)) (by decide) rfl ?_
  intro p e s m args below meth c s₁ B hml hv
  obtain ⟨rfl, hsz, hP, hK, hD0, hE⟩ := hv
  have hx := B.exec
  have hb := B.bytes
  have hr := B.returns
  have hts := atoms_spec (ws := wsX7_settles) B.pre
  have hown : s.vm.findClass RX7 = some m.cls := findClass_of_methodNamed B.named
  have hlocks := B.notSynchronized
  subst hsz
  have hD := hD0.self (sz := s.heap.size)
  generalize hAe : va_A [(a0, .inr (7, [a0g_0, .ref a0_1, a0g_2, a0g_3, a0g_4, a0g_5, a0g_6, .ref a0_7, .int a0_8, a0g_9, a0g_10])), (a0_7, .inr (0, [.int a0_7_0, a0_7g_1, a0_7g_2, a0_7g_3, a0_7g_4, .int a0_7_5, .int a0_7_6, a0_7g_7, a0_7g_8, a0_7g_9, a0_7g_10, a0_7g_11, a0_7g_12, a0_7g_13, a0_7g_14])), (a0_1, .inr (5, [a0_1g_0, .int a0_1_1, a0_1g_2, a0_1g_3, a0_1g_4, a0_1g_5, a0_1g_6]))] s.heap.size = A at hD ⊢
  have hA : ∀ q : Nat, s.heap.size ≤ q → A q := fun q h => by rw [← hAe]; exact Or.inr h
  have hS : va_S A s.heap s.heap [] := va_S.rf
  have hP : va_P (dC, dI) vwCl [(a0, .inr (7, [a0g_0, .ref a0_1, a0g_2, a0g_3, a0g_4, a0g_5, a0g_6, .ref a0_7, .int a0_8, a0g_9, a0g_10])), (a0_7, .inr (0, [.int a0_7_0, a0_7g_1, a0_7g_2, a0_7g_3, a0_7g_4, .int a0_7_5, .int a0_7_6, a0_7g_7, a0_7g_8, a0_7g_9, a0_7g_10, a0_7g_11, a0_7g_12, a0_7g_13, a0_7g_14])), (a0_1, .inr (5, [a0_1g_0, .int a0_1_1, a0_1g_2, a0_1g_3, a0_1g_4, a0_1g_5, a0_1g_6]))] s.heap := hP
  have hl := lv_entry ([.ref a0]) (n := 3) (Nat.le_of_ble_eq_true rfl)
  rw [lg_entry_eq]
  generalize (lg_sl ([.ref a0]) ++ List.replicate (3 - (lg_sl ([.ref a0])).length) Slot.unset).toArray = ls at hl ⊢
  have hl : lv_has ls 3 [(0, .ref a0)] := hl
  refine ai_open (fun K hK0 => ?_)
  refine (hK0 _ _ _).mpr ?_
  refine lv_aload_n hx hb dX7_settles_0 rfl (lv_at hl 0 rfl) ?_
  obtain ⟨hPc, hDc, hFc, hCc⟩ := zc_cut (wc := [(a0, .inr (7, [a0g_0, .ref a0_1, a0g_2, a0g_3, a0g_4, a0g_5, a0g_6, .ref a0_7, .int a0_8, a0g_9, a0g_10])), (a0_7, .inr (0, [.int a0_7_0, a0_7g_1, a0_7g_2, a0_7g_3, a0_7g_4, .int a0_7_5, .int a0_7_6, a0_7g_7, a0_7g_8, a0_7g_9, a0_7g_10, a0_7g_11, a0_7g_12, a0_7g_13, a0_7g_14]))]) hP hD hS hA [0, 1] (by decide +kernel) rfl
  have hKc := hK.sub (tys' := []) [] rfl
  refine va_calli (va_runV (As := []) (rest := []) ⟨hx, hb, hml, hown, hts⟩ (c_X7_hasGallery l dC dI s.heap.size a0 a0g_0 (.ref a0_1) a0g_2 a0g_3 a0g_4 a0g_5 a0g_6 (.int a0_8) a0g_9 a0g_10 a0_7 a0_7_0 a0_7g_1 a0_7g_2 a0_7g_3 a0_7g_4 (.int a0_7_5) (.int a0_7_6) a0_7g_7 a0_7g_8 a0_7g_9 a0_7g_10 a0_7g_11 a0_7g_12 a0_7g_13 a0_7g_14 ba0_7_0_l ba0_7_0_u) (cwV 0 hts gX7_settles_X7_hasGallery rfl rfl rfl zd_X7_hasGallery ⟨Nat.le_of_ble_eq_true rfl, Nat.le_of_ble_eq_true rfl⟩) ⟨ax_blind (fun _ _ _ _ _ => trivial), zr_7 hKc hPc (q0 := 0) rfl, ax_pre hPc hKc hDc (fun _ _ => trivial)⟩ rfl rfl hl.1 rfl (lv_room (Nat.le_of_ble_eq_true rfl)) dX7_settles_1 ⟨Nat.le_of_ble_eq_true rfl, Nat.le_of_ble_eq_true rfl⟩) hS (fun q _ h => hFc q h) hFc (fun r1 u t H locs ht hvm hw hB hz1 hk1 hS => ?_)
  obtain ⟨hP1, hK1, hD1⟩ := hB
  rw [ht] at hP1
  obtain ⟨hP, hD⟩ := zc_back (w := [(a0, .inr (7, [a0g_0, .ref a0_1, a0g_2, a0g_3, a0g_4, a0g_5, a0g_6, .ref a0_7, .int a0_8, a0g_9, a0g_10])), (a0_7, .inr (0, [.int a0_7_0, a0_7g_1, a0_7g_2, a0_7g_3, a0_7g_4, .int a0_7_5, .int a0_7_6, a0_7g_7, a0_7g_8, a0_7g_9, a0_7g_10, a0_7g_11, a0_7g_12, a0_7g_13, a0_7g_14])), (a0_1, .inr (5, [a0_1g_0, .int a0_1_1, a0_1g_2, a0_1g_3, a0_1g_4, a0_1g_5, a0_1g_6]))]) hP hD hCc hk1 hFc hP1 hD1 [.inr 0, .inr 1, .inl 2] (by decide +kernel) rfl
  rcases hw with hw | hw
  · obtain ⟨hw, h1_0, h1_1⟩ := hw
    subst hw
    have l1k0_a0_7_0 : (1 : Int) ≤ a0_7_0.toInt := h1_0
    have u1k0_a0_7_0 : a0_7_0.toInt ≤ (9 : Int) := ba0_7_0_u
    refine lv_if_ne (tgt := 13) hx hb dX7_settles_4 (by decide) (fun _ => ?_) (fun c4 => absurd c4 (by decide +kernel))
    refine lv_aload_n hx hb dX7_settles_13 rfl (lv_at hl 0 rfl) ?_
    obtain ⟨hPc, hDc, hFc, hCc⟩ := zc_cut (wc := [(a0, .inr (7, [a0g_0, .ref a0_1, a0g_2, a0g_3, a0g_4, a0g_5, a0g_6, .ref a0_7, .int a0_8, a0g_9, a0g_10])), (a0_7, .inr (0, [.int a0_7_0, a0_7g_1, a0_7g_2, a0_7g_3, a0_7g_4, .int a0_7_5, .int a0_7_6, a0_7g_7, a0_7g_8, a0_7g_9, a0_7g_10, a0_7g_11, a0_7g_12, a0_7g_13, a0_7g_14])), (a0_1, .inr (5, [a0_1g_0, .int a0_1_1, a0_1g_2, a0_1g_3, a0_1g_4, a0_1g_5, a0_1g_6]))]) hP hD hS hA [0, 1, 2] (by decide +kernel) rfl
    have hKc := hK.sub (tys' := []) [] rfl
    refine va_calli (va_runV (As := []) (rest := []) ⟨hx, hb, hml, hown, hts⟩ (c_X7_roundLength l dC dI H.size a0 a0g_0 a0g_2 a0g_3 a0g_4 a0g_5 a0g_6 (.int a0_8) a0g_9 a0g_10 a0_1 a0_7 a0_7_0 a0_7g_1 a0_7g_2 a0_7g_3 a0_7g_4 a0_7g_7 a0_7g_8 a0_7g_9 a0_7g_10 a0_7g_11 a0_7g_12 a0_7g_13 a0_7g_14 a0_7_5 a0_7_6 a0_1g_0 a0_1g_2 a0_1g_3 a0_1g_4 a0_1g_5 a0_1g_6 a0_1_1 (Int.le_trans zq4 l1k0_a0_7_0) u1k0_a0_7_0 ba0_7_5_l ba0_7_5_u ba0_7_6_l ba0_7_6_u ba0_1_1_l ba0_1_1_u) (cwV 0 hts gX7_settles_X7_roundLength rfl rfl rfl zd_X7_roundLength ⟨Nat.le_of_ble_eq_true rfl, Nat.le_of_ble_eq_true rfl⟩) ⟨ax_blind (fun _ _ _ _ _ => trivial), zr_7 hKc hPc (q0 := 0) rfl, ax_pre hPc hKc hDc (fun _ _ => trivial)⟩ rfl rfl hl.1 rfl (lv_room (Nat.le_of_ble_eq_true rfl)) dX7_settles_14 ⟨Nat.le_of_ble_eq_true rfl, Nat.le_of_ble_eq_true rfl⟩) hS (fun q _ h => hFc q h) hFc (fun r14 u t H locs ht hvm hw hB hz1 hk1 hS => ?_)
    obtain ⟨hP1, hK1, hD1⟩ := hB
    rw [ht] at hP1
    obtain ⟨hP, hD⟩ := zc_back (w := [(a0, .inr (7, [a0g_0, .ref a0_1, a0g_2, a0g_3, a0g_4, a0g_5, a0g_6, .ref a0_7, .int a0_8, a0g_9, a0g_10])), (a0_7, .inr (0, [.int a0_7_0, a0_7g_1, a0_7g_2, a0_7g_3, a0_7g_4, .int a0_7_5, .int a0_7_6, a0_7g_7, a0_7g_8, a0_7g_9, a0_7g_10, a0_7g_11, a0_7g_12, a0_7g_13, a0_7g_14])), (a0_1, .inr (5, [a0_1g_0, .int a0_1_1, a0_1g_2, a0_1g_3, a0_1g_4, a0_1g_5, a0_1g_6]))]) hP hD hCc hk1 hFc hP1 hD1 [.inr 0, .inr 1, .inr 2] (by decide +kernel) rfl
    have hw : (1 : Int) ≤ r14.toInt ∧ r14.toInt ≤ (9 : Int) := hw
    obtain ⟨h14_0, h14_1⟩ := hw
    refine lv_istore_n (lv' := [(1, .int r14), (0, .ref a0)]) hx hb dX7_settles_17 rfl hl (by decide) rfl (fun ls hl => ?_)
    refine lv_iconst (v := 0) hx hb dX7_settles_18 zk_iconst_0 ?_
    refine lv_istore_n (lv' := [(2, .int 0), (1, .int r14), (0, .ref a0)]) hx hb dX7_settles_19 rfl hl (by decide) rfl (fun ls hl => ?_)
    have J20 : ∀ (n : Nat) (j20l2 : Int32) (H : Heap) (locs : List Loc) (ls : Array Slot), (10 : Int) - j20l2.toInt ≤ (n : Int) → (0 : Int) ≤ j20l2.toInt → j20l2.toInt ≤ (9 : Int) → va_P (dC, dI) vwCl [(a0, .inr (7, [a0g_0, .ref a0_1, a0g_2, a0g_3, a0g_4, a0g_5, a0g_6, .ref a0_7, .int a0_8, a0g_9, a0g_10])), (a0_7, .inr (0, [.int a0_7_0, a0_7g_1, a0_7g_2, a0_7g_3, a0_7g_4, .int a0_7_5, .int a0_7_6, a0_7g_7, a0_7g_8, a0_7g_9, a0_7g_10, a0_7g_11, a0_7g_12, a0_7g_13, a0_7g_14])), (a0_1, .inr (5, [a0_1g_0, .int a0_1_1, a0_1g_2, a0_1g_3, a0_1g_4, a0_1g_5, a0_1g_6]))] H → va_D A [(a0, .inr (7, [a0g_0, .ref a0_1, a0g_2, a0g_3, a0g_4, a0g_5, a0g_6, .ref a0_7, .int a0_8, a0g_9, a0g_10])), (a0_7, .inr (0, [.int a0_7_0, a0_7g_1, a0_7g_2, a0_7g_3, a0_7g_4, .int a0_7_5, .int a0_7_6, a0_7g_7, a0_7g_8, a0_7g_9, a0_7g_10, a0_7g_11, a0_7g_12, a0_7g_13, a0_7g_14])), (a0_1, .inr (5, [a0_1g_0, .int a0_1_1, a0_1g_2, a0_1g_3, a0_1g_4, a0_1g_5, a0_1g_6]))] → va_S A s.heap H locs → lv_has ls 3 [(0, .ref a0), (1, .int r14), (2, .int j20l2)] → K H locs (F0 m 20 ls []) := by
      intro n
      induction n with
      | zero =>
        intro j20l2 H locs ls hm bj20l2_l bj20l2_u hP hD hS hl
        have h8 := ai_min j20l2
        have h9 := ai_max j20l2
        exact absurd hm (by omega)
      | succ n ih20 =>
        intro j20l2 H locs ls hm bj20l2_l bj20l2_u hP hD hS hl
        refine (hK0 _ _ _).mpr ?_
        have hm20 := hm
        refine lv_iload_n hx hb dX7_settles_20 rfl (lv_at hl 2 rfl) ?_
        refine lv_aload_n hx hb dX7_settles_21 rfl (lv_at hl 0 rfl) ?_
        refine va_get (D := (dC, dI)) (ci := 7) (v := .ref a0_7) (C := RX7) (T := TX7) (N := 11) hx hb hts zi_X7_settles_7 hown hK hP 0 rfl rfl 7 (by decide) (hts (.fieldLink RX7 57 "WaxTurns" "hall" "LWaxTurns$Hall;") (zm_X7_settles_r1 (List.mem_of_getElem? (i := 0) rfl))) (fun _ h9 => h9) rfl dX7_settles_22 ?_
        refine va_get (D := (dC, dI)) (ci := 0) (v := .int a0_7_0) (C := RX0) (T := TX0) (N := 15) hx hb hts zi_X7_settles_0 hown hK hP 1 rfl rfl 0 (by decide) (hts (.fieldLink RX7 110 "WaxTurns$Hall" "figures" "I") (zm_X7_settles_r1 (List.mem_of_getElem? (i := 1) rfl))) (fun _ h9 => h9) rfl dX7_settles_25 ?_
        have J52 : ∀ (H : Heap) (locs : List Loc) (ls : Array Slot), va_P (dC, dI) vwCl [(a0, .inr (7, [a0g_0, .ref a0_1, a0g_2, a0g_3, a0g_4, a0g_5, a0g_6, .ref a0_7, .int a0_8, a0g_9, a0g_10])), (a0_7, .inr (0, [.int a0_7_0, a0_7g_1, a0_7g_2, a0_7g_3, a0_7g_4, .int a0_7_5, .int a0_7_6, a0_7g_7, a0_7g_8, a0_7g_9, a0_7g_10, a0_7g_11, a0_7g_12, a0_7g_13, a0_7g_14])), (a0_1, .inr (5, [a0_1g_0, .int a0_1_1, a0_1g_2, a0_1g_3, a0_1g_4, a0_1g_5, a0_1g_6]))] H → va_D A [(a0, .inr (7, [a0g_0, .ref a0_1, a0g_2, a0g_3, a0g_4, a0g_5, a0g_6, .ref a0_7, .int a0_8, a0g_9, a0g_10])), (a0_7, .inr (0, [.int a0_7_0, a0_7g_1, a0_7g_2, a0_7g_3, a0_7g_4, .int a0_7_5, .int a0_7_6, a0_7g_7, a0_7g_8, a0_7g_9, a0_7g_10, a0_7g_11, a0_7g_12, a0_7g_13, a0_7g_14])), (a0_1, .inr (5, [a0_1g_0, .int a0_1_1, a0_1g_2, a0_1g_3, a0_1g_4, a0_1g_5, a0_1g_6]))] → va_S A s.heap H locs → lv_has ls 3 [(0, .ref a0), (2, .int j20l2)] → K H locs (F0 m 52 ls []) := by
          intro  H locs ls   hP hD hS hl
          refine (hK0 _ _ _).mpr ?_
          refine lv_aload_n hx hb dX7_settles_52 rfl (lv_at hl 0 rfl) ?_
          refine lv_iload_n hx hb dX7_settles_53 rfl (lv_at hl 1 rfl) ?_
          obtain ⟨hPc, hDc, hFc, hCc⟩ := zc_cut (wc := [(a0, .inr (7, [a0g_0, .ref a0_1, a0g_2, a0g_3, a0g_4, a0g_5, a0g_6, .ref a0_7, .int a0_8, a0g_9, a0g_10]))]) hP hD hS hA [0] (by decide +kernel) rfl
          have hKc := hK.sub (tys' := []) [] rfl
          refine va_calli (va_runV (As := [.int j20l2]) (rest := []) ⟨hx, hb, hml, hown, hts⟩ (c_X7_answered l dC dI H.size a0 j20l2 a0g_0 (.ref a0_1) a0g_2 a0g_3 a0g_4 a0g_5 a0g_6 (.ref a0_7) a0g_9 a0g_10 a0_8 ) (cwV 1 hts gX7_settles_X7_answered rfl rfl rfl zd_X7_answered ⟨Nat.le_of_ble_eq_true rfl, Nat.le_of_ble_eq_true rfl⟩) ⟨ax_blind (fun _ _ _ _ _ => trivial), zr_7 hKc hPc (q0 := 0) rfl, ax_pre hPc hKc hDc (fun _ _ => trivial)⟩ rfl rfl hl.1 rfl (lv_room (Nat.le_of_ble_eq_true rfl)) dX7_settles_54 ⟨Nat.le_of_ble_eq_true rfl, Nat.le_of_ble_eq_true rfl⟩) hS (fun q _ h => hFc q h) hFc (fun r54 u t H locs ht hvm hw hB hz1 hk1 hS => ?_)
          obtain ⟨v54na0_8, hP1, hK1, hD1⟩ := hB
          rw [ht] at hP1
          obtain ⟨hP, hD⟩ := zc_back (w := [(a0, .inr (7, [a0g_0, .ref a0_1, a0g_2, a0g_3, a0g_4, a0g_5, a0g_6, .ref a0_7, .int v54na0_8, a0g_9, a0g_10])), (a0_7, .inr (0, [.int a0_7_0, a0_7g_1, a0_7g_2, a0_7g_3, a0_7g_4, .int a0_7_5, .int a0_7_6, a0_7g_7, a0_7g_8, a0_7g_9, a0_7g_10, a0_7g_11, a0_7g_12, a0_7g_13, a0_7g_14])), (a0_1, .inr (5, [a0_1g_0, .int a0_1_1, a0_1g_2, a0_1g_3, a0_1g_4, a0_1g_5, a0_1g_6]))]) hP hD hCc hk1 hFc hP1 hD1 [.inr 0, .inl 1, .inl 2] (by decide +kernel) rfl
          have hw : r54 = j20l2 := hw
          have hw := hw.symm
          subst hw
          exact W.iret (v := j20l2) hx hb hr (fun t ht hW => ⟨⟨j20l2, (), rfl, ⟨(Int.le_trans zq69 bj20l2_l), bj20l2_u⟩, v54na0_8, by rw [ht]; exact hP, va_K.moved hW.alike hK, hD⟩, hS.F ht⟩) hS.2.2 dX7_settles_57
        refine lv_icmp_ge (tgt := 52) hx hb dX7_settles_28 (by decide) (fun c28 => ?_) (fun c28 => ?_)
        · have gc28 := ai_le c28
          have u28t_a0_7_0 : a0_7_0.toInt ≤ (9 : Int) := u1k0_a0_7_0
          have l28t_j20l2 : (1 : Int) ≤ j20l2.toInt := Int.le_trans l1k0_a0_7_0 gc28
          exact (hK0 _ _ _).mp (J52  _ _ _   hP hD hS (lv_sub hl [0, 2] rfl))
        · have gc28 := ai_nle c28
          have u28f_j20l2 : j20l2.toInt ≤ (8 : Int) := ai_lthi gc28 u1k0_a0_7_0
          have l28f_a0_7_0 : (1 : Int) ≤ a0_7_0.toInt := l1k0_a0_7_0
          refine lv_aload_n hx hb dX7_settles_31 rfl (lv_at hl 0 rfl) ?_
          refine lv_iload_n hx hb dX7_settles_32 rfl (lv_at hl 2 rfl) ?_
          obtain ⟨hPc, hDc, hFc, hCc⟩ := zc_cut (wc := [(a0, .inr (7, [a0g_0, .ref a0_1, a0g_2, a0g_3, a0g_4, a0g_5, a0g_6, .ref a0_7, .int a0_8, a0g_9, a0g_10])), (a0_7, .inr (0, [.int a0_7_0, a0_7g_1, a0_7g_2, a0_7g_3, a0_7g_4, .int a0_7_5, .int a0_7_6, a0_7g_7, a0_7g_8, a0_7g_9, a0_7g_10, a0_7g_11, a0_7g_12, a0_7g_13, a0_7g_14])), (a0_1, .inr (5, [a0_1g_0, .int a0_1_1, a0_1g_2, a0_1g_3, a0_1g_4, a0_1g_5, a0_1g_6]))]) hP hD hS hA [0, 1, 2] (by decide +kernel) rfl
          have hKc := hK.sub (tys' := []) [] rfl
          refine va_calli (va_runV (As := [.int j20l2]) (rest := []) ⟨hx, hb, hml, hown, hts⟩ (c_X7_turnFromNow l dC dI H.size a0 j20l2 a0g_0 a0g_2 a0g_3 a0g_4 a0g_5 a0g_6 (.int a0_8) a0g_9 a0g_10 a0_1 a0_7 a0_7_0 a0_7g_1 a0_7g_2 a0_7g_3 a0_7g_4 a0_7g_7 a0_7g_8 a0_7g_9 a0_7g_10 a0_7g_11 a0_7g_12 a0_7g_13 a0_7g_14 a0_7_5 a0_7_6 a0_1g_0 a0_1g_2 a0_1g_3 a0_1g_4 a0_1g_5 a0_1g_6 a0_1_1 (Int.le_trans zq4 l28f_a0_7_0) u1k0_a0_7_0 ba0_7_5_l ba0_7_5_u ba0_7_6_l ba0_7_6_u ba0_1_1_l ba0_1_1_u) (cwV 1 hts gX7_settles_X7_turnFromNow rfl rfl rfl zd_X7_turnFromNow ⟨Nat.le_of_ble_eq_true rfl, Nat.le_of_ble_eq_true rfl⟩) ⟨ax_blind (fun _ _ _ _ _ => trivial), zr_7 hKc hPc (q0 := 0) rfl, ax_pre hPc hKc hDc (fun _ _ => trivial)⟩ rfl rfl hl.1 rfl (lv_room (Nat.le_of_ble_eq_true rfl)) dX7_settles_33 ⟨Nat.le_of_ble_eq_true rfl, Nat.le_of_ble_eq_true rfl⟩) hS (fun q _ h => hFc q h) hFc (fun r33 u t H locs ht hvm hw hB hz1 hk1 hS => ?_)
          obtain ⟨hP1, hK1, hD1⟩ := hB
          rw [ht] at hP1
          obtain ⟨hP, hD⟩ := zc_back (w := [(a0, .inr (7, [a0g_0, .ref a0_1, a0g_2, a0g_3, a0g_4, a0g_5, a0g_6, .ref a0_7, .int a0_8, a0g_9, a0g_10])), (a0_7, .inr (0, [.int a0_7_0, a0_7g_1, a0_7g_2, a0_7g_3, a0_7g_4, .int a0_7_5, .int a0_7_6, a0_7g_7, a0_7g_8, a0_7g_9, a0_7g_10, a0_7g_11, a0_7g_12, a0_7g_13, a0_7g_14])), (a0_1, .inr (5, [a0_1g_0, .int a0_1_1, a0_1g_2, a0_1g_3, a0_1g_4, a0_1g_5, a0_1g_6]))]) hP hD hCc hk1 hFc hP1 hD1 [.inr 0, .inr 1, .inr 2] (by decide +kernel) rfl
          have hw : (0 : Int) ≤ r33.toInt ∧ r33.toInt ≤ (8 : Int) := hw
          obtain ⟨h33_0, h33_1⟩ := hw
          refine lv_aload_n hx hb dX7_settles_36 rfl (lv_at hl 0 rfl) ?_
          refine lv_iload_n hx hb dX7_settles_37 rfl (lv_at hl 2 rfl) ?_
          refine lv_iload_n hx hb dX7_settles_38 rfl (lv_at hl 1 rfl) ?_
          refine lv_iadd hx hb dX7_settles_39 ?_
          refine lv_topi (fun x39 ex39 => ?_)
          have qx39 : x39.toInt = j20l2.toInt + r14.toInt := ai_add ex39 ⟨bj20l2_l, u28f_j20l2⟩ ⟨h14_0, h14_1⟩ (by decide) (by decide)
          have bx39 : (1 : Int) ≤ x39.toInt ∧ x39.toInt ≤ 17 := ⟨by rw [qx39]; exact Int.add_le_add bj20l2_l h14_0, by rw [qx39]; exact Int.add_le_add u28f_j20l2 h14_1⟩
          obtain ⟨hPc, hDc, hFc, hCc⟩ := zc_cut (wc := [(a0, .inr (7, [a0g_0, .ref a0_1, a0g_2, a0g_3, a0g_4, a0g_5, a0g_6, .ref a0_7, .int a0_8, a0g_9, a0g_10])), (a0_7, .inr (0, [.int a0_7_0, a0_7g_1, a0_7g_2, a0_7g_3, a0_7g_4, .int a0_7_5, .int a0_7_6, a0_7g_7, a0_7g_8, a0_7g_9, a0_7g_10, a0_7g_11, a0_7g_12, a0_7g_13, a0_7g_14])), (a0_1, .inr (5, [a0_1g_0, .int a0_1_1, a0_1g_2, a0_1g_3, a0_1g_4, a0_1g_5, a0_1g_6]))]) hP hD hS hA [0, 1, 2] (by decide +kernel) rfl
          have hKc := hK.sub (tys' := []) [] rfl
          refine va_calli (va_runV (As := [.int x39]) (rest := [.int r33]) ⟨hx, hb, hml, hown, hts⟩ (c_X7_turnFromNow l dC dI H.size a0 x39 a0g_0 a0g_2 a0g_3 a0g_4 a0g_5 a0g_6 (.int a0_8) a0g_9 a0g_10 a0_1 a0_7 a0_7_0 a0_7g_1 a0_7g_2 a0_7g_3 a0_7g_4 a0_7g_7 a0_7g_8 a0_7g_9 a0_7g_10 a0_7g_11 a0_7g_12 a0_7g_13 a0_7g_14 a0_7_5 a0_7_6 a0_1g_0 a0_1g_2 a0_1g_3 a0_1g_4 a0_1g_5 a0_1g_6 a0_1_1 (Int.le_trans zq4 l28f_a0_7_0) u1k0_a0_7_0 ba0_7_5_l ba0_7_5_u ba0_7_6_l ba0_7_6_u ba0_1_1_l ba0_1_1_u) (cwV 1 hts gX7_settles_X7_turnFromNow rfl rfl rfl zd_X7_turnFromNow ⟨Nat.le_of_ble_eq_true rfl, Nat.le_of_ble_eq_true rfl⟩) ⟨ax_blind (fun _ _ _ _ _ => trivial), zr_7 hKc hPc (q0 := 0) rfl, ax_pre hPc hKc hDc (fun _ _ => trivial)⟩ rfl rfl hl.1 rfl (lv_room (Nat.le_of_ble_eq_true rfl)) dX7_settles_40 ⟨Nat.le_of_ble_eq_true rfl, Nat.le_of_ble_eq_true rfl⟩) hS (fun q _ h => hFc q h) hFc (fun r40 u t H locs ht hvm hw hB hz1 hk1 hS => ?_)
          obtain ⟨hP1, hK1, hD1⟩ := hB
          rw [ht] at hP1
          obtain ⟨hP, hD⟩ := zc_back (w := [(a0, .inr (7, [a0g_0, .ref a0_1, a0g_2, a0g_3, a0g_4, a0g_5, a0g_6, .ref a0_7, .int a0_8, a0g_9, a0g_10])), (a0_7, .inr (0, [.int a0_7_0, a0_7g_1, a0_7g_2, a0_7g_3, a0_7g_4, .int a0_7_5, .int a0_7_6, a0_7g_7, a0_7g_8, a0_7g_9, a0_7g_10, a0_7g_11, a0_7g_12, a0_7g_13, a0_7g_14])), (a0_1, .inr (5, [a0_1g_0, .int a0_1_1, a0_1g_2, a0_1g_3, a0_1g_4, a0_1g_5, a0_1g_6]))]) hP hD hCc hk1 hFc hP1 hD1 [.inr 0, .inr 1, .inr 2] (by decide +kernel) rfl
          have hw : (0 : Int) ≤ r40.toInt ∧ r40.toInt ≤ (8 : Int) := hw
          obtain ⟨h40_0, h40_1⟩ := hw
          refine lv_icmp_eq (tgt := 52) hx hb dX7_settles_43 (by decide) (fun c43 => ?_) (fun c43 => ?_)
          · have gc43 := ai_eq c43
            have u43t_r33 : r33.toInt ≤ (8 : Int) := h33_1
            have l43t_r33 : (0 : Int) ≤ r33.toInt := h33_0
            have u43t_r40 : r40.toInt ≤ (8 : Int) := h40_1
            have l43t_r40 : (0 : Int) ≤ r40.toInt := h40_0
            exact (hK0 _ _ _).mp (J52  _ _ _   hP hD hS (lv_sub hl [0, 2] rfl))
          · have gc43 := ai_ne c43
            obtain ⟨x46, ex46⟩ : ∃ y : Int32, y = j20l2 + Int32.ofInt 1 := ⟨_, rfl⟩
            have qx46 : x46.toInt = j20l2.toInt + 1 := ai_inc ex46 (by decide) (by decide) u28f_j20l2 (by decide)
            have bx46 : (1 : Int) ≤ x46.toInt ∧ x46.toInt ≤ 9 := ⟨by rw [qx46]; exact Int.add_le_add bj20l2_l (Int.le_refl _), by rw [qx46]; exact Int.add_le_add u28f_j20l2 (Int.le_refl _)⟩
            refine lv_iinc (v := x46) (lv' := [(2, .int x46), (0, .ref a0), (1, .int r14)]) hx hb dX7_settles_46 hl (k := 2) rfl ex46.symm (by decide) rfl (fun ls hl => ?_)
            refine lv_goto (tgt := 20) hx hb dX7_settles_49 (by decide) ?_
            exact (hK0 _ _ _).mp (ih20 x46 _ _ _ (by have h0 := qx46; omega) (Int.le_trans zq4 bx46.1) bx46.2 hP hD hS (lv_sub hl [1, 2, 0] rfl))
    exact (hK0 _ _ _).mp (J20 10 0 _ _ _ (by have h1 : (0 : Int) ≤ (0 : Int32).toInt := zq5; have h2 : (0 : Int32).toInt ≤ (0 : Int) := zq6; omega) zq5 (Int.le_trans zq6 zq7) hP hD hS (lv_sub hl [2, 1, 0] rfl))
  · obtain ⟨hw, h1_0, h1_1⟩ := hw
    subst hw
    have l1k1_a0_7_0 : (0 : Int) ≤ a0_7_0.toInt := ba0_7_0_l
    have u1k1_a0_7_0 : a0_7_0.toInt ≤ (0 : Int) := h1_1
    refine lv_if_ne (tgt := 13) hx hb dX7_settles_4 (by decide) (fun c4 => absurd (by decide +kernel) c4) (fun _ => ?_)
    refine lv_aload_n hx hb dX7_settles_7 rfl (lv_at hl 0 rfl) ?_
    refine lv_iconst (v := 1) hx hb dX7_settles_8 zk_iconst_1 ?_
    obtain ⟨hPc, hDc, hFc, hCc⟩ := zc_cut (wc := [(a0, .inr (7, [a0g_0, .ref a0_1, a0g_2, a0g_3, a0g_4, a0g_5, a0g_6, .ref a0_7, .int a0_8, a0g_9, a0g_10]))]) hP hD hS hA [0] (by decide +kernel) rfl
    have hKc := hK.sub (tys' := []) [] rfl
    refine va_calli (va_runV (As := [.int 1]) (rest := []) ⟨hx, hb, hml, hown, hts⟩ (c_X7_refused l dC dI H.size a0 1 a0g_0 (.ref a0_1) a0g_2 a0g_3 a0g_4 a0g_5 a0g_6 (.ref a0_7) a0g_9 a0g_10 a0_8 ) (cwV 1 hts gX7_settles_X7_refused rfl rfl rfl zd_X7_refused ⟨Nat.le_of_ble_eq_true rfl, Nat.le_of_ble_eq_true rfl⟩) ⟨ax_blind (fun _ _ _ _ _ => trivial), zr_7 hKc hPc (q0 := 0) rfl, ax_pre hPc hKc hDc (fun _ _ => trivial)⟩ rfl rfl hl.1 rfl (lv_room (Nat.le_of_ble_eq_true rfl)) dX7_settles_9 ⟨Nat.le_of_ble_eq_true rfl, Nat.le_of_ble_eq_true rfl⟩) hS (fun q _ h => hFc q h) hFc (fun r9 u t H locs ht hvm hw hB hz1 hk1 hS => ?_)
    obtain ⟨v9na0_8, hP1, hK1, hD1⟩ := hB
    rw [ht] at hP1
    obtain ⟨hP, hD⟩ := zc_back (w := [(a0, .inr (7, [a0g_0, .ref a0_1, a0g_2, a0g_3, a0g_4, a0g_5, a0g_6, .ref a0_7, .int v9na0_8, a0g_9, a0g_10])), (a0_7, .inr (0, [.int a0_7_0, a0_7g_1, a0_7g_2, a0_7g_3, a0_7g_4, .int a0_7_5, .int a0_7_6, a0_7g_7, a0_7g_8, a0_7g_9, a0_7g_10, a0_7g_11, a0_7g_12, a0_7g_13, a0_7g_14])), (a0_1, .inr (5, [a0_1g_0, .int a0_1_1, a0_1g_2, a0_1g_3, a0_1g_4, a0_1g_5, a0_1g_6]))]) hP hD hCc hk1 hFc hP1 hD1 [.inr 0, .inl 1, .inl 2] (by decide +kernel) rfl
    have hw : r9 = (-1) := hw
    have hw := hw.symm
    subst hw
    exact W.iret (v := (-1)) hx hb hr (fun t ht hW => ⟨⟨(-1), (), rfl, ⟨zq70, (Int.le_trans zq71 zq77)⟩, v9na0_8, by rw [ht]; exact hP, va_K.moved hW.alike hK, hD⟩, hS.F ht⟩) hS.2.2 dX7_settles_12
end P109_safe
section P110_safe
set_option maxHeartbeats 4000000 in
set_option maxRecDepth 100000 in
theorem c_X7_round (l : Launch) (dC : Nat → ClassId) (dI : Nat → Nat → Nat) (sz : Nat) (a0 : Nat) (a0g_0 a0g_2 a0g_3 a0g_4 a0g_5 a0g_6 a0g_9 a0g_10 : Value) (a0_1 : Nat) (a0_7 : Nat) (a0_8 : Int32) (a0_7_0 : Int32) (a0_7g_1 a0_7g_2 a0_7g_3 a0_7g_4 a0_7g_7 a0_7g_8 a0_7g_9 a0_7g_10 a0_7g_11 a0_7g_12 a0_7g_13 a0_7g_14 : Value) (a0_7_5 : Int32) (a0_7_6 : Int32) (a0_1g_0 a0_1g_2 a0_1g_3 a0_1g_4 a0_1g_5 a0_1g_6 : Value) (a0_1_1 : Int32) (ba0_7_0_l : (0 : Int) ≤ a0_7_0.toInt) (ba0_7_0_u : a0_7_0.toInt ≤ (9 : Int)) (ba0_7_5_l : (0 : Int) ≤ a0_7_5.toInt) (ba0_7_5_u : a0_7_5.toInt ≤ (8 : Int)) (ba0_7_6_l : (0 : Int) ≤ a0_7_6.toInt) (ba0_7_6_u : a0_7_6.toInt ≤ (8 : Int)) (ba0_1_1_l : (0 : Int) ≤ a0_1_1.toInt) (ba0_1_1_u : a0_1_1.toInt ≤ (8 : Int)) : Met l yX7_round wsX7_round ({ frames := 3, cells := 0, slots := 0, locals := 72 }) (va_Pc [.ref a0] (ax_C dC dI sz [(a0, .inr (7, [a0g_0, .ref a0_1, a0g_2, a0g_3, a0g_4, a0g_5, a0g_6, .ref a0_7, .int a0_8, a0g_9, a0g_10])), (a0_7, .inr (0, [.int a0_7_0, a0_7g_1, a0_7g_2, a0_7g_3, a0_7g_4, .int a0_7_5, .int a0_7_6, a0_7g_7, a0_7g_8, a0_7g_9, a0_7g_10, a0_7g_11, a0_7g_12, a0_7g_13, a0_7g_14])), (a0_1, .inr (5, [a0_1g_0, .int a0_1_1, a0_1g_2, a0_1g_3, a0_1g_4, a0_1g_5, a0_1g_6]))] [] (fun _ => True))) (va_Qi (fun (r : Int32) (_ : Unit) => (-1 : Int) ≤ r.toInt ∧ r.toInt ≤ (9 : Int)) (fun (_ : Unit) (t : State) => ∃ na0_8 : Int32, ax_B dC dI (va_A [(a0, .inr (7, [a0g_0, .ref a0_1, a0g_2, a0g_3, a0g_4, a0g_5, a0g_6, .ref a0_7, .int a0_8, a0g_9, a0g_10])), (a0_7, .inr (0, [.int a0_7_0, a0_7g_1, a0_7g_2, a0_7g_3, a0_7g_4, .int a0_7_5, .int a0_7_6, a0_7g_7, a0_7g_8, a0_7g_9, a0_7g_10, a0_7g_11, a0_7g_12, a0_7g_13, a0_7g_14])), (a0_1, .inr (5, [a0_1g_0, .int a0_1_1, a0_1g_2, a0_1g_3, a0_1g_4, a0_1g_5, a0_1g_6]))] sz) [(a0, .inr (7, [a0g_0, .ref a0_1, a0g_2, a0g_3, a0g_4, a0g_5, a0g_6, .ref a0_7, .int na0_8, a0g_9, a0g_10])), (a0_7, .inr (0, [.int a0_7_0, a0_7g_1, a0_7g_2, a0_7g_3, a0_7g_4, .int a0_7_5, .int a0_7_6, a0_7g_7, a0_7g_8, a0_7g_9, a0_7g_10, a0_7g_11, a0_7g_12, a0_7g_13, a0_7g_14])), (a0_1, .inr (5, [a0_1g_0, .int a0_1_1, a0_1g_2, a0_1g_3, a0_1g_4, a0_1g_5, a0_1g_6]))] [] t) (va_A [(a0, .inr (7, [a0g_0, .ref a0_1, a0g_2, a0g_3, a0g_4, a0g_5, a0g_6, .ref a0_7, .int a0_8, a0g_9, a0g_10])), (a0_7, .inr (0, [.int a0_7_0, a0_7g_1, a0_7g_2, a0_7g_3, a0_7g_4, .int a0_7_5, .int a0_7_6, a0_7g_7, a0_7g_8, a0_7g_9, a0_7g_10, a0_7g_11, a0_7g_12, a0_7g_13, a0_7g_14])), (a0_1, .inr (5, [a0_1g_0, .int a0_1_1, a0_1g_2, a0_1g_3, a0_1g_4, a0_1g_5, a0_1g_6]))] sz)) 0 0 (va_A [(a0, .inr (7, [a0g_0, .ref a0_1, a0g_2, a0g_3, a0g_4, a0g_5, a0g_6, .ref a0_7, .int a0_8, a0g_9, a0g_10])), (a0_7, .inr (0, [.int a0_7_0, a0_7g_1, a0_7g_2, a0_7g_3, a0_7g_4, .int a0_7_5, .int a0_7_6, a0_7g_7, a0_7g_8, a0_7g_9, a0_7g_10, a0_7g_11, a0_7g_12, a0_7g_13, a0_7g_14])), (a0_1, .inr (5, [a0_1g_0, .int a0_1_1, a0_1g_2, a0_1g_3, a0_1g_4, a0_1g_5, a0_1g_6]))] sz) := by
  refine Met.ofW (cc := cX7_round) (maxL := 1) (ret := (some .int)) (by decide) rfl ?_
  intro p e s m args below meth c s₁ B hml hv
  obtain ⟨rfl, hsz, hP, hK, hD0, hE⟩ := hv
  have hx := B.exec
  have hb := B.bytes
  have hr := B.returns
  have hts := atoms_spec (ws := wsX7_round) B.pre
  have hown : s.vm.findClass RX7 = some m.cls := findClass_of_methodNamed B.named
  have hlocks := B.notSynchronized
  subst hsz
  have hD := hD0.self (sz := s.heap.size)
  generalize hAe : va_A [(a0, .inr (7, [a0g_0, .ref a0_1, a0g_2, a0g_3, a0g_4, a0g_5, a0g_6, .ref a0_7, .int a0_8, a0g_9, a0g_10])), (a0_7, .inr (0, [.int a0_7_0, a0_7g_1, a0_7g_2, a0_7g_3, a0_7g_4, .int a0_7_5, .int a0_7_6, a0_7g_7, a0_7g_8, a0_7g_9, a0_7g_10, a0_7g_11, a0_7g_12, a0_7g_13, a0_7g_14])), (a0_1, .inr (5, [a0_1g_0, .int a0_1_1, a0_1g_2, a0_1g_3, a0_1g_4, a0_1g_5, a0_1g_6]))] s.heap.size = A at hD ⊢
  have hA : ∀ q : Nat, s.heap.size ≤ q → A q := fun q h => by rw [← hAe]; exact Or.inr h
  have hS : va_S A s.heap s.heap [] := va_S.rf
  have hP : va_P (dC, dI) vwCl [(a0, .inr (7, [a0g_0, .ref a0_1, a0g_2, a0g_3, a0g_4, a0g_5, a0g_6, .ref a0_7, .int a0_8, a0g_9, a0g_10])), (a0_7, .inr (0, [.int a0_7_0, a0_7g_1, a0_7g_2, a0_7g_3, a0_7g_4, .int a0_7_5, .int a0_7_6, a0_7g_7, a0_7g_8, a0_7g_9, a0_7g_10, a0_7g_11, a0_7g_12, a0_7g_13, a0_7g_14])), (a0_1, .inr (5, [a0_1g_0, .int a0_1_1, a0_1g_2, a0_1g_3, a0_1g_4, a0_1g_5, a0_1g_6]))] s.heap := hP
  have hl := lv_entry ([.ref a0]) (n := 1) (Nat.le_of_ble_eq_true rfl)
  rw [lg_entry_eq]
  generalize (lg_sl ([.ref a0]) ++ List.replicate (1 - (lg_sl ([.ref a0])).length) Slot.unset).toArray = ls at hl ⊢
  have hl : lv_has ls 1 [(0, .ref a0)] := hl
  refine lv_aload_n hx hb dX7_round_0 rfl (lv_at hl 0 rfl) ?_
  obtain ⟨hPc, hDc, hFc, hCc⟩ := zc_cut (wc := [(a0, .inr (7, [a0g_0, .ref a0_1, a0g_2, a0g_3, a0g_4, a0g_5, a0g_6, .ref a0_7, .int a0_8, a0g_9, a0g_10])), (a0_7, .inr (0, [.int a0_7_0, a0_7g_1, a0_7g_2, a0_7g_3, a0_7g_4, .int a0_7_5, .int a0_7_6, a0_7g_7, a0_7g_8, a0_7g_9, a0_7g_10, a0_7g_11, a0_7g_12, a0_7g_13, a0_7g_14]))]) hP hD hS hA [0, 1] (by decide +kernel) rfl
  have hKc := hK.sub (tys' := []) [] rfl
  refine va_calli (va_runV (As := []) (rest := []) ⟨hx, hb, hml, hown, hts⟩ (c_X7_hasGallery l dC dI s.heap.size a0 a0g_0 (.ref a0_1) a0g_2 a0g_3 a0g_4 a0g_5 a0g_6 (.int a0_8) a0g_9 a0g_10 a0_7 a0_7_0 a0_7g_1 a0_7g_2 a0_7g_3 a0_7g_4 (.int a0_7_5) (.int a0_7_6) a0_7g_7 a0_7g_8 a0_7g_9 a0_7g_10 a0_7g_11 a0_7g_12 a0_7g_13 a0_7g_14 ba0_7_0_l ba0_7_0_u) (cwV 0 hts gX7_round_X7_hasGallery rfl rfl rfl zd_X7_hasGallery ⟨Nat.le_of_ble_eq_true rfl, Nat.le_of_ble_eq_true rfl⟩) ⟨ax_blind (fun _ _ _ _ _ => trivial), zr_7 hKc hPc (q0 := 0) rfl, ax_pre hPc hKc hDc (fun _ _ => trivial)⟩ rfl rfl hl.1 rfl (lv_room (Nat.le_of_ble_eq_true rfl)) dX7_round_1 ⟨Nat.le_of_ble_eq_true rfl, Nat.le_of_ble_eq_true rfl⟩) hS (fun q _ h => hFc q h) hFc (fun r1 u t H locs ht hvm hw hB hz1 hk1 hS => ?_)
  obtain ⟨hP1, hK1, hD1⟩ := hB
  rw [ht] at hP1
  obtain ⟨hP, hD⟩ := zc_back (w := [(a0, .inr (7, [a0g_0, .ref a0_1, a0g_2, a0g_3, a0g_4, a0g_5, a0g_6, .ref a0_7, .int a0_8, a0g_9, a0g_10])), (a0_7, .inr (0, [.int a0_7_0, a0_7g_1, a0_7g_2, a0_7g_3, a0_7g_4, .int a0_7_5, .int a0_7_6, a0_7g_7, a0_7g_8, a0_7g_9, a0_7g_10, a0_7g_11, a0_7g_12, a0_7g_13, a0_7g_14])), (a0_1, .inr (5, [a0_1g_0, .int a0_1_1, a0_1g_2, a0_1g_3, a0_1g_4, a0_1g_5, a0_1g_6]))]) hP hD hCc hk1 hFc hP1 hD1 [.inr 0, .inr 1, .inl 2] (by decide +kernel) rfl
  rcases hw with hw | hw
  · obtain ⟨hw, h1_0, h1_1⟩ := hw
    subst hw
    have l1k0_a0_7_0 : (1 : Int) ≤ a0_7_0.toInt := h1_0
    have u1k0_a0_7_0 : a0_7_0.toInt ≤ (9 : Int) := ba0_7_0_u
    refine lv_if_ne (tgt := 13) hx hb dX7_round_4 (by decide) (fun _ => ?_) (fun c4 => absurd c4 (by decide +kernel))
    refine lv_aload_n hx hb dX7_round_13 rfl (lv_at hl 0 rfl) ?_
    refine lv_aload_n hx hb dX7_round_14 rfl (lv_at hl 0 rfl) ?_
    obtain ⟨hPc, hDc, hFc, hCc⟩ := zc_cut (wc := [(a0, .inr (7, [a0g_0, .ref a0_1, a0g_2, a0g_3, a0g_4, a0g_5, a0g_6, .ref a0_7, .int a0_8, a0g_9, a0g_10])), (a0_7, .inr (0, [.int a0_7_0, a0_7g_1, a0_7g_2, a0_7g_3, a0_7g_4, .int a0_7_5, .int a0_7_6, a0_7g_7, a0_7g_8, a0_7g_9, a0_7g_10, a0_7g_11, a0_7g_12, a0_7g_13, a0_7g_14])), (a0_1, .inr (5, [a0_1g_0, .int a0_1_1, a0_1g_2, a0_1g_3, a0_1g_4, a0_1g_5, a0_1g_6]))]) hP hD hS hA [0, 1, 2] (by decide +kernel) rfl
    have hKc := hK.sub (tys' := []) [] rfl
    refine va_calli (va_runV (As := []) (rest := [.ref a0]) ⟨hx, hb, hml, hown, hts⟩ (c_X7_roundLength l dC dI H.size a0 a0g_0 a0g_2 a0g_3 a0g_4 a0g_5 a0g_6 (.int a0_8) a0g_9 a0g_10 a0_1 a0_7 a0_7_0 a0_7g_1 a0_7g_2 a0_7g_3 a0_7g_4 a0_7g_7 a0_7g_8 a0_7g_9 a0_7g_10 a0_7g_11 a0_7g_12 a0_7g_13 a0_7g_14 a0_7_5 a0_7_6 a0_1g_0 a0_1g_2 a0_1g_3 a0_1g_4 a0_1g_5 a0_1g_6 a0_1_1 (Int.le_trans zq4 l1k0_a0_7_0) u1k0_a0_7_0 ba0_7_5_l ba0_7_5_u ba0_7_6_l ba0_7_6_u ba0_1_1_l ba0_1_1_u) (cwV 0 hts gX7_round_X7_roundLength rfl rfl rfl zd_X7_roundLength ⟨Nat.le_of_ble_eq_true rfl, Nat.le_of_ble_eq_true rfl⟩) ⟨ax_blind (fun _ _ _ _ _ => trivial), zr_7 hKc hPc (q0 := 0) rfl, ax_pre hPc hKc hDc (fun _ _ => trivial)⟩ rfl rfl hl.1 rfl (lv_room (Nat.le_of_ble_eq_true rfl)) dX7_round_15 ⟨Nat.le_of_ble_eq_true rfl, Nat.le_of_ble_eq_true rfl⟩) hS (fun q _ h => hFc q h) hFc (fun r15 u t H locs ht hvm hw hB hz1 hk1 hS => ?_)
    obtain ⟨hP1, hK1, hD1⟩ := hB
    rw [ht] at hP1
    obtain ⟨hP, hD⟩ := zc_back (w := [(a0, .inr (7, [a0g_0, .ref a0_1, a0g_2, a0g_3, a0g_4, a0g_5, a0g_6, .ref a0_7, .int a0_8, a0g_9, a0g_10])), (a0_7, .inr (0, [.int a0_7_0, a0_7g_1, a0_7g_2, a0_7g_3, a0_7g_4, .int a0_7_5, .int a0_7_6, a0_7g_7, a0_7g_8, a0_7g_9, a0_7g_10, a0_7g_11, a0_7g_12, a0_7g_13, a0_7g_14])), (a0_1, .inr (5, [a0_1g_0, .int a0_1_1, a0_1g_2, a0_1g_3, a0_1g_4, a0_1g_5, a0_1g_6]))]) hP hD hCc hk1 hFc hP1 hD1 [.inr 0, .inr 1, .inr 2] (by decide +kernel) rfl
    have hw : (1 : Int) ≤ r15.toInt ∧ r15.toInt ≤ (9 : Int) := hw
    obtain ⟨h15_0, h15_1⟩ := hw
    obtain ⟨hPc, hDc, hFc, hCc⟩ := zc_cut (wc := [(a0, .inr (7, [a0g_0, .ref a0_1, a0g_2, a0g_3, a0g_4, a0g_5, a0g_6, .ref a0_7, .int a0_8, a0g_9, a0g_10]))]) hP hD hS hA [0] (by decide +kernel) rfl
    have hKc := hK.sub (tys' := []) [] rfl
    refine va_calli (va_runV (As := [.int r15]) (rest := []) ⟨hx, hb, hml, hown, hts⟩ (c_X7_answered l dC dI H.size a0 r15 a0g_0 (.ref a0_1) a0g_2 a0g_3 a0g_4 a0g_5 a0g_6 (.ref a0_7) a0g_9 a0g_10 a0_8 ) (cwV 1 hts gX7_round_X7_answered rfl rfl rfl zd_X7_answered ⟨Nat.le_of_ble_eq_true rfl, Nat.le_of_ble_eq_true rfl⟩) ⟨ax_blind (fun _ _ _ _ _ => trivial), zr_7 hKc hPc (q0 := 0) rfl, ax_pre hPc hKc hDc (fun _ _ => trivial)⟩ rfl rfl hl.1 rfl (lv_room (Nat.le_of_ble_eq_true rfl)) dX7_round_18 ⟨Nat.le_of_ble_eq_true rfl, Nat.le_of_ble_eq_true rfl⟩) hS (fun q _ h => hFc q h) hFc (fun r18 u t H locs ht hvm hw hB hz1 hk1 hS => ?_)
    obtain ⟨v18na0_8, hP1, hK1, hD1⟩ := hB
    rw [ht] at hP1
    obtain ⟨hP, hD⟩ := zc_back (w := [(a0, .inr (7, [a0g_0, .ref a0_1, a0g_2, a0g_3, a0g_4, a0g_5, a0g_6, .ref a0_7, .int v18na0_8, a0g_9, a0g_10])), (a0_7, .inr (0, [.int a0_7_0, a0_7g_1, a0_7g_2, a0_7g_3, a0_7g_4, .int a0_7_5, .int a0_7_6, a0_7g_7, a0_7g_8, a0_7g_9, a0_7g_10, a0_7g_11, a0_7g_12, a0_7g_13, a0_7g_14])), (a0_1, .inr (5, [a0_1g_0, .int a0_1_1, a0_1g_2, a0_1g_3, a0_1g_4, a0_1g_5, a0_1g_6]))]) hP hD hCc hk1 hFc hP1 hD1 [.inr 0, .inl 1, .inl 2] (by decide +kernel) rfl
    have hw : r18 = r15 := hw
    have hw := hw.symm
    subst hw
    exact W.iret (v := r15) hx hb hr (fun t ht hW => ⟨⟨r15, (), rfl, ⟨(Int.le_trans zq78 h15_0), h15_1⟩, v18na0_8, by rw [ht]; exact hP, va_K.moved hW.alike hK, hD⟩, hS.F ht⟩) hS.2.2 dX7_round_21
  · obtain ⟨hw, h1_0, h1_1⟩ := hw
    subst hw
    have l1k1_a0_7_0 : (0 : Int) ≤ a0_7_0.toInt := ba0_7_0_l
    have u1k1_a0_7_0 : a0_7_0.toInt ≤ (0 : Int) := h1_1
    refine lv_if_ne (tgt := 13) hx hb dX7_round_4 (by decide) (fun c4 => absurd (by decide +kernel) c4) (fun _ => ?_)
    refine lv_aload_n hx hb dX7_round_7 rfl (lv_at hl 0 rfl) ?_
    refine lv_iconst (v := 1) hx hb dX7_round_8 zk_iconst_1 ?_
    obtain ⟨hPc, hDc, hFc, hCc⟩ := zc_cut (wc := [(a0, .inr (7, [a0g_0, .ref a0_1, a0g_2, a0g_3, a0g_4, a0g_5, a0g_6, .ref a0_7, .int a0_8, a0g_9, a0g_10]))]) hP hD hS hA [0] (by decide +kernel) rfl
    have hKc := hK.sub (tys' := []) [] rfl
    refine va_calli (va_runV (As := [.int 1]) (rest := []) ⟨hx, hb, hml, hown, hts⟩ (c_X7_refused l dC dI H.size a0 1 a0g_0 (.ref a0_1) a0g_2 a0g_3 a0g_4 a0g_5 a0g_6 (.ref a0_7) a0g_9 a0g_10 a0_8 ) (cwV 1 hts gX7_round_X7_refused rfl rfl rfl zd_X7_refused ⟨Nat.le_of_ble_eq_true rfl, Nat.le_of_ble_eq_true rfl⟩) ⟨ax_blind (fun _ _ _ _ _ => trivial), zr_7 hKc hPc (q0 := 0) rfl, ax_pre hPc hKc hDc (fun _ _ => trivial)⟩ rfl rfl hl.1 rfl (lv_room (Nat.le_of_ble_eq_true rfl)) dX7_round_9 ⟨Nat.le_of_ble_eq_true rfl, Nat.le_of_ble_eq_true rfl⟩) hS (fun q _ h => hFc q h) hFc (fun r9 u t H locs ht hvm hw hB hz1 hk1 hS => ?_)
    obtain ⟨v9na0_8, hP1, hK1, hD1⟩ := hB
    rw [ht] at hP1
    obtain ⟨hP, hD⟩ := zc_back (w := [(a0, .inr (7, [a0g_0, .ref a0_1, a0g_2, a0g_3, a0g_4, a0g_5, a0g_6, .ref a0_7, .int v9na0_8, a0g_9, a0g_10])), (a0_7, .inr (0, [.int a0_7_0, a0_7g_1, a0_7g_2, a0_7g_3, a0_7g_4, .int a0_7_5, .int a0_7_6, a0_7g_7, a0_7g_8, a0_7g_9, a0_7g_10, a0_7g_11, a0_7g_12, a0_7g_13, a0_7g_14])), (a0_1, .inr (5, [a0_1g_0, .int a0_1_1, a0_1g_2, a0_1g_3, a0_1g_4, a0_1g_5, a0_1g_6]))]) hP hD hCc hk1 hFc hP1 hD1 [.inr 0, .inl 1, .inl 2] (by decide +kernel) rfl
    have hw : r9 = (-1) := hw
    have hw := hw.symm
    subst hw
    exact W.iret (v := (-1)) hx hb hr (fun t ht hW => ⟨⟨(-1), (), rfl, ⟨zq70, (Int.le_trans zq71 zq77)⟩, v9na0_8, by rw [ht]; exact hP, va_K.moved hW.alike hK, hD⟩, hS.F ht⟩) hS.2.2 dX7_round_12

set_option maxHeartbeats 4000000 in
set_option maxRecDepth 100000 in
theorem c_X7_called (l : Launch) (dC : Nat → ClassId) (dI : Nat → Nat → Nat) (sz : Nat) (a0 : Nat) (a0g_0 a0g_2 a0g_3 a0g_4 a0g_5 a0g_6 a0g_9 a0g_10 : Value) (a0_1 : Nat) (a0_7 : Nat) (a0_8 : Int32) (a0_7_0 : Int32) (a0_7g_1 a0_7g_2 a0_7g_3 a0_7g_4 a0_7g_7 a0_7g_8 a0_7g_9 a0_7g_10 a0_7g_11 a0_7g_12 a0_7g_13 a0_7g_14 : Value) (a0_7_5 : Int32) (a0_7_6 : Int32) (a0_1g_0 a0_1g_2 a0_1g_3 a0_1g_4 a0_1g_5 a0_1g_6 : Value) (a0_1_1 : Int32) (ba0_7_0_l : (0 : Int) ≤ a0_7_0.toInt) (ba0_7_0_u : a0_7_0.toInt ≤ (9 : Int)) (ba0_7_5_l : (0 : Int) ≤ a0_7_5.toInt) (ba0_7_5_u : a0_7_5.toInt ≤ (8 : Int)) (ba0_7_6_l : (0 : Int) ≤ a0_7_6.toInt) (ba0_7_6_u : a0_7_6.toInt ≤ (8 : Int)) (ba0_1_1_l : (0 : Int) ≤ a0_1_1.toInt) (ba0_1_1_u : a0_1_1.toInt ≤ (8 : Int)) : Met l yX7_called wsX7_called ({ frames := 1, cells := 0, slots := 0, locals := 21 }) (va_Pc [.ref a0] (ax_C dC dI sz [(a0, .inr (7, [a0g_0, .ref a0_1, a0g_2, a0g_3, a0g_4, a0g_5, a0g_6, .ref a0_7, .int a0_8, a0g_9, a0g_10])), (a0_7, .inr (0, [.int a0_7_0, a0_7g_1, a0_7g_2, a0_7g_3, a0_7g_4, .int a0_7_5, .int a0_7_6, a0_7g_7, a0_7g_8, a0_7g_9, a0_7g_10, a0_7g_11, a0_7g_12, a0_7g_13, a0_7g_14])), (a0_1, .inr (5, [a0_1g_0, .int a0_1_1, a0_1g_2, a0_1g_3, a0_1g_4, a0_1g_5, a0_1g_6]))] [] (fun _ => True))) (va_Qi (fun (r : Int32) (_ : Unit) => True) (fun (_ : Unit) (t : State) => ∃ na0_8 : Int32, ax_B dC dI (va_A [(a0, .inr (7, [a0g_0, .ref a0_1, a0g_2, a0g_3, a0g_4, a0g_5, a0g_6, .ref a0_7, .int a0_8, a0g_9, a0g_10])), (a0_7, .inr (0, [.int a0_7_0, a0_7g_1, a0_7g_2, a0_7g_3, a0_7g_4, .int a0_7_5, .int a0_7_6, a0_7g_7, a0_7g_8, a0_7g_9, a0_7g_10, a0_7g_11, a0_7g_12, a0_7g_13, a0_7g_14])), (a0_1, .inr (5, [a0_1g_0, .int a0_1_1, a0_1g_2, a0_1g_3, a0_1g_4, a0_1g_5, a0_1g_6]))] sz) [(a0, .inr (7, [a0g_0, .ref a0_1, a0g_2, a0g_3, a0g_4, a0g_5, a0g_6, .ref a0_7, .int na0_8, a0g_9, a0g_10])), (a0_7, .inr (0, [.int a0_7_0, a0_7g_1, a0_7g_2, a0_7g_3, a0_7g_4, .int a0_7_5, .int a0_7_6, a0_7g_7, a0_7g_8, a0_7g_9, a0_7g_10, a0_7g_11, a0_7g_12, a0_7g_13, a0_7g_14])), (a0_1, .inr (5, [a0_1g_0, .int a0_1_1, a0_1g_2, a0_1g_3, a0_1g_4, a0_1g_5, a0_1g_6]))] [] t) (va_A [(a0, .inr (7, [a0g_0, .ref a0_1, a0g_2, a0g_3, a0g_4, a0g_5, a0g_6, .ref a0_7, .int a0_8, a0g_9, a0g_10])), (a0_7, .inr (0, [.int a0_7_0, a0_7g_1, a0_7g_2, a0_7g_3, a0_7g_4, .int a0_7_5, .int a0_7_6, a0_7g_7, a0_7g_8, a0_7g_9, a0_7g_10, a0_7g_11, a0_7g_12, a0_7g_13, a0_7g_14])), (a0_1, .inr (5, [a0_1g_0, .int a0_1_1, a0_1g_2, a0_1g_3, a0_1g_4, a0_1g_5, a0_1g_6]))] sz)) 0 0 (va_A [(a0, .inr (7, [a0g_0, .ref a0_1, a0g_2, a0g_3, a0g_4, a0g_5, a0g_6, .ref a0_7, .int a0_8, a0g_9, a0g_10])), (a0_7, .inr (0, [.int a0_7_0, a0_7g_1, a0_7g_2, a0_7g_3, a0_7g_4, .int a0_7_5, .int a0_7_6, a0_7g_7, a0_7g_8, a0_7g_9, a0_7g_10, a0_7g_11, a0_7g_12, a0_7g_13, a0_7g_14])), (a0_1, .inr (5, [a0_1g_0, .int a0_1_1, a0_1g_2, a0_1g_3, a0_1g_4, a0_1g_5, a0_1g_6]))] sz) := by
  refine Met.ofW (cc := cX7_called) (maxL := 4) (ret := (some .int)) (by decide) rfl ?_
  intro p e s m args below meth c s₁ B hml hv
  obtain ⟨rfl, hsz, hP, hK, hD0, hE⟩ := hv
  have hx := B.exec
  have hb := B.bytes
  have hr := B.returns
  have hts := atoms_spec (ws := wsX7_called) B.pre
  have hown : s.vm.findClass RX7 = some m.cls := findClass_of_methodNamed B.named
  have hlocks := B.notSynchronized
  subst hsz
  have hD := hD0.self (sz := s.heap.size)
  generalize hAe : va_A [(a0, .inr (7, [a0g_0, .ref a0_1, a0g_2, a0g_3, a0g_4, a0g_5, a0g_6, .ref a0_7, .int a0_8, a0g_9, a0g_10])), (a0_7, .inr (0, [.int a0_7_0, a0_7g_1, a0_7g_2, a0_7g_3, a0_7g_4, .int a0_7_5, .int a0_7_6, a0_7g_7, a0_7g_8, a0_7g_9, a0_7g_10, a0_7g_11, a0_7g_12, a0_7g_13, a0_7g_14])), (a0_1, .inr (5, [a0_1g_0, .int a0_1_1, a0_1g_2, a0_1g_3, a0_1g_4, a0_1g_5, a0_1g_6]))] s.heap.size = A at hD ⊢
  have hA : ∀ q : Nat, s.heap.size ≤ q → A q := fun q h => by rw [← hAe]; exact Or.inr h
  have hS : va_S A s.heap s.heap [] := va_S.rf
  have hP : va_P (dC, dI) vwCl [(a0, .inr (7, [a0g_0, .ref a0_1, a0g_2, a0g_3, a0g_4, a0g_5, a0g_6, .ref a0_7, .int a0_8, a0g_9, a0g_10])), (a0_7, .inr (0, [.int a0_7_0, a0_7g_1, a0_7g_2, a0_7g_3, a0_7g_4, .int a0_7_5, .int a0_7_6, a0_7g_7, a0_7g_8, a0_7g_9, a0_7g_10, a0_7g_11, a0_7g_12, a0_7g_13, a0_7g_14])), (a0_1, .inr (5, [a0_1g_0, .int a0_1_1, a0_1g_2, a0_1g_3, a0_1g_4, a0_1g_5, a0_1g_6]))] s.heap := hP
  have hl := lv_entry ([.ref a0]) (n := 4) (Nat.le_of_ble_eq_true rfl)
  rw [lg_entry_eq]
  generalize (lg_sl ([.ref a0]) ++ List.replicate (4 - (lg_sl ([.ref a0])).length) Slot.unset).toArray = ls at hl ⊢
  have hl : lv_has ls 4 [(0, .ref a0)] := hl
  refine ai_open (fun K hK0 => ?_)
  refine (hK0 _ _ _).mpr ?_
  refine lv_aload_n hx hb dX7_called_0 rfl (lv_at hl 0 rfl) ?_
  obtain ⟨hPc, hDc, hFc, hCc⟩ := zc_cut (wc := [(a0, .inr (7, [a0g_0, .ref a0_1, a0g_2, a0g_3, a0g_4, a0g_5, a0g_6, .ref a0_7, .int a0_8, a0g_9, a0g_10])), (a0_7, .inr (0, [.int a0_7_0, a0_7g_1, a0_7g_2, a0_7g_3, a0_7g_4, .int a0_7_5, .int a0_7_6, a0_7g_7, a0_7g_8, a0_7g_9, a0_7g_10, a0_7g_11, a0_7g_12, a0_7g_13, a0_7g_14]))]) hP hD hS hA [0, 1] (by decide +kernel) rfl
  have hKc := hK.sub (tys' := []) [] rfl
  refine va_calli (va_runV (As := []) (rest := []) ⟨hx, hb, hml, hown, hts⟩ (c_X7_hasGallery l dC dI s.heap.size a0 a0g_0 (.ref a0_1) a0g_2 a0g_3 a0g_4 a0g_5 a0g_6 (.int a0_8) a0g_9 a0g_10 a0_7 a0_7_0 a0_7g_1 a0_7g_2 a0_7g_3 a0_7g_4 (.int a0_7_5) (.int a0_7_6) a0_7g_7 a0_7g_8 a0_7g_9 a0_7g_10 a0_7g_11 a0_7g_12 a0_7g_13 a0_7g_14 ba0_7_0_l ba0_7_0_u) (cwV 0 hts gX7_called_X7_hasGallery rfl rfl rfl zd_X7_hasGallery ⟨Nat.le_of_ble_eq_true rfl, Nat.le_of_ble_eq_true rfl⟩) ⟨ax_blind (fun _ _ _ _ _ => trivial), zr_7 hKc hPc (q0 := 0) rfl, ax_pre hPc hKc hDc (fun _ _ => trivial)⟩ rfl rfl hl.1 rfl (lv_room (Nat.le_of_ble_eq_true rfl)) dX7_called_1 ⟨Nat.le_of_ble_eq_true rfl, Nat.le_of_ble_eq_true rfl⟩) hS (fun q _ h => hFc q h) hFc (fun r1 u t H locs ht hvm hw hB hz1 hk1 hS => ?_)
  obtain ⟨hP1, hK1, hD1⟩ := hB
  rw [ht] at hP1
  obtain ⟨hP, hD⟩ := zc_back (w := [(a0, .inr (7, [a0g_0, .ref a0_1, a0g_2, a0g_3, a0g_4, a0g_5, a0g_6, .ref a0_7, .int a0_8, a0g_9, a0g_10])), (a0_7, .inr (0, [.int a0_7_0, a0_7g_1, a0_7g_2, a0_7g_3, a0_7g_4, .int a0_7_5, .int a0_7_6, a0_7g_7, a0_7g_8, a0_7g_9, a0_7g_10, a0_7g_11, a0_7g_12, a0_7g_13, a0_7g_14])), (a0_1, .inr (5, [a0_1g_0, .int a0_1_1, a0_1g_2, a0_1g_3, a0_1g_4, a0_1g_5, a0_1g_6]))]) hP hD hCc hk1 hFc hP1 hD1 [.inr 0, .inr 1, .inl 2] (by decide +kernel) rfl
  rcases hw with hw | hw
  · obtain ⟨hw, h1_0, h1_1⟩ := hw
    subst hw
    have l1k0_a0_7_0 : (1 : Int) ≤ a0_7_0.toInt := h1_0
    have u1k0_a0_7_0 : a0_7_0.toInt ≤ (9 : Int) := ba0_7_0_u
    refine lv_if_ne (tgt := 13) hx hb dX7_called_4 (by decide) (fun _ => ?_) (fun c4 => absurd c4 (by decide +kernel))
    refine lv_iconst (v := 0) hx hb dX7_called_13 zk_iconst_0 ?_
    refine lv_istore_n (lv' := [(1, .int 0), (0, .ref a0)]) hx hb dX7_called_14 rfl hl (by decide) rfl (fun ls hl => ?_)
    refine lv_aload_n hx hb dX7_called_15 rfl (lv_at hl 1 rfl) ?_
    refine va_get (D := (dC, dI)) (ci := 7) (v := .ref a0_1) (C := RX7) (T := TX7) (N := 11) hx hb hts zi_X7_called_7 hown hK hP 0 rfl rfl 1 (by decide) (hts (.fieldLink RX7 19 "WaxTurns" "now" "LWaxTurns$Scene;") (zm_X7_called_r1 (List.mem_of_getElem? (i := 0) rfl))) (fun _ h9 => h9) rfl dX7_called_16 ?_
    refine va_get (D := (dC, dI)) (ci := 5) (v := .int a0_1_1) (C := RX5) (T := TX5) (N := 7) hx hb hts zi_X7_called_5 hown hK hP 2 rfl rfl 1 (by decide) (hts (.fieldLink RX7 158 "WaxTurns$Scene" "turn" "I") (zm_X7_called_r1 (List.mem_of_getElem? (i := 1) rfl))) (fun _ h9 => h9) rfl dX7_called_19 ?_
    refine lv_istore_n (lv' := [(2, .int a0_1_1), (1, .int 0), (0, .ref a0)]) hx hb dX7_called_22 rfl hl (by decide) rfl (fun ls hl => ?_)
    refine lv_iconst (v := 0) hx hb dX7_called_23 zk_iconst_0 ?_
    refine lv_istore_n (lv' := [(3, .int 0), (2, .int a0_1_1), (1, .int 0), (0, .ref a0)]) hx hb dX7_called_24 rfl hl (by decide) rfl (fun ls hl => ?_)
    have J25 : ∀ (n : Nat) (j25l3 : Int32) (j25l2 : Int32) (j25l1 : Int32) (H : Heap) (locs : List Loc) (ls : Array Slot), (10 : Int) - j25l3.toInt ≤ (n : Int) → (0 : Int) ≤ j25l3.toInt → j25l3.toInt ≤ (9 : Int) → (0 : Int) ≤ j25l2.toInt → j25l2.toInt ≤ (8 : Int) → va_P (dC, dI) vwCl [(a0, .inr (7, [a0g_0, .ref a0_1, a0g_2, a0g_3, a0g_4, a0g_5, a0g_6, .ref a0_7, .int a0_8, a0g_9, a0g_10])), (a0_7, .inr (0, [.int a0_7_0, a0_7g_1, a0_7g_2, a0_7g_3, a0_7g_4, .int a0_7_5, .int a0_7_6, a0_7g_7, a0_7g_8, a0_7g_9, a0_7g_10, a0_7g_11, a0_7g_12, a0_7g_13, a0_7g_14])), (a0_1, .inr (5, [a0_1g_0, .int a0_1_1, a0_1g_2, a0_1g_3, a0_1g_4, a0_1g_5, a0_1g_6]))] H → va_D A [(a0, .inr (7, [a0g_0, .ref a0_1, a0g_2, a0g_3, a0g_4, a0g_5, a0g_6, .ref a0_7, .int a0_8, a0g_9, a0g_10])), (a0_7, .inr (0, [.int a0_7_0, a0_7g_1, a0_7g_2, a0_7g_3, a0_7g_4, .int a0_7_5, .int a0_7_6, a0_7g_7, a0_7g_8, a0_7g_9, a0_7g_10, a0_7g_11, a0_7g_12, a0_7g_13, a0_7g_14])), (a0_1, .inr (5, [a0_1g_0, .int a0_1_1, a0_1g_2, a0_1g_3, a0_1g_4, a0_1g_5, a0_1g_6]))] → va_S A s.heap H locs → lv_has ls 4 [(0, .ref a0), (1, .int j25l1), (2, .int j25l2), (3, .int j25l3)] → K H locs (F0 m 25 ls []) := by
      intro n
      induction n with
      | zero =>
        intro j25l3 j25l2 j25l1 H locs ls hm bj25l3_l bj25l3_u bj25l2_l bj25l2_u hP hD hS hl
        have h8 := ai_min j25l3
        have h9 := ai_max j25l3
        exact absurd hm (by omega)
      | succ n ih25 =>
        intro j25l3 j25l2 j25l1 H locs ls hm bj25l3_l bj25l3_u bj25l2_l bj25l2_u hP hD hS hl
        refine (hK0 _ _ _).mpr ?_
        have hm25 := hm
        refine lv_iload_n hx hb dX7_called_25 rfl (lv_at hl 3 rfl) ?_
        refine lv_aload_n hx hb dX7_called_26 rfl (lv_at hl 0 rfl) ?_
        refine va_get (D := (dC, dI)) (ci := 7) (v := .ref a0_7) (C := RX7) (T := TX7) (N := 11) hx hb hts zi_X7_called_7 hown hK hP 0 rfl rfl 7 (by decide) (hts (.fieldLink RX7 57 "WaxTurns" "hall" "LWaxTurns$Hall;") (zm_X7_called_r1 (List.mem_of_getElem? (i := 2) rfl))) (fun _ h9 => h9) rfl dX7_called_27 ?_
        refine va_get (D := (dC, dI)) (ci := 0) (v := .int a0_7_0) (C := RX0) (T := TX0) (N := 15) hx hb hts zi_X7_called_0 hown hK hP 1 rfl rfl 0 (by decide) (hts (.fieldLink RX7 110 "WaxTurns$Hall" "figures" "I") (zm_X7_called_r1 (List.mem_of_getElem? (i := 3) rfl))) (fun _ h9 => h9) rfl dX7_called_30 ?_
        refine lv_icmp_ge (tgt := 57) hx hb dX7_called_33 (by decide) (fun c33 => ?_) (fun c33 => ?_)
        · have gc33 := ai_le c33
          have u33t_a0_7_0 : a0_7_0.toInt ≤ (9 : Int) := u1k0_a0_7_0
          have l33t_j25l3 : (1 : Int) ≤ j25l3.toInt := Int.le_trans l1k0_a0_7_0 gc33
          refine lv_aload_n hx hb dX7_called_57 rfl (lv_at hl 0 rfl) ?_
          refine lv_iload_n hx hb dX7_called_58 rfl (lv_at hl 1 rfl) ?_
          obtain ⟨hPc, hDc, hFc, hCc⟩ := zc_cut (wc := [(a0, .inr (7, [a0g_0, .ref a0_1, a0g_2, a0g_3, a0g_4, a0g_5, a0g_6, .ref a0_7, .int a0_8, a0g_9, a0g_10]))]) hP hD hS hA [0] (by decide +kernel) rfl
          have hKc := hK.sub (tys' := []) [] rfl
          refine va_calli (va_runV (As := [.int j25l1]) (rest := []) ⟨hx, hb, hml, hown, hts⟩ (c_X7_answered l dC dI H.size a0 j25l1 a0g_0 (.ref a0_1) a0g_2 a0g_3 a0g_4 a0g_5 a0g_6 (.ref a0_7) a0g_9 a0g_10 a0_8 ) (cwV 1 hts gX7_called_X7_answered rfl rfl rfl zd_X7_answered ⟨Nat.le_of_ble_eq_true rfl, Nat.le_of_ble_eq_true rfl⟩) ⟨ax_blind (fun _ _ _ _ _ => trivial), zr_7 hKc hPc (q0 := 0) rfl, ax_pre hPc hKc hDc (fun _ _ => trivial)⟩ rfl rfl hl.1 rfl (lv_room (Nat.le_of_ble_eq_true rfl)) dX7_called_59 ⟨Nat.le_of_ble_eq_true rfl, Nat.le_of_ble_eq_true rfl⟩) hS (fun q _ h => hFc q h) hFc (fun r59 u t H locs ht hvm hw hB hz1 hk1 hS => ?_)
          obtain ⟨v59na0_8, hP1, hK1, hD1⟩ := hB
          rw [ht] at hP1
          obtain ⟨hP, hD⟩ := zc_back (w := [(a0, .inr (7, [a0g_0, .ref a0_1, a0g_2, a0g_3, a0g_4, a0g_5, a0g_6, .ref a0_7, .int v59na0_8, a0g_9, a0g_10])), (a0_7, .inr (0, [.int a0_7_0, a0_7g_1, a0_7g_2, a0_7g_3, a0_7g_4, .int a0_7_5, .int a0_7_6, a0_7g_7, a0_7g_8, a0_7g_9, a0_7g_10, a0_7g_11, a0_7g_12, a0_7g_13, a0_7g_14])), (a0_1, .inr (5, [a0_1g_0, .int a0_1_1, a0_1g_2, a0_1g_3, a0_1g_4, a0_1g_5, a0_1g_6]))]) hP hD hCc hk1 hFc hP1 hD1 [.inr 0, .inl 1, .inl 2] (by decide +kernel) rfl
          have hw : r59 = j25l1 := hw
          have hw := hw.symm
          subst hw
          exact W.iret (v := j25l1) hx hb hr (fun t ht hW => ⟨⟨j25l1, (), rfl, trivial, v59na0_8, by rw [ht]; exact hP, va_K.moved hW.alike hK, hD⟩, hS.F ht⟩) hS.2.2 dX7_called_62
        · have gc33 := ai_nle c33
          have u33f_j25l3 : j25l3.toInt ≤ (8 : Int) := ai_lthi gc33 u1k0_a0_7_0
          have l33f_a0_7_0 : (1 : Int) ≤ a0_7_0.toInt := l1k0_a0_7_0
          refine lv_iload_n hx hb dX7_called_36 rfl (lv_at hl 1 rfl) ?_
          refine lv_iconst (v := 1) hx hb dX7_called_37 zk_iconst_1 ?_
          refine lv_iload_n hx hb dX7_called_38 rfl (lv_at hl 2 rfl) ?_
          refine lv_ishl hx hb dX7_called_39 ?_
          refine lv_topi (fun x39 ex39 => ?_)
          refine lv_ior hx hb dX7_called_40 ?_
          refine lv_topi (fun x40 ex40 => ?_)
          refine lv_istore_n (lv' := [(1, .int x40), (0, .ref a0), (2, .int j25l2), (3, .int j25l3)]) hx hb dX7_called_41 rfl hl (by decide) rfl (fun ls hl => ?_)
          refine lv_aload_n hx hb dX7_called_42 rfl (lv_at hl 1 rfl) ?_
          refine va_get (D := (dC, dI)) (ci := 7) (v := .ref a0_7) (C := RX7) (T := TX7) (N := 11) hx hb hts zi_X7_called_7 hown hK hP 0 rfl rfl 7 (by decide) (hts (.fieldLink RX7 57 "WaxTurns" "hall" "LWaxTurns$Hall;") (zm_X7_called_r1 (List.mem_of_getElem? (i := 2) rfl))) (fun _ h9 => h9) rfl dX7_called_43 ?_
          refine lv_iload_n hx hb dX7_called_46 rfl (lv_at hl 2 rfl) ?_
          obtain ⟨hPc, hDc, hFc, hCc⟩ := zc_cut (wc := [(a0_7, .inr (0, [.int a0_7_0, a0_7g_1, a0_7g_2, a0_7g_3, a0_7g_4, .int a0_7_5, .int a0_7_6, a0_7g_7, a0_7g_8, a0_7g_9, a0_7g_10, a0_7g_11, a0_7g_12, a0_7g_13, a0_7g_14]))]) hP hD hS hA [1] (by decide +kernel) rfl
          have hKc := hK.sub (tys' := []) [] rfl
          refine va_calli (va_runV (As := [.int j25l2]) (rest := []) ⟨hx, hb, hml, hown, hts⟩ (c_X0_next l dC dI H.size a0_7 j25l2 a0_7_0 a0_7g_1 a0_7g_2 a0_7g_3 a0_7g_4 a0_7g_7 a0_7g_8 a0_7g_9 a0_7g_10 a0_7g_11 a0_7g_12 a0_7g_13 a0_7g_14 a0_7_5 a0_7_6 bj25l2_l bj25l2_u (Int.le_trans zq4 l33f_a0_7_0) u1k0_a0_7_0 ba0_7_5_l ba0_7_5_u ba0_7_6_l ba0_7_6_u) (cwV 1 hts gX7_called_X0_next rfl rfl rfl zd_X0_next ⟨Nat.le_of_ble_eq_true rfl, Nat.le_of_ble_eq_true rfl⟩) ⟨ax_blind (fun _ _ _ _ _ => trivial), zr_0 hKc hPc (q0 := 0) rfl, ax_pre hPc hKc hDc (fun _ _ => trivial)⟩ rfl rfl hl.1 rfl (lv_room (Nat.le_of_ble_eq_true rfl)) dX7_called_47 ⟨Nat.le_of_ble_eq_true rfl, Nat.le_of_ble_eq_true rfl⟩) hS (fun q _ h => hFc q h) hFc (fun r47 u t H locs ht hvm hw hB hz1 hk1 hS => ?_)
          obtain ⟨hP1, hK1, hD1⟩ := hB
          rw [ht] at hP1
          obtain ⟨hP, hD⟩ := zc_back (w := [(a0, .inr (7, [a0g_0, .ref a0_1, a0g_2, a0g_3, a0g_4, a0g_5, a0g_6, .ref a0_7, .int a0_8, a0g_9, a0g_10])), (a0_7, .inr (0, [.int a0_7_0, a0_7g_1, a0_7g_2, a0_7g_3, a0_7g_4, .int a0_7_5, .int a0_7_6, a0_7g_7, a0_7g_8, a0_7g_9, a0_7g_10, a0_7g_11, a0_7g_12, a0_7g_13, a0_7g_14])), (a0_1, .inr (5, [a0_1g_0, .int a0_1_1, a0_1g_2, a0_1g_3, a0_1g_4, a0_1g_5, a0_1g_6]))]) hP hD hCc hk1 hFc hP1 hD1 [.inl 0, .inr 0, .inl 2] (by decide +kernel) rfl
          have hw : (0 : Int) ≤ r47.toInt ∧ r47.toInt ≤ (8 : Int) := hw
          obtain ⟨h47_0, h47_1⟩ := hw
          refine lv_istore_n (lv' := [(2, .int r47), (1, .int x40), (0, .ref a0), (3, .int j25l3)]) hx hb dX7_called_50 rfl hl (by decide) rfl (fun ls hl => ?_)
          obtain ⟨x51, ex51⟩ : ∃ y : Int32, y = j25l3 + Int32.ofInt 1 := ⟨_, rfl⟩
          have qx51 : x51.toInt = j25l3.toInt + 1 := ai_inc ex51 (by decide) (by decide) u33f_j25l3 (by decide)
          have bx51 : (1 : Int) ≤ x51.toInt ∧ x51.toInt ≤ 9 := ⟨by rw [qx51]; exact Int.add_le_add bj25l3_l (Int.le_refl _), by rw [qx51]; exact Int.add_le_add u33f_j25l3 (Int.le_refl _)⟩
          refine lv_iinc (v := x51) (lv' := [(3, .int x51), (2, .int r47), (1, .int x40), (0, .ref a0)]) hx hb dX7_called_51 hl (k := 3) rfl ex51.symm (by decide) rfl (fun ls hl => ?_)
          refine lv_goto (tgt := 25) hx hb dX7_called_54 (by decide) ?_
          exact (hK0 _ _ _).mp (ih25 x51 r47 x40 _ _ _ (by have h0 := qx51; omega) (Int.le_trans zq4 bx51.1) bx51.2 h47_0 h47_1 hP hD hS (lv_sub hl [3, 2, 1, 0] rfl))
    exact (hK0 _ _ _).mp (J25 10 0 a0_1_1 0 _ _ _ (by have h1 : (0 : Int) ≤ (0 : Int32).toInt := zq5; have h2 : (0 : Int32).toInt ≤ (0 : Int) := zq6; omega) zq5 (Int.le_trans zq6 zq7) ba0_1_1_l ba0_1_1_u hP hD hS (lv_sub hl [3, 2, 1, 0] rfl))
  · obtain ⟨hw, h1_0, h1_1⟩ := hw
    subst hw
    have l1k1_a0_7_0 : (0 : Int) ≤ a0_7_0.toInt := ba0_7_0_l
    have u1k1_a0_7_0 : a0_7_0.toInt ≤ (0 : Int) := h1_1
    refine lv_if_ne (tgt := 13) hx hb dX7_called_4 (by decide) (fun c4 => absurd (by decide +kernel) c4) (fun _ => ?_)
    refine lv_aload_n hx hb dX7_called_7 rfl (lv_at hl 0 rfl) ?_
    refine lv_iconst (v := 1) hx hb dX7_called_8 zk_iconst_1 ?_
    obtain ⟨hPc, hDc, hFc, hCc⟩ := zc_cut (wc := [(a0, .inr (7, [a0g_0, .ref a0_1, a0g_2, a0g_3, a0g_4, a0g_5, a0g_6, .ref a0_7, .int a0_8, a0g_9, a0g_10]))]) hP hD hS hA [0] (by decide +kernel) rfl
    have hKc := hK.sub (tys' := []) [] rfl
    refine va_calli (va_runV (As := [.int 1]) (rest := []) ⟨hx, hb, hml, hown, hts⟩ (c_X7_refused l dC dI H.size a0 1 a0g_0 (.ref a0_1) a0g_2 a0g_3 a0g_4 a0g_5 a0g_6 (.ref a0_7) a0g_9 a0g_10 a0_8 ) (cwV 1 hts gX7_called_X7_refused rfl rfl rfl zd_X7_refused ⟨Nat.le_of_ble_eq_true rfl, Nat.le_of_ble_eq_true rfl⟩) ⟨ax_blind (fun _ _ _ _ _ => trivial), zr_7 hKc hPc (q0 := 0) rfl, ax_pre hPc hKc hDc (fun _ _ => trivial)⟩ rfl rfl hl.1 rfl (lv_room (Nat.le_of_ble_eq_true rfl)) dX7_called_9 ⟨Nat.le_of_ble_eq_true rfl, Nat.le_of_ble_eq_true rfl⟩) hS (fun q _ h => hFc q h) hFc (fun r9 u t H locs ht hvm hw hB hz1 hk1 hS => ?_)
    obtain ⟨v9na0_8, hP1, hK1, hD1⟩ := hB
    rw [ht] at hP1
    obtain ⟨hP, hD⟩ := zc_back (w := [(a0, .inr (7, [a0g_0, .ref a0_1, a0g_2, a0g_3, a0g_4, a0g_5, a0g_6, .ref a0_7, .int v9na0_8, a0g_9, a0g_10])), (a0_7, .inr (0, [.int a0_7_0, a0_7g_1, a0_7g_2, a0_7g_3, a0_7g_4, .int a0_7_5, .int a0_7_6, a0_7g_7, a0_7g_8, a0_7g_9, a0_7g_10, a0_7g_11, a0_7g_12, a0_7g_13, a0_7g_14])), (a0_1, .inr (5, [a0_1g_0, .int a0_1_1, a0_1g_2, a0_1g_3, a0_1g_4, a0_1g_5, a0_1g_6]))]) hP hD hCc hk1 hFc hP1 hD1 [.inr 0, .inl 1, .inl 2] (by decide +kernel) rfl
    have hw : r9 = (-1) := hw
    have hw := hw.symm
    subst hw
    exact W.iret (v := (-1)) hx hb hr (fun t ht hW => ⟨⟨(-1), (), rfl, trivial, v9na0_8, by rw [ht]; exact hP, va_K.moved hW.alike hK, hD⟩, hS.F ht⟩) hS.2.2 dX7_called_12

set_option maxHeartbeats 4000000 in
set_option maxRecDepth 100000 in
theorem c_X7_minutesOf (l : Launch) (dC : Nat → ClassId) (dI : Nat → Nat → Nat) (sz : Nat) (a0 : Nat) (a1 : Int32) (a2 : Int32) (a0g_0 a0g_2 a0g_3 a0g_4 a0g_5 a0g_6 a0g_9 a0g_10 : Value) (a0_1 : Nat) (a0_7 : Nat) (a0_8 : Int32) (a0_7_0 : Int32) (a0_7_1 : Int32) (a0_7g_2 a0_7g_3 a0_7g_4 a0_7g_7 a0_7g_8 a0_7g_9 a0_7g_10 a0_7g_11 a0_7g_12 a0_7g_13 a0_7g_14 : Value) (a0_7_5 : Int32) (a0_7_6 : Int32) (a0_1g_0 a0_1g_3 a0_1g_4 a0_1g_5 a0_1g_6 : Value) (a0_1_1 : Int32) (a0_1_2 : Int32) (ba0_7_0_l : (0 : Int) ≤ a0_7_0.toInt) (ba0_7_0_u : a0_7_0.toInt ≤ (9 : Int)) (ba0_7_5_l : (0 : Int) ≤ a0_7_5.toInt) (ba0_7_5_u : a0_7_5.toInt ≤ (8 : Int)) (ba0_7_6_l : (0 : Int) ≤ a0_7_6.toInt) (ba0_7_6_u : a0_7_6.toInt ≤ (8 : Int)) (ba0_1_1_l : (0 : Int) ≤ a0_1_1.toInt) (ba0_1_1_u : a0_1_1.toInt ≤ (8 : Int)) : Met l yX7_minutesOf wsX7_minutesOf ({ frames := 2, cells := 0, slots := 0, locals := 43 }) (va_Pc [.ref a0, .int a1, .int a2] (ax_C dC dI sz [(a0, .inr (7, [a0g_0, .ref a0_1, a0g_2, a0g_3, a0g_4, a0g_5, a0g_6, .ref a0_7, .int a0_8, a0g_9, a0g_10])), (a0_7, .inr (0, [.int a0_7_0, .int a0_7_1, a0_7g_2, a0_7g_3, a0_7g_4, .int a0_7_5, .int a0_7_6, a0_7g_7, a0_7g_8, a0_7g_9, a0_7g_10, a0_7g_11, a0_7g_12, a0_7g_13, a0_7g_14])), (a0_1, .inr (5, [a0_1g_0, .int a0_1_1, .int a0_1_2, a0_1g_3, a0_1g_4, a0_1g_5, a0_1g_6]))] [] (fun _ => True))) (va_Qi (fun (r : Int32) (_ : Unit) => True) (fun (_ : Unit) (t : State) => ∃ na0_8 : Int32, ax_B dC dI (va_A [(a0, .inr (7, [a0g_0, .ref a0_1, a0g_2, a0g_3, a0g_4, a0g_5, a0g_6, .ref a0_7, .int a0_8, a0g_9, a0g_10])), (a0_7, .inr (0, [.int a0_7_0, .int a0_7_1, a0_7g_2, a0_7g_3, a0_7g_4, .int a0_7_5, .int a0_7_6, a0_7g_7, a0_7g_8, a0_7g_9, a0_7g_10, a0_7g_11, a0_7g_12, a0_7g_13, a0_7g_14])), (a0_1, .inr (5, [a0_1g_0, .int a0_1_1, .int a0_1_2, a0_1g_3, a0_1g_4, a0_1g_5, a0_1g_6]))] sz) [(a0, .inr (7, [a0g_0, .ref a0_1, a0g_2, a0g_3, a0g_4, a0g_5, a0g_6, .ref a0_7, .int na0_8, a0g_9, a0g_10])), (a0_7, .inr (0, [.int a0_7_0, .int a0_7_1, a0_7g_2, a0_7g_3, a0_7g_4, .int a0_7_5, .int a0_7_6, a0_7g_7, a0_7g_8, a0_7g_9, a0_7g_10, a0_7g_11, a0_7g_12, a0_7g_13, a0_7g_14])), (a0_1, .inr (5, [a0_1g_0, .int a0_1_1, .int a0_1_2, a0_1g_3, a0_1g_4, a0_1g_5, a0_1g_6]))] [] t) (va_A [(a0, .inr (7, [a0g_0, .ref a0_1, a0g_2, a0g_3, a0g_4, a0g_5, a0g_6, .ref a0_7, .int a0_8, a0g_9, a0g_10])), (a0_7, .inr (0, [.int a0_7_0, .int a0_7_1, a0_7g_2, a0_7g_3, a0_7g_4, .int a0_7_5, .int a0_7_6, a0_7g_7, a0_7g_8, a0_7g_9, a0_7g_10, a0_7g_11, a0_7g_12, a0_7g_13, a0_7g_14])), (a0_1, .inr (5, [a0_1g_0, .int a0_1_1, .int a0_1_2, a0_1g_3, a0_1g_4, a0_1g_5, a0_1g_6]))] sz)) 0 0 (va_A [(a0, .inr (7, [a0g_0, .ref a0_1, a0g_2, a0g_3, a0g_4, a0g_5, a0g_6, .ref a0_7, .int a0_8, a0g_9, a0g_10])), (a0_7, .inr (0, [.int a0_7_0, .int a0_7_1, a0_7g_2, a0_7g_3, a0_7g_4, .int a0_7_5, .int a0_7_6, a0_7g_7, a0_7g_8, a0_7g_9, a0_7g_10, a0_7g_11, a0_7g_12, a0_7g_13, a0_7g_14])), (a0_1, .inr (5, [a0_1g_0, .int a0_1_1, .int a0_1_2, a0_1g_3, a0_1g_4, a0_1g_5, a0_1g_6]))] sz) := by
  refine Met.ofW (cc := cX7_minutesOf) (maxL := 7) (ret := (some .int)) (by decide) rfl ?_
  intro p e s m args below meth c s₁ B hml hv
  obtain ⟨rfl, hsz, hP, hK, hD0, hE⟩ := hv
  have hx := B.exec
  have hb := B.bytes
  have hr := B.returns
  have hts := atoms_spec (ws := wsX7_minutesOf) B.pre
  have hown : s.vm.findClass RX7 = some m.cls := findClass_of_methodNamed B.named
  have hlocks := B.notSynchronized
  subst hsz
  have hD := hD0.self (sz := s.heap.size)
  generalize hAe : va_A [(a0, .inr (7, [a0g_0, .ref a0_1, a0g_2, a0g_3, a0g_4, a0g_5, a0g_6, .ref a0_7, .int a0_8, a0g_9, a0g_10])), (a0_7, .inr (0, [.int a0_7_0, .int a0_7_1, a0_7g_2, a0_7g_3, a0_7g_4, .int a0_7_5, .int a0_7_6, a0_7g_7, a0_7g_8, a0_7g_9, a0_7g_10, a0_7g_11, a0_7g_12, a0_7g_13, a0_7g_14])), (a0_1, .inr (5, [a0_1g_0, .int a0_1_1, .int a0_1_2, a0_1g_3, a0_1g_4, a0_1g_5, a0_1g_6]))] s.heap.size = A at hD ⊢
  have hA : ∀ q : Nat, s.heap.size ≤ q → A q := fun q h => by rw [← hAe]; exact Or.inr h
  have hS : va_S A s.heap s.heap [] := va_S.rf
  have hP : va_P (dC, dI) vwCl [(a0, .inr (7, [a0g_0, .ref a0_1, a0g_2, a0g_3, a0g_4, a0g_5, a0g_6, .ref a0_7, .int a0_8, a0g_9, a0g_10])), (a0_7, .inr (0, [.int a0_7_0, .int a0_7_1, a0_7g_2, a0_7g_3, a0_7g_4, .int a0_7_5, .int a0_7_6, a0_7g_7, a0_7g_8, a0_7g_9, a0_7g_10, a0_7g_11, a0_7g_12, a0_7g_13, a0_7g_14])), (a0_1, .inr (5, [a0_1g_0, .int a0_1_1, .int a0_1_2, a0_1g_3, a0_1g_4, a0_1g_5, a0_1g_6]))] s.heap := hP
  have hl := lv_entry ([.ref a0, .int a1, .int a2]) (n := 7) (Nat.le_of_ble_eq_true rfl)
  rw [lg_entry_eq]
  generalize (lg_sl ([.ref a0, .int a1, .int a2]) ++ List.replicate (7 - (lg_sl ([.ref a0, .int a1, .int a2])).length) Slot.unset).toArray = ls at hl ⊢
  have hl : lv_has ls 7 [(0, .ref a0), (1, .int a1), (2, .int a2)] := hl
  refine ai_open (fun K hK0 => ?_)
  refine (hK0 _ _ _).mpr ?_
  refine lv_aload_n hx hb dX7_minutesOf_0 rfl (lv_at hl 0 rfl) ?_
  refine lv_iload_n hx hb dX7_minutesOf_1 rfl (lv_at hl 1 rfl) ?_
  obtain ⟨hPc, hDc, hFc, hCc⟩ := zc_cut (wc := [(a0, .inr (7, [a0g_0, .ref a0_1, a0g_2, a0g_3, a0g_4, a0g_5, a0g_6, .ref a0_7, .int a0_8, a0g_9, a0g_10])), (a0_7, .inr (0, [.int a0_7_0, .int a0_7_1, a0_7g_2, a0_7g_3, a0_7g_4, .int a0_7_5, .int a0_7_6, a0_7g_7, a0_7g_8, a0_7g_9, a0_7g_10, a0_7g_11, a0_7g_12, a0_7g_13, a0_7g_14]))]) hP hD hS hA [0, 1] (by decide +kernel) rfl
  have hKc := hK.sub (tys' := []) [] rfl
  refine va_calli (va_runV (As := [.int a1]) (rest := []) ⟨hx, hb, hml, hown, hts⟩ (c_X7_isFigure l dC dI s.heap.size a0 a1 a0g_0 (.ref a0_1) a0g_2 a0g_3 a0g_4 a0g_5 a0g_6 (.int a0_8) a0g_9 a0g_10 a0_7 a0_7_0 (.int a0_7_1) a0_7g_2 a0_7g_3 a0_7g_4 (.int a0_7_5) (.int a0_7_6) a0_7g_7 a0_7g_8 a0_7g_9 a0_7g_10 a0_7g_11 a0_7g_12 a0_7g_13 a0_7g_14 ba0_7_0_l ba0_7_0_u) (cwV 1 hts gX7_minutesOf_X7_isFigure rfl rfl rfl zd_X7_isFigure ⟨Nat.le_of_ble_eq_true rfl, Nat.le_of_ble_eq_true rfl⟩) ⟨ax_blind (fun _ _ _ _ _ => trivial), zr_7 hKc hPc (q0 := 0) rfl, ax_pre hPc hKc hDc (fun _ _ => trivial)⟩ rfl rfl hl.1 rfl (lv_room (Nat.le_of_ble_eq_true rfl)) dX7_minutesOf_2 ⟨Nat.le_of_ble_eq_true rfl, Nat.le_of_ble_eq_true rfl⟩) hS (fun q _ h => hFc q h) hFc (fun r2 u t H locs ht hvm hw hB hz1 hk1 hS => ?_)
  obtain ⟨hP1, hK1, hD1⟩ := hB
  rw [ht] at hP1
  obtain ⟨hP, hD⟩ := zc_back (w := [(a0, .inr (7, [a0g_0, .ref a0_1, a0g_2, a0g_3, a0g_4, a0g_5, a0g_6, .ref a0_7, .int a0_8, a0g_9, a0g_10])), (a0_7, .inr (0, [.int a0_7_0, .int a0_7_1, a0_7g_2, a0_7g_3, a0_7g_4, .int a0_7_5, .int a0_7_6, a0_7g_7, a0_7g_8, a0_7g_9, a0_7g_10, a0_7g_11, a0_7g_12, a0_7g_13, a0_7g_14])), (a0_1, .inr (5, [a0_1g_0, .int a0_1_1, .int a0_1_2, a0_1g_3, a0_1g_4, a0_1g_5, a0_1g_6]))]) hP hD hCc hk1 hFc hP1 hD1 [.inr 0, .inr 1, .inl 2] (by decide +kernel) rfl
  rcases hw with hw | hw
  · obtain ⟨hw, h2_0, h2_1, h2_2, h2_3⟩ := hw
    subst hw
    have l2k0_a1 : (0 : Int) ≤ a1.toInt := h2_0
    have u2k0_a1 : a1.toInt ≤ (8 : Int) := h2_1
    have l2k0_a0_7_0 : (1 : Int) ≤ a0_7_0.toInt := h2_2
    have u2k0_a0_7_0 : a0_7_0.toInt ≤ (9 : Int) := ba0_7_0_u
    refine lv_if_ne (tgt := 14) hx hb dX7_minutesOf_5 (by decide) (fun _ => ?_) (fun c5 => absurd c5 (by decide +kernel))
    refine lv_iload_n hx hb dX7_minutesOf_14 rfl (lv_at hl 2 rfl) ?_
    refine lv_iconst (v := 0) hx hb dX7_minutesOf_15 zk_iconst_0 ?_
    refine lv_sipush (v := 999) hx hb dX7_minutesOf_16 zk_sipush_999 ?_
    obtain ⟨hPc, hDc, hFc, hCc⟩ := zc_cut (wc := []) hP hD hS hA [] (by decide +kernel) rfl
    have hKc := hK.sub (tys' := []) [] rfl
    refine va_calli (va_runS (As := [.int a2, .int 0, .int 999]) (rest := []) ⟨hx, hb, hml, hown, hts⟩ (c_X7_within l dC dI H.size a2 0 999 ) (va_cwS 3 hts gX7_minutesOf_X7_within rfl rfl rfl zd_X7_within.2 ⟨Nat.le_of_ble_eq_true rfl, Nat.le_of_ble_eq_true rfl⟩) ⟨ax_blind (fun _ _ _ _ _ => trivial), ax_pre hPc hKc hDc (fun _ _ => trivial)⟩ rfl rfl hl.1 rfl (lv_room (Nat.le_of_ble_eq_true rfl)) dX7_minutesOf_19 ⟨Nat.le_of_ble_eq_true rfl, Nat.le_of_ble_eq_true rfl⟩) hS (fun q _ h => hFc q h) hFc (fun r19 u t H locs ht hvm hw hB hz1 hk1 hS => ?_)
    obtain ⟨hP1, hK1, hD1⟩ := hB
    rw [ht] at hP1
    obtain ⟨hP, hD⟩ := zc_back (w := [(a0, .inr (7, [a0g_0, .ref a0_1, a0g_2, a0g_3, a0g_4, a0g_5, a0g_6, .ref a0_7, .int a0_8, a0g_9, a0g_10])), (a0_7, .inr (0, [.int a0_7_0, .int a0_7_1, a0_7g_2, a0_7g_3, a0_7g_4, .int a0_7_5, .int a0_7_6, a0_7g_7, a0_7g_8, a0_7g_9, a0_7g_10, a0_7g_11, a0_7g_12, a0_7g_13, a0_7g_14])), (a0_1, .inr (5, [a0_1g_0, .int a0_1_1, .int a0_1_2, a0_1g_3, a0_1g_4, a0_1g_5, a0_1g_6]))]) hP hD hCc hk1 hFc hP1 hD1 [.inl 0, .inl 1, .inl 2] (by decide +kernel) rfl
    rcases hw with hw | hw
    · obtain ⟨hw, h19⟩ := hw
      subst hw
      have l19k0_a2 : (0 : Int) ≤ a2.toInt := Int.le_trans zq5 h19.1
      have u19k0_a2 : a2.toInt ≤ (999 : Int) := Int.le_trans h19.2 zq79
      refine lv_if_ne (tgt := 31) hx hb dX7_minutesOf_22 (by decide) (fun _ => ?_) (fun c22 => absurd c22 (by decide +kernel))
      refine lv_iconst (v := 0) hx hb dX7_minutesOf_31 zk_iconst_0 ?_
      refine lv_istore_n (lv' := [(3, .int 0), (0, .ref a0), (1, .int a1), (2, .int a2)]) hx hb dX7_minutesOf_32 rfl hl (by decide) rfl (fun ls hl => ?_)
      refine lv_aload_n hx hb dX7_minutesOf_33 rfl (lv_at hl 1 rfl) ?_
      refine va_get (D := (dC, dI)) (ci := 7) (v := .ref a0_1) (C := RX7) (T := TX7) (N := 11) hx hb hts zi_X7_minutesOf_7 hown hK hP 0 rfl rfl 1 (by decide) (hts (.fieldLink RX7 19 "WaxTurns" "now" "LWaxTurns$Scene;") (zm_X7_minutesOf_r1 (List.mem_of_getElem? (i := 0) rfl))) (fun _ h9 => h9) rfl dX7_minutesOf_34 ?_
      refine va_get (D := (dC, dI)) (ci := 5) (v := .int a0_1_1) (C := RX5) (T := TX5) (N := 7) hx hb hts zi_X7_minutesOf_5 hown hK hP 2 rfl rfl 1 (by decide) (hts (.fieldLink RX7 158 "WaxTurns$Scene" "turn" "I") (zm_X7_minutesOf_r1 (List.mem_of_getElem? (i := 1) rfl))) (fun _ h9 => h9) rfl dX7_minutesOf_37 ?_
      refine lv_istore (lv' := [(4, .int a0_1_1), (3, .int 0), (0, .ref a0), (1, .int a1), (2, .int a2)]) hx hb dX7_minutesOf_40 hl (by decide) rfl (fun ls hl => ?_)
      refine lv_aload_n hx hb dX7_minutesOf_42 rfl (lv_at hl 2 rfl) ?_
      refine va_get (D := (dC, dI)) (ci := 7) (v := .ref a0_1) (C := RX7) (T := TX7) (N := 11) hx hb hts zi_X7_minutesOf_7 hown hK hP 0 rfl rfl 1 (by decide) (hts (.fieldLink RX7 19 "WaxTurns" "now" "LWaxTurns$Scene;") (zm_X7_minutesOf_r1 (List.mem_of_getElem? (i := 0) rfl))) (fun _ h9 => h9) rfl dX7_minutesOf_43 ?_
      refine va_get (D := (dC, dI)) (ci := 5) (v := .int a0_1_2) (C := RX5) (T := TX5) (N := 7) hx hb hts zi_X7_minutesOf_5 hown hK hP 2 rfl rfl 2 (by decide) (hts (.fieldLink RX7 164 "WaxTurns$Scene" "spent" "I") (zm_X7_minutesOf_r1 (List.mem_of_getElem? (i := 2) rfl))) (fun _ h9 => h9) rfl dX7_minutesOf_46 ?_
      refine lv_istore (lv' := [(5, .int a0_1_2), (4, .int a0_1_1), (3, .int 0), (0, .ref a0), (1, .int a1), (2, .int a2)]) hx hb dX7_minutesOf_49 hl (by decide) rfl (fun ls hl => ?_)
      refine lv_iconst (v := 0) hx hb dX7_minutesOf_51 zk_iconst_0 ?_
      refine lv_istore (lv' := [(6, .int 0), (5, .int a0_1_2), (4, .int a0_1_1), (3, .int 0), (0, .ref a0), (1, .int a1), (2, .int a2)]) hx hb dX7_minutesOf_52 hl (by decide) rfl (fun ls hl => ?_)
      have J54 : ∀ (n : Nat) (j54l6 : Int32) (j54l5 : Int32) (j54l4 : Int32) (j54l3 : Int32) (H : Heap) (locs : List Loc) (ls : Array Slot), (1000 : Int) - j54l6.toInt ≤ (n : Int) → (0 : Int) ≤ j54l6.toInt → j54l6.toInt ≤ (999 : Int) → (0 : Int) ≤ j54l4.toInt → j54l4.toInt ≤ (8 : Int) → va_P (dC, dI) vwCl [(a0, .inr (7, [a0g_0, .ref a0_1, a0g_2, a0g_3, a0g_4, a0g_5, a0g_6, .ref a0_7, .int a0_8, a0g_9, a0g_10])), (a0_7, .inr (0, [.int a0_7_0, .int a0_7_1, a0_7g_2, a0_7g_3, a0_7g_4, .int a0_7_5, .int a0_7_6, a0_7g_7, a0_7g_8, a0_7g_9, a0_7g_10, a0_7g_11, a0_7g_12, a0_7g_13, a0_7g_14])), (a0_1, .inr (5, [a0_1g_0, .int a0_1_1, .int a0_1_2, a0_1g_3, a0_1g_4, a0_1g_5, a0_1g_6]))] H → va_D A [(a0, .inr (7, [a0g_0, .ref a0_1, a0g_2, a0g_3, a0g_4, a0g_5, a0g_6, .ref a0_7, .int a0_8, a0g_9, a0g_10])), (a0_7, .inr (0, [.int a0_7_0, .int a0_7_1, a0_7g_2, a0_7g_3, a0_7g_4, .int a0_7_5, .int a0_7_6, a0_7g_7, a0_7g_8, a0_7g_9, a0_7g_10, a0_7g_11, a0_7g_12, a0_7g_13, a0_7g_14])), (a0_1, .inr (5, [a0_1g_0, .int a0_1_1, .int a0_1_2, a0_1g_3, a0_1g_4, a0_1g_5, a0_1g_6]))] → va_S A s.heap H locs → lv_has ls 7 [(0, .ref a0), (1, .int a1), (2, .int a2), (3, .int j54l3), (4, .int j54l4), (5, .int j54l5), (6, .int j54l6)] → K H locs (F0 m 54 ls []) := by
        intro n
        induction n with
        | zero =>
          intro j54l6 j54l5 j54l4 j54l3 H locs ls hm bj54l6_l bj54l6_u bj54l4_l bj54l4_u hP hD hS hl
          have h8 := ai_min j54l6
          have h9 := ai_max j54l6
          exact absurd hm (by omega)
        | succ n ih54 =>
          intro j54l6 j54l5 j54l4 j54l3 H locs ls hm bj54l6_l bj54l6_u bj54l4_l bj54l4_u hP hD hS hl
          refine (hK0 _ _ _).mpr ?_
          have hm54 := hm
          refine lv_iload hx hb dX7_minutesOf_54 (lv_at hl 6 rfl) ?_
          refine lv_iload_n hx hb dX7_minutesOf_56 rfl (lv_at hl 2 rfl) ?_
          refine lv_icmp_ge (tgt := 104) hx hb dX7_minutesOf_57 (by decide) (fun c57 => ?_) (fun c57 => ?_)
          · have gc57 := ai_le c57
            have u57t_a2 : a2.toInt ≤ (999 : Int) := u19k0_a2
            have l57t_j54l6 : (0 : Int) ≤ j54l6.toInt := bj54l6_l
            refine lv_aload_n hx hb dX7_minutesOf_104 rfl (lv_at hl 0 rfl) ?_
            refine lv_iload_n hx hb dX7_minutesOf_105 rfl (lv_at hl 3 rfl) ?_
            obtain ⟨hPc, hDc, hFc, hCc⟩ := zc_cut (wc := [(a0, .inr (7, [a0g_0, .ref a0_1, a0g_2, a0g_3, a0g_4, a0g_5, a0g_6, .ref a0_7, .int a0_8, a0g_9, a0g_10]))]) hP hD hS hA [0] (by decide +kernel) rfl
            have hKc := hK.sub (tys' := []) [] rfl
            refine va_calli (va_runV (As := [.int j54l3]) (rest := []) ⟨hx, hb, hml, hown, hts⟩ (c_X7_answered l dC dI H.size a0 j54l3 a0g_0 (.ref a0_1) a0g_2 a0g_3 a0g_4 a0g_5 a0g_6 (.ref a0_7) a0g_9 a0g_10 a0_8 ) (cwV 1 hts gX7_minutesOf_X7_answered rfl rfl rfl zd_X7_answered ⟨Nat.le_of_ble_eq_true rfl, Nat.le_of_ble_eq_true rfl⟩) ⟨ax_blind (fun _ _ _ _ _ => trivial), zr_7 hKc hPc (q0 := 0) rfl, ax_pre hPc hKc hDc (fun _ _ => trivial)⟩ rfl rfl hl.1 rfl (lv_room (Nat.le_of_ble_eq_true rfl)) dX7_minutesOf_106 ⟨Nat.le_of_ble_eq_true rfl, Nat.le_of_ble_eq_true rfl⟩) hS (fun q _ h => hFc q h) hFc (fun r106 u t H locs ht hvm hw hB hz1 hk1 hS => ?_)
            obtain ⟨v106na0_8, hP1, hK1, hD1⟩ := hB
            rw [ht] at hP1
            obtain ⟨hP, hD⟩ := zc_back (w := [(a0, .inr (7, [a0g_0, .ref a0_1, a0g_2, a0g_3, a0g_4, a0g_5, a0g_6, .ref a0_7, .int v106na0_8, a0g_9, a0g_10])), (a0_7, .inr (0, [.int a0_7_0, .int a0_7_1, a0_7g_2, a0_7g_3, a0_7g_4, .int a0_7_5, .int a0_7_6, a0_7g_7, a0_7g_8, a0_7g_9, a0_7g_10, a0_7g_11, a0_7g_12, a0_7g_13, a0_7g_14])), (a0_1, .inr (5, [a0_1g_0, .int a0_1_1, .int a0_1_2, a0_1g_3, a0_1g_4, a0_1g_5, a0_1g_6]))]) hP hD hCc hk1 hFc hP1 hD1 [.inr 0, .inl 1, .inl 2] (by decide +kernel) rfl
            have hw : r106 = j54l3 := hw
            have hw := hw.symm
            subst hw
            exact W.iret (v := j54l3) hx hb hr (fun t ht hW => ⟨⟨j54l3, (), rfl, trivial, v106na0_8, by rw [ht]; exact hP, va_K.moved hW.alike hK, hD⟩, hS.F ht⟩) hS.2.2 dX7_minutesOf_109
          · have gc57 := ai_nle c57
            have u57f_j54l6 : j54l6.toInt ≤ (998 : Int) := ai_lthi gc57 u19k0_a2
            have l57f_a2 : (1 : Int) ≤ a2.toInt := ai_ltlo gc57 bj54l6_l
            refine lv_iload hx hb dX7_minutesOf_60 (lv_at hl 4 rfl) ?_
            refine lv_iload_n hx hb dX7_minutesOf_62 rfl (lv_at hl 1 rfl) ?_
            have J69 : ∀ (j69l3 : Int32) (H : Heap) (locs : List Loc) (ls : Array Slot), va_P (dC, dI) vwCl [(a0, .inr (7, [a0g_0, .ref a0_1, a0g_2, a0g_3, a0g_4, a0g_5, a0g_6, .ref a0_7, .int a0_8, a0g_9, a0g_10])), (a0_7, .inr (0, [.int a0_7_0, .int a0_7_1, a0_7g_2, a0_7g_3, a0_7g_4, .int a0_7_5, .int a0_7_6, a0_7g_7, a0_7g_8, a0_7g_9, a0_7g_10, a0_7g_11, a0_7g_12, a0_7g_13, a0_7g_14])), (a0_1, .inr (5, [a0_1g_0, .int a0_1_1, .int a0_1_2, a0_1g_3, a0_1g_4, a0_1g_5, a0_1g_6]))] H → va_D A [(a0, .inr (7, [a0g_0, .ref a0_1, a0g_2, a0g_3, a0g_4, a0g_5, a0g_6, .ref a0_7, .int a0_8, a0g_9, a0g_10])), (a0_7, .inr (0, [.int a0_7_0, .int a0_7_1, a0_7g_2, a0_7g_3, a0_7g_4, .int a0_7_5, .int a0_7_6, a0_7g_7, a0_7g_8, a0_7g_9, a0_7g_10, a0_7g_11, a0_7g_12, a0_7g_13, a0_7g_14])), (a0_1, .inr (5, [a0_1g_0, .int a0_1_1, .int a0_1_2, a0_1g_3, a0_1g_4, a0_1g_5, a0_1g_6]))] → va_S A s.heap H locs → lv_has ls 7 [(0, .ref a0), (1, .int a1), (2, .int a2), (3, .int j69l3), (4, .int j54l4), (5, .int j54l5), (6, .int j54l6)] → K H locs (F0 m 69 ls []) := by
              intro j69l3 H locs ls   hP hD hS hl
              refine (hK0 _ _ _).mpr ?_
              obtain ⟨x69, ex69⟩ : ∃ y : Int32, y = j54l5 + Int32.ofInt 1 := ⟨_, rfl⟩
              refine lv_iinc (v := x69) (lv' := [(5, .int x69), (0, .ref a0), (1, .int a1), (2, .int a2), (3, .int j69l3), (4, .int j54l4), (6, .int j54l6)]) hx hb dX7_minutesOf_69 hl (k := 5) rfl ex69.symm (by decide) rfl (fun ls hl => ?_)
              refine lv_iload hx hb dX7_minutesOf_72 (lv_at hl 0 rfl) ?_
              refine lv_aload_n hx hb dX7_minutesOf_74 rfl (lv_at hl 1 rfl) ?_
              refine va_get (D := (dC, dI)) (ci := 7) (v := .ref a0_7) (C := RX7) (T := TX7) (N := 11) hx hb hts zi_X7_minutesOf_7 hown hK hP 0 rfl rfl 7 (by decide) (hts (.fieldLink RX7 57 "WaxTurns" "hall" "LWaxTurns$Hall;") (zm_X7_minutesOf_r1 (List.mem_of_getElem? (i := 3) rfl))) (fun _ h9 => h9) rfl dX7_minutesOf_75 ?_
              refine va_get (D := (dC, dI)) (ci := 0) (v := .int a0_7_1) (C := RX0) (T := TX0) (N := 15) hx hb hts zi_X7_minutesOf_0 hown hK hP 1 rfl rfl 1 (by decide) (hts (.fieldLink RX7 161 "WaxTurns$Hall" "span" "I") (zm_X7_minutesOf_r1 (List.mem_of_getElem? (i := 4) rfl))) (fun _ h9 => h9) rfl dX7_minutesOf_78 ?_
              have J98 : ∀ (j98l5 : Int32) (j98l4 : Int32) (H : Heap) (locs : List Loc) (ls : Array Slot), j98l5.toInt ≤ (2147483646 : Int) → (0 : Int) ≤ j98l4.toInt → j98l4.toInt ≤ (8 : Int) → va_P (dC, dI) vwCl [(a0, .inr (7, [a0g_0, .ref a0_1, a0g_2, a0g_3, a0g_4, a0g_5, a0g_6, .ref a0_7, .int a0_8, a0g_9, a0g_10])), (a0_7, .inr (0, [.int a0_7_0, .int a0_7_1, a0_7g_2, a0_7g_3, a0_7g_4, .int a0_7_5, .int a0_7_6, a0_7g_7, a0_7g_8, a0_7g_9, a0_7g_10, a0_7g_11, a0_7g_12, a0_7g_13, a0_7g_14])), (a0_1, .inr (5, [a0_1g_0, .int a0_1_1, .int a0_1_2, a0_1g_3, a0_1g_4, a0_1g_5, a0_1g_6]))] H → va_D A [(a0, .inr (7, [a0g_0, .ref a0_1, a0g_2, a0g_3, a0g_4, a0g_5, a0g_6, .ref a0_7, .int a0_8, a0g_9, a0g_10])), (a0_7, .inr (0, [.int a0_7_0, .int a0_7_1, a0_7g_2, a0_7g_3, a0_7g_4, .int a0_7_5, .int a0_7_6, a0_7g_7, a0_7g_8, a0_7g_9, a0_7g_10, a0_7g_11, a0_7g_12, a0_7g_13, a0_7g_14])), (a0_1, .inr (5, [a0_1g_0, .int a0_1_1, .int a0_1_2, a0_1g_3, a0_1g_4, a0_1g_5, a0_1g_6]))] → va_S A s.heap H locs → lv_has ls 7 [(0, .ref a0), (1, .int a1), (2, .int a2), (3, .int j69l3), (4, .int j98l4), (5, .int j98l5), (6, .int j54l6)] → K H locs (F0 m 98 ls []) := by
                intro j98l5 j98l4 H locs ls  bj98l5_u bj98l4_l bj98l4_u hP hD hS hl
                refine (hK0 _ _ _).mpr ?_
                obtain ⟨x98, ex98⟩ : ∃ y : Int32, y = j54l6 + Int32.ofInt 1 := ⟨_, rfl⟩
                have qx98 : x98.toInt = j54l6.toInt + 1 := ai_inc ex98 (by decide) (by decide) u57f_j54l6 (by decide)
                have bx98 : (1 : Int) ≤ x98.toInt ∧ x98.toInt ≤ 999 := ⟨by rw [qx98]; exact Int.add_le_add bj54l6_l (Int.le_refl _), by rw [qx98]; exact Int.add_le_add u57f_j54l6 (Int.le_refl _)⟩
                refine lv_iinc (v := x98) (lv' := [(6, .int x98), (0, .ref a0), (1, .int a1), (2, .int a2), (3, .int j69l3), (4, .int j98l4), (5, .int j98l5)]) hx hb dX7_minutesOf_98 hl (k := 6) rfl ex98.symm (by decide) rfl (fun ls hl => ?_)
                refine lv_goto (tgt := 54) hx hb dX7_minutesOf_101 (by decide) ?_
                exact (hK0 _ _ _).mp (ih54 x98 j98l5 j98l4 j69l3 _ _ _ (by have h0 := qx98; omega) (Int.le_trans zq4 bx98.1) bx98.2 bj98l4_l bj98l4_u hP hD hS (lv_sub hl [1, 2, 3, 4, 5, 6, 0] rfl))
              refine lv_icmp_lt (tgt := 98) hx hb dX7_minutesOf_81 (by decide) (fun c81 => ?_) (fun c81 => ?_)
              · have gc81 := ai_lt c81
                have u81t_x69 : x69.toInt ≤ (2147483646 : Int) := ai_lthi gc81 (ai_max a0_7_1)
                have l81t_a0_7_1 : (-2147483647 : Int) ≤ a0_7_1.toInt := ai_ltlo gc81 (ai_min x69)
                exact (hK0 _ _ _).mp (J98 x69 j54l4 _ _ _  u81t_x69 bj54l4_l bj54l4_u hP hD hS (lv_sub hl [1, 2, 3, 4, 5, 0, 6] rfl))
              · have gc81 := ai_nlt c81
                refine lv_iconst (v := 0) hx hb dX7_minutesOf_84 zk_iconst_0 ?_
                refine lv_istore (lv' := [(5, .int 0), (0, .ref a0), (1, .int a1), (2, .int a2), (3, .int j69l3), (4, .int j54l4), (6, .int j54l6)]) hx hb dX7_minutesOf_85 hl (by decide) rfl (fun ls hl => ?_)
                refine lv_aload_n hx hb dX7_minutesOf_87 rfl (lv_at hl 1 rfl) ?_
                refine va_get (D := (dC, dI)) (ci := 7) (v := .ref a0_7) (C := RX7) (T := TX7) (N := 11) hx hb hts zi_X7_minutesOf_7 hown hK hP 0 rfl rfl 7 (by decide) (hts (.fieldLink RX7 57 "WaxTurns" "hall" "LWaxTurns$Hall;") (zm_X7_minutesOf_r1 (List.mem_of_getElem? (i := 3) rfl))) (fun _ h9 => h9) rfl dX7_minutesOf_88 ?_
                refine lv_iload hx hb dX7_minutesOf_91 (lv_at hl 5 rfl) ?_
                obtain ⟨hPc, hDc, hFc, hCc⟩ := zc_cut (wc := [(a0_7, .inr (0, [.int a0_7_0, .int a0_7_1, a0_7g_2, a0_7g_3, a0_7g_4, .int a0_7_5, .int a0_7_6, a0_7g_7, a0_7g_8, a0_7g_9, a0_7g_10, a0_7g_11, a0_7g_12, a0_7g_13, a0_7g_14]))]) hP hD hS hA [1] (by decide +kernel) rfl
                have hKc := hK.sub (tys' := []) [] rfl
                refine va_calli (va_runV (As := [.int j54l4]) (rest := []) ⟨hx, hb, hml, hown, hts⟩ (c_X0_next l dC dI H.size a0_7 j54l4 a0_7_0 (.int a0_7_1) a0_7g_2 a0_7g_3 a0_7g_4 a0_7g_7 a0_7g_8 a0_7g_9 a0_7g_10 a0_7g_11 a0_7g_12 a0_7g_13 a0_7g_14 a0_7_5 a0_7_6 bj54l4_l bj54l4_u (Int.le_trans zq4 l2k0_a0_7_0) u2k0_a0_7_0 ba0_7_5_l ba0_7_5_u ba0_7_6_l ba0_7_6_u) (cwV 1 hts gX7_minutesOf_X0_next rfl rfl rfl zd_X0_next ⟨Nat.le_of_ble_eq_true rfl, Nat.le_of_ble_eq_true rfl⟩) ⟨ax_blind (fun _ _ _ _ _ => trivial), zr_0 hKc hPc (q0 := 0) rfl, ax_pre hPc hKc hDc (fun _ _ => trivial)⟩ rfl rfl hl.1 rfl (lv_room (Nat.le_of_ble_eq_true rfl)) dX7_minutesOf_93 ⟨Nat.le_of_ble_eq_true rfl, Nat.le_of_ble_eq_true rfl⟩) hS (fun q _ h => hFc q h) hFc (fun r93 u t H locs ht hvm hw hB hz1 hk1 hS => ?_)
                obtain ⟨hP1, hK1, hD1⟩ := hB
                rw [ht] at hP1
                obtain ⟨hP, hD⟩ := zc_back (w := [(a0, .inr (7, [a0g_0, .ref a0_1, a0g_2, a0g_3, a0g_4, a0g_5, a0g_6, .ref a0_7, .int a0_8, a0g_9, a0g_10])), (a0_7, .inr (0, [.int a0_7_0, .int a0_7_1, a0_7g_2, a0_7g_3, a0_7g_4, .int a0_7_5, .int a0_7_6, a0_7g_7, a0_7g_8, a0_7g_9, a0_7g_10, a0_7g_11, a0_7g_12, a0_7g_13, a0_7g_14])), (a0_1, .inr (5, [a0_1g_0, .int a0_1_1, .int a0_1_2, a0_1g_3, a0_1g_4, a0_1g_5, a0_1g_6]))]) hP hD hCc hk1 hFc hP1 hD1 [.inl 0, .inr 0, .inl 2] (by decide +kernel) rfl
                have hw : (0 : Int) ≤ r93.toInt ∧ r93.toInt ≤ (8 : Int) := hw
                obtain ⟨h93_0, h93_1⟩ := hw
                refine lv_istore (lv' := [(4, .int r93), (5, .int 0), (0, .ref a0), (1, .int a1), (2, .int a2), (3, .int j69l3), (6, .int j54l6)]) hx hb dX7_minutesOf_96 hl (by decide) rfl (fun ls hl => ?_)
                exact (hK0 _ _ _).mp (J98 0 r93 _ _ _  (Int.le_trans zq6 zq80) h93_0 h93_1 hP hD hS (lv_sub hl [2, 3, 4, 5, 0, 1, 6] rfl))
            refine lv_icmp_ne (tgt := 69) hx hb dX7_minutesOf_63 (by decide) (fun c63 => ?_) (fun c63 => ?_)
            · have gc63 := ai_ne c63
              exact (hK0 _ _ _).mp (J69 j54l3 _ _ _   hP hD hS (lv_sub hl [0, 1, 2, 3, 4, 5, 6] rfl))
            · have gc63 := ai_eq c63
              have u63f_j54l4 : j54l4.toInt ≤ (8 : Int) := bj54l4_u
              have l63f_j54l4 : (0 : Int) ≤ j54l4.toInt := bj54l4_l
              have u63f_a1 : a1.toInt ≤ (8 : Int) := u2k0_a1
              have l63f_a1 : (0 : Int) ≤ a1.toInt := l2k0_a1
              obtain ⟨x66, ex66⟩ : ∃ y : Int32, y = j54l3 + Int32.ofInt 1 := ⟨_, rfl⟩
              refine lv_iinc (v := x66) (lv' := [(3, .int x66), (0, .ref a0), (1, .int a1), (2, .int a2), (4, .int j54l4), (5, .int j54l5), (6, .int j54l6)]) hx hb dX7_minutesOf_66 hl (k := 3) rfl ex66.symm (by decide) rfl (fun ls hl => ?_)
              exact (hK0 _ _ _).mp (J69 x66 _ _ _   hP hD hS (lv_sub hl [1, 2, 3, 0, 4, 5, 6] rfl))
      exact (hK0 _ _ _).mp (J54 1000 0 a0_1_2 a0_1_1 0 _ _ _ (by have h1 : (0 : Int) ≤ (0 : Int32).toInt := zq5; have h2 : (0 : Int32).toInt ≤ (0 : Int) := zq6; omega) zq5 (Int.le_trans zq6 zq81) ba0_1_1_l ba0_1_1_u hP hD hS (lv_sub hl [4, 5, 6, 3, 2, 1, 0] rfl))
    · obtain ⟨hw, h19⟩ := hw
      subst hw
      refine lv_if_ne (tgt := 31) hx hb dX7_minutesOf_22 (by decide) (fun c22 => absurd (by decide +kernel) c22) (fun _ => ?_)
      refine lv_aload_n hx hb dX7_minutesOf_25 rfl (lv_at hl 0 rfl) ?_
      refine lv_iconst (v := 2) hx hb dX7_minutesOf_26 zk_iconst_2 ?_
      obtain ⟨hPc, hDc, hFc, hCc⟩ := zc_cut (wc := [(a0, .inr (7, [a0g_0, .ref a0_1, a0g_2, a0g_3, a0g_4, a0g_5, a0g_6, .ref a0_7, .int a0_8, a0g_9, a0g_10]))]) hP hD hS hA [0] (by decide +kernel) rfl
      have hKc := hK.sub (tys' := []) [] rfl
      refine va_calli (va_runV (As := [.int 2]) (rest := []) ⟨hx, hb, hml, hown, hts⟩ (c_X7_refused l dC dI H.size a0 2 a0g_0 (.ref a0_1) a0g_2 a0g_3 a0g_4 a0g_5 a0g_6 (.ref a0_7) a0g_9 a0g_10 a0_8 ) (cwV 1 hts gX7_minutesOf_X7_refused rfl rfl rfl zd_X7_refused ⟨Nat.le_of_ble_eq_true rfl, Nat.le_of_ble_eq_true rfl⟩) ⟨ax_blind (fun _ _ _ _ _ => trivial), zr_7 hKc hPc (q0 := 0) rfl, ax_pre hPc hKc hDc (fun _ _ => trivial)⟩ rfl rfl hl.1 rfl (lv_room (Nat.le_of_ble_eq_true rfl)) dX7_minutesOf_27 ⟨Nat.le_of_ble_eq_true rfl, Nat.le_of_ble_eq_true rfl⟩) hS (fun q _ h => hFc q h) hFc (fun r27 u t H locs ht hvm hw hB hz1 hk1 hS => ?_)
      obtain ⟨v27na0_8, hP1, hK1, hD1⟩ := hB
      rw [ht] at hP1
      obtain ⟨hP, hD⟩ := zc_back (w := [(a0, .inr (7, [a0g_0, .ref a0_1, a0g_2, a0g_3, a0g_4, a0g_5, a0g_6, .ref a0_7, .int v27na0_8, a0g_9, a0g_10])), (a0_7, .inr (0, [.int a0_7_0, .int a0_7_1, a0_7g_2, a0_7g_3, a0_7g_4, .int a0_7_5, .int a0_7_6, a0_7g_7, a0_7g_8, a0_7g_9, a0_7g_10, a0_7g_11, a0_7g_12, a0_7g_13, a0_7g_14])), (a0_1, .inr (5, [a0_1g_0, .int a0_1_1, .int a0_1_2, a0_1g_3, a0_1g_4, a0_1g_5, a0_1g_6]))]) hP hD hCc hk1 hFc hP1 hD1 [.inr 0, .inl 1, .inl 2] (by decide +kernel) rfl
      have hw : r27 = (-1) := hw
      have hw := hw.symm
      subst hw
      exact W.iret (v := (-1)) hx hb hr (fun t ht hW => ⟨⟨(-1), (), rfl, trivial, v27na0_8, by rw [ht]; exact hP, va_K.moved hW.alike hK, hD⟩, hS.F ht⟩) hS.2.2 dX7_minutesOf_30
  · subst hw
    refine lv_if_ne (tgt := 14) hx hb dX7_minutesOf_5 (by decide) (fun c5 => absurd (by decide +kernel) c5) (fun _ => ?_)
    refine lv_aload_n hx hb dX7_minutesOf_8 rfl (lv_at hl 0 rfl) ?_
    refine lv_iconst (v := 1) hx hb dX7_minutesOf_9 zk_iconst_1 ?_
    obtain ⟨hPc, hDc, hFc, hCc⟩ := zc_cut (wc := [(a0, .inr (7, [a0g_0, .ref a0_1, a0g_2, a0g_3, a0g_4, a0g_5, a0g_6, .ref a0_7, .int a0_8, a0g_9, a0g_10]))]) hP hD hS hA [0] (by decide +kernel) rfl
    have hKc := hK.sub (tys' := []) [] rfl
    refine va_calli (va_runV (As := [.int 1]) (rest := []) ⟨hx, hb, hml, hown, hts⟩ (c_X7_refused l dC dI H.size a0 1 a0g_0 (.ref a0_1) a0g_2 a0g_3 a0g_4 a0g_5 a0g_6 (.ref a0_7) a0g_9 a0g_10 a0_8 ) (cwV 1 hts gX7_minutesOf_X7_refused rfl rfl rfl zd_X7_refused ⟨Nat.le_of_ble_eq_true rfl, Nat.le_of_ble_eq_true rfl⟩) ⟨ax_blind (fun _ _ _ _ _ => trivial), zr_7 hKc hPc (q0 := 0) rfl, ax_pre hPc hKc hDc (fun _ _ => trivial)⟩ rfl rfl hl.1 rfl (lv_room (Nat.le_of_ble_eq_true rfl)) dX7_minutesOf_10 ⟨Nat.le_of_ble_eq_true rfl, Nat.le_of_ble_eq_true rfl⟩) hS (fun q _ h => hFc q h) hFc (fun r10 u t H locs ht hvm hw hB hz1 hk1 hS => ?_)
    obtain ⟨v10na0_8, hP1, hK1, hD1⟩ := hB
    rw [ht] at hP1
    obtain ⟨hP, hD⟩ := zc_back (w := [(a0, .inr (7, [a0g_0, .ref a0_1, a0g_2, a0g_3, a0g_4, a0g_5, a0g_6, .ref a0_7, .int v10na0_8, a0g_9, a0g_10])), (a0_7, .inr (0, [.int a0_7_0, .int a0_7_1, a0_7g_2, a0_7g_3, a0_7g_4, .int a0_7_5, .int a0_7_6, a0_7g_7, a0_7g_8, a0_7g_9, a0_7g_10, a0_7g_11, a0_7g_12, a0_7g_13, a0_7g_14])), (a0_1, .inr (5, [a0_1g_0, .int a0_1_1, .int a0_1_2, a0_1g_3, a0_1g_4, a0_1g_5, a0_1g_6]))]) hP hD hCc hk1 hFc hP1 hD1 [.inr 0, .inl 1, .inl 2] (by decide +kernel) rfl
    have hw : r10 = (-1) := hw
    have hw := hw.symm
    subst hw
    exact W.iret (v := (-1)) hx hb hr (fun t ht hW => ⟨⟨(-1), (), rfl, trivial, v10na0_8, by rw [ht]; exact hP, va_K.moved hW.alike hK, hD⟩, hS.F ht⟩) hS.2.2 dX7_minutesOf_13

set_option maxHeartbeats 4000000 in
set_option maxRecDepth 100000 in
theorem c_X7_place (l : Launch) (dC : Nat → ClassId) (dI : Nat → Nat → Nat) (sz : Nat) (a0 : Nat) (a1 : Int32) (a2 : Int32) (a0g_0 a0g_3 a0g_4 a0g_5 a0g_6 a0g_9 a0g_10 : Value) (a0_1 : Nat) (a0_2 : Nat) (a0_7 : Nat) (a0_8 : Int32) (a0_7_0 : Int32) (a0_7_1 : Int32) (a0_7_2 : Int32) (a0_7g_3 a0_7g_4 a0_7g_7 a0_7g_8 a0_7g_9 a0_7g_12 a0_7g_13 : Value) (a0_7_5 : Int32) (a0_7_6 : Int32) (a0_7_10 : Nat) (a0_7_11 : Nat) (a0_7_14 : Nat) (a0_2_0 : Int32) (a0_2_1 : Int32) (a0_2_2 : Int32) (a0_2_3 : Int32) (a0_2_4 : Int32) (a0_2_5 : Nat) (a0_2_6 : Nat) (a0_1_0 : Int32) (a0_1_1 : Int32) (a0_1_2 : Int32) (a0_1_3 : Int32) (a0_1_4 : Int32) (a0_1_5 : Nat) (a0_1_6 : Nat) (ka0_1_5 : ClassId) (fa0_1_5 : Nat → Int32) (ka0_2_5 : ClassId) (fa0_2_5 : Nat → Int32) (ka0_1_6 : ClassId) (fa0_1_6 : Nat → Int32) (ka0_2_6 : ClassId) (fa0_2_6 : Nat → Int32) (ka0_7_10 : ClassId) (fa0_7_10 : Nat → Int32) (ka0_7_11 : ClassId) (fa0_7_11 : Nat → Int32) (a0_7_14_0 : Int32) (a0_7_14_1 : Int32) (a0_7_14_2 : Nat) (a0_7_14_3 : Nat) (ka0_7_14_3 : ClassId) (fa0_7_14_3 : Nat → Int32) (ka0_7_14_2 : ClassId) (fa0_7_14_2 : Nat → Int32) (ba0_7_0_l : (0 : Int) ≤ a0_7_0.toInt) (ba0_7_0_u : a0_7_0.toInt ≤ (9 : Int)) (ba0_7_5_l : (0 : Int) ≤ a0_7_5.toInt) (ba0_7_5_u : a0_7_5.toInt ≤ (8 : Int)) (ba0_7_6_l : (0 : Int) ≤ a0_7_6.toInt) (ba0_7_6_u : a0_7_6.toInt ≤ (8 : Int)) (ba0_2_1_l : (0 : Int) ≤ a0_2_1.toInt) (ba0_2_1_u : a0_2_1.toInt ≤ (8 : Int)) (ba0_1_1_l : (0 : Int) ≤ a0_1_1.toInt) (ba0_1_1_u : a0_1_1.toInt ≤ (8 : Int)) (ba0_7_14_0_l : (0 : Int) ≤ a0_7_14_0.toInt) (ba0_7_14_0_u : a0_7_14_0.toInt ≤ (3 : Int)) (bfa0_7_14_3 : (∀ k, (0 : Int) ≤ (fa0_7_14_3 k).toInt ∧ (fa0_7_14_3 k).toInt ≤ 80)) (bfa0_7_14_2 : (∀ k, (0 : Int) ≤ (fa0_7_14_2 k).toInt ∧ (fa0_7_14_2 k).toInt ≤ 80)) : Met l yX7_place wsX7_place ({ frames := 6, cells := 0, slots := 0, locals := 141 }) (va_Pc [.ref a0, .int a1, .int a2] (ax_C dC dI sz [(a0, .inr (7, [a0g_0, .ref a0_1, .ref a0_2, a0g_3, a0g_4, a0g_5, a0g_6, .ref a0_7, .int a0_8, a0g_9, a0g_10])), (a0_7, .inr (0, [.int a0_7_0, .int a0_7_1, .int a0_7_2, a0_7g_3, a0_7g_4, .int a0_7_5, .int a0_7_6, a0_7g_7, a0_7g_8, a0_7g_9, .ref a0_7_10, .ref a0_7_11, a0_7g_12, a0_7g_13, .ref a0_7_14])), (a0_2, .inr (5, [.int a0_2_0, .int a0_2_1, .int a0_2_2, .int a0_2_3, .int a0_2_4, .ref a0_2_5, .ref a0_2_6])), (a0_1, .inr (5, [.int a0_1_0, .int a0_1_1, .int a0_1_2, .int a0_1_3, .int a0_1_4, .ref a0_1_5, .ref a0_1_6])), (a0_1_5, .inl (ka0_1_5, 9, .inl (fa0_1_5))), (a0_2_5, .inl (ka0_2_5, 9, .inl (fa0_2_5))), (a0_1_6, .inl (ka0_1_6, 9, .inl (fa0_1_6))), (a0_2_6, .inl (ka0_2_6, 9, .inl (fa0_2_6))), (a0_7_10, .inl (ka0_7_10, 9, .inl (fa0_7_10))), (a0_7_11, .inl (ka0_7_11, 9, .inl (fa0_7_11))), (a0_7_14, .inr (6, [.int a0_7_14_0, .int a0_7_14_1, .ref a0_7_14_2, .ref a0_7_14_3])), (a0_7_14_3, .inl (ka0_7_14_3, 3, .inl (fa0_7_14_3))), (a0_7_14_2, .inl (ka0_7_14_2, 3, .inl (fa0_7_14_2)))] [(ka0_1_5, .int), (ka0_2_5, .int), (ka0_1_6, .int), (ka0_2_6, .int), (ka0_7_10, .int), (ka0_7_11, .int), (ka0_7_14_3, .int), (ka0_7_14_2, .int)] (fun U => va_Nw (.methodLinkNest RX0 118 yX7_within RX7) U ∧ va_Nw (.methodLinkNest RX5 38 yX7_hasBit RX7) U ∧ va_Nw (.methodLinkNest RX0 129 yX7_hasBit RX7) U))) (va_Qi (fun (r : Int32) (_ : Unit) => True) (fun (_ : Unit) (t : State) => ∃ na0_8 : Int32, ∃ na0_2_0 : Int32, ∃ na0_2_1 : Int32, ∃ na0_2_2 : Int32, ∃ na0_2_3 : Int32, ∃ na0_2_4 : Int32, ∃ nfa0_2_5 : Nat → Int32, ∃ nfa0_2_6 : Nat → Int32, ((0 : Int) ≤ na0_2_1.toInt ∧ na0_2_1.toInt ≤ 8) ∧ ax_B dC dI (va_A [(a0, .inr (7, [a0g_0, .ref a0_1, .ref a0_2, a0g_3, a0g_4, a0g_5, a0g_6, .ref a0_7, .int a0_8, a0g_9, a0g_10])), (a0_7, .inr (0, [.int a0_7_0, .int a0_7_1, .int a0_7_2, a0_7g_3, a0_7g_4, .int a0_7_5, .int a0_7_6, a0_7g_7, a0_7g_8, a0_7g_9, .ref a0_7_10, .ref a0_7_11, a0_7g_12, a0_7g_13, .ref a0_7_14])), (a0_2, .inr (5, [.int a0_2_0, .int a0_2_1, .int a0_2_2, .int a0_2_3, .int a0_2_4, .ref a0_2_5, .ref a0_2_6])), (a0_1, .inr (5, [.int a0_1_0, .int a0_1_1, .int a0_1_2, .int a0_1_3, .int a0_1_4, .ref a0_1_5, .ref a0_1_6])), (a0_1_5, .inl (ka0_1_5, 9, .inl (fa0_1_5))), (a0_2_5, .inl (ka0_2_5, 9, .inl (fa0_2_5))), (a0_1_6, .inl (ka0_1_6, 9, .inl (fa0_1_6))), (a0_2_6, .inl (ka0_2_6, 9, .inl (fa0_2_6))), (a0_7_10, .inl (ka0_7_10, 9, .inl (fa0_7_10))), (a0_7_11, .inl (ka0_7_11, 9, .inl (fa0_7_11))), (a0_7_14, .inr (6, [.int a0_7_14_0, .int a0_7_14_1, .ref a0_7_14_2, .ref a0_7_14_3])), (a0_7_14_3, .inl (ka0_7_14_3, 3, .inl (fa0_7_14_3))), (a0_7_14_2, .inl (ka0_7_14_2, 3, .inl (fa0_7_14_2)))] sz) [(a0, .inr (7, [a0g_0, .ref a0_1, .ref a0_2, a0g_3, a0g_4, a0g_5, a0g_6, .ref a0_7, .int na0_8, a0g_9, a0g_10])), (a0_7, .inr (0, [.int a0_7_0, .int a0_7_1, .int a0_7_2, a0_7g_3, a0_7g_4, .int a0_7_5, .int a0_7_6, a0_7g_7, a0_7g_8, a0_7g_9, .ref a0_7_10, .ref a0_7_11, a0_7g_12, a0_7g_13, .ref a0_7_14])), (a0_2, .inr (5, [.int na0_2_0, .int na0_2_1, .int na0_2_2, .int na0_2_3, .int na0_2_4, .ref a0_2_5, .ref a0_2_6])), (a0_1, .inr (5, [.int a0_1_0, .int a0_1_1, .int a0_1_2, .int a0_1_3, .int a0_1_4, .ref a0_1_5, .ref a0_1_6])), (a0_1_5, .inl (ka0_1_5, 9, .inl (fa0_1_5))), (a0_2_5, .inl (ka0_2_5, 9, .inl (nfa0_2_5))), (a0_1_6, .inl (ka0_1_6, 9, .inl (fa0_1_6))), (a0_2_6, .inl (ka0_2_6, 9, .inl (nfa0_2_6))), (a0_7_10, .inl (ka0_7_10, 9, .inl (fa0_7_10))), (a0_7_11, .inl (ka0_7_11, 9, .inl (fa0_7_11))), (a0_7_14, .inr (6, [.int a0_7_14_0, .int a0_7_14_1, .ref a0_7_14_2, .ref a0_7_14_3])), (a0_7_14_3, .inl (ka0_7_14_3, 3, .inl (fa0_7_14_3))), (a0_7_14_2, .inl (ka0_7_14_2, 3, .inl (fa0_7_14_2)))] [(ka0_1_5, .int), (ka0_2_5, .int), (ka0_1_6, .int), (ka0_2_6, .int), (ka0_7_10, .int), (ka0_7_11, .int), (ka0_7_14_3, .int), (ka0_7_14_2, .int)] t) (va_A [(a0, .inr (7, [a0g_0, .ref a0_1, .ref a0_2, a0g_3, a0g_4, a0g_5, a0g_6, .ref a0_7, .int a0_8, a0g_9, a0g_10])), (a0_7, .inr (0, [.int a0_7_0, .int a0_7_1, .int a0_7_2, a0_7g_3, a0_7g_4, .int a0_7_5, .int a0_7_6, a0_7g_7, a0_7g_8, a0_7g_9, .ref a0_7_10, .ref a0_7_11, a0_7g_12, a0_7g_13, .ref a0_7_14])), (a0_2, .inr (5, [.int a0_2_0, .int a0_2_1, .int a0_2_2, .int a0_2_3, .int a0_2_4, .ref a0_2_5, .ref a0_2_6])), (a0_1, .inr (5, [.int a0_1_0, .int a0_1_1, .int a0_1_2, .int a0_1_3, .int a0_1_4, .ref a0_1_5, .ref a0_1_6])), (a0_1_5, .inl (ka0_1_5, 9, .inl (fa0_1_5))), (a0_2_5, .inl (ka0_2_5, 9, .inl (fa0_2_5))), (a0_1_6, .inl (ka0_1_6, 9, .inl (fa0_1_6))), (a0_2_6, .inl (ka0_2_6, 9, .inl (fa0_2_6))), (a0_7_10, .inl (ka0_7_10, 9, .inl (fa0_7_10))), (a0_7_11, .inl (ka0_7_11, 9, .inl (fa0_7_11))), (a0_7_14, .inr (6, [.int a0_7_14_0, .int a0_7_14_1, .ref a0_7_14_2, .ref a0_7_14_3])), (a0_7_14_3, .inl (ka0_7_14_3, 3, .inl (fa0_7_14_3))), (a0_7_14_2, .inl (ka0_7_14_2, 3, .inl (fa0_7_14_2)))] sz)) 0 0 (va_A [(a0, .inr (7, [a0g_0, .ref a0_1, .ref a0_2, a0g_3, a0g_4, a0g_5, a0g_6, .ref a0_7, .int a0_8, a0g_9, a0g_10])), (a0_7, .inr (0, [.int a0_7_0, .int a0_7_1, .int a0_7_2, a0_7g_3, a0_7g_4, .int a0_7_5, .int a0_7_6, a0_7g_7, a0_7g_8, a0_7g_9, .ref a0_7_10, .ref a0_7_11, a0_7g_12, a0_7g_13, .ref a0_7_14])), (a0_2, .inr (5, [.int a0_2_0, .int a0_2_1, .int a0_2_2, .int a0_2_3, .int a0_2_4, .ref a0_2_5, .ref a0_2_6])), (a0_1, .inr (5, [.int a0_1_0, .int a0_1_1, .int a0_1_2, .int a0_1_3, .int a0_1_4, .ref a0_1_5, .ref a0_1_6])), (a0_1_5, .inl (ka0_1_5, 9, .inl (fa0_1_5))), (a0_2_5, .inl (ka0_2_5, 9, .inl (fa0_2_5))), (a0_1_6, .inl (ka0_1_6, 9, .inl (fa0_1_6))), (a0_2_6, .inl (ka0_2_6, 9, .inl (fa0_2_6))), (a0_7_10, .inl (ka0_7_10, 9, .inl (fa0_7_10))), (a0_7_11, .inl (ka0_7_11, 9, .inl (fa0_7_11))), (a0_7_14, .inr (6, [.int a0_7_14_0, .int a0_7_14_1, .ref a0_7_14_2, .ref a0_7_14_3])), (a0_7_14_3, .inl (ka0_7_14_3, 3, .inl (fa0_7_14_3))), (a0_7_14_2, .inl (ka0_7_14_2, 3, .inl (fa0_7_14_2)))] sz) := by
  refine Met.ofW (cc := cX7_place) (maxL := 4) (ret := (some .int)) (by decide) rfl ?_
  intro p e s m args below meth c s₁ B hml hv
  obtain ⟨rfl, hsz, hP, hK, hD0, hE⟩ := hv
  have hx := B.exec
  have hb := B.bytes
  have hr := B.returns
  have hts := atoms_spec (ws := wsX7_place) B.pre
  have hown : s.vm.findClass RX7 = some m.cls := findClass_of_methodNamed B.named
  have hlocks := B.notSynchronized
  subst hsz
  have hD := hD0.self (sz := s.heap.size)
  generalize hAe : va_A [(a0, .inr (7, [a0g_0, .ref a0_1, .ref a0_2, a0g_3, a0g_4, a0g_5, a0g_6, .ref a0_7, .int a0_8, a0g_9, a0g_10])), (a0_7, .inr (0, [.int a0_7_0, .int a0_7_1, .int a0_7_2, a0_7g_3, a0_7g_4, .int a0_7_5, .int a0_7_6, a0_7g_7, a0_7g_8, a0_7g_9, .ref a0_7_10, .ref a0_7_11, a0_7g_12, a0_7g_13, .ref a0_7_14])), (a0_2, .inr (5, [.int a0_2_0, .int a0_2_1, .int a0_2_2, .int a0_2_3, .int a0_2_4, .ref a0_2_5, .ref a0_2_6])), (a0_1, .inr (5, [.int a0_1_0, .int a0_1_1, .int a0_1_2, .int a0_1_3, .int a0_1_4, .ref a0_1_5, .ref a0_1_6])), (a0_1_5, .inl (ka0_1_5, 9, .inl (fa0_1_5))), (a0_2_5, .inl (ka0_2_5, 9, .inl (fa0_2_5))), (a0_1_6, .inl (ka0_1_6, 9, .inl (fa0_1_6))), (a0_2_6, .inl (ka0_2_6, 9, .inl (fa0_2_6))), (a0_7_10, .inl (ka0_7_10, 9, .inl (fa0_7_10))), (a0_7_11, .inl (ka0_7_11, 9, .inl (fa0_7_11))), (a0_7_14, .inr (6, [.int a0_7_14_0, .int a0_7_14_1, .ref a0_7_14_2, .ref a0_7_14_3])), (a0_7_14_3, .inl (ka0_7_14_3, 3, .inl (fa0_7_14_3))), (a0_7_14_2, .inl (ka0_7_14_2, 3, .inl (fa0_7_14_2)))] s.heap.size = A at hD ⊢
  have hA : ∀ q : Nat, s.heap.size ≤ q → A q := fun q h => by rw [← hAe]; exact Or.inr h
  have hS : va_S A s.heap s.heap [] := va_S.rf
  have hP : va_P (dC, dI) vwCl [(a0, .inr (7, [a0g_0, .ref a0_1, .ref a0_2, a0g_3, a0g_4, a0g_5, a0g_6, .ref a0_7, .int a0_8, a0g_9, a0g_10])), (a0_7, .inr (0, [.int a0_7_0, .int a0_7_1, .int a0_7_2, a0_7g_3, a0_7g_4, .int a0_7_5, .int a0_7_6, a0_7g_7, a0_7g_8, a0_7g_9, .ref a0_7_10, .ref a0_7_11, a0_7g_12, a0_7g_13, .ref a0_7_14])), (a0_2, .inr (5, [.int a0_2_0, .int a0_2_1, .int a0_2_2, .int a0_2_3, .int a0_2_4, .ref a0_2_5, .ref a0_2_6])), (a0_1, .inr (5, [.int a0_1_0, .int a0_1_1, .int a0_1_2, .int a0_1_3, .int a0_1_4, .ref a0_1_5, .ref a0_1_6])), (a0_1_5, .inl (ka0_1_5, 9, .inl (fa0_1_5))), (a0_2_5, .inl (ka0_2_5, 9, .inl (fa0_2_5))), (a0_1_6, .inl (ka0_1_6, 9, .inl (fa0_1_6))), (a0_2_6, .inl (ka0_2_6, 9, .inl (fa0_2_6))), (a0_7_10, .inl (ka0_7_10, 9, .inl (fa0_7_10))), (a0_7_11, .inl (ka0_7_11, 9, .inl (fa0_7_11))), (a0_7_14, .inr (6, [.int a0_7_14_0, .int a0_7_14_1, .ref a0_7_14_2, .ref a0_7_14_3])), (a0_7_14_3, .inl (ka0_7_14_3, 3, .inl (fa0_7_14_3))), (a0_7_14_2, .inl (ka0_7_14_2, 3, .inl (fa0_7_14_2)))] s.heap := hP
  obtain ⟨hE0, hE1, hE2⟩ := hE
  have hl := lv_entry ([.ref a0, .int a1, .int a2]) (n := 4) (Nat.le_of_ble_eq_true rfl)
  rw [lg_entry_eq]
  generalize (lg_sl ([.ref a0, .int a1, .int a2]) ++ List.replicate (4 - (lg_sl ([.ref a0, .int a1, .int a2])).length) Slot.unset).toArray = ls at hl ⊢
  have hl : lv_has ls 4 [(0, .ref a0), (1, .int a1), (2, .int a2)] := hl
  refine lv_aload_n hx hb dX7_place_0 rfl (lv_at hl 0 rfl) ?_
  refine lv_iload_n hx hb dX7_place_1 rfl (lv_at hl 1 rfl) ?_
  refine lv_iload_n hx hb dX7_place_2 rfl (lv_at hl 2 rfl) ?_
  refine lv_sipush (v := 300) hx hb dX7_place_3 zk_sipush_300 ?_
  obtain ⟨hPc, hDc, hFc, hCc⟩ := zc_cut (wc := [(a0, .inr (7, [a0g_0, .ref a0_1, .ref a0_2, a0g_3, a0g_4, a0g_5, a0g_6, .ref a0_7, .int a0_8, a0g_9, a0g_10])), (a0_7, .inr (0, [.int a0_7_0, .int a0_7_1, .int a0_7_2, a0_7g_3, a0_7g_4, .int a0_7_5, .int a0_7_6, a0_7g_7, a0_7g_8, a0_7g_9, .ref a0_7_10, .ref a0_7_11, a0_7g_12, a0_7g_13, .ref a0_7_14]))]) hP hD hS hA [0, 1] (by decide +kernel) rfl
  have hKc := hK.sub (tys' := []) [] rfl
  refine va_calli (va_runV (As := [.int a1, .int a2, .int 300]) (rest := []) ⟨hx, hb, hml, hown, hts⟩ (c_X7_troubleOfFigureWithin l dC dI s.heap.size a0 a1 a2 300 a0g_0 (.ref a0_1) (.ref a0_2) a0g_3 a0g_4 a0g_5 a0g_6 (.int a0_8) a0g_9 a0g_10 a0_7 a0_7_0 (.int a0_7_1) (.int a0_7_2) a0_7g_3 a0_7g_4 (.int a0_7_5) (.int a0_7_6) a0_7g_7 a0_7g_8 a0_7g_9 (.ref a0_7_10) (.ref a0_7_11) a0_7g_12 a0_7g_13 (.ref a0_7_14) ba0_7_0_l ba0_7_0_u) (cwV 3 hts gX7_place_X7_troubleOfFigureWithin rfl rfl rfl zd_X7_troubleOfFigureWithin ⟨Nat.le_of_ble_eq_true rfl, Nat.le_of_ble_eq_true rfl⟩) ⟨ax_blind (fun _ _ _ _ _ => trivial), zr_7 hKc hPc (q0 := 0) rfl, ax_pre hPc hKc hDc (fun _ _ => trivial)⟩ rfl rfl hl.1 rfl (lv_room (Nat.le_of_ble_eq_true rfl)) dX7_place_6 ⟨Nat.le_of_ble_eq_true rfl, Nat.le_of_ble_eq_true rfl⟩) hS (fun q _ h => hFc q h) hFc (fun r6 u t H locs ht hvm hw hB hz1 hk1 hS => ?_)
  obtain ⟨hP1, hK1, hD1⟩ := hB
  rw [ht] at hP1
  obtain ⟨hP, hD⟩ := zc_back (w := [(a0, .inr (7, [a0g_0, .ref a0_1, .ref a0_2, a0g_3, a0g_4, a0g_5, a0g_6, .ref a0_7, .int a0_8, a0g_9, a0g_10])), (a0_7, .inr (0, [.int a0_7_0, .int a0_7_1, .int a0_7_2, a0_7g_3, a0_7g_4, .int a0_7_5, .int a0_7_6, a0_7g_7, a0_7g_8, a0_7g_9, .ref a0_7_10, .ref a0_7_11, a0_7g_12, a0_7g_13, .ref a0_7_14])), (a0_2, .inr (5, [.int a0_2_0, .int a0_2_1, .int a0_2_2, .int a0_2_3, .int a0_2_4, .ref a0_2_5, .ref a0_2_6])), (a0_1, .inr (5, [.int a0_1_0, .int a0_1_1, .int a0_1_2, .int a0_1_3, .int a0_1_4, .ref a0_1_5, .ref a0_1_6])), (a0_1_5, .inl (ka0_1_5, 9, .inl (fa0_1_5))), (a0_2_5, .inl (ka0_2_5, 9, .inl (fa0_2_5))), (a0_1_6, .inl (ka0_1_6, 9, .inl (fa0_1_6))), (a0_2_6, .inl (ka0_2_6, 9, .inl (fa0_2_6))), (a0_7_10, .inl (ka0_7_10, 9, .inl (fa0_7_10))), (a0_7_11, .inl (ka0_7_11, 9, .inl (fa0_7_11))), (a0_7_14, .inr (6, [.int a0_7_14_0, .int a0_7_14_1, .ref a0_7_14_2, .ref a0_7_14_3])), (a0_7_14_3, .inl (ka0_7_14_3, 3, .inl (fa0_7_14_3))), (a0_7_14_2, .inl (ka0_7_14_2, 3, .inl (fa0_7_14_2)))]) hP hD hCc hk1 hFc hP1 hD1 [.inr 0, .inr 1, .inl 2, .inl 3, .inl 4, .inl 5, .inl 6, .inl 7, .inl 8, .inl 9, .inl 10, .inl 11, .inl 12] (by decide +kernel) rfl
  rcases hw with hw | hw | hw
  · obtain ⟨hw, fh6, gh6, kh6, h6⟩ := hw
    subst hw
    have l6k0_a0_7_0 : (1 : Int) ≤ a0_7_0.toInt := fh6
    have l6k0_a1 : (0 : Int) ≤ a1.toInt := gh6
    have u6k0_a1 : a1.toInt ≤ (8 : Int) := kh6
    have l6k0_a2 : (0 : Int) ≤ a2.toInt := Int.le_trans zq5 h6.1
    have u6k0_a2 : a2.toInt ≤ (300 : Int) := Int.le_trans h6.2 zq82
    refine lv_istore_n (lv' := [(3, .int 0), (0, .ref a0), (1, .int a1), (2, .int a2)]) hx hb dX7_place_9 rfl hl (by decide) rfl (fun ls hl => ?_)
    refine lv_iload_n hx hb dX7_place_10 rfl (lv_at hl 0 rfl) ?_
    refine lv_if_eq (tgt := 20) hx hb dX7_place_11 (by decide) (fun _ => ?_) (fun c11 => absurd (by decide +kernel) c11)
    refine lv_aload_n hx hb dX7_place_20 rfl (lv_at hl 1 rfl) ?_
    refine lv_iload_n hx hb dX7_place_21 rfl (lv_at hl 3 rfl) ?_
    obtain ⟨hPc, hDc, hFc, hCc⟩ := zc_cut (wc := [(a0, .inr (7, [a0g_0, .ref a0_1, .ref a0_2, a0g_3, a0g_4, a0g_5, a0g_6, .ref a0_7, .int a0_8, a0g_9, a0g_10])), (a0_2, .inr (5, [.int a0_2_0, .int a0_2_1, .int a0_2_2, .int a0_2_3, .int a0_2_4, .ref a0_2_5, .ref a0_2_6])), (a0_1, .inr (5, [.int a0_1_0, .int a0_1_1, .int a0_1_2, .int a0_1_3, .int a0_1_4, .ref a0_1_5, .ref a0_1_6])), (a0_1_5, .inl (ka0_1_5, 9, .inl (fa0_1_5))), (a0_2_5, .inl (ka0_2_5, 9, .inl (fa0_2_5))), (a0_1_6, .inl (ka0_1_6, 9, .inl (fa0_1_6))), (a0_2_6, .inl (ka0_2_6, 9, .inl (fa0_2_6))), (a0_7, .inr (0, [.int a0_7_0, .int a0_7_1, .int a0_7_2, a0_7g_3, a0_7g_4, .int a0_7_5, .int a0_7_6, a0_7g_7, a0_7g_8, a0_7g_9, .ref a0_7_10, .ref a0_7_11, a0_7g_12, a0_7g_13, .ref a0_7_14])), (a0_7_10, .inl (ka0_7_10, 9, .inl (fa0_7_10))), (a0_7_11, .inl (ka0_7_11, 9, .inl (fa0_7_11))), (a0_7_14, .inr (6, [.int a0_7_14_0, .int a0_7_14_1, .ref a0_7_14_2, .ref a0_7_14_3])), (a0_7_14_3, .inl (ka0_7_14_3, 3, .inl (fa0_7_14_3))), (a0_7_14_2, .inl (ka0_7_14_2, 3, .inl (fa0_7_14_2)))]) hP hD hS hA [0, 2, 3, 4, 5, 6, 7, 1, 8, 9, 10, 11, 12] (by decide +kernel) rfl
    have hKc := hK.sub (tys' := [(ka0_1_5, .int), (ka0_2_5, .int), (ka0_1_6, .int), (ka0_2_6, .int), (ka0_7_10, .int), (ka0_7_11, .int), (ka0_7_14_3, .int), (ka0_7_14_2, .int)]) [0, 1, 2, 3, 4, 5, 6, 7] rfl
    refine va_callv (va_runV (As := [.int a2]) (rest := []) ⟨hx, hb, hml, hown, hts⟩ (c_X7_runAhead l dC dI H.size a0 a2 a0g_0 a0g_3 a0g_4 a0g_5 a0g_6 (.int a0_8) a0g_9 a0g_10 a0_1 a0_2 a0_7 a0_2_0 a0_2_1 a0_2_2 a0_2_3 a0_2_4 a0_2_5 a0_2_6 a0_1_0 a0_1_1 a0_1_2 a0_1_3 a0_1_4 a0_1_5 a0_1_6 ka0_1_5 fa0_1_5 ka0_2_5 fa0_2_5 ka0_1_6 fa0_1_6 ka0_2_6 fa0_2_6 a0_7_0 a0_7_1 a0_7_2 a0_7g_3 a0_7g_4 a0_7g_7 a0_7g_8 a0_7g_9 a0_7g_12 a0_7g_13 a0_7_5 a0_7_6 a0_7_10 a0_7_11 a0_7_14 ka0_7_10 fa0_7_10 ka0_7_11 fa0_7_11 a0_7_14_0 a0_7_14_1 a0_7_14_2 a0_7_14_3 ka0_7_14_3 fa0_7_14_3 ka0_7_14_2 fa0_7_14_2 ba0_2_1_l ba0_2_1_u ba0_1_1_l ba0_1_1_u (Int.le_trans zq4 l6k0_a0_7_0) ba0_7_0_u ba0_7_5_l ba0_7_5_u ba0_7_6_l ba0_7_6_u ba0_7_14_0_l ba0_7_14_0_u bfa0_7_14_3 bfa0_7_14_2) (cwV 1 hts gX7_place_X7_runAhead rfl rfl rfl zd_X7_runAhead ⟨Nat.le_of_ble_eq_true rfl, Nat.le_of_ble_eq_true rfl⟩) ⟨ax_blind (fun _ _ _ _ hq => ⟨va_Nw.same rfl rfl (hq.1), va_Nw.same rfl rfl (hq.2.1), va_Nw.same rfl rfl (hq.2.2)⟩), zr_7 hKc hPc (q0 := 0) rfl, ax_pre hPc hKc hDc (fun _ hW => ⟨va_Nw.warmM hW hE0, va_Nw.warmM hW hE1, va_Nw.warmM hW hE2⟩)⟩ rfl rfl hl.1 rfl (lv_room (Nat.le_of_ble_eq_true rfl)) dX7_place_22 ⟨Nat.le_of_ble_eq_true rfl, Nat.le_of_ble_eq_true rfl⟩) hS (fun q _ h => hFc q h) hFc (fun u t H locs ht hvm hw hB hz1 hk1 hS => ?_)
    obtain ⟨v22na0_2_0, v22na0_2_1, v22na0_2_2, v22na0_2_3, v22na0_2_4, v22nfa0_2_5, v22nfa0_2_6, bv22na0_2_1, hP1, hK1, hD1⟩ := hB
    rw [ht] at hP1
    obtain ⟨hP, hD⟩ := zc_back (w := [(a0, .inr (7, [a0g_0, .ref a0_1, .ref a0_2, a0g_3, a0g_4, a0g_5, a0g_6, .ref a0_7, .int a0_8, a0g_9, a0g_10])), (a0_7, .inr (0, [.int a0_7_0, .int a0_7_1, .int a0_7_2, a0_7g_3, a0_7g_4, .int a0_7_5, .int a0_7_6, a0_7g_7, a0_7g_8, a0_7g_9, .ref a0_7_10, .ref a0_7_11, a0_7g_12, a0_7g_13, .ref a0_7_14])), (a0_2, .inr (5, [.int v22na0_2_0, .int v22na0_2_1, .int v22na0_2_2, .int v22na0_2_3, .int v22na0_2_4, .ref a0_2_5, .ref a0_2_6])), (a0_1, .inr (5, [.int a0_1_0, .int a0_1_1, .int a0_1_2, .int a0_1_3, .int a0_1_4, .ref a0_1_5, .ref a0_1_6])), (a0_1_5, .inl (ka0_1_5, 9, .inl (fa0_1_5))), (a0_2_5, .inl (ka0_2_5, 9, .inl (v22nfa0_2_5))), (a0_1_6, .inl (ka0_1_6, 9, .inl (fa0_1_6))), (a0_2_6, .inl (ka0_2_6, 9, .inl (v22nfa0_2_6))), (a0_7_10, .inl (ka0_7_10, 9, .inl (fa0_7_10))), (a0_7_11, .inl (ka0_7_11, 9, .inl (fa0_7_11))), (a0_7_14, .inr (6, [.int a0_7_14_0, .int a0_7_14_1, .ref a0_7_14_2, .ref a0_7_14_3])), (a0_7_14_3, .inl (ka0_7_14_3, 3, .inl (fa0_7_14_3))), (a0_7_14_2, .inl (ka0_7_14_2, 3, .inl (fa0_7_14_2)))]) hP hD hCc hk1 hFc hP1 hD1 [.inr 0, .inr 7, .inr 1, .inr 2, .inr 3, .inr 4, .inr 5, .inr 6, .inr 8, .inr 9, .inr 10, .inr 11, .inr 12] (by decide +kernel) rfl
    refine lv_aload_n hx hb dX7_place_25 rfl (lv_at hl 1 rfl) ?_
    refine lv_aload_n hx hb dX7_place_26 rfl (lv_at hl 1 rfl) ?_
    refine va_get (D := (dC, dI)) (ci := 7) (v := .ref a0_2) (C := RX7) (T := TX7) (N := 11) hx hb hts zi_X7_place_7 hown hK hP 0 rfl rfl 2 (by decide) (hts (.fieldLink RX7 23 "WaxTurns" "ahead" "LWaxTurns$Scene;") (zm_X7_place_r1 (List.mem_of_getElem? (i := 0) rfl))) (fun _ h9 => h9) rfl dX7_place_27 ?_
    refine va_get (D := (dC, dI)) (ci := 5) (v := .ref a0_2_5) (C := RX5) (T := TX5) (N := 7) hx hb hts zi_X7_place_5 hown hK hP 2 rfl rfl 5 (by decide) (hts (.fieldLink RX7 126 "WaxTurns$Scene" "places" "[I") (zm_X7_place_r1 (List.mem_of_getElem? (i := 1) rfl))) (fun _ h9 => h9) rfl dX7_place_30 ?_
    refine lv_iload_n hx hb dX7_place_33 rfl (lv_at hl 2 rfl) ?_
    refine va_iald hx hb hK hP 5 1 rfl rfl (ai_in l6k0_a1 u6k0_a1 (by decide) (by decide)) dX7_place_34 ?_
    refine lv_topi (fun x34 ex34 => ?_)
    obtain ⟨hPc, hDc, hFc, hCc⟩ := zc_cut (wc := [(a0, .inr (7, [a0g_0, .ref a0_1, .ref a0_2, a0g_3, a0g_4, a0g_5, a0g_6, .ref a0_7, .int a0_8, a0g_9, a0g_10]))]) hP hD hS hA [0] (by decide +kernel) rfl
    have hKc := hK.sub (tys' := []) [] rfl
    refine va_calli (va_runV (As := [.int x34]) (rest := []) ⟨hx, hb, hml, hown, hts⟩ (c_X7_answered l dC dI H.size a0 x34 a0g_0 (.ref a0_1) (.ref a0_2) a0g_3 a0g_4 a0g_5 a0g_6 (.ref a0_7) a0g_9 a0g_10 a0_8 ) (cwV 1 hts gX7_place_X7_answered rfl rfl rfl zd_X7_answered ⟨Nat.le_of_ble_eq_true rfl, Nat.le_of_ble_eq_true rfl⟩) ⟨ax_blind (fun _ _ _ _ _ => trivial), zr_7 hKc hPc (q0 := 0) rfl, ax_pre hPc hKc hDc (fun _ _ => trivial)⟩ rfl rfl hl.1 rfl (lv_room (Nat.le_of_ble_eq_true rfl)) dX7_place_35 ⟨Nat.le_of_ble_eq_true rfl, Nat.le_of_ble_eq_true rfl⟩) hS (fun q _ h => hFc q h) hFc (fun r35 u t H locs ht hvm hw hB hz1 hk1 hS => ?_)
    obtain ⟨v35na0_8, hP1, hK1, hD1⟩ := hB
    rw [ht] at hP1
    obtain ⟨hP, hD⟩ := zc_back (w := [(a0, .inr (7, [a0g_0, .ref a0_1, .ref a0_2, a0g_3, a0g_4, a0g_5, a0g_6, .ref a0_7, .int v35na0_8, a0g_9, a0g_10])), (a0_7, .inr (0, [.int a0_7_0, .int a0_7_1, .int a0_7_2, a0_7g_3, a0_7g_4, .int a0_7_5, .int a0_7_6, a0_7g_7, a0_7g_8, a0_7g_9, .ref a0_7_10, .ref a0_7_11, a0_7g_12, a0_7g_13, .ref a0_7_14])), (a0_2, .inr (5, [.int v22na0_2_0, .int v22na0_2_1, .int v22na0_2_2, .int v22na0_2_3, .int v22na0_2_4, .ref a0_2_5, .ref a0_2_6])), (a0_1, .inr (5, [.int a0_1_0, .int a0_1_1, .int a0_1_2, .int a0_1_3, .int a0_1_4, .ref a0_1_5, .ref a0_1_6])), (a0_1_5, .inl (ka0_1_5, 9, .inl (fa0_1_5))), (a0_2_5, .inl (ka0_2_5, 9, .inl (v22nfa0_2_5))), (a0_1_6, .inl (ka0_1_6, 9, .inl (fa0_1_6))), (a0_2_6, .inl (ka0_2_6, 9, .inl (v22nfa0_2_6))), (a0_7_10, .inl (ka0_7_10, 9, .inl (fa0_7_10))), (a0_7_11, .inl (ka0_7_11, 9, .inl (fa0_7_11))), (a0_7_14, .inr (6, [.int a0_7_14_0, .int a0_7_14_1, .ref a0_7_14_2, .ref a0_7_14_3])), (a0_7_14_3, .inl (ka0_7_14_3, 3, .inl (fa0_7_14_3))), (a0_7_14_2, .inl (ka0_7_14_2, 3, .inl (fa0_7_14_2)))]) hP hD hCc hk1 hFc hP1 hD1 [.inr 0, .inl 1, .inl 2, .inl 3, .inl 4, .inl 5, .inl 6, .inl 7, .inl 8, .inl 9, .inl 10, .inl 11, .inl 12] (by decide +kernel) rfl
    have hw : r35 = x34 := hw
    have hw := hw.symm
    subst hw
    exact W.iret (v := x34) hx hb hr (fun t ht hW => ⟨⟨x34, (), rfl, trivial, v35na0_8, v22na0_2_0, v22na0_2_1, v22na0_2_2, v22na0_2_3, v22na0_2_4, v22nfa0_2_5, v22nfa0_2_6, ⟨bv22na0_2_1.1, bv22na0_2_1.2⟩, by rw [ht]; exact hP, va_K.moved hW.alike hK, hD⟩, hS.F ht⟩) hS.2.2 dX7_place_38
  · subst hw
    refine lv_istore_n (lv' := [(3, .int 1), (0, .ref a0), (1, .int a1), (2, .int a2)]) hx hb dX7_place_9 rfl hl (by decide) rfl (fun ls hl => ?_)
    refine lv_iload_n hx hb dX7_place_10 rfl (lv_at hl 0 rfl) ?_
    refine lv_if_eq (tgt := 20) hx hb dX7_place_11 (by decide) (fun c11 => absurd c11 (by decide +kernel)) (fun _ => ?_)
    refine lv_aload_n hx hb dX7_place_14 rfl (lv_at hl 1 rfl) ?_
    refine lv_iload_n hx hb dX7_place_15 rfl (lv_at hl 0 rfl) ?_
    obtain ⟨hPc, hDc, hFc, hCc⟩ := zc_cut (wc := [(a0, .inr (7, [a0g_0, .ref a0_1, .ref a0_2, a0g_3, a0g_4, a0g_5, a0g_6, .ref a0_7, .int a0_8, a0g_9, a0g_10]))]) hP hD hS hA [0] (by decide +kernel) rfl
    have hKc := hK.sub (tys' := []) [] rfl
    refine va_calli (va_runV (As := [.int 1]) (rest := []) ⟨hx, hb, hml, hown, hts⟩ (c_X7_refused l dC dI H.size a0 1 a0g_0 (.ref a0_1) (.ref a0_2) a0g_3 a0g_4 a0g_5 a0g_6 (.ref a0_7) a0g_9 a0g_10 a0_8 ) (cwV 1 hts gX7_place_X7_refused rfl rfl rfl zd_X7_refused ⟨Nat.le_of_ble_eq_true rfl, Nat.le_of_ble_eq_true rfl⟩) ⟨ax_blind (fun _ _ _ _ _ => trivial), zr_7 hKc hPc (q0 := 0) rfl, ax_pre hPc hKc hDc (fun _ _ => trivial)⟩ rfl rfl hl.1 rfl (lv_room (Nat.le_of_ble_eq_true rfl)) dX7_place_16 ⟨Nat.le_of_ble_eq_true rfl, Nat.le_of_ble_eq_true rfl⟩) hS (fun q _ h => hFc q h) hFc (fun r16 u t H locs ht hvm hw hB hz1 hk1 hS => ?_)
    obtain ⟨v16na0_8, hP1, hK1, hD1⟩ := hB
    rw [ht] at hP1
    obtain ⟨hP, hD⟩ := zc_back (w := [(a0, .inr (7, [a0g_0, .ref a0_1, .ref a0_2, a0g_3, a0g_4, a0g_5, a0g_6, .ref a0_7, .int v16na0_8, a0g_9, a0g_10])), (a0_7, .inr (0, [.int a0_7_0, .int a0_7_1, .int a0_7_2, a0_7g_3, a0_7g_4, .int a0_7_5, .int a0_7_6, a0_7g_7, a0_7g_8, a0_7g_9, .ref a0_7_10, .ref a0_7_11, a0_7g_12, a0_7g_13, .ref a0_7_14])), (a0_2, .inr (5, [.int a0_2_0, .int a0_2_1, .int a0_2_2, .int a0_2_3, .int a0_2_4, .ref a0_2_5, .ref a0_2_6])), (a0_1, .inr (5, [.int a0_1_0, .int a0_1_1, .int a0_1_2, .int a0_1_3, .int a0_1_4, .ref a0_1_5, .ref a0_1_6])), (a0_1_5, .inl (ka0_1_5, 9, .inl (fa0_1_5))), (a0_2_5, .inl (ka0_2_5, 9, .inl (fa0_2_5))), (a0_1_6, .inl (ka0_1_6, 9, .inl (fa0_1_6))), (a0_2_6, .inl (ka0_2_6, 9, .inl (fa0_2_6))), (a0_7_10, .inl (ka0_7_10, 9, .inl (fa0_7_10))), (a0_7_11, .inl (ka0_7_11, 9, .inl (fa0_7_11))), (a0_7_14, .inr (6, [.int a0_7_14_0, .int a0_7_14_1, .ref a0_7_14_2, .ref a0_7_14_3])), (a0_7_14_3, .inl (ka0_7_14_3, 3, .inl (fa0_7_14_3))), (a0_7_14_2, .inl (ka0_7_14_2, 3, .inl (fa0_7_14_2)))]) hP hD hCc hk1 hFc hP1 hD1 [.inr 0, .inl 1, .inl 2, .inl 3, .inl 4, .inl 5, .inl 6, .inl 7, .inl 8, .inl 9, .inl 10, .inl 11, .inl 12] (by decide +kernel) rfl
    have hw : r16 = (-1) := hw
    have hw := hw.symm
    subst hw
    exact W.iret (v := (-1)) hx hb hr (fun t ht hW => ⟨⟨(-1), (), rfl, trivial, v16na0_8, a0_2_0, a0_2_1, a0_2_2, a0_2_3, a0_2_4, fa0_2_5, fa0_2_6, ⟨ba0_2_1_l, ba0_2_1_u⟩, by rw [ht]; exact hP, va_K.moved hW.alike hK, hD⟩, hS.F ht⟩) hS.2.2 dX7_place_19
  · subst hw
    refine lv_istore_n (lv' := [(3, .int 2), (0, .ref a0), (1, .int a1), (2, .int a2)]) hx hb dX7_place_9 rfl hl (by decide) rfl (fun ls hl => ?_)
    refine lv_iload_n hx hb dX7_place_10 rfl (lv_at hl 0 rfl) ?_
    refine lv_if_eq (tgt := 20) hx hb dX7_place_11 (by decide) (fun c11 => absurd c11 (by decide +kernel)) (fun _ => ?_)
    refine lv_aload_n hx hb dX7_place_14 rfl (lv_at hl 1 rfl) ?_
    refine lv_iload_n hx hb dX7_place_15 rfl (lv_at hl 0 rfl) ?_
    obtain ⟨hPc, hDc, hFc, hCc⟩ := zc_cut (wc := [(a0, .inr (7, [a0g_0, .ref a0_1, .ref a0_2, a0g_3, a0g_4, a0g_5, a0g_6, .ref a0_7, .int a0_8, a0g_9, a0g_10]))]) hP hD hS hA [0] (by decide +kernel) rfl
    have hKc := hK.sub (tys' := []) [] rfl
    refine va_calli (va_runV (As := [.int 2]) (rest := []) ⟨hx, hb, hml, hown, hts⟩ (c_X7_refused l dC dI H.size a0 2 a0g_0 (.ref a0_1) (.ref a0_2) a0g_3 a0g_4 a0g_5 a0g_6 (.ref a0_7) a0g_9 a0g_10 a0_8 ) (cwV 1 hts gX7_place_X7_refused rfl rfl rfl zd_X7_refused ⟨Nat.le_of_ble_eq_true rfl, Nat.le_of_ble_eq_true rfl⟩) ⟨ax_blind (fun _ _ _ _ _ => trivial), zr_7 hKc hPc (q0 := 0) rfl, ax_pre hPc hKc hDc (fun _ _ => trivial)⟩ rfl rfl hl.1 rfl (lv_room (Nat.le_of_ble_eq_true rfl)) dX7_place_16 ⟨Nat.le_of_ble_eq_true rfl, Nat.le_of_ble_eq_true rfl⟩) hS (fun q _ h => hFc q h) hFc (fun r16 u t H locs ht hvm hw hB hz1 hk1 hS => ?_)
    obtain ⟨v16na0_8, hP1, hK1, hD1⟩ := hB
    rw [ht] at hP1
    obtain ⟨hP, hD⟩ := zc_back (w := [(a0, .inr (7, [a0g_0, .ref a0_1, .ref a0_2, a0g_3, a0g_4, a0g_5, a0g_6, .ref a0_7, .int v16na0_8, a0g_9, a0g_10])), (a0_7, .inr (0, [.int a0_7_0, .int a0_7_1, .int a0_7_2, a0_7g_3, a0_7g_4, .int a0_7_5, .int a0_7_6, a0_7g_7, a0_7g_8, a0_7g_9, .ref a0_7_10, .ref a0_7_11, a0_7g_12, a0_7g_13, .ref a0_7_14])), (a0_2, .inr (5, [.int a0_2_0, .int a0_2_1, .int a0_2_2, .int a0_2_3, .int a0_2_4, .ref a0_2_5, .ref a0_2_6])), (a0_1, .inr (5, [.int a0_1_0, .int a0_1_1, .int a0_1_2, .int a0_1_3, .int a0_1_4, .ref a0_1_5, .ref a0_1_6])), (a0_1_5, .inl (ka0_1_5, 9, .inl (fa0_1_5))), (a0_2_5, .inl (ka0_2_5, 9, .inl (fa0_2_5))), (a0_1_6, .inl (ka0_1_6, 9, .inl (fa0_1_6))), (a0_2_6, .inl (ka0_2_6, 9, .inl (fa0_2_6))), (a0_7_10, .inl (ka0_7_10, 9, .inl (fa0_7_10))), (a0_7_11, .inl (ka0_7_11, 9, .inl (fa0_7_11))), (a0_7_14, .inr (6, [.int a0_7_14_0, .int a0_7_14_1, .ref a0_7_14_2, .ref a0_7_14_3])), (a0_7_14_3, .inl (ka0_7_14_3, 3, .inl (fa0_7_14_3))), (a0_7_14_2, .inl (ka0_7_14_2, 3, .inl (fa0_7_14_2)))]) hP hD hCc hk1 hFc hP1 hD1 [.inr 0, .inl 1, .inl 2, .inl 3, .inl 4, .inl 5, .inl 6, .inl 7, .inl 8, .inl 9, .inl 10, .inl 11, .inl 12] (by decide +kernel) rfl
    have hw : r16 = (-1) := hw
    have hw := hw.symm
    subst hw
    exact W.iret (v := (-1)) hx hb hr (fun t ht hW => ⟨⟨(-1), (), rfl, trivial, v16na0_8, a0_2_0, a0_2_1, a0_2_2, a0_2_3, a0_2_4, fa0_2_5, fa0_2_6, ⟨ba0_2_1_l, ba0_2_1_u⟩, by rw [ht]; exact hP, va_K.moved hW.alike hK, hD⟩, hS.F ht⟩) hS.2.2 dX7_place_19
end P110_safe
section P111_safe
set_option maxHeartbeats 4000000 in
set_option maxRecDepth 100000 in
theorem c_X7_watch (l : Launch) (dC : Nat → ClassId) (dI : Nat → Nat → Nat) (sz : Nat) (a0 : Nat) (a1 : Int32) (a2 : Int32) (a0g_0 a0g_2 a0g_3 a0g_4 a0g_5 a0g_6 a0g_9 a0g_10 : Value) (a0_1 : Nat) (a0_7 : Nat) (a0_8 : Int32) (a0_7g_0 a0_7g_1 a0_7g_2 a0_7g_3 a0_7g_4 a0_7g_5 a0_7g_6 a0_7g_7 a0_7g_8 a0_7g_9 a0_7g_10 a0_7g_11 a0_7g_12 a0_7g_13 : Value) (a0_7_14 : Nat) (a0_7_14_0 : Int32) (a0_7_14g_1 : Value) (a0_7_14_2 : Nat) (a0_7_14_3 : Nat) (a0_1_0 : Int32) (a0_1g_1 a0_1g_2 a0_1g_3 a0_1g_4 a0_1g_5 a0_1g_6 : Value) (ka0_7_14_3 : ClassId) (fa0_7_14_3 : Nat → Int32) (ka0_7_14_2 : ClassId) (fa0_7_14_2 : Nat → Int32) (ba0_7_14_0_l : (0 : Int) ≤ a0_7_14_0.toInt) (ba0_7_14_0_u : a0_7_14_0.toInt ≤ (3 : Int)) (bfa0_7_14_3 : (∀ k, (0 : Int) ≤ (fa0_7_14_3 k).toInt ∧ (fa0_7_14_3 k).toInt ≤ 80)) (bfa0_7_14_2 : (∀ k, (0 : Int) ≤ (fa0_7_14_2 k).toInt ∧ (fa0_7_14_2 k).toInt ≤ 80)) : Met l yX7_watch wsX7_watch ({ frames := 2, cells := 0, slots := 0, locals := 43 }) (va_Pc [.ref a0, .int a1, .int a2] (ax_C dC dI sz [(a0, .inr (7, [a0g_0, .ref a0_1, a0g_2, a0g_3, a0g_4, a0g_5, a0g_6, .ref a0_7, .int a0_8, a0g_9, a0g_10])), (a0_7, .inr (0, [a0_7g_0, a0_7g_1, a0_7g_2, a0_7g_3, a0_7g_4, a0_7g_5, a0_7g_6, a0_7g_7, a0_7g_8, a0_7g_9, a0_7g_10, a0_7g_11, a0_7g_12, a0_7g_13, .ref a0_7_14])), (a0_7_14, .inr (6, [.int a0_7_14_0, a0_7_14g_1, .ref a0_7_14_2, .ref a0_7_14_3])), (a0_1, .inr (5, [.int a0_1_0, a0_1g_1, a0_1g_2, a0_1g_3, a0_1g_4, a0_1g_5, a0_1g_6])), (a0_7_14_3, .inl (ka0_7_14_3, 3, .inl (fa0_7_14_3))), (a0_7_14_2, .inl (ka0_7_14_2, 3, .inl (fa0_7_14_2)))] [(ka0_7_14_3, .int), (ka0_7_14_2, .int)] (fun _ => True))) (va_Qi (fun (r : Int32) (_ : Unit) => True) (fun (_ : Unit) (t : State) => ∃ na0_8 : Int32, ax_B dC dI (va_A [(a0, .inr (7, [a0g_0, .ref a0_1, a0g_2, a0g_3, a0g_4, a0g_5, a0g_6, .ref a0_7, .int a0_8, a0g_9, a0g_10])), (a0_7, .inr (0, [a0_7g_0, a0_7g_1, a0_7g_2, a0_7g_3, a0_7g_4, a0_7g_5, a0_7g_6, a0_7g_7, a0_7g_8, a0_7g_9, a0_7g_10, a0_7g_11, a0_7g_12, a0_7g_13, .ref a0_7_14])), (a0_7_14, .inr (6, [.int a0_7_14_0, a0_7_14g_1, .ref a0_7_14_2, .ref a0_7_14_3])), (a0_1, .inr (5, [.int a0_1_0, a0_1g_1, a0_1g_2, a0_1g_3, a0_1g_4, a0_1g_5, a0_1g_6])), (a0_7_14_3, .inl (ka0_7_14_3, 3, .inl (fa0_7_14_3))), (a0_7_14_2, .inl (ka0_7_14_2, 3, .inl (fa0_7_14_2)))] sz) [(a0, .inr (7, [a0g_0, .ref a0_1, a0g_2, a0g_3, a0g_4, a0g_5, a0g_6, .ref a0_7, .int na0_8, a0g_9, a0g_10])), (a0_7, .inr (0, [a0_7g_0, a0_7g_1, a0_7g_2, a0_7g_3, a0_7g_4, a0_7g_5, a0_7g_6, a0_7g_7, a0_7g_8, a0_7g_9, a0_7g_10, a0_7g_11, a0_7g_12, a0_7g_13, .ref a0_7_14])), (a0_7_14, .inr (6, [.int a0_7_14_0, a0_7_14g_1, .ref a0_7_14_2, .ref a0_7_14_3])), (a0_1, .inr (5, [.int a0_1_0, a0_1g_1, a0_1g_2, a0_1g_3, a0_1g_4, a0_1g_5, a0_1g_6])), (a0_7_14_3, .inl (ka0_7_14_3, 3, .inl (fa0_7_14_3))), (a0_7_14_2, .inl (ka0_7_14_2, 3, .inl (fa0_7_14_2)))] [(ka0_7_14_3, .int), (ka0_7_14_2, .int)] t) (va_A [(a0, .inr (7, [a0g_0, .ref a0_1, a0g_2, a0g_3, a0g_4, a0g_5, a0g_6, .ref a0_7, .int a0_8, a0g_9, a0g_10])), (a0_7, .inr (0, [a0_7g_0, a0_7g_1, a0_7g_2, a0_7g_3, a0_7g_4, a0_7g_5, a0_7g_6, a0_7g_7, a0_7g_8, a0_7g_9, a0_7g_10, a0_7g_11, a0_7g_12, a0_7g_13, .ref a0_7_14])), (a0_7_14, .inr (6, [.int a0_7_14_0, a0_7_14g_1, .ref a0_7_14_2, .ref a0_7_14_3])), (a0_1, .inr (5, [.int a0_1_0, a0_1g_1, a0_1g_2, a0_1g_3, a0_1g_4, a0_1g_5, a0_1g_6])), (a0_7_14_3, .inl (ka0_7_14_3, 3, .inl (fa0_7_14_3))), (a0_7_14_2, .inl (ka0_7_14_2, 3, .inl (fa0_7_14_2)))] sz)) 0 0 (va_A [(a0, .inr (7, [a0g_0, .ref a0_1, a0g_2, a0g_3, a0g_4, a0g_5, a0g_6, .ref a0_7, .int a0_8, a0g_9, a0g_10])), (a0_7, .inr (0, [a0_7g_0, a0_7g_1, a0_7g_2, a0_7g_3, a0_7g_4, a0_7g_5, a0_7g_6, a0_7g_7, a0_7g_8, a0_7g_9, a0_7g_10, a0_7g_11, a0_7g_12, a0_7g_13, .ref a0_7_14])), (a0_7_14, .inr (6, [.int a0_7_14_0, a0_7_14g_1, .ref a0_7_14_2, .ref a0_7_14_3])), (a0_1, .inr (5, [.int a0_1_0, a0_1g_1, a0_1g_2, a0_1g_3, a0_1g_4, a0_1g_5, a0_1g_6])), (a0_7_14_3, .inl (ka0_7_14_3, 3, .inl (fa0_7_14_3))), (a0_7_14_2, .inl (ka0_7_14_2, 3, .inl (fa0_7_14_2)))] sz) := by
  refine Met.ofW (cc := cX7_watch) (maxL := 3) (ret := (some .int)) (by decide) rfl ?_
  intro p e s m args below meth c s₁ B hml hv
  obtain ⟨rfl, hsz, hP, hK, hD0, hE⟩ := hv
  have hx := B.exec
  have hb := B.bytes
  have hr := B.returns
  have hts := atoms_spec (ws := wsX7_watch) B.pre
  have hown : s.vm.findClass RX7 = some m.cls := findClass_of_methodNamed B.named
  have hlocks := B.notSynchronized
  subst hsz
  have hD := hD0.self (sz := s.heap.size)
  generalize hAe : va_A [(a0, .inr (7, [a0g_0, .ref a0_1, a0g_2, a0g_3, a0g_4, a0g_5, a0g_6, .ref a0_7, .int a0_8, a0g_9, a0g_10])), (a0_7, .inr (0, [a0_7g_0, a0_7g_1, a0_7g_2, a0_7g_3, a0_7g_4, a0_7g_5, a0_7g_6, a0_7g_7, a0_7g_8, a0_7g_9, a0_7g_10, a0_7g_11, a0_7g_12, a0_7g_13, .ref a0_7_14])), (a0_7_14, .inr (6, [.int a0_7_14_0, a0_7_14g_1, .ref a0_7_14_2, .ref a0_7_14_3])), (a0_1, .inr (5, [.int a0_1_0, a0_1g_1, a0_1g_2, a0_1g_3, a0_1g_4, a0_1g_5, a0_1g_6])), (a0_7_14_3, .inl (ka0_7_14_3, 3, .inl (fa0_7_14_3))), (a0_7_14_2, .inl (ka0_7_14_2, 3, .inl (fa0_7_14_2)))] s.heap.size = A at hD ⊢
  have hA : ∀ q : Nat, s.heap.size ≤ q → A q := fun q h => by rw [← hAe]; exact Or.inr h
  have hS : va_S A s.heap s.heap [] := va_S.rf
  have hP : va_P (dC, dI) vwCl [(a0, .inr (7, [a0g_0, .ref a0_1, a0g_2, a0g_3, a0g_4, a0g_5, a0g_6, .ref a0_7, .int a0_8, a0g_9, a0g_10])), (a0_7, .inr (0, [a0_7g_0, a0_7g_1, a0_7g_2, a0_7g_3, a0_7g_4, a0_7g_5, a0_7g_6, a0_7g_7, a0_7g_8, a0_7g_9, a0_7g_10, a0_7g_11, a0_7g_12, a0_7g_13, .ref a0_7_14])), (a0_7_14, .inr (6, [.int a0_7_14_0, a0_7_14g_1, .ref a0_7_14_2, .ref a0_7_14_3])), (a0_1, .inr (5, [.int a0_1_0, a0_1g_1, a0_1g_2, a0_1g_3, a0_1g_4, a0_1g_5, a0_1g_6])), (a0_7_14_3, .inl (ka0_7_14_3, 3, .inl (fa0_7_14_3))), (a0_7_14_2, .inl (ka0_7_14_2, 3, .inl (fa0_7_14_2)))] s.heap := hP
  have hl := lv_entry ([.ref a0, .int a1, .int a2]) (n := 3) (Nat.le_of_ble_eq_true rfl)
  rw [lg_entry_eq]
  generalize (lg_sl ([.ref a0, .int a1, .int a2]) ++ List.replicate (3 - (lg_sl ([.ref a0, .int a1, .int a2])).length) Slot.unset).toArray = ls at hl ⊢
  have hl : lv_has ls 3 [(0, .ref a0), (1, .int a1), (2, .int a2)] := hl
  refine lv_aload_n hx hb dX7_watch_0 rfl (lv_at hl 0 rfl) ?_
  refine lv_iload_n hx hb dX7_watch_1 rfl (lv_at hl 1 rfl) ?_
  obtain ⟨hPc, hDc, hFc, hCc⟩ := zc_cut (wc := [(a0, .inr (7, [a0g_0, .ref a0_1, a0g_2, a0g_3, a0g_4, a0g_5, a0g_6, .ref a0_7, .int a0_8, a0g_9, a0g_10])), (a0_7, .inr (0, [a0_7g_0, a0_7g_1, a0_7g_2, a0_7g_3, a0_7g_4, a0_7g_5, a0_7g_6, a0_7g_7, a0_7g_8, a0_7g_9, a0_7g_10, a0_7g_11, a0_7g_12, a0_7g_13, .ref a0_7_14])), (a0_7_14, .inr (6, [.int a0_7_14_0, a0_7_14g_1, .ref a0_7_14_2, .ref a0_7_14_3]))]) hP hD hS hA [0, 1, 2] (by decide +kernel) rfl
  have hKc := hK.sub (tys' := []) [] rfl
  refine va_calli (va_runV (As := [.int a1]) (rest := []) ⟨hx, hb, hml, hown, hts⟩ (c_X7_isWatcher l dC dI s.heap.size a0 a1 a0g_0 (.ref a0_1) a0g_2 a0g_3 a0g_4 a0g_5 a0g_6 (.int a0_8) a0g_9 a0g_10 a0_7 a0_7g_0 a0_7g_1 a0_7g_2 a0_7g_3 a0_7g_4 a0_7g_5 a0_7g_6 a0_7g_7 a0_7g_8 a0_7g_9 a0_7g_10 a0_7g_11 a0_7g_12 a0_7g_13 a0_7_14 a0_7_14_0 a0_7_14g_1 (.ref a0_7_14_2) (.ref a0_7_14_3) ba0_7_14_0_l ba0_7_14_0_u) (cwV 1 hts gX7_watch_X7_isWatcher rfl rfl rfl zd_X7_isWatcher ⟨Nat.le_of_ble_eq_true rfl, Nat.le_of_ble_eq_true rfl⟩) ⟨ax_blind (fun _ _ _ _ _ => trivial), zr_7 hKc hPc (q0 := 0) rfl, ax_pre hPc hKc hDc (fun _ _ => trivial)⟩ rfl rfl hl.1 rfl (lv_room (Nat.le_of_ble_eq_true rfl)) dX7_watch_2 ⟨Nat.le_of_ble_eq_true rfl, Nat.le_of_ble_eq_true rfl⟩) hS (fun q _ h => hFc q h) hFc (fun r2 u t H locs ht hvm hw hB hz1 hk1 hS => ?_)
  obtain ⟨hP1, hK1, hD1⟩ := hB
  rw [ht] at hP1
  obtain ⟨hP, hD⟩ := zc_back (w := [(a0, .inr (7, [a0g_0, .ref a0_1, a0g_2, a0g_3, a0g_4, a0g_5, a0g_6, .ref a0_7, .int a0_8, a0g_9, a0g_10])), (a0_7, .inr (0, [a0_7g_0, a0_7g_1, a0_7g_2, a0_7g_3, a0_7g_4, a0_7g_5, a0_7g_6, a0_7g_7, a0_7g_8, a0_7g_9, a0_7g_10, a0_7g_11, a0_7g_12, a0_7g_13, .ref a0_7_14])), (a0_7_14, .inr (6, [.int a0_7_14_0, a0_7_14g_1, .ref a0_7_14_2, .ref a0_7_14_3])), (a0_1, .inr (5, [.int a0_1_0, a0_1g_1, a0_1g_2, a0_1g_3, a0_1g_4, a0_1g_5, a0_1g_6])), (a0_7_14_3, .inl (ka0_7_14_3, 3, .inl (fa0_7_14_3))), (a0_7_14_2, .inl (ka0_7_14_2, 3, .inl (fa0_7_14_2)))]) hP hD hCc hk1 hFc hP1 hD1 [.inr 0, .inr 1, .inr 2, .inl 3, .inl 4, .inl 5] (by decide +kernel) rfl
  rcases hw with hw | hw
  · obtain ⟨hw, h2_0, h2_1, h2_2, h2_3⟩ := hw
    subst hw
    have l2k0_a1 : (0 : Int) ≤ a1.toInt := h2_0
    have u2k0_a1 : a1.toInt ≤ (2 : Int) := h2_1
    have l2k0_a0_7_14_0 : (1 : Int) ≤ a0_7_14_0.toInt := h2_2
    have u2k0_a0_7_14_0 : a0_7_14_0.toInt ≤ (3 : Int) := ba0_7_14_0_u
    refine lv_if_ne (tgt := 14) hx hb dX7_watch_5 (by decide) (fun _ => ?_) (fun c5 => absurd c5 (by decide +kernel))
    refine lv_iload_n hx hb dX7_watch_14 rfl (lv_at hl 2 rfl) ?_
    refine lv_iconst (v := 1) hx hb dX7_watch_15 zk_iconst_1 ?_
    refine lv_sipush (v := 300) hx hb dX7_watch_16 zk_sipush_300 ?_
    obtain ⟨hPc, hDc, hFc, hCc⟩ := zc_cut (wc := []) hP hD hS hA [] (by decide +kernel) rfl
    have hKc := hK.sub (tys' := []) [] rfl
    refine va_calli (va_runS (As := [.int a2, .int 1, .int 300]) (rest := []) ⟨hx, hb, hml, hown, hts⟩ (c_X7_within l dC dI H.size a2 1 300 ) (va_cwS 3 hts gX7_watch_X7_within rfl rfl rfl zd_X7_within.2 ⟨Nat.le_of_ble_eq_true rfl, Nat.le_of_ble_eq_true rfl⟩) ⟨ax_blind (fun _ _ _ _ _ => trivial), ax_pre hPc hKc hDc (fun _ _ => trivial)⟩ rfl rfl hl.1 rfl (lv_room (Nat.le_of_ble_eq_true rfl)) dX7_watch_19 ⟨Nat.le_of_ble_eq_true rfl, Nat.le_of_ble_eq_true rfl⟩) hS (fun q _ h => hFc q h) hFc (fun r19 u t H locs ht hvm hw hB hz1 hk1 hS => ?_)
    obtain ⟨hP1, hK1, hD1⟩ := hB
    rw [ht] at hP1
    obtain ⟨hP, hD⟩ := zc_back (w := [(a0, .inr (7, [a0g_0, .ref a0_1, a0g_2, a0g_3, a0g_4, a0g_5, a0g_6, .ref a0_7, .int a0_8, a0g_9, a0g_10])), (a0_7, .inr (0, [a0_7g_0, a0_7g_1, a0_7g_2, a0_7g_3, a0_7g_4, a0_7g_5, a0_7g_6, a0_7g_7, a0_7g_8, a0_7g_9, a0_7g_10, a0_7g_11, a0_7g_12, a0_7g_13, .ref a0_7_14])), (a0_7_14, .inr (6, [.int a0_7_14_0, a0_7_14g_1, .ref a0_7_14_2, .ref a0_7_14_3])), (a0_1, .inr (5, [.int a0_1_0, a0_1g_1, a0_1g_2, a0_1g_3, a0_1g_4, a0_1g_5, a0_1g_6])), (a0_7_14_3, .inl (ka0_7_14_3, 3, .inl (fa0_7_14_3))), (a0_7_14_2, .inl (ka0_7_14_2, 3, .inl (fa0_7_14_2)))]) hP hD hCc hk1 hFc hP1 hD1 [.inl 0, .inl 1, .inl 2, .inl 3, .inl 4, .inl 5] (by decide +kernel) rfl
    rcases hw with hw | hw
    · obtain ⟨hw, h19⟩ := hw
      subst hw
      have l19k0_a2 : (1 : Int) ≤ a2.toInt := Int.le_trans zq1 h19.1
      have u19k0_a2 : a2.toInt ≤ (300 : Int) := Int.le_trans h19.2 zq82
      refine lv_if_ne (tgt := 31) hx hb dX7_watch_22 (by decide) (fun _ => ?_) (fun c22 => absurd c22 (by decide +kernel))
      refine lv_aload_n hx hb dX7_watch_31 rfl (lv_at hl 0 rfl) ?_
      refine lv_aload_n hx hb dX7_watch_32 rfl (lv_at hl 0 rfl) ?_
      refine va_get (D := (dC, dI)) (ci := 7) (v := .ref a0_7) (C := RX7) (T := TX7) (N := 11) hx hb hts zi_X7_watch_7 hown hK hP 0 rfl rfl 7 (by decide) (hts (.fieldLink RX7 57 "WaxTurns" "hall" "LWaxTurns$Hall;") (zm_X7_watch_r1 (List.mem_of_getElem? (i := 0) rfl))) (fun _ h9 => h9) rfl dX7_watch_33 ?_
      refine va_get (D := (dC, dI)) (ci := 0) (v := .ref a0_7_14) (C := RX0) (T := TX0) (N := 15) hx hb hts zi_X7_watch_0 hown hK hP 1 rfl rfl 14 (by decide) (hts (.fieldLink RX7 138 "WaxTurns$Hall" "watchers" "LWaxTurns$Watchers;") (zm_X7_watch_r1 (List.mem_of_getElem? (i := 1) rfl))) (fun _ h9 => h9) rfl dX7_watch_36 ?_
      refine lv_iload_n hx hb dX7_watch_39 rfl (lv_at hl 1 rfl) ?_
      refine lv_aload_n hx hb dX7_watch_40 rfl (lv_at hl 0 rfl) ?_
      refine va_get (D := (dC, dI)) (ci := 7) (v := .ref a0_1) (C := RX7) (T := TX7) (N := 11) hx hb hts zi_X7_watch_7 hown hK hP 0 rfl rfl 1 (by decide) (hts (.fieldLink RX7 19 "WaxTurns" "now" "LWaxTurns$Scene;") (zm_X7_watch_r1 (List.mem_of_getElem? (i := 2) rfl))) (fun _ h9 => h9) rfl dX7_watch_41 ?_
      refine va_get (D := (dC, dI)) (ci := 5) (v := .int a0_1_0) (C := RX5) (T := TX5) (N := 7) hx hb hts zi_X7_watch_5 hown hK hP 3 rfl rfl 0 (by decide) (hts (.fieldLink RX7 147 "WaxTurns$Scene" "minute" "I") (zm_X7_watch_r1 (List.mem_of_getElem? (i := 3) rfl))) (fun _ h9 => h9) rfl dX7_watch_44 ?_
      refine lv_iload_n hx hb dX7_watch_47 rfl (lv_at hl 2 rfl) ?_
      refine lv_iadd hx hb dX7_watch_48 ?_
      refine lv_topi (fun x48 ex48 => ?_)
      refine lv_iconst (v := 1) hx hb dX7_watch_49 zk_iconst_1 ?_
      refine lv_isub hx hb dX7_watch_50 ?_
      refine lv_topi (fun x50 ex50 => ?_)
      obtain ⟨hPc, hDc, hFc, hCc⟩ := zc_cut (wc := [(a0_7_14, .inr (6, [.int a0_7_14_0, a0_7_14g_1, .ref a0_7_14_2, .ref a0_7_14_3])), (a0_7_14_3, .inl (ka0_7_14_3, 3, .inl (fa0_7_14_3))), (a0_7_14_2, .inl (ka0_7_14_2, 3, .inl (fa0_7_14_2)))]) hP hD hS hA [2, 4, 5] (by decide +kernel) rfl
      have hKc := hK.sub (tys' := [(ka0_7_14_3, .int), (ka0_7_14_2, .int)]) [0, 1] rfl
      refine va_calli (va_runV (As := [.int a1, .int x50]) (rest := [.ref a0]) ⟨hx, hb, hml, hown, hts⟩ (c_X6_placeOf l dC dI H.size a0_7_14 a1 x50 (.int a0_7_14_0) a0_7_14g_1 a0_7_14_2 a0_7_14_3 ka0_7_14_3 fa0_7_14_3 ka0_7_14_2 fa0_7_14_2 l2k0_a1 u2k0_a1 bfa0_7_14_3 bfa0_7_14_2) (cwV 2 hts gX7_watch_X6_placeOf rfl rfl rfl zd_X6_placeOf ⟨Nat.le_of_ble_eq_true rfl, Nat.le_of_ble_eq_true rfl⟩) ⟨ax_blind (fun _ _ _ _ _ => trivial), zr_6 hKc hPc (q0 := 0) rfl, ax_pre hPc hKc hDc (fun _ _ => trivial)⟩ rfl rfl hl.1 rfl (lv_room (Nat.le_of_ble_eq_true rfl)) dX7_watch_51 ⟨Nat.le_of_ble_eq_true rfl, Nat.le_of_ble_eq_true rfl⟩) hS (fun q _ h => hFc q h) hFc (fun r51 u t H locs ht hvm hw hB hz1 hk1 hS => ?_)
      obtain ⟨hP1, hK1, hD1⟩ := hB
      rw [ht] at hP1
      obtain ⟨hP, hD⟩ := zc_back (w := [(a0, .inr (7, [a0g_0, .ref a0_1, a0g_2, a0g_3, a0g_4, a0g_5, a0g_6, .ref a0_7, .int a0_8, a0g_9, a0g_10])), (a0_7, .inr (0, [a0_7g_0, a0_7g_1, a0_7g_2, a0_7g_3, a0_7g_4, a0_7g_5, a0_7g_6, a0_7g_7, a0_7g_8, a0_7g_9, a0_7g_10, a0_7g_11, a0_7g_12, a0_7g_13, .ref a0_7_14])), (a0_7_14, .inr (6, [.int a0_7_14_0, a0_7_14g_1, .ref a0_7_14_2, .ref a0_7_14_3])), (a0_1, .inr (5, [.int a0_1_0, a0_1g_1, a0_1g_2, a0_1g_3, a0_1g_4, a0_1g_5, a0_1g_6])), (a0_7_14_3, .inl (ka0_7_14_3, 3, .inl (fa0_7_14_3))), (a0_7_14_2, .inl (ka0_7_14_2, 3, .inl (fa0_7_14_2)))]) hP hD hCc hk1 hFc hP1 hD1 [.inl 0, .inl 1, .inr 0, .inl 3, .inr 1, .inr 2] (by decide +kernel) rfl
      obtain ⟨hPc, hDc, hFc, hCc⟩ := zc_cut (wc := [(a0, .inr (7, [a0g_0, .ref a0_1, a0g_2, a0g_3, a0g_4, a0g_5, a0g_6, .ref a0_7, .int a0_8, a0g_9, a0g_10]))]) hP hD hS hA [0] (by decide +kernel) rfl
      have hKc := hK.sub (tys' := []) [] rfl
      refine va_calli (va_runV (As := [.int r51]) (rest := []) ⟨hx, hb, hml, hown, hts⟩ (c_X7_answered l dC dI H.size a0 r51 a0g_0 (.ref a0_1) a0g_2 a0g_3 a0g_4 a0g_5 a0g_6 (.ref a0_7) a0g_9 a0g_10 a0_8 ) (cwV 1 hts gX7_watch_X7_answered rfl rfl rfl zd_X7_answered ⟨Nat.le_of_ble_eq_true rfl, Nat.le_of_ble_eq_true rfl⟩) ⟨ax_blind (fun _ _ _ _ _ => trivial), zr_7 hKc hPc (q0 := 0) rfl, ax_pre hPc hKc hDc (fun _ _ => trivial)⟩ rfl rfl hl.1 rfl (lv_room (Nat.le_of_ble_eq_true rfl)) dX7_watch_54 ⟨Nat.le_of_ble_eq_true rfl, Nat.le_of_ble_eq_true rfl⟩) hS (fun q _ h => hFc q h) hFc (fun r54 u t H locs ht hvm hw hB hz1 hk1 hS => ?_)
      obtain ⟨v54na0_8, hP1, hK1, hD1⟩ := hB
      rw [ht] at hP1
      obtain ⟨hP, hD⟩ := zc_back (w := [(a0, .inr (7, [a0g_0, .ref a0_1, a0g_2, a0g_3, a0g_4, a0g_5, a0g_6, .ref a0_7, .int v54na0_8, a0g_9, a0g_10])), (a0_7, .inr (0, [a0_7g_0, a0_7g_1, a0_7g_2, a0_7g_3, a0_7g_4, a0_7g_5, a0_7g_6, a0_7g_7, a0_7g_8, a0_7g_9, a0_7g_10, a0_7g_11, a0_7g_12, a0_7g_13, .ref a0_7_14])), (a0_7_14, .inr (6, [.int a0_7_14_0, a0_7_14g_1, .ref a0_7_14_2, .ref a0_7_14_3])), (a0_1, .inr (5, [.int a0_1_0, a0_1g_1, a0_1g_2, a0_1g_3, a0_1g_4, a0_1g_5, a0_1g_6])), (a0_7_14_3, .inl (ka0_7_14_3, 3, .inl (fa0_7_14_3))), (a0_7_14_2, .inl (ka0_7_14_2, 3, .inl (fa0_7_14_2)))]) hP hD hCc hk1 hFc hP1 hD1 [.inr 0, .inl 1, .inl 2, .inl 3, .inl 4, .inl 5] (by decide +kernel) rfl
      have hw : r54 = r51 := hw
      have hw := hw.symm
      subst hw
      exact W.iret (v := r51) hx hb hr (fun t ht hW => ⟨⟨r51, (), rfl, trivial, v54na0_8, by rw [ht]; exact hP, va_K.moved hW.alike hK, hD⟩, hS.F ht⟩) hS.2.2 dX7_watch_57
    · obtain ⟨hw, h19⟩ := hw
      subst hw
      refine lv_if_ne (tgt := 31) hx hb dX7_watch_22 (by decide) (fun c22 => absurd (by decide +kernel) c22) (fun _ => ?_)
      refine lv_aload_n hx hb dX7_watch_25 rfl (lv_at hl 0 rfl) ?_
      refine lv_iconst (v := 2) hx hb dX7_watch_26 zk_iconst_2 ?_
      obtain ⟨hPc, hDc, hFc, hCc⟩ := zc_cut (wc := [(a0, .inr (7, [a0g_0, .ref a0_1, a0g_2, a0g_3, a0g_4, a0g_5, a0g_6, .ref a0_7, .int a0_8, a0g_9, a0g_10]))]) hP hD hS hA [0] (by decide +kernel) rfl
      have hKc := hK.sub (tys' := []) [] rfl
      refine va_calli (va_runV (As := [.int 2]) (rest := []) ⟨hx, hb, hml, hown, hts⟩ (c_X7_refused l dC dI H.size a0 2 a0g_0 (.ref a0_1) a0g_2 a0g_3 a0g_4 a0g_5 a0g_6 (.ref a0_7) a0g_9 a0g_10 a0_8 ) (cwV 1 hts gX7_watch_X7_refused rfl rfl rfl zd_X7_refused ⟨Nat.le_of_ble_eq_true rfl, Nat.le_of_ble_eq_true rfl⟩) ⟨ax_blind (fun _ _ _ _ _ => trivial), zr_7 hKc hPc (q0 := 0) rfl, ax_pre hPc hKc hDc (fun _ _ => trivial)⟩ rfl rfl hl.1 rfl (lv_room (Nat.le_of_ble_eq_true rfl)) dX7_watch_27 ⟨Nat.le_of_ble_eq_true rfl, Nat.le_of_ble_eq_true rfl⟩) hS (fun q _ h => hFc q h) hFc (fun r27 u t H locs ht hvm hw hB hz1 hk1 hS => ?_)
      obtain ⟨v27na0_8, hP1, hK1, hD1⟩ := hB
      rw [ht] at hP1
      obtain ⟨hP, hD⟩ := zc_back (w := [(a0, .inr (7, [a0g_0, .ref a0_1, a0g_2, a0g_3, a0g_4, a0g_5, a0g_6, .ref a0_7, .int v27na0_8, a0g_9, a0g_10])), (a0_7, .inr (0, [a0_7g_0, a0_7g_1, a0_7g_2, a0_7g_3, a0_7g_4, a0_7g_5, a0_7g_6, a0_7g_7, a0_7g_8, a0_7g_9, a0_7g_10, a0_7g_11, a0_7g_12, a0_7g_13, .ref a0_7_14])), (a0_7_14, .inr (6, [.int a0_7_14_0, a0_7_14g_1, .ref a0_7_14_2, .ref a0_7_14_3])), (a0_1, .inr (5, [.int a0_1_0, a0_1g_1, a0_1g_2, a0_1g_3, a0_1g_4, a0_1g_5, a0_1g_6])), (a0_7_14_3, .inl (ka0_7_14_3, 3, .inl (fa0_7_14_3))), (a0_7_14_2, .inl (ka0_7_14_2, 3, .inl (fa0_7_14_2)))]) hP hD hCc hk1 hFc hP1 hD1 [.inr 0, .inl 1, .inl 2, .inl 3, .inl 4, .inl 5] (by decide +kernel) rfl
      have hw : r27 = (-1) := hw
      have hw := hw.symm
      subst hw
      exact W.iret (v := (-1)) hx hb hr (fun t ht hW => ⟨⟨(-1), (), rfl, trivial, v27na0_8, by rw [ht]; exact hP, va_K.moved hW.alike hK, hD⟩, hS.F ht⟩) hS.2.2 dX7_watch_30
  · subst hw
    refine lv_if_ne (tgt := 14) hx hb dX7_watch_5 (by decide) (fun c5 => absurd (by decide +kernel) c5) (fun _ => ?_)
    refine lv_aload_n hx hb dX7_watch_8 rfl (lv_at hl 0 rfl) ?_
    refine lv_iconst (v := 1) hx hb dX7_watch_9 zk_iconst_1 ?_
    obtain ⟨hPc, hDc, hFc, hCc⟩ := zc_cut (wc := [(a0, .inr (7, [a0g_0, .ref a0_1, a0g_2, a0g_3, a0g_4, a0g_5, a0g_6, .ref a0_7, .int a0_8, a0g_9, a0g_10]))]) hP hD hS hA [0] (by decide +kernel) rfl
    have hKc := hK.sub (tys' := []) [] rfl
    refine va_calli (va_runV (As := [.int 1]) (rest := []) ⟨hx, hb, hml, hown, hts⟩ (c_X7_refused l dC dI H.size a0 1 a0g_0 (.ref a0_1) a0g_2 a0g_3 a0g_4 a0g_5 a0g_6 (.ref a0_7) a0g_9 a0g_10 a0_8 ) (cwV 1 hts gX7_watch_X7_refused rfl rfl rfl zd_X7_refused ⟨Nat.le_of_ble_eq_true rfl, Nat.le_of_ble_eq_true rfl⟩) ⟨ax_blind (fun _ _ _ _ _ => trivial), zr_7 hKc hPc (q0 := 0) rfl, ax_pre hPc hKc hDc (fun _ _ => trivial)⟩ rfl rfl hl.1 rfl (lv_room (Nat.le_of_ble_eq_true rfl)) dX7_watch_10 ⟨Nat.le_of_ble_eq_true rfl, Nat.le_of_ble_eq_true rfl⟩) hS (fun q _ h => hFc q h) hFc (fun r10 u t H locs ht hvm hw hB hz1 hk1 hS => ?_)
    obtain ⟨v10na0_8, hP1, hK1, hD1⟩ := hB
    rw [ht] at hP1
    obtain ⟨hP, hD⟩ := zc_back (w := [(a0, .inr (7, [a0g_0, .ref a0_1, a0g_2, a0g_3, a0g_4, a0g_5, a0g_6, .ref a0_7, .int v10na0_8, a0g_9, a0g_10])), (a0_7, .inr (0, [a0_7g_0, a0_7g_1, a0_7g_2, a0_7g_3, a0_7g_4, a0_7g_5, a0_7g_6, a0_7g_7, a0_7g_8, a0_7g_9, a0_7g_10, a0_7g_11, a0_7g_12, a0_7g_13, .ref a0_7_14])), (a0_7_14, .inr (6, [.int a0_7_14_0, a0_7_14g_1, .ref a0_7_14_2, .ref a0_7_14_3])), (a0_1, .inr (5, [.int a0_1_0, a0_1g_1, a0_1g_2, a0_1g_3, a0_1g_4, a0_1g_5, a0_1g_6])), (a0_7_14_3, .inl (ka0_7_14_3, 3, .inl (fa0_7_14_3))), (a0_7_14_2, .inl (ka0_7_14_2, 3, .inl (fa0_7_14_2)))]) hP hD hCc hk1 hFc hP1 hD1 [.inr 0, .inl 1, .inl 2, .inl 3, .inl 4, .inl 5] (by decide +kernel) rfl
    have hw : r10 = (-1) := hw
    have hw := hw.symm
    subst hw
    exact W.iret (v := (-1)) hx hb hr (fun t ht hW => ⟨⟨(-1), (), rfl, trivial, v10na0_8, by rw [ht]; exact hP, va_K.moved hW.alike hK, hD⟩, hS.F ht⟩) hS.2.2 dX7_watch_13

set_option maxHeartbeats 4000000 in
set_option maxRecDepth 100000 in
theorem c_X7_gone (l : Launch) (dC : Nat → ClassId) (dI : Nat → Nat → Nat) (sz : Nat) (a0 : Nat) (a1 : Int32) (a0g_0 a0g_3 a0g_4 a0g_5 a0g_6 a0g_9 a0g_10 : Value) (a0_1 : Nat) (a0_2 : Nat) (a0_7 : Nat) (a0_8 : Int32) (a0_7_0 : Int32) (a0_7_1 : Int32) (a0_7_2 : Int32) (a0_7g_3 a0_7g_4 a0_7g_7 a0_7g_8 a0_7g_9 a0_7g_12 a0_7g_13 : Value) (a0_7_5 : Int32) (a0_7_6 : Int32) (a0_7_10 : Nat) (a0_7_11 : Nat) (a0_7_14 : Nat) (a0_2_0 : Int32) (a0_2_1 : Int32) (a0_2_2 : Int32) (a0_2_3 : Int32) (a0_2_4 : Int32) (a0_2_5 : Nat) (a0_2_6 : Nat) (a0_1_0 : Int32) (a0_1_1 : Int32) (a0_1_2 : Int32) (a0_1_3 : Int32) (a0_1_4 : Int32) (a0_1_5 : Nat) (a0_1_6 : Nat) (ka0_1_5 : ClassId) (fa0_1_5 : Nat → Int32) (ka0_2_5 : ClassId) (fa0_2_5 : Nat → Int32) (ka0_1_6 : ClassId) (fa0_1_6 : Nat → Int32) (ka0_2_6 : ClassId) (fa0_2_6 : Nat → Int32) (ka0_7_10 : ClassId) (fa0_7_10 : Nat → Int32) (ka0_7_11 : ClassId) (fa0_7_11 : Nat → Int32) (a0_7_14_0 : Int32) (a0_7_14_1 : Int32) (a0_7_14_2 : Nat) (a0_7_14_3 : Nat) (ka0_7_14_3 : ClassId) (fa0_7_14_3 : Nat → Int32) (ka0_7_14_2 : ClassId) (fa0_7_14_2 : Nat → Int32) (ba0_7_0_l : (0 : Int) ≤ a0_7_0.toInt) (ba0_7_0_u : a0_7_0.toInt ≤ (9 : Int)) (ba0_7_5_l : (0 : Int) ≤ a0_7_5.toInt) (ba0_7_5_u : a0_7_5.toInt ≤ (8 : Int)) (ba0_7_6_l : (0 : Int) ≤ a0_7_6.toInt) (ba0_7_6_u : a0_7_6.toInt ≤ (8 : Int)) (ba0_2_1_l : (0 : Int) ≤ a0_2_1.toInt) (ba0_2_1_u : a0_2_1.toInt ≤ (8 : Int)) (ba0_1_1_l : (0 : Int) ≤ a0_1_1.toInt) (ba0_1_1_u : a0_1_1.toInt ≤ (8 : Int)) (ba0_7_14_0_l : (0 : Int) ≤ a0_7_14_0.toInt) (ba0_7_14_0_u : a0_7_14_0.toInt ≤ (3 : Int)) (bfa0_7_14_3 : (∀ k, (0 : Int) ≤ (fa0_7_14_3 k).toInt ∧ (fa0_7_14_3 k).toInt ≤ 80)) (bfa0_7_14_2 : (∀ k, (0 : Int) ≤ (fa0_7_14_2 k).toInt ∧ (fa0_7_14_2 k).toInt ≤ 80)) : Met l yX7_gone wsX7_gone ({ frames := 6, cells := 0, slots := 0, locals := 141 }) (va_Pc [.ref a0, .int a1] (ax_C dC dI sz [(a0, .inr (7, [a0g_0, .ref a0_1, .ref a0_2, a0g_3, a0g_4, a0g_5, a0g_6, .ref a0_7, .int a0_8, a0g_9, a0g_10])), (a0_7, .inr (0, [.int a0_7_0, .int a0_7_1, .int a0_7_2, a0_7g_3, a0_7g_4, .int a0_7_5, .int a0_7_6, a0_7g_7, a0_7g_8, a0_7g_9, .ref a0_7_10, .ref a0_7_11, a0_7g_12, a0_7g_13, .ref a0_7_14])), (a0_2, .inr (5, [.int a0_2_0, .int a0_2_1, .int a0_2_2, .int a0_2_3, .int a0_2_4, .ref a0_2_5, .ref a0_2_6])), (a0_1, .inr (5, [.int a0_1_0, .int a0_1_1, .int a0_1_2, .int a0_1_3, .int a0_1_4, .ref a0_1_5, .ref a0_1_6])), (a0_1_5, .inl (ka0_1_5, 9, .inl (fa0_1_5))), (a0_2_5, .inl (ka0_2_5, 9, .inl (fa0_2_5))), (a0_1_6, .inl (ka0_1_6, 9, .inl (fa0_1_6))), (a0_2_6, .inl (ka0_2_6, 9, .inl (fa0_2_6))), (a0_7_10, .inl (ka0_7_10, 9, .inl (fa0_7_10))), (a0_7_11, .inl (ka0_7_11, 9, .inl (fa0_7_11))), (a0_7_14, .inr (6, [.int a0_7_14_0, .int a0_7_14_1, .ref a0_7_14_2, .ref a0_7_14_3])), (a0_7_14_3, .inl (ka0_7_14_3, 3, .inl (fa0_7_14_3))), (a0_7_14_2, .inl (ka0_7_14_2, 3, .inl (fa0_7_14_2)))] [(ka0_1_5, .int), (ka0_2_5, .int), (ka0_1_6, .int), (ka0_2_6, .int), (ka0_7_10, .int), (ka0_7_11, .int), (ka0_7_14_3, .int), (ka0_7_14_2, .int)] (fun U => va_Nw (.methodLinkNest RX0 118 yX7_within RX7) U ∧ va_Nw (.methodLinkNest RX5 38 yX7_hasBit RX7) U ∧ va_Nw (.methodLinkNest RX0 129 yX7_hasBit RX7) U))) (va_Qi (fun (r : Int32) (_ : Unit) => True) (fun (_ : Unit) (t : State) => ∃ na0_8 : Int32, ∃ na0_2_0 : Int32, ∃ na0_2_1 : Int32, ∃ na0_2_2 : Int32, ∃ na0_2_3 : Int32, ∃ na0_2_4 : Int32, ∃ nfa0_2_5 : Nat → Int32, ∃ nfa0_2_6 : Nat → Int32, ((0 : Int) ≤ na0_2_1.toInt ∧ na0_2_1.toInt ≤ 8) ∧ ax_B dC dI (va_A [(a0, .inr (7, [a0g_0, .ref a0_1, .ref a0_2, a0g_3, a0g_4, a0g_5, a0g_6, .ref a0_7, .int a0_8, a0g_9, a0g_10])), (a0_7, .inr (0, [.int a0_7_0, .int a0_7_1, .int a0_7_2, a0_7g_3, a0_7g_4, .int a0_7_5, .int a0_7_6, a0_7g_7, a0_7g_8, a0_7g_9, .ref a0_7_10, .ref a0_7_11, a0_7g_12, a0_7g_13, .ref a0_7_14])), (a0_2, .inr (5, [.int a0_2_0, .int a0_2_1, .int a0_2_2, .int a0_2_3, .int a0_2_4, .ref a0_2_5, .ref a0_2_6])), (a0_1, .inr (5, [.int a0_1_0, .int a0_1_1, .int a0_1_2, .int a0_1_3, .int a0_1_4, .ref a0_1_5, .ref a0_1_6])), (a0_1_5, .inl (ka0_1_5, 9, .inl (fa0_1_5))), (a0_2_5, .inl (ka0_2_5, 9, .inl (fa0_2_5))), (a0_1_6, .inl (ka0_1_6, 9, .inl (fa0_1_6))), (a0_2_6, .inl (ka0_2_6, 9, .inl (fa0_2_6))), (a0_7_10, .inl (ka0_7_10, 9, .inl (fa0_7_10))), (a0_7_11, .inl (ka0_7_11, 9, .inl (fa0_7_11))), (a0_7_14, .inr (6, [.int a0_7_14_0, .int a0_7_14_1, .ref a0_7_14_2, .ref a0_7_14_3])), (a0_7_14_3, .inl (ka0_7_14_3, 3, .inl (fa0_7_14_3))), (a0_7_14_2, .inl (ka0_7_14_2, 3, .inl (fa0_7_14_2)))] sz) [(a0, .inr (7, [a0g_0, .ref a0_1, .ref a0_2, a0g_3, a0g_4, a0g_5, a0g_6, .ref a0_7, .int na0_8, a0g_9, a0g_10])), (a0_7, .inr (0, [.int a0_7_0, .int a0_7_1, .int a0_7_2, a0_7g_3, a0_7g_4, .int a0_7_5, .int a0_7_6, a0_7g_7, a0_7g_8, a0_7g_9, .ref a0_7_10, .ref a0_7_11, a0_7g_12, a0_7g_13, .ref a0_7_14])), (a0_2, .inr (5, [.int na0_2_0, .int na0_2_1, .int na0_2_2, .int na0_2_3, .int na0_2_4, .ref a0_2_5, .ref a0_2_6])), (a0_1, .inr (5, [.int a0_1_0, .int a0_1_1, .int a0_1_2, .int a0_1_3, .int a0_1_4, .ref a0_1_5, .ref a0_1_6])), (a0_1_5, .inl (ka0_1_5, 9, .inl (fa0_1_5))), (a0_2_5, .inl (ka0_2_5, 9, .inl (nfa0_2_5))), (a0_1_6, .inl (ka0_1_6, 9, .inl (fa0_1_6))), (a0_2_6, .inl (ka0_2_6, 9, .inl (nfa0_2_6))), (a0_7_10, .inl (ka0_7_10, 9, .inl (fa0_7_10))), (a0_7_11, .inl (ka0_7_11, 9, .inl (fa0_7_11))), (a0_7_14, .inr (6, [.int a0_7_14_0, .int a0_7_14_1, .ref a0_7_14_2, .ref a0_7_14_3])), (a0_7_14_3, .inl (ka0_7_14_3, 3, .inl (fa0_7_14_3))), (a0_7_14_2, .inl (ka0_7_14_2, 3, .inl (fa0_7_14_2)))] [(ka0_1_5, .int), (ka0_2_5, .int), (ka0_1_6, .int), (ka0_2_6, .int), (ka0_7_10, .int), (ka0_7_11, .int), (ka0_7_14_3, .int), (ka0_7_14_2, .int)] t) (va_A [(a0, .inr (7, [a0g_0, .ref a0_1, .ref a0_2, a0g_3, a0g_4, a0g_5, a0g_6, .ref a0_7, .int a0_8, a0g_9, a0g_10])), (a0_7, .inr (0, [.int a0_7_0, .int a0_7_1, .int a0_7_2, a0_7g_3, a0_7g_4, .int a0_7_5, .int a0_7_6, a0_7g_7, a0_7g_8, a0_7g_9, .ref a0_7_10, .ref a0_7_11, a0_7g_12, a0_7g_13, .ref a0_7_14])), (a0_2, .inr (5, [.int a0_2_0, .int a0_2_1, .int a0_2_2, .int a0_2_3, .int a0_2_4, .ref a0_2_5, .ref a0_2_6])), (a0_1, .inr (5, [.int a0_1_0, .int a0_1_1, .int a0_1_2, .int a0_1_3, .int a0_1_4, .ref a0_1_5, .ref a0_1_6])), (a0_1_5, .inl (ka0_1_5, 9, .inl (fa0_1_5))), (a0_2_5, .inl (ka0_2_5, 9, .inl (fa0_2_5))), (a0_1_6, .inl (ka0_1_6, 9, .inl (fa0_1_6))), (a0_2_6, .inl (ka0_2_6, 9, .inl (fa0_2_6))), (a0_7_10, .inl (ka0_7_10, 9, .inl (fa0_7_10))), (a0_7_11, .inl (ka0_7_11, 9, .inl (fa0_7_11))), (a0_7_14, .inr (6, [.int a0_7_14_0, .int a0_7_14_1, .ref a0_7_14_2, .ref a0_7_14_3])), (a0_7_14_3, .inl (ka0_7_14_3, 3, .inl (fa0_7_14_3))), (a0_7_14_2, .inl (ka0_7_14_2, 3, .inl (fa0_7_14_2)))] sz)) 0 0 (va_A [(a0, .inr (7, [a0g_0, .ref a0_1, .ref a0_2, a0g_3, a0g_4, a0g_5, a0g_6, .ref a0_7, .int a0_8, a0g_9, a0g_10])), (a0_7, .inr (0, [.int a0_7_0, .int a0_7_1, .int a0_7_2, a0_7g_3, a0_7g_4, .int a0_7_5, .int a0_7_6, a0_7g_7, a0_7g_8, a0_7g_9, .ref a0_7_10, .ref a0_7_11, a0_7g_12, a0_7g_13, .ref a0_7_14])), (a0_2, .inr (5, [.int a0_2_0, .int a0_2_1, .int a0_2_2, .int a0_2_3, .int a0_2_4, .ref a0_2_5, .ref a0_2_6])), (a0_1, .inr (5, [.int a0_1_0, .int a0_1_1, .int a0_1_2, .int a0_1_3, .int a0_1_4, .ref a0_1_5, .ref a0_1_6])), (a0_1_5, .inl (ka0_1_5, 9, .inl (fa0_1_5))), (a0_2_5, .inl (ka0_2_5, 9, .inl (fa0_2_5))), (a0_1_6, .inl (ka0_1_6, 9, .inl (fa0_1_6))), (a0_2_6, .inl (ka0_2_6, 9, .inl (fa0_2_6))), (a0_7_10, .inl (ka0_7_10, 9, .inl (fa0_7_10))), (a0_7_11, .inl (ka0_7_11, 9, .inl (fa0_7_11))), (a0_7_14, .inr (6, [.int a0_7_14_0, .int a0_7_14_1, .ref a0_7_14_2, .ref a0_7_14_3])), (a0_7_14_3, .inl (ka0_7_14_3, 3, .inl (fa0_7_14_3))), (a0_7_14_2, .inl (ka0_7_14_2, 3, .inl (fa0_7_14_2)))] sz) := by
  refine Met.ofW (cc := cX7_gone) (maxL := 3) (ret := (some .int)) (by decide) rfl ?_
  intro p e s m args below meth c s₁ B hml hv
  obtain ⟨rfl, hsz, hP, hK, hD0, hE⟩ := hv
  have hx := B.exec
  have hb := B.bytes
  have hr := B.returns
  have hts := atoms_spec (ws := wsX7_gone) B.pre
  have hown : s.vm.findClass RX7 = some m.cls := findClass_of_methodNamed B.named
  have hlocks := B.notSynchronized
  subst hsz
  have hD := hD0.self (sz := s.heap.size)
  generalize hAe : va_A [(a0, .inr (7, [a0g_0, .ref a0_1, .ref a0_2, a0g_3, a0g_4, a0g_5, a0g_6, .ref a0_7, .int a0_8, a0g_9, a0g_10])), (a0_7, .inr (0, [.int a0_7_0, .int a0_7_1, .int a0_7_2, a0_7g_3, a0_7g_4, .int a0_7_5, .int a0_7_6, a0_7g_7, a0_7g_8, a0_7g_9, .ref a0_7_10, .ref a0_7_11, a0_7g_12, a0_7g_13, .ref a0_7_14])), (a0_2, .inr (5, [.int a0_2_0, .int a0_2_1, .int a0_2_2, .int a0_2_3, .int a0_2_4, .ref a0_2_5, .ref a0_2_6])), (a0_1, .inr (5, [.int a0_1_0, .int a0_1_1, .int a0_1_2, .int a0_1_3, .int a0_1_4, .ref a0_1_5, .ref a0_1_6])), (a0_1_5, .inl (ka0_1_5, 9, .inl (fa0_1_5))), (a0_2_5, .inl (ka0_2_5, 9, .inl (fa0_2_5))), (a0_1_6, .inl (ka0_1_6, 9, .inl (fa0_1_6))), (a0_2_6, .inl (ka0_2_6, 9, .inl (fa0_2_6))), (a0_7_10, .inl (ka0_7_10, 9, .inl (fa0_7_10))), (a0_7_11, .inl (ka0_7_11, 9, .inl (fa0_7_11))), (a0_7_14, .inr (6, [.int a0_7_14_0, .int a0_7_14_1, .ref a0_7_14_2, .ref a0_7_14_3])), (a0_7_14_3, .inl (ka0_7_14_3, 3, .inl (fa0_7_14_3))), (a0_7_14_2, .inl (ka0_7_14_2, 3, .inl (fa0_7_14_2)))] s.heap.size = A at hD ⊢
  have hA : ∀ q : Nat, s.heap.size ≤ q → A q := fun q h => by rw [← hAe]; exact Or.inr h
  have hS : va_S A s.heap s.heap [] := va_S.rf
  have hP : va_P (dC, dI) vwCl [(a0, .inr (7, [a0g_0, .ref a0_1, .ref a0_2, a0g_3, a0g_4, a0g_5, a0g_6, .ref a0_7, .int a0_8, a0g_9, a0g_10])), (a0_7, .inr (0, [.int a0_7_0, .int a0_7_1, .int a0_7_2, a0_7g_3, a0_7g_4, .int a0_7_5, .int a0_7_6, a0_7g_7, a0_7g_8, a0_7g_9, .ref a0_7_10, .ref a0_7_11, a0_7g_12, a0_7g_13, .ref a0_7_14])), (a0_2, .inr (5, [.int a0_2_0, .int a0_2_1, .int a0_2_2, .int a0_2_3, .int a0_2_4, .ref a0_2_5, .ref a0_2_6])), (a0_1, .inr (5, [.int a0_1_0, .int a0_1_1, .int a0_1_2, .int a0_1_3, .int a0_1_4, .ref a0_1_5, .ref a0_1_6])), (a0_1_5, .inl (ka0_1_5, 9, .inl (fa0_1_5))), (a0_2_5, .inl (ka0_2_5, 9, .inl (fa0_2_5))), (a0_1_6, .inl (ka0_1_6, 9, .inl (fa0_1_6))), (a0_2_6, .inl (ka0_2_6, 9, .inl (fa0_2_6))), (a0_7_10, .inl (ka0_7_10, 9, .inl (fa0_7_10))), (a0_7_11, .inl (ka0_7_11, 9, .inl (fa0_7_11))), (a0_7_14, .inr (6, [.int a0_7_14_0, .int a0_7_14_1, .ref a0_7_14_2, .ref a0_7_14_3])), (a0_7_14_3, .inl (ka0_7_14_3, 3, .inl (fa0_7_14_3))), (a0_7_14_2, .inl (ka0_7_14_2, 3, .inl (fa0_7_14_2)))] s.heap := hP
  obtain ⟨hE0, hE1, hE2⟩ := hE
  have hl := lv_entry ([.ref a0, .int a1]) (n := 3) (Nat.le_of_ble_eq_true rfl)
  rw [lg_entry_eq]
  generalize (lg_sl ([.ref a0, .int a1]) ++ List.replicate (3 - (lg_sl ([.ref a0, .int a1])).length) Slot.unset).toArray = ls at hl ⊢
  have hl : lv_has ls 3 [(0, .ref a0), (1, .int a1)] := hl
  refine lv_aload_n hx hb dX7_gone_0 rfl (lv_at hl 0 rfl) ?_
  refine lv_iload_n hx hb dX7_gone_1 rfl (lv_at hl 1 rfl) ?_
  refine lv_iconst (v := 0) hx hb dX7_gone_2 zk_iconst_0 ?_
  refine lv_sipush (v := 300) hx hb dX7_gone_3 zk_sipush_300 ?_
  obtain ⟨hPc, hDc, hFc, hCc⟩ := zc_cut (wc := [(a0, .inr (7, [a0g_0, .ref a0_1, .ref a0_2, a0g_3, a0g_4, a0g_5, a0g_6, .ref a0_7, .int a0_8, a0g_9, a0g_10])), (a0_7, .inr (0, [.int a0_7_0, .int a0_7_1, .int a0_7_2, a0_7g_3, a0_7g_4, .int a0_7_5, .int a0_7_6, a0_7g_7, a0_7g_8, a0_7g_9, .ref a0_7_10, .ref a0_7_11, a0_7g_12, a0_7g_13, .ref a0_7_14]))]) hP hD hS hA [0, 1] (by decide +kernel) rfl
  have hKc := hK.sub (tys' := []) [] rfl
  refine va_calli (va_runV (As := [.int a1, .int 0, .int 300]) (rest := []) ⟨hx, hb, hml, hown, hts⟩ (c_X7_troubleOfNumber l dC dI s.heap.size a0 a1 0 300 a0g_0 (.ref a0_1) (.ref a0_2) a0g_3 a0g_4 a0g_5 a0g_6 (.int a0_8) a0g_9 a0g_10 a0_7 a0_7_0 (.int a0_7_1) (.int a0_7_2) a0_7g_3 a0_7g_4 (.int a0_7_5) (.int a0_7_6) a0_7g_7 a0_7g_8 a0_7g_9 (.ref a0_7_10) (.ref a0_7_11) a0_7g_12 a0_7g_13 (.ref a0_7_14) ba0_7_0_l ba0_7_0_u) (cwV 3 hts gX7_gone_X7_troubleOfNumber rfl rfl rfl zd_X7_troubleOfNumber ⟨Nat.le_of_ble_eq_true rfl, Nat.le_of_ble_eq_true rfl⟩) ⟨ax_blind (fun _ _ _ _ _ => trivial), zr_7 hKc hPc (q0 := 0) rfl, ax_pre hPc hKc hDc (fun _ _ => trivial)⟩ rfl rfl hl.1 rfl (lv_room (Nat.le_of_ble_eq_true rfl)) dX7_gone_6 ⟨Nat.le_of_ble_eq_true rfl, Nat.le_of_ble_eq_true rfl⟩) hS (fun q _ h => hFc q h) hFc (fun r6 u t H locs ht hvm hw hB hz1 hk1 hS => ?_)
  obtain ⟨hP1, hK1, hD1⟩ := hB
  rw [ht] at hP1
  obtain ⟨hP, hD⟩ := zc_back (w := [(a0, .inr (7, [a0g_0, .ref a0_1, .ref a0_2, a0g_3, a0g_4, a0g_5, a0g_6, .ref a0_7, .int a0_8, a0g_9, a0g_10])), (a0_7, .inr (0, [.int a0_7_0, .int a0_7_1, .int a0_7_2, a0_7g_3, a0_7g_4, .int a0_7_5, .int a0_7_6, a0_7g_7, a0_7g_8, a0_7g_9, .ref a0_7_10, .ref a0_7_11, a0_7g_12, a0_7g_13, .ref a0_7_14])), (a0_2, .inr (5, [.int a0_2_0, .int a0_2_1, .int a0_2_2, .int a0_2_3, .int a0_2_4, .ref a0_2_5, .ref a0_2_6])), (a0_1, .inr (5, [.int a0_1_0, .int a0_1_1, .int a0_1_2, .int a0_1_3, .int a0_1_4, .ref a0_1_5, .ref a0_1_6])), (a0_1_5, .inl (ka0_1_5, 9, .inl (fa0_1_5))), (a0_2_5, .inl (ka0_2_5, 9, .inl (fa0_2_5))), (a0_1_6, .inl (ka0_1_6, 9, .inl (fa0_1_6))), (a0_2_6, .inl (ka0_2_6, 9, .inl (fa0_2_6))), (a0_7_10, .inl (ka0_7_10, 9, .inl (fa0_7_10))), (a0_7_11, .inl (ka0_7_11, 9, .inl (fa0_7_11))), (a0_7_14, .inr (6, [.int a0_7_14_0, .int a0_7_14_1, .ref a0_7_14_2, .ref a0_7_14_3])), (a0_7_14_3, .inl (ka0_7_14_3, 3, .inl (fa0_7_14_3))), (a0_7_14_2, .inl (ka0_7_14_2, 3, .inl (fa0_7_14_2)))]) hP hD hCc hk1 hFc hP1 hD1 [.inr 0, .inr 1, .inl 2, .inl 3, .inl 4, .inl 5, .inl 6, .inl 7, .inl 8, .inl 9, .inl 10, .inl 11, .inl 12] (by decide +kernel) rfl
  rcases hw with hw | hw | hw
  · obtain ⟨hw, fh6, h6⟩ := hw
    subst hw
    have l6k0_a0_7_0 : (1 : Int) ≤ a0_7_0.toInt := fh6
    have l6k0_a1 : (0 : Int) ≤ a1.toInt := Int.le_trans zq5 h6.1
    have u6k0_a1 : a1.toInt ≤ (300 : Int) := Int.le_trans h6.2 zq82
    refine lv_istore_n (lv' := [(2, .int 0), (0, .ref a0), (1, .int a1)]) hx hb dX7_gone_9 rfl hl (by decide) rfl (fun ls hl => ?_)
    refine lv_iload_n hx hb dX7_gone_10 rfl (lv_at hl 0 rfl) ?_
    refine lv_if_eq (tgt := 20) hx hb dX7_gone_11 (by decide) (fun _ => ?_) (fun c11 => absurd (by decide +kernel) c11)
    refine lv_aload_n hx hb dX7_gone_20 rfl (lv_at hl 1 rfl) ?_
    refine lv_iload_n hx hb dX7_gone_21 rfl (lv_at hl 2 rfl) ?_
    obtain ⟨hPc, hDc, hFc, hCc⟩ := zc_cut (wc := [(a0, .inr (7, [a0g_0, .ref a0_1, .ref a0_2, a0g_3, a0g_4, a0g_5, a0g_6, .ref a0_7, .int a0_8, a0g_9, a0g_10])), (a0_2, .inr (5, [.int a0_2_0, .int a0_2_1, .int a0_2_2, .int a0_2_3, .int a0_2_4, .ref a0_2_5, .ref a0_2_6])), (a0_1, .inr (5, [.int a0_1_0, .int a0_1_1, .int a0_1_2, .int a0_1_3, .int a0_1_4, .ref a0_1_5, .ref a0_1_6])), (a0_1_5, .inl (ka0_1_5, 9, .inl (fa0_1_5))), (a0_2_5, .inl (ka0_2_5, 9, .inl (fa0_2_5))), (a0_1_6, .inl (ka0_1_6, 9, .inl (fa0_1_6))), (a0_2_6, .inl (ka0_2_6, 9, .inl (fa0_2_6))), (a0_7, .inr (0, [.int a0_7_0, .int a0_7_1, .int a0_7_2, a0_7g_3, a0_7g_4, .int a0_7_5, .int a0_7_6, a0_7g_7, a0_7g_8, a0_7g_9, .ref a0_7_10, .ref a0_7_11, a0_7g_12, a0_7g_13, .ref a0_7_14])), (a0_7_10, .inl (ka0_7_10, 9, .inl (fa0_7_10))), (a0_7_11, .inl (ka0_7_11, 9, .inl (fa0_7_11))), (a0_7_14, .inr (6, [.int a0_7_14_0, .int a0_7_14_1, .ref a0_7_14_2, .ref a0_7_14_3])), (a0_7_14_3, .inl (ka0_7_14_3, 3, .inl (fa0_7_14_3))), (a0_7_14_2, .inl (ka0_7_14_2, 3, .inl (fa0_7_14_2)))]) hP hD hS hA [0, 2, 3, 4, 5, 6, 7, 1, 8, 9, 10, 11, 12] (by decide +kernel) rfl
    have hKc := hK.sub (tys' := [(ka0_1_5, .int), (ka0_2_5, .int), (ka0_1_6, .int), (ka0_2_6, .int), (ka0_7_10, .int), (ka0_7_11, .int), (ka0_7_14_3, .int), (ka0_7_14_2, .int)]) [0, 1, 2, 3, 4, 5, 6, 7] rfl
    refine va_callv (va_runV (As := [.int a1]) (rest := []) ⟨hx, hb, hml, hown, hts⟩ (c_X7_runAhead l dC dI H.size a0 a1 a0g_0 a0g_3 a0g_4 a0g_5 a0g_6 (.int a0_8) a0g_9 a0g_10 a0_1 a0_2 a0_7 a0_2_0 a0_2_1 a0_2_2 a0_2_3 a0_2_4 a0_2_5 a0_2_6 a0_1_0 a0_1_1 a0_1_2 a0_1_3 a0_1_4 a0_1_5 a0_1_6 ka0_1_5 fa0_1_5 ka0_2_5 fa0_2_5 ka0_1_6 fa0_1_6 ka0_2_6 fa0_2_6 a0_7_0 a0_7_1 a0_7_2 a0_7g_3 a0_7g_4 a0_7g_7 a0_7g_8 a0_7g_9 a0_7g_12 a0_7g_13 a0_7_5 a0_7_6 a0_7_10 a0_7_11 a0_7_14 ka0_7_10 fa0_7_10 ka0_7_11 fa0_7_11 a0_7_14_0 a0_7_14_1 a0_7_14_2 a0_7_14_3 ka0_7_14_3 fa0_7_14_3 ka0_7_14_2 fa0_7_14_2 ba0_2_1_l ba0_2_1_u ba0_1_1_l ba0_1_1_u (Int.le_trans zq4 l6k0_a0_7_0) ba0_7_0_u ba0_7_5_l ba0_7_5_u ba0_7_6_l ba0_7_6_u ba0_7_14_0_l ba0_7_14_0_u bfa0_7_14_3 bfa0_7_14_2) (cwV 1 hts gX7_gone_X7_runAhead rfl rfl rfl zd_X7_runAhead ⟨Nat.le_of_ble_eq_true rfl, Nat.le_of_ble_eq_true rfl⟩) ⟨ax_blind (fun _ _ _ _ hq => ⟨va_Nw.same rfl rfl (hq.1), va_Nw.same rfl rfl (hq.2.1), va_Nw.same rfl rfl (hq.2.2)⟩), zr_7 hKc hPc (q0 := 0) rfl, ax_pre hPc hKc hDc (fun _ hW => ⟨va_Nw.warmM hW hE0, va_Nw.warmM hW hE1, va_Nw.warmM hW hE2⟩)⟩ rfl rfl hl.1 rfl (lv_room (Nat.le_of_ble_eq_true rfl)) dX7_gone_22 ⟨Nat.le_of_ble_eq_true rfl, Nat.le_of_ble_eq_true rfl⟩) hS (fun q _ h => hFc q h) hFc (fun u t H locs ht hvm hw hB hz1 hk1 hS => ?_)
    obtain ⟨v22na0_2_0, v22na0_2_1, v22na0_2_2, v22na0_2_3, v22na0_2_4, v22nfa0_2_5, v22nfa0_2_6, bv22na0_2_1, hP1, hK1, hD1⟩ := hB
    rw [ht] at hP1
    obtain ⟨hP, hD⟩ := zc_back (w := [(a0, .inr (7, [a0g_0, .ref a0_1, .ref a0_2, a0g_3, a0g_4, a0g_5, a0g_6, .ref a0_7, .int a0_8, a0g_9, a0g_10])), (a0_7, .inr (0, [.int a0_7_0, .int a0_7_1, .int a0_7_2, a0_7g_3, a0_7g_4, .int a0_7_5, .int a0_7_6, a0_7g_7, a0_7g_8, a0_7g_9, .ref a0_7_10, .ref a0_7_11, a0_7g_12, a0_7g_13, .ref a0_7_14])), (a0_2, .inr (5, [.int v22na0_2_0, .int v22na0_2_1, .int v22na0_2_2, .int v22na0_2_3, .int v22na0_2_4, .ref a0_2_5, .ref a0_2_6])), (a0_1, .inr (5, [.int a0_1_0, .int a0_1_1, .int a0_1_2, .int a0_1_3, .int a0_1_4, .ref a0_1_5, .ref a0_1_6])), (a0_1_5, .inl (ka0_1_5, 9, .inl (fa0_1_5))), (a0_2_5, .inl (ka0_2_5, 9, .inl (v22nfa0_2_5))), (a0_1_6, .inl (ka0_1_6, 9, .inl (fa0_1_6))), (a0_2_6, .inl (ka0_2_6, 9, .inl (v22nfa0_2_6))), (a0_7_10, .inl (ka0_7_10, 9, .inl (fa0_7_10))), (a0_7_11, .inl (ka0_7_11, 9, .inl (fa0_7_11))), (a0_7_14, .inr (6, [.int a0_7_14_0, .int a0_7_14_1, .ref a0_7_14_2, .ref a0_7_14_3])), (a0_7_14_3, .inl (ka0_7_14_3, 3, .inl (fa0_7_14_3))), (a0_7_14_2, .inl (ka0_7_14_2, 3, .inl (fa0_7_14_2)))]) hP hD hCc hk1 hFc hP1 hD1 [.inr 0, .inr 7, .inr 1, .inr 2, .inr 3, .inr 4, .inr 5, .inr 6, .inr 8, .inr 9, .inr 10, .inr 11, .inr 12] (by decide +kernel) rfl
    refine lv_aload_n hx hb dX7_gone_25 rfl (lv_at hl 1 rfl) ?_
    refine lv_aload_n hx hb dX7_gone_26 rfl (lv_at hl 1 rfl) ?_
    refine va_get (D := (dC, dI)) (ci := 7) (v := .ref a0_2) (C := RX7) (T := TX7) (N := 11) hx hb hts zi_X7_gone_7 hown hK hP 0 rfl rfl 2 (by decide) (hts (.fieldLink RX7 23 "WaxTurns" "ahead" "LWaxTurns$Scene;") (zm_X7_gone_r1 (List.mem_of_getElem? (i := 0) rfl))) (fun _ h9 => h9) rfl dX7_gone_27 ?_
    refine va_get (D := (dC, dI)) (ci := 5) (v := .int v22na0_2_3) (C := RX5) (T := TX5) (N := 7) hx hb hts zi_X7_gone_5 hown hK hP 2 rfl rfl 3 (by decide) (hts (.fieldLink RX7 191 "WaxTurns$Scene" "goneBits" "I") (zm_X7_gone_r1 (List.mem_of_getElem? (i := 1) rfl))) (fun _ h9 => h9) rfl dX7_gone_30 ?_
    obtain ⟨hPc, hDc, hFc, hCc⟩ := zc_cut (wc := [(a0, .inr (7, [a0g_0, .ref a0_1, .ref a0_2, a0g_3, a0g_4, a0g_5, a0g_6, .ref a0_7, .int a0_8, a0g_9, a0g_10]))]) hP hD hS hA [0] (by decide +kernel) rfl
    have hKc := hK.sub (tys' := []) [] rfl
    refine va_calli (va_runV (As := [.int v22na0_2_3]) (rest := []) ⟨hx, hb, hml, hown, hts⟩ (c_X7_answered l dC dI H.size a0 v22na0_2_3 a0g_0 (.ref a0_1) (.ref a0_2) a0g_3 a0g_4 a0g_5 a0g_6 (.ref a0_7) a0g_9 a0g_10 a0_8 ) (cwV 1 hts gX7_gone_X7_answered rfl rfl rfl zd_X7_answered ⟨Nat.le_of_ble_eq_true rfl, Nat.le_of_ble_eq_true rfl⟩) ⟨ax_blind (fun _ _ _ _ _ => trivial), zr_7 hKc hPc (q0 := 0) rfl, ax_pre hPc hKc hDc (fun _ _ => trivial)⟩ rfl rfl hl.1 rfl (lv_room (Nat.le_of_ble_eq_true rfl)) dX7_gone_33 ⟨Nat.le_of_ble_eq_true rfl, Nat.le_of_ble_eq_true rfl⟩) hS (fun q _ h => hFc q h) hFc (fun r33 u t H locs ht hvm hw hB hz1 hk1 hS => ?_)
    obtain ⟨v33na0_8, hP1, hK1, hD1⟩ := hB
    rw [ht] at hP1
    obtain ⟨hP, hD⟩ := zc_back (w := [(a0, .inr (7, [a0g_0, .ref a0_1, .ref a0_2, a0g_3, a0g_4, a0g_5, a0g_6, .ref a0_7, .int v33na0_8, a0g_9, a0g_10])), (a0_7, .inr (0, [.int a0_7_0, .int a0_7_1, .int a0_7_2, a0_7g_3, a0_7g_4, .int a0_7_5, .int a0_7_6, a0_7g_7, a0_7g_8, a0_7g_9, .ref a0_7_10, .ref a0_7_11, a0_7g_12, a0_7g_13, .ref a0_7_14])), (a0_2, .inr (5, [.int v22na0_2_0, .int v22na0_2_1, .int v22na0_2_2, .int v22na0_2_3, .int v22na0_2_4, .ref a0_2_5, .ref a0_2_6])), (a0_1, .inr (5, [.int a0_1_0, .int a0_1_1, .int a0_1_2, .int a0_1_3, .int a0_1_4, .ref a0_1_5, .ref a0_1_6])), (a0_1_5, .inl (ka0_1_5, 9, .inl (fa0_1_5))), (a0_2_5, .inl (ka0_2_5, 9, .inl (v22nfa0_2_5))), (a0_1_6, .inl (ka0_1_6, 9, .inl (fa0_1_6))), (a0_2_6, .inl (ka0_2_6, 9, .inl (v22nfa0_2_6))), (a0_7_10, .inl (ka0_7_10, 9, .inl (fa0_7_10))), (a0_7_11, .inl (ka0_7_11, 9, .inl (fa0_7_11))), (a0_7_14, .inr (6, [.int a0_7_14_0, .int a0_7_14_1, .ref a0_7_14_2, .ref a0_7_14_3])), (a0_7_14_3, .inl (ka0_7_14_3, 3, .inl (fa0_7_14_3))), (a0_7_14_2, .inl (ka0_7_14_2, 3, .inl (fa0_7_14_2)))]) hP hD hCc hk1 hFc hP1 hD1 [.inr 0, .inl 1, .inl 2, .inl 3, .inl 4, .inl 5, .inl 6, .inl 7, .inl 8, .inl 9, .inl 10, .inl 11, .inl 12] (by decide +kernel) rfl
    have hw : r33 = v22na0_2_3 := hw
    have hw := hw.symm
    subst hw
    exact W.iret (v := v22na0_2_3) hx hb hr (fun t ht hW => ⟨⟨v22na0_2_3, (), rfl, trivial, v33na0_8, v22na0_2_0, v22na0_2_1, v22na0_2_2, v22na0_2_3, v22na0_2_4, v22nfa0_2_5, v22nfa0_2_6, ⟨bv22na0_2_1.1, bv22na0_2_1.2⟩, by rw [ht]; exact hP, va_K.moved hW.alike hK, hD⟩, hS.F ht⟩) hS.2.2 dX7_gone_36
  · subst hw
    refine lv_istore_n (lv' := [(2, .int 1), (0, .ref a0), (1, .int a1)]) hx hb dX7_gone_9 rfl hl (by decide) rfl (fun ls hl => ?_)
    refine lv_iload_n hx hb dX7_gone_10 rfl (lv_at hl 0 rfl) ?_
    refine lv_if_eq (tgt := 20) hx hb dX7_gone_11 (by decide) (fun c11 => absurd c11 (by decide +kernel)) (fun _ => ?_)
    refine lv_aload_n hx hb dX7_gone_14 rfl (lv_at hl 1 rfl) ?_
    refine lv_iload_n hx hb dX7_gone_15 rfl (lv_at hl 0 rfl) ?_
    obtain ⟨hPc, hDc, hFc, hCc⟩ := zc_cut (wc := [(a0, .inr (7, [a0g_0, .ref a0_1, .ref a0_2, a0g_3, a0g_4, a0g_5, a0g_6, .ref a0_7, .int a0_8, a0g_9, a0g_10]))]) hP hD hS hA [0] (by decide +kernel) rfl
    have hKc := hK.sub (tys' := []) [] rfl
    refine va_calli (va_runV (As := [.int 1]) (rest := []) ⟨hx, hb, hml, hown, hts⟩ (c_X7_refused l dC dI H.size a0 1 a0g_0 (.ref a0_1) (.ref a0_2) a0g_3 a0g_4 a0g_5 a0g_6 (.ref a0_7) a0g_9 a0g_10 a0_8 ) (cwV 1 hts gX7_gone_X7_refused rfl rfl rfl zd_X7_refused ⟨Nat.le_of_ble_eq_true rfl, Nat.le_of_ble_eq_true rfl⟩) ⟨ax_blind (fun _ _ _ _ _ => trivial), zr_7 hKc hPc (q0 := 0) rfl, ax_pre hPc hKc hDc (fun _ _ => trivial)⟩ rfl rfl hl.1 rfl (lv_room (Nat.le_of_ble_eq_true rfl)) dX7_gone_16 ⟨Nat.le_of_ble_eq_true rfl, Nat.le_of_ble_eq_true rfl⟩) hS (fun q _ h => hFc q h) hFc (fun r16 u t H locs ht hvm hw hB hz1 hk1 hS => ?_)
    obtain ⟨v16na0_8, hP1, hK1, hD1⟩ := hB
    rw [ht] at hP1
    obtain ⟨hP, hD⟩ := zc_back (w := [(a0, .inr (7, [a0g_0, .ref a0_1, .ref a0_2, a0g_3, a0g_4, a0g_5, a0g_6, .ref a0_7, .int v16na0_8, a0g_9, a0g_10])), (a0_7, .inr (0, [.int a0_7_0, .int a0_7_1, .int a0_7_2, a0_7g_3, a0_7g_4, .int a0_7_5, .int a0_7_6, a0_7g_7, a0_7g_8, a0_7g_9, .ref a0_7_10, .ref a0_7_11, a0_7g_12, a0_7g_13, .ref a0_7_14])), (a0_2, .inr (5, [.int a0_2_0, .int a0_2_1, .int a0_2_2, .int a0_2_3, .int a0_2_4, .ref a0_2_5, .ref a0_2_6])), (a0_1, .inr (5, [.int a0_1_0, .int a0_1_1, .int a0_1_2, .int a0_1_3, .int a0_1_4, .ref a0_1_5, .ref a0_1_6])), (a0_1_5, .inl (ka0_1_5, 9, .inl (fa0_1_5))), (a0_2_5, .inl (ka0_2_5, 9, .inl (fa0_2_5))), (a0_1_6, .inl (ka0_1_6, 9, .inl (fa0_1_6))), (a0_2_6, .inl (ka0_2_6, 9, .inl (fa0_2_6))), (a0_7_10, .inl (ka0_7_10, 9, .inl (fa0_7_10))), (a0_7_11, .inl (ka0_7_11, 9, .inl (fa0_7_11))), (a0_7_14, .inr (6, [.int a0_7_14_0, .int a0_7_14_1, .ref a0_7_14_2, .ref a0_7_14_3])), (a0_7_14_3, .inl (ka0_7_14_3, 3, .inl (fa0_7_14_3))), (a0_7_14_2, .inl (ka0_7_14_2, 3, .inl (fa0_7_14_2)))]) hP hD hCc hk1 hFc hP1 hD1 [.inr 0, .inl 1, .inl 2, .inl 3, .inl 4, .inl 5, .inl 6, .inl 7, .inl 8, .inl 9, .inl 10, .inl 11, .inl 12] (by decide +kernel) rfl
    have hw : r16 = (-1) := hw
    have hw := hw.symm
    subst hw
    exact W.iret (v := (-1)) hx hb hr (fun t ht hW => ⟨⟨(-1), (), rfl, trivial, v16na0_8, a0_2_0, a0_2_1, a0_2_2, a0_2_3, a0_2_4, fa0_2_5, fa0_2_6, ⟨ba0_2_1_l, ba0_2_1_u⟩, by rw [ht]; exact hP, va_K.moved hW.alike hK, hD⟩, hS.F ht⟩) hS.2.2 dX7_gone_19
  · subst hw
    refine lv_istore_n (lv' := [(2, .int 2), (0, .ref a0), (1, .int a1)]) hx hb dX7_gone_9 rfl hl (by decide) rfl (fun ls hl => ?_)
    refine lv_iload_n hx hb dX7_gone_10 rfl (lv_at hl 0 rfl) ?_
    refine lv_if_eq (tgt := 20) hx hb dX7_gone_11 (by decide) (fun c11 => absurd c11 (by decide +kernel)) (fun _ => ?_)
    refine lv_aload_n hx hb dX7_gone_14 rfl (lv_at hl 1 rfl) ?_
    refine lv_iload_n hx hb dX7_gone_15 rfl (lv_at hl 0 rfl) ?_
    obtain ⟨hPc, hDc, hFc, hCc⟩ := zc_cut (wc := [(a0, .inr (7, [a0g_0, .ref a0_1, .ref a0_2, a0g_3, a0g_4, a0g_5, a0g_6, .ref a0_7, .int a0_8, a0g_9, a0g_10]))]) hP hD hS hA [0] (by decide +kernel) rfl
    have hKc := hK.sub (tys' := []) [] rfl
    refine va_calli (va_runV (As := [.int 2]) (rest := []) ⟨hx, hb, hml, hown, hts⟩ (c_X7_refused l dC dI H.size a0 2 a0g_0 (.ref a0_1) (.ref a0_2) a0g_3 a0g_4 a0g_5 a0g_6 (.ref a0_7) a0g_9 a0g_10 a0_8 ) (cwV 1 hts gX7_gone_X7_refused rfl rfl rfl zd_X7_refused ⟨Nat.le_of_ble_eq_true rfl, Nat.le_of_ble_eq_true rfl⟩) ⟨ax_blind (fun _ _ _ _ _ => trivial), zr_7 hKc hPc (q0 := 0) rfl, ax_pre hPc hKc hDc (fun _ _ => trivial)⟩ rfl rfl hl.1 rfl (lv_room (Nat.le_of_ble_eq_true rfl)) dX7_gone_16 ⟨Nat.le_of_ble_eq_true rfl, Nat.le_of_ble_eq_true rfl⟩) hS (fun q _ h => hFc q h) hFc (fun r16 u t H locs ht hvm hw hB hz1 hk1 hS => ?_)
    obtain ⟨v16na0_8, hP1, hK1, hD1⟩ := hB
    rw [ht] at hP1
    obtain ⟨hP, hD⟩ := zc_back (w := [(a0, .inr (7, [a0g_0, .ref a0_1, .ref a0_2, a0g_3, a0g_4, a0g_5, a0g_6, .ref a0_7, .int v16na0_8, a0g_9, a0g_10])), (a0_7, .inr (0, [.int a0_7_0, .int a0_7_1, .int a0_7_2, a0_7g_3, a0_7g_4, .int a0_7_5, .int a0_7_6, a0_7g_7, a0_7g_8, a0_7g_9, .ref a0_7_10, .ref a0_7_11, a0_7g_12, a0_7g_13, .ref a0_7_14])), (a0_2, .inr (5, [.int a0_2_0, .int a0_2_1, .int a0_2_2, .int a0_2_3, .int a0_2_4, .ref a0_2_5, .ref a0_2_6])), (a0_1, .inr (5, [.int a0_1_0, .int a0_1_1, .int a0_1_2, .int a0_1_3, .int a0_1_4, .ref a0_1_5, .ref a0_1_6])), (a0_1_5, .inl (ka0_1_5, 9, .inl (fa0_1_5))), (a0_2_5, .inl (ka0_2_5, 9, .inl (fa0_2_5))), (a0_1_6, .inl (ka0_1_6, 9, .inl (fa0_1_6))), (a0_2_6, .inl (ka0_2_6, 9, .inl (fa0_2_6))), (a0_7_10, .inl (ka0_7_10, 9, .inl (fa0_7_10))), (a0_7_11, .inl (ka0_7_11, 9, .inl (fa0_7_11))), (a0_7_14, .inr (6, [.int a0_7_14_0, .int a0_7_14_1, .ref a0_7_14_2, .ref a0_7_14_3])), (a0_7_14_3, .inl (ka0_7_14_3, 3, .inl (fa0_7_14_3))), (a0_7_14_2, .inl (ka0_7_14_2, 3, .inl (fa0_7_14_2)))]) hP hD hCc hk1 hFc hP1 hD1 [.inr 0, .inl 1, .inl 2, .inl 3, .inl 4, .inl 5, .inl 6, .inl 7, .inl 8, .inl 9, .inl 10, .inl 11, .inl 12] (by decide +kernel) rfl
    have hw : r16 = (-1) := hw
    have hw := hw.symm
    subst hw
    exact W.iret (v := (-1)) hx hb hr (fun t ht hW => ⟨⟨(-1), (), rfl, trivial, v16na0_8, a0_2_0, a0_2_1, a0_2_2, a0_2_3, a0_2_4, fa0_2_5, fa0_2_6, ⟨ba0_2_1_l, ba0_2_1_u⟩, by rw [ht]; exact hP, va_K.moved hW.alike hK, hD⟩, hS.F ht⟩) hS.2.2 dX7_gone_19

set_option maxHeartbeats 4000000 in
set_option maxRecDepth 100000 in
theorem c_X7_stairs (l : Launch) (dC : Nat → ClassId) (dI : Nat → Nat → Nat) (sz : Nat) (a0 : Nat) (a0g_0 a0g_3 a0g_4 a0g_5 a0g_6 a0g_9 a0g_10 : Value) (a0_1 : Nat) (a0_2 : Nat) (a0_7 : Nat) (a0_8 : Int32) (a0_7_0 : Int32) (a0_7_1 : Int32) (a0_7_2 : Int32) (a0_7g_3 a0_7g_4 a0_7g_7 a0_7g_8 a0_7g_9 a0_7g_12 a0_7g_13 : Value) (a0_7_5 : Int32) (a0_7_6 : Int32) (a0_7_10 : Nat) (a0_7_11 : Nat) (a0_7_14 : Nat) (a0_2_0 : Int32) (a0_2_1 : Int32) (a0_2_2 : Int32) (a0_2_3 : Int32) (a0_2_4 : Int32) (a0_2_5 : Nat) (a0_2_6 : Nat) (a0_1_0 : Int32) (a0_1_1 : Int32) (a0_1_2 : Int32) (a0_1_3 : Int32) (a0_1_4 : Int32) (a0_1_5 : Nat) (a0_1_6 : Nat) (ka0_1_5 : ClassId) (fa0_1_5 : Nat → Int32) (ka0_2_5 : ClassId) (fa0_2_5 : Nat → Int32) (ka0_1_6 : ClassId) (fa0_1_6 : Nat → Int32) (ka0_2_6 : ClassId) (fa0_2_6 : Nat → Int32) (ka0_7_10 : ClassId) (fa0_7_10 : Nat → Int32) (ka0_7_11 : ClassId) (fa0_7_11 : Nat → Int32) (a0_7_14_0 : Int32) (a0_7_14_1 : Int32) (a0_7_14_2 : Nat) (a0_7_14_3 : Nat) (ka0_7_14_3 : ClassId) (fa0_7_14_3 : Nat → Int32) (ka0_7_14_2 : ClassId) (fa0_7_14_2 : Nat → Int32) (ba0_7_0_l : (0 : Int) ≤ a0_7_0.toInt) (ba0_7_0_u : a0_7_0.toInt ≤ (9 : Int)) (ba0_7_5_l : (0 : Int) ≤ a0_7_5.toInt) (ba0_7_5_u : a0_7_5.toInt ≤ (8 : Int)) (ba0_7_6_l : (0 : Int) ≤ a0_7_6.toInt) (ba0_7_6_u : a0_7_6.toInt ≤ (8 : Int)) (ba0_2_1_l : (0 : Int) ≤ a0_2_1.toInt) (ba0_2_1_u : a0_2_1.toInt ≤ (8 : Int)) (ba0_1_1_l : (0 : Int) ≤ a0_1_1.toInt) (ba0_1_1_u : a0_1_1.toInt ≤ (8 : Int)) (ba0_7_14_0_l : (0 : Int) ≤ a0_7_14_0.toInt) (ba0_7_14_0_u : a0_7_14_0.toInt ≤ (3 : Int)) (bfa0_7_14_3 : (∀ k, (0 : Int) ≤ (fa0_7_14_3 k).toInt ∧ (fa0_7_14_3 k).toInt ≤ 80)) (bfa0_7_14_2 : (∀ k, (0 : Int) ≤ (fa0_7_14_2 k).toInt ∧ (fa0_7_14_2 k).toInt ≤ 80)) : Met l yX7_stairs wsX7_stairs ({ frames := 5, cells := 0, slots := 0, locals := 122 }) (va_Pc [.ref a0] (ax_C dC dI sz [(a0, .inr (7, [a0g_0, .ref a0_1, .ref a0_2, a0g_3, a0g_4, a0g_5, a0g_6, .ref a0_7, .int a0_8, a0g_9, a0g_10])), (a0_7, .inr (0, [.int a0_7_0, .int a0_7_1, .int a0_7_2, a0_7g_3, a0_7g_4, .int a0_7_5, .int a0_7_6, a0_7g_7, a0_7g_8, a0_7g_9, .ref a0_7_10, .ref a0_7_11, a0_7g_12, a0_7g_13, .ref a0_7_14])), (a0_2, .inr (5, [.int a0_2_0, .int a0_2_1, .int a0_2_2, .int a0_2_3, .int a0_2_4, .ref a0_2_5, .ref a0_2_6])), (a0_1, .inr (5, [.int a0_1_0, .int a0_1_1, .int a0_1_2, .int a0_1_3, .int a0_1_4, .ref a0_1_5, .ref a0_1_6])), (a0_1_5, .inl (ka0_1_5, 9, .inl (fa0_1_5))), (a0_2_5, .inl (ka0_2_5, 9, .inl (fa0_2_5))), (a0_1_6, .inl (ka0_1_6, 9, .inl (fa0_1_6))), (a0_2_6, .inl (ka0_2_6, 9, .inl (fa0_2_6))), (a0_7_10, .inl (ka0_7_10, 9, .inl (fa0_7_10))), (a0_7_11, .inl (ka0_7_11, 9, .inl (fa0_7_11))), (a0_7_14, .inr (6, [.int a0_7_14_0, .int a0_7_14_1, .ref a0_7_14_2, .ref a0_7_14_3])), (a0_7_14_3, .inl (ka0_7_14_3, 3, .inl (fa0_7_14_3))), (a0_7_14_2, .inl (ka0_7_14_2, 3, .inl (fa0_7_14_2)))] [(ka0_1_5, .int), (ka0_2_5, .int), (ka0_1_6, .int), (ka0_2_6, .int), (ka0_7_10, .int), (ka0_7_11, .int), (ka0_7_14_3, .int), (ka0_7_14_2, .int)] (fun U => va_Nw (.methodLinkNest RX0 118 yX7_within RX7) U ∧ va_Nw (.methodLinkNest RX5 38 yX7_hasBit RX7) U ∧ va_Nw (.methodLinkNest RX0 129 yX7_hasBit RX7) U))) (va_Qi (fun (r : Int32) (_ : Unit) => (-2 : Int) ≤ r.toInt ∧ r.toInt ≤ (300 : Int)) (fun (_ : Unit) (t : State) => ∃ na0_8 : Int32, ∃ na0_2_0 : Int32, ∃ na0_2_1 : Int32, ∃ na0_2_2 : Int32, ∃ na0_2_3 : Int32, ∃ na0_2_4 : Int32, ∃ nfa0_2_5 : Nat → Int32, ∃ nfa0_2_6 : Nat → Int32, ((0 : Int) ≤ na0_2_1.toInt ∧ na0_2_1.toInt ≤ 8) ∧ ax_B dC dI (va_A [(a0, .inr (7, [a0g_0, .ref a0_1, .ref a0_2, a0g_3, a0g_4, a0g_5, a0g_6, .ref a0_7, .int a0_8, a0g_9, a0g_10])), (a0_7, .inr (0, [.int a0_7_0, .int a0_7_1, .int a0_7_2, a0_7g_3, a0_7g_4, .int a0_7_5, .int a0_7_6, a0_7g_7, a0_7g_8, a0_7g_9, .ref a0_7_10, .ref a0_7_11, a0_7g_12, a0_7g_13, .ref a0_7_14])), (a0_2, .inr (5, [.int a0_2_0, .int a0_2_1, .int a0_2_2, .int a0_2_3, .int a0_2_4, .ref a0_2_5, .ref a0_2_6])), (a0_1, .inr (5, [.int a0_1_0, .int a0_1_1, .int a0_1_2, .int a0_1_3, .int a0_1_4, .ref a0_1_5, .ref a0_1_6])), (a0_1_5, .inl (ka0_1_5, 9, .inl (fa0_1_5))), (a0_2_5, .inl (ka0_2_5, 9, .inl (fa0_2_5))), (a0_1_6, .inl (ka0_1_6, 9, .inl (fa0_1_6))), (a0_2_6, .inl (ka0_2_6, 9, .inl (fa0_2_6))), (a0_7_10, .inl (ka0_7_10, 9, .inl (fa0_7_10))), (a0_7_11, .inl (ka0_7_11, 9, .inl (fa0_7_11))), (a0_7_14, .inr (6, [.int a0_7_14_0, .int a0_7_14_1, .ref a0_7_14_2, .ref a0_7_14_3])), (a0_7_14_3, .inl (ka0_7_14_3, 3, .inl (fa0_7_14_3))), (a0_7_14_2, .inl (ka0_7_14_2, 3, .inl (fa0_7_14_2)))] sz) [(a0, .inr (7, [a0g_0, .ref a0_1, .ref a0_2, a0g_3, a0g_4, a0g_5, a0g_6, .ref a0_7, .int na0_8, a0g_9, a0g_10])), (a0_7, .inr (0, [.int a0_7_0, .int a0_7_1, .int a0_7_2, a0_7g_3, a0_7g_4, .int a0_7_5, .int a0_7_6, a0_7g_7, a0_7g_8, a0_7g_9, .ref a0_7_10, .ref a0_7_11, a0_7g_12, a0_7g_13, .ref a0_7_14])), (a0_2, .inr (5, [.int na0_2_0, .int na0_2_1, .int na0_2_2, .int na0_2_3, .int na0_2_4, .ref a0_2_5, .ref a0_2_6])), (a0_1, .inr (5, [.int a0_1_0, .int a0_1_1, .int a0_1_2, .int a0_1_3, .int a0_1_4, .ref a0_1_5, .ref a0_1_6])), (a0_1_5, .inl (ka0_1_5, 9, .inl (fa0_1_5))), (a0_2_5, .inl (ka0_2_5, 9, .inl (nfa0_2_5))), (a0_1_6, .inl (ka0_1_6, 9, .inl (fa0_1_6))), (a0_2_6, .inl (ka0_2_6, 9, .inl (nfa0_2_6))), (a0_7_10, .inl (ka0_7_10, 9, .inl (fa0_7_10))), (a0_7_11, .inl (ka0_7_11, 9, .inl (fa0_7_11))), (a0_7_14, .inr (6, [.int a0_7_14_0, .int a0_7_14_1, .ref a0_7_14_2, .ref a0_7_14_3])), (a0_7_14_3, .inl (ka0_7_14_3, 3, .inl (fa0_7_14_3))), (a0_7_14_2, .inl (ka0_7_14_2, 3, .inl (fa0_7_14_2)))] [(ka0_1_5, .int), (ka0_2_5, .int), (ka0_1_6, .int), (ka0_2_6, .int), (ka0_7_10, .int), (ka0_7_11, .int), (ka0_7_14_3, .int), (ka0_7_14_2, .int)] t) (va_A [(a0, .inr (7, [a0g_0, .ref a0_1, .ref a0_2, a0g_3, a0g_4, a0g_5, a0g_6, .ref a0_7, .int a0_8, a0g_9, a0g_10])), (a0_7, .inr (0, [.int a0_7_0, .int a0_7_1, .int a0_7_2, a0_7g_3, a0_7g_4, .int a0_7_5, .int a0_7_6, a0_7g_7, a0_7g_8, a0_7g_9, .ref a0_7_10, .ref a0_7_11, a0_7g_12, a0_7g_13, .ref a0_7_14])), (a0_2, .inr (5, [.int a0_2_0, .int a0_2_1, .int a0_2_2, .int a0_2_3, .int a0_2_4, .ref a0_2_5, .ref a0_2_6])), (a0_1, .inr (5, [.int a0_1_0, .int a0_1_1, .int a0_1_2, .int a0_1_3, .int a0_1_4, .ref a0_1_5, .ref a0_1_6])), (a0_1_5, .inl (ka0_1_5, 9, .inl (fa0_1_5))), (a0_2_5, .inl (ka0_2_5, 9, .inl (fa0_2_5))), (a0_1_6, .inl (ka0_1_6, 9, .inl (fa0_1_6))), (a0_2_6, .inl (ka0_2_6, 9, .inl (fa0_2_6))), (a0_7_10, .inl (ka0_7_10, 9, .inl (fa0_7_10))), (a0_7_11, .inl (ka0_7_11, 9, .inl (fa0_7_11))), (a0_7_14, .inr (6, [.int a0_7_14_0, .int a0_7_14_1, .ref a0_7_14_2, .ref a0_7_14_3])), (a0_7_14_3, .inl (ka0_7_14_3, 3, .inl (fa0_7_14_3))), (a0_7_14_2, .inl (ka0_7_14_2, 3, .inl (fa0_7_14_2)))] sz)) 0 0 (va_A [(a0, .inr (7, [a0g_0, .ref a0_1, .ref a0_2, a0g_3, a0g_4, a0g_5, a0g_6, .ref a0_7, .int a0_8, a0g_9, a0g_10])), (a0_7, .inr (0, [.int a0_7_0, .int a0_7_1, .int a0_7_2, a0_7g_3, a0_7g_4, .int a0_7_5, .int a0_7_6, a0_7g_7, a0_7g_8, a0_7g_9, .ref a0_7_10, .ref a0_7_11, a0_7g_12, a0_7g_13, .ref a0_7_14])), (a0_2, .inr (5, [.int a0_2_0, .int a0_2_1, .int a0_2_2, .int a0_2_3, .int a0_2_4, .ref a0_2_5, .ref a0_2_6])), (a0_1, .inr (5, [.int a0_1_0, .int a0_1_1, .int a0_1_2, .int a0_1_3, .int a0_1_4, .ref a0_1_5, .ref a0_1_6])), (a0_1_5, .inl (ka0_1_5, 9, .inl (fa0_1_5))), (a0_2_5, .inl (ka0_2_5, 9, .inl (fa0_2_5))), (a0_1_6, .inl (ka0_1_6, 9, .inl (fa0_1_6))), (a0_2_6, .inl (ka0_2_6, 9, .inl (fa0_2_6))), (a0_7_10, .inl (ka0_7_10, 9, .inl (fa0_7_10))), (a0_7_11, .inl (ka0_7_11, 9, .inl (fa0_7_11))), (a0_7_14, .inr (6, [.int a0_7_14_0, .int a0_7_14_1, .ref a0_7_14_2, .ref a0_7_14_3])), (a0_7_14_3, .inl (ka0_7_14_3, 3, .inl (fa0_7_14_3))), (a0_7_14_2, .inl (ka0_7_14_2, 3, .inl (fa0_7_14_2)))] sz) := by
  refine Met.ofW (cc := cX7_stairs) (maxL := 1) (ret := (some .int)) (by decide) rfl ?_
  intro p e s m args below meth c s₁ B hml hv
  obtain ⟨rfl, hsz, hP, hK, hD0, hE⟩ := hv
  have hx := B.exec
  have hb := B.bytes
  have hr := B.returns
  have hts := atoms_spec (ws := wsX7_stairs) B.pre
  have hown : s.vm.findClass RX7 = some m.cls := findClass_of_methodNamed B.named
  have hlocks := B.notSynchronized
  subst hsz
  have hD := hD0.self (sz := s.heap.size)
  generalize hAe : va_A [(a0, .inr (7, [a0g_0, .ref a0_1, .ref a0_2, a0g_3, a0g_4, a0g_5, a0g_6, .ref a0_7, .int a0_8, a0g_9, a0g_10])), (a0_7, .inr (0, [.int a0_7_0, .int a0_7_1, .int a0_7_2, a0_7g_3, a0_7g_4, .int a0_7_5, .int a0_7_6, a0_7g_7, a0_7g_8, a0_7g_9, .ref a0_7_10, .ref a0_7_11, a0_7g_12, a0_7g_13, .ref a0_7_14])), (a0_2, .inr (5, [.int a0_2_0, .int a0_2_1, .int a0_2_2, .int a0_2_3, .int a0_2_4, .ref a0_2_5, .ref a0_2_6])), (a0_1, .inr (5, [.int a0_1_0, .int a0_1_1, .int a0_1_2, .int a0_1_3, .int a0_1_4, .ref a0_1_5, .ref a0_1_6])), (a0_1_5, .inl (ka0_1_5, 9, .inl (fa0_1_5))), (a0_2_5, .inl (ka0_2_5, 9, .inl (fa0_2_5))), (a0_1_6, .inl (ka0_1_6, 9, .inl (fa0_1_6))), (a0_2_6, .inl (ka0_2_6, 9, .inl (fa0_2_6))), (a0_7_10, .inl (ka0_7_10, 9, .inl (fa0_7_10))), (a0_7_11, .inl (ka0_7_11, 9, .inl (fa0_7_11))), (a0_7_14, .inr (6, [.int a0_7_14_0, .int a0_7_14_1, .ref a0_7_14_2, .ref a0_7_14_3])), (a0_7_14_3, .inl (ka0_7_14_3, 3, .inl (fa0_7_14_3))), (a0_7_14_2, .inl (ka0_7_14_2, 3, .inl (fa0_7_14_2)))] s.heap.size = A at hD ⊢
  have hA : ∀ q : Nat, s.heap.size ≤ q → A q := fun q h => by rw [← hAe]; exact Or.inr h
  have hS : va_S A s.heap s.heap [] := va_S.rf
  have hP : va_P (dC, dI) vwCl [(a0, .inr (7, [a0g_0, .ref a0_1, .ref a0_2, a0g_3, a0g_4, a0g_5, a0g_6, .ref a0_7, .int a0_8, a0g_9, a0g_10])), (a0_7, .inr (0, [.int a0_7_0, .int a0_7_1, .int a0_7_2, a0_7g_3, a0_7g_4, .int a0_7_5, .int a0_7_6, a0_7g_7, a0_7g_8, a0_7g_9, .ref a0_7_10, .ref a0_7_11, a0_7g_12, a0_7g_13, .ref a0_7_14])), (a0_2, .inr (5, [.int a0_2_0, .int a0_2_1, .int a0_2_2, .int a0_2_3, .int a0_2_4, .ref a0_2_5, .ref a0_2_6])), (a0_1, .inr (5, [.int a0_1_0, .int a0_1_1, .int a0_1_2, .int a0_1_3, .int a0_1_4, .ref a0_1_5, .ref a0_1_6])), (a0_1_5, .inl (ka0_1_5, 9, .inl (fa0_1_5))), (a0_2_5, .inl (ka0_2_5, 9, .inl (fa0_2_5))), (a0_1_6, .inl (ka0_1_6, 9, .inl (fa0_1_6))), (a0_2_6, .inl (ka0_2_6, 9, .inl (fa0_2_6))), (a0_7_10, .inl (ka0_7_10, 9, .inl (fa0_7_10))), (a0_7_11, .inl (ka0_7_11, 9, .inl (fa0_7_11))), (a0_7_14, .inr (6, [.int a0_7_14_0, .int a0_7_14_1, .ref a0_7_14_2, .ref a0_7_14_3])), (a0_7_14_3, .inl (ka0_7_14_3, 3, .inl (fa0_7_14_3))), (a0_7_14_2, .inl (ka0_7_14_2, 3, .inl (fa0_7_14_2)))] s.heap := hP
  obtain ⟨hE0, hE1, hE2⟩ := hE
  have hl := lv_entry ([.ref a0]) (n := 1) (Nat.le_of_ble_eq_true rfl)
  rw [lg_entry_eq]
  generalize (lg_sl ([.ref a0]) ++ List.replicate (1 - (lg_sl ([.ref a0])).length) Slot.unset).toArray = ls at hl ⊢
  have hl : lv_has ls 1 [(0, .ref a0)] := hl
  refine lv_aload_n hx hb dX7_stairs_0 rfl (lv_at hl 0 rfl) ?_
  obtain ⟨hPc, hDc, hFc, hCc⟩ := zc_cut (wc := [(a0, .inr (7, [a0g_0, .ref a0_1, .ref a0_2, a0g_3, a0g_4, a0g_5, a0g_6, .ref a0_7, .int a0_8, a0g_9, a0g_10])), (a0_7, .inr (0, [.int a0_7_0, .int a0_7_1, .int a0_7_2, a0_7g_3, a0_7g_4, .int a0_7_5, .int a0_7_6, a0_7g_7, a0_7g_8, a0_7g_9, .ref a0_7_10, .ref a0_7_11, a0_7g_12, a0_7g_13, .ref a0_7_14]))]) hP hD hS hA [0, 1] (by decide +kernel) rfl
  have hKc := hK.sub (tys' := []) [] rfl
  refine va_calli (va_runV (As := []) (rest := []) ⟨hx, hb, hml, hown, hts⟩ (c_X7_hasGallery l dC dI s.heap.size a0 a0g_0 (.ref a0_1) (.ref a0_2) a0g_3 a0g_4 a0g_5 a0g_6 (.int a0_8) a0g_9 a0g_10 a0_7 a0_7_0 (.int a0_7_1) (.int a0_7_2) a0_7g_3 a0_7g_4 (.int a0_7_5) (.int a0_7_6) a0_7g_7 a0_7g_8 a0_7g_9 (.ref a0_7_10) (.ref a0_7_11) a0_7g_12 a0_7g_13 (.ref a0_7_14) ba0_7_0_l ba0_7_0_u) (cwV 0 hts gX7_stairs_X7_hasGallery rfl rfl rfl zd_X7_hasGallery ⟨Nat.le_of_ble_eq_true rfl, Nat.le_of_ble_eq_true rfl⟩) ⟨ax_blind (fun _ _ _ _ _ => trivial), zr_7 hKc hPc (q0 := 0) rfl, ax_pre hPc hKc hDc (fun _ _ => trivial)⟩ rfl rfl hl.1 rfl (lv_room (Nat.le_of_ble_eq_true rfl)) dX7_stairs_1 ⟨Nat.le_of_ble_eq_true rfl, Nat.le_of_ble_eq_true rfl⟩) hS (fun q _ h => hFc q h) hFc (fun r1 u t H locs ht hvm hw hB hz1 hk1 hS => ?_)
  obtain ⟨hP1, hK1, hD1⟩ := hB
  rw [ht] at hP1
  obtain ⟨hP, hD⟩ := zc_back (w := [(a0, .inr (7, [a0g_0, .ref a0_1, .ref a0_2, a0g_3, a0g_4, a0g_5, a0g_6, .ref a0_7, .int a0_8, a0g_9, a0g_10])), (a0_7, .inr (0, [.int a0_7_0, .int a0_7_1, .int a0_7_2, a0_7g_3, a0_7g_4, .int a0_7_5, .int a0_7_6, a0_7g_7, a0_7g_8, a0_7g_9, .ref a0_7_10, .ref a0_7_11, a0_7g_12, a0_7g_13, .ref a0_7_14])), (a0_2, .inr (5, [.int a0_2_0, .int a0_2_1, .int a0_2_2, .int a0_2_3, .int a0_2_4, .ref a0_2_5, .ref a0_2_6])), (a0_1, .inr (5, [.int a0_1_0, .int a0_1_1, .int a0_1_2, .int a0_1_3, .int a0_1_4, .ref a0_1_5, .ref a0_1_6])), (a0_1_5, .inl (ka0_1_5, 9, .inl (fa0_1_5))), (a0_2_5, .inl (ka0_2_5, 9, .inl (fa0_2_5))), (a0_1_6, .inl (ka0_1_6, 9, .inl (fa0_1_6))), (a0_2_6, .inl (ka0_2_6, 9, .inl (fa0_2_6))), (a0_7_10, .inl (ka0_7_10, 9, .inl (fa0_7_10))), (a0_7_11, .inl (ka0_7_11, 9, .inl (fa0_7_11))), (a0_7_14, .inr (6, [.int a0_7_14_0, .int a0_7_14_1, .ref a0_7_14_2, .ref a0_7_14_3])), (a0_7_14_3, .inl (ka0_7_14_3, 3, .inl (fa0_7_14_3))), (a0_7_14_2, .inl (ka0_7_14_2, 3, .inl (fa0_7_14_2)))]) hP hD hCc hk1 hFc hP1 hD1 [.inr 0, .inr 1, .inl 2, .inl 3, .inl 4, .inl 5, .inl 6, .inl 7, .inl 8, .inl 9, .inl 10, .inl 11, .inl 12] (by decide +kernel) rfl
  rcases hw with hw | hw
  · obtain ⟨hw, h1_0, h1_1⟩ := hw
    subst hw
    have l1k0_a0_7_0 : (1 : Int) ≤ a0_7_0.toInt := h1_0
    have u1k0_a0_7_0 : a0_7_0.toInt ≤ (9 : Int) := ba0_7_0_u
    refine lv_if_ne (tgt := 13) hx hb dX7_stairs_4 (by decide) (fun _ => ?_) (fun c4 => absurd c4 (by decide +kernel))
    refine lv_aload_n hx hb dX7_stairs_13 rfl (lv_at hl 0 rfl) ?_
    refine va_get (D := (dC, dI)) (ci := 7) (v := .ref a0_2) (C := RX7) (T := TX7) (N := 11) hx hb hts zi_X7_stairs_7 hown hK hP 0 rfl rfl 2 (by decide) (hts (.fieldLink RX7 23 "WaxTurns" "ahead" "LWaxTurns$Scene;") (zm_X7_stairs_r1 (List.mem_of_getElem? (i := 0) rfl))) (fun _ h9 => h9) rfl dX7_stairs_14 ?_
    refine lv_aload_n hx hb dX7_stairs_17 rfl (lv_at hl 0 rfl) ?_
    refine va_get (D := (dC, dI)) (ci := 7) (v := .ref a0_1) (C := RX7) (T := TX7) (N := 11) hx hb hts zi_X7_stairs_7 hown hK hP 0 rfl rfl 1 (by decide) (hts (.fieldLink RX7 19 "WaxTurns" "now" "LWaxTurns$Scene;") (zm_X7_stairs_r1 (List.mem_of_getElem? (i := 1) rfl))) (fun _ h9 => h9) rfl dX7_stairs_18 ?_
    obtain ⟨hPc, hDc, hFc, hCc⟩ := zc_cut (wc := [(a0_2, .inr (5, [.int a0_2_0, .int a0_2_1, .int a0_2_2, .int a0_2_3, .int a0_2_4, .ref a0_2_5, .ref a0_2_6])), (a0_1, .inr (5, [.int a0_1_0, .int a0_1_1, .int a0_1_2, .int a0_1_3, .int a0_1_4, .ref a0_1_5, .ref a0_1_6])), (a0_1_5, .inl (ka0_1_5, 9, .inl (fa0_1_5))), (a0_2_5, .inl (ka0_2_5, 9, .inl (fa0_2_5))), (a0_1_6, .inl (ka0_1_6, 9, .inl (fa0_1_6))), (a0_2_6, .inl (ka0_2_6, 9, .inl (fa0_2_6)))]) hP hD hS hA [2, 3, 4, 5, 6, 7] (by decide +kernel) rfl
    have hKc := hK.sub (tys' := [(ka0_1_5, .int), (ka0_2_5, .int), (ka0_1_6, .int), (ka0_2_6, .int)]) [0, 1, 2, 3] rfl
    refine va_callv (va_runV (As := [.ref a0_1]) (rest := []) ⟨hx, hb, hml, hown, hts⟩ (c_X5_copyFrom l dC dI H.size a0_2 a0_1 a0_2_0 a0_2_1 a0_2_2 a0_2_3 a0_2_4 a0_2_5 a0_2_6 a0_1_0 a0_1_1 a0_1_2 a0_1_3 a0_1_4 a0_1_5 a0_1_6 ka0_1_5 fa0_1_5 ka0_2_5 fa0_2_5 ka0_1_6 fa0_1_6 ka0_2_6 fa0_2_6 ba0_2_1_l ba0_2_1_u ba0_1_1_l ba0_1_1_u) (cwV 1 hts gX7_stairs_X5_copyFrom rfl rfl rfl zd_X5_copyFrom ⟨Nat.le_of_ble_eq_true rfl, Nat.le_of_ble_eq_true rfl⟩) ⟨ax_blind (fun _ _ _ _ _ => trivial), zr_5 hKc hPc (q0 := 0) rfl, ax_pre hPc hKc hDc (fun _ _ => trivial)⟩ rfl rfl hl.1 rfl (lv_room (Nat.le_of_ble_eq_true rfl)) dX7_stairs_21 ⟨Nat.le_of_ble_eq_true rfl, Nat.le_of_ble_eq_true rfl⟩) hS (fun q _ h => hFc q h) hFc (fun u t H locs ht hvm hw hB hz1 hk1 hS => ?_)
    obtain ⟨v21na0_0, v21na0_1, v21na0_2, v21na0_3, v21na0_4, v21nfa0_5, v21nfa0_6, bv21na0_1, hP1, hK1, hD1⟩ := hB
    rw [ht] at hP1
    obtain ⟨hP, hD⟩ := zc_back (w := [(a0, .inr (7, [a0g_0, .ref a0_1, .ref a0_2, a0g_3, a0g_4, a0g_5, a0g_6, .ref a0_7, .int a0_8, a0g_9, a0g_10])), (a0_7, .inr (0, [.int a0_7_0, .int a0_7_1, .int a0_7_2, a0_7g_3, a0_7g_4, .int a0_7_5, .int a0_7_6, a0_7g_7, a0_7g_8, a0_7g_9, .ref a0_7_10, .ref a0_7_11, a0_7g_12, a0_7g_13, .ref a0_7_14])), (a0_2, .inr (5, [.int v21na0_0, .int v21na0_1, .int v21na0_2, .int v21na0_3, .int v21na0_4, .ref a0_2_5, .ref a0_2_6])), (a0_1, .inr (5, [.int a0_1_0, .int a0_1_1, .int a0_1_2, .int a0_1_3, .int a0_1_4, .ref a0_1_5, .ref a0_1_6])), (a0_1_5, .inl (ka0_1_5, 9, .inl (fa0_1_5))), (a0_2_5, .inl (ka0_2_5, 9, .inl (v21nfa0_5))), (a0_1_6, .inl (ka0_1_6, 9, .inl (fa0_1_6))), (a0_2_6, .inl (ka0_2_6, 9, .inl (v21nfa0_6))), (a0_7_10, .inl (ka0_7_10, 9, .inl (fa0_7_10))), (a0_7_11, .inl (ka0_7_11, 9, .inl (fa0_7_11))), (a0_7_14, .inr (6, [.int a0_7_14_0, .int a0_7_14_1, .ref a0_7_14_2, .ref a0_7_14_3])), (a0_7_14_3, .inl (ka0_7_14_3, 3, .inl (fa0_7_14_3))), (a0_7_14_2, .inl (ka0_7_14_2, 3, .inl (fa0_7_14_2)))]) hP hD hCc hk1 hFc hP1 hD1 [.inl 0, .inl 1, .inr 0, .inr 1, .inr 2, .inr 3, .inr 4, .inr 5, .inl 8, .inl 9, .inl 10, .inl 11, .inl 12] (by decide +kernel) rfl
    refine lv_aload_n hx hb dX7_stairs_24 rfl (lv_at hl 0 rfl) ?_
    refine lv_aload_n hx hb dX7_stairs_25 rfl (lv_at hl 0 rfl) ?_
    refine lv_aload_n hx hb dX7_stairs_26 rfl (lv_at hl 0 rfl) ?_
    refine va_get (D := (dC, dI)) (ci := 7) (v := .ref a0_7) (C := RX7) (T := TX7) (N := 11) hx hb hts zi_X7_stairs_7 hown hK hP 0 rfl rfl 7 (by decide) (hts (.fieldLink RX7 57 "WaxTurns" "hall" "LWaxTurns$Hall;") (zm_X7_stairs_r1 (List.mem_of_getElem? (i := 2) rfl))) (fun _ h9 => h9) rfl dX7_stairs_27 ?_
    refine va_get (D := (dC, dI)) (ci := 0) (v := .ref a0_7_14) (C := RX0) (T := TX0) (N := 15) hx hb hts zi_X7_stairs_0 hown hK hP 1 rfl rfl 14 (by decide) (hts (.fieldLink RX7 138 "WaxTurns$Hall" "watchers" "LWaxTurns$Watchers;") (zm_X7_stairs_r1 (List.mem_of_getElem? (i := 3) rfl))) (fun _ h9 => h9) rfl dX7_stairs_30 ?_
    refine lv_sipush (v := 300) hx hb dX7_stairs_33 zk_sipush_300 ?_
    obtain ⟨hPc, hDc, hFc, hCc⟩ := zc_cut (wc := [(a0, .inr (7, [a0g_0, .ref a0_1, .ref a0_2, a0g_3, a0g_4, a0g_5, a0g_6, .ref a0_7, .int a0_8, a0g_9, a0g_10])), (a0_2, .inr (5, [.int v21na0_0, .int v21na0_1, .int v21na0_2, .int v21na0_3, .int v21na0_4, .ref a0_2_5, .ref a0_2_6])), (a0_7, .inr (0, [.int a0_7_0, .int a0_7_1, .int a0_7_2, a0_7g_3, a0_7g_4, .int a0_7_5, .int a0_7_6, a0_7g_7, a0_7g_8, a0_7g_9, .ref a0_7_10, .ref a0_7_11, a0_7g_12, a0_7g_13, .ref a0_7_14])), (a0_7_10, .inl (ka0_7_10, 9, .inl (fa0_7_10))), (a0_7_11, .inl (ka0_7_11, 9, .inl (fa0_7_11))), (a0_2_5, .inl (ka0_2_5, 9, .inl (v21nfa0_5))), (a0_7_14, .inr (6, [.int a0_7_14_0, .int a0_7_14_1, .ref a0_7_14_2, .ref a0_7_14_3])), (a0_7_14_3, .inl (ka0_7_14_3, 3, .inl (fa0_7_14_3))), (a0_7_14_2, .inl (ka0_7_14_2, 3, .inl (fa0_7_14_2))), (a0_2_6, .inl (ka0_2_6, 9, .inl (v21nfa0_6)))]) hP hD hS hA [0, 2, 1, 8, 9, 5, 10, 11, 12, 7] (by decide +kernel) rfl
    have hKc := hK.sub (tys' := [(ka0_7_10, .int), (ka0_7_11, .int), (ka0_2_5, .int), (ka0_7_14_3, .int), (ka0_7_14_2, .int), (ka0_2_6, .int)]) [4, 5, 1, 6, 7, 3] rfl
    refine va_calli (va_runV (As := [.ref a0_7_14, .int 300]) (rest := [.ref a0]) ⟨hx, hb, hml, hown, hts⟩ (c_X7_minutesTillGone l dC dI H.size a0 a0_7_14 300 a0g_0 (.ref a0_1) a0g_3 a0g_4 a0g_5 a0g_6 (.int a0_8) a0g_9 a0g_10 a0_2 a0_7 v21na0_0 v21na0_1 v21na0_2 v21na0_3 v21na0_4 a0_2_5 a0_2_6 a0_7_0 a0_7_1 a0_7_2 a0_7g_3 a0_7g_4 a0_7g_7 a0_7g_8 a0_7g_9 a0_7g_12 a0_7g_13 (.ref a0_7_14) a0_7_5 a0_7_6 a0_7_10 a0_7_11 ka0_7_10 fa0_7_10 ka0_7_11 fa0_7_11 ka0_2_5 v21nfa0_5 a0_7_14_0 a0_7_14_1 a0_7_14_2 a0_7_14_3 ka0_7_14_3 fa0_7_14_3 ka0_7_14_2 fa0_7_14_2 ka0_2_6 v21nfa0_6 (Int.le_trans zq83 zq84) zq82 bv21na0_1.1 bv21na0_1.2 (Int.le_trans zq4 l1k0_a0_7_0) u1k0_a0_7_0 ba0_7_5_l ba0_7_5_u ba0_7_6_l ba0_7_6_u ba0_7_14_0_l ba0_7_14_0_u bfa0_7_14_3 bfa0_7_14_2) (cwV 2 hts gX7_stairs_X7_minutesTillGone rfl rfl rfl zd_X7_minutesTillGone ⟨Nat.le_of_ble_eq_true rfl, Nat.le_of_ble_eq_true rfl⟩) ⟨ax_blind (fun _ _ _ _ hq => ⟨va_Nw.same rfl rfl (hq.1), va_Nw.same rfl rfl (hq.2.1), va_Nw.same rfl rfl (hq.2.2)⟩), zr_7 hKc hPc (q0 := 0) rfl, ax_pre hPc hKc hDc (fun _ hW => ⟨va_Nw.warmM hW hE0, va_Nw.warmM hW hE1, va_Nw.warmM hW hE2⟩)⟩ rfl rfl hl.1 rfl (lv_room (Nat.le_of_ble_eq_true rfl)) dX7_stairs_36 ⟨Nat.le_of_ble_eq_true rfl, Nat.le_of_ble_eq_true rfl⟩) hS (fun q _ h => hFc q h) hFc (fun r36 u t H locs ht hvm hw hB hz1 hk1 hS => ?_)
    obtain ⟨v36na0_2_0, v36na0_2_1, v36na0_2_2, v36na0_2_3, v36na0_2_4, v36nfa0_2_5, v36nfa0_2_6, bv36na0_2_1, hP1, hK1, hD1⟩ := hB
    rw [ht] at hP1
    obtain ⟨hP, hD⟩ := zc_back (w := [(a0, .inr (7, [a0g_0, .ref a0_1, .ref a0_2, a0g_3, a0g_4, a0g_5, a0g_6, .ref a0_7, .int a0_8, a0g_9, a0g_10])), (a0_7, .inr (0, [.int a0_7_0, .int a0_7_1, .int a0_7_2, a0_7g_3, a0_7g_4, .int a0_7_5, .int a0_7_6, a0_7g_7, a0_7g_8, a0_7g_9, .ref a0_7_10, .ref a0_7_11, a0_7g_12, a0_7g_13, .ref a0_7_14])), (a0_2, .inr (5, [.int v36na0_2_0, .int v36na0_2_1, .int v36na0_2_2, .int v36na0_2_3, .int v36na0_2_4, .ref a0_2_5, .ref a0_2_6])), (a0_1, .inr (5, [.int a0_1_0, .int a0_1_1, .int a0_1_2, .int a0_1_3, .int a0_1_4, .ref a0_1_5, .ref a0_1_6])), (a0_1_5, .inl (ka0_1_5, 9, .inl (fa0_1_5))), (a0_2_5, .inl (ka0_2_5, 9, .inl (v36nfa0_2_5))), (a0_1_6, .inl (ka0_1_6, 9, .inl (fa0_1_6))), (a0_2_6, .inl (ka0_2_6, 9, .inl (v36nfa0_2_6))), (a0_7_10, .inl (ka0_7_10, 9, .inl (fa0_7_10))), (a0_7_11, .inl (ka0_7_11, 9, .inl (fa0_7_11))), (a0_7_14, .inr (6, [.int a0_7_14_0, .int a0_7_14_1, .ref a0_7_14_2, .ref a0_7_14_3])), (a0_7_14_3, .inl (ka0_7_14_3, 3, .inl (fa0_7_14_3))), (a0_7_14_2, .inl (ka0_7_14_2, 3, .inl (fa0_7_14_2)))]) hP hD hCc hk1 hFc hP1 hD1 [.inr 0, .inr 2, .inr 1, .inl 3, .inl 4, .inr 5, .inl 6, .inr 9, .inr 3, .inr 4, .inr 6, .inr 7, .inr 8] (by decide +kernel) rfl
    have hw : (-2 : Int) ≤ r36.toInt ∧ r36.toInt ≤ (300 : Int) := hw
    obtain ⟨h36_0, h36_1⟩ := hw
    obtain ⟨hPc, hDc, hFc, hCc⟩ := zc_cut (wc := [(a0, .inr (7, [a0g_0, .ref a0_1, .ref a0_2, a0g_3, a0g_4, a0g_5, a0g_6, .ref a0_7, .int a0_8, a0g_9, a0g_10]))]) hP hD hS hA [0] (by decide +kernel) rfl
    have hKc := hK.sub (tys' := []) [] rfl
    refine va_calli (va_runV (As := [.int r36]) (rest := []) ⟨hx, hb, hml, hown, hts⟩ (c_X7_answered l dC dI H.size a0 r36 a0g_0 (.ref a0_1) (.ref a0_2) a0g_3 a0g_4 a0g_5 a0g_6 (.ref a0_7) a0g_9 a0g_10 a0_8 ) (cwV 1 hts gX7_stairs_X7_answered rfl rfl rfl zd_X7_answered ⟨Nat.le_of_ble_eq_true rfl, Nat.le_of_ble_eq_true rfl⟩) ⟨ax_blind (fun _ _ _ _ _ => trivial), zr_7 hKc hPc (q0 := 0) rfl, ax_pre hPc hKc hDc (fun _ _ => trivial)⟩ rfl rfl hl.1 rfl (lv_room (Nat.le_of_ble_eq_true rfl)) dX7_stairs_39 ⟨Nat.le_of_ble_eq_true rfl, Nat.le_of_ble_eq_true rfl⟩) hS (fun q _ h => hFc q h) hFc (fun r39 u t H locs ht hvm hw hB hz1 hk1 hS => ?_)
    obtain ⟨v39na0_8, hP1, hK1, hD1⟩ := hB
    rw [ht] at hP1
    obtain ⟨hP, hD⟩ := zc_back (w := [(a0, .inr (7, [a0g_0, .ref a0_1, .ref a0_2, a0g_3, a0g_4, a0g_5, a0g_6, .ref a0_7, .int v39na0_8, a0g_9, a0g_10])), (a0_7, .inr (0, [.int a0_7_0, .int a0_7_1, .int a0_7_2, a0_7g_3, a0_7g_4, .int a0_7_5, .int a0_7_6, a0_7g_7, a0_7g_8, a0_7g_9, .ref a0_7_10, .ref a0_7_11, a0_7g_12, a0_7g_13, .ref a0_7_14])), (a0_2, .inr (5, [.int v36na0_2_0, .int v36na0_2_1, .int v36na0_2_2, .int v36na0_2_3, .int v36na0_2_4, .ref a0_2_5, .ref a0_2_6])), (a0_1, .inr (5, [.int a0_1_0, .int a0_1_1, .int a0_1_2, .int a0_1_3, .int a0_1_4, .ref a0_1_5, .ref a0_1_6])), (a0_1_5, .inl (ka0_1_5, 9, .inl (fa0_1_5))), (a0_2_5, .inl (ka0_2_5, 9, .inl (v36nfa0_2_5))), (a0_1_6, .inl (ka0_1_6, 9, .inl (fa0_1_6))), (a0_2_6, .inl (ka0_2_6, 9, .inl (v36nfa0_2_6))), (a0_7_10, .inl (ka0_7_10, 9, .inl (fa0_7_10))), (a0_7_11, .inl (ka0_7_11, 9, .inl (fa0_7_11))), (a0_7_14, .inr (6, [.int a0_7_14_0, .int a0_7_14_1, .ref a0_7_14_2, .ref a0_7_14_3])), (a0_7_14_3, .inl (ka0_7_14_3, 3, .inl (fa0_7_14_3))), (a0_7_14_2, .inl (ka0_7_14_2, 3, .inl (fa0_7_14_2)))]) hP hD hCc hk1 hFc hP1 hD1 [.inr 0, .inl 1, .inl 2, .inl 3, .inl 4, .inl 5, .inl 6, .inl 7, .inl 8, .inl 9, .inl 10, .inl 11, .inl 12] (by decide +kernel) rfl
    have hw : r39 = r36 := hw
    have hw := hw.symm
    subst hw
    exact W.iret (v := r36) hx hb hr (fun t ht hW => ⟨⟨r36, (), rfl, ⟨h36_0, h36_1⟩, v39na0_8, v36na0_2_0, v36na0_2_1, v36na0_2_2, v36na0_2_3, v36na0_2_4, v36nfa0_2_5, v36nfa0_2_6, ⟨bv36na0_2_1.1, bv36na0_2_1.2⟩, by rw [ht]; exact hP, va_K.moved hW.alike hK, hD⟩, hS.F ht⟩) hS.2.2 dX7_stairs_42
  · obtain ⟨hw, h1_0, h1_1⟩ := hw
    subst hw
    have l1k1_a0_7_0 : (0 : Int) ≤ a0_7_0.toInt := ba0_7_0_l
    have u1k1_a0_7_0 : a0_7_0.toInt ≤ (0 : Int) := h1_1
    refine lv_if_ne (tgt := 13) hx hb dX7_stairs_4 (by decide) (fun c4 => absurd (by decide +kernel) c4) (fun _ => ?_)
    refine lv_aload_n hx hb dX7_stairs_7 rfl (lv_at hl 0 rfl) ?_
    refine lv_iconst (v := 1) hx hb dX7_stairs_8 zk_iconst_1 ?_
    obtain ⟨hPc, hDc, hFc, hCc⟩ := zc_cut (wc := [(a0, .inr (7, [a0g_0, .ref a0_1, .ref a0_2, a0g_3, a0g_4, a0g_5, a0g_6, .ref a0_7, .int a0_8, a0g_9, a0g_10]))]) hP hD hS hA [0] (by decide +kernel) rfl
    have hKc := hK.sub (tys' := []) [] rfl
    refine va_calli (va_runV (As := [.int 1]) (rest := []) ⟨hx, hb, hml, hown, hts⟩ (c_X7_refused l dC dI H.size a0 1 a0g_0 (.ref a0_1) (.ref a0_2) a0g_3 a0g_4 a0g_5 a0g_6 (.ref a0_7) a0g_9 a0g_10 a0_8 ) (cwV 1 hts gX7_stairs_X7_refused rfl rfl rfl zd_X7_refused ⟨Nat.le_of_ble_eq_true rfl, Nat.le_of_ble_eq_true rfl⟩) ⟨ax_blind (fun _ _ _ _ _ => trivial), zr_7 hKc hPc (q0 := 0) rfl, ax_pre hPc hKc hDc (fun _ _ => trivial)⟩ rfl rfl hl.1 rfl (lv_room (Nat.le_of_ble_eq_true rfl)) dX7_stairs_9 ⟨Nat.le_of_ble_eq_true rfl, Nat.le_of_ble_eq_true rfl⟩) hS (fun q _ h => hFc q h) hFc (fun r9 u t H locs ht hvm hw hB hz1 hk1 hS => ?_)
    obtain ⟨v9na0_8, hP1, hK1, hD1⟩ := hB
    rw [ht] at hP1
    obtain ⟨hP, hD⟩ := zc_back (w := [(a0, .inr (7, [a0g_0, .ref a0_1, .ref a0_2, a0g_3, a0g_4, a0g_5, a0g_6, .ref a0_7, .int v9na0_8, a0g_9, a0g_10])), (a0_7, .inr (0, [.int a0_7_0, .int a0_7_1, .int a0_7_2, a0_7g_3, a0_7g_4, .int a0_7_5, .int a0_7_6, a0_7g_7, a0_7g_8, a0_7g_9, .ref a0_7_10, .ref a0_7_11, a0_7g_12, a0_7g_13, .ref a0_7_14])), (a0_2, .inr (5, [.int a0_2_0, .int a0_2_1, .int a0_2_2, .int a0_2_3, .int a0_2_4, .ref a0_2_5, .ref a0_2_6])), (a0_1, .inr (5, [.int a0_1_0, .int a0_1_1, .int a0_1_2, .int a0_1_3, .int a0_1_4, .ref a0_1_5, .ref a0_1_6])), (a0_1_5, .inl (ka0_1_5, 9, .inl (fa0_1_5))), (a0_2_5, .inl (ka0_2_5, 9, .inl (fa0_2_5))), (a0_1_6, .inl (ka0_1_6, 9, .inl (fa0_1_6))), (a0_2_6, .inl (ka0_2_6, 9, .inl (fa0_2_6))), (a0_7_10, .inl (ka0_7_10, 9, .inl (fa0_7_10))), (a0_7_11, .inl (ka0_7_11, 9, .inl (fa0_7_11))), (a0_7_14, .inr (6, [.int a0_7_14_0, .int a0_7_14_1, .ref a0_7_14_2, .ref a0_7_14_3])), (a0_7_14_3, .inl (ka0_7_14_3, 3, .inl (fa0_7_14_3))), (a0_7_14_2, .inl (ka0_7_14_2, 3, .inl (fa0_7_14_2)))]) hP hD hCc hk1 hFc hP1 hD1 [.inr 0, .inl 1, .inl 2, .inl 3, .inl 4, .inl 5, .inl 6, .inl 7, .inl 8, .inl 9, .inl 10, .inl 11, .inl 12] (by decide +kernel) rfl
    have hw : r9 = (-1) := hw
    have hw := hw.symm
    subst hw
    exact W.iret (v := (-1)) hx hb hr (fun t ht hW => ⟨⟨(-1), (), rfl, ⟨(Int.le_trans zq76 zq70), (Int.le_trans zq71 zq85)⟩, v9na0_8, a0_2_0, a0_2_1, a0_2_2, a0_2_3, a0_2_4, fa0_2_5, fa0_2_6, ⟨ba0_2_1_l, ba0_2_1_u⟩, by rw [ht]; exact hP, va_K.moved hW.alike hK, hD⟩, hS.F ht⟩) hS.2.2 dX7_stairs_12
end P111_safe
