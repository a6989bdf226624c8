set_option maxHeartbeats 4000000 in
set_option maxRecDepth 100000 in
theorem c_X7_postsHold (l : Launch) (dC : Nat → ClassId) (dI : Nat → Nat → Nat) (sz : Nat) (a0 : Nat) (a1 : Int32) (a2 : Int32) (a0g_0 a0g_4 a0g_5 a0g_6 a0g_8 a0g_9 a0g_10 : Value) (a0_1 : Nat) (a0_2 : Nat) (a0_3 : Nat) (a0_7 : Nat) (a0_3_0 : Int32) (a0_3_1 : Int32) (a0_3_2 : Nat) (a0_3_3 : Nat) (a0_2_0 : Int32) (a0_2_1 : Int32) (a0_2_2 : Int32) (a0_2_3 : Int32) (a0_2_4 : Int32) (a0_2_5 : Nat) (a0_2_6 : Nat) (a0_1_0 : Int32) (a0_1_1 : Int32) (a0_1_2 : Int32) (a0_1_3 : Int32) (a0_1_4 : Int32) (a0_1_5 : Nat) (a0_1_6 : Nat) (ka0_1_5 : ClassId) (fa0_1_5 : Nat → Int32) (ka0_2_5 : ClassId) (fa0_2_5 : Nat → Int32) (ka0_1_6 : ClassId) (fa0_1_6 : Nat → Int32) (ka0_2_6 : ClassId) (fa0_2_6 : Nat → Int32) (a0_7_0 : Int32) (a0_7_1 : Int32) (a0_7_2 : Int32) (a0_7g_3 a0_7g_4 a0_7g_7 a0_7g_8 a0_7g_9 a0_7g_12 a0_7g_13 a0_7g_14 : Value) (a0_7_5 : Int32) (a0_7_6 : Int32) (a0_7_10 : Nat) (a0_7_11 : Nat) (ka0_7_10 : ClassId) (fa0_7_10 : Nat → Int32) (ka0_7_11 : ClassId) (fa0_7_11 : Nat → Int32) (ka0_3_3 : ClassId) (fa0_3_3 : Nat → Int32) (ka0_3_2 : ClassId) (fa0_3_2 : Nat → Int32) (ba2_l : (0 : Int) ≤ a2.toInt) (ba2_u : a2.toInt ≤ (60 : Int)) (ba0_3_0_l : (0 : Int) ≤ a0_3_0.toInt) (ba0_3_0_u : a0_3_0.toInt ≤ (3 : Int)) (ba0_2_1_l : (0 : Int) ≤ a0_2_1.toInt) (ba0_2_1_u : a0_2_1.toInt ≤ (8 : Int)) (ba0_1_1_l : (0 : Int) ≤ a0_1_1.toInt) (ba0_1_1_u : a0_1_1.toInt ≤ (8 : Int)) (ba0_7_0_l : (0 : Int) ≤ a0_7_0.toInt) (ba0_7_0_u : a0_7_0.toInt ≤ (9 : Int)) (ba0_7_5_l : (0 : Int) ≤ a0_7_5.toInt) (ba0_7_5_u : a0_7_5.toInt ≤ (8 : Int)) (ba0_7_6_l : (0 : Int) ≤ a0_7_6.toInt) (ba0_7_6_u : a0_7_6.toInt ≤ (8 : Int)) (bfa0_3_3 : (∀ k, (0 : Int) ≤ (fa0_3_3 k).toInt ∧ (fa0_3_3 k).toInt ≤ 80)) (bfa0_3_2 : (∀ k, (0 : Int) ≤ (fa0_3_2 k).toInt ∧ (fa0_3_2 k).toInt ≤ 80)) : Met l yX7_postsHold wsX7_postsHold ({ frames := 5, cells := 0, slots := 0, locals := 122 }) (va_Pc [.ref a0, .int a1, .int a2] (ax_C dC dI sz [(a0, .inr (7, [a0g_0, .ref a0_1, .ref a0_2, .ref a0_3, a0g_4, a0g_5, a0g_6, .ref a0_7, a0g_8, a0g_9, a0g_10])), (a0_3, .inr (6, [.int a0_3_0, .int a0_3_1, .ref a0_3_2, .ref a0_3_3])), (a0_2, .inr (5, [.int a0_2_0, .int a0_2_1, .int a0_2_2, .int a0_2_3, .int a0_2_4, .ref a0_2_5, .ref a0_2_6])), (a0_1, .inr (5, [.int a0_1_0, .int a0_1_1, .int a0_1_2, .int a0_1_3, .int a0_1_4, .ref a0_1_5, .ref a0_1_6])), (a0_1_5, .inl (ka0_1_5, 9, .inl (fa0_1_5))), (a0_2_5, .inl (ka0_2_5, 9, .inl (fa0_2_5))), (a0_1_6, .inl (ka0_1_6, 9, .inl (fa0_1_6))), (a0_2_6, .inl (ka0_2_6, 9, .inl (fa0_2_6))), (a0_7, .inr (0, [.int a0_7_0, .int a0_7_1, .int a0_7_2, a0_7g_3, a0_7g_4, .int a0_7_5, .int a0_7_6, a0_7g_7, a0_7g_8, a0_7g_9, .ref a0_7_10, .ref a0_7_11, a0_7g_12, a0_7g_13, a0_7g_14])), (a0_7_10, .inl (ka0_7_10, 9, .inl (fa0_7_10))), (a0_7_11, .inl (ka0_7_11, 9, .inl (fa0_7_11))), (a0_3_3, .inl (ka0_3_3, 3, .inl (fa0_3_3))), (a0_3_2, .inl (ka0_3_2, 3, .inl (fa0_3_2)))] [(ka0_1_5, .int), (ka0_2_5, .int), (ka0_1_6, .int), (ka0_2_6, .int), (ka0_7_10, .int), (ka0_7_11, .int), (ka0_3_3, .int), (ka0_3_2, .int)] (fun U => va_Nw (.methodLinkNest RX0 118 yX7_within RX7) U ∧ va_Nw (.methodLinkNest RX5 38 yX7_hasBit RX7) U ∧ va_Nw (.methodLinkNest RX0 129 yX7_hasBit RX7) U))) (va_Qi (fun (r : Int32) (_ : Unit) => (r = 1) ∨ (r = 0)) (fun (_ : Unit) (t : State) => ∃ na0_3_1 : Int32, ∃ na0_2_0 : Int32, ∃ na0_2_1 : Int32, ∃ na0_2_2 : Int32, ∃ na0_2_3 : Int32, ∃ na0_2_4 : Int32, ∃ nfa0_2_5 : Nat → Int32, ∃ nfa0_2_6 : Nat → Int32, ((0 : Int) ≤ na0_2_1.toInt ∧ na0_2_1.toInt ≤ 8) ∧ ax_B dC dI (va_A [(a0, .inr (7, [a0g_0, .ref a0_1, .ref a0_2, .ref a0_3, a0g_4, a0g_5, a0g_6, .ref a0_7, a0g_8, a0g_9, a0g_10])), (a0_3, .inr (6, [.int a0_3_0, .int a0_3_1, .ref a0_3_2, .ref a0_3_3])), (a0_2, .inr (5, [.int a0_2_0, .int a0_2_1, .int a0_2_2, .int a0_2_3, .int a0_2_4, .ref a0_2_5, .ref a0_2_6])), (a0_1, .inr (5, [.int a0_1_0, .int a0_1_1, .int a0_1_2, .int a0_1_3, .int a0_1_4, .ref a0_1_5, .ref a0_1_6])), (a0_1_5, .inl (ka0_1_5, 9, .inl (fa0_1_5))), (a0_2_5, .inl (ka0_2_5, 9, .inl (fa0_2_5))), (a0_1_6, .inl (ka0_1_6, 9, .inl (fa0_1_6))), (a0_2_6, .inl (ka0_2_6, 9, .inl (fa0_2_6))), (a0_7, .inr (0, [.int a0_7_0, .int a0_7_1, .int a0_7_2, a0_7g_3, a0_7g_4, .int a0_7_5, .int a0_7_6, a0_7g_7, a0_7g_8, a0_7g_9, .ref a0_7_10, .ref a0_7_11, a0_7g_12, a0_7g_13, a0_7g_14])), (a0_7_10, .inl (ka0_7_10, 9, .inl (fa0_7_10))), (a0_7_11, .inl (ka0_7_11, 9, .inl (fa0_7_11))), (a0_3_3, .inl (ka0_3_3, 3, .inl (fa0_3_3))), (a0_3_2, .inl (ka0_3_2, 3, .inl (fa0_3_2)))] sz) [(a0, .inr (7, [a0g_0, .ref a0_1, .ref a0_2, .ref a0_3, a0g_4, a0g_5, a0g_6, .ref a0_7, a0g_8, a0g_9, a0g_10])), (a0_3, .inr (6, [.int a0_3_0, .int na0_3_1, .ref a0_3_2, .ref a0_3_3])), (a0_2, .inr (5, [.int na0_2_0, .int na0_2_1, .int na0_2_2, .int na0_2_3, .int na0_2_4, .ref a0_2_5, .ref a0_2_6])), (a0_1, .inr (5, [.int a0_1_0, .int a0_1_1, .int a0_1_2, .int a0_1_3, .int a0_1_4, .ref a0_1_5, .ref a0_1_6])), (a0_1_5, .inl (ka0_1_5, 9, .inl (fa0_1_5))), (a0_2_5, .inl (ka0_2_5, 9, .inl (nfa0_2_5))), (a0_1_6, .inl (ka0_1_6, 9, .inl (fa0_1_6))), (a0_2_6, .inl (ka0_2_6, 9, .inl (nfa0_2_6))), (a0_7, .inr (0, [.int a0_7_0, .int a0_7_1, .int a0_7_2, a0_7g_3, a0_7g_4, .int a0_7_5, .int a0_7_6, a0_7g_7, a0_7g_8, a0_7g_9, .ref a0_7_10, .ref a0_7_11, a0_7g_12, a0_7g_13, a0_7g_14])), (a0_7_10, .inl (ka0_7_10, 9, .inl (fa0_7_10))), (a0_7_11, .inl (ka0_7_11, 9, .inl (fa0_7_11))), (a0_3_3, .inl (ka0_3_3, 3, .inl (fa0_3_3))), (a0_3_2, .inl (ka0_3_2, 3, .inl (fa0_3_2)))] [(ka0_1_5, .int), (ka0_2_5, .int), (ka0_1_6, .int), (ka0_2_6, .int), (ka0_7_10, .int), (ka0_7_11, .int), (ka0_3_3, .int), (ka0_3_2, .int)] t) (va_A [(a0, .inr (7, [a0g_0, .ref a0_1, .ref a0_2, .ref a0_3, a0g_4, a0g_5, a0g_6, .ref a0_7, a0g_8, a0g_9, a0g_10])), (a0_3, .inr (6, [.int a0_3_0, .int a0_3_1, .ref a0_3_2, .ref a0_3_3])), (a0_2, .inr (5, [.int a0_2_0, .int a0_2_1, .int a0_2_2, .int a0_2_3, .int a0_2_4, .ref a0_2_5, .ref a0_2_6])), (a0_1, .inr (5, [.int a0_1_0, .int a0_1_1, .int a0_1_2, .int a0_1_3, .int a0_1_4, .ref a0_1_5, .ref a0_1_6])), (a0_1_5, .inl (ka0_1_5, 9, .inl (fa0_1_5))), (a0_2_5, .inl (ka0_2_5, 9, .inl (fa0_2_5))), (a0_1_6, .inl (ka0_1_6, 9, .inl (fa0_1_6))), (a0_2_6, .inl (ka0_2_6, 9, .inl (fa0_2_6))), (a0_7, .inr (0, [.int a0_7_0, .int a0_7_1, .int a0_7_2, a0_7g_3, a0_7g_4, .int a0_7_5, .int a0_7_6, a0_7g_7, a0_7g_8, a0_7g_9, .ref a0_7_10, .ref a0_7_11, a0_7g_12, a0_7g_13, a0_7g_14])), (a0_7_10, .inl (ka0_7_10, 9, .inl (fa0_7_10))), (a0_7_11, .inl (ka0_7_11, 9, .inl (fa0_7_11))), (a0_3_3, .inl (ka0_3_3, 3, .inl (fa0_3_3))), (a0_3_2, .inl (ka0_3_2, 3, .inl (fa0_3_2)))] sz)) 0 0 (va_A [(a0, .inr (7, [a0g_0, .ref a0_1, .ref a0_2, .ref a0_3, a0g_4, a0g_5, a0g_6, .ref a0_7, a0g_8, a0g_9, a0g_10])), (a0_3, .inr (6, [.int a0_3_0, .int a0_3_1, .ref a0_3_2, .ref a0_3_3])), (a0_2, .inr (5, [.int a0_2_0, .int a0_2_1, .int a0_2_2, .int a0_2_3, .int a0_2_4, .ref a0_2_5, .ref a0_2_6])), (a0_1, .inr (5, [.int a0_1_0, .int a0_1_1, .int a0_1_2, .int a0_1_3, .int a0_1_4, .ref a0_1_5, .ref a0_1_6])), (a0_1_5, .inl (ka0_1_5, 9, .inl (fa0_1_5))), (a0_2_5, .inl (ka0_2_5, 9, .inl (fa0_2_5))), (a0_1_6, .inl (ka0_1_6, 9, .inl (fa0_1_6))), (a0_2_6, .inl (ka0_2_6, 9, .inl (fa0_2_6))), (a0_7, .inr (0, [.int a0_7_0, .int a0_7_1, .int a0_7_2, a0_7g_3, a0_7g_4, .int a0_7_5, .int a0_7_6, a0_7g_7, a0_7g_8, a0_7g_9, .ref a0_7_10, .ref a0_7_11, a0_7g_12, a0_7g_13, a0_7g_14])), (a0_7_10, .inl (ka0_7_10, 9, .inl (fa0_7_10))), (a0_7_11, .inl (ka0_7_11, 9, .inl (fa0_7_11))), (a0_3_3, .inl (ka0_3_3, 3, .inl (fa0_3_3))), (a0_3_2, .inl (ka0_3_2, 3, .inl (fa0_3_2)))] sz) := by
  refine Met.ofW (cc := cX7_postsHold) (maxL := 3) (ret := (some .boolean)) (by decide) rfl ?_
  intro p e s m args below meth c s₁ B hml hv
  obtain ⟨rfl, hsz, hP, hK, hD0, hE⟩ := hv
  have hx := B.exec
  have hb := B.bytes
  have hr := B.returns
  have hts := atoms_spec (ws := wsX7_postsHold) B.pre
  have hown : s.vm.findClass RX7 = some m.cls := findClass_of_methodNamed B.named
  have hlocks := B.notSynchronized
  subst hsz
  have hD := hD0.self (sz := s.heap.size)
  generalize hAe : va_A [(a0, .inr (7, [a0g_0, .ref a0_1, .ref a0_2, .ref a0_3, a0g_4, a0g_5, a0g_6, .ref a0_7, a0g_8, a0g_9, a0g_10])), (a0_3, .inr (6, [.int a0_3_0, .int a0_3_1, .ref a0_3_2, .ref a0_3_3])), (a0_2, .inr (5, [.int a0_2_0, .int a0_2_1, .int a0_2_2, .int a0_2_3, .int a0_2_4, .ref a0_2_5, .ref a0_2_6])), (a0_1, .inr (5, [.int a0_1_0, .int a0_1_1, .int a0_1_2, .int a0_1_3, .int a0_1_4, .ref a0_1_5, .ref a0_1_6])), (a0_1_5, .inl (ka0_1_5, 9, .inl (fa0_1_5))), (a0_2_5, .inl (ka0_2_5, 9, .inl (fa0_2_5))), (a0_1_6, .inl (ka0_1_6, 9, .inl (fa0_1_6))), (a0_2_6, .inl (ka0_2_6, 9, .inl (fa0_2_6))), (a0_7, .inr (0, [.int a0_7_0, .int a0_7_1, .int a0_7_2, a0_7g_3, a0_7g_4, .int a0_7_5, .int a0_7_6, a0_7g_7, a0_7g_8, a0_7g_9, .ref a0_7_10, .ref a0_7_11, a0_7g_12, a0_7g_13, a0_7g_14])), (a0_7_10, .inl (ka0_7_10, 9, .inl (fa0_7_10))), (a0_7_11, .inl (ka0_7_11, 9, .inl (fa0_7_11))), (a0_3_3, .inl (ka0_3_3, 3, .inl (fa0_3_3))), (a0_3_2, .inl (ka0_3_2, 3, .inl (fa0_3_2)))] s.heap.size = A at hD ⊢
  have hA : ∀ q : Nat, s.heap.size ≤ q → A q := fun q h => by rw [← hAe]; exact Or.inr h
  have hS : va_S A s.heap s.heap [] := va_S.rf
  have hP : va_P (dC, dI) vwCl [(a0, .inr (7, [a0g_0, .ref a0_1, .ref a0_2, .ref a0_3, a0g_4, a0g_5, a0g_6, .ref a0_7, a0g_8, a0g_9, a0g_10])), (a0_3, .inr (6, [.int a0_3_0, .int a0_3_1, .ref a0_3_2, .ref a0_3_3])), (a0_2, .inr (5, [.int a0_2_0, .int a0_2_1, .int a0_2_2, .int a0_2_3, .int a0_2_4, .ref a0_2_5, .ref a0_2_6])), (a0_1, .inr (5, [.int a0_1_0, .int a0_1_1, .int a0_1_2, .int a0_1_3, .int a0_1_4, .ref a0_1_5, .ref a0_1_6])), (a0_1_5, .inl (ka0_1_5, 9, .inl (fa0_1_5))), (a0_2_5, .inl (ka0_2_5, 9, .inl (fa0_2_5))), (a0_1_6, .inl (ka0_1_6, 9, .inl (fa0_1_6))), (a0_2_6, .inl (ka0_2_6, 9, .inl (fa0_2_6))), (a0_7, .inr (0, [.int a0_7_0, .int a0_7_1, .int a0_7_2, a0_7g_3, a0_7g_4, .int a0_7_5, .int a0_7_6, a0_7g_7, a0_7g_8, a0_7g_9, .ref a0_7_10, .ref a0_7_11, a0_7g_12, a0_7g_13, a0_7g_14])), (a0_7_10, .inl (ka0_7_10, 9, .inl (fa0_7_10))), (a0_7_11, .inl (ka0_7_11, 9, .inl (fa0_7_11))), (a0_3_3, .inl (ka0_3_3, 3, .inl (fa0_3_3))), (a0_3_2, .inl (ka0_3_2, 3, .inl (fa0_3_2)))] s.heap := hP
  obtain ⟨hE0, hE1, hE2⟩ := hE
  have hl := lv_entry ([.ref a0, .int a1, .int a2]) (n := 3) (Nat.le_of_ble_eq_true rfl)
  rw [lg_entry_eq]
  generalize (lg_sl ([.ref a0, .int a1, .int a2]) ++ List.replicate (3 - (lg_sl ([.ref a0, .int a1, .int a2])).length) Slot.unset).toArray = ls at hl ⊢
  have hl : lv_has ls 3 [(0, .ref a0), (1, .int a1), (2, .int a2)] := hl
  refine lv_aload_n hx hb dX7_postsHold_0 rfl (lv_at hl 0 rfl) ?_
  refine va_get (D := (dC, dI)) (ci := 7) (v := .ref a0_3) (C := RX7) (T := TX7) (N := 11) hx hb hts zi_X7_postsHold_7 hown hK hP 0 rfl rfl 3 (by decide) (hts (.fieldLink RX7 29 "WaxTurns" "trial" "LWaxTurns$Watchers;") (zm_X7_postsHold_r1 (List.mem_of_getElem? (i := 0) rfl))) (fun _ h9 => h9) rfl dX7_postsHold_1 ?_
  refine lv_iload_n hx hb dX7_postsHold_4 rfl (lv_at hl 1 rfl) ?_
  refine va_put (D := (dC, dI)) (ci := 6) (v := .int a1) (ty := .int) (C := RX6) (T := TX6) (N := 4) hx hb hts zi_X7_postsHold_6 tyX6 tyX6_ok nmX6 hown hK hP hD hS 1 rfl rfl 1 (by decide) (hts (.fieldLink RX7 375 "WaxTurns$Watchers" "posts" "I") (zm_X7_postsHold_r1 (List.mem_of_getElem? (i := 1) rfl))) (fun _ h9 => h9) rfl (tyX6_ok 1 (by decide)) rfl rfl (Nat.le_of_ble_eq_true rfl) dX7_postsHold_5 (fun H locs hP hD hS => ?_)
  obtain ⟨hP, hD⟩ := zc_re (w := [(a0, .inr (7, [a0g_0, .ref a0_1, .ref a0_2, .ref a0_3, a0g_4, a0g_5, a0g_6, .ref a0_7, a0g_8, a0g_9, a0g_10])), (a0_3, .inr (6, [.int a0_3_0, .int a1, .ref a0_3_2, .ref a0_3_3])), (a0_2, .inr (5, [.int a0_2_0, .int a0_2_1, .int a0_2_2, .int a0_2_3, .int a0_2_4, .ref a0_2_5, .ref a0_2_6])), (a0_1, .inr (5, [.int a0_1_0, .int a0_1_1, .int a0_1_2, .int a0_1_3, .int a0_1_4, .ref a0_1_5, .ref a0_1_6])), (a0_1_5, .inl (ka0_1_5, 9, .inl (fa0_1_5))), (a0_2_5, .inl (ka0_2_5, 9, .inl (fa0_2_5))), (a0_1_6, .inl (ka0_1_6, 9, .inl (fa0_1_6))), (a0_2_6, .inl (ka0_2_6, 9, .inl (fa0_2_6))), (a0_7, .inr (0, [.int a0_7_0, .int a0_7_1, .int a0_7_2, a0_7g_3, a0_7g_4, .int a0_7_5, .int a0_7_6, a0_7g_7, a0_7g_8, a0_7g_9, .ref a0_7_10, .ref a0_7_11, a0_7g_12, a0_7g_13, a0_7g_14])), (a0_7_10, .inl (ka0_7_10, 9, .inl (fa0_7_10))), (a0_7_11, .inl (ka0_7_11, 9, .inl (fa0_7_11))), (a0_3_3, .inl (ka0_3_3, 3, .inl (fa0_3_3))), (a0_3_2, .inl (ka0_3_2, 3, .inl (fa0_3_2)))]) hP hD rfl
  refine lv_aload_n hx hb dX7_postsHold_8 rfl (lv_at hl 0 rfl) ?_
  refine va_get (D := (dC, dI)) (ci := 7) (v := .ref a0_2) (C := RX7) (T := TX7) (N := 11) hx hb hts zi_X7_postsHold_7 hown hK hP 0 rfl rfl 2 (by decide) (hts (.fieldLink RX7 23 "WaxTurns" "ahead" "LWaxTurns$Scene;") (zm_X7_postsHold_r1 (List.mem_of_getElem? (i := 2) rfl))) (fun _ h9 => h9) rfl dX7_postsHold_9 ?_
  refine lv_aload_n hx hb dX7_postsHold_12 rfl (lv_at hl 0 rfl) ?_
  refine va_get (D := (dC, dI)) (ci := 7) (v := .ref a0_1) (C := RX7) (T := TX7) (N := 11) hx hb hts zi_X7_postsHold_7 hown hK hP 0 rfl rfl 1 (by decide) (hts (.fieldLink RX7 19 "WaxTurns" "now" "LWaxTurns$Scene;") (zm_X7_postsHold_r1 (List.mem_of_getElem? (i := 3) rfl))) (fun _ h9 => h9) rfl dX7_postsHold_13 ?_
  obtain ⟨hPc, hDc, hFc, hCc⟩ := zc_cut (wc := [(a0_2, .inr (5, [.int a0_2_0, .int a0_2_1, .int a0_2_2, .int a0_2_3, .int a0_2_4, .ref a0_2_5, .ref a0_2_6])), (a0_1, .inr (5, [.int a0_1_0, .int a0_1_1, .int a0_1_2, .int a0_1_3, .int a0_1_4, .ref a0_1_5, .ref a0_1_6])), (a0_1_5, .inl (ka0_1_5, 9, .inl (fa0_1_5))), (a0_2_5, .inl (ka0_2_5, 9, .inl (fa0_2_5))), (a0_1_6, .inl (ka0_1_6, 9, .inl (fa0_1_6))), (a0_2_6, .inl (ka0_2_6, 9, .inl (fa0_2_6)))]) hP hD hS hA [2, 3, 4, 5, 6, 7] (by decide +kernel) rfl
  have hKc := hK.sub (tys' := [(ka0_1_5, .int), (ka0_2_5, .int), (ka0_1_6, .int), (ka0_2_6, .int)]) [0, 1, 2, 3] rfl
  refine va_callv (va_runV (As := [.ref a0_1]) (rest := []) ⟨hx, hb, hml, hown, hts⟩ (c_X5_copyFrom l dC dI H.size a0_2 a0_1 a0_2_0 a0_2_1 a0_2_2 a0_2_3 a0_2_4 a0_2_5 a0_2_6 a0_1_0 a0_1_1 a0_1_2 a0_1_3 a0_1_4 a0_1_5 a0_1_6 ka0_1_5 fa0_1_5 ka0_2_5 fa0_2_5 ka0_1_6 fa0_1_6 ka0_2_6 fa0_2_6 ba0_2_1_l ba0_2_1_u ba0_1_1_l ba0_1_1_u) (cwV 1 hts gX7_postsHold_X5_copyFrom rfl rfl rfl zd_X5_copyFrom ⟨Nat.le_of_ble_eq_true rfl, Nat.le_of_ble_eq_true rfl⟩) ⟨ax_blind (fun _ _ _ _ _ => trivial), zr_5 hKc hPc (q0 := 0) rfl, ax_pre hPc hKc hDc (fun _ _ => trivial)⟩ rfl rfl hl.1 rfl (lv_room (Nat.le_of_ble_eq_true rfl)) dX7_postsHold_16 ⟨Nat.le_of_ble_eq_true rfl, Nat.le_of_ble_eq_true rfl⟩) hS (fun q _ h => hFc q h) hFc (fun u t H locs ht hvm hw hB hz1 hk1 hS => ?_)
  obtain ⟨v16na0_0, v16na0_1, v16na0_2, v16na0_3, v16na0_4, v16nfa0_5, v16nfa0_6, bv16na0_1, hP1, hK1, hD1⟩ := hB
  rw [ht] at hP1
  obtain ⟨hP, hD⟩ := zc_back (w := [(a0, .inr (7, [a0g_0, .ref a0_1, .ref a0_2, .ref a0_3, a0g_4, a0g_5, a0g_6, .ref a0_7, a0g_8, a0g_9, a0g_10])), (a0_3, .inr (6, [.int a0_3_0, .int a1, .ref a0_3_2, .ref a0_3_3])), (a0_2, .inr (5, [.int v16na0_0, .int v16na0_1, .int v16na0_2, .int v16na0_3, .int v16na0_4, .ref a0_2_5, .ref a0_2_6])), (a0_1, .inr (5, [.int a0_1_0, .int a0_1_1, .int a0_1_2, .int a0_1_3, .int a0_1_4, .ref a0_1_5, .ref a0_1_6])), (a0_1_5, .inl (ka0_1_5, 9, .inl (fa0_1_5))), (a0_2_5, .inl (ka0_2_5, 9, .inl (v16nfa0_5))), (a0_1_6, .inl (ka0_1_6, 9, .inl (fa0_1_6))), (a0_2_6, .inl (ka0_2_6, 9, .inl (v16nfa0_6))), (a0_7, .inr (0, [.int a0_7_0, .int a0_7_1, .int a0_7_2, a0_7g_3, a0_7g_4, .int a0_7_5, .int a0_7_6, a0_7g_7, a0_7g_8, a0_7g_9, .ref a0_7_10, .ref a0_7_11, a0_7g_12, a0_7g_13, a0_7g_14])), (a0_7_10, .inl (ka0_7_10, 9, .inl (fa0_7_10))), (a0_7_11, .inl (ka0_7_11, 9, .inl (fa0_7_11))), (a0_3_3, .inl (ka0_3_3, 3, .inl (fa0_3_3))), (a0_3_2, .inl (ka0_3_2, 3, .inl (fa0_3_2)))]) hP hD hCc hk1 hFc hP1 hD1 [.inl 0, .inl 1, .inr 0, .inr 1, .inr 2, .inr 3, .inr 4, .inr 5, .inl 8, .inl 9, .inl 10, .inl 11, .inl 12] (by decide +kernel) rfl
  refine lv_aload_n hx hb dX7_postsHold_19 rfl (lv_at hl 0 rfl) ?_
  refine lv_aload_n hx hb dX7_postsHold_20 rfl (lv_at hl 0 rfl) ?_
  refine va_get (D := (dC, dI)) (ci := 7) (v := .ref a0_3) (C := RX7) (T := TX7) (N := 11) hx hb hts zi_X7_postsHold_7 hown hK hP 0 rfl rfl 3 (by decide) (hts (.fieldLink RX7 29 "WaxTurns" "trial" "LWaxTurns$Watchers;") (zm_X7_postsHold_r1 (List.mem_of_getElem? (i := 0) rfl))) (fun _ h9 => h9) rfl dX7_postsHold_21 ?_
  refine lv_iload_n hx hb dX7_postsHold_24 rfl (lv_at hl 2 rfl) ?_
  obtain ⟨hPc, hDc, hFc, hCc⟩ := zc_cut (wc := [(a0, .inr (7, [a0g_0, .ref a0_1, .ref a0_2, .ref a0_3, a0g_4, a0g_5, a0g_6, .ref a0_7, a0g_8, a0g_9, a0g_10])), (a0_2, .inr (5, [.int v16na0_0, .int v16na0_1, .int v16na0_2, .int v16na0_3, .int v16na0_4, .ref a0_2_5, .ref a0_2_6])), (a0_7, .inr (0, [.int a0_7_0, .int a0_7_1, .int a0_7_2, a0_7g_3, a0_7g_4, .int a0_7_5, .int a0_7_6, a0_7g_7, a0_7g_8, a0_7g_9, .ref a0_7_10, .ref a0_7_11, a0_7g_12, a0_7g_13, a0_7g_14])), (a0_7_10, .inl (ka0_7_10, 9, .inl (fa0_7_10))), (a0_7_11, .inl (ka0_7_11, 9, .inl (fa0_7_11))), (a0_2_5, .inl (ka0_2_5, 9, .inl (v16nfa0_5))), (a0_3, .inr (6, [.int a0_3_0, .int a1, .ref a0_3_2, .ref a0_3_3])), (a0_3_3, .inl (ka0_3_3, 3, .inl (fa0_3_3))), (a0_3_2, .inl (ka0_3_2, 3, .inl (fa0_3_2))), (a0_2_6, .inl (ka0_2_6, 9, .inl (v16nfa0_6)))]) hP hD hS hA [0, 2, 8, 9, 10, 5, 1, 11, 12, 7] (by decide +kernel) rfl
  have hKc := hK.sub (tys' := [(ka0_7_10, .int), (ka0_7_11, .int), (ka0_2_5, .int), (ka0_3_3, .int), (ka0_3_2, .int), (ka0_2_6, .int)]) [4, 5, 1, 6, 7, 3] rfl
  refine va_calli (va_runV (As := [.ref a0_3, .int a2]) (rest := []) ⟨hx, hb, hml, hown, hts⟩ (c_X7_minutesTillGone l dC dI H.size a0 a0_3 a2 a0g_0 (.ref a0_1) (.ref a0_3) a0g_4 a0g_5 a0g_6 a0g_8 a0g_9 a0g_10 a0_2 a0_7 v16na0_0 v16na0_1 v16na0_2 v16na0_3 v16na0_4 a0_2_5 a0_2_6 a0_7_0 a0_7_1 a0_7_2 a0_7g_3 a0_7g_4 a0_7g_7 a0_7g_8 a0_7g_9 a0_7g_12 a0_7g_13 a0_7g_14 a0_7_5 a0_7_6 a0_7_10 a0_7_11 ka0_7_10 fa0_7_10 ka0_7_11 fa0_7_11 ka0_2_5 v16nfa0_5 a0_3_0 a1 a0_3_2 a0_3_3 ka0_3_3 fa0_3_3 ka0_3_2 fa0_3_2 ka0_2_6 v16nfa0_6 ba2_l (Int.le_trans ba2_u zq63) bv16na0_1.1 bv16na0_1.2 ba0_7_0_l ba0_7_0_u ba0_7_5_l ba0_7_5_u ba0_7_6_l ba0_7_6_u ba0_3_0_l ba0_3_0_u bfa0_3_3 bfa0_3_2) (cwV 2 hts gX7_postsHold_X7_minutesTillGone rfl rfl rfl zd_X7_minutesTillGone ⟨Nat.le_of_ble_eq_true rfl, Nat.le_of_ble_eq_true rfl⟩) ⟨ax_blind (fun _ _ _ _ hq => ⟨va_Nw.same rfl rfl (hq.1), va_Nw.same rfl rfl (hq.2.1), va_Nw.same rfl rfl (hq.2.2)⟩), zr_7 hKc hPc (q0 := 0) rfl, ax_pre hPc hKc hDc (fun _ hW => ⟨va_Nw.warmM hW hE0, va_Nw.warmM hW hE1, va_Nw.warmM hW hE2⟩)⟩ rfl rfl hl.1 rfl (lv_room (Nat.le_of_ble_eq_true rfl)) dX7_postsHold_25 ⟨Nat.le_of_ble_eq_true rfl, Nat.le_of_ble_eq_true rfl⟩) hS (fun q _ h => hFc q h) hFc (fun r25 u t H locs ht hvm hw hB hz1 hk1 hS => ?_)
  obtain ⟨v25na0_2_0, v25na0_2_1, v25na0_2_2, v25na0_2_3, v25na0_2_4, v25nfa0_2_5, v25nfa0_2_6, bv25na0_2_1, hP1, hK1, hD1⟩ := hB
  rw [ht] at hP1
  obtain ⟨hP, hD⟩ := zc_back (w := [(a0, .inr (7, [a0g_0, .ref a0_1, .ref a0_2, .ref a0_3, a0g_4, a0g_5, a0g_6, .ref a0_7, a0g_8, a0g_9, a0g_10])), (a0_3, .inr (6, [.int a0_3_0, .int a1, .ref a0_3_2, .ref a0_3_3])), (a0_2, .inr (5, [.int v25na0_2_0, .int v25na0_2_1, .int v25na0_2_2, .int v25na0_2_3, .int v25na0_2_4, .ref a0_2_5, .ref a0_2_6])), (a0_1, .inr (5, [.int a0_1_0, .int a0_1_1, .int a0_1_2, .int a0_1_3, .int a0_1_4, .ref a0_1_5, .ref a0_1_6])), (a0_1_5, .inl (ka0_1_5, 9, .inl (fa0_1_5))), (a0_2_5, .inl (ka0_2_5, 9, .inl (v25nfa0_2_5))), (a0_1_6, .inl (ka0_1_6, 9, .inl (fa0_1_6))), (a0_2_6, .inl (ka0_2_6, 9, .inl (v25nfa0_2_6))), (a0_7, .inr (0, [.int a0_7_0, .int a0_7_1, .int a0_7_2, a0_7g_3, a0_7g_4, .int a0_7_5, .int a0_7_6, a0_7g_7, a0_7g_8, a0_7g_9, .ref a0_7_10, .ref a0_7_11, a0_7g_12, a0_7g_13, a0_7g_14])), (a0_7_10, .inl (ka0_7_10, 9, .inl (fa0_7_10))), (a0_7_11, .inl (ka0_7_11, 9, .inl (fa0_7_11))), (a0_3_3, .inl (ka0_3_3, 3, .inl (fa0_3_3))), (a0_3_2, .inl (ka0_3_2, 3, .inl (fa0_3_2)))]) hP hD hCc hk1 hFc hP1 hD1 [.inr 0, .inr 6, .inr 1, .inl 3, .inl 4, .inr 5, .inl 6, .inr 9, .inr 2, .inr 3, .inr 4, .inr 7, .inr 8] (by decide +kernel) rfl
  have hw : (-2 : Int) ≤ r25.toInt ∧ r25.toInt ≤ (300 : Int) := hw
  obtain ⟨h25_0, h25_1⟩ := hw
  refine lv_bipush (v := (-2)) hx hb dX7_postsHold_28 zk_bipush_n2 ?_
  refine lv_icmp_ne (tgt := 37) hx hb dX7_postsHold_30 (by decide) (fun c30 => ?_) (fun c30 => ?_)
  · have gc30 := ai_ne c30
    have l30t_r25 : (-1 : Int) ≤ r25.toInt := (by have h1 := h25_0; have h2 : ((-2) : Int32).toInt = -2 := (by decide); rw [h2] at gc30; omega)
    refine lv_iconst (v := 0) hx hb dX7_postsHold_37 zk_iconst_0 ?_
    exact W.zret (v := 0) hx hb hr rfl (fun t ht hW => ⟨⟨0, (), rfl, (Or.inr (rfl)), a1, v25na0_2_0, v25na0_2_1, v25na0_2_2, v25na0_2_3, v25na0_2_4, v25nfa0_2_5, v25nfa0_2_6, ⟨bv25na0_2_1.1, bv25na0_2_1.2⟩, by rw [ht]; exact hP, va_K.moved hW.alike hK, hD⟩, hS.F ht⟩) hS.2.2 dX7_postsHold_38
  · have gc30 := ai_eq c30
    have u30f_r25 : r25.toInt ≤ (-2 : Int) := Int.le_trans (Int.le_of_eq gc30) zq44
    have l30f_r25 : (-2 : Int) ≤ r25.toInt := h25_0
    refine lv_iconst (v := 1) hx hb dX7_postsHold_33 zk_iconst_1 ?_
    refine lv_goto (tgt := 38) hx hb dX7_postsHold_34 (by decide) ?_
    exact W.zret (v := 1) hx hb hr rfl (fun t ht hW => ⟨⟨1, (), rfl, (Or.inl (rfl)), a1, v25na0_2_0, v25na0_2_1, v25na0_2_2, v25na0_2_3, v25na0_2_4, v25nfa0_2_5, v25nfa0_2_6, ⟨bv25na0_2_1.1, bv25na0_2_1.2⟩, by rw [ht]; exact hP, va_K.moved hW.alike hK, hD⟩, hS.F ht⟩) hS.2.2 dX7_postsHold_38

set_option maxHeartbeats 4000000 in
set_option maxRecDepth 100000 in
theorem c_X7_figureShare (l : Launch) (dC : Nat → ClassId) (dI : Nat → Nat → Nat) (sz : Nat) (a1 : Int32) (a2 : Int32) (a3 : Int32)  : Met l yX7_figureShare wsX7_figureShare ({ frames := 0, cells := 0, slots := 0, locals := 0 }) (va_Pc [.int a1, .int a2, .int a3] (ax_C dC dI sz [] [] (fun _ => True))) (va_Qi (fun (r : Int32) (_ : Unit) => True) (fun (_ : Unit) (t : State) => ax_B dC dI (va_A [] sz) [] [] t) (va_A [] sz)) 0 0 (va_A [] sz) := by
  refine Met.ofW (cc := cX7_figureShare) (maxL := 3) (ret := (some .int)) (by decide) rfl ?_
  intro p e s m args below meth c s₁ B hml hv
  obtain ⟨rfl, hsz, hP, hK, hD0, hE⟩ := hv
  have hx := B.exec
  have hb := B.bytes
  have hr := B.returns
  have hts := atoms_spec (ws := wsX7_figureShare) B.pre
  have hown : s.vm.findClass RX7 = some m.cls := findClass_of_methodNamed B.named
  have hlocks := B.notSynchronized
  subst hsz
  have hD := hD0.self (sz := s.heap.size)
  generalize hAe : va_A [] s.heap.size = A at hD ⊢
  have hA : ∀ q : Nat, s.heap.size ≤ q → A q := fun q h => by rw [← hAe]; exact Or.inr h
  have hS : va_S A s.heap s.heap [] := va_S.rf
  have hP : va_P (dC, dI) vwCl [] s.heap := hP
  have hl := lv_entry ([.int a1, .int a2, .int a3]) (n := 3) (Nat.le_of_ble_eq_true rfl)
  rw [lg_entry_eq]
  generalize (lg_sl ([.int a1, .int a2, .int a3]) ++ List.replicate (3 - (lg_sl ([.int a1, .int a2, .int a3])).length) Slot.unset).toArray = ls at hl ⊢
  have hl : lv_has ls 3 [(0, .int a1), (1, .int a2), (2, .int a3)] := hl
  refine lv_iload_n hx hb dX7_figureShare_0 rfl (lv_at hl 1 rfl) ?_
  refine lv_if_eq (tgt := 15) hx hb dX7_figureShare_1 (by decide) (fun c1 => ?_) (fun c1 => ?_)
  · have gc1 := ai_eq c1
    have u1t_a2 : a2.toInt ≤ (0 : Int) := Int.le_trans (Int.le_of_eq gc1) zq6
    have l1t_a2 : (0 : Int) ≤ a2.toInt := Int.le_trans zq5 (Int.le_of_eq gc1.symm)
    refine lv_iload_n hx hb dX7_figureShare_15 rfl (lv_at hl 2 rfl) ?_
    refine lv_if_eq (tgt := 23) hx hb dX7_figureShare_16 (by decide) (fun c16 => ?_) (fun c16 => ?_)
    · have gc16 := ai_eq c16
      have u16t_a3 : a3.toInt ≤ (0 : Int) := Int.le_trans (Int.le_of_eq gc16) zq6
      have l16t_a3 : (0 : Int) ≤ a3.toInt := Int.le_trans zq5 (Int.le_of_eq gc16.symm)
      refine lv_iconst (v := 0) hx hb dX7_figureShare_23 zk_iconst_0 ?_
      exact W.iret (v := 0) hx hb hr (fun t ht hW => ⟨⟨0, (), rfl, trivial, by rw [ht]; exact hP, va_K.moved hW.alike hK, hD⟩, hS.F ht⟩) hS.2.2 dX7_figureShare_24
    · have gc16 := ai_ne c16
      refine lv_iconst (v := 1) hx hb dX7_figureShare_19 zk_iconst_1 ?_
      refine lv_goto (tgt := 24) hx hb dX7_figureShare_20 (by decide) ?_
      exact W.iret (v := 1) hx hb hr (fun t ht hW => ⟨⟨1, (), rfl, trivial, by rw [ht]; exact hP, va_K.moved hW.alike hK, hD⟩, hS.F ht⟩) hS.2.2 dX7_figureShare_24
  · have gc1 := ai_ne c1
    refine lv_iload_n hx hb dX7_figureShare_4 rfl (lv_at hl 2 rfl) ?_
    refine lv_if_eq (tgt := 13) hx hb dX7_figureShare_5 (by decide) (fun c5 => ?_) (fun c5 => ?_)
    · have gc5 := ai_eq c5
      have u5t_a3 : a3.toInt ≤ (0 : Int) := Int.le_trans (Int.le_of_eq gc5) zq6
      have l5t_a3 : (0 : Int) ≤ a3.toInt := Int.le_trans zq5 (Int.le_of_eq gc5.symm)
      refine lv_iconst (v := 4) hx hb dX7_figureShare_13 zk_iconst_4 ?_
      exact W.iret (v := 4) hx hb hr (fun t ht hW => ⟨⟨4, (), rfl, trivial, by rw [ht]; exact hP, va_K.moved hW.alike hK, hD⟩, hS.F ht⟩) hS.2.2 dX7_figureShare_14
    · have gc5 := ai_ne c5
      refine lv_iload_n hx hb dX7_figureShare_8 rfl (lv_at hl 0 rfl) ?_
      refine lv_ineg hx hb dX7_figureShare_9 ?_
      refine lv_topi (fun x9 ex9 => ?_)
      refine lv_goto (tgt := 14) hx hb dX7_figureShare_10 (by decide) ?_
      exact W.iret (v := x9) hx hb hr (fun t ht hW => ⟨⟨x9, (), rfl, trivial, by rw [ht]; exact hP, va_K.moved hW.alike hK, hD⟩, hS.F ht⟩) hS.2.2 dX7_figureShare_14

set_option maxHeartbeats 4000000 in
set_option maxRecDepth 100000 in
theorem c_X7_attendantShare (l : Launch) (dC : Nat → ClassId) (dI : Nat → Nat → Nat) (sz : Nat) (a1 : Int32) (a2 : Int32)  : Met l yX7_attendantShare wsX7_attendantShare ({ frames := 0, cells := 0, slots := 0, locals := 0 }) (va_Pc [.int a1, .int a2] (ax_C dC dI sz [] [] (fun _ => True))) (va_Qi (fun (r : Int32) (_ : Unit) => (r = 3) ∨ (r = 1 ∧ (0 : Int) ≤ a1.toInt ∧ a1.toInt ≤ (0 : Int) ∧ (0 : Int) ≤ a2.toInt ∧ a2.toInt ≤ (0 : Int)) ∨ (r = 0 ∧ (0 : Int) ≤ a2.toInt ∧ a2.toInt ≤ (0 : Int)) ∨ (r = (-1) ∧ (0 : Int) ≤ a1.toInt ∧ a1.toInt ≤ (0 : Int))) (fun (_ : Unit) (t : State) => ax_B dC dI (va_A [] sz) [] [] t) (va_A [] sz)) 0 0 (va_A [] sz) := by
  refine Met.ofW (cc := cX7_attendantShare) (maxL := 2) (ret := (some .int)) (by decide) rfl ?_
  intro p e s m args below meth c s₁ B hml hv
  obtain ⟨rfl, hsz, hP, hK, hD0, hE⟩ := hv
  have hx := B.exec
  have hb := B.bytes
  have hr := B.returns
  have hts := atoms_spec (ws := wsX7_attendantShare) B.pre
  have hown : s.vm.findClass RX7 = some m.cls := findClass_of_methodNamed B.named
  have hlocks := B.notSynchronized
  subst hsz
  have hD := hD0.self (sz := s.heap.size)
  generalize hAe : va_A [] s.heap.size = A at hD ⊢
  have hA : ∀ q : Nat, s.heap.size ≤ q → A q := fun q h => by rw [← hAe]; exact Or.inr h
  have hS : va_S A s.heap s.heap [] := va_S.rf
  have hP : va_P (dC, dI) vwCl [] s.heap := hP
  have hl := lv_entry ([.int a1, .int a2]) (n := 2) (Nat.le_of_ble_eq_true rfl)
  rw [lg_entry_eq]
  generalize (lg_sl ([.int a1, .int a2]) ++ List.replicate (2 - (lg_sl ([.int a1, .int a2])).length) Slot.unset).toArray = ls at hl ⊢
  have hl : lv_has ls 2 [(0, .int a1), (1, .int a2)] := hl
  refine lv_iload_n hx hb dX7_attendantShare_0 rfl (lv_at hl 0 rfl) ?_
  refine lv_if_eq (tgt := 14) hx hb dX7_attendantShare_1 (by decide) (fun c1 => ?_) (fun c1 => ?_)
  · have gc1 := ai_eq c1
    have u1t_a1 : a1.toInt ≤ (0 : Int) := Int.le_trans (Int.le_of_eq gc1) zq6
    have l1t_a1 : (0 : Int) ≤ a1.toInt := Int.le_trans zq5 (Int.le_of_eq gc1.symm)
    refine lv_iload_n hx hb dX7_attendantShare_14 rfl (lv_at hl 1 rfl) ?_
    refine lv_if_eq (tgt := 22) hx hb dX7_attendantShare_15 (by decide) (fun c15 => ?_) (fun c15 => ?_)
    · have gc15 := ai_eq c15
      have u15t_a2 : a2.toInt ≤ (0 : Int) := Int.le_trans (Int.le_of_eq gc15) zq6
      have l15t_a2 : (0 : Int) ≤ a2.toInt := Int.le_trans zq5 (Int.le_of_eq gc15.symm)
      refine lv_iconst (v := 1) hx hb dX7_attendantShare_22 zk_iconst_1 ?_
      exact W.iret (v := 1) hx hb hr (fun t ht hW => ⟨⟨1, (), rfl, (Or.inr (Or.inl ⟨rfl, l1t_a1, u1t_a1, l15t_a2, u15t_a2⟩)), by rw [ht]; exact hP, va_K.moved hW.alike hK, hD⟩, hS.F ht⟩) hS.2.2 dX7_attendantShare_23
    · have gc15 := ai_ne c15
      refine lv_iconst (v := (-1)) hx hb dX7_attendantShare_18 zk_iconst_n1 ?_
      refine lv_goto (tgt := 23) hx hb dX7_attendantShare_19 (by decide) ?_
      exact W.iret (v := (-1)) hx hb hr (fun t ht hW => ⟨⟨(-1), (), rfl, (Or.inr (Or.inr (Or.inr (⟨rfl, l1t_a1, u1t_a1⟩)))), by rw [ht]; exact hP, va_K.moved hW.alike hK, hD⟩, hS.F ht⟩) hS.2.2 dX7_attendantShare_23
  · have gc1 := ai_ne c1
    refine lv_iload_n hx hb dX7_attendantShare_4 rfl (lv_at hl 1 rfl) ?_
    refine lv_if_eq (tgt := 12) hx hb dX7_attendantShare_5 (by decide) (fun c5 => ?_) (fun c5 => ?_)
    · have gc5 := ai_eq c5
      have u5t_a2 : a2.toInt ≤ (0 : Int) := Int.le_trans (Int.le_of_eq gc5) zq6
      have l5t_a2 : (0 : Int) ≤ a2.toInt := Int.le_trans zq5 (Int.le_of_eq gc5.symm)
      refine lv_iconst (v := 0) hx hb dX7_attendantShare_12 zk_iconst_0 ?_
      exact W.iret (v := 0) hx hb hr (fun t ht hW => ⟨⟨0, (), rfl, (Or.inr (Or.inr (Or.inl ⟨rfl, l5t_a2, u5t_a2⟩))), by rw [ht]; exact hP, va_K.moved hW.alike hK, hD⟩, hS.F ht⟩) hS.2.2 dX7_attendantShare_13
    · have gc5 := ai_ne c5
      refine lv_iconst (v := 3) hx hb dX7_attendantShare_8 zk_iconst_3 ?_
      refine lv_goto (tgt := 13) hx hb dX7_attendantShare_9 (by decide) ?_
      exact W.iret (v := 3) hx hb hr (fun t ht hW => ⟨⟨3, (), rfl, (Or.inl (rfl)), by rw [ht]; exact hP, va_K.moved hW.alike hK, hD⟩, hS.F ht⟩) hS.2.2 dX7_attendantShare_13

set_option maxHeartbeats 4000000 in
set_option maxRecDepth 100000 in
theorem c_X7_isRest (l : Launch) (dC : Nat → ClassId) (dI : Nat → Nat → Nat) (sz : Nat) (a1 : Int32) (a2 : Int32) (a3 : Int32)  : Met l yX7_isRest wsX7_isRest ({ frames := 1, cells := 0, slots := 0, locals := 22 }) (va_Pc [.int a1, .int a2, .int a3] (ax_C dC dI sz [] [] (fun _ => True))) (va_Qi (fun (r : Int32) (_ : Unit) => (r = 1) ∨ (r = 0)) (fun (_ : Unit) (t : State) => ax_B dC dI (va_A [] sz) [] [] t) (va_A [] sz)) 0 0 (va_A [] sz) := by
  refine Met.ofW (cc := cX7_isRest) (maxL := 3) (ret := (some .boolean)) (by decide) rfl ?_
  intro p e s m args below meth c s₁ B hml hv
  obtain ⟨rfl, hsz, hP, hK, hD0, hE⟩ := hv
  have hx := B.exec
  have hb := B.bytes
  have hr := B.returns
  have hts := atoms_spec (ws := wsX7_isRest) B.pre
  have hown : s.vm.findClass RX7 = some m.cls := findClass_of_methodNamed B.named
  have hlocks := B.notSynchronized
  subst hsz
  have hD := hD0.self (sz := s.heap.size)
  generalize hAe : va_A [] s.heap.size = A at hD ⊢
  have hA : ∀ q : Nat, s.heap.size ≤ q → A q := fun q h => by rw [← hAe]; exact Or.inr h
  have hS : va_S A s.heap s.heap [] := va_S.rf
  have hP : va_P (dC, dI) vwCl [] s.heap := hP
  have hl := lv_entry ([.int a1, .int a2, .int a3]) (n := 3) (Nat.le_of_ble_eq_true rfl)
  rw [lg_entry_eq]
  generalize (lg_sl ([.int a1, .int a2, .int a3]) ++ List.replicate (3 - (lg_sl ([.int a1, .int a2, .int a3])).length) Slot.unset).toArray = ls at hl ⊢
  have hl : lv_has ls 3 [(0, .int a1), (1, .int a2), (2, .int a3)] := hl
  refine lv_iload_n hx hb dX7_isRest_0 rfl (lv_at hl 0 rfl) ?_
  refine lv_iload_n hx hb dX7_isRest_1 rfl (lv_at hl 1 rfl) ?_
  refine lv_iload_n hx hb dX7_isRest_2 rfl (lv_at hl 2 rfl) ?_
  obtain ⟨hPc, hDc, hFc, hCc⟩ := zc_cut (wc := []) hP hD hS hA [] (by decide +kernel) rfl
  have hKc := hK.sub (tys' := []) [] rfl
  refine va_calli (va_runS (As := [.int a1, .int a2, .int a3]) (rest := []) ⟨hx, hb, hml, hown, hts⟩ (c_X7_figureShare l dC dI s.heap.size a1 a2 a3 ) (va_cwS 3 hts gX7_isRest_X7_figureShare rfl rfl rfl zd_X7_figureShare.2 ⟨Nat.le_of_ble_eq_true rfl, Nat.le_of_ble_eq_true rfl⟩) ⟨ax_blind (fun _ _ _ _ _ => trivial), ax_pre hPc hKc hDc (fun _ _ => trivial)⟩ rfl rfl hl.1 rfl (lv_room (Nat.le_of_ble_eq_true rfl)) dX7_isRest_3 ⟨Nat.le_of_ble_eq_true rfl, Nat.le_of_ble_eq_true rfl⟩) hS (fun q _ h => hFc q h) hFc (fun r3 u t H locs ht hvm hw hB hz1 hk1 hS => ?_)
  obtain ⟨hP1, hK1, hD1⟩ := hB
  rw [ht] at hP1
  obtain ⟨hP, hD⟩ := zc_back (w := []) hP hD hCc hk1 hFc hP1 hD1 [] (by decide +kernel) rfl
  refine lv_iload_n hx hb dX7_isRest_6 rfl (lv_at hl 0 rfl) ?_
  refine lv_iload_n hx hb dX7_isRest_7 rfl (lv_at hl 1 rfl) ?_
  refine lv_if_ne (tgt := 15) hx hb dX7_isRest_8 (by decide) (fun c8 => ?_) (fun c8 => ?_)
  · have gc8 := ai_ne c8
    refine lv_iconst (v := 0) hx hb dX7_isRest_15 zk_iconst_0 ?_
    refine lv_iload_n hx hb dX7_isRest_16 rfl (lv_at hl 2 rfl) ?_
    obtain ⟨hPc, hDc, hFc, hCc⟩ := zc_cut (wc := []) hP hD hS hA [] (by decide +kernel) rfl
    have hKc := hK.sub (tys' := []) [] rfl
    refine va_calli (va_runS (As := [.int a1, .int 0, .int a3]) (rest := [.int r3]) ⟨hx, hb, hml, hown, hts⟩ (c_X7_figureShare l dC dI H.size a1 0 a3 ) (va_cwS 3 hts gX7_isRest_X7_figureShare rfl rfl rfl zd_X7_figureShare.2 ⟨Nat.le_of_ble_eq_true rfl, Nat.le_of_ble_eq_true rfl⟩) ⟨ax_blind (fun _ _ _ _ _ => trivial), ax_pre hPc hKc hDc (fun _ _ => trivial)⟩ rfl rfl hl.1 rfl (lv_room (Nat.le_of_ble_eq_true rfl)) dX7_isRest_17 ⟨Nat.le_of_ble_eq_true rfl, Nat.le_of_ble_eq_true rfl⟩) hS (fun q _ h => hFc q h) hFc (fun r17 u t H locs ht hvm hw hB hz1 hk1 hS => ?_)
    obtain ⟨hP1, hK1, hD1⟩ := hB
    rw [ht] at hP1
    obtain ⟨hP, hD⟩ := zc_back (w := []) hP hD hCc hk1 hFc hP1 hD1 [] (by decide +kernel) rfl
    refine lv_icmp_lt (tgt := 48) hx hb dX7_isRest_20 (by decide) (fun c20 => ?_) (fun c20 => ?_)
    · have gc20 := ai_lt c20
      have u20t_r3 : r3.toInt ≤ (2147483646 : Int) := ai_lthi gc20 (ai_max r17)
      have l20t_r17 : (-2147483647 : Int) ≤ r17.toInt := ai_ltlo gc20 (ai_min r3)
      refine lv_iconst (v := 0) hx hb dX7_isRest_48 zk_iconst_0 ?_
      exact W.zret (v := 0) hx hb hr rfl (fun t ht hW => ⟨⟨0, (), rfl, (Or.inr (rfl)), by rw [ht]; exact hP, va_K.moved hW.alike hK, hD⟩, hS.F ht⟩) hS.2.2 dX7_isRest_49
    · have gc20 := ai_nlt c20
      refine lv_iload_n hx hb dX7_isRest_23 rfl (lv_at hl 1 rfl) ?_
      refine lv_iload_n hx hb dX7_isRest_24 rfl (lv_at hl 2 rfl) ?_
      obtain ⟨hPc, hDc, hFc, hCc⟩ := zc_cut (wc := []) hP hD hS hA [] (by decide +kernel) rfl
      have hKc := hK.sub (tys' := []) [] rfl
      refine va_calli (va_runS (As := [.int a2, .int a3]) (rest := []) ⟨hx, hb, hml, hown, hts⟩ (c_X7_attendantShare l dC dI H.size a2 a3 ) (va_cwS 2 hts gX7_isRest_X7_attendantShare rfl rfl rfl zd_X7_attendantShare.2 ⟨Nat.le_of_ble_eq_true rfl, Nat.le_of_ble_eq_true rfl⟩) ⟨ax_blind (fun _ _ _ _ _ => trivial), ax_pre hPc hKc hDc (fun _ _ => trivial)⟩ rfl rfl hl.1 rfl (lv_room (Nat.le_of_ble_eq_true rfl)) dX7_isRest_25 ⟨Nat.le_of_ble_eq_true rfl, Nat.le_of_ble_eq_true rfl⟩) hS (fun q _ h => hFc q h) hFc (fun r25 u t H locs ht hvm hw hB hz1 hk1 hS => ?_)
      obtain ⟨hP1, hK1, hD1⟩ := hB
      rw [ht] at hP1
      obtain ⟨hP, hD⟩ := zc_back (w := []) hP hD hCc hk1 hFc hP1 hD1 [] (by decide +kernel) rfl
      rcases hw with hw | hw | hw | hw
      · subst hw
        refine lv_iload_n hx hb dX7_isRest_28 rfl (lv_at hl 1 rfl) ?_
        refine lv_iload_n hx hb dX7_isRest_29 rfl (lv_at hl 2 rfl) ?_
        refine lv_if_ne (tgt := 37) hx hb dX7_isRest_30 (by decide) (fun c30 => ?_) (fun c30 => ?_)
        · have gc30 := ai_ne c30
          refine lv_iconst (v := 0) hx hb dX7_isRest_37 zk_iconst_0 ?_
          obtain ⟨hPc, hDc, hFc, hCc⟩ := zc_cut (wc := []) hP hD hS hA [] (by decide +kernel) rfl
          have hKc := hK.sub (tys' := []) [] rfl
          refine va_calli (va_runS (As := [.int a2, .int 0]) (rest := [.int 3]) ⟨hx, hb, hml, hown, hts⟩ (c_X7_attendantShare l dC dI H.size a2 0 ) (va_cwS 2 hts gX7_isRest_X7_attendantShare rfl rfl rfl zd_X7_attendantShare.2 ⟨Nat.le_of_ble_eq_true rfl, Nat.le_of_ble_eq_true rfl⟩) ⟨ax_blind (fun _ _ _ _ _ => trivial), ax_pre hPc hKc hDc (fun _ _ => trivial)⟩ rfl rfl hl.1 rfl (lv_room (Nat.le_of_ble_eq_true rfl)) dX7_isRest_38 ⟨Nat.le_of_ble_eq_true rfl, Nat.le_of_ble_eq_true rfl⟩) hS (fun q _ h => hFc q h) hFc (fun r38 u t H locs ht hvm hw hB hz1 hk1 hS => ?_)
          obtain ⟨hP1, hK1, hD1⟩ := hB
          rw [ht] at hP1
          obtain ⟨hP, hD⟩ := zc_back (w := []) hP hD hCc hk1 hFc hP1 hD1 [] (by decide +kernel) rfl
          rcases hw with hw | hw | hw | hw
          · subst hw
            refine lv_icmp_lt (tgt := 48) hx hb dX7_isRest_41 (by decide) (fun c41 => absurd c41 (by decide +kernel)) (fun _ => ?_)
            refine lv_iconst (v := 1) hx hb dX7_isRest_44 zk_iconst_1 ?_
            refine lv_goto (tgt := 49) hx hb dX7_isRest_45 (by decide) ?_
            exact W.zret (v := 1) hx hb hr rfl (fun t ht hW => ⟨⟨1, (), rfl, (Or.inl (rfl)), by rw [ht]; exact hP, va_K.moved hW.alike hK, hD⟩, hS.F ht⟩) hS.2.2 dX7_isRest_49
          · obtain ⟨hw, h38_0, h38_1, h38_2, h38_3⟩ := hw
            subst hw
            have l38k1_a2 : (0 : Int) ≤ a2.toInt := h38_0
            have u38k1_a2 : a2.toInt ≤ (0 : Int) := h38_1
            refine lv_icmp_lt (tgt := 48) hx hb dX7_isRest_41 (by decide) (fun c41 => absurd c41 (by decide +kernel)) (fun _ => ?_)
            refine lv_iconst (v := 1) hx hb dX7_isRest_44 zk_iconst_1 ?_
            refine lv_goto (tgt := 49) hx hb dX7_isRest_45 (by decide) ?_
            exact W.zret (v := 1) hx hb hr rfl (fun t ht hW => ⟨⟨1, (), rfl, (Or.inl (rfl)), by rw [ht]; exact hP, va_K.moved hW.alike hK, hD⟩, hS.F ht⟩) hS.2.2 dX7_isRest_49
          · obtain ⟨hw, h38_0, h38_1⟩ := hw
            subst hw
            refine lv_icmp_lt (tgt := 48) hx hb dX7_isRest_41 (by decide) (fun c41 => absurd c41 (by decide +kernel)) (fun _ => ?_)
            refine lv_iconst (v := 1) hx hb dX7_isRest_44 zk_iconst_1 ?_
            refine lv_goto (tgt := 49) hx hb dX7_isRest_45 (by decide) ?_
            exact W.zret (v := 1) hx hb hr rfl (fun t ht hW => ⟨⟨1, (), rfl, (Or.inl (rfl)), by rw [ht]; exact hP, va_K.moved hW.alike hK, hD⟩, hS.F ht⟩) hS.2.2 dX7_isRest_49
          · obtain ⟨hw, h38_0, h38_1⟩ := hw
            subst hw
            have l38k3_a2 : (0 : Int) ≤ a2.toInt := h38_0
            have u38k3_a2 : a2.toInt ≤ (0 : Int) := h38_1
            refine lv_icmp_lt (tgt := 48) hx hb dX7_isRest_41 (by decide) (fun c41 => absurd c41 (by decide +kernel)) (fun _ => ?_)
            refine lv_iconst (v := 1) hx hb dX7_isRest_44 zk_iconst_1 ?_
            refine lv_goto (tgt := 49) hx hb dX7_isRest_45 (by decide) ?_
            exact W.zret (v := 1) hx hb hr rfl (fun t ht hW => ⟨⟨1, (), rfl, (Or.inl (rfl)), by rw [ht]; exact hP, va_K.moved hW.alike hK, hD⟩, hS.F ht⟩) hS.2.2 dX7_isRest_49
        · have gc30 := ai_eq c30
          have u30f_a3 : a3.toInt ≤ (0 : Int) := Int.le_trans (Int.le_of_eq gc30) zq6
          have l30f_a3 : (0 : Int) ≤ a3.toInt := Int.le_trans zq5 (Int.le_of_eq gc30.symm)
          refine lv_iconst (v := 1) hx hb dX7_isRest_33 zk_iconst_1 ?_
          refine lv_goto (tgt := 38) hx hb dX7_isRest_34 (by decide) ?_
          obtain ⟨hPc, hDc, hFc, hCc⟩ := zc_cut (wc := []) hP hD hS hA [] (by decide +kernel) rfl
          have hKc := hK.sub (tys' := []) [] rfl
          refine va_calli (va_runS (As := [.int a2, .int 1]) (rest := [.int 3]) ⟨hx, hb, hml, hown, hts⟩ (c_X7_attendantShare l dC dI H.size a2 1 ) (va_cwS 2 hts gX7_isRest_X7_attendantShare rfl rfl rfl zd_X7_attendantShare.2 ⟨Nat.le_of_ble_eq_true rfl, Nat.le_of_ble_eq_true rfl⟩) ⟨ax_blind (fun _ _ _ _ _ => trivial), ax_pre hPc hKc hDc (fun _ _ => trivial)⟩ rfl rfl hl.1 rfl (lv_room (Nat.le_of_ble_eq_true rfl)) dX7_isRest_38 ⟨Nat.le_of_ble_eq_true rfl, Nat.le_of_ble_eq_true rfl⟩) hS (fun q _ h => hFc q h) hFc (fun r38 u t H locs ht hvm hw hB hz1 hk1 hS => ?_)
          obtain ⟨hP1, hK1, hD1⟩ := hB
          rw [ht] at hP1
          obtain ⟨hP, hD⟩ := zc_back (w := []) hP hD hCc hk1 hFc hP1 hD1 [] (by decide +kernel) rfl
          rcases hw with hw | hw | hw | hw
          · subst hw
            refine lv_icmp_lt (tgt := 48) hx hb dX7_isRest_41 (by decide) (fun c41 => absurd c41 (by decide +kernel)) (fun _ => ?_)
            refine lv_iconst (v := 1) hx hb dX7_isRest_44 zk_iconst_1 ?_
            refine lv_goto (tgt := 49) hx hb dX7_isRest_45 (by decide) ?_
            exact W.zret (v := 1) hx hb hr rfl (fun t ht hW => ⟨⟨1, (), rfl, (Or.inl (rfl)), by rw [ht]; exact hP, va_K.moved hW.alike hK, hD⟩, hS.F ht⟩) hS.2.2 dX7_isRest_49
          · obtain ⟨hw, h38_0, h38_1, h38_2, h38_3⟩ := hw
            subst hw
            have l38k1_a2 : (0 : Int) ≤ a2.toInt := h38_0
            have u38k1_a2 : a2.toInt ≤ (0 : Int) := h38_1
            exact absurd h38_3 (by decide)
          · obtain ⟨hw, h38_0, h38_1⟩ := hw
            subst hw
            exact absurd h38_1 (by decide)
          · obtain ⟨hw, h38_0, h38_1⟩ := hw
            subst hw
            have l38k3_a2 : (0 : Int) ≤ a2.toInt := h38_0
            have u38k3_a2 : a2.toInt ≤ (0 : Int) := h38_1
            refine lv_icmp_lt (tgt := 48) hx hb dX7_isRest_41 (by decide) (fun c41 => absurd c41 (by decide +kernel)) (fun _ => ?_)
            refine lv_iconst (v := 1) hx hb dX7_isRest_44 zk_iconst_1 ?_
            refine lv_goto (tgt := 49) hx hb dX7_isRest_45 (by decide) ?_
            exact W.zret (v := 1) hx hb hr rfl (fun t ht hW => ⟨⟨1, (), rfl, (Or.inl (rfl)), by rw [ht]; exact hP, va_K.moved hW.alike hK, hD⟩, hS.F ht⟩) hS.2.2 dX7_isRest_49
      · obtain ⟨hw, h25_0, h25_1, h25_2, h25_3⟩ := hw
        subst hw
        have l25k1_a2 : (0 : Int) ≤ a2.toInt := h25_0
        have u25k1_a2 : a2.toInt ≤ (0 : Int) := h25_1
        have l25k1_a3 : (0 : Int) ≤ a3.toInt := h25_2
        have u25k1_a3 : a3.toInt ≤ (0 : Int) := h25_3
        refine lv_iload_n hx hb dX7_isRest_28 rfl (lv_at hl 1 rfl) ?_
        refine lv_iload_n hx hb dX7_isRest_29 rfl (lv_at hl 2 rfl) ?_
        refine lv_if_ne (tgt := 37) hx hb dX7_isRest_30 (by decide) (fun c30 => ?_) (fun c30 => ?_)
        · have gc30 := ai_ne c30
          have l30t_a3 : (1 : Int) ≤ a3.toInt := (by have h1 := l25k1_a3; have h2 : (0 : Int32).toInt = 0 := (by decide); rw [h2] at gc30; omega)
          have u30t_a3 : a3.toInt ≤ (-1 : Int) := (by have h1 := u25k1_a3; have h2 : (0 : Int32).toInt = 0 := (by decide); rw [h2] at gc30; omega)
          exact absurd (Int.le_trans l30t_a3 u30t_a3) (by decide)
        · have gc30 := ai_eq c30
          have u30f_a3 : a3.toInt ≤ (0 : Int) := u25k1_a3
          have l30f_a3 : (0 : Int) ≤ a3.toInt := l25k1_a3
          refine lv_iconst (v := 1) hx hb dX7_isRest_33 zk_iconst_1 ?_
          refine lv_goto (tgt := 38) hx hb dX7_isRest_34 (by decide) ?_
          obtain ⟨hPc, hDc, hFc, hCc⟩ := zc_cut (wc := []) hP hD hS hA [] (by decide +kernel) rfl
          have hKc := hK.sub (tys' := []) [] rfl
          refine va_calli (va_runS (As := [.int a2, .int 1]) (rest := [.int 1]) ⟨hx, hb, hml, hown, hts⟩ (c_X7_attendantShare l dC dI H.size a2 1 ) (va_cwS 2 hts gX7_isRest_X7_attendantShare rfl rfl rfl zd_X7_attendantShare.2 ⟨Nat.le_of_ble_eq_true rfl, Nat.le_of_ble_eq_true rfl⟩) ⟨ax_blind (fun _ _ _ _ _ => trivial), ax_pre hPc hKc hDc (fun _ _ => trivial)⟩ rfl rfl hl.1 rfl (lv_room (Nat.le_of_ble_eq_true rfl)) dX7_isRest_38 ⟨Nat.le_of_ble_eq_true rfl, Nat.le_of_ble_eq_true rfl⟩) hS (fun q _ h => hFc q h) hFc (fun r38 u t H locs ht hvm hw hB hz1 hk1 hS => ?_)
          obtain ⟨hP1, hK1, hD1⟩ := hB
          rw [ht] at hP1
          obtain ⟨hP, hD⟩ := zc_back (w := []) hP hD hCc hk1 hFc hP1 hD1 [] (by decide +kernel) rfl
          rcases hw with hw | hw | hw | hw
          · subst hw
            refine lv_icmp_lt (tgt := 48) hx hb dX7_isRest_41 (by decide) (fun _ => ?_) (fun c41 => absurd (by decide +kernel) c41)
            refine lv_iconst (v := 0) hx hb dX7_isRest_48 zk_iconst_0 ?_
            exact W.zret (v := 0) hx hb hr rfl (fun t ht hW => ⟨⟨0, (), rfl, (Or.inr (rfl)), by rw [ht]; exact hP, va_K.moved hW.alike hK, hD⟩, hS.F ht⟩) hS.2.2 dX7_isRest_49
          · obtain ⟨hw, h38_0, h38_1, h38_2, h38_3⟩ := hw
            subst hw
            have l38k1_a2 : (0 : Int) ≤ a2.toInt := l25k1_a2
            have u38k1_a2 : a2.toInt ≤ (0 : Int) := u25k1_a2
            exact absurd h38_3 (by decide)
          · obtain ⟨hw, h38_0, h38_1⟩ := hw
            subst hw
            exact absurd h38_1 (by decide)
          · obtain ⟨hw, h38_0, h38_1⟩ := hw
            subst hw
            have l38k3_a2 : (0 : Int) ≤ a2.toInt := l25k1_a2
            have u38k3_a2 : a2.toInt ≤ (0 : Int) := u25k1_a2
            refine lv_icmp_lt (tgt := 48) hx hb dX7_isRest_41 (by decide) (fun c41 => absurd c41 (by decide +kernel)) (fun _ => ?_)
            refine lv_iconst (v := 1) hx hb dX7_isRest_44 zk_iconst_1 ?_
            refine lv_goto (tgt := 49) hx hb dX7_isRest_45 (by decide) ?_
            exact W.zret (v := 1) hx hb hr rfl (fun t ht hW => ⟨⟨1, (), rfl, (Or.inl (rfl)), by rw [ht]; exact hP, va_K.moved hW.alike hK, hD⟩, hS.F ht⟩) hS.2.2 dX7_isRest_49
      · obtain ⟨hw, h25_0, h25_1⟩ := hw
        subst hw
        have l25k2_a3 : (0 : Int) ≤ a3.toInt := h25_0
        have u25k2_a3 : a3.toInt ≤ (0 : Int) := h25_1
        refine lv_iload_n hx hb dX7_isRest_28 rfl (lv_at hl 1 rfl) ?_
        refine lv_iload_n hx hb dX7_isRest_29 rfl (lv_at hl 2 rfl) ?_
        refine lv_if_ne (tgt := 37) hx hb dX7_isRest_30 (by decide) (fun c30 => ?_) (fun c30 => ?_)
        · have gc30 := ai_ne c30
          have l30t_a3 : (1 : Int) ≤ a3.toInt := (by have h1 := l25k2_a3; have h2 : (0 : Int32).toInt = 0 := (by decide); rw [h2] at gc30; omega)
          have u30t_a3 : a3.toInt ≤ (-1 : Int) := (by have h1 := u25k2_a3; have h2 : (0 : Int32).toInt = 0 := (by decide); rw [h2] at gc30; omega)
          exact absurd (Int.le_trans l30t_a3 u30t_a3) (by decide)
        · have gc30 := ai_eq c30
          have u30f_a3 : a3.toInt ≤ (0 : Int) := u25k2_a3
          have l30f_a3 : (0 : Int) ≤ a3.toInt := l25k2_a3
          refine lv_iconst (v := 1) hx hb dX7_isRest_33 zk_iconst_1 ?_
          refine lv_goto (tgt := 38) hx hb dX7_isRest_34 (by decide) ?_
          obtain ⟨hPc, hDc, hFc, hCc⟩ := zc_cut (wc := []) hP hD hS hA [] (by decide +kernel) rfl
          have hKc := hK.sub (tys' := []) [] rfl
          refine va_calli (va_runS (As := [.int a2, .int 1]) (rest := [.int 0]) ⟨hx, hb, hml, hown, hts⟩ (c_X7_attendantShare l dC dI H.size a2 1 ) (va_cwS 2 hts gX7_isRest_X7_attendantShare rfl rfl rfl zd_X7_attendantShare.2 ⟨Nat.le_of_ble_eq_true rfl, Nat.le_of_ble_eq_true rfl⟩) ⟨ax_blind (fun _ _ _ _ _ => trivial), ax_pre hPc hKc hDc (fun _ _ => trivial)⟩ rfl rfl hl.1 rfl (lv_room (Nat.le_of_ble_eq_true rfl)) dX7_isRest_38 ⟨Nat.le_of_ble_eq_true rfl, Nat.le_of_ble_eq_true rfl⟩) hS (fun q _ h => hFc q h) hFc (fun r38 u t H locs ht hvm hw hB hz1 hk1 hS => ?_)
          obtain ⟨hP1, hK1, hD1⟩ := hB
          rw [ht] at hP1
          obtain ⟨hP, hD⟩ := zc_back (w := []) hP hD hCc hk1 hFc hP1 hD1 [] (by decide +kernel) rfl
          rcases hw with hw | hw | hw | hw
          · subst hw
            refine lv_icmp_lt (tgt := 48) hx hb dX7_isRest_41 (by decide) (fun _ => ?_) (fun c41 => absurd (by decide +kernel) c41)
            refine lv_iconst (v := 0) hx hb dX7_isRest_48 zk_iconst_0 ?_
            exact W.zret (v := 0) hx hb hr rfl (fun t ht hW => ⟨⟨0, (), rfl, (Or.inr (rfl)), by rw [ht]; exact hP, va_K.moved hW.alike hK, hD⟩, hS.F ht⟩) hS.2.2 dX7_isRest_49
          · obtain ⟨hw, h38_0, h38_1, h38_2, h38_3⟩ := hw
            subst hw
            have l38k1_a2 : (0 : Int) ≤ a2.toInt := h38_0
            have u38k1_a2 : a2.toInt ≤ (0 : Int) := h38_1
            exact absurd h38_3 (by decide)
          · obtain ⟨hw, h38_0, h38_1⟩ := hw
            subst hw
            exact absurd h38_1 (by decide)
          · obtain ⟨hw, h38_0, h38_1⟩ := hw
            subst hw
            have l38k3_a2 : (0 : Int) ≤ a2.toInt := h38_0
            have u38k3_a2 : a2.toInt ≤ (0 : Int) := h38_1
            refine lv_icmp_lt (tgt := 48) hx hb dX7_isRest_41 (by decide) (fun c41 => absurd c41 (by decide +kernel)) (fun _ => ?_)
            refine lv_iconst (v := 1) hx hb dX7_isRest_44 zk_iconst_1 ?_
            refine lv_goto (tgt := 49) hx hb dX7_isRest_45 (by decide) ?_
            exact W.zret (v := 1) hx hb hr rfl (fun t ht hW => ⟨⟨1, (), rfl, (Or.inl (rfl)), by rw [ht]; exact hP, va_K.moved hW.alike hK, hD⟩, hS.F ht⟩) hS.2.2 dX7_isRest_49
      · obtain ⟨hw, h25_0, h25_1⟩ := hw
        subst hw
        have l25k3_a2 : (0 : Int) ≤ a2.toInt := h25_0
        have u25k3_a2 : a2.toInt ≤ (0 : Int) := h25_1
        refine lv_iload_n hx hb dX7_isRest_28 rfl (lv_at hl 1 rfl) ?_
        refine lv_iload_n hx hb dX7_isRest_29 rfl (lv_at hl 2 rfl) ?_
        refine lv_if_ne (tgt := 37) hx hb dX7_isRest_30 (by decide) (fun c30 => ?_) (fun c30 => ?_)
        · have gc30 := ai_ne c30
          refine lv_iconst (v := 0) hx hb dX7_isRest_37 zk_iconst_0 ?_
          obtain ⟨hPc, hDc, hFc, hCc⟩ := zc_cut (wc := []) hP hD hS hA [] (by decide +kernel) rfl
          have hKc := hK.sub (tys' := []) [] rfl
          refine va_calli (va_runS (As := [.int a2, .int 0]) (rest := [.int (-1)]) ⟨hx, hb, hml, hown, hts⟩ (c_X7_attendantShare l dC dI H.size a2 0 ) (va_cwS 2 hts gX7_isRest_X7_attendantShare rfl rfl rfl zd_X7_attendantShare.2 ⟨Nat.le_of_ble_eq_true rfl, Nat.le_of_ble_eq_true rfl⟩) ⟨ax_blind (fun _ _ _ _ _ => trivial), ax_pre hPc hKc hDc (fun _ _ => trivial)⟩ rfl rfl hl.1 rfl (lv_room (Nat.le_of_ble_eq_true rfl)) dX7_isRest_38 ⟨Nat.le_of_ble_eq_true rfl, Nat.le_of_ble_eq_true rfl⟩) hS (fun q _ h => hFc q h) hFc (fun r38 u t H locs ht hvm hw hB hz1 hk1 hS => ?_)
          obtain ⟨hP1, hK1, hD1⟩ := hB
          rw [ht] at hP1
          obtain ⟨hP, hD⟩ := zc_back (w := []) hP hD hCc hk1 hFc hP1 hD1 [] (by decide +kernel) rfl
          rcases hw with hw | hw | hw | hw
          · subst hw
            refine lv_icmp_lt (tgt := 48) hx hb dX7_isRest_41 (by decide) (fun _ => ?_) (fun c41 => absurd (by decide +kernel) c41)
            refine lv_iconst (v := 0) hx hb dX7_isRest_48 zk_iconst_0 ?_
            exact W.zret (v := 0) hx hb hr rfl (fun t ht hW => ⟨⟨0, (), rfl, (Or.inr (rfl)), by rw [ht]; exact hP, va_K.moved hW.alike hK, hD⟩, hS.F ht⟩) hS.2.2 dX7_isRest_49
          · obtain ⟨hw, h38_0, h38_1, h38_2, h38_3⟩ := hw
            subst hw
            have l38k1_a2 : (0 : Int) ≤ a2.toInt := l25k3_a2
            have u38k1_a2 : a2.toInt ≤ (0 : Int) := u25k3_a2
            refine lv_icmp_lt (tgt := 48) hx hb dX7_isRest_41 (by decide) (fun _ => ?_) (fun c41 => absurd (by decide +kernel) c41)
            refine lv_iconst (v := 0) hx hb dX7_isRest_48 zk_iconst_0 ?_
            exact W.zret (v := 0) hx hb hr rfl (fun t ht hW => ⟨⟨0, (), rfl, (Or.inr (rfl)), by rw [ht]; exact hP, va_K.moved hW.alike hK, hD⟩, hS.F ht⟩) hS.2.2 dX7_isRest_49
          · obtain ⟨hw, h38_0, h38_1⟩ := hw
            subst hw
            refine lv_icmp_lt (tgt := 48) hx hb dX7_isRest_41 (by decide) (fun _ => ?_) (fun c41 => absurd (by decide +kernel) c41)
            refine lv_iconst (v := 0) hx hb dX7_isRest_48 zk_iconst_0 ?_
            exact W.zret (v := 0) hx hb hr rfl (fun t ht hW => ⟨⟨0, (), rfl, (Or.inr (rfl)), by rw [ht]; exact hP, va_K.moved hW.alike hK, hD⟩, hS.F ht⟩) hS.2.2 dX7_isRest_49
          · obtain ⟨hw, h38_0, h38_1⟩ := hw
            subst hw
            have l38k3_a2 : (0 : Int) ≤ a2.toInt := l25k3_a2
            have u38k3_a2 : a2.toInt ≤ (0 : Int) := u25k3_a2
            refine lv_icmp_lt (tgt := 48) hx hb dX7_isRest_41 (by decide) (fun c41 => absurd c41 (by decide +kernel)) (fun _ => ?_)
            refine lv_iconst (v := 1) hx hb dX7_isRest_44 zk_iconst_1 ?_
            refine lv_goto (tgt := 49) hx hb dX7_isRest_45 (by decide) ?_
            exact W.zret (v := 1) hx hb hr rfl (fun t ht hW => ⟨⟨1, (), rfl, (Or.inl (rfl)), by rw [ht]; exact hP, va_K.moved hW.alike hK, hD⟩, hS.F ht⟩) hS.2.2 dX7_isRest_49
        · have gc30 := ai_eq c30
          have u30f_a3 : a3.toInt ≤ (0 : Int) := Int.le_trans (Int.le_of_eq gc30) zq6
          have l30f_a3 : (0 : Int) ≤ a3.toInt := Int.le_trans zq5 (Int.le_of_eq gc30.symm)
          refine lv_iconst (v := 1) hx hb dX7_isRest_33 zk_iconst_1 ?_
          refine lv_goto (tgt := 38) hx hb dX7_isRest_34 (by decide) ?_
          obtain ⟨hPc, hDc, hFc, hCc⟩ := zc_cut (wc := []) hP hD hS hA [] (by decide +kernel) rfl
          have hKc := hK.sub (tys' := []) [] rfl
          refine va_calli (va_runS (As := [.int a2, .int 1]) (rest := [.int (-1)]) ⟨hx, hb, hml, hown, hts⟩ (c_X7_attendantShare l dC dI H.size a2 1 ) (va_cwS 2 hts gX7_isRest_X7_attendantShare rfl rfl rfl zd_X7_attendantShare.2 ⟨Nat.le_of_ble_eq_true rfl, Nat.le_of_ble_eq_true rfl⟩) ⟨ax_blind (fun _ _ _ _ _ => trivial), ax_pre hPc hKc hDc (fun _ _ => trivial)⟩ rfl rfl hl.1 rfl (lv_room (Nat.le_of_ble_eq_true rfl)) dX7_isRest_38 ⟨Nat.le_of_ble_eq_true rfl, Nat.le_of_ble_eq_true rfl⟩) hS (fun q _ h => hFc q h) hFc (fun r38 u t H locs ht hvm hw hB hz1 hk1 hS => ?_)
          obtain ⟨hP1, hK1, hD1⟩ := hB
          rw [ht] at hP1
          obtain ⟨hP, hD⟩ := zc_back (w := []) hP hD hCc hk1 hFc hP1 hD1 [] (by decide +kernel) rfl
          rcases hw with hw | hw | hw | hw
          · subst hw
            refine lv_icmp_lt (tgt := 48) hx hb dX7_isRest_41 (by decide) (fun _ => ?_) (fun c41 => absurd (by decide +kernel) c41)
            refine lv_iconst (v := 0) hx hb dX7_isRest_48 zk_iconst_0 ?_
            exact W.zret (v := 0) hx hb hr rfl (fun t ht hW => ⟨⟨0, (), rfl, (Or.inr (rfl)), by rw [ht]; exact hP, va_K.moved hW.alike hK, hD⟩, hS.F ht⟩) hS.2.2 dX7_isRest_49
          · obtain ⟨hw, h38_0, h38_1, h38_2, h38_3⟩ := hw
            subst hw
            have l38k1_a2 : (0 : Int) ≤ a2.toInt := l25k3_a2
            have u38k1_a2 : a2.toInt ≤ (0 : Int) := u25k3_a2
            exact absurd h38_3 (by decide)
          · obtain ⟨hw, h38_0, h38_1⟩ := hw
            subst hw
            exact absurd h38_1 (by decide)
          · obtain ⟨hw, h38_0, h38_1⟩ := hw
            subst hw
            have l38k3_a2 : (0 : Int) ≤ a2.toInt := l25k3_a2
            have u38k3_a2 : a2.toInt ≤ (0 : Int) := u25k3_a2
            refine lv_icmp_lt (tgt := 48) hx hb dX7_isRest_41 (by decide) (fun c41 => absurd c41 (by decide +kernel)) (fun _ => ?_)
            refine lv_iconst (v := 1) hx hb dX7_isRest_44 zk_iconst_1 ?_
            refine lv_goto (tgt := 49) hx hb dX7_isRest_45 (by decide) ?_
            exact W.zret (v := 1) hx hb hr rfl (fun t ht hW => ⟨⟨1, (), rfl, (Or.inl (rfl)), by rw [ht]; exact hP, va_K.moved hW.alike hK, hD⟩, hS.F ht⟩) hS.2.2 dX7_isRest_49
  · have gc8 := ai_eq c8
    have u8f_a2 : a2.toInt ≤ (0 : Int) := Int.le_trans (Int.le_of_eq gc8) zq6
    have l8f_a2 : (0 : Int) ≤ a2.toInt := Int.le_trans zq5 (Int.le_of_eq gc8.symm)
    refine lv_iconst (v := 1) hx hb dX7_isRest_11 zk_iconst_1 ?_
    refine lv_goto (tgt := 16) hx hb dX7_isRest_12 (by decide) ?_
    refine lv_iload_n hx hb dX7_isRest_16 rfl (lv_at hl 2 rfl) ?_
    obtain ⟨hPc, hDc, hFc, hCc⟩ := zc_cut (wc := []) hP hD hS hA [] (by decide +kernel) rfl
    have hKc := hK.sub (tys' := []) [] rfl
    refine va_calli (va_runS (As := [.int a1, .int 1, .int a3]) (rest := [.int r3]) ⟨hx, hb, hml, hown, hts⟩ (c_X7_figureShare l dC dI H.size a1 1 a3 ) (va_cwS 3 hts gX7_isRest_X7_figureShare rfl rfl rfl zd_X7_figureShare.2 ⟨Nat.le_of_ble_eq_true rfl, Nat.le_of_ble_eq_true rfl⟩) ⟨ax_blind (fun _ _ _ _ _ => trivial), ax_pre hPc hKc hDc (fun _ _ => trivial)⟩ rfl rfl hl.1 rfl (lv_room (Nat.le_of_ble_eq_true rfl)) dX7_isRest_17 ⟨Nat.le_of_ble_eq_true rfl, Nat.le_of_ble_eq_true rfl⟩) hS (fun q _ h => hFc q h) hFc (fun r17 u t H locs ht hvm hw hB hz1 hk1 hS => ?_)
    obtain ⟨hP1, hK1, hD1⟩ := hB
    rw [ht] at hP1
    obtain ⟨hP, hD⟩ := zc_back (w := []) hP hD hCc hk1 hFc hP1 hD1 [] (by decide +kernel) rfl
    refine lv_icmp_lt (tgt := 48) hx hb dX7_isRest_20 (by decide) (fun c20 => ?_) (fun c20 => ?_)
    · have gc20 := ai_lt c20
      have u20t_r3 : r3.toInt ≤ (2147483646 : Int) := ai_lthi gc20 (ai_max r17)
      have l20t_r17 : (-2147483647 : Int) ≤ r17.toInt := ai_ltlo gc20 (ai_min r3)
      refine lv_iconst (v := 0) hx hb dX7_isRest_48 zk_iconst_0 ?_
      exact W.zret (v := 0) hx hb hr rfl (fun t ht hW => ⟨⟨0, (), rfl, (Or.inr (rfl)), by rw [ht]; exact hP, va_K.moved hW.alike hK, hD⟩, hS.F ht⟩) hS.2.2 dX7_isRest_49
    · have gc20 := ai_nlt c20
      refine lv_iload_n hx hb dX7_isRest_23 rfl (lv_at hl 1 rfl) ?_
      refine lv_iload_n hx hb dX7_isRest_24 rfl (lv_at hl 2 rfl) ?_
      obtain ⟨hPc, hDc, hFc, hCc⟩ := zc_cut (wc := []) hP hD hS hA [] (by decide +kernel) rfl
      have hKc := hK.sub (tys' := []) [] rfl
      refine va_calli (va_runS (As := [.int a2, .int a3]) (rest := []) ⟨hx, hb, hml, hown, hts⟩ (c_X7_attendantShare l dC dI H.size a2 a3 ) (va_cwS 2 hts gX7_isRest_X7_attendantShare rfl rfl rfl zd_X7_attendantShare.2 ⟨Nat.le_of_ble_eq_true rfl, Nat.le_of_ble_eq_true rfl⟩) ⟨ax_blind (fun _ _ _ _ _ => trivial), ax_pre hPc hKc hDc (fun _ _ => trivial)⟩ rfl rfl hl.1 rfl (lv_room (Nat.le_of_ble_eq_true rfl)) dX7_isRest_25 ⟨Nat.le_of_ble_eq_true rfl, Nat.le_of_ble_eq_true rfl⟩) hS (fun q _ h => hFc q h) hFc (fun r25 u t H locs ht hvm hw hB hz1 hk1 hS => ?_)
      obtain ⟨hP1, hK1, hD1⟩ := hB
      rw [ht] at hP1
      obtain ⟨hP, hD⟩ := zc_back (w := []) hP hD hCc hk1 hFc hP1 hD1 [] (by decide +kernel) rfl
      rcases hw with hw | hw | hw | hw
      · subst hw
        refine lv_iload_n hx hb dX7_isRest_28 rfl (lv_at hl 1 rfl) ?_
        refine lv_iload_n hx hb dX7_isRest_29 rfl (lv_at hl 2 rfl) ?_
        refine lv_if_ne (tgt := 37) hx hb dX7_isRest_30 (by decide) (fun c30 => ?_) (fun c30 => ?_)
        · have gc30 := ai_ne c30
          refine lv_iconst (v := 0) hx hb dX7_isRest_37 zk_iconst_0 ?_
          obtain ⟨hPc, hDc, hFc, hCc⟩ := zc_cut (wc := []) hP hD hS hA [] (by decide +kernel) rfl
          have hKc := hK.sub (tys' := []) [] rfl
          refine va_calli (va_runS (As := [.int a2, .int 0]) (rest := [.int 3]) ⟨hx, hb, hml, hown, hts⟩ (c_X7_attendantShare l dC dI H.size a2 0 ) (va_cwS 2 hts gX7_isRest_X7_attendantShare rfl rfl rfl zd_X7_attendantShare.2 ⟨Nat.le_of_ble_eq_true rfl, Nat.le_of_ble_eq_true rfl⟩) ⟨ax_blind (fun _ _ _ _ _ => trivial), ax_pre hPc hKc hDc (fun _ _ => trivial)⟩ rfl rfl hl.1 rfl (lv_room (Nat.le_of_ble_eq_true rfl)) dX7_isRest_38 ⟨Nat.le_of_ble_eq_true rfl, Nat.le_of_ble_eq_true rfl⟩) hS (fun q _ h => hFc q h) hFc (fun r38 u t H locs ht hvm hw hB hz1 hk1 hS => ?_)
          obtain ⟨hP1, hK1, hD1⟩ := hB
          rw [ht] at hP1
          obtain ⟨hP, hD⟩ := zc_back (w := []) hP hD hCc hk1 hFc hP1 hD1 [] (by decide +kernel) rfl
          rcases hw with hw | hw | hw | hw
          · subst hw
            refine lv_icmp_lt (tgt := 48) hx hb dX7_isRest_41 (by decide) (fun c41 => absurd c41 (by decide +kernel)) (fun _ => ?_)
            refine lv_iconst (v := 1) hx hb dX7_isRest_44 zk_iconst_1 ?_
            refine lv_goto (tgt := 49) hx hb dX7_isRest_45 (by decide) ?_
            exact W.zret (v := 1) hx hb hr rfl (fun t ht hW => ⟨⟨1, (), rfl, (Or.inl (rfl)), by rw [ht]; exact hP, va_K.moved hW.alike hK, hD⟩, hS.F ht⟩) hS.2.2 dX7_isRest_49
          · obtain ⟨hw, h38_0, h38_1, h38_2, h38_3⟩ := hw
            subst hw
            have l38k1_a2 : (0 : Int) ≤ a2.toInt := l8f_a2
            have u38k1_a2 : a2.toInt ≤ (0 : Int) := u8f_a2
            refine lv_icmp_lt (tgt := 48) hx hb dX7_isRest_41 (by decide) (fun c41 => absurd c41 (by decide +kernel)) (fun _ => ?_)
            refine lv_iconst (v := 1) hx hb dX7_isRest_44 zk_iconst_1 ?_
            refine lv_goto (tgt := 49) hx hb dX7_isRest_45 (by decide) ?_
            exact W.zret (v := 1) hx hb hr rfl (fun t ht hW => ⟨⟨1, (), rfl, (Or.inl (rfl)), by rw [ht]; exact hP, va_K.moved hW.alike hK, hD⟩, hS.F ht⟩) hS.2.2 dX7_isRest_49
          · obtain ⟨hw, h38_0, h38_1⟩ := hw
            subst hw
            refine lv_icmp_lt (tgt := 48) hx hb dX7_isRest_41 (by decide) (fun c41 => absurd c41 (by decide +kernel)) (fun _ => ?_)
            refine lv_iconst (v := 1) hx hb dX7_isRest_44 zk_iconst_1 ?_
            refine lv_goto (tgt := 49) hx hb dX7_isRest_45 (by decide) ?_
            exact W.zret (v := 1) hx hb hr rfl (fun t ht hW => ⟨⟨1, (), rfl, (Or.inl (rfl)), by rw [ht]; exact hP, va_K.moved hW.alike hK, hD⟩, hS.F ht⟩) hS.2.2 dX7_isRest_49
          · obtain ⟨hw, h38_0, h38_1⟩ := hw
            subst hw
            have l38k3_a2 : (0 : Int) ≤ a2.toInt := l8f_a2
            have u38k3_a2 : a2.toInt ≤ (0 : Int) := u8f_a2
            refine lv_icmp_lt (tgt := 48) hx hb dX7_isRest_41 (by decide) (fun c41 => absurd c41 (by decide +kernel)) (fun _ => ?_)
            refine lv_iconst (v := 1) hx hb dX7_isRest_44 zk_iconst_1 ?_
            refine lv_goto (tgt := 49) hx hb dX7_isRest_45 (by decide) ?_
            exact W.zret (v := 1) hx hb hr rfl (fun t ht hW => ⟨⟨1, (), rfl, (Or.inl (rfl)), by rw [ht]; exact hP, va_K.moved hW.alike hK, hD⟩, hS.F ht⟩) hS.2.2 dX7_isRest_49
        · have gc30 := ai_eq c30
          have u30f_a3 : a3.toInt ≤ (0 : Int) := Int.le_trans (Int.le_of_eq gc30) zq6
          have l30f_a3 : (0 : Int) ≤ a3.toInt := Int.le_trans zq5 (Int.le_of_eq gc30.symm)
          refine lv_iconst (v := 1) hx hb dX7_isRest_33 zk_iconst_1 ?_
          refine lv_goto (tgt := 38) hx hb dX7_isRest_34 (by decide) ?_
          obtain ⟨hPc, hDc, hFc, hCc⟩ := zc_cut (wc := []) hP hD hS hA [] (by decide +kernel) rfl
          have hKc := hK.sub (tys' := []) [] rfl
          refine va_calli (va_runS (As := [.int a2, .int 1]) (rest := [.int 3]) ⟨hx, hb, hml, hown, hts⟩ (c_X7_attendantShare l dC dI H.size a2 1 ) (va_cwS 2 hts gX7_isRest_X7_attendantShare rfl rfl rfl zd_X7_attendantShare.2 ⟨Nat.le_of_ble_eq_true rfl, Nat.le_of_ble_eq_true rfl⟩) ⟨ax_blind (fun _ _ _ _ _ => trivial), ax_pre hPc hKc hDc (fun _ _ => trivial)⟩ rfl rfl hl.1 rfl (lv_room (Nat.le_of_ble_eq_true rfl)) dX7_isRest_38 ⟨Nat.le_of_ble_eq_true rfl, Nat.le_of_ble_eq_true rfl⟩) hS (fun q _ h => hFc q h) hFc (fun r38 u t H locs ht hvm hw hB hz1 hk1 hS => ?_)
          obtain ⟨hP1, hK1, hD1⟩ := hB
          rw [ht] at hP1
          obtain ⟨hP, hD⟩ := zc_back (w := []) hP hD hCc hk1 hFc hP1 hD1 [] (by decide +kernel) rfl
          rcases hw with hw | hw | hw | hw
          · subst hw
            refine lv_icmp_lt (tgt := 48) hx hb dX7_isRest_41 (by decide) (fun c41 => absurd c41 (by decide +kernel)) (fun _ => ?_)
            refine lv_iconst (v := 1) hx hb dX7_isRest_44 zk_iconst_1 ?_
            refine lv_goto (tgt := 49) hx hb dX7_isRest_45 (by decide) ?_
            exact W.zret (v := 1) hx hb hr rfl (fun t ht hW => ⟨⟨1, (), rfl, (Or.inl (rfl)), by rw [ht]; exact hP, va_K.moved hW.alike hK, hD⟩, hS.F ht⟩) hS.2.2 dX7_isRest_49
          · obtain ⟨hw, h38_0, h38_1, h38_2, h38_3⟩ := hw
            subst hw
            have l38k1_a2 : (0 : Int) ≤ a2.toInt := l8f_a2
            have u38k1_a2 : a2.toInt ≤ (0 : Int) := u8f_a2
            exact absurd h38_3 (by decide)
          · obtain ⟨hw, h38_0, h38_1⟩ := hw
            subst hw
            exact absurd h38_1 (by decide)
          · obtain ⟨hw, h38_0, h38_1⟩ := hw
            subst hw
            have l38k3_a2 : (0 : Int) ≤ a2.toInt := l8f_a2
            have u38k3_a2 : a2.toInt ≤ (0 : Int) := u8f_a2
            refine lv_icmp_lt (tgt := 48) hx hb dX7_isRest_41 (by decide) (fun c41 => absurd c41 (by decide +kernel)) (fun _ => ?_)
            refine lv_iconst (v := 1) hx hb dX7_isRest_44 zk_iconst_1 ?_
            refine lv_goto (tgt := 49) hx hb dX7_isRest_45 (by decide) ?_
            exact W.zret (v := 1) hx hb hr rfl (fun t ht hW => ⟨⟨1, (), rfl, (Or.inl (rfl)), by rw [ht]; exact hP, va_K.moved hW.alike hK, hD⟩, hS.F ht⟩) hS.2.2 dX7_isRest_49
      · obtain ⟨hw, h25_0, h25_1, h25_2, h25_3⟩ := hw
        subst hw
        have l25k1_a2 : (0 : Int) ≤ a2.toInt := l8f_a2
        have u25k1_a2 : a2.toInt ≤ (0 : Int) := u8f_a2
        have l25k1_a3 : (0 : Int) ≤ a3.toInt := h25_2
        have u25k1_a3 : a3.toInt ≤ (0 : Int) := h25_3
        refine lv_iload_n hx hb dX7_isRest_28 rfl (lv_at hl 1 rfl) ?_
        refine lv_iload_n hx hb dX7_isRest_29 rfl (lv_at hl 2 rfl) ?_
        refine lv_if_ne (tgt := 37) hx hb dX7_isRest_30 (by decide) (fun c30 => ?_) (fun c30 => ?_)
        · have gc30 := ai_ne c30
          have l30t_a3 : (1 : Int) ≤ a3.toInt := (by have h1 := l25k1_a3; have h2 : (0 : Int32).toInt = 0 := (by decide); rw [h2] at gc30; omega)
          have u30t_a3 : a3.toInt ≤ (-1 : Int) := (by have h1 := u25k1_a3; have h2 : (0 : Int32).toInt = 0 := (by decide); rw [h2] at gc30; omega)
          exact absurd (Int.le_trans l30t_a3 u30t_a3) (by decide)
        · have gc30 := ai_eq c30
          have u30f_a3 : a3.toInt ≤ (0 : Int) := u25k1_a3
          have l30f_a3 : (0 : Int) ≤ a3.toInt := l25k1_a3
          refine lv_iconst (v := 1) hx hb dX7_isRest_33 zk_iconst_1 ?_
          refine lv_goto (tgt := 38) hx hb dX7_isRest_34 (by decide) ?_
          obtain ⟨hPc, hDc, hFc, hCc⟩ := zc_cut (wc := []) hP hD hS hA [] (by decide +kernel) rfl
          have hKc := hK.sub (tys' := []) [] rfl
          refine va_calli (va_runS (As := [.int a2, .int 1]) (rest := [.int 1]) ⟨hx, hb, hml, hown, hts⟩ (c_X7_attendantShare l dC dI H.size a2 1 ) (va_cwS 2 hts gX7_isRest_X7_attendantShare rfl rfl rfl zd_X7_attendantShare.2 ⟨Nat.le_of_ble_eq_true rfl, Nat.le_of_ble_eq_true rfl⟩) ⟨ax_blind (fun _ _ _ _ _ => trivial), ax_pre hPc hKc hDc (fun _ _ => trivial)⟩ rfl rfl hl.1 rfl (lv_room (Nat.le_of_ble_eq_true rfl)) dX7_isRest_38 ⟨Nat.le_of_ble_eq_true rfl, Nat.le_of_ble_eq_true rfl⟩) hS (fun q _ h => hFc q h) hFc (fun r38 u t H locs ht hvm hw hB hz1 hk1 hS => ?_)
          obtain ⟨hP1, hK1, hD1⟩ := hB
          rw [ht] at hP1
          obtain ⟨hP, hD⟩ := zc_back (w := []) hP hD hCc hk1 hFc hP1 hD1 [] (by decide +kernel) rfl
          rcases hw with hw | hw | hw | hw
          · subst hw
            refine lv_icmp_lt (tgt := 48) hx hb dX7_isRest_41 (by decide) (fun _ => ?_) (fun c41 => absurd (by decide +kernel) c41)
            refine lv_iconst (v := 0) hx hb dX7_isRest_48 zk_iconst_0 ?_
            exact W.zret (v := 0) hx hb hr rfl (fun t ht hW => ⟨⟨0, (), rfl, (Or.inr (rfl)), by rw [ht]; exact hP, va_K.moved hW.alike hK, hD⟩, hS.F ht⟩) hS.2.2 dX7_isRest_49
          · obtain ⟨hw, h38_0, h38_1, h38_2, h38_3⟩ := hw
            subst hw
            have l38k1_a2 : (0 : Int) ≤ a2.toInt := l25k1_a2
            have u38k1_a2 : a2.toInt ≤ (0 : Int) := u25k1_a2
            exact absurd h38_3 (by decide)
          · obtain ⟨hw, h38_0, h38_1⟩ := hw
            subst hw
            exact absurd h38_1 (by decide)
          · obtain ⟨hw, h38_0, h38_1⟩ := hw
            subst hw
            have l38k3_a2 : (0 : Int) ≤ a2.toInt := l25k1_a2
            have u38k3_a2 : a2.toInt ≤ (0 : Int) := u25k1_a2
            refine lv_icmp_lt (tgt := 48) hx hb dX7_isRest_41 (by decide) (fun c41 => absurd c41 (by decide +kernel)) (fun _ => ?_)
            refine lv_iconst (v := 1) hx hb dX7_isRest_44 zk_iconst_1 ?_
            refine lv_goto (tgt := 49) hx hb dX7_isRest_45 (by decide) ?_
            exact W.zret (v := 1) hx hb hr rfl (fun t ht hW => ⟨⟨1, (), rfl, (Or.inl (rfl)), by rw [ht]; exact hP, va_K.moved hW.alike hK, hD⟩, hS.F ht⟩) hS.2.2 dX7_isRest_49
      · obtain ⟨hw, h25_0, h25_1⟩ := hw
        subst hw
        have l25k2_a3 : (0 : Int) ≤ a3.toInt := h25_0
        have u25k2_a3 : a3.toInt ≤ (0 : Int) := h25_1
        refine lv_iload_n hx hb dX7_isRest_28 rfl (lv_at hl 1 rfl) ?_
        refine lv_iload_n hx hb dX7_isRest_29 rfl (lv_at hl 2 rfl) ?_
        refine lv_if_ne (tgt := 37) hx hb dX7_isRest_30 (by decide) (fun c30 => ?_) (fun c30 => ?_)
        · have gc30 := ai_ne c30
          have l30t_a3 : (1 : Int) ≤ a3.toInt := (by have h1 := l25k2_a3; have h2 : (0 : Int32).toInt = 0 := (by decide); rw [h2] at gc30; omega)
          have u30t_a3 : a3.toInt ≤ (-1 : Int) := (by have h1 := u25k2_a3; have h2 : (0 : Int32).toInt = 0 := (by decide); rw [h2] at gc30; omega)
          exact absurd (Int.le_trans l30t_a3 u30t_a3) (by decide)
        · have gc30 := ai_eq c30
          have u30f_a3 : a3.toInt ≤ (0 : Int) := u25k2_a3
          have l30f_a3 : (0 : Int) ≤ a3.toInt := l25k2_a3
          refine lv_iconst (v := 1) hx hb dX7_isRest_33 zk_iconst_1 ?_
          refine lv_goto (tgt := 38) hx hb dX7_isRest_34 (by decide) ?_
          obtain ⟨hPc, hDc, hFc, hCc⟩ := zc_cut (wc := []) hP hD hS hA [] (by decide +kernel) rfl
          have hKc := hK.sub (tys' := []) [] rfl
          refine va_calli (va_runS (As := [.int a2, .int 1]) (rest := [.int 0]) ⟨hx, hb, hml, hown, hts⟩ (c_X7_attendantShare l dC dI H.size a2 1 ) (va_cwS 2 hts gX7_isRest_X7_attendantShare rfl rfl rfl zd_X7_attendantShare.2 ⟨Nat.le_of_ble_eq_true rfl, Nat.le_of_ble_eq_true rfl⟩) ⟨ax_blind (fun _ _ _ _ _ => trivial), ax_pre hPc hKc hDc (fun _ _ => trivial)⟩ rfl rfl hl.1 rfl (lv_room (Nat.le_of_ble_eq_true rfl)) dX7_isRest_38 ⟨Nat.le_of_ble_eq_true rfl, Nat.le_of_ble_eq_true rfl⟩) hS (fun q _ h => hFc q h) hFc (fun r38 u t H locs ht hvm hw hB hz1 hk1 hS => ?_)
          obtain ⟨hP1, hK1, hD1⟩ := hB
          rw [ht] at hP1
          obtain ⟨hP, hD⟩ := zc_back (w := []) hP hD hCc hk1 hFc hP1 hD1 [] (by decide +kernel) rfl
          rcases hw with hw | hw | hw | hw
          · subst hw
            refine lv_icmp_lt (tgt := 48) hx hb dX7_isRest_41 (by decide) (fun _ => ?_) (fun c41 => absurd (by decide +kernel) c41)
            refine lv_iconst (v := 0) hx hb dX7_isRest_48 zk_iconst_0 ?_
            exact W.zret (v := 0) hx hb hr rfl (fun t ht hW => ⟨⟨0, (), rfl, (Or.inr (rfl)), by rw [ht]; exact hP, va_K.moved hW.alike hK, hD⟩, hS.F ht⟩) hS.2.2 dX7_isRest_49
          · obtain ⟨hw, h38_0, h38_1, h38_2, h38_3⟩ := hw
            subst hw
            have l38k1_a2 : (0 : Int) ≤ a2.toInt := l8f_a2
            have u38k1_a2 : a2.toInt ≤ (0 : Int) := u8f_a2
            exact absurd h38_3 (by decide)
          · obtain ⟨hw, h38_0, h38_1⟩ := hw
            subst hw
            exact absurd h38_1 (by decide)
          · obtain ⟨hw, h38_0, h38_1⟩ := hw
            subst hw
            have l38k3_a2 : (0 : Int) ≤ a2.toInt := l8f_a2
            have u38k3_a2 : a2.toInt ≤ (0 : Int) := u8f_a2
            refine lv_icmp_lt (tgt := 48) hx hb dX7_isRest_41 (by decide) (fun c41 => absurd c41 (by decide +kernel)) (fun _ => ?_)
            refine lv_iconst (v := 1) hx hb dX7_isRest_44 zk_iconst_1 ?_
            refine lv_goto (tgt := 49) hx hb dX7_isRest_45 (by decide) ?_
            exact W.zret (v := 1) hx hb hr rfl (fun t ht hW => ⟨⟨1, (), rfl, (Or.inl (rfl)), by rw [ht]; exact hP, va_K.moved hW.alike hK, hD⟩, hS.F ht⟩) hS.2.2 dX7_isRest_49
      · obtain ⟨hw, h25_0, h25_1⟩ := hw
        subst hw
        have l25k3_a2 : (0 : Int) ≤ a2.toInt := l8f_a2
        have u25k3_a2 : a2.toInt ≤ (0 : Int) := u8f_a2
        refine lv_iload_n hx hb dX7_isRest_28 rfl (lv_at hl 1 rfl) ?_
        refine lv_iload_n hx hb dX7_isRest_29 rfl (lv_at hl 2 rfl) ?_
        refine lv_if_ne (tgt := 37) hx hb dX7_isRest_30 (by decide) (fun c30 => ?_) (fun c30 => ?_)
        · have gc30 := ai_ne c30
          refine lv_iconst (v := 0) hx hb dX7_isRest_37 zk_iconst_0 ?_
          obtain ⟨hPc, hDc, hFc, hCc⟩ := zc_cut (wc := []) hP hD hS hA [] (by decide +kernel) rfl
          have hKc := hK.sub (tys' := []) [] rfl
          refine va_calli (va_runS (As := [.int a2, .int 0]) (rest := [.int (-1)]) ⟨hx, hb, hml, hown, hts⟩ (c_X7_attendantShare l dC dI H.size a2 0 ) (va_cwS 2 hts gX7_isRest_X7_attendantShare rfl rfl rfl zd_X7_attendantShare.2 ⟨Nat.le_of_ble_eq_true rfl, Nat.le_of_ble_eq_true rfl⟩) ⟨ax_blind (fun _ _ _ _ _ => trivial), ax_pre hPc hKc hDc (fun _ _ => trivial)⟩ rfl rfl hl.1 rfl (lv_room (Nat.le_of_ble_eq_true rfl)) dX7_isRest_38 ⟨Nat.le_of_ble_eq_true rfl, Nat.le_of_ble_eq_true rfl⟩) hS (fun q _ h => hFc q h) hFc (fun r38 u t H locs ht hvm hw hB hz1 hk1 hS => ?_)
          obtain ⟨hP1, hK1, hD1⟩ := hB
          rw [ht] at hP1
          obtain ⟨hP, hD⟩ := zc_back (w := []) hP hD hCc hk1 hFc hP1 hD1 [] (by decide +kernel) rfl
          rcases hw with hw | hw | hw | hw
          · subst hw
            refine lv_icmp_lt (tgt := 48) hx hb dX7_isRest_41 (by decide) (fun _ => ?_) (fun c41 => absurd (by decide +kernel) c41)
            refine lv_iconst (v := 0) hx hb dX7_isRest_48 zk_iconst_0 ?_
            exact W.zret (v := 0) hx hb hr rfl (fun t ht hW => ⟨⟨0, (), rfl, (Or.inr (rfl)), by rw [ht]; exact hP, va_K.moved hW.alike hK, hD⟩, hS.F ht⟩) hS.2.2 dX7_isRest_49
          · obtain ⟨hw, h38_0, h38_1, h38_2, h38_3⟩ := hw
            subst hw
            have l38k1_a2 : (0 : Int) ≤ a2.toInt := l25k3_a2
            have u38k1_a2 : a2.toInt ≤ (0 : Int) := u25k3_a2
            refine lv_icmp_lt (tgt := 48) hx hb dX7_isRest_41 (by decide) (fun _ => ?_) (fun c41 => absurd (by decide +kernel) c41)
            refine lv_iconst (v := 0) hx hb dX7_isRest_48 zk_iconst_0 ?_
            exact W.zret (v := 0) hx hb hr rfl (fun t ht hW => ⟨⟨0, (), rfl, (Or.inr (rfl)), by rw [ht]; exact hP, va_K.moved hW.alike hK, hD⟩, hS.F ht⟩) hS.2.2 dX7_isRest_49
          · obtain ⟨hw, h38_0, h38_1⟩ := hw
            subst hw
            refine lv_icmp_lt (tgt := 48) hx hb dX7_isRest_41 (by decide) (fun _ => ?_) (fun c41 => absurd (by decide +kernel) c41)
            refine lv_iconst (v := 0) hx hb dX7_isRest_48 zk_iconst_0 ?_
            exact W.zret (v := 0) hx hb hr rfl (fun t ht hW => ⟨⟨0, (), rfl, (Or.inr (rfl)), by rw [ht]; exact hP, va_K.moved hW.alike hK, hD⟩, hS.F ht⟩) hS.2.2 dX7_isRest_49
          · obtain ⟨hw, h38_0, h38_1⟩ := hw
            subst hw
            have l38k3_a2 : (0 : Int) ≤ a2.toInt := l25k3_a2
            have u38k3_a2 : a2.toInt ≤ (0 : Int) := u25k3_a2
            refine lv_icmp_lt (tgt := 48) hx hb dX7_isRest_41 (by decide) (fun c41 => absurd c41 (by decide +kernel)) (fun _ => ?_)
            refine lv_iconst (v := 1) hx hb dX7_isRest_44 zk_iconst_1 ?_
            refine lv_goto (tgt := 49) hx hb dX7_isRest_45 (by decide) ?_
            exact W.zret (v := 1) hx hb hr rfl (fun t ht hW => ⟨⟨1, (), rfl, (Or.inl (rfl)), by rw [ht]; exact hP, va_K.moved hW.alike hK, hD⟩, hS.F ht⟩) hS.2.2 dX7_isRest_49
        · have gc30 := ai_eq c30
          have u30f_a3 : a3.toInt ≤ (0 : Int) := Int.le_trans (Int.le_of_eq gc30) zq6
          have l30f_a3 : (0 : Int) ≤ a3.toInt := Int.le_trans zq5 (Int.le_of_eq gc30.symm)
          refine lv_iconst (v := 1) hx hb dX7_isRest_33 zk_iconst_1 ?_
          refine lv_goto (tgt := 38) hx hb dX7_isRest_34 (by decide) ?_
          obtain ⟨hPc, hDc, hFc, hCc⟩ := zc_cut (wc := []) hP hD hS hA [] (by decide +kernel) rfl
          have hKc := hK.sub (tys' := []) [] rfl
          refine va_calli (va_runS (As := [.int a2, .int 1]) (rest := [.int (-1)]) ⟨hx, hb, hml, hown, hts⟩ (c_X7_attendantShare l dC dI H.size a2 1 ) (va_cwS 2 hts gX7_isRest_X7_attendantShare rfl rfl rfl zd_X7_attendantShare.2 ⟨Nat.le_of_ble_eq_true rfl, Nat.le_of_ble_eq_true rfl⟩) ⟨ax_blind (fun _ _ _ _ _ => trivial), ax_pre hPc hKc hDc (fun _ _ => trivial)⟩ rfl rfl hl.1 rfl (lv_room (Nat.le_of_ble_eq_true rfl)) dX7_isRest_38 ⟨Nat.le_of_ble_eq_true rfl, Nat.le_of_ble_eq_true rfl⟩) hS (fun q _ h => hFc q h) hFc (fun r38 u t H locs ht hvm hw hB hz1 hk1 hS => ?_)
          obtain ⟨hP1, hK1, hD1⟩ := hB
          rw [ht] at hP1
          obtain ⟨hP, hD⟩ := zc_back (w := []) hP hD hCc hk1 hFc hP1 hD1 [] (by decide +kernel) rfl
          rcases hw with hw | hw | hw | hw
          · subst hw
            refine lv_icmp_lt (tgt := 48) hx hb dX7_isRest_41 (by decide) (fun _ => ?_) (fun c41 => absurd (by decide +kernel) c41)
            refine lv_iconst (v := 0) hx hb dX7_isRest_48 zk_iconst_0 ?_
            exact W.zret (v := 0) hx hb hr rfl (fun t ht hW => ⟨⟨0, (), rfl, (Or.inr (rfl)), by rw [ht]; exact hP, va_K.moved hW.alike hK, hD⟩, hS.F ht⟩) hS.2.2 dX7_isRest_49
          · obtain ⟨hw, h38_0, h38_1, h38_2, h38_3⟩ := hw
            subst hw
            have l38k1_a2 : (0 : Int) ≤ a2.toInt := l25k3_a2
            have u38k1_a2 : a2.toInt ≤ (0 : Int) := u25k3_a2
            exact absurd h38_3 (by decide)
          · obtain ⟨hw, h38_0, h38_1⟩ := hw
            subst hw
            exact absurd h38_1 (by decide)
          · obtain ⟨hw, h38_0, h38_1⟩ := hw
            subst hw
            have l38k3_a2 : (0 : Int) ≤ a2.toInt := l25k3_a2
            have u38k3_a2 : a2.toInt ≤ (0 : Int) := u25k3_a2
            refine lv_icmp_lt (tgt := 48) hx hb dX7_isRest_41 (by decide) (fun c41 => absurd c41 (by decide +kernel)) (fun _ => ?_)
            refine lv_iconst (v := 1) hx hb dX7_isRest_44 zk_iconst_1 ?_
            refine lv_goto (tgt := 49) hx hb dX7_isRest_45 (by decide) ?_
            exact W.zret (v := 1) hx hb hr rfl (fun t ht hW => ⟨⟨1, (), rfl, (Or.inl (rfl)), by rw [ht]; exact hP, va_K.moved hW.alike hK, hD⟩, hS.F ht⟩) hS.2.2 dX7_isRest_49

set_option maxHeartbeats 4000000 in
set_option maxRecDepth 100000 in
theorem c_X7_ownTurns (l : Launch) (dC : Nat → ClassId) (dI : Nat → Nat → Nat) (sz : Nat) (a0 : Nat) (a1 : Int32) (a2 : Int32) (a0g_0 a0g_2 a0g_3 a0g_4 a0g_5 a0g_6 a0g_8 a0g_9 a0g_10 : Value) (a0_1 : Nat) (a0_7 : Nat) (a0_1g_0 a0_1g_2 a0_1g_3 a0_1g_4 a0_1g_5 a0_1g_6 : Value) (a0_1_1 : Int32) (a0_7_0 : Int32) (a0_7g_1 a0_7g_2 a0_7g_3 a0_7g_4 a0_7g_7 a0_7g_8 a0_7g_9 a0_7g_10 a0_7g_11 a0_7g_12 a0_7g_13 a0_7g_14 : Value) (a0_7_5 : Int32) (a0_7_6 : Int32) (ba0_1_1_l : (0 : Int) ≤ a0_1_1.toInt) (ba0_1_1_u : a0_1_1.toInt ≤ (8 : Int)) (ba0_7_0_l : (0 : Int) ≤ a0_7_0.toInt) (ba0_7_0_u : a0_7_0.toInt ≤ (9 : Int)) (ba0_7_5_l : (0 : Int) ≤ a0_7_5.toInt) (ba0_7_5_u : a0_7_5.toInt ≤ (8 : Int)) (ba0_7_6_l : (0 : Int) ≤ a0_7_6.toInt) (ba0_7_6_u : a0_7_6.toInt ≤ (8 : Int)) : Met l yX7_ownTurns wsX7_ownTurns ({ frames := 1, cells := 0, slots := 0, locals := 21 }) (va_Pc [.ref a0, .int a1, .int a2] (ax_C dC dI sz [(a0, .inr (7, [a0g_0, .ref a0_1, a0g_2, a0g_3, a0g_4, a0g_5, a0g_6, .ref a0_7, a0g_8, a0g_9, a0g_10])), (a0_1, .inr (5, [a0_1g_0, .int a0_1_1, a0_1g_2, a0_1g_3, a0_1g_4, a0_1g_5, a0_1g_6])), (a0_7, .inr (0, [.int a0_7_0, a0_7g_1, a0_7g_2, a0_7g_3, a0_7g_4, .int a0_7_5, .int a0_7_6, a0_7g_7, a0_7g_8, a0_7g_9, a0_7g_10, a0_7g_11, a0_7g_12, a0_7g_13, a0_7g_14]))] [] (fun _ => True))) (va_Qi (fun (r : Int32) (_ : Unit) => True) (fun (_ : Unit) (t : State) => ax_B dC dI (va_A [(a0, .inr (7, [a0g_0, .ref a0_1, a0g_2, a0g_3, a0g_4, a0g_5, a0g_6, .ref a0_7, a0g_8, a0g_9, a0g_10])), (a0_1, .inr (5, [a0_1g_0, .int a0_1_1, a0_1g_2, a0_1g_3, a0_1g_4, a0_1g_5, a0_1g_6])), (a0_7, .inr (0, [.int a0_7_0, a0_7g_1, a0_7g_2, a0_7g_3, a0_7g_4, .int a0_7_5, .int a0_7_6, a0_7g_7, a0_7g_8, a0_7g_9, a0_7g_10, a0_7g_11, a0_7g_12, a0_7g_13, a0_7g_14]))] sz) [(a0, .inr (7, [a0g_0, .ref a0_1, a0g_2, a0g_3, a0g_4, a0g_5, a0g_6, .ref a0_7, a0g_8, a0g_9, a0g_10])), (a0_1, .inr (5, [a0_1g_0, .int a0_1_1, a0_1g_2, a0_1g_3, a0_1g_4, a0_1g_5, a0_1g_6])), (a0_7, .inr (0, [.int a0_7_0, a0_7g_1, a0_7g_2, a0_7g_3, a0_7g_4, .int a0_7_5, .int a0_7_6, a0_7g_7, a0_7g_8, a0_7g_9, a0_7g_10, a0_7g_11, a0_7g_12, a0_7g_13, a0_7g_14]))] [] t) (va_A [(a0, .inr (7, [a0g_0, .ref a0_1, a0g_2, a0g_3, a0g_4, a0g_5, a0g_6, .ref a0_7, a0g_8, a0g_9, a0g_10])), (a0_1, .inr (5, [a0_1g_0, .int a0_1_1, a0_1g_2, a0_1g_3, a0_1g_4, a0_1g_5, a0_1g_6])), (a0_7, .inr (0, [.int a0_7_0, a0_7g_1, a0_7g_2, a0_7g_3, a0_7g_4, .int a0_7_5, .int a0_7_6, a0_7g_7, a0_7g_8, a0_7g_9, a0_7g_10, a0_7g_11, a0_7g_12, a0_7g_13, a0_7g_14]))] sz)) 0 0 (va_A [(a0, .inr (7, [a0g_0, .ref a0_1, a0g_2, a0g_3, a0g_4, a0g_5, a0g_6, .ref a0_7, a0g_8, a0g_9, a0g_10])), (a0_1, .inr (5, [a0_1g_0, .int a0_1_1, a0_1g_2, a0_1g_3, a0_1g_4, a0_1g_5, a0_1g_6])), (a0_7, .inr (0, [.int a0_7_0, a0_7g_1, a0_7g_2, a0_7g_3, a0_7g_4, .int a0_7_5, .int a0_7_6, a0_7g_7, a0_7g_8, a0_7g_9, a0_7g_10, a0_7g_11, a0_7g_12, a0_7g_13, a0_7g_14]))] sz) := by
  refine Met.ofW (cc := cX7_ownTurns) (maxL := 6) (ret := (some .int)) (by decide) rfl ?_
  intro p e s m args below meth c s₁ B hml hv
  obtain ⟨rfl, hsz, hP, hK, hD0, hE⟩ := hv
  have hx := B.exec
  have hb := B.bytes
  have hr := B.returns
  have hts := atoms_spec (ws := wsX7_ownTurns) B.pre
  have hown : s.vm.findClass RX7 = some m.cls := findClass_of_methodNamed B.named
  have hlocks := B.notSynchronized
  subst hsz
  have hD := hD0.self (sz := s.heap.size)
  generalize hAe : va_A [(a0, .inr (7, [a0g_0, .ref a0_1, a0g_2, a0g_3, a0g_4, a0g_5, a0g_6, .ref a0_7, a0g_8, a0g_9, a0g_10])), (a0_1, .inr (5, [a0_1g_0, .int a0_1_1, a0_1g_2, a0_1g_3, a0_1g_4, a0_1g_5, a0_1g_6])), (a0_7, .inr (0, [.int a0_7_0, a0_7g_1, a0_7g_2, a0_7g_3, a0_7g_4, .int a0_7_5, .int a0_7_6, a0_7g_7, a0_7g_8, a0_7g_9, a0_7g_10, a0_7g_11, a0_7g_12, a0_7g_13, a0_7g_14]))] s.heap.size = A at hD ⊢
  have hA : ∀ q : Nat, s.heap.size ≤ q → A q := fun q h => by rw [← hAe]; exact Or.inr h
  have hS : va_S A s.heap s.heap [] := va_S.rf
  have hP : va_P (dC, dI) vwCl [(a0, .inr (7, [a0g_0, .ref a0_1, a0g_2, a0g_3, a0g_4, a0g_5, a0g_6, .ref a0_7, a0g_8, a0g_9, a0g_10])), (a0_1, .inr (5, [a0_1g_0, .int a0_1_1, a0_1g_2, a0_1g_3, a0_1g_4, a0_1g_5, a0_1g_6])), (a0_7, .inr (0, [.int a0_7_0, a0_7g_1, a0_7g_2, a0_7g_3, a0_7g_4, .int a0_7_5, .int a0_7_6, a0_7g_7, a0_7g_8, a0_7g_9, a0_7g_10, a0_7g_11, a0_7g_12, a0_7g_13, a0_7g_14]))] s.heap := hP
  have hl := lv_entry ([.ref a0, .int a1, .int a2]) (n := 6) (Nat.le_of_ble_eq_true rfl)
  rw [lg_entry_eq]
  generalize (lg_sl ([.ref a0, .int a1, .int a2]) ++ List.replicate (6 - (lg_sl ([.ref a0, .int a1, .int a2])).length) Slot.unset).toArray = ls at hl ⊢
  have hl : lv_has ls 6 [(0, .ref a0), (1, .int a1), (2, .int a2)] := hl
  refine ai_open (fun K hK0 => ?_)
  refine (hK0 _ _ _).mpr ?_
  refine lv_iconst (v := 0) hx hb dX7_ownTurns_0 zk_iconst_0 ?_
  refine lv_istore_n (lv' := [(3, .int 0), (0, .ref a0), (1, .int a1), (2, .int a2)]) hx hb dX7_ownTurns_1 rfl hl (by decide) rfl (fun ls hl => ?_)
  refine lv_aload_n hx hb dX7_ownTurns_2 rfl (lv_at hl 1 rfl) ?_
  refine va_get (D := (dC, dI)) (ci := 7) (v := .ref a0_1) (C := RX7) (T := TX7) (N := 11) hx hb hts zi_X7_ownTurns_7 hown hK hP 0 rfl rfl 1 (by decide) (hts (.fieldLink RX7 19 "WaxTurns" "now" "LWaxTurns$Scene;") (List.mem_cons_of_mem _ (List.mem_append_left _ (List.mem_append_left _ (List.mem_append_left _ (List.mem_of_getElem? (i := 0) rfl)))))) (fun _ h9 => h9) rfl dX7_ownTurns_3 ?_
  refine va_get (D := (dC, dI)) (ci := 5) (v := .int a0_1_1) (C := RX5) (T := TX5) (N := 7) hx hb hts zi_X7_ownTurns_5 hown hK hP 1 rfl rfl 1 (by decide) (hts (.fieldLink RX7 158 "WaxTurns$Scene" "turn" "I") (List.mem_cons_of_mem _ (List.mem_append_left _ (List.mem_append_left _ (List.mem_append_left _ (List.mem_of_getElem? (i := 1) rfl)))))) (fun _ h9 => h9) rfl dX7_ownTurns_6 ?_
  refine lv_istore (lv' := [(4, .int a0_1_1), (3, .int 0), (0, .ref a0), (1, .int a1), (2, .int a2)]) hx hb dX7_ownTurns_9 hl (by decide) rfl (fun ls hl => ?_)
  refine lv_iconst (v := 0) hx hb dX7_ownTurns_11 zk_iconst_0 ?_
  refine lv_istore (lv' := [(5, .int 0), (4, .int a0_1_1), (3, .int 0), (0, .ref a0), (1, .int a1), (2, .int a2)]) hx hb dX7_ownTurns_12 hl (by decide) rfl (fun ls hl => ?_)
  have J14 : ∀ (n : Nat) (j14l5 : Int32) (j14l4 : Int32) (j14l3 : Int32) (H : Heap) (locs : List Loc) (ls : Array Slot), (2147483648 : Int) - j14l5.toInt ≤ (n : Int) → (0 : Int) ≤ j14l5.toInt → (0 : Int) ≤ j14l4.toInt → j14l4.toInt ≤ (8 : Int) → va_P (dC, dI) vwCl [(a0, .inr (7, [a0g_0, .ref a0_1, a0g_2, a0g_3, a0g_4, a0g_5, a0g_6, .ref a0_7, a0g_8, a0g_9, a0g_10])), (a0_1, .inr (5, [a0_1g_0, .int a0_1_1, a0_1g_2, a0_1g_3, a0_1g_4, a0_1g_5, a0_1g_6])), (a0_7, .inr (0, [.int a0_7_0, a0_7g_1, a0_7g_2, a0_7g_3, a0_7g_4, .int a0_7_5, .int a0_7_6, a0_7g_7, a0_7g_8, a0_7g_9, a0_7g_10, a0_7g_11, a0_7g_12, a0_7g_13, a0_7g_14]))] H → va_D A [(a0, .inr (7, [a0g_0, .ref a0_1, a0g_2, a0g_3, a0g_4, a0g_5, a0g_6, .ref a0_7, a0g_8, a0g_9, a0g_10])), (a0_1, .inr (5, [a0_1g_0, .int a0_1_1, a0_1g_2, a0_1g_3, a0_1g_4, a0_1g_5, a0_1g_6])), (a0_7, .inr (0, [.int a0_7_0, a0_7g_1, a0_7g_2, a0_7g_3, a0_7g_4, .int a0_7_5, .int a0_7_6, a0_7g_7, a0_7g_8, a0_7g_9, a0_7g_10, a0_7g_11, a0_7g_12, a0_7g_13, a0_7g_14]))] → va_S A s.heap H locs → lv_has ls 6 [(0, .ref a0), (1, .int a1), (2, .int a2), (3, .int j14l3), (4, .int j14l4), (5, .int j14l5)] → K H locs (F0 m 14 ls []) := by
    intro n
    induction n with
    | zero =>
      intro j14l5 j14l4 j14l3 H locs ls hm bj14l5_l bj14l4_l bj14l4_u hP hD hS hl
      have h8 := ai_min j14l5
      have h9 := ai_max j14l5
      exact absurd hm (by omega)
    | succ n ih14 =>
      intro j14l5 j14l4 j14l3 H locs ls hm bj14l5_l bj14l4_l bj14l4_u hP hD hS hl
      refine (hK0 _ _ _).mpr ?_
      have hm14 := hm
      refine lv_iload hx hb dX7_ownTurns_14 (lv_at hl 5 rfl) ?_
      refine lv_iload_n hx hb dX7_ownTurns_16 rfl (lv_at hl 2 rfl) ?_
      refine lv_icmp_ge (tgt := 46) hx hb dX7_ownTurns_17 (by decide) (fun c17 => ?_) (fun c17 => ?_)
      · have gc17 := ai_le c17
        refine lv_iload_n hx hb dX7_ownTurns_46 rfl (lv_at hl 3 rfl) ?_
        exact W.iret (v := j14l3) hx hb hr (fun t ht hW => ⟨⟨j14l3, (), rfl, trivial, by rw [ht]; exact hP, va_K.moved hW.alike hK, hD⟩, hS.F ht⟩) hS.2.2 dX7_ownTurns_47
      · have gc17 := ai_nle c17
        have u17f_j14l5 : j14l5.toInt ≤ (2147483646 : Int) := ai_lthi gc17 (ai_max a2)
        have l17f_a2 : (1 : Int) ≤ a2.toInt := ai_ltlo gc17 bj14l5_l
        refine lv_aload_n hx hb dX7_ownTurns_20 rfl (lv_at hl 0 rfl) ?_
        refine va_get (D := (dC, dI)) (ci := 7) (v := .ref a0_7) (C := RX7) (T := TX7) (N := 11) hx hb hts zi_X7_ownTurns_7 hown hK hP 0 rfl rfl 7 (by decide) (hts (.fieldLink RX7 57 "WaxTurns" "hall" "LWaxTurns$Hall;") (List.mem_cons_of_mem _ (List.mem_append_left _ (List.mem_append_left _ (List.mem_append_left _ (List.mem_of_getElem? (i := 2) rfl)))))) (fun _ h9 => h9) rfl dX7_ownTurns_21 ?_
        refine lv_iload hx hb dX7_ownTurns_24 (lv_at hl 4 rfl) ?_
        obtain ⟨hPc, hDc, hFc, hCc⟩ := zc_cut (wc := [(a0_7, .inr (0, [.int a0_7_0, a0_7g_1, a0_7g_2, a0_7g_3, a0_7g_4, .int a0_7_5, .int a0_7_6, a0_7g_7, a0_7g_8, a0_7g_9, a0_7g_10, a0_7g_11, a0_7g_12, a0_7g_13, a0_7g_14]))]) hP hD hS hA [2] (by decide +kernel) rfl
        have hKc := hK.sub (tys' := []) [] rfl
        refine va_calli (va_runV (As := [.int j14l4]) (rest := []) ⟨hx, hb, hml, hown, hts⟩ (c_X0_next l dC dI H.size a0_7 j14l4 a0_7_0 a0_7g_1 a0_7g_2 a0_7g_3 a0_7g_4 a0_7g_7 a0_7g_8 a0_7g_9 a0_7g_10 a0_7g_11 a0_7g_12 a0_7g_13 a0_7g_14 a0_7_5 a0_7_6 bj14l4_l bj14l4_u ba0_7_0_l ba0_7_0_u ba0_7_5_l ba0_7_5_u ba0_7_6_l ba0_7_6_u) (cwV 1 hts gX7_ownTurns_X0_next rfl rfl rfl zd_X0_next ⟨Nat.le_of_ble_eq_true rfl, Nat.le_of_ble_eq_true rfl⟩) ⟨ax_blind (fun _ _ _ _ _ => trivial), zr_0 hKc hPc (q0 := 0) rfl, ax_pre hPc hKc hDc (fun _ _ => trivial)⟩ rfl rfl hl.1 rfl (lv_room (Nat.le_of_ble_eq_true rfl)) dX7_ownTurns_26 ⟨Nat.le_of_ble_eq_true rfl, Nat.le_of_ble_eq_true rfl⟩) hS (fun q _ h => hFc q h) hFc (fun r26 u t H locs ht hvm hw hB hz1 hk1 hS => ?_)
        obtain ⟨hP1, hK1, hD1⟩ := hB
        rw [ht] at hP1
        obtain ⟨hP, hD⟩ := zc_back (w := [(a0, .inr (7, [a0g_0, .ref a0_1, a0g_2, a0g_3, a0g_4, a0g_5, a0g_6, .ref a0_7, a0g_8, a0g_9, a0g_10])), (a0_1, .inr (5, [a0_1g_0, .int a0_1_1, a0_1g_2, a0_1g_3, a0_1g_4, a0_1g_5, a0_1g_6])), (a0_7, .inr (0, [.int a0_7_0, a0_7g_1, a0_7g_2, a0_7g_3, a0_7g_4, .int a0_7_5, .int a0_7_6, a0_7g_7, a0_7g_8, a0_7g_9, a0_7g_10, a0_7g_11, a0_7g_12, a0_7g_13, a0_7g_14]))]) hP hD hCc hk1 hFc hP1 hD1 [.inl 0, .inl 1, .inr 0] (by decide +kernel) rfl
        have hw : (0 : Int) ≤ r26.toInt ∧ r26.toInt ≤ (8 : Int) := hw
        obtain ⟨h26_0, h26_1⟩ := hw
        refine lv_istore (lv' := [(4, .int r26), (0, .ref a0), (1, .int a1), (2, .int a2), (3, .int j14l3), (5, .int j14l5)]) hx hb dX7_ownTurns_29 hl (by decide) rfl (fun ls hl => ?_)
        refine lv_iload hx hb dX7_ownTurns_31 (lv_at hl 0 rfl) ?_
        refine lv_iload_n hx hb dX7_ownTurns_33 rfl (lv_at hl 2 rfl) ?_
        have J40 : ∀ (j40l3 : Int32) (H : Heap) (locs : List Loc) (ls : Array Slot), va_P (dC, dI) vwCl [(a0, .inr (7, [a0g_0, .ref a0_1, a0g_2, a0g_3, a0g_4, a0g_5, a0g_6, .ref a0_7, a0g_8, a0g_9, a0g_10])), (a0_1, .inr (5, [a0_1g_0, .int a0_1_1, a0_1g_2, a0_1g_3, a0_1g_4, a0_1g_5, a0_1g_6])), (a0_7, .inr (0, [.int a0_7_0, a0_7g_1, a0_7g_2, a0_7g_3, a0_7g_4, .int a0_7_5, .int a0_7_6, a0_7g_7, a0_7g_8, a0_7g_9, a0_7g_10, a0_7g_11, a0_7g_12, a0_7g_13, a0_7g_14]))] H → va_D A [(a0, .inr (7, [a0g_0, .ref a0_1, a0g_2, a0g_3, a0g_4, a0g_5, a0g_6, .ref a0_7, a0g_8, a0g_9, a0g_10])), (a0_1, .inr (5, [a0_1g_0, .int a0_1_1, a0_1g_2, a0_1g_3, a0_1g_4, a0_1g_5, a0_1g_6])), (a0_7, .inr (0, [.int a0_7_0, a0_7g_1, a0_7g_2, a0_7g_3, a0_7g_4, .int a0_7_5, .int a0_7_6, a0_7g_7, a0_7g_8, a0_7g_9, a0_7g_10, a0_7g_11, a0_7g_12, a0_7g_13, a0_7g_14]))] → va_S A s.heap H locs → lv_has ls 6 [(0, .ref a0), (1, .int a1), (2, .int a2), (3, .int j40l3), (4, .int r26), (5, .int j14l5)] → K H locs (F0 m 40 ls []) := by
          intro j40l3 H locs ls   hP hD hS hl
          refine (hK0 _ _ _).mpr ?_
          obtain ⟨x40, ex40⟩ : ∃ y : Int32, y = j14l5 + Int32.ofInt 1 := ⟨_, rfl⟩
          have qx40 : x40.toInt = j14l5.toInt + 1 := ai_inc ex40 (by decide) (by decide) u17f_j14l5 (by decide)
          have bx40 : (1 : Int) ≤ x40.toInt ∧ x40.toInt ≤ 2147483647 := ⟨by rw [qx40]; exact Int.add_le_add bj14l5_l (Int.le_refl _), by rw [qx40]; exact Int.add_le_add u17f_j14l5 (Int.le_refl _)⟩
          refine lv_iinc (v := x40) (lv' := [(5, .int x40), (0, .ref a0), (1, .int a1), (2, .int a2), (3, .int j40l3), (4, .int r26)]) hx hb dX7_ownTurns_40 hl (k := 5) rfl ex40.symm (by decide) rfl (fun ls hl => ?_)
          refine lv_goto (tgt := 14) hx hb dX7_ownTurns_43 (by decide) ?_
          exact (hK0 _ _ _).mp (ih14 x40 r26 j40l3 _ _ _ (by have h0 := qx40; omega) (Int.le_trans zq4 bx40.1) h26_0 h26_1 hP hD hS (lv_sub hl [1, 2, 3, 4, 5, 0] rfl))
        refine lv_icmp_ne (tgt := 40) hx hb dX7_ownTurns_34 (by decide) (fun c34 => ?_) (fun c34 => ?_)
        · have gc34 := ai_ne c34
          exact (hK0 _ _ _).mp (J40 j14l3 _ _ _   hP hD hS (lv_sub hl [1, 2, 3, 4, 0, 5] rfl))
        · have gc34 := ai_eq c34
          have u34f_a1 : a1.toInt ≤ (8 : Int) := Int.le_trans (Int.le_of_eq gc34.symm) h26_1
          have l34f_a1 : (0 : Int) ≤ a1.toInt := Int.le_trans h26_0 (Int.le_of_eq gc34)
          obtain ⟨x37, ex37⟩ : ∃ y : Int32, y = j14l3 + Int32.ofInt 1 := ⟨_, rfl⟩
          refine lv_iinc (v := x37) (lv' := [(3, .int x37), (4, .int r26), (0, .ref a0), (1, .int a1), (2, .int a2), (5, .int j14l5)]) hx hb dX7_ownTurns_37 hl (k := 4) rfl ex37.symm (by decide) rfl (fun ls hl => ?_)
          exact (hK0 _ _ _).mp (J40 x37 _ _ _   hP hD hS (lv_sub hl [2, 3, 4, 0, 1, 5] rfl))
  exact (hK0 _ _ _).mp (J14 2147483648 0 a0_1_1 0 _ _ _ (by have h1 : (0 : Int) ≤ (0 : Int32).toInt := zq5; have h2 : (0 : Int32).toInt ≤ (0 : Int) := zq6; omega) zq5 ba0_1_1_l ba0_1_1_u hP hD hS (lv_sub hl [3, 4, 5, 2, 1, 0] rfl))

set_option maxHeartbeats 4000000 in
set_option maxRecDepth 100000 in
theorem c_X7_inLowestTerms (l : Launch) (dC : Nat → ClassId) (dI : Nat → Nat → Nat) (sz : Nat) (a1 : Int64) (a2 : Int64) (a3 : Int32)  : Met l yX7_inLowestTerms wsX7_inLowestTerms ({ frames := 0, cells := 0, slots := 0, locals := 0 }) (va_Pc [.long a1, .long a2, .int a3] (ax_C dC dI sz [] [] (fun _ => True))) (va_Ql (fun (r : Int64) (_ : Unit) => True) (fun (_ : Unit) (t : State) => ax_B dC dI (va_A [] sz) [] [] t) (va_A [] sz)) 0 0 (va_A [] sz) := by
  refine Met.ofW (cc := cX7_inLowestTerms) (maxL := 12) (ret := (some .long)) (by decide) rfl ?_
  intro p e s m args below meth c s₁ B hml hv
  obtain ⟨rfl, hsz, hP, hK, hD0, hE⟩ := hv
  have hx := B.exec
  have hb := B.bytes
  have hr := B.returns
  have hts := atoms_spec (ws := wsX7_inLowestTerms) B.pre
  have hown : s.vm.findClass RX7 = some m.cls := findClass_of_methodNamed B.named
  have hlocks := B.notSynchronized
  subst hsz
  have hD := hD0.self (sz := s.heap.size)
  generalize hAe : va_A [] s.heap.size = A at hD ⊢
  have hA : ∀ q : Nat, s.heap.size ≤ q → A q := fun q h => by rw [← hAe]; exact Or.inr h
  have hS : va_S A s.heap s.heap [] := va_S.rf
  have hP : va_P (dC, dI) vwCl [] s.heap := hP
  have hl := lv_entry ([.long a1, .long a2, .int a3]) (n := 12) (Nat.le_of_ble_eq_true rfl)
  rw [lg_entry_eq]
  generalize (lg_sl ([.long a1, .long a2, .int a3]) ++ List.replicate (12 - (lg_sl ([.long a1, .long a2, .int a3])).length) Slot.unset).toArray = ls at hl ⊢
  have hl : lv_has ls 12 [(0, .long a1), (2, .long a2), (4, .int a3)] := hl
  refine ai_open (fun K hK0 => ?_)
  refine (hK0 _ _ _).mpr ?_
  refine lv_lload_n hx hb dX7_inLowestTerms_0 rfl (lv_at hl 1 rfl) ?_
  refine lv_lstore (lv' := [(5, .long a2), (0, .long a1), (2, .long a2), (4, .int a3)]) hx hb dX7_inLowestTerms_1 hl (by decide) rfl (fun ls hl => ?_)
  refine lv_lload_n hx hb dX7_inLowestTerms_3 rfl (lv_at hl 1 rfl) ?_
  refine lv_lstore (lv' := [(7, .long a1), (5, .long a2), (0, .long a1), (2, .long a2), (4, .int a3)]) hx hb dX7_inLowestTerms_4 hl (by decide) rfl (fun ls hl => ?_)
  refine lv_iconst (v := 0) hx hb dX7_inLowestTerms_6 zk_iconst_0 ?_
  refine lv_istore (lv' := [(9, .int 0), (7, .long a1), (5, .long a2), (0, .long a1), (2, .long a2), (4, .int a3)]) hx hb dX7_inLowestTerms_7 hl (by decide) rfl (fun ls hl => ?_)
  have J9 : ∀ (n : Nat) (j9l9 : Int32) (j9l7 : Int64) (j9l5 : Int64) (H : Heap) (locs : List Loc) (ls : Array Slot), (201 : Int) - j9l9.toInt ≤ (n : Int) → (0 : Int) ≤ j9l9.toInt → j9l9.toInt ≤ (200 : Int) → va_P (dC, dI) vwCl [] H → va_D A [] → va_S A s.heap H locs → lv_has ls 12 [(0, .long a1), (2, .long a2), (4, .int a3), (5, .long j9l5), (7, .long j9l7), (9, .int j9l9)] → K H locs (F0 m 9 ls []) := by
    intro n
    induction n with
    | zero =>
      intro j9l9 j9l7 j9l5 H locs ls hm bj9l9_l bj9l9_u hP hD hS hl
      have h8 := ai_min j9l9
      have h9 := ai_max j9l9
      exact absurd hm (by omega)
    | succ n ih9 =>
      intro j9l9 j9l7 j9l5 H locs ls hm bj9l9_l bj9l9_u hP hD hS hl
      refine (hK0 _ _ _).mpr ?_
      have hm9 := hm
      refine lv_iload hx hb dX7_inLowestTerms_9 (lv_at hl 5 rfl) ?_
      refine lv_sipush (v := 200) hx hb dX7_inLowestTerms_11 zk_sipush_200 ?_
      have J45 : ∀ (H : Heap) (locs : List Loc) (ls : Array Slot), va_P (dC, dI) vwCl [] H → va_D A [] → va_S A s.heap H locs → lv_has ls 12 [(0, .long a1), (2, .long a2), (4, .int a3), (5, .long j9l5)] → K H locs (F0 m 45 ls []) := by
        intro  H locs ls   hP hD hS hl
        refine (hK0 _ _ _).mpr ?_
        refine lv_iload hx hb dX7_inLowestTerms_45 (lv_at hl 2 rfl) ?_
        have J55 : ∀ (j55s0 : Int64) (H : Heap) (locs : List Loc) (ls : Array Slot), va_P (dC, dI) vwCl [] H → va_D A [] → va_S A s.heap H locs → lv_has ls 12 [(5, .long j9l5)] → K H locs (F0 m 55 ls [.long j55s0]) := by
          intro j55s0 H locs ls   hP hD hS hl
          refine (hK0 _ _ _).mpr ?_
          refine lv_lstore (lv' := [(9, .long j55s0), (5, .long j9l5)]) hx hb dX7_inLowestTerms_55 hl (by decide) rfl (fun ls hl => ?_)
          refine lv_lload hx hb dX7_inLowestTerms_57 (lv_at hl 1 rfl) ?_
          refine lv_lconst (v := 0) hx hb dX7_inLowestTerms_59 (by decide) ?_
          refine W.lcmp hx hb dX7_inLowestTerms_60 ?_
          refine lv_topi (fun x60 ex60 => ?_)
          refine lv_if_ne (tgt := 69) hx hb dX7_inLowestTerms_61 (by decide) (fun c61 => ?_) (fun c61 => ?_)
          · have gc61 := ai_ne c61
            have zc61 : ¬ j9l5 = 0 := ai_lcne ex60 c61
            refine lv_lload hx hb dX7_inLowestTerms_69 (lv_at hl 0 rfl) ?_
            refine lv_lload hx hb dX7_inLowestTerms_71 (lv_at hl 1 rfl) ?_
            refine lv_ldiv hx hb dX7_inLowestTerms_73 zc61 ?_
            refine lv_topl (fun x73 ex73 => ?_)
            exact W.lret (v := x73) hx hb hr (fun t ht hW => ⟨⟨x73, (), rfl, trivial, by rw [ht]; exact hP, va_K.moved hW.alike hK, hD⟩, hS.F ht⟩) hS.2.2 dX7_inLowestTerms_74
          · have gc61 := ai_eq c61
            have u61f_x60 : x60.toInt ≤ (0 : Int) := Int.le_trans (Int.le_of_eq gc61) zq6
            have l61f_x60 : (0 : Int) ≤ x60.toInt := Int.le_trans zq5 (Int.le_of_eq gc61.symm)
            refine lv_lload hx hb dX7_inLowestTerms_64 (lv_at hl 0 rfl) ?_
            refine lv_goto (tgt := 74) hx hb dX7_inLowestTerms_66 (by decide) ?_
            exact W.lret (v := j55s0) hx hb hr (fun t ht hW => ⟨⟨j55s0, (), rfl, trivial, by rw [ht]; exact hP, va_K.moved hW.alike hK, hD⟩, hS.F ht⟩) hS.2.2 dX7_inLowestTerms_74
        refine lv_if_eq (tgt := 54) hx hb dX7_inLowestTerms_47 (by decide) (fun c47 => ?_) (fun c47 => ?_)
        · have gc47 := ai_eq c47
          have u47t_a3 : a3.toInt ≤ (0 : Int) := Int.le_trans (Int.le_of_eq gc47) zq6
          have l47t_a3 : (0 : Int) ≤ a3.toInt := Int.le_trans zq5 (Int.le_of_eq gc47.symm)
          refine lv_lload_n hx hb dX7_inLowestTerms_54 rfl (lv_at hl 0 rfl) ?_
          exact (hK0 _ _ _).mp (J55 a1 _ _ _   hP hD hS (lv_sub hl [3] rfl))
        · have gc47 := ai_ne c47
          refine lv_lload_n hx hb dX7_inLowestTerms_50 rfl (lv_at hl 1 rfl) ?_
          refine lv_goto (tgt := 55) hx hb dX7_inLowestTerms_51 (by decide) ?_
          exact (hK0 _ _ _).mp (J55 a2 _ _ _   hP hD hS (lv_sub hl [3] rfl))
      refine lv_icmp_ge (tgt := 45) hx hb dX7_inLowestTerms_14 (by decide) (fun c14 => ?_) (fun c14 => ?_)
      · have gc14 := ai_le c14
        have l14t_j9l9 : (200 : Int) ≤ j9l9.toInt := Int.le_trans zq64 gc14
        exact (hK0 _ _ _).mp (J45  _ _ _   hP hD hS (lv_sub hl [0, 1, 2, 3] rfl))
      · have gc14 := ai_nle c14
        have u14f_j9l9 : j9l9.toInt ≤ (199 : Int) := ai_lthi gc14 zq65
        refine lv_lload hx hb dX7_inLowestTerms_17 (lv_at hl 4 rfl) ?_
        refine lv_lconst (v := 0) hx hb dX7_inLowestTerms_19 (by decide) ?_
        refine W.lcmp hx hb dX7_inLowestTerms_20 ?_
        refine lv_topi (fun x20 ex20 => ?_)
        refine lv_if_eq (tgt := 45) hx hb dX7_inLowestTerms_21 (by decide) (fun c21 => ?_) (fun c21 => ?_)
        · have gc21 := ai_eq c21
          have u21t_x20 : x20.toInt ≤ (0 : Int) := Int.le_trans (Int.le_of_eq gc21) zq6
          have l21t_x20 : (0 : Int) ≤ x20.toInt := Int.le_trans zq5 (Int.le_of_eq gc21.symm)
          exact (hK0 _ _ _).mp (J45  _ _ _   hP hD hS (lv_sub hl [0, 1, 2, 3] rfl))
        · have gc21 := ai_ne c21
          have zc21 : ¬ j9l7 = 0 := ai_lcne ex20 c21
          refine lv_lload hx hb dX7_inLowestTerms_24 (lv_at hl 3 rfl) ?_
          refine lv_lload hx hb dX7_inLowestTerms_26 (lv_at hl 4 rfl) ?_
          refine lv_lrem hx hb dX7_inLowestTerms_28 zc21 ?_
          refine lv_topl (fun x28 ex28 => ?_)
          refine lv_lstore (lv' := [(10, .long x28), (0, .long a1), (2, .long a2), (4, .int a3), (5, .long j9l5), (7, .long j9l7), (9, .int j9l9)]) hx hb dX7_inLowestTerms_29 hl (by decide) rfl (fun ls hl => ?_)
          refine lv_lload hx hb dX7_inLowestTerms_31 (lv_at hl 5 rfl) ?_
          refine lv_lstore (lv' := [(5, .long j9l7), (10, .long x28), (0, .long a1), (2, .long a2), (4, .int a3), (7, .long j9l7), (9, .int j9l9)]) hx hb dX7_inLowestTerms_33 hl (by decide) rfl (fun ls hl => ?_)
          refine lv_lload hx hb dX7_inLowestTerms_35 (lv_at hl 1 rfl) ?_
          refine lv_lstore (lv' := [(7, .long x28), (5, .long j9l7), (10, .long x28), (0, .long a1), (2, .long a2), (4, .int a3), (9, .int j9l9)]) hx hb dX7_inLowestTerms_37 hl (by decide) rfl (fun ls hl => ?_)
          obtain ⟨x39, ex39⟩ : ∃ y : Int32, y = j9l9 + Int32.ofInt 1 := ⟨_, rfl⟩
          have qx39 : x39.toInt = j9l9.toInt + 1 := ai_inc ex39 (by decide) (by decide) u14f_j9l9 (by decide)
          have bx39 : (1 : Int) ≤ x39.toInt ∧ x39.toInt ≤ 200 := ⟨by rw [qx39]; exact Int.add_le_add bj9l9_l (Int.le_refl _), by rw [qx39]; exact Int.add_le_add u14f_j9l9 (Int.le_refl _)⟩
          refine lv_iinc (v := x39) (lv' := [(9, .int x39), (7, .long x28), (5, .long j9l7), (10, .long x28), (0, .long a1), (2, .long a2), (4, .int a3)]) hx hb dX7_inLowestTerms_39 hl (k := 6) rfl ex39.symm (by decide) rfl (fun ls hl => ?_)
          refine lv_goto (tgt := 9) hx hb dX7_inLowestTerms_42 (by decide) ?_
          exact (hK0 _ _ _).mp (ih9 x39 x28 j9l7 _ _ _ (by have h0 := qx39; omega) (Int.le_trans zq4 bx39.1) bx39.2 hP hD hS (lv_sub hl [4, 5, 6, 2, 1, 0] rfl))
  exact (hK0 _ _ _).mp (J9 201 0 a1 a2 _ _ _ (by have h1 : (0 : Int) ≤ (0 : Int32).toInt := zq5; have h2 : (0 : Int32).toInt ≤ (0 : Int) := zq6; omega) zq5 (Int.le_trans zq6 zq66) hP hD hS (lv_sub hl [3, 4, 5, 2, 1, 0] rfl))
