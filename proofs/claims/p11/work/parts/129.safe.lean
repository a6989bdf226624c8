set_option maxHeartbeats 4000000 in
set_option maxRecDepth 100000 in
theorem c_X7_back (l : Launch) (dC : Nat → ClassId) (dI : Nat → Nat → Nat) (sz : Nat) (a0 : Nat) (a1 : Int32) (a0g_0 a0g_2 a0g_3 a0g_5 a0g_6 a0g_7 a0g_9 a0g_10 : Value) (a0_1 : Nat) (a0_4 : Nat) (a0_8 : Int32) (a0_4_0 : Int32) (a0_4_1 : Int32) (a0_4g_2 a0_4g_3 : Value) (a0_4_4 : Nat) (ka0_4_4 : ClassId) (a0_4_4e0 : Nat) (a0_4_4e1 : Nat) (a0_4_4e2 : Nat) (a0_1_0 : Int32) (a0_1_1 : Int32) (a0_1_2 : Int32) (a0_1_3 : Int32) (a0_1_4 : Int32) (a0_1_5 : Nat) (a0_1_6 : Nat) (a0_4_4e0_0 : Int32) (a0_4_4e0_1 : Int32) (a0_4_4e0_2 : Int32) (a0_4_4e0_3 : Int32) (a0_4_4e0_4 : Int32) (a0_4_4e0_5 : Nat) (a0_4_4e0_6 : Nat) (ka0_4_4e0_5 : ClassId) (fa0_4_4e0_5 : Nat → Int32) (ka0_1_5 : ClassId) (fa0_1_5 : Nat → Int32) (ka0_4_4e0_6 : ClassId) (fa0_4_4e0_6 : Nat → Int32) (ka0_1_6 : ClassId) (fa0_1_6 : Nat → Int32) (a0_4_4e1_0 : Int32) (a0_4_4e1_1 : Int32) (a0_4_4e1_2 : Int32) (a0_4_4e1_3 : Int32) (a0_4_4e1_4 : Int32) (a0_4_4e1_5 : Nat) (a0_4_4e1_6 : Nat) (ka0_4_4e1_5 : ClassId) (fa0_4_4e1_5 : Nat → Int32) (ka0_4_4e1_6 : ClassId) (fa0_4_4e1_6 : Nat → Int32) (a0_4_4e2_0 : Int32) (a0_4_4e2_1 : Int32) (a0_4_4e2_2 : Int32) (a0_4_4e2_3 : Int32) (a0_4_4e2_4 : Int32) (a0_4_4e2_5 : Nat) (a0_4_4e2_6 : Nat) (ka0_4_4e2_5 : ClassId) (fa0_4_4e2_5 : Nat → Int32) (ka0_4_4e2_6 : ClassId) (fa0_4_4e2_6 : Nat → Int32) (ba0_4_0_l : (0 : Int) ≤ a0_4_0.toInt) (ba0_4_0_u : a0_4_0.toInt ≤ (16 : Int)) (ba0_4_1_l : (0 : Int) ≤ a0_4_1.toInt) (ba0_4_1_u : a0_4_1.toInt ≤ (3 : Int)) (ba0_1_1_l : (0 : Int) ≤ a0_1_1.toInt) (ba0_1_1_u : a0_1_1.toInt ≤ (8 : Int)) (ba0_4_4e0_1_l : (0 : Int) ≤ a0_4_4e0_1.toInt) (ba0_4_4e0_1_u : a0_4_4e0_1.toInt ≤ (8 : Int)) (ba0_4_4e1_1_l : (0 : Int) ≤ a0_4_4e1_1.toInt) (ba0_4_4e1_1_u : a0_4_4e1_1.toInt ≤ (8 : Int)) (ba0_4_4e2_1_l : (0 : Int) ≤ a0_4_4e2_1.toInt) (ba0_4_4e2_1_u : a0_4_4e2_1.toInt ≤ (8 : Int)) : Met l yX7_back wsX7_back ({ frames := 2, cells := 0, slots := 0, locals := 44 }) (va_Pc [.ref a0, .int a1] (ax_C dC dI sz [(a0, .inr (7, [a0g_0, .ref a0_1, a0g_2, a0g_3, .ref a0_4, a0g_5, a0g_6, a0g_7, .int a0_8, a0g_9, a0g_10])), (a0_4, .inr (1, [.int a0_4_0, .int a0_4_1, a0_4g_2, a0_4g_3, .ref a0_4_4])), (a0_4_4, .inl (ka0_4_4, 3, .inr (.inr (.inr (.inr (fun i9 => ([some a0_4_4e0, some a0_4_4e1, some a0_4_4e2] : List (Option Nat)).getD i9 none)))))), (a0_1, .inr (5, [.int a0_1_0, .int a0_1_1, .int a0_1_2, .int a0_1_3, .int a0_1_4, .ref a0_1_5, .ref a0_1_6])), (a0_4_4e0, .inr (5, [.int a0_4_4e0_0, .int a0_4_4e0_1, .int a0_4_4e0_2, .int a0_4_4e0_3, .int a0_4_4e0_4, .ref a0_4_4e0_5, .ref a0_4_4e0_6])), (a0_4_4e0_5, .inl (ka0_4_4e0_5, 9, .inl (fa0_4_4e0_5))), (a0_1_5, .inl (ka0_1_5, 9, .inl (fa0_1_5))), (a0_4_4e0_6, .inl (ka0_4_4e0_6, 9, .inl (fa0_4_4e0_6))), (a0_1_6, .inl (ka0_1_6, 9, .inl (fa0_1_6))), (a0_4_4e1, .inr (5, [.int a0_4_4e1_0, .int a0_4_4e1_1, .int a0_4_4e1_2, .int a0_4_4e1_3, .int a0_4_4e1_4, .ref a0_4_4e1_5, .ref a0_4_4e1_6])), (a0_4_4e1_5, .inl (ka0_4_4e1_5, 9, .inl (fa0_4_4e1_5))), (a0_4_4e1_6, .inl (ka0_4_4e1_6, 9, .inl (fa0_4_4e1_6))), (a0_4_4e2, .inr (5, [.int a0_4_4e2_0, .int a0_4_4e2_1, .int a0_4_4e2_2, .int a0_4_4e2_3, .int a0_4_4e2_4, .ref a0_4_4e2_5, .ref a0_4_4e2_6])), (a0_4_4e2_5, .inl (ka0_4_4e2_5, 9, .inl (fa0_4_4e2_5))), (a0_4_4e2_6, .inl (ka0_4_4e2_6, 9, .inl (fa0_4_4e2_6)))] [(ka0_4_4, (.object RX5)), (ka0_4_4e0_5, .int), (ka0_1_5, .int), (ka0_4_4e0_6, .int), (ka0_1_6, .int), (ka0_4_4e1_5, .int), (ka0_4_4e1_6, .int), (ka0_4_4e2_5, .int), (ka0_4_4e2_6, .int)] (fun U => va_Nw (.methodLinkNest RX1 41 yX7_within RX7) U))) (va_Qi (fun (r : Int32) (_ : Unit) => (r = 1 ∧ (0 : Int) ≤ a1.toInt ∧ a1.toInt ≤ (2 : Int) ∧ (1 : Int) ≤ a0_4_1.toInt ∧ a0_4_1.toInt ≤ (3 : Int)) ∨ (r = 0)) (fun (_ : Unit) (t : State) => ∃ na0_8 : Int32, ∃ na0_4_0 : Int32, ∃ na0_1_0 : Int32, ∃ na0_1_1 : Int32, ∃ na0_1_2 : Int32, ∃ na0_1_3 : Int32, ∃ na0_1_4 : Int32, ∃ nfa0_1_5 : Nat → Int32, ∃ nfa0_1_6 : Nat → Int32, ((0 : Int) ≤ na0_4_0.toInt ∧ na0_4_0.toInt ≤ 16) ∧ ((0 : Int) ≤ na0_1_1.toInt ∧ na0_1_1.toInt ≤ 8) ∧ ax_B dC dI (va_A [(a0, .inr (7, [a0g_0, .ref a0_1, a0g_2, a0g_3, .ref a0_4, a0g_5, a0g_6, a0g_7, .int a0_8, a0g_9, a0g_10])), (a0_4, .inr (1, [.int a0_4_0, .int a0_4_1, a0_4g_2, a0_4g_3, .ref a0_4_4])), (a0_4_4, .inl (ka0_4_4, 3, .inr (.inr (.inr (.inr (fun i9 => ([some a0_4_4e0, some a0_4_4e1, some a0_4_4e2] : List (Option Nat)).getD i9 none)))))), (a0_1, .inr (5, [.int a0_1_0, .int a0_1_1, .int a0_1_2, .int a0_1_3, .int a0_1_4, .ref a0_1_5, .ref a0_1_6])), (a0_4_4e0, .inr (5, [.int a0_4_4e0_0, .int a0_4_4e0_1, .int a0_4_4e0_2, .int a0_4_4e0_3, .int a0_4_4e0_4, .ref a0_4_4e0_5, .ref a0_4_4e0_6])), (a0_4_4e0_5, .inl (ka0_4_4e0_5, 9, .inl (fa0_4_4e0_5))), (a0_1_5, .inl (ka0_1_5, 9, .inl (fa0_1_5))), (a0_4_4e0_6, .inl (ka0_4_4e0_6, 9, .inl (fa0_4_4e0_6))), (a0_1_6, .inl (ka0_1_6, 9, .inl (fa0_1_6))), (a0_4_4e1, .inr (5, [.int a0_4_4e1_0, .int a0_4_4e1_1, .int a0_4_4e1_2, .int a0_4_4e1_3, .int a0_4_4e1_4, .ref a0_4_4e1_5, .ref a0_4_4e1_6])), (a0_4_4e1_5, .inl (ka0_4_4e1_5, 9, .inl (fa0_4_4e1_5))), (a0_4_4e1_6, .inl (ka0_4_4e1_6, 9, .inl (fa0_4_4e1_6))), (a0_4_4e2, .inr (5, [.int a0_4_4e2_0, .int a0_4_4e2_1, .int a0_4_4e2_2, .int a0_4_4e2_3, .int a0_4_4e2_4, .ref a0_4_4e2_5, .ref a0_4_4e2_6])), (a0_4_4e2_5, .inl (ka0_4_4e2_5, 9, .inl (fa0_4_4e2_5))), (a0_4_4e2_6, .inl (ka0_4_4e2_6, 9, .inl (fa0_4_4e2_6)))] sz) [(a0, .inr (7, [a0g_0, .ref a0_1, a0g_2, a0g_3, .ref a0_4, a0g_5, a0g_6, a0g_7, .int na0_8, a0g_9, a0g_10])), (a0_4, .inr (1, [.int na0_4_0, .int a0_4_1, a0_4g_2, a0_4g_3, .ref a0_4_4])), (a0_4_4, .inl (ka0_4_4, 3, .inr (.inr (.inr (.inr (fun i9 => ([some a0_4_4e0, some a0_4_4e1, some a0_4_4e2] : List (Option Nat)).getD i9 none)))))), (a0_1, .inr (5, [.int na0_1_0, .int na0_1_1, .int na0_1_2, .int na0_1_3, .int na0_1_4, .ref a0_1_5, .ref a0_1_6])), (a0_4_4e0, .inr (5, [.int a0_4_4e0_0, .int a0_4_4e0_1, .int a0_4_4e0_2, .int a0_4_4e0_3, .int a0_4_4e0_4, .ref a0_4_4e0_5, .ref a0_4_4e0_6])), (a0_4_4e0_5, .inl (ka0_4_4e0_5, 9, .inl (fa0_4_4e0_5))), (a0_1_5, .inl (ka0_1_5, 9, .inl (nfa0_1_5))), (a0_4_4e0_6, .inl (ka0_4_4e0_6, 9, .inl (fa0_4_4e0_6))), (a0_1_6, .inl (ka0_1_6, 9, .inl (nfa0_1_6))), (a0_4_4e1, .inr (5, [.int a0_4_4e1_0, .int a0_4_4e1_1, .int a0_4_4e1_2, .int a0_4_4e1_3, .int a0_4_4e1_4, .ref a0_4_4e1_5, .ref a0_4_4e1_6])), (a0_4_4e1_5, .inl (ka0_4_4e1_5, 9, .inl (fa0_4_4e1_5))), (a0_4_4e1_6, .inl (ka0_4_4e1_6, 9, .inl (fa0_4_4e1_6))), (a0_4_4e2, .inr (5, [.int a0_4_4e2_0, .int a0_4_4e2_1, .int a0_4_4e2_2, .int a0_4_4e2_3, .int a0_4_4e2_4, .ref a0_4_4e2_5, .ref a0_4_4e2_6])), (a0_4_4e2_5, .inl (ka0_4_4e2_5, 9, .inl (fa0_4_4e2_5))), (a0_4_4e2_6, .inl (ka0_4_4e2_6, 9, .inl (fa0_4_4e2_6)))] [(ka0_4_4, (.object RX5)), (ka0_4_4e0_5, .int), (ka0_1_5, .int), (ka0_4_4e0_6, .int), (ka0_1_6, .int), (ka0_4_4e1_5, .int), (ka0_4_4e1_6, .int), (ka0_4_4e2_5, .int), (ka0_4_4e2_6, .int)] t) (va_A [(a0, .inr (7, [a0g_0, .ref a0_1, a0g_2, a0g_3, .ref a0_4, a0g_5, a0g_6, a0g_7, .int a0_8, a0g_9, a0g_10])), (a0_4, .inr (1, [.int a0_4_0, .int a0_4_1, a0_4g_2, a0_4g_3, .ref a0_4_4])), (a0_4_4, .inl (ka0_4_4, 3, .inr (.inr (.inr (.inr (fun i9 => ([some a0_4_4e0, some a0_4_4e1, some a0_4_4e2] : List (Option Nat)).getD i9 none)))))), (a0_1, .inr (5, [.int a0_1_0, .int a0_1_1, .int a0_1_2, .int a0_1_3, .int a0_1_4, .ref a0_1_5, .ref a0_1_6])), (a0_4_4e0, .inr (5, [.int a0_4_4e0_0, .int a0_4_4e0_1, .int a0_4_4e0_2, .int a0_4_4e0_3, .int a0_4_4e0_4, .ref a0_4_4e0_5, .ref a0_4_4e0_6])), (a0_4_4e0_5, .inl (ka0_4_4e0_5, 9, .inl (fa0_4_4e0_5))), (a0_1_5, .inl (ka0_1_5, 9, .inl (fa0_1_5))), (a0_4_4e0_6, .inl (ka0_4_4e0_6, 9, .inl (fa0_4_4e0_6))), (a0_1_6, .inl (ka0_1_6, 9, .inl (fa0_1_6))), (a0_4_4e1, .inr (5, [.int a0_4_4e1_0, .int a0_4_4e1_1, .int a0_4_4e1_2, .int a0_4_4e1_3, .int a0_4_4e1_4, .ref a0_4_4e1_5, .ref a0_4_4e1_6])), (a0_4_4e1_5, .inl (ka0_4_4e1_5, 9, .inl (fa0_4_4e1_5))), (a0_4_4e1_6, .inl (ka0_4_4e1_6, 9, .inl (fa0_4_4e1_6))), (a0_4_4e2, .inr (5, [.int a0_4_4e2_0, .int a0_4_4e2_1, .int a0_4_4e2_2, .int a0_4_4e2_3, .int a0_4_4e2_4, .ref a0_4_4e2_5, .ref a0_4_4e2_6])), (a0_4_4e2_5, .inl (ka0_4_4e2_5, 9, .inl (fa0_4_4e2_5))), (a0_4_4e2_6, .inl (ka0_4_4e2_6, 9, .inl (fa0_4_4e2_6)))] sz)) 0 0 (va_A [(a0, .inr (7, [a0g_0, .ref a0_1, a0g_2, a0g_3, .ref a0_4, a0g_5, a0g_6, a0g_7, .int a0_8, a0g_9, a0g_10])), (a0_4, .inr (1, [.int a0_4_0, .int a0_4_1, a0_4g_2, a0_4g_3, .ref a0_4_4])), (a0_4_4, .inl (ka0_4_4, 3, .inr (.inr (.inr (.inr (fun i9 => ([some a0_4_4e0, some a0_4_4e1, some a0_4_4e2] : List (Option Nat)).getD i9 none)))))), (a0_1, .inr (5, [.int a0_1_0, .int a0_1_1, .int a0_1_2, .int a0_1_3, .int a0_1_4, .ref a0_1_5, .ref a0_1_6])), (a0_4_4e0, .inr (5, [.int a0_4_4e0_0, .int a0_4_4e0_1, .int a0_4_4e0_2, .int a0_4_4e0_3, .int a0_4_4e0_4, .ref a0_4_4e0_5, .ref a0_4_4e0_6])), (a0_4_4e0_5, .inl (ka0_4_4e0_5, 9, .inl (fa0_4_4e0_5))), (a0_1_5, .inl (ka0_1_5, 9, .inl (fa0_1_5))), (a0_4_4e0_6, .inl (ka0_4_4e0_6, 9, .inl (fa0_4_4e0_6))), (a0_1_6, .inl (ka0_1_6, 9, .inl (fa0_1_6))), (a0_4_4e1, .inr (5, [.int a0_4_4e1_0, .int a0_4_4e1_1, .int a0_4_4e1_2, .int a0_4_4e1_3, .int a0_4_4e1_4, .ref a0_4_4e1_5, .ref a0_4_4e1_6])), (a0_4_4e1_5, .inl (ka0_4_4e1_5, 9, .inl (fa0_4_4e1_5))), (a0_4_4e1_6, .inl (ka0_4_4e1_6, 9, .inl (fa0_4_4e1_6))), (a0_4_4e2, .inr (5, [.int a0_4_4e2_0, .int a0_4_4e2_1, .int a0_4_4e2_2, .int a0_4_4e2_3, .int a0_4_4e2_4, .ref a0_4_4e2_5, .ref a0_4_4e2_6])), (a0_4_4e2_5, .inl (ka0_4_4e2_5, 9, .inl (fa0_4_4e2_5))), (a0_4_4e2_6, .inl (ka0_4_4e2_6, 9, .inl (fa0_4_4e2_6)))] sz) := by
  refine Met.ofW (cc := cX7_back) (maxL := 3) (ret := (some .boolean)) (by decide) rfl ?_
  intro p e s m args below meth c s₁ B hml hv
  obtain ⟨rfl, hsz, hP, hK, hD0, hE⟩ := hv
  have hx := B.exec
  have hb := B.bytes
  have hr := B.returns
  have hts := atoms_spec (ws := wsX7_back) B.pre
  have hown : s.vm.findClass RX7 = some m.cls := findClass_of_methodNamed B.named
  have hlocks := B.notSynchronized
  subst hsz
  have hD := hD0.self (sz := s.heap.size)
  generalize hAe : va_A [(a0, .inr (7, [a0g_0, .ref a0_1, a0g_2, a0g_3, .ref a0_4, a0g_5, a0g_6, a0g_7, .int a0_8, a0g_9, a0g_10])), (a0_4, .inr (1, [.int a0_4_0, .int a0_4_1, a0_4g_2, a0_4g_3, .ref a0_4_4])), (a0_4_4, .inl (ka0_4_4, 3, .inr (.inr (.inr (.inr (fun i9 => ([some a0_4_4e0, some a0_4_4e1, some a0_4_4e2] : List (Option Nat)).getD i9 none)))))), (a0_1, .inr (5, [.int a0_1_0, .int a0_1_1, .int a0_1_2, .int a0_1_3, .int a0_1_4, .ref a0_1_5, .ref a0_1_6])), (a0_4_4e0, .inr (5, [.int a0_4_4e0_0, .int a0_4_4e0_1, .int a0_4_4e0_2, .int a0_4_4e0_3, .int a0_4_4e0_4, .ref a0_4_4e0_5, .ref a0_4_4e0_6])), (a0_4_4e0_5, .inl (ka0_4_4e0_5, 9, .inl (fa0_4_4e0_5))), (a0_1_5, .inl (ka0_1_5, 9, .inl (fa0_1_5))), (a0_4_4e0_6, .inl (ka0_4_4e0_6, 9, .inl (fa0_4_4e0_6))), (a0_1_6, .inl (ka0_1_6, 9, .inl (fa0_1_6))), (a0_4_4e1, .inr (5, [.int a0_4_4e1_0, .int a0_4_4e1_1, .int a0_4_4e1_2, .int a0_4_4e1_3, .int a0_4_4e1_4, .ref a0_4_4e1_5, .ref a0_4_4e1_6])), (a0_4_4e1_5, .inl (ka0_4_4e1_5, 9, .inl (fa0_4_4e1_5))), (a0_4_4e1_6, .inl (ka0_4_4e1_6, 9, .inl (fa0_4_4e1_6))), (a0_4_4e2, .inr (5, [.int a0_4_4e2_0, .int a0_4_4e2_1, .int a0_4_4e2_2, .int a0_4_4e2_3, .int a0_4_4e2_4, .ref a0_4_4e2_5, .ref a0_4_4e2_6])), (a0_4_4e2_5, .inl (ka0_4_4e2_5, 9, .inl (fa0_4_4e2_5))), (a0_4_4e2_6, .inl (ka0_4_4e2_6, 9, .inl (fa0_4_4e2_6)))] s.heap.size = A at hD ⊢
  have hA : ∀ q : Nat, s.heap.size ≤ q → A q := fun q h => by rw [← hAe]; exact Or.inr h
  have hS : va_S A s.heap s.heap [] := va_S.rf
  have hP : va_P (dC, dI) vwCl [(a0, .inr (7, [a0g_0, .ref a0_1, a0g_2, a0g_3, .ref a0_4, a0g_5, a0g_6, a0g_7, .int a0_8, a0g_9, a0g_10])), (a0_4, .inr (1, [.int a0_4_0, .int a0_4_1, a0_4g_2, a0_4g_3, .ref a0_4_4])), (a0_4_4, .inl (ka0_4_4, 3, .inr (.inr (.inr (.inr (fun i9 => ([some a0_4_4e0, some a0_4_4e1, some a0_4_4e2] : List (Option Nat)).getD i9 none)))))), (a0_1, .inr (5, [.int a0_1_0, .int a0_1_1, .int a0_1_2, .int a0_1_3, .int a0_1_4, .ref a0_1_5, .ref a0_1_6])), (a0_4_4e0, .inr (5, [.int a0_4_4e0_0, .int a0_4_4e0_1, .int a0_4_4e0_2, .int a0_4_4e0_3, .int a0_4_4e0_4, .ref a0_4_4e0_5, .ref a0_4_4e0_6])), (a0_4_4e0_5, .inl (ka0_4_4e0_5, 9, .inl (fa0_4_4e0_5))), (a0_1_5, .inl (ka0_1_5, 9, .inl (fa0_1_5))), (a0_4_4e0_6, .inl (ka0_4_4e0_6, 9, .inl (fa0_4_4e0_6))), (a0_1_6, .inl (ka0_1_6, 9, .inl (fa0_1_6))), (a0_4_4e1, .inr (5, [.int a0_4_4e1_0, .int a0_4_4e1_1, .int a0_4_4e1_2, .int a0_4_4e1_3, .int a0_4_4e1_4, .ref a0_4_4e1_5, .ref a0_4_4e1_6])), (a0_4_4e1_5, .inl (ka0_4_4e1_5, 9, .inl (fa0_4_4e1_5))), (a0_4_4e1_6, .inl (ka0_4_4e1_6, 9, .inl (fa0_4_4e1_6))), (a0_4_4e2, .inr (5, [.int a0_4_4e2_0, .int a0_4_4e2_1, .int a0_4_4e2_2, .int a0_4_4e2_3, .int a0_4_4e2_4, .ref a0_4_4e2_5, .ref a0_4_4e2_6])), (a0_4_4e2_5, .inl (ka0_4_4e2_5, 9, .inl (fa0_4_4e2_5))), (a0_4_4e2_6, .inl (ka0_4_4e2_6, 9, .inl (fa0_4_4e2_6)))] s.heap := hP
  have hE0 := hE
  have hl := lv_entry ([.ref a0, .int a1]) (n := 3) (Nat.le_of_ble_eq_true rfl)
  rw [lg_entry_eq]
  generalize (lg_sl ([.ref a0, .int a1]) ++ List.replicate (3 - (lg_sl ([.ref a0, .int a1])).length) Slot.unset).toArray = ls at hl ⊢
  have hl : lv_has ls 3 [(0, .ref a0), (1, .int a1)] := hl
  refine lv_aload_n hx hb dX7_back_0 rfl (lv_at hl 0 rfl) ?_
  refine va_get (D := (dC, dI)) (ci := 7) (v := .ref a0_4) (C := RX7) (T := TX7) (N := 11) hx hb hts zi_X7_back_7 hown hK hP 0 rfl rfl 4 (by decide) (hts (.fieldLink RX7 36 "WaxTurns" "history" "LWaxTurns$History;") (zm_X7_back_r1 (List.mem_of_getElem? (i := 0) rfl))) (fun _ h9 => h9) rfl dX7_back_1 ?_
  refine lv_iload_n hx hb dX7_back_4 rfl (lv_at hl 1 rfl) ?_
  refine lv_aload_n hx hb dX7_back_5 rfl (lv_at hl 0 rfl) ?_
  refine va_get (D := (dC, dI)) (ci := 7) (v := .ref a0_1) (C := RX7) (T := TX7) (N := 11) hx hb hts zi_X7_back_7 hown hK hP 0 rfl rfl 1 (by decide) (hts (.fieldLink RX7 19 "WaxTurns" "now" "LWaxTurns$Scene;") (zm_X7_back_r1 (List.mem_of_getElem? (i := 1) rfl))) (fun _ h9 => h9) rfl dX7_back_6 ?_
  obtain ⟨hPc, hDc, hFc, hCc⟩ := zc_cut (wc := [(a0_4, .inr (1, [.int a0_4_0, .int a0_4_1, a0_4g_2, a0_4g_3, .ref a0_4_4])), (a0_4_4, .inl (ka0_4_4, 3, .inr (.inr (.inr (.inr (fun i9 => ([some a0_4_4e0, some a0_4_4e1, some a0_4_4e2] : List (Option Nat)).getD i9 none)))))), (a0_1, .inr (5, [.int a0_1_0, .int a0_1_1, .int a0_1_2, .int a0_1_3, .int a0_1_4, .ref a0_1_5, .ref a0_1_6])), (a0_4_4e0, .inr (5, [.int a0_4_4e0_0, .int a0_4_4e0_1, .int a0_4_4e0_2, .int a0_4_4e0_3, .int a0_4_4e0_4, .ref a0_4_4e0_5, .ref a0_4_4e0_6])), (a0_4_4e0_5, .inl (ka0_4_4e0_5, 9, .inl (fa0_4_4e0_5))), (a0_1_5, .inl (ka0_1_5, 9, .inl (fa0_1_5))), (a0_4_4e0_6, .inl (ka0_4_4e0_6, 9, .inl (fa0_4_4e0_6))), (a0_1_6, .inl (ka0_1_6, 9, .inl (fa0_1_6))), (a0_4_4e1, .inr (5, [.int a0_4_4e1_0, .int a0_4_4e1_1, .int a0_4_4e1_2, .int a0_4_4e1_3, .int a0_4_4e1_4, .ref a0_4_4e1_5, .ref a0_4_4e1_6])), (a0_4_4e1_5, .inl (ka0_4_4e1_5, 9, .inl (fa0_4_4e1_5))), (a0_4_4e1_6, .inl (ka0_4_4e1_6, 9, .inl (fa0_4_4e1_6))), (a0_4_4e2, .inr (5, [.int a0_4_4e2_0, .int a0_4_4e2_1, .int a0_4_4e2_2, .int a0_4_4e2_3, .int a0_4_4e2_4, .ref a0_4_4e2_5, .ref a0_4_4e2_6])), (a0_4_4e2_5, .inl (ka0_4_4e2_5, 9, .inl (fa0_4_4e2_5))), (a0_4_4e2_6, .inl (ka0_4_4e2_6, 9, .inl (fa0_4_4e2_6)))]) hP hD hS hA [1, 2, 3, 4, 5, 6, 7, 8, 9, 10, 11, 12, 13, 14] (by decide +kernel) rfl
  have hKc := hK.sub (tys' := [(ka0_4_4, (.object RX5)), (ka0_4_4e0_5, .int), (ka0_1_5, .int), (ka0_4_4e0_6, .int), (ka0_1_6, .int), (ka0_4_4e1_5, .int), (ka0_4_4e1_6, .int), (ka0_4_4e2_5, .int), (ka0_4_4e2_6, .int)]) [0, 1, 2, 3, 4, 5, 6, 7, 8] rfl
  refine va_calli (va_runV (As := [.int a1, .ref a0_1]) (rest := []) ⟨hx, hb, hml, hown, hts⟩ (c_X1_goBack l dC dI s.heap.size a0_4 a1 a0_1 a0_4_0 a0_4_1 a0_4g_2 a0_4g_3 a0_4_4 ka0_4_4 a0_4_4e0 a0_4_4e1 a0_4_4e2 a0_1_0 a0_1_1 a0_1_2 a0_1_3 a0_1_4 a0_1_5 a0_1_6 a0_4_4e0_0 a0_4_4e0_1 a0_4_4e0_2 a0_4_4e0_3 a0_4_4e0_4 a0_4_4e0_5 a0_4_4e0_6 ka0_4_4e0_5 fa0_4_4e0_5 ka0_1_5 fa0_1_5 ka0_4_4e0_6 fa0_4_4e0_6 ka0_1_6 fa0_1_6 a0_4_4e1_0 a0_4_4e1_1 a0_4_4e1_2 a0_4_4e1_3 a0_4_4e1_4 a0_4_4e1_5 a0_4_4e1_6 ka0_4_4e1_5 fa0_4_4e1_5 ka0_4_4e1_6 fa0_4_4e1_6 a0_4_4e2_0 a0_4_4e2_1 a0_4_4e2_2 a0_4_4e2_3 a0_4_4e2_4 a0_4_4e2_5 a0_4_4e2_6 ka0_4_4e2_5 fa0_4_4e2_5 ka0_4_4e2_6 fa0_4_4e2_6 ba0_4_0_l ba0_4_0_u ba0_4_1_l ba0_4_1_u ba0_1_1_l ba0_1_1_u ba0_4_4e0_1_l ba0_4_4e0_1_u ba0_4_4e1_1_l ba0_4_4e1_1_u ba0_4_4e2_1_l ba0_4_4e2_1_u) (cwV 2 hts gX7_back_X1_goBack rfl rfl rfl zd_X1_goBack ⟨Nat.le_of_ble_eq_true rfl, Nat.le_of_ble_eq_true rfl⟩) ⟨ax_blind (fun _ _ _ _ hq => va_Nw.same rfl rfl (hq)), zr_1 hKc hPc (q0 := 0) rfl, ax_pre hPc hKc hDc (fun _ hW => va_Nw.warmM hW hE0)⟩ rfl rfl hl.1 rfl (lv_room (Nat.le_of_ble_eq_true rfl)) dX7_back_9 ⟨Nat.le_of_ble_eq_true rfl, Nat.le_of_ble_eq_true rfl⟩) hS (fun q _ h => hFc q h) hFc (fun r9 u t H locs ht hvm hw hB hz1 hk1 hS => ?_)
  obtain ⟨v9na0_0, v9na2_0, v9na2_1, v9na2_2, v9na2_3, v9na2_4, v9nfa2_5, v9nfa2_6, bv9na0_0, bv9na2_1, hP1, hK1, hD1⟩ := hB
  rw [ht] at hP1
  obtain ⟨hP, hD⟩ := zc_back (w := [(a0, .inr (7, [a0g_0, .ref a0_1, a0g_2, a0g_3, .ref a0_4, a0g_5, a0g_6, a0g_7, .int a0_8, a0g_9, a0g_10])), (a0_4, .inr (1, [.int v9na0_0, .int a0_4_1, a0_4g_2, a0_4g_3, .ref a0_4_4])), (a0_4_4, .inl (ka0_4_4, 3, .inr (.inr (.inr (.inr (fun i9 => ([some a0_4_4e0, some a0_4_4e1, some a0_4_4e2] : List (Option Nat)).getD i9 none)))))), (a0_1, .inr (5, [.int v9na2_0, .int v9na2_1, .int v9na2_2, .int v9na2_3, .int v9na2_4, .ref a0_1_5, .ref a0_1_6])), (a0_4_4e0, .inr (5, [.int a0_4_4e0_0, .int a0_4_4e0_1, .int a0_4_4e0_2, .int a0_4_4e0_3, .int a0_4_4e0_4, .ref a0_4_4e0_5, .ref a0_4_4e0_6])), (a0_4_4e0_5, .inl (ka0_4_4e0_5, 9, .inl (fa0_4_4e0_5))), (a0_1_5, .inl (ka0_1_5, 9, .inl (v9nfa2_5))), (a0_4_4e0_6, .inl (ka0_4_4e0_6, 9, .inl (fa0_4_4e0_6))), (a0_1_6, .inl (ka0_1_6, 9, .inl (v9nfa2_6))), (a0_4_4e1, .inr (5, [.int a0_4_4e1_0, .int a0_4_4e1_1, .int a0_4_4e1_2, .int a0_4_4e1_3, .int a0_4_4e1_4, .ref a0_4_4e1_5, .ref a0_4_4e1_6])), (a0_4_4e1_5, .inl (ka0_4_4e1_5, 9, .inl (fa0_4_4e1_5))), (a0_4_4e1_6, .inl (ka0_4_4e1_6, 9, .inl (fa0_4_4e1_6))), (a0_4_4e2, .inr (5, [.int a0_4_4e2_0, .int a0_4_4e2_1, .int a0_4_4e2_2, .int a0_4_4e2_3, .int a0_4_4e2_4, .ref a0_4_4e2_5, .ref a0_4_4e2_6])), (a0_4_4e2_5, .inl (ka0_4_4e2_5, 9, .inl (fa0_4_4e2_5))), (a0_4_4e2_6, .inl (ka0_4_4e2_6, 9, .inl (fa0_4_4e2_6)))]) hP hD hCc hk1 hFc hP1 hD1 [.inl 0, .inr 0, .inr 1, .inr 2, .inr 3, .inr 4, .inr 5, .inr 6, .inr 7, .inr 8, .inr 9, .inr 10, .inr 11, .inr 12, .inr 13] (by decide +kernel) rfl
  rcases hw with hw | hw
  · obtain ⟨hw, h9_0, h9_1, h9_2, h9_3⟩ := hw
    subst hw
    have l9k0_a1 : (0 : Int) ≤ a1.toInt := h9_0
    have u9k0_a1 : a1.toInt ≤ (2 : Int) := h9_1
    have l9k0_a0_4_1 : (1 : Int) ≤ a0_4_1.toInt := h9_2
    have u9k0_a0_4_1 : a0_4_1.toInt ≤ (3 : Int) := ba0_4_1_u
    refine lv_istore_n (lv' := [(2, .int 1), (0, .ref a0), (1, .int a1)]) hx hb dX7_back_12 rfl hl (by decide) rfl (fun ls hl => ?_)
    refine lv_aload_n hx hb dX7_back_13 rfl (lv_at hl 1 rfl) ?_
    refine lv_iload_n hx hb dX7_back_14 rfl (lv_at hl 0 rfl) ?_
    refine lv_if_eq (tgt := 22) hx hb dX7_back_15 (by decide) (fun c15 => absurd c15 (by decide +kernel)) (fun _ => ?_)
    refine lv_iconst (v := 0) hx hb dX7_back_18 zk_iconst_0 ?_
    refine lv_goto (tgt := 23) hx hb dX7_back_19 (by decide) ?_
    refine va_put (D := (dC, dI)) (ci := 7) (v := .int 0) (ty := .int) (C := RX7) (T := TX7) (N := 11) hx hb hts zi_X7_back_7 tyX7 tyX7_ok nmX7 hown hK hP hD hS 0 rfl rfl 8 (by decide) (hts (.fieldLink RX7 61 "WaxTurns" "latestTrouble" "I") (zm_X7_back_r1 (List.mem_of_getElem? (i := 2) rfl))) (fun _ h9 => h9) rfl (tyX7_ok 8 (by decide)) rfl rfl (Nat.le_of_ble_eq_true rfl) dX7_back_23 (fun H locs hP hD hS => ?_)
    obtain ⟨hP, hD⟩ := zc_re (w := [(a0, .inr (7, [a0g_0, .ref a0_1, a0g_2, a0g_3, .ref a0_4, a0g_5, a0g_6, a0g_7, .int 0, a0g_9, a0g_10])), (a0_4, .inr (1, [.int v9na0_0, .int a0_4_1, a0_4g_2, a0_4g_3, .ref a0_4_4])), (a0_4_4, .inl (ka0_4_4, 3, .inr (.inr (.inr (.inr (fun i9 => ([some a0_4_4e0, some a0_4_4e1, some a0_4_4e2] : List (Option Nat)).getD i9 none)))))), (a0_1, .inr (5, [.int v9na2_0, .int v9na2_1, .int v9na2_2, .int v9na2_3, .int v9na2_4, .ref a0_1_5, .ref a0_1_6])), (a0_4_4e0, .inr (5, [.int a0_4_4e0_0, .int a0_4_4e0_1, .int a0_4_4e0_2, .int a0_4_4e0_3, .int a0_4_4e0_4, .ref a0_4_4e0_5, .ref a0_4_4e0_6])), (a0_4_4e0_5, .inl (ka0_4_4e0_5, 9, .inl (fa0_4_4e0_5))), (a0_1_5, .inl (ka0_1_5, 9, .inl (v9nfa2_5))), (a0_4_4e0_6, .inl (ka0_4_4e0_6, 9, .inl (fa0_4_4e0_6))), (a0_1_6, .inl (ka0_1_6, 9, .inl (v9nfa2_6))), (a0_4_4e1, .inr (5, [.int a0_4_4e1_0, .int a0_4_4e1_1, .int a0_4_4e1_2, .int a0_4_4e1_3, .int a0_4_4e1_4, .ref a0_4_4e1_5, .ref a0_4_4e1_6])), (a0_4_4e1_5, .inl (ka0_4_4e1_5, 9, .inl (fa0_4_4e1_5))), (a0_4_4e1_6, .inl (ka0_4_4e1_6, 9, .inl (fa0_4_4e1_6))), (a0_4_4e2, .inr (5, [.int a0_4_4e2_0, .int a0_4_4e2_1, .int a0_4_4e2_2, .int a0_4_4e2_3, .int a0_4_4e2_4, .ref a0_4_4e2_5, .ref a0_4_4e2_6])), (a0_4_4e2_5, .inl (ka0_4_4e2_5, 9, .inl (fa0_4_4e2_5))), (a0_4_4e2_6, .inl (ka0_4_4e2_6, 9, .inl (fa0_4_4e2_6)))]) hP hD rfl
    refine lv_iload_n hx hb dX7_back_26 rfl (lv_at hl 0 rfl) ?_
    exact W.zret (v := 1) hx hb hr rfl (fun t ht hW => ⟨⟨1, (), rfl, (Or.inl ⟨rfl, l9k0_a1, u9k0_a1, l9k0_a0_4_1, u9k0_a0_4_1⟩), 0, v9na0_0, v9na2_0, v9na2_1, v9na2_2, v9na2_3, v9na2_4, v9nfa2_5, v9nfa2_6, ⟨bv9na0_0.1, bv9na0_0.2⟩, ⟨bv9na2_1.1, bv9na2_1.2⟩, by rw [ht]; exact hP, va_K.moved hW.alike hK, hD⟩, hS.F ht⟩) hS.2.2 dX7_back_27
  · subst hw
    refine lv_istore_n (lv' := [(2, .int 0), (0, .ref a0), (1, .int a1)]) hx hb dX7_back_12 rfl hl (by decide) rfl (fun ls hl => ?_)
    refine lv_aload_n hx hb dX7_back_13 rfl (lv_at hl 1 rfl) ?_
    refine lv_iload_n hx hb dX7_back_14 rfl (lv_at hl 0 rfl) ?_
    refine lv_if_eq (tgt := 22) hx hb dX7_back_15 (by decide) (fun _ => ?_) (fun c15 => absurd (by decide +kernel) c15)
    refine lv_iconst (v := 1) hx hb dX7_back_22 zk_iconst_1 ?_
    refine va_put (D := (dC, dI)) (ci := 7) (v := .int 1) (ty := .int) (C := RX7) (T := TX7) (N := 11) hx hb hts zi_X7_back_7 tyX7 tyX7_ok nmX7 hown hK hP hD hS 0 rfl rfl 8 (by decide) (hts (.fieldLink RX7 61 "WaxTurns" "latestTrouble" "I") (zm_X7_back_r1 (List.mem_of_getElem? (i := 2) rfl))) (fun _ h9 => h9) rfl (tyX7_ok 8 (by decide)) rfl rfl (Nat.le_of_ble_eq_true rfl) dX7_back_23 (fun H locs hP hD hS => ?_)
    obtain ⟨hP, hD⟩ := zc_re (w := [(a0, .inr (7, [a0g_0, .ref a0_1, a0g_2, a0g_3, .ref a0_4, a0g_5, a0g_6, a0g_7, .int 1, a0g_9, a0g_10])), (a0_4, .inr (1, [.int v9na0_0, .int a0_4_1, a0_4g_2, a0_4g_3, .ref a0_4_4])), (a0_4_4, .inl (ka0_4_4, 3, .inr (.inr (.inr (.inr (fun i9 => ([some a0_4_4e0, some a0_4_4e1, some a0_4_4e2] : List (Option Nat)).getD i9 none)))))), (a0_1, .inr (5, [.int v9na2_0, .int v9na2_1, .int v9na2_2, .int v9na2_3, .int v9na2_4, .ref a0_1_5, .ref a0_1_6])), (a0_4_4e0, .inr (5, [.int a0_4_4e0_0, .int a0_4_4e0_1, .int a0_4_4e0_2, .int a0_4_4e0_3, .int a0_4_4e0_4, .ref a0_4_4e0_5, .ref a0_4_4e0_6])), (a0_4_4e0_5, .inl (ka0_4_4e0_5, 9, .inl (fa0_4_4e0_5))), (a0_1_5, .inl (ka0_1_5, 9, .inl (v9nfa2_5))), (a0_4_4e0_6, .inl (ka0_4_4e0_6, 9, .inl (fa0_4_4e0_6))), (a0_1_6, .inl (ka0_1_6, 9, .inl (v9nfa2_6))), (a0_4_4e1, .inr (5, [.int a0_4_4e1_0, .int a0_4_4e1_1, .int a0_4_4e1_2, .int a0_4_4e1_3, .int a0_4_4e1_4, .ref a0_4_4e1_5, .ref a0_4_4e1_6])), (a0_4_4e1_5, .inl (ka0_4_4e1_5, 9, .inl (fa0_4_4e1_5))), (a0_4_4e1_6, .inl (ka0_4_4e1_6, 9, .inl (fa0_4_4e1_6))), (a0_4_4e2, .inr (5, [.int a0_4_4e2_0, .int a0_4_4e2_1, .int a0_4_4e2_2, .int a0_4_4e2_3, .int a0_4_4e2_4, .ref a0_4_4e2_5, .ref a0_4_4e2_6])), (a0_4_4e2_5, .inl (ka0_4_4e2_5, 9, .inl (fa0_4_4e2_5))), (a0_4_4e2_6, .inl (ka0_4_4e2_6, 9, .inl (fa0_4_4e2_6)))]) hP hD rfl
    refine lv_iload_n hx hb dX7_back_26 rfl (lv_at hl 0 rfl) ?_
    exact W.zret (v := 0) hx hb hr rfl (fun t ht hW => ⟨⟨0, (), rfl, (Or.inr (rfl)), 1, v9na0_0, v9na2_0, v9na2_1, v9na2_2, v9na2_3, v9na2_4, v9nfa2_5, v9nfa2_6, ⟨bv9na0_0.1, bv9na0_0.2⟩, ⟨bv9na2_1.1, bv9na2_1.2⟩, by rw [ht]; exact hP, va_K.moved hW.alike hK, hD⟩, hS.F ht⟩) hS.2.2 dX7_back_27

set_option maxHeartbeats 4000000 in
set_option maxRecDepth 100000 in
theorem c_X7_size (l : Launch) (dC : Nat → ClassId) (dI : Nat → Nat → Nat) (sz : Nat) (a0 : Nat) (a1 : Int32) (a0_0 : Nat) (a0_1 : Nat) (a0g_2 a0g_3 a0g_5 a0g_6 a0g_8 a0g_9 a0g_10 : Value) (a0_4 : Nat) (a0_7 : Nat) (a0_1_0 : Int32) (a0_1g_1 a0_1g_2 a0_1g_3 a0_1g_4 a0_1g_5 a0_1g_6 : Value) (a0_4_0 : Int32) (a0_4_1 : Int32) (a0_4g_2 a0_4g_3 a0_4g_4 : Value) (a0_0_0 : Int32) (a0_0g_1 a0_0g_2 a0_0g_3 a0_0g_4 a0_0g_5 a0_0g_6 a0_0g_7 a0_0g_8 a0_0g_9 a0_0g_10 a0_0g_11 a0_0g_12 a0_0g_13 : Value) (a0_7_0 : Int32) (a0_7_1 : Int32) (a0_7_2 : Int32) (a0_7_3 : Int32) (a0_7g_4 a0_7g_10 a0_7g_11 a0_7g_12 a0_7g_13 : Value) (a0_7_5 : Int32) (a0_7_6 : Int32) (a0_7_7 : Int32) (a0_7_8 : Int32) (a0_7_9 : Int32) (a0_7_14 : Nat) (a0_7_14_0 : Int32) (a0_7_14g_1 a0_7_14g_2 a0_7_14g_3 : Value) (ba0_4_0_l : (0 : Int) ≤ a0_4_0.toInt) (ba0_4_0_u : a0_4_0.toInt ≤ (16 : Int)) (ba0_4_1_l : (0 : Int) ≤ a0_4_1.toInt) (ba0_4_1_u : a0_4_1.toInt ≤ (3 : Int)) (ba0_0_0_l : (0 : Int) ≤ a0_0_0.toInt) (ba0_0_0_u : a0_0_0.toInt ≤ (900 : Int)) (ba0_7_0_l : (0 : Int) ≤ a0_7_0.toInt) (ba0_7_0_u : a0_7_0.toInt ≤ (9 : Int)) (ba0_7_5_l : (0 : Int) ≤ a0_7_5.toInt) (ba0_7_5_u : a0_7_5.toInt ≤ (8 : Int)) (ba0_7_6_l : (0 : Int) ≤ a0_7_6.toInt) (ba0_7_6_u : a0_7_6.toInt ≤ (8 : Int)) (ba0_7_7_l : (0 : Int) ≤ a0_7_7.toInt) (ba0_7_7_u : a0_7_7.toInt ≤ (8 : Int)) (ba0_7_9_l : (0 : Int) ≤ a0_7_9.toInt) (ba0_7_9_u : a0_7_9.toInt ≤ (6 : Int)) (ba0_7_14_0_l : (0 : Int) ≤ a0_7_14_0.toInt) (ba0_7_14_0_u : a0_7_14_0.toInt ≤ (3 : Int)) : Met l yX7_size wsX7_size ({ frames := 2, cells := 0, slots := 0, locals := 41 }) (va_Pc [.ref a0, .int a1] (ax_C dC dI sz [(a0, .inr (7, [.ref a0_0, .ref a0_1, a0g_2, a0g_3, .ref a0_4, a0g_5, a0g_6, .ref a0_7, a0g_8, a0g_9, a0g_10])), (a0_1, .inr (5, [.int a0_1_0, a0_1g_1, a0_1g_2, a0_1g_3, a0_1g_4, a0_1g_5, a0_1g_6])), (a0_4, .inr (1, [.int a0_4_0, .int a0_4_1, a0_4g_2, a0_4g_3, a0_4g_4])), (a0_0, .inr (3, [.int a0_0_0, a0_0g_1, a0_0g_2, a0_0g_3, a0_0g_4, a0_0g_5, a0_0g_6, a0_0g_7, a0_0g_8, a0_0g_9, a0_0g_10, a0_0g_11, a0_0g_12, a0_0g_13])), (a0_7, .inr (0, [.int a0_7_0, .int a0_7_1, .int a0_7_2, .int a0_7_3, a0_7g_4, .int a0_7_5, .int a0_7_6, .int a0_7_7, .int a0_7_8, .int a0_7_9, a0_7g_10, a0_7g_11, a0_7g_12, a0_7g_13, .ref a0_7_14])), (a0_7_14, .inr (6, [.int a0_7_14_0, a0_7_14g_1, a0_7_14g_2, a0_7_14g_3]))] [] (fun _ => True))) (va_Qi (fun (r : Int32) (_ : Unit) => True) (fun (_ : Unit) (t : State) => ax_B dC dI (va_A [(a0, .inr (7, [.ref a0_0, .ref a0_1, a0g_2, a0g_3, .ref a0_4, a0g_5, a0g_6, .ref a0_7, a0g_8, a0g_9, a0g_10])), (a0_1, .inr (5, [.int a0_1_0, a0_1g_1, a0_1g_2, a0_1g_3, a0_1g_4, a0_1g_5, a0_1g_6])), (a0_4, .inr (1, [.int a0_4_0, .int a0_4_1, a0_4g_2, a0_4g_3, a0_4g_4])), (a0_0, .inr (3, [.int a0_0_0, a0_0g_1, a0_0g_2, a0_0g_3, a0_0g_4, a0_0g_5, a0_0g_6, a0_0g_7, a0_0g_8, a0_0g_9, a0_0g_10, a0_0g_11, a0_0g_12, a0_0g_13])), (a0_7, .inr (0, [.int a0_7_0, .int a0_7_1, .int a0_7_2, .int a0_7_3, a0_7g_4, .int a0_7_5, .int a0_7_6, .int a0_7_7, .int a0_7_8, .int a0_7_9, a0_7g_10, a0_7g_11, a0_7g_12, a0_7g_13, .ref a0_7_14])), (a0_7_14, .inr (6, [.int a0_7_14_0, a0_7_14g_1, a0_7_14g_2, a0_7_14g_3]))] sz) [(a0, .inr (7, [.ref a0_0, .ref a0_1, a0g_2, a0g_3, .ref a0_4, a0g_5, a0g_6, .ref a0_7, a0g_8, a0g_9, a0g_10])), (a0_1, .inr (5, [.int a0_1_0, a0_1g_1, a0_1g_2, a0_1g_3, a0_1g_4, a0_1g_5, a0_1g_6])), (a0_4, .inr (1, [.int a0_4_0, .int a0_4_1, a0_4g_2, a0_4g_3, a0_4g_4])), (a0_0, .inr (3, [.int a0_0_0, a0_0g_1, a0_0g_2, a0_0g_3, a0_0g_4, a0_0g_5, a0_0g_6, a0_0g_7, a0_0g_8, a0_0g_9, a0_0g_10, a0_0g_11, a0_0g_12, a0_0g_13])), (a0_7, .inr (0, [.int a0_7_0, .int a0_7_1, .int a0_7_2, .int a0_7_3, a0_7g_4, .int a0_7_5, .int a0_7_6, .int a0_7_7, .int a0_7_8, .int a0_7_9, a0_7g_10, a0_7g_11, a0_7g_12, a0_7g_13, .ref a0_7_14])), (a0_7_14, .inr (6, [.int a0_7_14_0, a0_7_14g_1, a0_7_14g_2, a0_7_14g_3]))] [] t) (va_A [(a0, .inr (7, [.ref a0_0, .ref a0_1, a0g_2, a0g_3, .ref a0_4, a0g_5, a0g_6, .ref a0_7, a0g_8, a0g_9, a0g_10])), (a0_1, .inr (5, [.int a0_1_0, a0_1g_1, a0_1g_2, a0_1g_3, a0_1g_4, a0_1g_5, a0_1g_6])), (a0_4, .inr (1, [.int a0_4_0, .int a0_4_1, a0_4g_2, a0_4g_3, a0_4g_4])), (a0_0, .inr (3, [.int a0_0_0, a0_0g_1, a0_0g_2, a0_0g_3, a0_0g_4, a0_0g_5, a0_0g_6, a0_0g_7, a0_0g_8, a0_0g_9, a0_0g_10, a0_0g_11, a0_0g_12, a0_0g_13])), (a0_7, .inr (0, [.int a0_7_0, .int a0_7_1, .int a0_7_2, .int a0_7_3, a0_7g_4, .int a0_7_5, .int a0_7_6, .int a0_7_7, .int a0_7_8, .int a0_7_9, a0_7g_10, a0_7g_11, a0_7g_12, a0_7g_13, .ref a0_7_14])), (a0_7_14, .inr (6, [.int a0_7_14_0, a0_7_14g_1, a0_7_14g_2, a0_7_14g_3]))] sz)) 0 0 (va_A [(a0, .inr (7, [.ref a0_0, .ref a0_1, a0g_2, a0g_3, .ref a0_4, a0g_5, a0g_6, .ref a0_7, a0g_8, a0g_9, a0g_10])), (a0_1, .inr (5, [.int a0_1_0, a0_1g_1, a0_1g_2, a0_1g_3, a0_1g_4, a0_1g_5, a0_1g_6])), (a0_4, .inr (1, [.int a0_4_0, .int a0_4_1, a0_4g_2, a0_4g_3, a0_4g_4])), (a0_0, .inr (3, [.int a0_0_0, a0_0g_1, a0_0g_2, a0_0g_3, a0_0g_4, a0_0g_5, a0_0g_6, a0_0g_7, a0_0g_8, a0_0g_9, a0_0g_10, a0_0g_11, a0_0g_12, a0_0g_13])), (a0_7, .inr (0, [.int a0_7_0, .int a0_7_1, .int a0_7_2, .int a0_7_3, a0_7g_4, .int a0_7_5, .int a0_7_6, .int a0_7_7, .int a0_7_8, .int a0_7_9, a0_7g_10, a0_7g_11, a0_7g_12, a0_7g_13, .ref a0_7_14])), (a0_7_14, .inr (6, [.int a0_7_14_0, a0_7_14g_1, a0_7_14g_2, a0_7_14g_3]))] sz) := by
  refine Met.ofW (cc := cX7_size) (maxL := 2) (ret := (some .int)) (by decide) rfl ?_
  intro p e s m args below meth c s₁ B hml hv
  obtain ⟨rfl, hsz, hP, hK, hD0, hE⟩ := hv
  have hx := B.exec
  have hb := B.bytes
  have hr := B.returns
  have hts := atoms_spec (ws := wsX7_size) B.pre
  have hown : s.vm.findClass RX7 = some m.cls := findClass_of_methodNamed B.named
  have hlocks := B.notSynchronized
  subst hsz
  have hD := hD0.self (sz := s.heap.size)
  generalize hAe : va_A [(a0, .inr (7, [.ref a0_0, .ref a0_1, a0g_2, a0g_3, .ref a0_4, a0g_5, a0g_6, .ref a0_7, a0g_8, a0g_9, a0g_10])), (a0_1, .inr (5, [.int a0_1_0, a0_1g_1, a0_1g_2, a0_1g_3, a0_1g_4, a0_1g_5, a0_1g_6])), (a0_4, .inr (1, [.int a0_4_0, .int a0_4_1, a0_4g_2, a0_4g_3, a0_4g_4])), (a0_0, .inr (3, [.int a0_0_0, a0_0g_1, a0_0g_2, a0_0g_3, a0_0g_4, a0_0g_5, a0_0g_6, a0_0g_7, a0_0g_8, a0_0g_9, a0_0g_10, a0_0g_11, a0_0g_12, a0_0g_13])), (a0_7, .inr (0, [.int a0_7_0, .int a0_7_1, .int a0_7_2, .int a0_7_3, a0_7g_4, .int a0_7_5, .int a0_7_6, .int a0_7_7, .int a0_7_8, .int a0_7_9, a0_7g_10, a0_7g_11, a0_7g_12, a0_7g_13, .ref a0_7_14])), (a0_7_14, .inr (6, [.int a0_7_14_0, a0_7_14g_1, a0_7_14g_2, a0_7_14g_3]))] s.heap.size = A at hD ⊢
  have hA : ∀ q : Nat, s.heap.size ≤ q → A q := fun q h => by rw [← hAe]; exact Or.inr h
  have hS : va_S A s.heap s.heap [] := va_S.rf
  have hP : va_P (dC, dI) vwCl [(a0, .inr (7, [.ref a0_0, .ref a0_1, a0g_2, a0g_3, .ref a0_4, a0g_5, a0g_6, .ref a0_7, a0g_8, a0g_9, a0g_10])), (a0_1, .inr (5, [.int a0_1_0, a0_1g_1, a0_1g_2, a0_1g_3, a0_1g_4, a0_1g_5, a0_1g_6])), (a0_4, .inr (1, [.int a0_4_0, .int a0_4_1, a0_4g_2, a0_4g_3, a0_4g_4])), (a0_0, .inr (3, [.int a0_0_0, a0_0g_1, a0_0g_2, a0_0g_3, a0_0g_4, a0_0g_5, a0_0g_6, a0_0g_7, a0_0g_8, a0_0g_9, a0_0g_10, a0_0g_11, a0_0g_12, a0_0g_13])), (a0_7, .inr (0, [.int a0_7_0, .int a0_7_1, .int a0_7_2, .int a0_7_3, a0_7g_4, .int a0_7_5, .int a0_7_6, .int a0_7_7, .int a0_7_8, .int a0_7_9, a0_7g_10, a0_7g_11, a0_7g_12, a0_7g_13, .ref a0_7_14])), (a0_7_14, .inr (6, [.int a0_7_14_0, a0_7_14g_1, a0_7_14g_2, a0_7_14g_3]))] s.heap := hP
  have hl := lv_entry ([.ref a0, .int a1]) (n := 2) (Nat.le_of_ble_eq_true rfl)
  rw [lg_entry_eq]
  generalize (lg_sl ([.ref a0, .int a1]) ++ List.replicate (2 - (lg_sl ([.ref a0, .int a1])).length) Slot.unset).toArray = ls at hl ⊢
  have hl : lv_has ls 2 [(0, .ref a0), (1, .int a1)] := hl
  refine lv_iload_n hx hb dX7_size_0 rfl (lv_at hl 1 rfl) ?_
  by_cases n_1 : a1 = 10
  · subst n_1
    refine lv_tableIn (off := 31) (tgt := 32) hx hb dX7_size_1 (by decide) (by decide) (by decide +kernel) (by decide) ?_
    refine lv_aload_n hx hb dX7_size_32 rfl (lv_at hl 0 rfl) ?_
    refine va_get (D := (dC, dI)) (ci := 7) (v := .ref a0_1) (C := RX7) (T := TX7) (N := 11) hx hb hts zi_X7_size_7 hown hK hP 0 rfl rfl 1 (by decide) (hts (.fieldLink RX7 19 "WaxTurns" "now" "LWaxTurns$Scene;") (zm_X7_size_r1 (List.mem_of_getElem? (i := 0) rfl))) (fun _ h9 => h9) rfl dX7_size_33 ?_
    refine va_get (D := (dC, dI)) (ci := 5) (v := .int a0_1_0) (C := RX5) (T := TX5) (N := 7) hx hb hts zi_X7_size_5 hown hK hP 1 rfl rfl 0 (by decide) (hts (.fieldLink RX7 147 "WaxTurns$Scene" "minute" "I") (zm_X7_size_r1 (List.mem_of_getElem? (i := 1) rfl))) (fun _ h9 => h9) rfl dX7_size_36 ?_
    exact W.iret (v := a0_1_0) hx hb hr (fun t ht hW => ⟨⟨a0_1_0, (), rfl, trivial, by rw [ht]; exact hP, va_K.moved hW.alike hK, hD⟩, hS.F ht⟩) hS.2.2 dX7_size_39
  by_cases n_2 : a1 = 11
  · subst n_2
    refine lv_tableIn (off := 39) (tgt := 40) hx hb dX7_size_1 (by decide) (by decide) (by decide +kernel) (by decide) ?_
    refine lv_aload_n hx hb dX7_size_40 rfl (lv_at hl 0 rfl) ?_
    refine va_get (D := (dC, dI)) (ci := 7) (v := .ref a0_4) (C := RX7) (T := TX7) (N := 11) hx hb hts zi_X7_size_7 hown hK hP 0 rfl rfl 4 (by decide) (hts (.fieldLink RX7 36 "WaxTurns" "history" "LWaxTurns$History;") (zm_X7_size_r1 (List.mem_of_getElem? (i := 2) rfl))) (fun _ h9 => h9) rfl dX7_size_41 ?_
    refine va_get (D := (dC, dI)) (ci := 1) (v := .int a0_4_0) (C := RX1) (T := TX1) (N := 5) hx hb hts zi_X7_size_1 hown hK hP 2 rfl rfl 0 (by decide) (hts (.fieldLink RX7 355 "WaxTurns$History" "keptCount" "I") (zm_X7_size_r1 (List.mem_of_getElem? (i := 3) rfl))) (fun _ h9 => h9) rfl dX7_size_44 ?_
    exact W.iret (v := a0_4_0) hx hb hr (fun t ht hW => ⟨⟨a0_4_0, (), rfl, trivial, by rw [ht]; exact hP, va_K.moved hW.alike hK, hD⟩, hS.F ht⟩) hS.2.2 dX7_size_47
  by_cases n_3 : a1 = 12
  · subst n_3
    refine lv_tableIn (off := 47) (tgt := 48) hx hb dX7_size_1 (by decide) (by decide) (by decide +kernel) (by decide) ?_
    refine lv_aload_n hx hb dX7_size_48 rfl (lv_at hl 0 rfl) ?_
    refine va_get (D := (dC, dI)) (ci := 7) (v := .ref a0_4) (C := RX7) (T := TX7) (N := 11) hx hb hts zi_X7_size_7 hown hK hP 0 rfl rfl 4 (by decide) (hts (.fieldLink RX7 36 "WaxTurns" "history" "LWaxTurns$History;") (zm_X7_size_r1 (List.mem_of_getElem? (i := 2) rfl))) (fun _ h9 => h9) rfl dX7_size_49 ?_
    refine va_get (D := (dC, dI)) (ci := 1) (v := .int a0_4_1) (C := RX1) (T := TX1) (N := 5) hx hb hts zi_X7_size_1 hown hK hP 2 rfl rfl 1 (by decide) (hts (.fieldLink RX7 337 "WaxTurns$History" "imageCount" "I") (zm_X7_size_r1 (List.mem_of_getElem? (i := 4) rfl))) (fun _ h9 => h9) rfl dX7_size_52 ?_
    exact W.iret (v := a0_4_1) hx hb hr (fun t ht hW => ⟨⟨a0_4_1, (), rfl, trivial, by rw [ht]; exact hP, va_K.moved hW.alike hK, hD⟩, hS.F ht⟩) hS.2.2 dX7_size_55
  by_cases n_4 : a1 = 13
  · subst n_4
    refine lv_tableIn (off := 55) (tgt := 56) hx hb dX7_size_1 (by decide) (by decide) (by decide +kernel) (by decide) ?_
    refine lv_aload_n hx hb dX7_size_56 rfl (lv_at hl 0 rfl) ?_
    refine va_get (D := (dC, dI)) (ci := 7) (v := .ref a0_0) (C := RX7) (T := TX7) (N := 11) hx hb hts zi_X7_size_7 hown hK hP 0 rfl rfl 0 (by decide) (hts (.fieldLink RX7 12 "WaxTurns" "reade\x72" "LWaxTurns$Reader;") (zm_X7_size_r1 (List.mem_of_getElem? (i := 5) rfl))) (fun _ h9 => h9) rfl dX7_size_57 ?_
    refine va_get (D := (dC, dI)) (ci := 3) (v := .int a0_0_0) (C := RX3) (T := TX3) (N := 14) hx hb hts zi_X7_size_3 hown hK hP 3 rfl rfl 0 (by decide) (hts (.fieldLink RX7 71 "WaxTurns$Reade\x72" "tapeSize" "I") (zm_X7_size_r1 (List.mem_of_getElem? (i := 6) rfl))) (fun _ h9 => h9) rfl dX7_size_60 ?_
    exact W.iret (v := a0_0_0) hx hb hr (fun t ht hW => ⟨⟨a0_0_0, (), rfl, trivial, by rw [ht]; exact hP, va_K.moved hW.alike hK, hD⟩, hS.F ht⟩) hS.2.2 dX7_size_63
  have o_5 : a1.toInt < 10 ∨ 13 < a1.toInt := by
    have en_1 : a1.toInt ≠ 10 := fun h9 => n_1 (Int32.toInt_inj.mp (h9.trans (by decide)))
    have en_2 : a1.toInt ≠ 11 := fun h9 => n_2 (Int32.toInt_inj.mp (h9.trans (by decide)))
    have en_3 : a1.toInt ≠ 12 := fun h9 => n_3 (Int32.toInt_inj.mp (h9.trans (by decide)))
    have en_4 : a1.toInt ≠ 13 := fun h9 => n_4 (Int32.toInt_inj.mp (h9.trans (by decide)))
    omega
  refine lv_tableOut (tgt := 64) hx hb dX7_size_1 o_5 (by decide) ?_
  refine lv_aload_n hx hb dX7_size_64 rfl (lv_at hl 0 rfl) ?_
  refine va_get (D := (dC, dI)) (ci := 7) (v := .ref a0_7) (C := RX7) (T := TX7) (N := 11) hx hb hts zi_X7_size_7 hown hK hP 0 rfl rfl 7 (by decide) (hts (.fieldLink RX7 57 "WaxTurns" "hall" "LWaxTurns$Hall;") (zm_X7_size_r1 (List.mem_of_getElem? (i := 7) rfl))) (fun _ h9 => h9) rfl dX7_size_65 ?_
  refine lv_iload_n hx hb dX7_size_68 rfl (lv_at hl 1 rfl) ?_
  obtain ⟨hPc, hDc, hFc, hCc⟩ := zc_cut (wc := [(a0_7, .inr (0, [.int a0_7_0, .int a0_7_1, .int a0_7_2, .int a0_7_3, a0_7g_4, .int a0_7_5, .int a0_7_6, .int a0_7_7, .int a0_7_8, .int a0_7_9, a0_7g_10, a0_7g_11, a0_7g_12, a0_7g_13, .ref a0_7_14])), (a0_7_14, .inr (6, [.int a0_7_14_0, a0_7_14g_1, a0_7_14g_2, a0_7_14g_3]))]) hP hD hS hA [4, 5] (by decide +kernel) rfl
  have hKc := hK.sub (tys' := []) [] rfl
  refine va_calli (va_runV (As := [.int a1]) (rest := []) ⟨hx, hb, hml, hown, hts⟩ (c_X0_sizeTold l dC dI s.heap.size a0_7 a1 a0_7_0 a0_7_1 a0_7_2 a0_7_3 a0_7g_4 a0_7g_10 a0_7g_11 a0_7g_12 a0_7g_13 a0_7_5 a0_7_6 a0_7_7 a0_7_8 a0_7_9 a0_7_14 a0_7_14_0 a0_7_14g_1 a0_7_14g_2 a0_7_14g_3 ba0_7_0_l ba0_7_0_u ba0_7_5_l ba0_7_5_u ba0_7_6_l ba0_7_6_u ba0_7_7_l ba0_7_7_u ba0_7_9_l ba0_7_9_u ba0_7_14_0_l ba0_7_14_0_u) (cwV 1 hts gX7_size_X0_sizeTold rfl rfl rfl zd_X0_sizeTold ⟨Nat.le_of_ble_eq_true rfl, Nat.le_of_ble_eq_true rfl⟩) ⟨ax_blind (fun _ _ _ _ _ => trivial), zr_0 hKc hPc (q0 := 0) rfl, ax_pre hPc hKc hDc (fun _ _ => trivial)⟩ rfl rfl hl.1 rfl (lv_room (Nat.le_of_ble_eq_true rfl)) dX7_size_69 ⟨Nat.le_of_ble_eq_true rfl, Nat.le_of_ble_eq_true rfl⟩) hS (fun q _ h => hFc q h) hFc (fun r69 u t H locs ht hvm hw hB hz1 hk1 hS => ?_)
  obtain ⟨hP1, hK1, hD1⟩ := hB
  rw [ht] at hP1
  obtain ⟨hP, hD⟩ := zc_back (w := [(a0, .inr (7, [.ref a0_0, .ref a0_1, a0g_2, a0g_3, .ref a0_4, a0g_5, a0g_6, .ref a0_7, a0g_8, a0g_9, a0g_10])), (a0_1, .inr (5, [.int a0_1_0, a0_1g_1, a0_1g_2, a0_1g_3, a0_1g_4, a0_1g_5, a0_1g_6])), (a0_4, .inr (1, [.int a0_4_0, .int a0_4_1, a0_4g_2, a0_4g_3, a0_4g_4])), (a0_0, .inr (3, [.int a0_0_0, a0_0g_1, a0_0g_2, a0_0g_3, a0_0g_4, a0_0g_5, a0_0g_6, a0_0g_7, a0_0g_8, a0_0g_9, a0_0g_10, a0_0g_11, a0_0g_12, a0_0g_13])), (a0_7, .inr (0, [.int a0_7_0, .int a0_7_1, .int a0_7_2, .int a0_7_3, a0_7g_4, .int a0_7_5, .int a0_7_6, .int a0_7_7, .int a0_7_8, .int a0_7_9, a0_7g_10, a0_7g_11, a0_7g_12, a0_7g_13, .ref a0_7_14])), (a0_7_14, .inr (6, [.int a0_7_14_0, a0_7_14g_1, a0_7_14g_2, a0_7_14g_3]))]) hP hD hCc hk1 hFc hP1 hD1 [.inl 0, .inl 1, .inl 2, .inl 3, .inr 0, .inr 1] (by decide +kernel) rfl
  exact W.iret (v := r69) hx hb hr (fun t ht hW => ⟨⟨r69, (), rfl, trivial, by rw [ht]; exact hP, va_K.moved hW.alike hK, hD⟩, hS.F ht⟩) hS.2.2 dX7_size_72

set_option maxHeartbeats 4000000 in
set_option maxRecDepth 100000 in
theorem c_X3_append (l : Launch) (dC : Nat → ClassId) (dI : Nat → Nat → Nat) (sz : Nat) (a0 : Nat) (a1 : Int32) (a0_0 : Int32) (a0g_1 a0g_2 a0g_4 a0g_5 a0g_6 a0g_7 a0g_8 a0g_9 a0g_10 a0g_11 a0g_12 a0g_13 : Value) (a0_3 : Nat) (ka0_3 : ClassId) (fa0_3 : Nat → Int32) (ba0_0_l : (0 : Int) ≤ a0_0.toInt) (ba0_0_u : a0_0.toInt ≤ (900 : Int)) : Met l yX3_append wsX3_append ({ frames := 0, cells := 0, slots := 0, locals := 0 }) (va_Pc [.ref a0, .int a1] (ax_C dC dI sz [(a0, .inr (3, [.int a0_0, a0g_1, a0g_2, .ref a0_3, a0g_4, a0g_5, a0g_6, a0g_7, a0g_8, a0g_9, a0g_10, a0g_11, a0g_12, a0g_13])), (a0_3, .inl (ka0_3, 900, .inl (fa0_3)))] [(ka0_3, .byte)] (fun _ => True))) (va_Qv (fun (_ : Unit) => True) (fun (_ : Unit) (t : State) => ∃ na0_0 : Int32, ∃ nfa0_3 : Nat → Int32, ((0 : Int) ≤ na0_0.toInt ∧ na0_0.toInt ≤ 900) ∧ ax_B dC dI (va_A [(a0, .inr (3, [.int a0_0, a0g_1, a0g_2, .ref a0_3, a0g_4, a0g_5, a0g_6, a0g_7, a0g_8, a0g_9, a0g_10, a0g_11, a0g_12, a0g_13])), (a0_3, .inl (ka0_3, 900, .inl (fa0_3)))] sz) [(a0, .inr (3, [.int na0_0, a0g_1, a0g_2, .ref a0_3, a0g_4, a0g_5, a0g_6, a0g_7, a0g_8, a0g_9, a0g_10, a0g_11, a0g_12, a0g_13])), (a0_3, .inl (ka0_3, 900, .inl (nfa0_3)))] [(ka0_3, .byte)] t) (va_A [(a0, .inr (3, [.int a0_0, a0g_1, a0g_2, .ref a0_3, a0g_4, a0g_5, a0g_6, a0g_7, a0g_8, a0g_9, a0g_10, a0g_11, a0g_12, a0g_13])), (a0_3, .inl (ka0_3, 900, .inl (fa0_3)))] sz)) 0 0 (va_A [(a0, .inr (3, [.int a0_0, a0g_1, a0g_2, .ref a0_3, a0g_4, a0g_5, a0g_6, a0g_7, a0g_8, a0g_9, a0g_10, a0g_11, a0g_12, a0g_13])), (a0_3, .inl (ka0_3, 900, .inl (fa0_3)))] sz) := by
  refine Met.ofW (cc := cX3_append) (maxL := 3) (ret := none) (by decide) rfl ?_
  intro p e s m args below meth c s₁ B hml hv
  obtain ⟨rfl, hsz, hP, hK, hD0, hE⟩ := hv
  have hx := B.exec
  have hb := B.bytes
  have hr := B.returns
  have hts := atoms_spec (ws := wsX3_append) B.pre
  have hown : s.vm.findClass RX3 = some m.cls := findClass_of_methodNamed B.named
  have hlocks := B.notSynchronized
  subst hsz
  have hD := hD0.self (sz := s.heap.size)
  generalize hAe : va_A [(a0, .inr (3, [.int a0_0, a0g_1, a0g_2, .ref a0_3, a0g_4, a0g_5, a0g_6, a0g_7, a0g_8, a0g_9, a0g_10, a0g_11, a0g_12, a0g_13])), (a0_3, .inl (ka0_3, 900, .inl (fa0_3)))] s.heap.size = A at hD ⊢
  have hA : ∀ q : Nat, s.heap.size ≤ q → A q := fun q h => by rw [← hAe]; exact Or.inr h
  have hS : va_S A s.heap s.heap [] := va_S.rf
  have hP : va_P (dC, dI) vwCl [(a0, .inr (3, [.int a0_0, a0g_1, a0g_2, .ref a0_3, a0g_4, a0g_5, a0g_6, a0g_7, a0g_8, a0g_9, a0g_10, a0g_11, a0g_12, a0g_13])), (a0_3, .inl (ka0_3, 900, .inl (fa0_3)))] s.heap := hP
  have hl := lv_entry ([.ref a0, .int a1]) (n := 3) (Nat.le_of_ble_eq_true rfl)
  rw [lg_entry_eq]
  generalize (lg_sl ([.ref a0, .int a1]) ++ List.replicate (3 - (lg_sl ([.ref a0, .int a1])).length) Slot.unset).toArray = ls at hl ⊢
  have hl : lv_has ls 3 [(0, .ref a0), (1, .int a1)] := hl
  refine ai_open (fun K hK0 => ?_)
  refine (hK0 _ _ _).mpr ?_
  refine lv_bipush (v := 24) hx hb dX3_append_0 zk_bipush_24 ?_
  refine lv_istore_n (lv' := [(2, .int 24), (0, .ref a0), (1, .int a1)]) hx hb dX3_append_2 rfl hl (by decide) rfl (fun ls hl => ?_)
  have J3 : ∀ (n : Nat) (j3l2 : Int32) (j3a0_0 : Int32) (j3a0_3_a : Nat → Int32) (H : Heap) (locs : List Loc) (ls : Array Slot), j3l2.toInt - (-9 : Int) ≤ (n : Int) → (-8 : Int) ≤ j3l2.toInt → j3l2.toInt ≤ (24 : Int) → (0 : Int) ≤ j3a0_0.toInt → j3a0_0.toInt ≤ (900 : Int) → va_P (dC, dI) vwCl [(a0, .inr (3, [.int j3a0_0, a0g_1, a0g_2, .ref a0_3, a0g_4, a0g_5, a0g_6, a0g_7, a0g_8, a0g_9, a0g_10, a0g_11, a0g_12, a0g_13])), (a0_3, .inl (ka0_3, 900, .inl (j3a0_3_a)))] H → va_D A [(a0, .inr (3, [.int j3a0_0, a0g_1, a0g_2, .ref a0_3, a0g_4, a0g_5, a0g_6, a0g_7, a0g_8, a0g_9, a0g_10, a0g_11, a0g_12, a0g_13])), (a0_3, .inl (ka0_3, 900, .inl (j3a0_3_a)))] → va_S A s.heap H locs → lv_has ls 3 [(0, .ref a0), (1, .int a1), (2, .int j3l2)] → K H locs (F0 m 3 ls []) := by
    intro n
    induction n with
    | zero =>
      intro j3l2 j3a0_0 j3a0_3_a H locs ls hm bj3l2_l bj3l2_u bj3a0_0_l bj3a0_0_u hP hD hS hl
      have h8 := ai_min j3l2
      have h9 := ai_max j3l2
      exact absurd hm (by omega)
    | succ n ih3 =>
      intro j3l2 j3a0_0 j3a0_3_a H locs ls hm bj3l2_l bj3l2_u bj3a0_0_l bj3a0_0_u hP hD hS hl
      refine (hK0 _ _ _).mpr ?_
      have hm3 := hm
      refine lv_iload_n hx hb dX3_append_3 rfl (lv_at hl 2 rfl) ?_
      refine lv_if_lt (tgt := 46) hx hb dX3_append_4 (by decide) (fun c4 => ?_) (fun c4 => ?_)
      · have gc4 := ai_lt c4
        have u4t_j3l2 : j3l2.toInt ≤ (-1 : Int) := ai_lthi gc4 zq6
        exact W.vret hx hb hr (fun t ht hW => ⟨⟨(), rfl, trivial, j3a0_0, j3a0_3_a, ⟨bj3a0_0_l, bj3a0_0_u⟩, by rw [ht]; exact hP, va_K.moved hW.alike hK, hD⟩, hS.F ht⟩) hS.2.2 dX3_append_46
      · have gc4 := ai_nlt c4
        have l4f_j3l2 : (0 : Int) ≤ j3l2.toInt := Int.le_trans zq5 gc4
        refine lv_aload_n hx hb dX3_append_7 rfl (lv_at hl 0 rfl) ?_
        refine va_get (D := (dC, dI)) (ci := 3) (v := .int j3a0_0) (C := RX3) (T := TX3) (N := 14) hx hb hts zi_X3_append_3 hown hK hP 0 rfl rfl 0 (by decide) (hts (.fieldLink RX3 26 "WaxTurns$Reade\x72" "tapeSize" "I") (List.mem_cons_of_mem _ (List.mem_append_left _ (List.mem_of_getElem? (i := 0) rfl)))) (fun _ h9 => h9) rfl dX3_append_8 ?_
        refine lv_sipush (v := 900) hx hb dX3_append_11 zk_sipush_900 ?_
        refine lv_icmp_ge (tgt := 46) hx hb dX3_append_14 (by decide) (fun c14 => ?_) (fun c14 => ?_)
        · have gc14 := ai_le c14
          have l14t_j3a0_0 : (900 : Int) ≤ j3a0_0.toInt := Int.le_trans zq37 gc14
          exact W.vret hx hb hr (fun t ht hW => ⟨⟨(), rfl, trivial, j3a0_0, j3a0_3_a, ⟨Int.le_trans (by decide) l14t_j3a0_0, bj3a0_0_u⟩, by rw [ht]; exact hP, va_K.moved hW.alike hK, hD⟩, hS.F ht⟩) hS.2.2 dX3_append_46
        · have gc14 := ai_nle c14
          have u14f_j3a0_0 : j3a0_0.toInt ≤ (899 : Int) := ai_lthi gc14 zq39
          refine lv_aload_n hx hb dX3_append_17 rfl (lv_at hl 0 rfl) ?_
          refine va_get (D := (dC, dI)) (ci := 3) (v := .ref a0_3) (C := RX3) (T := TX3) (N := 14) hx hb hts zi_X3_append_3 hown hK hP 0 rfl rfl 3 (by decide) (hts (.fieldLink RX3 9 "WaxTurns$Reade\x72" "tape" "[B") (List.mem_cons_of_mem _ (List.mem_append_left _ (List.mem_of_getElem? (i := 1) rfl)))) (fun _ h9 => h9) rfl dX3_append_18 ?_
          refine lv_aload_n hx hb dX3_append_21 rfl (lv_at hl 0 rfl) ?_
          refine va_get (D := (dC, dI)) (ci := 3) (v := .int j3a0_0) (C := RX3) (T := TX3) (N := 14) hx hb hts zi_X3_append_3 hown hK hP 0 rfl rfl 0 (by decide) (hts (.fieldLink RX3 26 "WaxTurns$Reade\x72" "tapeSize" "I") (List.mem_cons_of_mem _ (List.mem_append_left _ (List.mem_of_getElem? (i := 0) rfl)))) (fun _ h9 => h9) rfl dX3_append_22 ?_
          refine lv_iload_n hx hb dX3_append_25 rfl (lv_at hl 1 rfl) ?_
          refine lv_iload_n hx hb dX3_append_26 rfl (lv_at hl 2 rfl) ?_
          refine lv_ishr hx hb dX3_append_27 ?_
          refine lv_topi (fun x27 ex27 => ?_)
          obtain ⟨x28, ex28⟩ : ∃ y : Int32, y = (x27).toInt8.toInt32 := ⟨_, rfl⟩
          refine lv_i2b (v := x28) hx hb dX3_append_28 ex28.symm ?_
          refine va_bast hx hb hK hP hD hS 1 0 rfl rfl (ai_in bj3a0_0_l u14f_j3a0_0 (by decide) (by decide)) dX3_append_29 (fun H locs hP hD hS => ?_)
          obtain ⟨f29, hP, hD⟩ : ∃ f29 : Nat → Int32, va_P (dC, dI) vwCl [(a0, .inr (3, [.int j3a0_0, a0g_1, a0g_2, .ref a0_3, a0g_4, a0g_5, a0g_6, a0g_7, a0g_8, a0g_9, a0g_10, a0g_11, a0g_12, a0g_13])), (a0_3, .inl (ka0_3, 900, .inl (f29)))] H ∧ va_D A [(a0, .inr (3, [.int j3a0_0, a0g_1, a0g_2, .ref a0_3, a0g_4, a0g_5, a0g_6, a0g_7, a0g_8, a0g_9, a0g_10, a0g_11, a0g_12, a0g_13])), (a0_3, .inl (ka0_3, 900, .inl (f29)))] := ⟨_, hP, hD⟩
          refine lv_aload_n hx hb dX3_append_30 rfl (lv_at hl 0 rfl) ?_
          refine lv_dup hx hb dX3_append_31 rfl ?_
          refine va_get (D := (dC, dI)) (ci := 3) (v := .int j3a0_0) (C := RX3) (T := TX3) (N := 14) hx hb hts zi_X3_append_3 hown hK hP 0 rfl rfl 0 (by decide) (hts (.fieldLink RX3 26 "WaxTurns$Reade\x72" "tapeSize" "I") (List.mem_cons_of_mem _ (List.mem_append_left _ (List.mem_of_getElem? (i := 0) rfl)))) (fun _ h9 => h9) rfl dX3_append_32 ?_
          refine lv_iconst (v := 1) hx hb dX3_append_35 zk_iconst_1 ?_
          refine lv_iadd hx hb dX3_append_36 ?_
          refine lv_topi (fun x36 ex36 => ?_)
          have qx36 : x36.toInt = j3a0_0.toInt + (1 : Int32).toInt := ai_add ex36 ⟨bj3a0_0_l, u14f_j3a0_0⟩ ⟨zq1, zq0⟩ (by decide) (by decide)
          have bx36 : (1 : Int) ≤ x36.toInt ∧ x36.toInt ≤ 900 := ⟨by rw [qx36]; exact Int.add_le_add bj3a0_0_l zq1, by rw [qx36]; exact Int.add_le_add u14f_j3a0_0 zq0⟩
          have wx36 : x36.toInt = j3a0_0.toInt + 1 := qx36
          refine va_put (D := (dC, dI)) (ci := 3) (v := .int x36) (ty := .int) (C := RX3) (T := TX3) (N := 14) hx hb hts zi_X3_append_3 tyX3 tyX3_ok nmX3 hown hK hP hD hS 0 rfl rfl 0 (by decide) (hts (.fieldLink RX3 26 "WaxTurns$Reade\x72" "tapeSize" "I") (List.mem_cons_of_mem _ (List.mem_append_left _ (List.mem_of_getElem? (i := 0) rfl)))) (fun _ h9 => h9) rfl (tyX3_ok 0 (by decide)) rfl rfl (Nat.le_of_ble_eq_true rfl) dX3_append_37 (fun H locs hP hD hS => ?_)
          obtain ⟨hP, hD⟩ := zc_re (w := [(a0, .inr (3, [.int x36, a0g_1, a0g_2, .ref a0_3, a0g_4, a0g_5, a0g_6, a0g_7, a0g_8, a0g_9, a0g_10, a0g_11, a0g_12, a0g_13])), (a0_3, .inl (ka0_3, 900, .inl (f29)))]) hP hD rfl
          obtain ⟨x40, ex40⟩ : ∃ y : Int32, y = j3l2 + Int32.ofInt (-8) := ⟨_, rfl⟩
          have qx40 : x40.toInt = j3l2.toInt + -8 := ai_dec ex40 (by decide) (by decide) l4f_j3l2 (by decide)
          have bx40 : (-8 : Int) ≤ x40.toInt ∧ x40.toInt ≤ 16 := ⟨by rw [qx40]; exact Int.add_le_add l4f_j3l2 (Int.le_refl _), by rw [qx40]; exact Int.add_le_add bj3l2_u (Int.le_refl _)⟩
          refine lv_iinc (v := x40) (lv' := [(2, .int x40), (0, .ref a0), (1, .int a1)]) hx hb dX3_append_40 hl (k := 2) rfl ex40.symm (by decide) rfl (fun ls hl => ?_)
          refine lv_goto (tgt := 3) hx hb dX3_append_43 (by decide) ?_
          exact (hK0 _ _ _).mp (ih3 x40 x36 f29 _ _ _ (by have h0 := qx40; omega) bx40.1 (Int.le_trans bx40.2 zq131) (Int.le_trans zq4 bx36.1) bx36.2 hP hD hS (lv_sub hl [1, 2, 0] rfl))
  exact (hK0 _ _ _).mp (J3 33 24 a0_0 fa0_3 _ _ _ (by have h1 : (24 : Int) ≤ (24 : Int32).toInt := zq132; have h2 : (24 : Int32).toInt ≤ (24 : Int) := zq133; omega) (Int.le_trans zq134 zq132) zq133 ba0_0_l ba0_0_u hP hD hS (lv_sub hl [1, 2, 0] rfl))

set_option maxHeartbeats 4000000 in
set_option maxRecDepth 100000 in
theorem c_X3_fails (l : Launch) (dC : Nat → ClassId) (dI : Nat → Nat → Nat) (sz : Nat) (a0 : Nat) (a1 : Int32) (a0g_0 a0g_3 a0g_4 a0g_5 a0g_6 a0g_7 a0g_9 a0g_10 a0g_11 a0g_12 a0g_13 : Value) (a0_1 : Int32) (a0_2 : Int32) (a0_8 : Int32) (ba0_8_l : (0 : Int) ≤ a0_8.toInt) (ba0_8_u : a0_8.toInt ≤ (900 : Int)) : Met l yX3_fails wsX3_fails ({ frames := 0, cells := 0, slots := 0, locals := 0 }) (va_Pc [.ref a0, .int a1] (ax_C dC dI sz [(a0, .inr (3, [a0g_0, .int a0_1, .int a0_2, a0g_3, a0g_4, a0g_5, a0g_6, a0g_7, .int a0_8, a0g_9, a0g_10, a0g_11, a0g_12, a0g_13]))] [] (fun _ => True))) (va_Qi (fun (r : Int32) (_ : Unit) => r = 0) (fun (_ : Unit) (t : State) => ∃ na0_1 : Int32, ∃ na0_2 : Int32, ax_B dC dI (va_A [(a0, .inr (3, [a0g_0, .int a0_1, .int a0_2, a0g_3, a0g_4, a0g_5, a0g_6, a0g_7, .int a0_8, a0g_9, a0g_10, a0g_11, a0g_12, a0g_13]))] sz) [(a0, .inr (3, [a0g_0, .int na0_1, .int na0_2, a0g_3, a0g_4, a0g_5, a0g_6, a0g_7, .int a0_8, a0g_9, a0g_10, a0g_11, a0g_12, a0g_13]))] [] t) (va_A [(a0, .inr (3, [a0g_0, .int a0_1, .int a0_2, a0g_3, a0g_4, a0g_5, a0g_6, a0g_7, .int a0_8, a0g_9, a0g_10, a0g_11, a0g_12, a0g_13]))] sz)) 0 0 (va_A [(a0, .inr (3, [a0g_0, .int a0_1, .int a0_2, a0g_3, a0g_4, a0g_5, a0g_6, a0g_7, .int a0_8, a0g_9, a0g_10, a0g_11, a0g_12, a0g_13]))] sz) := by
  refine Met.ofW (cc := cX3_fails) (maxL := 2) (ret := (some .boolean)) (by decide) rfl ?_
  intro p e s m args below meth c s₁ B hml hv
  obtain ⟨rfl, hsz, hP, hK, hD0, hE⟩ := hv
  have hx := B.exec
  have hb := B.bytes
  have hr := B.returns
  have hts := atoms_spec (ws := wsX3_fails) B.pre
  have hown : s.vm.findClass RX3 = some m.cls := findClass_of_methodNamed B.named
  have hlocks := B.notSynchronized
  subst hsz
  have hD := hD0.self (sz := s.heap.size)
  generalize hAe : va_A [(a0, .inr (3, [a0g_0, .int a0_1, .int a0_2, a0g_3, a0g_4, a0g_5, a0g_6, a0g_7, .int a0_8, a0g_9, a0g_10, a0g_11, a0g_12, a0g_13]))] s.heap.size = A at hD ⊢
  have hA : ∀ q : Nat, s.heap.size ≤ q → A q := fun q h => by rw [← hAe]; exact Or.inr h
  have hS : va_S A s.heap s.heap [] := va_S.rf
  have hP : va_P (dC, dI) vwCl [(a0, .inr (3, [a0g_0, .int a0_1, .int a0_2, a0g_3, a0g_4, a0g_5, a0g_6, a0g_7, .int a0_8, a0g_9, a0g_10, a0g_11, a0g_12, a0g_13]))] s.heap := hP
  have hl := lv_entry ([.ref a0, .int a1]) (n := 2) (Nat.le_of_ble_eq_true rfl)
  rw [lg_entry_eq]
  generalize (lg_sl ([.ref a0, .int a1]) ++ List.replicate (2 - (lg_sl ([.ref a0, .int a1])).length) Slot.unset).toArray = ls at hl ⊢
  have hl : lv_has ls 2 [(0, .ref a0), (1, .int a1)] := hl
  refine lv_aload_n hx hb dX3_fails_0 rfl (lv_at hl 0 rfl) ?_
  refine lv_iload_n hx hb dX3_fails_1 rfl (lv_at hl 1 rfl) ?_
  refine va_put (D := (dC, dI)) (ci := 3) (v := .int a1) (ty := .int) (C := RX3) (T := TX3) (N := 14) hx hb hts zi_X3_fails_3 tyX3 tyX3_ok nmX3 hown hK hP hD hS 0 rfl rfl 1 (by decide) (hts (.fieldLink RX3 45 "WaxTurns$Reade\x72" "faultNumbe\x72" "I") (List.mem_cons_of_mem _ (List.mem_append_left _ (List.mem_of_getElem? (i := 0) rfl)))) (fun _ h9 => h9) rfl (tyX3_ok 1 (by decide)) rfl rfl (Nat.le_of_ble_eq_true rfl) dX3_fails_2 (fun H locs hP hD hS => ?_)
  obtain ⟨hP, hD⟩ := zc_re (w := [(a0, .inr (3, [a0g_0, .int a1, .int a0_2, a0g_3, a0g_4, a0g_5, a0g_6, a0g_7, .int a0_8, a0g_9, a0g_10, a0g_11, a0g_12, a0g_13]))]) hP hD rfl
  refine lv_aload_n hx hb dX3_fails_5 rfl (lv_at hl 0 rfl) ?_
  refine lv_aload_n hx hb dX3_fails_6 rfl (lv_at hl 0 rfl) ?_
  refine va_get (D := (dC, dI)) (ci := 3) (v := .int a0_8) (C := RX3) (T := TX3) (N := 14) hx hb hts zi_X3_fails_3 hown hK hP 0 rfl rfl 8 (by decide) (hts (.fieldLink RX3 72 "WaxTurns$Reade\x72" "start" "I") (List.mem_cons_of_mem _ (List.mem_append_left _ (List.mem_of_getElem? (i := 1) rfl)))) (fun _ h9 => h9) rfl dX3_fails_7 ?_
  refine va_put (D := (dC, dI)) (ci := 3) (v := .int a0_8) (ty := .int) (C := RX3) (T := TX3) (N := 14) hx hb hts zi_X3_fails_3 tyX3 tyX3_ok nmX3 hown hK hP hD hS 0 rfl rfl 2 (by decide) (hts (.fieldLink RX3 48 "WaxTurns$Reade\x72" "faultPlace" "I") (List.mem_cons_of_mem _ (List.mem_append_left _ (List.mem_of_getElem? (i := 2) rfl)))) (fun _ h9 => h9) rfl (tyX3_ok 2 (by decide)) rfl rfl (Nat.le_of_ble_eq_true rfl) dX3_fails_10 (fun H locs hP hD hS => ?_)
  obtain ⟨hP, hD⟩ := zc_re (w := [(a0, .inr (3, [a0g_0, .int a1, .int a0_8, a0g_3, a0g_4, a0g_5, a0g_6, a0g_7, .int a0_8, a0g_9, a0g_10, a0g_11, a0g_12, a0g_13]))]) hP hD rfl
  refine lv_iconst (v := 0) hx hb dX3_fails_13 zk_iconst_0 ?_
  exact W.zret (v := 0) hx hb hr rfl (fun t ht hW => ⟨⟨0, (), rfl, rfl, a1, a0_8, by rw [ht]; exact hP, va_K.moved hW.alike hK, hD⟩, hS.F ht⟩) hS.2.2 dX3_fails_14

set_option maxHeartbeats 4000000 in
set_option maxRecDepth 100000 in
theorem c_X3_scanWord (l : Launch) (dC : Nat → ClassId) (dI : Nat → Nat → Nat) (sz : Nat) (a0 : Nat) (a0g_0 a0g_1 a0g_2 a0g_4 a0g_5 a0g_6 a0g_12 a0g_13 : Value) (a0_3 : Nat) (a0_7 : Int32) (a0_8 : Int32) (a0_9 : Int32) (a0_10 : Int32) (a0_11 : Int64) (ka0_3 : ClassId) (fa0_3 : Nat → Int32) (ba0_7_l : (0 : Int) ≤ a0_7.toInt) (ba0_7_u : a0_7.toInt ≤ (900 : Int)) (ba0_8_l : (0 : Int) ≤ a0_8.toInt) (ba0_8_u : a0_8.toInt ≤ (900 : Int)) (ba0_9_l : (0 : Int) ≤ a0_9.toInt) (ba0_9_u : a0_9.toInt ≤ (900 : Int)) (ba0_10_l : (0 : Int) ≤ a0_10.toInt) (ba0_10_u : a0_10.toInt ≤ (4 : Int)) : Met l yX3_scanWord wsX3_scanWord ({ frames := 0, cells := 0, slots := 0, locals := 0 }) (va_Pc [.ref a0] (ax_C dC dI sz [(a0, .inr (3, [a0g_0, a0g_1, a0g_2, .ref a0_3, a0g_4, a0g_5, a0g_6, .int a0_7, .int a0_8, .int a0_9, .int a0_10, .long a0_11, a0g_12, a0g_13])), (a0_3, .inl (ka0_3, 900, .inl (fa0_3)))] [(ka0_3, .byte)] (fun _ => True))) (va_Qv (fun (_ : Unit) => True) (fun (_ : Unit) (t : State) => ∃ na0_9 : Int32, ∃ na0_10 : Int32, ∃ na0_11 : Int64, ((0 : Int) ≤ na0_9.toInt ∧ na0_9.toInt ≤ 900) ∧ ((0 : Int) ≤ na0_10.toInt ∧ na0_10.toInt ≤ 4) ∧ ax_B dC dI (va_A [(a0, .inr (3, [a0g_0, a0g_1, a0g_2, .ref a0_3, a0g_4, a0g_5, a0g_6, .int a0_7, .int a0_8, .int a0_9, .int a0_10, .long a0_11, a0g_12, a0g_13])), (a0_3, .inl (ka0_3, 900, .inl (fa0_3)))] sz) [(a0, .inr (3, [a0g_0, a0g_1, a0g_2, .ref a0_3, a0g_4, a0g_5, a0g_6, .int a0_7, .int a0_8, .int na0_9, .int na0_10, .long na0_11, a0g_12, a0g_13])), (a0_3, .inl (ka0_3, 900, .inl (fa0_3)))] [(ka0_3, .byte)] t) (va_A [(a0, .inr (3, [a0g_0, a0g_1, a0g_2, .ref a0_3, a0g_4, a0g_5, a0g_6, .int a0_7, .int a0_8, .int a0_9, .int a0_10, .long a0_11, a0g_12, a0g_13])), (a0_3, .inl (ka0_3, 900, .inl (fa0_3)))] sz)) 0 0 (va_A [(a0, .inr (3, [a0g_0, a0g_1, a0g_2, .ref a0_3, a0g_4, a0g_5, a0g_6, .int a0_7, .int a0_8, .int a0_9, .int a0_10, .long a0_11, a0g_12, a0g_13])), (a0_3, .inl (ka0_3, 900, .inl (fa0_3)))] sz) := by
  refine Met.ofW (cc := cX3_scanWord) (maxL := 1) (ret := none) (by decide) rfl ?_
  intro p e s m args below meth c s₁ B hml hv
  obtain ⟨rfl, hsz, hP, hK, hD0, hE⟩ := hv
  have hx := B.exec
  have hb := B.bytes
  have hr := B.returns
  have hts := atoms_spec (ws := wsX3_scanWord) B.pre
  have hown : s.vm.findClass RX3 = some m.cls := findClass_of_methodNamed B.named
  have hlocks := B.notSynchronized
  subst hsz
  have hD := hD0.self (sz := s.heap.size)
  generalize hAe : va_A [(a0, .inr (3, [a0g_0, a0g_1, a0g_2, .ref a0_3, a0g_4, a0g_5, a0g_6, .int a0_7, .int a0_8, .int a0_9, .int a0_10, .long a0_11, a0g_12, a0g_13])), (a0_3, .inl (ka0_3, 900, .inl (fa0_3)))] s.heap.size = A at hD ⊢
  have hA : ∀ q : Nat, s.heap.size ≤ q → A q := fun q h => by rw [← hAe]; exact Or.inr h
  have hS : va_S A s.heap s.heap [] := va_S.rf
  have hP : va_P (dC, dI) vwCl [(a0, .inr (3, [a0g_0, a0g_1, a0g_2, .ref a0_3, a0g_4, a0g_5, a0g_6, .int a0_7, .int a0_8, .int a0_9, .int a0_10, .long a0_11, a0g_12, a0g_13])), (a0_3, .inl (ka0_3, 900, .inl (fa0_3)))] s.heap := hP
  have hl := lv_entry ([.ref a0]) (n := 1) (Nat.le_of_ble_eq_true rfl)
  rw [lg_entry_eq]
  generalize (lg_sl ([.ref a0]) ++ List.replicate (1 - (lg_sl ([.ref a0])).length) Slot.unset).toArray = ls at hl ⊢
  have hl : lv_has ls 1 [(0, .ref a0)] := hl
  refine ai_open (fun K hK0 => ?_)
  refine (hK0 _ _ _).mpr ?_
  refine lv_aload_n hx hb dX3_scanWord_0 rfl (lv_at hl 0 rfl) ?_
  refine lv_lconst (v := 0) hx hb dX3_scanWord_1 (by decide) ?_
  refine va_put (D := (dC, dI)) (ci := 3) (v := .long 0) (ty := .long) (C := RX3) (T := TX3) (N := 14) hx hb hts zi_X3_scanWord_3 tyX3 tyX3_ok nmX3 hown hK hP hD hS 0 rfl rfl 11 (by decide) (hts (.fieldLink RX3 81 "WaxTurns$Reade\x72" "word" "J") (List.mem_cons_of_mem _ (List.mem_append_left _ (List.mem_of_getElem? (i := 0) rfl)))) (fun _ h9 => h9) rfl (tyX3_ok 11 (by decide)) rfl rfl (Nat.le_of_ble_eq_true rfl) dX3_scanWord_2 (fun H locs hP hD hS => ?_)
  obtain ⟨hP, hD⟩ := zc_re (w := [(a0, .inr (3, [a0g_0, a0g_1, a0g_2, .ref a0_3, a0g_4, a0g_5, a0g_6, .int a0_7, .int a0_8, .int a0_9, .int a0_10, .long 0, a0g_12, a0g_13])), (a0_3, .inl (ka0_3, 900, .inl (fa0_3)))]) hP hD rfl
  have J5 : ∀ (n : Nat) (j5a0_9 : Int32) (j5a0_11 : Int64) (H : Heap) (locs : List Loc) (ls : Array Slot), (901 : Int) - j5a0_9.toInt ≤ (n : Int) → (0 : Int) ≤ j5a0_9.toInt → j5a0_9.toInt ≤ (900 : Int) → va_P (dC, dI) vwCl [(a0, .inr (3, [a0g_0, a0g_1, a0g_2, .ref a0_3, a0g_4, a0g_5, a0g_6, .int a0_7, .int a0_8, .int j5a0_9, .int a0_10, .long j5a0_11, a0g_12, a0g_13])), (a0_3, .inl (ka0_3, 900, .inl (fa0_3)))] H → va_D A [(a0, .inr (3, [a0g_0, a0g_1, a0g_2, .ref a0_3, a0g_4, a0g_5, a0g_6, .int a0_7, .int a0_8, .int j5a0_9, .int a0_10, .long j5a0_11, a0g_12, a0g_13])), (a0_3, .inl (ka0_3, 900, .inl (fa0_3)))] → va_S A s.heap H locs → lv_has ls 1 [(0, .ref a0)] → K H locs (F0 m 5 ls []) := by
    intro n
    induction n with
    | zero =>
      intro j5a0_9 j5a0_11 H locs ls hm bj5a0_9_l bj5a0_9_u hP hD hS hl
      have h8 := ai_min j5a0_9
      have h9 := ai_max j5a0_9
      exact absurd hm (by omega)
    | succ n ih5 =>
      intro j5a0_9 j5a0_11 H locs ls hm bj5a0_9_l bj5a0_9_u hP hD hS hl
      refine (hK0 _ _ _).mpr ?_
      have hm5 := hm
      refine lv_aload_n hx hb dX3_scanWord_5 rfl (lv_at hl 0 rfl) ?_
      refine va_get (D := (dC, dI)) (ci := 3) (v := .int j5a0_9) (C := RX3) (T := TX3) (N := 14) hx hb hts zi_X3_scanWord_3 hown hK hP 0 rfl rfl 9 (by decide) (hts (.fieldLink RX3 51 "WaxTurns$Reade\x72" "behind" "I") (List.mem_cons_of_mem _ (List.mem_append_left _ (List.mem_of_getElem? (i := 1) rfl)))) (fun _ h9 => h9) rfl dX3_scanWord_6 ?_
      refine lv_aload_n hx hb dX3_scanWord_9 rfl (lv_at hl 0 rfl) ?_
      refine va_get (D := (dC, dI)) (ci := 3) (v := .int a0_7) (C := RX3) (T := TX3) (N := 14) hx hb hts zi_X3_scanWord_3 hown hK hP 0 rfl rfl 7 (by decide) (hts (.fieldLink RX3 36 "WaxTurns$Reade\x72" "end" "I") (List.mem_cons_of_mem _ (List.mem_append_left _ (List.mem_of_getElem? (i := 2) rfl)))) (fun _ h9 => h9) rfl dX3_scanWord_10 ?_
      have J79 : ∀ (H : Heap) (locs : List Loc) (ls : Array Slot), va_P (dC, dI) vwCl [(a0, .inr (3, [a0g_0, a0g_1, a0g_2, .ref a0_3, a0g_4, a0g_5, a0g_6, .int a0_7, .int a0_8, .int j5a0_9, .int a0_10, .long j5a0_11, a0g_12, a0g_13])), (a0_3, .inl (ka0_3, 900, .inl (fa0_3)))] H → va_D A [(a0, .inr (3, [a0g_0, a0g_1, a0g_2, .ref a0_3, a0g_4, a0g_5, a0g_6, .int a0_7, .int a0_8, .int j5a0_9, .int a0_10, .long j5a0_11, a0g_12, a0g_13])), (a0_3, .inl (ka0_3, 900, .inl (fa0_3)))] → va_S A s.heap H locs → lv_has ls 1 [(0, .ref a0)] → K H locs (F0 m 79 ls []) := by
        intro  H locs ls   hP hD hS hl
        refine (hK0 _ _ _).mpr ?_
        refine lv_aload_n hx hb dX3_scanWord_79 rfl (lv_at hl 0 rfl) ?_
        refine lv_aload_n hx hb dX3_scanWord_80 rfl (lv_at hl 0 rfl) ?_
        refine va_get (D := (dC, dI)) (ci := 3) (v := .int j5a0_9) (C := RX3) (T := TX3) (N := 14) hx hb hts zi_X3_scanWord_3 hown hK hP 0 rfl rfl 9 (by decide) (hts (.fieldLink RX3 51 "WaxTurns$Reade\x72" "behind" "I") (List.mem_cons_of_mem _ (List.mem_append_left _ (List.mem_of_getElem? (i := 1) rfl)))) (fun _ h9 => h9) rfl dX3_scanWord_81 ?_
        refine lv_aload_n hx hb dX3_scanWord_84 rfl (lv_at hl 0 rfl) ?_
        refine va_get (D := (dC, dI)) (ci := 3) (v := .int a0_8) (C := RX3) (T := TX3) (N := 14) hx hb hts zi_X3_scanWord_3 hown hK hP 0 rfl rfl 8 (by decide) (hts (.fieldLink RX3 72 "WaxTurns$Reade\x72" "start" "I") (List.mem_cons_of_mem _ (List.mem_append_left _ (List.mem_of_getElem? (i := 4) rfl)))) (fun _ h9 => h9) rfl dX3_scanWord_85 ?_
        refine lv_isub hx hb dX3_scanWord_88 ?_
        refine lv_topi (fun x88 ex88 => ?_)
        have qx88 : x88.toInt = j5a0_9.toInt - a0_8.toInt := ai_sub ex88 ⟨bj5a0_9_l, bj5a0_9_u⟩ ⟨ba0_8_l, ba0_8_u⟩ (by decide) (by decide)
        have bx88 : (-900 : Int) ≤ x88.toInt ∧ x88.toInt ≤ 900 := ⟨by rw [qx88]; exact Int.sub_le_sub bj5a0_9_l ba0_8_u, by rw [qx88]; exact Int.sub_le_sub bj5a0_9_u ba0_8_l⟩
        refine lv_bipush (v := 8) hx hb dX3_scanWord_89 zk_bipush_8 ?_
        have J99 : ∀ (j99s0 : Int32) (H : Heap) (locs : List Loc) (ls : Array Slot), (1 : Int) ≤ j99s0.toInt → j99s0.toInt ≤ (4 : Int) → va_P (dC, dI) vwCl [(a0, .inr (3, [a0g_0, a0g_1, a0g_2, .ref a0_3, a0g_4, a0g_5, a0g_6, .int a0_7, .int a0_8, .int j5a0_9, .int a0_10, .long j5a0_11, a0g_12, a0g_13])), (a0_3, .inl (ka0_3, 900, .inl (fa0_3)))] H → va_D A [(a0, .inr (3, [a0g_0, a0g_1, a0g_2, .ref a0_3, a0g_4, a0g_5, a0g_6, .int a0_7, .int a0_8, .int j5a0_9, .int a0_10, .long j5a0_11, a0g_12, a0g_13])), (a0_3, .inl (ka0_3, 900, .inl (fa0_3)))] → va_S A s.heap H locs → lv_has ls 1 [] → K H locs (F0 m 99 ls [.int j99s0, .ref a0]) := by
          intro j99s0 H locs ls  bj99s0_l bj99s0_u hP hD hS hl
          refine (hK0 _ _ _).mpr ?_
          refine va_put (D := (dC, dI)) (ci := 3) (v := .int j99s0) (ty := .int) (C := RX3) (T := TX3) (N := 14) hx hb hts zi_X3_scanWord_3 tyX3 tyX3_ok nmX3 hown hK hP hD hS 0 rfl rfl 10 (by decide) (hts (.fieldLink RX3 61 "WaxTurns$Reade\x72" "token" "I") (List.mem_cons_of_mem _ (List.mem_append_left _ (List.mem_of_getElem? (i := 5) rfl)))) (fun _ h9 => h9) rfl (tyX3_ok 10 (by decide)) rfl rfl (Nat.le_of_ble_eq_true rfl) dX3_scanWord_99 (fun H locs hP hD hS => ?_)
          obtain ⟨hP, hD⟩ := zc_re (w := [(a0, .inr (3, [a0g_0, a0g_1, a0g_2, .ref a0_3, a0g_4, a0g_5, a0g_6, .int a0_7, .int a0_8, .int j5a0_9, .int j99s0, .long j5a0_11, a0g_12, a0g_13])), (a0_3, .inl (ka0_3, 900, .inl (fa0_3)))]) hP hD rfl
          exact W.vret hx hb hr (fun t ht hW => ⟨⟨(), rfl, trivial, j5a0_9, j99s0, j5a0_11, ⟨bj5a0_9_l, bj5a0_9_u⟩, ⟨Int.le_trans (by decide) bj99s0_l, bj99s0_u⟩, by rw [ht]; exact hP, va_K.moved hW.alike hK, hD⟩, hS.F ht⟩) hS.2.2 dX3_scanWord_102
        refine lv_icmp_gt (tgt := 98) hx hb dX3_scanWord_91 (by decide) (fun c91 => ?_) (fun c91 => ?_)
        · have gc91 := ai_lt c91
          have l91t_x88 : (9 : Int) ≤ x88.toInt := ai_ltlo gc91 zq116
          refine lv_iconst (v := 4) hx hb dX3_scanWord_98 zk_iconst_4 ?_
          exact (hK0 _ _ _).mp (J99 4 _ _ _  (Int.le_trans zq135 zq68) zq67 hP hD hS (lv_sub hl [] rfl))
        · have gc91 := ai_nlt c91
          have u91f_x88 : x88.toInt ≤ (8 : Int) := Int.le_trans gc91 zq28
          refine lv_iconst (v := 1) hx hb dX3_scanWord_94 zk_iconst_1 ?_
          refine lv_goto (tgt := 99) hx hb dX3_scanWord_95 (by decide) ?_
          exact (hK0 _ _ _).mp (J99 1 _ _ _  zq1 (Int.le_trans zq0 zq135) hP hD hS (lv_sub hl [] rfl))
      refine lv_icmp_ge (tgt := 79) hx hb dX3_scanWord_13 (by decide) (fun c13 => ?_) (fun c13 => ?_)
      · have gc13 := ai_le c13
        have u13t_a0_7 : a0_7.toInt ≤ (900 : Int) := ba0_7_u
        have l13t_j5a0_9 : (0 : Int) ≤ j5a0_9.toInt := bj5a0_9_l
        exact (hK0 _ _ _).mp (J79  _ _ _   hP hD hS (lv_sub hl [0] rfl))
      · have gc13 := ai_nle c13
        have u13f_j5a0_9 : j5a0_9.toInt ≤ (899 : Int) := ai_lthi gc13 ba0_7_u
        have l13f_a0_7 : (1 : Int) ≤ a0_7.toInt := ai_ltlo gc13 bj5a0_9_l
        refine lv_aload_n hx hb dX3_scanWord_16 rfl (lv_at hl 0 rfl) ?_
        refine va_get (D := (dC, dI)) (ci := 3) (v := .ref a0_3) (C := RX3) (T := TX3) (N := 14) hx hb hts zi_X3_scanWord_3 hown hK hP 0 rfl rfl 3 (by decide) (hts (.fieldLink RX3 9 "WaxTurns$Reade\x72" "tape" "[B") (List.mem_cons_of_mem _ (List.mem_append_left _ (List.mem_of_getElem? (i := 3) rfl)))) (fun _ h9 => h9) rfl dX3_scanWord_17 ?_
        refine lv_aload_n hx hb dX3_scanWord_20 rfl (lv_at hl 0 rfl) ?_
        refine va_get (D := (dC, dI)) (ci := 3) (v := .int j5a0_9) (C := RX3) (T := TX3) (N := 14) hx hb hts zi_X3_scanWord_3 hown hK hP 0 rfl rfl 9 (by decide) (hts (.fieldLink RX3 51 "WaxTurns$Reade\x72" "behind" "I") (List.mem_cons_of_mem _ (List.mem_append_left _ (List.mem_of_getElem? (i := 1) rfl)))) (fun _ h9 => h9) rfl dX3_scanWord_21 ?_
        refine va_bald hx hb hK hP 1 0 rfl rfl (ai_in bj5a0_9_l u13f_j5a0_9 (by decide) (by decide)) dX3_scanWord_24 ?_
        refine lv_topi (fun x24 ex24 => ?_)
        refine lv_bipush (v := 97) hx hb dX3_scanWord_25 zk_bipush_97 ?_
        refine lv_icmp_lt (tgt := 79) hx hb dX3_scanWord_27 (by decide) (fun c27 => ?_) (fun c27 => ?_)
        · have gc27 := ai_lt c27
          have u27t_x24 : x24.toInt ≤ (96 : Int) := ai_lthi gc27 zq136
          exact (hK0 _ _ _).mp (J79  _ _ _   hP hD hS (lv_sub hl [0] rfl))
        · have gc27 := ai_nlt c27
          have l27f_x24 : (97 : Int) ≤ x24.toInt := Int.le_trans zq137 gc27
          refine lv_aload_n hx hb dX3_scanWord_30 rfl (lv_at hl 0 rfl) ?_
          refine va_get (D := (dC, dI)) (ci := 3) (v := .ref a0_3) (C := RX3) (T := TX3) (N := 14) hx hb hts zi_X3_scanWord_3 hown hK hP 0 rfl rfl 3 (by decide) (hts (.fieldLink RX3 9 "WaxTurns$Reade\x72" "tape" "[B") (List.mem_cons_of_mem _ (List.mem_append_left _ (List.mem_of_getElem? (i := 3) rfl)))) (fun _ h9 => h9) rfl dX3_scanWord_31 ?_
          refine lv_aload_n hx hb dX3_scanWord_34 rfl (lv_at hl 0 rfl) ?_
          refine va_get (D := (dC, dI)) (ci := 3) (v := .int j5a0_9) (C := RX3) (T := TX3) (N := 14) hx hb hts zi_X3_scanWord_3 hown hK hP 0 rfl rfl 9 (by decide) (hts (.fieldLink RX3 51 "WaxTurns$Reade\x72" "behind" "I") (List.mem_cons_of_mem _ (List.mem_append_left _ (List.mem_of_getElem? (i := 1) rfl)))) (fun _ h9 => h9) rfl dX3_scanWord_35 ?_
          refine va_bald hx hb hK hP 1 0 rfl rfl (ai_in bj5a0_9_l u13f_j5a0_9 (by decide) (by decide)) dX3_scanWord_38 ?_
          refine ax_ti x24 ex24.symm ?_
          refine lv_bipush (v := 122) hx hb dX3_scanWord_39 zk_bipush_122 ?_
          refine lv_icmp_gt (tgt := 79) hx hb dX3_scanWord_41 (by decide) (fun c41 => ?_) (fun c41 => ?_)
          · have gc41 := ai_lt c41
            have l41t_x24 : (123 : Int) ≤ x24.toInt := ai_ltlo gc41 zq138
            exact (hK0 _ _ _).mp (J79  _ _ _   hP hD hS (lv_sub hl [0] rfl))
          · have gc41 := ai_nlt c41
            have u41f_x24 : x24.toInt ≤ (122 : Int) := Int.le_trans gc41 zq139
            refine lv_aload_n hx hb dX3_scanWord_44 rfl (lv_at hl 0 rfl) ?_
            refine lv_aload_n hx hb dX3_scanWord_45 rfl (lv_at hl 0 rfl) ?_
            refine va_get (D := (dC, dI)) (ci := 3) (v := .long j5a0_11) (C := RX3) (T := TX3) (N := 14) hx hb hts zi_X3_scanWord_3 hown hK hP 0 rfl rfl 11 (by decide) (hts (.fieldLink RX3 81 "WaxTurns$Reade\x72" "word" "J") (List.mem_cons_of_mem _ (List.mem_append_left _ (List.mem_of_getElem? (i := 0) rfl)))) (fun _ h9 => h9) rfl dX3_scanWord_46 ?_
            refine lv_bipush (v := 8) hx hb dX3_scanWord_49 zk_bipush_8 ?_
            refine lv_lshl hx hb dX3_scanWord_51 rfl ?_
            refine lv_topl (fun x51 ex51 => ?_)
            refine lv_aload_n hx hb dX3_scanWord_52 rfl (lv_at hl 0 rfl) ?_
            refine va_get (D := (dC, dI)) (ci := 3) (v := .ref a0_3) (C := RX3) (T := TX3) (N := 14) hx hb hts zi_X3_scanWord_3 hown hK hP 0 rfl rfl 3 (by decide) (hts (.fieldLink RX3 9 "WaxTurns$Reade\x72" "tape" "[B") (List.mem_cons_of_mem _ (List.mem_append_left _ (List.mem_of_getElem? (i := 3) rfl)))) (fun _ h9 => h9) rfl dX3_scanWord_53 ?_
            refine lv_aload_n hx hb dX3_scanWord_56 rfl (lv_at hl 0 rfl) ?_
            refine va_get (D := (dC, dI)) (ci := 3) (v := .int j5a0_9) (C := RX3) (T := TX3) (N := 14) hx hb hts zi_X3_scanWord_3 hown hK hP 0 rfl rfl 9 (by decide) (hts (.fieldLink RX3 51 "WaxTurns$Reade\x72" "behind" "I") (List.mem_cons_of_mem _ (List.mem_append_left _ (List.mem_of_getElem? (i := 1) rfl)))) (fun _ h9 => h9) rfl dX3_scanWord_57 ?_
            refine va_bald hx hb hK hP 1 0 rfl rfl (ai_in bj5a0_9_l u13f_j5a0_9 (by decide) (by decide)) dX3_scanWord_60 ?_
            refine ax_ti x24 ex24.symm ?_
            obtain ⟨x61, ex61⟩ : ∃ y : Int64, y = (x24 : Int32).toInt64 := ⟨_, rfl⟩
            refine lv_i2l (v := x61) hx hb dX3_scanWord_61 ex61.symm ?_
            refine lv_lor hx hb dX3_scanWord_62 ?_
            refine lv_topl (fun x62 ex62 => ?_)
            refine va_put (D := (dC, dI)) (ci := 3) (v := .long x62) (ty := .long) (C := RX3) (T := TX3) (N := 14) hx hb hts zi_X3_scanWord_3 tyX3 tyX3_ok nmX3 hown hK hP hD hS 0 rfl rfl 11 (by decide) (hts (.fieldLink RX3 81 "WaxTurns$Reade\x72" "word" "J") (List.mem_cons_of_mem _ (List.mem_append_left _ (List.mem_of_getElem? (i := 0) rfl)))) (fun _ h9 => h9) rfl (tyX3_ok 11 (by decide)) rfl rfl (Nat.le_of_ble_eq_true rfl) dX3_scanWord_63 (fun H locs hP hD hS => ?_)
            obtain ⟨hP, hD⟩ := zc_re (w := [(a0, .inr (3, [a0g_0, a0g_1, a0g_2, .ref a0_3, a0g_4, a0g_5, a0g_6, .int a0_7, .int a0_8, .int j5a0_9, .int a0_10, .long x62, a0g_12, a0g_13])), (a0_3, .inl (ka0_3, 900, .inl (fa0_3)))]) hP hD rfl
            refine lv_aload_n hx hb dX3_scanWord_66 rfl (lv_at hl 0 rfl) ?_
            refine lv_dup hx hb dX3_scanWord_67 rfl ?_
            refine va_get (D := (dC, dI)) (ci := 3) (v := .int j5a0_9) (C := RX3) (T := TX3) (N := 14) hx hb hts zi_X3_scanWord_3 hown hK hP 0 rfl rfl 9 (by decide) (hts (.fieldLink RX3 51 "WaxTurns$Reade\x72" "behind" "I") (List.mem_cons_of_mem _ (List.mem_append_left _ (List.mem_of_getElem? (i := 1) rfl)))) (fun _ h9 => h9) rfl dX3_scanWord_68 ?_
            refine lv_iconst (v := 1) hx hb dX3_scanWord_71 zk_iconst_1 ?_
            refine lv_iadd hx hb dX3_scanWord_72 ?_
            refine lv_topi (fun x72 ex72 => ?_)
            have qx72 : x72.toInt = j5a0_9.toInt + (1 : Int32).toInt := ai_add ex72 ⟨bj5a0_9_l, u13f_j5a0_9⟩ ⟨zq1, zq0⟩ (by decide) (by decide)
            have bx72 : (1 : Int) ≤ x72.toInt ∧ x72.toInt ≤ 900 := ⟨by rw [qx72]; exact Int.add_le_add bj5a0_9_l zq1, by rw [qx72]; exact Int.add_le_add u13f_j5a0_9 zq0⟩
            have wx72 : x72.toInt = j5a0_9.toInt + 1 := qx72
            refine va_put (D := (dC, dI)) (ci := 3) (v := .int x72) (ty := .int) (C := RX3) (T := TX3) (N := 14) hx hb hts zi_X3_scanWord_3 tyX3 tyX3_ok nmX3 hown hK hP hD hS 0 rfl rfl 9 (by decide) (hts (.fieldLink RX3 51 "WaxTurns$Reade\x72" "behind" "I") (List.mem_cons_of_mem _ (List.mem_append_left _ (List.mem_of_getElem? (i := 1) rfl)))) (fun _ h9 => h9) rfl (tyX3_ok 9 (by decide)) rfl rfl (Nat.le_of_ble_eq_true rfl) dX3_scanWord_73 (fun H locs hP hD hS => ?_)
            obtain ⟨hP, hD⟩ := zc_re (w := [(a0, .inr (3, [a0g_0, a0g_1, a0g_2, .ref a0_3, a0g_4, a0g_5, a0g_6, .int a0_7, .int a0_8, .int x72, .int a0_10, .long x62, a0g_12, a0g_13])), (a0_3, .inl (ka0_3, 900, .inl (fa0_3)))]) hP hD rfl
            refine lv_goto (tgt := 5) hx hb dX3_scanWord_76 (by decide) ?_
            exact (hK0 _ _ _).mp (ih5 x72 x62 _ _ _ (by have h0 := qx72; omega) (Int.le_trans zq4 bx72.1) bx72.2 hP hD hS (lv_sub hl [0] rfl))
  exact (hK0 _ _ _).mp (J5 901 a0_9 0 _ _ _ (by have h1 : (0 : Int) ≤ a0_9.toInt := ba0_9_l; have h2 : a0_9.toInt ≤ (900 : Int) := ba0_9_u; omega) ba0_9_l ba0_9_u hP hD hS (lv_sub hl [0] rfl))

set_option maxHeartbeats 4000000 in
set_option maxRecDepth 100000 in
theorem c_X3_scanWhole (l : Launch) (dC : Nat → ClassId) (dI : Nat → Nat → Nat) (sz : Nat) (a0 : Nat) (a0g_0 a0g_1 a0g_2 a0g_4 a0g_5 a0g_6 a0g_11 a0g_13 : Value) (a0_3 : Nat) (a0_7 : Int32) (a0_8 : Int32) (a0_9 : Int32) (a0_10 : Int32) (a0_12 : Int32) (ka0_3 : ClassId) (fa0_3 : Nat → Int32) (ba0_7_l : (0 : Int) ≤ a0_7.toInt) (ba0_7_u : a0_7.toInt ≤ (900 : Int)) (ba0_8_l : (0 : Int) ≤ a0_8.toInt) (ba0_8_u : a0_8.toInt ≤ (900 : Int)) (ba0_9_l : (0 : Int) ≤ a0_9.toInt) (ba0_9_u : a0_9.toInt ≤ (900 : Int)) (ba0_10_l : (0 : Int) ≤ a0_10.toInt) (ba0_10_u : a0_10.toInt ≤ (4 : Int)) : Met l yX3_scanWhole wsX3_scanWhole ({ frames := 0, cells := 0, slots := 0, locals := 0 }) (va_Pc [.ref a0] (ax_C dC dI sz [(a0, .inr (3, [a0g_0, a0g_1, a0g_2, .ref a0_3, a0g_4, a0g_5, a0g_6, .int a0_7, .int a0_8, .int a0_9, .int a0_10, a0g_11, .int a0_12, a0g_13])), (a0_3, .inl (ka0_3, 900, .inl (fa0_3)))] [(ka0_3, .byte)] (fun _ => True))) (va_Qv (fun (_ : Unit) => True) (fun (_ : Unit) (t : State) => ∃ na0_9 : Int32, ∃ na0_10 : Int32, ∃ na0_12 : Int32, ((0 : Int) ≤ na0_9.toInt ∧ na0_9.toInt ≤ 900) ∧ ((0 : Int) ≤ na0_10.toInt ∧ na0_10.toInt ≤ 4) ∧ ax_B dC dI (va_A [(a0, .inr (3, [a0g_0, a0g_1, a0g_2, .ref a0_3, a0g_4, a0g_5, a0g_6, .int a0_7, .int a0_8, .int a0_9, .int a0_10, a0g_11, .int a0_12, a0g_13])), (a0_3, .inl (ka0_3, 900, .inl (fa0_3)))] sz) [(a0, .inr (3, [a0g_0, a0g_1, a0g_2, .ref a0_3, a0g_4, a0g_5, a0g_6, .int a0_7, .int a0_8, .int na0_9, .int na0_10, a0g_11, .int na0_12, a0g_13])), (a0_3, .inl (ka0_3, 900, .inl (fa0_3)))] [(ka0_3, .byte)] t) (va_A [(a0, .inr (3, [a0g_0, a0g_1, a0g_2, .ref a0_3, a0g_4, a0g_5, a0g_6, .int a0_7, .int a0_8, .int a0_9, .int a0_10, a0g_11, .int a0_12, a0g_13])), (a0_3, .inl (ka0_3, 900, .inl (fa0_3)))] sz)) 0 0 (va_A [(a0, .inr (3, [a0g_0, a0g_1, a0g_2, .ref a0_3, a0g_4, a0g_5, a0g_6, .int a0_7, .int a0_8, .int a0_9, .int a0_10, a0g_11, .int a0_12, a0g_13])), (a0_3, .inl (ka0_3, 900, .inl (fa0_3)))] sz) := by
  refine Met.ofW (cc := cX3_scanWhole) (maxL := 1) (ret := none) (by decide) rfl ?_
  intro p e s m args below meth c s₁ B hml hv
  obtain ⟨rfl, hsz, hP, hK, hD0, hE⟩ := hv
  have hx := B.exec
  have hb := B.bytes
  have hr := B.returns
  have hts := atoms_spec (ws := wsX3_scanWhole) B.pre
  have hown : s.vm.findClass RX3 = some m.cls := findClass_of_methodNamed B.named
  have hlocks := B.notSynchronized
  subst hsz
  have hD := hD0.self (sz := s.heap.size)
  generalize hAe : va_A [(a0, .inr (3, [a0g_0, a0g_1, a0g_2, .ref a0_3, a0g_4, a0g_5, a0g_6, .int a0_7, .int a0_8, .int a0_9, .int a0_10, a0g_11, .int a0_12, a0g_13])), (a0_3, .inl (ka0_3, 900, .inl (fa0_3)))] s.heap.size = A at hD ⊢
  have hA : ∀ q : Nat, s.heap.size ≤ q → A q := fun q h => by rw [← hAe]; exact Or.inr h
  have hS : va_S A s.heap s.heap [] := va_S.rf
  have hP : va_P (dC, dI) vwCl [(a0, .inr (3, [a0g_0, a0g_1, a0g_2, .ref a0_3, a0g_4, a0g_5, a0g_6, .int a0_7, .int a0_8, .int a0_9, .int a0_10, a0g_11, .int a0_12, a0g_13])), (a0_3, .inl (ka0_3, 900, .inl (fa0_3)))] s.heap := hP
  have hl := lv_entry ([.ref a0]) (n := 1) (Nat.le_of_ble_eq_true rfl)
  rw [lg_entry_eq]
  generalize (lg_sl ([.ref a0]) ++ List.replicate (1 - (lg_sl ([.ref a0])).length) Slot.unset).toArray = ls at hl ⊢
  have hl : lv_has ls 1 [(0, .ref a0)] := hl
  refine ai_open (fun K hK0 => ?_)
  refine (hK0 _ _ _).mpr ?_
  refine lv_aload_n hx hb dX3_scanWhole_0 rfl (lv_at hl 0 rfl) ?_
  refine lv_iconst (v := 0) hx hb dX3_scanWhole_1 zk_iconst_0 ?_
  refine va_put (D := (dC, dI)) (ci := 3) (v := .int 0) (ty := .int) (C := RX3) (T := TX3) (N := 14) hx hb hts zi_X3_scanWhole_3 tyX3 tyX3_ok nmX3 hown hK hP hD hS 0 rfl rfl 12 (by decide) (hts (.fieldLink RX3 85 "WaxTurns$Reade\x72" "whole" "I") (List.mem_cons_of_mem _ (List.mem_append_left _ (List.mem_of_getElem? (i := 0) rfl)))) (fun _ h9 => h9) rfl (tyX3_ok 12 (by decide)) rfl rfl (Nat.le_of_ble_eq_true rfl) dX3_scanWhole_2 (fun H locs hP hD hS => ?_)
  obtain ⟨hP, hD⟩ := zc_re (w := [(a0, .inr (3, [a0g_0, a0g_1, a0g_2, .ref a0_3, a0g_4, a0g_5, a0g_6, .int a0_7, .int a0_8, .int a0_9, .int a0_10, a0g_11, .int 0, a0g_13])), (a0_3, .inl (ka0_3, 900, .inl (fa0_3)))]) hP hD rfl
  have J5 : ∀ (n : Nat) (j5a0_9 : Int32) (j5a0_12 : Int32) (H : Heap) (locs : List Loc) (ls : Array Slot), (901 : Int) - j5a0_9.toInt ≤ (n : Int) → (0 : Int) ≤ j5a0_9.toInt → j5a0_9.toInt ≤ (900 : Int) → va_P (dC, dI) vwCl [(a0, .inr (3, [a0g_0, a0g_1, a0g_2, .ref a0_3, a0g_4, a0g_5, a0g_6, .int a0_7, .int a0_8, .int j5a0_9, .int a0_10, a0g_11, .int j5a0_12, a0g_13])), (a0_3, .inl (ka0_3, 900, .inl (fa0_3)))] H → va_D A [(a0, .inr (3, [a0g_0, a0g_1, a0g_2, .ref a0_3, a0g_4, a0g_5, a0g_6, .int a0_7, .int a0_8, .int j5a0_9, .int a0_10, a0g_11, .int j5a0_12, a0g_13])), (a0_3, .inl (ka0_3, 900, .inl (fa0_3)))] → va_S A s.heap H locs → lv_has ls 1 [(0, .ref a0)] → K H locs (F0 m 5 ls []) := by
    intro n
    induction n with
    | zero =>
      intro j5a0_9 j5a0_12 H locs ls hm bj5a0_9_l bj5a0_9_u hP hD hS hl
      have h8 := ai_min j5a0_9
      have h9 := ai_max j5a0_9
      exact absurd hm (by omega)
    | succ n ih5 =>
      intro j5a0_9 j5a0_12 H locs ls hm bj5a0_9_l bj5a0_9_u hP hD hS hl
      refine (hK0 _ _ _).mpr ?_
      have hm5 := hm
      refine lv_aload_n hx hb dX3_scanWhole_5 rfl (lv_at hl 0 rfl) ?_
      refine va_get (D := (dC, dI)) (ci := 3) (v := .int j5a0_9) (C := RX3) (T := TX3) (N := 14) hx hb hts zi_X3_scanWhole_3 hown hK hP 0 rfl rfl 9 (by decide) (hts (.fieldLink RX3 51 "WaxTurns$Reade\x72" "behind" "I") (List.mem_cons_of_mem _ (List.mem_append_left _ (List.mem_of_getElem? (i := 1) rfl)))) (fun _ h9 => h9) rfl dX3_scanWhole_6 ?_
      refine lv_aload_n hx hb dX3_scanWhole_9 rfl (lv_at hl 0 rfl) ?_
      refine va_get (D := (dC, dI)) (ci := 3) (v := .int a0_7) (C := RX3) (T := TX3) (N := 14) hx hb hts zi_X3_scanWhole_3 hown hK hP 0 rfl rfl 7 (by decide) (hts (.fieldLink RX3 36 "WaxTurns$Reade\x72" "end" "I") (List.mem_cons_of_mem _ (List.mem_append_left _ (List.mem_of_getElem? (i := 2) rfl)))) (fun _ h9 => h9) rfl dX3_scanWhole_10 ?_
      have J81 : ∀ (H : Heap) (locs : List Loc) (ls : Array Slot), va_P (dC, dI) vwCl [(a0, .inr (3, [a0g_0, a0g_1, a0g_2, .ref a0_3, a0g_4, a0g_5, a0g_6, .int a0_7, .int a0_8, .int j5a0_9, .int a0_10, a0g_11, .int j5a0_12, a0g_13])), (a0_3, .inl (ka0_3, 900, .inl (fa0_3)))] H → va_D A [(a0, .inr (3, [a0g_0, a0g_1, a0g_2, .ref a0_3, a0g_4, a0g_5, a0g_6, .int a0_7, .int a0_8, .int j5a0_9, .int a0_10, a0g_11, .int j5a0_12, a0g_13])), (a0_3, .inl (ka0_3, 900, .inl (fa0_3)))] → va_S A s.heap H locs → lv_has ls 1 [(0, .ref a0)] → K H locs (F0 m 81 ls []) := by
        intro  H locs ls   hP hD hS hl
        refine (hK0 _ _ _).mpr ?_
        refine lv_aload_n hx hb dX3_scanWhole_81 rfl (lv_at hl 0 rfl) ?_
        refine lv_aload_n hx hb dX3_scanWhole_82 rfl (lv_at hl 0 rfl) ?_
        refine va_get (D := (dC, dI)) (ci := 3) (v := .int j5a0_9) (C := RX3) (T := TX3) (N := 14) hx hb hts zi_X3_scanWhole_3 hown hK hP 0 rfl rfl 9 (by decide) (hts (.fieldLink RX3 51 "WaxTurns$Reade\x72" "behind" "I") (List.mem_cons_of_mem _ (List.mem_append_left _ (List.mem_of_getElem? (i := 1) rfl)))) (fun _ h9 => h9) rfl dX3_scanWhole_83 ?_
        refine lv_aload_n hx hb dX3_scanWhole_86 rfl (lv_at hl 0 rfl) ?_
        refine va_get (D := (dC, dI)) (ci := 3) (v := .int a0_8) (C := RX3) (T := TX3) (N := 14) hx hb hts zi_X3_scanWhole_3 hown hK hP 0 rfl rfl 8 (by decide) (hts (.fieldLink RX3 72 "WaxTurns$Reade\x72" "start" "I") (List.mem_cons_of_mem _ (List.mem_append_left _ (List.mem_of_getElem? (i := 4) rfl)))) (fun _ h9 => h9) rfl dX3_scanWhole_87 ?_
        refine lv_isub hx hb dX3_scanWhole_90 ?_
        refine lv_topi (fun x90 ex90 => ?_)
        have qx90 : x90.toInt = j5a0_9.toInt - a0_8.toInt := ai_sub ex90 ⟨bj5a0_9_l, bj5a0_9_u⟩ ⟨ba0_8_l, ba0_8_u⟩ (by decide) (by decide)
        have bx90 : (-900 : Int) ≤ x90.toInt ∧ x90.toInt ≤ 900 := ⟨by rw [qx90]; exact Int.sub_le_sub bj5a0_9_l ba0_8_u, by rw [qx90]; exact Int.sub_le_sub bj5a0_9_u ba0_8_l⟩
        refine lv_iconst (v := 3) hx hb dX3_scanWhole_91 zk_iconst_3 ?_
        have J100 : ∀ (j100s0 : Int32) (H : Heap) (locs : List Loc) (ls : Array Slot), (2 : Int) ≤ j100s0.toInt → j100s0.toInt ≤ (4 : Int) → va_P (dC, dI) vwCl [(a0, .inr (3, [a0g_0, a0g_1, a0g_2, .ref a0_3, a0g_4, a0g_5, a0g_6, .int a0_7, .int a0_8, .int j5a0_9, .int a0_10, a0g_11, .int j5a0_12, a0g_13])), (a0_3, .inl (ka0_3, 900, .inl (fa0_3)))] H → va_D A [(a0, .inr (3, [a0g_0, a0g_1, a0g_2, .ref a0_3, a0g_4, a0g_5, a0g_6, .int a0_7, .int a0_8, .int j5a0_9, .int a0_10, a0g_11, .int j5a0_12, a0g_13])), (a0_3, .inl (ka0_3, 900, .inl (fa0_3)))] → va_S A s.heap H locs → lv_has ls 1 [] → K H locs (F0 m 100 ls [.int j100s0, .ref a0]) := by
          intro j100s0 H locs ls  bj100s0_l bj100s0_u hP hD hS hl
          refine (hK0 _ _ _).mpr ?_
          refine va_put (D := (dC, dI)) (ci := 3) (v := .int j100s0) (ty := .int) (C := RX3) (T := TX3) (N := 14) hx hb hts zi_X3_scanWhole_3 tyX3 tyX3_ok nmX3 hown hK hP hD hS 0 rfl rfl 10 (by decide) (hts (.fieldLink RX3 61 "WaxTurns$Reade\x72" "token" "I") (List.mem_cons_of_mem _ (List.mem_append_left _ (List.mem_of_getElem? (i := 5) rfl)))) (fun _ h9 => h9) rfl (tyX3_ok 10 (by decide)) rfl rfl (Nat.le_of_ble_eq_true rfl) dX3_scanWhole_100 (fun H locs hP hD hS => ?_)
          obtain ⟨hP, hD⟩ := zc_re (w := [(a0, .inr (3, [a0g_0, a0g_1, a0g_2, .ref a0_3, a0g_4, a0g_5, a0g_6, .int a0_7, .int a0_8, .int j5a0_9, .int j100s0, a0g_11, .int j5a0_12, a0g_13])), (a0_3, .inl (ka0_3, 900, .inl (fa0_3)))]) hP hD rfl
          exact W.vret hx hb hr (fun t ht hW => ⟨⟨(), rfl, trivial, j5a0_9, j100s0, j5a0_12, ⟨bj5a0_9_l, bj5a0_9_u⟩, ⟨Int.le_trans (by decide) bj100s0_l, bj100s0_u⟩, by rw [ht]; exact hP, va_K.moved hW.alike hK, hD⟩, hS.F ht⟩) hS.2.2 dX3_scanWhole_103
        refine lv_icmp_gt (tgt := 99) hx hb dX3_scanWhole_92 (by decide) (fun c92 => ?_) (fun c92 => ?_)
        · have gc92 := ai_lt c92
          have l92t_x90 : (4 : Int) ≤ x90.toInt := ai_ltlo gc92 zq8
          refine lv_iconst (v := 4) hx hb dX3_scanWhole_99 zk_iconst_4 ?_
          exact (hK0 _ _ _).mp (J100 4 _ _ _  (Int.le_trans zq140 zq68) zq67 hP hD hS (lv_sub hl [] rfl))
        · have gc92 := ai_nlt c92
          have u92f_x90 : x90.toInt ≤ (3 : Int) := Int.le_trans gc92 zq9
          refine lv_iconst (v := 2) hx hb dX3_scanWhole_95 zk_iconst_2 ?_
          refine lv_goto (tgt := 100) hx hb dX3_scanWhole_96 (by decide) ?_
          exact (hK0 _ _ _).mp (J100 2 _ _ _  zq12 (Int.le_trans zq13 zq140) hP hD hS (lv_sub hl [] rfl))
      refine lv_icmp_ge (tgt := 81) hx hb dX3_scanWhole_13 (by decide) (fun c13 => ?_) (fun c13 => ?_)
      · have gc13 := ai_le c13
        have u13t_a0_7 : a0_7.toInt ≤ (900 : Int) := ba0_7_u
        have l13t_j5a0_9 : (0 : Int) ≤ j5a0_9.toInt := bj5a0_9_l
        exact (hK0 _ _ _).mp (J81  _ _ _   hP hD hS (lv_sub hl [0] rfl))
      · have gc13 := ai_nle c13
        have u13f_j5a0_9 : j5a0_9.toInt ≤ (899 : Int) := ai_lthi gc13 ba0_7_u
        have l13f_a0_7 : (1 : Int) ≤ a0_7.toInt := ai_ltlo gc13 bj5a0_9_l
        refine lv_aload_n hx hb dX3_scanWhole_16 rfl (lv_at hl 0 rfl) ?_
        refine va_get (D := (dC, dI)) (ci := 3) (v := .ref a0_3) (C := RX3) (T := TX3) (N := 14) hx hb hts zi_X3_scanWhole_3 hown hK hP 0 rfl rfl 3 (by decide) (hts (.fieldLink RX3 9 "WaxTurns$Reade\x72" "tape" "[B") (List.mem_cons_of_mem _ (List.mem_append_left _ (List.mem_of_getElem? (i := 3) rfl)))) (fun _ h9 => h9) rfl dX3_scanWhole_17 ?_
        refine lv_aload_n hx hb dX3_scanWhole_20 rfl (lv_at hl 0 rfl) ?_
        refine va_get (D := (dC, dI)) (ci := 3) (v := .int j5a0_9) (C := RX3) (T := TX3) (N := 14) hx hb hts zi_X3_scanWhole_3 hown hK hP 0 rfl rfl 9 (by decide) (hts (.fieldLink RX3 51 "WaxTurns$Reade\x72" "behind" "I") (List.mem_cons_of_mem _ (List.mem_append_left _ (List.mem_of_getElem? (i := 1) rfl)))) (fun _ h9 => h9) rfl dX3_scanWhole_21 ?_
        refine va_bald hx hb hK hP 1 0 rfl rfl (ai_in bj5a0_9_l u13f_j5a0_9 (by decide) (by decide)) dX3_scanWhole_24 ?_
        refine lv_topi (fun x24 ex24 => ?_)
        refine lv_bipush (v := 48) hx hb dX3_scanWhole_25 zk_bipush_48 ?_
        refine lv_icmp_lt (tgt := 81) hx hb dX3_scanWhole_27 (by decide) (fun c27 => ?_) (fun c27 => ?_)
        · have gc27 := ai_lt c27
          have u27t_x24 : x24.toInt ≤ (47 : Int) := ai_lthi gc27 zq141
          exact (hK0 _ _ _).mp (J81  _ _ _   hP hD hS (lv_sub hl [0] rfl))
        · have gc27 := ai_nlt c27
          have l27f_x24 : (48 : Int) ≤ x24.toInt := Int.le_trans zq142 gc27
          refine lv_aload_n hx hb dX3_scanWhole_30 rfl (lv_at hl 0 rfl) ?_
          refine va_get (D := (dC, dI)) (ci := 3) (v := .ref a0_3) (C := RX3) (T := TX3) (N := 14) hx hb hts zi_X3_scanWhole_3 hown hK hP 0 rfl rfl 3 (by decide) (hts (.fieldLink RX3 9 "WaxTurns$Reade\x72" "tape" "[B") (List.mem_cons_of_mem _ (List.mem_append_left _ (List.mem_of_getElem? (i := 3) rfl)))) (fun _ h9 => h9) rfl dX3_scanWhole_31 ?_
          refine lv_aload_n hx hb dX3_scanWhole_34 rfl (lv_at hl 0 rfl) ?_
          refine va_get (D := (dC, dI)) (ci := 3) (v := .int j5a0_9) (C := RX3) (T := TX3) (N := 14) hx hb hts zi_X3_scanWhole_3 hown hK hP 0 rfl rfl 9 (by decide) (hts (.fieldLink RX3 51 "WaxTurns$Reade\x72" "behind" "I") (List.mem_cons_of_mem _ (List.mem_append_left _ (List.mem_of_getElem? (i := 1) rfl)))) (fun _ h9 => h9) rfl dX3_scanWhole_35 ?_
          refine va_bald hx hb hK hP 1 0 rfl rfl (ai_in bj5a0_9_l u13f_j5a0_9 (by decide) (by decide)) dX3_scanWhole_38 ?_
          refine ax_ti x24 ex24.symm ?_
          refine lv_bipush (v := 57) hx hb dX3_scanWhole_39 zk_bipush_57 ?_
          refine lv_icmp_gt (tgt := 81) hx hb dX3_scanWhole_41 (by decide) (fun c41 => ?_) (fun c41 => ?_)
          · have gc41 := ai_lt c41
            have l41t_x24 : (58 : Int) ≤ x24.toInt := ai_ltlo gc41 zq143
            exact (hK0 _ _ _).mp (J81  _ _ _   hP hD hS (lv_sub hl [0] rfl))
          · have gc41 := ai_nlt c41
            have u41f_x24 : x24.toInt ≤ (57 : Int) := Int.le_trans gc41 zq144
            refine lv_aload_n hx hb dX3_scanWhole_44 rfl (lv_at hl 0 rfl) ?_
            refine lv_bipush (v := 10) hx hb dX3_scanWhole_45 zk_bipush_10 ?_
            refine lv_aload_n hx hb dX3_scanWhole_47 rfl (lv_at hl 0 rfl) ?_
            refine va_get (D := (dC, dI)) (ci := 3) (v := .int j5a0_12) (C := RX3) (T := TX3) (N := 14) hx hb hts zi_X3_scanWhole_3 hown hK hP 0 rfl rfl 12 (by decide) (hts (.fieldLink RX3 85 "WaxTurns$Reade\x72" "whole" "I") (List.mem_cons_of_mem _ (List.mem_append_left _ (List.mem_of_getElem? (i := 0) rfl)))) (fun _ h9 => h9) rfl dX3_scanWhole_48 ?_
            refine lv_imul hx hb dX3_scanWhole_51 ?_
            refine lv_topi (fun x51 ex51 => ?_)
            refine lv_aload_n hx hb dX3_scanWhole_52 rfl (lv_at hl 0 rfl) ?_
            refine va_get (D := (dC, dI)) (ci := 3) (v := .ref a0_3) (C := RX3) (T := TX3) (N := 14) hx hb hts zi_X3_scanWhole_3 hown hK hP 0 rfl rfl 3 (by decide) (hts (.fieldLink RX3 9 "WaxTurns$Reade\x72" "tape" "[B") (List.mem_cons_of_mem _ (List.mem_append_left _ (List.mem_of_getElem? (i := 3) rfl)))) (fun _ h9 => h9) rfl dX3_scanWhole_53 ?_
            refine lv_aload_n hx hb dX3_scanWhole_56 rfl (lv_at hl 0 rfl) ?_
            refine va_get (D := (dC, dI)) (ci := 3) (v := .int j5a0_9) (C := RX3) (T := TX3) (N := 14) hx hb hts zi_X3_scanWhole_3 hown hK hP 0 rfl rfl 9 (by decide) (hts (.fieldLink RX3 51 "WaxTurns$Reade\x72" "behind" "I") (List.mem_cons_of_mem _ (List.mem_append_left _ (List.mem_of_getElem? (i := 1) rfl)))) (fun _ h9 => h9) rfl dX3_scanWhole_57 ?_
            refine va_bald hx hb hK hP 1 0 rfl rfl (ai_in bj5a0_9_l u13f_j5a0_9 (by decide) (by decide)) dX3_scanWhole_60 ?_
            refine ax_ti x24 ex24.symm ?_
            refine lv_iadd hx hb dX3_scanWhole_61 ?_
            refine lv_topi (fun x61 ex61 => ?_)
            refine lv_bipush (v := 48) hx hb dX3_scanWhole_62 zk_bipush_48 ?_
            refine lv_isub hx hb dX3_scanWhole_64 ?_
            refine lv_topi (fun x64 ex64 => ?_)
            refine va_put (D := (dC, dI)) (ci := 3) (v := .int x64) (ty := .int) (C := RX3) (T := TX3) (N := 14) hx hb hts zi_X3_scanWhole_3 tyX3 tyX3_ok nmX3 hown hK hP hD hS 0 rfl rfl 12 (by decide) (hts (.fieldLink RX3 85 "WaxTurns$Reade\x72" "whole" "I") (List.mem_cons_of_mem _ (List.mem_append_left _ (List.mem_of_getElem? (i := 0) rfl)))) (fun _ h9 => h9) rfl (tyX3_ok 12 (by decide)) rfl rfl (Nat.le_of_ble_eq_true rfl) dX3_scanWhole_65 (fun H locs hP hD hS => ?_)
            obtain ⟨hP, hD⟩ := zc_re (w := [(a0, .inr (3, [a0g_0, a0g_1, a0g_2, .ref a0_3, a0g_4, a0g_5, a0g_6, .int a0_7, .int a0_8, .int j5a0_9, .int a0_10, a0g_11, .int x64, a0g_13])), (a0_3, .inl (ka0_3, 900, .inl (fa0_3)))]) hP hD rfl
            refine lv_aload_n hx hb dX3_scanWhole_68 rfl (lv_at hl 0 rfl) ?_
            refine lv_dup hx hb dX3_scanWhole_69 rfl ?_
            refine va_get (D := (dC, dI)) (ci := 3) (v := .int j5a0_9) (C := RX3) (T := TX3) (N := 14) hx hb hts zi_X3_scanWhole_3 hown hK hP 0 rfl rfl 9 (by decide) (hts (.fieldLink RX3 51 "WaxTurns$Reade\x72" "behind" "I") (List.mem_cons_of_mem _ (List.mem_append_left _ (List.mem_of_getElem? (i := 1) rfl)))) (fun _ h9 => h9) rfl dX3_scanWhole_70 ?_
            refine lv_iconst (v := 1) hx hb dX3_scanWhole_73 zk_iconst_1 ?_
            refine lv_iadd hx hb dX3_scanWhole_74 ?_
            refine lv_topi (fun x74 ex74 => ?_)
            have qx74 : x74.toInt = j5a0_9.toInt + (1 : Int32).toInt := ai_add ex74 ⟨bj5a0_9_l, u13f_j5a0_9⟩ ⟨zq1, zq0⟩ (by decide) (by decide)
            have bx74 : (1 : Int) ≤ x74.toInt ∧ x74.toInt ≤ 900 := ⟨by rw [qx74]; exact Int.add_le_add bj5a0_9_l zq1, by rw [qx74]; exact Int.add_le_add u13f_j5a0_9 zq0⟩
            have wx74 : x74.toInt = j5a0_9.toInt + 1 := qx74
            refine va_put (D := (dC, dI)) (ci := 3) (v := .int x74) (ty := .int) (C := RX3) (T := TX3) (N := 14) hx hb hts zi_X3_scanWhole_3 tyX3 tyX3_ok nmX3 hown hK hP hD hS 0 rfl rfl 9 (by decide) (hts (.fieldLink RX3 51 "WaxTurns$Reade\x72" "behind" "I") (List.mem_cons_of_mem _ (List.mem_append_left _ (List.mem_of_getElem? (i := 1) rfl)))) (fun _ h9 => h9) rfl (tyX3_ok 9 (by decide)) rfl rfl (Nat.le_of_ble_eq_true rfl) dX3_scanWhole_75 (fun H locs hP hD hS => ?_)
            obtain ⟨hP, hD⟩ := zc_re (w := [(a0, .inr (3, [a0g_0, a0g_1, a0g_2, .ref a0_3, a0g_4, a0g_5, a0g_6, .int a0_7, .int a0_8, .int x74, .int a0_10, a0g_11, .int x64, a0g_13])), (a0_3, .inl (ka0_3, 900, .inl (fa0_3)))]) hP hD rfl
            refine lv_goto (tgt := 5) hx hb dX3_scanWhole_78 (by decide) ?_
            exact (hK0 _ _ _).mp (ih5 x74 x64 _ _ _ (by have h0 := qx74; omega) (Int.le_trans zq4 bx74.1) bx74.2 hP hD hS (lv_sub hl [0] rfl))
  exact (hK0 _ _ _).mp (J5 901 a0_9 0 _ _ _ (by have h1 : (0 : Int) ≤ a0_9.toInt := ba0_9_l; have h2 : a0_9.toInt ≤ (900 : Int) := ba0_9_u; omega) ba0_9_l ba0_9_u hP hD hS (lv_sub hl [0] rfl))

set_option maxHeartbeats 4000000 in
set_option maxRecDepth 100000 in
theorem c_X3_advance (l : Launch) (dC : Nat → ClassId) (dI : Nat → Nat → Nat) (sz : Nat) (a0 : Nat) (a0g_0 a0g_1 a0g_2 a0g_4 a0g_5 a0g_6 a0g_13 : Value) (a0_3 : Nat) (a0_7 : Int32) (a0_8 : Int32) (a0_9 : Int32) (a0_10 : Int32) (a0_11 : Int64) (a0_12 : Int32) (ka0_3 : ClassId) (fa0_3 : Nat → Int32) (ba0_7_l : (0 : Int) ≤ a0_7.toInt) (ba0_7_u : a0_7.toInt ≤ (900 : Int)) (ba0_8_l : (0 : Int) ≤ a0_8.toInt) (ba0_8_u : a0_8.toInt ≤ (900 : Int)) (ba0_9_l : (0 : Int) ≤ a0_9.toInt) (ba0_9_u : a0_9.toInt ≤ (900 : Int)) (ba0_10_l : (0 : Int) ≤ a0_10.toInt) (ba0_10_u : a0_10.toInt ≤ (4 : Int)) : Met l yX3_advance wsX3_advance ({ frames := 1, cells := 0, slots := 0, locals := 20 }) (va_Pc [.ref a0] (ax_C dC dI sz [(a0, .inr (3, [a0g_0, a0g_1, a0g_2, .ref a0_3, a0g_4, a0g_5, a0g_6, .int a0_7, .int a0_8, .int a0_9, .int a0_10, .long a0_11, .int a0_12, a0g_13])), (a0_3, .inl (ka0_3, 900, .inl (fa0_3)))] [(ka0_3, .byte)] (fun _ => True))) (va_Qv (fun (_ : Unit) => True) (fun (_ : Unit) (t : State) => ∃ na0_8 : Int32, ∃ na0_9 : Int32, ∃ na0_10 : Int32, ∃ na0_11 : Int64, ∃ na0_12 : Int32, ((0 : Int) ≤ na0_8.toInt ∧ na0_8.toInt ≤ 900) ∧ ((0 : Int) ≤ na0_9.toInt ∧ na0_9.toInt ≤ 900) ∧ ((0 : Int) ≤ na0_10.toInt ∧ na0_10.toInt ≤ 4) ∧ ax_B dC dI (va_A [(a0, .inr (3, [a0g_0, a0g_1, a0g_2, .ref a0_3, a0g_4, a0g_5, a0g_6, .int a0_7, .int a0_8, .int a0_9, .int a0_10, .long a0_11, .int a0_12, a0g_13])), (a0_3, .inl (ka0_3, 900, .inl (fa0_3)))] sz) [(a0, .inr (3, [a0g_0, a0g_1, a0g_2, .ref a0_3, a0g_4, a0g_5, a0g_6, .int a0_7, .int na0_8, .int na0_9, .int na0_10, .long na0_11, .int na0_12, a0g_13])), (a0_3, .inl (ka0_3, 900, .inl (fa0_3)))] [(ka0_3, .byte)] t) (va_A [(a0, .inr (3, [a0g_0, a0g_1, a0g_2, .ref a0_3, a0g_4, a0g_5, a0g_6, .int a0_7, .int a0_8, .int a0_9, .int a0_10, .long a0_11, .int a0_12, a0g_13])), (a0_3, .inl (ka0_3, 900, .inl (fa0_3)))] sz)) 0 0 (va_A [(a0, .inr (3, [a0g_0, a0g_1, a0g_2, .ref a0_3, a0g_4, a0g_5, a0g_6, .int a0_7, .int a0_8, .int a0_9, .int a0_10, .long a0_11, .int a0_12, a0g_13])), (a0_3, .inl (ka0_3, 900, .inl (fa0_3)))] sz) := by
  refine Met.ofW (cc := cX3_advance) (maxL := 1) (ret := none) (by decide) rfl ?_
  intro p e s m args below meth c s₁ B hml hv
  obtain ⟨rfl, hsz, hP, hK, hD0, hE⟩ := hv
  have hx := B.exec
  have hb := B.bytes
  have hr := B.returns
  have hts := atoms_spec (ws := wsX3_advance) B.pre
  have hown : s.vm.findClass RX3 = some m.cls := findClass_of_methodNamed B.named
  have hlocks := B.notSynchronized
  subst hsz
  have hD := hD0.self (sz := s.heap.size)
  generalize hAe : va_A [(a0, .inr (3, [a0g_0, a0g_1, a0g_2, .ref a0_3, a0g_4, a0g_5, a0g_6, .int a0_7, .int a0_8, .int a0_9, .int a0_10, .long a0_11, .int a0_12, a0g_13])), (a0_3, .inl (ka0_3, 900, .inl (fa0_3)))] s.heap.size = A at hD ⊢
  have hA : ∀ q : Nat, s.heap.size ≤ q → A q := fun q h => by rw [← hAe]; exact Or.inr h
  have hS : va_S A s.heap s.heap [] := va_S.rf
  have hP : va_P (dC, dI) vwCl [(a0, .inr (3, [a0g_0, a0g_1, a0g_2, .ref a0_3, a0g_4, a0g_5, a0g_6, .int a0_7, .int a0_8, .int a0_9, .int a0_10, .long a0_11, .int a0_12, a0g_13])), (a0_3, .inl (ka0_3, 900, .inl (fa0_3)))] s.heap := hP
  have hl := lv_entry ([.ref a0]) (n := 1) (Nat.le_of_ble_eq_true rfl)
  rw [lg_entry_eq]
  generalize (lg_sl ([.ref a0]) ++ List.replicate (1 - (lg_sl ([.ref a0])).length) Slot.unset).toArray = ls at hl ⊢
  have hl : lv_has ls 1 [(0, .ref a0)] := hl
  refine ai_open (fun K hK0 => ?_)
  refine (hK0 _ _ _).mpr ?_
  have J0 : ∀ (n : Nat) (j0a0_9 : Int32) (H : Heap) (locs : List Loc) (ls : Array Slot), (901 : Int) - j0a0_9.toInt ≤ (n : Int) → (0 : Int) ≤ j0a0_9.toInt → j0a0_9.toInt ≤ (900 : Int) → va_P (dC, dI) vwCl [(a0, .inr (3, [a0g_0, a0g_1, a0g_2, .ref a0_3, a0g_4, a0g_5, a0g_6, .int a0_7, .int a0_8, .int j0a0_9, .int a0_10, .long a0_11, .int a0_12, a0g_13])), (a0_3, .inl (ka0_3, 900, .inl (fa0_3)))] H → va_D A [(a0, .inr (3, [a0g_0, a0g_1, a0g_2, .ref a0_3, a0g_4, a0g_5, a0g_6, .int a0_7, .int a0_8, .int j0a0_9, .int a0_10, .long a0_11, .int a0_12, a0g_13])), (a0_3, .inl (ka0_3, 900, .inl (fa0_3)))] → va_S A s.heap H locs → lv_has ls 1 [(0, .ref a0)] → K H locs (F0 m 0 ls []) := by
    intro n
    induction n with
    | zero =>
      intro j0a0_9 H locs ls hm bj0a0_9_l bj0a0_9_u hP hD hS hl
      have h8 := ai_min j0a0_9
      have h9 := ai_max j0a0_9
      exact absurd hm (by omega)
    | succ n ih0 =>
      intro j0a0_9 H locs ls hm bj0a0_9_l bj0a0_9_u hP hD hS hl
      refine (hK0 _ _ _).mpr ?_
      have hm0 := hm
      refine lv_aload_n hx hb dX3_advance_0 rfl (lv_at hl 0 rfl) ?_
      refine va_get (D := (dC, dI)) (ci := 3) (v := .int j0a0_9) (C := RX3) (T := TX3) (N := 14) hx hb hts zi_X3_advance_3 hown hK hP 0 rfl rfl 9 (by decide) (hts (.fieldLink RX3 51 "WaxTurns$Reade\x72" "behind" "I") (List.mem_cons_of_mem _ (List.mem_append_left _ (List.mem_of_getElem? (i := 0) rfl)))) (fun _ h9 => h9) rfl dX3_advance_1 ?_
      refine lv_aload_n hx hb dX3_advance_4 rfl (lv_at hl 0 rfl) ?_
      refine va_get (D := (dC, dI)) (ci := 3) (v := .int a0_7) (C := RX3) (T := TX3) (N := 14) hx hb hts zi_X3_advance_3 hown hK hP 0 rfl rfl 7 (by decide) (hts (.fieldLink RX3 36 "WaxTurns$Reade\x72" "end" "I") (List.mem_cons_of_mem _ (List.mem_append_left _ (List.mem_of_getElem? (i := 1) rfl)))) (fun _ h9 => h9) rfl dX3_advance_5 ?_
      have J38 : ∀ (H : Heap) (locs : List Loc) (ls : Array Slot), va_P (dC, dI) vwCl [(a0, .inr (3, [a0g_0, a0g_1, a0g_2, .ref a0_3, a0g_4, a0g_5, a0g_6, .int a0_7, .int a0_8, .int j0a0_9, .int a0_10, .long a0_11, .int a0_12, a0g_13])), (a0_3, .inl (ka0_3, 900, .inl (fa0_3)))] H → va_D A [(a0, .inr (3, [a0g_0, a0g_1, a0g_2, .ref a0_3, a0g_4, a0g_5, a0g_6, .int a0_7, .int a0_8, .int j0a0_9, .int a0_10, .long a0_11, .int a0_12, a0g_13])), (a0_3, .inl (ka0_3, 900, .inl (fa0_3)))] → va_S A s.heap H locs → lv_has ls 1 [(0, .ref a0)] → K H locs (F0 m 38 ls []) := by
        intro  H locs ls   hP hD hS hl
        refine (hK0 _ _ _).mpr ?_
        refine lv_aload_n hx hb dX3_advance_38 rfl (lv_at hl 0 rfl) ?_
        refine lv_aload_n hx hb dX3_advance_39 rfl (lv_at hl 0 rfl) ?_
        refine va_get (D := (dC, dI)) (ci := 3) (v := .int j0a0_9) (C := RX3) (T := TX3) (N := 14) hx hb hts zi_X3_advance_3 hown hK hP 0 rfl rfl 9 (by decide) (hts (.fieldLink RX3 51 "WaxTurns$Reade\x72" "behind" "I") (List.mem_cons_of_mem _ (List.mem_append_left _ (List.mem_of_getElem? (i := 0) rfl)))) (fun _ h9 => h9) rfl dX3_advance_40 ?_
        refine va_put (D := (dC, dI)) (ci := 3) (v := .int j0a0_9) (ty := .int) (C := RX3) (T := TX3) (N := 14) hx hb hts zi_X3_advance_3 tyX3 tyX3_ok nmX3 hown hK hP hD hS 0 rfl rfl 8 (by decide) (hts (.fieldLink RX3 72 "WaxTurns$Reade\x72" "start" "I") (List.mem_cons_of_mem _ (List.mem_append_left _ (List.mem_of_getElem? (i := 3) rfl)))) (fun _ h9 => h9) rfl (tyX3_ok 8 (by decide)) rfl rfl (Nat.le_of_ble_eq_true rfl) dX3_advance_43 (fun H locs hP hD hS => ?_)
        obtain ⟨hP, hD⟩ := zc_re (w := [(a0, .inr (3, [a0g_0, a0g_1, a0g_2, .ref a0_3, a0g_4, a0g_5, a0g_6, .int a0_7, .int j0a0_9, .int j0a0_9, .int a0_10, .long a0_11, .int a0_12, a0g_13])), (a0_3, .inl (ka0_3, 900, .inl (fa0_3)))]) hP hD rfl
        refine lv_aload_n hx hb dX3_advance_46 rfl (lv_at hl 0 rfl) ?_
        refine va_get (D := (dC, dI)) (ci := 3) (v := .int j0a0_9) (C := RX3) (T := TX3) (N := 14) hx hb hts zi_X3_advance_3 hown hK hP 0 rfl rfl 8 (by decide) (hts (.fieldLink RX3 72 "WaxTurns$Reade\x72" "start" "I") (List.mem_cons_of_mem _ (List.mem_append_left _ (List.mem_of_getElem? (i := 3) rfl)))) (fun _ h9 => h9) rfl dX3_advance_47 ?_
        refine lv_aload_n hx hb dX3_advance_50 rfl (lv_at hl 0 rfl) ?_
        refine va_get (D := (dC, dI)) (ci := 3) (v := .int a0_7) (C := RX3) (T := TX3) (N := 14) hx hb hts zi_X3_advance_3 hown hK hP 0 rfl rfl 7 (by decide) (hts (.fieldLink RX3 36 "WaxTurns$Reade\x72" "end" "I") (List.mem_cons_of_mem _ (List.mem_append_left _ (List.mem_of_getElem? (i := 1) rfl)))) (fun _ h9 => h9) rfl dX3_advance_51 ?_
        refine lv_icmp_lt (tgt := 65) hx hb dX3_advance_54 (by decide) (fun c54 => ?_) (fun c54 => ?_)
        · have gc54 := ai_lt c54
          have u54t_j0a0_9 : j0a0_9.toInt ≤ (899 : Int) := ai_lthi gc54 ba0_7_u
          have l54t_a0_7 : (1 : Int) ≤ a0_7.toInt := ai_ltlo gc54 bj0a0_9_l
          refine lv_aload_n hx hb dX3_advance_65 rfl (lv_at hl 0 rfl) ?_
          refine va_get (D := (dC, dI)) (ci := 3) (v := .ref a0_3) (C := RX3) (T := TX3) (N := 14) hx hb hts zi_X3_advance_3 hown hK hP 0 rfl rfl 3 (by decide) (hts (.fieldLink RX3 9 "WaxTurns$Reade\x72" "tape" "[B") (List.mem_cons_of_mem _ (List.mem_append_left _ (List.mem_of_getElem? (i := 2) rfl)))) (fun _ h9 => h9) rfl dX3_advance_66 ?_
          refine lv_aload_n hx hb dX3_advance_69 rfl (lv_at hl 0 rfl) ?_
          refine va_get (D := (dC, dI)) (ci := 3) (v := .int j0a0_9) (C := RX3) (T := TX3) (N := 14) hx hb hts zi_X3_advance_3 hown hK hP 0 rfl rfl 8 (by decide) (hts (.fieldLink RX3 72 "WaxTurns$Reade\x72" "start" "I") (List.mem_cons_of_mem _ (List.mem_append_left _ (List.mem_of_getElem? (i := 3) rfl)))) (fun _ h9 => h9) rfl dX3_advance_70 ?_
          refine va_bald hx hb hK hP 1 0 rfl rfl (ai_in bj0a0_9_l u54t_j0a0_9 (by decide) (by decide)) dX3_advance_73 ?_
          refine lv_topi (fun x73 ex73 => ?_)
          refine lv_bipush (v := 59) hx hb dX3_advance_74 zk_bipush_59 ?_
          refine lv_icmp_ne (tgt := 97) hx hb dX3_advance_76 (by decide) (fun c76 => ?_) (fun c76 => ?_)
          · have gc76 := ai_ne c76
            refine lv_aload_n hx hb dX3_advance_97 rfl (lv_at hl 0 rfl) ?_
            refine va_get (D := (dC, dI)) (ci := 3) (v := .ref a0_3) (C := RX3) (T := TX3) (N := 14) hx hb hts zi_X3_advance_3 hown hK hP 0 rfl rfl 3 (by decide) (hts (.fieldLink RX3 9 "WaxTurns$Reade\x72" "tape" "[B") (List.mem_cons_of_mem _ (List.mem_append_left _ (List.mem_of_getElem? (i := 2) rfl)))) (fun _ h9 => h9) rfl dX3_advance_98 ?_
            refine lv_aload_n hx hb dX3_advance_101 rfl (lv_at hl 0 rfl) ?_
            refine va_get (D := (dC, dI)) (ci := 3) (v := .int j0a0_9) (C := RX3) (T := TX3) (N := 14) hx hb hts zi_X3_advance_3 hown hK hP 0 rfl rfl 8 (by decide) (hts (.fieldLink RX3 72 "WaxTurns$Reade\x72" "start" "I") (List.mem_cons_of_mem _ (List.mem_append_left _ (List.mem_of_getElem? (i := 3) rfl)))) (fun _ h9 => h9) rfl dX3_advance_102 ?_
            refine va_bald hx hb hK hP 1 0 rfl rfl (ai_in bj0a0_9_l u54t_j0a0_9 (by decide) (by decide)) dX3_advance_105 ?_
            refine ax_ti x73 ex73.symm ?_
            refine lv_bipush (v := 97) hx hb dX3_advance_106 zk_bipush_97 ?_
            have J132 : ∀ (H : Heap) (locs : List Loc) (ls : Array Slot), va_P (dC, dI) vwCl [(a0, .inr (3, [a0g_0, a0g_1, a0g_2, .ref a0_3, a0g_4, a0g_5, a0g_6, .int a0_7, .int j0a0_9, .int j0a0_9, .int a0_10, .long a0_11, .int a0_12, a0g_13])), (a0_3, .inl (ka0_3, 900, .inl (fa0_3)))] H → va_D A [(a0, .inr (3, [a0g_0, a0g_1, a0g_2, .ref a0_3, a0g_4, a0g_5, a0g_6, .int a0_7, .int j0a0_9, .int j0a0_9, .int a0_10, .long a0_11, .int a0_12, a0g_13])), (a0_3, .inl (ka0_3, 900, .inl (fa0_3)))] → va_S A s.heap H locs → lv_has ls 1 [(0, .ref a0)] → K H locs (F0 m 132 ls []) := by
              intro  H locs ls   hP hD hS hl
              refine (hK0 _ _ _).mpr ?_
              refine lv_aload_n hx hb dX3_advance_132 rfl (lv_at hl 0 rfl) ?_
              refine va_get (D := (dC, dI)) (ci := 3) (v := .ref a0_3) (C := RX3) (T := TX3) (N := 14) hx hb hts zi_X3_advance_3 hown hK hP 0 rfl rfl 3 (by decide) (hts (.fieldLink RX3 9 "WaxTurns$Reade\x72" "tape" "[B") (List.mem_cons_of_mem _ (List.mem_append_left _ (List.mem_of_getElem? (i := 2) rfl)))) (fun _ h9 => h9) rfl dX3_advance_133 ?_
              refine lv_aload_n hx hb dX3_advance_136 rfl (lv_at hl 0 rfl) ?_
              refine va_get (D := (dC, dI)) (ci := 3) (v := .int j0a0_9) (C := RX3) (T := TX3) (N := 14) hx hb hts zi_X3_advance_3 hown hK hP 0 rfl rfl 8 (by decide) (hts (.fieldLink RX3 72 "WaxTurns$Reade\x72" "start" "I") (List.mem_cons_of_mem _ (List.mem_append_left _ (List.mem_of_getElem? (i := 3) rfl)))) (fun _ h9 => h9) rfl dX3_advance_137 ?_
              refine va_bald hx hb hK hP 1 0 rfl rfl (ai_in bj0a0_9_l u54t_j0a0_9 (by decide) (by decide)) dX3_advance_140 ?_
              refine lv_topi (fun x140 ex140 => ?_)
              refine lv_bipush (v := 48) hx hb dX3_advance_141 zk_bipush_48 ?_
              have J167 : ∀ (H : Heap) (locs : List Loc) (ls : Array Slot), va_P (dC, dI) vwCl [(a0, .inr (3, [a0g_0, a0g_1, a0g_2, .ref a0_3, a0g_4, a0g_5, a0g_6, .int a0_7, .int j0a0_9, .int j0a0_9, .int a0_10, .long a0_11, .int a0_12, a0g_13])), (a0_3, .inl (ka0_3, 900, .inl (fa0_3)))] H → va_D A [(a0, .inr (3, [a0g_0, a0g_1, a0g_2, .ref a0_3, a0g_4, a0g_5, a0g_6, .int a0_7, .int j0a0_9, .int j0a0_9, .int a0_10, .long a0_11, .int a0_12, a0g_13])), (a0_3, .inl (ka0_3, 900, .inl (fa0_3)))] → va_S A s.heap H locs → lv_has ls 1 [(0, .ref a0)] → K H locs (F0 m 167 ls []) := by
                intro  H locs ls   hP hD hS hl
                refine (hK0 _ _ _).mpr ?_
                refine lv_aload_n hx hb dX3_advance_167 rfl (lv_at hl 0 rfl) ?_
                refine lv_iconst (v := 4) hx hb dX3_advance_168 zk_iconst_4 ?_
                refine va_put (D := (dC, dI)) (ci := 3) (v := .int 4) (ty := .int) (C := RX3) (T := TX3) (N := 14) hx hb hts zi_X3_advance_3 tyX3 tyX3_ok nmX3 hown hK hP hD hS 0 rfl rfl 10 (by decide) (hts (.fieldLink RX3 61 "WaxTurns$Reade\x72" "token" "I") (List.mem_cons_of_mem _ (List.mem_append_left _ (List.mem_of_getElem? (i := 4) rfl)))) (fun _ h9 => h9) rfl (tyX3_ok 10 (by decide)) rfl rfl (Nat.le_of_ble_eq_true rfl) dX3_advance_169 (fun H locs hP hD hS => ?_)
                obtain ⟨hP, hD⟩ := zc_re (w := [(a0, .inr (3, [a0g_0, a0g_1, a0g_2, .ref a0_3, a0g_4, a0g_5, a0g_6, .int a0_7, .int j0a0_9, .int j0a0_9, .int 4, .long a0_11, .int a0_12, a0g_13])), (a0_3, .inl (ka0_3, 900, .inl (fa0_3)))]) hP hD rfl
                exact W.vret hx hb hr (fun t ht hW => ⟨⟨(), rfl, trivial, j0a0_9, j0a0_9, 4, a0_11, a0_12, ⟨bj0a0_9_l, Int.le_trans u54t_j0a0_9 (by decide)⟩, ⟨bj0a0_9_l, Int.le_trans u54t_j0a0_9 (by decide)⟩, ⟨Int.le_trans (by decide) zq68, zq67⟩, by rw [ht]; exact hP, va_K.moved hW.alike hK, hD⟩, hS.F ht⟩) hS.2.2 dX3_advance_172
              refine lv_icmp_lt (tgt := 167) hx hb dX3_advance_143 (by decide) (fun c143 => ?_) (fun c143 => ?_)
              · have gc143 := ai_lt c143
                have u143t_x140 : x140.toInt ≤ (47 : Int) := ai_lthi gc143 zq141
                exact (hK0 _ _ _).mp (J167  _ _ _   hP hD hS (lv_sub hl [0] rfl))
              · have gc143 := ai_nlt c143
                have l143f_x140 : (48 : Int) ≤ x140.toInt := Int.le_trans zq142 gc143
                refine lv_aload_n hx hb dX3_advance_146 rfl (lv_at hl 0 rfl) ?_
                refine va_get (D := (dC, dI)) (ci := 3) (v := .ref a0_3) (C := RX3) (T := TX3) (N := 14) hx hb hts zi_X3_advance_3 hown hK hP 0 rfl rfl 3 (by decide) (hts (.fieldLink RX3 9 "WaxTurns$Reade\x72" "tape" "[B") (List.mem_cons_of_mem _ (List.mem_append_left _ (List.mem_of_getElem? (i := 2) rfl)))) (fun _ h9 => h9) rfl dX3_advance_147 ?_
                refine lv_aload_n hx hb dX3_advance_150 rfl (lv_at hl 0 rfl) ?_
                refine va_get (D := (dC, dI)) (ci := 3) (v := .int j0a0_9) (C := RX3) (T := TX3) (N := 14) hx hb hts zi_X3_advance_3 hown hK hP 0 rfl rfl 8 (by decide) (hts (.fieldLink RX3 72 "WaxTurns$Reade\x72" "start" "I") (List.mem_cons_of_mem _ (List.mem_append_left _ (List.mem_of_getElem? (i := 3) rfl)))) (fun _ h9 => h9) rfl dX3_advance_151 ?_
                refine va_bald hx hb hK hP 1 0 rfl rfl (ai_in bj0a0_9_l u54t_j0a0_9 (by decide) (by decide)) dX3_advance_154 ?_
                refine ax_ti x140 ex140.symm ?_
                refine lv_bipush (v := 57) hx hb dX3_advance_155 zk_bipush_57 ?_
                refine lv_icmp_gt (tgt := 167) hx hb dX3_advance_157 (by decide) (fun c157 => ?_) (fun c157 => ?_)
                · have gc157 := ai_lt c157
                  have l157t_x140 : (58 : Int) ≤ x140.toInt := ai_ltlo gc157 zq143
                  exact (hK0 _ _ _).mp (J167  _ _ _   hP hD hS (lv_sub hl [0] rfl))
                · have gc157 := ai_nlt c157
                  have u157f_x140 : x140.toInt ≤ (57 : Int) := Int.le_trans gc157 zq144
                  refine lv_aload_n hx hb dX3_advance_160 rfl (lv_at hl 0 rfl) ?_
                  obtain ⟨hPc, hDc, hFc, hCc⟩ := zc_cut (wc := [(a0, .inr (3, [a0g_0, a0g_1, a0g_2, .ref a0_3, a0g_4, a0g_5, a0g_6, .int a0_7, .int j0a0_9, .int j0a0_9, .int a0_10, .long a0_11, .int a0_12, a0g_13])), (a0_3, .inl (ka0_3, 900, .inl (fa0_3)))]) hP hD hS hA [0, 1] (by decide +kernel) rfl
                  have hKc := hK.sub (tys' := [(ka0_3, .byte)]) [0] rfl
                  refine va_callv (va_runV (As := []) (rest := []) ⟨hx, hb, hml, hown, hts⟩ (c_X3_scanWhole l dC dI H.size a0 a0g_0 a0g_1 a0g_2 a0g_4 a0g_5 a0g_6 (.long a0_11) a0g_13 a0_3 a0_7 j0a0_9 j0a0_9 a0_10 a0_12 ka0_3 fa0_3 (Int.le_trans zq4 l54t_a0_7) ba0_7_u bj0a0_9_l (Int.le_trans u54t_j0a0_9 zq145) bj0a0_9_l (Int.le_trans u54t_j0a0_9 zq145) ba0_10_l ba0_10_u) (cwV 0 hts gX3_advance_X3_scanWhole rfl rfl rfl zd_X3_scanWhole ⟨Nat.le_of_ble_eq_true rfl, Nat.le_of_ble_eq_true rfl⟩) ⟨ax_blind (fun _ _ _ _ _ => trivial), zr_3 hKc hPc (q0 := 0) rfl, ax_pre hPc hKc hDc (fun _ _ => trivial)⟩ rfl rfl hl.1 rfl (lv_room (Nat.le_of_ble_eq_true rfl)) dX3_advance_161 ⟨Nat.le_of_ble_eq_true rfl, Nat.le_of_ble_eq_true rfl⟩) hS (fun q _ h => hFc q h) hFc (fun u t H locs ht hvm hw hB hz1 hk1 hS => ?_)
                  obtain ⟨v161na0_9, v161na0_10, v161na0_12, bv161na0_9, bv161na0_10, hP1, hK1, hD1⟩ := hB
                  rw [ht] at hP1
                  obtain ⟨hP, hD⟩ := zc_back (w := [(a0, .inr (3, [a0g_0, a0g_1, a0g_2, .ref a0_3, a0g_4, a0g_5, a0g_6, .int a0_7, .int j0a0_9, .int v161na0_9, .int v161na0_10, .long a0_11, .int v161na0_12, a0g_13])), (a0_3, .inl (ka0_3, 900, .inl (fa0_3)))]) hP hD hCc hk1 hFc hP1 hD1 [.inr 0, .inr 1] (by decide +kernel) rfl
                  refine lv_goto (tgt := 172) hx hb dX3_advance_164 (by decide) ?_
                  exact W.vret hx hb hr (fun t ht hW => ⟨⟨(), rfl, trivial, j0a0_9, v161na0_9, v161na0_10, a0_11, v161na0_12, ⟨bj0a0_9_l, Int.le_trans u54t_j0a0_9 (by decide)⟩, ⟨bv161na0_9.1, bv161na0_9.2⟩, ⟨bv161na0_10.1, bv161na0_10.2⟩, by rw [ht]; exact hP, va_K.moved hW.alike hK, hD⟩, hS.F ht⟩) hS.2.2 dX3_advance_172
            refine lv_icmp_lt (tgt := 132) hx hb dX3_advance_108 (by decide) (fun c108 => ?_) (fun c108 => ?_)
            · have gc108 := ai_lt c108
              have u108t_x73 : x73.toInt ≤ (96 : Int) := ai_lthi gc108 zq136
              exact (hK0 _ _ _).mp (J132  _ _ _   hP hD hS (lv_sub hl [0] rfl))
            · have gc108 := ai_nlt c108
              have l108f_x73 : (97 : Int) ≤ x73.toInt := Int.le_trans zq137 gc108
              refine lv_aload_n hx hb dX3_advance_111 rfl (lv_at hl 0 rfl) ?_
              refine va_get (D := (dC, dI)) (ci := 3) (v := .ref a0_3) (C := RX3) (T := TX3) (N := 14) hx hb hts zi_X3_advance_3 hown hK hP 0 rfl rfl 3 (by decide) (hts (.fieldLink RX3 9 "WaxTurns$Reade\x72" "tape" "[B") (List.mem_cons_of_mem _ (List.mem_append_left _ (List.mem_of_getElem? (i := 2) rfl)))) (fun _ h9 => h9) rfl dX3_advance_112 ?_
              refine lv_aload_n hx hb dX3_advance_115 rfl (lv_at hl 0 rfl) ?_
              refine va_get (D := (dC, dI)) (ci := 3) (v := .int j0a0_9) (C := RX3) (T := TX3) (N := 14) hx hb hts zi_X3_advance_3 hown hK hP 0 rfl rfl 8 (by decide) (hts (.fieldLink RX3 72 "WaxTurns$Reade\x72" "start" "I") (List.mem_cons_of_mem _ (List.mem_append_left _ (List.mem_of_getElem? (i := 3) rfl)))) (fun _ h9 => h9) rfl dX3_advance_116 ?_
              refine va_bald hx hb hK hP 1 0 rfl rfl (ai_in bj0a0_9_l u54t_j0a0_9 (by decide) (by decide)) dX3_advance_119 ?_
              refine ax_ti x73 ex73.symm ?_
              refine lv_bipush (v := 122) hx hb dX3_advance_120 zk_bipush_122 ?_
              refine lv_icmp_gt (tgt := 132) hx hb dX3_advance_122 (by decide) (fun c122 => ?_) (fun c122 => ?_)
              · have gc122 := ai_lt c122
                have l122t_x73 : (123 : Int) ≤ x73.toInt := ai_ltlo gc122 zq138
                exact (hK0 _ _ _).mp (J132  _ _ _   hP hD hS (lv_sub hl [0] rfl))
              · have gc122 := ai_nlt c122
                have u122f_x73 : x73.toInt ≤ (122 : Int) := Int.le_trans gc122 zq139
                refine lv_aload_n hx hb dX3_advance_125 rfl (lv_at hl 0 rfl) ?_
                obtain ⟨hPc, hDc, hFc, hCc⟩ := zc_cut (wc := [(a0, .inr (3, [a0g_0, a0g_1, a0g_2, .ref a0_3, a0g_4, a0g_5, a0g_6, .int a0_7, .int j0a0_9, .int j0a0_9, .int a0_10, .long a0_11, .int a0_12, a0g_13])), (a0_3, .inl (ka0_3, 900, .inl (fa0_3)))]) hP hD hS hA [0, 1] (by decide +kernel) rfl
                have hKc := hK.sub (tys' := [(ka0_3, .byte)]) [0] rfl
                refine va_callv (va_runV (As := []) (rest := []) ⟨hx, hb, hml, hown, hts⟩ (c_X3_scanWord l dC dI H.size a0 a0g_0 a0g_1 a0g_2 a0g_4 a0g_5 a0g_6 (.int a0_12) a0g_13 a0_3 a0_7 j0a0_9 j0a0_9 a0_10 a0_11 ka0_3 fa0_3 (Int.le_trans zq4 l54t_a0_7) ba0_7_u bj0a0_9_l (Int.le_trans u54t_j0a0_9 zq145) bj0a0_9_l (Int.le_trans u54t_j0a0_9 zq145) ba0_10_l ba0_10_u) (cwV 0 hts gX3_advance_X3_scanWord rfl rfl rfl zd_X3_scanWord ⟨Nat.le_of_ble_eq_true rfl, Nat.le_of_ble_eq_true rfl⟩) ⟨ax_blind (fun _ _ _ _ _ => trivial), zr_3 hKc hPc (q0 := 0) rfl, ax_pre hPc hKc hDc (fun _ _ => trivial)⟩ rfl rfl hl.1 rfl (lv_room (Nat.le_of_ble_eq_true rfl)) dX3_advance_126 ⟨Nat.le_of_ble_eq_true rfl, Nat.le_of_ble_eq_true rfl⟩) hS (fun q _ h => hFc q h) hFc (fun u t H locs ht hvm hw hB hz1 hk1 hS => ?_)
                obtain ⟨v126na0_9, v126na0_10, v126na0_11, bv126na0_9, bv126na0_10, hP1, hK1, hD1⟩ := hB
                rw [ht] at hP1
                obtain ⟨hP, hD⟩ := zc_back (w := [(a0, .inr (3, [a0g_0, a0g_1, a0g_2, .ref a0_3, a0g_4, a0g_5, a0g_6, .int a0_7, .int j0a0_9, .int v126na0_9, .int v126na0_10, .long v126na0_11, .int a0_12, a0g_13])), (a0_3, .inl (ka0_3, 900, .inl (fa0_3)))]) hP hD hCc hk1 hFc hP1 hD1 [.inr 0, .inr 1] (by decide +kernel) rfl
                refine lv_goto (tgt := 172) hx hb dX3_advance_129 (by decide) ?_
                exact W.vret hx hb hr (fun t ht hW => ⟨⟨(), rfl, trivial, j0a0_9, v126na0_9, v126na0_10, v126na0_11, a0_12, ⟨bj0a0_9_l, Int.le_trans u54t_j0a0_9 (by decide)⟩, ⟨bv126na0_9.1, bv126na0_9.2⟩, ⟨bv126na0_10.1, bv126na0_10.2⟩, by rw [ht]; exact hP, va_K.moved hW.alike hK, hD⟩, hS.F ht⟩) hS.2.2 dX3_advance_172
          · have gc76 := ai_eq c76
            have u76f_x73 : x73.toInt ≤ (59 : Int) := Int.le_trans (Int.le_of_eq gc76) zq146
            have l76f_x73 : (59 : Int) ≤ x73.toInt := Int.le_trans zq147 (Int.le_of_eq gc76.symm)
            refine lv_aload_n hx hb dX3_advance_79 rfl (lv_at hl 0 rfl) ?_
            refine lv_iconst (v := 3) hx hb dX3_advance_80 zk_iconst_3 ?_
            refine va_put (D := (dC, dI)) (ci := 3) (v := .int 3) (ty := .int) (C := RX3) (T := TX3) (N := 14) hx hb hts zi_X3_advance_3 tyX3 tyX3_ok nmX3 hown hK hP hD hS 0 rfl rfl 10 (by decide) (hts (.fieldLink RX3 61 "WaxTurns$Reade\x72" "token" "I") (List.mem_cons_of_mem _ (List.mem_append_left _ (List.mem_of_getElem? (i := 4) rfl)))) (fun _ h9 => h9) rfl (tyX3_ok 10 (by decide)) rfl rfl (Nat.le_of_ble_eq_true rfl) dX3_advance_81 (fun H locs hP hD hS => ?_)
            obtain ⟨hP, hD⟩ := zc_re (w := [(a0, .inr (3, [a0g_0, a0g_1, a0g_2, .ref a0_3, a0g_4, a0g_5, a0g_6, .int a0_7, .int j0a0_9, .int j0a0_9, .int 3, .long a0_11, .int a0_12, a0g_13])), (a0_3, .inl (ka0_3, 900, .inl (fa0_3)))]) hP hD rfl
            refine lv_aload_n hx hb dX3_advance_84 rfl (lv_at hl 0 rfl) ?_
            refine lv_dup hx hb dX3_advance_85 rfl ?_
            refine va_get (D := (dC, dI)) (ci := 3) (v := .int j0a0_9) (C := RX3) (T := TX3) (N := 14) hx hb hts zi_X3_advance_3 hown hK hP 0 rfl rfl 9 (by decide) (hts (.fieldLink RX3 51 "WaxTurns$Reade\x72" "behind" "I") (List.mem_cons_of_mem _ (List.mem_append_left _ (List.mem_of_getElem? (i := 0) rfl)))) (fun _ h9 => h9) rfl dX3_advance_86 ?_
            refine lv_iconst (v := 1) hx hb dX3_advance_89 zk_iconst_1 ?_
            refine lv_iadd hx hb dX3_advance_90 ?_
            refine lv_topi (fun x90 ex90 => ?_)
            have qx90 : x90.toInt = j0a0_9.toInt + (1 : Int32).toInt := ai_add ex90 ⟨bj0a0_9_l, u54t_j0a0_9⟩ ⟨zq1, zq0⟩ (by decide) (by decide)
            have bx90 : (1 : Int) ≤ x90.toInt ∧ x90.toInt ≤ 900 := ⟨by rw [qx90]; exact Int.add_le_add bj0a0_9_l zq1, by rw [qx90]; exact Int.add_le_add u54t_j0a0_9 zq0⟩
            have wx90 : x90.toInt = j0a0_9.toInt + 1 := qx90
            refine va_put (D := (dC, dI)) (ci := 3) (v := .int x90) (ty := .int) (C := RX3) (T := TX3) (N := 14) hx hb hts zi_X3_advance_3 tyX3 tyX3_ok nmX3 hown hK hP hD hS 0 rfl rfl 9 (by decide) (hts (.fieldLink RX3 51 "WaxTurns$Reade\x72" "behind" "I") (List.mem_cons_of_mem _ (List.mem_append_left _ (List.mem_of_getElem? (i := 0) rfl)))) (fun _ h9 => h9) rfl (tyX3_ok 9 (by decide)) rfl rfl (Nat.le_of_ble_eq_true rfl) dX3_advance_91 (fun H locs hP hD hS => ?_)
            obtain ⟨hP, hD⟩ := zc_re (w := [(a0, .inr (3, [a0g_0, a0g_1, a0g_2, .ref a0_3, a0g_4, a0g_5, a0g_6, .int a0_7, .int j0a0_9, .int x90, .int 3, .long a0_11, .int a0_12, a0g_13])), (a0_3, .inl (ka0_3, 900, .inl (fa0_3)))]) hP hD rfl
            refine lv_goto (tgt := 172) hx hb dX3_advance_94 (by decide) ?_
            exact W.vret hx hb hr (fun t ht hW => ⟨⟨(), rfl, trivial, j0a0_9, x90, 3, a0_11, a0_12, ⟨bj0a0_9_l, Int.le_trans u54t_j0a0_9 (by decide)⟩, ⟨Int.le_trans (by decide) bx90.1, bx90.2⟩, ⟨Int.le_trans (by decide) zq8, Int.le_trans zq9 (by decide)⟩, by rw [ht]; exact hP, va_K.moved hW.alike hK, hD⟩, hS.F ht⟩) hS.2.2 dX3_advance_172
        · have gc54 := ai_nlt c54
          have u54f_a0_7 : a0_7.toInt ≤ (900 : Int) := ba0_7_u
          have l54f_j0a0_9 : (0 : Int) ≤ j0a0_9.toInt := bj0a0_9_l
          refine lv_aload_n hx hb dX3_advance_57 rfl (lv_at hl 0 rfl) ?_
          refine lv_iconst (v := 0) hx hb dX3_advance_58 zk_iconst_0 ?_
          refine va_put (D := (dC, dI)) (ci := 3) (v := .int 0) (ty := .int) (C := RX3) (T := TX3) (N := 14) hx hb hts zi_X3_advance_3 tyX3 tyX3_ok nmX3 hown hK hP hD hS 0 rfl rfl 10 (by decide) (hts (.fieldLink RX3 61 "WaxTurns$Reade\x72" "token" "I") (List.mem_cons_of_mem _ (List.mem_append_left _ (List.mem_of_getElem? (i := 4) rfl)))) (fun _ h9 => h9) rfl (tyX3_ok 10 (by decide)) rfl rfl (Nat.le_of_ble_eq_true rfl) dX3_advance_59 (fun H locs hP hD hS => ?_)
          obtain ⟨hP, hD⟩ := zc_re (w := [(a0, .inr (3, [a0g_0, a0g_1, a0g_2, .ref a0_3, a0g_4, a0g_5, a0g_6, .int a0_7, .int j0a0_9, .int j0a0_9, .int 0, .long a0_11, .int a0_12, a0g_13])), (a0_3, .inl (ka0_3, 900, .inl (fa0_3)))]) hP hD rfl
          refine lv_goto (tgt := 172) hx hb dX3_advance_62 (by decide) ?_
          exact W.vret hx hb hr (fun t ht hW => ⟨⟨(), rfl, trivial, j0a0_9, j0a0_9, 0, a0_11, a0_12, ⟨l54f_j0a0_9, bj0a0_9_u⟩, ⟨l54f_j0a0_9, bj0a0_9_u⟩, ⟨zq5, Int.le_trans zq6 (by decide)⟩, by rw [ht]; exact hP, va_K.moved hW.alike hK, hD⟩, hS.F ht⟩) hS.2.2 dX3_advance_172
      refine lv_icmp_ge (tgt := 38) hx hb dX3_advance_8 (by decide) (fun c8 => ?_) (fun c8 => ?_)
      · have gc8 := ai_le c8
        have u8t_a0_7 : a0_7.toInt ≤ (900 : Int) := ba0_7_u
        have l8t_j0a0_9 : (0 : Int) ≤ j0a0_9.toInt := bj0a0_9_l
        exact (hK0 _ _ _).mp (J38  _ _ _   hP hD hS (lv_sub hl [0] rfl))
      · have gc8 := ai_nle c8
        have u8f_j0a0_9 : j0a0_9.toInt ≤ (899 : Int) := ai_lthi gc8 ba0_7_u
        have l8f_a0_7 : (1 : Int) ≤ a0_7.toInt := ai_ltlo gc8 bj0a0_9_l
        refine lv_aload_n hx hb dX3_advance_11 rfl (lv_at hl 0 rfl) ?_
        refine va_get (D := (dC, dI)) (ci := 3) (v := .ref a0_3) (C := RX3) (T := TX3) (N := 14) hx hb hts zi_X3_advance_3 hown hK hP 0 rfl rfl 3 (by decide) (hts (.fieldLink RX3 9 "WaxTurns$Reade\x72" "tape" "[B") (List.mem_cons_of_mem _ (List.mem_append_left _ (List.mem_of_getElem? (i := 2) rfl)))) (fun _ h9 => h9) rfl dX3_advance_12 ?_
        refine lv_aload_n hx hb dX3_advance_15 rfl (lv_at hl 0 rfl) ?_
        refine va_get (D := (dC, dI)) (ci := 3) (v := .int j0a0_9) (C := RX3) (T := TX3) (N := 14) hx hb hts zi_X3_advance_3 hown hK hP 0 rfl rfl 9 (by decide) (hts (.fieldLink RX3 51 "WaxTurns$Reade\x72" "behind" "I") (List.mem_cons_of_mem _ (List.mem_append_left _ (List.mem_of_getElem? (i := 0) rfl)))) (fun _ h9 => h9) rfl dX3_advance_16 ?_
        refine va_bald hx hb hK hP 1 0 rfl rfl (ai_in bj0a0_9_l u8f_j0a0_9 (by decide) (by decide)) dX3_advance_19 ?_
        refine lv_topi (fun x19 ex19 => ?_)
        refine lv_bipush (v := 32) hx hb dX3_advance_20 zk_bipush_32 ?_
        refine lv_icmp_ne (tgt := 38) hx hb dX3_advance_22 (by decide) (fun c22 => ?_) (fun c22 => ?_)
        · have gc22 := ai_ne c22
          exact (hK0 _ _ _).mp (J38  _ _ _   hP hD hS (lv_sub hl [0] rfl))
        · have gc22 := ai_eq c22
          have u22f_x19 : x19.toInt ≤ (32 : Int) := Int.le_trans (Int.le_of_eq gc22) zq148
          have l22f_x19 : (32 : Int) ≤ x19.toInt := Int.le_trans zq149 (Int.le_of_eq gc22.symm)
          refine lv_aload_n hx hb dX3_advance_25 rfl (lv_at hl 0 rfl) ?_
          refine lv_dup hx hb dX3_advance_26 rfl ?_
          refine va_get (D := (dC, dI)) (ci := 3) (v := .int j0a0_9) (C := RX3) (T := TX3) (N := 14) hx hb hts zi_X3_advance_3 hown hK hP 0 rfl rfl 9 (by decide) (hts (.fieldLink RX3 51 "WaxTurns$Reade\x72" "behind" "I") (List.mem_cons_of_mem _ (List.mem_append_left _ (List.mem_of_getElem? (i := 0) rfl)))) (fun _ h9 => h9) rfl dX3_advance_27 ?_
          refine lv_iconst (v := 1) hx hb dX3_advance_30 zk_iconst_1 ?_
          refine lv_iadd hx hb dX3_advance_31 ?_
          refine lv_topi (fun x31 ex31 => ?_)
          have qx31 : x31.toInt = j0a0_9.toInt + (1 : Int32).toInt := ai_add ex31 ⟨bj0a0_9_l, u8f_j0a0_9⟩ ⟨zq1, zq0⟩ (by decide) (by decide)
          have bx31 : (1 : Int) ≤ x31.toInt ∧ x31.toInt ≤ 900 := ⟨by rw [qx31]; exact Int.add_le_add bj0a0_9_l zq1, by rw [qx31]; exact Int.add_le_add u8f_j0a0_9 zq0⟩
          have wx31 : x31.toInt = j0a0_9.toInt + 1 := qx31
          refine va_put (D := (dC, dI)) (ci := 3) (v := .int x31) (ty := .int) (C := RX3) (T := TX3) (N := 14) hx hb hts zi_X3_advance_3 tyX3 tyX3_ok nmX3 hown hK hP hD hS 0 rfl rfl 9 (by decide) (hts (.fieldLink RX3 51 "WaxTurns$Reade\x72" "behind" "I") (List.mem_cons_of_mem _ (List.mem_append_left _ (List.mem_of_getElem? (i := 0) rfl)))) (fun _ h9 => h9) rfl (tyX3_ok 9 (by decide)) rfl rfl (Nat.le_of_ble_eq_true rfl) dX3_advance_32 (fun H locs hP hD hS => ?_)
          obtain ⟨hP, hD⟩ := zc_re (w := [(a0, .inr (3, [a0g_0, a0g_1, a0g_2, .ref a0_3, a0g_4, a0g_5, a0g_6, .int a0_7, .int a0_8, .int x31, .int a0_10, .long a0_11, .int a0_12, a0g_13])), (a0_3, .inl (ka0_3, 900, .inl (fa0_3)))]) hP hD rfl
          refine lv_goto (tgt := 0) hx hb dX3_advance_35 (by decide) ?_
          exact (hK0 _ _ _).mp (ih0 x31 _ _ _ (by have h0 := qx31; omega) (Int.le_trans zq4 bx31.1) bx31.2 hP hD hS (lv_sub hl [0] rfl))
  exact (hK0 _ _ _).mp (J0 901 a0_9 _ _ _ (by have h1 : (0 : Int) ≤ a0_9.toInt := ba0_9_l; have h2 : a0_9.toInt ≤ (900 : Int) := ba0_9_u; omega) ba0_9_l ba0_9_u hP hD hS (lv_sub hl [0] rfl))
