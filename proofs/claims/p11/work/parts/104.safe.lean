set_option maxHeartbeats 4000000 in
set_option maxRecDepth 100000 in
theorem c_X4_aim (l : Launch) (dC : Nat → ClassId) (dI : Nat → Nat → Nat) (sz : Nat) (a0 : Nat) (a1 : Int32) (a2 : Int32) (a0g_0 a0g_2 : Value) (a0_1 : Nat) (ka0_1 : ClassId) (fa0_1 : Nat → Int32)  : Met l yX4_aim wsX4_aim ({ frames := 1, cells := 0, slots := 0, locals := 22 }) (va_Pc [.ref a0, .int a1, .int a2] (ax_C dC dI sz [(a0, .inr (4, [a0g_0, .ref a0_1, a0g_2])), (a0_1, .inl (ka0_1, 61, .inl (fa0_1)))] [(ka0_1, .int)] (fun U => va_Nw (.methodLinkNest RX4 18 yX7_within RX7) U))) (va_Qv (fun (_ : Unit) => True) (fun (_ : Unit) (t : State) => ∃ nfa0_1 : Nat → Int32, ax_B dC dI (va_A [(a0, .inr (4, [a0g_0, .ref a0_1, a0g_2])), (a0_1, .inl (ka0_1, 61, .inl (fa0_1)))] sz) [(a0, .inr (4, [a0g_0, .ref a0_1, a0g_2])), (a0_1, .inl (ka0_1, 61, .inl (nfa0_1)))] [(ka0_1, .int)] t) (va_A [(a0, .inr (4, [a0g_0, .ref a0_1, a0g_2])), (a0_1, .inl (ka0_1, 61, .inl (fa0_1)))] sz)) 0 0 (va_A [(a0, .inr (4, [a0g_0, .ref a0_1, a0g_2])), (a0_1, .inl (ka0_1, 61, .inl (fa0_1)))] sz) := by
  refine Met.ofW (cc := cX4_aim) (maxL := 3) (ret := none) (by decide) rfl ?_
  intro p e s m args below meth c s₁ B hml hv
  obtain ⟨rfl, hsz, hP, hK, hD0, hE⟩ := hv
  have hx := B.exec
  have hb := B.bytes
  have hr := B.returns
  have hts := atoms_spec (ws := wsX4_aim) B.pre
  have hown : s.vm.findClass RX4 = some m.cls := findClass_of_methodNamed B.named
  have hlocks := B.notSynchronized
  subst hsz
  have hD := hD0.self (sz := s.heap.size)
  generalize hAe : va_A [(a0, .inr (4, [a0g_0, .ref a0_1, a0g_2])), (a0_1, .inl (ka0_1, 61, .inl (fa0_1)))] s.heap.size = A at hD ⊢
  have hA : ∀ q : Nat, s.heap.size ≤ q → A q := fun q h => by rw [← hAe]; exact Or.inr h
  have hS : va_S A s.heap s.heap [] := va_S.rf
  have hP : va_P (dC, dI) vwCl [(a0, .inr (4, [a0g_0, .ref a0_1, a0g_2])), (a0_1, .inl (ka0_1, 61, .inl (fa0_1)))] s.heap := hP
  have hE0 := hE
  have hl := lv_entry ([.ref a0, .int a1, .int a2]) (n := 3) (Nat.le_of_ble_eq_true rfl)
  rw [lg_entry_eq]
  generalize (lg_sl ([.ref a0, .int a1, .int a2]) ++ List.replicate (3 - (lg_sl ([.ref a0, .int a1, .int a2])).length) Slot.unset).toArray = ls at hl ⊢
  have hl : lv_has ls 3 [(0, .ref a0), (1, .int a1), (2, .int a2)] := hl
  refine lv_iload_n hx hb dX4_aim_0 rfl (lv_at hl 1 rfl) ?_
  refine lv_iconst (v := 1) hx hb dX4_aim_1 zk_iconst_1 ?_
  refine lv_bipush (v := 60) hx hb dX4_aim_2 zk_bipush_60 ?_
  obtain ⟨hPc, hDc, hFc, hCc⟩ := zc_cut (wc := []) hP hD hS hA [] (by decide +kernel) rfl
  have hKc := hK.sub (tys' := []) [] rfl
  refine va_calli (va_runSN (As := [.int a1, .int 1, .int 60]) (rest := []) ⟨hx, hb, hml, hown, hts⟩ (c_X7_within l dC dI s.heap.size a1 1 60 ) ⟨va_cnB 3 hts gX4_aim_X7_within_n18 rfl rfl rfl hE0 (hts (.initialized RX7) (List.mem_cons_of_mem _ (List.mem_append_left _ (List.mem_of_getElem? (i := 2) rfl)))) zd_X7_within.2 ⟨Nat.le_of_ble_eq_true rfl, Nat.le_of_ble_eq_true rfl⟩, (hts (.static yX7_within) (List.mem_cons_of_mem _ (List.mem_append_left _ (List.mem_of_getElem? (i := 1) rfl)))), trivial⟩ ⟨ax_blind (fun _ _ _ _ _ => trivial), ax_pre hPc hKc hDc (fun _ _ => trivial)⟩ rfl rfl hl.1 rfl (lv_room (Nat.le_of_ble_eq_true rfl)) dX4_aim_4 ⟨Nat.le_of_ble_eq_true rfl, Nat.le_of_ble_eq_true rfl⟩) hS (fun q _ h => hFc q h) hFc (fun r4 u t H locs ht hvm hw hB hz1 hk1 hS => ?_)
  obtain ⟨hP1, hK1, hD1⟩ := hB
  rw [ht] at hP1
  obtain ⟨hP, hD⟩ := zc_back (w := [(a0, .inr (4, [a0g_0, .ref a0_1, a0g_2])), (a0_1, .inl (ka0_1, 61, .inl (fa0_1)))]) hP hD hCc hk1 hFc hP1 hD1 [.inl 0, .inl 1] (by decide +kernel) rfl
  rcases hw with hw | hw
  · obtain ⟨hw, h4⟩ := hw
    subst hw
    have l4k0_a1 : (1 : Int) ≤ a1.toInt := Int.le_trans zq1 h4.1
    have u4k0_a1 : a1.toInt ≤ (60 : Int) := Int.le_trans h4.2 zq46
    refine lv_if_eq (tgt := 17) hx hb dX4_aim_7 (by decide) (fun c7 => absurd c7 (by decide +kernel)) (fun _ => ?_)
    refine lv_aload_n hx hb dX4_aim_10 rfl (lv_at hl 0 rfl) ?_
    refine va_get (D := (dC, dI)) (ci := 4) (v := .ref a0_1) (C := RX4) (T := TX4) (N := 3) hx hb hts zi_X4_aim_4 hown hK hP 0 rfl rfl 1 (by decide) (hts (.fieldLink RX4 9 "WaxTurns$Routes" "aims" "[I") (List.mem_cons_of_mem _ (List.mem_append_left _ (List.mem_of_getElem? (i := 0) rfl)))) (fun _ h9 => h9) rfl dX4_aim_11 ?_
    refine lv_iload_n hx hb dX4_aim_14 rfl (lv_at hl 1 rfl) ?_
    refine lv_iload_n hx hb dX4_aim_15 rfl (lv_at hl 2 rfl) ?_
    refine va_iast hx hb hK hP hD hS 1 0 rfl rfl (ai_in l4k0_a1 u4k0_a1 (by decide) (by decide)) dX4_aim_16 (fun H locs hP hD hS => ?_)
    obtain ⟨f16, hP, hD⟩ : ∃ f16 : Nat → Int32, va_P (dC, dI) vwCl [(a0, .inr (4, [a0g_0, .ref a0_1, a0g_2])), (a0_1, .inl (ka0_1, 61, .inl (f16)))] H ∧ va_D A [(a0, .inr (4, [a0g_0, .ref a0_1, a0g_2])), (a0_1, .inl (ka0_1, 61, .inl (f16)))] := ⟨_, hP, hD⟩
    exact W.vret hx hb hr (fun t ht hW => ⟨⟨(), rfl, trivial, f16, by rw [ht]; exact hP, va_K.moved hW.alike hK, hD⟩, hS.F ht⟩) hS.2.2 dX4_aim_17
  · obtain ⟨hw, h4⟩ := hw
    subst hw
    refine lv_if_eq (tgt := 17) hx hb dX4_aim_7 (by decide) (fun _ => ?_) (fun c7 => absurd (by decide +kernel) c7)
    exact W.vret hx hb hr (fun t ht hW => ⟨⟨(), rfl, trivial, fa0_1, by rw [ht]; exact hP, va_K.moved hW.alike hK, hD⟩, hS.F ht⟩) hS.2.2 dX4_aim_17

set_option maxHeartbeats 4000000 in
set_option maxRecDepth 100000 in
theorem c_X4_worth (l : Launch) (dC : Nat → ClassId) (dI : Nat → Nat → Nat) (sz : Nat) (a0 : Nat) (a1 : Int32) (a2 : Int32) (a0g_0 : Value) (a0_1 : Nat) (a0_2 : Nat) (ka0_2 : ClassId) (fa0_2 : Nat → Int32) (ka0_1 : ClassId) (fa0_1 : Nat → Int32) (ba1_l : (0 : Int) ≤ a1.toInt) (ba1_u : a1.toInt ≤ (60 : Int)) (ba2_l : (0 : Int) ≤ a2.toInt) (ba2_u : a2.toInt ≤ (8 : Int)) : Met l yX4_worth wsX4_worth ({ frames := 0, cells := 0, slots := 0, locals := 0 }) (va_Pc [.ref a0, .int a1, .int a2] (ax_C dC dI sz [(a0, .inr (4, [a0g_0, .ref a0_1, .ref a0_2])), (a0_2, .inl (ka0_2, 549, .inl (fa0_2))), (a0_1, .inl (ka0_1, 61, .inl (fa0_1)))] [(ka0_2, .int), (ka0_1, .int)] (fun _ => True))) (va_Qi (fun (r : Int32) (_ : Unit) => True) (fun (_ : Unit) (t : State) => ax_B dC dI (va_A [(a0, .inr (4, [a0g_0, .ref a0_1, .ref a0_2])), (a0_2, .inl (ka0_2, 549, .inl (fa0_2))), (a0_1, .inl (ka0_1, 61, .inl (fa0_1)))] sz) [(a0, .inr (4, [a0g_0, .ref a0_1, .ref a0_2])), (a0_2, .inl (ka0_2, 549, .inl (fa0_2))), (a0_1, .inl (ka0_1, 61, .inl (fa0_1)))] [(ka0_2, .int), (ka0_1, .int)] t) (va_A [(a0, .inr (4, [a0g_0, .ref a0_1, .ref a0_2])), (a0_2, .inl (ka0_2, 549, .inl (fa0_2))), (a0_1, .inl (ka0_1, 61, .inl (fa0_1)))] sz)) 0 0 (va_A [(a0, .inr (4, [a0g_0, .ref a0_1, .ref a0_2])), (a0_2, .inl (ka0_2, 549, .inl (fa0_2))), (a0_1, .inl (ka0_1, 61, .inl (fa0_1)))] sz) := by
  refine Met.ofW (cc := cX4_worth) (maxL := 3) (ret := (some .int)) (by decide) rfl ?_
  intro p e s m args below meth c s₁ B hml hv
  obtain ⟨rfl, hsz, hP, hK, hD0, hE⟩ := hv
  have hx := B.exec
  have hb := B.bytes
  have hr := B.returns
  have hts := atoms_spec (ws := wsX4_worth) B.pre
  have hown : s.vm.findClass RX4 = some m.cls := findClass_of_methodNamed B.named
  have hlocks := B.notSynchronized
  subst hsz
  have hD := hD0.self (sz := s.heap.size)
  generalize hAe : va_A [(a0, .inr (4, [a0g_0, .ref a0_1, .ref a0_2])), (a0_2, .inl (ka0_2, 549, .inl (fa0_2))), (a0_1, .inl (ka0_1, 61, .inl (fa0_1)))] s.heap.size = A at hD ⊢
  have hA : ∀ q : Nat, s.heap.size ≤ q → A q := fun q h => by rw [← hAe]; exact Or.inr h
  have hS : va_S A s.heap s.heap [] := va_S.rf
  have hP : va_P (dC, dI) vwCl [(a0, .inr (4, [a0g_0, .ref a0_1, .ref a0_2])), (a0_2, .inl (ka0_2, 549, .inl (fa0_2))), (a0_1, .inl (ka0_1, 61, .inl (fa0_1)))] s.heap := hP
  have hl := lv_entry ([.ref a0, .int a1, .int a2]) (n := 3) (Nat.le_of_ble_eq_true rfl)
  rw [lg_entry_eq]
  generalize (lg_sl ([.ref a0, .int a1, .int a2]) ++ List.replicate (3 - (lg_sl ([.ref a0, .int a1, .int a2])).length) Slot.unset).toArray = ls at hl ⊢
  have hl : lv_has ls 3 [(0, .ref a0), (1, .int a1), (2, .int a2)] := hl
  refine lv_aload_n hx hb dX4_worth_0 rfl (lv_at hl 0 rfl) ?_
  refine va_get (D := (dC, dI)) (ci := 4) (v := .ref a0_2) (C := RX4) (T := TX4) (N := 3) hx hb hts zi_X4_worth_4 hown hK hP 0 rfl rfl 2 (by decide) (hts (.fieldLink RX4 15 "WaxTurns$Routes" "bestBehind" "[I") (List.mem_cons_of_mem _ (List.mem_append_left _ (List.mem_of_getElem? (i := 0) rfl)))) (fun _ h9 => h9) rfl dX4_worth_1 ?_
  refine lv_iload_n hx hb dX4_worth_4 rfl (lv_at hl 1 rfl) ?_
  refine lv_bipush (v := 9) hx hb dX4_worth_5 zk_bipush_9 ?_
  refine lv_imul hx hb dX4_worth_7 ?_
  refine lv_topi (fun x7 ex7 => ?_)
  have qx7 : x7.toInt = a1.toInt * (9 : Int32).toInt ∧ (0 : Int) ≤ x7.toInt ∧ x7.toInt ≤ 540 := ai_mul ex7 ⟨ba1_l, ba1_u⟩ ⟨zq2, zq3⟩ (by decide) (by decide) zq47
  have wx7 : x7.toInt = a1.toInt * 9 := qx7.1
  refine lv_iload_n hx hb dX4_worth_8 rfl (lv_at hl 2 rfl) ?_
  refine lv_iadd hx hb dX4_worth_9 ?_
  refine lv_topi (fun x9 ex9 => ?_)
  have qx9 : x9.toInt = x7.toInt + a2.toInt := ai_add ex9 ⟨qx7.2.1, qx7.2.2⟩ ⟨ba2_l, ba2_u⟩ (by decide) (by decide)
  have bx9 : (0 : Int) ≤ x9.toInt ∧ x9.toInt ≤ 548 := ⟨by rw [qx9]; exact Int.add_le_add qx7.2.1 ba2_l, by rw [qx9]; exact Int.add_le_add qx7.2.2 ba2_u⟩
  refine va_iald hx hb hK hP 1 0 rfl rfl (ai_in bx9.1 bx9.2 (by decide) (by decide)) dX4_worth_10 ?_
  refine lv_topi (fun x10 ex10 => ?_)
  refine lv_aload_n hx hb dX4_worth_11 rfl (lv_at hl 0 rfl) ?_
  refine va_get (D := (dC, dI)) (ci := 4) (v := .ref a0_1) (C := RX4) (T := TX4) (N := 3) hx hb hts zi_X4_worth_4 hown hK hP 0 rfl rfl 1 (by decide) (hts (.fieldLink RX4 9 "WaxTurns$Routes" "aims" "[I") (List.mem_cons_of_mem _ (List.mem_append_left _ (List.mem_of_getElem? (i := 1) rfl)))) (fun _ h9 => h9) rfl dX4_worth_12 ?_
  refine lv_iload_n hx hb dX4_worth_15 rfl (lv_at hl 1 rfl) ?_
  refine va_iald hx hb hK hP 2 1 rfl rfl (ai_in ba1_l ba1_u (by decide) (by decide)) dX4_worth_16 ?_
  refine lv_topi (fun x16 ex16 => ?_)
  refine lv_iload_n hx hb dX4_worth_17 rfl (lv_at hl 2 rfl) ?_
  refine lv_icmp_ne (tgt := 25) hx hb dX4_worth_18 (by decide) (fun c18 => ?_) (fun c18 => ?_)
  · have gc18 := ai_ne c18
    refine lv_iconst (v := 0) hx hb dX4_worth_25 zk_iconst_0 ?_
    refine lv_iadd hx hb dX4_worth_26 ?_
    refine lv_topi (fun x26 ex26 => ?_)
    have qx26 : x26.toInt = x10.toInt + (0 : Int32).toInt := ai_add ex26 ⟨(ai_min x10), (ai_max x10)⟩ ⟨zq5, zq6⟩ (by decide) (by decide)
    have bx26 : (-2147483648 : Int) ≤ x26.toInt ∧ x26.toInt ≤ 2147483647 := ⟨by rw [qx26]; exact Int.add_le_add (ai_min x10) zq5, by rw [qx26]; exact Int.add_le_add (ai_max x10) zq6⟩
    have wx26 : x26.toInt = x10.toInt + 0 := qx26
    exact W.iret (v := x26) hx hb hr (fun t ht hW => ⟨⟨x26, (), rfl, trivial, by rw [ht]; exact hP, va_K.moved hW.alike hK, hD⟩, hS.F ht⟩) hS.2.2 dX4_worth_27
  · have gc18 := ai_eq c18
    have u18f_x16 : x16.toInt ≤ (8 : Int) := Int.le_trans (Int.le_of_eq gc18) ba2_u
    have l18f_x16 : (0 : Int) ≤ x16.toInt := Int.le_trans ba2_l (Int.le_of_eq gc18.symm)
    refine lv_iconst (v := 1) hx hb dX4_worth_21 zk_iconst_1 ?_
    refine lv_goto (tgt := 26) hx hb dX4_worth_22 (by decide) ?_
    refine lv_iadd hx hb dX4_worth_26 ?_
    refine lv_topi (fun x26 ex26 => ?_)
    exact W.iret (v := x26) hx hb hr (fun t ht hW => ⟨⟨x26, (), rfl, trivial, by rw [ht]; exact hP, va_K.moved hW.alike hK, hD⟩, hS.F ht⟩) hS.2.2 dX4_worth_27

set_option maxHeartbeats 4000000 in
set_option maxRecDepth 100000 in
theorem c_X4_step (l : Launch) (dC : Nat → ClassId) (dI : Nat → Nat → Nat) (sz : Nat) (a0 : Nat) (a1 : Int32) (a2 : Int32) (a0_0 : Int32) (a0_1 : Nat) (a0_2 : Nat) (ka0_2 : ClassId) (fa0_2 : Nat → Int32) (ka0_1 : ClassId) (fa0_1 : Nat → Int32) (ba1_l : (0 : Int) ≤ a1.toInt) (ba1_u : a1.toInt ≤ (60 : Int)) (ba2_l : (0 : Int) ≤ a2.toInt) (ba2_u : a2.toInt ≤ (8 : Int)) (ba0_0_l : (0 : Int) ≤ a0_0.toInt) (ba0_0_u : a0_0.toInt ≤ (9 : Int)) : Met l yX4_step wsX4_step ({ frames := 1, cells := 0, slots := 0, locals := 22 }) (va_Pc [.ref a0, .int a1, .int a2] (ax_C dC dI sz [(a0, .inr (4, [.int a0_0, .ref a0_1, .ref a0_2])), (a0_2, .inl (ka0_2, 549, .inl (fa0_2))), (a0_1, .inl (ka0_1, 61, .inl (fa0_1)))] [(ka0_2, .int), (ka0_1, .int)] (fun _ => True))) (va_Qi (fun (r : Int32) (_ : Unit) => (0 : Int) ≤ r.toInt ∧ r.toInt ≤ (8 : Int)) (fun (_ : Unit) (t : State) => ax_B dC dI (va_A [(a0, .inr (4, [.int a0_0, .ref a0_1, .ref a0_2])), (a0_2, .inl (ka0_2, 549, .inl (fa0_2))), (a0_1, .inl (ka0_1, 61, .inl (fa0_1)))] sz) [(a0, .inr (4, [.int a0_0, .ref a0_1, .ref a0_2])), (a0_2, .inl (ka0_2, 549, .inl (fa0_2))), (a0_1, .inl (ka0_1, 61, .inl (fa0_1)))] [(ka0_2, .int), (ka0_1, .int)] t) (va_A [(a0, .inr (4, [.int a0_0, .ref a0_1, .ref a0_2])), (a0_2, .inl (ka0_2, 549, .inl (fa0_2))), (a0_1, .inl (ka0_1, 61, .inl (fa0_1)))] sz)) 0 0 (va_A [(a0, .inr (4, [.int a0_0, .ref a0_1, .ref a0_2])), (a0_2, .inl (ka0_2, 549, .inl (fa0_2))), (a0_1, .inl (ka0_1, 61, .inl (fa0_1)))] sz) := by
  refine Met.ofW (cc := cX4_step) (maxL := 4) (ret := (some .int)) (by decide) rfl ?_
  intro p e s m args below meth c s₁ B hml hv
  obtain ⟨rfl, hsz, hP, hK, hD0, hE⟩ := hv
  have hx := B.exec
  have hb := B.bytes
  have hr := B.returns
  have hts := atoms_spec (ws := wsX4_step) B.pre
  have hown : s.vm.findClass RX4 = some m.cls := findClass_of_methodNamed B.named
  have hlocks := B.notSynchronized
  subst hsz
  have hD := hD0.self (sz := s.heap.size)
  generalize hAe : va_A [(a0, .inr (4, [.int a0_0, .ref a0_1, .ref a0_2])), (a0_2, .inl (ka0_2, 549, .inl (fa0_2))), (a0_1, .inl (ka0_1, 61, .inl (fa0_1)))] s.heap.size = A at hD ⊢
  have hA : ∀ q : Nat, s.heap.size ≤ q → A q := fun q h => by rw [← hAe]; exact Or.inr h
  have hS : va_S A s.heap s.heap [] := va_S.rf
  have hP : va_P (dC, dI) vwCl [(a0, .inr (4, [.int a0_0, .ref a0_1, .ref a0_2])), (a0_2, .inl (ka0_2, 549, .inl (fa0_2))), (a0_1, .inl (ka0_1, 61, .inl (fa0_1)))] s.heap := hP
  have hl := lv_entry ([.ref a0, .int a1, .int a2]) (n := 4) (Nat.le_of_ble_eq_true rfl)
  rw [lg_entry_eq]
  generalize (lg_sl ([.ref a0, .int a1, .int a2]) ++ List.replicate (4 - (lg_sl ([.ref a0, .int a1, .int a2])).length) Slot.unset).toArray = ls at hl ⊢
  have hl : lv_has ls 4 [(0, .ref a0), (1, .int a1), (2, .int a2)] := hl
  refine lv_iload_n hx hb dX4_step_0 rfl (lv_at hl 2 rfl) ?_
  refine lv_istore_n (lv' := [(3, .int a2), (0, .ref a0), (1, .int a1), (2, .int a2)]) hx hb dX4_step_1 rfl hl (by decide) rfl (fun ls hl => ?_)
  refine lv_iload_n hx hb dX4_step_2 rfl (lv_at hl 3 rfl) ?_
  refine lv_if_le (tgt := 27) hx hb dX4_step_3 (by decide) (fun c3 => ?_) (fun c3 => ?_)
  · have gc3 := ai_le c3
    have u3t_a2 : a2.toInt ≤ (0 : Int) := Int.le_trans gc3 zq6
    refine lv_iload_n hx hb dX4_step_27 rfl (lv_at hl 3 rfl) ?_
    refine lv_iconst (v := 1) hx hb dX4_step_28 zk_iconst_1 ?_
    refine lv_iadd hx hb dX4_step_29 ?_
    refine lv_topi (fun x29 ex29 => ?_)
    have qx29 : x29.toInt = a2.toInt + (1 : Int32).toInt := ai_add ex29 ⟨ba2_l, u3t_a2⟩ ⟨zq1, zq0⟩ (by decide) (by decide)
    have bx29 : (1 : Int) ≤ x29.toInt ∧ x29.toInt ≤ 1 := ⟨by rw [qx29]; exact Int.add_le_add ba2_l zq1, by rw [qx29]; exact Int.add_le_add u3t_a2 zq0⟩
    have wx29 : x29.toInt = a2.toInt + 1 := qx29
    refine lv_aload_n hx hb dX4_step_30 rfl (lv_at hl 1 rfl) ?_
    refine va_get (D := (dC, dI)) (ci := 4) (v := .int a0_0) (C := RX4) (T := TX4) (N := 3) hx hb hts zi_X4_step_4 hown hK hP 0 rfl rfl 0 (by decide) (hts (.fieldLink RX4 28 "WaxTurns$Routes" "figures" "I") (List.mem_cons_of_mem _ (List.mem_append_left _ (List.mem_of_getElem? (i := 0) rfl)))) (fun _ h9 => h9) rfl dX4_step_31 ?_
    refine lv_icmp_ge (tgt := 58) hx hb dX4_step_34 (by decide) (fun c34 => ?_) (fun c34 => ?_)
    · have gc34 := ai_le c34
      have u34t_a0_0 : a0_0.toInt ≤ (1 : Int) := Int.le_trans gc34 bx29.2
      have l34t_x29 : (1 : Int) ≤ x29.toInt := bx29.1
      refine lv_iload_n hx hb dX4_step_58 rfl (lv_at hl 0 rfl) ?_
      exact W.iret (v := a2) hx hb hr (fun t ht hW => ⟨⟨a2, (), rfl, ⟨ba2_l, (Int.le_trans u3t_a2 zq20)⟩, by rw [ht]; exact hP, va_K.moved hW.alike hK, hD⟩, hS.F ht⟩) hS.2.2 dX4_step_59
    · have gc34 := ai_nle c34
      have u34f_x29 : x29.toInt ≤ (1 : Int) := bx29.2
      have l34f_a0_0 : (2 : Int) ≤ a0_0.toInt := ai_ltlo gc34 bx29.1
      refine lv_aload_n hx hb dX4_step_37 rfl (lv_at hl 1 rfl) ?_
      refine lv_iload_n hx hb dX4_step_38 rfl (lv_at hl 2 rfl) ?_
      refine lv_iload_n hx hb dX4_step_39 rfl (lv_at hl 3 rfl) ?_
      refine lv_iconst (v := 1) hx hb dX4_step_40 zk_iconst_1 ?_
      refine lv_iadd hx hb dX4_step_41 ?_
      refine ax_ti x29 ex29.symm ?_
      obtain ⟨hPc, hDc, hFc, hCc⟩ := zc_cut (wc := [(a0, .inr (4, [.int a0_0, .ref a0_1, .ref a0_2])), (a0_2, .inl (ka0_2, 549, .inl (fa0_2))), (a0_1, .inl (ka0_1, 61, .inl (fa0_1)))]) hP hD hS hA [0, 1, 2] (by decide +kernel) rfl
      have hKc := hK.sub (tys' := [(ka0_2, .int), (ka0_1, .int)]) [0, 1] rfl
      refine va_calli (va_runV (As := [.int a1, .int x29]) (rest := []) ⟨hx, hb, hml, hown, hts⟩ (c_X4_worth l dC dI s.heap.size a0 a1 x29 (.int a0_0) a0_1 a0_2 ka0_2 fa0_2 ka0_1 fa0_1 ba1_l ba1_u (Int.le_trans zq4 bx29.1) (Int.le_trans u34f_x29 zq48)) (cwV 2 hts gX4_step_X4_worth rfl rfl rfl zd_X4_worth ⟨Nat.le_of_ble_eq_true rfl, Nat.le_of_ble_eq_true rfl⟩) ⟨ax_blind (fun _ _ _ _ _ => trivial), zr_4 hKc hPc (q0 := 0) rfl, ax_pre hPc hKc hDc (fun _ _ => trivial)⟩ rfl rfl hl.1 rfl (lv_room (Nat.le_of_ble_eq_true rfl)) dX4_step_42 ⟨Nat.le_of_ble_eq_true rfl, Nat.le_of_ble_eq_true rfl⟩) hS (fun q _ h => hFc q h) hFc (fun r42 u t H locs ht hvm hw hB hz1 hk1 hS => ?_)
      obtain ⟨hP1, hK1, hD1⟩ := hB
      rw [ht] at hP1
      obtain ⟨hP, hD⟩ := zc_back (w := [(a0, .inr (4, [.int a0_0, .ref a0_1, .ref a0_2])), (a0_2, .inl (ka0_2, 549, .inl (fa0_2))), (a0_1, .inl (ka0_1, 61, .inl (fa0_1)))]) hP hD hCc hk1 hFc hP1 hD1 [.inr 0, .inr 1, .inr 2] (by decide +kernel) rfl
      refine lv_aload_n hx hb dX4_step_45 rfl (lv_at hl 1 rfl) ?_
      refine lv_iload_n hx hb dX4_step_46 rfl (lv_at hl 2 rfl) ?_
      refine lv_iload_n hx hb dX4_step_47 rfl (lv_at hl 0 rfl) ?_
      obtain ⟨hPc, hDc, hFc, hCc⟩ := zc_cut (wc := [(a0, .inr (4, [.int a0_0, .ref a0_1, .ref a0_2])), (a0_2, .inl (ka0_2, 549, .inl (fa0_2))), (a0_1, .inl (ka0_1, 61, .inl (fa0_1)))]) hP hD hS hA [0, 1, 2] (by decide +kernel) rfl
      have hKc := hK.sub (tys' := [(ka0_2, .int), (ka0_1, .int)]) [0, 1] rfl
      refine va_calli (va_runV (As := [.int a1, .int a2]) (rest := [.int r42]) ⟨hx, hb, hml, hown, hts⟩ (c_X4_worth l dC dI H.size a0 a1 a2 (.int a0_0) a0_1 a0_2 ka0_2 fa0_2 ka0_1 fa0_1 ba1_l ba1_u ba2_l (Int.le_trans u3t_a2 zq20)) (cwV 2 hts gX4_step_X4_worth rfl rfl rfl zd_X4_worth ⟨Nat.le_of_ble_eq_true rfl, Nat.le_of_ble_eq_true rfl⟩) ⟨ax_blind (fun _ _ _ _ _ => trivial), zr_4 hKc hPc (q0 := 0) rfl, ax_pre hPc hKc hDc (fun _ _ => trivial)⟩ rfl rfl hl.1 rfl (lv_room (Nat.le_of_ble_eq_true rfl)) dX4_step_48 ⟨Nat.le_of_ble_eq_true rfl, Nat.le_of_ble_eq_true rfl⟩) hS (fun q _ h => hFc q h) hFc (fun r48 u t H locs ht hvm hw hB hz1 hk1 hS => ?_)
      obtain ⟨hP1, hK1, hD1⟩ := hB
      rw [ht] at hP1
      obtain ⟨hP, hD⟩ := zc_back (w := [(a0, .inr (4, [.int a0_0, .ref a0_1, .ref a0_2])), (a0_2, .inl (ka0_2, 549, .inl (fa0_2))), (a0_1, .inl (ka0_1, 61, .inl (fa0_1)))]) hP hD hCc hk1 hFc hP1 hD1 [.inr 0, .inr 1, .inr 2] (by decide +kernel) rfl
      refine lv_icmp_le (tgt := 58) hx hb dX4_step_51 (by decide) (fun c51 => ?_) (fun c51 => ?_)
      · have gc51 := ai_le c51
        refine lv_iload_n hx hb dX4_step_58 rfl (lv_at hl 0 rfl) ?_
        exact W.iret (v := a2) hx hb hr (fun t ht hW => ⟨⟨a2, (), rfl, ⟨ba2_l, (Int.le_trans u3t_a2 zq20)⟩, by rw [ht]; exact hP, va_K.moved hW.alike hK, hD⟩, hS.F ht⟩) hS.2.2 dX4_step_59
      · have gc51 := ai_nle c51
        have u51f_r48 : r48.toInt ≤ (2147483646 : Int) := ai_lthi gc51 (ai_max r42)
        have l51f_r42 : (-2147483647 : Int) ≤ r42.toInt := ai_ltlo gc51 (ai_min r48)
        refine lv_iload_n hx hb dX4_step_54 rfl (lv_at hl 3 rfl) ?_
        refine lv_iconst (v := 1) hx hb dX4_step_55 zk_iconst_1 ?_
        refine lv_iadd hx hb dX4_step_56 ?_
        refine ax_ti x29 ex29.symm ?_
        refine lv_istore_n (lv' := [(3, .int x29), (0, .ref a0), (1, .int a1), (2, .int a2)]) hx hb dX4_step_57 rfl hl (by decide) rfl (fun ls hl => ?_)
        refine lv_iload_n hx hb dX4_step_58 rfl (lv_at hl 0 rfl) ?_
        exact W.iret (v := x29) hx hb hr (fun t ht hW => ⟨⟨x29, (), rfl, ⟨(Int.le_trans zq4 bx29.1), (Int.le_trans u34f_x29 zq48)⟩, by rw [ht]; exact hP, va_K.moved hW.alike hK, hD⟩, hS.F ht⟩) hS.2.2 dX4_step_59
  · have gc3 := ai_nle c3
    have l3f_a2 : (1 : Int) ≤ a2.toInt := ai_ltlo gc3 zq5
    refine lv_aload_n hx hb dX4_step_6 rfl (lv_at hl 1 rfl) ?_
    refine lv_iload_n hx hb dX4_step_7 rfl (lv_at hl 2 rfl) ?_
    refine lv_iload_n hx hb dX4_step_8 rfl (lv_at hl 3 rfl) ?_
    refine lv_iconst (v := 1) hx hb dX4_step_9 zk_iconst_1 ?_
    refine lv_isub hx hb dX4_step_10 ?_
    refine lv_topi (fun x10 ex10 => ?_)
    have qx10 : x10.toInt = a2.toInt - (1 : Int32).toInt := ai_sub ex10 ⟨l3f_a2, ba2_u⟩ ⟨zq1, zq0⟩ (by decide) (by decide)
    have bx10 : (0 : Int) ≤ x10.toInt ∧ x10.toInt ≤ 7 := ⟨by rw [qx10]; exact Int.sub_le_sub l3f_a2 zq0, by rw [qx10]; exact Int.sub_le_sub ba2_u zq1⟩
    have wx10 : x10.toInt = a2.toInt - 1 := qx10
    obtain ⟨hPc, hDc, hFc, hCc⟩ := zc_cut (wc := [(a0, .inr (4, [.int a0_0, .ref a0_1, .ref a0_2])), (a0_2, .inl (ka0_2, 549, .inl (fa0_2))), (a0_1, .inl (ka0_1, 61, .inl (fa0_1)))]) hP hD hS hA [0, 1, 2] (by decide +kernel) rfl
    have hKc := hK.sub (tys' := [(ka0_2, .int), (ka0_1, .int)]) [0, 1] rfl
    refine va_calli (va_runV (As := [.int a1, .int x10]) (rest := []) ⟨hx, hb, hml, hown, hts⟩ (c_X4_worth l dC dI s.heap.size a0 a1 x10 (.int a0_0) a0_1 a0_2 ka0_2 fa0_2 ka0_1 fa0_1 ba1_l ba1_u bx10.1 (Int.le_trans bx10.2 zq49)) (cwV 2 hts gX4_step_X4_worth rfl rfl rfl zd_X4_worth ⟨Nat.le_of_ble_eq_true rfl, Nat.le_of_ble_eq_true rfl⟩) ⟨ax_blind (fun _ _ _ _ _ => trivial), zr_4 hKc hPc (q0 := 0) rfl, ax_pre hPc hKc hDc (fun _ _ => trivial)⟩ rfl rfl hl.1 rfl (lv_room (Nat.le_of_ble_eq_true rfl)) dX4_step_11 ⟨Nat.le_of_ble_eq_true rfl, Nat.le_of_ble_eq_true rfl⟩) hS (fun q _ h => hFc q h) hFc (fun r11 u t H locs ht hvm hw hB hz1 hk1 hS => ?_)
    obtain ⟨hP1, hK1, hD1⟩ := hB
    rw [ht] at hP1
    obtain ⟨hP, hD⟩ := zc_back (w := [(a0, .inr (4, [.int a0_0, .ref a0_1, .ref a0_2])), (a0_2, .inl (ka0_2, 549, .inl (fa0_2))), (a0_1, .inl (ka0_1, 61, .inl (fa0_1)))]) hP hD hCc hk1 hFc hP1 hD1 [.inr 0, .inr 1, .inr 2] (by decide +kernel) rfl
    refine lv_aload_n hx hb dX4_step_14 rfl (lv_at hl 1 rfl) ?_
    refine lv_iload_n hx hb dX4_step_15 rfl (lv_at hl 2 rfl) ?_
    refine lv_iload_n hx hb dX4_step_16 rfl (lv_at hl 0 rfl) ?_
    obtain ⟨hPc, hDc, hFc, hCc⟩ := zc_cut (wc := [(a0, .inr (4, [.int a0_0, .ref a0_1, .ref a0_2])), (a0_2, .inl (ka0_2, 549, .inl (fa0_2))), (a0_1, .inl (ka0_1, 61, .inl (fa0_1)))]) hP hD hS hA [0, 1, 2] (by decide +kernel) rfl
    have hKc := hK.sub (tys' := [(ka0_2, .int), (ka0_1, .int)]) [0, 1] rfl
    refine va_calli (va_runV (As := [.int a1, .int a2]) (rest := [.int r11]) ⟨hx, hb, hml, hown, hts⟩ (c_X4_worth l dC dI H.size a0 a1 a2 (.int a0_0) a0_1 a0_2 ka0_2 fa0_2 ka0_1 fa0_1 ba1_l ba1_u (Int.le_trans zq4 l3f_a2) ba2_u) (cwV 2 hts gX4_step_X4_worth rfl rfl rfl zd_X4_worth ⟨Nat.le_of_ble_eq_true rfl, Nat.le_of_ble_eq_true rfl⟩) ⟨ax_blind (fun _ _ _ _ _ => trivial), zr_4 hKc hPc (q0 := 0) rfl, ax_pre hPc hKc hDc (fun _ _ => trivial)⟩ rfl rfl hl.1 rfl (lv_room (Nat.le_of_ble_eq_true rfl)) dX4_step_17 ⟨Nat.le_of_ble_eq_true rfl, Nat.le_of_ble_eq_true rfl⟩) hS (fun q _ h => hFc q h) hFc (fun r17 u t H locs ht hvm hw hB hz1 hk1 hS => ?_)
    obtain ⟨hP1, hK1, hD1⟩ := hB
    rw [ht] at hP1
    obtain ⟨hP, hD⟩ := zc_back (w := [(a0, .inr (4, [.int a0_0, .ref a0_1, .ref a0_2])), (a0_2, .inl (ka0_2, 549, .inl (fa0_2))), (a0_1, .inl (ka0_1, 61, .inl (fa0_1)))]) hP hD hCc hk1 hFc hP1 hD1 [.inr 0, .inr 1, .inr 2] (by decide +kernel) rfl
    refine lv_icmp_le (tgt := 27) hx hb dX4_step_20 (by decide) (fun c20 => ?_) (fun c20 => ?_)
    · have gc20 := ai_le c20
      refine lv_iload_n hx hb dX4_step_27 rfl (lv_at hl 3 rfl) ?_
      refine lv_iconst (v := 1) hx hb dX4_step_28 zk_iconst_1 ?_
      refine lv_iadd hx hb dX4_step_29 ?_
      refine lv_topi (fun x29 ex29 => ?_)
      have qx29 : x29.toInt = a2.toInt + (1 : Int32).toInt := ai_add ex29 ⟨l3f_a2, ba2_u⟩ ⟨zq1, zq0⟩ (by decide) (by decide)
      have bx29 : (2 : Int) ≤ x29.toInt ∧ x29.toInt ≤ 9 := ⟨by rw [qx29]; exact Int.add_le_add l3f_a2 zq1, by rw [qx29]; exact Int.add_le_add ba2_u zq0⟩
      have wx29 : x29.toInt = a2.toInt + 1 := qx29
      refine lv_aload_n hx hb dX4_step_30 rfl (lv_at hl 1 rfl) ?_
      refine va_get (D := (dC, dI)) (ci := 4) (v := .int a0_0) (C := RX4) (T := TX4) (N := 3) hx hb hts zi_X4_step_4 hown hK hP 0 rfl rfl 0 (by decide) (hts (.fieldLink RX4 28 "WaxTurns$Routes" "figures" "I") (List.mem_cons_of_mem _ (List.mem_append_left _ (List.mem_of_getElem? (i := 0) rfl)))) (fun _ h9 => h9) rfl dX4_step_31 ?_
      refine lv_icmp_ge (tgt := 58) hx hb dX4_step_34 (by decide) (fun c34 => ?_) (fun c34 => ?_)
      · have gc34 := ai_le c34
        have u34t_a0_0 : a0_0.toInt ≤ (9 : Int) := ba0_0_u
        have l34t_x29 : (2 : Int) ≤ x29.toInt := bx29.1
        refine lv_iload_n hx hb dX4_step_58 rfl (lv_at hl 0 rfl) ?_
        exact W.iret (v := a2) hx hb hr (fun t ht hW => ⟨⟨a2, (), rfl, ⟨(Int.le_trans zq4 l3f_a2), ba2_u⟩, by rw [ht]; exact hP, va_K.moved hW.alike hK, hD⟩, hS.F ht⟩) hS.2.2 dX4_step_59
      · have gc34 := ai_nle c34
        have u34f_x29 : x29.toInt ≤ (8 : Int) := ai_lthi gc34 ba0_0_u
        have u34f_a2 : a2.toInt ≤ (7 : Int) := by have h1 := wx29; have h2 := u34f_x29; omega
        have l34f_a0_0 : (3 : Int) ≤ a0_0.toInt := ai_ltlo gc34 bx29.1
        refine lv_aload_n hx hb dX4_step_37 rfl (lv_at hl 1 rfl) ?_
        refine lv_iload_n hx hb dX4_step_38 rfl (lv_at hl 2 rfl) ?_
        refine lv_iload_n hx hb dX4_step_39 rfl (lv_at hl 3 rfl) ?_
        refine lv_iconst (v := 1) hx hb dX4_step_40 zk_iconst_1 ?_
        refine lv_iadd hx hb dX4_step_41 ?_
        refine ax_ti x29 ex29.symm ?_
        obtain ⟨hPc, hDc, hFc, hCc⟩ := zc_cut (wc := [(a0, .inr (4, [.int a0_0, .ref a0_1, .ref a0_2])), (a0_2, .inl (ka0_2, 549, .inl (fa0_2))), (a0_1, .inl (ka0_1, 61, .inl (fa0_1)))]) hP hD hS hA [0, 1, 2] (by decide +kernel) rfl
        have hKc := hK.sub (tys' := [(ka0_2, .int), (ka0_1, .int)]) [0, 1] rfl
        refine va_calli (va_runV (As := [.int a1, .int x29]) (rest := []) ⟨hx, hb, hml, hown, hts⟩ (c_X4_worth l dC dI H.size a0 a1 x29 (.int a0_0) a0_1 a0_2 ka0_2 fa0_2 ka0_1 fa0_1 ba1_l ba1_u (Int.le_trans zq50 bx29.1) u34f_x29) (cwV 2 hts gX4_step_X4_worth rfl rfl rfl zd_X4_worth ⟨Nat.le_of_ble_eq_true rfl, Nat.le_of_ble_eq_true rfl⟩) ⟨ax_blind (fun _ _ _ _ _ => trivial), zr_4 hKc hPc (q0 := 0) rfl, ax_pre hPc hKc hDc (fun _ _ => trivial)⟩ rfl rfl hl.1 rfl (lv_room (Nat.le_of_ble_eq_true rfl)) dX4_step_42 ⟨Nat.le_of_ble_eq_true rfl, Nat.le_of_ble_eq_true rfl⟩) hS (fun q _ h => hFc q h) hFc (fun r42 u t H locs ht hvm hw hB hz1 hk1 hS => ?_)
        obtain ⟨hP1, hK1, hD1⟩ := hB
        rw [ht] at hP1
        obtain ⟨hP, hD⟩ := zc_back (w := [(a0, .inr (4, [.int a0_0, .ref a0_1, .ref a0_2])), (a0_2, .inl (ka0_2, 549, .inl (fa0_2))), (a0_1, .inl (ka0_1, 61, .inl (fa0_1)))]) hP hD hCc hk1 hFc hP1 hD1 [.inr 0, .inr 1, .inr 2] (by decide +kernel) rfl
        refine lv_aload_n hx hb dX4_step_45 rfl (lv_at hl 1 rfl) ?_
        refine lv_iload_n hx hb dX4_step_46 rfl (lv_at hl 2 rfl) ?_
        refine lv_iload_n hx hb dX4_step_47 rfl (lv_at hl 0 rfl) ?_
        obtain ⟨hPc, hDc, hFc, hCc⟩ := zc_cut (wc := [(a0, .inr (4, [.int a0_0, .ref a0_1, .ref a0_2])), (a0_2, .inl (ka0_2, 549, .inl (fa0_2))), (a0_1, .inl (ka0_1, 61, .inl (fa0_1)))]) hP hD hS hA [0, 1, 2] (by decide +kernel) rfl
        have hKc := hK.sub (tys' := [(ka0_2, .int), (ka0_1, .int)]) [0, 1] rfl
        refine va_calli (va_runV (As := [.int a1, .int a2]) (rest := [.int r42]) ⟨hx, hb, hml, hown, hts⟩ (c_X4_worth l dC dI H.size a0 a1 a2 (.int a0_0) a0_1 a0_2 ka0_2 fa0_2 ka0_1 fa0_1 ba1_l ba1_u (Int.le_trans zq4 l3f_a2) (Int.le_trans u34f_a2 zq49)) (cwV 2 hts gX4_step_X4_worth rfl rfl rfl zd_X4_worth ⟨Nat.le_of_ble_eq_true rfl, Nat.le_of_ble_eq_true rfl⟩) ⟨ax_blind (fun _ _ _ _ _ => trivial), zr_4 hKc hPc (q0 := 0) rfl, ax_pre hPc hKc hDc (fun _ _ => trivial)⟩ rfl rfl hl.1 rfl (lv_room (Nat.le_of_ble_eq_true rfl)) dX4_step_48 ⟨Nat.le_of_ble_eq_true rfl, Nat.le_of_ble_eq_true rfl⟩) hS (fun q _ h => hFc q h) hFc (fun r48 u t H locs ht hvm hw hB hz1 hk1 hS => ?_)
        obtain ⟨hP1, hK1, hD1⟩ := hB
        rw [ht] at hP1
        obtain ⟨hP, hD⟩ := zc_back (w := [(a0, .inr (4, [.int a0_0, .ref a0_1, .ref a0_2])), (a0_2, .inl (ka0_2, 549, .inl (fa0_2))), (a0_1, .inl (ka0_1, 61, .inl (fa0_1)))]) hP hD hCc hk1 hFc hP1 hD1 [.inr 0, .inr 1, .inr 2] (by decide +kernel) rfl
        refine lv_icmp_le (tgt := 58) hx hb dX4_step_51 (by decide) (fun c51 => ?_) (fun c51 => ?_)
        · have gc51 := ai_le c51
          refine lv_iload_n hx hb dX4_step_58 rfl (lv_at hl 0 rfl) ?_
          exact W.iret (v := a2) hx hb hr (fun t ht hW => ⟨⟨a2, (), rfl, ⟨(Int.le_trans zq4 l3f_a2), (Int.le_trans u34f_a2 zq49)⟩, by rw [ht]; exact hP, va_K.moved hW.alike hK, hD⟩, hS.F ht⟩) hS.2.2 dX4_step_59
        · have gc51 := ai_nle c51
          have u51f_r48 : r48.toInt ≤ (2147483646 : Int) := ai_lthi gc51 (ai_max r42)
          have l51f_r42 : (-2147483647 : Int) ≤ r42.toInt := ai_ltlo gc51 (ai_min r48)
          refine lv_iload_n hx hb dX4_step_54 rfl (lv_at hl 3 rfl) ?_
          refine lv_iconst (v := 1) hx hb dX4_step_55 zk_iconst_1 ?_
          refine lv_iadd hx hb dX4_step_56 ?_
          refine ax_ti x29 ex29.symm ?_
          refine lv_istore_n (lv' := [(3, .int x29), (0, .ref a0), (1, .int a1), (2, .int a2)]) hx hb dX4_step_57 rfl hl (by decide) rfl (fun ls hl => ?_)
          refine lv_iload_n hx hb dX4_step_58 rfl (lv_at hl 0 rfl) ?_
          exact W.iret (v := x29) hx hb hr (fun t ht hW => ⟨⟨x29, (), rfl, ⟨(Int.le_trans zq50 bx29.1), u34f_x29⟩, by rw [ht]; exact hP, va_K.moved hW.alike hK, hD⟩, hS.F ht⟩) hS.2.2 dX4_step_59
    · have gc20 := ai_nle c20
      have u20f_r17 : r17.toInt ≤ (2147483646 : Int) := ai_lthi gc20 (ai_max r11)
      have l20f_r11 : (-2147483647 : Int) ≤ r11.toInt := ai_ltlo gc20 (ai_min r17)
      refine lv_iload_n hx hb dX4_step_23 rfl (lv_at hl 3 rfl) ?_
      refine lv_iconst (v := 1) hx hb dX4_step_24 zk_iconst_1 ?_
      refine lv_isub hx hb dX4_step_25 ?_
      refine ax_ti x10 ex10.symm ?_
      refine lv_istore_n (lv' := [(3, .int x10), (0, .ref a0), (1, .int a1), (2, .int a2)]) hx hb dX4_step_26 rfl hl (by decide) rfl (fun ls hl => ?_)
      refine lv_iload_n hx hb dX4_step_27 rfl (lv_at hl 3 rfl) ?_
      refine lv_iconst (v := 1) hx hb dX4_step_28 zk_iconst_1 ?_
      refine lv_iadd hx hb dX4_step_29 ?_
      refine lv_topi (fun x29 ex29 => ?_)
      have qx29 : x29.toInt = a2.toInt + (1 : Int32).toInt := ai_add ex29 ⟨l3f_a2, ba2_u⟩ ⟨zq1, zq0⟩ (by decide) (by decide)
      have bx29 : (2 : Int) ≤ x29.toInt ∧ x29.toInt ≤ 9 := ⟨by rw [qx29]; exact Int.add_le_add l3f_a2 zq1, by rw [qx29]; exact Int.add_le_add ba2_u zq0⟩
      have wx29 : x29.toInt = a2.toInt + 1 := qx29
      refine lv_aload_n hx hb dX4_step_30 rfl (lv_at hl 1 rfl) ?_
      refine va_get (D := (dC, dI)) (ci := 4) (v := .int a0_0) (C := RX4) (T := TX4) (N := 3) hx hb hts zi_X4_step_4 hown hK hP 0 rfl rfl 0 (by decide) (hts (.fieldLink RX4 28 "WaxTurns$Routes" "figures" "I") (List.mem_cons_of_mem _ (List.mem_append_left _ (List.mem_of_getElem? (i := 0) rfl)))) (fun _ h9 => h9) rfl dX4_step_31 ?_
      refine lv_icmp_ge (tgt := 58) hx hb dX4_step_34 (by decide) (fun c34 => ?_) (fun c34 => ?_)
      · have gc34 := ai_le c34
        have u34t_a0_0 : a0_0.toInt ≤ (9 : Int) := ba0_0_u
        have l34t_x29 : (2 : Int) ≤ x29.toInt := bx29.1
        refine lv_iload_n hx hb dX4_step_58 rfl (lv_at hl 0 rfl) ?_
        exact W.iret (v := x10) hx hb hr (fun t ht hW => ⟨⟨x10, (), rfl, ⟨bx10.1, (Int.le_trans bx10.2 zq49)⟩, by rw [ht]; exact hP, va_K.moved hW.alike hK, hD⟩, hS.F ht⟩) hS.2.2 dX4_step_59
      · have gc34 := ai_nle c34
        have u34f_x29 : x29.toInt ≤ (8 : Int) := ai_lthi gc34 ba0_0_u
        have u34f_a2 : a2.toInt ≤ (7 : Int) := by have h1 := wx29; have h2 := u34f_x29; omega
        have l34f_a0_0 : (3 : Int) ≤ a0_0.toInt := ai_ltlo gc34 bx29.1
        refine lv_aload_n hx hb dX4_step_37 rfl (lv_at hl 1 rfl) ?_
        refine lv_iload_n hx hb dX4_step_38 rfl (lv_at hl 2 rfl) ?_
        refine lv_iload_n hx hb dX4_step_39 rfl (lv_at hl 3 rfl) ?_
        refine lv_iconst (v := 1) hx hb dX4_step_40 zk_iconst_1 ?_
        refine lv_iadd hx hb dX4_step_41 ?_
        refine ax_ti x29 ex29.symm ?_
        obtain ⟨hPc, hDc, hFc, hCc⟩ := zc_cut (wc := [(a0, .inr (4, [.int a0_0, .ref a0_1, .ref a0_2])), (a0_2, .inl (ka0_2, 549, .inl (fa0_2))), (a0_1, .inl (ka0_1, 61, .inl (fa0_1)))]) hP hD hS hA [0, 1, 2] (by decide +kernel) rfl
        have hKc := hK.sub (tys' := [(ka0_2, .int), (ka0_1, .int)]) [0, 1] rfl
        refine va_calli (va_runV (As := [.int a1, .int x29]) (rest := []) ⟨hx, hb, hml, hown, hts⟩ (c_X4_worth l dC dI H.size a0 a1 x29 (.int a0_0) a0_1 a0_2 ka0_2 fa0_2 ka0_1 fa0_1 ba1_l ba1_u (Int.le_trans zq50 bx29.1) u34f_x29) (cwV 2 hts gX4_step_X4_worth rfl rfl rfl zd_X4_worth ⟨Nat.le_of_ble_eq_true rfl, Nat.le_of_ble_eq_true rfl⟩) ⟨ax_blind (fun _ _ _ _ _ => trivial), zr_4 hKc hPc (q0 := 0) rfl, ax_pre hPc hKc hDc (fun _ _ => trivial)⟩ rfl rfl hl.1 rfl (lv_room (Nat.le_of_ble_eq_true rfl)) dX4_step_42 ⟨Nat.le_of_ble_eq_true rfl, Nat.le_of_ble_eq_true rfl⟩) hS (fun q _ h => hFc q h) hFc (fun r42 u t H locs ht hvm hw hB hz1 hk1 hS => ?_)
        obtain ⟨hP1, hK1, hD1⟩ := hB
        rw [ht] at hP1
        obtain ⟨hP, hD⟩ := zc_back (w := [(a0, .inr (4, [.int a0_0, .ref a0_1, .ref a0_2])), (a0_2, .inl (ka0_2, 549, .inl (fa0_2))), (a0_1, .inl (ka0_1, 61, .inl (fa0_1)))]) hP hD hCc hk1 hFc hP1 hD1 [.inr 0, .inr 1, .inr 2] (by decide +kernel) rfl
        refine lv_aload_n hx hb dX4_step_45 rfl (lv_at hl 1 rfl) ?_
        refine lv_iload_n hx hb dX4_step_46 rfl (lv_at hl 2 rfl) ?_
        refine lv_iload_n hx hb dX4_step_47 rfl (lv_at hl 0 rfl) ?_
        obtain ⟨hPc, hDc, hFc, hCc⟩ := zc_cut (wc := [(a0, .inr (4, [.int a0_0, .ref a0_1, .ref a0_2])), (a0_2, .inl (ka0_2, 549, .inl (fa0_2))), (a0_1, .inl (ka0_1, 61, .inl (fa0_1)))]) hP hD hS hA [0, 1, 2] (by decide +kernel) rfl
        have hKc := hK.sub (tys' := [(ka0_2, .int), (ka0_1, .int)]) [0, 1] rfl
        refine va_calli (va_runV (As := [.int a1, .int x10]) (rest := [.int r42]) ⟨hx, hb, hml, hown, hts⟩ (c_X4_worth l dC dI H.size a0 a1 x10 (.int a0_0) a0_1 a0_2 ka0_2 fa0_2 ka0_1 fa0_1 ba1_l ba1_u bx10.1 (Int.le_trans bx10.2 zq49)) (cwV 2 hts gX4_step_X4_worth rfl rfl rfl zd_X4_worth ⟨Nat.le_of_ble_eq_true rfl, Nat.le_of_ble_eq_true rfl⟩) ⟨ax_blind (fun _ _ _ _ _ => trivial), zr_4 hKc hPc (q0 := 0) rfl, ax_pre hPc hKc hDc (fun _ _ => trivial)⟩ rfl rfl hl.1 rfl (lv_room (Nat.le_of_ble_eq_true rfl)) dX4_step_48 ⟨Nat.le_of_ble_eq_true rfl, Nat.le_of_ble_eq_true rfl⟩) hS (fun q _ h => hFc q h) hFc (fun r48 u t H locs ht hvm hw hB hz1 hk1 hS => ?_)
        obtain ⟨hP1, hK1, hD1⟩ := hB
        rw [ht] at hP1
        obtain ⟨hP, hD⟩ := zc_back (w := [(a0, .inr (4, [.int a0_0, .ref a0_1, .ref a0_2])), (a0_2, .inl (ka0_2, 549, .inl (fa0_2))), (a0_1, .inl (ka0_1, 61, .inl (fa0_1)))]) hP hD hCc hk1 hFc hP1 hD1 [.inr 0, .inr 1, .inr 2] (by decide +kernel) rfl
        refine lv_icmp_le (tgt := 58) hx hb dX4_step_51 (by decide) (fun c51 => ?_) (fun c51 => ?_)
        · have gc51 := ai_le c51
          refine lv_iload_n hx hb dX4_step_58 rfl (lv_at hl 0 rfl) ?_
          exact W.iret (v := x10) hx hb hr (fun t ht hW => ⟨⟨x10, (), rfl, ⟨bx10.1, (Int.le_trans bx10.2 zq49)⟩, by rw [ht]; exact hP, va_K.moved hW.alike hK, hD⟩, hS.F ht⟩) hS.2.2 dX4_step_59
        · have gc51 := ai_nle c51
          have u51f_r48 : r48.toInt ≤ (2147483646 : Int) := ai_lthi gc51 (ai_max r42)
          have l51f_r42 : (-2147483647 : Int) ≤ r42.toInt := ai_ltlo gc51 (ai_min r48)
          refine lv_iload_n hx hb dX4_step_54 rfl (lv_at hl 3 rfl) ?_
          refine lv_iconst (v := 1) hx hb dX4_step_55 zk_iconst_1 ?_
          refine lv_iadd hx hb dX4_step_56 ?_
          refine ax_ti x29 ex29.symm ?_
          refine lv_istore_n (lv' := [(3, .int x29), (0, .ref a0), (1, .int a1), (2, .int a2)]) hx hb dX4_step_57 rfl hl (by decide) rfl (fun ls hl => ?_)
          refine lv_iload_n hx hb dX4_step_58 rfl (lv_at hl 0 rfl) ?_
          exact W.iret (v := x29) hx hb hr (fun t ht hW => ⟨⟨x29, (), rfl, ⟨(Int.le_trans zq50 bx29.1), u34f_x29⟩, by rw [ht]; exact hP, va_K.moved hW.alike hK, hD⟩, hS.F ht⟩) hS.2.2 dX4_step_59

set_option maxHeartbeats 4000000 in
set_option maxRecDepth 100000 in
theorem c_X4_weigh (l : Launch) (dC : Nat → ClassId) (dI : Nat → Nat → Nat) (sz : Nat) (a0 : Nat) (a1 : Int32) (a2 : Int32) (a0_0 : Int32) (a0_1 : Nat) (a0_2 : Nat) (ka0_2 : ClassId) (fa0_2 : Nat → Int32) (ka0_1 : ClassId) (fa0_1 : Nat → Int32) (ba1_l : (0 : Int) ≤ a1.toInt) (ba1_u : a1.toInt ≤ (60 : Int)) (ba2_l : (0 : Int) ≤ a2.toInt) (ba2_u : a2.toInt ≤ (9 : Int)) (ba0_0_l : (0 : Int) ≤ a0_0.toInt) (ba0_0_u : a0_0.toInt ≤ (9 : Int)) : Met l yX4_weigh wsX4_weigh ({ frames := 2, cells := 0, slots := 0, locals := 45 }) (va_Pc [.ref a0, .int a1, .int a2] (ax_C dC dI sz [(a0, .inr (4, [.int a0_0, .ref a0_1, .ref a0_2])), (a0_2, .inl (ka0_2, 549, .inl (fa0_2))), (a0_1, .inl (ka0_1, 61, .inl (fa0_1)))] [(ka0_2, .int), (ka0_1, .int)] (fun _ => True))) (va_Qv (fun (_ : Unit) => True) (fun (_ : Unit) (t : State) => ∃ na0_0 : Int32, ∃ nfa0_2 : Nat → Int32, ((0 : Int) ≤ na0_0.toInt ∧ na0_0.toInt ≤ 9) ∧ ax_B dC dI (va_A [(a0, .inr (4, [.int a0_0, .ref a0_1, .ref a0_2])), (a0_2, .inl (ka0_2, 549, .inl (fa0_2))), (a0_1, .inl (ka0_1, 61, .inl (fa0_1)))] sz) [(a0, .inr (4, [.int na0_0, .ref a0_1, .ref a0_2])), (a0_2, .inl (ka0_2, 549, .inl (nfa0_2))), (a0_1, .inl (ka0_1, 61, .inl (fa0_1)))] [(ka0_2, .int), (ka0_1, .int)] t) (va_A [(a0, .inr (4, [.int a0_0, .ref a0_1, .ref a0_2])), (a0_2, .inl (ka0_2, 549, .inl (fa0_2))), (a0_1, .inl (ka0_1, 61, .inl (fa0_1)))] sz)) 0 0 (va_A [(a0, .inr (4, [.int a0_0, .ref a0_1, .ref a0_2])), (a0_2, .inl (ka0_2, 549, .inl (fa0_2))), (a0_1, .inl (ka0_1, 61, .inl (fa0_1)))] sz) := by
  refine Met.ofW (cc := cX4_weigh) (maxL := 6) (ret := none) (by decide) rfl ?_
  intro p e s m args below meth c s₁ B hml hv
  obtain ⟨rfl, hsz, hP, hK, hD0, hE⟩ := hv
  have hx := B.exec
  have hb := B.bytes
  have hr := B.returns
  have hts := atoms_spec (ws := wsX4_weigh) B.pre
  have hown : s.vm.findClass RX4 = some m.cls := findClass_of_methodNamed B.named
  have hlocks := B.notSynchronized
  subst hsz
  have hD := hD0.self (sz := s.heap.size)
  generalize hAe : va_A [(a0, .inr (4, [.int a0_0, .ref a0_1, .ref a0_2])), (a0_2, .inl (ka0_2, 549, .inl (fa0_2))), (a0_1, .inl (ka0_1, 61, .inl (fa0_1)))] s.heap.size = A at hD ⊢
  have hA : ∀ q : Nat, s.heap.size ≤ q → A q := fun q h => by rw [← hAe]; exact Or.inr h
  have hS : va_S A s.heap s.heap [] := va_S.rf
  have hP : va_P (dC, dI) vwCl [(a0, .inr (4, [.int a0_0, .ref a0_1, .ref a0_2])), (a0_2, .inl (ka0_2, 549, .inl (fa0_2))), (a0_1, .inl (ka0_1, 61, .inl (fa0_1)))] s.heap := hP
  have hl := lv_entry ([.ref a0, .int a1, .int a2]) (n := 6) (Nat.le_of_ble_eq_true rfl)
  rw [lg_entry_eq]
  generalize (lg_sl ([.ref a0, .int a1, .int a2]) ++ List.replicate (6 - (lg_sl ([.ref a0, .int a1, .int a2])).length) Slot.unset).toArray = ls at hl ⊢
  have hl : lv_has ls 6 [(0, .ref a0), (1, .int a1), (2, .int a2)] := hl
  refine ai_open (fun K hK0 => ?_)
  refine (hK0 _ _ _).mpr ?_
  refine lv_aload_n hx hb dX4_weigh_0 rfl (lv_at hl 0 rfl) ?_
  refine lv_iload_n hx hb dX4_weigh_1 rfl (lv_at hl 2 rfl) ?_
  refine lv_bipush (v := 9) hx hb dX4_weigh_2 zk_bipush_9 ?_
  refine va_mmin hx hb (by rw [hml]; exact hl.1.symm) hown (hts (.methodLink RX4 22 Lib.Math.min.name) (List.mem_cons_of_mem _ (List.mem_append_left _ (List.mem_of_getElem? (i := 0) rfl)))) (hts (.static Lib.Math.min.name) (List.mem_cons_of_mem _ (List.mem_append_left _ (List.mem_of_getElem? (i := 1) rfl)))) (hts (.initialized "java/lang/Math") (List.mem_cons_of_mem _ (List.mem_append_left _ (List.mem_of_getElem? (i := 2) rfl)))) (hts _ mnX4_weigh) (Nat.le_of_ble_eq_true rfl) (Nat.le_of_ble_eq_true rfl) (Nat.le_of_ble_eq_true rfl) (Nat.le_of_ble_eq_true rfl) dX4_weigh_4 ?_
  refine lv_topi (fun x4 ex4 => ?_)
  have qx4 := ai_mmin ex4
  have bx4 : (0 : Int) ≤ x4.toInt ∧ x4.toInt ≤ 9 := by have h1 := ba2_l; have h2 := zq2; have h3 := ba2_u; have h4 := zq3; omega
  refine va_put (D := (dC, dI)) (ci := 4) (v := .int x4) (ty := .int) (C := RX4) (T := TX4) (N := 3) hx hb hts zi_X4_weigh_4 tyX4 tyX4_ok nmX4 hown hK hP hD hS 0 rfl rfl 0 (by decide) (hts (.fieldLink RX4 28 "WaxTurns$Routes" "figures" "I") (List.mem_cons_of_mem _ (List.mem_append_left _ (List.mem_of_getElem? (i := 4) rfl)))) (fun _ h9 => h9) rfl (tyX4_ok 0 (by decide)) rfl rfl (Nat.le_of_ble_eq_true rfl) dX4_weigh_7 (fun H locs hP hD hS => ?_)
  obtain ⟨hP, hD⟩ := zc_re (w := [(a0, .inr (4, [.int x4, .ref a0_1, .ref a0_2])), (a0_2, .inl (ka0_2, 549, .inl (fa0_2))), (a0_1, .inl (ka0_1, 61, .inl (fa0_1)))]) hP hD rfl
  refine lv_iload_n hx hb dX4_weigh_10 rfl (lv_at hl 1 rfl) ?_
  refine lv_bipush (v := 60) hx hb dX4_weigh_11 zk_bipush_60 ?_
  refine va_mmin hx hb (by rw [hml]; exact hl.1.symm) hown (hts (.methodLink RX4 22 Lib.Math.min.name) (List.mem_cons_of_mem _ (List.mem_append_left _ (List.mem_of_getElem? (i := 0) rfl)))) (hts (.static Lib.Math.min.name) (List.mem_cons_of_mem _ (List.mem_append_left _ (List.mem_of_getElem? (i := 1) rfl)))) (hts (.initialized "java/lang/Math") (List.mem_cons_of_mem _ (List.mem_append_left _ (List.mem_of_getElem? (i := 2) rfl)))) (hts _ mnX4_weigh) (Nat.le_of_ble_eq_true rfl) (Nat.le_of_ble_eq_true rfl) (Nat.le_of_ble_eq_true rfl) (Nat.le_of_ble_eq_true rfl) dX4_weigh_13 ?_
  refine lv_topi (fun x13 ex13 => ?_)
  have qx13 := ai_mmin ex13
  have bx13 : (0 : Int) ≤ x13.toInt ∧ x13.toInt ≤ 60 := by have h1 := ba1_l; have h2 := zq51; have h3 := ba1_u; have h4 := zq46; omega
  refine lv_istore_n (lv' := [(3, .int x13), (0, .ref a0), (1, .int a1), (2, .int a2)]) hx hb dX4_weigh_16 rfl hl (by decide) rfl (fun ls hl => ?_)
  refine lv_iconst (v := 0) hx hb dX4_weigh_17 zk_iconst_0 ?_
  refine lv_istore (lv' := [(4, .int 0), (3, .int x13), (0, .ref a0), (1, .int a1), (2, .int a2)]) hx hb dX4_weigh_18 hl (by decide) rfl (fun ls hl => ?_)
  have J20 : ∀ (n : Nat) (j20l4 : Int32) (j20a0_2_a : Nat → Int32) (H : Heap) (locs : List Loc) (ls : Array Slot), (10 : Int) - j20l4.toInt ≤ (n : Int) → (0 : Int) ≤ j20l4.toInt → j20l4.toInt ≤ (9 : Int) → va_P (dC, dI) vwCl [(a0, .inr (4, [.int x4, .ref a0_1, .ref a0_2])), (a0_2, .inl (ka0_2, 549, .inl (j20a0_2_a))), (a0_1, .inl (ka0_1, 61, .inl (fa0_1)))] H → va_D A [(a0, .inr (4, [.int x4, .ref a0_1, .ref a0_2])), (a0_2, .inl (ka0_2, 549, .inl (j20a0_2_a))), (a0_1, .inl (ka0_1, 61, .inl (fa0_1)))] → va_S A s.heap H locs → lv_has ls 6 [(0, .ref a0), (3, .int x13), (4, .int j20l4)] → K H locs (F0 m 20 ls []) := by
    intro n
    induction n with
    | zero =>
      intro j20l4 j20a0_2_a H locs ls hm bj20l4_l bj20l4_u hP hD hS hl
      have h8 := ai_min j20l4
      have h9 := ai_max j20l4
      exact absurd hm (by omega)
    | succ n ih20 =>
      intro j20l4 j20a0_2_a H locs ls hm bj20l4_l bj20l4_u hP hD hS hl
      refine (hK0 _ _ _).mpr ?_
      have hm20 := hm
      refine lv_iload hx hb dX4_weigh_20 (lv_at hl 2 rfl) ?_
      refine lv_aload_n hx hb dX4_weigh_22 rfl (lv_at hl 0 rfl) ?_
      refine va_get (D := (dC, dI)) (ci := 4) (v := .int x4) (C := RX4) (T := TX4) (N := 3) hx hb hts zi_X4_weigh_4 hown hK hP 0 rfl rfl 0 (by decide) (hts (.fieldLink RX4 28 "WaxTurns$Routes" "figures" "I") (List.mem_cons_of_mem _ (List.mem_append_left _ (List.mem_of_getElem? (i := 4) rfl)))) (fun _ h9 => h9) rfl dX4_weigh_23 ?_
      refine lv_icmp_ge (tgt := 48) hx hb dX4_weigh_26 (by decide) (fun c26 => ?_) (fun c26 => ?_)
      · have gc26 := ai_le c26
        have u26t_x4 : x4.toInt ≤ (9 : Int) := bx4.2
        have l26t_j20l4 : (0 : Int) ≤ j20l4.toInt := bj20l4_l
        refine lv_iload_n hx hb dX4_weigh_48 rfl (lv_at hl 1 rfl) ?_
        refine lv_istore (lv' := [(4, .int x13), (0, .ref a0), (3, .int x13)]) hx hb dX4_weigh_49 hl (by decide) rfl (fun ls hl => ?_)
        have J51 : ∀ (n : Nat) (j51l4 : Int32) (j51a0_2_a : Nat → Int32) (H : Heap) (locs : List Loc) (ls : Array Slot), j51l4.toInt - (-1 : Int) ≤ (n : Int) → (0 : Int) ≤ j51l4.toInt → j51l4.toInt ≤ (60 : Int) → va_P (dC, dI) vwCl [(a0, .inr (4, [.int x4, .ref a0_1, .ref a0_2])), (a0_2, .inl (ka0_2, 549, .inl (j51a0_2_a))), (a0_1, .inl (ka0_1, 61, .inl (fa0_1)))] H → va_D A [(a0, .inr (4, [.int x4, .ref a0_1, .ref a0_2])), (a0_2, .inl (ka0_2, 549, .inl (j51a0_2_a))), (a0_1, .inl (ka0_1, 61, .inl (fa0_1)))] → va_S A s.heap H locs → lv_has ls 6 [(0, .ref a0), (4, .int j51l4)] → K H locs (F0 m 51 ls []) := by
          intro n
          induction n with
          | zero =>
            intro j51l4 j51a0_2_a H locs ls hm bj51l4_l bj51l4_u hP hD hS hl
            have h8 := ai_min j51l4
            have h9 := ai_max j51l4
            exact absurd hm (by omega)
          | succ n ih51 =>
            intro j51l4 j51a0_2_a H locs ls hm bj51l4_l bj51l4_u hP hD hS hl
            refine (hK0 _ _ _).mpr ?_
            have hm51 := hm
            refine lv_iload hx hb dX4_weigh_51 (lv_at hl 1 rfl) ?_
            refine lv_iconst (v := 1) hx hb dX4_weigh_53 zk_iconst_1 ?_
            refine lv_icmp_lt (tgt := 110) hx hb dX4_weigh_54 (by decide) (fun c54 => ?_) (fun c54 => ?_)
            · have gc54 := ai_lt c54
              have u54t_j51l4 : j51l4.toInt ≤ (0 : Int) := ai_lthi gc54 zq0
              exact W.vret hx hb hr (fun t ht hW => ⟨⟨(), rfl, trivial, x4, j51a0_2_a, ⟨bx4.1, u26t_x4⟩, by rw [ht]; exact hP, va_K.moved hW.alike hK, hD⟩, hS.F ht⟩) hS.2.2 dX4_weigh_110
            · have gc54 := ai_nlt c54
              have l54f_j51l4 : (1 : Int) ≤ j51l4.toInt := Int.le_trans zq1 gc54
              refine lv_iconst (v := 0) hx hb dX4_weigh_57 zk_iconst_0 ?_
              refine lv_istore (lv' := [(5, .int 0), (0, .ref a0), (4, .int j51l4)]) hx hb dX4_weigh_58 hl (by decide) rfl (fun ls hl => ?_)
              have J60 : ∀ (n : Nat) (j60l5 : Int32) (j60a0_2_a : Nat → Int32) (H : Heap) (locs : List Loc) (ls : Array Slot), (10 : Int) - j60l5.toInt ≤ (n : Int) → (0 : Int) ≤ j60l5.toInt → j60l5.toInt ≤ (9 : Int) → va_P (dC, dI) vwCl [(a0, .inr (4, [.int x4, .ref a0_1, .ref a0_2])), (a0_2, .inl (ka0_2, 549, .inl (j60a0_2_a))), (a0_1, .inl (ka0_1, 61, .inl (fa0_1)))] H → va_D A [(a0, .inr (4, [.int x4, .ref a0_1, .ref a0_2])), (a0_2, .inl (ka0_2, 549, .inl (j60a0_2_a))), (a0_1, .inl (ka0_1, 61, .inl (fa0_1)))] → va_S A s.heap H locs → lv_has ls 6 [(0, .ref a0), (4, .int j51l4), (5, .int j60l5)] → K H locs (F0 m 60 ls []) := by
                intro n
                induction n with
                | zero =>
                  intro j60l5 j60a0_2_a H locs ls hm bj60l5_l bj60l5_u hP hD hS hl
                  have h8 := ai_min j60l5
                  have h9 := ai_max j60l5
                  exact absurd hm (by omega)
                | succ n ih60 =>
                  intro j60l5 j60a0_2_a H locs ls hm bj60l5_l bj60l5_u hP hD hS hl
                  refine (hK0 _ _ _).mpr ?_
                  have hm60 := hm
                  refine lv_iload hx hb dX4_weigh_60 (lv_at hl 2 rfl) ?_
                  refine lv_aload_n hx hb dX4_weigh_62 rfl (lv_at hl 0 rfl) ?_
                  refine va_get (D := (dC, dI)) (ci := 4) (v := .int x4) (C := RX4) (T := TX4) (N := 3) hx hb hts zi_X4_weigh_4 hown hK hP 0 rfl rfl 0 (by decide) (hts (.fieldLink RX4 28 "WaxTurns$Routes" "figures" "I") (List.mem_cons_of_mem _ (List.mem_append_left _ (List.mem_of_getElem? (i := 4) rfl)))) (fun _ h9 => h9) rfl dX4_weigh_63 ?_
                  refine lv_icmp_ge (tgt := 104) hx hb dX4_weigh_66 (by decide) (fun c66 => ?_) (fun c66 => ?_)
                  · have gc66 := ai_le c66
                    have u66t_x4 : x4.toInt ≤ (9 : Int) := u26t_x4
                    have l66t_j60l5 : (0 : Int) ≤ j60l5.toInt := bj60l5_l
                    obtain ⟨x104, ex104⟩ : ∃ y : Int32, y = j51l4 + Int32.ofInt (-1) := ⟨_, rfl⟩
                    have qx104 : x104.toInt = j51l4.toInt + -1 := ai_dec ex104 (by decide) (by decide) l54f_j51l4 (by decide)
                    have bx104 : (0 : Int) ≤ x104.toInt ∧ x104.toInt ≤ 59 := ⟨by rw [qx104]; exact Int.add_le_add l54f_j51l4 (Int.le_refl _), by rw [qx104]; exact Int.add_le_add bj51l4_u (Int.le_refl _)⟩
                    refine lv_iinc (v := x104) (lv' := [(4, .int x104), (0, .ref a0), (5, .int j60l5)]) hx hb dX4_weigh_104 hl (k := 1) rfl ex104.symm (by decide) rfl (fun ls hl => ?_)
                    refine lv_goto (tgt := 51) hx hb dX4_weigh_107 (by decide) ?_
                    exact (hK0 _ _ _).mp (ih51 x104 j60a0_2_a _ _ _ (by have h0 := qx104; omega) bx104.1 (Int.le_trans bx104.2 zq52) hP hD hS (lv_sub hl [1, 0] rfl))
                  · have gc66 := ai_nle c66
                    have u66f_j60l5 : j60l5.toInt ≤ (8 : Int) := ai_lthi gc66 u26t_x4
                    have l66f_x4 : (1 : Int) ≤ x4.toInt := ai_ltlo gc66 bj60l5_l
                    refine lv_aload_n hx hb dX4_weigh_69 rfl (lv_at hl 0 rfl) ?_
                    refine va_get (D := (dC, dI)) (ci := 4) (v := .ref a0_2) (C := RX4) (T := TX4) (N := 3) hx hb hts zi_X4_weigh_4 hown hK hP 0 rfl rfl 2 (by decide) (hts (.fieldLink RX4 15 "WaxTurns$Routes" "bestBehind" "[I") (List.mem_cons_of_mem _ (List.mem_append_left _ (List.mem_of_getElem? (i := 5) rfl)))) (fun _ h9 => h9) rfl dX4_weigh_70 ?_
                    refine lv_iload hx hb dX4_weigh_73 (lv_at hl 1 rfl) ?_
                    refine lv_iconst (v := 1) hx hb dX4_weigh_75 zk_iconst_1 ?_
                    refine lv_isub hx hb dX4_weigh_76 ?_
                    refine lv_topi (fun x76 ex76 => ?_)
                    have qx76 : x76.toInt = j51l4.toInt - (1 : Int32).toInt := ai_sub ex76 ⟨l54f_j51l4, bj51l4_u⟩ ⟨zq1, zq0⟩ (by decide) (by decide)
                    have bx76 : (0 : Int) ≤ x76.toInt ∧ x76.toInt ≤ 59 := ⟨by rw [qx76]; exact Int.sub_le_sub l54f_j51l4 zq0, by rw [qx76]; exact Int.sub_le_sub bj51l4_u zq1⟩
                    have wx76 : x76.toInt = j51l4.toInt - 1 := qx76
                    refine lv_bipush (v := 9) hx hb dX4_weigh_77 zk_bipush_9 ?_
                    refine lv_imul hx hb dX4_weigh_79 ?_
                    refine lv_topi (fun x79 ex79 => ?_)
                    have qx79 : x79.toInt = x76.toInt * (9 : Int32).toInt ∧ (0 : Int) ≤ x79.toInt ∧ x79.toInt ≤ 531 := ai_mul ex79 ⟨bx76.1, bx76.2⟩ ⟨zq2, zq3⟩ (by decide) (by decide) zq53
                    have wx79 : x79.toInt = x76.toInt * 9 := qx79.1
                    refine lv_iload hx hb dX4_weigh_80 (lv_at hl 2 rfl) ?_
                    refine lv_iadd hx hb dX4_weigh_82 ?_
                    refine lv_topi (fun x82 ex82 => ?_)
                    have qx82 : x82.toInt = x79.toInt + j60l5.toInt := ai_add ex82 ⟨qx79.2.1, qx79.2.2⟩ ⟨bj60l5_l, u66f_j60l5⟩ (by decide) (by decide)
                    have bx82 : (0 : Int) ≤ x82.toInt ∧ x82.toInt ≤ 539 := ⟨by rw [qx82]; exact Int.add_le_add qx79.2.1 bj60l5_l, by rw [qx82]; exact Int.add_le_add qx79.2.2 u66f_j60l5⟩
                    refine lv_aload_n hx hb dX4_weigh_83 rfl (lv_at hl 0 rfl) ?_
                    refine lv_iload hx hb dX4_weigh_84 (lv_at hl 1 rfl) ?_
                    refine lv_aload_n hx hb dX4_weigh_86 rfl (lv_at hl 0 rfl) ?_
                    refine lv_iload hx hb dX4_weigh_87 (lv_at hl 1 rfl) ?_
                    refine lv_iload hx hb dX4_weigh_89 (lv_at hl 2 rfl) ?_
                    obtain ⟨hPc, hDc, hFc, hCc⟩ := zc_cut (wc := [(a0, .inr (4, [.int x4, .ref a0_1, .ref a0_2])), (a0_2, .inl (ka0_2, 549, .inl (j60a0_2_a))), (a0_1, .inl (ka0_1, 61, .inl (fa0_1)))]) hP hD hS hA [0, 1, 2] (by decide +kernel) rfl
                    have hKc := hK.sub (tys' := [(ka0_2, .int), (ka0_1, .int)]) [0, 1] rfl
                    refine va_calli (va_runV (As := [.int j51l4, .int j60l5]) (rest := [.int j51l4, .ref a0, .int x82, .ref a0_2]) ⟨hx, hb, hml, hown, hts⟩ (c_X4_step l dC dI H.size a0 j51l4 j60l5 x4 a0_1 a0_2 ka0_2 j60a0_2_a ka0_1 fa0_1 (Int.le_trans zq4 l54f_j51l4) bj51l4_u bj60l5_l u66f_j60l5 (Int.le_trans zq4 l66f_x4) u26t_x4) (cwV 2 hts gX4_weigh_X4_step rfl rfl rfl zd_X4_step ⟨Nat.le_of_ble_eq_true rfl, Nat.le_of_ble_eq_true rfl⟩) ⟨ax_blind (fun _ _ _ _ _ => trivial), zr_4 hKc hPc (q0 := 0) rfl, ax_pre hPc hKc hDc (fun _ _ => trivial)⟩ rfl rfl hl.1 rfl (lv_room (Nat.le_of_ble_eq_true rfl)) dX4_weigh_91 ⟨Nat.le_of_ble_eq_true rfl, Nat.le_of_ble_eq_true rfl⟩) hS (fun q _ h => hFc q h) hFc (fun r91 u t H locs ht hvm hw hB hz1 hk1 hS => ?_)
                    obtain ⟨hP1, hK1, hD1⟩ := hB
                    rw [ht] at hP1
                    obtain ⟨hP, hD⟩ := zc_back (w := [(a0, .inr (4, [.int x4, .ref a0_1, .ref a0_2])), (a0_2, .inl (ka0_2, 549, .inl (j60a0_2_a))), (a0_1, .inl (ka0_1, 61, .inl (fa0_1)))]) hP hD hCc hk1 hFc hP1 hD1 [.inr 0, .inr 1, .inr 2] (by decide +kernel) rfl
                    have hw : (0 : Int) ≤ r91.toInt ∧ r91.toInt ≤ (8 : Int) := hw
                    obtain ⟨h91_0, h91_1⟩ := hw
                    obtain ⟨hPc, hDc, hFc, hCc⟩ := zc_cut (wc := [(a0, .inr (4, [.int x4, .ref a0_1, .ref a0_2])), (a0_2, .inl (ka0_2, 549, .inl (j60a0_2_a))), (a0_1, .inl (ka0_1, 61, .inl (fa0_1)))]) hP hD hS hA [0, 1, 2] (by decide +kernel) rfl
                    have hKc := hK.sub (tys' := [(ka0_2, .int), (ka0_1, .int)]) [0, 1] rfl
                    refine va_calli (va_runV (As := [.int j51l4, .int r91]) (rest := [.int x82, .ref a0_2]) ⟨hx, hb, hml, hown, hts⟩ (c_X4_worth l dC dI H.size a0 j51l4 r91 (.int x4) a0_1 a0_2 ka0_2 j60a0_2_a ka0_1 fa0_1 (Int.le_trans zq4 l54f_j51l4) bj51l4_u h91_0 h91_1) (cwV 2 hts gX4_weigh_X4_worth rfl rfl rfl zd_X4_worth ⟨Nat.le_of_ble_eq_true rfl, Nat.le_of_ble_eq_true rfl⟩) ⟨ax_blind (fun _ _ _ _ _ => trivial), zr_4 hKc hPc (q0 := 0) rfl, ax_pre hPc hKc hDc (fun _ _ => trivial)⟩ rfl rfl hl.1 rfl (lv_room (Nat.le_of_ble_eq_true rfl)) dX4_weigh_94 ⟨Nat.le_of_ble_eq_true rfl, Nat.le_of_ble_eq_true rfl⟩) hS (fun q _ h => hFc q h) hFc (fun r94 u t H locs ht hvm hw hB hz1 hk1 hS => ?_)
                    obtain ⟨hP1, hK1, hD1⟩ := hB
                    rw [ht] at hP1
                    obtain ⟨hP, hD⟩ := zc_back (w := [(a0, .inr (4, [.int x4, .ref a0_1, .ref a0_2])), (a0_2, .inl (ka0_2, 549, .inl (j60a0_2_a))), (a0_1, .inl (ka0_1, 61, .inl (fa0_1)))]) hP hD hCc hk1 hFc hP1 hD1 [.inr 0, .inr 1, .inr 2] (by decide +kernel) rfl
                    refine va_iast hx hb hK hP hD hS 1 0 rfl rfl (ai_in bx82.1 bx82.2 (by decide) (by decide)) dX4_weigh_97 (fun H locs hP hD hS => ?_)
                    obtain ⟨f97, hP, hD⟩ : ∃ f97 : Nat → Int32, va_P (dC, dI) vwCl [(a0, .inr (4, [.int x4, .ref a0_1, .ref a0_2])), (a0_2, .inl (ka0_2, 549, .inl (f97))), (a0_1, .inl (ka0_1, 61, .inl (fa0_1)))] H ∧ va_D A [(a0, .inr (4, [.int x4, .ref a0_1, .ref a0_2])), (a0_2, .inl (ka0_2, 549, .inl (f97))), (a0_1, .inl (ka0_1, 61, .inl (fa0_1)))] := ⟨_, hP, hD⟩
                    obtain ⟨x98, ex98⟩ : ∃ y : Int32, y = j60l5 + Int32.ofInt 1 := ⟨_, rfl⟩
                    have qx98 : x98.toInt = j60l5.toInt + 1 := ai_inc ex98 (by decide) (by decide) u66f_j60l5 (by decide)
                    have bx98 : (1 : Int) ≤ x98.toInt ∧ x98.toInt ≤ 9 := ⟨by rw [qx98]; exact Int.add_le_add bj60l5_l (Int.le_refl _), by rw [qx98]; exact Int.add_le_add u66f_j60l5 (Int.le_refl _)⟩
                    refine lv_iinc (v := x98) (lv' := [(5, .int x98), (0, .ref a0), (4, .int j51l4)]) hx hb dX4_weigh_98 hl (k := 2) rfl ex98.symm (by decide) rfl (fun ls hl => ?_)
                    refine lv_goto (tgt := 60) hx hb dX4_weigh_101 (by decide) ?_
                    exact (hK0 _ _ _).mp (ih60 x98 f97 _ _ _ (by have h0 := qx98; omega) (Int.le_trans zq4 bx98.1) bx98.2 hP hD hS (lv_sub hl [1, 2, 0] rfl))
              exact (hK0 _ _ _).mp (J60 10 0 j51a0_2_a _ _ _ (by have h1 : (0 : Int) ≤ (0 : Int32).toInt := zq5; have h2 : (0 : Int32).toInt ≤ (0 : Int) := zq6; omega) zq5 (Int.le_trans zq6 zq7) hP hD hS (lv_sub hl [1, 2, 0] rfl))
        exact (hK0 _ _ _).mp (J51 61 x13 j20a0_2_a _ _ _ (by have h1 : (0 : Int) ≤ x13.toInt := bx13.1; have h2 : x13.toInt ≤ (60 : Int) := bx13.2; omega) bx13.1 bx13.2 hP hD hS (lv_sub hl [1, 0] rfl))
      · have gc26 := ai_nle c26
        have u26f_j20l4 : j20l4.toInt ≤ (8 : Int) := ai_lthi gc26 bx4.2
        have l26f_x4 : (1 : Int) ≤ x4.toInt := ai_ltlo gc26 bj20l4_l
        refine lv_aload_n hx hb dX4_weigh_29 rfl (lv_at hl 0 rfl) ?_
        refine va_get (D := (dC, dI)) (ci := 4) (v := .ref a0_2) (C := RX4) (T := TX4) (N := 3) hx hb hts zi_X4_weigh_4 hown hK hP 0 rfl rfl 2 (by decide) (hts (.fieldLink RX4 15 "WaxTurns$Routes" "bestBehind" "[I") (List.mem_cons_of_mem _ (List.mem_append_left _ (List.mem_of_getElem? (i := 5) rfl)))) (fun _ h9 => h9) rfl dX4_weigh_30 ?_
        refine lv_iload_n hx hb dX4_weigh_33 rfl (lv_at hl 1 rfl) ?_
        refine lv_bipush (v := 9) hx hb dX4_weigh_34 zk_bipush_9 ?_
        refine lv_imul hx hb dX4_weigh_36 ?_
        refine lv_topi (fun x36 ex36 => ?_)
        have qx36 : x36.toInt = x13.toInt * (9 : Int32).toInt ∧ (0 : Int) ≤ x36.toInt ∧ x36.toInt ≤ 540 := ai_mul ex36 ⟨bx13.1, bx13.2⟩ ⟨zq2, zq3⟩ (by decide) (by decide) zq47
        have wx36 : x36.toInt = x13.toInt * 9 := qx36.1
        refine lv_iload hx hb dX4_weigh_37 (lv_at hl 2 rfl) ?_
        refine lv_iadd hx hb dX4_weigh_39 ?_
        refine lv_topi (fun x39 ex39 => ?_)
        have qx39 : x39.toInt = x36.toInt + j20l4.toInt := ai_add ex39 ⟨qx36.2.1, qx36.2.2⟩ ⟨bj20l4_l, u26f_j20l4⟩ (by decide) (by decide)
        have bx39 : (0 : Int) ≤ x39.toInt ∧ x39.toInt ≤ 548 := ⟨by rw [qx39]; exact Int.add_le_add qx36.2.1 bj20l4_l, by rw [qx39]; exact Int.add_le_add qx36.2.2 u26f_j20l4⟩
        refine lv_iconst (v := 0) hx hb dX4_weigh_40 zk_iconst_0 ?_
        refine va_iast hx hb hK hP hD hS 1 0 rfl rfl (ai_in bx39.1 bx39.2 (by decide) (by decide)) dX4_weigh_41 (fun H locs hP hD hS => ?_)
        obtain ⟨f41, hP, hD⟩ : ∃ f41 : Nat → Int32, va_P (dC, dI) vwCl [(a0, .inr (4, [.int x4, .ref a0_1, .ref a0_2])), (a0_2, .inl (ka0_2, 549, .inl (f41))), (a0_1, .inl (ka0_1, 61, .inl (fa0_1)))] H ∧ va_D A [(a0, .inr (4, [.int x4, .ref a0_1, .ref a0_2])), (a0_2, .inl (ka0_2, 549, .inl (f41))), (a0_1, .inl (ka0_1, 61, .inl (fa0_1)))] := ⟨_, hP, hD⟩
        obtain ⟨x42, ex42⟩ : ∃ y : Int32, y = j20l4 + Int32.ofInt 1 := ⟨_, rfl⟩
        have qx42 : x42.toInt = j20l4.toInt + 1 := ai_inc ex42 (by decide) (by decide) u26f_j20l4 (by decide)
        have bx42 : (1 : Int) ≤ x42.toInt ∧ x42.toInt ≤ 9 := ⟨by rw [qx42]; exact Int.add_le_add bj20l4_l (Int.le_refl _), by rw [qx42]; exact Int.add_le_add u26f_j20l4 (Int.le_refl _)⟩
        refine lv_iinc (v := x42) (lv' := [(4, .int x42), (0, .ref a0), (3, .int x13)]) hx hb dX4_weigh_42 hl (k := 2) rfl ex42.symm (by decide) rfl (fun ls hl => ?_)
        refine lv_goto (tgt := 20) hx hb dX4_weigh_45 (by decide) ?_
        exact (hK0 _ _ _).mp (ih20 x42 f41 _ _ _ (by have h0 := qx42; omega) (Int.le_trans zq4 bx42.1) bx42.2 hP hD hS (lv_sub hl [1, 2, 0] rfl))
  exact (hK0 _ _ _).mp (J20 10 0 fa0_2 _ _ _ (by have h1 : (0 : Int) ≤ (0 : Int32).toInt := zq5; have h2 : (0 : Int32).toInt ≤ (0 : Int) := zq6; omega) zq5 (Int.le_trans zq6 zq7) hP hD hS (lv_sub hl [2, 1, 0] rfl))

set_option maxHeartbeats 4000000 in
set_option maxRecDepth 100000 in
theorem c_X4_minutesWith (l : Launch) (dC : Nat → ClassId) (dI : Nat → Nat → Nat) (sz : Nat) (a0 : Nat) (a1 : Int32) (a0_0 : Int32) (a0g_1 : Value) (a0_2 : Nat) (ka0_2 : ClassId) (fa0_2 : Nat → Int32) (ba0_0_l : (0 : Int) ≤ a0_0.toInt) (ba0_0_u : a0_0.toInt ≤ (9 : Int)) : Met l yX4_minutesWith wsX4_minutesWith ({ frames := 1, cells := 0, slots := 0, locals := 22 }) (va_Pc [.ref a0, .int a1] (ax_C dC dI sz [(a0, .inr (4, [.int a0_0, a0g_1, .ref a0_2])), (a0_2, .inl (ka0_2, 549, .inl (fa0_2)))] [(ka0_2, .int)] (fun U => va_Nw (.methodLinkNest RX4 18 yX7_within RX7) U))) (va_Qi (fun (r : Int32) (_ : Unit) => True) (fun (_ : Unit) (t : State) => ax_B dC dI (va_A [(a0, .inr (4, [.int a0_0, a0g_1, .ref a0_2])), (a0_2, .inl (ka0_2, 549, .inl (fa0_2)))] sz) [(a0, .inr (4, [.int a0_0, a0g_1, .ref a0_2])), (a0_2, .inl (ka0_2, 549, .inl (fa0_2)))] [(ka0_2, .int)] t) (va_A [(a0, .inr (4, [.int a0_0, a0g_1, .ref a0_2])), (a0_2, .inl (ka0_2, 549, .inl (fa0_2)))] sz)) 0 0 (va_A [(a0, .inr (4, [.int a0_0, a0g_1, .ref a0_2])), (a0_2, .inl (ka0_2, 549, .inl (fa0_2)))] sz) := by
  refine Met.ofW (cc := cX4_minutesWith) (maxL := 2) (ret := (some .int)) (by decide) rfl ?_
  intro p e s m args below meth c s₁ B hml hv
  obtain ⟨rfl, hsz, hP, hK, hD0, hE⟩ := hv
  have hx := B.exec
  have hb := B.bytes
  have hr := B.returns
  have hts := atoms_spec (ws := wsX4_minutesWith) B.pre
  have hown : s.vm.findClass RX4 = some m.cls := findClass_of_methodNamed B.named
  have hlocks := B.notSynchronized
  subst hsz
  have hD := hD0.self (sz := s.heap.size)
  generalize hAe : va_A [(a0, .inr (4, [.int a0_0, a0g_1, .ref a0_2])), (a0_2, .inl (ka0_2, 549, .inl (fa0_2)))] s.heap.size = A at hD ⊢
  have hA : ∀ q : Nat, s.heap.size ≤ q → A q := fun q h => by rw [← hAe]; exact Or.inr h
  have hS : va_S A s.heap s.heap [] := va_S.rf
  have hP : va_P (dC, dI) vwCl [(a0, .inr (4, [.int a0_0, a0g_1, .ref a0_2])), (a0_2, .inl (ka0_2, 549, .inl (fa0_2)))] s.heap := hP
  have hE0 := hE
  have hl := lv_entry ([.ref a0, .int a1]) (n := 2) (Nat.le_of_ble_eq_true rfl)
  rw [lg_entry_eq]
  generalize (lg_sl ([.ref a0, .int a1]) ++ List.replicate (2 - (lg_sl ([.ref a0, .int a1])).length) Slot.unset).toArray = ls at hl ⊢
  have hl : lv_has ls 2 [(0, .ref a0), (1, .int a1)] := hl
  refine lv_iload_n hx hb dX4_minutesWith_0 rfl (lv_at hl 1 rfl) ?_
  refine lv_iconst (v := 0) hx hb dX4_minutesWith_1 zk_iconst_0 ?_
  refine lv_aload_n hx hb dX4_minutesWith_2 rfl (lv_at hl 0 rfl) ?_
  refine va_get (D := (dC, dI)) (ci := 4) (v := .int a0_0) (C := RX4) (T := TX4) (N := 3) hx hb hts zi_X4_minutesWith_4 hown hK hP 0 rfl rfl 0 (by decide) (hts (.fieldLink RX4 28 "WaxTurns$Routes" "figures" "I") (List.mem_cons_of_mem _ (List.mem_append_left _ (List.mem_of_getElem? (i := 0) rfl)))) (fun _ h9 => h9) rfl dX4_minutesWith_3 ?_
  refine lv_iconst (v := 1) hx hb dX4_minutesWith_6 zk_iconst_1 ?_
  refine lv_isub hx hb dX4_minutesWith_7 ?_
  refine lv_topi (fun x7 ex7 => ?_)
  have qx7 : x7.toInt = a0_0.toInt - (1 : Int32).toInt := ai_sub ex7 ⟨ba0_0_l, ba0_0_u⟩ ⟨zq1, zq0⟩ (by decide) (by decide)
  have bx7 : (-1 : Int) ≤ x7.toInt ∧ x7.toInt ≤ 8 := ⟨by rw [qx7]; exact Int.sub_le_sub ba0_0_l zq0, by rw [qx7]; exact Int.sub_le_sub ba0_0_u zq1⟩
  have wx7 : x7.toInt = a0_0.toInt - 1 := qx7
  obtain ⟨hPc, hDc, hFc, hCc⟩ := zc_cut (wc := []) hP hD hS hA [] (by decide +kernel) rfl
  have hKc := hK.sub (tys' := []) [] rfl
  refine va_calli (va_runSN (As := [.int a1, .int 0, .int x7]) (rest := []) ⟨hx, hb, hml, hown, hts⟩ (c_X7_within l dC dI s.heap.size a1 0 x7 ) ⟨va_cnB 3 hts gX4_minutesWith_X7_within_n18 rfl rfl rfl hE0 (hts (.initialized RX7) (List.mem_cons_of_mem _ (List.mem_append_left _ (List.mem_of_getElem? (i := 3) rfl)))) zd_X7_within.2 ⟨Nat.le_of_ble_eq_true rfl, Nat.le_of_ble_eq_true rfl⟩, (hts (.static yX7_within) (List.mem_cons_of_mem _ (List.mem_append_left _ (List.mem_of_getElem? (i := 2) rfl)))), trivial⟩ ⟨ax_blind (fun _ _ _ _ _ => trivial), ax_pre hPc hKc hDc (fun _ _ => trivial)⟩ rfl rfl hl.1 rfl (lv_room (Nat.le_of_ble_eq_true rfl)) dX4_minutesWith_8 ⟨Nat.le_of_ble_eq_true rfl, Nat.le_of_ble_eq_true rfl⟩) hS (fun q _ h => hFc q h) hFc (fun r8 u t H locs ht hvm hw hB hz1 hk1 hS => ?_)
  obtain ⟨hP1, hK1, hD1⟩ := hB
  rw [ht] at hP1
  obtain ⟨hP, hD⟩ := zc_back (w := [(a0, .inr (4, [.int a0_0, a0g_1, .ref a0_2])), (a0_2, .inl (ka0_2, 549, .inl (fa0_2)))]) hP hD hCc hk1 hFc hP1 hD1 [.inl 0, .inl 1] (by decide +kernel) rfl
  rcases hw with hw | hw
  · obtain ⟨hw, h8⟩ := hw
    subst hw
    have l8k0_a1 : (0 : Int) ≤ a1.toInt := Int.le_trans zq5 h8.1
    have u8k0_a1 : a1.toInt ≤ (8 : Int) := Int.le_trans h8.2 bx7.2
    have l8k0_x7 : (0 : Int) ≤ x7.toInt := Int.le_trans zq5 (Int.le_trans h8.1 h8.2)
    have l8k0_a0_0 : (1 : Int) ≤ a0_0.toInt := by have h1 := wx7; have h2 := l8k0_x7; omega
    refine lv_if_eq (tgt := 23) hx hb dX4_minutesWith_11 (by decide) (fun c11 => absurd c11 (by decide +kernel)) (fun _ => ?_)
    refine lv_aload_n hx hb dX4_minutesWith_14 rfl (lv_at hl 0 rfl) ?_
    refine va_get (D := (dC, dI)) (ci := 4) (v := .ref a0_2) (C := RX4) (T := TX4) (N := 3) hx hb hts zi_X4_minutesWith_4 hown hK hP 0 rfl rfl 2 (by decide) (hts (.fieldLink RX4 15 "WaxTurns$Routes" "bestBehind" "[I") (List.mem_cons_of_mem _ (List.mem_append_left _ (List.mem_of_getElem? (i := 1) rfl)))) (fun _ h9 => h9) rfl dX4_minutesWith_15 ?_
    refine lv_iload_n hx hb dX4_minutesWith_18 rfl (lv_at hl 1 rfl) ?_
    refine va_iald hx hb hK hP 1 0 rfl rfl (ai_in l8k0_a1 u8k0_a1 (by decide) (by decide)) dX4_minutesWith_19 ?_
    refine lv_topi (fun x19 ex19 => ?_)
    refine lv_goto (tgt := 24) hx hb dX4_minutesWith_20 (by decide) ?_
    exact W.iret (v := x19) hx hb hr (fun t ht hW => ⟨⟨x19, (), rfl, trivial, by rw [ht]; exact hP, va_K.moved hW.alike hK, hD⟩, hS.F ht⟩) hS.2.2 dX4_minutesWith_24
  · obtain ⟨hw, h8⟩ := hw
    subst hw
    refine lv_if_eq (tgt := 23) hx hb dX4_minutesWith_11 (by decide) (fun _ => ?_) (fun c11 => absurd (by decide +kernel) c11)
    refine lv_iconst (v := 0) hx hb dX4_minutesWith_23 zk_iconst_0 ?_
    exact W.iret (v := 0) hx hb hr (fun t ht hW => ⟨⟨0, (), rfl, trivial, by rw [ht]; exact hP, va_K.moved hW.alike hK, hD⟩, hS.F ht⟩) hS.2.2 dX4_minutesWith_24

set_option maxHeartbeats 4000000 in
set_option maxRecDepth 100000 in
theorem c_X4_placeIn (l : Launch) (dC : Nat → ClassId) (dI : Nat → Nat → Nat) (sz : Nat) (a0 : Nat) (a1 : Int32) (a2 : Int32) (a0_0 : Int32) (a0_1 : Nat) (a0_2 : Nat) (ka0_2 : ClassId) (fa0_2 : Nat → Int32) (ka0_1 : ClassId) (fa0_1 : Nat → Int32) (ba2_l : (0 : Int) ≤ a2.toInt) (ba2_u : a2.toInt ≤ (8 : Int)) (ba0_0_l : (0 : Int) ≤ a0_0.toInt) (ba0_0_u : a0_0.toInt ≤ (9 : Int)) : Met l yX4_placeIn wsX4_placeIn ({ frames := 2, cells := 0, slots := 0, locals := 45 }) (va_Pc [.ref a0, .int a1, .int a2] (ax_C dC dI sz [(a0, .inr (4, [.int a0_0, .ref a0_1, .ref a0_2])), (a0_2, .inl (ka0_2, 549, .inl (fa0_2))), (a0_1, .inl (ka0_1, 61, .inl (fa0_1)))] [(ka0_2, .int), (ka0_1, .int)] (fun _ => True))) (va_Qi (fun (r : Int32) (_ : Unit) => (0 : Int) ≤ r.toInt ∧ r.toInt ≤ (8 : Int)) (fun (_ : Unit) (t : State) => ax_B dC dI (va_A [(a0, .inr (4, [.int a0_0, .ref a0_1, .ref a0_2])), (a0_2, .inl (ka0_2, 549, .inl (fa0_2))), (a0_1, .inl (ka0_1, 61, .inl (fa0_1)))] sz) [(a0, .inr (4, [.int a0_0, .ref a0_1, .ref a0_2])), (a0_2, .inl (ka0_2, 549, .inl (fa0_2))), (a0_1, .inl (ka0_1, 61, .inl (fa0_1)))] [(ka0_2, .int), (ka0_1, .int)] t) (va_A [(a0, .inr (4, [.int a0_0, .ref a0_1, .ref a0_2])), (a0_2, .inl (ka0_2, 549, .inl (fa0_2))), (a0_1, .inl (ka0_1, 61, .inl (fa0_1)))] sz)) 0 0 (va_A [(a0, .inr (4, [.int a0_0, .ref a0_1, .ref a0_2])), (a0_2, .inl (ka0_2, 549, .inl (fa0_2))), (a0_1, .inl (ka0_1, 61, .inl (fa0_1)))] sz) := by
  refine Met.ofW (cc := cX4_placeIn) (maxL := 5) (ret := (some .int)) (by decide) rfl ?_
  intro p e s m args below meth c s₁ B hml hv
  obtain ⟨rfl, hsz, hP, hK, hD0, hE⟩ := hv
  have hx := B.exec
  have hb := B.bytes
  have hr := B.returns
  have hts := atoms_spec (ws := wsX4_placeIn) B.pre
  have hown : s.vm.findClass RX4 = some m.cls := findClass_of_methodNamed B.named
  have hlocks := B.notSynchronized
  subst hsz
  have hD := hD0.self (sz := s.heap.size)
  generalize hAe : va_A [(a0, .inr (4, [.int a0_0, .ref a0_1, .ref a0_2])), (a0_2, .inl (ka0_2, 549, .inl (fa0_2))), (a0_1, .inl (ka0_1, 61, .inl (fa0_1)))] s.heap.size = A at hD ⊢
  have hA : ∀ q : Nat, s.heap.size ≤ q → A q := fun q h => by rw [← hAe]; exact Or.inr h
  have hS : va_S A s.heap s.heap [] := va_S.rf
  have hP : va_P (dC, dI) vwCl [(a0, .inr (4, [.int a0_0, .ref a0_1, .ref a0_2])), (a0_2, .inl (ka0_2, 549, .inl (fa0_2))), (a0_1, .inl (ka0_1, 61, .inl (fa0_1)))] s.heap := hP
  have hl := lv_entry ([.ref a0, .int a1, .int a2]) (n := 5) (Nat.le_of_ble_eq_true rfl)
  rw [lg_entry_eq]
  generalize (lg_sl ([.ref a0, .int a1, .int a2]) ++ List.replicate (5 - (lg_sl ([.ref a0, .int a1, .int a2])).length) Slot.unset).toArray = ls at hl ⊢
  have hl : lv_has ls 5 [(0, .ref a0), (1, .int a1), (2, .int a2)] := hl
  refine ai_open (fun K hK0 => ?_)
  refine (hK0 _ _ _).mpr ?_
  refine lv_iload_n hx hb dX4_placeIn_0 rfl (lv_at hl 2 rfl) ?_
  refine lv_istore_n (lv' := [(3, .int a2), (0, .ref a0), (1, .int a1), (2, .int a2)]) hx hb dX4_placeIn_1 rfl hl (by decide) rfl (fun ls hl => ?_)
  refine lv_iconst (v := 1) hx hb dX4_placeIn_2 zk_iconst_1 ?_
  refine lv_istore (lv' := [(4, .int 1), (3, .int a2), (0, .ref a0), (1, .int a1), (2, .int a2)]) hx hb dX4_placeIn_3 hl (by decide) rfl (fun ls hl => ?_)
  have J5 : ∀ (n : Nat) (j5l4 : Int32) (j5l3 : Int32) (H : Heap) (locs : List Loc) (ls : Array Slot), (62 : Int) - j5l4.toInt ≤ (n : Int) → (1 : Int) ≤ j5l4.toInt → j5l4.toInt ≤ (61 : Int) → (0 : Int) ≤ j5l3.toInt → j5l3.toInt ≤ (8 : Int) → va_P (dC, dI) vwCl [(a0, .inr (4, [.int a0_0, .ref a0_1, .ref a0_2])), (a0_2, .inl (ka0_2, 549, .inl (fa0_2))), (a0_1, .inl (ka0_1, 61, .inl (fa0_1)))] H → va_D A [(a0, .inr (4, [.int a0_0, .ref a0_1, .ref a0_2])), (a0_2, .inl (ka0_2, 549, .inl (fa0_2))), (a0_1, .inl (ka0_1, 61, .inl (fa0_1)))] → va_S A s.heap H locs → lv_has ls 5 [(0, .ref a0), (1, .int a1), (3, .int j5l3), (4, .int j5l4)] → K H locs (F0 m 5 ls []) := by
    intro n
    induction n with
    | zero =>
      intro j5l4 j5l3 H locs ls hm bj5l4_l bj5l4_u bj5l3_l bj5l3_u hP hD hS hl
      have h8 := ai_min j5l4
      have h9 := ai_max j5l4
      exact absurd hm (by omega)
    | succ n ih5 =>
      intro j5l4 j5l3 H locs ls hm bj5l4_l bj5l4_u bj5l3_l bj5l3_u hP hD hS hl
      refine (hK0 _ _ _).mpr ?_
      have hm5 := hm
      refine lv_iload hx hb dX4_placeIn_5 (lv_at hl 3 rfl) ?_
      refine lv_iload_n hx hb dX4_placeIn_7 rfl (lv_at hl 1 rfl) ?_
      refine lv_icmp_gt (tgt := 32) hx hb dX4_placeIn_8 (by decide) (fun c8 => ?_) (fun c8 => ?_)
      · have gc8 := ai_lt c8
        have u8t_a1 : a1.toInt ≤ (60 : Int) := ai_lthi gc8 bj5l4_u
        have l8t_j5l4 : (1 : Int) ≤ j5l4.toInt := bj5l4_l
        refine lv_iload_n hx hb dX4_placeIn_32 rfl (lv_at hl 2 rfl) ?_
        exact W.iret (v := j5l3) hx hb hr (fun t ht hW => ⟨⟨j5l3, (), rfl, ⟨bj5l3_l, bj5l3_u⟩, by rw [ht]; exact hP, va_K.moved hW.alike hK, hD⟩, hS.F ht⟩) hS.2.2 dX4_placeIn_33
      · have gc8 := ai_nlt c8
        have l8f_a1 : (1 : Int) ≤ a1.toInt := Int.le_trans bj5l4_l gc8
        refine lv_iload hx hb dX4_placeIn_11 (lv_at hl 3 rfl) ?_
        refine lv_bipush (v := 60) hx hb dX4_placeIn_13 zk_bipush_60 ?_
        refine lv_icmp_gt (tgt := 32) hx hb dX4_placeIn_15 (by decide) (fun c15 => ?_) (fun c15 => ?_)
        · have gc15 := ai_lt c15
          have l15t_j5l4 : (61 : Int) ≤ j5l4.toInt := ai_ltlo gc15 zq51
          refine lv_iload_n hx hb dX4_placeIn_32 rfl (lv_at hl 2 rfl) ?_
          exact W.iret (v := j5l3) hx hb hr (fun t ht hW => ⟨⟨j5l3, (), rfl, ⟨bj5l3_l, bj5l3_u⟩, by rw [ht]; exact hP, va_K.moved hW.alike hK, hD⟩, hS.F ht⟩) hS.2.2 dX4_placeIn_33
        · have gc15 := ai_nlt c15
          have u15f_j5l4 : j5l4.toInt ≤ (60 : Int) := Int.le_trans gc15 zq46
          refine lv_aload_n hx hb dX4_placeIn_18 rfl (lv_at hl 0 rfl) ?_
          refine lv_iload hx hb dX4_placeIn_19 (lv_at hl 3 rfl) ?_
          refine lv_iload_n hx hb dX4_placeIn_21 rfl (lv_at hl 2 rfl) ?_
          obtain ⟨hPc, hDc, hFc, hCc⟩ := zc_cut (wc := [(a0, .inr (4, [.int a0_0, .ref a0_1, .ref a0_2])), (a0_2, .inl (ka0_2, 549, .inl (fa0_2))), (a0_1, .inl (ka0_1, 61, .inl (fa0_1)))]) hP hD hS hA [0, 1, 2] (by decide +kernel) rfl
          have hKc := hK.sub (tys' := [(ka0_2, .int), (ka0_1, .int)]) [0, 1] rfl
          refine va_calli (va_runV (As := [.int j5l4, .int j5l3]) (rest := []) ⟨hx, hb, hml, hown, hts⟩ (c_X4_step l dC dI H.size a0 j5l4 j5l3 a0_0 a0_1 a0_2 ka0_2 fa0_2 ka0_1 fa0_1 (Int.le_trans zq4 bj5l4_l) u15f_j5l4 bj5l3_l bj5l3_u ba0_0_l ba0_0_u) (cwV 2 hts gX4_placeIn_X4_step rfl rfl rfl zd_X4_step ⟨Nat.le_of_ble_eq_true rfl, Nat.le_of_ble_eq_true rfl⟩) ⟨ax_blind (fun _ _ _ _ _ => trivial), zr_4 hKc hPc (q0 := 0) rfl, ax_pre hPc hKc hDc (fun _ _ => trivial)⟩ rfl rfl hl.1 rfl (lv_room (Nat.le_of_ble_eq_true rfl)) dX4_placeIn_22 ⟨Nat.le_of_ble_eq_true rfl, Nat.le_of_ble_eq_true rfl⟩) hS (fun q _ h => hFc q h) hFc (fun r22 u t H locs ht hvm hw hB hz1 hk1 hS => ?_)
          obtain ⟨hP1, hK1, hD1⟩ := hB
          rw [ht] at hP1
          obtain ⟨hP, hD⟩ := zc_back (w := [(a0, .inr (4, [.int a0_0, .ref a0_1, .ref a0_2])), (a0_2, .inl (ka0_2, 549, .inl (fa0_2))), (a0_1, .inl (ka0_1, 61, .inl (fa0_1)))]) hP hD hCc hk1 hFc hP1 hD1 [.inr 0, .inr 1, .inr 2] (by decide +kernel) rfl
          have hw : (0 : Int) ≤ r22.toInt ∧ r22.toInt ≤ (8 : Int) := hw
          obtain ⟨h22_0, h22_1⟩ := hw
          refine lv_istore_n (lv' := [(3, .int r22), (0, .ref a0), (1, .int a1), (4, .int j5l4)]) hx hb dX4_placeIn_25 rfl hl (by decide) rfl (fun ls hl => ?_)
          obtain ⟨x26, ex26⟩ : ∃ y : Int32, y = j5l4 + Int32.ofInt 1 := ⟨_, rfl⟩
          have qx26 : x26.toInt = j5l4.toInt + 1 := ai_inc ex26 (by decide) (by decide) u15f_j5l4 (by decide)
          have bx26 : (2 : Int) ≤ x26.toInt ∧ x26.toInt ≤ 61 := ⟨by rw [qx26]; exact Int.add_le_add bj5l4_l (Int.le_refl _), by rw [qx26]; exact Int.add_le_add u15f_j5l4 (Int.le_refl _)⟩
          refine lv_iinc (v := x26) (lv' := [(4, .int x26), (3, .int r22), (0, .ref a0), (1, .int a1)]) hx hb dX4_placeIn_26 hl (k := 3) rfl ex26.symm (by decide) rfl (fun ls hl => ?_)
          refine lv_goto (tgt := 5) hx hb dX4_placeIn_29 (by decide) ?_
          exact (hK0 _ _ _).mp (ih5 x26 r22 _ _ _ (by have h0 := qx26; omega) (Int.le_trans zq54 bx26.1) bx26.2 h22_0 h22_1 hP hD hS (lv_sub hl [2, 3, 1, 0] rfl))
  exact (hK0 _ _ _).mp (J5 61 1 a2 _ _ _ (by have h1 : (1 : Int) ≤ (1 : Int32).toInt := zq1; have h2 : (1 : Int32).toInt ≤ (1 : Int) := zq0; omega) zq1 (Int.le_trans zq0 zq55) ba2_l ba2_u hP hD hS (lv_sub hl [2, 3, 1, 0] rfl))

set_option maxHeartbeats 4000000 in
set_option maxRecDepth 100000 in
theorem c_X7_hasGallery (l : Launch) (dC : Nat → ClassId) (dI : Nat → Nat → Nat) (sz : Nat) (a0 : Nat) (a0g_0 a0g_1 a0g_2 a0g_3 a0g_4 a0g_5 a0g_6 a0g_8 a0g_9 a0g_10 : Value) (a0_7 : Nat) (a0_7_0 : Int32) (a0_7g_1 a0_7g_2 a0_7g_3 a0_7g_4 a0_7g_5 a0_7g_6 a0_7g_7 a0_7g_8 a0_7g_9 a0_7g_10 a0_7g_11 a0_7g_12 a0_7g_13 a0_7g_14 : Value) (ba0_7_0_l : (0 : Int) ≤ a0_7_0.toInt) (ba0_7_0_u : a0_7_0.toInt ≤ (9 : Int)) : Met l yX7_hasGallery wsX7_hasGallery ({ frames := 0, cells := 0, slots := 0, locals := 0 }) (va_Pc [.ref a0] (ax_C dC dI sz [(a0, .inr (7, [a0g_0, a0g_1, a0g_2, a0g_3, a0g_4, a0g_5, a0g_6, .ref a0_7, a0g_8, a0g_9, a0g_10])), (a0_7, .inr (0, [.int a0_7_0, a0_7g_1, a0_7g_2, a0_7g_3, a0_7g_4, a0_7g_5, a0_7g_6, a0_7g_7, a0_7g_8, a0_7g_9, a0_7g_10, a0_7g_11, a0_7g_12, a0_7g_13, a0_7g_14]))] [] (fun _ => True))) (va_Qi (fun (r : Int32) (_ : Unit) => (r = 1 ∧ (1 : Int) ≤ a0_7_0.toInt ∧ a0_7_0.toInt ≤ (9 : Int)) ∨ (r = 0 ∧ (0 : Int) ≤ a0_7_0.toInt ∧ a0_7_0.toInt ≤ (0 : Int))) (fun (_ : Unit) (t : State) => ax_B dC dI (va_A [(a0, .inr (7, [a0g_0, a0g_1, a0g_2, a0g_3, a0g_4, a0g_5, a0g_6, .ref a0_7, a0g_8, a0g_9, a0g_10])), (a0_7, .inr (0, [.int a0_7_0, a0_7g_1, a0_7g_2, a0_7g_3, a0_7g_4, a0_7g_5, a0_7g_6, a0_7g_7, a0_7g_8, a0_7g_9, a0_7g_10, a0_7g_11, a0_7g_12, a0_7g_13, a0_7g_14]))] sz) [(a0, .inr (7, [a0g_0, a0g_1, a0g_2, a0g_3, a0g_4, a0g_5, a0g_6, .ref a0_7, a0g_8, a0g_9, a0g_10])), (a0_7, .inr (0, [.int a0_7_0, a0_7g_1, a0_7g_2, a0_7g_3, a0_7g_4, a0_7g_5, a0_7g_6, a0_7g_7, a0_7g_8, a0_7g_9, a0_7g_10, a0_7g_11, a0_7g_12, a0_7g_13, a0_7g_14]))] [] t) (va_A [(a0, .inr (7, [a0g_0, a0g_1, a0g_2, a0g_3, a0g_4, a0g_5, a0g_6, .ref a0_7, a0g_8, a0g_9, a0g_10])), (a0_7, .inr (0, [.int a0_7_0, a0_7g_1, a0_7g_2, a0_7g_3, a0_7g_4, a0_7g_5, a0_7g_6, a0_7g_7, a0_7g_8, a0_7g_9, a0_7g_10, a0_7g_11, a0_7g_12, a0_7g_13, a0_7g_14]))] sz)) 0 0 (va_A [(a0, .inr (7, [a0g_0, a0g_1, a0g_2, a0g_3, a0g_4, a0g_5, a0g_6, .ref a0_7, a0g_8, a0g_9, a0g_10])), (a0_7, .inr (0, [.int a0_7_0, a0_7g_1, a0_7g_2, a0_7g_3, a0_7g_4, a0_7g_5, a0_7g_6, a0_7g_7, a0_7g_8, a0_7g_9, a0_7g_10, a0_7g_11, a0_7g_12, a0_7g_13, a0_7g_14]))] sz) := by
  refine Met.ofW (cc := cX7_hasGallery) (maxL := 1) (ret := (some .boolean)) (by decide) rfl ?_
  intro p e s m args below meth c s₁ B hml hv
  obtain ⟨rfl, hsz, hP, hK, hD0, hE⟩ := hv
  have hx := B.exec
  have hb := B.bytes
  have hr := B.returns
  have hts := atoms_spec (ws := wsX7_hasGallery) B.pre
  have hown : s.vm.findClass RX7 = some m.cls := findClass_of_methodNamed B.named
  have hlocks := B.notSynchronized
  subst hsz
  have hD := hD0.self (sz := s.heap.size)
  generalize hAe : va_A [(a0, .inr (7, [a0g_0, a0g_1, a0g_2, a0g_3, a0g_4, a0g_5, a0g_6, .ref a0_7, a0g_8, a0g_9, a0g_10])), (a0_7, .inr (0, [.int a0_7_0, a0_7g_1, a0_7g_2, a0_7g_3, a0_7g_4, a0_7g_5, a0_7g_6, a0_7g_7, a0_7g_8, a0_7g_9, a0_7g_10, a0_7g_11, a0_7g_12, a0_7g_13, a0_7g_14]))] s.heap.size = A at hD ⊢
  have hA : ∀ q : Nat, s.heap.size ≤ q → A q := fun q h => by rw [← hAe]; exact Or.inr h
  have hS : va_S A s.heap s.heap [] := va_S.rf
  have hP : va_P (dC, dI) vwCl [(a0, .inr (7, [a0g_0, a0g_1, a0g_2, a0g_3, a0g_4, a0g_5, a0g_6, .ref a0_7, a0g_8, a0g_9, a0g_10])), (a0_7, .inr (0, [.int a0_7_0, a0_7g_1, a0_7g_2, a0_7g_3, a0_7g_4, a0_7g_5, a0_7g_6, a0_7g_7, a0_7g_8, a0_7g_9, a0_7g_10, a0_7g_11, a0_7g_12, a0_7g_13, a0_7g_14]))] s.heap := hP
  have hl := lv_entry ([.ref a0]) (n := 1) (Nat.le_of_ble_eq_true rfl)
  rw [lg_entry_eq]
  generalize (lg_sl ([.ref a0]) ++ List.replicate (1 - (lg_sl ([.ref a0])).length) Slot.unset).toArray = ls at hl ⊢
  have hl : lv_has ls 1 [(0, .ref a0)] := hl
  refine lv_aload_n hx hb dX7_hasGallery_0 rfl (lv_at hl 0 rfl) ?_
  refine va_get (D := (dC, dI)) (ci := 7) (v := .ref a0_7) (C := RX7) (T := TX7) (N := 11) hx hb hts zi_X7_hasGallery_7 hown hK hP 0 rfl rfl 7 (by decide) (hts (.fieldLink RX7 57 "WaxTurns" "hall" "LWaxTurns$Hall;") (List.mem_cons_of_mem _ (List.mem_append_left _ (List.mem_append_left _ (List.mem_of_getElem? (i := 0) rfl))))) (fun _ h9 => h9) rfl dX7_hasGallery_1 ?_
  refine va_get (D := (dC, dI)) (ci := 0) (v := .int a0_7_0) (C := RX0) (T := TX0) (N := 15) hx hb hts zi_X7_hasGallery_0 hown hK hP 1 rfl rfl 0 (by decide) (hts (.fieldLink RX7 110 "WaxTurns$Hall" "figures" "I") (List.mem_cons_of_mem _ (List.mem_append_left _ (List.mem_append_left _ (List.mem_of_getElem? (i := 1) rfl))))) (fun _ h9 => h9) rfl dX7_hasGallery_4 ?_
  refine lv_if_le (tgt := 14) hx hb dX7_hasGallery_7 (by decide) (fun c7 => ?_) (fun c7 => ?_)
  · have gc7 := ai_le c7
    have u7t_a0_7_0 : a0_7_0.toInt ≤ (0 : Int) := Int.le_trans gc7 zq6
    refine lv_iconst (v := 0) hx hb dX7_hasGallery_14 zk_iconst_0 ?_
    exact W.zret (v := 0) hx hb hr rfl (fun t ht hW => ⟨⟨0, (), rfl, (Or.inr (⟨rfl, ba0_7_0_l, u7t_a0_7_0⟩)), by rw [ht]; exact hP, va_K.moved hW.alike hK, hD⟩, hS.F ht⟩) hS.2.2 dX7_hasGallery_15
  · have gc7 := ai_nle c7
    have l7f_a0_7_0 : (1 : Int) ≤ a0_7_0.toInt := ai_ltlo gc7 zq5
    refine lv_iconst (v := 1) hx hb dX7_hasGallery_10 zk_iconst_1 ?_
    refine lv_goto (tgt := 15) hx hb dX7_hasGallery_11 (by decide) ?_
    exact W.zret (v := 1) hx hb hr rfl (fun t ht hW => ⟨⟨1, (), rfl, (Or.inl ⟨rfl, l7f_a0_7_0, ba0_7_0_u⟩), by rw [ht]; exact hP, va_K.moved hW.alike hK, hD⟩, hS.F ht⟩) hS.2.2 dX7_hasGallery_15

set_option maxHeartbeats 4000000 in
set_option maxRecDepth 100000 in
theorem c_X7_isFigure (l : Launch) (dC : Nat → ClassId) (dI : Nat → Nat → Nat) (sz : Nat) (a0 : Nat) (a1 : Int32) (a0g_0 a0g_1 a0g_2 a0g_3 a0g_4 a0g_5 a0g_6 a0g_8 a0g_9 a0g_10 : Value) (a0_7 : Nat) (a0_7_0 : Int32) (a0_7g_1 a0_7g_2 a0_7g_3 a0_7g_4 a0_7g_5 a0_7g_6 a0_7g_7 a0_7g_8 a0_7g_9 a0_7g_10 a0_7g_11 a0_7g_12 a0_7g_13 a0_7g_14 : Value) (ba0_7_0_l : (0 : Int) ≤ a0_7_0.toInt) (ba0_7_0_u : a0_7_0.toInt ≤ (9 : Int)) : Met l yX7_isFigure wsX7_isFigure ({ frames := 1, cells := 0, slots := 0, locals := 22 }) (va_Pc [.ref a0, .int a1] (ax_C dC dI sz [(a0, .inr (7, [a0g_0, a0g_1, a0g_2, a0g_3, a0g_4, a0g_5, a0g_6, .ref a0_7, a0g_8, a0g_9, a0g_10])), (a0_7, .inr (0, [.int a0_7_0, a0_7g_1, a0_7g_2, a0_7g_3, a0_7g_4, a0_7g_5, a0_7g_6, a0_7g_7, a0_7g_8, a0_7g_9, a0_7g_10, a0_7g_11, a0_7g_12, a0_7g_13, a0_7g_14]))] [] (fun _ => True))) (va_Qi (fun (r : Int32) (_ : Unit) => (r = 1 ∧ (0 : Int) ≤ a1.toInt ∧ a1.toInt ≤ (8 : Int) ∧ (1 : Int) ≤ a0_7_0.toInt ∧ a0_7_0.toInt ≤ (9 : Int)) ∨ (r = 0)) (fun (_ : Unit) (t : State) => ax_B dC dI (va_A [(a0, .inr (7, [a0g_0, a0g_1, a0g_2, a0g_3, a0g_4, a0g_5, a0g_6, .ref a0_7, a0g_8, a0g_9, a0g_10])), (a0_7, .inr (0, [.int a0_7_0, a0_7g_1, a0_7g_2, a0_7g_3, a0_7g_4, a0_7g_5, a0_7g_6, a0_7g_7, a0_7g_8, a0_7g_9, a0_7g_10, a0_7g_11, a0_7g_12, a0_7g_13, a0_7g_14]))] sz) [(a0, .inr (7, [a0g_0, a0g_1, a0g_2, a0g_3, a0g_4, a0g_5, a0g_6, .ref a0_7, a0g_8, a0g_9, a0g_10])), (a0_7, .inr (0, [.int a0_7_0, a0_7g_1, a0_7g_2, a0_7g_3, a0_7g_4, a0_7g_5, a0_7g_6, a0_7g_7, a0_7g_8, a0_7g_9, a0_7g_10, a0_7g_11, a0_7g_12, a0_7g_13, a0_7g_14]))] [] t) (va_A [(a0, .inr (7, [a0g_0, a0g_1, a0g_2, a0g_3, a0g_4, a0g_5, a0g_6, .ref a0_7, a0g_8, a0g_9, a0g_10])), (a0_7, .inr (0, [.int a0_7_0, a0_7g_1, a0_7g_2, a0_7g_3, a0_7g_4, a0_7g_5, a0_7g_6, a0_7g_7, a0_7g_8, a0_7g_9, a0_7g_10, a0_7g_11, a0_7g_12, a0_7g_13, a0_7g_14]))] sz)) 0 0 (va_A [(a0, .inr (7, [a0g_0, a0g_1, a0g_2, a0g_3, a0g_4, a0g_5, a0g_6, .ref a0_7, a0g_8, a0g_9, a0g_10])), (a0_7, .inr (0, [.int a0_7_0, a0_7g_1, a0_7g_2, a0_7g_3, a0_7g_4, a0_7g_5, a0_7g_6, a0_7g_7, a0_7g_8, a0_7g_9, a0_7g_10, a0_7g_11, a0_7g_12, a0_7g_13, a0_7g_14]))] sz) := by
  refine Met.ofW (cc := cX7_isFigure) (maxL := 2) (ret := (some .boolean)) (by decide) rfl ?_
  intro p e s m args below meth c s₁ B hml hv
  obtain ⟨rfl, hsz, hP, hK, hD0, hE⟩ := hv
  have hx := B.exec
  have hb := B.bytes
  have hr := B.returns
  have hts := atoms_spec (ws := wsX7_isFigure) B.pre
  have hown : s.vm.findClass RX7 = some m.cls := findClass_of_methodNamed B.named
  have hlocks := B.notSynchronized
  subst hsz
  have hD := hD0.self (sz := s.heap.size)
  generalize hAe : va_A [(a0, .inr (7, [a0g_0, a0g_1, a0g_2, a0g_3, a0g_4, a0g_5, a0g_6, .ref a0_7, a0g_8, a0g_9, a0g_10])), (a0_7, .inr (0, [.int a0_7_0, a0_7g_1, a0_7g_2, a0_7g_3, a0_7g_4, a0_7g_5, a0_7g_6, a0_7g_7, a0_7g_8, a0_7g_9, a0_7g_10, a0_7g_11, a0_7g_12, a0_7g_13, a0_7g_14]))] s.heap.size = A at hD ⊢
  have hA : ∀ q : Nat, s.heap.size ≤ q → A q := fun q h => by rw [← hAe]; exact Or.inr h
  have hS : va_S A s.heap s.heap [] := va_S.rf
  have hP : va_P (dC, dI) vwCl [(a0, .inr (7, [a0g_0, a0g_1, a0g_2, a0g_3, a0g_4, a0g_5, a0g_6, .ref a0_7, a0g_8, a0g_9, a0g_10])), (a0_7, .inr (0, [.int a0_7_0, a0_7g_1, a0_7g_2, a0_7g_3, a0_7g_4, a0_7g_5, a0_7g_6, a0_7g_7, a0_7g_8, a0_7g_9, a0_7g_10, a0_7g_11, a0_7g_12, a0_7g_13, a0_7g_14]))] s.heap := hP
  have hl := lv_entry ([.ref a0, .int a1]) (n := 2) (Nat.le_of_ble_eq_true rfl)
  rw [lg_entry_eq]
  generalize (lg_sl ([.ref a0, .int a1]) ++ List.replicate (2 - (lg_sl ([.ref a0, .int a1])).length) Slot.unset).toArray = ls at hl ⊢
  have hl : lv_has ls 2 [(0, .ref a0), (1, .int a1)] := hl
  refine lv_iload_n hx hb dX7_isFigure_0 rfl (lv_at hl 1 rfl) ?_
  refine lv_iconst (v := 0) hx hb dX7_isFigure_1 zk_iconst_0 ?_
  refine lv_aload_n hx hb dX7_isFigure_2 rfl (lv_at hl 0 rfl) ?_
  refine va_get (D := (dC, dI)) (ci := 7) (v := .ref a0_7) (C := RX7) (T := TX7) (N := 11) hx hb hts zi_X7_isFigure_7 hown hK hP 0 rfl rfl 7 (by decide) (hts (.fieldLink RX7 57 "WaxTurns" "hall" "LWaxTurns$Hall;") (List.mem_cons_of_mem _ (List.mem_append_left _ (List.mem_append_left _ (List.mem_of_getElem? (i := 0) rfl))))) (fun _ h9 => h9) rfl dX7_isFigure_3 ?_
  refine va_get (D := (dC, dI)) (ci := 0) (v := .int a0_7_0) (C := RX0) (T := TX0) (N := 15) hx hb hts zi_X7_isFigure_0 hown hK hP 1 rfl rfl 0 (by decide) (hts (.fieldLink RX7 110 "WaxTurns$Hall" "figures" "I") (List.mem_cons_of_mem _ (List.mem_append_left _ (List.mem_append_left _ (List.mem_of_getElem? (i := 1) rfl))))) (fun _ h9 => h9) rfl dX7_isFigure_6 ?_
  refine lv_iconst (v := 1) hx hb dX7_isFigure_9 zk_iconst_1 ?_
  refine lv_isub hx hb dX7_isFigure_10 ?_
  refine lv_topi (fun x10 ex10 => ?_)
  have qx10 : x10.toInt = a0_7_0.toInt - (1 : Int32).toInt := ai_sub ex10 ⟨ba0_7_0_l, ba0_7_0_u⟩ ⟨zq1, zq0⟩ (by decide) (by decide)
  have bx10 : (-1 : Int) ≤ x10.toInt ∧ x10.toInt ≤ 8 := ⟨by rw [qx10]; exact Int.sub_le_sub ba0_7_0_l zq0, by rw [qx10]; exact Int.sub_le_sub ba0_7_0_u zq1⟩
  have wx10 : x10.toInt = a0_7_0.toInt - 1 := qx10
  obtain ⟨hPc, hDc, hFc, hCc⟩ := zc_cut (wc := []) hP hD hS hA [] (by decide +kernel) rfl
  have hKc := hK.sub (tys' := []) [] rfl
  refine va_calli (va_runS (As := [.int a1, .int 0, .int x10]) (rest := []) ⟨hx, hb, hml, hown, hts⟩ (c_X7_within l dC dI s.heap.size a1 0 x10 ) (va_cwS 3 hts gX7_isFigure_X7_within rfl rfl rfl zd_X7_within.2 ⟨Nat.le_of_ble_eq_true rfl, Nat.le_of_ble_eq_true rfl⟩) ⟨ax_blind (fun _ _ _ _ _ => trivial), ax_pre hPc hKc hDc (fun _ _ => trivial)⟩ rfl rfl hl.1 rfl (lv_room (Nat.le_of_ble_eq_true rfl)) dX7_isFigure_11 ⟨Nat.le_of_ble_eq_true rfl, Nat.le_of_ble_eq_true rfl⟩) hS (fun q _ h => hFc q h) hFc (fun r11 u t H locs ht hvm hw hB hz1 hk1 hS => ?_)
  obtain ⟨hP1, hK1, hD1⟩ := hB
  rw [ht] at hP1
  obtain ⟨hP, hD⟩ := zc_back (w := [(a0, .inr (7, [a0g_0, a0g_1, a0g_2, a0g_3, a0g_4, a0g_5, a0g_6, .ref a0_7, a0g_8, a0g_9, a0g_10])), (a0_7, .inr (0, [.int a0_7_0, a0_7g_1, a0_7g_2, a0_7g_3, a0_7g_4, a0_7g_5, a0_7g_6, a0_7g_7, a0_7g_8, a0_7g_9, a0_7g_10, a0_7g_11, a0_7g_12, a0_7g_13, a0_7g_14]))]) hP hD hCc hk1 hFc hP1 hD1 [.inl 0, .inl 1] (by decide +kernel) rfl
  rcases hw with hw | hw
  · obtain ⟨hw, h11⟩ := hw
    subst hw
    have l11k0_a1 : (0 : Int) ≤ a1.toInt := Int.le_trans zq5 h11.1
    have u11k0_a1 : a1.toInt ≤ (8 : Int) := Int.le_trans h11.2 bx10.2
    have l11k0_x10 : (0 : Int) ≤ x10.toInt := Int.le_trans zq5 (Int.le_trans h11.1 h11.2)
    have l11k0_a0_7_0 : (1 : Int) ≤ a0_7_0.toInt := by have h1 := wx10; have h2 := l11k0_x10; omega
    exact W.zret (v := 1) hx hb hr rfl (fun t ht hW => ⟨⟨1, (), rfl, (Or.inl ⟨rfl, l11k0_a1, u11k0_a1, l11k0_a0_7_0, ba0_7_0_u⟩), by rw [ht]; exact hP, va_K.moved hW.alike hK, hD⟩, hS.F ht⟩) hS.2.2 dX7_isFigure_14
  · obtain ⟨hw, h11⟩ := hw
    subst hw
    exact W.zret (v := 0) hx hb hr rfl (fun t ht hW => ⟨⟨0, (), rfl, (Or.inr (rfl)), by rw [ht]; exact hP, va_K.moved hW.alike hK, hD⟩, hS.F ht⟩) hS.2.2 dX7_isFigure_14

set_option maxHeartbeats 4000000 in
set_option maxRecDepth 100000 in
theorem c_X7_isPlace (l : Launch) (dC : Nat → ClassId) (dI : Nat → Nat → Nat) (sz : Nat) (a0 : Nat) (a1 : Int32) (a0g_0 a0g_1 a0g_2 a0g_3 a0g_4 a0g_5 a0g_6 a0g_8 a0g_9 a0g_10 : Value) (a0_7 : Nat) (a0_7_0 : Int32) (a0_7g_1 a0_7g_2 a0_7g_3 a0_7g_4 a0_7g_5 a0_7g_6 a0_7g_7 a0_7g_8 a0_7g_9 a0_7g_10 a0_7g_11 a0_7g_12 a0_7g_13 a0_7g_14 : Value) (ba0_7_0_l : (0 : Int) ≤ a0_7_0.toInt) (ba0_7_0_u : a0_7_0.toInt ≤ (9 : Int)) : Met l yX7_isPlace wsX7_isPlace ({ frames := 1, cells := 0, slots := 0, locals := 22 }) (va_Pc [.ref a0, .int a1] (ax_C dC dI sz [(a0, .inr (7, [a0g_0, a0g_1, a0g_2, a0g_3, a0g_4, a0g_5, a0g_6, .ref a0_7, a0g_8, a0g_9, a0g_10])), (a0_7, .inr (0, [.int a0_7_0, a0_7g_1, a0_7g_2, a0_7g_3, a0_7g_4, a0_7g_5, a0_7g_6, a0_7g_7, a0_7g_8, a0_7g_9, a0_7g_10, a0_7g_11, a0_7g_12, a0_7g_13, a0_7g_14]))] [] (fun _ => True))) (va_Qi (fun (r : Int32) (_ : Unit) => (r = 1 ∧ (0 : Int) ≤ a1.toInt ∧ a1.toInt ≤ (8 : Int) ∧ (1 : Int) ≤ a0_7_0.toInt ∧ a0_7_0.toInt ≤ (9 : Int)) ∨ (r = 0)) (fun (_ : Unit) (t : State) => ax_B dC dI (va_A [(a0, .inr (7, [a0g_0, a0g_1, a0g_2, a0g_3, a0g_4, a0g_5, a0g_6, .ref a0_7, a0g_8, a0g_9, a0g_10])), (a0_7, .inr (0, [.int a0_7_0, a0_7g_1, a0_7g_2, a0_7g_3, a0_7g_4, a0_7g_5, a0_7g_6, a0_7g_7, a0_7g_8, a0_7g_9, a0_7g_10, a0_7g_11, a0_7g_12, a0_7g_13, a0_7g_14]))] sz) [(a0, .inr (7, [a0g_0, a0g_1, a0g_2, a0g_3, a0g_4, a0g_5, a0g_6, .ref a0_7, a0g_8, a0g_9, a0g_10])), (a0_7, .inr (0, [.int a0_7_0, a0_7g_1, a0_7g_2, a0_7g_3, a0_7g_4, a0_7g_5, a0_7g_6, a0_7g_7, a0_7g_8, a0_7g_9, a0_7g_10, a0_7g_11, a0_7g_12, a0_7g_13, a0_7g_14]))] [] t) (va_A [(a0, .inr (7, [a0g_0, a0g_1, a0g_2, a0g_3, a0g_4, a0g_5, a0g_6, .ref a0_7, a0g_8, a0g_9, a0g_10])), (a0_7, .inr (0, [.int a0_7_0, a0_7g_1, a0_7g_2, a0_7g_3, a0_7g_4, a0_7g_5, a0_7g_6, a0_7g_7, a0_7g_8, a0_7g_9, a0_7g_10, a0_7g_11, a0_7g_12, a0_7g_13, a0_7g_14]))] sz)) 0 0 (va_A [(a0, .inr (7, [a0g_0, a0g_1, a0g_2, a0g_3, a0g_4, a0g_5, a0g_6, .ref a0_7, a0g_8, a0g_9, a0g_10])), (a0_7, .inr (0, [.int a0_7_0, a0_7g_1, a0_7g_2, a0_7g_3, a0_7g_4, a0_7g_5, a0_7g_6, a0_7g_7, a0_7g_8, a0_7g_9, a0_7g_10, a0_7g_11, a0_7g_12, a0_7g_13, a0_7g_14]))] sz) := by
  refine Met.ofW (cc := cX7_isPlace) (maxL := 2) (ret := (some .boolean)) (by decide) rfl ?_
  intro p e s m args below meth c s₁ B hml hv
  obtain ⟨rfl, hsz, hP, hK, hD0, hE⟩ := hv
  have hx := B.exec
  have hb := B.bytes
  have hr := B.returns
  have hts := atoms_spec (ws := wsX7_isPlace) B.pre
  have hown : s.vm.findClass RX7 = some m.cls := findClass_of_methodNamed B.named
  have hlocks := B.notSynchronized
  subst hsz
  have hD := hD0.self (sz := s.heap.size)
  generalize hAe : va_A [(a0, .inr (7, [a0g_0, a0g_1, a0g_2, a0g_3, a0g_4, a0g_5, a0g_6, .ref a0_7, a0g_8, a0g_9, a0g_10])), (a0_7, .inr (0, [.int a0_7_0, a0_7g_1, a0_7g_2, a0_7g_3, a0_7g_4, a0_7g_5, a0_7g_6, a0_7g_7, a0_7g_8, a0_7g_9, a0_7g_10, a0_7g_11, a0_7g_12, a0_7g_13, a0_7g_14]))] s.heap.size = A at hD ⊢
  have hA : ∀ q : Nat, s.heap.size ≤ q → A q := fun q h => by rw [← hAe]; exact Or.inr h
  have hS : va_S A s.heap s.heap [] := va_S.rf
  have hP : va_P (dC, dI) vwCl [(a0, .inr (7, [a0g_0, a0g_1, a0g_2, a0g_3, a0g_4, a0g_5, a0g_6, .ref a0_7, a0g_8, a0g_9, a0g_10])), (a0_7, .inr (0, [.int a0_7_0, a0_7g_1, a0_7g_2, a0_7g_3, a0_7g_4, a0_7g_5, a0_7g_6, a0_7g_7, a0_7g_8, a0_7g_9, a0_7g_10, a0_7g_11, a0_7g_12, a0_7g_13, a0_7g_14]))] s.heap := hP
  have hl := lv_entry ([.ref a0, .int a1]) (n := 2) (Nat.le_of_ble_eq_true rfl)
  rw [lg_entry_eq]
  generalize (lg_sl ([.ref a0, .int a1]) ++ List.replicate (2 - (lg_sl ([.ref a0, .int a1])).length) Slot.unset).toArray = ls at hl ⊢
  have hl : lv_has ls 2 [(0, .ref a0), (1, .int a1)] := hl
  refine lv_iload_n hx hb dX7_isPlace_0 rfl (lv_at hl 1 rfl) ?_
  refine lv_iconst (v := 0) hx hb dX7_isPlace_1 zk_iconst_0 ?_
  refine lv_aload_n hx hb dX7_isPlace_2 rfl (lv_at hl 0 rfl) ?_
  refine va_get (D := (dC, dI)) (ci := 7) (v := .ref a0_7) (C := RX7) (T := TX7) (N := 11) hx hb hts zi_X7_isPlace_7 hown hK hP 0 rfl rfl 7 (by decide) (hts (.fieldLink RX7 57 "WaxTurns" "hall" "LWaxTurns$Hall;") (List.mem_cons_of_mem _ (List.mem_append_left _ (List.mem_append_left _ (List.mem_of_getElem? (i := 0) rfl))))) (fun _ h9 => h9) rfl dX7_isPlace_3 ?_
  refine va_get (D := (dC, dI)) (ci := 0) (v := .int a0_7_0) (C := RX0) (T := TX0) (N := 15) hx hb hts zi_X7_isPlace_0 hown hK hP 1 rfl rfl 0 (by decide) (hts (.fieldLink RX7 110 "WaxTurns$Hall" "figures" "I") (List.mem_cons_of_mem _ (List.mem_append_left _ (List.mem_append_left _ (List.mem_of_getElem? (i := 1) rfl))))) (fun _ h9 => h9) rfl dX7_isPlace_6 ?_
  refine lv_iconst (v := 1) hx hb dX7_isPlace_9 zk_iconst_1 ?_
  refine lv_isub hx hb dX7_isPlace_10 ?_
  refine lv_topi (fun x10 ex10 => ?_)
  have qx10 : x10.toInt = a0_7_0.toInt - (1 : Int32).toInt := ai_sub ex10 ⟨ba0_7_0_l, ba0_7_0_u⟩ ⟨zq1, zq0⟩ (by decide) (by decide)
  have bx10 : (-1 : Int) ≤ x10.toInt ∧ x10.toInt ≤ 8 := ⟨by rw [qx10]; exact Int.sub_le_sub ba0_7_0_l zq0, by rw [qx10]; exact Int.sub_le_sub ba0_7_0_u zq1⟩
  have wx10 : x10.toInt = a0_7_0.toInt - 1 := qx10
  obtain ⟨hPc, hDc, hFc, hCc⟩ := zc_cut (wc := []) hP hD hS hA [] (by decide +kernel) rfl
  have hKc := hK.sub (tys' := []) [] rfl
  refine va_calli (va_runS (As := [.int a1, .int 0, .int x10]) (rest := []) ⟨hx, hb, hml, hown, hts⟩ (c_X7_within l dC dI s.heap.size a1 0 x10 ) (va_cwS 3 hts gX7_isPlace_X7_within rfl rfl rfl zd_X7_within.2 ⟨Nat.le_of_ble_eq_true rfl, Nat.le_of_ble_eq_true rfl⟩) ⟨ax_blind (fun _ _ _ _ _ => trivial), ax_pre hPc hKc hDc (fun _ _ => trivial)⟩ rfl rfl hl.1 rfl (lv_room (Nat.le_of_ble_eq_true rfl)) dX7_isPlace_11 ⟨Nat.le_of_ble_eq_true rfl, Nat.le_of_ble_eq_true rfl⟩) hS (fun q _ h => hFc q h) hFc (fun r11 u t H locs ht hvm hw hB hz1 hk1 hS => ?_)
  obtain ⟨hP1, hK1, hD1⟩ := hB
  rw [ht] at hP1
  obtain ⟨hP, hD⟩ := zc_back (w := [(a0, .inr (7, [a0g_0, a0g_1, a0g_2, a0g_3, a0g_4, a0g_5, a0g_6, .ref a0_7, a0g_8, a0g_9, a0g_10])), (a0_7, .inr (0, [.int a0_7_0, a0_7g_1, a0_7g_2, a0_7g_3, a0_7g_4, a0_7g_5, a0_7g_6, a0_7g_7, a0_7g_8, a0_7g_9, a0_7g_10, a0_7g_11, a0_7g_12, a0_7g_13, a0_7g_14]))]) hP hD hCc hk1 hFc hP1 hD1 [.inl 0, .inl 1] (by decide +kernel) rfl
  rcases hw with hw | hw
  · obtain ⟨hw, h11⟩ := hw
    subst hw
    have l11k0_a1 : (0 : Int) ≤ a1.toInt := Int.le_trans zq5 h11.1
    have u11k0_a1 : a1.toInt ≤ (8 : Int) := Int.le_trans h11.2 bx10.2
    have l11k0_x10 : (0 : Int) ≤ x10.toInt := Int.le_trans zq5 (Int.le_trans h11.1 h11.2)
    have l11k0_a0_7_0 : (1 : Int) ≤ a0_7_0.toInt := by have h1 := wx10; have h2 := l11k0_x10; omega
    exact W.zret (v := 1) hx hb hr rfl (fun t ht hW => ⟨⟨1, (), rfl, (Or.inl ⟨rfl, l11k0_a1, u11k0_a1, l11k0_a0_7_0, ba0_7_0_u⟩), by rw [ht]; exact hP, va_K.moved hW.alike hK, hD⟩, hS.F ht⟩) hS.2.2 dX7_isPlace_14
  · obtain ⟨hw, h11⟩ := hw
    subst hw
    exact W.zret (v := 0) hx hb hr rfl (fun t ht hW => ⟨⟨0, (), rfl, (Or.inr (rfl)), by rw [ht]; exact hP, va_K.moved hW.alike hK, hD⟩, hS.F ht⟩) hS.2.2 dX7_isPlace_14

set_option maxHeartbeats 4000000 in
set_option maxRecDepth 100000 in
theorem c_X7_isWatcher (l : Launch) (dC : Nat → ClassId) (dI : Nat → Nat → Nat) (sz : Nat) (a0 : Nat) (a1 : Int32) (a0g_0 a0g_1 a0g_2 a0g_3 a0g_4 a0g_5 a0g_6 a0g_8 a0g_9 a0g_10 : Value) (a0_7 : Nat) (a0_7g_0 a0_7g_1 a0_7g_2 a0_7g_3 a0_7g_4 a0_7g_5 a0_7g_6 a0_7g_7 a0_7g_8 a0_7g_9 a0_7g_10 a0_7g_11 a0_7g_12 a0_7g_13 : Value) (a0_7_14 : Nat) (a0_7_14_0 : Int32) (a0_7_14g_1 a0_7_14g_2 a0_7_14g_3 : Value) (ba0_7_14_0_l : (0 : Int) ≤ a0_7_14_0.toInt) (ba0_7_14_0_u : a0_7_14_0.toInt ≤ (3 : Int)) : Met l yX7_isWatcher wsX7_isWatcher ({ frames := 1, cells := 0, slots := 0, locals := 22 }) (va_Pc [.ref a0, .int a1] (ax_C dC dI sz [(a0, .inr (7, [a0g_0, a0g_1, a0g_2, a0g_3, a0g_4, a0g_5, a0g_6, .ref a0_7, a0g_8, a0g_9, a0g_10])), (a0_7, .inr (0, [a0_7g_0, a0_7g_1, a0_7g_2, a0_7g_3, a0_7g_4, a0_7g_5, a0_7g_6, a0_7g_7, a0_7g_8, a0_7g_9, a0_7g_10, a0_7g_11, a0_7g_12, a0_7g_13, .ref a0_7_14])), (a0_7_14, .inr (6, [.int a0_7_14_0, a0_7_14g_1, a0_7_14g_2, a0_7_14g_3]))] [] (fun _ => True))) (va_Qi (fun (r : Int32) (_ : Unit) => (r = 1 ∧ (0 : Int) ≤ a1.toInt ∧ a1.toInt ≤ (2 : Int) ∧ (1 : Int) ≤ a0_7_14_0.toInt ∧ a0_7_14_0.toInt ≤ (3 : Int)) ∨ (r = 0)) (fun (_ : Unit) (t : State) => ax_B dC dI (va_A [(a0, .inr (7, [a0g_0, a0g_1, a0g_2, a0g_3, a0g_4, a0g_5, a0g_6, .ref a0_7, a0g_8, a0g_9, a0g_10])), (a0_7, .inr (0, [a0_7g_0, a0_7g_1, a0_7g_2, a0_7g_3, a0_7g_4, a0_7g_5, a0_7g_6, a0_7g_7, a0_7g_8, a0_7g_9, a0_7g_10, a0_7g_11, a0_7g_12, a0_7g_13, .ref a0_7_14])), (a0_7_14, .inr (6, [.int a0_7_14_0, a0_7_14g_1, a0_7_14g_2, a0_7_14g_3]))] sz) [(a0, .inr (7, [a0g_0, a0g_1, a0g_2, a0g_3, a0g_4, a0g_5, a0g_6, .ref a0_7, a0g_8, a0g_9, a0g_10])), (a0_7, .inr (0, [a0_7g_0, a0_7g_1, a0_7g_2, a0_7g_3, a0_7g_4, a0_7g_5, a0_7g_6, a0_7g_7, a0_7g_8, a0_7g_9, a0_7g_10, a0_7g_11, a0_7g_12, a0_7g_13, .ref a0_7_14])), (a0_7_14, .inr (6, [.int a0_7_14_0, a0_7_14g_1, a0_7_14g_2, a0_7_14g_3]))] [] t) (va_A [(a0, .inr (7, [a0g_0, a0g_1, a0g_2, a0g_3, a0g_4, a0g_5, a0g_6, .ref a0_7, a0g_8, a0g_9, a0g_10])), (a0_7, .inr (0, [a0_7g_0, a0_7g_1, a0_7g_2, a0_7g_3, a0_7g_4, a0_7g_5, a0_7g_6, a0_7g_7, a0_7g_8, a0_7g_9, a0_7g_10, a0_7g_11, a0_7g_12, a0_7g_13, .ref a0_7_14])), (a0_7_14, .inr (6, [.int a0_7_14_0, a0_7_14g_1, a0_7_14g_2, a0_7_14g_3]))] sz)) 0 0 (va_A [(a0, .inr (7, [a0g_0, a0g_1, a0g_2, a0g_3, a0g_4, a0g_5, a0g_6, .ref a0_7, a0g_8, a0g_9, a0g_10])), (a0_7, .inr (0, [a0_7g_0, a0_7g_1, a0_7g_2, a0_7g_3, a0_7g_4, a0_7g_5, a0_7g_6, a0_7g_7, a0_7g_8, a0_7g_9, a0_7g_10, a0_7g_11, a0_7g_12, a0_7g_13, .ref a0_7_14])), (a0_7_14, .inr (6, [.int a0_7_14_0, a0_7_14g_1, a0_7_14g_2, a0_7_14g_3]))] sz) := by
  refine Met.ofW (cc := cX7_isWatcher) (maxL := 2) (ret := (some .boolean)) (by decide) rfl ?_
  intro p e s m args below meth c s₁ B hml hv
  obtain ⟨rfl, hsz, hP, hK, hD0, hE⟩ := hv
  have hx := B.exec
  have hb := B.bytes
  have hr := B.returns
  have hts := atoms_spec (ws := wsX7_isWatcher) B.pre
  have hown : s.vm.findClass RX7 = some m.cls := findClass_of_methodNamed B.named
  have hlocks := B.notSynchronized
  subst hsz
  have hD := hD0.self (sz := s.heap.size)
  generalize hAe : va_A [(a0, .inr (7, [a0g_0, a0g_1, a0g_2, a0g_3, a0g_4, a0g_5, a0g_6, .ref a0_7, a0g_8, a0g_9, a0g_10])), (a0_7, .inr (0, [a0_7g_0, a0_7g_1, a0_7g_2, a0_7g_3, a0_7g_4, a0_7g_5, a0_7g_6, a0_7g_7, a0_7g_8, a0_7g_9, a0_7g_10, a0_7g_11, a0_7g_12, a0_7g_13, .ref a0_7_14])), (a0_7_14, .inr (6, [.int a0_7_14_0, a0_7_14g_1, a0_7_14g_2, a0_7_14g_3]))] s.heap.size = A at hD ⊢
  have hA : ∀ q : Nat, s.heap.size ≤ q → A q := fun q h => by rw [← hAe]; exact Or.inr h
  have hS : va_S A s.heap s.heap [] := va_S.rf
  have hP : va_P (dC, dI) vwCl [(a0, .inr (7, [a0g_0, a0g_1, a0g_2, a0g_3, a0g_4, a0g_5, a0g_6, .ref a0_7, a0g_8, a0g_9, a0g_10])), (a0_7, .inr (0, [a0_7g_0, a0_7g_1, a0_7g_2, a0_7g_3, a0_7g_4, a0_7g_5, a0_7g_6, a0_7g_7, a0_7g_8, a0_7g_9, a0_7g_10, a0_7g_11, a0_7g_12, a0_7g_13, .ref a0_7_14])), (a0_7_14, .inr (6, [.int a0_7_14_0, a0_7_14g_1, a0_7_14g_2, a0_7_14g_3]))] s.heap := hP
  have hl := lv_entry ([.ref a0, .int a1]) (n := 2) (Nat.le_of_ble_eq_true rfl)
  rw [lg_entry_eq]
  generalize (lg_sl ([.ref a0, .int a1]) ++ List.replicate (2 - (lg_sl ([.ref a0, .int a1])).length) Slot.unset).toArray = ls at hl ⊢
  have hl : lv_has ls 2 [(0, .ref a0), (1, .int a1)] := hl
  refine lv_iload_n hx hb dX7_isWatcher_0 rfl (lv_at hl 1 rfl) ?_
  refine lv_iconst (v := 0) hx hb dX7_isWatcher_1 zk_iconst_0 ?_
  refine lv_aload_n hx hb dX7_isWatcher_2 rfl (lv_at hl 0 rfl) ?_
  refine va_get (D := (dC, dI)) (ci := 7) (v := .ref a0_7) (C := RX7) (T := TX7) (N := 11) hx hb hts zi_X7_isWatcher_7 hown hK hP 0 rfl rfl 7 (by decide) (hts (.fieldLink RX7 57 "WaxTurns" "hall" "LWaxTurns$Hall;") (List.mem_cons_of_mem _ (List.mem_append_left _ (List.mem_append_left _ (List.mem_append_left _ (List.mem_of_getElem? (i := 0) rfl)))))) (fun _ h9 => h9) rfl dX7_isWatcher_3 ?_
  refine va_get (D := (dC, dI)) (ci := 0) (v := .ref a0_7_14) (C := RX0) (T := TX0) (N := 15) hx hb hts zi_X7_isWatcher_0 hown hK hP 1 rfl rfl 14 (by decide) (hts (.fieldLink RX7 138 "WaxTurns$Hall" "watchers" "LWaxTurns$Watchers;") (List.mem_cons_of_mem _ (List.mem_append_left _ (List.mem_append_left _ (List.mem_append_left _ (List.mem_of_getElem? (i := 1) rfl)))))) (fun _ h9 => h9) rfl dX7_isWatcher_6 ?_
  refine va_get (D := (dC, dI)) (ci := 6) (v := .int a0_7_14_0) (C := RX6) (T := TX6) (N := 4) hx hb hts zi_X7_isWatcher_6 hown hK hP 2 rfl rfl 0 (by decide) (hts (.fieldLink RX7 361 "WaxTurns$Watchers" "count" "I") (List.mem_cons_of_mem _ (List.mem_append_left _ (List.mem_append_left _ (List.mem_append_left _ (List.mem_of_getElem? (i := 2) rfl)))))) (fun _ h9 => h9) rfl dX7_isWatcher_9 ?_
  refine lv_iconst (v := 1) hx hb dX7_isWatcher_12 zk_iconst_1 ?_
  refine lv_isub hx hb dX7_isWatcher_13 ?_
  refine lv_topi (fun x13 ex13 => ?_)
  have qx13 : x13.toInt = a0_7_14_0.toInt - (1 : Int32).toInt := ai_sub ex13 ⟨ba0_7_14_0_l, ba0_7_14_0_u⟩ ⟨zq1, zq0⟩ (by decide) (by decide)
  have bx13 : (-1 : Int) ≤ x13.toInt ∧ x13.toInt ≤ 2 := ⟨by rw [qx13]; exact Int.sub_le_sub ba0_7_14_0_l zq0, by rw [qx13]; exact Int.sub_le_sub ba0_7_14_0_u zq1⟩
  have wx13 : x13.toInt = a0_7_14_0.toInt - 1 := qx13
  obtain ⟨hPc, hDc, hFc, hCc⟩ := zc_cut (wc := []) hP hD hS hA [] (by decide +kernel) rfl
  have hKc := hK.sub (tys' := []) [] rfl
  refine va_calli (va_runS (As := [.int a1, .int 0, .int x13]) (rest := []) ⟨hx, hb, hml, hown, hts⟩ (c_X7_within l dC dI s.heap.size a1 0 x13 ) (va_cwS 3 hts gX7_isWatcher_X7_within rfl rfl rfl zd_X7_within.2 ⟨Nat.le_of_ble_eq_true rfl, Nat.le_of_ble_eq_true rfl⟩) ⟨ax_blind (fun _ _ _ _ _ => trivial), ax_pre hPc hKc hDc (fun _ _ => trivial)⟩ rfl rfl hl.1 rfl (lv_room (Nat.le_of_ble_eq_true rfl)) dX7_isWatcher_14 ⟨Nat.le_of_ble_eq_true rfl, Nat.le_of_ble_eq_true rfl⟩) hS (fun q _ h => hFc q h) hFc (fun r14 u t H locs ht hvm hw hB hz1 hk1 hS => ?_)
  obtain ⟨hP1, hK1, hD1⟩ := hB
  rw [ht] at hP1
  obtain ⟨hP, hD⟩ := zc_back (w := [(a0, .inr (7, [a0g_0, a0g_1, a0g_2, a0g_3, a0g_4, a0g_5, a0g_6, .ref a0_7, a0g_8, a0g_9, a0g_10])), (a0_7, .inr (0, [a0_7g_0, a0_7g_1, a0_7g_2, a0_7g_3, a0_7g_4, a0_7g_5, a0_7g_6, a0_7g_7, a0_7g_8, a0_7g_9, a0_7g_10, a0_7g_11, a0_7g_12, a0_7g_13, .ref a0_7_14])), (a0_7_14, .inr (6, [.int a0_7_14_0, a0_7_14g_1, a0_7_14g_2, a0_7_14g_3]))]) hP hD hCc hk1 hFc hP1 hD1 [.inl 0, .inl 1, .inl 2] (by decide +kernel) rfl
  rcases hw with hw | hw
  · obtain ⟨hw, h14⟩ := hw
    subst hw
    have l14k0_a1 : (0 : Int) ≤ a1.toInt := Int.le_trans zq5 h14.1
    have u14k0_a1 : a1.toInt ≤ (2 : Int) := Int.le_trans h14.2 bx13.2
    have l14k0_x13 : (0 : Int) ≤ x13.toInt := Int.le_trans zq5 (Int.le_trans h14.1 h14.2)
    have l14k0_a0_7_14_0 : (1 : Int) ≤ a0_7_14_0.toInt := by have h1 := wx13; have h2 := l14k0_x13; omega
    exact W.zret (v := 1) hx hb hr rfl (fun t ht hW => ⟨⟨1, (), rfl, (Or.inl ⟨rfl, l14k0_a1, u14k0_a1, l14k0_a0_7_14_0, ba0_7_14_0_u⟩), by rw [ht]; exact hP, va_K.moved hW.alike hK, hD⟩, hS.F ht⟩) hS.2.2 dX7_isWatcher_17
  · obtain ⟨hw, h14⟩ := hw
    subst hw
    exact W.zret (v := 0) hx hb hr rfl (fun t ht hW => ⟨⟨0, (), rfl, (Or.inr (rfl)), by rw [ht]; exact hP, va_K.moved hW.alike hK, hD⟩, hS.F ht⟩) hS.2.2 dX7_isWatcher_17
