set_option maxHeartbeats 4000000 in
set_option maxRecDepth 100000 in
theorem c_X7_within (l : Launch) (dC : Nat → ClassId) (dI : Nat → Nat → Nat) (sz : Nat) (a1 : Int32) (a2 : Int32) (a3 : Int32)  : Met l yX7_within wsX7_within ({ frames := 0, cells := 0, slots := 0, locals := 0 }) (va_Pc [.int a1, .int a2, .int a3] (ax_C dC dI sz [] [] (fun _ => True))) (va_Qi (fun (r : Int32) (_ : Unit) => (r = 1 ∧ a2.toInt ≤ a1.toInt ∧ a1.toInt ≤ a3.toInt) ∨ (r = 0 ∧ (a1.toInt < a2.toInt ∨ a3.toInt < a1.toInt))) (fun (_ : Unit) (t : State) => ax_B dC dI (va_A [] sz) [] [] t) (va_A [] sz)) 0 0 (va_A [] sz) := by
  refine Met.ofW (cc := cX7_within) (maxL := 3) (ret := (some .boolean)) (by decide) rfl ?_
  intro p e s m args below meth c s₁ B hml hv
  obtain ⟨rfl, hsz, hP, hK, hD0, hE⟩ := hv
  have hx := B.exec
  have hb := B.bytes
  have hr := B.returns
  have hts := atoms_spec (ws := wsX7_within) B.pre
  have hown : s.vm.findClass RX7 = some m.cls := findClass_of_methodNamed B.named
  have hlocks := B.notSynchronized
  subst hsz
  have hD := hD0.self (sz := s.heap.size)
  generalize hAe : va_A [] s.heap.size = A at hD ⊢
  have hA : ∀ q : Nat, s.heap.size ≤ q → A q := fun q h => by rw [← hAe]; exact Or.inr h
  have hS : va_S A s.heap s.heap [] := va_S.rf
  have hP : va_P (dC, dI) vwCl [] s.heap := hP
  have hl := lv_entry ([.int a1, .int a2, .int a3]) (n := 3) (Nat.le_of_ble_eq_true rfl)
  rw [lg_entry_eq]
  generalize (lg_sl ([.int a1, .int a2, .int a3]) ++ List.replicate (3 - (lg_sl ([.int a1, .int a2, .int a3])).length) Slot.unset).toArray = ls at hl ⊢
  have hl : lv_has ls 3 [(0, .int a1), (1, .int a2), (2, .int a3)] := hl
  refine lv_iload_n hx hb dX7_within_0 rfl (lv_at hl 0 rfl) ?_
  refine lv_iload_n hx hb dX7_within_1 rfl (lv_at hl 1 rfl) ?_
  refine lv_icmp_lt (tgt := 14) hx hb dX7_within_2 (by decide) (fun c2 => ?_) (fun c2 => ?_)
  · have gc2 := ai_lt c2
    have u2t_a1 : a1.toInt ≤ (2147483646 : Int) := ai_lthi gc2 (ai_max a2)
    have l2t_a2 : (-2147483647 : Int) ≤ a2.toInt := ai_ltlo gc2 (ai_min a1)
    refine lv_iconst (v := 0) hx hb dX7_within_14 zk_iconst_0 ?_
    exact W.zret (v := 0) hx hb hr rfl (fun t ht hW => ⟨⟨0, (), rfl, (Or.inr ⟨rfl, Or.inl gc2⟩), by rw [ht]; exact hP, va_K.moved hW.alike hK, hD⟩, hS.F ht⟩) hS.2.2 dX7_within_15
  · have gc2 := ai_nlt c2
    refine lv_iload_n hx hb dX7_within_5 rfl (lv_at hl 0 rfl) ?_
    refine lv_iload_n hx hb dX7_within_6 rfl (lv_at hl 2 rfl) ?_
    refine lv_icmp_gt (tgt := 14) hx hb dX7_within_7 (by decide) (fun c7 => ?_) (fun c7 => ?_)
    · have gc7 := ai_lt c7
      have u7t_a3 : a3.toInt ≤ (2147483646 : Int) := ai_lthi gc7 (ai_max a1)
      have l7t_a1 : (-2147483647 : Int) ≤ a1.toInt := ai_ltlo gc7 (ai_min a3)
      refine lv_iconst (v := 0) hx hb dX7_within_14 zk_iconst_0 ?_
      exact W.zret (v := 0) hx hb hr rfl (fun t ht hW => ⟨⟨0, (), rfl, (Or.inr ⟨rfl, Or.inr gc7⟩), by rw [ht]; exact hP, va_K.moved hW.alike hK, hD⟩, hS.F ht⟩) hS.2.2 dX7_within_15
    · have gc7 := ai_nlt c7
      refine lv_iconst (v := 1) hx hb dX7_within_10 zk_iconst_1 ?_
      refine lv_goto (tgt := 15) hx hb dX7_within_11 (by decide) ?_
      exact W.zret (v := 1) hx hb hr rfl (fun t ht hW => ⟨⟨1, (), rfl, (Or.inl ⟨rfl, gc2, gc7⟩), by rw [ht]; exact hP, va_K.moved hW.alike hK, hD⟩, hS.F ht⟩) hS.2.2 dX7_within_15

set_option maxHeartbeats 4000000 in
set_option maxRecDepth 100000 in
theorem c_X7_hasBit (l : Launch) (dC : Nat → ClassId) (dI : Nat → Nat → Nat) (sz : Nat) (a1 : Int32) (a2 : Int32)  : Met l yX7_hasBit wsX7_hasBit ({ frames := 0, cells := 0, slots := 0, locals := 0 }) (va_Pc [.int a1, .int a2] (ax_C dC dI sz [] [] (fun _ => True))) (va_Qi (fun (r : Int32) (_ : Unit) => (r = 1) ∨ (r = 0)) (fun (_ : Unit) (t : State) => ax_B dC dI (va_A [] sz) [] [] t) (va_A [] sz)) 0 0 (va_A [] sz) := by
  refine Met.ofW (cc := cX7_hasBit) (maxL := 2) (ret := (some .boolean)) (by decide) rfl ?_
  intro p e s m args below meth c s₁ B hml hv
  obtain ⟨rfl, hsz, hP, hK, hD0, hE⟩ := hv
  have hx := B.exec
  have hb := B.bytes
  have hr := B.returns
  have hts := atoms_spec (ws := wsX7_hasBit) B.pre
  have hown : s.vm.findClass RX7 = some m.cls := findClass_of_methodNamed B.named
  have hlocks := B.notSynchronized
  subst hsz
  have hD := hD0.self (sz := s.heap.size)
  generalize hAe : va_A [] s.heap.size = A at hD ⊢
  have hA : ∀ q : Nat, s.heap.size ≤ q → A q := fun q h => by rw [← hAe]; exact Or.inr h
  have hS : va_S A s.heap s.heap [] := va_S.rf
  have hP : va_P (dC, dI) vwCl [] s.heap := hP
  have hl := lv_entry ([.int a1, .int a2]) (n := 2) (Nat.le_of_ble_eq_true rfl)
  rw [lg_entry_eq]
  generalize (lg_sl ([.int a1, .int a2]) ++ List.replicate (2 - (lg_sl ([.int a1, .int a2])).length) Slot.unset).toArray = ls at hl ⊢
  have hl : lv_has ls 2 [(0, .int a1), (1, .int a2)] := hl
  refine lv_iload_n hx hb dX7_hasBit_0 rfl (lv_at hl 0 rfl) ?_
  refine lv_iload_n hx hb dX7_hasBit_1 rfl (lv_at hl 1 rfl) ?_
  refine lv_ishr hx hb dX7_hasBit_2 ?_
  refine lv_topi (fun x2 ex2 => ?_)
  refine lv_iconst (v := 1) hx hb dX7_hasBit_3 zk_iconst_1 ?_
  refine lv_iand hx hb dX7_hasBit_4 ?_
  refine lv_topi (fun x4 ex4 => ?_)
  refine lv_iconst (v := 1) hx hb dX7_hasBit_5 zk_iconst_1 ?_
  refine lv_icmp_ne (tgt := 13) hx hb dX7_hasBit_6 (by decide) (fun c6 => ?_) (fun c6 => ?_)
  · have gc6 := ai_ne c6
    refine lv_iconst (v := 0) hx hb dX7_hasBit_13 zk_iconst_0 ?_
    exact W.zret (v := 0) hx hb hr rfl (fun t ht hW => ⟨⟨0, (), rfl, (Or.inr (rfl)), by rw [ht]; exact hP, va_K.moved hW.alike hK, hD⟩, hS.F ht⟩) hS.2.2 dX7_hasBit_14
  · have gc6 := ai_eq c6
    have u6f_x4 : x4.toInt ≤ (1 : Int) := Int.le_trans (Int.le_of_eq gc6) zq0
    have l6f_x4 : (1 : Int) ≤ x4.toInt := Int.le_trans zq1 (Int.le_of_eq gc6.symm)
    refine lv_iconst (v := 1) hx hb dX7_hasBit_9 zk_iconst_1 ?_
    refine lv_goto (tgt := 14) hx hb dX7_hasBit_10 (by decide) ?_
    exact W.zret (v := 1) hx hb hr rfl (fun t ht hW => ⟨⟨1, (), rfl, (Or.inl (rfl)), by rw [ht]; exact hP, va_K.moved hW.alike hK, hD⟩, hS.F ht⟩) hS.2.2 dX7_hasBit_14

set_option maxHeartbeats 4000000 in
set_option maxRecDepth 100000 in
theorem c_X5_startTurn (l : Launch) (dC : Nat → ClassId) (dI : Nat → Nat → Nat) (sz : Nat) (a0 : Nat) (a1 : Int32) (a0g_0 a0g_3 a0g_4 a0g_5 a0g_6 : Value) (a0_1 : Int32) (a0_2 : Int32) (ba1_l : (0 : Int) ≤ a1.toInt) (ba1_u : a1.toInt ≤ (8 : Int)) (ba0_1_l : (0 : Int) ≤ a0_1.toInt) (ba0_1_u : a0_1.toInt ≤ (8 : Int)) : Met l yX5_startTurn wsX5_startTurn ({ frames := 0, cells := 0, slots := 0, locals := 0 }) (va_Pc [.ref a0, .int a1] (ax_C dC dI sz [(a0, .inr (5, [a0g_0, .int a0_1, .int a0_2, a0g_3, a0g_4, a0g_5, a0g_6]))] [] (fun _ => True))) (va_Qv (fun (_ : Unit) => True) (fun (_ : Unit) (t : State) => ∃ na0_1 : Int32, ∃ na0_2 : Int32, ((0 : Int) ≤ na0_1.toInt ∧ na0_1.toInt ≤ 8) ∧ ax_B dC dI (va_A [(a0, .inr (5, [a0g_0, .int a0_1, .int a0_2, a0g_3, a0g_4, a0g_5, a0g_6]))] sz) [(a0, .inr (5, [a0g_0, .int na0_1, .int na0_2, a0g_3, a0g_4, a0g_5, a0g_6]))] [] t) (va_A [(a0, .inr (5, [a0g_0, .int a0_1, .int a0_2, a0g_3, a0g_4, a0g_5, a0g_6]))] sz)) 0 0 (va_A [(a0, .inr (5, [a0g_0, .int a0_1, .int a0_2, a0g_3, a0g_4, a0g_5, a0g_6]))] sz) := by
  refine Met.ofW (cc := cX5_startTurn) (maxL := 2) (ret := none) (by decide) rfl ?_
  intro p e s m args below meth c s₁ B hml hv
  obtain ⟨rfl, hsz, hP, hK, hD0, hE⟩ := hv
  have hx := B.exec
  have hb := B.bytes
  have hr := B.returns
  have hts := atoms_spec (ws := wsX5_startTurn) B.pre
  have hown : s.vm.findClass RX5 = some m.cls := findClass_of_methodNamed B.named
  have hlocks := B.notSynchronized
  subst hsz
  have hD := hD0.self (sz := s.heap.size)
  generalize hAe : va_A [(a0, .inr (5, [a0g_0, .int a0_1, .int a0_2, a0g_3, a0g_4, a0g_5, a0g_6]))] s.heap.size = A at hD ⊢
  have hA : ∀ q : Nat, s.heap.size ≤ q → A q := fun q h => by rw [← hAe]; exact Or.inr h
  have hS : va_S A s.heap s.heap [] := va_S.rf
  have hP : va_P (dC, dI) vwCl [(a0, .inr (5, [a0g_0, .int a0_1, .int a0_2, a0g_3, a0g_4, a0g_5, a0g_6]))] s.heap := hP
  have hl := lv_entry ([.ref a0, .int a1]) (n := 2) (Nat.le_of_ble_eq_true rfl)
  rw [lg_entry_eq]
  generalize (lg_sl ([.ref a0, .int a1]) ++ List.replicate (2 - (lg_sl ([.ref a0, .int a1])).length) Slot.unset).toArray = ls at hl ⊢
  have hl : lv_has ls 2 [(0, .ref a0), (1, .int a1)] := hl
  refine lv_aload_n hx hb dX5_startTurn_0 rfl (lv_at hl 0 rfl) ?_
  refine lv_iload_n hx hb dX5_startTurn_1 rfl (lv_at hl 1 rfl) ?_
  refine va_put (D := (dC, dI)) (ci := 5) (v := .int a1) (ty := .int) (C := RX5) (T := TX5) (N := 7) hx hb hts zi_X5_startTurn_5 tyX5 tyX5_ok nmX5 hown hK hP hD hS 0 rfl rfl 1 (by decide) (hts (.fieldLink RX5 32 "WaxTurns$Scene" "turn" "I") (List.mem_cons_of_mem _ (List.mem_append_left _ (List.mem_of_getElem? (i := 0) rfl)))) (fun _ h9 => h9) rfl (tyX5_ok 1 (by decide)) rfl rfl (Nat.le_of_ble_eq_true rfl) dX5_startTurn_2 (fun H locs hP hD hS => ?_)
  obtain ⟨hP, hD⟩ := zc_re (w := [(a0, .inr (5, [a0g_0, .int a1, .int a0_2, a0g_3, a0g_4, a0g_5, a0g_6]))]) hP hD rfl
  refine lv_aload_n hx hb dX5_startTurn_5 rfl (lv_at hl 0 rfl) ?_
  refine lv_iconst (v := 0) hx hb dX5_startTurn_6 zk_iconst_0 ?_
  refine va_put (D := (dC, dI)) (ci := 5) (v := .int 0) (ty := .int) (C := RX5) (T := TX5) (N := 7) hx hb hts zi_X5_startTurn_5 tyX5 tyX5_ok nmX5 hown hK hP hD hS 0 rfl rfl 2 (by decide) (hts (.fieldLink RX5 35 "WaxTurns$Scene" "spent" "I") (List.mem_cons_of_mem _ (List.mem_append_left _ (List.mem_of_getElem? (i := 1) rfl)))) (fun _ h9 => h9) rfl (tyX5_ok 2 (by decide)) rfl rfl (Nat.le_of_ble_eq_true rfl) dX5_startTurn_7 (fun H locs hP hD hS => ?_)
  obtain ⟨hP, hD⟩ := zc_re (w := [(a0, .inr (5, [a0g_0, .int a1, .int 0, a0g_3, a0g_4, a0g_5, a0g_6]))]) hP hD rfl
  exact W.vret hx hb hr (fun t ht hW => ⟨⟨(), rfl, trivial, a1, 0, ⟨ba1_l, ba1_u⟩, by rw [ht]; exact hP, va_K.moved hW.alike hK, hD⟩, hS.F ht⟩) hS.2.2 dX5_startTurn_10

set_option maxHeartbeats 4000000 in
set_option maxRecDepth 100000 in
theorem c_X5_isGone (l : Launch) (dC : Nat → ClassId) (dI : Nat → Nat → Nat) (sz : Nat) (a0 : Nat) (a1 : Int32) (a0g_0 a0g_1 a0g_2 a0g_4 a0g_5 a0g_6 : Value) (a0_3 : Int32)  : Met l yX5_isGone wsX5_isGone ({ frames := 1, cells := 0, slots := 0, locals := 21 }) (va_Pc [.ref a0, .int a1] (ax_C dC dI sz [(a0, .inr (5, [a0g_0, a0g_1, a0g_2, .int a0_3, a0g_4, a0g_5, a0g_6]))] [] (fun U => va_Nw (.methodLinkNest RX5 38 yX7_hasBit RX7) U))) (va_Qi (fun (r : Int32) (_ : Unit) => (r = 1) ∨ (r = 0)) (fun (_ : Unit) (t : State) => ax_B dC dI (va_A [(a0, .inr (5, [a0g_0, a0g_1, a0g_2, .int a0_3, a0g_4, a0g_5, a0g_6]))] sz) [(a0, .inr (5, [a0g_0, a0g_1, a0g_2, .int a0_3, a0g_4, a0g_5, a0g_6]))] [] t) (va_A [(a0, .inr (5, [a0g_0, a0g_1, a0g_2, .int a0_3, a0g_4, a0g_5, a0g_6]))] sz)) 0 0 (va_A [(a0, .inr (5, [a0g_0, a0g_1, a0g_2, .int a0_3, a0g_4, a0g_5, a0g_6]))] sz) := by
  refine Met.ofW (cc := cX5_isGone) (maxL := 2) (ret := (some .boolean)) (by decide) rfl ?_
  intro p e s m args below meth c s₁ B hml hv
  obtain ⟨rfl, hsz, hP, hK, hD0, hE⟩ := hv
  have hx := B.exec
  have hb := B.bytes
  have hr := B.returns
  have hts := atoms_spec (ws := wsX5_isGone) B.pre
  have hown : s.vm.findClass RX5 = some m.cls := findClass_of_methodNamed B.named
  have hlocks := B.notSynchronized
  subst hsz
  have hD := hD0.self (sz := s.heap.size)
  generalize hAe : va_A [(a0, .inr (5, [a0g_0, a0g_1, a0g_2, .int a0_3, a0g_4, a0g_5, a0g_6]))] s.heap.size = A at hD ⊢
  have hA : ∀ q : Nat, s.heap.size ≤ q → A q := fun q h => by rw [← hAe]; exact Or.inr h
  have hS : va_S A s.heap s.heap [] := va_S.rf
  have hP : va_P (dC, dI) vwCl [(a0, .inr (5, [a0g_0, a0g_1, a0g_2, .int a0_3, a0g_4, a0g_5, a0g_6]))] s.heap := hP
  have hE0 := hE
  have hl := lv_entry ([.ref a0, .int a1]) (n := 2) (Nat.le_of_ble_eq_true rfl)
  rw [lg_entry_eq]
  generalize (lg_sl ([.ref a0, .int a1]) ++ List.replicate (2 - (lg_sl ([.ref a0, .int a1])).length) Slot.unset).toArray = ls at hl ⊢
  have hl : lv_has ls 2 [(0, .ref a0), (1, .int a1)] := hl
  refine lv_aload_n hx hb dX5_isGone_0 rfl (lv_at hl 0 rfl) ?_
  refine va_get (D := (dC, dI)) (ci := 5) (v := .int a0_3) (C := RX5) (T := TX5) (N := 7) hx hb hts zi_X5_isGone_5 hown hK hP 0 rfl rfl 3 (by decide) (hts (.fieldLink RX5 22 "WaxTurns$Scene" "goneBits" "I") (List.mem_cons_of_mem _ (List.mem_append_left _ (List.mem_of_getElem? (i := 0) rfl)))) (fun _ h9 => h9) rfl dX5_isGone_1 ?_
  refine lv_iload_n hx hb dX5_isGone_4 rfl (lv_at hl 1 rfl) ?_
  obtain ⟨hPc, hDc, hFc, hCc⟩ := zc_cut (wc := []) hP hD hS hA [] (by decide +kernel) rfl
  have hKc := hK.sub (tys' := []) [] rfl
  refine va_calli (va_runSN (As := [.int a0_3, .int a1]) (rest := []) ⟨hx, hb, hml, hown, hts⟩ (c_X7_hasBit l dC dI s.heap.size a0_3 a1 ) ⟨va_cnB 2 hts gX5_isGone_X7_hasBit_n38 rfl rfl rfl hE0 (hts (.initialized RX7) (List.mem_cons_of_mem _ (List.mem_append_left _ (List.mem_of_getElem? (i := 2) rfl)))) zd_X7_hasBit.2 ⟨Nat.le_of_ble_eq_true rfl, Nat.le_of_ble_eq_true rfl⟩, (hts (.static yX7_hasBit) (List.mem_cons_of_mem _ (List.mem_append_left _ (List.mem_of_getElem? (i := 1) rfl)))), trivial⟩ ⟨ax_blind (fun _ _ _ _ _ => trivial), ax_pre hPc hKc hDc (fun _ _ => trivial)⟩ rfl rfl hl.1 rfl (lv_room (Nat.le_of_ble_eq_true rfl)) dX5_isGone_5 ⟨Nat.le_of_ble_eq_true rfl, Nat.le_of_ble_eq_true rfl⟩) hS (fun q _ h => hFc q h) hFc (fun r5 u t H locs ht hvm hw hB hz1 hk1 hS => ?_)
  obtain ⟨hP1, hK1, hD1⟩ := hB
  rw [ht] at hP1
  obtain ⟨hP, hD⟩ := zc_back (w := [(a0, .inr (5, [a0g_0, a0g_1, a0g_2, .int a0_3, a0g_4, a0g_5, a0g_6]))]) hP hD hCc hk1 hFc hP1 hD1 [.inl 0] (by decide +kernel) rfl
  rcases hw with hw | hw
  · subst hw
    exact W.zret (v := 1) hx hb hr rfl (fun t ht hW => ⟨⟨1, (), rfl, (Or.inl (rfl)), by rw [ht]; exact hP, va_K.moved hW.alike hK, hD⟩, hS.F ht⟩) hS.2.2 dX5_isGone_8
  · subst hw
    exact W.zret (v := 0) hx hb hr rfl (fun t ht hW => ⟨⟨0, (), rfl, (Or.inr (rfl)), by rw [ht]; exact hP, va_K.moved hW.alike hK, hD⟩, hS.F ht⟩) hS.2.2 dX5_isGone_8

set_option maxHeartbeats 4000000 in
set_option maxRecDepth 100000 in
theorem c_X5_copyFrom (l : Launch) (dC : Nat → ClassId) (dI : Nat → Nat → Nat) (sz : Nat) (a0 : Nat) (a1 : Nat) (a0_0 : Int32) (a0_1 : Int32) (a0_2 : Int32) (a0_3 : Int32) (a0_4 : Int32) (a0_5 : Nat) (a0_6 : Nat) (a1_0 : Int32) (a1_1 : Int32) (a1_2 : Int32) (a1_3 : Int32) (a1_4 : Int32) (a1_5 : Nat) (a1_6 : Nat) (ka1_5 : ClassId) (fa1_5 : Nat → Int32) (ka0_5 : ClassId) (fa0_5 : Nat → Int32) (ka1_6 : ClassId) (fa1_6 : Nat → Int32) (ka0_6 : ClassId) (fa0_6 : Nat → Int32) (ba0_1_l : (0 : Int) ≤ a0_1.toInt) (ba0_1_u : a0_1.toInt ≤ (8 : Int)) (ba1_1_l : (0 : Int) ≤ a1_1.toInt) (ba1_1_u : a1_1.toInt ≤ (8 : Int)) : Met l yX5_copyFrom wsX5_copyFrom ({ frames := 0, cells := 0, slots := 0, locals := 0 }) (va_Pc [.ref a0, .ref a1] (ax_C dC dI sz [(a0, .inr (5, [.int a0_0, .int a0_1, .int a0_2, .int a0_3, .int a0_4, .ref a0_5, .ref a0_6])), (a1, .inr (5, [.int a1_0, .int a1_1, .int a1_2, .int a1_3, .int a1_4, .ref a1_5, .ref a1_6])), (a1_5, .inl (ka1_5, 9, .inl (fa1_5))), (a0_5, .inl (ka0_5, 9, .inl (fa0_5))), (a1_6, .inl (ka1_6, 9, .inl (fa1_6))), (a0_6, .inl (ka0_6, 9, .inl (fa0_6)))] [(ka1_5, .int), (ka0_5, .int), (ka1_6, .int), (ka0_6, .int)] (fun _ => True))) (va_Qv (fun (_ : Unit) => True) (fun (_ : Unit) (t : State) => ∃ na0_0 : Int32, ∃ na0_1 : Int32, ∃ na0_2 : Int32, ∃ na0_3 : Int32, ∃ na0_4 : Int32, ∃ nfa0_5 : Nat → Int32, ∃ nfa0_6 : Nat → Int32, ((0 : Int) ≤ na0_1.toInt ∧ na0_1.toInt ≤ 8) ∧ ax_B dC dI (va_A [(a0, .inr (5, [.int a0_0, .int a0_1, .int a0_2, .int a0_3, .int a0_4, .ref a0_5, .ref a0_6])), (a1, .inr (5, [.int a1_0, .int a1_1, .int a1_2, .int a1_3, .int a1_4, .ref a1_5, .ref a1_6])), (a1_5, .inl (ka1_5, 9, .inl (fa1_5))), (a0_5, .inl (ka0_5, 9, .inl (fa0_5))), (a1_6, .inl (ka1_6, 9, .inl (fa1_6))), (a0_6, .inl (ka0_6, 9, .inl (fa0_6)))] sz) [(a0, .inr (5, [.int na0_0, .int na0_1, .int na0_2, .int na0_3, .int na0_4, .ref a0_5, .ref a0_6])), (a1, .inr (5, [.int a1_0, .int a1_1, .int a1_2, .int a1_3, .int a1_4, .ref a1_5, .ref a1_6])), (a1_5, .inl (ka1_5, 9, .inl (fa1_5))), (a0_5, .inl (ka0_5, 9, .inl (nfa0_5))), (a1_6, .inl (ka1_6, 9, .inl (fa1_6))), (a0_6, .inl (ka0_6, 9, .inl (nfa0_6)))] [(ka1_5, .int), (ka0_5, .int), (ka1_6, .int), (ka0_6, .int)] t) (va_A [(a0, .inr (5, [.int a0_0, .int a0_1, .int a0_2, .int a0_3, .int a0_4, .ref a0_5, .ref a0_6])), (a1, .inr (5, [.int a1_0, .int a1_1, .int a1_2, .int a1_3, .int a1_4, .ref a1_5, .ref a1_6])), (a1_5, .inl (ka1_5, 9, .inl (fa1_5))), (a0_5, .inl (ka0_5, 9, .inl (fa0_5))), (a1_6, .inl (ka1_6, 9, .inl (fa1_6))), (a0_6, .inl (ka0_6, 9, .inl (fa0_6)))] sz)) 0 0 (va_A [(a0, .inr (5, [.int a0_0, .int a0_1, .int a0_2, .int a0_3, .int a0_4, .ref a0_5, .ref a0_6])), (a1, .inr (5, [.int a1_0, .int a1_1, .int a1_2, .int a1_3, .int a1_4, .ref a1_5, .ref a1_6])), (a1_5, .inl (ka1_5, 9, .inl (fa1_5))), (a0_5, .inl (ka0_5, 9, .inl (fa0_5))), (a1_6, .inl (ka1_6, 9, .inl (fa1_6))), (a0_6, .inl (ka0_6, 9, .inl (fa0_6)))] sz) := by
  refine Met.ofW (cc := cX5_copyFrom) (maxL := 3) (ret := none) (by decide) rfl ?_
  intro p e s m args below meth c s₁ B hml hv
  obtain ⟨rfl, hsz, hP, hK, hD0, hE⟩ := hv
  have hx := B.exec
  have hb := B.bytes
  have hr := B.returns
  have hts := atoms_spec (ws := wsX5_copyFrom) B.pre
  have hown : s.vm.findClass RX5 = some m.cls := findClass_of_methodNamed B.named
  have hlocks := B.notSynchronized
  subst hsz
  have hD := hD0.self (sz := s.heap.size)
  generalize hAe : va_A [(a0, .inr (5, [.int a0_0, .int a0_1, .int a0_2, .int a0_3, .int a0_4, .ref a0_5, .ref a0_6])), (a1, .inr (5, [.int a1_0, .int a1_1, .int a1_2, .int a1_3, .int a1_4, .ref a1_5, .ref a1_6])), (a1_5, .inl (ka1_5, 9, .inl (fa1_5))), (a0_5, .inl (ka0_5, 9, .inl (fa0_5))), (a1_6, .inl (ka1_6, 9, .inl (fa1_6))), (a0_6, .inl (ka0_6, 9, .inl (fa0_6)))] s.heap.size = A at hD ⊢
  have hA : ∀ q : Nat, s.heap.size ≤ q → A q := fun q h => by rw [← hAe]; exact Or.inr h
  have hS : va_S A s.heap s.heap [] := va_S.rf
  have hP : va_P (dC, dI) vwCl [(a0, .inr (5, [.int a0_0, .int a0_1, .int a0_2, .int a0_3, .int a0_4, .ref a0_5, .ref a0_6])), (a1, .inr (5, [.int a1_0, .int a1_1, .int a1_2, .int a1_3, .int a1_4, .ref a1_5, .ref a1_6])), (a1_5, .inl (ka1_5, 9, .inl (fa1_5))), (a0_5, .inl (ka0_5, 9, .inl (fa0_5))), (a1_6, .inl (ka1_6, 9, .inl (fa1_6))), (a0_6, .inl (ka0_6, 9, .inl (fa0_6)))] s.heap := hP
  have hl := lv_entry ([.ref a0, .ref a1]) (n := 3) (Nat.le_of_ble_eq_true rfl)
  rw [lg_entry_eq]
  generalize (lg_sl ([.ref a0, .ref a1]) ++ List.replicate (3 - (lg_sl ([.ref a0, .ref a1])).length) Slot.unset).toArray = ls at hl ⊢
  have hl : lv_has ls 3 [(0, .ref a0), (1, .ref a1)] := hl
  refine ai_open (fun K hK0 => ?_)
  refine (hK0 _ _ _).mpr ?_
  refine lv_aload_n hx hb dX5_copyFrom_0 rfl (lv_at hl 0 rfl) ?_
  refine lv_aload_n hx hb dX5_copyFrom_1 rfl (lv_at hl 1 rfl) ?_
  refine va_get (D := (dC, dI)) (ci := 5) (v := .int a1_0) (C := RX5) (T := TX5) (N := 7) hx hb hts zi_X5_copyFrom_5 hown hK hP 1 rfl rfl 0 (by decide) (hts (.fieldLink RX5 18 "WaxTurns$Scene" "minute" "I") (List.mem_cons_of_mem _ (List.mem_append_left _ (List.mem_of_getElem? (i := 0) rfl)))) (fun _ h9 => h9) rfl dX5_copyFrom_2 ?_
  refine va_put (D := (dC, dI)) (ci := 5) (v := .int a1_0) (ty := .int) (C := RX5) (T := TX5) (N := 7) hx hb hts zi_X5_copyFrom_5 tyX5 tyX5_ok nmX5 hown hK hP hD hS 0 rfl rfl 0 (by decide) (hts (.fieldLink RX5 18 "WaxTurns$Scene" "minute" "I") (List.mem_cons_of_mem _ (List.mem_append_left _ (List.mem_of_getElem? (i := 0) rfl)))) (fun _ h9 => h9) rfl (tyX5_ok 0 (by decide)) rfl rfl (Nat.le_of_ble_eq_true rfl) dX5_copyFrom_5 (fun H locs hP hD hS => ?_)
  obtain ⟨hP, hD⟩ := zc_re (w := [(a0, .inr (5, [.int a1_0, .int a0_1, .int a0_2, .int a0_3, .int a0_4, .ref a0_5, .ref a0_6])), (a1, .inr (5, [.int a1_0, .int a1_1, .int a1_2, .int a1_3, .int a1_4, .ref a1_5, .ref a1_6])), (a1_5, .inl (ka1_5, 9, .inl (fa1_5))), (a0_5, .inl (ka0_5, 9, .inl (fa0_5))), (a1_6, .inl (ka1_6, 9, .inl (fa1_6))), (a0_6, .inl (ka0_6, 9, .inl (fa0_6)))]) hP hD rfl
  refine lv_aload_n hx hb dX5_copyFrom_8 rfl (lv_at hl 0 rfl) ?_
  refine lv_aload_n hx hb dX5_copyFrom_9 rfl (lv_at hl 1 rfl) ?_
  refine va_get (D := (dC, dI)) (ci := 5) (v := .int a1_1) (C := RX5) (T := TX5) (N := 7) hx hb hts zi_X5_copyFrom_5 hown hK hP 1 rfl rfl 1 (by decide) (hts (.fieldLink RX5 32 "WaxTurns$Scene" "turn" "I") (List.mem_cons_of_mem _ (List.mem_append_left _ (List.mem_of_getElem? (i := 1) rfl)))) (fun _ h9 => h9) rfl dX5_copyFrom_10 ?_
  refine va_put (D := (dC, dI)) (ci := 5) (v := .int a1_1) (ty := .int) (C := RX5) (T := TX5) (N := 7) hx hb hts zi_X5_copyFrom_5 tyX5 tyX5_ok nmX5 hown hK hP hD hS 0 rfl rfl 1 (by decide) (hts (.fieldLink RX5 32 "WaxTurns$Scene" "turn" "I") (List.mem_cons_of_mem _ (List.mem_append_left _ (List.mem_of_getElem? (i := 1) rfl)))) (fun _ h9 => h9) rfl (tyX5_ok 1 (by decide)) rfl rfl (Nat.le_of_ble_eq_true rfl) dX5_copyFrom_13 (fun H locs hP hD hS => ?_)
  obtain ⟨hP, hD⟩ := zc_re (w := [(a0, .inr (5, [.int a1_0, .int a1_1, .int a0_2, .int a0_3, .int a0_4, .ref a0_5, .ref a0_6])), (a1, .inr (5, [.int a1_0, .int a1_1, .int a1_2, .int a1_3, .int a1_4, .ref a1_5, .ref a1_6])), (a1_5, .inl (ka1_5, 9, .inl (fa1_5))), (a0_5, .inl (ka0_5, 9, .inl (fa0_5))), (a1_6, .inl (ka1_6, 9, .inl (fa1_6))), (a0_6, .inl (ka0_6, 9, .inl (fa0_6)))]) hP hD rfl
  refine lv_aload_n hx hb dX5_copyFrom_16 rfl (lv_at hl 0 rfl) ?_
  refine lv_aload_n hx hb dX5_copyFrom_17 rfl (lv_at hl 1 rfl) ?_
  refine va_get (D := (dC, dI)) (ci := 5) (v := .int a1_2) (C := RX5) (T := TX5) (N := 7) hx hb hts zi_X5_copyFrom_5 hown hK hP 1 rfl rfl 2 (by decide) (hts (.fieldLink RX5 35 "WaxTurns$Scene" "spent" "I") (List.mem_cons_of_mem _ (List.mem_append_left _ (List.mem_of_getElem? (i := 2) rfl)))) (fun _ h9 => h9) rfl dX5_copyFrom_18 ?_
  refine va_put (D := (dC, dI)) (ci := 5) (v := .int a1_2) (ty := .int) (C := RX5) (T := TX5) (N := 7) hx hb hts zi_X5_copyFrom_5 tyX5 tyX5_ok nmX5 hown hK hP hD hS 0 rfl rfl 2 (by decide) (hts (.fieldLink RX5 35 "WaxTurns$Scene" "spent" "I") (List.mem_cons_of_mem _ (List.mem_append_left _ (List.mem_of_getElem? (i := 2) rfl)))) (fun _ h9 => h9) rfl (tyX5_ok 2 (by decide)) rfl rfl (Nat.le_of_ble_eq_true rfl) dX5_copyFrom_21 (fun H locs hP hD hS => ?_)
  obtain ⟨hP, hD⟩ := zc_re (w := [(a0, .inr (5, [.int a1_0, .int a1_1, .int a1_2, .int a0_3, .int a0_4, .ref a0_5, .ref a0_6])), (a1, .inr (5, [.int a1_0, .int a1_1, .int a1_2, .int a1_3, .int a1_4, .ref a1_5, .ref a1_6])), (a1_5, .inl (ka1_5, 9, .inl (fa1_5))), (a0_5, .inl (ka0_5, 9, .inl (fa0_5))), (a1_6, .inl (ka1_6, 9, .inl (fa1_6))), (a0_6, .inl (ka0_6, 9, .inl (fa0_6)))]) hP hD rfl
  refine lv_aload_n hx hb dX5_copyFrom_24 rfl (lv_at hl 0 rfl) ?_
  refine lv_aload_n hx hb dX5_copyFrom_25 rfl (lv_at hl 1 rfl) ?_
  refine va_get (D := (dC, dI)) (ci := 5) (v := .int a1_3) (C := RX5) (T := TX5) (N := 7) hx hb hts zi_X5_copyFrom_5 hown hK hP 1 rfl rfl 3 (by decide) (hts (.fieldLink RX5 22 "WaxTurns$Scene" "goneBits" "I") (List.mem_cons_of_mem _ (List.mem_append_left _ (List.mem_of_getElem? (i := 3) rfl)))) (fun _ h9 => h9) rfl dX5_copyFrom_26 ?_
  refine va_put (D := (dC, dI)) (ci := 5) (v := .int a1_3) (ty := .int) (C := RX5) (T := TX5) (N := 7) hx hb hts zi_X5_copyFrom_5 tyX5 tyX5_ok nmX5 hown hK hP hD hS 0 rfl rfl 3 (by decide) (hts (.fieldLink RX5 22 "WaxTurns$Scene" "goneBits" "I") (List.mem_cons_of_mem _ (List.mem_append_left _ (List.mem_of_getElem? (i := 3) rfl)))) (fun _ h9 => h9) rfl (tyX5_ok 3 (by decide)) rfl rfl (Nat.le_of_ble_eq_true rfl) dX5_copyFrom_29 (fun H locs hP hD hS => ?_)
  obtain ⟨hP, hD⟩ := zc_re (w := [(a0, .inr (5, [.int a1_0, .int a1_1, .int a1_2, .int a1_3, .int a0_4, .ref a0_5, .ref a0_6])), (a1, .inr (5, [.int a1_0, .int a1_1, .int a1_2, .int a1_3, .int a1_4, .ref a1_5, .ref a1_6])), (a1_5, .inl (ka1_5, 9, .inl (fa1_5))), (a0_5, .inl (ka0_5, 9, .inl (fa0_5))), (a1_6, .inl (ka1_6, 9, .inl (fa1_6))), (a0_6, .inl (ka0_6, 9, .inl (fa0_6)))]) hP hD rfl
  refine lv_aload_n hx hb dX5_copyFrom_32 rfl (lv_at hl 0 rfl) ?_
  refine lv_aload_n hx hb dX5_copyFrom_33 rfl (lv_at hl 1 rfl) ?_
  refine va_get (D := (dC, dI)) (ci := 5) (v := .int a1_4) (C := RX5) (T := TX5) (N := 7) hx hb hts zi_X5_copyFrom_5 hown hK hP 1 rfl rfl 4 (by decide) (hts (.fieldLink RX5 25 "WaxTurns$Scene" "catchCount" "I") (List.mem_cons_of_mem _ (List.mem_append_left _ (List.mem_of_getElem? (i := 4) rfl)))) (fun _ h9 => h9) rfl dX5_copyFrom_34 ?_
  refine va_put (D := (dC, dI)) (ci := 5) (v := .int a1_4) (ty := .int) (C := RX5) (T := TX5) (N := 7) hx hb hts zi_X5_copyFrom_5 tyX5 tyX5_ok nmX5 hown hK hP hD hS 0 rfl rfl 4 (by decide) (hts (.fieldLink RX5 25 "WaxTurns$Scene" "catchCount" "I") (List.mem_cons_of_mem _ (List.mem_append_left _ (List.mem_of_getElem? (i := 4) rfl)))) (fun _ h9 => h9) rfl (tyX5_ok 4 (by decide)) rfl rfl (Nat.le_of_ble_eq_true rfl) dX5_copyFrom_37 (fun H locs hP hD hS => ?_)
  obtain ⟨hP, hD⟩ := zc_re (w := [(a0, .inr (5, [.int a1_0, .int a1_1, .int a1_2, .int a1_3, .int a1_4, .ref a0_5, .ref a0_6])), (a1, .inr (5, [.int a1_0, .int a1_1, .int a1_2, .int a1_3, .int a1_4, .ref a1_5, .ref a1_6])), (a1_5, .inl (ka1_5, 9, .inl (fa1_5))), (a0_5, .inl (ka0_5, 9, .inl (fa0_5))), (a1_6, .inl (ka1_6, 9, .inl (fa1_6))), (a0_6, .inl (ka0_6, 9, .inl (fa0_6)))]) hP hD rfl
  refine lv_iconst (v := 0) hx hb dX5_copyFrom_40 zk_iconst_0 ?_
  refine lv_istore_n (lv' := [(2, .int 0), (0, .ref a0), (1, .ref a1)]) hx hb dX5_copyFrom_41 rfl hl (by decide) rfl (fun ls hl => ?_)
  have J42 : ∀ (n : Nat) (j42l2 : Int32) (j42a0_5_a : Nat → Int32) (j42a0_6_a : Nat → Int32) (H : Heap) (locs : List Loc) (ls : Array Slot), (10 : Int) - j42l2.toInt ≤ (n : Int) → (0 : Int) ≤ j42l2.toInt → j42l2.toInt ≤ (9 : Int) → va_P (dC, dI) vwCl [(a0, .inr (5, [.int a1_0, .int a1_1, .int a1_2, .int a1_3, .int a1_4, .ref a0_5, .ref a0_6])), (a1, .inr (5, [.int a1_0, .int a1_1, .int a1_2, .int a1_3, .int a1_4, .ref a1_5, .ref a1_6])), (a1_5, .inl (ka1_5, 9, .inl (fa1_5))), (a0_5, .inl (ka0_5, 9, .inl (j42a0_5_a))), (a1_6, .inl (ka1_6, 9, .inl (fa1_6))), (a0_6, .inl (ka0_6, 9, .inl (j42a0_6_a)))] H → va_D A [(a0, .inr (5, [.int a1_0, .int a1_1, .int a1_2, .int a1_3, .int a1_4, .ref a0_5, .ref a0_6])), (a1, .inr (5, [.int a1_0, .int a1_1, .int a1_2, .int a1_3, .int a1_4, .ref a1_5, .ref a1_6])), (a1_5, .inl (ka1_5, 9, .inl (fa1_5))), (a0_5, .inl (ka0_5, 9, .inl (j42a0_5_a))), (a1_6, .inl (ka1_6, 9, .inl (fa1_6))), (a0_6, .inl (ka0_6, 9, .inl (j42a0_6_a)))] → va_S A s.heap H locs → lv_has ls 3 [(0, .ref a0), (1, .ref a1), (2, .int j42l2)] → K H locs (F0 m 42 ls []) := by
    intro n
    induction n with
    | zero =>
      intro j42l2 j42a0_5_a j42a0_6_a H locs ls hm bj42l2_l bj42l2_u hP hD hS hl
      have h8 := ai_min j42l2
      have h9 := ai_max j42l2
      exact absurd hm (by omega)
    | succ n ih42 =>
      intro j42l2 j42a0_5_a j42a0_6_a H locs ls hm bj42l2_l bj42l2_u hP hD hS hl
      refine (hK0 _ _ _).mpr ?_
      have hm42 := hm
      refine lv_iload_n hx hb dX5_copyFrom_42 rfl (lv_at hl 2 rfl) ?_
      refine lv_bipush (v := 9) hx hb dX5_copyFrom_43 zk_bipush_9 ?_
      refine lv_icmp_ge (tgt := 78) hx hb dX5_copyFrom_45 (by decide) (fun c45 => ?_) (fun c45 => ?_)
      · have gc45 := ai_le c45
        have l45t_j42l2 : (9 : Int) ≤ j42l2.toInt := Int.le_trans zq2 gc45
        exact W.vret hx hb hr (fun t ht hW => ⟨⟨(), rfl, trivial, a1_0, a1_1, a1_2, a1_3, a1_4, j42a0_5_a, j42a0_6_a, ⟨ba1_1_l, ba1_1_u⟩, by rw [ht]; exact hP, va_K.moved hW.alike hK, hD⟩, hS.F ht⟩) hS.2.2 dX5_copyFrom_78
      · have gc45 := ai_nle c45
        have u45f_j42l2 : j42l2.toInt ≤ (8 : Int) := ai_lthi gc45 zq3
        refine lv_aload_n hx hb dX5_copyFrom_48 rfl (lv_at hl 0 rfl) ?_
        refine va_get (D := (dC, dI)) (ci := 5) (v := .ref a0_5) (C := RX5) (T := TX5) (N := 7) hx hb hts zi_X5_copyFrom_5 hown hK hP 0 rfl rfl 5 (by decide) (hts (.fieldLink RX5 9 "WaxTurns$Scene" "places" "[I") (List.mem_cons_of_mem _ (List.mem_append_left _ (List.mem_of_getElem? (i := 5) rfl)))) (fun _ h9 => h9) rfl dX5_copyFrom_49 ?_
        refine lv_iload_n hx hb dX5_copyFrom_52 rfl (lv_at hl 2 rfl) ?_
        refine lv_aload_n hx hb dX5_copyFrom_53 rfl (lv_at hl 1 rfl) ?_
        refine va_get (D := (dC, dI)) (ci := 5) (v := .ref a1_5) (C := RX5) (T := TX5) (N := 7) hx hb hts zi_X5_copyFrom_5 hown hK hP 1 rfl rfl 5 (by decide) (hts (.fieldLink RX5 9 "WaxTurns$Scene" "places" "[I") (List.mem_cons_of_mem _ (List.mem_append_left _ (List.mem_of_getElem? (i := 5) rfl)))) (fun _ h9 => h9) rfl dX5_copyFrom_54 ?_
        refine lv_iload_n hx hb dX5_copyFrom_57 rfl (lv_at hl 2 rfl) ?_
        refine va_iald hx hb hK hP 2 0 rfl rfl (ai_in bj42l2_l u45f_j42l2 (by decide) (by decide)) dX5_copyFrom_58 ?_
        refine lv_topi (fun x58 ex58 => ?_)
        refine va_iast hx hb hK hP hD hS 3 1 rfl rfl (ai_in bj42l2_l u45f_j42l2 (by decide) (by decide)) dX5_copyFrom_59 (fun H locs hP hD hS => ?_)
        obtain ⟨f59, hP, hD⟩ : ∃ f59 : Nat → Int32, va_P (dC, dI) vwCl [(a0, .inr (5, [.int a1_0, .int a1_1, .int a1_2, .int a1_3, .int a1_4, .ref a0_5, .ref a0_6])), (a1, .inr (5, [.int a1_0, .int a1_1, .int a1_2, .int a1_3, .int a1_4, .ref a1_5, .ref a1_6])), (a1_5, .inl (ka1_5, 9, .inl (fa1_5))), (a0_5, .inl (ka0_5, 9, .inl (f59))), (a1_6, .inl (ka1_6, 9, .inl (fa1_6))), (a0_6, .inl (ka0_6, 9, .inl (j42a0_6_a)))] H ∧ va_D A [(a0, .inr (5, [.int a1_0, .int a1_1, .int a1_2, .int a1_3, .int a1_4, .ref a0_5, .ref a0_6])), (a1, .inr (5, [.int a1_0, .int a1_1, .int a1_2, .int a1_3, .int a1_4, .ref a1_5, .ref a1_6])), (a1_5, .inl (ka1_5, 9, .inl (fa1_5))), (a0_5, .inl (ka0_5, 9, .inl (f59))), (a1_6, .inl (ka1_6, 9, .inl (fa1_6))), (a0_6, .inl (ka0_6, 9, .inl (j42a0_6_a)))] := ⟨_, hP, hD⟩
        refine lv_aload_n hx hb dX5_copyFrom_60 rfl (lv_at hl 0 rfl) ?_
        refine va_get (D := (dC, dI)) (ci := 5) (v := .ref a0_6) (C := RX5) (T := TX5) (N := 7) hx hb hts zi_X5_copyFrom_5 hown hK hP 0 rfl rfl 6 (by decide) (hts (.fieldLink RX5 15 "WaxTurns$Scene" "heardBits" "[I") (List.mem_cons_of_mem _ (List.mem_append_left _ (List.mem_of_getElem? (i := 6) rfl)))) (fun _ h9 => h9) rfl dX5_copyFrom_61 ?_
        refine lv_iload_n hx hb dX5_copyFrom_64 rfl (lv_at hl 2 rfl) ?_
        refine lv_aload_n hx hb dX5_copyFrom_65 rfl (lv_at hl 1 rfl) ?_
        refine va_get (D := (dC, dI)) (ci := 5) (v := .ref a1_6) (C := RX5) (T := TX5) (N := 7) hx hb hts zi_X5_copyFrom_5 hown hK hP 1 rfl rfl 6 (by decide) (hts (.fieldLink RX5 15 "WaxTurns$Scene" "heardBits" "[I") (List.mem_cons_of_mem _ (List.mem_append_left _ (List.mem_of_getElem? (i := 6) rfl)))) (fun _ h9 => h9) rfl dX5_copyFrom_66 ?_
        refine lv_iload_n hx hb dX5_copyFrom_69 rfl (lv_at hl 2 rfl) ?_
        refine va_iald hx hb hK hP 4 2 rfl rfl (ai_in bj42l2_l u45f_j42l2 (by decide) (by decide)) dX5_copyFrom_70 ?_
        refine lv_topi (fun x70 ex70 => ?_)
        refine va_iast hx hb hK hP hD hS 5 3 rfl rfl (ai_in bj42l2_l u45f_j42l2 (by decide) (by decide)) dX5_copyFrom_71 (fun H locs hP hD hS => ?_)
        obtain ⟨f71, hP, hD⟩ : ∃ f71 : Nat → Int32, va_P (dC, dI) vwCl [(a0, .inr (5, [.int a1_0, .int a1_1, .int a1_2, .int a1_3, .int a1_4, .ref a0_5, .ref a0_6])), (a1, .inr (5, [.int a1_0, .int a1_1, .int a1_2, .int a1_3, .int a1_4, .ref a1_5, .ref a1_6])), (a1_5, .inl (ka1_5, 9, .inl (fa1_5))), (a0_5, .inl (ka0_5, 9, .inl (f59))), (a1_6, .inl (ka1_6, 9, .inl (fa1_6))), (a0_6, .inl (ka0_6, 9, .inl (f71)))] H ∧ va_D A [(a0, .inr (5, [.int a1_0, .int a1_1, .int a1_2, .int a1_3, .int a1_4, .ref a0_5, .ref a0_6])), (a1, .inr (5, [.int a1_0, .int a1_1, .int a1_2, .int a1_3, .int a1_4, .ref a1_5, .ref a1_6])), (a1_5, .inl (ka1_5, 9, .inl (fa1_5))), (a0_5, .inl (ka0_5, 9, .inl (f59))), (a1_6, .inl (ka1_6, 9, .inl (fa1_6))), (a0_6, .inl (ka0_6, 9, .inl (f71)))] := ⟨_, hP, hD⟩
        obtain ⟨x72, ex72⟩ : ∃ y : Int32, y = j42l2 + Int32.ofInt 1 := ⟨_, rfl⟩
        have qx72 : x72.toInt = j42l2.toInt + 1 := ai_inc ex72 (by decide) (by decide) u45f_j42l2 (by decide)
        have bx72 : (1 : Int) ≤ x72.toInt ∧ x72.toInt ≤ 9 := ⟨by rw [qx72]; exact Int.add_le_add bj42l2_l (Int.le_refl _), by rw [qx72]; exact Int.add_le_add u45f_j42l2 (Int.le_refl _)⟩
        refine lv_iinc (v := x72) (lv' := [(2, .int x72), (0, .ref a0), (1, .ref a1)]) hx hb dX5_copyFrom_72 hl (k := 2) rfl ex72.symm (by decide) rfl (fun ls hl => ?_)
        refine lv_goto (tgt := 42) hx hb dX5_copyFrom_75 (by decide) ?_
        exact (hK0 _ _ _).mp (ih42 x72 f59 f71 _ _ _ (by have h0 := qx72; omega) (Int.le_trans zq4 bx72.1) bx72.2 hP hD hS (lv_sub hl [1, 2, 0] rfl))
  exact (hK0 _ _ _).mp (J42 10 0 fa0_5 fa0_6 _ _ _ (by have h1 : (0 : Int) ≤ (0 : Int32).toInt := zq5; have h2 : (0 : Int32).toInt ≤ (0 : Int) := zq6; omega) zq5 (Int.le_trans zq6 zq7) hP hD hS (lv_sub hl [1, 2, 0] rfl))

set_option maxHeartbeats 4000000 in
set_option maxRecDepth 100000 in
theorem c_X5_begin (l : Launch) (dC : Nat → ClassId) (dI : Nat → Nat → Nat) (sz : Nat) (a0 : Nat) (a1 : Int32) (a0_0 : Int32) (a0_1 : Int32) (a0_2 : Int32) (a0_3 : Int32) (a0_4 : Int32) (a0_5 : Nat) (a0_6 : Nat) (ka0_5 : ClassId) (fa0_5 : Nat → Int32) (ka0_6 : ClassId) (fa0_6 : Nat → Int32) (ba1_l : (0 : Int) ≤ a1.toInt) (ba1_u : a1.toInt ≤ (8 : Int)) (ba0_1_l : (0 : Int) ≤ a0_1.toInt) (ba0_1_u : a0_1.toInt ≤ (8 : Int)) : Met l yX5_begin wsX5_begin ({ frames := 1, cells := 0, slots := 0, locals := 21 }) (va_Pc [.ref a0, .int a1] (ax_C dC dI sz [(a0, .inr (5, [.int a0_0, .int a0_1, .int a0_2, .int a0_3, .int a0_4, .ref a0_5, .ref a0_6])), (a0_5, .inl (ka0_5, 9, .inl (fa0_5))), (a0_6, .inl (ka0_6, 9, .inl (fa0_6)))] [(ka0_5, .int), (ka0_6, .int)] (fun _ => True))) (va_Qv (fun (_ : Unit) => True) (fun (_ : Unit) (t : State) => ∃ na0_0 : Int32, ∃ na0_1 : Int32, ∃ na0_2 : Int32, ∃ na0_3 : Int32, ∃ na0_4 : Int32, ∃ nfa0_5 : Nat → Int32, ∃ nfa0_6 : Nat → Int32, ((0 : Int) ≤ na0_1.toInt ∧ na0_1.toInt ≤ 8) ∧ ax_B dC dI (va_A [(a0, .inr (5, [.int a0_0, .int a0_1, .int a0_2, .int a0_3, .int a0_4, .ref a0_5, .ref a0_6])), (a0_5, .inl (ka0_5, 9, .inl (fa0_5))), (a0_6, .inl (ka0_6, 9, .inl (fa0_6)))] sz) [(a0, .inr (5, [.int na0_0, .int na0_1, .int na0_2, .int na0_3, .int na0_4, .ref a0_5, .ref a0_6])), (a0_5, .inl (ka0_5, 9, .inl (nfa0_5))), (a0_6, .inl (ka0_6, 9, .inl (nfa0_6)))] [(ka0_5, .int), (ka0_6, .int)] t) (va_A [(a0, .inr (5, [.int a0_0, .int a0_1, .int a0_2, .int a0_3, .int a0_4, .ref a0_5, .ref a0_6])), (a0_5, .inl (ka0_5, 9, .inl (fa0_5))), (a0_6, .inl (ka0_6, 9, .inl (fa0_6)))] sz)) 0 0 (va_A [(a0, .inr (5, [.int a0_0, .int a0_1, .int a0_2, .int a0_3, .int a0_4, .ref a0_5, .ref a0_6])), (a0_5, .inl (ka0_5, 9, .inl (fa0_5))), (a0_6, .inl (ka0_6, 9, .inl (fa0_6)))] sz) := by
  refine Met.ofW (cc := cX5_begin) (maxL := 3) (ret := none) (by decide) rfl ?_
  intro p e s m args below meth c s₁ B hml hv
  obtain ⟨rfl, hsz, hP, hK, hD0, hE⟩ := hv
  have hx := B.exec
  have hb := B.bytes
  have hr := B.returns
  have hts := atoms_spec (ws := wsX5_begin) B.pre
  have hown : s.vm.findClass RX5 = some m.cls := findClass_of_methodNamed B.named
  have hlocks := B.notSynchronized
  subst hsz
  have hD := hD0.self (sz := s.heap.size)
  generalize hAe : va_A [(a0, .inr (5, [.int a0_0, .int a0_1, .int a0_2, .int a0_3, .int a0_4, .ref a0_5, .ref a0_6])), (a0_5, .inl (ka0_5, 9, .inl (fa0_5))), (a0_6, .inl (ka0_6, 9, .inl (fa0_6)))] s.heap.size = A at hD ⊢
  have hA : ∀ q : Nat, s.heap.size ≤ q → A q := fun q h => by rw [← hAe]; exact Or.inr h
  have hS : va_S A s.heap s.heap [] := va_S.rf
  have hP : va_P (dC, dI) vwCl [(a0, .inr (5, [.int a0_0, .int a0_1, .int a0_2, .int a0_3, .int a0_4, .ref a0_5, .ref a0_6])), (a0_5, .inl (ka0_5, 9, .inl (fa0_5))), (a0_6, .inl (ka0_6, 9, .inl (fa0_6)))] s.heap := hP
  have hl := lv_entry ([.ref a0, .int a1]) (n := 3) (Nat.le_of_ble_eq_true rfl)
  rw [lg_entry_eq]
  generalize (lg_sl ([.ref a0, .int a1]) ++ List.replicate (3 - (lg_sl ([.ref a0, .int a1])).length) Slot.unset).toArray = ls at hl ⊢
  have hl : lv_has ls 3 [(0, .ref a0), (1, .int a1)] := hl
  refine ai_open (fun K hK0 => ?_)
  refine (hK0 _ _ _).mpr ?_
  refine lv_aload_n hx hb dX5_begin_0 rfl (lv_at hl 0 rfl) ?_
  refine lv_iconst (v := 0) hx hb dX5_begin_1 zk_iconst_0 ?_
  refine va_put (D := (dC, dI)) (ci := 5) (v := .int 0) (ty := .int) (C := RX5) (T := TX5) (N := 7) hx hb hts zi_X5_begin_5 tyX5 tyX5_ok nmX5 hown hK hP hD hS 0 rfl rfl 0 (by decide) (hts (.fieldLink RX5 18 "WaxTurns$Scene" "minute" "I") (List.mem_cons_of_mem _ (List.mem_append_left _ (List.mem_of_getElem? (i := 0) rfl)))) (fun _ h9 => h9) rfl (tyX5_ok 0 (by decide)) rfl rfl (Nat.le_of_ble_eq_true rfl) dX5_begin_2 (fun H locs hP hD hS => ?_)
  obtain ⟨hP, hD⟩ := zc_re (w := [(a0, .inr (5, [.int 0, .int a0_1, .int a0_2, .int a0_3, .int a0_4, .ref a0_5, .ref a0_6])), (a0_5, .inl (ka0_5, 9, .inl (fa0_5))), (a0_6, .inl (ka0_6, 9, .inl (fa0_6)))]) hP hD rfl
  refine lv_aload_n hx hb dX5_begin_5 rfl (lv_at hl 0 rfl) ?_
  refine lv_iconst (v := 0) hx hb dX5_begin_6 zk_iconst_0 ?_
  refine va_put (D := (dC, dI)) (ci := 5) (v := .int 0) (ty := .int) (C := RX5) (T := TX5) (N := 7) hx hb hts zi_X5_begin_5 tyX5 tyX5_ok nmX5 hown hK hP hD hS 0 rfl rfl 3 (by decide) (hts (.fieldLink RX5 22 "WaxTurns$Scene" "goneBits" "I") (List.mem_cons_of_mem _ (List.mem_append_left _ (List.mem_of_getElem? (i := 1) rfl)))) (fun _ h9 => h9) rfl (tyX5_ok 3 (by decide)) rfl rfl (Nat.le_of_ble_eq_true rfl) dX5_begin_7 (fun H locs hP hD hS => ?_)
  obtain ⟨hP, hD⟩ := zc_re (w := [(a0, .inr (5, [.int 0, .int a0_1, .int a0_2, .int 0, .int a0_4, .ref a0_5, .ref a0_6])), (a0_5, .inl (ka0_5, 9, .inl (fa0_5))), (a0_6, .inl (ka0_6, 9, .inl (fa0_6)))]) hP hD rfl
  refine lv_aload_n hx hb dX5_begin_10 rfl (lv_at hl 0 rfl) ?_
  refine lv_iconst (v := 0) hx hb dX5_begin_11 zk_iconst_0 ?_
  refine va_put (D := (dC, dI)) (ci := 5) (v := .int 0) (ty := .int) (C := RX5) (T := TX5) (N := 7) hx hb hts zi_X5_begin_5 tyX5 tyX5_ok nmX5 hown hK hP hD hS 0 rfl rfl 4 (by decide) (hts (.fieldLink RX5 25 "WaxTurns$Scene" "catchCount" "I") (List.mem_cons_of_mem _ (List.mem_append_left _ (List.mem_of_getElem? (i := 2) rfl)))) (fun _ h9 => h9) rfl (tyX5_ok 4 (by decide)) rfl rfl (Nat.le_of_ble_eq_true rfl) dX5_begin_12 (fun H locs hP hD hS => ?_)
  obtain ⟨hP, hD⟩ := zc_re (w := [(a0, .inr (5, [.int 0, .int a0_1, .int a0_2, .int 0, .int 0, .ref a0_5, .ref a0_6])), (a0_5, .inl (ka0_5, 9, .inl (fa0_5))), (a0_6, .inl (ka0_6, 9, .inl (fa0_6)))]) hP hD rfl
  refine lv_iconst (v := 0) hx hb dX5_begin_15 zk_iconst_0 ?_
  refine lv_istore_n (lv' := [(2, .int 0), (0, .ref a0), (1, .int a1)]) hx hb dX5_begin_16 rfl hl (by decide) rfl (fun ls hl => ?_)
  have J17 : ∀ (n : Nat) (j17l2 : Int32) (j17a0_5_a : Nat → Int32) (j17a0_6_a : Nat → Int32) (H : Heap) (locs : List Loc) (ls : Array Slot), (10 : Int) - j17l2.toInt ≤ (n : Int) → (0 : Int) ≤ j17l2.toInt → j17l2.toInt ≤ (9 : Int) → va_P (dC, dI) vwCl [(a0, .inr (5, [.int 0, .int a0_1, .int a0_2, .int 0, .int 0, .ref a0_5, .ref a0_6])), (a0_5, .inl (ka0_5, 9, .inl (j17a0_5_a))), (a0_6, .inl (ka0_6, 9, .inl (j17a0_6_a)))] H → va_D A [(a0, .inr (5, [.int 0, .int a0_1, .int a0_2, .int 0, .int 0, .ref a0_5, .ref a0_6])), (a0_5, .inl (ka0_5, 9, .inl (j17a0_5_a))), (a0_6, .inl (ka0_6, 9, .inl (j17a0_6_a)))] → va_S A s.heap H locs → lv_has ls 3 [(0, .ref a0), (1, .int a1), (2, .int j17l2)] → K H locs (F0 m 17 ls []) := by
    intro n
    induction n with
    | zero =>
      intro j17l2 j17a0_5_a j17a0_6_a H locs ls hm bj17l2_l bj17l2_u hP hD hS hl
      have h8 := ai_min j17l2
      have h9 := ai_max j17l2
      exact absurd hm (by omega)
    | succ n ih17 =>
      intro j17l2 j17a0_5_a j17a0_6_a H locs ls hm bj17l2_l bj17l2_u hP hD hS hl
      refine (hK0 _ _ _).mpr ?_
      have hm17 := hm
      refine lv_iload_n hx hb dX5_begin_17 rfl (lv_at hl 2 rfl) ?_
      refine lv_bipush (v := 9) hx hb dX5_begin_18 zk_bipush_9 ?_
      refine lv_icmp_ge (tgt := 43) hx hb dX5_begin_20 (by decide) (fun c20 => ?_) (fun c20 => ?_)
      · have gc20 := ai_le c20
        have l20t_j17l2 : (9 : Int) ≤ j17l2.toInt := Int.le_trans zq2 gc20
        refine lv_aload_n hx hb dX5_begin_43 rfl (lv_at hl 0 rfl) ?_
        refine lv_iload_n hx hb dX5_begin_44 rfl (lv_at hl 1 rfl) ?_
        obtain ⟨hPc, hDc, hFc, hCc⟩ := zc_cut (wc := [(a0, .inr (5, [.int 0, .int a0_1, .int a0_2, .int 0, .int 0, .ref a0_5, .ref a0_6]))]) hP hD hS hA [0] (by decide +kernel) rfl
        have hKc := hK.sub (tys' := []) [] rfl
        refine va_callv (va_runV (As := [.int a1]) (rest := []) ⟨hx, hb, hml, hown, hts⟩ (c_X5_startTurn l dC dI H.size a0 a1 (.int 0) (.int 0) (.int 0) (.ref a0_5) (.ref a0_6) a0_1 a0_2 ba1_l ba1_u ba0_1_l ba0_1_u) (cwV 1 hts gX5_begin_X5_startTurn rfl rfl rfl zd_X5_startTurn ⟨Nat.le_of_ble_eq_true rfl, Nat.le_of_ble_eq_true rfl⟩) ⟨ax_blind (fun _ _ _ _ _ => trivial), zr_5 hKc hPc (q0 := 0) rfl, ax_pre hPc hKc hDc (fun _ _ => trivial)⟩ rfl rfl hl.1 rfl (lv_room (Nat.le_of_ble_eq_true rfl)) dX5_begin_45 ⟨Nat.le_of_ble_eq_true rfl, Nat.le_of_ble_eq_true rfl⟩) hS (fun q _ h => hFc q h) hFc (fun u t H locs ht hvm hw hB hz1 hk1 hS => ?_)
        obtain ⟨v45na0_1, v45na0_2, bv45na0_1, hP1, hK1, hD1⟩ := hB
        rw [ht] at hP1
        obtain ⟨hP, hD⟩ := zc_back (w := [(a0, .inr (5, [.int 0, .int v45na0_1, .int v45na0_2, .int 0, .int 0, .ref a0_5, .ref a0_6])), (a0_5, .inl (ka0_5, 9, .inl (j17a0_5_a))), (a0_6, .inl (ka0_6, 9, .inl (j17a0_6_a)))]) hP hD hCc hk1 hFc hP1 hD1 [.inr 0, .inl 1, .inl 2] (by decide +kernel) rfl
        exact W.vret hx hb hr (fun t ht hW => ⟨⟨(), rfl, trivial, 0, v45na0_1, v45na0_2, 0, 0, j17a0_5_a, j17a0_6_a, ⟨bv45na0_1.1, bv45na0_1.2⟩, by rw [ht]; exact hP, va_K.moved hW.alike hK, hD⟩, hS.F ht⟩) hS.2.2 dX5_begin_48
      · have gc20 := ai_nle c20
        have u20f_j17l2 : j17l2.toInt ≤ (8 : Int) := ai_lthi gc20 zq3
        refine lv_aload_n hx hb dX5_begin_23 rfl (lv_at hl 0 rfl) ?_
        refine va_get (D := (dC, dI)) (ci := 5) (v := .ref a0_5) (C := RX5) (T := TX5) (N := 7) hx hb hts zi_X5_begin_5 hown hK hP 0 rfl rfl 5 (by decide) (hts (.fieldLink RX5 9 "WaxTurns$Scene" "places" "[I") (List.mem_cons_of_mem _ (List.mem_append_left _ (List.mem_of_getElem? (i := 3) rfl)))) (fun _ h9 => h9) rfl dX5_begin_24 ?_
        refine lv_iload_n hx hb dX5_begin_27 rfl (lv_at hl 2 rfl) ?_
        refine lv_iload_n hx hb dX5_begin_28 rfl (lv_at hl 2 rfl) ?_
        refine va_iast hx hb hK hP hD hS 1 0 rfl rfl (ai_in bj17l2_l u20f_j17l2 (by decide) (by decide)) dX5_begin_29 (fun H locs hP hD hS => ?_)
        obtain ⟨f29, hP, hD⟩ : ∃ f29 : Nat → Int32, va_P (dC, dI) vwCl [(a0, .inr (5, [.int 0, .int a0_1, .int a0_2, .int 0, .int 0, .ref a0_5, .ref a0_6])), (a0_5, .inl (ka0_5, 9, .inl (f29))), (a0_6, .inl (ka0_6, 9, .inl (j17a0_6_a)))] H ∧ va_D A [(a0, .inr (5, [.int 0, .int a0_1, .int a0_2, .int 0, .int 0, .ref a0_5, .ref a0_6])), (a0_5, .inl (ka0_5, 9, .inl (f29))), (a0_6, .inl (ka0_6, 9, .inl (j17a0_6_a)))] := ⟨_, hP, hD⟩
        refine lv_aload_n hx hb dX5_begin_30 rfl (lv_at hl 0 rfl) ?_
        refine va_get (D := (dC, dI)) (ci := 5) (v := .ref a0_6) (C := RX5) (T := TX5) (N := 7) hx hb hts zi_X5_begin_5 hown hK hP 0 rfl rfl 6 (by decide) (hts (.fieldLink RX5 15 "WaxTurns$Scene" "heardBits" "[I") (List.mem_cons_of_mem _ (List.mem_append_left _ (List.mem_of_getElem? (i := 4) rfl)))) (fun _ h9 => h9) rfl dX5_begin_31 ?_
        refine lv_iload_n hx hb dX5_begin_34 rfl (lv_at hl 2 rfl) ?_
        refine lv_iconst (v := 0) hx hb dX5_begin_35 zk_iconst_0 ?_
        refine va_iast hx hb hK hP hD hS 2 1 rfl rfl (ai_in bj17l2_l u20f_j17l2 (by decide) (by decide)) dX5_begin_36 (fun H locs hP hD hS => ?_)
        obtain ⟨f36, hP, hD⟩ : ∃ f36 : Nat → Int32, va_P (dC, dI) vwCl [(a0, .inr (5, [.int 0, .int a0_1, .int a0_2, .int 0, .int 0, .ref a0_5, .ref a0_6])), (a0_5, .inl (ka0_5, 9, .inl (f29))), (a0_6, .inl (ka0_6, 9, .inl (f36)))] H ∧ va_D A [(a0, .inr (5, [.int 0, .int a0_1, .int a0_2, .int 0, .int 0, .ref a0_5, .ref a0_6])), (a0_5, .inl (ka0_5, 9, .inl (f29))), (a0_6, .inl (ka0_6, 9, .inl (f36)))] := ⟨_, hP, hD⟩
        obtain ⟨x37, ex37⟩ : ∃ y : Int32, y = j17l2 + Int32.ofInt 1 := ⟨_, rfl⟩
        have qx37 : x37.toInt = j17l2.toInt + 1 := ai_inc ex37 (by decide) (by decide) u20f_j17l2 (by decide)
        have bx37 : (1 : Int) ≤ x37.toInt ∧ x37.toInt ≤ 9 := ⟨by rw [qx37]; exact Int.add_le_add bj17l2_l (Int.le_refl _), by rw [qx37]; exact Int.add_le_add u20f_j17l2 (Int.le_refl _)⟩
        refine lv_iinc (v := x37) (lv' := [(2, .int x37), (0, .ref a0), (1, .int a1)]) hx hb dX5_begin_37 hl (k := 2) rfl ex37.symm (by decide) rfl (fun ls hl => ?_)
        refine lv_goto (tgt := 17) hx hb dX5_begin_40 (by decide) ?_
        exact (hK0 _ _ _).mp (ih17 x37 f29 f36 _ _ _ (by have h0 := qx37; omega) (Int.le_trans zq4 bx37.1) bx37.2 hP hD hS (lv_sub hl [1, 2, 0] rfl))
  exact (hK0 _ _ _).mp (J17 10 0 fa0_5 fa0_6 _ _ _ (by have h1 : (0 : Int) ≤ (0 : Int32).toInt := zq5; have h2 : (0 : Int32).toInt ≤ (0 : Int) := zq6; omega) zq5 (Int.le_trans zq6 zq7) hP hD hS (lv_sub hl [1, 2, 0] rfl))

set_option maxHeartbeats 4000000 in
set_option maxRecDepth 100000 in
theorem c_X6_add (l : Launch) (dC : Nat → ClassId) (dI : Nat → Nat → Nat) (sz : Nat) (a0 : Nat) (a1 : Int32) (a2 : Int32) (a0_0 : Int32) (a0g_1 : Value) (a0_2 : Nat) (a0_3 : Nat) (ka0_2 : ClassId) (fa0_2 : Nat → Int32) (ka0_3 : ClassId) (fa0_3 : Nat → Int32) (ba1_l : (0 : Int) ≤ a1.toInt) (ba1_u : a1.toInt ≤ (8 : Int)) (ba2_l : (0 : Int) ≤ a2.toInt) (ba2_u : a2.toInt ≤ (8 : Int)) (ba0_0_l : (0 : Int) ≤ a0_0.toInt) (ba0_0_u : a0_0.toInt ≤ (3 : Int)) (bfa0_2 : (∀ k, (0 : Int) ≤ (fa0_2 k).toInt ∧ (fa0_2 k).toInt ≤ 80)) (bfa0_3 : (∀ k, (0 : Int) ≤ (fa0_3 k).toInt ∧ (fa0_3 k).toInt ≤ 80)) : Met l yX6_add wsX6_add ({ frames := 0, cells := 0, slots := 0, locals := 0 }) (va_Pc [.ref a0, .int a1, .int a2] (ax_C dC dI sz [(a0, .inr (6, [.int a0_0, a0g_1, .ref a0_2, .ref a0_3])), (a0_2, .inl (ka0_2, 3, .inl (fa0_2))), (a0_3, .inl (ka0_3, 3, .inl (fa0_3)))] [(ka0_2, .int), (ka0_3, .int)] (fun _ => True))) (va_Qv (fun (_ : Unit) => True) (fun (_ : Unit) (t : State) => ∃ na0_0 : Int32, ∃ nfa0_2 : Nat → Int32, ∃ nfa0_3 : Nat → Int32, ((0 : Int) ≤ na0_0.toInt ∧ na0_0.toInt ≤ 3) ∧ (∀ k, (0 : Int) ≤ (nfa0_2 k).toInt ∧ (nfa0_2 k).toInt ≤ 80) ∧ (∀ k, (0 : Int) ≤ (nfa0_3 k).toInt ∧ (nfa0_3 k).toInt ≤ 80) ∧ ax_B dC dI (va_A [(a0, .inr (6, [.int a0_0, a0g_1, .ref a0_2, .ref a0_3])), (a0_2, .inl (ka0_2, 3, .inl (fa0_2))), (a0_3, .inl (ka0_3, 3, .inl (fa0_3)))] sz) [(a0, .inr (6, [.int na0_0, a0g_1, .ref a0_2, .ref a0_3])), (a0_2, .inl (ka0_2, 3, .inl (nfa0_2))), (a0_3, .inl (ka0_3, 3, .inl (nfa0_3)))] [(ka0_2, .int), (ka0_3, .int)] t) (va_A [(a0, .inr (6, [.int a0_0, a0g_1, .ref a0_2, .ref a0_3])), (a0_2, .inl (ka0_2, 3, .inl (fa0_2))), (a0_3, .inl (ka0_3, 3, .inl (fa0_3)))] sz)) 0 0 (va_A [(a0, .inr (6, [.int a0_0, a0g_1, .ref a0_2, .ref a0_3])), (a0_2, .inl (ka0_2, 3, .inl (fa0_2))), (a0_3, .inl (ka0_3, 3, .inl (fa0_3)))] sz) := by
  refine Met.ofW (cc := cX6_add) (maxL := 3) (ret := none) (by decide) rfl ?_
  intro p e s m args below meth c s₁ B hml hv
  obtain ⟨rfl, hsz, hP, hK, hD0, hE⟩ := hv
  have hx := B.exec
  have hb := B.bytes
  have hr := B.returns
  have hts := atoms_spec (ws := wsX6_add) B.pre
  have hown : s.vm.findClass RX6 = some m.cls := findClass_of_methodNamed B.named
  have hlocks := B.notSynchronized
  subst hsz
  have hD := hD0.self (sz := s.heap.size)
  generalize hAe : va_A [(a0, .inr (6, [.int a0_0, a0g_1, .ref a0_2, .ref a0_3])), (a0_2, .inl (ka0_2, 3, .inl (fa0_2))), (a0_3, .inl (ka0_3, 3, .inl (fa0_3)))] s.heap.size = A at hD ⊢
  have hA : ∀ q : Nat, s.heap.size ≤ q → A q := fun q h => by rw [← hAe]; exact Or.inr h
  have hS : va_S A s.heap s.heap [] := va_S.rf
  have hP : va_P (dC, dI) vwCl [(a0, .inr (6, [.int a0_0, a0g_1, .ref a0_2, .ref a0_3])), (a0_2, .inl (ka0_2, 3, .inl (fa0_2))), (a0_3, .inl (ka0_3, 3, .inl (fa0_3)))] s.heap := hP
  have hl := lv_entry ([.ref a0, .int a1, .int a2]) (n := 3) (Nat.le_of_ble_eq_true rfl)
  rw [lg_entry_eq]
  generalize (lg_sl ([.ref a0, .int a1, .int a2]) ++ List.replicate (3 - (lg_sl ([.ref a0, .int a1, .int a2])).length) Slot.unset).toArray = ls at hl ⊢
  have hl : lv_has ls 3 [(0, .ref a0), (1, .int a1), (2, .int a2)] := hl
  refine lv_aload_n hx hb dX6_add_0 rfl (lv_at hl 0 rfl) ?_
  refine va_get (D := (dC, dI)) (ci := 6) (v := .int a0_0) (C := RX6) (T := TX6) (N := 4) hx hb hts zi_X6_add_6 hown hK hP 0 rfl rfl 0 (by decide) (hts (.fieldLink RX6 18 "WaxTurns$Watchers" "count" "I") (List.mem_cons_of_mem _ (List.mem_append_left _ (List.mem_of_getElem? (i := 0) rfl)))) (fun _ h9 => h9) rfl dX6_add_1 ?_
  refine lv_iconst (v := 3) hx hb dX6_add_4 zk_iconst_3 ?_
  refine lv_icmp_ge (tgt := 38) hx hb dX6_add_5 (by decide) (fun c5 => ?_) (fun c5 => ?_)
  · have gc5 := ai_le c5
    have l5t_a0_0 : (3 : Int) ≤ a0_0.toInt := Int.le_trans zq8 gc5
    exact W.vret hx hb hr (fun t ht hW => ⟨⟨(), rfl, trivial, a0_0, fa0_2, fa0_3, ⟨Int.le_trans (by decide) l5t_a0_0, ba0_0_u⟩, bfa0_2, bfa0_3, by rw [ht]; exact hP, va_K.moved hW.alike hK, hD⟩, hS.F ht⟩) hS.2.2 dX6_add_38
  · have gc5 := ai_nle c5
    have u5f_a0_0 : a0_0.toInt ≤ (2 : Int) := ai_lthi gc5 zq9
    refine lv_aload_n hx hb dX6_add_8 rfl (lv_at hl 0 rfl) ?_
    refine va_get (D := (dC, dI)) (ci := 6) (v := .ref a0_2) (C := RX6) (T := TX6) (N := 4) hx hb hts zi_X6_add_6 hown hK hP 0 rfl rfl 2 (by decide) (hts (.fieldLink RX6 9 "WaxTurns$Watchers" "from" "[I") (List.mem_cons_of_mem _ (List.mem_append_left _ (List.mem_of_getElem? (i := 1) rfl)))) (fun _ h9 => h9) rfl dX6_add_9 ?_
    refine lv_aload_n hx hb dX6_add_12 rfl (lv_at hl 0 rfl) ?_
    refine va_get (D := (dC, dI)) (ci := 6) (v := .int a0_0) (C := RX6) (T := TX6) (N := 4) hx hb hts zi_X6_add_6 hown hK hP 0 rfl rfl 0 (by decide) (hts (.fieldLink RX6 18 "WaxTurns$Watchers" "count" "I") (List.mem_cons_of_mem _ (List.mem_append_left _ (List.mem_of_getElem? (i := 0) rfl)))) (fun _ h9 => h9) rfl dX6_add_13 ?_
    refine lv_iload_n hx hb dX6_add_16 rfl (lv_at hl 1 rfl) ?_
    refine va_iast hx hb hK hP hD hS 1 0 rfl rfl (ai_in ba0_0_l u5f_a0_0 (by decide) (by decide)) dX6_add_17 (fun H locs hP hD hS => ?_)
    obtain ⟨f17, bf17, hP, hD⟩ : ∃ f17 : Nat → Int32, (∀ k, (0 : Int) ≤ (f17 k).toInt ∧ (f17 k).toInt ≤ 80) ∧ va_P (dC, dI) vwCl [(a0, .inr (6, [.int a0_0, a0g_1, .ref a0_2, .ref a0_3])), (a0_2, .inl (ka0_2, 3, .inl (f17))), (a0_3, .inl (ka0_3, 3, .inl (fa0_3)))] H ∧ va_D A [(a0, .inr (6, [.int a0_0, a0g_1, .ref a0_2, .ref a0_3])), (a0_2, .inl (ka0_2, 3, .inl (f17))), (a0_3, .inl (ka0_3, 3, .inl (fa0_3)))] := ⟨_, ai_upd bfa0_2 _ ⟨ba1_l, (Int.le_trans ba1_u zq10)⟩, hP, hD⟩
    refine lv_aload_n hx hb dX6_add_18 rfl (lv_at hl 0 rfl) ?_
    refine va_get (D := (dC, dI)) (ci := 6) (v := .ref a0_3) (C := RX6) (T := TX6) (N := 4) hx hb hts zi_X6_add_6 hown hK hP 0 rfl rfl 3 (by decide) (hts (.fieldLink RX6 15 "WaxTurns$Watchers" "to" "[I") (List.mem_cons_of_mem _ (List.mem_append_left _ (List.mem_of_getElem? (i := 2) rfl)))) (fun _ h9 => h9) rfl dX6_add_19 ?_
    refine lv_aload_n hx hb dX6_add_22 rfl (lv_at hl 0 rfl) ?_
    refine va_get (D := (dC, dI)) (ci := 6) (v := .int a0_0) (C := RX6) (T := TX6) (N := 4) hx hb hts zi_X6_add_6 hown hK hP 0 rfl rfl 0 (by decide) (hts (.fieldLink RX6 18 "WaxTurns$Watchers" "count" "I") (List.mem_cons_of_mem _ (List.mem_append_left _ (List.mem_of_getElem? (i := 0) rfl)))) (fun _ h9 => h9) rfl dX6_add_23 ?_
    refine lv_iload_n hx hb dX6_add_26 rfl (lv_at hl 2 rfl) ?_
    refine va_iast hx hb hK hP hD hS 2 1 rfl rfl (ai_in ba0_0_l u5f_a0_0 (by decide) (by decide)) dX6_add_27 (fun H locs hP hD hS => ?_)
    obtain ⟨f27, bf27, hP, hD⟩ : ∃ f27 : Nat → Int32, (∀ k, (0 : Int) ≤ (f27 k).toInt ∧ (f27 k).toInt ≤ 80) ∧ va_P (dC, dI) vwCl [(a0, .inr (6, [.int a0_0, a0g_1, .ref a0_2, .ref a0_3])), (a0_2, .inl (ka0_2, 3, .inl (f17))), (a0_3, .inl (ka0_3, 3, .inl (f27)))] H ∧ va_D A [(a0, .inr (6, [.int a0_0, a0g_1, .ref a0_2, .ref a0_3])), (a0_2, .inl (ka0_2, 3, .inl (f17))), (a0_3, .inl (ka0_3, 3, .inl (f27)))] := ⟨_, ai_upd bfa0_3 _ ⟨ba2_l, (Int.le_trans ba2_u zq10)⟩, hP, hD⟩
    refine lv_aload_n hx hb dX6_add_28 rfl (lv_at hl 0 rfl) ?_
    refine lv_dup hx hb dX6_add_29 rfl ?_
    refine va_get (D := (dC, dI)) (ci := 6) (v := .int a0_0) (C := RX6) (T := TX6) (N := 4) hx hb hts zi_X6_add_6 hown hK hP 0 rfl rfl 0 (by decide) (hts (.fieldLink RX6 18 "WaxTurns$Watchers" "count" "I") (List.mem_cons_of_mem _ (List.mem_append_left _ (List.mem_of_getElem? (i := 0) rfl)))) (fun _ h9 => h9) rfl dX6_add_30 ?_
    refine lv_iconst (v := 1) hx hb dX6_add_33 zk_iconst_1 ?_
    refine lv_iadd hx hb dX6_add_34 ?_
    refine lv_topi (fun x34 ex34 => ?_)
    have qx34 : x34.toInt = a0_0.toInt + (1 : Int32).toInt := ai_add ex34 ⟨ba0_0_l, u5f_a0_0⟩ ⟨zq1, zq0⟩ (by decide) (by decide)
    have bx34 : (1 : Int) ≤ x34.toInt ∧ x34.toInt ≤ 3 := ⟨by rw [qx34]; exact Int.add_le_add ba0_0_l zq1, by rw [qx34]; exact Int.add_le_add u5f_a0_0 zq0⟩
    have wx34 : x34.toInt = a0_0.toInt + 1 := qx34
    refine va_put (D := (dC, dI)) (ci := 6) (v := .int x34) (ty := .int) (C := RX6) (T := TX6) (N := 4) hx hb hts zi_X6_add_6 tyX6 tyX6_ok nmX6 hown hK hP hD hS 0 rfl rfl 0 (by decide) (hts (.fieldLink RX6 18 "WaxTurns$Watchers" "count" "I") (List.mem_cons_of_mem _ (List.mem_append_left _ (List.mem_of_getElem? (i := 0) rfl)))) (fun _ h9 => h9) rfl (tyX6_ok 0 (by decide)) rfl rfl (Nat.le_of_ble_eq_true rfl) dX6_add_35 (fun H locs hP hD hS => ?_)
    obtain ⟨hP, hD⟩ := zc_re (w := [(a0, .inr (6, [.int x34, a0g_1, .ref a0_2, .ref a0_3])), (a0_2, .inl (ka0_2, 3, .inl (f17))), (a0_3, .inl (ka0_3, 3, .inl (f27)))]) hP hD rfl
    exact W.vret hx hb hr (fun t ht hW => ⟨⟨(), rfl, trivial, x34, f17, f27, ⟨Int.le_trans (by decide) bx34.1, bx34.2⟩, bf17, bf27, by rw [ht]; exact hP, va_K.moved hW.alike hK, hD⟩, hS.F ht⟩) hS.2.2 dX6_add_38

set_option maxHeartbeats 4000000 in
set_option maxRecDepth 100000 in
theorem c_X6_copyFrom (l : Launch) (dC : Nat → ClassId) (dI : Nat → Nat → Nat) (sz : Nat) (a0 : Nat) (a1 : Nat) (a0_0 : Int32) (a0_1 : Int32) (a0_2 : Nat) (a0_3 : Nat) (a1_0 : Int32) (a1_1 : Int32) (a1_2 : Nat) (a1_3 : Nat) (ka1_2 : ClassId) (fa1_2 : Nat → Int32) (ka0_2 : ClassId) (fa0_2 : Nat → Int32) (ka1_3 : ClassId) (fa1_3 : Nat → Int32) (ka0_3 : ClassId) (fa0_3 : Nat → Int32) (ba0_0_l : (0 : Int) ≤ a0_0.toInt) (ba0_0_u : a0_0.toInt ≤ (3 : Int)) (ba1_0_l : (0 : Int) ≤ a1_0.toInt) (ba1_0_u : a1_0.toInt ≤ (3 : Int)) (bfa1_2 : (∀ k, (0 : Int) ≤ (fa1_2 k).toInt ∧ (fa1_2 k).toInt ≤ 80)) (bfa0_2 : (∀ k, (0 : Int) ≤ (fa0_2 k).toInt ∧ (fa0_2 k).toInt ≤ 80)) (bfa1_3 : (∀ k, (0 : Int) ≤ (fa1_3 k).toInt ∧ (fa1_3 k).toInt ≤ 80)) (bfa0_3 : (∀ k, (0 : Int) ≤ (fa0_3 k).toInt ∧ (fa0_3 k).toInt ≤ 80)) : Met l yX6_copyFrom wsX6_copyFrom ({ frames := 0, cells := 0, slots := 0, locals := 0 }) (va_Pc [.ref a0, .ref a1] (ax_C dC dI sz [(a0, .inr (6, [.int a0_0, .int a0_1, .ref a0_2, .ref a0_3])), (a1, .inr (6, [.int a1_0, .int a1_1, .ref a1_2, .ref a1_3])), (a1_2, .inl (ka1_2, 3, .inl (fa1_2))), (a0_2, .inl (ka0_2, 3, .inl (fa0_2))), (a1_3, .inl (ka1_3, 3, .inl (fa1_3))), (a0_3, .inl (ka0_3, 3, .inl (fa0_3)))] [(ka1_2, .int), (ka0_2, .int), (ka1_3, .int), (ka0_3, .int)] (fun _ => True))) (va_Qv (fun (_ : Unit) => True) (fun (_ : Unit) (t : State) => ∃ na0_0 : Int32, ∃ na0_1 : Int32, ∃ nfa0_2 : Nat → Int32, ∃ nfa0_3 : Nat → Int32, ((0 : Int) ≤ na0_0.toInt ∧ na0_0.toInt ≤ 3) ∧ (∀ k, (0 : Int) ≤ (nfa0_2 k).toInt ∧ (nfa0_2 k).toInt ≤ 80) ∧ (∀ k, (0 : Int) ≤ (nfa0_3 k).toInt ∧ (nfa0_3 k).toInt ≤ 80) ∧ ax_B dC dI (va_A [(a0, .inr (6, [.int a0_0, .int a0_1, .ref a0_2, .ref a0_3])), (a1, .inr (6, [.int a1_0, .int a1_1, .ref a1_2, .ref a1_3])), (a1_2, .inl (ka1_2, 3, .inl (fa1_2))), (a0_2, .inl (ka0_2, 3, .inl (fa0_2))), (a1_3, .inl (ka1_3, 3, .inl (fa1_3))), (a0_3, .inl (ka0_3, 3, .inl (fa0_3)))] sz) [(a0, .inr (6, [.int na0_0, .int na0_1, .ref a0_2, .ref a0_3])), (a1, .inr (6, [.int a1_0, .int a1_1, .ref a1_2, .ref a1_3])), (a1_2, .inl (ka1_2, 3, .inl (fa1_2))), (a0_2, .inl (ka0_2, 3, .inl (nfa0_2))), (a1_3, .inl (ka1_3, 3, .inl (fa1_3))), (a0_3, .inl (ka0_3, 3, .inl (nfa0_3)))] [(ka1_2, .int), (ka0_2, .int), (ka1_3, .int), (ka0_3, .int)] t) (va_A [(a0, .inr (6, [.int a0_0, .int a0_1, .ref a0_2, .ref a0_3])), (a1, .inr (6, [.int a1_0, .int a1_1, .ref a1_2, .ref a1_3])), (a1_2, .inl (ka1_2, 3, .inl (fa1_2))), (a0_2, .inl (ka0_2, 3, .inl (fa0_2))), (a1_3, .inl (ka1_3, 3, .inl (fa1_3))), (a0_3, .inl (ka0_3, 3, .inl (fa0_3)))] sz)) 0 0 (va_A [(a0, .inr (6, [.int a0_0, .int a0_1, .ref a0_2, .ref a0_3])), (a1, .inr (6, [.int a1_0, .int a1_1, .ref a1_2, .ref a1_3])), (a1_2, .inl (ka1_2, 3, .inl (fa1_2))), (a0_2, .inl (ka0_2, 3, .inl (fa0_2))), (a1_3, .inl (ka1_3, 3, .inl (fa1_3))), (a0_3, .inl (ka0_3, 3, .inl (fa0_3)))] sz) := by
  refine Met.ofW (cc := cX6_copyFrom) (maxL := 3) (ret := none) (by decide) rfl ?_
  intro p e s m args below meth c s₁ B hml hv
  obtain ⟨rfl, hsz, hP, hK, hD0, hE⟩ := hv
  have hx := B.exec
  have hb := B.bytes
  have hr := B.returns
  have hts := atoms_spec (ws := wsX6_copyFrom) B.pre
  have hown : s.vm.findClass RX6 = some m.cls := findClass_of_methodNamed B.named
  have hlocks := B.notSynchronized
  subst hsz
  have hD := hD0.self (sz := s.heap.size)
  generalize hAe : va_A [(a0, .inr (6, [.int a0_0, .int a0_1, .ref a0_2, .ref a0_3])), (a1, .inr (6, [.int a1_0, .int a1_1, .ref a1_2, .ref a1_3])), (a1_2, .inl (ka1_2, 3, .inl (fa1_2))), (a0_2, .inl (ka0_2, 3, .inl (fa0_2))), (a1_3, .inl (ka1_3, 3, .inl (fa1_3))), (a0_3, .inl (ka0_3, 3, .inl (fa0_3)))] s.heap.size = A at hD ⊢
  have hA : ∀ q : Nat, s.heap.size ≤ q → A q := fun q h => by rw [← hAe]; exact Or.inr h
  have hS : va_S A s.heap s.heap [] := va_S.rf
  have hP : va_P (dC, dI) vwCl [(a0, .inr (6, [.int a0_0, .int a0_1, .ref a0_2, .ref a0_3])), (a1, .inr (6, [.int a1_0, .int a1_1, .ref a1_2, .ref a1_3])), (a1_2, .inl (ka1_2, 3, .inl (fa1_2))), (a0_2, .inl (ka0_2, 3, .inl (fa0_2))), (a1_3, .inl (ka1_3, 3, .inl (fa1_3))), (a0_3, .inl (ka0_3, 3, .inl (fa0_3)))] s.heap := hP
  have hl := lv_entry ([.ref a0, .ref a1]) (n := 3) (Nat.le_of_ble_eq_true rfl)
  rw [lg_entry_eq]
  generalize (lg_sl ([.ref a0, .ref a1]) ++ List.replicate (3 - (lg_sl ([.ref a0, .ref a1])).length) Slot.unset).toArray = ls at hl ⊢
  have hl : lv_has ls 3 [(0, .ref a0), (1, .ref a1)] := hl
  refine ai_open (fun K hK0 => ?_)
  refine (hK0 _ _ _).mpr ?_
  refine lv_aload_n hx hb dX6_copyFrom_0 rfl (lv_at hl 0 rfl) ?_
  refine lv_aload_n hx hb dX6_copyFrom_1 rfl (lv_at hl 1 rfl) ?_
  refine va_get (D := (dC, dI)) (ci := 6) (v := .int a1_0) (C := RX6) (T := TX6) (N := 4) hx hb hts zi_X6_copyFrom_6 hown hK hP 1 rfl rfl 0 (by decide) (hts (.fieldLink RX6 18 "WaxTurns$Watchers" "count" "I") (List.mem_cons_of_mem _ (List.mem_append_left _ (List.mem_of_getElem? (i := 0) rfl)))) (fun _ h9 => h9) rfl dX6_copyFrom_2 ?_
  refine va_put (D := (dC, dI)) (ci := 6) (v := .int a1_0) (ty := .int) (C := RX6) (T := TX6) (N := 4) hx hb hts zi_X6_copyFrom_6 tyX6 tyX6_ok nmX6 hown hK hP hD hS 0 rfl rfl 0 (by decide) (hts (.fieldLink RX6 18 "WaxTurns$Watchers" "count" "I") (List.mem_cons_of_mem _ (List.mem_append_left _ (List.mem_of_getElem? (i := 0) rfl)))) (fun _ h9 => h9) rfl (tyX6_ok 0 (by decide)) rfl rfl (Nat.le_of_ble_eq_true rfl) dX6_copyFrom_5 (fun H locs hP hD hS => ?_)
  obtain ⟨hP, hD⟩ := zc_re (w := [(a0, .inr (6, [.int a1_0, .int a0_1, .ref a0_2, .ref a0_3])), (a1, .inr (6, [.int a1_0, .int a1_1, .ref a1_2, .ref a1_3])), (a1_2, .inl (ka1_2, 3, .inl (fa1_2))), (a0_2, .inl (ka0_2, 3, .inl (fa0_2))), (a1_3, .inl (ka1_3, 3, .inl (fa1_3))), (a0_3, .inl (ka0_3, 3, .inl (fa0_3)))]) hP hD rfl
  refine lv_aload_n hx hb dX6_copyFrom_8 rfl (lv_at hl 0 rfl) ?_
  refine lv_aload_n hx hb dX6_copyFrom_9 rfl (lv_at hl 1 rfl) ?_
  refine va_get (D := (dC, dI)) (ci := 6) (v := .int a1_1) (C := RX6) (T := TX6) (N := 4) hx hb hts zi_X6_copyFrom_6 hown hK hP 1 rfl rfl 1 (by decide) (hts (.fieldLink RX6 22 "WaxTurns$Watchers" "posts" "I") (List.mem_cons_of_mem _ (List.mem_append_left _ (List.mem_of_getElem? (i := 1) rfl)))) (fun _ h9 => h9) rfl dX6_copyFrom_10 ?_
  refine va_put (D := (dC, dI)) (ci := 6) (v := .int a1_1) (ty := .int) (C := RX6) (T := TX6) (N := 4) hx hb hts zi_X6_copyFrom_6 tyX6 tyX6_ok nmX6 hown hK hP hD hS 0 rfl rfl 1 (by decide) (hts (.fieldLink RX6 22 "WaxTurns$Watchers" "posts" "I") (List.mem_cons_of_mem _ (List.mem_append_left _ (List.mem_of_getElem? (i := 1) rfl)))) (fun _ h9 => h9) rfl (tyX6_ok 1 (by decide)) rfl rfl (Nat.le_of_ble_eq_true rfl) dX6_copyFrom_13 (fun H locs hP hD hS => ?_)
  obtain ⟨hP, hD⟩ := zc_re (w := [(a0, .inr (6, [.int a1_0, .int a1_1, .ref a0_2, .ref a0_3])), (a1, .inr (6, [.int a1_0, .int a1_1, .ref a1_2, .ref a1_3])), (a1_2, .inl (ka1_2, 3, .inl (fa1_2))), (a0_2, .inl (ka0_2, 3, .inl (fa0_2))), (a1_3, .inl (ka1_3, 3, .inl (fa1_3))), (a0_3, .inl (ka0_3, 3, .inl (fa0_3)))]) hP hD rfl
  refine lv_iconst (v := 0) hx hb dX6_copyFrom_16 zk_iconst_0 ?_
  refine lv_istore_n (lv' := [(2, .int 0), (0, .ref a0), (1, .ref a1)]) hx hb dX6_copyFrom_17 rfl hl (by decide) rfl (fun ls hl => ?_)
  have J18 : ∀ (n : Nat) (j18l2 : Int32) (j18a0_2_a : Nat → Int32) (j18a0_3_a : Nat → Int32) (H : Heap) (locs : List Loc) (ls : Array Slot), (4 : Int) - j18l2.toInt ≤ (n : Int) → (0 : Int) ≤ j18l2.toInt → j18l2.toInt ≤ (3 : Int) → (∀ k, (0 : Int) ≤ (j18a0_2_a k).toInt ∧ (j18a0_2_a k).toInt ≤ 80) → (∀ k, (0 : Int) ≤ (j18a0_3_a k).toInt ∧ (j18a0_3_a k).toInt ≤ 80) → va_P (dC, dI) vwCl [(a0, .inr (6, [.int a1_0, .int a1_1, .ref a0_2, .ref a0_3])), (a1, .inr (6, [.int a1_0, .int a1_1, .ref a1_2, .ref a1_3])), (a1_2, .inl (ka1_2, 3, .inl (fa1_2))), (a0_2, .inl (ka0_2, 3, .inl (j18a0_2_a))), (a1_3, .inl (ka1_3, 3, .inl (fa1_3))), (a0_3, .inl (ka0_3, 3, .inl (j18a0_3_a)))] H → va_D A [(a0, .inr (6, [.int a1_0, .int a1_1, .ref a0_2, .ref a0_3])), (a1, .inr (6, [.int a1_0, .int a1_1, .ref a1_2, .ref a1_3])), (a1_2, .inl (ka1_2, 3, .inl (fa1_2))), (a0_2, .inl (ka0_2, 3, .inl (j18a0_2_a))), (a1_3, .inl (ka1_3, 3, .inl (fa1_3))), (a0_3, .inl (ka0_3, 3, .inl (j18a0_3_a)))] → va_S A s.heap H locs → lv_has ls 3 [(0, .ref a0), (1, .ref a1), (2, .int j18l2)] → K H locs (F0 m 18 ls []) := by
    intro n
    induction n with
    | zero =>
      intro j18l2 j18a0_2_a j18a0_3_a H locs ls hm bj18l2_l bj18l2_u bj18a0_2_a bj18a0_3_a hP hD hS hl
      have h8 := ai_min j18l2
      have h9 := ai_max j18l2
      exact absurd hm (by omega)
    | succ n ih18 =>
      intro j18l2 j18a0_2_a j18a0_3_a H locs ls hm bj18l2_l bj18l2_u bj18a0_2_a bj18a0_3_a hP hD hS hl
      refine (hK0 _ _ _).mpr ?_
      have hm18 := hm
      refine lv_iload_n hx hb dX6_copyFrom_18 rfl (lv_at hl 2 rfl) ?_
      refine lv_iconst (v := 3) hx hb dX6_copyFrom_19 zk_iconst_3 ?_
      refine lv_icmp_ge (tgt := 53) hx hb dX6_copyFrom_20 (by decide) (fun c20 => ?_) (fun c20 => ?_)
      · have gc20 := ai_le c20
        have l20t_j18l2 : (3 : Int) ≤ j18l2.toInt := Int.le_trans zq8 gc20
        exact W.vret hx hb hr (fun t ht hW => ⟨⟨(), rfl, trivial, a1_0, a1_1, j18a0_2_a, j18a0_3_a, ⟨ba1_0_l, ba1_0_u⟩, bj18a0_2_a, bj18a0_3_a, by rw [ht]; exact hP, va_K.moved hW.alike hK, hD⟩, hS.F ht⟩) hS.2.2 dX6_copyFrom_53
      · have gc20 := ai_nle c20
        have u20f_j18l2 : j18l2.toInt ≤ (2 : Int) := ai_lthi gc20 zq9
        refine lv_aload_n hx hb dX6_copyFrom_23 rfl (lv_at hl 0 rfl) ?_
        refine va_get (D := (dC, dI)) (ci := 6) (v := .ref a0_2) (C := RX6) (T := TX6) (N := 4) hx hb hts zi_X6_copyFrom_6 hown hK hP 0 rfl rfl 2 (by decide) (hts (.fieldLink RX6 9 "WaxTurns$Watchers" "from" "[I") (List.mem_cons_of_mem _ (List.mem_append_left _ (List.mem_of_getElem? (i := 2) rfl)))) (fun _ h9 => h9) rfl dX6_copyFrom_24 ?_
        refine lv_iload_n hx hb dX6_copyFrom_27 rfl (lv_at hl 2 rfl) ?_
        refine lv_aload_n hx hb dX6_copyFrom_28 rfl (lv_at hl 1 rfl) ?_
        refine va_get (D := (dC, dI)) (ci := 6) (v := .ref a1_2) (C := RX6) (T := TX6) (N := 4) hx hb hts zi_X6_copyFrom_6 hown hK hP 1 rfl rfl 2 (by decide) (hts (.fieldLink RX6 9 "WaxTurns$Watchers" "from" "[I") (List.mem_cons_of_mem _ (List.mem_append_left _ (List.mem_of_getElem? (i := 2) rfl)))) (fun _ h9 => h9) rfl dX6_copyFrom_29 ?_
        refine lv_iload_n hx hb dX6_copyFrom_32 rfl (lv_at hl 2 rfl) ?_
        refine va_iald hx hb hK hP 2 0 rfl rfl (ai_in bj18l2_l u20f_j18l2 (by decide) (by decide)) dX6_copyFrom_33 ?_
        refine lv_topi (fun x33 ex33 => ?_)
        have bx33 : (0 : Int) ≤ x33.toInt ∧ x33.toInt ≤ 80 := by rw [ex33]; exact bfa1_2 _
        refine va_iast hx hb hK hP hD hS 3 1 rfl rfl (ai_in bj18l2_l u20f_j18l2 (by decide) (by decide)) dX6_copyFrom_34 (fun H locs hP hD hS => ?_)
        obtain ⟨f34, bf34, hP, hD⟩ : ∃ f34 : Nat → Int32, (∀ k, (0 : Int) ≤ (f34 k).toInt ∧ (f34 k).toInt ≤ 80) ∧ va_P (dC, dI) vwCl [(a0, .inr (6, [.int a1_0, .int a1_1, .ref a0_2, .ref a0_3])), (a1, .inr (6, [.int a1_0, .int a1_1, .ref a1_2, .ref a1_3])), (a1_2, .inl (ka1_2, 3, .inl (fa1_2))), (a0_2, .inl (ka0_2, 3, .inl (f34))), (a1_3, .inl (ka1_3, 3, .inl (fa1_3))), (a0_3, .inl (ka0_3, 3, .inl (j18a0_3_a)))] H ∧ va_D A [(a0, .inr (6, [.int a1_0, .int a1_1, .ref a0_2, .ref a0_3])), (a1, .inr (6, [.int a1_0, .int a1_1, .ref a1_2, .ref a1_3])), (a1_2, .inl (ka1_2, 3, .inl (fa1_2))), (a0_2, .inl (ka0_2, 3, .inl (f34))), (a1_3, .inl (ka1_3, 3, .inl (fa1_3))), (a0_3, .inl (ka0_3, 3, .inl (j18a0_3_a)))] := ⟨_, ai_upd bj18a0_2_a _ ⟨bx33.1, bx33.2⟩, hP, hD⟩
        refine lv_aload_n hx hb dX6_copyFrom_35 rfl (lv_at hl 0 rfl) ?_
        refine va_get (D := (dC, dI)) (ci := 6) (v := .ref a0_3) (C := RX6) (T := TX6) (N := 4) hx hb hts zi_X6_copyFrom_6 hown hK hP 0 rfl rfl 3 (by decide) (hts (.fieldLink RX6 15 "WaxTurns$Watchers" "to" "[I") (List.mem_cons_of_mem _ (List.mem_append_left _ (List.mem_of_getElem? (i := 3) rfl)))) (fun _ h9 => h9) rfl dX6_copyFrom_36 ?_
        refine lv_iload_n hx hb dX6_copyFrom_39 rfl (lv_at hl 2 rfl) ?_
        refine lv_aload_n hx hb dX6_copyFrom_40 rfl (lv_at hl 1 rfl) ?_
        refine va_get (D := (dC, dI)) (ci := 6) (v := .ref a1_3) (C := RX6) (T := TX6) (N := 4) hx hb hts zi_X6_copyFrom_6 hown hK hP 1 rfl rfl 3 (by decide) (hts (.fieldLink RX6 15 "WaxTurns$Watchers" "to" "[I") (List.mem_cons_of_mem _ (List.mem_append_left _ (List.mem_of_getElem? (i := 3) rfl)))) (fun _ h9 => h9) rfl dX6_copyFrom_41 ?_
        refine lv_iload_n hx hb dX6_copyFrom_44 rfl (lv_at hl 2 rfl) ?_
        refine va_iald hx hb hK hP 4 2 rfl rfl (ai_in bj18l2_l u20f_j18l2 (by decide) (by decide)) dX6_copyFrom_45 ?_
        refine lv_topi (fun x45 ex45 => ?_)
        have bx45 : (0 : Int) ≤ x45.toInt ∧ x45.toInt ≤ 80 := by rw [ex45]; exact bfa1_3 _
        refine va_iast hx hb hK hP hD hS 5 3 rfl rfl (ai_in bj18l2_l u20f_j18l2 (by decide) (by decide)) dX6_copyFrom_46 (fun H locs hP hD hS => ?_)
        obtain ⟨f46, bf46, hP, hD⟩ : ∃ f46 : Nat → Int32, (∀ k, (0 : Int) ≤ (f46 k).toInt ∧ (f46 k).toInt ≤ 80) ∧ va_P (dC, dI) vwCl [(a0, .inr (6, [.int a1_0, .int a1_1, .ref a0_2, .ref a0_3])), (a1, .inr (6, [.int a1_0, .int a1_1, .ref a1_2, .ref a1_3])), (a1_2, .inl (ka1_2, 3, .inl (fa1_2))), (a0_2, .inl (ka0_2, 3, .inl (f34))), (a1_3, .inl (ka1_3, 3, .inl (fa1_3))), (a0_3, .inl (ka0_3, 3, .inl (f46)))] H ∧ va_D A [(a0, .inr (6, [.int a1_0, .int a1_1, .ref a0_2, .ref a0_3])), (a1, .inr (6, [.int a1_0, .int a1_1, .ref a1_2, .ref a1_3])), (a1_2, .inl (ka1_2, 3, .inl (fa1_2))), (a0_2, .inl (ka0_2, 3, .inl (f34))), (a1_3, .inl (ka1_3, 3, .inl (fa1_3))), (a0_3, .inl (ka0_3, 3, .inl (f46)))] := ⟨_, ai_upd bj18a0_3_a _ ⟨bx45.1, bx45.2⟩, hP, hD⟩
        obtain ⟨x47, ex47⟩ : ∃ y : Int32, y = j18l2 + Int32.ofInt 1 := ⟨_, rfl⟩
        have qx47 : x47.toInt = j18l2.toInt + 1 := ai_inc ex47 (by decide) (by decide) u20f_j18l2 (by decide)
        have bx47 : (1 : Int) ≤ x47.toInt ∧ x47.toInt ≤ 3 := ⟨by rw [qx47]; exact Int.add_le_add bj18l2_l (Int.le_refl _), by rw [qx47]; exact Int.add_le_add u20f_j18l2 (Int.le_refl _)⟩
        refine lv_iinc (v := x47) (lv' := [(2, .int x47), (0, .ref a0), (1, .ref a1)]) hx hb dX6_copyFrom_47 hl (k := 2) rfl ex47.symm (by decide) rfl (fun ls hl => ?_)
        refine lv_goto (tgt := 18) hx hb dX6_copyFrom_50 (by decide) ?_
        exact (hK0 _ _ _).mp (ih18 x47 f34 f46 _ _ _ (by have h0 := qx47; omega) (Int.le_trans zq4 bx47.1) bx47.2 bf34 bf46 hP hD hS (lv_sub hl [1, 2, 0] rfl))
  exact (hK0 _ _ _).mp (J18 4 0 fa0_2 fa0_3 _ _ _ (by have h1 : (0 : Int) ≤ (0 : Int32).toInt := zq5; have h2 : (0 : Int32).toInt ≤ (0 : Int) := zq6; omega) zq5 (Int.le_trans zq6 zq11) bfa0_2 bfa0_3 hP hD hS (lv_sub hl [1, 2, 0] rfl))

set_option maxHeartbeats 4000000 in
set_option maxRecDepth 100000 in
theorem c_X6_placeOf (l : Launch) (dC : Nat → ClassId) (dI : Nat → Nat → Nat) (sz : Nat) (a0 : Nat) (a1 : Int32) (a2 : Int32) (a0g_0 a0g_1 : Value) (a0_2 : Nat) (a0_3 : Nat) (ka0_3 : ClassId) (fa0_3 : Nat → Int32) (ka0_2 : ClassId) (fa0_2 : Nat → Int32) (ba1_l : (0 : Int) ≤ a1.toInt) (ba1_u : a1.toInt ≤ (2 : Int)) (bfa0_3 : (∀ k, (0 : Int) ≤ (fa0_3 k).toInt ∧ (fa0_3 k).toInt ≤ 80)) (bfa0_2 : (∀ k, (0 : Int) ≤ (fa0_2 k).toInt ∧ (fa0_2 k).toInt ≤ 80)) : Met l yX6_placeOf wsX6_placeOf ({ frames := 0, cells := 0, slots := 0, locals := 0 }) (va_Pc [.ref a0, .int a1, .int a2] (ax_C dC dI sz [(a0, .inr (6, [a0g_0, a0g_1, .ref a0_2, .ref a0_3])), (a0_3, .inl (ka0_3, 3, .inl (fa0_3))), (a0_2, .inl (ka0_2, 3, .inl (fa0_2)))] [(ka0_3, .int), (ka0_2, .int)] (fun _ => True))) (va_Qi (fun (r : Int32) (_ : Unit) => True) (fun (_ : Unit) (t : State) => ax_B dC dI (va_A [(a0, .inr (6, [a0g_0, a0g_1, .ref a0_2, .ref a0_3])), (a0_3, .inl (ka0_3, 3, .inl (fa0_3))), (a0_2, .inl (ka0_2, 3, .inl (fa0_2)))] sz) [(a0, .inr (6, [a0g_0, a0g_1, .ref a0_2, .ref a0_3])), (a0_3, .inl (ka0_3, 3, .inl (fa0_3))), (a0_2, .inl (ka0_2, 3, .inl (fa0_2)))] [(ka0_3, .int), (ka0_2, .int)] t) (va_A [(a0, .inr (6, [a0g_0, a0g_1, .ref a0_2, .ref a0_3])), (a0_3, .inl (ka0_3, 3, .inl (fa0_3))), (a0_2, .inl (ka0_2, 3, .inl (fa0_2)))] sz)) 0 0 (va_A [(a0, .inr (6, [a0g_0, a0g_1, .ref a0_2, .ref a0_3])), (a0_3, .inl (ka0_3, 3, .inl (fa0_3))), (a0_2, .inl (ka0_2, 3, .inl (fa0_2)))] sz) := by
  refine Met.ofW (cc := cX6_placeOf) (maxL := 7) (ret := (some .int)) (by decide) rfl ?_
  intro p e s m args below meth c s₁ B hml hv
  obtain ⟨rfl, hsz, hP, hK, hD0, hE⟩ := hv
  have hx := B.exec
  have hb := B.bytes
  have hr := B.returns
  have hts := atoms_spec (ws := wsX6_placeOf) B.pre
  have hown : s.vm.findClass RX6 = some m.cls := findClass_of_methodNamed B.named
  have hlocks := B.notSynchronized
  subst hsz
  have hD := hD0.self (sz := s.heap.size)
  generalize hAe : va_A [(a0, .inr (6, [a0g_0, a0g_1, .ref a0_2, .ref a0_3])), (a0_3, .inl (ka0_3, 3, .inl (fa0_3))), (a0_2, .inl (ka0_2, 3, .inl (fa0_2)))] s.heap.size = A at hD ⊢
  have hA : ∀ q : Nat, s.heap.size ≤ q → A q := fun q h => by rw [← hAe]; exact Or.inr h
  have hS : va_S A s.heap s.heap [] := va_S.rf
  have hP : va_P (dC, dI) vwCl [(a0, .inr (6, [a0g_0, a0g_1, .ref a0_2, .ref a0_3])), (a0_3, .inl (ka0_3, 3, .inl (fa0_3))), (a0_2, .inl (ka0_2, 3, .inl (fa0_2)))] s.heap := hP
  have hl := lv_entry ([.ref a0, .int a1, .int a2]) (n := 7) (Nat.le_of_ble_eq_true rfl)
  rw [lg_entry_eq]
  generalize (lg_sl ([.ref a0, .int a1, .int a2]) ++ List.replicate (7 - (lg_sl ([.ref a0, .int a1, .int a2])).length) Slot.unset).toArray = ls at hl ⊢
  have hl : lv_has ls 7 [(0, .ref a0), (1, .int a1), (2, .int a2)] := hl
  refine lv_aload_n hx hb dX6_placeOf_0 rfl (lv_at hl 0 rfl) ?_
  refine va_get (D := (dC, dI)) (ci := 6) (v := .ref a0_3) (C := RX6) (T := TX6) (N := 4) hx hb hts zi_X6_placeOf_6 hown hK hP 0 rfl rfl 3 (by decide) (hts (.fieldLink RX6 15 "WaxTurns$Watchers" "to" "[I") (List.mem_cons_of_mem _ (List.mem_append_left _ (List.mem_of_getElem? (i := 0) rfl)))) (fun _ h9 => h9) rfl dX6_placeOf_1 ?_
  refine lv_iload_n hx hb dX6_placeOf_4 rfl (lv_at hl 1 rfl) ?_
  refine va_iald hx hb hK hP 1 0 rfl rfl (ai_in ba1_l ba1_u (by decide) (by decide)) dX6_placeOf_5 ?_
  refine lv_topi (fun x5 ex5 => ?_)
  have bx5 : (0 : Int) ≤ x5.toInt ∧ x5.toInt ≤ 80 := by rw [ex5]; exact bfa0_3 _
  refine lv_aload_n hx hb dX6_placeOf_6 rfl (lv_at hl 0 rfl) ?_
  refine va_get (D := (dC, dI)) (ci := 6) (v := .ref a0_2) (C := RX6) (T := TX6) (N := 4) hx hb hts zi_X6_placeOf_6 hown hK hP 0 rfl rfl 2 (by decide) (hts (.fieldLink RX6 9 "WaxTurns$Watchers" "from" "[I") (List.mem_cons_of_mem _ (List.mem_append_left _ (List.mem_of_getElem? (i := 1) rfl)))) (fun _ h9 => h9) rfl dX6_placeOf_7 ?_
  refine lv_iload_n hx hb dX6_placeOf_10 rfl (lv_at hl 1 rfl) ?_
  refine va_iald hx hb hK hP 2 1 rfl rfl (ai_in ba1_l ba1_u (by decide) (by decide)) dX6_placeOf_11 ?_
  refine lv_topi (fun x11 ex11 => ?_)
  have bx11 : (0 : Int) ≤ x11.toInt ∧ x11.toInt ≤ 80 := by rw [ex11]; exact bfa0_2 _
  refine lv_icmp_le (tgt := 19) hx hb dX6_placeOf_12 (by decide) (fun c12 => ?_) (fun c12 => ?_)
  · have gc12 := ai_le c12
    have u12t_x5 : x5.toInt ≤ (80 : Int) := bx5.2
    have l12t_x11 : (0 : Int) ≤ x11.toInt := bx11.1
    refine lv_iconst (v := 0) hx hb dX6_placeOf_19 zk_iconst_0 ?_
    refine lv_istore_n (lv' := [(3, .int 0), (0, .ref a0), (1, .int a1), (2, .int a2)]) hx hb dX6_placeOf_20 rfl hl (by decide) rfl (fun ls hl => ?_)
    refine lv_iload_n hx hb dX6_placeOf_21 rfl (lv_at hl 0 rfl) ?_
    refine lv_if_eq (tgt := 41) hx hb dX6_placeOf_22 (by decide) (fun _ => ?_) (fun c22 => absurd (by decide +kernel) c22)
    refine lv_aload_n hx hb dX6_placeOf_41 rfl (lv_at hl 1 rfl) ?_
    refine va_get (D := (dC, dI)) (ci := 6) (v := .ref a0_2) (C := RX6) (T := TX6) (N := 4) hx hb hts zi_X6_placeOf_6 hown hK hP 0 rfl rfl 2 (by decide) (hts (.fieldLink RX6 9 "WaxTurns$Watchers" "from" "[I") (List.mem_cons_of_mem _ (List.mem_append_left _ (List.mem_of_getElem? (i := 1) rfl)))) (fun _ h9 => h9) rfl dX6_placeOf_42 ?_
    refine lv_iload_n hx hb dX6_placeOf_45 rfl (lv_at hl 2 rfl) ?_
    refine va_iald hx hb hK hP 2 1 rfl rfl (ai_in ba1_l ba1_u (by decide) (by decide)) dX6_placeOf_46 ?_
    refine ax_ti x11 ex11.symm ?_
    refine lv_aload_n hx hb dX6_placeOf_47 rfl (lv_at hl 1 rfl) ?_
    refine va_get (D := (dC, dI)) (ci := 6) (v := .ref a0_3) (C := RX6) (T := TX6) (N := 4) hx hb hts zi_X6_placeOf_6 hown hK hP 0 rfl rfl 3 (by decide) (hts (.fieldLink RX6 15 "WaxTurns$Watchers" "to" "[I") (List.mem_cons_of_mem _ (List.mem_append_left _ (List.mem_of_getElem? (i := 0) rfl)))) (fun _ h9 => h9) rfl dX6_placeOf_48 ?_
    refine lv_iload_n hx hb dX6_placeOf_51 rfl (lv_at hl 2 rfl) ?_
    refine va_iald hx hb hK hP 1 0 rfl rfl (ai_in ba1_l ba1_u (by decide) (by decide)) dX6_placeOf_52 ?_
    refine ax_ti x5 ex5.symm ?_
    refine lv_isub hx hb dX6_placeOf_53 ?_
    refine lv_topi (fun x53 ex53 => ?_)
    have qx53 : x53.toInt = x11.toInt - x5.toInt := ai_sub ex53 ⟨l12t_x11, bx11.2⟩ ⟨bx5.1, u12t_x5⟩ (by decide) (by decide)
    have bx53 : (-80 : Int) ≤ x53.toInt ∧ x53.toInt ≤ 80 := ⟨by rw [qx53]; exact Int.sub_le_sub l12t_x11 u12t_x5, by rw [qx53]; exact Int.sub_le_sub bx11.2 bx5.1⟩
    refine lv_istore (lv' := [(4, .int x53), (3, .int 0), (0, .ref a0), (1, .int a1), (2, .int a2)]) hx hb dX6_placeOf_54 hl (by decide) rfl (fun ls hl => ?_)
    refine lv_iload hx hb dX6_placeOf_56 (lv_at hl 0 rfl) ?_
    refine lv_if_gt (tgt := 68) hx hb dX6_placeOf_58 (by decide) (fun c58 => ?_) (fun c58 => ?_)
    · have gc58 := ai_lt c58
      have l58t_x53 : (1 : Int) ≤ x53.toInt := ai_ltlo gc58 zq5
      refine lv_iload_n hx hb dX6_placeOf_68 rfl (lv_at hl 4 rfl) ?_
      refine lv_iconst (v := 2) hx hb dX6_placeOf_69 zk_iconst_2 ?_
      refine lv_iload hx hb dX6_placeOf_70 (lv_at hl 0 rfl) ?_
      refine lv_imul hx hb dX6_placeOf_72 ?_
      refine lv_topi (fun x72 ex72 => ?_)
      have qx72 : x72.toInt = (2 : Int32).toInt * x53.toInt ∧ (2 : Int) ≤ x72.toInt ∧ x72.toInt ≤ 160 := ai_mul ex72 ⟨zq12, zq13⟩ ⟨l58t_x53, bx53.2⟩ (by decide) (by decide) zq14
      have wx72 : x72.toInt = 2 * x53.toInt := qx72.1
      refine lv_irem hx hb dX6_placeOf_73 (ai_nz qx72.2.1 (by decide)) ?_
      refine lv_topi (fun x73 ex73 => ?_)
      refine lv_istore (lv' := [(5, .int x73), (4, .int x53), (3, .int 0), (0, .ref a0), (1, .int a1), (2, .int a2)]) hx hb dX6_placeOf_74 hl (by decide) rfl (fun ls hl => ?_)
      refine lv_iload hx hb dX6_placeOf_76 (lv_at hl 0 rfl) ?_
      refine lv_iload hx hb dX6_placeOf_78 (lv_at hl 1 rfl) ?_
      refine lv_icmp_gt (tgt := 88) hx hb dX6_placeOf_80 (by decide) (fun c80 => ?_) (fun c80 => ?_)
      · have gc80 := ai_lt c80
        have u80t_x53 : x53.toInt ≤ (80 : Int) := bx53.2
        have l80t_x73 : (2 : Int) ≤ x73.toInt := ai_ltlo gc80 l58t_x53
        refine lv_iconst (v := 2) hx hb dX6_placeOf_88 zk_iconst_2 ?_
        refine lv_iload hx hb dX6_placeOf_89 (lv_at hl 1 rfl) ?_
        refine lv_imul hx hb dX6_placeOf_91 ?_
        refine ax_ti x72 ex72.symm ?_
        refine lv_iload hx hb dX6_placeOf_92 (lv_at hl 0 rfl) ?_
        refine lv_isub hx hb dX6_placeOf_94 ?_
        refine lv_topi (fun x94 ex94 => ?_)
        have qx94 : x94.toInt = x72.toInt - x73.toInt := ai_sub ex94 ⟨qx72.2.1, qx72.2.2⟩ ⟨l80t_x73, (ai_max x73)⟩ (by decide) (by decide)
        have bx94 : (-2147483645 : Int) ≤ x94.toInt ∧ x94.toInt ≤ 158 := ⟨by rw [qx94]; exact Int.sub_le_sub qx72.2.1 (ai_max x73), by rw [qx94]; exact Int.sub_le_sub qx72.2.2 l80t_x73⟩
        refine lv_istore (lv' := [(6, .int x94), (5, .int x73), (4, .int x53), (3, .int 0), (0, .ref a0), (1, .int a1), (2, .int a2)]) hx hb dX6_placeOf_95 hl (by decide) rfl (fun ls hl => ?_)
        refine lv_iload_n hx hb dX6_placeOf_97 rfl (lv_at hl 3 rfl) ?_
        refine lv_if_eq (tgt := 113) hx hb dX6_placeOf_98 (by decide) (fun _ => ?_) (fun c98 => absurd (by decide +kernel) c98)
        refine lv_aload_n hx hb dX6_placeOf_113 rfl (lv_at hl 4 rfl) ?_
        refine va_get (D := (dC, dI)) (ci := 6) (v := .ref a0_2) (C := RX6) (T := TX6) (N := 4) hx hb hts zi_X6_placeOf_6 hown hK hP 0 rfl rfl 2 (by decide) (hts (.fieldLink RX6 9 "WaxTurns$Watchers" "from" "[I") (List.mem_cons_of_mem _ (List.mem_append_left _ (List.mem_of_getElem? (i := 1) rfl)))) (fun _ h9 => h9) rfl dX6_placeOf_114 ?_
        refine lv_iload_n hx hb dX6_placeOf_117 rfl (lv_at hl 5 rfl) ?_
        refine va_iald hx hb hK hP 2 1 rfl rfl (ai_in ba1_l ba1_u (by decide) (by decide)) dX6_placeOf_118 ?_
        refine ax_ti x11 ex11.symm ?_
        refine lv_iload hx hb dX6_placeOf_119 (lv_at hl 0 rfl) ?_
        refine lv_isub hx hb dX6_placeOf_121 ?_
        refine lv_topi (fun x121 ex121 => ?_)
        exact W.iret (v := x121) hx hb hr (fun t ht hW => ⟨⟨x121, (), rfl, trivial, by rw [ht]; exact hP, va_K.moved hW.alike hK, hD⟩, hS.F ht⟩) hS.2.2 dX6_placeOf_122
      · have gc80 := ai_nlt c80
        have u80f_x73 : x73.toInt ≤ (80 : Int) := Int.le_trans gc80 bx53.2
        refine lv_iload hx hb dX6_placeOf_83 (lv_at hl 0 rfl) ?_
        refine lv_goto (tgt := 95) hx hb dX6_placeOf_85 (by decide) ?_
        refine lv_istore (lv' := [(6, .int x73), (5, .int x73), (4, .int x53), (3, .int 0), (0, .ref a0), (1, .int a1), (2, .int a2)]) hx hb dX6_placeOf_95 hl (by decide) rfl (fun ls hl => ?_)
        refine lv_iload_n hx hb dX6_placeOf_97 rfl (lv_at hl 3 rfl) ?_
        refine lv_if_eq (tgt := 113) hx hb dX6_placeOf_98 (by decide) (fun _ => ?_) (fun c98 => absurd (by decide +kernel) c98)
        refine lv_aload_n hx hb dX6_placeOf_113 rfl (lv_at hl 4 rfl) ?_
        refine va_get (D := (dC, dI)) (ci := 6) (v := .ref a0_2) (C := RX6) (T := TX6) (N := 4) hx hb hts zi_X6_placeOf_6 hown hK hP 0 rfl rfl 2 (by decide) (hts (.fieldLink RX6 9 "WaxTurns$Watchers" "from" "[I") (List.mem_cons_of_mem _ (List.mem_append_left _ (List.mem_of_getElem? (i := 1) rfl)))) (fun _ h9 => h9) rfl dX6_placeOf_114 ?_
        refine lv_iload_n hx hb dX6_placeOf_117 rfl (lv_at hl 5 rfl) ?_
        refine va_iald hx hb hK hP 2 1 rfl rfl (ai_in ba1_l ba1_u (by decide) (by decide)) dX6_placeOf_118 ?_
        refine ax_ti x11 ex11.symm ?_
        refine lv_iload hx hb dX6_placeOf_119 (lv_at hl 0 rfl) ?_
        refine lv_isub hx hb dX6_placeOf_121 ?_
        refine lv_topi (fun x121 ex121 => ?_)
        exact W.iret (v := x121) hx hb hr (fun t ht hW => ⟨⟨x121, (), rfl, trivial, by rw [ht]; exact hP, va_K.moved hW.alike hK, hD⟩, hS.F ht⟩) hS.2.2 dX6_placeOf_122
    · have gc58 := ai_nlt c58
      have u58f_x53 : x53.toInt ≤ (0 : Int) := Int.le_trans gc58 zq6
      refine lv_aload_n hx hb dX6_placeOf_61 rfl (lv_at hl 2 rfl) ?_
      refine va_get (D := (dC, dI)) (ci := 6) (v := .ref a0_2) (C := RX6) (T := TX6) (N := 4) hx hb hts zi_X6_placeOf_6 hown hK hP 0 rfl rfl 2 (by decide) (hts (.fieldLink RX6 9 "WaxTurns$Watchers" "from" "[I") (List.mem_cons_of_mem _ (List.mem_append_left _ (List.mem_of_getElem? (i := 1) rfl)))) (fun _ h9 => h9) rfl dX6_placeOf_62 ?_
      refine lv_iload_n hx hb dX6_placeOf_65 rfl (lv_at hl 3 rfl) ?_
      refine va_iald hx hb hK hP 2 1 rfl rfl (ai_in ba1_l ba1_u (by decide) (by decide)) dX6_placeOf_66 ?_
      refine ax_ti x11 ex11.symm ?_
      exact W.iret (v := x11) hx hb hr (fun t ht hW => ⟨⟨x11, (), rfl, trivial, by rw [ht]; exact hP, va_K.moved hW.alike hK, hD⟩, hS.F ht⟩) hS.2.2 dX6_placeOf_67
  · have gc12 := ai_nle c12
    have u12f_x11 : x11.toInt ≤ (79 : Int) := ai_lthi gc12 bx5.2
    have l12f_x5 : (1 : Int) ≤ x5.toInt := ai_ltlo gc12 bx11.1
    refine lv_iconst (v := 1) hx hb dX6_placeOf_15 zk_iconst_1 ?_
    refine lv_goto (tgt := 20) hx hb dX6_placeOf_16 (by decide) ?_
    refine lv_istore_n (lv' := [(3, .int 1), (0, .ref a0), (1, .int a1), (2, .int a2)]) hx hb dX6_placeOf_20 rfl hl (by decide) rfl (fun ls hl => ?_)
    refine lv_iload_n hx hb dX6_placeOf_21 rfl (lv_at hl 0 rfl) ?_
    refine lv_if_eq (tgt := 41) hx hb dX6_placeOf_22 (by decide) (fun c22 => absurd c22 (by decide +kernel)) (fun _ => ?_)
    refine lv_aload_n hx hb dX6_placeOf_25 rfl (lv_at hl 1 rfl) ?_
    refine va_get (D := (dC, dI)) (ci := 6) (v := .ref a0_3) (C := RX6) (T := TX6) (N := 4) hx hb hts zi_X6_placeOf_6 hown hK hP 0 rfl rfl 3 (by decide) (hts (.fieldLink RX6 15 "WaxTurns$Watchers" "to" "[I") (List.mem_cons_of_mem _ (List.mem_append_left _ (List.mem_of_getElem? (i := 0) rfl)))) (fun _ h9 => h9) rfl dX6_placeOf_26 ?_
    refine lv_iload_n hx hb dX6_placeOf_29 rfl (lv_at hl 2 rfl) ?_
    refine va_iald hx hb hK hP 1 0 rfl rfl (ai_in ba1_l ba1_u (by decide) (by decide)) dX6_placeOf_30 ?_
    refine ax_ti x5 ex5.symm ?_
    refine lv_aload_n hx hb dX6_placeOf_31 rfl (lv_at hl 1 rfl) ?_
    refine va_get (D := (dC, dI)) (ci := 6) (v := .ref a0_2) (C := RX6) (T := TX6) (N := 4) hx hb hts zi_X6_placeOf_6 hown hK hP 0 rfl rfl 2 (by decide) (hts (.fieldLink RX6 9 "WaxTurns$Watchers" "from" "[I") (List.mem_cons_of_mem _ (List.mem_append_left _ (List.mem_of_getElem? (i := 1) rfl)))) (fun _ h9 => h9) rfl dX6_placeOf_32 ?_
    refine lv_iload_n hx hb dX6_placeOf_35 rfl (lv_at hl 2 rfl) ?_
    refine va_iald hx hb hK hP 2 1 rfl rfl (ai_in ba1_l ba1_u (by decide) (by decide)) dX6_placeOf_36 ?_
    refine ax_ti x11 ex11.symm ?_
    refine lv_isub hx hb dX6_placeOf_37 ?_
    refine lv_topi (fun x37 ex37 => ?_)
    have qx37 : x37.toInt = x5.toInt - x11.toInt := ai_sub ex37 ⟨l12f_x5, bx5.2⟩ ⟨bx11.1, u12f_x11⟩ (by decide) (by decide)
    have bx37 : (-78 : Int) ≤ x37.toInt ∧ x37.toInt ≤ 80 := ⟨by rw [qx37]; exact Int.sub_le_sub l12f_x5 u12f_x11, by rw [qx37]; exact Int.sub_le_sub bx5.2 bx11.1⟩
    refine lv_goto (tgt := 54) hx hb dX6_placeOf_38 (by decide) ?_
    refine lv_istore (lv' := [(4, .int x37), (3, .int 1), (0, .ref a0), (1, .int a1), (2, .int a2)]) hx hb dX6_placeOf_54 hl (by decide) rfl (fun ls hl => ?_)
    refine lv_iload hx hb dX6_placeOf_56 (lv_at hl 0 rfl) ?_
    refine lv_if_gt (tgt := 68) hx hb dX6_placeOf_58 (by decide) (fun c58 => ?_) (fun c58 => ?_)
    · have gc58 := ai_lt c58
      have l58t_x37 : (1 : Int) ≤ x37.toInt := ai_ltlo gc58 zq5
      refine lv_iload_n hx hb dX6_placeOf_68 rfl (lv_at hl 4 rfl) ?_
      refine lv_iconst (v := 2) hx hb dX6_placeOf_69 zk_iconst_2 ?_
      refine lv_iload hx hb dX6_placeOf_70 (lv_at hl 0 rfl) ?_
      refine lv_imul hx hb dX6_placeOf_72 ?_
      refine lv_topi (fun x72 ex72 => ?_)
      have qx72 : x72.toInt = (2 : Int32).toInt * x37.toInt ∧ (2 : Int) ≤ x72.toInt ∧ x72.toInt ≤ 160 := ai_mul ex72 ⟨zq12, zq13⟩ ⟨l58t_x37, bx37.2⟩ (by decide) (by decide) zq14
      have wx72 : x72.toInt = 2 * x37.toInt := qx72.1
      refine lv_irem hx hb dX6_placeOf_73 (ai_nz qx72.2.1 (by decide)) ?_
      refine lv_topi (fun x73 ex73 => ?_)
      refine lv_istore (lv' := [(5, .int x73), (4, .int x37), (3, .int 1), (0, .ref a0), (1, .int a1), (2, .int a2)]) hx hb dX6_placeOf_74 hl (by decide) rfl (fun ls hl => ?_)
      refine lv_iload hx hb dX6_placeOf_76 (lv_at hl 0 rfl) ?_
      refine lv_iload hx hb dX6_placeOf_78 (lv_at hl 1 rfl) ?_
      refine lv_icmp_gt (tgt := 88) hx hb dX6_placeOf_80 (by decide) (fun c80 => ?_) (fun c80 => ?_)
      · have gc80 := ai_lt c80
        have u80t_x37 : x37.toInt ≤ (80 : Int) := bx37.2
        have l80t_x73 : (2 : Int) ≤ x73.toInt := ai_ltlo gc80 l58t_x37
        refine lv_iconst (v := 2) hx hb dX6_placeOf_88 zk_iconst_2 ?_
        refine lv_iload hx hb dX6_placeOf_89 (lv_at hl 1 rfl) ?_
        refine lv_imul hx hb dX6_placeOf_91 ?_
        refine ax_ti x72 ex72.symm ?_
        refine lv_iload hx hb dX6_placeOf_92 (lv_at hl 0 rfl) ?_
        refine lv_isub hx hb dX6_placeOf_94 ?_
        refine lv_topi (fun x94 ex94 => ?_)
        have qx94 : x94.toInt = x72.toInt - x73.toInt := ai_sub ex94 ⟨qx72.2.1, qx72.2.2⟩ ⟨l80t_x73, (ai_max x73)⟩ (by decide) (by decide)
        have bx94 : (-2147483645 : Int) ≤ x94.toInt ∧ x94.toInt ≤ 158 := ⟨by rw [qx94]; exact Int.sub_le_sub qx72.2.1 (ai_max x73), by rw [qx94]; exact Int.sub_le_sub qx72.2.2 l80t_x73⟩
        refine lv_istore (lv' := [(6, .int x94), (5, .int x73), (4, .int x37), (3, .int 1), (0, .ref a0), (1, .int a1), (2, .int a2)]) hx hb dX6_placeOf_95 hl (by decide) rfl (fun ls hl => ?_)
        refine lv_iload_n hx hb dX6_placeOf_97 rfl (lv_at hl 3 rfl) ?_
        refine lv_if_eq (tgt := 113) hx hb dX6_placeOf_98 (by decide) (fun c98 => absurd c98 (by decide +kernel)) (fun _ => ?_)
        refine lv_aload_n hx hb dX6_placeOf_101 rfl (lv_at hl 4 rfl) ?_
        refine va_get (D := (dC, dI)) (ci := 6) (v := .ref a0_2) (C := RX6) (T := TX6) (N := 4) hx hb hts zi_X6_placeOf_6 hown hK hP 0 rfl rfl 2 (by decide) (hts (.fieldLink RX6 9 "WaxTurns$Watchers" "from" "[I") (List.mem_cons_of_mem _ (List.mem_append_left _ (List.mem_of_getElem? (i := 1) rfl)))) (fun _ h9 => h9) rfl dX6_placeOf_102 ?_
        refine lv_iload_n hx hb dX6_placeOf_105 rfl (lv_at hl 5 rfl) ?_
        refine va_iald hx hb hK hP 2 1 rfl rfl (ai_in ba1_l ba1_u (by decide) (by decide)) dX6_placeOf_106 ?_
        refine ax_ti x11 ex11.symm ?_
        refine lv_iload hx hb dX6_placeOf_107 (lv_at hl 0 rfl) ?_
        refine lv_iadd hx hb dX6_placeOf_109 ?_
        refine lv_topi (fun x109 ex109 => ?_)
        have qx109 : x109.toInt = x11.toInt + x94.toInt := ai_add ex109 ⟨bx11.1, u12f_x11⟩ ⟨bx94.1, bx94.2⟩ (by decide) (by decide)
        have bx109 : (-2147483645 : Int) ≤ x109.toInt ∧ x109.toInt ≤ 237 := ⟨by rw [qx109]; exact Int.add_le_add bx11.1 bx94.1, by rw [qx109]; exact Int.add_le_add u12f_x11 bx94.2⟩
        refine lv_goto (tgt := 122) hx hb dX6_placeOf_110 (by decide) ?_
        exact W.iret (v := x109) hx hb hr (fun t ht hW => ⟨⟨x109, (), rfl, trivial, by rw [ht]; exact hP, va_K.moved hW.alike hK, hD⟩, hS.F ht⟩) hS.2.2 dX6_placeOf_122
      · have gc80 := ai_nlt c80
        have u80f_x73 : x73.toInt ≤ (80 : Int) := Int.le_trans gc80 bx37.2
        refine lv_iload hx hb dX6_placeOf_83 (lv_at hl 0 rfl) ?_
        refine lv_goto (tgt := 95) hx hb dX6_placeOf_85 (by decide) ?_
        refine lv_istore (lv' := [(6, .int x73), (5, .int x73), (4, .int x37), (3, .int 1), (0, .ref a0), (1, .int a1), (2, .int a2)]) hx hb dX6_placeOf_95 hl (by decide) rfl (fun ls hl => ?_)
        refine lv_iload_n hx hb dX6_placeOf_97 rfl (lv_at hl 3 rfl) ?_
        refine lv_if_eq (tgt := 113) hx hb dX6_placeOf_98 (by decide) (fun c98 => absurd c98 (by decide +kernel)) (fun _ => ?_)
        refine lv_aload_n hx hb dX6_placeOf_101 rfl (lv_at hl 4 rfl) ?_
        refine va_get (D := (dC, dI)) (ci := 6) (v := .ref a0_2) (C := RX6) (T := TX6) (N := 4) hx hb hts zi_X6_placeOf_6 hown hK hP 0 rfl rfl 2 (by decide) (hts (.fieldLink RX6 9 "WaxTurns$Watchers" "from" "[I") (List.mem_cons_of_mem _ (List.mem_append_left _ (List.mem_of_getElem? (i := 1) rfl)))) (fun _ h9 => h9) rfl dX6_placeOf_102 ?_
        refine lv_iload_n hx hb dX6_placeOf_105 rfl (lv_at hl 5 rfl) ?_
        refine va_iald hx hb hK hP 2 1 rfl rfl (ai_in ba1_l ba1_u (by decide) (by decide)) dX6_placeOf_106 ?_
        refine ax_ti x11 ex11.symm ?_
        refine lv_iload hx hb dX6_placeOf_107 (lv_at hl 0 rfl) ?_
        refine lv_iadd hx hb dX6_placeOf_109 ?_
        refine lv_topi (fun x109 ex109 => ?_)
        have qx109 : x109.toInt = x11.toInt + x73.toInt := ai_add ex109 ⟨bx11.1, u12f_x11⟩ ⟨(ai_min x73), u80f_x73⟩ (by decide) (by decide)
        have bx109 : (-2147483648 : Int) ≤ x109.toInt ∧ x109.toInt ≤ 159 := ⟨by rw [qx109]; exact Int.add_le_add bx11.1 (ai_min x73), by rw [qx109]; exact Int.add_le_add u12f_x11 u80f_x73⟩
        refine lv_goto (tgt := 122) hx hb dX6_placeOf_110 (by decide) ?_
        exact W.iret (v := x109) hx hb hr (fun t ht hW => ⟨⟨x109, (), rfl, trivial, by rw [ht]; exact hP, va_K.moved hW.alike hK, hD⟩, hS.F ht⟩) hS.2.2 dX6_placeOf_122
    · have gc58 := ai_nlt c58
      have u58f_x37 : x37.toInt ≤ (0 : Int) := Int.le_trans gc58 zq6
      refine lv_aload_n hx hb dX6_placeOf_61 rfl (lv_at hl 2 rfl) ?_
      refine va_get (D := (dC, dI)) (ci := 6) (v := .ref a0_2) (C := RX6) (T := TX6) (N := 4) hx hb hts zi_X6_placeOf_6 hown hK hP 0 rfl rfl 2 (by decide) (hts (.fieldLink RX6 9 "WaxTurns$Watchers" "from" "[I") (List.mem_cons_of_mem _ (List.mem_append_left _ (List.mem_of_getElem? (i := 1) rfl)))) (fun _ h9 => h9) rfl dX6_placeOf_62 ?_
      refine lv_iload_n hx hb dX6_placeOf_65 rfl (lv_at hl 3 rfl) ?_
      refine va_iald hx hb hK hP 2 1 rfl rfl (ai_in ba1_l ba1_u (by decide) (by decide)) dX6_placeOf_66 ?_
      refine ax_ti x11 ex11.symm ?_
      exact W.iret (v := x11) hx hb hr (fun t ht hW => ⟨⟨x11, (), rfl, trivial, by rw [ht]; exact hP, va_K.moved hW.alike hK, hD⟩, hS.F ht⟩) hS.2.2 dX6_placeOf_67

set_option maxHeartbeats 4000000 in
set_option maxRecDepth 100000 in
theorem c_X6_placesIn (l : Launch) (dC : Nat → ClassId) (dI : Nat → Nat → Nat) (sz : Nat) (a0 : Nat) (a1 : Int32) (a0_0 : Int32) (a0_1 : Int32) (a0_2 : Nat) (a0_3 : Nat) (ka0_3 : ClassId) (fa0_3 : Nat → Int32) (ka0_2 : ClassId) (fa0_2 : Nat → Int32) (ba0_0_l : (0 : Int) ≤ a0_0.toInt) (ba0_0_u : a0_0.toInt ≤ (3 : Int)) (bfa0_3 : (∀ k, (0 : Int) ≤ (fa0_3 k).toInt ∧ (fa0_3 k).toInt ≤ 80)) (bfa0_2 : (∀ k, (0 : Int) ≤ (fa0_2 k).toInt ∧ (fa0_2 k).toInt ≤ 80)) : Met l yX6_placesIn wsX6_placesIn ({ frames := 1, cells := 0, slots := 0, locals := 26 }) (va_Pc [.ref a0, .int a1] (ax_C dC dI sz [(a0, .inr (6, [.int a0_0, .int a0_1, .ref a0_2, .ref a0_3])), (a0_3, .inl (ka0_3, 3, .inl (fa0_3))), (a0_2, .inl (ka0_2, 3, .inl (fa0_2)))] [(ka0_3, .int), (ka0_2, .int)] (fun _ => True))) (va_Qi (fun (r : Int32) (_ : Unit) => True) (fun (_ : Unit) (t : State) => ax_B dC dI (va_A [(a0, .inr (6, [.int a0_0, .int a0_1, .ref a0_2, .ref a0_3])), (a0_3, .inl (ka0_3, 3, .inl (fa0_3))), (a0_2, .inl (ka0_2, 3, .inl (fa0_2)))] sz) [(a0, .inr (6, [.int a0_0, .int a0_1, .ref a0_2, .ref a0_3])), (a0_3, .inl (ka0_3, 3, .inl (fa0_3))), (a0_2, .inl (ka0_2, 3, .inl (fa0_2)))] [(ka0_3, .int), (ka0_2, .int)] t) (va_A [(a0, .inr (6, [.int a0_0, .int a0_1, .ref a0_2, .ref a0_3])), (a0_3, .inl (ka0_3, 3, .inl (fa0_3))), (a0_2, .inl (ka0_2, 3, .inl (fa0_2)))] sz)) 0 0 (va_A [(a0, .inr (6, [.int a0_0, .int a0_1, .ref a0_2, .ref a0_3])), (a0_3, .inl (ka0_3, 3, .inl (fa0_3))), (a0_2, .inl (ka0_2, 3, .inl (fa0_2)))] sz) := by
  refine Met.ofW (cc := cX6_placesIn) (maxL := 4) (ret := (some .int)) (by decide) rfl ?_
  intro p e s m args below meth c s₁ B hml hv
  obtain ⟨rfl, hsz, hP, hK, hD0, hE⟩ := hv
  have hx := B.exec
  have hb := B.bytes
  have hr := B.returns
  have hts := atoms_spec (ws := wsX6_placesIn) B.pre
  have hown : s.vm.findClass RX6 = some m.cls := findClass_of_methodNamed B.named
  have hlocks := B.notSynchronized
  subst hsz
  have hD := hD0.self (sz := s.heap.size)
  generalize hAe : va_A [(a0, .inr (6, [.int a0_0, .int a0_1, .ref a0_2, .ref a0_3])), (a0_3, .inl (ka0_3, 3, .inl (fa0_3))), (a0_2, .inl (ka0_2, 3, .inl (fa0_2)))] s.heap.size = A at hD ⊢
  have hA : ∀ q : Nat, s.heap.size ≤ q → A q := fun q h => by rw [← hAe]; exact Or.inr h
  have hS : va_S A s.heap s.heap [] := va_S.rf
  have hP : va_P (dC, dI) vwCl [(a0, .inr (6, [.int a0_0, .int a0_1, .ref a0_2, .ref a0_3])), (a0_3, .inl (ka0_3, 3, .inl (fa0_3))), (a0_2, .inl (ka0_2, 3, .inl (fa0_2)))] s.heap := hP
  have hl := lv_entry ([.ref a0, .int a1]) (n := 4) (Nat.le_of_ble_eq_true rfl)
  rw [lg_entry_eq]
  generalize (lg_sl ([.ref a0, .int a1]) ++ List.replicate (4 - (lg_sl ([.ref a0, .int a1])).length) Slot.unset).toArray = ls at hl ⊢
  have hl : lv_has ls 4 [(0, .ref a0), (1, .int a1)] := hl
  refine ai_open (fun K hK0 => ?_)
  refine (hK0 _ _ _).mpr ?_
  refine lv_aload_n hx hb dX6_placesIn_0 rfl (lv_at hl 0 rfl) ?_
  refine va_get (D := (dC, dI)) (ci := 6) (v := .int a0_1) (C := RX6) (T := TX6) (N := 4) hx hb hts zi_X6_placesIn_6 hown hK hP 0 rfl rfl 1 (by decide) (hts (.fieldLink RX6 22 "WaxTurns$Watchers" "posts" "I") (List.mem_cons_of_mem _ (List.mem_append_left _ (List.mem_of_getElem? (i := 0) rfl)))) (fun _ h9 => h9) rfl dX6_placesIn_1 ?_
  refine lv_istore_n (lv' := [(2, .int a0_1), (0, .ref a0), (1, .int a1)]) hx hb dX6_placesIn_4 rfl hl (by decide) rfl (fun ls hl => ?_)
  refine lv_iconst (v := 0) hx hb dX6_placesIn_5 zk_iconst_0 ?_
  refine lv_istore_n (lv' := [(3, .int 0), (2, .int a0_1), (0, .ref a0), (1, .int a1)]) hx hb dX6_placesIn_6 rfl hl (by decide) rfl (fun ls hl => ?_)
  have J7 : ∀ (n : Nat) (j7l3 : Int32) (j7l2 : Int32) (H : Heap) (locs : List Loc) (ls : Array Slot), (4 : Int) - j7l3.toInt ≤ (n : Int) → (0 : Int) ≤ j7l3.toInt → j7l3.toInt ≤ (3 : Int) → va_P (dC, dI) vwCl [(a0, .inr (6, [.int a0_0, .int a0_1, .ref a0_2, .ref a0_3])), (a0_3, .inl (ka0_3, 3, .inl (fa0_3))), (a0_2, .inl (ka0_2, 3, .inl (fa0_2)))] H → va_D A [(a0, .inr (6, [.int a0_0, .int a0_1, .ref a0_2, .ref a0_3])), (a0_3, .inl (ka0_3, 3, .inl (fa0_3))), (a0_2, .inl (ka0_2, 3, .inl (fa0_2)))] → va_S A s.heap H locs → lv_has ls 4 [(0, .ref a0), (1, .int a1), (2, .int j7l2), (3, .int j7l3)] → K H locs (F0 m 7 ls []) := by
    intro n
    induction n with
    | zero =>
      intro j7l3 j7l2 H locs ls hm bj7l3_l bj7l3_u hP hD hS hl
      have h8 := ai_min j7l3
      have h9 := ai_max j7l3
      exact absurd hm (by omega)
    | succ n ih7 =>
      intro j7l3 j7l2 H locs ls hm bj7l3_l bj7l3_u hP hD hS hl
      refine (hK0 _ _ _).mpr ?_
      have hm7 := hm
      refine lv_iload_n hx hb dX6_placesIn_7 rfl (lv_at hl 3 rfl) ?_
      refine lv_aload_n hx hb dX6_placesIn_8 rfl (lv_at hl 0 rfl) ?_
      refine va_get (D := (dC, dI)) (ci := 6) (v := .int a0_0) (C := RX6) (T := TX6) (N := 4) hx hb hts zi_X6_placesIn_6 hown hK hP 0 rfl rfl 0 (by decide) (hts (.fieldLink RX6 18 "WaxTurns$Watchers" "count" "I") (List.mem_cons_of_mem _ (List.mem_append_left _ (List.mem_of_getElem? (i := 1) rfl)))) (fun _ h9 => h9) rfl dX6_placesIn_9 ?_
      refine lv_icmp_ge (tgt := 32) hx hb dX6_placesIn_12 (by decide) (fun c12 => ?_) (fun c12 => ?_)
      · have gc12 := ai_le c12
        have u12t_a0_0 : a0_0.toInt ≤ (3 : Int) := ba0_0_u
        have l12t_j7l3 : (0 : Int) ≤ j7l3.toInt := bj7l3_l
        refine lv_iload_n hx hb dX6_placesIn_32 rfl (lv_at hl 2 rfl) ?_
        exact W.iret (v := j7l2) hx hb hr (fun t ht hW => ⟨⟨j7l2, (), rfl, trivial, by rw [ht]; exact hP, va_K.moved hW.alike hK, hD⟩, hS.F ht⟩) hS.2.2 dX6_placesIn_33
      · have gc12 := ai_nle c12
        have u12f_j7l3 : j7l3.toInt ≤ (2 : Int) := ai_lthi gc12 ba0_0_u
        have l12f_a0_0 : (1 : Int) ≤ a0_0.toInt := ai_ltlo gc12 bj7l3_l
        refine lv_iload_n hx hb dX6_placesIn_15 rfl (lv_at hl 2 rfl) ?_
        refine lv_iconst (v := 1) hx hb dX6_placesIn_16 zk_iconst_1 ?_
        refine lv_aload_n hx hb dX6_placesIn_17 rfl (lv_at hl 0 rfl) ?_
        refine lv_iload_n hx hb dX6_placesIn_18 rfl (lv_at hl 3 rfl) ?_
        refine lv_iload_n hx hb dX6_placesIn_19 rfl (lv_at hl 1 rfl) ?_
        obtain ⟨hPc, hDc, hFc, hCc⟩ := zc_cut (wc := [(a0, .inr (6, [.int a0_0, .int a0_1, .ref a0_2, .ref a0_3])), (a0_3, .inl (ka0_3, 3, .inl (fa0_3))), (a0_2, .inl (ka0_2, 3, .inl (fa0_2)))]) hP hD hS hA [0, 1, 2] (by decide +kernel) rfl
        have hKc := hK.sub (tys' := [(ka0_3, .int), (ka0_2, .int)]) [0, 1] rfl
        refine va_calli (va_runV (As := [.int j7l3, .int a1]) (rest := [.int 1, .int j7l2]) ⟨hx, hb, hml, hown, hts⟩ (c_X6_placeOf l dC dI H.size a0 j7l3 a1 (.int a0_0) (.int a0_1) a0_2 a0_3 ka0_3 fa0_3 ka0_2 fa0_2 bj7l3_l u12f_j7l3 bfa0_3 bfa0_2) (cwV 2 hts gX6_placesIn_X6_placeOf rfl rfl rfl zd_X6_placeOf ⟨Nat.le_of_ble_eq_true rfl, Nat.le_of_ble_eq_true rfl⟩) ⟨ax_blind (fun _ _ _ _ _ => trivial), zr_6 hKc hPc (q0 := 0) rfl, ax_pre hPc hKc hDc (fun _ _ => trivial)⟩ rfl rfl hl.1 rfl (lv_room (Nat.le_of_ble_eq_true rfl)) dX6_placesIn_20 ⟨Nat.le_of_ble_eq_true rfl, Nat.le_of_ble_eq_true rfl⟩) hS (fun q _ h => hFc q h) hFc (fun r20 u t H locs ht hvm hw hB hz1 hk1 hS => ?_)
        obtain ⟨hP1, hK1, hD1⟩ := hB
        rw [ht] at hP1
        obtain ⟨hP, hD⟩ := zc_back (w := [(a0, .inr (6, [.int a0_0, .int a0_1, .ref a0_2, .ref a0_3])), (a0_3, .inl (ka0_3, 3, .inl (fa0_3))), (a0_2, .inl (ka0_2, 3, .inl (fa0_2)))]) hP hD hCc hk1 hFc hP1 hD1 [.inr 0, .inr 1, .inr 2] (by decide +kernel) rfl
        refine lv_ishl hx hb dX6_placesIn_23 ?_
        refine lv_topi (fun x23 ex23 => ?_)
        refine lv_ior hx hb dX6_placesIn_24 ?_
        refine lv_topi (fun x24 ex24 => ?_)
        refine lv_istore_n (lv' := [(2, .int x24), (0, .ref a0), (1, .int a1), (3, .int j7l3)]) hx hb dX6_placesIn_25 rfl hl (by decide) rfl (fun ls hl => ?_)
        obtain ⟨x26, ex26⟩ : ∃ y : Int32, y = j7l3 + Int32.ofInt 1 := ⟨_, rfl⟩
        have qx26 : x26.toInt = j7l3.toInt + 1 := ai_inc ex26 (by decide) (by decide) u12f_j7l3 (by decide)
        have bx26 : (1 : Int) ≤ x26.toInt ∧ x26.toInt ≤ 3 := ⟨by rw [qx26]; exact Int.add_le_add bj7l3_l (Int.le_refl _), by rw [qx26]; exact Int.add_le_add u12f_j7l3 (Int.le_refl _)⟩
        refine lv_iinc (v := x26) (lv' := [(3, .int x26), (2, .int x24), (0, .ref a0), (1, .int a1)]) hx hb dX6_placesIn_26 hl (k := 3) rfl ex26.symm (by decide) rfl (fun ls hl => ?_)
        refine lv_goto (tgt := 7) hx hb dX6_placesIn_29 (by decide) ?_
        exact (hK0 _ _ _).mp (ih7 x26 x24 _ _ _ (by have h0 := qx26; omega) (Int.le_trans zq4 bx26.1) bx26.2 hP hD hS (lv_sub hl [2, 3, 1, 0] rfl))
  exact (hK0 _ _ _).mp (J7 4 0 a0_1 _ _ _ (by have h1 : (0 : Int) ≤ (0 : Int32).toInt := zq5; have h2 : (0 : Int32).toInt ≤ (0 : Int) := zq6; omega) zq5 (Int.le_trans zq6 zq11) hP hD hS (lv_sub hl [2, 3, 1, 0] rfl))

set_option maxHeartbeats 4000000 in
set_option maxRecDepth 100000 in
theorem c_X0_clear (l : Launch) (dC : Nat → ClassId) (dI : Nat → Nat → Nat) (sz : Nat) (a0 : Nat) (a0_0 : Int32) (a0g_1 a0g_2 a0g_3 a0g_5 a0g_6 a0g_7 a0g_12 a0g_13 : Value) (a0_4 : Int32) (a0_8 : Int32) (a0_9 : Int32) (a0_10 : Nat) (a0_11 : Nat) (a0_14 : Nat) (a0_14_0 : Int32) (a0_14g_1 a0_14g_2 a0_14g_3 : Value) (ka0_10 : ClassId) (fa0_10 : Nat → Int32) (ka0_11 : ClassId) (fa0_11 : Nat → Int32) (ba0_0_l : (0 : Int) ≤ a0_0.toInt) (ba0_0_u : a0_0.toInt ≤ (9 : Int)) (ba0_4_l : (0 : Int) ≤ a0_4.toInt) (ba0_4_u : a0_4.toInt ≤ (1 : Int)) (ba0_9_l : (0 : Int) ≤ a0_9.toInt) (ba0_9_u : a0_9.toInt ≤ (6 : Int)) (ba0_14_0_l : (0 : Int) ≤ a0_14_0.toInt) (ba0_14_0_u : a0_14_0.toInt ≤ (3 : Int)) : Met l yX0_clear wsX0_clear ({ frames := 0, cells := 0, slots := 0, locals := 0 }) (va_Pc [.ref a0] (ax_C dC dI sz [(a0, .inr (0, [.int a0_0, a0g_1, a0g_2, a0g_3, .int a0_4, a0g_5, a0g_6, a0g_7, .int a0_8, .int a0_9, .ref a0_10, .ref a0_11, a0g_12, a0g_13, .ref a0_14])), (a0_14, .inr (6, [.int a0_14_0, a0_14g_1, a0_14g_2, a0_14g_3])), (a0_10, .inl (ka0_10, 9, .inl (fa0_10))), (a0_11, .inl (ka0_11, 9, .inl (fa0_11)))] [(ka0_10, .int), (ka0_11, .int)] (fun _ => True))) (va_Qv (fun (_ : Unit) => True) (fun (_ : Unit) (t : State) => ∃ na0_0 : Int32, ∃ na0_4 : Int32, ∃ na0_8 : Int32, ∃ na0_9 : Int32, ∃ na0_14_0 : Int32, ∃ nfa0_10 : Nat → Int32, ∃ nfa0_11 : Nat → Int32, ((0 : Int) ≤ na0_0.toInt ∧ na0_0.toInt ≤ 9) ∧ ((0 : Int) ≤ na0_4.toInt ∧ na0_4.toInt ≤ 1) ∧ ((0 : Int) ≤ na0_9.toInt ∧ na0_9.toInt ≤ 6) ∧ ((0 : Int) ≤ na0_14_0.toInt ∧ na0_14_0.toInt ≤ 3) ∧ ax_B dC dI (va_A [(a0, .inr (0, [.int a0_0, a0g_1, a0g_2, a0g_3, .int a0_4, a0g_5, a0g_6, a0g_7, .int a0_8, .int a0_9, .ref a0_10, .ref a0_11, a0g_12, a0g_13, .ref a0_14])), (a0_14, .inr (6, [.int a0_14_0, a0_14g_1, a0_14g_2, a0_14g_3])), (a0_10, .inl (ka0_10, 9, .inl (fa0_10))), (a0_11, .inl (ka0_11, 9, .inl (fa0_11)))] sz) [(a0, .inr (0, [.int na0_0, a0g_1, a0g_2, a0g_3, .int na0_4, a0g_5, a0g_6, a0g_7, .int na0_8, .int na0_9, .ref a0_10, .ref a0_11, a0g_12, a0g_13, .ref a0_14])), (a0_14, .inr (6, [.int na0_14_0, a0_14g_1, a0_14g_2, a0_14g_3])), (a0_10, .inl (ka0_10, 9, .inl (nfa0_10))), (a0_11, .inl (ka0_11, 9, .inl (nfa0_11)))] [(ka0_10, .int), (ka0_11, .int)] t) (va_A [(a0, .inr (0, [.int a0_0, a0g_1, a0g_2, a0g_3, .int a0_4, a0g_5, a0g_6, a0g_7, .int a0_8, .int a0_9, .ref a0_10, .ref a0_11, a0g_12, a0g_13, .ref a0_14])), (a0_14, .inr (6, [.int a0_14_0, a0_14g_1, a0_14g_2, a0_14g_3])), (a0_10, .inl (ka0_10, 9, .inl (fa0_10))), (a0_11, .inl (ka0_11, 9, .inl (fa0_11)))] sz)) 0 0 (va_A [(a0, .inr (0, [.int a0_0, a0g_1, a0g_2, a0g_3, .int a0_4, a0g_5, a0g_6, a0g_7, .int a0_8, .int a0_9, .ref a0_10, .ref a0_11, a0g_12, a0g_13, .ref a0_14])), (a0_14, .inr (6, [.int a0_14_0, a0_14g_1, a0_14g_2, a0_14g_3])), (a0_10, .inl (ka0_10, 9, .inl (fa0_10))), (a0_11, .inl (ka0_11, 9, .inl (fa0_11)))] sz) := by
  refine Met.ofW (cc := cX0_clear) (maxL := 2) (ret := none) (by decide) rfl ?_
  intro p e s m args below meth c s₁ B hml hv
  obtain ⟨rfl, hsz, hP, hK, hD0, hE⟩ := hv
  have hx := B.exec
  have hb := B.bytes
  have hr := B.returns
  have hts := atoms_spec (ws := wsX0_clear) B.pre
  have hown : s.vm.findClass RX0 = some m.cls := findClass_of_methodNamed B.named
  have hlocks := B.notSynchronized
  subst hsz
  have hD := hD0.self (sz := s.heap.size)
  generalize hAe : va_A [(a0, .inr (0, [.int a0_0, a0g_1, a0g_2, a0g_3, .int a0_4, a0g_5, a0g_6, a0g_7, .int a0_8, .int a0_9, .ref a0_10, .ref a0_11, a0g_12, a0g_13, .ref a0_14])), (a0_14, .inr (6, [.int a0_14_0, a0_14g_1, a0_14g_2, a0_14g_3])), (a0_10, .inl (ka0_10, 9, .inl (fa0_10))), (a0_11, .inl (ka0_11, 9, .inl (fa0_11)))] s.heap.size = A at hD ⊢
  have hA : ∀ q : Nat, s.heap.size ≤ q → A q := fun q h => by rw [← hAe]; exact Or.inr h
  have hS : va_S A s.heap s.heap [] := va_S.rf
  have hP : va_P (dC, dI) vwCl [(a0, .inr (0, [.int a0_0, a0g_1, a0g_2, a0g_3, .int a0_4, a0g_5, a0g_6, a0g_7, .int a0_8, .int a0_9, .ref a0_10, .ref a0_11, a0g_12, a0g_13, .ref a0_14])), (a0_14, .inr (6, [.int a0_14_0, a0_14g_1, a0_14g_2, a0_14g_3])), (a0_10, .inl (ka0_10, 9, .inl (fa0_10))), (a0_11, .inl (ka0_11, 9, .inl (fa0_11)))] s.heap := hP
  have hl := lv_entry ([.ref a0]) (n := 2) (Nat.le_of_ble_eq_true rfl)
  rw [lg_entry_eq]
  generalize (lg_sl ([.ref a0]) ++ List.replicate (2 - (lg_sl ([.ref a0])).length) Slot.unset).toArray = ls at hl ⊢
  have hl : lv_has ls 2 [(0, .ref a0)] := hl
  refine ai_open (fun K hK0 => ?_)
  refine (hK0 _ _ _).mpr ?_
  refine lv_aload_n hx hb dX0_clear_0 rfl (lv_at hl 0 rfl) ?_
  refine lv_iconst (v := 0) hx hb dX0_clear_1 zk_iconst_0 ?_
  refine va_put (D := (dC, dI)) (ci := 0) (v := .int 0) (ty := .int) (C := RX0) (T := TX0) (N := 15) hx hb hts zi_X0_clear_0 tyX0 tyX0_ok nmX0 hown hK hP hD hS 0 rfl rfl 0 (by decide) (hts (.fieldLink RX0 31 "WaxTurns$Hall" "figures" "I") (List.mem_cons_of_mem _ (List.mem_append_left _ (List.mem_append_left _ (List.mem_of_getElem? (i := 0) rfl))))) (fun _ h9 => h9) rfl (tyX0_ok 0 (by decide)) rfl rfl (Nat.le_of_ble_eq_true rfl) dX0_clear_2 (fun H locs hP hD hS => ?_)
  obtain ⟨hP, hD⟩ := zc_re (w := [(a0, .inr (0, [.int 0, a0g_1, a0g_2, a0g_3, .int a0_4, a0g_5, a0g_6, a0g_7, .int a0_8, .int a0_9, .ref a0_10, .ref a0_11, a0g_12, a0g_13, .ref a0_14])), (a0_14, .inr (6, [.int a0_14_0, a0_14g_1, a0_14g_2, a0_14g_3])), (a0_10, .inl (ka0_10, 9, .inl (fa0_10))), (a0_11, .inl (ka0_11, 9, .inl (fa0_11)))]) hP hD rfl
  refine lv_aload_n hx hb dX0_clear_5 rfl (lv_at hl 0 rfl) ?_
  refine lv_iconst (v := 0) hx hb dX0_clear_6 zk_iconst_0 ?_
  refine va_put (D := (dC, dI)) (ci := 0) (v := .int 0) (ty := .boolean) (C := RX0) (T := TX0) (N := 15) hx hb hts zi_X0_clear_0 tyX0 tyX0_ok nmX0 hown hK hP hD hS 0 rfl rfl 4 (by decide) (hts (.fieldLink RX0 35 "WaxTurns$Hall" "lawTold" "Z") (List.mem_cons_of_mem _ (List.mem_append_left _ (List.mem_append_left _ (List.mem_of_getElem? (i := 1) rfl))))) (fun _ h9 => h9) rfl (tyX0_ok 4 (by decide)) rfl rfl (Nat.le_of_ble_eq_true rfl) dX0_clear_7 (fun H locs hP hD hS => ?_)
  obtain ⟨hP, hD⟩ := zc_re (w := [(a0, .inr (0, [.int 0, a0g_1, a0g_2, a0g_3, .int 0, a0g_5, a0g_6, a0g_7, .int a0_8, .int a0_9, .ref a0_10, .ref a0_11, a0g_12, a0g_13, .ref a0_14])), (a0_14, .inr (6, [.int a0_14_0, a0_14g_1, a0_14g_2, a0_14g_3])), (a0_10, .inl (ka0_10, 9, .inl (fa0_10))), (a0_11, .inl (ka0_11, 9, .inl (fa0_11)))]) hP hD rfl
  refine lv_aload_n hx hb dX0_clear_10 rfl (lv_at hl 0 rfl) ?_
  refine lv_iconst (v := 0) hx hb dX0_clear_11 zk_iconst_0 ?_
  refine va_put (D := (dC, dI)) (ci := 0) (v := .int 0) (ty := .int) (C := RX0) (T := TX0) (N := 15) hx hb hts zi_X0_clear_0 tyX0 tyX0_ok nmX0 hown hK hP hD hS 0 rfl rfl 8 (by decide) (hts (.fieldLink RX0 39 "WaxTurns$Hall" "toldBits" "I") (List.mem_cons_of_mem _ (List.mem_append_left _ (List.mem_append_left _ (List.mem_of_getElem? (i := 2) rfl))))) (fun _ h9 => h9) rfl (tyX0_ok 8 (by decide)) rfl rfl (Nat.le_of_ble_eq_true rfl) dX0_clear_12 (fun H locs hP hD hS => ?_)
  obtain ⟨hP, hD⟩ := zc_re (w := [(a0, .inr (0, [.int 0, a0g_1, a0g_2, a0g_3, .int 0, a0g_5, a0g_6, a0g_7, .int 0, .int a0_9, .ref a0_10, .ref a0_11, a0g_12, a0g_13, .ref a0_14])), (a0_14, .inr (6, [.int a0_14_0, a0_14g_1, a0_14g_2, a0_14g_3])), (a0_10, .inl (ka0_10, 9, .inl (fa0_10))), (a0_11, .inl (ka0_11, 9, .inl (fa0_11)))]) hP hD rfl
  refine lv_aload_n hx hb dX0_clear_15 rfl (lv_at hl 0 rfl) ?_
  refine lv_iconst (v := 0) hx hb dX0_clear_16 zk_iconst_0 ?_
  refine va_put (D := (dC, dI)) (ci := 0) (v := .int 0) (ty := .int) (C := RX0) (T := TX0) (N := 15) hx hb hts zi_X0_clear_0 tyX0 tyX0_ok nmX0 hown hK hP hD hS 0 rfl rfl 9 (by decide) (hts (.fieldLink RX0 42 "WaxTurns$Hall" "seenCount" "I") (List.mem_cons_of_mem _ (List.mem_append_left _ (List.mem_append_left _ (List.mem_of_getElem? (i := 3) rfl))))) (fun _ h9 => h9) rfl (tyX0_ok 9 (by decide)) rfl rfl (Nat.le_of_ble_eq_true rfl) dX0_clear_17 (fun H locs hP hD hS => ?_)
  obtain ⟨hP, hD⟩ := zc_re (w := [(a0, .inr (0, [.int 0, a0g_1, a0g_2, a0g_3, .int 0, a0g_5, a0g_6, a0g_7, .int 0, .int 0, .ref a0_10, .ref a0_11, a0g_12, a0g_13, .ref a0_14])), (a0_14, .inr (6, [.int a0_14_0, a0_14g_1, a0_14g_2, a0_14g_3])), (a0_10, .inl (ka0_10, 9, .inl (fa0_10))), (a0_11, .inl (ka0_11, 9, .inl (fa0_11)))]) hP hD rfl
  refine lv_aload_n hx hb dX0_clear_20 rfl (lv_at hl 0 rfl) ?_
  refine va_get (D := (dC, dI)) (ci := 0) (v := .ref a0_14) (C := RX0) (T := TX0) (N := 15) hx hb hts zi_X0_clear_0 hown hK hP 0 rfl rfl 14 (by decide) (hts (.fieldLink RX0 27 "WaxTurns$Hall" "watchers" "LWaxTurns$Watchers;") (List.mem_cons_of_mem _ (List.mem_append_left _ (List.mem_append_left _ (List.mem_of_getElem? (i := 4) rfl))))) (fun _ h9 => h9) rfl dX0_clear_21 ?_
  refine lv_iconst (v := 0) hx hb dX0_clear_24 zk_iconst_0 ?_
  refine va_put (D := (dC, dI)) (ci := 6) (v := .int 0) (ty := .int) (C := RX6) (T := TX6) (N := 4) hx hb hts zi_X0_clear_6 tyX6 tyX6_ok nmX6 hown hK hP hD hS 1 rfl rfl 0 (by decide) (hts (.fieldLink RX0 45 "WaxTurns$Watchers" "count" "I") (List.mem_cons_of_mem _ (List.mem_append_left _ (List.mem_append_left _ (List.mem_of_getElem? (i := 5) rfl))))) (fun _ h9 => h9) rfl (tyX6_ok 0 (by decide)) rfl rfl (Nat.le_of_ble_eq_true rfl) dX0_clear_25 (fun H locs hP hD hS => ?_)
  obtain ⟨hP, hD⟩ := zc_re (w := [(a0, .inr (0, [.int 0, a0g_1, a0g_2, a0g_3, .int 0, a0g_5, a0g_6, a0g_7, .int 0, .int 0, .ref a0_10, .ref a0_11, a0g_12, a0g_13, .ref a0_14])), (a0_14, .inr (6, [.int 0, a0_14g_1, a0_14g_2, a0_14g_3])), (a0_10, .inl (ka0_10, 9, .inl (fa0_10))), (a0_11, .inl (ka0_11, 9, .inl (fa0_11)))]) hP hD rfl
  refine lv_iconst (v := 0) hx hb dX0_clear_28 zk_iconst_0 ?_
  refine lv_istore_n (lv' := [(1, .int 0), (0, .ref a0)]) hx hb dX0_clear_29 rfl hl (by decide) rfl (fun ls hl => ?_)
  have J30 : ∀ (n : Nat) (j30l1 : Int32) (j30a0_10_a : Nat → Int32) (j30a0_11_a : Nat → Int32) (H : Heap) (locs : List Loc) (ls : Array Slot), (10 : Int) - j30l1.toInt ≤ (n : Int) → (0 : Int) ≤ j30l1.toInt → j30l1.toInt ≤ (9 : Int) → va_P (dC, dI) vwCl [(a0, .inr (0, [.int 0, a0g_1, a0g_2, a0g_3, .int 0, a0g_5, a0g_6, a0g_7, .int 0, .int 0, .ref a0_10, .ref a0_11, a0g_12, a0g_13, .ref a0_14])), (a0_14, .inr (6, [.int 0, a0_14g_1, a0_14g_2, a0_14g_3])), (a0_10, .inl (ka0_10, 9, .inl (j30a0_10_a))), (a0_11, .inl (ka0_11, 9, .inl (j30a0_11_a)))] H → va_D A [(a0, .inr (0, [.int 0, a0g_1, a0g_2, a0g_3, .int 0, a0g_5, a0g_6, a0g_7, .int 0, .int 0, .ref a0_10, .ref a0_11, a0g_12, a0g_13, .ref a0_14])), (a0_14, .inr (6, [.int 0, a0_14g_1, a0_14g_2, a0_14g_3])), (a0_10, .inl (ka0_10, 9, .inl (j30a0_10_a))), (a0_11, .inl (ka0_11, 9, .inl (j30a0_11_a)))] → va_S A s.heap H locs → lv_has ls 2 [(0, .ref a0), (1, .int j30l1)] → K H locs (F0 m 30 ls []) := by
    intro n
    induction n with
    | zero =>
      intro j30l1 j30a0_10_a j30a0_11_a H locs ls hm bj30l1_l bj30l1_u hP hD hS hl
      have h8 := ai_min j30l1
      have h9 := ai_max j30l1
      exact absurd hm (by omega)
    | succ n ih30 =>
      intro j30l1 j30a0_10_a j30a0_11_a H locs ls hm bj30l1_l bj30l1_u hP hD hS hl
      refine (hK0 _ _ _).mpr ?_
      have hm30 := hm
      refine lv_iload_n hx hb dX0_clear_30 rfl (lv_at hl 1 rfl) ?_
      refine lv_bipush (v := 9) hx hb dX0_clear_31 zk_bipush_9 ?_
      refine lv_icmp_ge (tgt := 56) hx hb dX0_clear_33 (by decide) (fun c33 => ?_) (fun c33 => ?_)
      · have gc33 := ai_le c33
        have l33t_j30l1 : (9 : Int) ≤ j30l1.toInt := Int.le_trans zq2 gc33
        exact W.vret hx hb hr (fun t ht hW => ⟨⟨(), rfl, trivial, 0, 0, 0, 0, 0, j30a0_10_a, j30a0_11_a, ⟨zq5, Int.le_trans zq6 (by decide)⟩, ⟨zq5, Int.le_trans zq6 (by decide)⟩, ⟨zq5, Int.le_trans zq6 (by decide)⟩, ⟨zq5, Int.le_trans zq6 (by decide)⟩, by rw [ht]; exact hP, va_K.moved hW.alike hK, hD⟩, hS.F ht⟩) hS.2.2 dX0_clear_56
      · have gc33 := ai_nle c33
        have u33f_j30l1 : j30l1.toInt ≤ (8 : Int) := ai_lthi gc33 zq3
        refine lv_aload_n hx hb dX0_clear_36 rfl (lv_at hl 0 rfl) ?_
        refine va_get (D := (dC, dI)) (ci := 0) (v := .ref a0_10) (C := RX0) (T := TX0) (N := 15) hx hb hts zi_X0_clear_0 hown hK hP 0 rfl rfl 10 (by decide) (hts (.fieldLink RX0 9 "WaxTurns$Hall" "kinds" "[I") (List.mem_cons_of_mem _ (List.mem_append_left _ (List.mem_append_left _ (List.mem_of_getElem? (i := 6) rfl))))) (fun _ h9 => h9) rfl dX0_clear_37 ?_
        refine lv_iload_n hx hb dX0_clear_40 rfl (lv_at hl 1 rfl) ?_
        refine lv_iconst (v := 0) hx hb dX0_clear_41 zk_iconst_0 ?_
        refine va_iast hx hb hK hP hD hS 2 0 rfl rfl (ai_in bj30l1_l u33f_j30l1 (by decide) (by decide)) dX0_clear_42 (fun H locs hP hD hS => ?_)
        obtain ⟨f42, hP, hD⟩ : ∃ f42 : Nat → Int32, va_P (dC, dI) vwCl [(a0, .inr (0, [.int 0, a0g_1, a0g_2, a0g_3, .int 0, a0g_5, a0g_6, a0g_7, .int 0, .int 0, .ref a0_10, .ref a0_11, a0g_12, a0g_13, .ref a0_14])), (a0_14, .inr (6, [.int 0, a0_14g_1, a0_14g_2, a0_14g_3])), (a0_10, .inl (ka0_10, 9, .inl (f42))), (a0_11, .inl (ka0_11, 9, .inl (j30a0_11_a)))] H ∧ va_D A [(a0, .inr (0, [.int 0, a0g_1, a0g_2, a0g_3, .int 0, a0g_5, a0g_6, a0g_7, .int 0, .int 0, .ref a0_10, .ref a0_11, a0g_12, a0g_13, .ref a0_14])), (a0_14, .inr (6, [.int 0, a0_14g_1, a0_14g_2, a0_14g_3])), (a0_10, .inl (ka0_10, 9, .inl (f42))), (a0_11, .inl (ka0_11, 9, .inl (j30a0_11_a)))] := ⟨_, hP, hD⟩
        refine lv_aload_n hx hb dX0_clear_43 rfl (lv_at hl 0 rfl) ?_
        refine va_get (D := (dC, dI)) (ci := 0) (v := .ref a0_11) (C := RX0) (T := TX0) (N := 15) hx hb hts zi_X0_clear_0 hown hK hP 0 rfl rfl 11 (by decide) (hts (.fieldLink RX0 15 "WaxTurns$Hall" "measures" "[I") (List.mem_cons_of_mem _ (List.mem_append_left _ (List.mem_append_left _ (List.mem_of_getElem? (i := 7) rfl))))) (fun _ h9 => h9) rfl dX0_clear_44 ?_
        refine lv_iload_n hx hb dX0_clear_47 rfl (lv_at hl 1 rfl) ?_
        refine lv_iconst (v := 0) hx hb dX0_clear_48 zk_iconst_0 ?_
        refine va_iast hx hb hK hP hD hS 3 1 rfl rfl (ai_in bj30l1_l u33f_j30l1 (by decide) (by decide)) dX0_clear_49 (fun H locs hP hD hS => ?_)
        obtain ⟨f49, hP, hD⟩ : ∃ f49 : Nat → Int32, va_P (dC, dI) vwCl [(a0, .inr (0, [.int 0, a0g_1, a0g_2, a0g_3, .int 0, a0g_5, a0g_6, a0g_7, .int 0, .int 0, .ref a0_10, .ref a0_11, a0g_12, a0g_13, .ref a0_14])), (a0_14, .inr (6, [.int 0, a0_14g_1, a0_14g_2, a0_14g_3])), (a0_10, .inl (ka0_10, 9, .inl (f42))), (a0_11, .inl (ka0_11, 9, .inl (f49)))] H ∧ va_D A [(a0, .inr (0, [.int 0, a0g_1, a0g_2, a0g_3, .int 0, a0g_5, a0g_6, a0g_7, .int 0, .int 0, .ref a0_10, .ref a0_11, a0g_12, a0g_13, .ref a0_14])), (a0_14, .inr (6, [.int 0, a0_14g_1, a0_14g_2, a0_14g_3])), (a0_10, .inl (ka0_10, 9, .inl (f42))), (a0_11, .inl (ka0_11, 9, .inl (f49)))] := ⟨_, hP, hD⟩
        obtain ⟨x50, ex50⟩ : ∃ y : Int32, y = j30l1 + Int32.ofInt 1 := ⟨_, rfl⟩
        have qx50 : x50.toInt = j30l1.toInt + 1 := ai_inc ex50 (by decide) (by decide) u33f_j30l1 (by decide)
        have bx50 : (1 : Int) ≤ x50.toInt ∧ x50.toInt ≤ 9 := ⟨by rw [qx50]; exact Int.add_le_add bj30l1_l (Int.le_refl _), by rw [qx50]; exact Int.add_le_add u33f_j30l1 (Int.le_refl _)⟩
        refine lv_iinc (v := x50) (lv' := [(1, .int x50), (0, .ref a0)]) hx hb dX0_clear_50 hl (k := 1) rfl ex50.symm (by decide) rfl (fun ls hl => ?_)
        refine lv_goto (tgt := 30) hx hb dX0_clear_53 (by decide) ?_
        exact (hK0 _ _ _).mp (ih30 x50 f42 f49 _ _ _ (by have h0 := qx50; omega) (Int.le_trans zq4 bx50.1) bx50.2 hP hD hS (lv_sub hl [1, 0] rfl))
  exact (hK0 _ _ _).mp (J30 10 0 fa0_10 fa0_11 _ _ _ (by have h1 : (0 : Int) ≤ (0 : Int32).toInt := zq5; have h2 : (0 : Int32).toInt ≤ (0 : Int) := zq6; omega) zq5 (Int.le_trans zq6 zq7) hP hD hS (lv_sub hl [1, 0] rfl))
