set_option maxHeartbeats 4000000 in
set_option maxRecDepth 100000 in
theorem c_X7_fitAt (l : Launch) (dC : Nat → ClassId) (dI : Nat → Nat → Nat) (sz : Nat) (a0 : Nat) (a1 : Int32) (a0g_0 a0g_1 a0g_2 a0g_3 a0g_4 a0g_6 a0g_9 a0g_10 : Value) (a0_5 : Nat) (a0_7 : Nat) (a0_8 : Int32) (a0_7_0 : Int32) (a0_7_1 : Int32) (a0_7g_2 a0_7g_3 a0_7g_4 a0_7g_5 a0_7g_6 a0_7g_7 a0_7g_8 a0_7g_10 a0_7g_11 a0_7g_14 : Value) (a0_7_9 : Int32) (a0_7_12 : Nat) (a0_7_13 : Nat) (a0_5_0 : Int32) (a0_5g_1 a0_5g_2 a0_5g_4 a0_5g_6 : Value) (a0_5_3 : Nat) (a0_5_5 : Int32) (ka0_5_3 : ClassId) (fa0_5_3 : Nat → Int32) (ka0_7_13 : ClassId) (fa0_7_13 : Nat → Int32) (ka0_7_12 : ClassId) (fa0_7_12 : Nat → Int32) (ba0_7_0_l : (0 : Int) ≤ a0_7_0.toInt) (ba0_7_0_u : a0_7_0.toInt ≤ (9 : Int)) (ba0_7_9_l : (0 : Int) ≤ a0_7_9.toInt) (ba0_7_9_u : a0_7_9.toInt ≤ (6 : Int)) (ba0_5_0_l : (0 : Int) ≤ a0_5_0.toInt) (ba0_5_0_u : a0_5_0.toInt ≤ (729 : Int)) (ba0_5_5_l : (0 : Int) ≤ a0_5_5.toInt) (ba0_5_5_u : a0_5_5.toInt ≤ (1 : Int)) (bfa0_5_3 : (∀ k, (0 : Int) ≤ (fa0_5_3 k).toInt ∧ (fa0_5_3 k).toInt ≤ 888 ∧ (fa0_5_3 k).toInt % 10 ≤ 8)) (bfa0_7_13 : (∀ k, (0 : Int) ≤ (fa0_7_13 k).toInt ∧ (fa0_7_13 k).toInt ≤ 999)) : Met l yX7_fitAt wsX7_fitAt ({ frames := 4, cells := 0, slots := 0, locals := 98 }) (va_Pc [.ref a0, .int a1] (ax_C dC dI sz [(a0, .inr (7, [a0g_0, a0g_1, a0g_2, a0g_3, a0g_4, .ref a0_5, a0g_6, .ref a0_7, .int a0_8, a0g_9, a0g_10])), (a0_7, .inr (0, [.int a0_7_0, .int a0_7_1, a0_7g_2, a0_7g_3, a0_7g_4, a0_7g_5, a0_7g_6, a0_7g_7, a0_7g_8, .int a0_7_9, a0_7g_10, a0_7g_11, .ref a0_7_12, .ref a0_7_13, a0_7g_14])), (a0_5, .inr (2, [.int a0_5_0, a0_5g_1, a0_5g_2, .ref a0_5_3, a0_5g_4, .int a0_5_5, a0_5g_6])), (a0_5_3, .inl (ka0_5_3, 729, .inl (fa0_5_3))), (a0_7_13, .inl (ka0_7_13, 6, .inl (fa0_7_13))), (a0_7_12, .inl (ka0_7_12, 6, .inl (fa0_7_12)))] [(ka0_5_3, .int), (ka0_7_13, .int), (ka0_7_12, .int)] (fun U => va_Nw (.methodLinkNest RX0 72 yX7_laterTurn RX7) U))) (va_Qi (fun (r : Int32) (_ : Unit) => (-1 : Int) ≤ r.toInt ∧ r.toInt ≤ (888 : Int)) (fun (_ : Unit) (t : State) => ∃ na0_8 : Int32, ∃ na0_5_0 : Int32, ∃ na0_5_5 : Int32, ∃ nfa0_5_3 : Nat → Int32, ((0 : Int) ≤ na0_5_0.toInt ∧ na0_5_0.toInt ≤ 729) ∧ ((0 : Int) ≤ na0_5_5.toInt ∧ na0_5_5.toInt ≤ 1) ∧ (∀ k, (0 : Int) ≤ (nfa0_5_3 k).toInt ∧ (nfa0_5_3 k).toInt ≤ 888 ∧ (nfa0_5_3 k).toInt % 10 ≤ 8) ∧ ax_B dC dI (va_A [(a0, .inr (7, [a0g_0, a0g_1, a0g_2, a0g_3, a0g_4, .ref a0_5, a0g_6, .ref a0_7, .int a0_8, a0g_9, a0g_10])), (a0_7, .inr (0, [.int a0_7_0, .int a0_7_1, a0_7g_2, a0_7g_3, a0_7g_4, a0_7g_5, a0_7g_6, a0_7g_7, a0_7g_8, .int a0_7_9, a0_7g_10, a0_7g_11, .ref a0_7_12, .ref a0_7_13, a0_7g_14])), (a0_5, .inr (2, [.int a0_5_0, a0_5g_1, a0_5g_2, .ref a0_5_3, a0_5g_4, .int a0_5_5, a0_5g_6])), (a0_5_3, .inl (ka0_5_3, 729, .inl (fa0_5_3))), (a0_7_13, .inl (ka0_7_13, 6, .inl (fa0_7_13))), (a0_7_12, .inl (ka0_7_12, 6, .inl (fa0_7_12)))] sz) [(a0, .inr (7, [a0g_0, a0g_1, a0g_2, a0g_3, a0g_4, .ref a0_5, a0g_6, .ref a0_7, .int na0_8, a0g_9, a0g_10])), (a0_7, .inr (0, [.int a0_7_0, .int a0_7_1, a0_7g_2, a0_7g_3, a0_7g_4, a0_7g_5, a0_7g_6, a0_7g_7, a0_7g_8, .int a0_7_9, a0_7g_10, a0_7g_11, .ref a0_7_12, .ref a0_7_13, a0_7g_14])), (a0_5, .inr (2, [.int na0_5_0, a0_5g_1, a0_5g_2, .ref a0_5_3, a0_5g_4, .int na0_5_5, a0_5g_6])), (a0_5_3, .inl (ka0_5_3, 729, .inl (nfa0_5_3))), (a0_7_13, .inl (ka0_7_13, 6, .inl (fa0_7_13))), (a0_7_12, .inl (ka0_7_12, 6, .inl (fa0_7_12)))] [(ka0_5_3, .int), (ka0_7_13, .int), (ka0_7_12, .int)] t) (va_A [(a0, .inr (7, [a0g_0, a0g_1, a0g_2, a0g_3, a0g_4, .ref a0_5, a0g_6, .ref a0_7, .int a0_8, a0g_9, a0g_10])), (a0_7, .inr (0, [.int a0_7_0, .int a0_7_1, a0_7g_2, a0_7g_3, a0_7g_4, a0_7g_5, a0_7g_6, a0_7g_7, a0_7g_8, .int a0_7_9, a0_7g_10, a0_7g_11, .ref a0_7_12, .ref a0_7_13, a0_7g_14])), (a0_5, .inr (2, [.int a0_5_0, a0_5g_1, a0_5g_2, .ref a0_5_3, a0_5g_4, .int a0_5_5, a0_5g_6])), (a0_5_3, .inl (ka0_5_3, 729, .inl (fa0_5_3))), (a0_7_13, .inl (ka0_7_13, 6, .inl (fa0_7_13))), (a0_7_12, .inl (ka0_7_12, 6, .inl (fa0_7_12)))] sz)) 0 0 (va_A [(a0, .inr (7, [a0g_0, a0g_1, a0g_2, a0g_3, a0g_4, .ref a0_5, a0g_6, .ref a0_7, .int a0_8, a0g_9, a0g_10])), (a0_7, .inr (0, [.int a0_7_0, .int a0_7_1, a0_7g_2, a0_7g_3, a0_7g_4, a0_7g_5, a0_7g_6, a0_7g_7, a0_7g_8, .int a0_7_9, a0_7g_10, a0_7g_11, .ref a0_7_12, .ref a0_7_13, a0_7g_14])), (a0_5, .inr (2, [.int a0_5_0, a0_5g_1, a0_5g_2, .ref a0_5_3, a0_5g_4, .int a0_5_5, a0_5g_6])), (a0_5_3, .inl (ka0_5_3, 729, .inl (fa0_5_3))), (a0_7_13, .inl (ka0_7_13, 6, .inl (fa0_7_13))), (a0_7_12, .inl (ka0_7_12, 6, .inl (fa0_7_12)))] sz) := by
  refine Met.ofW (cc := cX7_fitAt) (maxL := 2) (ret := (some .int)) (by decide) rfl ?_
  intro p e s m args below meth c s₁ B hml hv
  obtain ⟨rfl, hsz, hP, hK, hD0, hE⟩ := hv
  have hx := B.exec
  have hb := B.bytes
  have hr := B.returns
  have hts := atoms_spec (ws := wsX7_fitAt) B.pre
  have hown : s.vm.findClass RX7 = some m.cls := findClass_of_methodNamed B.named
  have hlocks := B.notSynchronized
  subst hsz
  have hD := hD0.self (sz := s.heap.size)
  generalize hAe : va_A [(a0, .inr (7, [a0g_0, a0g_1, a0g_2, a0g_3, a0g_4, .ref a0_5, a0g_6, .ref a0_7, .int a0_8, a0g_9, a0g_10])), (a0_7, .inr (0, [.int a0_7_0, .int a0_7_1, a0_7g_2, a0_7g_3, a0_7g_4, a0_7g_5, a0_7g_6, a0_7g_7, a0_7g_8, .int a0_7_9, a0_7g_10, a0_7g_11, .ref a0_7_12, .ref a0_7_13, a0_7g_14])), (a0_5, .inr (2, [.int a0_5_0, a0_5g_1, a0_5g_2, .ref a0_5_3, a0_5g_4, .int a0_5_5, a0_5g_6])), (a0_5_3, .inl (ka0_5_3, 729, .inl (fa0_5_3))), (a0_7_13, .inl (ka0_7_13, 6, .inl (fa0_7_13))), (a0_7_12, .inl (ka0_7_12, 6, .inl (fa0_7_12)))] s.heap.size = A at hD ⊢
  have hA : ∀ q : Nat, s.heap.size ≤ q → A q := fun q h => by rw [← hAe]; exact Or.inr h
  have hS : va_S A s.heap s.heap [] := va_S.rf
  have hP : va_P (dC, dI) vwCl [(a0, .inr (7, [a0g_0, a0g_1, a0g_2, a0g_3, a0g_4, .ref a0_5, a0g_6, .ref a0_7, .int a0_8, a0g_9, a0g_10])), (a0_7, .inr (0, [.int a0_7_0, .int a0_7_1, a0_7g_2, a0_7g_3, a0_7g_4, a0_7g_5, a0_7g_6, a0_7g_7, a0_7g_8, .int a0_7_9, a0_7g_10, a0_7g_11, .ref a0_7_12, .ref a0_7_13, a0_7g_14])), (a0_5, .inr (2, [.int a0_5_0, a0_5g_1, a0_5g_2, .ref a0_5_3, a0_5g_4, .int a0_5_5, a0_5g_6])), (a0_5_3, .inl (ka0_5_3, 729, .inl (fa0_5_3))), (a0_7_13, .inl (ka0_7_13, 6, .inl (fa0_7_13))), (a0_7_12, .inl (ka0_7_12, 6, .inl (fa0_7_12)))] s.heap := hP
  have hE0 := hE
  have hl := lv_entry ([.ref a0, .int a1]) (n := 2) (Nat.le_of_ble_eq_true rfl)
  rw [lg_entry_eq]
  generalize (lg_sl ([.ref a0, .int a1]) ++ List.replicate (2 - (lg_sl ([.ref a0, .int a1])).length) Slot.unset).toArray = ls at hl ⊢
  have hl : lv_has ls 2 [(0, .ref a0), (1, .int a1)] := hl
  refine lv_aload_n hx hb dX7_fitAt_0 rfl (lv_at hl 0 rfl) ?_
  obtain ⟨hPc, hDc, hFc, hCc⟩ := zc_cut (wc := [(a0, .inr (7, [a0g_0, a0g_1, a0g_2, a0g_3, a0g_4, .ref a0_5, a0g_6, .ref a0_7, .int a0_8, a0g_9, a0g_10])), (a0_7, .inr (0, [.int a0_7_0, .int a0_7_1, a0_7g_2, a0_7g_3, a0_7g_4, a0_7g_5, a0_7g_6, a0_7g_7, a0_7g_8, .int a0_7_9, a0_7g_10, a0_7g_11, .ref a0_7_12, .ref a0_7_13, a0_7g_14]))]) hP hD hS hA [0, 1] (by decide +kernel) rfl
  have hKc := hK.sub (tys' := []) [] rfl
  refine va_calli (va_runV (As := []) (rest := []) ⟨hx, hb, hml, hown, hts⟩ (c_X7_hasGallery l dC dI s.heap.size a0 a0g_0 a0g_1 a0g_2 a0g_3 a0g_4 (.ref a0_5) a0g_6 (.int a0_8) a0g_9 a0g_10 a0_7 a0_7_0 (.int a0_7_1) a0_7g_2 a0_7g_3 a0_7g_4 a0_7g_5 a0_7g_6 a0_7g_7 a0_7g_8 (.int a0_7_9) a0_7g_10 a0_7g_11 (.ref a0_7_12) (.ref a0_7_13) a0_7g_14 ba0_7_0_l ba0_7_0_u) (cwV 0 hts gX7_fitAt_X7_hasGallery rfl rfl rfl zd_X7_hasGallery ⟨Nat.le_of_ble_eq_true rfl, Nat.le_of_ble_eq_true rfl⟩) ⟨ax_blind (fun _ _ _ _ _ => trivial), zr_7 hKc hPc (q0 := 0) rfl, ax_pre hPc hKc hDc (fun _ _ => trivial)⟩ rfl rfl hl.1 rfl (lv_room (Nat.le_of_ble_eq_true rfl)) dX7_fitAt_1 ⟨Nat.le_of_ble_eq_true rfl, Nat.le_of_ble_eq_true rfl⟩) hS (fun q _ h => hFc q h) hFc (fun r1 u t H locs ht hvm hw hB hz1 hk1 hS => ?_)
  obtain ⟨hP1, hK1, hD1⟩ := hB
  rw [ht] at hP1
  obtain ⟨hP, hD⟩ := zc_back (w := [(a0, .inr (7, [a0g_0, a0g_1, a0g_2, a0g_3, a0g_4, .ref a0_5, a0g_6, .ref a0_7, .int a0_8, a0g_9, a0g_10])), (a0_7, .inr (0, [.int a0_7_0, .int a0_7_1, a0_7g_2, a0_7g_3, a0_7g_4, a0_7g_5, a0_7g_6, a0_7g_7, a0_7g_8, .int a0_7_9, a0_7g_10, a0_7g_11, .ref a0_7_12, .ref a0_7_13, a0_7g_14])), (a0_5, .inr (2, [.int a0_5_0, a0_5g_1, a0_5g_2, .ref a0_5_3, a0_5g_4, .int a0_5_5, a0_5g_6])), (a0_5_3, .inl (ka0_5_3, 729, .inl (fa0_5_3))), (a0_7_13, .inl (ka0_7_13, 6, .inl (fa0_7_13))), (a0_7_12, .inl (ka0_7_12, 6, .inl (fa0_7_12)))]) hP hD hCc hk1 hFc hP1 hD1 [.inr 0, .inr 1, .inl 2, .inl 3, .inl 4, .inl 5] (by decide +kernel) rfl
  rcases hw with hw | hw
  · obtain ⟨hw, h1_0, h1_1⟩ := hw
    subst hw
    have l1k0_a0_7_0 : (1 : Int) ≤ a0_7_0.toInt := h1_0
    have u1k0_a0_7_0 : a0_7_0.toInt ≤ (9 : Int) := ba0_7_0_u
    refine lv_if_ne (tgt := 13) hx hb dX7_fitAt_4 (by decide) (fun _ => ?_) (fun c4 => absurd c4 (by decide +kernel))
    refine lv_aload_n hx hb dX7_fitAt_13 rfl (lv_at hl 0 rfl) ?_
    refine va_get (D := (dC, dI)) (ci := 7) (v := .ref a0_5) (C := RX7) (T := TX7) (N := 11) hx hb hts zi_X7_fitAt_7 hown hK hP 0 rfl rfl 5 (by decide) (hts (.fieldLink RX7 43 "WaxTurns" "laws" "LWaxTurns$Laws;") (zm_X7_fitAt_r1 (List.mem_of_getElem? (i := 0) rfl))) (fun _ h9 => h9) rfl dX7_fitAt_14 ?_
    refine lv_aload_n hx hb dX7_fitAt_17 rfl (lv_at hl 0 rfl) ?_
    refine va_get (D := (dC, dI)) (ci := 7) (v := .ref a0_7) (C := RX7) (T := TX7) (N := 11) hx hb hts zi_X7_fitAt_7 hown hK hP 0 rfl rfl 7 (by decide) (hts (.fieldLink RX7 57 "WaxTurns" "hall" "LWaxTurns$Hall;") (zm_X7_fitAt_r1 (List.mem_of_getElem? (i := 1) rfl))) (fun _ h9 => h9) rfl dX7_fitAt_18 ?_
    obtain ⟨hPc, hDc, hFc, hCc⟩ := zc_cut (wc := [(a0_5, .inr (2, [.int a0_5_0, a0_5g_1, a0_5g_2, .ref a0_5_3, a0_5g_4, .int a0_5_5, a0_5g_6])), (a0_7, .inr (0, [.int a0_7_0, .int a0_7_1, a0_7g_2, a0_7g_3, a0_7g_4, a0_7g_5, a0_7g_6, a0_7g_7, a0_7g_8, .int a0_7_9, a0_7g_10, a0_7g_11, .ref a0_7_12, .ref a0_7_13, a0_7g_14])), (a0_5_3, .inl (ka0_5_3, 729, .inl (fa0_5_3))), (a0_7_13, .inl (ka0_7_13, 6, .inl (fa0_7_13))), (a0_7_12, .inl (ka0_7_12, 6, .inl (fa0_7_12)))]) hP hD hS hA [2, 1, 3, 4, 5] (by decide +kernel) rfl
    have hKc := hK.sub (tys' := [(ka0_5_3, .int), (ka0_7_13, .int), (ka0_7_12, .int)]) [0, 1, 2] rfl
    refine va_callv (va_runV (As := [.ref a0_7]) (rest := []) ⟨hx, hb, hml, hown, hts⟩ (c_X2_list l dC dI H.size a0_5 a0_7 a0_5_0 a0_5g_1 a0_5g_2 a0_5g_4 a0_5g_6 a0_5_3 a0_5_5 a0_7_0 a0_7_1 a0_7g_2 a0_7g_3 a0_7g_4 a0_7g_5 a0_7g_6 a0_7g_7 a0_7g_8 a0_7g_10 a0_7g_11 a0_7g_14 a0_7_9 a0_7_12 a0_7_13 ka0_5_3 fa0_5_3 ka0_7_13 fa0_7_13 ka0_7_12 fa0_7_12 ba0_5_0_l ba0_5_0_u ba0_5_5_l ba0_5_5_u (Int.le_trans zq4 l1k0_a0_7_0) u1k0_a0_7_0 ba0_7_9_l ba0_7_9_u bfa0_5_3 bfa0_7_13) (cwV 1 hts gX7_fitAt_X2_list rfl rfl rfl zd_X2_list ⟨Nat.le_of_ble_eq_true rfl, Nat.le_of_ble_eq_true rfl⟩) ⟨ax_blind (fun _ _ _ _ hq => va_Nw.same rfl rfl (hq)), zr_2 hKc hPc (q0 := 0) rfl, ax_pre hPc hKc hDc (fun _ hW => va_Nw.warmM hW hE0)⟩ rfl rfl hl.1 rfl (lv_room (Nat.le_of_ble_eq_true rfl)) dX7_fitAt_21 ⟨Nat.le_of_ble_eq_true rfl, Nat.le_of_ble_eq_true rfl⟩) hS (fun q _ h => hFc q h) hFc (fun u t H locs ht hvm hw hB hz1 hk1 hS => ?_)
    obtain ⟨v21na0_0, v21na0_5, v21nfa0_3, bv21na0_0, bv21na0_5, bv21nfa0_3, hP1, hK1, hD1⟩ := hB
    rw [ht] at hP1
    obtain ⟨hP, hD⟩ := zc_back (w := [(a0, .inr (7, [a0g_0, a0g_1, a0g_2, a0g_3, a0g_4, .ref a0_5, a0g_6, .ref a0_7, .int a0_8, a0g_9, a0g_10])), (a0_7, .inr (0, [.int a0_7_0, .int a0_7_1, a0_7g_2, a0_7g_3, a0_7g_4, a0_7g_5, a0_7g_6, a0_7g_7, a0_7g_8, .int a0_7_9, a0_7g_10, a0_7g_11, .ref a0_7_12, .ref a0_7_13, a0_7g_14])), (a0_5, .inr (2, [.int v21na0_0, a0_5g_1, a0_5g_2, .ref a0_5_3, a0_5g_4, .int v21na0_5, a0_5g_6])), (a0_5_3, .inl (ka0_5_3, 729, .inl (v21nfa0_3))), (a0_7_13, .inl (ka0_7_13, 6, .inl (fa0_7_13))), (a0_7_12, .inl (ka0_7_12, 6, .inl (fa0_7_12)))]) hP hD hCc hk1 hFc hP1 hD1 [.inl 0, .inr 1, .inr 0, .inr 2, .inr 3, .inr 4] (by decide +kernel) rfl
    refine lv_iload_n hx hb dX7_fitAt_24 rfl (lv_at hl 1 rfl) ?_
    refine lv_iconst (v := 0) hx hb dX7_fitAt_25 zk_iconst_0 ?_
    refine lv_aload_n hx hb dX7_fitAt_26 rfl (lv_at hl 0 rfl) ?_
    refine va_get (D := (dC, dI)) (ci := 7) (v := .ref a0_5) (C := RX7) (T := TX7) (N := 11) hx hb hts zi_X7_fitAt_7 hown hK hP 0 rfl rfl 5 (by decide) (hts (.fieldLink RX7 43 "WaxTurns" "laws" "LWaxTurns$Laws;") (zm_X7_fitAt_r1 (List.mem_of_getElem? (i := 0) rfl))) (fun _ h9 => h9) rfl dX7_fitAt_27 ?_
    refine va_get (D := (dC, dI)) (ci := 2) (v := .int v21na0_0) (C := RX2) (T := TX2) (N := 7) hx hb hts zi_X7_fitAt_2 hown hK hP 2 rfl rfl 0 (by decide) (hts (.fieldLink RX7 263 "WaxTurns$Laws" "fitCount" "I") (zm_X7_fitAt_r1 (List.mem_of_getElem? (i := 2) rfl))) (fun _ h9 => h9) rfl dX7_fitAt_30 ?_
    refine lv_iconst (v := 1) hx hb dX7_fitAt_33 zk_iconst_1 ?_
    refine lv_isub hx hb dX7_fitAt_34 ?_
    refine lv_topi (fun x34 ex34 => ?_)
    have qx34 : x34.toInt = v21na0_0.toInt - (1 : Int32).toInt := ai_sub ex34 ⟨bv21na0_0.1, bv21na0_0.2⟩ ⟨zq1, zq0⟩ (by decide) (by decide)
    have bx34 : (-1 : Int) ≤ x34.toInt ∧ x34.toInt ≤ 728 := ⟨by rw [qx34]; exact Int.sub_le_sub bv21na0_0.1 zq0, by rw [qx34]; exact Int.sub_le_sub bv21na0_0.2 zq1⟩
    have wx34 : x34.toInt = v21na0_0.toInt - 1 := qx34
    obtain ⟨hPc, hDc, hFc, hCc⟩ := zc_cut (wc := []) hP hD hS hA [] (by decide +kernel) rfl
    have hKc := hK.sub (tys' := []) [] rfl
    refine va_calli (va_runS (As := [.int a1, .int 0, .int x34]) (rest := []) ⟨hx, hb, hml, hown, hts⟩ (c_X7_within l dC dI H.size a1 0 x34 ) (va_cwS 3 hts gX7_fitAt_X7_within rfl rfl rfl zd_X7_within.2 ⟨Nat.le_of_ble_eq_true rfl, Nat.le_of_ble_eq_true rfl⟩) ⟨ax_blind (fun _ _ _ _ _ => trivial), ax_pre hPc hKc hDc (fun _ _ => trivial)⟩ rfl rfl hl.1 rfl (lv_room (Nat.le_of_ble_eq_true rfl)) dX7_fitAt_35 ⟨Nat.le_of_ble_eq_true rfl, Nat.le_of_ble_eq_true rfl⟩) hS (fun q _ h => hFc q h) hFc (fun r35 u t H locs ht hvm hw hB hz1 hk1 hS => ?_)
    obtain ⟨hP1, hK1, hD1⟩ := hB
    rw [ht] at hP1
    obtain ⟨hP, hD⟩ := zc_back (w := [(a0, .inr (7, [a0g_0, a0g_1, a0g_2, a0g_3, a0g_4, .ref a0_5, a0g_6, .ref a0_7, .int a0_8, a0g_9, a0g_10])), (a0_7, .inr (0, [.int a0_7_0, .int a0_7_1, a0_7g_2, a0_7g_3, a0_7g_4, a0_7g_5, a0_7g_6, a0_7g_7, a0_7g_8, .int a0_7_9, a0_7g_10, a0_7g_11, .ref a0_7_12, .ref a0_7_13, a0_7g_14])), (a0_5, .inr (2, [.int v21na0_0, a0_5g_1, a0_5g_2, .ref a0_5_3, a0_5g_4, .int v21na0_5, a0_5g_6])), (a0_5_3, .inl (ka0_5_3, 729, .inl (v21nfa0_3))), (a0_7_13, .inl (ka0_7_13, 6, .inl (fa0_7_13))), (a0_7_12, .inl (ka0_7_12, 6, .inl (fa0_7_12)))]) hP hD hCc hk1 hFc hP1 hD1 [.inl 0, .inl 1, .inl 2, .inl 3, .inl 4, .inl 5] (by decide +kernel) rfl
    rcases hw with hw | hw
    · obtain ⟨hw, h35⟩ := hw
      subst hw
      have l35k0_a1 : (0 : Int) ≤ a1.toInt := Int.le_trans zq5 h35.1
      have u35k0_a1 : a1.toInt ≤ (728 : Int) := Int.le_trans h35.2 bx34.2
      have l35k0_x34 : (0 : Int) ≤ x34.toInt := Int.le_trans zq5 (Int.le_trans h35.1 h35.2)
      have l35k0_v21na0_0 : (1 : Int) ≤ v21na0_0.toInt := by have h1 := wx34; have h2 := l35k0_x34; omega
      refine lv_if_ne (tgt := 47) hx hb dX7_fitAt_38 (by decide) (fun _ => ?_) (fun c38 => absurd c38 (by decide +kernel))
      refine lv_aload_n hx hb dX7_fitAt_47 rfl (lv_at hl 0 rfl) ?_
      refine lv_aload_n hx hb dX7_fitAt_48 rfl (lv_at hl 0 rfl) ?_
      refine va_get (D := (dC, dI)) (ci := 7) (v := .ref a0_5) (C := RX7) (T := TX7) (N := 11) hx hb hts zi_X7_fitAt_7 hown hK hP 0 rfl rfl 5 (by decide) (hts (.fieldLink RX7 43 "WaxTurns" "laws" "LWaxTurns$Laws;") (zm_X7_fitAt_r1 (List.mem_of_getElem? (i := 0) rfl))) (fun _ h9 => h9) rfl dX7_fitAt_49 ?_
      refine va_get (D := (dC, dI)) (ci := 2) (v := .ref a0_5_3) (C := RX2) (T := TX2) (N := 7) hx hb hts zi_X7_fitAt_2 hown hK hP 2 rfl rfl 3 (by decide) (hts (.fieldLink RX7 266 "WaxTurns$Laws" "fitting" "[I") (zm_X7_fitAt_r1 (List.mem_of_getElem? (i := 3) rfl))) (fun _ h9 => h9) rfl dX7_fitAt_52 ?_
      refine lv_iload_n hx hb dX7_fitAt_55 rfl (lv_at hl 1 rfl) ?_
      refine va_iald hx hb hK hP 3 0 rfl rfl (ai_in l35k0_a1 u35k0_a1 (by decide) (by decide)) dX7_fitAt_56 ?_
      refine lv_topi (fun x56 ex56 => ?_)
      have bx56 : (0 : Int) ≤ x56.toInt ∧ x56.toInt ≤ 888 ∧ x56.toInt % 10 ≤ 8 := by rw [ex56]; exact bv21nfa0_3 _
      obtain ⟨hPc, hDc, hFc, hCc⟩ := zc_cut (wc := [(a0, .inr (7, [a0g_0, a0g_1, a0g_2, a0g_3, a0g_4, .ref a0_5, a0g_6, .ref a0_7, .int a0_8, a0g_9, a0g_10]))]) hP hD hS hA [0] (by decide +kernel) rfl
      have hKc := hK.sub (tys' := []) [] rfl
      refine va_calli (va_runV (As := [.int x56]) (rest := []) ⟨hx, hb, hml, hown, hts⟩ (c_X7_answered l dC dI H.size a0 x56 a0g_0 a0g_1 a0g_2 a0g_3 a0g_4 (.ref a0_5) a0g_6 (.ref a0_7) a0g_9 a0g_10 a0_8 ) (cwV 1 hts gX7_fitAt_X7_answered rfl rfl rfl zd_X7_answered ⟨Nat.le_of_ble_eq_true rfl, Nat.le_of_ble_eq_true rfl⟩) ⟨ax_blind (fun _ _ _ _ _ => trivial), zr_7 hKc hPc (q0 := 0) rfl, ax_pre hPc hKc hDc (fun _ _ => trivial)⟩ rfl rfl hl.1 rfl (lv_room (Nat.le_of_ble_eq_true rfl)) dX7_fitAt_57 ⟨Nat.le_of_ble_eq_true rfl, Nat.le_of_ble_eq_true rfl⟩) hS (fun q _ h => hFc q h) hFc (fun r57 u t H locs ht hvm hw hB hz1 hk1 hS => ?_)
      obtain ⟨v57na0_8, hP1, hK1, hD1⟩ := hB
      rw [ht] at hP1
      obtain ⟨hP, hD⟩ := zc_back (w := [(a0, .inr (7, [a0g_0, a0g_1, a0g_2, a0g_3, a0g_4, .ref a0_5, a0g_6, .ref a0_7, .int v57na0_8, a0g_9, a0g_10])), (a0_7, .inr (0, [.int a0_7_0, .int a0_7_1, a0_7g_2, a0_7g_3, a0_7g_4, a0_7g_5, a0_7g_6, a0_7g_7, a0_7g_8, .int a0_7_9, a0_7g_10, a0_7g_11, .ref a0_7_12, .ref a0_7_13, a0_7g_14])), (a0_5, .inr (2, [.int v21na0_0, a0_5g_1, a0_5g_2, .ref a0_5_3, a0_5g_4, .int v21na0_5, a0_5g_6])), (a0_5_3, .inl (ka0_5_3, 729, .inl (v21nfa0_3))), (a0_7_13, .inl (ka0_7_13, 6, .inl (fa0_7_13))), (a0_7_12, .inl (ka0_7_12, 6, .inl (fa0_7_12)))]) hP hD hCc hk1 hFc hP1 hD1 [.inr 0, .inl 1, .inl 2, .inl 3, .inl 4, .inl 5] (by decide +kernel) rfl
      have hw : r57 = x56 := hw
      have hw := hw.symm
      subst hw
      exact W.iret (v := x56) hx hb hr (fun t ht hW => ⟨⟨x56, (), rfl, ⟨(Int.le_trans zq69 bx56.1), bx56.2.1⟩, v57na0_8, v21na0_0, v21na0_5, v21nfa0_3, ⟨Int.le_trans (by decide) l35k0_v21na0_0, bv21na0_0.2⟩, ⟨bv21na0_5.1, bv21na0_5.2⟩, bv21nfa0_3, by rw [ht]; exact hP, va_K.moved hW.alike hK, hD⟩, hS.F ht⟩) hS.2.2 dX7_fitAt_60
    · obtain ⟨hw, h35⟩ := hw
      subst hw
      refine lv_if_ne (tgt := 47) hx hb dX7_fitAt_38 (by decide) (fun c38 => absurd (by decide +kernel) c38) (fun _ => ?_)
      refine lv_aload_n hx hb dX7_fitAt_41 rfl (lv_at hl 0 rfl) ?_
      refine lv_iconst (v := 1) hx hb dX7_fitAt_42 zk_iconst_1 ?_
      obtain ⟨hPc, hDc, hFc, hCc⟩ := zc_cut (wc := [(a0, .inr (7, [a0g_0, a0g_1, a0g_2, a0g_3, a0g_4, .ref a0_5, a0g_6, .ref a0_7, .int a0_8, a0g_9, a0g_10]))]) hP hD hS hA [0] (by decide +kernel) rfl
      have hKc := hK.sub (tys' := []) [] rfl
      refine va_calli (va_runV (As := [.int 1]) (rest := []) ⟨hx, hb, hml, hown, hts⟩ (c_X7_refused l dC dI H.size a0 1 a0g_0 a0g_1 a0g_2 a0g_3 a0g_4 (.ref a0_5) a0g_6 (.ref a0_7) a0g_9 a0g_10 a0_8 ) (cwV 1 hts gX7_fitAt_X7_refused rfl rfl rfl zd_X7_refused ⟨Nat.le_of_ble_eq_true rfl, Nat.le_of_ble_eq_true rfl⟩) ⟨ax_blind (fun _ _ _ _ _ => trivial), zr_7 hKc hPc (q0 := 0) rfl, ax_pre hPc hKc hDc (fun _ _ => trivial)⟩ rfl rfl hl.1 rfl (lv_room (Nat.le_of_ble_eq_true rfl)) dX7_fitAt_43 ⟨Nat.le_of_ble_eq_true rfl, Nat.le_of_ble_eq_true rfl⟩) hS (fun q _ h => hFc q h) hFc (fun r43 u t H locs ht hvm hw hB hz1 hk1 hS => ?_)
      obtain ⟨v43na0_8, hP1, hK1, hD1⟩ := hB
      rw [ht] at hP1
      obtain ⟨hP, hD⟩ := zc_back (w := [(a0, .inr (7, [a0g_0, a0g_1, a0g_2, a0g_3, a0g_4, .ref a0_5, a0g_6, .ref a0_7, .int v43na0_8, a0g_9, a0g_10])), (a0_7, .inr (0, [.int a0_7_0, .int a0_7_1, a0_7g_2, a0_7g_3, a0_7g_4, a0_7g_5, a0_7g_6, a0_7g_7, a0_7g_8, .int a0_7_9, a0_7g_10, a0_7g_11, .ref a0_7_12, .ref a0_7_13, a0_7g_14])), (a0_5, .inr (2, [.int v21na0_0, a0_5g_1, a0_5g_2, .ref a0_5_3, a0_5g_4, .int v21na0_5, a0_5g_6])), (a0_5_3, .inl (ka0_5_3, 729, .inl (v21nfa0_3))), (a0_7_13, .inl (ka0_7_13, 6, .inl (fa0_7_13))), (a0_7_12, .inl (ka0_7_12, 6, .inl (fa0_7_12)))]) hP hD hCc hk1 hFc hP1 hD1 [.inr 0, .inl 1, .inl 2, .inl 3, .inl 4, .inl 5] (by decide +kernel) rfl
      have hw : r43 = (-1) := hw
      have hw := hw.symm
      subst hw
      exact W.iret (v := (-1)) hx hb hr (fun t ht hW => ⟨⟨(-1), (), rfl, ⟨zq70, (Int.le_trans zq71 zq96)⟩, v43na0_8, v21na0_0, v21na0_5, v21nfa0_3, ⟨bv21na0_0.1, bv21na0_0.2⟩, ⟨bv21na0_5.1, bv21na0_5.2⟩, bv21nfa0_3, by rw [ht]; exact hP, va_K.moved hW.alike hK, hD⟩, hS.F ht⟩) hS.2.2 dX7_fitAt_46
  · obtain ⟨hw, h1_0, h1_1⟩ := hw
    subst hw
    have l1k1_a0_7_0 : (0 : Int) ≤ a0_7_0.toInt := ba0_7_0_l
    have u1k1_a0_7_0 : a0_7_0.toInt ≤ (0 : Int) := h1_1
    refine lv_if_ne (tgt := 13) hx hb dX7_fitAt_4 (by decide) (fun c4 => absurd (by decide +kernel) c4) (fun _ => ?_)
    refine lv_aload_n hx hb dX7_fitAt_7 rfl (lv_at hl 0 rfl) ?_
    refine lv_iconst (v := 1) hx hb dX7_fitAt_8 zk_iconst_1 ?_
    obtain ⟨hPc, hDc, hFc, hCc⟩ := zc_cut (wc := [(a0, .inr (7, [a0g_0, a0g_1, a0g_2, a0g_3, a0g_4, .ref a0_5, a0g_6, .ref a0_7, .int a0_8, a0g_9, a0g_10]))]) hP hD hS hA [0] (by decide +kernel) rfl
    have hKc := hK.sub (tys' := []) [] rfl
    refine va_calli (va_runV (As := [.int 1]) (rest := []) ⟨hx, hb, hml, hown, hts⟩ (c_X7_refused l dC dI H.size a0 1 a0g_0 a0g_1 a0g_2 a0g_3 a0g_4 (.ref a0_5) a0g_6 (.ref a0_7) a0g_9 a0g_10 a0_8 ) (cwV 1 hts gX7_fitAt_X7_refused rfl rfl rfl zd_X7_refused ⟨Nat.le_of_ble_eq_true rfl, Nat.le_of_ble_eq_true rfl⟩) ⟨ax_blind (fun _ _ _ _ _ => trivial), zr_7 hKc hPc (q0 := 0) rfl, ax_pre hPc hKc hDc (fun _ _ => trivial)⟩ rfl rfl hl.1 rfl (lv_room (Nat.le_of_ble_eq_true rfl)) dX7_fitAt_9 ⟨Nat.le_of_ble_eq_true rfl, Nat.le_of_ble_eq_true rfl⟩) hS (fun q _ h => hFc q h) hFc (fun r9 u t H locs ht hvm hw hB hz1 hk1 hS => ?_)
    obtain ⟨v9na0_8, hP1, hK1, hD1⟩ := hB
    rw [ht] at hP1
    obtain ⟨hP, hD⟩ := zc_back (w := [(a0, .inr (7, [a0g_0, a0g_1, a0g_2, a0g_3, a0g_4, .ref a0_5, a0g_6, .ref a0_7, .int v9na0_8, a0g_9, a0g_10])), (a0_7, .inr (0, [.int a0_7_0, .int a0_7_1, a0_7g_2, a0_7g_3, a0_7g_4, a0_7g_5, a0_7g_6, a0_7g_7, a0_7g_8, .int a0_7_9, a0_7g_10, a0_7g_11, .ref a0_7_12, .ref a0_7_13, a0_7g_14])), (a0_5, .inr (2, [.int a0_5_0, a0_5g_1, a0_5g_2, .ref a0_5_3, a0_5g_4, .int a0_5_5, a0_5g_6])), (a0_5_3, .inl (ka0_5_3, 729, .inl (fa0_5_3))), (a0_7_13, .inl (ka0_7_13, 6, .inl (fa0_7_13))), (a0_7_12, .inl (ka0_7_12, 6, .inl (fa0_7_12)))]) hP hD hCc hk1 hFc hP1 hD1 [.inr 0, .inl 1, .inl 2, .inl 3, .inl 4, .inl 5] (by decide +kernel) rfl
    have hw : r9 = (-1) := hw
    have hw := hw.symm
    subst hw
    exact W.iret (v := (-1)) hx hb hr (fun t ht hW => ⟨⟨(-1), (), rfl, ⟨zq70, (Int.le_trans zq71 zq96)⟩, v9na0_8, a0_5_0, a0_5_5, fa0_5_3, ⟨ba0_5_0_l, ba0_5_0_u⟩, ⟨ba0_5_5_l, ba0_5_5_u⟩, bfa0_5_3, by rw [ht]; exact hP, va_K.moved hW.alike hK, hD⟩, hS.F ht⟩) hS.2.2 dX7_fitAt_12

set_option maxHeartbeats 4000000 in
set_option maxRecDepth 100000 in
theorem c_X7_could (l : Launch) (dC : Nat → ClassId) (dI : Nat → Nat → Nat) (sz : Nat) (a0 : Nat) (a1 : Int32) (a0g_0 a0g_1 a0g_2 a0g_3 a0g_4 a0g_6 a0g_9 a0g_10 : Value) (a0_5 : Nat) (a0_7 : Nat) (a0_8 : Int32) (a0_7_0 : Int32) (a0_7_1 : Int32) (a0_7g_2 a0_7g_3 a0_7g_4 a0_7g_5 a0_7g_6 a0_7g_7 a0_7g_8 a0_7g_10 a0_7g_11 a0_7g_14 : Value) (a0_7_9 : Int32) (a0_7_12 : Nat) (a0_7_13 : Nat) (a0_5_0 : Int32) (a0_5g_1 a0_5g_2 a0_5g_4 a0_5g_6 : Value) (a0_5_3 : Nat) (a0_5_5 : Int32) (ka0_5_3 : ClassId) (fa0_5_3 : Nat → Int32) (ka0_7_13 : ClassId) (fa0_7_13 : Nat → Int32) (ka0_7_12 : ClassId) (fa0_7_12 : Nat → Int32) (ba0_7_0_l : (0 : Int) ≤ a0_7_0.toInt) (ba0_7_0_u : a0_7_0.toInt ≤ (9 : Int)) (ba0_7_9_l : (0 : Int) ≤ a0_7_9.toInt) (ba0_7_9_u : a0_7_9.toInt ≤ (6 : Int)) (ba0_5_0_l : (0 : Int) ≤ a0_5_0.toInt) (ba0_5_0_u : a0_5_0.toInt ≤ (729 : Int)) (ba0_5_5_l : (0 : Int) ≤ a0_5_5.toInt) (ba0_5_5_u : a0_5_5.toInt ≤ (1 : Int)) (bfa0_5_3 : (∀ k, (0 : Int) ≤ (fa0_5_3 k).toInt ∧ (fa0_5_3 k).toInt ≤ 888 ∧ (fa0_5_3 k).toInt % 10 ≤ 8)) (bfa0_7_13 : (∀ k, (0 : Int) ≤ (fa0_7_13 k).toInt ∧ (fa0_7_13 k).toInt ≤ 999)) : Met l yX7_could wsX7_could ({ frames := 4, cells := 0, slots := 0, locals := 98 }) (va_Pc [.ref a0, .int a1] (ax_C dC dI sz [(a0, .inr (7, [a0g_0, a0g_1, a0g_2, a0g_3, a0g_4, .ref a0_5, a0g_6, .ref a0_7, .int a0_8, a0g_9, a0g_10])), (a0_7, .inr (0, [.int a0_7_0, .int a0_7_1, a0_7g_2, a0_7g_3, a0_7g_4, a0_7g_5, a0_7g_6, a0_7g_7, a0_7g_8, .int a0_7_9, a0_7g_10, a0_7g_11, .ref a0_7_12, .ref a0_7_13, a0_7g_14])), (a0_5, .inr (2, [.int a0_5_0, a0_5g_1, a0_5g_2, .ref a0_5_3, a0_5g_4, .int a0_5_5, a0_5g_6])), (a0_5_3, .inl (ka0_5_3, 729, .inl (fa0_5_3))), (a0_7_13, .inl (ka0_7_13, 6, .inl (fa0_7_13))), (a0_7_12, .inl (ka0_7_12, 6, .inl (fa0_7_12)))] [(ka0_5_3, .int), (ka0_7_13, .int), (ka0_7_12, .int)] (fun U => va_Nw (.methodLinkNest RX0 72 yX7_laterTurn RX7) U))) (va_Qi (fun (r : Int32) (_ : Unit) => True) (fun (_ : Unit) (t : State) => ∃ na0_8 : Int32, ∃ na0_5_0 : Int32, ∃ na0_5_5 : Int32, ∃ nfa0_5_3 : Nat → Int32, ((0 : Int) ≤ na0_5_0.toInt ∧ na0_5_0.toInt ≤ 729) ∧ ((0 : Int) ≤ na0_5_5.toInt ∧ na0_5_5.toInt ≤ 1) ∧ (∀ k, (0 : Int) ≤ (nfa0_5_3 k).toInt ∧ (nfa0_5_3 k).toInt ≤ 888 ∧ (nfa0_5_3 k).toInt % 10 ≤ 8) ∧ ax_B dC dI (va_A [(a0, .inr (7, [a0g_0, a0g_1, a0g_2, a0g_3, a0g_4, .ref a0_5, a0g_6, .ref a0_7, .int a0_8, a0g_9, a0g_10])), (a0_7, .inr (0, [.int a0_7_0, .int a0_7_1, a0_7g_2, a0_7g_3, a0_7g_4, a0_7g_5, a0_7g_6, a0_7g_7, a0_7g_8, .int a0_7_9, a0_7g_10, a0_7g_11, .ref a0_7_12, .ref a0_7_13, a0_7g_14])), (a0_5, .inr (2, [.int a0_5_0, a0_5g_1, a0_5g_2, .ref a0_5_3, a0_5g_4, .int a0_5_5, a0_5g_6])), (a0_5_3, .inl (ka0_5_3, 729, .inl (fa0_5_3))), (a0_7_13, .inl (ka0_7_13, 6, .inl (fa0_7_13))), (a0_7_12, .inl (ka0_7_12, 6, .inl (fa0_7_12)))] sz) [(a0, .inr (7, [a0g_0, a0g_1, a0g_2, a0g_3, a0g_4, .ref a0_5, a0g_6, .ref a0_7, .int na0_8, a0g_9, a0g_10])), (a0_7, .inr (0, [.int a0_7_0, .int a0_7_1, a0_7g_2, a0_7g_3, a0_7g_4, a0_7g_5, a0_7g_6, a0_7g_7, a0_7g_8, .int a0_7_9, a0_7g_10, a0_7g_11, .ref a0_7_12, .ref a0_7_13, a0_7g_14])), (a0_5, .inr (2, [.int na0_5_0, a0_5g_1, a0_5g_2, .ref a0_5_3, a0_5g_4, .int na0_5_5, a0_5g_6])), (a0_5_3, .inl (ka0_5_3, 729, .inl (nfa0_5_3))), (a0_7_13, .inl (ka0_7_13, 6, .inl (fa0_7_13))), (a0_7_12, .inl (ka0_7_12, 6, .inl (fa0_7_12)))] [(ka0_5_3, .int), (ka0_7_13, .int), (ka0_7_12, .int)] t) (va_A [(a0, .inr (7, [a0g_0, a0g_1, a0g_2, a0g_3, a0g_4, .ref a0_5, a0g_6, .ref a0_7, .int a0_8, a0g_9, a0g_10])), (a0_7, .inr (0, [.int a0_7_0, .int a0_7_1, a0_7g_2, a0_7g_3, a0_7g_4, a0_7g_5, a0_7g_6, a0_7g_7, a0_7g_8, .int a0_7_9, a0_7g_10, a0_7g_11, .ref a0_7_12, .ref a0_7_13, a0_7g_14])), (a0_5, .inr (2, [.int a0_5_0, a0_5g_1, a0_5g_2, .ref a0_5_3, a0_5g_4, .int a0_5_5, a0_5g_6])), (a0_5_3, .inl (ka0_5_3, 729, .inl (fa0_5_3))), (a0_7_13, .inl (ka0_7_13, 6, .inl (fa0_7_13))), (a0_7_12, .inl (ka0_7_12, 6, .inl (fa0_7_12)))] sz)) 0 0 (va_A [(a0, .inr (7, [a0g_0, a0g_1, a0g_2, a0g_3, a0g_4, .ref a0_5, a0g_6, .ref a0_7, .int a0_8, a0g_9, a0g_10])), (a0_7, .inr (0, [.int a0_7_0, .int a0_7_1, a0_7g_2, a0_7g_3, a0_7g_4, a0_7g_5, a0_7g_6, a0_7g_7, a0_7g_8, .int a0_7_9, a0_7g_10, a0_7g_11, .ref a0_7_12, .ref a0_7_13, a0_7g_14])), (a0_5, .inr (2, [.int a0_5_0, a0_5g_1, a0_5g_2, .ref a0_5_3, a0_5g_4, .int a0_5_5, a0_5g_6])), (a0_5_3, .inl (ka0_5_3, 729, .inl (fa0_5_3))), (a0_7_13, .inl (ka0_7_13, 6, .inl (fa0_7_13))), (a0_7_12, .inl (ka0_7_12, 6, .inl (fa0_7_12)))] sz) := by
  refine Met.ofW (cc := cX7_could) (maxL := 5) (ret := (some .int)) (by decide) rfl ?_
  intro p e s m args below meth c s₁ B hml hv
  obtain ⟨rfl, hsz, hP, hK, hD0, hE⟩ := hv
  have hx := B.exec
  have hb := B.bytes
  have hr := B.returns
  have hts := atoms_spec (ws := wsX7_could) B.pre
  have hown : s.vm.findClass RX7 = some m.cls := findClass_of_methodNamed B.named
  have hlocks := B.notSynchronized
  subst hsz
  have hD := hD0.self (sz := s.heap.size)
  generalize hAe : va_A [(a0, .inr (7, [a0g_0, a0g_1, a0g_2, a0g_3, a0g_4, .ref a0_5, a0g_6, .ref a0_7, .int a0_8, a0g_9, a0g_10])), (a0_7, .inr (0, [.int a0_7_0, .int a0_7_1, a0_7g_2, a0_7g_3, a0_7g_4, a0_7g_5, a0_7g_6, a0_7g_7, a0_7g_8, .int a0_7_9, a0_7g_10, a0_7g_11, .ref a0_7_12, .ref a0_7_13, a0_7g_14])), (a0_5, .inr (2, [.int a0_5_0, a0_5g_1, a0_5g_2, .ref a0_5_3, a0_5g_4, .int a0_5_5, a0_5g_6])), (a0_5_3, .inl (ka0_5_3, 729, .inl (fa0_5_3))), (a0_7_13, .inl (ka0_7_13, 6, .inl (fa0_7_13))), (a0_7_12, .inl (ka0_7_12, 6, .inl (fa0_7_12)))] s.heap.size = A at hD ⊢
  have hA : ∀ q : Nat, s.heap.size ≤ q → A q := fun q h => by rw [← hAe]; exact Or.inr h
  have hS : va_S A s.heap s.heap [] := va_S.rf
  have hP : va_P (dC, dI) vwCl [(a0, .inr (7, [a0g_0, a0g_1, a0g_2, a0g_3, a0g_4, .ref a0_5, a0g_6, .ref a0_7, .int a0_8, a0g_9, a0g_10])), (a0_7, .inr (0, [.int a0_7_0, .int a0_7_1, a0_7g_2, a0_7g_3, a0_7g_4, a0_7g_5, a0_7g_6, a0_7g_7, a0_7g_8, .int a0_7_9, a0_7g_10, a0_7g_11, .ref a0_7_12, .ref a0_7_13, a0_7g_14])), (a0_5, .inr (2, [.int a0_5_0, a0_5g_1, a0_5g_2, .ref a0_5_3, a0_5g_4, .int a0_5_5, a0_5g_6])), (a0_5_3, .inl (ka0_5_3, 729, .inl (fa0_5_3))), (a0_7_13, .inl (ka0_7_13, 6, .inl (fa0_7_13))), (a0_7_12, .inl (ka0_7_12, 6, .inl (fa0_7_12)))] s.heap := hP
  have hE0 := hE
  have hl := lv_entry ([.ref a0, .int a1]) (n := 5) (Nat.le_of_ble_eq_true rfl)
  rw [lg_entry_eq]
  generalize (lg_sl ([.ref a0, .int a1]) ++ List.replicate (5 - (lg_sl ([.ref a0, .int a1])).length) Slot.unset).toArray = ls at hl ⊢
  have hl : lv_has ls 5 [(0, .ref a0), (1, .int a1)] := hl
  refine ai_open (fun K hK0 => ?_)
  refine (hK0 _ _ _).mpr ?_
  refine lv_aload_n hx hb dX7_could_0 rfl (lv_at hl 0 rfl) ?_
  refine lv_iload_n hx hb dX7_could_1 rfl (lv_at hl 1 rfl) ?_
  refine lv_iconst (v := 0) hx hb dX7_could_2 zk_iconst_0 ?_
  refine lv_sipush (v := 999) hx hb dX7_could_3 zk_sipush_999 ?_
  obtain ⟨hPc, hDc, hFc, hCc⟩ := zc_cut (wc := [(a0, .inr (7, [a0g_0, a0g_1, a0g_2, a0g_3, a0g_4, .ref a0_5, a0g_6, .ref a0_7, .int a0_8, a0g_9, a0g_10])), (a0_7, .inr (0, [.int a0_7_0, .int a0_7_1, a0_7g_2, a0_7g_3, a0_7g_4, a0_7g_5, a0_7g_6, a0_7g_7, a0_7g_8, .int a0_7_9, a0_7g_10, a0_7g_11, .ref a0_7_12, .ref a0_7_13, a0_7g_14]))]) hP hD hS hA [0, 1] (by decide +kernel) rfl
  have hKc := hK.sub (tys' := []) [] rfl
  refine va_calli (va_runV (As := [.int a1, .int 0, .int 999]) (rest := []) ⟨hx, hb, hml, hown, hts⟩ (c_X7_troubleOfNumber l dC dI s.heap.size a0 a1 0 999 a0g_0 a0g_1 a0g_2 a0g_3 a0g_4 (.ref a0_5) a0g_6 (.int a0_8) a0g_9 a0g_10 a0_7 a0_7_0 (.int a0_7_1) a0_7g_2 a0_7g_3 a0_7g_4 a0_7g_5 a0_7g_6 a0_7g_7 a0_7g_8 (.int a0_7_9) a0_7g_10 a0_7g_11 (.ref a0_7_12) (.ref a0_7_13) a0_7g_14 ba0_7_0_l ba0_7_0_u) (cwV 3 hts gX7_could_X7_troubleOfNumber rfl rfl rfl zd_X7_troubleOfNumber ⟨Nat.le_of_ble_eq_true rfl, Nat.le_of_ble_eq_true rfl⟩) ⟨ax_blind (fun _ _ _ _ _ => trivial), zr_7 hKc hPc (q0 := 0) rfl, ax_pre hPc hKc hDc (fun _ _ => trivial)⟩ rfl rfl hl.1 rfl (lv_room (Nat.le_of_ble_eq_true rfl)) dX7_could_6 ⟨Nat.le_of_ble_eq_true rfl, Nat.le_of_ble_eq_true rfl⟩) hS (fun q _ h => hFc q h) hFc (fun r6 u t H locs ht hvm hw hB hz1 hk1 hS => ?_)
  obtain ⟨hP1, hK1, hD1⟩ := hB
  rw [ht] at hP1
  obtain ⟨hP, hD⟩ := zc_back (w := [(a0, .inr (7, [a0g_0, a0g_1, a0g_2, a0g_3, a0g_4, .ref a0_5, a0g_6, .ref a0_7, .int a0_8, a0g_9, a0g_10])), (a0_7, .inr (0, [.int a0_7_0, .int a0_7_1, a0_7g_2, a0_7g_3, a0_7g_4, a0_7g_5, a0_7g_6, a0_7g_7, a0_7g_8, .int a0_7_9, a0_7g_10, a0_7g_11, .ref a0_7_12, .ref a0_7_13, a0_7g_14])), (a0_5, .inr (2, [.int a0_5_0, a0_5g_1, a0_5g_2, .ref a0_5_3, a0_5g_4, .int a0_5_5, a0_5g_6])), (a0_5_3, .inl (ka0_5_3, 729, .inl (fa0_5_3))), (a0_7_13, .inl (ka0_7_13, 6, .inl (fa0_7_13))), (a0_7_12, .inl (ka0_7_12, 6, .inl (fa0_7_12)))]) hP hD hCc hk1 hFc hP1 hD1 [.inr 0, .inr 1, .inl 2, .inl 3, .inl 4, .inl 5] (by decide +kernel) rfl
  rcases hw with hw | hw | hw
  · obtain ⟨hw, fh6, h6⟩ := hw
    subst hw
    have l6k0_a0_7_0 : (1 : Int) ≤ a0_7_0.toInt := fh6
    have l6k0_a1 : (0 : Int) ≤ a1.toInt := Int.le_trans zq5 h6.1
    have u6k0_a1 : a1.toInt ≤ (999 : Int) := Int.le_trans h6.2 zq79
    refine lv_istore_n (lv' := [(2, .int 0), (0, .ref a0), (1, .int a1)]) hx hb dX7_could_9 rfl hl (by decide) rfl (fun ls hl => ?_)
    refine lv_iload_n hx hb dX7_could_10 rfl (lv_at hl 0 rfl) ?_
    refine lv_if_eq (tgt := 20) hx hb dX7_could_11 (by decide) (fun _ => ?_) (fun c11 => absurd (by decide +kernel) c11)
    refine lv_aload_n hx hb dX7_could_20 rfl (lv_at hl 1 rfl) ?_
    refine va_get (D := (dC, dI)) (ci := 7) (v := .ref a0_5) (C := RX7) (T := TX7) (N := 11) hx hb hts zi_X7_could_7 hown hK hP 0 rfl rfl 5 (by decide) (hts (.fieldLink RX7 43 "WaxTurns" "laws" "LWaxTurns$Laws;") (zm_X7_could_r1 (List.mem_of_getElem? (i := 0) rfl))) (fun _ h9 => h9) rfl dX7_could_21 ?_
    refine lv_aload_n hx hb dX7_could_24 rfl (lv_at hl 1 rfl) ?_
    refine va_get (D := (dC, dI)) (ci := 7) (v := .ref a0_7) (C := RX7) (T := TX7) (N := 11) hx hb hts zi_X7_could_7 hown hK hP 0 rfl rfl 7 (by decide) (hts (.fieldLink RX7 57 "WaxTurns" "hall" "LWaxTurns$Hall;") (zm_X7_could_r1 (List.mem_of_getElem? (i := 1) rfl))) (fun _ h9 => h9) rfl dX7_could_25 ?_
    obtain ⟨hPc, hDc, hFc, hCc⟩ := zc_cut (wc := [(a0_5, .inr (2, [.int a0_5_0, a0_5g_1, a0_5g_2, .ref a0_5_3, a0_5g_4, .int a0_5_5, a0_5g_6])), (a0_7, .inr (0, [.int a0_7_0, .int a0_7_1, a0_7g_2, a0_7g_3, a0_7g_4, a0_7g_5, a0_7g_6, a0_7g_7, a0_7g_8, .int a0_7_9, a0_7g_10, a0_7g_11, .ref a0_7_12, .ref a0_7_13, a0_7g_14])), (a0_5_3, .inl (ka0_5_3, 729, .inl (fa0_5_3))), (a0_7_13, .inl (ka0_7_13, 6, .inl (fa0_7_13))), (a0_7_12, .inl (ka0_7_12, 6, .inl (fa0_7_12)))]) hP hD hS hA [2, 1, 3, 4, 5] (by decide +kernel) rfl
    have hKc := hK.sub (tys' := [(ka0_5_3, .int), (ka0_7_13, .int), (ka0_7_12, .int)]) [0, 1, 2] rfl
    refine va_callv (va_runV (As := [.ref a0_7]) (rest := []) ⟨hx, hb, hml, hown, hts⟩ (c_X2_list l dC dI H.size a0_5 a0_7 a0_5_0 a0_5g_1 a0_5g_2 a0_5g_4 a0_5g_6 a0_5_3 a0_5_5 a0_7_0 a0_7_1 a0_7g_2 a0_7g_3 a0_7g_4 a0_7g_5 a0_7g_6 a0_7g_7 a0_7g_8 a0_7g_10 a0_7g_11 a0_7g_14 a0_7_9 a0_7_12 a0_7_13 ka0_5_3 fa0_5_3 ka0_7_13 fa0_7_13 ka0_7_12 fa0_7_12 ba0_5_0_l ba0_5_0_u ba0_5_5_l ba0_5_5_u (Int.le_trans zq4 l6k0_a0_7_0) ba0_7_0_u ba0_7_9_l ba0_7_9_u bfa0_5_3 bfa0_7_13) (cwV 1 hts gX7_could_X2_list rfl rfl rfl zd_X2_list ⟨Nat.le_of_ble_eq_true rfl, Nat.le_of_ble_eq_true rfl⟩) ⟨ax_blind (fun _ _ _ _ hq => va_Nw.same rfl rfl (hq)), zr_2 hKc hPc (q0 := 0) rfl, ax_pre hPc hKc hDc (fun _ hW => va_Nw.warmM hW hE0)⟩ rfl rfl hl.1 rfl (lv_room (Nat.le_of_ble_eq_true rfl)) dX7_could_28 ⟨Nat.le_of_ble_eq_true rfl, Nat.le_of_ble_eq_true rfl⟩) hS (fun q _ h => hFc q h) hFc (fun u t H locs ht hvm hw hB hz1 hk1 hS => ?_)
    obtain ⟨v28na0_0, v28na0_5, v28nfa0_3, bv28na0_0, bv28na0_5, bv28nfa0_3, hP1, hK1, hD1⟩ := hB
    rw [ht] at hP1
    obtain ⟨hP, hD⟩ := zc_back (w := [(a0, .inr (7, [a0g_0, a0g_1, a0g_2, a0g_3, a0g_4, .ref a0_5, a0g_6, .ref a0_7, .int a0_8, a0g_9, a0g_10])), (a0_7, .inr (0, [.int a0_7_0, .int a0_7_1, a0_7g_2, a0_7g_3, a0_7g_4, a0_7g_5, a0_7g_6, a0_7g_7, a0_7g_8, .int a0_7_9, a0_7g_10, a0_7g_11, .ref a0_7_12, .ref a0_7_13, a0_7g_14])), (a0_5, .inr (2, [.int v28na0_0, a0_5g_1, a0_5g_2, .ref a0_5_3, a0_5g_4, .int v28na0_5, a0_5g_6])), (a0_5_3, .inl (ka0_5_3, 729, .inl (v28nfa0_3))), (a0_7_13, .inl (ka0_7_13, 6, .inl (fa0_7_13))), (a0_7_12, .inl (ka0_7_12, 6, .inl (fa0_7_12)))]) hP hD hCc hk1 hFc hP1 hD1 [.inl 0, .inr 1, .inr 0, .inr 2, .inr 3, .inr 4] (by decide +kernel) rfl
    refine lv_iconst (v := 0) hx hb dX7_could_31 zk_iconst_0 ?_
    refine lv_istore_n (lv' := [(3, .int 0), (2, .int 0), (0, .ref a0), (1, .int a1)]) hx hb dX7_could_32 rfl hl (by decide) rfl (fun ls hl => ?_)
    refine lv_iconst (v := 0) hx hb dX7_could_33 zk_iconst_0 ?_
    refine lv_istore (lv' := [(4, .int 0), (3, .int 0), (2, .int 0), (0, .ref a0), (1, .int a1)]) hx hb dX7_could_34 hl (by decide) rfl (fun ls hl => ?_)
    have J36 : ∀ (n : Nat) (j36l4 : Int32) (j36l3 : Int32) (H : Heap) (locs : List Loc) (ls : Array Slot), (730 : Int) - j36l4.toInt ≤ (n : Int) → (0 : Int) ≤ j36l4.toInt → j36l4.toInt ≤ (729 : Int) → va_P (dC, dI) vwCl [(a0, .inr (7, [a0g_0, a0g_1, a0g_2, a0g_3, a0g_4, .ref a0_5, a0g_6, .ref a0_7, .int a0_8, a0g_9, a0g_10])), (a0_7, .inr (0, [.int a0_7_0, .int a0_7_1, a0_7g_2, a0_7g_3, a0_7g_4, a0_7g_5, a0_7g_6, a0_7g_7, a0_7g_8, .int a0_7_9, a0_7g_10, a0_7g_11, .ref a0_7_12, .ref a0_7_13, a0_7g_14])), (a0_5, .inr (2, [.int v28na0_0, a0_5g_1, a0_5g_2, .ref a0_5_3, a0_5g_4, .int v28na0_5, a0_5g_6])), (a0_5_3, .inl (ka0_5_3, 729, .inl (v28nfa0_3))), (a0_7_13, .inl (ka0_7_13, 6, .inl (fa0_7_13))), (a0_7_12, .inl (ka0_7_12, 6, .inl (fa0_7_12)))] H → va_D A [(a0, .inr (7, [a0g_0, a0g_1, a0g_2, a0g_3, a0g_4, .ref a0_5, a0g_6, .ref a0_7, .int a0_8, a0g_9, a0g_10])), (a0_7, .inr (0, [.int a0_7_0, .int a0_7_1, a0_7g_2, a0_7g_3, a0_7g_4, a0_7g_5, a0_7g_6, a0_7g_7, a0_7g_8, .int a0_7_9, a0_7g_10, a0_7g_11, .ref a0_7_12, .ref a0_7_13, a0_7g_14])), (a0_5, .inr (2, [.int v28na0_0, a0_5g_1, a0_5g_2, .ref a0_5_3, a0_5g_4, .int v28na0_5, a0_5g_6])), (a0_5_3, .inl (ka0_5_3, 729, .inl (v28nfa0_3))), (a0_7_13, .inl (ka0_7_13, 6, .inl (fa0_7_13))), (a0_7_12, .inl (ka0_7_12, 6, .inl (fa0_7_12)))] → va_S A s.heap H locs → lv_has ls 5 [(0, .ref a0), (1, .int a1), (3, .int j36l3), (4, .int j36l4)] → K H locs (F0 m 36 ls []) := by
      intro n
      induction n with
      | zero =>
        intro j36l4 j36l3 H locs ls hm bj36l4_l bj36l4_u hP hD hS hl
        have h8 := ai_min j36l4
        have h9 := ai_max j36l4
        exact absurd hm (by omega)
      | succ n ih36 =>
        intro j36l4 j36l3 H locs ls hm bj36l4_l bj36l4_u hP hD hS hl
        refine (hK0 _ _ _).mpr ?_
        have hm36 := hm
        refine lv_iload hx hb dX7_could_36 (lv_at hl 3 rfl) ?_
        refine lv_aload_n hx hb dX7_could_38 rfl (lv_at hl 0 rfl) ?_
        refine va_get (D := (dC, dI)) (ci := 7) (v := .ref a0_5) (C := RX7) (T := TX7) (N := 11) hx hb hts zi_X7_could_7 hown hK hP 0 rfl rfl 5 (by decide) (hts (.fieldLink RX7 43 "WaxTurns" "laws" "LWaxTurns$Laws;") (zm_X7_could_r1 (List.mem_of_getElem? (i := 0) rfl))) (fun _ h9 => h9) rfl dX7_could_39 ?_
        refine va_get (D := (dC, dI)) (ci := 2) (v := .int v28na0_0) (C := RX2) (T := TX2) (N := 7) hx hb hts zi_X7_could_2 hown hK hP 2 rfl rfl 0 (by decide) (hts (.fieldLink RX7 263 "WaxTurns$Laws" "fitCount" "I") (zm_X7_could_r1 (List.mem_of_getElem? (i := 2) rfl))) (fun _ h9 => h9) rfl dX7_could_42 ?_
        refine lv_icmp_ge (tgt := 77) hx hb dX7_could_45 (by decide) (fun c45 => ?_) (fun c45 => ?_)
        · have gc45 := ai_le c45
          have u45t_v28na0_0 : v28na0_0.toInt ≤ (729 : Int) := bv28na0_0.2
          have l45t_j36l4 : (0 : Int) ≤ j36l4.toInt := bj36l4_l
          refine lv_aload_n hx hb dX7_could_77 rfl (lv_at hl 0 rfl) ?_
          refine lv_iload_n hx hb dX7_could_78 rfl (lv_at hl 2 rfl) ?_
          obtain ⟨hPc, hDc, hFc, hCc⟩ := zc_cut (wc := [(a0, .inr (7, [a0g_0, a0g_1, a0g_2, a0g_3, a0g_4, .ref a0_5, a0g_6, .ref a0_7, .int a0_8, a0g_9, a0g_10]))]) hP hD hS hA [0] (by decide +kernel) rfl
          have hKc := hK.sub (tys' := []) [] rfl
          refine va_calli (va_runV (As := [.int j36l3]) (rest := []) ⟨hx, hb, hml, hown, hts⟩ (c_X7_answered l dC dI H.size a0 j36l3 a0g_0 a0g_1 a0g_2 a0g_3 a0g_4 (.ref a0_5) a0g_6 (.ref a0_7) a0g_9 a0g_10 a0_8 ) (cwV 1 hts gX7_could_X7_answered rfl rfl rfl zd_X7_answered ⟨Nat.le_of_ble_eq_true rfl, Nat.le_of_ble_eq_true rfl⟩) ⟨ax_blind (fun _ _ _ _ _ => trivial), zr_7 hKc hPc (q0 := 0) rfl, ax_pre hPc hKc hDc (fun _ _ => trivial)⟩ rfl rfl hl.1 rfl (lv_room (Nat.le_of_ble_eq_true rfl)) dX7_could_79 ⟨Nat.le_of_ble_eq_true rfl, Nat.le_of_ble_eq_true rfl⟩) hS (fun q _ h => hFc q h) hFc (fun r79 u t H locs ht hvm hw hB hz1 hk1 hS => ?_)
          obtain ⟨v79na0_8, hP1, hK1, hD1⟩ := hB
          rw [ht] at hP1
          obtain ⟨hP, hD⟩ := zc_back (w := [(a0, .inr (7, [a0g_0, a0g_1, a0g_2, a0g_3, a0g_4, .ref a0_5, a0g_6, .ref a0_7, .int v79na0_8, a0g_9, a0g_10])), (a0_7, .inr (0, [.int a0_7_0, .int a0_7_1, a0_7g_2, a0_7g_3, a0_7g_4, a0_7g_5, a0_7g_6, a0_7g_7, a0_7g_8, .int a0_7_9, a0_7g_10, a0_7g_11, .ref a0_7_12, .ref a0_7_13, a0_7g_14])), (a0_5, .inr (2, [.int v28na0_0, a0_5g_1, a0_5g_2, .ref a0_5_3, a0_5g_4, .int v28na0_5, a0_5g_6])), (a0_5_3, .inl (ka0_5_3, 729, .inl (v28nfa0_3))), (a0_7_13, .inl (ka0_7_13, 6, .inl (fa0_7_13))), (a0_7_12, .inl (ka0_7_12, 6, .inl (fa0_7_12)))]) hP hD hCc hk1 hFc hP1 hD1 [.inr 0, .inl 1, .inl 2, .inl 3, .inl 4, .inl 5] (by decide +kernel) rfl
          have hw : r79 = j36l3 := hw
          have hw := hw.symm
          subst hw
          exact W.iret (v := j36l3) hx hb hr (fun t ht hW => ⟨⟨j36l3, (), rfl, trivial, v79na0_8, v28na0_0, v28na0_5, v28nfa0_3, ⟨bv28na0_0.1, u45t_v28na0_0⟩, ⟨bv28na0_5.1, bv28na0_5.2⟩, bv28nfa0_3, by rw [ht]; exact hP, va_K.moved hW.alike hK, hD⟩, hS.F ht⟩) hS.2.2 dX7_could_82
        · have gc45 := ai_nle c45
          have u45f_j36l4 : j36l4.toInt ≤ (728 : Int) := ai_lthi gc45 bv28na0_0.2
          have l45f_v28na0_0 : (1 : Int) ≤ v28na0_0.toInt := ai_ltlo gc45 bj36l4_l
          refine lv_iload_n hx hb dX7_could_48 rfl (lv_at hl 2 rfl) ?_
          refine lv_iconst (v := 1) hx hb dX7_could_49 zk_iconst_1 ?_
          refine lv_aload_n hx hb dX7_could_50 rfl (lv_at hl 0 rfl) ?_
          refine va_get (D := (dC, dI)) (ci := 7) (v := .ref a0_7) (C := RX7) (T := TX7) (N := 11) hx hb hts zi_X7_could_7 hown hK hP 0 rfl rfl 7 (by decide) (hts (.fieldLink RX7 57 "WaxTurns" "hall" "LWaxTurns$Hall;") (zm_X7_could_r1 (List.mem_of_getElem? (i := 1) rfl))) (fun _ h9 => h9) rfl dX7_could_51 ?_
          refine lv_aload_n hx hb dX7_could_54 rfl (lv_at hl 0 rfl) ?_
          refine va_get (D := (dC, dI)) (ci := 7) (v := .ref a0_5) (C := RX7) (T := TX7) (N := 11) hx hb hts zi_X7_could_7 hown hK hP 0 rfl rfl 5 (by decide) (hts (.fieldLink RX7 43 "WaxTurns" "laws" "LWaxTurns$Laws;") (zm_X7_could_r1 (List.mem_of_getElem? (i := 0) rfl))) (fun _ h9 => h9) rfl dX7_could_55 ?_
          refine va_get (D := (dC, dI)) (ci := 2) (v := .ref a0_5_3) (C := RX2) (T := TX2) (N := 7) hx hb hts zi_X7_could_2 hown hK hP 2 rfl rfl 3 (by decide) (hts (.fieldLink RX7 266 "WaxTurns$Laws" "fitting" "[I") (zm_X7_could_r1 (List.mem_of_getElem? (i := 3) rfl))) (fun _ h9 => h9) rfl dX7_could_58 ?_
          refine lv_iload hx hb dX7_could_61 (lv_at hl 3 rfl) ?_
          refine va_iald hx hb hK hP 3 0 rfl rfl (ai_in bj36l4_l u45f_j36l4 (by decide) (by decide)) dX7_could_63 ?_
          refine lv_topi (fun x63 ex63 => ?_)
          have bx63 : (0 : Int) ≤ x63.toInt ∧ x63.toInt ≤ 888 ∧ x63.toInt % 10 ≤ 8 := by rw [ex63]; exact bv28nfa0_3 _
          refine lv_iload_n hx hb dX7_could_64 rfl (lv_at hl 1 rfl) ?_
          obtain ⟨hPc, hDc, hFc, hCc⟩ := zc_cut (wc := [(a0_7, .inr (0, [.int a0_7_0, .int a0_7_1, a0_7g_2, a0_7g_3, a0_7g_4, a0_7g_5, a0_7g_6, a0_7g_7, a0_7g_8, .int a0_7_9, a0_7g_10, a0_7g_11, .ref a0_7_12, .ref a0_7_13, a0_7g_14]))]) hP hD hS hA [1] (by decide +kernel) rfl
          have hKc := hK.sub (tys' := []) [] rfl
          refine va_calli (va_runV (As := [.int x63, .int a1]) (rest := [.int 1, .int j36l3]) ⟨hx, hb, hml, hown, hts⟩ (c_X0_aliveByLaw l dC dI H.size a0_7 x63 a1 a0_7_0 a0_7_1 a0_7g_2 a0_7g_3 a0_7g_4 a0_7g_5 a0_7g_6 a0_7g_7 a0_7g_8 (.int a0_7_9) a0_7g_10 a0_7g_11 (.ref a0_7_12) (.ref a0_7_13) a0_7g_14 bx63.1 (Int.le_trans bx63.2.1 zq31) l6k0_a1 u6k0_a1 (Int.le_trans zq4 l6k0_a0_7_0) ba0_7_0_u) (cwV 2 hts gX7_could_X0_aliveByLaw rfl rfl rfl zd_X0_aliveByLaw ⟨Nat.le_of_ble_eq_true rfl, Nat.le_of_ble_eq_true rfl⟩) ⟨ax_blind (fun _ _ _ _ hq => va_Nw.same rfl rfl (hq)), zr_0 hKc hPc (q0 := 0) rfl, ax_pre hPc hKc hDc (fun _ hW => va_Nw.warmM hW hE0)⟩ rfl rfl hl.1 rfl (lv_room (Nat.le_of_ble_eq_true rfl)) dX7_could_65 ⟨Nat.le_of_ble_eq_true rfl, Nat.le_of_ble_eq_true rfl⟩) hS (fun q _ h => hFc q h) hFc (fun r65 u t H locs ht hvm hw hB hz1 hk1 hS => ?_)
          obtain ⟨hP1, hK1, hD1⟩ := hB
          rw [ht] at hP1
          obtain ⟨hP, hD⟩ := zc_back (w := [(a0, .inr (7, [a0g_0, a0g_1, a0g_2, a0g_3, a0g_4, .ref a0_5, a0g_6, .ref a0_7, .int a0_8, a0g_9, a0g_10])), (a0_7, .inr (0, [.int a0_7_0, .int a0_7_1, a0_7g_2, a0_7g_3, a0_7g_4, a0_7g_5, a0_7g_6, a0_7g_7, a0_7g_8, .int a0_7_9, a0_7g_10, a0_7g_11, .ref a0_7_12, .ref a0_7_13, a0_7g_14])), (a0_5, .inr (2, [.int v28na0_0, a0_5g_1, a0_5g_2, .ref a0_5_3, a0_5g_4, .int v28na0_5, a0_5g_6])), (a0_5_3, .inl (ka0_5_3, 729, .inl (v28nfa0_3))), (a0_7_13, .inl (ka0_7_13, 6, .inl (fa0_7_13))), (a0_7_12, .inl (ka0_7_12, 6, .inl (fa0_7_12)))]) hP hD hCc hk1 hFc hP1 hD1 [.inl 0, .inr 0, .inl 2, .inl 3, .inl 4, .inl 5] (by decide +kernel) rfl
          have hw : (0 : Int) ≤ r65.toInt ∧ r65.toInt ≤ (9 : Int) := hw
          obtain ⟨h65_0, h65_1⟩ := hw
          refine lv_ishl hx hb dX7_could_68 ?_
          refine lv_topi (fun x68 ex68 => ?_)
          refine lv_ior hx hb dX7_could_69 ?_
          refine lv_topi (fun x69 ex69 => ?_)
          refine lv_istore_n (lv' := [(3, .int x69), (0, .ref a0), (1, .int a1), (4, .int j36l4)]) hx hb dX7_could_70 rfl hl (by decide) rfl (fun ls hl => ?_)
          obtain ⟨x71, ex71⟩ : ∃ y : Int32, y = j36l4 + Int32.ofInt 1 := ⟨_, rfl⟩
          have qx71 : x71.toInt = j36l4.toInt + 1 := ai_inc ex71 (by decide) (by decide) u45f_j36l4 (by decide)
          have bx71 : (1 : Int) ≤ x71.toInt ∧ x71.toInt ≤ 729 := ⟨by rw [qx71]; exact Int.add_le_add bj36l4_l (Int.le_refl _), by rw [qx71]; exact Int.add_le_add u45f_j36l4 (Int.le_refl _)⟩
          refine lv_iinc (v := x71) (lv' := [(4, .int x71), (3, .int x69), (0, .ref a0), (1, .int a1)]) hx hb dX7_could_71 hl (k := 3) rfl ex71.symm (by decide) rfl (fun ls hl => ?_)
          refine lv_goto (tgt := 36) hx hb dX7_could_74 (by decide) ?_
          exact (hK0 _ _ _).mp (ih36 x71 x69 _ _ _ (by have h0 := qx71; omega) (Int.le_trans zq4 bx71.1) bx71.2 hP hD hS (lv_sub hl [2, 3, 1, 0] rfl))
    exact (hK0 _ _ _).mp (J36 730 0 0 _ _ _ (by have h1 : (0 : Int) ≤ (0 : Int32).toInt := zq5; have h2 : (0 : Int32).toInt ≤ (0 : Int) := zq6; omega) zq5 (Int.le_trans zq6 zq35) hP hD hS (lv_sub hl [3, 4, 1, 0] rfl))
  · subst hw
    refine lv_istore_n (lv' := [(2, .int 1), (0, .ref a0), (1, .int a1)]) hx hb dX7_could_9 rfl hl (by decide) rfl (fun ls hl => ?_)
    refine lv_iload_n hx hb dX7_could_10 rfl (lv_at hl 0 rfl) ?_
    refine lv_if_eq (tgt := 20) hx hb dX7_could_11 (by decide) (fun c11 => absurd c11 (by decide +kernel)) (fun _ => ?_)
    refine lv_aload_n hx hb dX7_could_14 rfl (lv_at hl 1 rfl) ?_
    refine lv_iload_n hx hb dX7_could_15 rfl (lv_at hl 0 rfl) ?_
    obtain ⟨hPc, hDc, hFc, hCc⟩ := zc_cut (wc := [(a0, .inr (7, [a0g_0, a0g_1, a0g_2, a0g_3, a0g_4, .ref a0_5, a0g_6, .ref a0_7, .int a0_8, a0g_9, a0g_10]))]) hP hD hS hA [0] (by decide +kernel) rfl
    have hKc := hK.sub (tys' := []) [] rfl
    refine va_calli (va_runV (As := [.int 1]) (rest := []) ⟨hx, hb, hml, hown, hts⟩ (c_X7_refused l dC dI H.size a0 1 a0g_0 a0g_1 a0g_2 a0g_3 a0g_4 (.ref a0_5) a0g_6 (.ref a0_7) a0g_9 a0g_10 a0_8 ) (cwV 1 hts gX7_could_X7_refused rfl rfl rfl zd_X7_refused ⟨Nat.le_of_ble_eq_true rfl, Nat.le_of_ble_eq_true rfl⟩) ⟨ax_blind (fun _ _ _ _ _ => trivial), zr_7 hKc hPc (q0 := 0) rfl, ax_pre hPc hKc hDc (fun _ _ => trivial)⟩ rfl rfl hl.1 rfl (lv_room (Nat.le_of_ble_eq_true rfl)) dX7_could_16 ⟨Nat.le_of_ble_eq_true rfl, Nat.le_of_ble_eq_true rfl⟩) hS (fun q _ h => hFc q h) hFc (fun r16 u t H locs ht hvm hw hB hz1 hk1 hS => ?_)
    obtain ⟨v16na0_8, hP1, hK1, hD1⟩ := hB
    rw [ht] at hP1
    obtain ⟨hP, hD⟩ := zc_back (w := [(a0, .inr (7, [a0g_0, a0g_1, a0g_2, a0g_3, a0g_4, .ref a0_5, a0g_6, .ref a0_7, .int v16na0_8, a0g_9, a0g_10])), (a0_7, .inr (0, [.int a0_7_0, .int a0_7_1, a0_7g_2, a0_7g_3, a0_7g_4, a0_7g_5, a0_7g_6, a0_7g_7, a0_7g_8, .int a0_7_9, a0_7g_10, a0_7g_11, .ref a0_7_12, .ref a0_7_13, a0_7g_14])), (a0_5, .inr (2, [.int a0_5_0, a0_5g_1, a0_5g_2, .ref a0_5_3, a0_5g_4, .int a0_5_5, a0_5g_6])), (a0_5_3, .inl (ka0_5_3, 729, .inl (fa0_5_3))), (a0_7_13, .inl (ka0_7_13, 6, .inl (fa0_7_13))), (a0_7_12, .inl (ka0_7_12, 6, .inl (fa0_7_12)))]) hP hD hCc hk1 hFc hP1 hD1 [.inr 0, .inl 1, .inl 2, .inl 3, .inl 4, .inl 5] (by decide +kernel) rfl
    have hw : r16 = (-1) := hw
    have hw := hw.symm
    subst hw
    exact W.iret (v := (-1)) hx hb hr (fun t ht hW => ⟨⟨(-1), (), rfl, trivial, v16na0_8, a0_5_0, a0_5_5, fa0_5_3, ⟨ba0_5_0_l, ba0_5_0_u⟩, ⟨ba0_5_5_l, ba0_5_5_u⟩, bfa0_5_3, by rw [ht]; exact hP, va_K.moved hW.alike hK, hD⟩, hS.F ht⟩) hS.2.2 dX7_could_19
  · subst hw
    refine lv_istore_n (lv' := [(2, .int 2), (0, .ref a0), (1, .int a1)]) hx hb dX7_could_9 rfl hl (by decide) rfl (fun ls hl => ?_)
    refine lv_iload_n hx hb dX7_could_10 rfl (lv_at hl 0 rfl) ?_
    refine lv_if_eq (tgt := 20) hx hb dX7_could_11 (by decide) (fun c11 => absurd c11 (by decide +kernel)) (fun _ => ?_)
    refine lv_aload_n hx hb dX7_could_14 rfl (lv_at hl 1 rfl) ?_
    refine lv_iload_n hx hb dX7_could_15 rfl (lv_at hl 0 rfl) ?_
    obtain ⟨hPc, hDc, hFc, hCc⟩ := zc_cut (wc := [(a0, .inr (7, [a0g_0, a0g_1, a0g_2, a0g_3, a0g_4, .ref a0_5, a0g_6, .ref a0_7, .int a0_8, a0g_9, a0g_10]))]) hP hD hS hA [0] (by decide +kernel) rfl
    have hKc := hK.sub (tys' := []) [] rfl
    refine va_calli (va_runV (As := [.int 2]) (rest := []) ⟨hx, hb, hml, hown, hts⟩ (c_X7_refused l dC dI H.size a0 2 a0g_0 a0g_1 a0g_2 a0g_3 a0g_4 (.ref a0_5) a0g_6 (.ref a0_7) a0g_9 a0g_10 a0_8 ) (cwV 1 hts gX7_could_X7_refused rfl rfl rfl zd_X7_refused ⟨Nat.le_of_ble_eq_true rfl, Nat.le_of_ble_eq_true rfl⟩) ⟨ax_blind (fun _ _ _ _ _ => trivial), zr_7 hKc hPc (q0 := 0) rfl, ax_pre hPc hKc hDc (fun _ _ => trivial)⟩ rfl rfl hl.1 rfl (lv_room (Nat.le_of_ble_eq_true rfl)) dX7_could_16 ⟨Nat.le_of_ble_eq_true rfl, Nat.le_of_ble_eq_true rfl⟩) hS (fun q _ h => hFc q h) hFc (fun r16 u t H locs ht hvm hw hB hz1 hk1 hS => ?_)
    obtain ⟨v16na0_8, hP1, hK1, hD1⟩ := hB
    rw [ht] at hP1
    obtain ⟨hP, hD⟩ := zc_back (w := [(a0, .inr (7, [a0g_0, a0g_1, a0g_2, a0g_3, a0g_4, .ref a0_5, a0g_6, .ref a0_7, .int v16na0_8, a0g_9, a0g_10])), (a0_7, .inr (0, [.int a0_7_0, .int a0_7_1, a0_7g_2, a0_7g_3, a0_7g_4, a0_7g_5, a0_7g_6, a0_7g_7, a0_7g_8, .int a0_7_9, a0_7g_10, a0_7g_11, .ref a0_7_12, .ref a0_7_13, a0_7g_14])), (a0_5, .inr (2, [.int a0_5_0, a0_5g_1, a0_5g_2, .ref a0_5_3, a0_5g_4, .int a0_5_5, a0_5g_6])), (a0_5_3, .inl (ka0_5_3, 729, .inl (fa0_5_3))), (a0_7_13, .inl (ka0_7_13, 6, .inl (fa0_7_13))), (a0_7_12, .inl (ka0_7_12, 6, .inl (fa0_7_12)))]) hP hD hCc hk1 hFc hP1 hD1 [.inr 0, .inl 1, .inl 2, .inl 3, .inl 4, .inl 5] (by decide +kernel) rfl
    have hw : r16 = (-1) := hw
    have hw := hw.symm
    subst hw
    exact W.iret (v := (-1)) hx hb hr (fun t ht hW => ⟨⟨(-1), (), rfl, trivial, v16na0_8, a0_5_0, a0_5_5, fa0_5_3, ⟨ba0_5_0_l, ba0_5_0_u⟩, ⟨ba0_5_5_l, ba0_5_5_u⟩, bfa0_5_3, by rw [ht]; exact hP, va_K.moved hW.alike hK, hD⟩, hS.F ht⟩) hS.2.2 dX7_could_19

set_option maxHeartbeats 4000000 in
set_option maxRecDepth 100000 in
theorem c_X7_aliveBy (l : Launch) (dC : Nat → ClassId) (dI : Nat → Nat → Nat) (sz : Nat) (a0 : Nat) (a1 : Int32) (a2 : Int32) (a0g_0 a0g_1 a0g_2 a0g_3 a0g_4 a0g_6 a0g_9 a0g_10 : Value) (a0_5 : Nat) (a0_7 : Nat) (a0_8 : Int32) (a0_7_0 : Int32) (a0_7_1 : Int32) (a0_7g_2 a0_7g_3 a0_7g_4 a0_7g_5 a0_7g_6 a0_7g_7 a0_7g_8 a0_7g_10 a0_7g_11 a0_7g_14 : Value) (a0_7_9 : Int32) (a0_7_12 : Nat) (a0_7_13 : Nat) (a0_5_0 : Int32) (a0_5g_1 a0_5g_2 a0_5g_4 a0_5g_6 : Value) (a0_5_3 : Nat) (a0_5_5 : Int32) (ka0_5_3 : ClassId) (fa0_5_3 : Nat → Int32) (ka0_7_13 : ClassId) (fa0_7_13 : Nat → Int32) (ka0_7_12 : ClassId) (fa0_7_12 : Nat → Int32) (ba0_7_0_l : (0 : Int) ≤ a0_7_0.toInt) (ba0_7_0_u : a0_7_0.toInt ≤ (9 : Int)) (ba0_7_9_l : (0 : Int) ≤ a0_7_9.toInt) (ba0_7_9_u : a0_7_9.toInt ≤ (6 : Int)) (ba0_5_0_l : (0 : Int) ≤ a0_5_0.toInt) (ba0_5_0_u : a0_5_0.toInt ≤ (729 : Int)) (ba0_5_5_l : (0 : Int) ≤ a0_5_5.toInt) (ba0_5_5_u : a0_5_5.toInt ≤ (1 : Int)) (bfa0_5_3 : (∀ k, (0 : Int) ≤ (fa0_5_3 k).toInt ∧ (fa0_5_3 k).toInt ≤ 888 ∧ (fa0_5_3 k).toInt % 10 ≤ 8)) (bfa0_7_13 : (∀ k, (0 : Int) ≤ (fa0_7_13 k).toInt ∧ (fa0_7_13 k).toInt ≤ 999)) : Met l yX7_aliveBy wsX7_aliveBy ({ frames := 4, cells := 0, slots := 0, locals := 98 }) (va_Pc [.ref a0, .int a1, .int a2] (ax_C dC dI sz [(a0, .inr (7, [a0g_0, a0g_1, a0g_2, a0g_3, a0g_4, .ref a0_5, a0g_6, .ref a0_7, .int a0_8, a0g_9, a0g_10])), (a0_7, .inr (0, [.int a0_7_0, .int a0_7_1, a0_7g_2, a0_7g_3, a0_7g_4, a0_7g_5, a0_7g_6, a0_7g_7, a0_7g_8, .int a0_7_9, a0_7g_10, a0_7g_11, .ref a0_7_12, .ref a0_7_13, a0_7g_14])), (a0_5, .inr (2, [.int a0_5_0, a0_5g_1, a0_5g_2, .ref a0_5_3, a0_5g_4, .int a0_5_5, a0_5g_6])), (a0_5_3, .inl (ka0_5_3, 729, .inl (fa0_5_3))), (a0_7_13, .inl (ka0_7_13, 6, .inl (fa0_7_13))), (a0_7_12, .inl (ka0_7_12, 6, .inl (fa0_7_12)))] [(ka0_5_3, .int), (ka0_7_13, .int), (ka0_7_12, .int)] (fun U => va_Nw (.methodLinkNest RX0 72 yX7_laterTurn RX7) U))) (va_Qi (fun (r : Int32) (_ : Unit) => True) (fun (_ : Unit) (t : State) => ∃ na0_8 : Int32, ∃ na0_5_0 : Int32, ∃ na0_5_5 : Int32, ∃ nfa0_5_3 : Nat → Int32, ((0 : Int) ≤ na0_5_0.toInt ∧ na0_5_0.toInt ≤ 729) ∧ ((0 : Int) ≤ na0_5_5.toInt ∧ na0_5_5.toInt ≤ 1) ∧ (∀ k, (0 : Int) ≤ (nfa0_5_3 k).toInt ∧ (nfa0_5_3 k).toInt ≤ 888 ∧ (nfa0_5_3 k).toInt % 10 ≤ 8) ∧ ax_B dC dI (va_A [(a0, .inr (7, [a0g_0, a0g_1, a0g_2, a0g_3, a0g_4, .ref a0_5, a0g_6, .ref a0_7, .int a0_8, a0g_9, a0g_10])), (a0_7, .inr (0, [.int a0_7_0, .int a0_7_1, a0_7g_2, a0_7g_3, a0_7g_4, a0_7g_5, a0_7g_6, a0_7g_7, a0_7g_8, .int a0_7_9, a0_7g_10, a0_7g_11, .ref a0_7_12, .ref a0_7_13, a0_7g_14])), (a0_5, .inr (2, [.int a0_5_0, a0_5g_1, a0_5g_2, .ref a0_5_3, a0_5g_4, .int a0_5_5, a0_5g_6])), (a0_5_3, .inl (ka0_5_3, 729, .inl (fa0_5_3))), (a0_7_13, .inl (ka0_7_13, 6, .inl (fa0_7_13))), (a0_7_12, .inl (ka0_7_12, 6, .inl (fa0_7_12)))] sz) [(a0, .inr (7, [a0g_0, a0g_1, a0g_2, a0g_3, a0g_4, .ref a0_5, a0g_6, .ref a0_7, .int na0_8, a0g_9, a0g_10])), (a0_7, .inr (0, [.int a0_7_0, .int a0_7_1, a0_7g_2, a0_7g_3, a0_7g_4, a0_7g_5, a0_7g_6, a0_7g_7, a0_7g_8, .int a0_7_9, a0_7g_10, a0_7g_11, .ref a0_7_12, .ref a0_7_13, a0_7g_14])), (a0_5, .inr (2, [.int na0_5_0, a0_5g_1, a0_5g_2, .ref a0_5_3, a0_5g_4, .int na0_5_5, a0_5g_6])), (a0_5_3, .inl (ka0_5_3, 729, .inl (nfa0_5_3))), (a0_7_13, .inl (ka0_7_13, 6, .inl (fa0_7_13))), (a0_7_12, .inl (ka0_7_12, 6, .inl (fa0_7_12)))] [(ka0_5_3, .int), (ka0_7_13, .int), (ka0_7_12, .int)] t) (va_A [(a0, .inr (7, [a0g_0, a0g_1, a0g_2, a0g_3, a0g_4, .ref a0_5, a0g_6, .ref a0_7, .int a0_8, a0g_9, a0g_10])), (a0_7, .inr (0, [.int a0_7_0, .int a0_7_1, a0_7g_2, a0_7g_3, a0_7g_4, a0_7g_5, a0_7g_6, a0_7g_7, a0_7g_8, .int a0_7_9, a0_7g_10, a0_7g_11, .ref a0_7_12, .ref a0_7_13, a0_7g_14])), (a0_5, .inr (2, [.int a0_5_0, a0_5g_1, a0_5g_2, .ref a0_5_3, a0_5g_4, .int a0_5_5, a0_5g_6])), (a0_5_3, .inl (ka0_5_3, 729, .inl (fa0_5_3))), (a0_7_13, .inl (ka0_7_13, 6, .inl (fa0_7_13))), (a0_7_12, .inl (ka0_7_12, 6, .inl (fa0_7_12)))] sz)) 0 0 (va_A [(a0, .inr (7, [a0g_0, a0g_1, a0g_2, a0g_3, a0g_4, .ref a0_5, a0g_6, .ref a0_7, .int a0_8, a0g_9, a0g_10])), (a0_7, .inr (0, [.int a0_7_0, .int a0_7_1, a0_7g_2, a0_7g_3, a0_7g_4, a0_7g_5, a0_7g_6, a0_7g_7, a0_7g_8, .int a0_7_9, a0_7g_10, a0_7g_11, .ref a0_7_12, .ref a0_7_13, a0_7g_14])), (a0_5, .inr (2, [.int a0_5_0, a0_5g_1, a0_5g_2, .ref a0_5_3, a0_5g_4, .int a0_5_5, a0_5g_6])), (a0_5_3, .inl (ka0_5_3, 729, .inl (fa0_5_3))), (a0_7_13, .inl (ka0_7_13, 6, .inl (fa0_7_13))), (a0_7_12, .inl (ka0_7_12, 6, .inl (fa0_7_12)))] sz) := by
  refine Met.ofW (cc := cX7_aliveBy) (maxL := 6) (ret := (some .int)) (by decide) rfl ?_
  intro p e s m args below meth c s₁ B hml hv
  obtain ⟨rfl, hsz, hP, hK, hD0, hE⟩ := hv
  have hx := B.exec
  have hb := B.bytes
  have hr := B.returns
  have hts := atoms_spec (ws := wsX7_aliveBy) B.pre
  have hown : s.vm.findClass RX7 = some m.cls := findClass_of_methodNamed B.named
  have hlocks := B.notSynchronized
  subst hsz
  have hD := hD0.self (sz := s.heap.size)
  generalize hAe : va_A [(a0, .inr (7, [a0g_0, a0g_1, a0g_2, a0g_3, a0g_4, .ref a0_5, a0g_6, .ref a0_7, .int a0_8, a0g_9, a0g_10])), (a0_7, .inr (0, [.int a0_7_0, .int a0_7_1, a0_7g_2, a0_7g_3, a0_7g_4, a0_7g_5, a0_7g_6, a0_7g_7, a0_7g_8, .int a0_7_9, a0_7g_10, a0_7g_11, .ref a0_7_12, .ref a0_7_13, a0_7g_14])), (a0_5, .inr (2, [.int a0_5_0, a0_5g_1, a0_5g_2, .ref a0_5_3, a0_5g_4, .int a0_5_5, a0_5g_6])), (a0_5_3, .inl (ka0_5_3, 729, .inl (fa0_5_3))), (a0_7_13, .inl (ka0_7_13, 6, .inl (fa0_7_13))), (a0_7_12, .inl (ka0_7_12, 6, .inl (fa0_7_12)))] s.heap.size = A at hD ⊢
  have hA : ∀ q : Nat, s.heap.size ≤ q → A q := fun q h => by rw [← hAe]; exact Or.inr h
  have hS : va_S A s.heap s.heap [] := va_S.rf
  have hP : va_P (dC, dI) vwCl [(a0, .inr (7, [a0g_0, a0g_1, a0g_2, a0g_3, a0g_4, .ref a0_5, a0g_6, .ref a0_7, .int a0_8, a0g_9, a0g_10])), (a0_7, .inr (0, [.int a0_7_0, .int a0_7_1, a0_7g_2, a0_7g_3, a0_7g_4, a0_7g_5, a0_7g_6, a0_7g_7, a0_7g_8, .int a0_7_9, a0_7g_10, a0_7g_11, .ref a0_7_12, .ref a0_7_13, a0_7g_14])), (a0_5, .inr (2, [.int a0_5_0, a0_5g_1, a0_5g_2, .ref a0_5_3, a0_5g_4, .int a0_5_5, a0_5g_6])), (a0_5_3, .inl (ka0_5_3, 729, .inl (fa0_5_3))), (a0_7_13, .inl (ka0_7_13, 6, .inl (fa0_7_13))), (a0_7_12, .inl (ka0_7_12, 6, .inl (fa0_7_12)))] s.heap := hP
  have hE0 := hE
  have hl := lv_entry ([.ref a0, .int a1, .int a2]) (n := 6) (Nat.le_of_ble_eq_true rfl)
  rw [lg_entry_eq]
  generalize (lg_sl ([.ref a0, .int a1, .int a2]) ++ List.replicate (6 - (lg_sl ([.ref a0, .int a1, .int a2])).length) Slot.unset).toArray = ls at hl ⊢
  have hl : lv_has ls 6 [(0, .ref a0), (1, .int a1), (2, .int a2)] := hl
  refine ai_open (fun K hK0 => ?_)
  refine (hK0 _ _ _).mpr ?_
  refine lv_aload_n hx hb dX7_aliveBy_0 rfl (lv_at hl 0 rfl) ?_
  refine lv_iload_n hx hb dX7_aliveBy_1 rfl (lv_at hl 1 rfl) ?_
  refine lv_iload_n hx hb dX7_aliveBy_2 rfl (lv_at hl 2 rfl) ?_
  refine lv_sipush (v := 999) hx hb dX7_aliveBy_3 zk_sipush_999 ?_
  obtain ⟨hPc, hDc, hFc, hCc⟩ := zc_cut (wc := [(a0, .inr (7, [a0g_0, a0g_1, a0g_2, a0g_3, a0g_4, .ref a0_5, a0g_6, .ref a0_7, .int a0_8, a0g_9, a0g_10])), (a0_7, .inr (0, [.int a0_7_0, .int a0_7_1, a0_7g_2, a0_7g_3, a0_7g_4, a0_7g_5, a0_7g_6, a0_7g_7, a0_7g_8, .int a0_7_9, a0_7g_10, a0_7g_11, .ref a0_7_12, .ref a0_7_13, a0_7g_14]))]) hP hD hS hA [0, 1] (by decide +kernel) rfl
  have hKc := hK.sub (tys' := []) [] rfl
  refine va_calli (va_runV (As := [.int a1, .int a2, .int 999]) (rest := []) ⟨hx, hb, hml, hown, hts⟩ (c_X7_troubleOfFigureWithin l dC dI s.heap.size a0 a1 a2 999 a0g_0 a0g_1 a0g_2 a0g_3 a0g_4 (.ref a0_5) a0g_6 (.int a0_8) a0g_9 a0g_10 a0_7 a0_7_0 (.int a0_7_1) a0_7g_2 a0_7g_3 a0_7g_4 a0_7g_5 a0_7g_6 a0_7g_7 a0_7g_8 (.int a0_7_9) a0_7g_10 a0_7g_11 (.ref a0_7_12) (.ref a0_7_13) a0_7g_14 ba0_7_0_l ba0_7_0_u) (cwV 3 hts gX7_aliveBy_X7_troubleOfFigureWithin rfl rfl rfl zd_X7_troubleOfFigureWithin ⟨Nat.le_of_ble_eq_true rfl, Nat.le_of_ble_eq_true rfl⟩) ⟨ax_blind (fun _ _ _ _ _ => trivial), zr_7 hKc hPc (q0 := 0) rfl, ax_pre hPc hKc hDc (fun _ _ => trivial)⟩ rfl rfl hl.1 rfl (lv_room (Nat.le_of_ble_eq_true rfl)) dX7_aliveBy_6 ⟨Nat.le_of_ble_eq_true rfl, Nat.le_of_ble_eq_true rfl⟩) hS (fun q _ h => hFc q h) hFc (fun r6 u t H locs ht hvm hw hB hz1 hk1 hS => ?_)
  obtain ⟨hP1, hK1, hD1⟩ := hB
  rw [ht] at hP1
  obtain ⟨hP, hD⟩ := zc_back (w := [(a0, .inr (7, [a0g_0, a0g_1, a0g_2, a0g_3, a0g_4, .ref a0_5, a0g_6, .ref a0_7, .int a0_8, a0g_9, a0g_10])), (a0_7, .inr (0, [.int a0_7_0, .int a0_7_1, a0_7g_2, a0_7g_3, a0_7g_4, a0_7g_5, a0_7g_6, a0_7g_7, a0_7g_8, .int a0_7_9, a0_7g_10, a0_7g_11, .ref a0_7_12, .ref a0_7_13, a0_7g_14])), (a0_5, .inr (2, [.int a0_5_0, a0_5g_1, a0_5g_2, .ref a0_5_3, a0_5g_4, .int a0_5_5, a0_5g_6])), (a0_5_3, .inl (ka0_5_3, 729, .inl (fa0_5_3))), (a0_7_13, .inl (ka0_7_13, 6, .inl (fa0_7_13))), (a0_7_12, .inl (ka0_7_12, 6, .inl (fa0_7_12)))]) hP hD hCc hk1 hFc hP1 hD1 [.inr 0, .inr 1, .inl 2, .inl 3, .inl 4, .inl 5] (by decide +kernel) rfl
  rcases hw with hw | hw | hw
  · obtain ⟨hw, fh6, gh6, kh6, h6⟩ := hw
    subst hw
    have l6k0_a0_7_0 : (1 : Int) ≤ a0_7_0.toInt := fh6
    have l6k0_a1 : (0 : Int) ≤ a1.toInt := gh6
    have u6k0_a1 : a1.toInt ≤ (8 : Int) := kh6
    have l6k0_a2 : (0 : Int) ≤ a2.toInt := Int.le_trans zq5 h6.1
    have u6k0_a2 : a2.toInt ≤ (999 : Int) := Int.le_trans h6.2 zq79
    refine lv_istore_n (lv' := [(3, .int 0), (0, .ref a0), (1, .int a1), (2, .int a2)]) hx hb dX7_aliveBy_9 rfl hl (by decide) rfl (fun ls hl => ?_)
    refine lv_iload_n hx hb dX7_aliveBy_10 rfl (lv_at hl 0 rfl) ?_
    refine lv_if_eq (tgt := 20) hx hb dX7_aliveBy_11 (by decide) (fun _ => ?_) (fun c11 => absurd (by decide +kernel) c11)
    refine lv_aload_n hx hb dX7_aliveBy_20 rfl (lv_at hl 1 rfl) ?_
    refine va_get (D := (dC, dI)) (ci := 7) (v := .ref a0_5) (C := RX7) (T := TX7) (N := 11) hx hb hts zi_X7_aliveBy_7 hown hK hP 0 rfl rfl 5 (by decide) (hts (.fieldLink RX7 43 "WaxTurns" "laws" "LWaxTurns$Laws;") (zm_X7_aliveBy_r1 (List.mem_of_getElem? (i := 0) rfl))) (fun _ h9 => h9) rfl dX7_aliveBy_21 ?_
    refine lv_aload_n hx hb dX7_aliveBy_24 rfl (lv_at hl 1 rfl) ?_
    refine va_get (D := (dC, dI)) (ci := 7) (v := .ref a0_7) (C := RX7) (T := TX7) (N := 11) hx hb hts zi_X7_aliveBy_7 hown hK hP 0 rfl rfl 7 (by decide) (hts (.fieldLink RX7 57 "WaxTurns" "hall" "LWaxTurns$Hall;") (zm_X7_aliveBy_r1 (List.mem_of_getElem? (i := 1) rfl))) (fun _ h9 => h9) rfl dX7_aliveBy_25 ?_
    obtain ⟨hPc, hDc, hFc, hCc⟩ := zc_cut (wc := [(a0_5, .inr (2, [.int a0_5_0, a0_5g_1, a0_5g_2, .ref a0_5_3, a0_5g_4, .int a0_5_5, a0_5g_6])), (a0_7, .inr (0, [.int a0_7_0, .int a0_7_1, a0_7g_2, a0_7g_3, a0_7g_4, a0_7g_5, a0_7g_6, a0_7g_7, a0_7g_8, .int a0_7_9, a0_7g_10, a0_7g_11, .ref a0_7_12, .ref a0_7_13, a0_7g_14])), (a0_5_3, .inl (ka0_5_3, 729, .inl (fa0_5_3))), (a0_7_13, .inl (ka0_7_13, 6, .inl (fa0_7_13))), (a0_7_12, .inl (ka0_7_12, 6, .inl (fa0_7_12)))]) hP hD hS hA [2, 1, 3, 4, 5] (by decide +kernel) rfl
    have hKc := hK.sub (tys' := [(ka0_5_3, .int), (ka0_7_13, .int), (ka0_7_12, .int)]) [0, 1, 2] rfl
    refine va_callv (va_runV (As := [.ref a0_7]) (rest := []) ⟨hx, hb, hml, hown, hts⟩ (c_X2_list l dC dI H.size a0_5 a0_7 a0_5_0 a0_5g_1 a0_5g_2 a0_5g_4 a0_5g_6 a0_5_3 a0_5_5 a0_7_0 a0_7_1 a0_7g_2 a0_7g_3 a0_7g_4 a0_7g_5 a0_7g_6 a0_7g_7 a0_7g_8 a0_7g_10 a0_7g_11 a0_7g_14 a0_7_9 a0_7_12 a0_7_13 ka0_5_3 fa0_5_3 ka0_7_13 fa0_7_13 ka0_7_12 fa0_7_12 ba0_5_0_l ba0_5_0_u ba0_5_5_l ba0_5_5_u (Int.le_trans zq4 l6k0_a0_7_0) ba0_7_0_u ba0_7_9_l ba0_7_9_u bfa0_5_3 bfa0_7_13) (cwV 1 hts gX7_aliveBy_X2_list rfl rfl rfl zd_X2_list ⟨Nat.le_of_ble_eq_true rfl, Nat.le_of_ble_eq_true rfl⟩) ⟨ax_blind (fun _ _ _ _ hq => va_Nw.same rfl rfl (hq)), zr_2 hKc hPc (q0 := 0) rfl, ax_pre hPc hKc hDc (fun _ hW => va_Nw.warmM hW hE0)⟩ rfl rfl hl.1 rfl (lv_room (Nat.le_of_ble_eq_true rfl)) dX7_aliveBy_28 ⟨Nat.le_of_ble_eq_true rfl, Nat.le_of_ble_eq_true rfl⟩) hS (fun q _ h => hFc q h) hFc (fun u t H locs ht hvm hw hB hz1 hk1 hS => ?_)
    obtain ⟨v28na0_0, v28na0_5, v28nfa0_3, bv28na0_0, bv28na0_5, bv28nfa0_3, hP1, hK1, hD1⟩ := hB
    rw [ht] at hP1
    obtain ⟨hP, hD⟩ := zc_back (w := [(a0, .inr (7, [a0g_0, a0g_1, a0g_2, a0g_3, a0g_4, .ref a0_5, a0g_6, .ref a0_7, .int a0_8, a0g_9, a0g_10])), (a0_7, .inr (0, [.int a0_7_0, .int a0_7_1, a0_7g_2, a0_7g_3, a0_7g_4, a0_7g_5, a0_7g_6, a0_7g_7, a0_7g_8, .int a0_7_9, a0_7g_10, a0_7g_11, .ref a0_7_12, .ref a0_7_13, a0_7g_14])), (a0_5, .inr (2, [.int v28na0_0, a0_5g_1, a0_5g_2, .ref a0_5_3, a0_5g_4, .int v28na0_5, a0_5g_6])), (a0_5_3, .inl (ka0_5_3, 729, .inl (v28nfa0_3))), (a0_7_13, .inl (ka0_7_13, 6, .inl (fa0_7_13))), (a0_7_12, .inl (ka0_7_12, 6, .inl (fa0_7_12)))]) hP hD hCc hk1 hFc hP1 hD1 [.inl 0, .inr 1, .inr 0, .inr 2, .inr 3, .inr 4] (by decide +kernel) rfl
    refine lv_iconst (v := 0) hx hb dX7_aliveBy_31 zk_iconst_0 ?_
    refine lv_istore (lv' := [(4, .int 0), (3, .int 0), (0, .ref a0), (1, .int a1), (2, .int a2)]) hx hb dX7_aliveBy_32 hl (by decide) rfl (fun ls hl => ?_)
    refine lv_iconst (v := 0) hx hb dX7_aliveBy_34 zk_iconst_0 ?_
    refine lv_istore (lv' := [(5, .int 0), (4, .int 0), (3, .int 0), (0, .ref a0), (1, .int a1), (2, .int a2)]) hx hb dX7_aliveBy_35 hl (by decide) rfl (fun ls hl => ?_)
    have J37 : ∀ (n : Nat) (j37l5 : Int32) (j37l4 : Int32) (H : Heap) (locs : List Loc) (ls : Array Slot), (730 : Int) - j37l5.toInt ≤ (n : Int) → (0 : Int) ≤ j37l5.toInt → j37l5.toInt ≤ (729 : Int) → va_P (dC, dI) vwCl [(a0, .inr (7, [a0g_0, a0g_1, a0g_2, a0g_3, a0g_4, .ref a0_5, a0g_6, .ref a0_7, .int a0_8, a0g_9, a0g_10])), (a0_7, .inr (0, [.int a0_7_0, .int a0_7_1, a0_7g_2, a0_7g_3, a0_7g_4, a0_7g_5, a0_7g_6, a0_7g_7, a0_7g_8, .int a0_7_9, a0_7g_10, a0_7g_11, .ref a0_7_12, .ref a0_7_13, a0_7g_14])), (a0_5, .inr (2, [.int v28na0_0, a0_5g_1, a0_5g_2, .ref a0_5_3, a0_5g_4, .int v28na0_5, a0_5g_6])), (a0_5_3, .inl (ka0_5_3, 729, .inl (v28nfa0_3))), (a0_7_13, .inl (ka0_7_13, 6, .inl (fa0_7_13))), (a0_7_12, .inl (ka0_7_12, 6, .inl (fa0_7_12)))] H → va_D A [(a0, .inr (7, [a0g_0, a0g_1, a0g_2, a0g_3, a0g_4, .ref a0_5, a0g_6, .ref a0_7, .int a0_8, a0g_9, a0g_10])), (a0_7, .inr (0, [.int a0_7_0, .int a0_7_1, a0_7g_2, a0_7g_3, a0_7g_4, a0_7g_5, a0_7g_6, a0_7g_7, a0_7g_8, .int a0_7_9, a0_7g_10, a0_7g_11, .ref a0_7_12, .ref a0_7_13, a0_7g_14])), (a0_5, .inr (2, [.int v28na0_0, a0_5g_1, a0_5g_2, .ref a0_5_3, a0_5g_4, .int v28na0_5, a0_5g_6])), (a0_5_3, .inl (ka0_5_3, 729, .inl (v28nfa0_3))), (a0_7_13, .inl (ka0_7_13, 6, .inl (fa0_7_13))), (a0_7_12, .inl (ka0_7_12, 6, .inl (fa0_7_12)))] → va_S A s.heap H locs → lv_has ls 6 [(0, .ref a0), (1, .int a1), (2, .int a2), (4, .int j37l4), (5, .int j37l5)] → K H locs (F0 m 37 ls []) := by
      intro n
      induction n with
      | zero =>
        intro j37l5 j37l4 H locs ls hm bj37l5_l bj37l5_u hP hD hS hl
        have h8 := ai_min j37l5
        have h9 := ai_max j37l5
        exact absurd hm (by omega)
      | succ n ih37 =>
        intro j37l5 j37l4 H locs ls hm bj37l5_l bj37l5_u hP hD hS hl
        refine (hK0 _ _ _).mpr ?_
        have hm37 := hm
        refine lv_iload hx hb dX7_aliveBy_37 (lv_at hl 4 rfl) ?_
        refine lv_aload_n hx hb dX7_aliveBy_39 rfl (lv_at hl 0 rfl) ?_
        refine va_get (D := (dC, dI)) (ci := 7) (v := .ref a0_5) (C := RX7) (T := TX7) (N := 11) hx hb hts zi_X7_aliveBy_7 hown hK hP 0 rfl rfl 5 (by decide) (hts (.fieldLink RX7 43 "WaxTurns" "laws" "LWaxTurns$Laws;") (zm_X7_aliveBy_r1 (List.mem_of_getElem? (i := 0) rfl))) (fun _ h9 => h9) rfl dX7_aliveBy_40 ?_
        refine va_get (D := (dC, dI)) (ci := 2) (v := .int v28na0_0) (C := RX2) (T := TX2) (N := 7) hx hb hts zi_X7_aliveBy_2 hown hK hP 2 rfl rfl 0 (by decide) (hts (.fieldLink RX7 263 "WaxTurns$Laws" "fitCount" "I") (zm_X7_aliveBy_r1 (List.mem_of_getElem? (i := 2) rfl))) (fun _ h9 => h9) rfl dX7_aliveBy_43 ?_
        refine lv_icmp_ge (tgt := 80) hx hb dX7_aliveBy_46 (by decide) (fun c46 => ?_) (fun c46 => ?_)
        · have gc46 := ai_le c46
          have u46t_v28na0_0 : v28na0_0.toInt ≤ (729 : Int) := bv28na0_0.2
          have l46t_j37l5 : (0 : Int) ≤ j37l5.toInt := bj37l5_l
          refine lv_aload_n hx hb dX7_aliveBy_80 rfl (lv_at hl 0 rfl) ?_
          refine lv_iload hx hb dX7_aliveBy_81 (lv_at hl 3 rfl) ?_
          obtain ⟨hPc, hDc, hFc, hCc⟩ := zc_cut (wc := [(a0, .inr (7, [a0g_0, a0g_1, a0g_2, a0g_3, a0g_4, .ref a0_5, a0g_6, .ref a0_7, .int a0_8, a0g_9, a0g_10]))]) hP hD hS hA [0] (by decide +kernel) rfl
          have hKc := hK.sub (tys' := []) [] rfl
          refine va_calli (va_runV (As := [.int j37l4]) (rest := []) ⟨hx, hb, hml, hown, hts⟩ (c_X7_answered l dC dI H.size a0 j37l4 a0g_0 a0g_1 a0g_2 a0g_3 a0g_4 (.ref a0_5) a0g_6 (.ref a0_7) a0g_9 a0g_10 a0_8 ) (cwV 1 hts gX7_aliveBy_X7_answered rfl rfl rfl zd_X7_answered ⟨Nat.le_of_ble_eq_true rfl, Nat.le_of_ble_eq_true rfl⟩) ⟨ax_blind (fun _ _ _ _ _ => trivial), zr_7 hKc hPc (q0 := 0) rfl, ax_pre hPc hKc hDc (fun _ _ => trivial)⟩ rfl rfl hl.1 rfl (lv_room (Nat.le_of_ble_eq_true rfl)) dX7_aliveBy_83 ⟨Nat.le_of_ble_eq_true rfl, Nat.le_of_ble_eq_true rfl⟩) hS (fun q _ h => hFc q h) hFc (fun r83 u t H locs ht hvm hw hB hz1 hk1 hS => ?_)
          obtain ⟨v83na0_8, hP1, hK1, hD1⟩ := hB
          rw [ht] at hP1
          obtain ⟨hP, hD⟩ := zc_back (w := [(a0, .inr (7, [a0g_0, a0g_1, a0g_2, a0g_3, a0g_4, .ref a0_5, a0g_6, .ref a0_7, .int v83na0_8, a0g_9, a0g_10])), (a0_7, .inr (0, [.int a0_7_0, .int a0_7_1, a0_7g_2, a0_7g_3, a0_7g_4, a0_7g_5, a0_7g_6, a0_7g_7, a0_7g_8, .int a0_7_9, a0_7g_10, a0_7g_11, .ref a0_7_12, .ref a0_7_13, a0_7g_14])), (a0_5, .inr (2, [.int v28na0_0, a0_5g_1, a0_5g_2, .ref a0_5_3, a0_5g_4, .int v28na0_5, a0_5g_6])), (a0_5_3, .inl (ka0_5_3, 729, .inl (v28nfa0_3))), (a0_7_13, .inl (ka0_7_13, 6, .inl (fa0_7_13))), (a0_7_12, .inl (ka0_7_12, 6, .inl (fa0_7_12)))]) hP hD hCc hk1 hFc hP1 hD1 [.inr 0, .inl 1, .inl 2, .inl 3, .inl 4, .inl 5] (by decide +kernel) rfl
          have hw : r83 = j37l4 := hw
          have hw := hw.symm
          subst hw
          exact W.iret (v := j37l4) hx hb hr (fun t ht hW => ⟨⟨j37l4, (), rfl, trivial, v83na0_8, v28na0_0, v28na0_5, v28nfa0_3, ⟨bv28na0_0.1, u46t_v28na0_0⟩, ⟨bv28na0_5.1, bv28na0_5.2⟩, bv28nfa0_3, by rw [ht]; exact hP, va_K.moved hW.alike hK, hD⟩, hS.F ht⟩) hS.2.2 dX7_aliveBy_86
        · have gc46 := ai_nle c46
          have u46f_j37l5 : j37l5.toInt ≤ (728 : Int) := ai_lthi gc46 bv28na0_0.2
          have l46f_v28na0_0 : (1 : Int) ≤ v28na0_0.toInt := ai_ltlo gc46 bj37l5_l
          refine lv_aload_n hx hb dX7_aliveBy_49 rfl (lv_at hl 0 rfl) ?_
          refine va_get (D := (dC, dI)) (ci := 7) (v := .ref a0_7) (C := RX7) (T := TX7) (N := 11) hx hb hts zi_X7_aliveBy_7 hown hK hP 0 rfl rfl 7 (by decide) (hts (.fieldLink RX7 57 "WaxTurns" "hall" "LWaxTurns$Hall;") (zm_X7_aliveBy_r1 (List.mem_of_getElem? (i := 1) rfl))) (fun _ h9 => h9) rfl dX7_aliveBy_50 ?_
          refine lv_aload_n hx hb dX7_aliveBy_53 rfl (lv_at hl 0 rfl) ?_
          refine va_get (D := (dC, dI)) (ci := 7) (v := .ref a0_5) (C := RX7) (T := TX7) (N := 11) hx hb hts zi_X7_aliveBy_7 hown hK hP 0 rfl rfl 5 (by decide) (hts (.fieldLink RX7 43 "WaxTurns" "laws" "LWaxTurns$Laws;") (zm_X7_aliveBy_r1 (List.mem_of_getElem? (i := 0) rfl))) (fun _ h9 => h9) rfl dX7_aliveBy_54 ?_
          refine va_get (D := (dC, dI)) (ci := 2) (v := .ref a0_5_3) (C := RX2) (T := TX2) (N := 7) hx hb hts zi_X7_aliveBy_2 hown hK hP 2 rfl rfl 3 (by decide) (hts (.fieldLink RX7 266 "WaxTurns$Laws" "fitting" "[I") (zm_X7_aliveBy_r1 (List.mem_of_getElem? (i := 3) rfl))) (fun _ h9 => h9) rfl dX7_aliveBy_57 ?_
          refine lv_iload hx hb dX7_aliveBy_60 (lv_at hl 4 rfl) ?_
          refine va_iald hx hb hK hP 3 0 rfl rfl (ai_in bj37l5_l u46f_j37l5 (by decide) (by decide)) dX7_aliveBy_62 ?_
          refine lv_topi (fun x62 ex62 => ?_)
          have bx62 : (0 : Int) ≤ x62.toInt ∧ x62.toInt ≤ 888 ∧ x62.toInt % 10 ≤ 8 := by rw [ex62]; exact bv28nfa0_3 _
          refine lv_iload_n hx hb dX7_aliveBy_63 rfl (lv_at hl 2 rfl) ?_
          obtain ⟨hPc, hDc, hFc, hCc⟩ := zc_cut (wc := [(a0_7, .inr (0, [.int a0_7_0, .int a0_7_1, a0_7g_2, a0_7g_3, a0_7g_4, a0_7g_5, a0_7g_6, a0_7g_7, a0_7g_8, .int a0_7_9, a0_7g_10, a0_7g_11, .ref a0_7_12, .ref a0_7_13, a0_7g_14]))]) hP hD hS hA [1] (by decide +kernel) rfl
          have hKc := hK.sub (tys' := []) [] rfl
          refine va_calli (va_runV (As := [.int x62, .int a2]) (rest := []) ⟨hx, hb, hml, hown, hts⟩ (c_X0_aliveByLaw l dC dI H.size a0_7 x62 a2 a0_7_0 a0_7_1 a0_7g_2 a0_7g_3 a0_7g_4 a0_7g_5 a0_7g_6 a0_7g_7 a0_7g_8 (.int a0_7_9) a0_7g_10 a0_7g_11 (.ref a0_7_12) (.ref a0_7_13) a0_7g_14 bx62.1 (Int.le_trans bx62.2.1 zq31) l6k0_a2 u6k0_a2 (Int.le_trans zq4 l6k0_a0_7_0) ba0_7_0_u) (cwV 2 hts gX7_aliveBy_X0_aliveByLaw rfl rfl rfl zd_X0_aliveByLaw ⟨Nat.le_of_ble_eq_true rfl, Nat.le_of_ble_eq_true rfl⟩) ⟨ax_blind (fun _ _ _ _ hq => va_Nw.same rfl rfl (hq)), zr_0 hKc hPc (q0 := 0) rfl, ax_pre hPc hKc hDc (fun _ hW => va_Nw.warmM hW hE0)⟩ rfl rfl hl.1 rfl (lv_room (Nat.le_of_ble_eq_true rfl)) dX7_aliveBy_64 ⟨Nat.le_of_ble_eq_true rfl, Nat.le_of_ble_eq_true rfl⟩) hS (fun q _ h => hFc q h) hFc (fun r64 u t H locs ht hvm hw hB hz1 hk1 hS => ?_)
          obtain ⟨hP1, hK1, hD1⟩ := hB
          rw [ht] at hP1
          obtain ⟨hP, hD⟩ := zc_back (w := [(a0, .inr (7, [a0g_0, a0g_1, a0g_2, a0g_3, a0g_4, .ref a0_5, a0g_6, .ref a0_7, .int a0_8, a0g_9, a0g_10])), (a0_7, .inr (0, [.int a0_7_0, .int a0_7_1, a0_7g_2, a0_7g_3, a0_7g_4, a0_7g_5, a0_7g_6, a0_7g_7, a0_7g_8, .int a0_7_9, a0_7g_10, a0_7g_11, .ref a0_7_12, .ref a0_7_13, a0_7g_14])), (a0_5, .inr (2, [.int v28na0_0, a0_5g_1, a0_5g_2, .ref a0_5_3, a0_5g_4, .int v28na0_5, a0_5g_6])), (a0_5_3, .inl (ka0_5_3, 729, .inl (v28nfa0_3))), (a0_7_13, .inl (ka0_7_13, 6, .inl (fa0_7_13))), (a0_7_12, .inl (ka0_7_12, 6, .inl (fa0_7_12)))]) hP hD hCc hk1 hFc hP1 hD1 [.inl 0, .inr 0, .inl 2, .inl 3, .inl 4, .inl 5] (by decide +kernel) rfl
          have hw : (0 : Int) ≤ r64.toInt ∧ r64.toInt ≤ (9 : Int) := hw
          obtain ⟨h64_0, h64_1⟩ := hw
          refine lv_iload_n hx hb dX7_aliveBy_67 rfl (lv_at hl 1 rfl) ?_
          have J74 : ∀ (j74l4 : Int32) (H : Heap) (locs : List Loc) (ls : Array Slot), va_P (dC, dI) vwCl [(a0, .inr (7, [a0g_0, a0g_1, a0g_2, a0g_3, a0g_4, .ref a0_5, a0g_6, .ref a0_7, .int a0_8, a0g_9, a0g_10])), (a0_7, .inr (0, [.int a0_7_0, .int a0_7_1, a0_7g_2, a0_7g_3, a0_7g_4, a0_7g_5, a0_7g_6, a0_7g_7, a0_7g_8, .int a0_7_9, a0_7g_10, a0_7g_11, .ref a0_7_12, .ref a0_7_13, a0_7g_14])), (a0_5, .inr (2, [.int v28na0_0, a0_5g_1, a0_5g_2, .ref a0_5_3, a0_5g_4, .int v28na0_5, a0_5g_6])), (a0_5_3, .inl (ka0_5_3, 729, .inl (v28nfa0_3))), (a0_7_13, .inl (ka0_7_13, 6, .inl (fa0_7_13))), (a0_7_12, .inl (ka0_7_12, 6, .inl (fa0_7_12)))] H → va_D A [(a0, .inr (7, [a0g_0, a0g_1, a0g_2, a0g_3, a0g_4, .ref a0_5, a0g_6, .ref a0_7, .int a0_8, a0g_9, a0g_10])), (a0_7, .inr (0, [.int a0_7_0, .int a0_7_1, a0_7g_2, a0_7g_3, a0_7g_4, a0_7g_5, a0_7g_6, a0_7g_7, a0_7g_8, .int a0_7_9, a0_7g_10, a0_7g_11, .ref a0_7_12, .ref a0_7_13, a0_7g_14])), (a0_5, .inr (2, [.int v28na0_0, a0_5g_1, a0_5g_2, .ref a0_5_3, a0_5g_4, .int v28na0_5, a0_5g_6])), (a0_5_3, .inl (ka0_5_3, 729, .inl (v28nfa0_3))), (a0_7_13, .inl (ka0_7_13, 6, .inl (fa0_7_13))), (a0_7_12, .inl (ka0_7_12, 6, .inl (fa0_7_12)))] → va_S A s.heap H locs → lv_has ls 6 [(0, .ref a0), (1, .int a1), (2, .int a2), (4, .int j74l4), (5, .int j37l5)] → K H locs (F0 m 74 ls []) := by
            intro j74l4 H locs ls   hP hD hS hl
            refine (hK0 _ _ _).mpr ?_
            obtain ⟨x74, ex74⟩ : ∃ y : Int32, y = j37l5 + Int32.ofInt 1 := ⟨_, rfl⟩
            have qx74 : x74.toInt = j37l5.toInt + 1 := ai_inc ex74 (by decide) (by decide) u46f_j37l5 (by decide)
            have bx74 : (1 : Int) ≤ x74.toInt ∧ x74.toInt ≤ 729 := ⟨by rw [qx74]; exact Int.add_le_add bj37l5_l (Int.le_refl _), by rw [qx74]; exact Int.add_le_add u46f_j37l5 (Int.le_refl _)⟩
            refine lv_iinc (v := x74) (lv' := [(5, .int x74), (0, .ref a0), (1, .int a1), (2, .int a2), (4, .int j74l4)]) hx hb dX7_aliveBy_74 hl (k := 4) rfl ex74.symm (by decide) rfl (fun ls hl => ?_)
            refine lv_goto (tgt := 37) hx hb dX7_aliveBy_77 (by decide) ?_
            exact (hK0 _ _ _).mp (ih37 x74 j74l4 _ _ _ (by have h0 := qx74; omega) (Int.le_trans zq4 bx74.1) bx74.2 hP hD hS (lv_sub hl [1, 2, 3, 4, 0] rfl))
          refine lv_icmp_ne (tgt := 74) hx hb dX7_aliveBy_68 (by decide) (fun c68 => ?_) (fun c68 => ?_)
          · have gc68 := ai_ne c68
            exact (hK0 _ _ _).mp (J74 j37l4 _ _ _   hP hD hS (lv_sub hl [0, 1, 2, 3, 4] rfl))
          · have gc68 := ai_eq c68
            have u68f_r64 : r64.toInt ≤ (8 : Int) := Int.le_trans (Int.le_of_eq gc68) u6k0_a1
            have l68f_r64 : (0 : Int) ≤ r64.toInt := h64_0
            have u68f_a1 : a1.toInt ≤ (8 : Int) := u6k0_a1
            have l68f_a1 : (0 : Int) ≤ a1.toInt := l6k0_a1
            obtain ⟨x71, ex71⟩ : ∃ y : Int32, y = j37l4 + Int32.ofInt 1 := ⟨_, rfl⟩
            refine lv_iinc (v := x71) (lv' := [(4, .int x71), (0, .ref a0), (1, .int a1), (2, .int a2), (5, .int j37l5)]) hx hb dX7_aliveBy_71 hl (k := 3) rfl ex71.symm (by decide) rfl (fun ls hl => ?_)
            exact (hK0 _ _ _).mp (J74 x71 _ _ _   hP hD hS (lv_sub hl [1, 2, 3, 0, 4] rfl))
    exact (hK0 _ _ _).mp (J37 730 0 0 _ _ _ (by have h1 : (0 : Int) ≤ (0 : Int32).toInt := zq5; have h2 : (0 : Int32).toInt ≤ (0 : Int) := zq6; omega) zq5 (Int.le_trans zq6 zq35) hP hD hS (lv_sub hl [3, 4, 5, 1, 0] rfl))
  · subst hw
    refine lv_istore_n (lv' := [(3, .int 1), (0, .ref a0), (1, .int a1), (2, .int a2)]) hx hb dX7_aliveBy_9 rfl hl (by decide) rfl (fun ls hl => ?_)
    refine lv_iload_n hx hb dX7_aliveBy_10 rfl (lv_at hl 0 rfl) ?_
    refine lv_if_eq (tgt := 20) hx hb dX7_aliveBy_11 (by decide) (fun c11 => absurd c11 (by decide +kernel)) (fun _ => ?_)
    refine lv_aload_n hx hb dX7_aliveBy_14 rfl (lv_at hl 1 rfl) ?_
    refine lv_iload_n hx hb dX7_aliveBy_15 rfl (lv_at hl 0 rfl) ?_
    obtain ⟨hPc, hDc, hFc, hCc⟩ := zc_cut (wc := [(a0, .inr (7, [a0g_0, a0g_1, a0g_2, a0g_3, a0g_4, .ref a0_5, a0g_6, .ref a0_7, .int a0_8, a0g_9, a0g_10]))]) hP hD hS hA [0] (by decide +kernel) rfl
    have hKc := hK.sub (tys' := []) [] rfl
    refine va_calli (va_runV (As := [.int 1]) (rest := []) ⟨hx, hb, hml, hown, hts⟩ (c_X7_refused l dC dI H.size a0 1 a0g_0 a0g_1 a0g_2 a0g_3 a0g_4 (.ref a0_5) a0g_6 (.ref a0_7) a0g_9 a0g_10 a0_8 ) (cwV 1 hts gX7_aliveBy_X7_refused rfl rfl rfl zd_X7_refused ⟨Nat.le_of_ble_eq_true rfl, Nat.le_of_ble_eq_true rfl⟩) ⟨ax_blind (fun _ _ _ _ _ => trivial), zr_7 hKc hPc (q0 := 0) rfl, ax_pre hPc hKc hDc (fun _ _ => trivial)⟩ rfl rfl hl.1 rfl (lv_room (Nat.le_of_ble_eq_true rfl)) dX7_aliveBy_16 ⟨Nat.le_of_ble_eq_true rfl, Nat.le_of_ble_eq_true rfl⟩) hS (fun q _ h => hFc q h) hFc (fun r16 u t H locs ht hvm hw hB hz1 hk1 hS => ?_)
    obtain ⟨v16na0_8, hP1, hK1, hD1⟩ := hB
    rw [ht] at hP1
    obtain ⟨hP, hD⟩ := zc_back (w := [(a0, .inr (7, [a0g_0, a0g_1, a0g_2, a0g_3, a0g_4, .ref a0_5, a0g_6, .ref a0_7, .int v16na0_8, a0g_9, a0g_10])), (a0_7, .inr (0, [.int a0_7_0, .int a0_7_1, a0_7g_2, a0_7g_3, a0_7g_4, a0_7g_5, a0_7g_6, a0_7g_7, a0_7g_8, .int a0_7_9, a0_7g_10, a0_7g_11, .ref a0_7_12, .ref a0_7_13, a0_7g_14])), (a0_5, .inr (2, [.int a0_5_0, a0_5g_1, a0_5g_2, .ref a0_5_3, a0_5g_4, .int a0_5_5, a0_5g_6])), (a0_5_3, .inl (ka0_5_3, 729, .inl (fa0_5_3))), (a0_7_13, .inl (ka0_7_13, 6, .inl (fa0_7_13))), (a0_7_12, .inl (ka0_7_12, 6, .inl (fa0_7_12)))]) hP hD hCc hk1 hFc hP1 hD1 [.inr 0, .inl 1, .inl 2, .inl 3, .inl 4, .inl 5] (by decide +kernel) rfl
    have hw : r16 = (-1) := hw
    have hw := hw.symm
    subst hw
    exact W.iret (v := (-1)) hx hb hr (fun t ht hW => ⟨⟨(-1), (), rfl, trivial, v16na0_8, a0_5_0, a0_5_5, fa0_5_3, ⟨ba0_5_0_l, ba0_5_0_u⟩, ⟨ba0_5_5_l, ba0_5_5_u⟩, bfa0_5_3, by rw [ht]; exact hP, va_K.moved hW.alike hK, hD⟩, hS.F ht⟩) hS.2.2 dX7_aliveBy_19
  · subst hw
    refine lv_istore_n (lv' := [(3, .int 2), (0, .ref a0), (1, .int a1), (2, .int a2)]) hx hb dX7_aliveBy_9 rfl hl (by decide) rfl (fun ls hl => ?_)
    refine lv_iload_n hx hb dX7_aliveBy_10 rfl (lv_at hl 0 rfl) ?_
    refine lv_if_eq (tgt := 20) hx hb dX7_aliveBy_11 (by decide) (fun c11 => absurd c11 (by decide +kernel)) (fun _ => ?_)
    refine lv_aload_n hx hb dX7_aliveBy_14 rfl (lv_at hl 1 rfl) ?_
    refine lv_iload_n hx hb dX7_aliveBy_15 rfl (lv_at hl 0 rfl) ?_
    obtain ⟨hPc, hDc, hFc, hCc⟩ := zc_cut (wc := [(a0, .inr (7, [a0g_0, a0g_1, a0g_2, a0g_3, a0g_4, .ref a0_5, a0g_6, .ref a0_7, .int a0_8, a0g_9, a0g_10]))]) hP hD hS hA [0] (by decide +kernel) rfl
    have hKc := hK.sub (tys' := []) [] rfl
    refine va_calli (va_runV (As := [.int 2]) (rest := []) ⟨hx, hb, hml, hown, hts⟩ (c_X7_refused l dC dI H.size a0 2 a0g_0 a0g_1 a0g_2 a0g_3 a0g_4 (.ref a0_5) a0g_6 (.ref a0_7) a0g_9 a0g_10 a0_8 ) (cwV 1 hts gX7_aliveBy_X7_refused rfl rfl rfl zd_X7_refused ⟨Nat.le_of_ble_eq_true rfl, Nat.le_of_ble_eq_true rfl⟩) ⟨ax_blind (fun _ _ _ _ _ => trivial), zr_7 hKc hPc (q0 := 0) rfl, ax_pre hPc hKc hDc (fun _ _ => trivial)⟩ rfl rfl hl.1 rfl (lv_room (Nat.le_of_ble_eq_true rfl)) dX7_aliveBy_16 ⟨Nat.le_of_ble_eq_true rfl, Nat.le_of_ble_eq_true rfl⟩) hS (fun q _ h => hFc q h) hFc (fun r16 u t H locs ht hvm hw hB hz1 hk1 hS => ?_)
    obtain ⟨v16na0_8, hP1, hK1, hD1⟩ := hB
    rw [ht] at hP1
    obtain ⟨hP, hD⟩ := zc_back (w := [(a0, .inr (7, [a0g_0, a0g_1, a0g_2, a0g_3, a0g_4, .ref a0_5, a0g_6, .ref a0_7, .int v16na0_8, a0g_9, a0g_10])), (a0_7, .inr (0, [.int a0_7_0, .int a0_7_1, a0_7g_2, a0_7g_3, a0_7g_4, a0_7g_5, a0_7g_6, a0_7g_7, a0_7g_8, .int a0_7_9, a0_7g_10, a0_7g_11, .ref a0_7_12, .ref a0_7_13, a0_7g_14])), (a0_5, .inr (2, [.int a0_5_0, a0_5g_1, a0_5g_2, .ref a0_5_3, a0_5g_4, .int a0_5_5, a0_5g_6])), (a0_5_3, .inl (ka0_5_3, 729, .inl (fa0_5_3))), (a0_7_13, .inl (ka0_7_13, 6, .inl (fa0_7_13))), (a0_7_12, .inl (ka0_7_12, 6, .inl (fa0_7_12)))]) hP hD hCc hk1 hFc hP1 hD1 [.inr 0, .inl 1, .inl 2, .inl 3, .inl 4, .inl 5] (by decide +kernel) rfl
    have hw : r16 = (-1) := hw
    have hw := hw.symm
    subst hw
    exact W.iret (v := (-1)) hx hb hr (fun t ht hW => ⟨⟨(-1), (), rfl, trivial, v16na0_8, a0_5_0, a0_5_5, fa0_5_3, ⟨ba0_5_0_l, ba0_5_0_u⟩, ⟨ba0_5_5_l, ba0_5_5_u⟩, bfa0_5_3, by rw [ht]; exact hP, va_K.moved hW.alike hK, hD⟩, hS.F ht⟩) hS.2.2 dX7_aliveBy_19
