set_option maxHeartbeats 4000000 in
set_option maxRecDepth 100000 in
theorem c_X7_look (l : Launch) (dC : Nat → ClassId) (dI : Nat → Nat → Nat) (sz : Nat) (a0 : Nat) (a0g_0 a0g_1 a0g_2 a0g_3 a0g_4 a0g_6 a0g_9 a0g_10 : Value) (a0_5 : Nat) (a0_7 : Nat) (a0_8 : Int32) (a0_7_0 : Int32) (a0_7_1 : Int32) (a0_7g_2 a0_7g_3 a0_7g_4 a0_7g_5 a0_7g_6 a0_7g_7 a0_7g_8 a0_7g_10 a0_7g_11 a0_7g_14 : Value) (a0_7_9 : Int32) (a0_7_12 : Nat) (a0_7_13 : Nat) (a0_5_0 : Int32) (a0_5_1 : Int32) (a0_5_2 : Int32) (a0_5_3 : Nat) (a0_5_4 : Nat) (a0_5_5 : Int32) (a0_5_6 : Int32) (ka0_5_3 : ClassId) (fa0_5_3 : Nat → Int32) (ka0_7_13 : ClassId) (fa0_7_13 : Nat → Int32) (ka0_7_12 : ClassId) (fa0_7_12 : Nat → Int32) (ka0_5_4 : ClassId) (fa0_5_4 : Nat → Int32) (ba0_7_0_l : (0 : Int) ≤ a0_7_0.toInt) (ba0_7_0_u : a0_7_0.toInt ≤ (9 : Int)) (ba0_7_9_l : (0 : Int) ≤ a0_7_9.toInt) (ba0_7_9_u : a0_7_9.toInt ≤ (6 : Int)) (ba0_5_0_l : (0 : Int) ≤ a0_5_0.toInt) (ba0_5_0_u : a0_5_0.toInt ≤ (729 : Int)) (ba0_5_5_l : (0 : Int) ≤ a0_5_5.toInt) (ba0_5_5_u : a0_5_5.toInt ≤ (1 : Int)) (ba0_5_6_l : (0 : Int) ≤ a0_5_6.toInt) (ba0_5_6_u : a0_5_6.toInt ≤ (1 : Int)) (bfa0_5_3 : (∀ k, (0 : Int) ≤ (fa0_5_3 k).toInt ∧ (fa0_5_3 k).toInt ≤ 888 ∧ (fa0_5_3 k).toInt % 10 ≤ 8)) (bfa0_7_13 : (∀ k, (0 : Int) ≤ (fa0_7_13 k).toInt ∧ (fa0_7_13 k).toInt ≤ 999)) : Met l yX7_look wsX7_look ({ frames := 5, cells := 0, slots := 0, locals := 122 }) (va_Pc [.ref a0] (ax_C dC dI sz [(a0, .inr (7, [a0g_0, a0g_1, a0g_2, a0g_3, a0g_4, .ref a0_5, a0g_6, .ref a0_7, .int a0_8, a0g_9, a0g_10])), (a0_7, .inr (0, [.int a0_7_0, .int a0_7_1, a0_7g_2, a0_7g_3, a0_7g_4, a0_7g_5, a0_7g_6, a0_7g_7, a0_7g_8, .int a0_7_9, a0_7g_10, a0_7g_11, .ref a0_7_12, .ref a0_7_13, a0_7g_14])), (a0_5, .inr (2, [.int a0_5_0, .int a0_5_1, .int a0_5_2, .ref a0_5_3, .ref a0_5_4, .int a0_5_5, .int a0_5_6])), (a0_5_3, .inl (ka0_5_3, 729, .inl (fa0_5_3))), (a0_7_13, .inl (ka0_7_13, 6, .inl (fa0_7_13))), (a0_7_12, .inl (ka0_7_12, 6, .inl (fa0_7_12))), (a0_5_4, .inl (ka0_5_4, 900, .inl (fa0_5_4)))] [(ka0_5_3, .int), (ka0_7_13, .int), (ka0_7_12, .int), (ka0_5_4, .int)] (fun U => va_Nw (.methodLinkNest RX0 72 yX7_laterTurn RX7) U))) (va_Qi (fun (r : Int32) (_ : Unit) => True) (fun (_ : Unit) (t : State) => ∃ na0_8 : Int32, ∃ na0_5_0 : Int32, ∃ na0_5_1 : Int32, ∃ na0_5_2 : Int32, ∃ na0_5_5 : Int32, ∃ na0_5_6 : Int32, ∃ nfa0_5_3 : Nat → Int32, ∃ nfa0_5_4 : Nat → Int32, ((0 : Int) ≤ na0_5_0.toInt ∧ na0_5_0.toInt ≤ 729) ∧ ((0 : Int) ≤ na0_5_5.toInt ∧ na0_5_5.toInt ≤ 1) ∧ ((0 : Int) ≤ na0_5_6.toInt ∧ na0_5_6.toInt ≤ 1) ∧ (∀ k, (0 : Int) ≤ (nfa0_5_3 k).toInt ∧ (nfa0_5_3 k).toInt ≤ 888 ∧ (nfa0_5_3 k).toInt % 10 ≤ 8) ∧ ax_B dC dI (va_A [(a0, .inr (7, [a0g_0, a0g_1, a0g_2, a0g_3, a0g_4, .ref a0_5, a0g_6, .ref a0_7, .int a0_8, a0g_9, a0g_10])), (a0_7, .inr (0, [.int a0_7_0, .int a0_7_1, a0_7g_2, a0_7g_3, a0_7g_4, a0_7g_5, a0_7g_6, a0_7g_7, a0_7g_8, .int a0_7_9, a0_7g_10, a0_7g_11, .ref a0_7_12, .ref a0_7_13, a0_7g_14])), (a0_5, .inr (2, [.int a0_5_0, .int a0_5_1, .int a0_5_2, .ref a0_5_3, .ref a0_5_4, .int a0_5_5, .int a0_5_6])), (a0_5_3, .inl (ka0_5_3, 729, .inl (fa0_5_3))), (a0_7_13, .inl (ka0_7_13, 6, .inl (fa0_7_13))), (a0_7_12, .inl (ka0_7_12, 6, .inl (fa0_7_12))), (a0_5_4, .inl (ka0_5_4, 900, .inl (fa0_5_4)))] sz) [(a0, .inr (7, [a0g_0, a0g_1, a0g_2, a0g_3, a0g_4, .ref a0_5, a0g_6, .ref a0_7, .int na0_8, a0g_9, a0g_10])), (a0_7, .inr (0, [.int a0_7_0, .int a0_7_1, a0_7g_2, a0_7g_3, a0_7g_4, a0_7g_5, a0_7g_6, a0_7g_7, a0_7g_8, .int a0_7_9, a0_7g_10, a0_7g_11, .ref a0_7_12, .ref a0_7_13, a0_7g_14])), (a0_5, .inr (2, [.int na0_5_0, .int na0_5_1, .int na0_5_2, .ref a0_5_3, .ref a0_5_4, .int na0_5_5, .int na0_5_6])), (a0_5_3, .inl (ka0_5_3, 729, .inl (nfa0_5_3))), (a0_7_13, .inl (ka0_7_13, 6, .inl (fa0_7_13))), (a0_7_12, .inl (ka0_7_12, 6, .inl (fa0_7_12))), (a0_5_4, .inl (ka0_5_4, 900, .inl (nfa0_5_4)))] [(ka0_5_3, .int), (ka0_7_13, .int), (ka0_7_12, .int), (ka0_5_4, .int)] t) (va_A [(a0, .inr (7, [a0g_0, a0g_1, a0g_2, a0g_3, a0g_4, .ref a0_5, a0g_6, .ref a0_7, .int a0_8, a0g_9, a0g_10])), (a0_7, .inr (0, [.int a0_7_0, .int a0_7_1, a0_7g_2, a0_7g_3, a0_7g_4, a0_7g_5, a0_7g_6, a0_7g_7, a0_7g_8, .int a0_7_9, a0_7g_10, a0_7g_11, .ref a0_7_12, .ref a0_7_13, a0_7g_14])), (a0_5, .inr (2, [.int a0_5_0, .int a0_5_1, .int a0_5_2, .ref a0_5_3, .ref a0_5_4, .int a0_5_5, .int a0_5_6])), (a0_5_3, .inl (ka0_5_3, 729, .inl (fa0_5_3))), (a0_7_13, .inl (ka0_7_13, 6, .inl (fa0_7_13))), (a0_7_12, .inl (ka0_7_12, 6, .inl (fa0_7_12))), (a0_5_4, .inl (ka0_5_4, 900, .inl (fa0_5_4)))] sz)) 0 0 (va_A [(a0, .inr (7, [a0g_0, a0g_1, a0g_2, a0g_3, a0g_4, .ref a0_5, a0g_6, .ref a0_7, .int a0_8, a0g_9, a0g_10])), (a0_7, .inr (0, [.int a0_7_0, .int a0_7_1, a0_7g_2, a0_7g_3, a0_7g_4, a0_7g_5, a0_7g_6, a0_7g_7, a0_7g_8, .int a0_7_9, a0_7g_10, a0_7g_11, .ref a0_7_12, .ref a0_7_13, a0_7g_14])), (a0_5, .inr (2, [.int a0_5_0, .int a0_5_1, .int a0_5_2, .ref a0_5_3, .ref a0_5_4, .int a0_5_5, .int a0_5_6])), (a0_5_3, .inl (ka0_5_3, 729, .inl (fa0_5_3))), (a0_7_13, .inl (ka0_7_13, 6, .inl (fa0_7_13))), (a0_7_12, .inl (ka0_7_12, 6, .inl (fa0_7_12))), (a0_5_4, .inl (ka0_5_4, 900, .inl (fa0_5_4)))] sz) := by
  refine Met.ofW (cc := cX7_look) (maxL := 1) (ret := (some .int)) (by decide) rfl ?_
  intro p e s m args below meth c s₁ B hml hv
  obtain ⟨rfl, hsz, hP, hK, hD0, hE⟩ := hv
  have hx := B.exec
  have hb := B.bytes
  have hr := B.returns
  have hts := atoms_spec (ws := wsX7_look) B.pre
  have hown : s.vm.findClass RX7 = some m.cls := findClass_of_methodNamed B.named
  have hlocks := B.notSynchronized
  subst hsz
  have hD := hD0.self (sz := s.heap.size)
  generalize hAe : va_A [(a0, .inr (7, [a0g_0, a0g_1, a0g_2, a0g_3, a0g_4, .ref a0_5, a0g_6, .ref a0_7, .int a0_8, a0g_9, a0g_10])), (a0_7, .inr (0, [.int a0_7_0, .int a0_7_1, a0_7g_2, a0_7g_3, a0_7g_4, a0_7g_5, a0_7g_6, a0_7g_7, a0_7g_8, .int a0_7_9, a0_7g_10, a0_7g_11, .ref a0_7_12, .ref a0_7_13, a0_7g_14])), (a0_5, .inr (2, [.int a0_5_0, .int a0_5_1, .int a0_5_2, .ref a0_5_3, .ref a0_5_4, .int a0_5_5, .int a0_5_6])), (a0_5_3, .inl (ka0_5_3, 729, .inl (fa0_5_3))), (a0_7_13, .inl (ka0_7_13, 6, .inl (fa0_7_13))), (a0_7_12, .inl (ka0_7_12, 6, .inl (fa0_7_12))), (a0_5_4, .inl (ka0_5_4, 900, .inl (fa0_5_4)))] s.heap.size = A at hD ⊢
  have hA : ∀ q : Nat, s.heap.size ≤ q → A q := fun q h => by rw [← hAe]; exact Or.inr h
  have hS : va_S A s.heap s.heap [] := va_S.rf
  have hP : va_P (dC, dI) vwCl [(a0, .inr (7, [a0g_0, a0g_1, a0g_2, a0g_3, a0g_4, .ref a0_5, a0g_6, .ref a0_7, .int a0_8, a0g_9, a0g_10])), (a0_7, .inr (0, [.int a0_7_0, .int a0_7_1, a0_7g_2, a0_7g_3, a0_7g_4, a0_7g_5, a0_7g_6, a0_7g_7, a0_7g_8, .int a0_7_9, a0_7g_10, a0_7g_11, .ref a0_7_12, .ref a0_7_13, a0_7g_14])), (a0_5, .inr (2, [.int a0_5_0, .int a0_5_1, .int a0_5_2, .ref a0_5_3, .ref a0_5_4, .int a0_5_5, .int a0_5_6])), (a0_5_3, .inl (ka0_5_3, 729, .inl (fa0_5_3))), (a0_7_13, .inl (ka0_7_13, 6, .inl (fa0_7_13))), (a0_7_12, .inl (ka0_7_12, 6, .inl (fa0_7_12))), (a0_5_4, .inl (ka0_5_4, 900, .inl (fa0_5_4)))] s.heap := hP
  have hE0 := hE
  have hl := lv_entry ([.ref a0]) (n := 1) (Nat.le_of_ble_eq_true rfl)
  rw [lg_entry_eq]
  generalize (lg_sl ([.ref a0]) ++ List.replicate (1 - (lg_sl ([.ref a0])).length) Slot.unset).toArray = ls at hl ⊢
  have hl : lv_has ls 1 [(0, .ref a0)] := hl
  refine lv_aload_n hx hb dX7_look_0 rfl (lv_at hl 0 rfl) ?_
  obtain ⟨hPc, hDc, hFc, hCc⟩ := zc_cut (wc := [(a0, .inr (7, [a0g_0, a0g_1, a0g_2, a0g_3, a0g_4, .ref a0_5, a0g_6, .ref a0_7, .int a0_8, a0g_9, a0g_10])), (a0_7, .inr (0, [.int a0_7_0, .int a0_7_1, a0_7g_2, a0_7g_3, a0_7g_4, a0_7g_5, a0_7g_6, a0_7g_7, a0_7g_8, .int a0_7_9, a0_7g_10, a0_7g_11, .ref a0_7_12, .ref a0_7_13, a0_7g_14]))]) hP hD hS hA [0, 1] (by decide +kernel) rfl
  have hKc := hK.sub (tys' := []) [] rfl
  refine va_calli (va_runV (As := []) (rest := []) ⟨hx, hb, hml, hown, hts⟩ (c_X7_hasGallery l dC dI s.heap.size a0 a0g_0 a0g_1 a0g_2 a0g_3 a0g_4 (.ref a0_5) a0g_6 (.int a0_8) a0g_9 a0g_10 a0_7 a0_7_0 (.int a0_7_1) a0_7g_2 a0_7g_3 a0_7g_4 a0_7g_5 a0_7g_6 a0_7g_7 a0_7g_8 (.int a0_7_9) a0_7g_10 a0_7g_11 (.ref a0_7_12) (.ref a0_7_13) a0_7g_14 ba0_7_0_l ba0_7_0_u) (cwV 0 hts gX7_look_X7_hasGallery rfl rfl rfl zd_X7_hasGallery ⟨Nat.le_of_ble_eq_true rfl, Nat.le_of_ble_eq_true rfl⟩) ⟨ax_blind (fun _ _ _ _ _ => trivial), zr_7 hKc hPc (q0 := 0) rfl, ax_pre hPc hKc hDc (fun _ _ => trivial)⟩ rfl rfl hl.1 rfl (lv_room (Nat.le_of_ble_eq_true rfl)) dX7_look_1 ⟨Nat.le_of_ble_eq_true rfl, Nat.le_of_ble_eq_true rfl⟩) hS (fun q _ h => hFc q h) hFc (fun r1 u t H locs ht hvm hw hB hz1 hk1 hS => ?_)
  obtain ⟨hP1, hK1, hD1⟩ := hB
  rw [ht] at hP1
  obtain ⟨hP, hD⟩ := zc_back (w := [(a0, .inr (7, [a0g_0, a0g_1, a0g_2, a0g_3, a0g_4, .ref a0_5, a0g_6, .ref a0_7, .int a0_8, a0g_9, a0g_10])), (a0_7, .inr (0, [.int a0_7_0, .int a0_7_1, a0_7g_2, a0_7g_3, a0_7g_4, a0_7g_5, a0_7g_6, a0_7g_7, a0_7g_8, .int a0_7_9, a0_7g_10, a0_7g_11, .ref a0_7_12, .ref a0_7_13, a0_7g_14])), (a0_5, .inr (2, [.int a0_5_0, .int a0_5_1, .int a0_5_2, .ref a0_5_3, .ref a0_5_4, .int a0_5_5, .int a0_5_6])), (a0_5_3, .inl (ka0_5_3, 729, .inl (fa0_5_3))), (a0_7_13, .inl (ka0_7_13, 6, .inl (fa0_7_13))), (a0_7_12, .inl (ka0_7_12, 6, .inl (fa0_7_12))), (a0_5_4, .inl (ka0_5_4, 900, .inl (fa0_5_4)))]) hP hD hCc hk1 hFc hP1 hD1 [.inr 0, .inr 1, .inl 2, .inl 3, .inl 4, .inl 5, .inl 6] (by decide +kernel) rfl
  rcases hw with hw | hw
  · obtain ⟨hw, h1_0, h1_1⟩ := hw
    subst hw
    have l1k0_a0_7_0 : (1 : Int) ≤ a0_7_0.toInt := h1_0
    have u1k0_a0_7_0 : a0_7_0.toInt ≤ (9 : Int) := ba0_7_0_u
    refine lv_if_ne (tgt := 13) hx hb dX7_look_4 (by decide) (fun _ => ?_) (fun c4 => absurd c4 (by decide +kernel))
    refine lv_aload_n hx hb dX7_look_13 rfl (lv_at hl 0 rfl) ?_
    refine va_get (D := (dC, dI)) (ci := 7) (v := .ref a0_5) (C := RX7) (T := TX7) (N := 11) hx hb hts zi_X7_look_7 hown hK hP 0 rfl rfl 5 (by decide) (hts (.fieldLink RX7 43 "WaxTurns" "laws" "LWaxTurns$Laws;") (zm_X7_look_r1 (List.mem_of_getElem? (i := 0) rfl))) (fun _ h9 => h9) rfl dX7_look_14 ?_
    refine lv_aload_n hx hb dX7_look_17 rfl (lv_at hl 0 rfl) ?_
    refine va_get (D := (dC, dI)) (ci := 7) (v := .ref a0_7) (C := RX7) (T := TX7) (N := 11) hx hb hts zi_X7_look_7 hown hK hP 0 rfl rfl 7 (by decide) (hts (.fieldLink RX7 57 "WaxTurns" "hall" "LWaxTurns$Hall;") (zm_X7_look_r1 (List.mem_of_getElem? (i := 1) rfl))) (fun _ h9 => h9) rfl dX7_look_18 ?_
    obtain ⟨hPc, hDc, hFc, hCc⟩ := zc_cut (wc := [(a0_5, .inr (2, [.int a0_5_0, .int a0_5_1, .int a0_5_2, .ref a0_5_3, .ref a0_5_4, .int a0_5_5, .int a0_5_6])), (a0_7, .inr (0, [.int a0_7_0, .int a0_7_1, a0_7g_2, a0_7g_3, a0_7g_4, a0_7g_5, a0_7g_6, a0_7g_7, a0_7g_8, .int a0_7_9, a0_7g_10, a0_7g_11, .ref a0_7_12, .ref a0_7_13, a0_7g_14])), (a0_5_3, .inl (ka0_5_3, 729, .inl (fa0_5_3))), (a0_7_13, .inl (ka0_7_13, 6, .inl (fa0_7_13))), (a0_7_12, .inl (ka0_7_12, 6, .inl (fa0_7_12))), (a0_5_4, .inl (ka0_5_4, 900, .inl (fa0_5_4)))]) hP hD hS hA [2, 1, 3, 4, 5, 6] (by decide +kernel) rfl
    have hKc := hK.sub (tys' := [(ka0_5_3, .int), (ka0_7_13, .int), (ka0_7_12, .int), (ka0_5_4, .int)]) [0, 1, 2, 3] rfl
    refine va_callv (va_runV (As := [.ref a0_7]) (rest := []) ⟨hx, hb, hml, hown, hts⟩ (c_X2_chooseLook l dC dI H.size a0_5 a0_7 a0_5_0 a0_5_1 a0_5_2 a0_5_3 a0_5_4 a0_5_5 a0_5_6 a0_7_0 a0_7_1 a0_7g_2 a0_7g_3 a0_7g_4 a0_7g_5 a0_7g_6 a0_7g_7 a0_7g_8 a0_7g_10 a0_7g_11 a0_7g_14 a0_7_9 a0_7_12 a0_7_13 ka0_5_3 fa0_5_3 ka0_7_13 fa0_7_13 ka0_7_12 fa0_7_12 ka0_5_4 fa0_5_4 ba0_5_0_l ba0_5_0_u ba0_5_5_l ba0_5_5_u ba0_5_6_l ba0_5_6_u (Int.le_trans zq4 l1k0_a0_7_0) u1k0_a0_7_0 ba0_7_9_l ba0_7_9_u bfa0_5_3 bfa0_7_13) (cwV 1 hts gX7_look_X2_chooseLook rfl rfl rfl zd_X2_chooseLook ⟨Nat.le_of_ble_eq_true rfl, Nat.le_of_ble_eq_true rfl⟩) ⟨ax_blind (fun _ _ _ _ hq => va_Nw.same rfl rfl (hq)), zr_2 hKc hPc (q0 := 0) rfl, ax_pre hPc hKc hDc (fun _ hW => va_Nw.warmM hW hE0)⟩ rfl rfl hl.1 rfl (lv_room (Nat.le_of_ble_eq_true rfl)) dX7_look_21 ⟨Nat.le_of_ble_eq_true rfl, Nat.le_of_ble_eq_true rfl⟩) hS (fun q _ h => hFc q h) hFc (fun u t H locs ht hvm hw hB hz1 hk1 hS => ?_)
    obtain ⟨v21na0_0, v21na0_1, v21na0_2, v21na0_5, v21na0_6, v21nfa0_3, v21nfa0_4, bv21na0_0, bv21na0_5, bv21na0_6, bv21nfa0_3, hP1, hK1, hD1⟩ := hB
    rw [ht] at hP1
    obtain ⟨hP, hD⟩ := zc_back (w := [(a0, .inr (7, [a0g_0, a0g_1, a0g_2, a0g_3, a0g_4, .ref a0_5, a0g_6, .ref a0_7, .int a0_8, a0g_9, a0g_10])), (a0_7, .inr (0, [.int a0_7_0, .int a0_7_1, a0_7g_2, a0_7g_3, a0_7g_4, a0_7g_5, a0_7g_6, a0_7g_7, a0_7g_8, .int a0_7_9, a0_7g_10, a0_7g_11, .ref a0_7_12, .ref a0_7_13, a0_7g_14])), (a0_5, .inr (2, [.int v21na0_0, .int v21na0_1, .int v21na0_2, .ref a0_5_3, .ref a0_5_4, .int v21na0_5, .int v21na0_6])), (a0_5_3, .inl (ka0_5_3, 729, .inl (v21nfa0_3))), (a0_7_13, .inl (ka0_7_13, 6, .inl (fa0_7_13))), (a0_7_12, .inl (ka0_7_12, 6, .inl (fa0_7_12))), (a0_5_4, .inl (ka0_5_4, 900, .inl (v21nfa0_4)))]) hP hD hCc hk1 hFc hP1 hD1 [.inl 0, .inr 1, .inr 0, .inr 2, .inr 3, .inr 4, .inr 5] (by decide +kernel) rfl
    refine lv_aload_n hx hb dX7_look_24 rfl (lv_at hl 0 rfl) ?_
    refine lv_aload_n hx hb dX7_look_25 rfl (lv_at hl 0 rfl) ?_
    refine va_get (D := (dC, dI)) (ci := 7) (v := .ref a0_5) (C := RX7) (T := TX7) (N := 11) hx hb hts zi_X7_look_7 hown hK hP 0 rfl rfl 5 (by decide) (hts (.fieldLink RX7 43 "WaxTurns" "laws" "LWaxTurns$Laws;") (zm_X7_look_r1 (List.mem_of_getElem? (i := 0) rfl))) (fun _ h9 => h9) rfl dX7_look_26 ?_
    refine va_get (D := (dC, dI)) (ci := 2) (v := .int v21na0_1) (C := RX2) (T := TX2) (N := 7) hx hb hts zi_X7_look_2 hown hK hP 2 rfl rfl 1 (by decide) (hts (.fieldLink RX7 275 "WaxTurns$Laws" "lookMinute" "I") (zm_X7_look_r1 (List.mem_of_getElem? (i := 2) rfl))) (fun _ h9 => h9) rfl dX7_look_29 ?_
    obtain ⟨hPc, hDc, hFc, hCc⟩ := zc_cut (wc := [(a0, .inr (7, [a0g_0, a0g_1, a0g_2, a0g_3, a0g_4, .ref a0_5, a0g_6, .ref a0_7, .int a0_8, a0g_9, a0g_10]))]) hP hD hS hA [0] (by decide +kernel) rfl
    have hKc := hK.sub (tys' := []) [] rfl
    refine va_calli (va_runV (As := [.int v21na0_1]) (rest := []) ⟨hx, hb, hml, hown, hts⟩ (c_X7_answered l dC dI H.size a0 v21na0_1 a0g_0 a0g_1 a0g_2 a0g_3 a0g_4 (.ref a0_5) a0g_6 (.ref a0_7) a0g_9 a0g_10 a0_8 ) (cwV 1 hts gX7_look_X7_answered rfl rfl rfl zd_X7_answered ⟨Nat.le_of_ble_eq_true rfl, Nat.le_of_ble_eq_true rfl⟩) ⟨ax_blind (fun _ _ _ _ _ => trivial), zr_7 hKc hPc (q0 := 0) rfl, ax_pre hPc hKc hDc (fun _ _ => trivial)⟩ rfl rfl hl.1 rfl (lv_room (Nat.le_of_ble_eq_true rfl)) dX7_look_32 ⟨Nat.le_of_ble_eq_true rfl, Nat.le_of_ble_eq_true rfl⟩) hS (fun q _ h => hFc q h) hFc (fun r32 u t H locs ht hvm hw hB hz1 hk1 hS => ?_)
    obtain ⟨v32na0_8, hP1, hK1, hD1⟩ := hB
    rw [ht] at hP1
    obtain ⟨hP, hD⟩ := zc_back (w := [(a0, .inr (7, [a0g_0, a0g_1, a0g_2, a0g_3, a0g_4, .ref a0_5, a0g_6, .ref a0_7, .int v32na0_8, a0g_9, a0g_10])), (a0_7, .inr (0, [.int a0_7_0, .int a0_7_1, a0_7g_2, a0_7g_3, a0_7g_4, a0_7g_5, a0_7g_6, a0_7g_7, a0_7g_8, .int a0_7_9, a0_7g_10, a0_7g_11, .ref a0_7_12, .ref a0_7_13, a0_7g_14])), (a0_5, .inr (2, [.int v21na0_0, .int v21na0_1, .int v21na0_2, .ref a0_5_3, .ref a0_5_4, .int v21na0_5, .int v21na0_6])), (a0_5_3, .inl (ka0_5_3, 729, .inl (v21nfa0_3))), (a0_7_13, .inl (ka0_7_13, 6, .inl (fa0_7_13))), (a0_7_12, .inl (ka0_7_12, 6, .inl (fa0_7_12))), (a0_5_4, .inl (ka0_5_4, 900, .inl (v21nfa0_4)))]) hP hD hCc hk1 hFc hP1 hD1 [.inr 0, .inl 1, .inl 2, .inl 3, .inl 4, .inl 5, .inl 6] (by decide +kernel) rfl
    have hw : r32 = v21na0_1 := hw
    have hw := hw.symm
    subst hw
    exact W.iret (v := v21na0_1) hx hb hr (fun t ht hW => ⟨⟨v21na0_1, (), rfl, trivial, v32na0_8, v21na0_0, v21na0_1, v21na0_2, v21na0_5, v21na0_6, v21nfa0_3, v21nfa0_4, ⟨bv21na0_0.1, bv21na0_0.2⟩, ⟨bv21na0_5.1, bv21na0_5.2⟩, ⟨bv21na0_6.1, bv21na0_6.2⟩, bv21nfa0_3, by rw [ht]; exact hP, va_K.moved hW.alike hK, hD⟩, hS.F ht⟩) hS.2.2 dX7_look_35
  · obtain ⟨hw, h1_0, h1_1⟩ := hw
    subst hw
    have l1k1_a0_7_0 : (0 : Int) ≤ a0_7_0.toInt := ba0_7_0_l
    have u1k1_a0_7_0 : a0_7_0.toInt ≤ (0 : Int) := h1_1
    refine lv_if_ne (tgt := 13) hx hb dX7_look_4 (by decide) (fun c4 => absurd (by decide +kernel) c4) (fun _ => ?_)
    refine lv_aload_n hx hb dX7_look_7 rfl (lv_at hl 0 rfl) ?_
    refine lv_iconst (v := 1) hx hb dX7_look_8 zk_iconst_1 ?_
    obtain ⟨hPc, hDc, hFc, hCc⟩ := zc_cut (wc := [(a0, .inr (7, [a0g_0, a0g_1, a0g_2, a0g_3, a0g_4, .ref a0_5, a0g_6, .ref a0_7, .int a0_8, a0g_9, a0g_10]))]) hP hD hS hA [0] (by decide +kernel) rfl
    have hKc := hK.sub (tys' := []) [] rfl
    refine va_calli (va_runV (As := [.int 1]) (rest := []) ⟨hx, hb, hml, hown, hts⟩ (c_X7_refused l dC dI H.size a0 1 a0g_0 a0g_1 a0g_2 a0g_3 a0g_4 (.ref a0_5) a0g_6 (.ref a0_7) a0g_9 a0g_10 a0_8 ) (cwV 1 hts gX7_look_X7_refused rfl rfl rfl zd_X7_refused ⟨Nat.le_of_ble_eq_true rfl, Nat.le_of_ble_eq_true rfl⟩) ⟨ax_blind (fun _ _ _ _ _ => trivial), zr_7 hKc hPc (q0 := 0) rfl, ax_pre hPc hKc hDc (fun _ _ => trivial)⟩ rfl rfl hl.1 rfl (lv_room (Nat.le_of_ble_eq_true rfl)) dX7_look_9 ⟨Nat.le_of_ble_eq_true rfl, Nat.le_of_ble_eq_true rfl⟩) hS (fun q _ h => hFc q h) hFc (fun r9 u t H locs ht hvm hw hB hz1 hk1 hS => ?_)
    obtain ⟨v9na0_8, hP1, hK1, hD1⟩ := hB
    rw [ht] at hP1
    obtain ⟨hP, hD⟩ := zc_back (w := [(a0, .inr (7, [a0g_0, a0g_1, a0g_2, a0g_3, a0g_4, .ref a0_5, a0g_6, .ref a0_7, .int v9na0_8, a0g_9, a0g_10])), (a0_7, .inr (0, [.int a0_7_0, .int a0_7_1, a0_7g_2, a0_7g_3, a0_7g_4, a0_7g_5, a0_7g_6, a0_7g_7, a0_7g_8, .int a0_7_9, a0_7g_10, a0_7g_11, .ref a0_7_12, .ref a0_7_13, a0_7g_14])), (a0_5, .inr (2, [.int a0_5_0, .int a0_5_1, .int a0_5_2, .ref a0_5_3, .ref a0_5_4, .int a0_5_5, .int a0_5_6])), (a0_5_3, .inl (ka0_5_3, 729, .inl (fa0_5_3))), (a0_7_13, .inl (ka0_7_13, 6, .inl (fa0_7_13))), (a0_7_12, .inl (ka0_7_12, 6, .inl (fa0_7_12))), (a0_5_4, .inl (ka0_5_4, 900, .inl (fa0_5_4)))]) hP hD hCc hk1 hFc hP1 hD1 [.inr 0, .inl 1, .inl 2, .inl 3, .inl 4, .inl 5, .inl 6] (by decide +kernel) rfl
    have hw : r9 = (-1) := hw
    have hw := hw.symm
    subst hw
    exact W.iret (v := (-1)) hx hb hr (fun t ht hW => ⟨⟨(-1), (), rfl, trivial, v9na0_8, a0_5_0, a0_5_1, a0_5_2, a0_5_5, a0_5_6, fa0_5_3, fa0_5_4, ⟨ba0_5_0_l, ba0_5_0_u⟩, ⟨ba0_5_5_l, ba0_5_5_u⟩, ⟨ba0_5_6_l, ba0_5_6_u⟩, bfa0_5_3, by rw [ht]; exact hP, va_K.moved hW.alike hK, hD⟩, hS.F ht⟩) hS.2.2 dX7_look_12

set_option maxHeartbeats 4000000 in
set_option maxRecDepth 100000 in
theorem c_X7_lookLeaves (l : Launch) (dC : Nat → ClassId) (dI : Nat → Nat → Nat) (sz : Nat) (a0 : Nat) (a0g_0 a0g_1 a0g_2 a0g_3 a0g_4 a0g_6 a0g_9 a0g_10 : Value) (a0_5 : Nat) (a0_7 : Nat) (a0_8 : Int32) (a0_7_0 : Int32) (a0_7_1 : Int32) (a0_7g_2 a0_7g_3 a0_7g_4 a0_7g_5 a0_7g_6 a0_7g_7 a0_7g_8 a0_7g_10 a0_7g_11 a0_7g_14 : Value) (a0_7_9 : Int32) (a0_7_12 : Nat) (a0_7_13 : Nat) (a0_5_0 : Int32) (a0_5_1 : Int32) (a0_5_2 : Int32) (a0_5_3 : Nat) (a0_5_4 : Nat) (a0_5_5 : Int32) (a0_5_6 : Int32) (ka0_5_3 : ClassId) (fa0_5_3 : Nat → Int32) (ka0_7_13 : ClassId) (fa0_7_13 : Nat → Int32) (ka0_7_12 : ClassId) (fa0_7_12 : Nat → Int32) (ka0_5_4 : ClassId) (fa0_5_4 : Nat → Int32) (ba0_7_0_l : (0 : Int) ≤ a0_7_0.toInt) (ba0_7_0_u : a0_7_0.toInt ≤ (9 : Int)) (ba0_7_9_l : (0 : Int) ≤ a0_7_9.toInt) (ba0_7_9_u : a0_7_9.toInt ≤ (6 : Int)) (ba0_5_0_l : (0 : Int) ≤ a0_5_0.toInt) (ba0_5_0_u : a0_5_0.toInt ≤ (729 : Int)) (ba0_5_5_l : (0 : Int) ≤ a0_5_5.toInt) (ba0_5_5_u : a0_5_5.toInt ≤ (1 : Int)) (ba0_5_6_l : (0 : Int) ≤ a0_5_6.toInt) (ba0_5_6_u : a0_5_6.toInt ≤ (1 : Int)) (bfa0_5_3 : (∀ k, (0 : Int) ≤ (fa0_5_3 k).toInt ∧ (fa0_5_3 k).toInt ≤ 888 ∧ (fa0_5_3 k).toInt % 10 ≤ 8)) (bfa0_7_13 : (∀ k, (0 : Int) ≤ (fa0_7_13 k).toInt ∧ (fa0_7_13 k).toInt ≤ 999)) : Met l yX7_lookLeaves wsX7_lookLeaves ({ frames := 5, cells := 0, slots := 0, locals := 122 }) (va_Pc [.ref a0] (ax_C dC dI sz [(a0, .inr (7, [a0g_0, a0g_1, a0g_2, a0g_3, a0g_4, .ref a0_5, a0g_6, .ref a0_7, .int a0_8, a0g_9, a0g_10])), (a0_7, .inr (0, [.int a0_7_0, .int a0_7_1, a0_7g_2, a0_7g_3, a0_7g_4, a0_7g_5, a0_7g_6, a0_7g_7, a0_7g_8, .int a0_7_9, a0_7g_10, a0_7g_11, .ref a0_7_12, .ref a0_7_13, a0_7g_14])), (a0_5, .inr (2, [.int a0_5_0, .int a0_5_1, .int a0_5_2, .ref a0_5_3, .ref a0_5_4, .int a0_5_5, .int a0_5_6])), (a0_5_3, .inl (ka0_5_3, 729, .inl (fa0_5_3))), (a0_7_13, .inl (ka0_7_13, 6, .inl (fa0_7_13))), (a0_7_12, .inl (ka0_7_12, 6, .inl (fa0_7_12))), (a0_5_4, .inl (ka0_5_4, 900, .inl (fa0_5_4)))] [(ka0_5_3, .int), (ka0_7_13, .int), (ka0_7_12, .int), (ka0_5_4, .int)] (fun U => va_Nw (.methodLinkNest RX0 72 yX7_laterTurn RX7) U))) (va_Qi (fun (r : Int32) (_ : Unit) => True) (fun (_ : Unit) (t : State) => ∃ na0_8 : Int32, ∃ na0_5_0 : Int32, ∃ na0_5_1 : Int32, ∃ na0_5_2 : Int32, ∃ na0_5_5 : Int32, ∃ na0_5_6 : Int32, ∃ nfa0_5_3 : Nat → Int32, ∃ nfa0_5_4 : Nat → Int32, ((0 : Int) ≤ na0_5_0.toInt ∧ na0_5_0.toInt ≤ 729) ∧ ((0 : Int) ≤ na0_5_5.toInt ∧ na0_5_5.toInt ≤ 1) ∧ ((0 : Int) ≤ na0_5_6.toInt ∧ na0_5_6.toInt ≤ 1) ∧ (∀ k, (0 : Int) ≤ (nfa0_5_3 k).toInt ∧ (nfa0_5_3 k).toInt ≤ 888 ∧ (nfa0_5_3 k).toInt % 10 ≤ 8) ∧ ax_B dC dI (va_A [(a0, .inr (7, [a0g_0, a0g_1, a0g_2, a0g_3, a0g_4, .ref a0_5, a0g_6, .ref a0_7, .int a0_8, a0g_9, a0g_10])), (a0_7, .inr (0, [.int a0_7_0, .int a0_7_1, a0_7g_2, a0_7g_3, a0_7g_4, a0_7g_5, a0_7g_6, a0_7g_7, a0_7g_8, .int a0_7_9, a0_7g_10, a0_7g_11, .ref a0_7_12, .ref a0_7_13, a0_7g_14])), (a0_5, .inr (2, [.int a0_5_0, .int a0_5_1, .int a0_5_2, .ref a0_5_3, .ref a0_5_4, .int a0_5_5, .int a0_5_6])), (a0_5_3, .inl (ka0_5_3, 729, .inl (fa0_5_3))), (a0_7_13, .inl (ka0_7_13, 6, .inl (fa0_7_13))), (a0_7_12, .inl (ka0_7_12, 6, .inl (fa0_7_12))), (a0_5_4, .inl (ka0_5_4, 900, .inl (fa0_5_4)))] sz) [(a0, .inr (7, [a0g_0, a0g_1, a0g_2, a0g_3, a0g_4, .ref a0_5, a0g_6, .ref a0_7, .int na0_8, a0g_9, a0g_10])), (a0_7, .inr (0, [.int a0_7_0, .int a0_7_1, a0_7g_2, a0_7g_3, a0_7g_4, a0_7g_5, a0_7g_6, a0_7g_7, a0_7g_8, .int a0_7_9, a0_7g_10, a0_7g_11, .ref a0_7_12, .ref a0_7_13, a0_7g_14])), (a0_5, .inr (2, [.int na0_5_0, .int na0_5_1, .int na0_5_2, .ref a0_5_3, .ref a0_5_4, .int na0_5_5, .int na0_5_6])), (a0_5_3, .inl (ka0_5_3, 729, .inl (nfa0_5_3))), (a0_7_13, .inl (ka0_7_13, 6, .inl (fa0_7_13))), (a0_7_12, .inl (ka0_7_12, 6, .inl (fa0_7_12))), (a0_5_4, .inl (ka0_5_4, 900, .inl (nfa0_5_4)))] [(ka0_5_3, .int), (ka0_7_13, .int), (ka0_7_12, .int), (ka0_5_4, .int)] t) (va_A [(a0, .inr (7, [a0g_0, a0g_1, a0g_2, a0g_3, a0g_4, .ref a0_5, a0g_6, .ref a0_7, .int a0_8, a0g_9, a0g_10])), (a0_7, .inr (0, [.int a0_7_0, .int a0_7_1, a0_7g_2, a0_7g_3, a0_7g_4, a0_7g_5, a0_7g_6, a0_7g_7, a0_7g_8, .int a0_7_9, a0_7g_10, a0_7g_11, .ref a0_7_12, .ref a0_7_13, a0_7g_14])), (a0_5, .inr (2, [.int a0_5_0, .int a0_5_1, .int a0_5_2, .ref a0_5_3, .ref a0_5_4, .int a0_5_5, .int a0_5_6])), (a0_5_3, .inl (ka0_5_3, 729, .inl (fa0_5_3))), (a0_7_13, .inl (ka0_7_13, 6, .inl (fa0_7_13))), (a0_7_12, .inl (ka0_7_12, 6, .inl (fa0_7_12))), (a0_5_4, .inl (ka0_5_4, 900, .inl (fa0_5_4)))] sz)) 0 0 (va_A [(a0, .inr (7, [a0g_0, a0g_1, a0g_2, a0g_3, a0g_4, .ref a0_5, a0g_6, .ref a0_7, .int a0_8, a0g_9, a0g_10])), (a0_7, .inr (0, [.int a0_7_0, .int a0_7_1, a0_7g_2, a0_7g_3, a0_7g_4, a0_7g_5, a0_7g_6, a0_7g_7, a0_7g_8, .int a0_7_9, a0_7g_10, a0_7g_11, .ref a0_7_12, .ref a0_7_13, a0_7g_14])), (a0_5, .inr (2, [.int a0_5_0, .int a0_5_1, .int a0_5_2, .ref a0_5_3, .ref a0_5_4, .int a0_5_5, .int a0_5_6])), (a0_5_3, .inl (ka0_5_3, 729, .inl (fa0_5_3))), (a0_7_13, .inl (ka0_7_13, 6, .inl (fa0_7_13))), (a0_7_12, .inl (ka0_7_12, 6, .inl (fa0_7_12))), (a0_5_4, .inl (ka0_5_4, 900, .inl (fa0_5_4)))] sz) := by
  refine Met.ofW (cc := cX7_lookLeaves) (maxL := 1) (ret := (some .int)) (by decide) rfl ?_
  intro p e s m args below meth c s₁ B hml hv
  obtain ⟨rfl, hsz, hP, hK, hD0, hE⟩ := hv
  have hx := B.exec
  have hb := B.bytes
  have hr := B.returns
  have hts := atoms_spec (ws := wsX7_lookLeaves) B.pre
  have hown : s.vm.findClass RX7 = some m.cls := findClass_of_methodNamed B.named
  have hlocks := B.notSynchronized
  subst hsz
  have hD := hD0.self (sz := s.heap.size)
  generalize hAe : va_A [(a0, .inr (7, [a0g_0, a0g_1, a0g_2, a0g_3, a0g_4, .ref a0_5, a0g_6, .ref a0_7, .int a0_8, a0g_9, a0g_10])), (a0_7, .inr (0, [.int a0_7_0, .int a0_7_1, a0_7g_2, a0_7g_3, a0_7g_4, a0_7g_5, a0_7g_6, a0_7g_7, a0_7g_8, .int a0_7_9, a0_7g_10, a0_7g_11, .ref a0_7_12, .ref a0_7_13, a0_7g_14])), (a0_5, .inr (2, [.int a0_5_0, .int a0_5_1, .int a0_5_2, .ref a0_5_3, .ref a0_5_4, .int a0_5_5, .int a0_5_6])), (a0_5_3, .inl (ka0_5_3, 729, .inl (fa0_5_3))), (a0_7_13, .inl (ka0_7_13, 6, .inl (fa0_7_13))), (a0_7_12, .inl (ka0_7_12, 6, .inl (fa0_7_12))), (a0_5_4, .inl (ka0_5_4, 900, .inl (fa0_5_4)))] s.heap.size = A at hD ⊢
  have hA : ∀ q : Nat, s.heap.size ≤ q → A q := fun q h => by rw [← hAe]; exact Or.inr h
  have hS : va_S A s.heap s.heap [] := va_S.rf
  have hP : va_P (dC, dI) vwCl [(a0, .inr (7, [a0g_0, a0g_1, a0g_2, a0g_3, a0g_4, .ref a0_5, a0g_6, .ref a0_7, .int a0_8, a0g_9, a0g_10])), (a0_7, .inr (0, [.int a0_7_0, .int a0_7_1, a0_7g_2, a0_7g_3, a0_7g_4, a0_7g_5, a0_7g_6, a0_7g_7, a0_7g_8, .int a0_7_9, a0_7g_10, a0_7g_11, .ref a0_7_12, .ref a0_7_13, a0_7g_14])), (a0_5, .inr (2, [.int a0_5_0, .int a0_5_1, .int a0_5_2, .ref a0_5_3, .ref a0_5_4, .int a0_5_5, .int a0_5_6])), (a0_5_3, .inl (ka0_5_3, 729, .inl (fa0_5_3))), (a0_7_13, .inl (ka0_7_13, 6, .inl (fa0_7_13))), (a0_7_12, .inl (ka0_7_12, 6, .inl (fa0_7_12))), (a0_5_4, .inl (ka0_5_4, 900, .inl (fa0_5_4)))] s.heap := hP
  have hE0 := hE
  have hl := lv_entry ([.ref a0]) (n := 1) (Nat.le_of_ble_eq_true rfl)
  rw [lg_entry_eq]
  generalize (lg_sl ([.ref a0]) ++ List.replicate (1 - (lg_sl ([.ref a0])).length) Slot.unset).toArray = ls at hl ⊢
  have hl : lv_has ls 1 [(0, .ref a0)] := hl
  refine lv_aload_n hx hb dX7_lookLeaves_0 rfl (lv_at hl 0 rfl) ?_
  obtain ⟨hPc, hDc, hFc, hCc⟩ := zc_cut (wc := [(a0, .inr (7, [a0g_0, a0g_1, a0g_2, a0g_3, a0g_4, .ref a0_5, a0g_6, .ref a0_7, .int a0_8, a0g_9, a0g_10])), (a0_7, .inr (0, [.int a0_7_0, .int a0_7_1, a0_7g_2, a0_7g_3, a0_7g_4, a0_7g_5, a0_7g_6, a0_7g_7, a0_7g_8, .int a0_7_9, a0_7g_10, a0_7g_11, .ref a0_7_12, .ref a0_7_13, a0_7g_14]))]) hP hD hS hA [0, 1] (by decide +kernel) rfl
  have hKc := hK.sub (tys' := []) [] rfl
  refine va_calli (va_runV (As := []) (rest := []) ⟨hx, hb, hml, hown, hts⟩ (c_X7_hasGallery l dC dI s.heap.size a0 a0g_0 a0g_1 a0g_2 a0g_3 a0g_4 (.ref a0_5) a0g_6 (.int a0_8) a0g_9 a0g_10 a0_7 a0_7_0 (.int a0_7_1) a0_7g_2 a0_7g_3 a0_7g_4 a0_7g_5 a0_7g_6 a0_7g_7 a0_7g_8 (.int a0_7_9) a0_7g_10 a0_7g_11 (.ref a0_7_12) (.ref a0_7_13) a0_7g_14 ba0_7_0_l ba0_7_0_u) (cwV 0 hts gX7_lookLeaves_X7_hasGallery rfl rfl rfl zd_X7_hasGallery ⟨Nat.le_of_ble_eq_true rfl, Nat.le_of_ble_eq_true rfl⟩) ⟨ax_blind (fun _ _ _ _ _ => trivial), zr_7 hKc hPc (q0 := 0) rfl, ax_pre hPc hKc hDc (fun _ _ => trivial)⟩ rfl rfl hl.1 rfl (lv_room (Nat.le_of_ble_eq_true rfl)) dX7_lookLeaves_1 ⟨Nat.le_of_ble_eq_true rfl, Nat.le_of_ble_eq_true rfl⟩) hS (fun q _ h => hFc q h) hFc (fun r1 u t H locs ht hvm hw hB hz1 hk1 hS => ?_)
  obtain ⟨hP1, hK1, hD1⟩ := hB
  rw [ht] at hP1
  obtain ⟨hP, hD⟩ := zc_back (w := [(a0, .inr (7, [a0g_0, a0g_1, a0g_2, a0g_3, a0g_4, .ref a0_5, a0g_6, .ref a0_7, .int a0_8, a0g_9, a0g_10])), (a0_7, .inr (0, [.int a0_7_0, .int a0_7_1, a0_7g_2, a0_7g_3, a0_7g_4, a0_7g_5, a0_7g_6, a0_7g_7, a0_7g_8, .int a0_7_9, a0_7g_10, a0_7g_11, .ref a0_7_12, .ref a0_7_13, a0_7g_14])), (a0_5, .inr (2, [.int a0_5_0, .int a0_5_1, .int a0_5_2, .ref a0_5_3, .ref a0_5_4, .int a0_5_5, .int a0_5_6])), (a0_5_3, .inl (ka0_5_3, 729, .inl (fa0_5_3))), (a0_7_13, .inl (ka0_7_13, 6, .inl (fa0_7_13))), (a0_7_12, .inl (ka0_7_12, 6, .inl (fa0_7_12))), (a0_5_4, .inl (ka0_5_4, 900, .inl (fa0_5_4)))]) hP hD hCc hk1 hFc hP1 hD1 [.inr 0, .inr 1, .inl 2, .inl 3, .inl 4, .inl 5, .inl 6] (by decide +kernel) rfl
  rcases hw with hw | hw
  · obtain ⟨hw, h1_0, h1_1⟩ := hw
    subst hw
    have l1k0_a0_7_0 : (1 : Int) ≤ a0_7_0.toInt := h1_0
    have u1k0_a0_7_0 : a0_7_0.toInt ≤ (9 : Int) := ba0_7_0_u
    refine lv_if_ne (tgt := 13) hx hb dX7_lookLeaves_4 (by decide) (fun _ => ?_) (fun c4 => absurd c4 (by decide +kernel))
    refine lv_aload_n hx hb dX7_lookLeaves_13 rfl (lv_at hl 0 rfl) ?_
    refine va_get (D := (dC, dI)) (ci := 7) (v := .ref a0_5) (C := RX7) (T := TX7) (N := 11) hx hb hts zi_X7_lookLeaves_7 hown hK hP 0 rfl rfl 5 (by decide) (hts (.fieldLink RX7 43 "WaxTurns" "laws" "LWaxTurns$Laws;") (zm_X7_lookLeaves_r1 (List.mem_of_getElem? (i := 0) rfl))) (fun _ h9 => h9) rfl dX7_lookLeaves_14 ?_
    refine lv_aload_n hx hb dX7_lookLeaves_17 rfl (lv_at hl 0 rfl) ?_
    refine va_get (D := (dC, dI)) (ci := 7) (v := .ref a0_7) (C := RX7) (T := TX7) (N := 11) hx hb hts zi_X7_lookLeaves_7 hown hK hP 0 rfl rfl 7 (by decide) (hts (.fieldLink RX7 57 "WaxTurns" "hall" "LWaxTurns$Hall;") (zm_X7_lookLeaves_r1 (List.mem_of_getElem? (i := 1) rfl))) (fun _ h9 => h9) rfl dX7_lookLeaves_18 ?_
    obtain ⟨hPc, hDc, hFc, hCc⟩ := zc_cut (wc := [(a0_5, .inr (2, [.int a0_5_0, .int a0_5_1, .int a0_5_2, .ref a0_5_3, .ref a0_5_4, .int a0_5_5, .int a0_5_6])), (a0_7, .inr (0, [.int a0_7_0, .int a0_7_1, a0_7g_2, a0_7g_3, a0_7g_4, a0_7g_5, a0_7g_6, a0_7g_7, a0_7g_8, .int a0_7_9, a0_7g_10, a0_7g_11, .ref a0_7_12, .ref a0_7_13, a0_7g_14])), (a0_5_3, .inl (ka0_5_3, 729, .inl (fa0_5_3))), (a0_7_13, .inl (ka0_7_13, 6, .inl (fa0_7_13))), (a0_7_12, .inl (ka0_7_12, 6, .inl (fa0_7_12))), (a0_5_4, .inl (ka0_5_4, 900, .inl (fa0_5_4)))]) hP hD hS hA [2, 1, 3, 4, 5, 6] (by decide +kernel) rfl
    have hKc := hK.sub (tys' := [(ka0_5_3, .int), (ka0_7_13, .int), (ka0_7_12, .int), (ka0_5_4, .int)]) [0, 1, 2, 3] rfl
    refine va_callv (va_runV (As := [.ref a0_7]) (rest := []) ⟨hx, hb, hml, hown, hts⟩ (c_X2_chooseLook l dC dI H.size a0_5 a0_7 a0_5_0 a0_5_1 a0_5_2 a0_5_3 a0_5_4 a0_5_5 a0_5_6 a0_7_0 a0_7_1 a0_7g_2 a0_7g_3 a0_7g_4 a0_7g_5 a0_7g_6 a0_7g_7 a0_7g_8 a0_7g_10 a0_7g_11 a0_7g_14 a0_7_9 a0_7_12 a0_7_13 ka0_5_3 fa0_5_3 ka0_7_13 fa0_7_13 ka0_7_12 fa0_7_12 ka0_5_4 fa0_5_4 ba0_5_0_l ba0_5_0_u ba0_5_5_l ba0_5_5_u ba0_5_6_l ba0_5_6_u (Int.le_trans zq4 l1k0_a0_7_0) u1k0_a0_7_0 ba0_7_9_l ba0_7_9_u bfa0_5_3 bfa0_7_13) (cwV 1 hts gX7_lookLeaves_X2_chooseLook rfl rfl rfl zd_X2_chooseLook ⟨Nat.le_of_ble_eq_true rfl, Nat.le_of_ble_eq_true rfl⟩) ⟨ax_blind (fun _ _ _ _ hq => va_Nw.same rfl rfl (hq)), zr_2 hKc hPc (q0 := 0) rfl, ax_pre hPc hKc hDc (fun _ hW => va_Nw.warmM hW hE0)⟩ rfl rfl hl.1 rfl (lv_room (Nat.le_of_ble_eq_true rfl)) dX7_lookLeaves_21 ⟨Nat.le_of_ble_eq_true rfl, Nat.le_of_ble_eq_true rfl⟩) hS (fun q _ h => hFc q h) hFc (fun u t H locs ht hvm hw hB hz1 hk1 hS => ?_)
    obtain ⟨v21na0_0, v21na0_1, v21na0_2, v21na0_5, v21na0_6, v21nfa0_3, v21nfa0_4, bv21na0_0, bv21na0_5, bv21na0_6, bv21nfa0_3, hP1, hK1, hD1⟩ := hB
    rw [ht] at hP1
    obtain ⟨hP, hD⟩ := zc_back (w := [(a0, .inr (7, [a0g_0, a0g_1, a0g_2, a0g_3, a0g_4, .ref a0_5, a0g_6, .ref a0_7, .int a0_8, a0g_9, a0g_10])), (a0_7, .inr (0, [.int a0_7_0, .int a0_7_1, a0_7g_2, a0_7g_3, a0_7g_4, a0_7g_5, a0_7g_6, a0_7g_7, a0_7g_8, .int a0_7_9, a0_7g_10, a0_7g_11, .ref a0_7_12, .ref a0_7_13, a0_7g_14])), (a0_5, .inr (2, [.int v21na0_0, .int v21na0_1, .int v21na0_2, .ref a0_5_3, .ref a0_5_4, .int v21na0_5, .int v21na0_6])), (a0_5_3, .inl (ka0_5_3, 729, .inl (v21nfa0_3))), (a0_7_13, .inl (ka0_7_13, 6, .inl (fa0_7_13))), (a0_7_12, .inl (ka0_7_12, 6, .inl (fa0_7_12))), (a0_5_4, .inl (ka0_5_4, 900, .inl (v21nfa0_4)))]) hP hD hCc hk1 hFc hP1 hD1 [.inl 0, .inr 1, .inr 0, .inr 2, .inr 3, .inr 4, .inr 5] (by decide +kernel) rfl
    refine lv_aload_n hx hb dX7_lookLeaves_24 rfl (lv_at hl 0 rfl) ?_
    refine lv_aload_n hx hb dX7_lookLeaves_25 rfl (lv_at hl 0 rfl) ?_
    refine va_get (D := (dC, dI)) (ci := 7) (v := .ref a0_5) (C := RX7) (T := TX7) (N := 11) hx hb hts zi_X7_lookLeaves_7 hown hK hP 0 rfl rfl 5 (by decide) (hts (.fieldLink RX7 43 "WaxTurns" "laws" "LWaxTurns$Laws;") (zm_X7_lookLeaves_r1 (List.mem_of_getElem? (i := 0) rfl))) (fun _ h9 => h9) rfl dX7_lookLeaves_26 ?_
    refine va_get (D := (dC, dI)) (ci := 2) (v := .int v21na0_2) (C := RX2) (T := TX2) (N := 7) hx hb hts zi_X7_lookLeaves_2 hown hK hP 2 rfl rfl 2 (by decide) (hts (.fieldLink RX7 278 "WaxTurns$Laws" "lookMost" "I") (zm_X7_lookLeaves_r1 (List.mem_of_getElem? (i := 2) rfl))) (fun _ h9 => h9) rfl dX7_lookLeaves_29 ?_
    obtain ⟨hPc, hDc, hFc, hCc⟩ := zc_cut (wc := [(a0, .inr (7, [a0g_0, a0g_1, a0g_2, a0g_3, a0g_4, .ref a0_5, a0g_6, .ref a0_7, .int a0_8, a0g_9, a0g_10]))]) hP hD hS hA [0] (by decide +kernel) rfl
    have hKc := hK.sub (tys' := []) [] rfl
    refine va_calli (va_runV (As := [.int v21na0_2]) (rest := []) ⟨hx, hb, hml, hown, hts⟩ (c_X7_answered l dC dI H.size a0 v21na0_2 a0g_0 a0g_1 a0g_2 a0g_3 a0g_4 (.ref a0_5) a0g_6 (.ref a0_7) a0g_9 a0g_10 a0_8 ) (cwV 1 hts gX7_lookLeaves_X7_answered rfl rfl rfl zd_X7_answered ⟨Nat.le_of_ble_eq_true rfl, Nat.le_of_ble_eq_true rfl⟩) ⟨ax_blind (fun _ _ _ _ _ => trivial), zr_7 hKc hPc (q0 := 0) rfl, ax_pre hPc hKc hDc (fun _ _ => trivial)⟩ rfl rfl hl.1 rfl (lv_room (Nat.le_of_ble_eq_true rfl)) dX7_lookLeaves_32 ⟨Nat.le_of_ble_eq_true rfl, Nat.le_of_ble_eq_true rfl⟩) hS (fun q _ h => hFc q h) hFc (fun r32 u t H locs ht hvm hw hB hz1 hk1 hS => ?_)
    obtain ⟨v32na0_8, hP1, hK1, hD1⟩ := hB
    rw [ht] at hP1
    obtain ⟨hP, hD⟩ := zc_back (w := [(a0, .inr (7, [a0g_0, a0g_1, a0g_2, a0g_3, a0g_4, .ref a0_5, a0g_6, .ref a0_7, .int v32na0_8, a0g_9, a0g_10])), (a0_7, .inr (0, [.int a0_7_0, .int a0_7_1, a0_7g_2, a0_7g_3, a0_7g_4, a0_7g_5, a0_7g_6, a0_7g_7, a0_7g_8, .int a0_7_9, a0_7g_10, a0_7g_11, .ref a0_7_12, .ref a0_7_13, a0_7g_14])), (a0_5, .inr (2, [.int v21na0_0, .int v21na0_1, .int v21na0_2, .ref a0_5_3, .ref a0_5_4, .int v21na0_5, .int v21na0_6])), (a0_5_3, .inl (ka0_5_3, 729, .inl (v21nfa0_3))), (a0_7_13, .inl (ka0_7_13, 6, .inl (fa0_7_13))), (a0_7_12, .inl (ka0_7_12, 6, .inl (fa0_7_12))), (a0_5_4, .inl (ka0_5_4, 900, .inl (v21nfa0_4)))]) hP hD hCc hk1 hFc hP1 hD1 [.inr 0, .inl 1, .inl 2, .inl 3, .inl 4, .inl 5, .inl 6] (by decide +kernel) rfl
    have hw : r32 = v21na0_2 := hw
    have hw := hw.symm
    subst hw
    exact W.iret (v := v21na0_2) hx hb hr (fun t ht hW => ⟨⟨v21na0_2, (), rfl, trivial, v32na0_8, v21na0_0, v21na0_1, v21na0_2, v21na0_5, v21na0_6, v21nfa0_3, v21nfa0_4, ⟨bv21na0_0.1, bv21na0_0.2⟩, ⟨bv21na0_5.1, bv21na0_5.2⟩, ⟨bv21na0_6.1, bv21na0_6.2⟩, bv21nfa0_3, by rw [ht]; exact hP, va_K.moved hW.alike hK, hD⟩, hS.F ht⟩) hS.2.2 dX7_lookLeaves_35
  · obtain ⟨hw, h1_0, h1_1⟩ := hw
    subst hw
    have l1k1_a0_7_0 : (0 : Int) ≤ a0_7_0.toInt := ba0_7_0_l
    have u1k1_a0_7_0 : a0_7_0.toInt ≤ (0 : Int) := h1_1
    refine lv_if_ne (tgt := 13) hx hb dX7_lookLeaves_4 (by decide) (fun c4 => absurd (by decide +kernel) c4) (fun _ => ?_)
    refine lv_aload_n hx hb dX7_lookLeaves_7 rfl (lv_at hl 0 rfl) ?_
    refine lv_iconst (v := 1) hx hb dX7_lookLeaves_8 zk_iconst_1 ?_
    obtain ⟨hPc, hDc, hFc, hCc⟩ := zc_cut (wc := [(a0, .inr (7, [a0g_0, a0g_1, a0g_2, a0g_3, a0g_4, .ref a0_5, a0g_6, .ref a0_7, .int a0_8, a0g_9, a0g_10]))]) hP hD hS hA [0] (by decide +kernel) rfl
    have hKc := hK.sub (tys' := []) [] rfl
    refine va_calli (va_runV (As := [.int 1]) (rest := []) ⟨hx, hb, hml, hown, hts⟩ (c_X7_refused l dC dI H.size a0 1 a0g_0 a0g_1 a0g_2 a0g_3 a0g_4 (.ref a0_5) a0g_6 (.ref a0_7) a0g_9 a0g_10 a0_8 ) (cwV 1 hts gX7_lookLeaves_X7_refused rfl rfl rfl zd_X7_refused ⟨Nat.le_of_ble_eq_true rfl, Nat.le_of_ble_eq_true rfl⟩) ⟨ax_blind (fun _ _ _ _ _ => trivial), zr_7 hKc hPc (q0 := 0) rfl, ax_pre hPc hKc hDc (fun _ _ => trivial)⟩ rfl rfl hl.1 rfl (lv_room (Nat.le_of_ble_eq_true rfl)) dX7_lookLeaves_9 ⟨Nat.le_of_ble_eq_true rfl, Nat.le_of_ble_eq_true rfl⟩) hS (fun q _ h => hFc q h) hFc (fun r9 u t H locs ht hvm hw hB hz1 hk1 hS => ?_)
    obtain ⟨v9na0_8, hP1, hK1, hD1⟩ := hB
    rw [ht] at hP1
    obtain ⟨hP, hD⟩ := zc_back (w := [(a0, .inr (7, [a0g_0, a0g_1, a0g_2, a0g_3, a0g_4, .ref a0_5, a0g_6, .ref a0_7, .int v9na0_8, a0g_9, a0g_10])), (a0_7, .inr (0, [.int a0_7_0, .int a0_7_1, a0_7g_2, a0_7g_3, a0_7g_4, a0_7g_5, a0_7g_6, a0_7g_7, a0_7g_8, .int a0_7_9, a0_7g_10, a0_7g_11, .ref a0_7_12, .ref a0_7_13, a0_7g_14])), (a0_5, .inr (2, [.int a0_5_0, .int a0_5_1, .int a0_5_2, .ref a0_5_3, .ref a0_5_4, .int a0_5_5, .int a0_5_6])), (a0_5_3, .inl (ka0_5_3, 729, .inl (fa0_5_3))), (a0_7_13, .inl (ka0_7_13, 6, .inl (fa0_7_13))), (a0_7_12, .inl (ka0_7_12, 6, .inl (fa0_7_12))), (a0_5_4, .inl (ka0_5_4, 900, .inl (fa0_5_4)))]) hP hD hCc hk1 hFc hP1 hD1 [.inr 0, .inl 1, .inl 2, .inl 3, .inl 4, .inl 5, .inl 6] (by decide +kernel) rfl
    have hw : r9 = (-1) := hw
    have hw := hw.symm
    subst hw
    exact W.iret (v := (-1)) hx hb hr (fun t ht hW => ⟨⟨(-1), (), rfl, trivial, v9na0_8, a0_5_0, a0_5_1, a0_5_2, a0_5_5, a0_5_6, fa0_5_3, fa0_5_4, ⟨ba0_5_0_l, ba0_5_0_u⟩, ⟨ba0_5_5_l, ba0_5_5_u⟩, ⟨ba0_5_6_l, ba0_5_6_u⟩, bfa0_5_3, by rw [ht]; exact hP, va_K.moved hW.alike hK, hD⟩, hS.F ht⟩) hS.2.2 dX7_lookLeaves_12

set_option maxHeartbeats 4000000 in
set_option maxRecDepth 100000 in
theorem c_X7_lawsLike (l : Launch) (dC : Nat → ClassId) (dI : Nat → Nat → Nat) (sz : Nat) (a0 : Nat) (a0g_0 a0g_1 a0g_2 a0g_3 a0g_4 a0g_5 a0g_6 a0g_9 a0g_10 : Value) (a0_7 : Nat) (a0_8 : Int32) (a0_7_0 : Int32) (a0_7g_1 a0_7g_2 a0_7g_3 a0_7g_4 a0_7g_8 a0_7g_9 a0_7g_10 a0_7g_11 a0_7g_12 a0_7g_13 a0_7g_14 : Value) (a0_7_5 : Int32) (a0_7_6 : Int32) (a0_7_7 : Int32) (ba0_7_0_l : (0 : Int) ≤ a0_7_0.toInt) (ba0_7_0_u : a0_7_0.toInt ≤ (9 : Int)) (ba0_7_5_l : (0 : Int) ≤ a0_7_5.toInt) (ba0_7_5_u : a0_7_5.toInt ≤ (8 : Int)) (ba0_7_6_l : (0 : Int) ≤ a0_7_6.toInt) (ba0_7_6_u : a0_7_6.toInt ≤ (8 : Int)) (ba0_7_7_l : (0 : Int) ≤ a0_7_7.toInt) (ba0_7_7_u : a0_7_7.toInt ≤ (8 : Int)) : Met l yX7_lawsLike wsX7_lawsLike ({ frames := 2, cells := 0, slots := 0, locals := 46 }) (va_Pc [.ref a0] (ax_C dC dI sz [(a0, .inr (7, [a0g_0, a0g_1, a0g_2, a0g_3, a0g_4, a0g_5, a0g_6, .ref a0_7, .int a0_8, a0g_9, a0g_10])), (a0_7, .inr (0, [.int a0_7_0, a0_7g_1, a0_7g_2, a0_7g_3, a0_7g_4, .int a0_7_5, .int a0_7_6, .int a0_7_7, a0_7g_8, a0_7g_9, a0_7g_10, a0_7g_11, a0_7g_12, a0_7g_13, a0_7g_14]))] [] (fun _ => True))) (va_Qi (fun (r : Int32) (_ : Unit) => True) (fun (_ : Unit) (t : State) => ∃ na0_8 : Int32, ax_B dC dI (va_A [(a0, .inr (7, [a0g_0, a0g_1, a0g_2, a0g_3, a0g_4, a0g_5, a0g_6, .ref a0_7, .int a0_8, a0g_9, a0g_10])), (a0_7, .inr (0, [.int a0_7_0, a0_7g_1, a0_7g_2, a0_7g_3, a0_7g_4, .int a0_7_5, .int a0_7_6, .int a0_7_7, a0_7g_8, a0_7g_9, a0_7g_10, a0_7g_11, a0_7g_12, a0_7g_13, a0_7g_14]))] sz) [(a0, .inr (7, [a0g_0, a0g_1, a0g_2, a0g_3, a0g_4, a0g_5, a0g_6, .ref a0_7, .int na0_8, a0g_9, a0g_10])), (a0_7, .inr (0, [.int a0_7_0, a0_7g_1, a0_7g_2, a0_7g_3, a0_7g_4, .int a0_7_5, .int a0_7_6, .int a0_7_7, a0_7g_8, a0_7g_9, a0_7g_10, a0_7g_11, a0_7g_12, a0_7g_13, a0_7g_14]))] [] t) (va_A [(a0, .inr (7, [a0g_0, a0g_1, a0g_2, a0g_3, a0g_4, a0g_5, a0g_6, .ref a0_7, .int a0_8, a0g_9, a0g_10])), (a0_7, .inr (0, [.int a0_7_0, a0_7g_1, a0_7g_2, a0_7g_3, a0_7g_4, .int a0_7_5, .int a0_7_6, .int a0_7_7, a0_7g_8, a0_7g_9, a0_7g_10, a0_7g_11, a0_7g_12, a0_7g_13, a0_7g_14]))] sz)) 0 0 (va_A [(a0, .inr (7, [a0g_0, a0g_1, a0g_2, a0g_3, a0g_4, a0g_5, a0g_6, .ref a0_7, .int a0_8, a0g_9, a0g_10])), (a0_7, .inr (0, [.int a0_7_0, a0_7g_1, a0_7g_2, a0_7g_3, a0_7g_4, .int a0_7_5, .int a0_7_6, .int a0_7_7, a0_7g_8, a0_7g_9, a0_7g_10, a0_7g_11, a0_7g_12, a0_7g_13, a0_7g_14]))] sz) := by
  refine Met.ofW (cc := cX7_lawsLike) (maxL := 4) (ret := (some .int)) (by decide) rfl ?_
  intro p e s m args below meth c s₁ B hml hv
  obtain ⟨rfl, hsz, hP, hK, hD0, hE⟩ := hv
  have hx := B.exec
  have hb := B.bytes
  have hr := B.returns
  have hts := atoms_spec (ws := wsX7_lawsLike) B.pre
  have hown : s.vm.findClass RX7 = some m.cls := findClass_of_methodNamed B.named
  have hlocks := B.notSynchronized
  subst hsz
  have hD := hD0.self (sz := s.heap.size)
  generalize hAe : va_A [(a0, .inr (7, [a0g_0, a0g_1, a0g_2, a0g_3, a0g_4, a0g_5, a0g_6, .ref a0_7, .int a0_8, a0g_9, a0g_10])), (a0_7, .inr (0, [.int a0_7_0, a0_7g_1, a0_7g_2, a0_7g_3, a0_7g_4, .int a0_7_5, .int a0_7_6, .int a0_7_7, a0_7g_8, a0_7g_9, a0_7g_10, a0_7g_11, a0_7g_12, a0_7g_13, a0_7g_14]))] s.heap.size = A at hD ⊢
  have hA : ∀ q : Nat, s.heap.size ≤ q → A q := fun q h => by rw [← hAe]; exact Or.inr h
  have hS : va_S A s.heap s.heap [] := va_S.rf
  have hP : va_P (dC, dI) vwCl [(a0, .inr (7, [a0g_0, a0g_1, a0g_2, a0g_3, a0g_4, a0g_5, a0g_6, .ref a0_7, .int a0_8, a0g_9, a0g_10])), (a0_7, .inr (0, [.int a0_7_0, a0_7g_1, a0_7g_2, a0_7g_3, a0_7g_4, .int a0_7_5, .int a0_7_6, .int a0_7_7, a0_7g_8, a0_7g_9, a0_7g_10, a0_7g_11, a0_7g_12, a0_7g_13, a0_7g_14]))] s.heap := hP
  have hl := lv_entry ([.ref a0]) (n := 4) (Nat.le_of_ble_eq_true rfl)
  rw [lg_entry_eq]
  generalize (lg_sl ([.ref a0]) ++ List.replicate (4 - (lg_sl ([.ref a0])).length) Slot.unset).toArray = ls at hl ⊢
  have hl : lv_has ls 4 [(0, .ref a0)] := hl
  refine ai_open (fun K hK0 => ?_)
  refine (hK0 _ _ _).mpr ?_
  refine lv_aload_n hx hb dX7_lawsLike_0 rfl (lv_at hl 0 rfl) ?_
  obtain ⟨hPc, hDc, hFc, hCc⟩ := zc_cut (wc := [(a0, .inr (7, [a0g_0, a0g_1, a0g_2, a0g_3, a0g_4, a0g_5, a0g_6, .ref a0_7, .int a0_8, a0g_9, a0g_10])), (a0_7, .inr (0, [.int a0_7_0, a0_7g_1, a0_7g_2, a0_7g_3, a0_7g_4, .int a0_7_5, .int a0_7_6, .int a0_7_7, a0_7g_8, a0_7g_9, a0_7g_10, a0_7g_11, a0_7g_12, a0_7g_13, a0_7g_14]))]) hP hD hS hA [0, 1] (by decide +kernel) rfl
  have hKc := hK.sub (tys' := []) [] rfl
  refine va_calli (va_runV (As := []) (rest := []) ⟨hx, hb, hml, hown, hts⟩ (c_X7_hasGallery l dC dI s.heap.size a0 a0g_0 a0g_1 a0g_2 a0g_3 a0g_4 a0g_5 a0g_6 (.int a0_8) a0g_9 a0g_10 a0_7 a0_7_0 a0_7g_1 a0_7g_2 a0_7g_3 a0_7g_4 (.int a0_7_5) (.int a0_7_6) (.int a0_7_7) a0_7g_8 a0_7g_9 a0_7g_10 a0_7g_11 a0_7g_12 a0_7g_13 a0_7g_14 ba0_7_0_l ba0_7_0_u) (cwV 0 hts gX7_lawsLike_X7_hasGallery rfl rfl rfl zd_X7_hasGallery ⟨Nat.le_of_ble_eq_true rfl, Nat.le_of_ble_eq_true rfl⟩) ⟨ax_blind (fun _ _ _ _ _ => trivial), zr_7 hKc hPc (q0 := 0) rfl, ax_pre hPc hKc hDc (fun _ _ => trivial)⟩ rfl rfl hl.1 rfl (lv_room (Nat.le_of_ble_eq_true rfl)) dX7_lawsLike_1 ⟨Nat.le_of_ble_eq_true rfl, Nat.le_of_ble_eq_true rfl⟩) hS (fun q _ h => hFc q h) hFc (fun r1 u t H locs ht hvm hw hB hz1 hk1 hS => ?_)
  obtain ⟨hP1, hK1, hD1⟩ := hB
  rw [ht] at hP1
  obtain ⟨hP, hD⟩ := zc_back (w := [(a0, .inr (7, [a0g_0, a0g_1, a0g_2, a0g_3, a0g_4, a0g_5, a0g_6, .ref a0_7, .int a0_8, a0g_9, a0g_10])), (a0_7, .inr (0, [.int a0_7_0, a0_7g_1, a0_7g_2, a0_7g_3, a0_7g_4, .int a0_7_5, .int a0_7_6, .int a0_7_7, a0_7g_8, a0_7g_9, a0_7g_10, a0_7g_11, a0_7g_12, a0_7g_13, a0_7g_14]))]) hP hD hCc hk1 hFc hP1 hD1 [.inr 0, .inr 1] (by decide +kernel) rfl
  rcases hw with hw | hw
  · obtain ⟨hw, h1_0, h1_1⟩ := hw
    subst hw
    have l1k0_a0_7_0 : (1 : Int) ≤ a0_7_0.toInt := h1_0
    have u1k0_a0_7_0 : a0_7_0.toInt ≤ (9 : Int) := ba0_7_0_u
    refine lv_if_ne (tgt := 13) hx hb dX7_lawsLike_4 (by decide) (fun _ => ?_) (fun c4 => absurd c4 (by decide +kernel))
    refine lv_iconst (v := 0) hx hb dX7_lawsLike_13 zk_iconst_0 ?_
    refine lv_istore_n (lv' := [(1, .int 0), (0, .ref a0)]) hx hb dX7_lawsLike_14 rfl hl (by decide) rfl (fun ls hl => ?_)
    refine lv_iconst (v := 0) hx hb dX7_lawsLike_15 zk_iconst_0 ?_
    refine lv_istore_n (lv' := [(2, .int 0), (1, .int 0), (0, .ref a0)]) hx hb dX7_lawsLike_16 rfl hl (by decide) rfl (fun ls hl => ?_)
    have J17 : ∀ (n : Nat) (j17l2 : Int32) (j17l1 : Int32) (H : Heap) (locs : List Loc) (ls : Array Slot), (10 : Int) - j17l2.toInt ≤ (n : Int) → (0 : Int) ≤ j17l2.toInt → j17l2.toInt ≤ (9 : Int) → va_P (dC, dI) vwCl [(a0, .inr (7, [a0g_0, a0g_1, a0g_2, a0g_3, a0g_4, a0g_5, a0g_6, .ref a0_7, .int a0_8, a0g_9, a0g_10])), (a0_7, .inr (0, [.int a0_7_0, a0_7g_1, a0_7g_2, a0_7g_3, a0_7g_4, .int a0_7_5, .int a0_7_6, .int a0_7_7, a0_7g_8, a0_7g_9, a0_7g_10, a0_7g_11, a0_7g_12, a0_7g_13, a0_7g_14]))] H → va_D A [(a0, .inr (7, [a0g_0, a0g_1, a0g_2, a0g_3, a0g_4, a0g_5, a0g_6, .ref a0_7, .int a0_8, a0g_9, a0g_10])), (a0_7, .inr (0, [.int a0_7_0, a0_7g_1, a0_7g_2, a0_7g_3, a0_7g_4, .int a0_7_5, .int a0_7_6, .int a0_7_7, a0_7g_8, a0_7g_9, a0_7g_10, a0_7g_11, a0_7g_12, a0_7g_13, a0_7g_14]))] → va_S A s.heap H locs → lv_has ls 4 [(0, .ref a0), (1, .int j17l1), (2, .int j17l2)] → K H locs (F0 m 17 ls []) := by
      intro n
      induction n with
      | zero =>
        intro j17l2 j17l1 H locs ls hm bj17l2_l bj17l2_u hP hD hS hl
        have h8 := ai_min j17l2
        have h9 := ai_max j17l2
        exact absurd hm (by omega)
      | succ n ih17 =>
        intro j17l2 j17l1 H locs ls hm bj17l2_l bj17l2_u hP hD hS hl
        refine (hK0 _ _ _).mpr ?_
        have hm17 := hm
        refine lv_iload_n hx hb dX7_lawsLike_17 rfl (lv_at hl 2 rfl) ?_
        refine lv_aload_n hx hb dX7_lawsLike_18 rfl (lv_at hl 0 rfl) ?_
        refine va_get (D := (dC, dI)) (ci := 7) (v := .ref a0_7) (C := RX7) (T := TX7) (N := 11) hx hb hts zi_X7_lawsLike_7 hown hK hP 0 rfl rfl 7 (by decide) (hts (.fieldLink RX7 57 "WaxTurns" "hall" "LWaxTurns$Hall;") (zm_X7_lawsLike_r1 (List.mem_of_getElem? (i := 0) rfl))) (fun _ h9 => h9) rfl dX7_lawsLike_19 ?_
        refine va_get (D := (dC, dI)) (ci := 0) (v := .int a0_7_0) (C := RX0) (T := TX0) (N := 15) hx hb hts zi_X7_lawsLike_0 hown hK hP 1 rfl rfl 0 (by decide) (hts (.fieldLink RX7 110 "WaxTurns$Hall" "figures" "I") (zm_X7_lawsLike_r1 (List.mem_of_getElem? (i := 1) rfl))) (fun _ h9 => h9) rfl dX7_lawsLike_22 ?_
        refine lv_icmp_ge (tgt := 68) hx hb dX7_lawsLike_25 (by decide) (fun c25 => ?_) (fun c25 => ?_)
        · have gc25 := ai_le c25
          have u25t_a0_7_0 : a0_7_0.toInt ≤ (9 : Int) := u1k0_a0_7_0
          have l25t_j17l2 : (1 : Int) ≤ j17l2.toInt := Int.le_trans l1k0_a0_7_0 gc25
          refine lv_aload_n hx hb dX7_lawsLike_68 rfl (lv_at hl 0 rfl) ?_
          refine lv_iload_n hx hb dX7_lawsLike_69 rfl (lv_at hl 1 rfl) ?_
          obtain ⟨hPc, hDc, hFc, hCc⟩ := zc_cut (wc := [(a0, .inr (7, [a0g_0, a0g_1, a0g_2, a0g_3, a0g_4, a0g_5, a0g_6, .ref a0_7, .int a0_8, a0g_9, a0g_10]))]) hP hD hS hA [0] (by decide +kernel) rfl
          have hKc := hK.sub (tys' := []) [] rfl
          refine va_calli (va_runV (As := [.int j17l1]) (rest := []) ⟨hx, hb, hml, hown, hts⟩ (c_X7_answered l dC dI H.size a0 j17l1 a0g_0 a0g_1 a0g_2 a0g_3 a0g_4 a0g_5 a0g_6 (.ref a0_7) a0g_9 a0g_10 a0_8 ) (cwV 1 hts gX7_lawsLike_X7_answered rfl rfl rfl zd_X7_answered ⟨Nat.le_of_ble_eq_true rfl, Nat.le_of_ble_eq_true rfl⟩) ⟨ax_blind (fun _ _ _ _ _ => trivial), zr_7 hKc hPc (q0 := 0) rfl, ax_pre hPc hKc hDc (fun _ _ => trivial)⟩ rfl rfl hl.1 rfl (lv_room (Nat.le_of_ble_eq_true rfl)) dX7_lawsLike_70 ⟨Nat.le_of_ble_eq_true rfl, Nat.le_of_ble_eq_true rfl⟩) hS (fun q _ h => hFc q h) hFc (fun r70 u t H locs ht hvm hw hB hz1 hk1 hS => ?_)
          obtain ⟨v70na0_8, hP1, hK1, hD1⟩ := hB
          rw [ht] at hP1
          obtain ⟨hP, hD⟩ := zc_back (w := [(a0, .inr (7, [a0g_0, a0g_1, a0g_2, a0g_3, a0g_4, a0g_5, a0g_6, .ref a0_7, .int v70na0_8, a0g_9, a0g_10])), (a0_7, .inr (0, [.int a0_7_0, a0_7g_1, a0_7g_2, a0_7g_3, a0_7g_4, .int a0_7_5, .int a0_7_6, .int a0_7_7, a0_7g_8, a0_7g_9, a0_7g_10, a0_7g_11, a0_7g_12, a0_7g_13, a0_7g_14]))]) hP hD hCc hk1 hFc hP1 hD1 [.inr 0, .inl 1] (by decide +kernel) rfl
          have hw : r70 = j17l1 := hw
          have hw := hw.symm
          subst hw
          exact W.iret (v := j17l1) hx hb hr (fun t ht hW => ⟨⟨j17l1, (), rfl, trivial, v70na0_8, by rw [ht]; exact hP, va_K.moved hW.alike hK, hD⟩, hS.F ht⟩) hS.2.2 dX7_lawsLike_73
        · have gc25 := ai_nle c25
          have u25f_j17l2 : j17l2.toInt ≤ (8 : Int) := ai_lthi gc25 u1k0_a0_7_0
          have l25f_a0_7_0 : (1 : Int) ≤ a0_7_0.toInt := l1k0_a0_7_0
          refine lv_iconst (v := 0) hx hb dX7_lawsLike_28 zk_iconst_0 ?_
          refine lv_istore_n (lv' := [(3, .int 0), (0, .ref a0), (1, .int j17l1), (2, .int j17l2)]) hx hb dX7_lawsLike_29 rfl hl (by decide) rfl (fun ls hl => ?_)
          have J30 : ∀ (n : Nat) (j30l3 : Int32) (j30l1 : Int32) (H : Heap) (locs : List Loc) (ls : Array Slot), (10 : Int) - j30l3.toInt ≤ (n : Int) → (0 : Int) ≤ j30l3.toInt → j30l3.toInt ≤ (9 : Int) → va_P (dC, dI) vwCl [(a0, .inr (7, [a0g_0, a0g_1, a0g_2, a0g_3, a0g_4, a0g_5, a0g_6, .ref a0_7, .int a0_8, a0g_9, a0g_10])), (a0_7, .inr (0, [.int a0_7_0, a0_7g_1, a0_7g_2, a0_7g_3, a0_7g_4, .int a0_7_5, .int a0_7_6, .int a0_7_7, a0_7g_8, a0_7g_9, a0_7g_10, a0_7g_11, a0_7g_12, a0_7g_13, a0_7g_14]))] H → va_D A [(a0, .inr (7, [a0g_0, a0g_1, a0g_2, a0g_3, a0g_4, a0g_5, a0g_6, .ref a0_7, .int a0_8, a0g_9, a0g_10])), (a0_7, .inr (0, [.int a0_7_0, a0_7g_1, a0_7g_2, a0_7g_3, a0_7g_4, .int a0_7_5, .int a0_7_6, .int a0_7_7, a0_7g_8, a0_7g_9, a0_7g_10, a0_7g_11, a0_7g_12, a0_7g_13, a0_7g_14]))] → va_S A s.heap H locs → lv_has ls 4 [(0, .ref a0), (1, .int j30l1), (2, .int j17l2), (3, .int j30l3)] → K H locs (F0 m 30 ls []) := by
            intro n
            induction n with
            | zero =>
              intro j30l3 j30l1 H locs ls hm bj30l3_l bj30l3_u hP hD hS hl
              have h8 := ai_min j30l3
              have h9 := ai_max j30l3
              exact absurd hm (by omega)
            | succ n ih30 =>
              intro j30l3 j30l1 H locs ls hm bj30l3_l bj30l3_u hP hD hS hl
              refine (hK0 _ _ _).mpr ?_
              have hm30 := hm
              refine lv_iload_n hx hb dX7_lawsLike_30 rfl (lv_at hl 3 rfl) ?_
              refine lv_aload_n hx hb dX7_lawsLike_31 rfl (lv_at hl 0 rfl) ?_
              refine va_get (D := (dC, dI)) (ci := 7) (v := .ref a0_7) (C := RX7) (T := TX7) (N := 11) hx hb hts zi_X7_lawsLike_7 hown hK hP 0 rfl rfl 7 (by decide) (hts (.fieldLink RX7 57 "WaxTurns" "hall" "LWaxTurns$Hall;") (zm_X7_lawsLike_r1 (List.mem_of_getElem? (i := 0) rfl))) (fun _ h9 => h9) rfl dX7_lawsLike_32 ?_
              refine va_get (D := (dC, dI)) (ci := 0) (v := .int a0_7_0) (C := RX0) (T := TX0) (N := 15) hx hb hts zi_X7_lawsLike_0 hown hK hP 1 rfl rfl 0 (by decide) (hts (.fieldLink RX7 110 "WaxTurns$Hall" "figures" "I") (zm_X7_lawsLike_r1 (List.mem_of_getElem? (i := 1) rfl))) (fun _ h9 => h9) rfl dX7_lawsLike_35 ?_
              refine lv_icmp_ge (tgt := 62) hx hb dX7_lawsLike_38 (by decide) (fun c38 => ?_) (fun c38 => ?_)
              · have gc38 := ai_le c38
                have u38t_a0_7_0 : a0_7_0.toInt ≤ (9 : Int) := u1k0_a0_7_0
                have l38t_j30l3 : (1 : Int) ≤ j30l3.toInt := Int.le_trans l25f_a0_7_0 gc38
                obtain ⟨x62, ex62⟩ : ∃ y : Int32, y = j17l2 + Int32.ofInt 1 := ⟨_, rfl⟩
                have qx62 : x62.toInt = j17l2.toInt + 1 := ai_inc ex62 (by decide) (by decide) u25f_j17l2 (by decide)
                have bx62 : (1 : Int) ≤ x62.toInt ∧ x62.toInt ≤ 9 := ⟨by rw [qx62]; exact Int.add_le_add bj17l2_l (Int.le_refl _), by rw [qx62]; exact Int.add_le_add u25f_j17l2 (Int.le_refl _)⟩
                refine lv_iinc (v := x62) (lv' := [(2, .int x62), (0, .ref a0), (1, .int j30l1), (3, .int j30l3)]) hx hb dX7_lawsLike_62 hl (k := 2) rfl ex62.symm (by decide) rfl (fun ls hl => ?_)
                refine lv_goto (tgt := 17) hx hb dX7_lawsLike_65 (by decide) ?_
                exact (hK0 _ _ _).mp (ih17 x62 j30l1 _ _ _ (by have h0 := qx62; omega) (Int.le_trans zq4 bx62.1) bx62.2 hP hD hS (lv_sub hl [1, 2, 0] rfl))
              · have gc38 := ai_nle c38
                have u38f_j30l3 : j30l3.toInt ≤ (8 : Int) := ai_lthi gc38 u1k0_a0_7_0
                have l38f_a0_7_0 : (1 : Int) ≤ a0_7_0.toInt := l25f_a0_7_0
                refine lv_aload_n hx hb dX7_lawsLike_41 rfl (lv_at hl 0 rfl) ?_
                refine va_get (D := (dC, dI)) (ci := 7) (v := .ref a0_7) (C := RX7) (T := TX7) (N := 11) hx hb hts zi_X7_lawsLike_7 hown hK hP 0 rfl rfl 7 (by decide) (hts (.fieldLink RX7 57 "WaxTurns" "hall" "LWaxTurns$Hall;") (zm_X7_lawsLike_r1 (List.mem_of_getElem? (i := 0) rfl))) (fun _ h9 => h9) rfl dX7_lawsLike_42 ?_
                refine lv_iload_n hx hb dX7_lawsLike_45 rfl (lv_at hl 2 rfl) ?_
                refine lv_iload_n hx hb dX7_lawsLike_46 rfl (lv_at hl 3 rfl) ?_
                obtain ⟨hPc, hDc, hFc, hCc⟩ := zc_cut (wc := [(a0_7, .inr (0, [.int a0_7_0, a0_7g_1, a0_7g_2, a0_7g_3, a0_7g_4, .int a0_7_5, .int a0_7_6, .int a0_7_7, a0_7g_8, a0_7g_9, a0_7g_10, a0_7g_11, a0_7g_12, a0_7g_13, a0_7g_14]))]) hP hD hS hA [1] (by decide +kernel) rfl
                have hKc := hK.sub (tys' := []) [] rfl
                refine va_calli (va_runV (As := [.int j17l2, .int j30l3]) (rest := []) ⟨hx, hb, hml, hown, hts⟩ (c_X0_goesLike l dC dI H.size a0_7 j17l2 j30l3 a0_7_0 a0_7g_1 a0_7g_2 a0_7g_3 a0_7g_4 a0_7g_8 a0_7g_9 a0_7g_10 a0_7g_11 a0_7g_12 a0_7g_13 a0_7g_14 a0_7_5 a0_7_6 a0_7_7 bj17l2_l u25f_j17l2 bj30l3_l u38f_j30l3 (Int.le_trans zq4 l38f_a0_7_0) u1k0_a0_7_0 ba0_7_5_l ba0_7_5_u ba0_7_6_l ba0_7_6_u ba0_7_7_l ba0_7_7_u) (cwV 2 hts gX7_lawsLike_X0_goesLike rfl rfl rfl zd_X0_goesLike ⟨Nat.le_of_ble_eq_true rfl, Nat.le_of_ble_eq_true rfl⟩) ⟨ax_blind (fun _ _ _ _ _ => trivial), zr_0 hKc hPc (q0 := 0) rfl, ax_pre hPc hKc hDc (fun _ _ => trivial)⟩ rfl rfl hl.1 rfl (lv_room (Nat.le_of_ble_eq_true rfl)) dX7_lawsLike_47 ⟨Nat.le_of_ble_eq_true rfl, Nat.le_of_ble_eq_true rfl⟩) hS (fun q _ h => hFc q h) hFc (fun r47 u t H locs ht hvm hw hB hz1 hk1 hS => ?_)
                obtain ⟨hP1, hK1, hD1⟩ := hB
                rw [ht] at hP1
                obtain ⟨hP, hD⟩ := zc_back (w := [(a0, .inr (7, [a0g_0, a0g_1, a0g_2, a0g_3, a0g_4, a0g_5, a0g_6, .ref a0_7, .int a0_8, a0g_9, a0g_10])), (a0_7, .inr (0, [.int a0_7_0, a0_7g_1, a0_7g_2, a0_7g_3, a0_7g_4, .int a0_7_5, .int a0_7_6, .int a0_7_7, a0_7g_8, a0_7g_9, a0_7g_10, a0_7g_11, a0_7g_12, a0_7g_13, a0_7g_14]))]) hP hD hCc hk1 hFc hP1 hD1 [.inl 0, .inr 0] (by decide +kernel) rfl
                rcases hw with hw | hw
                · subst hw
                  refine lv_if_eq (tgt := 56) hx hb dX7_lawsLike_50 (by decide) (fun c50 => absurd c50 (by decide +kernel)) (fun _ => ?_)
                  have J56 : ∀ (j56l1 : Int32) (H : Heap) (locs : List Loc) (ls : Array Slot), va_P (dC, dI) vwCl [(a0, .inr (7, [a0g_0, a0g_1, a0g_2, a0g_3, a0g_4, a0g_5, a0g_6, .ref a0_7, .int a0_8, a0g_9, a0g_10])), (a0_7, .inr (0, [.int a0_7_0, a0_7g_1, a0_7g_2, a0_7g_3, a0_7g_4, .int a0_7_5, .int a0_7_6, .int a0_7_7, a0_7g_8, a0_7g_9, a0_7g_10, a0_7g_11, a0_7g_12, a0_7g_13, a0_7g_14]))] H → va_D A [(a0, .inr (7, [a0g_0, a0g_1, a0g_2, a0g_3, a0g_4, a0g_5, a0g_6, .ref a0_7, .int a0_8, a0g_9, a0g_10])), (a0_7, .inr (0, [.int a0_7_0, a0_7g_1, a0_7g_2, a0_7g_3, a0_7g_4, .int a0_7_5, .int a0_7_6, .int a0_7_7, a0_7g_8, a0_7g_9, a0_7g_10, a0_7g_11, a0_7g_12, a0_7g_13, a0_7g_14]))] → va_S A s.heap H locs → lv_has ls 4 [(0, .ref a0), (1, .int j56l1), (2, .int j17l2), (3, .int j30l3)] → K H locs (F0 m 56 ls []) := by
                    intro j56l1 H locs ls   hP hD hS hl
                    refine (hK0 _ _ _).mpr ?_
                    obtain ⟨x56, ex56⟩ : ∃ y : Int32, y = j30l3 + Int32.ofInt 1 := ⟨_, rfl⟩
                    have qx56 : x56.toInt = j30l3.toInt + 1 := ai_inc ex56 (by decide) (by decide) u38f_j30l3 (by decide)
                    have bx56 : (1 : Int) ≤ x56.toInt ∧ x56.toInt ≤ 9 := ⟨by rw [qx56]; exact Int.add_le_add bj30l3_l (Int.le_refl _), by rw [qx56]; exact Int.add_le_add u38f_j30l3 (Int.le_refl _)⟩
                    refine lv_iinc (v := x56) (lv' := [(3, .int x56), (0, .ref a0), (1, .int j56l1), (2, .int j17l2)]) hx hb dX7_lawsLike_56 hl (k := 3) rfl ex56.symm (by decide) rfl (fun ls hl => ?_)
                    refine lv_goto (tgt := 30) hx hb dX7_lawsLike_59 (by decide) ?_
                    exact (hK0 _ _ _).mp (ih30 x56 j56l1 _ _ _ (by have h0 := qx56; omega) (Int.le_trans zq4 bx56.1) bx56.2 hP hD hS (lv_sub hl [1, 2, 3, 0] rfl))
                  obtain ⟨x53, ex53⟩ : ∃ y : Int32, y = j30l1 + Int32.ofInt 1 := ⟨_, rfl⟩
                  refine lv_iinc (v := x53) (lv' := [(1, .int x53), (0, .ref a0), (2, .int j17l2), (3, .int j30l3)]) hx hb dX7_lawsLike_53 hl (k := 1) rfl ex53.symm (by decide) rfl (fun ls hl => ?_)
                  exact (hK0 _ _ _).mp (J56 x53 _ _ _   hP hD hS (lv_sub hl [1, 0, 2, 3] rfl))
                · obtain ⟨hw, h47_0, h47_1⟩ := hw
                  subst hw
                  have l47k1_a0_7_0 : (1 : Int) ≤ a0_7_0.toInt := l38f_a0_7_0
                  have u47k1_a0_7_0 : a0_7_0.toInt ≤ (9 : Int) := u1k0_a0_7_0
                  refine lv_if_eq (tgt := 56) hx hb dX7_lawsLike_50 (by decide) (fun _ => ?_) (fun c50 => absurd (by decide +kernel) c50)
                  have J56 : ∀ (j56l1 : Int32) (H : Heap) (locs : List Loc) (ls : Array Slot), va_P (dC, dI) vwCl [(a0, .inr (7, [a0g_0, a0g_1, a0g_2, a0g_3, a0g_4, a0g_5, a0g_6, .ref a0_7, .int a0_8, a0g_9, a0g_10])), (a0_7, .inr (0, [.int a0_7_0, a0_7g_1, a0_7g_2, a0_7g_3, a0_7g_4, .int a0_7_5, .int a0_7_6, .int a0_7_7, a0_7g_8, a0_7g_9, a0_7g_10, a0_7g_11, a0_7g_12, a0_7g_13, a0_7g_14]))] H → va_D A [(a0, .inr (7, [a0g_0, a0g_1, a0g_2, a0g_3, a0g_4, a0g_5, a0g_6, .ref a0_7, .int a0_8, a0g_9, a0g_10])), (a0_7, .inr (0, [.int a0_7_0, a0_7g_1, a0_7g_2, a0_7g_3, a0_7g_4, .int a0_7_5, .int a0_7_6, .int a0_7_7, a0_7g_8, a0_7g_9, a0_7g_10, a0_7g_11, a0_7g_12, a0_7g_13, a0_7g_14]))] → va_S A s.heap H locs → lv_has ls 4 [(0, .ref a0), (1, .int j56l1), (2, .int j17l2), (3, .int j30l3)] → K H locs (F0 m 56 ls []) := by
                    intro j56l1 H locs ls   hP hD hS hl
                    refine (hK0 _ _ _).mpr ?_
                    obtain ⟨x56, ex56⟩ : ∃ y : Int32, y = j30l3 + Int32.ofInt 1 := ⟨_, rfl⟩
                    have qx56 : x56.toInt = j30l3.toInt + 1 := ai_inc ex56 (by decide) (by decide) u38f_j30l3 (by decide)
                    have bx56 : (1 : Int) ≤ x56.toInt ∧ x56.toInt ≤ 9 := ⟨by rw [qx56]; exact Int.add_le_add bj30l3_l (Int.le_refl _), by rw [qx56]; exact Int.add_le_add u38f_j30l3 (Int.le_refl _)⟩
                    refine lv_iinc (v := x56) (lv' := [(3, .int x56), (0, .ref a0), (1, .int j56l1), (2, .int j17l2)]) hx hb dX7_lawsLike_56 hl (k := 3) rfl ex56.symm (by decide) rfl (fun ls hl => ?_)
                    refine lv_goto (tgt := 30) hx hb dX7_lawsLike_59 (by decide) ?_
                    exact (hK0 _ _ _).mp (ih30 x56 j56l1 _ _ _ (by have h0 := qx56; omega) (Int.le_trans zq4 bx56.1) bx56.2 hP hD hS (lv_sub hl [1, 2, 3, 0] rfl))
                  exact (hK0 _ _ _).mp (J56 j30l1 _ _ _   hP hD hS (lv_sub hl [0, 1, 2, 3] rfl))
          exact (hK0 _ _ _).mp (J30 10 0 j17l1 _ _ _ (by have h1 : (0 : Int) ≤ (0 : Int32).toInt := zq5; have h2 : (0 : Int32).toInt ≤ (0 : Int) := zq6; omega) zq5 (Int.le_trans zq6 zq7) hP hD hS (lv_sub hl [1, 2, 3, 0] rfl))
    exact (hK0 _ _ _).mp (J17 10 0 0 _ _ _ (by have h1 : (0 : Int) ≤ (0 : Int32).toInt := zq5; have h2 : (0 : Int32).toInt ≤ (0 : Int) := zq6; omega) zq5 (Int.le_trans zq6 zq7) hP hD hS (lv_sub hl [2, 1, 0] rfl))
  · obtain ⟨hw, h1_0, h1_1⟩ := hw
    subst hw
    have l1k1_a0_7_0 : (0 : Int) ≤ a0_7_0.toInt := ba0_7_0_l
    have u1k1_a0_7_0 : a0_7_0.toInt ≤ (0 : Int) := h1_1
    refine lv_if_ne (tgt := 13) hx hb dX7_lawsLike_4 (by decide) (fun c4 => absurd (by decide +kernel) c4) (fun _ => ?_)
    refine lv_aload_n hx hb dX7_lawsLike_7 rfl (lv_at hl 0 rfl) ?_
    refine lv_iconst (v := 1) hx hb dX7_lawsLike_8 zk_iconst_1 ?_
    obtain ⟨hPc, hDc, hFc, hCc⟩ := zc_cut (wc := [(a0, .inr (7, [a0g_0, a0g_1, a0g_2, a0g_3, a0g_4, a0g_5, a0g_6, .ref a0_7, .int a0_8, a0g_9, a0g_10]))]) hP hD hS hA [0] (by decide +kernel) rfl
    have hKc := hK.sub (tys' := []) [] rfl
    refine va_calli (va_runV (As := [.int 1]) (rest := []) ⟨hx, hb, hml, hown, hts⟩ (c_X7_refused l dC dI H.size a0 1 a0g_0 a0g_1 a0g_2 a0g_3 a0g_4 a0g_5 a0g_6 (.ref a0_7) a0g_9 a0g_10 a0_8 ) (cwV 1 hts gX7_lawsLike_X7_refused rfl rfl rfl zd_X7_refused ⟨Nat.le_of_ble_eq_true rfl, Nat.le_of_ble_eq_true rfl⟩) ⟨ax_blind (fun _ _ _ _ _ => trivial), zr_7 hKc hPc (q0 := 0) rfl, ax_pre hPc hKc hDc (fun _ _ => trivial)⟩ rfl rfl hl.1 rfl (lv_room (Nat.le_of_ble_eq_true rfl)) dX7_lawsLike_9 ⟨Nat.le_of_ble_eq_true rfl, Nat.le_of_ble_eq_true rfl⟩) hS (fun q _ h => hFc q h) hFc (fun r9 u t H locs ht hvm hw hB hz1 hk1 hS => ?_)
    obtain ⟨v9na0_8, hP1, hK1, hD1⟩ := hB
    rw [ht] at hP1
    obtain ⟨hP, hD⟩ := zc_back (w := [(a0, .inr (7, [a0g_0, a0g_1, a0g_2, a0g_3, a0g_4, a0g_5, a0g_6, .ref a0_7, .int v9na0_8, a0g_9, a0g_10])), (a0_7, .inr (0, [.int a0_7_0, a0_7g_1, a0_7g_2, a0_7g_3, a0_7g_4, .int a0_7_5, .int a0_7_6, .int a0_7_7, a0_7g_8, a0_7g_9, a0_7g_10, a0_7g_11, a0_7g_12, a0_7g_13, a0_7g_14]))]) hP hD hCc hk1 hFc hP1 hD1 [.inr 0, .inl 1] (by decide +kernel) rfl
    have hw : r9 = (-1) := hw
    have hw := hw.symm
    subst hw
    exact W.iret (v := (-1)) hx hb hr (fun t ht hW => ⟨⟨(-1), (), rfl, trivial, v9na0_8, by rw [ht]; exact hP, va_K.moved hW.alike hK, hD⟩, hS.F ht⟩) hS.2.2 dX7_lawsLike_12

set_option maxHeartbeats 4000000 in
set_option maxRecDepth 100000 in
theorem c_X7_lawFor (l : Launch) (dC : Nat → ClassId) (dI : Nat → Nat → Nat) (sz : Nat) (a0 : Nat) (a1 : Int32) (a2 : Int32) (a0g_0 a0g_1 a0g_2 a0g_3 a0g_4 a0g_5 a0g_6 a0g_9 a0g_10 : Value) (a0_7 : Nat) (a0_8 : Int32) (a0_7_0 : Int32) (a0_7g_1 a0_7g_2 a0_7g_3 a0_7g_4 a0_7g_5 a0_7g_6 a0_7g_7 a0_7g_8 a0_7g_9 a0_7g_10 a0_7g_11 a0_7g_12 a0_7g_13 a0_7g_14 : Value) (ba0_7_0_l : (0 : Int) ≤ a0_7_0.toInt) (ba0_7_0_u : a0_7_0.toInt ≤ (9 : Int)) : Met l yX7_lawFor wsX7_lawFor ({ frames := 3, cells := 0, slots := 0, locals := 66 }) (va_Pc [.ref a0, .int a1, .int a2] (ax_C dC dI sz [(a0, .inr (7, [a0g_0, a0g_1, a0g_2, a0g_3, a0g_4, a0g_5, a0g_6, .ref a0_7, .int a0_8, a0g_9, a0g_10])), (a0_7, .inr (0, [.int a0_7_0, a0_7g_1, a0_7g_2, a0_7g_3, a0_7g_4, a0_7g_5, a0_7g_6, a0_7g_7, a0_7g_8, a0_7g_9, a0_7g_10, a0_7g_11, a0_7g_12, a0_7g_13, a0_7g_14]))] [] (fun _ => True))) (va_Qi (fun (r : Int32) (_ : Unit) => (-1 : Int) ≤ r.toInt ∧ r.toInt ≤ (80 : Int)) (fun (_ : Unit) (t : State) => ∃ na0_8 : Int32, ax_B dC dI (va_A [(a0, .inr (7, [a0g_0, a0g_1, a0g_2, a0g_3, a0g_4, a0g_5, a0g_6, .ref a0_7, .int a0_8, a0g_9, a0g_10])), (a0_7, .inr (0, [.int a0_7_0, a0_7g_1, a0_7g_2, a0_7g_3, a0_7g_4, a0_7g_5, a0_7g_6, a0_7g_7, a0_7g_8, a0_7g_9, a0_7g_10, a0_7g_11, a0_7g_12, a0_7g_13, a0_7g_14]))] sz) [(a0, .inr (7, [a0g_0, a0g_1, a0g_2, a0g_3, a0g_4, a0g_5, a0g_6, .ref a0_7, .int na0_8, a0g_9, a0g_10])), (a0_7, .inr (0, [.int a0_7_0, a0_7g_1, a0_7g_2, a0_7g_3, a0_7g_4, a0_7g_5, a0_7g_6, a0_7g_7, a0_7g_8, a0_7g_9, a0_7g_10, a0_7g_11, a0_7g_12, a0_7g_13, a0_7g_14]))] [] t) (va_A [(a0, .inr (7, [a0g_0, a0g_1, a0g_2, a0g_3, a0g_4, a0g_5, a0g_6, .ref a0_7, .int a0_8, a0g_9, a0g_10])), (a0_7, .inr (0, [.int a0_7_0, a0_7g_1, a0_7g_2, a0_7g_3, a0_7g_4, a0_7g_5, a0_7g_6, a0_7g_7, a0_7g_8, a0_7g_9, a0_7g_10, a0_7g_11, a0_7g_12, a0_7g_13, a0_7g_14]))] sz)) 0 0 (va_A [(a0, .inr (7, [a0g_0, a0g_1, a0g_2, a0g_3, a0g_4, a0g_5, a0g_6, .ref a0_7, .int a0_8, a0g_9, a0g_10])), (a0_7, .inr (0, [.int a0_7_0, a0_7g_1, a0_7g_2, a0_7g_3, a0_7g_4, a0_7g_5, a0_7g_6, a0_7g_7, a0_7g_8, a0_7g_9, a0_7g_10, a0_7g_11, a0_7g_12, a0_7g_13, a0_7g_14]))] sz) := by
  refine Met.ofW (cc := cX7_lawFor) (maxL := 4) (ret := (some .int)) (by decide) rfl ?_
  intro p e s m args below meth c s₁ B hml hv
  obtain ⟨rfl, hsz, hP, hK, hD0, hE⟩ := hv
  have hx := B.exec
  have hb := B.bytes
  have hr := B.returns
  have hts := atoms_spec (ws := wsX7_lawFor) B.pre
  have hown : s.vm.findClass RX7 = some m.cls := findClass_of_methodNamed B.named
  have hlocks := B.notSynchronized
  subst hsz
  have hD := hD0.self (sz := s.heap.size)
  generalize hAe : va_A [(a0, .inr (7, [a0g_0, a0g_1, a0g_2, a0g_3, a0g_4, a0g_5, a0g_6, .ref a0_7, .int a0_8, a0g_9, a0g_10])), (a0_7, .inr (0, [.int a0_7_0, a0_7g_1, a0_7g_2, a0_7g_3, a0_7g_4, a0_7g_5, a0_7g_6, a0_7g_7, a0_7g_8, a0_7g_9, a0_7g_10, a0_7g_11, a0_7g_12, a0_7g_13, a0_7g_14]))] s.heap.size = A at hD ⊢
  have hA : ∀ q : Nat, s.heap.size ≤ q → A q := fun q h => by rw [← hAe]; exact Or.inr h
  have hS : va_S A s.heap s.heap [] := va_S.rf
  have hP : va_P (dC, dI) vwCl [(a0, .inr (7, [a0g_0, a0g_1, a0g_2, a0g_3, a0g_4, a0g_5, a0g_6, .ref a0_7, .int a0_8, a0g_9, a0g_10])), (a0_7, .inr (0, [.int a0_7_0, a0_7g_1, a0_7g_2, a0_7g_3, a0_7g_4, a0_7g_5, a0_7g_6, a0_7g_7, a0_7g_8, a0_7g_9, a0_7g_10, a0_7g_11, a0_7g_12, a0_7g_13, a0_7g_14]))] s.heap := hP
  have hl := lv_entry ([.ref a0, .int a1, .int a2]) (n := 4) (Nat.le_of_ble_eq_true rfl)
  rw [lg_entry_eq]
  generalize (lg_sl ([.ref a0, .int a1, .int a2]) ++ List.replicate (4 - (lg_sl ([.ref a0, .int a1, .int a2])).length) Slot.unset).toArray = ls at hl ⊢
  have hl : lv_has ls 4 [(0, .ref a0), (1, .int a1), (2, .int a2)] := hl
  refine lv_aload_n hx hb dX7_lawFor_0 rfl (lv_at hl 0 rfl) ?_
  refine lv_iload_n hx hb dX7_lawFor_1 rfl (lv_at hl 1 rfl) ?_
  refine lv_iload_n hx hb dX7_lawFor_2 rfl (lv_at hl 2 rfl) ?_
  refine lv_bipush (v := 99) hx hb dX7_lawFor_3 zk_bipush_99 ?_
  obtain ⟨hPc, hDc, hFc, hCc⟩ := zc_cut (wc := [(a0, .inr (7, [a0g_0, a0g_1, a0g_2, a0g_3, a0g_4, a0g_5, a0g_6, .ref a0_7, .int a0_8, a0g_9, a0g_10])), (a0_7, .inr (0, [.int a0_7_0, a0_7g_1, a0_7g_2, a0_7g_3, a0_7g_4, a0_7g_5, a0_7g_6, a0_7g_7, a0_7g_8, a0_7g_9, a0_7g_10, a0_7g_11, a0_7g_12, a0_7g_13, a0_7g_14]))]) hP hD hS hA [0, 1] (by decide +kernel) rfl
  have hKc := hK.sub (tys' := []) [] rfl
  refine va_calli (va_runV (As := [.int a1, .int a2, .int 99]) (rest := []) ⟨hx, hb, hml, hown, hts⟩ (c_X7_troubleOfFigureWithin l dC dI s.heap.size a0 a1 a2 99 a0g_0 a0g_1 a0g_2 a0g_3 a0g_4 a0g_5 a0g_6 (.int a0_8) a0g_9 a0g_10 a0_7 a0_7_0 a0_7g_1 a0_7g_2 a0_7g_3 a0_7g_4 a0_7g_5 a0_7g_6 a0_7g_7 a0_7g_8 a0_7g_9 a0_7g_10 a0_7g_11 a0_7g_12 a0_7g_13 a0_7g_14 ba0_7_0_l ba0_7_0_u) (cwV 3 hts gX7_lawFor_X7_troubleOfFigureWithin rfl rfl rfl zd_X7_troubleOfFigureWithin ⟨Nat.le_of_ble_eq_true rfl, Nat.le_of_ble_eq_true rfl⟩) ⟨ax_blind (fun _ _ _ _ _ => trivial), zr_7 hKc hPc (q0 := 0) rfl, ax_pre hPc hKc hDc (fun _ _ => trivial)⟩ rfl rfl hl.1 rfl (lv_room (Nat.le_of_ble_eq_true rfl)) dX7_lawFor_5 ⟨Nat.le_of_ble_eq_true rfl, Nat.le_of_ble_eq_true rfl⟩) hS (fun q _ h => hFc q h) hFc (fun r5 u t H locs ht hvm hw hB hz1 hk1 hS => ?_)
  obtain ⟨hP1, hK1, hD1⟩ := hB
  rw [ht] at hP1
  obtain ⟨hP, hD⟩ := zc_back (w := [(a0, .inr (7, [a0g_0, a0g_1, a0g_2, a0g_3, a0g_4, a0g_5, a0g_6, .ref a0_7, .int a0_8, a0g_9, a0g_10])), (a0_7, .inr (0, [.int a0_7_0, a0_7g_1, a0_7g_2, a0_7g_3, a0_7g_4, a0_7g_5, a0_7g_6, a0_7g_7, a0_7g_8, a0_7g_9, a0_7g_10, a0_7g_11, a0_7g_12, a0_7g_13, a0_7g_14]))]) hP hD hCc hk1 hFc hP1 hD1 [.inr 0, .inr 1] (by decide +kernel) rfl
  rcases hw with hw | hw | hw
  · obtain ⟨hw, fh5, gh5, kh5, h5⟩ := hw
    subst hw
    have l5k0_a0_7_0 : (1 : Int) ≤ a0_7_0.toInt := fh5
    have l5k0_a1 : (0 : Int) ≤ a1.toInt := gh5
    have u5k0_a1 : a1.toInt ≤ (8 : Int) := kh5
    have l5k0_a2 : (0 : Int) ≤ a2.toInt := Int.le_trans zq5 h5.1
    have u5k0_a2 : a2.toInt ≤ (99 : Int) := Int.le_trans h5.2 zq43
    refine lv_istore_n (lv' := [(3, .int 0), (0, .ref a0), (1, .int a1), (2, .int a2)]) hx hb dX7_lawFor_8 rfl hl (by decide) rfl (fun ls hl => ?_)
    refine lv_iload_n hx hb dX7_lawFor_9 rfl (lv_at hl 0 rfl) ?_
    refine lv_if_eq (tgt := 19) hx hb dX7_lawFor_10 (by decide) (fun _ => ?_) (fun c10 => absurd (by decide +kernel) c10)
    refine lv_aload_n hx hb dX7_lawFor_19 rfl (lv_at hl 1 rfl) ?_
    refine lv_iload_n hx hb dX7_lawFor_20 rfl (lv_at hl 3 rfl) ?_
    refine lv_if_ne (tgt := 28) hx hb dX7_lawFor_21 (by decide) (fun c21 => ?_) (fun c21 => ?_)
    · have gc21 := ai_ne c21
      have l21t_a2 : (1 : Int) ≤ a2.toInt := (by have h1 := l5k0_a2; have h2 : (0 : Int32).toInt = 0 := (by decide); rw [h2] at gc21; omega)
      refine lv_bipush (v := 10) hx hb dX7_lawFor_28 zk_bipush_10 ?_
      refine lv_iload_n hx hb dX7_lawFor_30 rfl (lv_at hl 2 rfl) ?_
      refine lv_imul hx hb dX7_lawFor_31 ?_
      refine lv_topi (fun x31 ex31 => ?_)
      have qx31 : x31.toInt = (10 : Int32).toInt * a1.toInt ∧ (0 : Int) ≤ x31.toInt ∧ x31.toInt ≤ 80 := ai_mul ex31 ⟨zq26, zq27⟩ ⟨l5k0_a1, u5k0_a1⟩ (by decide) (by decide) zq34
      have wx31 : x31.toInt = 10 * a1.toInt := qx31.1
      obtain ⟨hPc, hDc, hFc, hCc⟩ := zc_cut (wc := [(a0, .inr (7, [a0g_0, a0g_1, a0g_2, a0g_3, a0g_4, a0g_5, a0g_6, .ref a0_7, .int a0_8, a0g_9, a0g_10]))]) hP hD hS hA [0] (by decide +kernel) rfl
      have hKc := hK.sub (tys' := []) [] rfl
      refine va_calli (va_runV (As := [.int x31]) (rest := []) ⟨hx, hb, hml, hown, hts⟩ (c_X7_answered l dC dI H.size a0 x31 a0g_0 a0g_1 a0g_2 a0g_3 a0g_4 a0g_5 a0g_6 (.ref a0_7) a0g_9 a0g_10 a0_8 ) (cwV 1 hts gX7_lawFor_X7_answered rfl rfl rfl zd_X7_answered ⟨Nat.le_of_ble_eq_true rfl, Nat.le_of_ble_eq_true rfl⟩) ⟨ax_blind (fun _ _ _ _ _ => trivial), zr_7 hKc hPc (q0 := 0) rfl, ax_pre hPc hKc hDc (fun _ _ => trivial)⟩ rfl rfl hl.1 rfl (lv_room (Nat.le_of_ble_eq_true rfl)) dX7_lawFor_32 ⟨Nat.le_of_ble_eq_true rfl, Nat.le_of_ble_eq_true rfl⟩) hS (fun q _ h => hFc q h) hFc (fun r32 u t H locs ht hvm hw hB hz1 hk1 hS => ?_)
      obtain ⟨v32na0_8, hP1, hK1, hD1⟩ := hB
      rw [ht] at hP1
      obtain ⟨hP, hD⟩ := zc_back (w := [(a0, .inr (7, [a0g_0, a0g_1, a0g_2, a0g_3, a0g_4, a0g_5, a0g_6, .ref a0_7, .int v32na0_8, a0g_9, a0g_10])), (a0_7, .inr (0, [.int a0_7_0, a0_7g_1, a0_7g_2, a0_7g_3, a0_7g_4, a0_7g_5, a0_7g_6, a0_7g_7, a0_7g_8, a0_7g_9, a0_7g_10, a0_7g_11, a0_7g_12, a0_7g_13, a0_7g_14]))]) hP hD hCc hk1 hFc hP1 hD1 [.inr 0, .inl 1] (by decide +kernel) rfl
      have hw : r32 = x31 := hw
      have hw := hw.symm
      subst hw
      exact W.iret (v := x31) hx hb hr (fun t ht hW => ⟨⟨x31, (), rfl, ⟨(Int.le_trans zq69 qx31.2.1), qx31.2.2⟩, v32na0_8, by rw [ht]; exact hP, va_K.moved hW.alike hK, hD⟩, hS.F ht⟩) hS.2.2 dX7_lawFor_35
    · have gc21 := ai_eq c21
      have u21f_a2 : a2.toInt ≤ (0 : Int) := Int.le_trans (Int.le_of_eq gc21) zq6
      have l21f_a2 : (0 : Int) ≤ a2.toInt := l5k0_a2
      refine lv_iload_n hx hb dX7_lawFor_24 rfl (lv_at hl 2 rfl) ?_
      refine lv_goto (tgt := 32) hx hb dX7_lawFor_25 (by decide) ?_
      obtain ⟨hPc, hDc, hFc, hCc⟩ := zc_cut (wc := [(a0, .inr (7, [a0g_0, a0g_1, a0g_2, a0g_3, a0g_4, a0g_5, a0g_6, .ref a0_7, .int a0_8, a0g_9, a0g_10]))]) hP hD hS hA [0] (by decide +kernel) rfl
      have hKc := hK.sub (tys' := []) [] rfl
      refine va_calli (va_runV (As := [.int a1]) (rest := []) ⟨hx, hb, hml, hown, hts⟩ (c_X7_answered l dC dI H.size a0 a1 a0g_0 a0g_1 a0g_2 a0g_3 a0g_4 a0g_5 a0g_6 (.ref a0_7) a0g_9 a0g_10 a0_8 ) (cwV 1 hts gX7_lawFor_X7_answered rfl rfl rfl zd_X7_answered ⟨Nat.le_of_ble_eq_true rfl, Nat.le_of_ble_eq_true rfl⟩) ⟨ax_blind (fun _ _ _ _ _ => trivial), zr_7 hKc hPc (q0 := 0) rfl, ax_pre hPc hKc hDc (fun _ _ => trivial)⟩ rfl rfl hl.1 rfl (lv_room (Nat.le_of_ble_eq_true rfl)) dX7_lawFor_32 ⟨Nat.le_of_ble_eq_true rfl, Nat.le_of_ble_eq_true rfl⟩) hS (fun q _ h => hFc q h) hFc (fun r32 u t H locs ht hvm hw hB hz1 hk1 hS => ?_)
      obtain ⟨v32na0_8, hP1, hK1, hD1⟩ := hB
      rw [ht] at hP1
      obtain ⟨hP, hD⟩ := zc_back (w := [(a0, .inr (7, [a0g_0, a0g_1, a0g_2, a0g_3, a0g_4, a0g_5, a0g_6, .ref a0_7, .int v32na0_8, a0g_9, a0g_10])), (a0_7, .inr (0, [.int a0_7_0, a0_7g_1, a0_7g_2, a0_7g_3, a0_7g_4, a0_7g_5, a0_7g_6, a0_7g_7, a0_7g_8, a0_7g_9, a0_7g_10, a0_7g_11, a0_7g_12, a0_7g_13, a0_7g_14]))]) hP hD hCc hk1 hFc hP1 hD1 [.inr 0, .inl 1] (by decide +kernel) rfl
      have hw : r32 = a1 := hw
      have hw := hw.symm
      subst hw
      exact W.iret (v := a1) hx hb hr (fun t ht hW => ⟨⟨a1, (), rfl, ⟨(Int.le_trans zq69 l5k0_a1), (Int.le_trans u5k0_a1 zq10)⟩, v32na0_8, by rw [ht]; exact hP, va_K.moved hW.alike hK, hD⟩, hS.F ht⟩) hS.2.2 dX7_lawFor_35
  · subst hw
    refine lv_istore_n (lv' := [(3, .int 1), (0, .ref a0), (1, .int a1), (2, .int a2)]) hx hb dX7_lawFor_8 rfl hl (by decide) rfl (fun ls hl => ?_)
    refine lv_iload_n hx hb dX7_lawFor_9 rfl (lv_at hl 0 rfl) ?_
    refine lv_if_eq (tgt := 19) hx hb dX7_lawFor_10 (by decide) (fun c10 => absurd c10 (by decide +kernel)) (fun _ => ?_)
    refine lv_aload_n hx hb dX7_lawFor_13 rfl (lv_at hl 1 rfl) ?_
    refine lv_iload_n hx hb dX7_lawFor_14 rfl (lv_at hl 0 rfl) ?_
    obtain ⟨hPc, hDc, hFc, hCc⟩ := zc_cut (wc := [(a0, .inr (7, [a0g_0, a0g_1, a0g_2, a0g_3, a0g_4, a0g_5, a0g_6, .ref a0_7, .int a0_8, a0g_9, a0g_10]))]) hP hD hS hA [0] (by decide +kernel) rfl
    have hKc := hK.sub (tys' := []) [] rfl
    refine va_calli (va_runV (As := [.int 1]) (rest := []) ⟨hx, hb, hml, hown, hts⟩ (c_X7_refused l dC dI H.size a0 1 a0g_0 a0g_1 a0g_2 a0g_3 a0g_4 a0g_5 a0g_6 (.ref a0_7) a0g_9 a0g_10 a0_8 ) (cwV 1 hts gX7_lawFor_X7_refused rfl rfl rfl zd_X7_refused ⟨Nat.le_of_ble_eq_true rfl, Nat.le_of_ble_eq_true rfl⟩) ⟨ax_blind (fun _ _ _ _ _ => trivial), zr_7 hKc hPc (q0 := 0) rfl, ax_pre hPc hKc hDc (fun _ _ => trivial)⟩ rfl rfl hl.1 rfl (lv_room (Nat.le_of_ble_eq_true rfl)) dX7_lawFor_15 ⟨Nat.le_of_ble_eq_true rfl, Nat.le_of_ble_eq_true rfl⟩) hS (fun q _ h => hFc q h) hFc (fun r15 u t H locs ht hvm hw hB hz1 hk1 hS => ?_)
    obtain ⟨v15na0_8, hP1, hK1, hD1⟩ := hB
    rw [ht] at hP1
    obtain ⟨hP, hD⟩ := zc_back (w := [(a0, .inr (7, [a0g_0, a0g_1, a0g_2, a0g_3, a0g_4, a0g_5, a0g_6, .ref a0_7, .int v15na0_8, a0g_9, a0g_10])), (a0_7, .inr (0, [.int a0_7_0, a0_7g_1, a0_7g_2, a0_7g_3, a0_7g_4, a0_7g_5, a0_7g_6, a0_7g_7, a0_7g_8, a0_7g_9, a0_7g_10, a0_7g_11, a0_7g_12, a0_7g_13, a0_7g_14]))]) hP hD hCc hk1 hFc hP1 hD1 [.inr 0, .inl 1] (by decide +kernel) rfl
    have hw : r15 = (-1) := hw
    have hw := hw.symm
    subst hw
    exact W.iret (v := (-1)) hx hb hr (fun t ht hW => ⟨⟨(-1), (), rfl, ⟨zq70, (Int.le_trans zq71 zq97)⟩, v15na0_8, by rw [ht]; exact hP, va_K.moved hW.alike hK, hD⟩, hS.F ht⟩) hS.2.2 dX7_lawFor_18
  · subst hw
    refine lv_istore_n (lv' := [(3, .int 2), (0, .ref a0), (1, .int a1), (2, .int a2)]) hx hb dX7_lawFor_8 rfl hl (by decide) rfl (fun ls hl => ?_)
    refine lv_iload_n hx hb dX7_lawFor_9 rfl (lv_at hl 0 rfl) ?_
    refine lv_if_eq (tgt := 19) hx hb dX7_lawFor_10 (by decide) (fun c10 => absurd c10 (by decide +kernel)) (fun _ => ?_)
    refine lv_aload_n hx hb dX7_lawFor_13 rfl (lv_at hl 1 rfl) ?_
    refine lv_iload_n hx hb dX7_lawFor_14 rfl (lv_at hl 0 rfl) ?_
    obtain ⟨hPc, hDc, hFc, hCc⟩ := zc_cut (wc := [(a0, .inr (7, [a0g_0, a0g_1, a0g_2, a0g_3, a0g_4, a0g_5, a0g_6, .ref a0_7, .int a0_8, a0g_9, a0g_10]))]) hP hD hS hA [0] (by decide +kernel) rfl
    have hKc := hK.sub (tys' := []) [] rfl
    refine va_calli (va_runV (As := [.int 2]) (rest := []) ⟨hx, hb, hml, hown, hts⟩ (c_X7_refused l dC dI H.size a0 2 a0g_0 a0g_1 a0g_2 a0g_3 a0g_4 a0g_5 a0g_6 (.ref a0_7) a0g_9 a0g_10 a0_8 ) (cwV 1 hts gX7_lawFor_X7_refused rfl rfl rfl zd_X7_refused ⟨Nat.le_of_ble_eq_true rfl, Nat.le_of_ble_eq_true rfl⟩) ⟨ax_blind (fun _ _ _ _ _ => trivial), zr_7 hKc hPc (q0 := 0) rfl, ax_pre hPc hKc hDc (fun _ _ => trivial)⟩ rfl rfl hl.1 rfl (lv_room (Nat.le_of_ble_eq_true rfl)) dX7_lawFor_15 ⟨Nat.le_of_ble_eq_true rfl, Nat.le_of_ble_eq_true rfl⟩) hS (fun q _ h => hFc q h) hFc (fun r15 u t H locs ht hvm hw hB hz1 hk1 hS => ?_)
    obtain ⟨v15na0_8, hP1, hK1, hD1⟩ := hB
    rw [ht] at hP1
    obtain ⟨hP, hD⟩ := zc_back (w := [(a0, .inr (7, [a0g_0, a0g_1, a0g_2, a0g_3, a0g_4, a0g_5, a0g_6, .ref a0_7, .int v15na0_8, a0g_9, a0g_10])), (a0_7, .inr (0, [.int a0_7_0, a0_7g_1, a0_7g_2, a0_7g_3, a0_7g_4, a0_7g_5, a0_7g_6, a0_7g_7, a0_7g_8, a0_7g_9, a0_7g_10, a0_7g_11, a0_7g_12, a0_7g_13, a0_7g_14]))]) hP hD hCc hk1 hFc hP1 hD1 [.inr 0, .inl 1] (by decide +kernel) rfl
    have hw : r15 = (-1) := hw
    have hw := hw.symm
    subst hw
    exact W.iret (v := (-1)) hx hb hr (fun t ht hW => ⟨⟨(-1), (), rfl, ⟨zq70, (Int.le_trans zq71 zq97)⟩, v15na0_8, by rw [ht]; exact hP, va_K.moved hW.alike hK, hD⟩, hS.F ht⟩) hS.2.2 dX7_lawFor_18

set_option maxHeartbeats 4000000 in
set_option maxRecDepth 100000 in
theorem c_X7_judge (l : Launch) (dC : Nat → ClassId) (dI : Nat → Nat → Nat) (sz : Nat) (a0 : Nat) (a0g_0 a0g_1 a0g_2 a0g_3 a0g_4 a0g_5 a0g_6 a0g_9 a0g_10 : Value) (a0_7 : Nat) (a0_8 : Int32) (a0_7_0 : Int32) (a0_7_1 : Int32) (a0_7g_2 a0_7g_3 a0_7g_4 a0_7g_8 a0_7g_10 a0_7g_11 a0_7g_14 : Value) (a0_7_5 : Int32) (a0_7_6 : Int32) (a0_7_7 : Int32) (a0_7_9 : Int32) (a0_7_12 : Nat) (a0_7_13 : Nat) (ka0_7_13 : ClassId) (fa0_7_13 : Nat → Int32) (ka0_7_12 : ClassId) (fa0_7_12 : Nat → Int32) (ba0_7_0_l : (0 : Int) ≤ a0_7_0.toInt) (ba0_7_0_u : a0_7_0.toInt ≤ (9 : Int)) (ba0_7_5_l : (0 : Int) ≤ a0_7_5.toInt) (ba0_7_5_u : a0_7_5.toInt ≤ (8 : Int)) (ba0_7_6_l : (0 : Int) ≤ a0_7_6.toInt) (ba0_7_6_u : a0_7_6.toInt ≤ (8 : Int)) (ba0_7_7_l : (0 : Int) ≤ a0_7_7.toInt) (ba0_7_7_u : a0_7_7.toInt ≤ (8 : Int)) (ba0_7_9_l : (0 : Int) ≤ a0_7_9.toInt) (ba0_7_9_u : a0_7_9.toInt ≤ (6 : Int)) (bfa0_7_13 : (∀ k, (0 : Int) ≤ (fa0_7_13 k).toInt ∧ (fa0_7_13 k).toInt ≤ 999)) : Met l yX7_judge wsX7_judge ({ frames := 2, cells := 0, slots := 0, locals := 51 }) (va_Pc [.ref a0] (ax_C dC dI sz [(a0, .inr (7, [a0g_0, a0g_1, a0g_2, a0g_3, a0g_4, a0g_5, a0g_6, .ref a0_7, .int a0_8, a0g_9, a0g_10])), (a0_7, .inr (0, [.int a0_7_0, .int a0_7_1, a0_7g_2, a0_7g_3, a0_7g_4, .int a0_7_5, .int a0_7_6, .int a0_7_7, a0_7g_8, .int a0_7_9, a0_7g_10, a0_7g_11, .ref a0_7_12, .ref a0_7_13, a0_7g_14])), (a0_7_13, .inl (ka0_7_13, 6, .inl (fa0_7_13))), (a0_7_12, .inl (ka0_7_12, 6, .inl (fa0_7_12)))] [(ka0_7_13, .int), (ka0_7_12, .int)] (fun U => va_Nw (.methodLinkNest RX0 72 yX7_laterTurn RX7) U))) (va_Qi (fun (r : Int32) (_ : Unit) => (-2 : Int) ≤ r.toInt ∧ r.toInt ≤ (5 : Int)) (fun (_ : Unit) (t : State) => ∃ na0_8 : Int32, ax_B dC dI (va_A [(a0, .inr (7, [a0g_0, a0g_1, a0g_2, a0g_3, a0g_4, a0g_5, a0g_6, .ref a0_7, .int a0_8, a0g_9, a0g_10])), (a0_7, .inr (0, [.int a0_7_0, .int a0_7_1, a0_7g_2, a0_7g_3, a0_7g_4, .int a0_7_5, .int a0_7_6, .int a0_7_7, a0_7g_8, .int a0_7_9, a0_7g_10, a0_7g_11, .ref a0_7_12, .ref a0_7_13, a0_7g_14])), (a0_7_13, .inl (ka0_7_13, 6, .inl (fa0_7_13))), (a0_7_12, .inl (ka0_7_12, 6, .inl (fa0_7_12)))] sz) [(a0, .inr (7, [a0g_0, a0g_1, a0g_2, a0g_3, a0g_4, a0g_5, a0g_6, .ref a0_7, .int na0_8, a0g_9, a0g_10])), (a0_7, .inr (0, [.int a0_7_0, .int a0_7_1, a0_7g_2, a0_7g_3, a0_7g_4, .int a0_7_5, .int a0_7_6, .int a0_7_7, a0_7g_8, .int a0_7_9, a0_7g_10, a0_7g_11, .ref a0_7_12, .ref a0_7_13, a0_7g_14])), (a0_7_13, .inl (ka0_7_13, 6, .inl (fa0_7_13))), (a0_7_12, .inl (ka0_7_12, 6, .inl (fa0_7_12)))] [(ka0_7_13, .int), (ka0_7_12, .int)] t) (va_A [(a0, .inr (7, [a0g_0, a0g_1, a0g_2, a0g_3, a0g_4, a0g_5, a0g_6, .ref a0_7, .int a0_8, a0g_9, a0g_10])), (a0_7, .inr (0, [.int a0_7_0, .int a0_7_1, a0_7g_2, a0_7g_3, a0_7g_4, .int a0_7_5, .int a0_7_6, .int a0_7_7, a0_7g_8, .int a0_7_9, a0_7g_10, a0_7g_11, .ref a0_7_12, .ref a0_7_13, a0_7g_14])), (a0_7_13, .inl (ka0_7_13, 6, .inl (fa0_7_13))), (a0_7_12, .inl (ka0_7_12, 6, .inl (fa0_7_12)))] sz)) 0 0 (va_A [(a0, .inr (7, [a0g_0, a0g_1, a0g_2, a0g_3, a0g_4, a0g_5, a0g_6, .ref a0_7, .int a0_8, a0g_9, a0g_10])), (a0_7, .inr (0, [.int a0_7_0, .int a0_7_1, a0_7g_2, a0_7g_3, a0_7g_4, .int a0_7_5, .int a0_7_6, .int a0_7_7, a0_7g_8, .int a0_7_9, a0_7g_10, a0_7g_11, .ref a0_7_12, .ref a0_7_13, a0_7g_14])), (a0_7_13, .inl (ka0_7_13, 6, .inl (fa0_7_13))), (a0_7_12, .inl (ka0_7_12, 6, .inl (fa0_7_12)))] sz) := by
  refine Met.ofW (cc := cX7_judge) (maxL := 3) (ret := (some .int)) (by decide) rfl ?_
  intro p e s m args below meth c s₁ B hml hv
  obtain ⟨rfl, hsz, hP, hK, hD0, hE⟩ := hv
  have hx := B.exec
  have hb := B.bytes
  have hr := B.returns
  have hts := atoms_spec (ws := wsX7_judge) B.pre
  have hown : s.vm.findClass RX7 = some m.cls := findClass_of_methodNamed B.named
  have hlocks := B.notSynchronized
  subst hsz
  have hD := hD0.self (sz := s.heap.size)
  generalize hAe : va_A [(a0, .inr (7, [a0g_0, a0g_1, a0g_2, a0g_3, a0g_4, a0g_5, a0g_6, .ref a0_7, .int a0_8, a0g_9, a0g_10])), (a0_7, .inr (0, [.int a0_7_0, .int a0_7_1, a0_7g_2, a0_7g_3, a0_7g_4, .int a0_7_5, .int a0_7_6, .int a0_7_7, a0_7g_8, .int a0_7_9, a0_7g_10, a0_7g_11, .ref a0_7_12, .ref a0_7_13, a0_7g_14])), (a0_7_13, .inl (ka0_7_13, 6, .inl (fa0_7_13))), (a0_7_12, .inl (ka0_7_12, 6, .inl (fa0_7_12)))] s.heap.size = A at hD ⊢
  have hA : ∀ q : Nat, s.heap.size ≤ q → A q := fun q h => by rw [← hAe]; exact Or.inr h
  have hS : va_S A s.heap s.heap [] := va_S.rf
  have hP : va_P (dC, dI) vwCl [(a0, .inr (7, [a0g_0, a0g_1, a0g_2, a0g_3, a0g_4, a0g_5, a0g_6, .ref a0_7, .int a0_8, a0g_9, a0g_10])), (a0_7, .inr (0, [.int a0_7_0, .int a0_7_1, a0_7g_2, a0_7g_3, a0_7g_4, .int a0_7_5, .int a0_7_6, .int a0_7_7, a0_7g_8, .int a0_7_9, a0_7g_10, a0_7g_11, .ref a0_7_12, .ref a0_7_13, a0_7g_14])), (a0_7_13, .inl (ka0_7_13, 6, .inl (fa0_7_13))), (a0_7_12, .inl (ka0_7_12, 6, .inl (fa0_7_12)))] s.heap := hP
  have hE0 := hE
  have hl := lv_entry ([.ref a0]) (n := 3) (Nat.le_of_ble_eq_true rfl)
  rw [lg_entry_eq]
  generalize (lg_sl ([.ref a0]) ++ List.replicate (3 - (lg_sl ([.ref a0])).length) Slot.unset).toArray = ls at hl ⊢
  have hl : lv_has ls 3 [(0, .ref a0)] := hl
  refine ai_open (fun K hK0 => ?_)
  refine (hK0 _ _ _).mpr ?_
  refine lv_aload_n hx hb dX7_judge_0 rfl (lv_at hl 0 rfl) ?_
  obtain ⟨hPc, hDc, hFc, hCc⟩ := zc_cut (wc := [(a0, .inr (7, [a0g_0, a0g_1, a0g_2, a0g_3, a0g_4, a0g_5, a0g_6, .ref a0_7, .int a0_8, a0g_9, a0g_10])), (a0_7, .inr (0, [.int a0_7_0, .int a0_7_1, a0_7g_2, a0_7g_3, a0_7g_4, .int a0_7_5, .int a0_7_6, .int a0_7_7, a0_7g_8, .int a0_7_9, a0_7g_10, a0_7g_11, .ref a0_7_12, .ref a0_7_13, a0_7g_14]))]) hP hD hS hA [0, 1] (by decide +kernel) rfl
  have hKc := hK.sub (tys' := []) [] rfl
  refine va_calli (va_runV (As := []) (rest := []) ⟨hx, hb, hml, hown, hts⟩ (c_X7_hasGallery l dC dI s.heap.size a0 a0g_0 a0g_1 a0g_2 a0g_3 a0g_4 a0g_5 a0g_6 (.int a0_8) a0g_9 a0g_10 a0_7 a0_7_0 (.int a0_7_1) a0_7g_2 a0_7g_3 a0_7g_4 (.int a0_7_5) (.int a0_7_6) (.int a0_7_7) a0_7g_8 (.int a0_7_9) a0_7g_10 a0_7g_11 (.ref a0_7_12) (.ref a0_7_13) a0_7g_14 ba0_7_0_l ba0_7_0_u) (cwV 0 hts gX7_judge_X7_hasGallery rfl rfl rfl zd_X7_hasGallery ⟨Nat.le_of_ble_eq_true rfl, Nat.le_of_ble_eq_true rfl⟩) ⟨ax_blind (fun _ _ _ _ _ => trivial), zr_7 hKc hPc (q0 := 0) rfl, ax_pre hPc hKc hDc (fun _ _ => trivial)⟩ rfl rfl hl.1 rfl (lv_room (Nat.le_of_ble_eq_true rfl)) dX7_judge_1 ⟨Nat.le_of_ble_eq_true rfl, Nat.le_of_ble_eq_true rfl⟩) hS (fun q _ h => hFc q h) hFc (fun r1 u t H locs ht hvm hw hB hz1 hk1 hS => ?_)
  obtain ⟨hP1, hK1, hD1⟩ := hB
  rw [ht] at hP1
  obtain ⟨hP, hD⟩ := zc_back (w := [(a0, .inr (7, [a0g_0, a0g_1, a0g_2, a0g_3, a0g_4, a0g_5, a0g_6, .ref a0_7, .int a0_8, a0g_9, a0g_10])), (a0_7, .inr (0, [.int a0_7_0, .int a0_7_1, a0_7g_2, a0_7g_3, a0_7g_4, .int a0_7_5, .int a0_7_6, .int a0_7_7, a0_7g_8, .int a0_7_9, a0_7g_10, a0_7g_11, .ref a0_7_12, .ref a0_7_13, a0_7g_14])), (a0_7_13, .inl (ka0_7_13, 6, .inl (fa0_7_13))), (a0_7_12, .inl (ka0_7_12, 6, .inl (fa0_7_12)))]) hP hD hCc hk1 hFc hP1 hD1 [.inr 0, .inr 1, .inl 2, .inl 3] (by decide +kernel) rfl
  rcases hw with hw | hw
  · obtain ⟨hw, h1_0, h1_1⟩ := hw
    subst hw
    have l1k0_a0_7_0 : (1 : Int) ≤ a0_7_0.toInt := h1_0
    have u1k0_a0_7_0 : a0_7_0.toInt ≤ (9 : Int) := ba0_7_0_u
    refine lv_if_ne (tgt := 13) hx hb dX7_judge_4 (by decide) (fun _ => ?_) (fun c4 => absurd c4 (by decide +kernel))
    refine lv_bipush (v := 100) hx hb dX7_judge_13 zk_bipush_100 ?_
    refine lv_aload_n hx hb dX7_judge_15 rfl (lv_at hl 0 rfl) ?_
    refine va_get (D := (dC, dI)) (ci := 7) (v := .ref a0_7) (C := RX7) (T := TX7) (N := 11) hx hb hts zi_X7_judge_7 hown hK hP 0 rfl rfl 7 (by decide) (hts (.fieldLink RX7 57 "WaxTurns" "hall" "LWaxTurns$Hall;") (zm_X7_judge_r1 (List.mem_of_getElem? (i := 0) rfl))) (fun _ h9 => h9) rfl dX7_judge_16 ?_
    refine va_get (D := (dC, dI)) (ci := 0) (v := .int a0_7_5) (C := RX0) (T := TX0) (N := 15) hx hb hts zi_X7_judge_0 hown hK hP 1 rfl rfl 5 (by decide) (hts (.fieldLink RX7 284 "WaxTurns$Hall" "times" "I") (zm_X7_judge_r1 (List.mem_of_getElem? (i := 1) rfl))) (fun _ h9 => h9) rfl dX7_judge_19 ?_
    refine lv_imul hx hb dX7_judge_22 ?_
    refine lv_topi (fun x22 ex22 => ?_)
    have qx22 : x22.toInt = (100 : Int32).toInt * a0_7_5.toInt ∧ (0 : Int) ≤ x22.toInt ∧ x22.toInt ≤ 800 := ai_mul ex22 ⟨zq24, zq32⟩ ⟨ba0_7_5_l, ba0_7_5_u⟩ (by decide) (by decide) zq33
    have wx22 : x22.toInt = 100 * a0_7_5.toInt := qx22.1
    refine lv_bipush (v := 10) hx hb dX7_judge_23 zk_bipush_10 ?_
    refine lv_aload_n hx hb dX7_judge_25 rfl (lv_at hl 0 rfl) ?_
    refine va_get (D := (dC, dI)) (ci := 7) (v := .ref a0_7) (C := RX7) (T := TX7) (N := 11) hx hb hts zi_X7_judge_7 hown hK hP 0 rfl rfl 7 (by decide) (hts (.fieldLink RX7 57 "WaxTurns" "hall" "LWaxTurns$Hall;") (zm_X7_judge_r1 (List.mem_of_getElem? (i := 0) rfl))) (fun _ h9 => h9) rfl dX7_judge_26 ?_
    refine va_get (D := (dC, dI)) (ci := 0) (v := .int a0_7_6) (C := RX0) (T := TX0) (N := 15) hx hb hts zi_X7_judge_0 hown hK hP 1 rfl rfl 6 (by decide) (hts (.fieldLink RX7 287 "WaxTurns$Hall" "plus" "I") (zm_X7_judge_r1 (List.mem_of_getElem? (i := 2) rfl))) (fun _ h9 => h9) rfl dX7_judge_29 ?_
    refine lv_imul hx hb dX7_judge_32 ?_
    refine lv_topi (fun x32 ex32 => ?_)
    have qx32 : x32.toInt = (10 : Int32).toInt * a0_7_6.toInt ∧ (0 : Int) ≤ x32.toInt ∧ x32.toInt ≤ 80 := ai_mul ex32 ⟨zq26, zq27⟩ ⟨ba0_7_6_l, ba0_7_6_u⟩ (by decide) (by decide) zq34
    have wx32 : x32.toInt = 10 * a0_7_6.toInt := qx32.1
    refine lv_iadd hx hb dX7_judge_33 ?_
    refine lv_topi (fun x33 ex33 => ?_)
    have qx33 : x33.toInt = x22.toInt + x32.toInt := ai_add ex33 ⟨qx22.2.1, qx22.2.2⟩ ⟨qx32.2.1, qx32.2.2⟩ (by decide) (by decide)
    have bx33 : (0 : Int) ≤ x33.toInt ∧ x33.toInt ≤ 880 := ⟨by rw [qx33]; exact Int.add_le_add qx22.2.1 qx32.2.1, by rw [qx33]; exact Int.add_le_add qx22.2.2 qx32.2.2⟩
    refine lv_aload_n hx hb dX7_judge_34 rfl (lv_at hl 0 rfl) ?_
    refine va_get (D := (dC, dI)) (ci := 7) (v := .ref a0_7) (C := RX7) (T := TX7) (N := 11) hx hb hts zi_X7_judge_7 hown hK hP 0 rfl rfl 7 (by decide) (hts (.fieldLink RX7 57 "WaxTurns" "hall" "LWaxTurns$Hall;") (zm_X7_judge_r1 (List.mem_of_getElem? (i := 0) rfl))) (fun _ h9 => h9) rfl dX7_judge_35 ?_
    refine va_get (D := (dC, dI)) (ci := 0) (v := .int a0_7_7) (C := RX0) (T := TX0) (N := 15) hx hb hts zi_X7_judge_0 hown hK hP 1 rfl rfl 7 (by decide) (hts (.fieldLink RX7 98 "WaxTurns$Hall" "first" "I") (zm_X7_judge_r1 (List.mem_of_getElem? (i := 3) rfl))) (fun _ h9 => h9) rfl dX7_judge_38 ?_
    refine lv_iadd hx hb dX7_judge_41 ?_
    refine lv_topi (fun x41 ex41 => ?_)
    have qx41 : x41.toInt = x33.toInt + a0_7_7.toInt := ai_add ex41 ⟨bx33.1, bx33.2⟩ ⟨ba0_7_7_l, ba0_7_7_u⟩ (by decide) (by decide)
    have bx41 : (0 : Int) ≤ x41.toInt ∧ x41.toInt ≤ 888 := ⟨by rw [qx41]; exact Int.add_le_add bx33.1 ba0_7_7_l, by rw [qx41]; exact Int.add_le_add bx33.2 ba0_7_7_u⟩
    refine lv_istore_n (lv' := [(1, .int x41), (0, .ref a0)]) hx hb dX7_judge_42 rfl hl (by decide) rfl (fun ls hl => ?_)
    refine lv_iconst (v := 0) hx hb dX7_judge_43 zk_iconst_0 ?_
    refine lv_istore_n (lv' := [(2, .int 0), (1, .int x41), (0, .ref a0)]) hx hb dX7_judge_44 rfl hl (by decide) rfl (fun ls hl => ?_)
    have J45 : ∀ (n : Nat) (j45l2 : Int32) (H : Heap) (locs : List Loc) (ls : Array Slot), (7 : Int) - j45l2.toInt ≤ (n : Int) → (0 : Int) ≤ j45l2.toInt → j45l2.toInt ≤ (6 : Int) → va_P (dC, dI) vwCl [(a0, .inr (7, [a0g_0, a0g_1, a0g_2, a0g_3, a0g_4, a0g_5, a0g_6, .ref a0_7, .int a0_8, a0g_9, a0g_10])), (a0_7, .inr (0, [.int a0_7_0, .int a0_7_1, a0_7g_2, a0_7g_3, a0_7g_4, .int a0_7_5, .int a0_7_6, .int a0_7_7, a0_7g_8, .int a0_7_9, a0_7g_10, a0_7g_11, .ref a0_7_12, .ref a0_7_13, a0_7g_14])), (a0_7_13, .inl (ka0_7_13, 6, .inl (fa0_7_13))), (a0_7_12, .inl (ka0_7_12, 6, .inl (fa0_7_12)))] H → va_D A [(a0, .inr (7, [a0g_0, a0g_1, a0g_2, a0g_3, a0g_4, a0g_5, a0g_6, .ref a0_7, .int a0_8, a0g_9, a0g_10])), (a0_7, .inr (0, [.int a0_7_0, .int a0_7_1, a0_7g_2, a0_7g_3, a0_7g_4, .int a0_7_5, .int a0_7_6, .int a0_7_7, a0_7g_8, .int a0_7_9, a0_7g_10, a0_7g_11, .ref a0_7_12, .ref a0_7_13, a0_7g_14])), (a0_7_13, .inl (ka0_7_13, 6, .inl (fa0_7_13))), (a0_7_12, .inl (ka0_7_12, 6, .inl (fa0_7_12)))] → va_S A s.heap H locs → lv_has ls 3 [(0, .ref a0), (1, .int x41), (2, .int j45l2)] → K H locs (F0 m 45 ls []) := by
      intro n
      induction n with
      | zero =>
        intro j45l2 H locs ls hm bj45l2_l bj45l2_u hP hD hS hl
        have h8 := ai_min j45l2
        have h9 := ai_max j45l2
        exact absurd hm (by omega)
      | succ n ih45 =>
        intro j45l2 H locs ls hm bj45l2_l bj45l2_u hP hD hS hl
        refine (hK0 _ _ _).mpr ?_
        have hm45 := hm
        refine lv_iload_n hx hb dX7_judge_45 rfl (lv_at hl 2 rfl) ?_
        refine lv_aload_n hx hb dX7_judge_46 rfl (lv_at hl 0 rfl) ?_
        refine va_get (D := (dC, dI)) (ci := 7) (v := .ref a0_7) (C := RX7) (T := TX7) (N := 11) hx hb hts zi_X7_judge_7 hown hK hP 0 rfl rfl 7 (by decide) (hts (.fieldLink RX7 57 "WaxTurns" "hall" "LWaxTurns$Hall;") (zm_X7_judge_r1 (List.mem_of_getElem? (i := 0) rfl))) (fun _ h9 => h9) rfl dX7_judge_47 ?_
        refine va_get (D := (dC, dI)) (ci := 0) (v := .int a0_7_9) (C := RX0) (T := TX0) (N := 15) hx hb hts zi_X7_judge_0 hown hK hP 1 rfl rfl 9 (by decide) (hts (.fieldLink RX7 290 "WaxTurns$Hall" "seenCount" "I") (zm_X7_judge_r1 (List.mem_of_getElem? (i := 4) rfl))) (fun _ h9 => h9) rfl dX7_judge_50 ?_
        refine lv_icmp_ge (tgt := 97) hx hb dX7_judge_53 (by decide) (fun c53 => ?_) (fun c53 => ?_)
        · have gc53 := ai_le c53
          have u53t_a0_7_9 : a0_7_9.toInt ≤ (6 : Int) := ba0_7_9_u
          have l53t_j45l2 : (0 : Int) ≤ j45l2.toInt := bj45l2_l
          refine lv_aload_n hx hb dX7_judge_97 rfl (lv_at hl 0 rfl) ?_
          refine lv_bipush (v := (-2)) hx hb dX7_judge_98 zk_bipush_n2 ?_
          obtain ⟨hPc, hDc, hFc, hCc⟩ := zc_cut (wc := [(a0, .inr (7, [a0g_0, a0g_1, a0g_2, a0g_3, a0g_4, a0g_5, a0g_6, .ref a0_7, .int a0_8, a0g_9, a0g_10]))]) hP hD hS hA [0] (by decide +kernel) rfl
          have hKc := hK.sub (tys' := []) [] rfl
          refine va_calli (va_runV (As := [.int (-2)]) (rest := []) ⟨hx, hb, hml, hown, hts⟩ (c_X7_answered l dC dI H.size a0 (-2) a0g_0 a0g_1 a0g_2 a0g_3 a0g_4 a0g_5 a0g_6 (.ref a0_7) a0g_9 a0g_10 a0_8 ) (cwV 1 hts gX7_judge_X7_answered rfl rfl rfl zd_X7_answered ⟨Nat.le_of_ble_eq_true rfl, Nat.le_of_ble_eq_true rfl⟩) ⟨ax_blind (fun _ _ _ _ _ => trivial), zr_7 hKc hPc (q0 := 0) rfl, ax_pre hPc hKc hDc (fun _ _ => trivial)⟩ rfl rfl hl.1 rfl (lv_room (Nat.le_of_ble_eq_true rfl)) dX7_judge_100 ⟨Nat.le_of_ble_eq_true rfl, Nat.le_of_ble_eq_true rfl⟩) hS (fun q _ h => hFc q h) hFc (fun r100 u t H locs ht hvm hw hB hz1 hk1 hS => ?_)
          obtain ⟨v100na0_8, hP1, hK1, hD1⟩ := hB
          rw [ht] at hP1
          obtain ⟨hP, hD⟩ := zc_back (w := [(a0, .inr (7, [a0g_0, a0g_1, a0g_2, a0g_3, a0g_4, a0g_5, a0g_6, .ref a0_7, .int v100na0_8, a0g_9, a0g_10])), (a0_7, .inr (0, [.int a0_7_0, .int a0_7_1, a0_7g_2, a0_7g_3, a0_7g_4, .int a0_7_5, .int a0_7_6, .int a0_7_7, a0_7g_8, .int a0_7_9, a0_7g_10, a0_7g_11, .ref a0_7_12, .ref a0_7_13, a0_7g_14])), (a0_7_13, .inl (ka0_7_13, 6, .inl (fa0_7_13))), (a0_7_12, .inl (ka0_7_12, 6, .inl (fa0_7_12)))]) hP hD hCc hk1 hFc hP1 hD1 [.inr 0, .inl 1, .inl 2, .inl 3] (by decide +kernel) rfl
          have hw : r100 = (-2) := hw
          have hw := hw.symm
          subst hw
          exact W.iret (v := (-2)) hx hb hr (fun t ht hW => ⟨⟨(-2), (), rfl, ⟨zq45, (Int.le_trans zq44 zq98)⟩, v100na0_8, by rw [ht]; exact hP, va_K.moved hW.alike hK, hD⟩, hS.F ht⟩) hS.2.2 dX7_judge_103
        · have gc53 := ai_nle c53
          have u53f_j45l2 : j45l2.toInt ≤ (5 : Int) := ai_lthi gc53 ba0_7_9_u
          have l53f_a0_7_9 : (1 : Int) ≤ a0_7_9.toInt := ai_ltlo gc53 bj45l2_l
          refine lv_aload_n hx hb dX7_judge_56 rfl (lv_at hl 0 rfl) ?_
          refine va_get (D := (dC, dI)) (ci := 7) (v := .ref a0_7) (C := RX7) (T := TX7) (N := 11) hx hb hts zi_X7_judge_7 hown hK hP 0 rfl rfl 7 (by decide) (hts (.fieldLink RX7 57 "WaxTurns" "hall" "LWaxTurns$Hall;") (zm_X7_judge_r1 (List.mem_of_getElem? (i := 0) rfl))) (fun _ h9 => h9) rfl dX7_judge_57 ?_
          refine lv_iload_n hx hb dX7_judge_60 rfl (lv_at hl 1 rfl) ?_
          refine lv_aload_n hx hb dX7_judge_61 rfl (lv_at hl 0 rfl) ?_
          refine va_get (D := (dC, dI)) (ci := 7) (v := .ref a0_7) (C := RX7) (T := TX7) (N := 11) hx hb hts zi_X7_judge_7 hown hK hP 0 rfl rfl 7 (by decide) (hts (.fieldLink RX7 57 "WaxTurns" "hall" "LWaxTurns$Hall;") (zm_X7_judge_r1 (List.mem_of_getElem? (i := 0) rfl))) (fun _ h9 => h9) rfl dX7_judge_62 ?_
          refine va_get (D := (dC, dI)) (ci := 0) (v := .ref a0_7_13) (C := RX0) (T := TX0) (N := 15) hx hb hts zi_X7_judge_0 hown hK hP 1 rfl rfl 13 (by decide) (hts (.fieldLink RX7 293 "WaxTurns$Hall" "seenMinutes" "[I") (zm_X7_judge_r1 (List.mem_of_getElem? (i := 5) rfl))) (fun _ h9 => h9) rfl dX7_judge_65 ?_
          refine lv_iload_n hx hb dX7_judge_68 rfl (lv_at hl 2 rfl) ?_
          refine va_iald hx hb hK hP 2 0 rfl rfl (ai_in bj45l2_l u53f_j45l2 (by decide) (by decide)) dX7_judge_69 ?_
          refine lv_topi (fun x69 ex69 => ?_)
          have bx69 : (0 : Int) ≤ x69.toInt ∧ x69.toInt ≤ 999 := by rw [ex69]; exact bfa0_7_13 _
          obtain ⟨hPc, hDc, hFc, hCc⟩ := zc_cut (wc := [(a0_7, .inr (0, [.int a0_7_0, .int a0_7_1, a0_7g_2, a0_7g_3, a0_7g_4, .int a0_7_5, .int a0_7_6, .int a0_7_7, a0_7g_8, .int a0_7_9, a0_7g_10, a0_7g_11, .ref a0_7_12, .ref a0_7_13, a0_7g_14]))]) hP hD hS hA [1] (by decide +kernel) rfl
          have hKc := hK.sub (tys' := []) [] rfl
          refine va_calli (va_runV (As := [.int x41, .int x69]) (rest := []) ⟨hx, hb, hml, hown, hts⟩ (c_X0_aliveByLaw l dC dI H.size a0_7 x41 x69 a0_7_0 a0_7_1 a0_7g_2 a0_7g_3 a0_7g_4 (.int a0_7_5) (.int a0_7_6) (.int a0_7_7) a0_7g_8 (.int a0_7_9) a0_7g_10 a0_7g_11 (.ref a0_7_12) (.ref a0_7_13) a0_7g_14 bx41.1 (Int.le_trans bx41.2 zq31) bx69.1 bx69.2 (Int.le_trans zq4 l1k0_a0_7_0) u1k0_a0_7_0) (cwV 2 hts gX7_judge_X0_aliveByLaw rfl rfl rfl zd_X0_aliveByLaw ⟨Nat.le_of_ble_eq_true rfl, Nat.le_of_ble_eq_true rfl⟩) ⟨ax_blind (fun _ _ _ _ hq => va_Nw.same rfl rfl (hq)), zr_0 hKc hPc (q0 := 0) rfl, ax_pre hPc hKc hDc (fun _ hW => va_Nw.warmM hW hE0)⟩ rfl rfl hl.1 rfl (lv_room (Nat.le_of_ble_eq_true rfl)) dX7_judge_70 ⟨Nat.le_of_ble_eq_true rfl, Nat.le_of_ble_eq_true rfl⟩) hS (fun q _ h => hFc q h) hFc (fun r70 u t H locs ht hvm hw hB hz1 hk1 hS => ?_)
          obtain ⟨hP1, hK1, hD1⟩ := hB
          rw [ht] at hP1
          obtain ⟨hP, hD⟩ := zc_back (w := [(a0, .inr (7, [a0g_0, a0g_1, a0g_2, a0g_3, a0g_4, a0g_5, a0g_6, .ref a0_7, .int a0_8, a0g_9, a0g_10])), (a0_7, .inr (0, [.int a0_7_0, .int a0_7_1, a0_7g_2, a0_7g_3, a0_7g_4, .int a0_7_5, .int a0_7_6, .int a0_7_7, a0_7g_8, .int a0_7_9, a0_7g_10, a0_7g_11, .ref a0_7_12, .ref a0_7_13, a0_7g_14])), (a0_7_13, .inl (ka0_7_13, 6, .inl (fa0_7_13))), (a0_7_12, .inl (ka0_7_12, 6, .inl (fa0_7_12)))]) hP hD hCc hk1 hFc hP1 hD1 [.inl 0, .inr 0, .inl 2, .inl 3] (by decide +kernel) rfl
          have hw : (0 : Int) ≤ r70.toInt ∧ r70.toInt ≤ (9 : Int) := hw
          obtain ⟨h70_0, h70_1⟩ := hw
          refine lv_aload_n hx hb dX7_judge_73 rfl (lv_at hl 0 rfl) ?_
          refine va_get (D := (dC, dI)) (ci := 7) (v := .ref a0_7) (C := RX7) (T := TX7) (N := 11) hx hb hts zi_X7_judge_7 hown hK hP 0 rfl rfl 7 (by decide) (hts (.fieldLink RX7 57 "WaxTurns" "hall" "LWaxTurns$Hall;") (zm_X7_judge_r1 (List.mem_of_getElem? (i := 0) rfl))) (fun _ h9 => h9) rfl dX7_judge_74 ?_
          refine va_get (D := (dC, dI)) (ci := 0) (v := .ref a0_7_12) (C := RX0) (T := TX0) (N := 15) hx hb hts zi_X7_judge_0 hown hK hP 1 rfl rfl 12 (by decide) (hts (.fieldLink RX7 296 "WaxTurns$Hall" "seenFigures" "[I") (zm_X7_judge_r1 (List.mem_of_getElem? (i := 6) rfl))) (fun _ h9 => h9) rfl dX7_judge_77 ?_
          refine lv_iload_n hx hb dX7_judge_80 rfl (lv_at hl 2 rfl) ?_
          refine va_iald hx hb hK hP 3 1 rfl rfl (ai_in bj45l2_l u53f_j45l2 (by decide) (by decide)) dX7_judge_81 ?_
          refine lv_topi (fun x81 ex81 => ?_)
          refine lv_icmp_eq (tgt := 91) hx hb dX7_judge_82 (by decide) (fun c82 => ?_) (fun c82 => ?_)
          · have gc82 := ai_eq c82
            have u82t_x81 : x81.toInt ≤ (9 : Int) := Int.le_trans (Int.le_of_eq gc82.symm) h70_1
            have l82t_x81 : (0 : Int) ≤ x81.toInt := Int.le_trans h70_0 (Int.le_of_eq gc82)
            obtain ⟨x91, ex91⟩ : ∃ y : Int32, y = j45l2 + Int32.ofInt 1 := ⟨_, rfl⟩
            have qx91 : x91.toInt = j45l2.toInt + 1 := ai_inc ex91 (by decide) (by decide) u53f_j45l2 (by decide)
            have bx91 : (1 : Int) ≤ x91.toInt ∧ x91.toInt ≤ 6 := ⟨by rw [qx91]; exact Int.add_le_add bj45l2_l (Int.le_refl _), by rw [qx91]; exact Int.add_le_add u53f_j45l2 (Int.le_refl _)⟩
            refine lv_iinc (v := x91) (lv' := [(2, .int x91), (0, .ref a0), (1, .int x41)]) hx hb dX7_judge_91 hl (k := 2) rfl ex91.symm (by decide) rfl (fun ls hl => ?_)
            refine lv_goto (tgt := 45) hx hb dX7_judge_94 (by decide) ?_
            exact (hK0 _ _ _).mp (ih45 x91 _ _ _ (by have h0 := qx91; omega) (Int.le_trans zq4 bx91.1) bx91.2 hP hD hS (lv_sub hl [1, 2, 0] rfl))
          · have gc82 := ai_ne c82
            refine lv_aload_n hx hb dX7_judge_85 rfl (lv_at hl 0 rfl) ?_
            refine lv_iload_n hx hb dX7_judge_86 rfl (lv_at hl 2 rfl) ?_
            obtain ⟨hPc, hDc, hFc, hCc⟩ := zc_cut (wc := [(a0, .inr (7, [a0g_0, a0g_1, a0g_2, a0g_3, a0g_4, a0g_5, a0g_6, .ref a0_7, .int a0_8, a0g_9, a0g_10]))]) hP hD hS hA [0] (by decide +kernel) rfl
            have hKc := hK.sub (tys' := []) [] rfl
            refine va_calli (va_runV (As := [.int j45l2]) (rest := []) ⟨hx, hb, hml, hown, hts⟩ (c_X7_answered l dC dI H.size a0 j45l2 a0g_0 a0g_1 a0g_2 a0g_3 a0g_4 a0g_5 a0g_6 (.ref a0_7) a0g_9 a0g_10 a0_8 ) (cwV 1 hts gX7_judge_X7_answered rfl rfl rfl zd_X7_answered ⟨Nat.le_of_ble_eq_true rfl, Nat.le_of_ble_eq_true rfl⟩) ⟨ax_blind (fun _ _ _ _ _ => trivial), zr_7 hKc hPc (q0 := 0) rfl, ax_pre hPc hKc hDc (fun _ _ => trivial)⟩ rfl rfl hl.1 rfl (lv_room (Nat.le_of_ble_eq_true rfl)) dX7_judge_87 ⟨Nat.le_of_ble_eq_true rfl, Nat.le_of_ble_eq_true rfl⟩) hS (fun q _ h => hFc q h) hFc (fun r87 u t H locs ht hvm hw hB hz1 hk1 hS => ?_)
            obtain ⟨v87na0_8, hP1, hK1, hD1⟩ := hB
            rw [ht] at hP1
            obtain ⟨hP, hD⟩ := zc_back (w := [(a0, .inr (7, [a0g_0, a0g_1, a0g_2, a0g_3, a0g_4, a0g_5, a0g_6, .ref a0_7, .int v87na0_8, a0g_9, a0g_10])), (a0_7, .inr (0, [.int a0_7_0, .int a0_7_1, a0_7g_2, a0_7g_3, a0_7g_4, .int a0_7_5, .int a0_7_6, .int a0_7_7, a0_7g_8, .int a0_7_9, a0_7g_10, a0_7g_11, .ref a0_7_12, .ref a0_7_13, a0_7g_14])), (a0_7_13, .inl (ka0_7_13, 6, .inl (fa0_7_13))), (a0_7_12, .inl (ka0_7_12, 6, .inl (fa0_7_12)))]) hP hD hCc hk1 hFc hP1 hD1 [.inr 0, .inl 1, .inl 2, .inl 3] (by decide +kernel) rfl
            have hw : r87 = j45l2 := hw
            have hw := hw.symm
            subst hw
            exact W.iret (v := j45l2) hx hb hr (fun t ht hW => ⟨⟨j45l2, (), rfl, ⟨(Int.le_trans zq75 bj45l2_l), u53f_j45l2⟩, v87na0_8, by rw [ht]; exact hP, va_K.moved hW.alike hK, hD⟩, hS.F ht⟩) hS.2.2 dX7_judge_90
    exact (hK0 _ _ _).mp (J45 7 0 _ _ _ (by have h1 : (0 : Int) ≤ (0 : Int32).toInt := zq5; have h2 : (0 : Int32).toInt ≤ (0 : Int) := zq6; omega) zq5 (Int.le_trans zq6 zq17) hP hD hS (lv_sub hl [2, 1, 0] rfl))
  · obtain ⟨hw, h1_0, h1_1⟩ := hw
    subst hw
    have l1k1_a0_7_0 : (0 : Int) ≤ a0_7_0.toInt := ba0_7_0_l
    have u1k1_a0_7_0 : a0_7_0.toInt ≤ (0 : Int) := h1_1
    refine lv_if_ne (tgt := 13) hx hb dX7_judge_4 (by decide) (fun c4 => absurd (by decide +kernel) c4) (fun _ => ?_)
    refine lv_aload_n hx hb dX7_judge_7 rfl (lv_at hl 0 rfl) ?_
    refine lv_iconst (v := 1) hx hb dX7_judge_8 zk_iconst_1 ?_
    obtain ⟨hPc, hDc, hFc, hCc⟩ := zc_cut (wc := [(a0, .inr (7, [a0g_0, a0g_1, a0g_2, a0g_3, a0g_4, a0g_5, a0g_6, .ref a0_7, .int a0_8, a0g_9, a0g_10]))]) hP hD hS hA [0] (by decide +kernel) rfl
    have hKc := hK.sub (tys' := []) [] rfl
    refine va_calli (va_runV (As := [.int 1]) (rest := []) ⟨hx, hb, hml, hown, hts⟩ (c_X7_refused l dC dI H.size a0 1 a0g_0 a0g_1 a0g_2 a0g_3 a0g_4 a0g_5 a0g_6 (.ref a0_7) a0g_9 a0g_10 a0_8 ) (cwV 1 hts gX7_judge_X7_refused rfl rfl rfl zd_X7_refused ⟨Nat.le_of_ble_eq_true rfl, Nat.le_of_ble_eq_true rfl⟩) ⟨ax_blind (fun _ _ _ _ _ => trivial), zr_7 hKc hPc (q0 := 0) rfl, ax_pre hPc hKc hDc (fun _ _ => trivial)⟩ rfl rfl hl.1 rfl (lv_room (Nat.le_of_ble_eq_true rfl)) dX7_judge_9 ⟨Nat.le_of_ble_eq_true rfl, Nat.le_of_ble_eq_true rfl⟩) hS (fun q _ h => hFc q h) hFc (fun r9 u t H locs ht hvm hw hB hz1 hk1 hS => ?_)
    obtain ⟨v9na0_8, hP1, hK1, hD1⟩ := hB
    rw [ht] at hP1
    obtain ⟨hP, hD⟩ := zc_back (w := [(a0, .inr (7, [a0g_0, a0g_1, a0g_2, a0g_3, a0g_4, a0g_5, a0g_6, .ref a0_7, .int v9na0_8, a0g_9, a0g_10])), (a0_7, .inr (0, [.int a0_7_0, .int a0_7_1, a0_7g_2, a0_7g_3, a0_7g_4, .int a0_7_5, .int a0_7_6, .int a0_7_7, a0_7g_8, .int a0_7_9, a0_7g_10, a0_7g_11, .ref a0_7_12, .ref a0_7_13, a0_7g_14])), (a0_7_13, .inl (ka0_7_13, 6, .inl (fa0_7_13))), (a0_7_12, .inl (ka0_7_12, 6, .inl (fa0_7_12)))]) hP hD hCc hk1 hFc hP1 hD1 [.inr 0, .inl 1, .inl 2, .inl 3] (by decide +kernel) rfl
    have hw : r9 = (-1) := hw
    have hw := hw.symm
    subst hw
    exact W.iret (v := (-1)) hx hb hr (fun t ht hW => ⟨⟨(-1), (), rfl, ⟨(Int.le_trans zq76 zq70), (Int.le_trans zq71 zq99)⟩, v9na0_8, by rw [ht]; exact hP, va_K.moved hW.alike hK, hD⟩, hS.F ht⟩) hS.2.2 dX7_judge_12
