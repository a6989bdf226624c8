set_option maxHeartbeats 4000000 in
set_option maxRecDepth 100000 in
theorem c_X7_alive (l : Launch) (dC : Nat → ClassId) (dI : Nat → Nat → Nat) (sz : Nat) (a0 : Nat) (a0g_0 a0g_2 a0g_3 a0g_4 a0g_5 a0g_6 a0g_9 a0g_10 : Value) (a0_1 : Nat) (a0_7 : Nat) (a0_8 : Int32) (a0_7_0 : Int32) (a0_7g_1 a0_7g_2 a0_7g_3 a0_7g_4 a0_7g_5 a0_7g_6 a0_7g_7 a0_7g_8 a0_7g_9 a0_7g_10 a0_7g_11 a0_7g_12 a0_7g_13 a0_7g_14 : Value) (a0_1g_0 a0_1g_2 a0_1g_3 a0_1g_4 a0_1g_5 a0_1g_6 : Value) (a0_1_1 : Int32) (ba0_7_0_l : (0 : Int) ≤ a0_7_0.toInt) (ba0_7_0_u : a0_7_0.toInt ≤ (9 : Int)) (ba0_1_1_l : (0 : Int) ≤ a0_1_1.toInt) (ba0_1_1_u : a0_1_1.toInt ≤ (8 : Int)) : Met l yX7_alive wsX7_alive ({ frames := 1, cells := 0, slots := 0, locals := 21 }) (va_Pc [.ref a0] (ax_C dC dI sz [(a0, .inr (7, [a0g_0, .ref a0_1, a0g_2, a0g_3, a0g_4, a0g_5, a0g_6, .ref a0_7, .int a0_8, a0g_9, a0g_10])), (a0_7, .inr (0, [.int a0_7_0, a0_7g_1, a0_7g_2, a0_7g_3, a0_7g_4, a0_7g_5, a0_7g_6, a0_7g_7, a0_7g_8, a0_7g_9, a0_7g_10, a0_7g_11, a0_7g_12, a0_7g_13, a0_7g_14])), (a0_1, .inr (5, [a0_1g_0, .int a0_1_1, a0_1g_2, a0_1g_3, a0_1g_4, a0_1g_5, a0_1g_6]))] [] (fun _ => True))) (va_Qi (fun (r : Int32) (_ : Unit) => (-1 : Int) ≤ r.toInt ∧ r.toInt ≤ (8 : Int)) (fun (_ : Unit) (t : State) => ∃ na0_8 : Int32, ax_B dC dI (va_A [(a0, .inr (7, [a0g_0, .ref a0_1, a0g_2, a0g_3, a0g_4, a0g_5, a0g_6, .ref a0_7, .int a0_8, a0g_9, a0g_10])), (a0_7, .inr (0, [.int a0_7_0, a0_7g_1, a0_7g_2, a0_7g_3, a0_7g_4, a0_7g_5, a0_7g_6, a0_7g_7, a0_7g_8, a0_7g_9, a0_7g_10, a0_7g_11, a0_7g_12, a0_7g_13, a0_7g_14])), (a0_1, .inr (5, [a0_1g_0, .int a0_1_1, a0_1g_2, a0_1g_3, a0_1g_4, a0_1g_5, a0_1g_6]))] sz) [(a0, .inr (7, [a0g_0, .ref a0_1, a0g_2, a0g_3, a0g_4, a0g_5, a0g_6, .ref a0_7, .int na0_8, a0g_9, a0g_10])), (a0_7, .inr (0, [.int a0_7_0, a0_7g_1, a0_7g_2, a0_7g_3, a0_7g_4, a0_7g_5, a0_7g_6, a0_7g_7, a0_7g_8, a0_7g_9, a0_7g_10, a0_7g_11, a0_7g_12, a0_7g_13, a0_7g_14])), (a0_1, .inr (5, [a0_1g_0, .int a0_1_1, a0_1g_2, a0_1g_3, a0_1g_4, a0_1g_5, a0_1g_6]))] [] t) (va_A [(a0, .inr (7, [a0g_0, .ref a0_1, a0g_2, a0g_3, a0g_4, a0g_5, a0g_6, .ref a0_7, .int a0_8, a0g_9, a0g_10])), (a0_7, .inr (0, [.int a0_7_0, a0_7g_1, a0_7g_2, a0_7g_3, a0_7g_4, a0_7g_5, a0_7g_6, a0_7g_7, a0_7g_8, a0_7g_9, a0_7g_10, a0_7g_11, a0_7g_12, a0_7g_13, a0_7g_14])), (a0_1, .inr (5, [a0_1g_0, .int a0_1_1, a0_1g_2, a0_1g_3, a0_1g_4, a0_1g_5, a0_1g_6]))] sz)) 0 0 (va_A [(a0, .inr (7, [a0g_0, .ref a0_1, a0g_2, a0g_3, a0g_4, a0g_5, a0g_6, .ref a0_7, .int a0_8, a0g_9, a0g_10])), (a0_7, .inr (0, [.int a0_7_0, a0_7g_1, a0_7g_2, a0_7g_3, a0_7g_4, a0_7g_5, a0_7g_6, a0_7g_7, a0_7g_8, a0_7g_9, a0_7g_10, a0_7g_11, a0_7g_12, a0_7g_13, a0_7g_14])), (a0_1, .inr (5, [a0_1g_0, .int a0_1_1, a0_1g_2, a0_1g_3, a0_1g_4, a0_1g_5, a0_1g_6]))] sz) := by
  refine Met.ofW (cc := cX7_alive) (maxL := 1) (ret := (some .int)) (by decide) rfl ?_
  intro p e s m args below meth c s₁ B hml hv
  obtain ⟨rfl, hsz, hP, hK, hD0, hE⟩ := hv
  have hx := B.exec
  have hb := B.bytes
  have hr := B.returns
  have hts := atoms_spec (ws := wsX7_alive) B.pre
  have hown : s.vm.findClass RX7 = some m.cls := findClass_of_methodNamed B.named
  have hlocks := B.notSynchronized
  subst hsz
  have hD := hD0.self (sz := s.heap.size)
  generalize hAe : va_A [(a0, .inr (7, [a0g_0, .ref a0_1, a0g_2, a0g_3, a0g_4, a0g_5, a0g_6, .ref a0_7, .int a0_8, a0g_9, a0g_10])), (a0_7, .inr (0, [.int a0_7_0, a0_7g_1, a0_7g_2, a0_7g_3, a0_7g_4, a0_7g_5, a0_7g_6, a0_7g_7, a0_7g_8, a0_7g_9, a0_7g_10, a0_7g_11, a0_7g_12, a0_7g_13, a0_7g_14])), (a0_1, .inr (5, [a0_1g_0, .int a0_1_1, a0_1g_2, a0_1g_3, a0_1g_4, a0_1g_5, a0_1g_6]))] s.heap.size = A at hD ⊢
  have hA : ∀ q : Nat, s.heap.size ≤ q → A q := fun q h => by rw [← hAe]; exact Or.inr h
  have hS : va_S A s.heap s.heap [] := va_S.rf
  have hP : va_P (dC, dI) vwCl [(a0, .inr (7, [a0g_0, .ref a0_1, a0g_2, a0g_3, a0g_4, a0g_5, a0g_6, .ref a0_7, .int a0_8, a0g_9, a0g_10])), (a0_7, .inr (0, [.int a0_7_0, a0_7g_1, a0_7g_2, a0_7g_3, a0_7g_4, a0_7g_5, a0_7g_6, a0_7g_7, a0_7g_8, a0_7g_9, a0_7g_10, a0_7g_11, a0_7g_12, a0_7g_13, a0_7g_14])), (a0_1, .inr (5, [a0_1g_0, .int a0_1_1, a0_1g_2, a0_1g_3, a0_1g_4, a0_1g_5, a0_1g_6]))] s.heap := hP
  have hl := lv_entry ([.ref a0]) (n := 1) (Nat.le_of_ble_eq_true rfl)
  rw [lg_entry_eq]
  generalize (lg_sl ([.ref a0]) ++ List.replicate (1 - (lg_sl ([.ref a0])).length) Slot.unset).toArray = ls at hl ⊢
  have hl : lv_has ls 1 [(0, .ref a0)] := hl
  refine lv_aload_n hx hb dX7_alive_0 rfl (lv_at hl 0 rfl) ?_
  obtain ⟨hPc, hDc, hFc, hCc⟩ := zc_cut (wc := [(a0, .inr (7, [a0g_0, .ref a0_1, a0g_2, a0g_3, a0g_4, a0g_5, a0g_6, .ref a0_7, .int a0_8, a0g_9, a0g_10])), (a0_7, .inr (0, [.int a0_7_0, a0_7g_1, a0_7g_2, a0_7g_3, a0_7g_4, a0_7g_5, a0_7g_6, a0_7g_7, a0_7g_8, a0_7g_9, a0_7g_10, a0_7g_11, a0_7g_12, a0_7g_13, a0_7g_14]))]) hP hD hS hA [0, 1] (by decide +kernel) rfl
  have hKc := hK.sub (tys' := []) [] rfl
  refine va_calli (va_runV (As := []) (rest := []) ⟨hx, hb, hml, hown, hts⟩ (c_X7_hasGallery l dC dI s.heap.size a0 a0g_0 (.ref a0_1) a0g_2 a0g_3 a0g_4 a0g_5 a0g_6 (.int a0_8) a0g_9 a0g_10 a0_7 a0_7_0 a0_7g_1 a0_7g_2 a0_7g_3 a0_7g_4 a0_7g_5 a0_7g_6 a0_7g_7 a0_7g_8 a0_7g_9 a0_7g_10 a0_7g_11 a0_7g_12 a0_7g_13 a0_7g_14 ba0_7_0_l ba0_7_0_u) (cwV 0 hts gX7_alive_X7_hasGallery rfl rfl rfl zd_X7_hasGallery ⟨Nat.le_of_ble_eq_true rfl, Nat.le_of_ble_eq_true rfl⟩) ⟨ax_blind (fun _ _ _ _ _ => trivial), zr_7 hKc hPc (q0 := 0) rfl, ax_pre hPc hKc hDc (fun _ _ => trivial)⟩ rfl rfl hl.1 rfl (lv_room (Nat.le_of_ble_eq_true rfl)) dX7_alive_1 ⟨Nat.le_of_ble_eq_true rfl, Nat.le_of_ble_eq_true rfl⟩) hS (fun q _ h => hFc q h) hFc (fun r1 u t H locs ht hvm hw hB hz1 hk1 hS => ?_)
  obtain ⟨hP1, hK1, hD1⟩ := hB
  rw [ht] at hP1
  obtain ⟨hP, hD⟩ := zc_back (w := [(a0, .inr (7, [a0g_0, .ref a0_1, a0g_2, a0g_3, a0g_4, a0g_5, a0g_6, .ref a0_7, .int a0_8, a0g_9, a0g_10])), (a0_7, .inr (0, [.int a0_7_0, a0_7g_1, a0_7g_2, a0_7g_3, a0_7g_4, a0_7g_5, a0_7g_6, a0_7g_7, a0_7g_8, a0_7g_9, a0_7g_10, a0_7g_11, a0_7g_12, a0_7g_13, a0_7g_14])), (a0_1, .inr (5, [a0_1g_0, .int a0_1_1, a0_1g_2, a0_1g_3, a0_1g_4, a0_1g_5, a0_1g_6]))]) hP hD hCc hk1 hFc hP1 hD1 [.inr 0, .inr 1, .inl 2] (by decide +kernel) rfl
  rcases hw with hw | hw
  · obtain ⟨hw, h1_0, h1_1⟩ := hw
    subst hw
    have l1k0_a0_7_0 : (1 : Int) ≤ a0_7_0.toInt := h1_0
    have u1k0_a0_7_0 : a0_7_0.toInt ≤ (9 : Int) := ba0_7_0_u
    refine lv_if_ne (tgt := 13) hx hb dX7_alive_4 (by decide) (fun _ => ?_) (fun c4 => absurd c4 (by decide +kernel))
    refine lv_aload_n hx hb dX7_alive_13 rfl (lv_at hl 0 rfl) ?_
    refine lv_aload_n hx hb dX7_alive_14 rfl (lv_at hl 0 rfl) ?_
    refine va_get (D := (dC, dI)) (ci := 7) (v := .ref a0_1) (C := RX7) (T := TX7) (N := 11) hx hb hts zi_X7_alive_7 hown hK hP 0 rfl rfl 1 (by decide) (hts (.fieldLink RX7 19 "WaxTurns" "now" "LWaxTurns$Scene;") (List.mem_cons_of_mem _ (List.mem_append_left _ (List.mem_append_left _ (List.mem_append_left _ (List.mem_of_getElem? (i := 0) rfl)))))) (fun _ h9 => h9) rfl dX7_alive_15 ?_
    refine va_get (D := (dC, dI)) (ci := 5) (v := .int a0_1_1) (C := RX5) (T := TX5) (N := 7) hx hb hts zi_X7_alive_5 hown hK hP 2 rfl rfl 1 (by decide) (hts (.fieldLink RX7 158 "WaxTurns$Scene" "turn" "I") (List.mem_cons_of_mem _ (List.mem_append_left _ (List.mem_append_left _ (List.mem_append_left _ (List.mem_of_getElem? (i := 1) rfl)))))) (fun _ h9 => h9) rfl dX7_alive_18 ?_
    obtain ⟨hPc, hDc, hFc, hCc⟩ := zc_cut (wc := [(a0, .inr (7, [a0g_0, .ref a0_1, a0g_2, a0g_3, a0g_4, a0g_5, a0g_6, .ref a0_7, .int a0_8, a0g_9, a0g_10]))]) hP hD hS hA [0] (by decide +kernel) rfl
    have hKc := hK.sub (tys' := []) [] rfl
    refine va_calli (va_runV (As := [.int a0_1_1]) (rest := []) ⟨hx, hb, hml, hown, hts⟩ (c_X7_answered l dC dI H.size a0 a0_1_1 a0g_0 (.ref a0_1) a0g_2 a0g_3 a0g_4 a0g_5 a0g_6 (.ref a0_7) a0g_9 a0g_10 a0_8 ) (cwV 1 hts gX7_alive_X7_answered rfl rfl rfl zd_X7_answered ⟨Nat.le_of_ble_eq_true rfl, Nat.le_of_ble_eq_true rfl⟩) ⟨ax_blind (fun _ _ _ _ _ => trivial), zr_7 hKc hPc (q0 := 0) rfl, ax_pre hPc hKc hDc (fun _ _ => trivial)⟩ rfl rfl hl.1 rfl (lv_room (Nat.le_of_ble_eq_true rfl)) dX7_alive_21 ⟨Nat.le_of_ble_eq_true rfl, Nat.le_of_ble_eq_true rfl⟩) hS (fun q _ h => hFc q h) hFc (fun r21 u t H locs ht hvm hw hB hz1 hk1 hS => ?_)
    obtain ⟨v21na0_8, hP1, hK1, hD1⟩ := hB
    rw [ht] at hP1
    obtain ⟨hP, hD⟩ := zc_back (w := [(a0, .inr (7, [a0g_0, .ref a0_1, a0g_2, a0g_3, a0g_4, a0g_5, a0g_6, .ref a0_7, .int v21na0_8, a0g_9, a0g_10])), (a0_7, .inr (0, [.int a0_7_0, a0_7g_1, a0_7g_2, a0_7g_3, a0_7g_4, a0_7g_5, a0_7g_6, a0_7g_7, a0_7g_8, a0_7g_9, a0_7g_10, a0_7g_11, a0_7g_12, a0_7g_13, a0_7g_14])), (a0_1, .inr (5, [a0_1g_0, .int a0_1_1, a0_1g_2, a0_1g_3, a0_1g_4, a0_1g_5, a0_1g_6]))]) hP hD hCc hk1 hFc hP1 hD1 [.inr 0, .inl 1, .inl 2] (by decide +kernel) rfl
    have hw : r21 = a0_1_1 := hw
    have hw := hw.symm
    subst hw
    exact W.iret (v := a0_1_1) hx hb hr (fun t ht hW => ⟨⟨a0_1_1, (), rfl, ⟨(Int.le_trans zq69 ba0_1_1_l), ba0_1_1_u⟩, v21na0_8, by rw [ht]; exact hP, va_K.moved hW.alike hK, hD⟩, hS.F ht⟩) hS.2.2 dX7_alive_24
  · obtain ⟨hw, h1_0, h1_1⟩ := hw
    subst hw
    have l1k1_a0_7_0 : (0 : Int) ≤ a0_7_0.toInt := ba0_7_0_l
    have u1k1_a0_7_0 : a0_7_0.toInt ≤ (0 : Int) := h1_1
    refine lv_if_ne (tgt := 13) hx hb dX7_alive_4 (by decide) (fun c4 => absurd (by decide +kernel) c4) (fun _ => ?_)
    refine lv_aload_n hx hb dX7_alive_7 rfl (lv_at hl 0 rfl) ?_
    refine lv_iconst (v := 1) hx hb dX7_alive_8 zk_iconst_1 ?_
    obtain ⟨hPc, hDc, hFc, hCc⟩ := zc_cut (wc := [(a0, .inr (7, [a0g_0, .ref a0_1, a0g_2, a0g_3, a0g_4, a0g_5, a0g_6, .ref a0_7, .int a0_8, a0g_9, a0g_10]))]) hP hD hS hA [0] (by decide +kernel) rfl
    have hKc := hK.sub (tys' := []) [] rfl
    refine va_calli (va_runV (As := [.int 1]) (rest := []) ⟨hx, hb, hml, hown, hts⟩ (c_X7_refused l dC dI H.size a0 1 a0g_0 (.ref a0_1) a0g_2 a0g_3 a0g_4 a0g_5 a0g_6 (.ref a0_7) a0g_9 a0g_10 a0_8 ) (cwV 1 hts gX7_alive_X7_refused rfl rfl rfl zd_X7_refused ⟨Nat.le_of_ble_eq_true rfl, Nat.le_of_ble_eq_true rfl⟩) ⟨ax_blind (fun _ _ _ _ _ => trivial), zr_7 hKc hPc (q0 := 0) rfl, ax_pre hPc hKc hDc (fun _ _ => trivial)⟩ rfl rfl hl.1 rfl (lv_room (Nat.le_of_ble_eq_true rfl)) dX7_alive_9 ⟨Nat.le_of_ble_eq_true rfl, Nat.le_of_ble_eq_true rfl⟩) hS (fun q _ h => hFc q h) hFc (fun r9 u t H locs ht hvm hw hB hz1 hk1 hS => ?_)
    obtain ⟨v9na0_8, hP1, hK1, hD1⟩ := hB
    rw [ht] at hP1
    obtain ⟨hP, hD⟩ := zc_back (w := [(a0, .inr (7, [a0g_0, .ref a0_1, a0g_2, a0g_3, a0g_4, a0g_5, a0g_6, .ref a0_7, .int v9na0_8, a0g_9, a0g_10])), (a0_7, .inr (0, [.int a0_7_0, a0_7g_1, a0_7g_2, a0_7g_3, a0_7g_4, a0_7g_5, a0_7g_6, a0_7g_7, a0_7g_8, a0_7g_9, a0_7g_10, a0_7g_11, a0_7g_12, a0_7g_13, a0_7g_14])), (a0_1, .inr (5, [a0_1g_0, .int a0_1_1, a0_1g_2, a0_1g_3, a0_1g_4, a0_1g_5, a0_1g_6]))]) hP hD hCc hk1 hFc hP1 hD1 [.inr 0, .inl 1, .inl 2] (by decide +kernel) rfl
    have hw : r9 = (-1) := hw
    have hw := hw.symm
    subst hw
    exact W.iret (v := (-1)) hx hb hr (fun t ht hW => ⟨⟨(-1), (), rfl, ⟨zq70, (Int.le_trans zq71 zq72)⟩, v9na0_8, by rw [ht]; exact hP, va_K.moved hW.alike hK, hD⟩, hS.F ht⟩) hS.2.2 dX7_alive_12

set_option maxHeartbeats 4000000 in
set_option maxRecDepth 100000 in
theorem c_X7_left (l : Launch) (dC : Nat → ClassId) (dI : Nat → Nat → Nat) (sz : Nat) (a0 : Nat) (a0g_0 a0g_2 a0g_3 a0g_4 a0g_5 a0g_6 a0g_9 a0g_10 : Value) (a0_1 : Nat) (a0_7 : Nat) (a0_8 : Int32) (a0_7_0 : Int32) (a0_7_1 : Int32) (a0_7g_2 a0_7g_3 a0_7g_4 a0_7g_5 a0_7g_6 a0_7g_7 a0_7g_8 a0_7g_9 a0_7g_10 a0_7g_11 a0_7g_12 a0_7g_13 a0_7g_14 : Value) (a0_1g_0 a0_1g_1 a0_1g_3 a0_1g_4 a0_1g_5 a0_1g_6 : Value) (a0_1_2 : Int32) (ba0_7_0_l : (0 : Int) ≤ a0_7_0.toInt) (ba0_7_0_u : a0_7_0.toInt ≤ (9 : Int)) : Met l yX7_left wsX7_left ({ frames := 1, cells := 0, slots := 0, locals := 21 }) (va_Pc [.ref a0] (ax_C dC dI sz [(a0, .inr (7, [a0g_0, .ref a0_1, a0g_2, a0g_3, a0g_4, a0g_5, a0g_6, .ref a0_7, .int a0_8, a0g_9, a0g_10])), (a0_7, .inr (0, [.int a0_7_0, .int a0_7_1, a0_7g_2, a0_7g_3, a0_7g_4, a0_7g_5, a0_7g_6, a0_7g_7, a0_7g_8, a0_7g_9, a0_7g_10, a0_7g_11, a0_7g_12, a0_7g_13, a0_7g_14])), (a0_1, .inr (5, [a0_1g_0, a0_1g_1, .int a0_1_2, a0_1g_3, a0_1g_4, a0_1g_5, a0_1g_6]))] [] (fun _ => True))) (va_Qi (fun (r : Int32) (_ : Unit) => True) (fun (_ : Unit) (t : State) => ∃ na0_8 : Int32, ax_B dC dI (va_A [(a0, .inr (7, [a0g_0, .ref a0_1, a0g_2, a0g_3, a0g_4, a0g_5, a0g_6, .ref a0_7, .int a0_8, a0g_9, a0g_10])), (a0_7, .inr (0, [.int a0_7_0, .int a0_7_1, a0_7g_2, a0_7g_3, a0_7g_4, a0_7g_5, a0_7g_6, a0_7g_7, a0_7g_8, a0_7g_9, a0_7g_10, a0_7g_11, a0_7g_12, a0_7g_13, a0_7g_14])), (a0_1, .inr (5, [a0_1g_0, a0_1g_1, .int a0_1_2, a0_1g_3, a0_1g_4, a0_1g_5, a0_1g_6]))] sz) [(a0, .inr (7, [a0g_0, .ref a0_1, a0g_2, a0g_3, a0g_4, a0g_5, a0g_6, .ref a0_7, .int na0_8, a0g_9, a0g_10])), (a0_7, .inr (0, [.int a0_7_0, .int a0_7_1, a0_7g_2, a0_7g_3, a0_7g_4, a0_7g_5, a0_7g_6, a0_7g_7, a0_7g_8, a0_7g_9, a0_7g_10, a0_7g_11, a0_7g_12, a0_7g_13, a0_7g_14])), (a0_1, .inr (5, [a0_1g_0, a0_1g_1, .int a0_1_2, a0_1g_3, a0_1g_4, a0_1g_5, a0_1g_6]))] [] t) (va_A [(a0, .inr (7, [a0g_0, .ref a0_1, a0g_2, a0g_3, a0g_4, a0g_5, a0g_6, .ref a0_7, .int a0_8, a0g_9, a0g_10])), (a0_7, .inr (0, [.int a0_7_0, .int a0_7_1, a0_7g_2, a0_7g_3, a0_7g_4, a0_7g_5, a0_7g_6, a0_7g_7, a0_7g_8, a0_7g_9, a0_7g_10, a0_7g_11, a0_7g_12, a0_7g_13, a0_7g_14])), (a0_1, .inr (5, [a0_1g_0, a0_1g_1, .int a0_1_2, a0_1g_3, a0_1g_4, a0_1g_5, a0_1g_6]))] sz)) 0 0 (va_A [(a0, .inr (7, [a0g_0, .ref a0_1, a0g_2, a0g_3, a0g_4, a0g_5, a0g_6, .ref a0_7, .int a0_8, a0g_9, a0g_10])), (a0_7, .inr (0, [.int a0_7_0, .int a0_7_1, a0_7g_2, a0_7g_3, a0_7g_4, a0_7g_5, a0_7g_6, a0_7g_7, a0_7g_8, a0_7g_9, a0_7g_10, a0_7g_11, a0_7g_12, a0_7g_13, a0_7g_14])), (a0_1, .inr (5, [a0_1g_0, a0_1g_1, .int a0_1_2, a0_1g_3, a0_1g_4, a0_1g_5, a0_1g_6]))] sz) := by
  refine Met.ofW (cc := cX7_left) (maxL := 1) (ret := (some .int)) (by decide) rfl ?_
  intro p e s m args below meth c s₁ B hml hv
  obtain ⟨rfl, hsz, hP, hK, hD0, hE⟩ := hv
  have hx := B.exec
  have hb := B.bytes
  have hr := B.returns
  have hts := atoms_spec (ws := wsX7_left) B.pre
  have hown : s.vm.findClass RX7 = some m.cls := findClass_of_methodNamed B.named
  have hlocks := B.notSynchronized
  subst hsz
  have hD := hD0.self (sz := s.heap.size)
  generalize hAe : va_A [(a0, .inr (7, [a0g_0, .ref a0_1, a0g_2, a0g_3, a0g_4, a0g_5, a0g_6, .ref a0_7, .int a0_8, a0g_9, a0g_10])), (a0_7, .inr (0, [.int a0_7_0, .int a0_7_1, a0_7g_2, a0_7g_3, a0_7g_4, a0_7g_5, a0_7g_6, a0_7g_7, a0_7g_8, a0_7g_9, a0_7g_10, a0_7g_11, a0_7g_12, a0_7g_13, a0_7g_14])), (a0_1, .inr (5, [a0_1g_0, a0_1g_1, .int a0_1_2, a0_1g_3, a0_1g_4, a0_1g_5, a0_1g_6]))] s.heap.size = A at hD ⊢
  have hA : ∀ q : Nat, s.heap.size ≤ q → A q := fun q h => by rw [← hAe]; exact Or.inr h
  have hS : va_S A s.heap s.heap [] := va_S.rf
  have hP : va_P (dC, dI) vwCl [(a0, .inr (7, [a0g_0, .ref a0_1, a0g_2, a0g_3, a0g_4, a0g_5, a0g_6, .ref a0_7, .int a0_8, a0g_9, a0g_10])), (a0_7, .inr (0, [.int a0_7_0, .int a0_7_1, a0_7g_2, a0_7g_3, a0_7g_4, a0_7g_5, a0_7g_6, a0_7g_7, a0_7g_8, a0_7g_9, a0_7g_10, a0_7g_11, a0_7g_12, a0_7g_13, a0_7g_14])), (a0_1, .inr (5, [a0_1g_0, a0_1g_1, .int a0_1_2, a0_1g_3, a0_1g_4, a0_1g_5, a0_1g_6]))] s.heap := hP
  have hl := lv_entry ([.ref a0]) (n := 1) (Nat.le_of_ble_eq_true rfl)
  rw [lg_entry_eq]
  generalize (lg_sl ([.ref a0]) ++ List.replicate (1 - (lg_sl ([.ref a0])).length) Slot.unset).toArray = ls at hl ⊢
  have hl : lv_has ls 1 [(0, .ref a0)] := hl
  refine lv_aload_n hx hb dX7_left_0 rfl (lv_at hl 0 rfl) ?_
  obtain ⟨hPc, hDc, hFc, hCc⟩ := zc_cut (wc := [(a0, .inr (7, [a0g_0, .ref a0_1, a0g_2, a0g_3, a0g_4, a0g_5, a0g_6, .ref a0_7, .int a0_8, a0g_9, a0g_10])), (a0_7, .inr (0, [.int a0_7_0, .int a0_7_1, a0_7g_2, a0_7g_3, a0_7g_4, a0_7g_5, a0_7g_6, a0_7g_7, a0_7g_8, a0_7g_9, a0_7g_10, a0_7g_11, a0_7g_12, a0_7g_13, a0_7g_14]))]) hP hD hS hA [0, 1] (by decide +kernel) rfl
  have hKc := hK.sub (tys' := []) [] rfl
  refine va_calli (va_runV (As := []) (rest := []) ⟨hx, hb, hml, hown, hts⟩ (c_X7_hasGallery l dC dI s.heap.size a0 a0g_0 (.ref a0_1) a0g_2 a0g_3 a0g_4 a0g_5 a0g_6 (.int a0_8) a0g_9 a0g_10 a0_7 a0_7_0 (.int a0_7_1) a0_7g_2 a0_7g_3 a0_7g_4 a0_7g_5 a0_7g_6 a0_7g_7 a0_7g_8 a0_7g_9 a0_7g_10 a0_7g_11 a0_7g_12 a0_7g_13 a0_7g_14 ba0_7_0_l ba0_7_0_u) (cwV 0 hts gX7_left_X7_hasGallery rfl rfl rfl zd_X7_hasGallery ⟨Nat.le_of_ble_eq_true rfl, Nat.le_of_ble_eq_true rfl⟩) ⟨ax_blind (fun _ _ _ _ _ => trivial), zr_7 hKc hPc (q0 := 0) rfl, ax_pre hPc hKc hDc (fun _ _ => trivial)⟩ rfl rfl hl.1 rfl (lv_room (Nat.le_of_ble_eq_true rfl)) dX7_left_1 ⟨Nat.le_of_ble_eq_true rfl, Nat.le_of_ble_eq_true rfl⟩) hS (fun q _ h => hFc q h) hFc (fun r1 u t H locs ht hvm hw hB hz1 hk1 hS => ?_)
  obtain ⟨hP1, hK1, hD1⟩ := hB
  rw [ht] at hP1
  obtain ⟨hP, hD⟩ := zc_back (w := [(a0, .inr (7, [a0g_0, .ref a0_1, a0g_2, a0g_3, a0g_4, a0g_5, a0g_6, .ref a0_7, .int a0_8, a0g_9, a0g_10])), (a0_7, .inr (0, [.int a0_7_0, .int a0_7_1, a0_7g_2, a0_7g_3, a0_7g_4, a0_7g_5, a0_7g_6, a0_7g_7, a0_7g_8, a0_7g_9, a0_7g_10, a0_7g_11, a0_7g_12, a0_7g_13, a0_7g_14])), (a0_1, .inr (5, [a0_1g_0, a0_1g_1, .int a0_1_2, a0_1g_3, a0_1g_4, a0_1g_5, a0_1g_6]))]) hP hD hCc hk1 hFc hP1 hD1 [.inr 0, .inr 1, .inl 2] (by decide +kernel) rfl
  rcases hw with hw | hw
  · obtain ⟨hw, h1_0, h1_1⟩ := hw
    subst hw
    have l1k0_a0_7_0 : (1 : Int) ≤ a0_7_0.toInt := h1_0
    have u1k0_a0_7_0 : a0_7_0.toInt ≤ (9 : Int) := ba0_7_0_u
    refine lv_if_ne (tgt := 13) hx hb dX7_left_4 (by decide) (fun _ => ?_) (fun c4 => absurd c4 (by decide +kernel))
    refine lv_aload_n hx hb dX7_left_13 rfl (lv_at hl 0 rfl) ?_
    refine lv_aload_n hx hb dX7_left_14 rfl (lv_at hl 0 rfl) ?_
    refine va_get (D := (dC, dI)) (ci := 7) (v := .ref a0_7) (C := RX7) (T := TX7) (N := 11) hx hb hts zi_X7_left_7 hown hK hP 0 rfl rfl 7 (by decide) (hts (.fieldLink RX7 57 "WaxTurns" "hall" "LWaxTurns$Hall;") (List.mem_cons_of_mem _ (List.mem_append_left _ (List.mem_append_left _ (List.mem_append_left _ (List.mem_of_getElem? (i := 0) rfl)))))) (fun _ h9 => h9) rfl dX7_left_15 ?_
    refine va_get (D := (dC, dI)) (ci := 0) (v := .int a0_7_1) (C := RX0) (T := TX0) (N := 15) hx hb hts zi_X7_left_0 hown hK hP 1 rfl rfl 1 (by decide) (hts (.fieldLink RX7 161 "WaxTurns$Hall" "span" "I") (List.mem_cons_of_mem _ (List.mem_append_left _ (List.mem_append_left _ (List.mem_append_left _ (List.mem_of_getElem? (i := 1) rfl)))))) (fun _ h9 => h9) rfl dX7_left_18 ?_
    refine lv_aload_n hx hb dX7_left_21 rfl (lv_at hl 0 rfl) ?_
    refine va_get (D := (dC, dI)) (ci := 7) (v := .ref a0_1) (C := RX7) (T := TX7) (N := 11) hx hb hts zi_X7_left_7 hown hK hP 0 rfl rfl 1 (by decide) (hts (.fieldLink RX7 19 "WaxTurns" "now" "LWaxTurns$Scene;") (List.mem_cons_of_mem _ (List.mem_append_left _ (List.mem_append_left _ (List.mem_append_left _ (List.mem_of_getElem? (i := 2) rfl)))))) (fun _ h9 => h9) rfl dX7_left_22 ?_
    refine va_get (D := (dC, dI)) (ci := 5) (v := .int a0_1_2) (C := RX5) (T := TX5) (N := 7) hx hb hts zi_X7_left_5 hown hK hP 2 rfl rfl 2 (by decide) (hts (.fieldLink RX7 164 "WaxTurns$Scene" "spent" "I") (List.mem_cons_of_mem _ (List.mem_append_left _ (List.mem_append_left _ (List.mem_append_left _ (List.mem_of_getElem? (i := 3) rfl)))))) (fun _ h9 => h9) rfl dX7_left_25 ?_
    refine lv_isub hx hb dX7_left_28 ?_
    refine lv_topi (fun x28 ex28 => ?_)
    obtain ⟨hPc, hDc, hFc, hCc⟩ := zc_cut (wc := [(a0, .inr (7, [a0g_0, .ref a0_1, a0g_2, a0g_3, a0g_4, a0g_5, a0g_6, .ref a0_7, .int a0_8, a0g_9, a0g_10]))]) hP hD hS hA [0] (by decide +kernel) rfl
    have hKc := hK.sub (tys' := []) [] rfl
    refine va_calli (va_runV (As := [.int x28]) (rest := []) ⟨hx, hb, hml, hown, hts⟩ (c_X7_answered l dC dI H.size a0 x28 a0g_0 (.ref a0_1) a0g_2 a0g_3 a0g_4 a0g_5 a0g_6 (.ref a0_7) a0g_9 a0g_10 a0_8 ) (cwV 1 hts gX7_left_X7_answered rfl rfl rfl zd_X7_answered ⟨Nat.le_of_ble_eq_true rfl, Nat.le_of_ble_eq_true rfl⟩) ⟨ax_blind (fun _ _ _ _ _ => trivial), zr_7 hKc hPc (q0 := 0) rfl, ax_pre hPc hKc hDc (fun _ _ => trivial)⟩ rfl rfl hl.1 rfl (lv_room (Nat.le_of_ble_eq_true rfl)) dX7_left_29 ⟨Nat.le_of_ble_eq_true rfl, Nat.le_of_ble_eq_true rfl⟩) hS (fun q _ h => hFc q h) hFc (fun r29 u t H locs ht hvm hw hB hz1 hk1 hS => ?_)
    obtain ⟨v29na0_8, hP1, hK1, hD1⟩ := hB
    rw [ht] at hP1
    obtain ⟨hP, hD⟩ := zc_back (w := [(a0, .inr (7, [a0g_0, .ref a0_1, a0g_2, a0g_3, a0g_4, a0g_5, a0g_6, .ref a0_7, .int v29na0_8, a0g_9, a0g_10])), (a0_7, .inr (0, [.int a0_7_0, .int a0_7_1, a0_7g_2, a0_7g_3, a0_7g_4, a0_7g_5, a0_7g_6, a0_7g_7, a0_7g_8, a0_7g_9, a0_7g_10, a0_7g_11, a0_7g_12, a0_7g_13, a0_7g_14])), (a0_1, .inr (5, [a0_1g_0, a0_1g_1, .int a0_1_2, a0_1g_3, a0_1g_4, a0_1g_5, a0_1g_6]))]) hP hD hCc hk1 hFc hP1 hD1 [.inr 0, .inl 1, .inl 2] (by decide +kernel) rfl
    have hw : r29 = x28 := hw
    have hw := hw.symm
    subst hw
    exact W.iret (v := x28) hx hb hr (fun t ht hW => ⟨⟨x28, (), rfl, trivial, v29na0_8, by rw [ht]; exact hP, va_K.moved hW.alike hK, hD⟩, hS.F ht⟩) hS.2.2 dX7_left_32
  · obtain ⟨hw, h1_0, h1_1⟩ := hw
    subst hw
    have l1k1_a0_7_0 : (0 : Int) ≤ a0_7_0.toInt := ba0_7_0_l
    have u1k1_a0_7_0 : a0_7_0.toInt ≤ (0 : Int) := h1_1
    refine lv_if_ne (tgt := 13) hx hb dX7_left_4 (by decide) (fun c4 => absurd (by decide +kernel) c4) (fun _ => ?_)
    refine lv_aload_n hx hb dX7_left_7 rfl (lv_at hl 0 rfl) ?_
    refine lv_iconst (v := 1) hx hb dX7_left_8 zk_iconst_1 ?_
    obtain ⟨hPc, hDc, hFc, hCc⟩ := zc_cut (wc := [(a0, .inr (7, [a0g_0, .ref a0_1, a0g_2, a0g_3, a0g_4, a0g_5, a0g_6, .ref a0_7, .int a0_8, a0g_9, a0g_10]))]) hP hD hS hA [0] (by decide +kernel) rfl
    have hKc := hK.sub (tys' := []) [] rfl
    refine va_calli (va_runV (As := [.int 1]) (rest := []) ⟨hx, hb, hml, hown, hts⟩ (c_X7_refused l dC dI H.size a0 1 a0g_0 (.ref a0_1) a0g_2 a0g_3 a0g_4 a0g_5 a0g_6 (.ref a0_7) a0g_9 a0g_10 a0_8 ) (cwV 1 hts gX7_left_X7_refused rfl rfl rfl zd_X7_refused ⟨Nat.le_of_ble_eq_true rfl, Nat.le_of_ble_eq_true rfl⟩) ⟨ax_blind (fun _ _ _ _ _ => trivial), zr_7 hKc hPc (q0 := 0) rfl, ax_pre hPc hKc hDc (fun _ _ => trivial)⟩ rfl rfl hl.1 rfl (lv_room (Nat.le_of_ble_eq_true rfl)) dX7_left_9 ⟨Nat.le_of_ble_eq_true rfl, Nat.le_of_ble_eq_true rfl⟩) hS (fun q _ h => hFc q h) hFc (fun r9 u t H locs ht hvm hw hB hz1 hk1 hS => ?_)
    obtain ⟨v9na0_8, hP1, hK1, hD1⟩ := hB
    rw [ht] at hP1
    obtain ⟨hP, hD⟩ := zc_back (w := [(a0, .inr (7, [a0g_0, .ref a0_1, a0g_2, a0g_3, a0g_4, a0g_5, a0g_6, .ref a0_7, .int v9na0_8, a0g_9, a0g_10])), (a0_7, .inr (0, [.int a0_7_0, .int a0_7_1, a0_7g_2, a0_7g_3, a0_7g_4, a0_7g_5, a0_7g_6, a0_7g_7, a0_7g_8, a0_7g_9, a0_7g_10, a0_7g_11, a0_7g_12, a0_7g_13, a0_7g_14])), (a0_1, .inr (5, [a0_1g_0, a0_1g_1, .int a0_1_2, a0_1g_3, a0_1g_4, a0_1g_5, a0_1g_6]))]) hP hD hCc hk1 hFc hP1 hD1 [.inr 0, .inl 1, .inl 2] (by decide +kernel) rfl
    have hw : r9 = (-1) := hw
    have hw := hw.symm
    subst hw
    exact W.iret (v := (-1)) hx hb hr (fun t ht hW => ⟨⟨(-1), (), rfl, trivial, v9na0_8, by rw [ht]; exact hP, va_K.moved hW.alike hK, hD⟩, hS.F ht⟩) hS.2.2 dX7_left_12

set_option maxHeartbeats 4000000 in
set_option maxRecDepth 100000 in
theorem c_X7_caught (l : Launch) (dC : Nat → ClassId) (dI : Nat → Nat → Nat) (sz : Nat) (a0 : Nat) (a0g_0 a0g_2 a0g_3 a0g_4 a0g_5 a0g_6 a0g_9 a0g_10 : Value) (a0_1 : Nat) (a0_7 : Nat) (a0_8 : Int32) (a0_7_0 : Int32) (a0_7g_1 a0_7g_2 a0_7g_3 a0_7g_4 a0_7g_5 a0_7g_6 a0_7g_7 a0_7g_8 a0_7g_9 a0_7g_10 a0_7g_11 a0_7g_12 a0_7g_13 a0_7g_14 : Value) (a0_1g_0 a0_1g_1 a0_1g_2 a0_1g_3 a0_1g_5 a0_1g_6 : Value) (a0_1_4 : Int32) (ba0_7_0_l : (0 : Int) ≤ a0_7_0.toInt) (ba0_7_0_u : a0_7_0.toInt ≤ (9 : Int)) : Met l yX7_caught wsX7_caught ({ frames := 1, cells := 0, slots := 0, locals := 21 }) (va_Pc [.ref a0] (ax_C dC dI sz [(a0, .inr (7, [a0g_0, .ref a0_1, a0g_2, a0g_3, a0g_4, a0g_5, a0g_6, .ref a0_7, .int a0_8, a0g_9, a0g_10])), (a0_7, .inr (0, [.int a0_7_0, a0_7g_1, a0_7g_2, a0_7g_3, a0_7g_4, a0_7g_5, a0_7g_6, a0_7g_7, a0_7g_8, a0_7g_9, a0_7g_10, a0_7g_11, a0_7g_12, a0_7g_13, a0_7g_14])), (a0_1, .inr (5, [a0_1g_0, a0_1g_1, a0_1g_2, a0_1g_3, .int a0_1_4, a0_1g_5, a0_1g_6]))] [] (fun _ => True))) (va_Qi (fun (r : Int32) (_ : Unit) => True) (fun (_ : Unit) (t : State) => ∃ na0_8 : Int32, ax_B dC dI (va_A [(a0, .inr (7, [a0g_0, .ref a0_1, a0g_2, a0g_3, a0g_4, a0g_5, a0g_6, .ref a0_7, .int a0_8, a0g_9, a0g_10])), (a0_7, .inr (0, [.int a0_7_0, a0_7g_1, a0_7g_2, a0_7g_3, a0_7g_4, a0_7g_5, a0_7g_6, a0_7g_7, a0_7g_8, a0_7g_9, a0_7g_10, a0_7g_11, a0_7g_12, a0_7g_13, a0_7g_14])), (a0_1, .inr (5, [a0_1g_0, a0_1g_1, a0_1g_2, a0_1g_3, .int a0_1_4, a0_1g_5, a0_1g_6]))] sz) [(a0, .inr (7, [a0g_0, .ref a0_1, a0g_2, a0g_3, a0g_4, a0g_5, a0g_6, .ref a0_7, .int na0_8, a0g_9, a0g_10])), (a0_7, .inr (0, [.int a0_7_0, a0_7g_1, a0_7g_2, a0_7g_3, a0_7g_4, a0_7g_5, a0_7g_6, a0_7g_7, a0_7g_8, a0_7g_9, a0_7g_10, a0_7g_11, a0_7g_12, a0_7g_13, a0_7g_14])), (a0_1, .inr (5, [a0_1g_0, a0_1g_1, a0_1g_2, a0_1g_3, .int a0_1_4, a0_1g_5, a0_1g_6]))] [] t) (va_A [(a0, .inr (7, [a0g_0, .ref a0_1, a0g_2, a0g_3, a0g_4, a0g_5, a0g_6, .ref a0_7, .int a0_8, a0g_9, a0g_10])), (a0_7, .inr (0, [.int a0_7_0, a0_7g_1, a0_7g_2, a0_7g_3, a0_7g_4, a0_7g_5, a0_7g_6, a0_7g_7, a0_7g_8, a0_7g_9, a0_7g_10, a0_7g_11, a0_7g_12, a0_7g_13, a0_7g_14])), (a0_1, .inr (5, [a0_1g_0, a0_1g_1, a0_1g_2, a0_1g_3, .int a0_1_4, a0_1g_5, a0_1g_6]))] sz)) 0 0 (va_A [(a0, .inr (7, [a0g_0, .ref a0_1, a0g_2, a0g_3, a0g_4, a0g_5, a0g_6, .ref a0_7, .int a0_8, a0g_9, a0g_10])), (a0_7, .inr (0, [.int a0_7_0, a0_7g_1, a0_7g_2, a0_7g_3, a0_7g_4, a0_7g_5, a0_7g_6, a0_7g_7, a0_7g_8, a0_7g_9, a0_7g_10, a0_7g_11, a0_7g_12, a0_7g_13, a0_7g_14])), (a0_1, .inr (5, [a0_1g_0, a0_1g_1, a0_1g_2, a0_1g_3, .int a0_1_4, a0_1g_5, a0_1g_6]))] sz) := by
  refine Met.ofW (cc := cX7_caught) (maxL := 1) (ret := (some .int)) (by decide) rfl ?_
  intro p e s m args below meth c s₁ B hml hv
  obtain ⟨rfl, hsz, hP, hK, hD0, hE⟩ := hv
  have hx := B.exec
  have hb := B.bytes
  have hr := B.returns
  have hts := atoms_spec (ws := wsX7_caught) B.pre
  have hown : s.vm.findClass RX7 = some m.cls := findClass_of_methodNamed B.named
  have hlocks := B.notSynchronized
  subst hsz
  have hD := hD0.self (sz := s.heap.size)
  generalize hAe : va_A [(a0, .inr (7, [a0g_0, .ref a0_1, a0g_2, a0g_3, a0g_4, a0g_5, a0g_6, .ref a0_7, .int a0_8, a0g_9, a0g_10])), (a0_7, .inr (0, [.int a0_7_0, a0_7g_1, a0_7g_2, a0_7g_3, a0_7g_4, a0_7g_5, a0_7g_6, a0_7g_7, a0_7g_8, a0_7g_9, a0_7g_10, a0_7g_11, a0_7g_12, a0_7g_13, a0_7g_14])), (a0_1, .inr (5, [a0_1g_0, a0_1g_1, a0_1g_2, a0_1g_3, .int a0_1_4, a0_1g_5, a0_1g_6]))] s.heap.size = A at hD ⊢
  have hA : ∀ q : Nat, s.heap.size ≤ q → A q := fun q h => by rw [← hAe]; exact Or.inr h
  have hS : va_S A s.heap s.heap [] := va_S.rf
  have hP : va_P (dC, dI) vwCl [(a0, .inr (7, [a0g_0, .ref a0_1, a0g_2, a0g_3, a0g_4, a0g_5, a0g_6, .ref a0_7, .int a0_8, a0g_9, a0g_10])), (a0_7, .inr (0, [.int a0_7_0, a0_7g_1, a0_7g_2, a0_7g_3, a0_7g_4, a0_7g_5, a0_7g_6, a0_7g_7, a0_7g_8, a0_7g_9, a0_7g_10, a0_7g_11, a0_7g_12, a0_7g_13, a0_7g_14])), (a0_1, .inr (5, [a0_1g_0, a0_1g_1, a0_1g_2, a0_1g_3, .int a0_1_4, a0_1g_5, a0_1g_6]))] s.heap := hP
  have hl := lv_entry ([.ref a0]) (n := 1) (Nat.le_of_ble_eq_true rfl)
  rw [lg_entry_eq]
  generalize (lg_sl ([.ref a0]) ++ List.replicate (1 - (lg_sl ([.ref a0])).length) Slot.unset).toArray = ls at hl ⊢
  have hl : lv_has ls 1 [(0, .ref a0)] := hl
  refine lv_aload_n hx hb dX7_caught_0 rfl (lv_at hl 0 rfl) ?_
  obtain ⟨hPc, hDc, hFc, hCc⟩ := zc_cut (wc := [(a0, .inr (7, [a0g_0, .ref a0_1, a0g_2, a0g_3, a0g_4, a0g_5, a0g_6, .ref a0_7, .int a0_8, a0g_9, a0g_10])), (a0_7, .inr (0, [.int a0_7_0, a0_7g_1, a0_7g_2, a0_7g_3, a0_7g_4, a0_7g_5, a0_7g_6, a0_7g_7, a0_7g_8, a0_7g_9, a0_7g_10, a0_7g_11, a0_7g_12, a0_7g_13, a0_7g_14]))]) hP hD hS hA [0, 1] (by decide +kernel) rfl
  have hKc := hK.sub (tys' := []) [] rfl
  refine va_calli (va_runV (As := []) (rest := []) ⟨hx, hb, hml, hown, hts⟩ (c_X7_hasGallery l dC dI s.heap.size a0 a0g_0 (.ref a0_1) a0g_2 a0g_3 a0g_4 a0g_5 a0g_6 (.int a0_8) a0g_9 a0g_10 a0_7 a0_7_0 a0_7g_1 a0_7g_2 a0_7g_3 a0_7g_4 a0_7g_5 a0_7g_6 a0_7g_7 a0_7g_8 a0_7g_9 a0_7g_10 a0_7g_11 a0_7g_12 a0_7g_13 a0_7g_14 ba0_7_0_l ba0_7_0_u) (cwV 0 hts gX7_caught_X7_hasGallery rfl rfl rfl zd_X7_hasGallery ⟨Nat.le_of_ble_eq_true rfl, Nat.le_of_ble_eq_true rfl⟩) ⟨ax_blind (fun _ _ _ _ _ => trivial), zr_7 hKc hPc (q0 := 0) rfl, ax_pre hPc hKc hDc (fun _ _ => trivial)⟩ rfl rfl hl.1 rfl (lv_room (Nat.le_of_ble_eq_true rfl)) dX7_caught_1 ⟨Nat.le_of_ble_eq_true rfl, Nat.le_of_ble_eq_true rfl⟩) hS (fun q _ h => hFc q h) hFc (fun r1 u t H locs ht hvm hw hB hz1 hk1 hS => ?_)
  obtain ⟨hP1, hK1, hD1⟩ := hB
  rw [ht] at hP1
  obtain ⟨hP, hD⟩ := zc_back (w := [(a0, .inr (7, [a0g_0, .ref a0_1, a0g_2, a0g_3, a0g_4, a0g_5, a0g_6, .ref a0_7, .int a0_8, a0g_9, a0g_10])), (a0_7, .inr (0, [.int a0_7_0, a0_7g_1, a0_7g_2, a0_7g_3, a0_7g_4, a0_7g_5, a0_7g_6, a0_7g_7, a0_7g_8, a0_7g_9, a0_7g_10, a0_7g_11, a0_7g_12, a0_7g_13, a0_7g_14])), (a0_1, .inr (5, [a0_1g_0, a0_1g_1, a0_1g_2, a0_1g_3, .int a0_1_4, a0_1g_5, a0_1g_6]))]) hP hD hCc hk1 hFc hP1 hD1 [.inr 0, .inr 1, .inl 2] (by decide +kernel) rfl
  rcases hw with hw | hw
  · obtain ⟨hw, h1_0, h1_1⟩ := hw
    subst hw
    have l1k0_a0_7_0 : (1 : Int) ≤ a0_7_0.toInt := h1_0
    have u1k0_a0_7_0 : a0_7_0.toInt ≤ (9 : Int) := ba0_7_0_u
    refine lv_if_ne (tgt := 13) hx hb dX7_caught_4 (by decide) (fun _ => ?_) (fun c4 => absurd c4 (by decide +kernel))
    refine lv_aload_n hx hb dX7_caught_13 rfl (lv_at hl 0 rfl) ?_
    refine lv_aload_n hx hb dX7_caught_14 rfl (lv_at hl 0 rfl) ?_
    refine va_get (D := (dC, dI)) (ci := 7) (v := .ref a0_1) (C := RX7) (T := TX7) (N := 11) hx hb hts zi_X7_caught_7 hown hK hP 0 rfl rfl 1 (by decide) (hts (.fieldLink RX7 19 "WaxTurns" "now" "LWaxTurns$Scene;") (List.mem_cons_of_mem _ (List.mem_append_left _ (List.mem_append_left _ (List.mem_append_left _ (List.mem_of_getElem? (i := 0) rfl)))))) (fun _ h9 => h9) rfl dX7_caught_15 ?_
    refine va_get (D := (dC, dI)) (ci := 5) (v := .int a0_1_4) (C := RX5) (T := TX5) (N := 7) hx hb hts zi_X7_caught_5 hown hK hP 2 rfl rfl 4 (by decide) (hts (.fieldLink RX7 167 "WaxTurns$Scene" "catchCount" "I") (List.mem_cons_of_mem _ (List.mem_append_left _ (List.mem_append_left _ (List.mem_append_left _ (List.mem_of_getElem? (i := 1) rfl)))))) (fun _ h9 => h9) rfl dX7_caught_18 ?_
    obtain ⟨hPc, hDc, hFc, hCc⟩ := zc_cut (wc := [(a0, .inr (7, [a0g_0, .ref a0_1, a0g_2, a0g_3, a0g_4, a0g_5, a0g_6, .ref a0_7, .int a0_8, a0g_9, a0g_10]))]) hP hD hS hA [0] (by decide +kernel) rfl
    have hKc := hK.sub (tys' := []) [] rfl
    refine va_calli (va_runV (As := [.int a0_1_4]) (rest := []) ⟨hx, hb, hml, hown, hts⟩ (c_X7_answered l dC dI H.size a0 a0_1_4 a0g_0 (.ref a0_1) a0g_2 a0g_3 a0g_4 a0g_5 a0g_6 (.ref a0_7) a0g_9 a0g_10 a0_8 ) (cwV 1 hts gX7_caught_X7_answered rfl rfl rfl zd_X7_answered ⟨Nat.le_of_ble_eq_true rfl, Nat.le_of_ble_eq_true rfl⟩) ⟨ax_blind (fun _ _ _ _ _ => trivial), zr_7 hKc hPc (q0 := 0) rfl, ax_pre hPc hKc hDc (fun _ _ => trivial)⟩ rfl rfl hl.1 rfl (lv_room (Nat.le_of_ble_eq_true rfl)) dX7_caught_21 ⟨Nat.le_of_ble_eq_true rfl, Nat.le_of_ble_eq_true rfl⟩) hS (fun q _ h => hFc q h) hFc (fun r21 u t H locs ht hvm hw hB hz1 hk1 hS => ?_)
    obtain ⟨v21na0_8, hP1, hK1, hD1⟩ := hB
    rw [ht] at hP1
    obtain ⟨hP, hD⟩ := zc_back (w := [(a0, .inr (7, [a0g_0, .ref a0_1, a0g_2, a0g_3, a0g_4, a0g_5, a0g_6, .ref a0_7, .int v21na0_8, a0g_9, a0g_10])), (a0_7, .inr (0, [.int a0_7_0, a0_7g_1, a0_7g_2, a0_7g_3, a0_7g_4, a0_7g_5, a0_7g_6, a0_7g_7, a0_7g_8, a0_7g_9, a0_7g_10, a0_7g_11, a0_7g_12, a0_7g_13, a0_7g_14])), (a0_1, .inr (5, [a0_1g_0, a0_1g_1, a0_1g_2, a0_1g_3, .int a0_1_4, a0_1g_5, a0_1g_6]))]) hP hD hCc hk1 hFc hP1 hD1 [.inr 0, .inl 1, .inl 2] (by decide +kernel) rfl
    have hw : r21 = a0_1_4 := hw
    have hw := hw.symm
    subst hw
    exact W.iret (v := a0_1_4) hx hb hr (fun t ht hW => ⟨⟨a0_1_4, (), rfl, trivial, v21na0_8, by rw [ht]; exact hP, va_K.moved hW.alike hK, hD⟩, hS.F ht⟩) hS.2.2 dX7_caught_24
  · obtain ⟨hw, h1_0, h1_1⟩ := hw
    subst hw
    have l1k1_a0_7_0 : (0 : Int) ≤ a0_7_0.toInt := ba0_7_0_l
    have u1k1_a0_7_0 : a0_7_0.toInt ≤ (0 : Int) := h1_1
    refine lv_if_ne (tgt := 13) hx hb dX7_caught_4 (by decide) (fun c4 => absurd (by decide +kernel) c4) (fun _ => ?_)
    refine lv_aload_n hx hb dX7_caught_7 rfl (lv_at hl 0 rfl) ?_
    refine lv_iconst (v := 1) hx hb dX7_caught_8 zk_iconst_1 ?_
    obtain ⟨hPc, hDc, hFc, hCc⟩ := zc_cut (wc := [(a0, .inr (7, [a0g_0, .ref a0_1, a0g_2, a0g_3, a0g_4, a0g_5, a0g_6, .ref a0_7, .int a0_8, a0g_9, a0g_10]))]) hP hD hS hA [0] (by decide +kernel) rfl
    have hKc := hK.sub (tys' := []) [] rfl
    refine va_calli (va_runV (As := [.int 1]) (rest := []) ⟨hx, hb, hml, hown, hts⟩ (c_X7_refused l dC dI H.size a0 1 a0g_0 (.ref a0_1) a0g_2 a0g_3 a0g_4 a0g_5 a0g_6 (.ref a0_7) a0g_9 a0g_10 a0_8 ) (cwV 1 hts gX7_caught_X7_refused rfl rfl rfl zd_X7_refused ⟨Nat.le_of_ble_eq_true rfl, Nat.le_of_ble_eq_true rfl⟩) ⟨ax_blind (fun _ _ _ _ _ => trivial), zr_7 hKc hPc (q0 := 0) rfl, ax_pre hPc hKc hDc (fun _ _ => trivial)⟩ rfl rfl hl.1 rfl (lv_room (Nat.le_of_ble_eq_true rfl)) dX7_caught_9 ⟨Nat.le_of_ble_eq_true rfl, Nat.le_of_ble_eq_true rfl⟩) hS (fun q _ h => hFc q h) hFc (fun r9 u t H locs ht hvm hw hB hz1 hk1 hS => ?_)
    obtain ⟨v9na0_8, hP1, hK1, hD1⟩ := hB
    rw [ht] at hP1
    obtain ⟨hP, hD⟩ := zc_back (w := [(a0, .inr (7, [a0g_0, .ref a0_1, a0g_2, a0g_3, a0g_4, a0g_5, a0g_6, .ref a0_7, .int v9na0_8, a0g_9, a0g_10])), (a0_7, .inr (0, [.int a0_7_0, a0_7g_1, a0_7g_2, a0_7g_3, a0_7g_4, a0_7g_5, a0_7g_6, a0_7g_7, a0_7g_8, a0_7g_9, a0_7g_10, a0_7g_11, a0_7g_12, a0_7g_13, a0_7g_14])), (a0_1, .inr (5, [a0_1g_0, a0_1g_1, a0_1g_2, a0_1g_3, .int a0_1_4, a0_1g_5, a0_1g_6]))]) hP hD hCc hk1 hFc hP1 hD1 [.inr 0, .inl 1, .inl 2] (by decide +kernel) rfl
    have hw : r9 = (-1) := hw
    have hw := hw.symm
    subst hw
    exact W.iret (v := (-1)) hx hb hr (fun t ht hW => ⟨⟨(-1), (), rfl, trivial, v9na0_8, by rw [ht]; exact hP, va_K.moved hW.alike hK, hD⟩, hS.F ht⟩) hS.2.2 dX7_caught_12

set_option maxHeartbeats 4000000 in
set_option maxRecDepth 100000 in
theorem c_X7_turnOf (l : Launch) (dC : Nat → ClassId) (dI : Nat → Nat → Nat) (sz : Nat) (a0 : Nat) (a1 : Int32) (a0g_0 a0g_2 a0g_3 a0g_4 a0g_5 a0g_6 a0g_9 a0g_10 : Value) (a0_1 : Nat) (a0_7 : Nat) (a0_8 : Int32) (a0_7_0 : Int32) (a0_7g_1 a0_7g_2 a0_7g_3 a0_7g_4 a0_7g_7 a0_7g_8 a0_7g_9 a0_7g_10 a0_7g_11 a0_7g_12 a0_7g_13 a0_7g_14 : Value) (a0_7_5 : Int32) (a0_7_6 : Int32) (a0_1g_0 a0_1g_2 a0_1g_3 a0_1g_4 a0_1g_5 a0_1g_6 : Value) (a0_1_1 : Int32) (ba0_7_0_l : (0 : Int) ≤ a0_7_0.toInt) (ba0_7_0_u : a0_7_0.toInt ≤ (9 : Int)) (ba0_7_5_l : (0 : Int) ≤ a0_7_5.toInt) (ba0_7_5_u : a0_7_5.toInt ≤ (8 : Int)) (ba0_7_6_l : (0 : Int) ≤ a0_7_6.toInt) (ba0_7_6_u : a0_7_6.toInt ≤ (8 : Int)) (ba0_1_1_l : (0 : Int) ≤ a0_1_1.toInt) (ba0_1_1_u : a0_1_1.toInt ≤ (8 : Int)) : Met l yX7_turnOf wsX7_turnOf ({ frames := 2, cells := 0, slots := 0, locals := 49 }) (va_Pc [.ref a0, .int a1] (ax_C dC dI sz [(a0, .inr (7, [a0g_0, .ref a0_1, a0g_2, a0g_3, a0g_4, a0g_5, a0g_6, .ref a0_7, .int a0_8, a0g_9, a0g_10])), (a0_7, .inr (0, [.int a0_7_0, a0_7g_1, a0_7g_2, a0_7g_3, a0_7g_4, .int a0_7_5, .int a0_7_6, a0_7g_7, a0_7g_8, a0_7g_9, a0_7g_10, a0_7g_11, a0_7g_12, a0_7g_13, a0_7g_14])), (a0_1, .inr (5, [a0_1g_0, .int a0_1_1, a0_1g_2, a0_1g_3, a0_1g_4, a0_1g_5, a0_1g_6]))] [] (fun _ => True))) (va_Qi (fun (r : Int32) (_ : Unit) => (-1 : Int) ≤ r.toInt ∧ r.toInt ≤ (8 : Int)) (fun (_ : Unit) (t : State) => ∃ na0_8 : Int32, ax_B dC dI (va_A [(a0, .inr (7, [a0g_0, .ref a0_1, a0g_2, a0g_3, a0g_4, a0g_5, a0g_6, .ref a0_7, .int a0_8, a0g_9, a0g_10])), (a0_7, .inr (0, [.int a0_7_0, a0_7g_1, a0_7g_2, a0_7g_3, a0_7g_4, .int a0_7_5, .int a0_7_6, a0_7g_7, a0_7g_8, a0_7g_9, a0_7g_10, a0_7g_11, a0_7g_12, a0_7g_13, a0_7g_14])), (a0_1, .inr (5, [a0_1g_0, .int a0_1_1, a0_1g_2, a0_1g_3, a0_1g_4, a0_1g_5, a0_1g_6]))] sz) [(a0, .inr (7, [a0g_0, .ref a0_1, a0g_2, a0g_3, a0g_4, a0g_5, a0g_6, .ref a0_7, .int na0_8, a0g_9, a0g_10])), (a0_7, .inr (0, [.int a0_7_0, a0_7g_1, a0_7g_2, a0_7g_3, a0_7g_4, .int a0_7_5, .int a0_7_6, a0_7g_7, a0_7g_8, a0_7g_9, a0_7g_10, a0_7g_11, a0_7g_12, a0_7g_13, a0_7g_14])), (a0_1, .inr (5, [a0_1g_0, .int a0_1_1, a0_1g_2, a0_1g_3, a0_1g_4, a0_1g_5, a0_1g_6]))] [] t) (va_A [(a0, .inr (7, [a0g_0, .ref a0_1, a0g_2, a0g_3, a0g_4, a0g_5, a0g_6, .ref a0_7, .int a0_8, a0g_9, a0g_10])), (a0_7, .inr (0, [.int a0_7_0, a0_7g_1, a0_7g_2, a0_7g_3, a0_7g_4, .int a0_7_5, .int a0_7_6, a0_7g_7, a0_7g_8, a0_7g_9, a0_7g_10, a0_7g_11, a0_7g_12, a0_7g_13, a0_7g_14])), (a0_1, .inr (5, [a0_1g_0, .int a0_1_1, a0_1g_2, a0_1g_3, a0_1g_4, a0_1g_5, a0_1g_6]))] sz)) 0 0 (va_A [(a0, .inr (7, [a0g_0, .ref a0_1, a0g_2, a0g_3, a0g_4, a0g_5, a0g_6, .ref a0_7, .int a0_8, a0g_9, a0g_10])), (a0_7, .inr (0, [.int a0_7_0, a0_7g_1, a0_7g_2, a0_7g_3, a0_7g_4, .int a0_7_5, .int a0_7_6, a0_7g_7, a0_7g_8, a0_7g_9, a0_7g_10, a0_7g_11, a0_7g_12, a0_7g_13, a0_7g_14])), (a0_1, .inr (5, [a0_1g_0, .int a0_1_1, a0_1g_2, a0_1g_3, a0_1g_4, a0_1g_5, a0_1g_6]))] sz) := by
  refine Met.ofW (cc := cX7_turnOf) (maxL := 2) (ret := (some .int)) (by decide) rfl ?_
  intro p e s m args below meth c s₁ B hml hv
  obtain ⟨rfl, hsz, hP, hK, hD0, hE⟩ := hv
  have hx := B.exec
  have hb := B.bytes
  have hr := B.returns
  have hts := atoms_spec (ws := wsX7_turnOf) B.pre
  have hown : s.vm.findClass RX7 = some m.cls := findClass_of_methodNamed B.named
  have hlocks := B.notSynchronized
  subst hsz
  have hD := hD0.self (sz := s.heap.size)
  generalize hAe : va_A [(a0, .inr (7, [a0g_0, .ref a0_1, a0g_2, a0g_3, a0g_4, a0g_5, a0g_6, .ref a0_7, .int a0_8, a0g_9, a0g_10])), (a0_7, .inr (0, [.int a0_7_0, a0_7g_1, a0_7g_2, a0_7g_3, a0_7g_4, .int a0_7_5, .int a0_7_6, a0_7g_7, a0_7g_8, a0_7g_9, a0_7g_10, a0_7g_11, a0_7g_12, a0_7g_13, a0_7g_14])), (a0_1, .inr (5, [a0_1g_0, .int a0_1_1, a0_1g_2, a0_1g_3, a0_1g_4, a0_1g_5, a0_1g_6]))] s.heap.size = A at hD ⊢
  have hA : ∀ q : Nat, s.heap.size ≤ q → A q := fun q h => by rw [← hAe]; exact Or.inr h
  have hS : va_S A s.heap s.heap [] := va_S.rf
  have hP : va_P (dC, dI) vwCl [(a0, .inr (7, [a0g_0, .ref a0_1, a0g_2, a0g_3, a0g_4, a0g_5, a0g_6, .ref a0_7, .int a0_8, a0g_9, a0g_10])), (a0_7, .inr (0, [.int a0_7_0, a0_7g_1, a0_7g_2, a0_7g_3, a0_7g_4, .int a0_7_5, .int a0_7_6, a0_7g_7, a0_7g_8, a0_7g_9, a0_7g_10, a0_7g_11, a0_7g_12, a0_7g_13, a0_7g_14])), (a0_1, .inr (5, [a0_1g_0, .int a0_1_1, a0_1g_2, a0_1g_3, a0_1g_4, a0_1g_5, a0_1g_6]))] s.heap := hP
  have hl := lv_entry ([.ref a0, .int a1]) (n := 2) (Nat.le_of_ble_eq_true rfl)
  rw [lg_entry_eq]
  generalize (lg_sl ([.ref a0, .int a1]) ++ List.replicate (2 - (lg_sl ([.ref a0, .int a1])).length) Slot.unset).toArray = ls at hl ⊢
  have hl : lv_has ls 2 [(0, .ref a0), (1, .int a1)] := hl
  refine lv_aload_n hx hb dX7_turnOf_0 rfl (lv_at hl 0 rfl) ?_
  obtain ⟨hPc, hDc, hFc, hCc⟩ := zc_cut (wc := [(a0, .inr (7, [a0g_0, .ref a0_1, a0g_2, a0g_3, a0g_4, a0g_5, a0g_6, .ref a0_7, .int a0_8, a0g_9, a0g_10])), (a0_7, .inr (0, [.int a0_7_0, a0_7g_1, a0_7g_2, a0_7g_3, a0_7g_4, .int a0_7_5, .int a0_7_6, a0_7g_7, a0_7g_8, a0_7g_9, a0_7g_10, a0_7g_11, a0_7g_12, a0_7g_13, a0_7g_14]))]) hP hD hS hA [0, 1] (by decide +kernel) rfl
  have hKc := hK.sub (tys' := []) [] rfl
  refine va_calli (va_runV (As := []) (rest := []) ⟨hx, hb, hml, hown, hts⟩ (c_X7_hasGallery l dC dI s.heap.size a0 a0g_0 (.ref a0_1) a0g_2 a0g_3 a0g_4 a0g_5 a0g_6 (.int a0_8) a0g_9 a0g_10 a0_7 a0_7_0 a0_7g_1 a0_7g_2 a0_7g_3 a0_7g_4 (.int a0_7_5) (.int a0_7_6) a0_7g_7 a0_7g_8 a0_7g_9 a0_7g_10 a0_7g_11 a0_7g_12 a0_7g_13 a0_7g_14 ba0_7_0_l ba0_7_0_u) (cwV 0 hts gX7_turnOf_X7_hasGallery rfl rfl rfl zd_X7_hasGallery ⟨Nat.le_of_ble_eq_true rfl, Nat.le_of_ble_eq_true rfl⟩) ⟨ax_blind (fun _ _ _ _ _ => trivial), zr_7 hKc hPc (q0 := 0) rfl, ax_pre hPc hKc hDc (fun _ _ => trivial)⟩ rfl rfl hl.1 rfl (lv_room (Nat.le_of_ble_eq_true rfl)) dX7_turnOf_1 ⟨Nat.le_of_ble_eq_true rfl, Nat.le_of_ble_eq_true rfl⟩) hS (fun q _ h => hFc q h) hFc (fun r1 u t H locs ht hvm hw hB hz1 hk1 hS => ?_)
  obtain ⟨hP1, hK1, hD1⟩ := hB
  rw [ht] at hP1
  obtain ⟨hP, hD⟩ := zc_back (w := [(a0, .inr (7, [a0g_0, .ref a0_1, a0g_2, a0g_3, a0g_4, a0g_5, a0g_6, .ref a0_7, .int a0_8, a0g_9, a0g_10])), (a0_7, .inr (0, [.int a0_7_0, a0_7g_1, a0_7g_2, a0_7g_3, a0_7g_4, .int a0_7_5, .int a0_7_6, a0_7g_7, a0_7g_8, a0_7g_9, a0_7g_10, a0_7g_11, a0_7g_12, a0_7g_13, a0_7g_14])), (a0_1, .inr (5, [a0_1g_0, .int a0_1_1, a0_1g_2, a0_1g_3, a0_1g_4, a0_1g_5, a0_1g_6]))]) hP hD hCc hk1 hFc hP1 hD1 [.inr 0, .inr 1, .inl 2] (by decide +kernel) rfl
  rcases hw with hw | hw
  · obtain ⟨hw, h1_0, h1_1⟩ := hw
    subst hw
    have l1k0_a0_7_0 : (1 : Int) ≤ a0_7_0.toInt := h1_0
    have u1k0_a0_7_0 : a0_7_0.toInt ≤ (9 : Int) := ba0_7_0_u
    refine lv_if_ne (tgt := 13) hx hb dX7_turnOf_4 (by decide) (fun _ => ?_) (fun c4 => absurd c4 (by decide +kernel))
    refine lv_iload_n hx hb dX7_turnOf_13 rfl (lv_at hl 1 rfl) ?_
    refine lv_iconst (v := 0) hx hb dX7_turnOf_14 zk_iconst_0 ?_
    refine lv_ldc (v := 2000000000) hx hb hown (hts (.constant RX7 170 (2000000000)) (zm_X7_turnOf_r1 (List.mem_of_getElem? (i := 0) rfl))) dX7_turnOf_15 ?_
    obtain ⟨hPc, hDc, hFc, hCc⟩ := zc_cut (wc := []) hP hD hS hA [] (by decide +kernel) rfl
    have hKc := hK.sub (tys' := []) [] rfl
    refine va_calli (va_runS (As := [.int a1, .int 0, .int 2000000000]) (rest := []) ⟨hx, hb, hml, hown, hts⟩ (c_X7_within l dC dI H.size a1 0 2000000000 ) (va_cwS 3 hts gX7_turnOf_X7_within rfl rfl rfl zd_X7_within.2 ⟨Nat.le_of_ble_eq_true rfl, Nat.le_of_ble_eq_true rfl⟩) ⟨ax_blind (fun _ _ _ _ _ => trivial), ax_pre hPc hKc hDc (fun _ _ => trivial)⟩ rfl rfl hl.1 rfl (lv_room (Nat.le_of_ble_eq_true rfl)) dX7_turnOf_17 ⟨Nat.le_of_ble_eq_true rfl, Nat.le_of_ble_eq_true rfl⟩) hS (fun q _ h => hFc q h) hFc (fun r17 u t H locs ht hvm hw hB hz1 hk1 hS => ?_)
    obtain ⟨hP1, hK1, hD1⟩ := hB
    rw [ht] at hP1
    obtain ⟨hP, hD⟩ := zc_back (w := [(a0, .inr (7, [a0g_0, .ref a0_1, a0g_2, a0g_3, a0g_4, a0g_5, a0g_6, .ref a0_7, .int a0_8, a0g_9, a0g_10])), (a0_7, .inr (0, [.int a0_7_0, a0_7g_1, a0_7g_2, a0_7g_3, a0_7g_4, .int a0_7_5, .int a0_7_6, a0_7g_7, a0_7g_8, a0_7g_9, a0_7g_10, a0_7g_11, a0_7g_12, a0_7g_13, a0_7g_14])), (a0_1, .inr (5, [a0_1g_0, .int a0_1_1, a0_1g_2, a0_1g_3, a0_1g_4, a0_1g_5, a0_1g_6]))]) hP hD hCc hk1 hFc hP1 hD1 [.inl 0, .inl 1, .inl 2] (by decide +kernel) rfl
    rcases hw with hw | hw
    · obtain ⟨hw, h17⟩ := hw
      subst hw
      have l17k0_a1 : (0 : Int) ≤ a1.toInt := Int.le_trans zq5 h17.1
      have u17k0_a1 : a1.toInt ≤ (2000000000 : Int) := Int.le_trans h17.2 zq73
      refine lv_if_ne (tgt := 29) hx hb dX7_turnOf_20 (by decide) (fun _ => ?_) (fun c20 => absurd c20 (by decide +kernel))
      refine lv_aload_n hx hb dX7_turnOf_29 rfl (lv_at hl 0 rfl) ?_
      refine lv_aload_n hx hb dX7_turnOf_30 rfl (lv_at hl 0 rfl) ?_
      refine lv_iload_n hx hb dX7_turnOf_31 rfl (lv_at hl 1 rfl) ?_
      obtain ⟨hPc, hDc, hFc, hCc⟩ := zc_cut (wc := [(a0, .inr (7, [a0g_0, .ref a0_1, a0g_2, a0g_3, a0g_4, a0g_5, a0g_6, .ref a0_7, .int a0_8, a0g_9, a0g_10])), (a0_7, .inr (0, [.int a0_7_0, a0_7g_1, a0_7g_2, a0_7g_3, a0_7g_4, .int a0_7_5, .int a0_7_6, a0_7g_7, a0_7g_8, a0_7g_9, a0_7g_10, a0_7g_11, a0_7g_12, a0_7g_13, a0_7g_14])), (a0_1, .inr (5, [a0_1g_0, .int a0_1_1, a0_1g_2, a0_1g_3, a0_1g_4, a0_1g_5, a0_1g_6]))]) hP hD hS hA [0, 1, 2] (by decide +kernel) rfl
      have hKc := hK.sub (tys' := []) [] rfl
      refine va_calli (va_runV (As := [.int a1]) (rest := [.ref a0]) ⟨hx, hb, hml, hown, hts⟩ (c_X7_turnFromNow l dC dI H.size a0 a1 a0g_0 a0g_2 a0g_3 a0g_4 a0g_5 a0g_6 (.int a0_8) a0g_9 a0g_10 a0_1 a0_7 a0_7_0 a0_7g_1 a0_7g_2 a0_7g_3 a0_7g_4 a0_7g_7 a0_7g_8 a0_7g_9 a0_7g_10 a0_7g_11 a0_7g_12 a0_7g_13 a0_7g_14 a0_7_5 a0_7_6 a0_1g_0 a0_1g_2 a0_1g_3 a0_1g_4 a0_1g_5 a0_1g_6 a0_1_1 (Int.le_trans zq4 l1k0_a0_7_0) u1k0_a0_7_0 ba0_7_5_l ba0_7_5_u ba0_7_6_l ba0_7_6_u ba0_1_1_l ba0_1_1_u) (cwV 1 hts gX7_turnOf_X7_turnFromNow rfl rfl rfl zd_X7_turnFromNow ⟨Nat.le_of_ble_eq_true rfl, Nat.le_of_ble_eq_true rfl⟩) ⟨ax_blind (fun _ _ _ _ _ => trivial), zr_7 hKc hPc (q0 := 0) rfl, ax_pre hPc hKc hDc (fun _ _ => trivial)⟩ rfl rfl hl.1 rfl (lv_room (Nat.le_of_ble_eq_true rfl)) dX7_turnOf_32 ⟨Nat.le_of_ble_eq_true rfl, Nat.le_of_ble_eq_true rfl⟩) hS (fun q _ h => hFc q h) hFc (fun r32 u t H locs ht hvm hw hB hz1 hk1 hS => ?_)
      obtain ⟨hP1, hK1, hD1⟩ := hB
      rw [ht] at hP1
      obtain ⟨hP, hD⟩ := zc_back (w := [(a0, .inr (7, [a0g_0, .ref a0_1, a0g_2, a0g_3, a0g_4, a0g_5, a0g_6, .ref a0_7, .int a0_8, a0g_9, a0g_10])), (a0_7, .inr (0, [.int a0_7_0, a0_7g_1, a0_7g_2, a0_7g_3, a0_7g_4, .int a0_7_5, .int a0_7_6, a0_7g_7, a0_7g_8, a0_7g_9, a0_7g_10, a0_7g_11, a0_7g_12, a0_7g_13, a0_7g_14])), (a0_1, .inr (5, [a0_1g_0, .int a0_1_1, a0_1g_2, a0_1g_3, a0_1g_4, a0_1g_5, a0_1g_6]))]) hP hD hCc hk1 hFc hP1 hD1 [.inr 0, .inr 1, .inr 2] (by decide +kernel) rfl
      have hw : (0 : Int) ≤ r32.toInt ∧ r32.toInt ≤ (8 : Int) := hw
      obtain ⟨h32_0, h32_1⟩ := hw
      obtain ⟨hPc, hDc, hFc, hCc⟩ := zc_cut (wc := [(a0, .inr (7, [a0g_0, .ref a0_1, a0g_2, a0g_3, a0g_4, a0g_5, a0g_6, .ref a0_7, .int a0_8, a0g_9, a0g_10]))]) hP hD hS hA [0] (by decide +kernel) rfl
      have hKc := hK.sub (tys' := []) [] rfl
      refine va_calli (va_runV (As := [.int r32]) (rest := []) ⟨hx, hb, hml, hown, hts⟩ (c_X7_answered l dC dI H.size a0 r32 a0g_0 (.ref a0_1) a0g_2 a0g_3 a0g_4 a0g_5 a0g_6 (.ref a0_7) a0g_9 a0g_10 a0_8 ) (cwV 1 hts gX7_turnOf_X7_answered rfl rfl rfl zd_X7_answered ⟨Nat.le_of_ble_eq_true rfl, Nat.le_of_ble_eq_true rfl⟩) ⟨ax_blind (fun _ _ _ _ _ => trivial), zr_7 hKc hPc (q0 := 0) rfl, ax_pre hPc hKc hDc (fun _ _ => trivial)⟩ rfl rfl hl.1 rfl (lv_room (Nat.le_of_ble_eq_true rfl)) dX7_turnOf_35 ⟨Nat.le_of_ble_eq_true rfl, Nat.le_of_ble_eq_true rfl⟩) hS (fun q _ h => hFc q h) hFc (fun r35 u t H locs ht hvm hw hB hz1 hk1 hS => ?_)
      obtain ⟨v35na0_8, hP1, hK1, hD1⟩ := hB
      rw [ht] at hP1
      obtain ⟨hP, hD⟩ := zc_back (w := [(a0, .inr (7, [a0g_0, .ref a0_1, a0g_2, a0g_3, a0g_4, a0g_5, a0g_6, .ref a0_7, .int v35na0_8, a0g_9, a0g_10])), (a0_7, .inr (0, [.int a0_7_0, a0_7g_1, a0_7g_2, a0_7g_3, a0_7g_4, .int a0_7_5, .int a0_7_6, a0_7g_7, a0_7g_8, a0_7g_9, a0_7g_10, a0_7g_11, a0_7g_12, a0_7g_13, a0_7g_14])), (a0_1, .inr (5, [a0_1g_0, .int a0_1_1, a0_1g_2, a0_1g_3, a0_1g_4, a0_1g_5, a0_1g_6]))]) hP hD hCc hk1 hFc hP1 hD1 [.inr 0, .inl 1, .inl 2] (by decide +kernel) rfl
      have hw : r35 = r32 := hw
      have hw := hw.symm
      subst hw
      exact W.iret (v := r32) hx hb hr (fun t ht hW => ⟨⟨r32, (), rfl, ⟨(Int.le_trans zq69 h32_0), h32_1⟩, v35na0_8, by rw [ht]; exact hP, va_K.moved hW.alike hK, hD⟩, hS.F ht⟩) hS.2.2 dX7_turnOf_38
    · obtain ⟨hw, h17⟩ := hw
      subst hw
      refine lv_if_ne (tgt := 29) hx hb dX7_turnOf_20 (by decide) (fun c20 => absurd (by decide +kernel) c20) (fun _ => ?_)
      refine lv_aload_n hx hb dX7_turnOf_23 rfl (lv_at hl 0 rfl) ?_
      refine lv_iconst (v := 2) hx hb dX7_turnOf_24 zk_iconst_2 ?_
      obtain ⟨hPc, hDc, hFc, hCc⟩ := zc_cut (wc := [(a0, .inr (7, [a0g_0, .ref a0_1, a0g_2, a0g_3, a0g_4, a0g_5, a0g_6, .ref a0_7, .int a0_8, a0g_9, a0g_10]))]) hP hD hS hA [0] (by decide +kernel) rfl
      have hKc := hK.sub (tys' := []) [] rfl
      refine va_calli (va_runV (As := [.int 2]) (rest := []) ⟨hx, hb, hml, hown, hts⟩ (c_X7_refused l dC dI H.size a0 2 a0g_0 (.ref a0_1) a0g_2 a0g_3 a0g_4 a0g_5 a0g_6 (.ref a0_7) a0g_9 a0g_10 a0_8 ) (cwV 1 hts gX7_turnOf_X7_refused rfl rfl rfl zd_X7_refused ⟨Nat.le_of_ble_eq_true rfl, Nat.le_of_ble_eq_true rfl⟩) ⟨ax_blind (fun _ _ _ _ _ => trivial), zr_7 hKc hPc (q0 := 0) rfl, ax_pre hPc hKc hDc (fun _ _ => trivial)⟩ rfl rfl hl.1 rfl (lv_room (Nat.le_of_ble_eq_true rfl)) dX7_turnOf_25 ⟨Nat.le_of_ble_eq_true rfl, Nat.le_of_ble_eq_true rfl⟩) hS (fun q _ h => hFc q h) hFc (fun r25 u t H locs ht hvm hw hB hz1 hk1 hS => ?_)
      obtain ⟨v25na0_8, hP1, hK1, hD1⟩ := hB
      rw [ht] at hP1
      obtain ⟨hP, hD⟩ := zc_back (w := [(a0, .inr (7, [a0g_0, .ref a0_1, a0g_2, a0g_3, a0g_4, a0g_5, a0g_6, .ref a0_7, .int v25na0_8, a0g_9, a0g_10])), (a0_7, .inr (0, [.int a0_7_0, a0_7g_1, a0_7g_2, a0_7g_3, a0_7g_4, .int a0_7_5, .int a0_7_6, a0_7g_7, a0_7g_8, a0_7g_9, a0_7g_10, a0_7g_11, a0_7g_12, a0_7g_13, a0_7g_14])), (a0_1, .inr (5, [a0_1g_0, .int a0_1_1, a0_1g_2, a0_1g_3, a0_1g_4, a0_1g_5, a0_1g_6]))]) hP hD hCc hk1 hFc hP1 hD1 [.inr 0, .inl 1, .inl 2] (by decide +kernel) rfl
      have hw : r25 = (-1) := hw
      have hw := hw.symm
      subst hw
      exact W.iret (v := (-1)) hx hb hr (fun t ht hW => ⟨⟨(-1), (), rfl, ⟨zq70, (Int.le_trans zq71 zq72)⟩, v25na0_8, by rw [ht]; exact hP, va_K.moved hW.alike hK, hD⟩, hS.F ht⟩) hS.2.2 dX7_turnOf_28
  · obtain ⟨hw, h1_0, h1_1⟩ := hw
    subst hw
    have l1k1_a0_7_0 : (0 : Int) ≤ a0_7_0.toInt := ba0_7_0_l
    have u1k1_a0_7_0 : a0_7_0.toInt ≤ (0 : Int) := h1_1
    refine lv_if_ne (tgt := 13) hx hb dX7_turnOf_4 (by decide) (fun c4 => absurd (by decide +kernel) c4) (fun _ => ?_)
    refine lv_aload_n hx hb dX7_turnOf_7 rfl (lv_at hl 0 rfl) ?_
    refine lv_iconst (v := 1) hx hb dX7_turnOf_8 zk_iconst_1 ?_
    obtain ⟨hPc, hDc, hFc, hCc⟩ := zc_cut (wc := [(a0, .inr (7, [a0g_0, .ref a0_1, a0g_2, a0g_3, a0g_4, a0g_5, a0g_6, .ref a0_7, .int a0_8, a0g_9, a0g_10]))]) hP hD hS hA [0] (by decide +kernel) rfl
    have hKc := hK.sub (tys' := []) [] rfl
    refine va_calli (va_runV (As := [.int 1]) (rest := []) ⟨hx, hb, hml, hown, hts⟩ (c_X7_refused l dC dI H.size a0 1 a0g_0 (.ref a0_1) a0g_2 a0g_3 a0g_4 a0g_5 a0g_6 (.ref a0_7) a0g_9 a0g_10 a0_8 ) (cwV 1 hts gX7_turnOf_X7_refused rfl rfl rfl zd_X7_refused ⟨Nat.le_of_ble_eq_true rfl, Nat.le_of_ble_eq_true rfl⟩) ⟨ax_blind (fun _ _ _ _ _ => trivial), zr_7 hKc hPc (q0 := 0) rfl, ax_pre hPc hKc hDc (fun _ _ => trivial)⟩ rfl rfl hl.1 rfl (lv_room (Nat.le_of_ble_eq_true rfl)) dX7_turnOf_9 ⟨Nat.le_of_ble_eq_true rfl, Nat.le_of_ble_eq_true rfl⟩) hS (fun q _ h => hFc q h) hFc (fun r9 u t H locs ht hvm hw hB hz1 hk1 hS => ?_)
    obtain ⟨v9na0_8, hP1, hK1, hD1⟩ := hB
    rw [ht] at hP1
    obtain ⟨hP, hD⟩ := zc_back (w := [(a0, .inr (7, [a0g_0, .ref a0_1, a0g_2, a0g_3, a0g_4, a0g_5, a0g_6, .ref a0_7, .int v9na0_8, a0g_9, a0g_10])), (a0_7, .inr (0, [.int a0_7_0, a0_7g_1, a0_7g_2, a0_7g_3, a0_7g_4, .int a0_7_5, .int a0_7_6, a0_7g_7, a0_7g_8, a0_7g_9, a0_7g_10, a0_7g_11, a0_7g_12, a0_7g_13, a0_7g_14])), (a0_1, .inr (5, [a0_1g_0, .int a0_1_1, a0_1g_2, a0_1g_3, a0_1g_4, a0_1g_5, a0_1g_6]))]) hP hD hCc hk1 hFc hP1 hD1 [.inr 0, .inl 1, .inl 2] (by decide +kernel) rfl
    have hw : r9 = (-1) := hw
    have hw := hw.symm
    subst hw
    exact W.iret (v := (-1)) hx hb hr (fun t ht hW => ⟨⟨(-1), (), rfl, ⟨zq70, (Int.le_trans zq71 zq72)⟩, v9na0_8, by rw [ht]; exact hP, va_K.moved hW.alike hK, hD⟩, hS.F ht⟩) hS.2.2 dX7_turnOf_12

set_option maxHeartbeats 4000000 in
set_option maxRecDepth 100000 in
theorem c_X7_turnIn (l : Launch) (dC : Nat → ClassId) (dI : Nat → Nat → Nat) (sz : Nat) (a0 : Nat) (a1 : Int32) (a0g_0 a0g_2 a0g_3 a0g_4 a0g_5 a0g_6 a0g_9 a0g_10 : Value) (a0_1 : Nat) (a0_7 : Nat) (a0_8 : Int32) (a0_7_0 : Int32) (a0_7g_1 a0_7g_2 a0_7g_3 a0_7g_4 a0_7g_7 a0_7g_8 a0_7g_9 a0_7g_10 a0_7g_11 a0_7g_12 a0_7g_13 a0_7g_14 : Value) (a0_7_5 : Int32) (a0_7_6 : Int32) (a0_1g_0 a0_1g_2 a0_1g_3 a0_1g_4 a0_1g_5 a0_1g_6 : Value) (a0_1_1 : Int32) (ba0_7_0_l : (0 : Int) ≤ a0_7_0.toInt) (ba0_7_0_u : a0_7_0.toInt ≤ (9 : Int)) (ba0_7_5_l : (0 : Int) ≤ a0_7_5.toInt) (ba0_7_5_u : a0_7_5.toInt ≤ (8 : Int)) (ba0_7_6_l : (0 : Int) ≤ a0_7_6.toInt) (ba0_7_6_u : a0_7_6.toInt ≤ (8 : Int)) (ba0_1_1_l : (0 : Int) ≤ a0_1_1.toInt) (ba0_1_1_u : a0_1_1.toInt ≤ (8 : Int)) : Met l yX7_turnIn wsX7_turnIn ({ frames := 2, cells := 0, slots := 0, locals := 43 }) (va_Pc [.ref a0, .int a1] (ax_C dC dI sz [(a0, .inr (7, [a0g_0, .ref a0_1, a0g_2, a0g_3, a0g_4, a0g_5, a0g_6, .ref a0_7, .int a0_8, a0g_9, a0g_10])), (a0_7, .inr (0, [.int a0_7_0, a0_7g_1, a0_7g_2, a0_7g_3, a0_7g_4, .int a0_7_5, .int a0_7_6, a0_7g_7, a0_7g_8, a0_7g_9, a0_7g_10, a0_7g_11, a0_7g_12, a0_7g_13, a0_7g_14])), (a0_1, .inr (5, [a0_1g_0, .int a0_1_1, a0_1g_2, a0_1g_3, a0_1g_4, a0_1g_5, a0_1g_6]))] [] (fun _ => True))) (va_Qi (fun (r : Int32) (_ : Unit) => (-2 : Int) ≤ r.toInt ∧ r.toInt ≤ (8 : Int)) (fun (_ : Unit) (t : State) => ∃ na0_8 : Int32, ax_B dC dI (va_A [(a0, .inr (7, [a0g_0, .ref a0_1, a0g_2, a0g_3, a0g_4, a0g_5, a0g_6, .ref a0_7, .int a0_8, a0g_9, a0g_10])), (a0_7, .inr (0, [.int a0_7_0, a0_7g_1, a0_7g_2, a0_7g_3, a0_7g_4, .int a0_7_5, .int a0_7_6, a0_7g_7, a0_7g_8, a0_7g_9, a0_7g_10, a0_7g_11, a0_7g_12, a0_7g_13, a0_7g_14])), (a0_1, .inr (5, [a0_1g_0, .int a0_1_1, a0_1g_2, a0_1g_3, a0_1g_4, a0_1g_5, a0_1g_6]))] sz) [(a0, .inr (7, [a0g_0, .ref a0_1, a0g_2, a0g_3, a0g_4, a0g_5, a0g_6, .ref a0_7, .int na0_8, a0g_9, a0g_10])), (a0_7, .inr (0, [.int a0_7_0, a0_7g_1, a0_7g_2, a0_7g_3, a0_7g_4, .int a0_7_5, .int a0_7_6, a0_7g_7, a0_7g_8, a0_7g_9, a0_7g_10, a0_7g_11, a0_7g_12, a0_7g_13, a0_7g_14])), (a0_1, .inr (5, [a0_1g_0, .int a0_1_1, a0_1g_2, a0_1g_3, a0_1g_4, a0_1g_5, a0_1g_6]))] [] t) (va_A [(a0, .inr (7, [a0g_0, .ref a0_1, a0g_2, a0g_3, a0g_4, a0g_5, a0g_6, .ref a0_7, .int a0_8, a0g_9, a0g_10])), (a0_7, .inr (0, [.int a0_7_0, a0_7g_1, a0_7g_2, a0_7g_3, a0_7g_4, .int a0_7_5, .int a0_7_6, a0_7g_7, a0_7g_8, a0_7g_9, a0_7g_10, a0_7g_11, a0_7g_12, a0_7g_13, a0_7g_14])), (a0_1, .inr (5, [a0_1g_0, .int a0_1_1, a0_1g_2, a0_1g_3, a0_1g_4, a0_1g_5, a0_1g_6]))] sz)) 0 0 (va_A [(a0, .inr (7, [a0g_0, .ref a0_1, a0g_2, a0g_3, a0g_4, a0g_5, a0g_6, .ref a0_7, .int a0_8, a0g_9, a0g_10])), (a0_7, .inr (0, [.int a0_7_0, a0_7g_1, a0_7g_2, a0_7g_3, a0_7g_4, .int a0_7_5, .int a0_7_6, a0_7g_7, a0_7g_8, a0_7g_9, a0_7g_10, a0_7g_11, a0_7g_12, a0_7g_13, a0_7g_14])), (a0_1, .inr (5, [a0_1g_0, .int a0_1_1, a0_1g_2, a0_1g_3, a0_1g_4, a0_1g_5, a0_1g_6]))] sz) := by
  refine Met.ofW (cc := cX7_turnIn) (maxL := 4) (ret := (some .int)) (by decide) rfl ?_
  intro p e s m args below meth c s₁ B hml hv
  obtain ⟨rfl, hsz, hP, hK, hD0, hE⟩ := hv
  have hx := B.exec
  have hb := B.bytes
  have hr := B.returns
  have hts := atoms_spec (ws := wsX7_turnIn) B.pre
  have hown : s.vm.findClass RX7 = some m.cls := findClass_of_methodNamed B.named
  have hlocks := B.notSynchronized
  subst hsz
  have hD := hD0.self (sz := s.heap.size)
  generalize hAe : va_A [(a0, .inr (7, [a0g_0, .ref a0_1, a0g_2, a0g_3, a0g_4, a0g_5, a0g_6, .ref a0_7, .int a0_8, a0g_9, a0g_10])), (a0_7, .inr (0, [.int a0_7_0, a0_7g_1, a0_7g_2, a0_7g_3, a0_7g_4, .int a0_7_5, .int a0_7_6, a0_7g_7, a0_7g_8, a0_7g_9, a0_7g_10, a0_7g_11, a0_7g_12, a0_7g_13, a0_7g_14])), (a0_1, .inr (5, [a0_1g_0, .int a0_1_1, a0_1g_2, a0_1g_3, a0_1g_4, a0_1g_5, a0_1g_6]))] s.heap.size = A at hD ⊢
  have hA : ∀ q : Nat, s.heap.size ≤ q → A q := fun q h => by rw [← hAe]; exact Or.inr h
  have hS : va_S A s.heap s.heap [] := va_S.rf
  have hP : va_P (dC, dI) vwCl [(a0, .inr (7, [a0g_0, .ref a0_1, a0g_2, a0g_3, a0g_4, a0g_5, a0g_6, .ref a0_7, .int a0_8, a0g_9, a0g_10])), (a0_7, .inr (0, [.int a0_7_0, a0_7g_1, a0_7g_2, a0_7g_3, a0_7g_4, .int a0_7_5, .int a0_7_6, a0_7g_7, a0_7g_8, a0_7g_9, a0_7g_10, a0_7g_11, a0_7g_12, a0_7g_13, a0_7g_14])), (a0_1, .inr (5, [a0_1g_0, .int a0_1_1, a0_1g_2, a0_1g_3, a0_1g_4, a0_1g_5, a0_1g_6]))] s.heap := hP
  have hl := lv_entry ([.ref a0, .int a1]) (n := 4) (Nat.le_of_ble_eq_true rfl)
  rw [lg_entry_eq]
  generalize (lg_sl ([.ref a0, .int a1]) ++ List.replicate (4 - (lg_sl ([.ref a0, .int a1])).length) Slot.unset).toArray = ls at hl ⊢
  have hl : lv_has ls 4 [(0, .ref a0), (1, .int a1)] := hl
  refine ai_open (fun K hK0 => ?_)
  refine (hK0 _ _ _).mpr ?_
  refine lv_aload_n hx hb dX7_turnIn_0 rfl (lv_at hl 0 rfl) ?_
  refine lv_iload_n hx hb dX7_turnIn_1 rfl (lv_at hl 1 rfl) ?_
  obtain ⟨hPc, hDc, hFc, hCc⟩ := zc_cut (wc := [(a0, .inr (7, [a0g_0, .ref a0_1, a0g_2, a0g_3, a0g_4, a0g_5, a0g_6, .ref a0_7, .int a0_8, a0g_9, a0g_10])), (a0_7, .inr (0, [.int a0_7_0, a0_7g_1, a0_7g_2, a0_7g_3, a0_7g_4, .int a0_7_5, .int a0_7_6, a0_7g_7, a0_7g_8, a0_7g_9, a0_7g_10, a0_7g_11, a0_7g_12, a0_7g_13, a0_7g_14]))]) hP hD hS hA [0, 1] (by decide +kernel) rfl
  have hKc := hK.sub (tys' := []) [] rfl
  refine va_calli (va_runV (As := [.int a1]) (rest := []) ⟨hx, hb, hml, hown, hts⟩ (c_X7_isFigure l dC dI s.heap.size a0 a1 a0g_0 (.ref a0_1) a0g_2 a0g_3 a0g_4 a0g_5 a0g_6 (.int a0_8) a0g_9 a0g_10 a0_7 a0_7_0 a0_7g_1 a0_7g_2 a0_7g_3 a0_7g_4 (.int a0_7_5) (.int a0_7_6) a0_7g_7 a0_7g_8 a0_7g_9 a0_7g_10 a0_7g_11 a0_7g_12 a0_7g_13 a0_7g_14 ba0_7_0_l ba0_7_0_u) (cwV 1 hts gX7_turnIn_X7_isFigure rfl rfl rfl zd_X7_isFigure ⟨Nat.le_of_ble_eq_true rfl, Nat.le_of_ble_eq_true rfl⟩) ⟨ax_blind (fun _ _ _ _ _ => trivial), zr_7 hKc hPc (q0 := 0) rfl, ax_pre hPc hKc hDc (fun _ _ => trivial)⟩ rfl rfl hl.1 rfl (lv_room (Nat.le_of_ble_eq_true rfl)) dX7_turnIn_2 ⟨Nat.le_of_ble_eq_true rfl, Nat.le_of_ble_eq_true rfl⟩) hS (fun q _ h => hFc q h) hFc (fun r2 u t H locs ht hvm hw hB hz1 hk1 hS => ?_)
  obtain ⟨hP1, hK1, hD1⟩ := hB
  rw [ht] at hP1
  obtain ⟨hP, hD⟩ := zc_back (w := [(a0, .inr (7, [a0g_0, .ref a0_1, a0g_2, a0g_3, a0g_4, a0g_5, a0g_6, .ref a0_7, .int a0_8, a0g_9, a0g_10])), (a0_7, .inr (0, [.int a0_7_0, a0_7g_1, a0_7g_2, a0_7g_3, a0_7g_4, .int a0_7_5, .int a0_7_6, a0_7g_7, a0_7g_8, a0_7g_9, a0_7g_10, a0_7g_11, a0_7g_12, a0_7g_13, a0_7g_14])), (a0_1, .inr (5, [a0_1g_0, .int a0_1_1, a0_1g_2, a0_1g_3, a0_1g_4, a0_1g_5, a0_1g_6]))]) hP hD hCc hk1 hFc hP1 hD1 [.inr 0, .inr 1, .inl 2] (by decide +kernel) rfl
  rcases hw with hw | hw
  · obtain ⟨hw, h2_0, h2_1, h2_2, h2_3⟩ := hw
    subst hw
    have l2k0_a1 : (0 : Int) ≤ a1.toInt := h2_0
    have u2k0_a1 : a1.toInt ≤ (8 : Int) := h2_1
    have l2k0_a0_7_0 : (1 : Int) ≤ a0_7_0.toInt := h2_2
    have u2k0_a0_7_0 : a0_7_0.toInt ≤ (9 : Int) := ba0_7_0_u
    refine lv_if_ne (tgt := 14) hx hb dX7_turnIn_5 (by decide) (fun _ => ?_) (fun c5 => absurd c5 (by decide +kernel))
    refine lv_aload_n hx hb dX7_turnIn_14 rfl (lv_at hl 0 rfl) ?_
    refine va_get (D := (dC, dI)) (ci := 7) (v := .ref a0_1) (C := RX7) (T := TX7) (N := 11) hx hb hts zi_X7_turnIn_7 hown hK hP 0 rfl rfl 1 (by decide) (hts (.fieldLink RX7 19 "WaxTurns" "now" "LWaxTurns$Scene;") (zm_X7_turnIn_r1 (List.mem_of_getElem? (i := 0) rfl))) (fun _ h9 => h9) rfl dX7_turnIn_15 ?_
    refine va_get (D := (dC, dI)) (ci := 5) (v := .int a0_1_1) (C := RX5) (T := TX5) (N := 7) hx hb hts zi_X7_turnIn_5 hown hK hP 2 rfl rfl 1 (by decide) (hts (.fieldLink RX7 158 "WaxTurns$Scene" "turn" "I") (zm_X7_turnIn_r1 (List.mem_of_getElem? (i := 1) rfl))) (fun _ h9 => h9) rfl dX7_turnIn_18 ?_
    refine lv_istore_n (lv' := [(2, .int a0_1_1), (0, .ref a0), (1, .int a1)]) hx hb dX7_turnIn_21 rfl hl (by decide) rfl (fun ls hl => ?_)
    refine lv_iconst (v := 0) hx hb dX7_turnIn_22 zk_iconst_0 ?_
    refine lv_istore_n (lv' := [(3, .int 0), (2, .int a0_1_1), (0, .ref a0), (1, .int a1)]) hx hb dX7_turnIn_23 rfl hl (by decide) rfl (fun ls hl => ?_)
    have J24 : ∀ (n : Nat) (j24l3 : Int32) (j24l2 : Int32) (H : Heap) (locs : List Loc) (ls : Array Slot), (10 : Int) - j24l3.toInt ≤ (n : Int) → (0 : Int) ≤ j24l3.toInt → j24l3.toInt ≤ (9 : Int) → (0 : Int) ≤ j24l2.toInt → j24l2.toInt ≤ (8 : Int) → va_P (dC, dI) vwCl [(a0, .inr (7, [a0g_0, .ref a0_1, a0g_2, a0g_3, a0g_4, a0g_5, a0g_6, .ref a0_7, .int a0_8, a0g_9, a0g_10])), (a0_7, .inr (0, [.int a0_7_0, a0_7g_1, a0_7g_2, a0_7g_3, a0_7g_4, .int a0_7_5, .int a0_7_6, a0_7g_7, a0_7g_8, a0_7g_9, a0_7g_10, a0_7g_11, a0_7g_12, a0_7g_13, a0_7g_14])), (a0_1, .inr (5, [a0_1g_0, .int a0_1_1, a0_1g_2, a0_1g_3, a0_1g_4, a0_1g_5, a0_1g_6]))] H → va_D A [(a0, .inr (7, [a0g_0, .ref a0_1, a0g_2, a0g_3, a0g_4, a0g_5, a0g_6, .ref a0_7, .int a0_8, a0g_9, a0g_10])), (a0_7, .inr (0, [.int a0_7_0, a0_7g_1, a0_7g_2, a0_7g_3, a0_7g_4, .int a0_7_5, .int a0_7_6, a0_7g_7, a0_7g_8, a0_7g_9, a0_7g_10, a0_7g_11, a0_7g_12, a0_7g_13, a0_7g_14])), (a0_1, .inr (5, [a0_1g_0, .int a0_1_1, a0_1g_2, a0_1g_3, a0_1g_4, a0_1g_5, a0_1g_6]))] → va_S A s.heap H locs → lv_has ls 4 [(0, .ref a0), (1, .int a1), (2, .int j24l2), (3, .int j24l3)] → K H locs (F0 m 24 ls []) := by
      intro n
      induction n with
      | zero =>
        intro j24l3 j24l2 H locs ls hm bj24l3_l bj24l3_u bj24l2_l bj24l2_u hP hD hS hl
        have h8 := ai_min j24l3
        have h9 := ai_max j24l3
        exact absurd hm (by omega)
      | succ n ih24 =>
        intro j24l3 j24l2 H locs ls hm bj24l3_l bj24l3_u bj24l2_l bj24l2_u hP hD hS hl
        refine (hK0 _ _ _).mpr ?_
        have hm24 := hm
        refine lv_iload_n hx hb dX7_turnIn_24 rfl (lv_at hl 3 rfl) ?_
        refine lv_aload_n hx hb dX7_turnIn_25 rfl (lv_at hl 0 rfl) ?_
        refine va_get (D := (dC, dI)) (ci := 7) (v := .ref a0_7) (C := RX7) (T := TX7) (N := 11) hx hb hts zi_X7_turnIn_7 hown hK hP 0 rfl rfl 7 (by decide) (hts (.fieldLink RX7 57 "WaxTurns" "hall" "LWaxTurns$Hall;") (zm_X7_turnIn_r1 (List.mem_of_getElem? (i := 2) rfl))) (fun _ h9 => h9) rfl dX7_turnIn_26 ?_
        refine va_get (D := (dC, dI)) (ci := 0) (v := .int a0_7_0) (C := RX0) (T := TX0) (N := 15) hx hb hts zi_X7_turnIn_0 hown hK hP 1 rfl rfl 0 (by decide) (hts (.fieldLink RX7 110 "WaxTurns$Hall" "figures" "I") (zm_X7_turnIn_r1 (List.mem_of_getElem? (i := 3) rfl))) (fun _ h9 => h9) rfl dX7_turnIn_29 ?_
        refine lv_icmp_ge (tgt := 61) hx hb dX7_turnIn_32 (by decide) (fun c32 => ?_) (fun c32 => ?_)
        · have gc32 := ai_le c32
          have u32t_a0_7_0 : a0_7_0.toInt ≤ (9 : Int) := u2k0_a0_7_0
          have l32t_j24l3 : (1 : Int) ≤ j24l3.toInt := Int.le_trans l2k0_a0_7_0 gc32
          refine lv_aload_n hx hb dX7_turnIn_61 rfl (lv_at hl 0 rfl) ?_
          refine lv_bipush (v := (-2)) hx hb dX7_turnIn_62 zk_bipush_n2 ?_
          obtain ⟨hPc, hDc, hFc, hCc⟩ := zc_cut (wc := [(a0, .inr (7, [a0g_0, .ref a0_1, a0g_2, a0g_3, a0g_4, a0g_5, a0g_6, .ref a0_7, .int a0_8, a0g_9, a0g_10]))]) hP hD hS hA [0] (by decide +kernel) rfl
          have hKc := hK.sub (tys' := []) [] rfl
          refine va_calli (va_runV (As := [.int (-2)]) (rest := []) ⟨hx, hb, hml, hown, hts⟩ (c_X7_answered l dC dI H.size a0 (-2) a0g_0 (.ref a0_1) a0g_2 a0g_3 a0g_4 a0g_5 a0g_6 (.ref a0_7) a0g_9 a0g_10 a0_8 ) (cwV 1 hts gX7_turnIn_X7_answered rfl rfl rfl zd_X7_answered ⟨Nat.le_of_ble_eq_true rfl, Nat.le_of_ble_eq_true rfl⟩) ⟨ax_blind (fun _ _ _ _ _ => trivial), zr_7 hKc hPc (q0 := 0) rfl, ax_pre hPc hKc hDc (fun _ _ => trivial)⟩ rfl rfl hl.1 rfl (lv_room (Nat.le_of_ble_eq_true rfl)) dX7_turnIn_64 ⟨Nat.le_of_ble_eq_true rfl, Nat.le_of_ble_eq_true rfl⟩) hS (fun q _ h => hFc q h) hFc (fun r64 u t H locs ht hvm hw hB hz1 hk1 hS => ?_)
          obtain ⟨v64na0_8, hP1, hK1, hD1⟩ := hB
          rw [ht] at hP1
          obtain ⟨hP, hD⟩ := zc_back (w := [(a0, .inr (7, [a0g_0, .ref a0_1, a0g_2, a0g_3, a0g_4, a0g_5, a0g_6, .ref a0_7, .int v64na0_8, a0g_9, a0g_10])), (a0_7, .inr (0, [.int a0_7_0, a0_7g_1, a0_7g_2, a0_7g_3, a0_7g_4, .int a0_7_5, .int a0_7_6, a0_7g_7, a0_7g_8, a0_7g_9, a0_7g_10, a0_7g_11, a0_7g_12, a0_7g_13, a0_7g_14])), (a0_1, .inr (5, [a0_1g_0, .int a0_1_1, a0_1g_2, a0_1g_3, a0_1g_4, a0_1g_5, a0_1g_6]))]) hP hD hCc hk1 hFc hP1 hD1 [.inr 0, .inl 1, .inl 2] (by decide +kernel) rfl
          have hw : r64 = (-2) := hw
          have hw := hw.symm
          subst hw
          exact W.iret (v := (-2)) hx hb hr (fun t ht hW => ⟨⟨(-2), (), rfl, ⟨zq45, (Int.le_trans zq44 zq74)⟩, v64na0_8, by rw [ht]; exact hP, va_K.moved hW.alike hK, hD⟩, hS.F ht⟩) hS.2.2 dX7_turnIn_67
        · have gc32 := ai_nle c32
          have u32f_j24l3 : j24l3.toInt ≤ (8 : Int) := ai_lthi gc32 u2k0_a0_7_0
          have l32f_a0_7_0 : (1 : Int) ≤ a0_7_0.toInt := l2k0_a0_7_0
          refine lv_iload_n hx hb dX7_turnIn_35 rfl (lv_at hl 2 rfl) ?_
          refine lv_iload_n hx hb dX7_turnIn_36 rfl (lv_at hl 1 rfl) ?_
          refine lv_icmp_ne (tgt := 46) hx hb dX7_turnIn_37 (by decide) (fun c37 => ?_) (fun c37 => ?_)
          · have gc37 := ai_ne c37
            refine lv_aload_n hx hb dX7_turnIn_46 rfl (lv_at hl 0 rfl) ?_
            refine va_get (D := (dC, dI)) (ci := 7) (v := .ref a0_7) (C := RX7) (T := TX7) (N := 11) hx hb hts zi_X7_turnIn_7 hown hK hP 0 rfl rfl 7 (by decide) (hts (.fieldLink RX7 57 "WaxTurns" "hall" "LWaxTurns$Hall;") (zm_X7_turnIn_r1 (List.mem_of_getElem? (i := 2) rfl))) (fun _ h9 => h9) rfl dX7_turnIn_47 ?_
            refine lv_iload_n hx hb dX7_turnIn_50 rfl (lv_at hl 2 rfl) ?_
            obtain ⟨hPc, hDc, hFc, hCc⟩ := zc_cut (wc := [(a0_7, .inr (0, [.int a0_7_0, a0_7g_1, a0_7g_2, a0_7g_3, a0_7g_4, .int a0_7_5, .int a0_7_6, a0_7g_7, a0_7g_8, a0_7g_9, a0_7g_10, a0_7g_11, a0_7g_12, a0_7g_13, a0_7g_14]))]) hP hD hS hA [1] (by decide +kernel) rfl
            have hKc := hK.sub (tys' := []) [] rfl
            refine va_calli (va_runV (As := [.int j24l2]) (rest := []) ⟨hx, hb, hml, hown, hts⟩ (c_X0_next l dC dI H.size a0_7 j24l2 a0_7_0 a0_7g_1 a0_7g_2 a0_7g_3 a0_7g_4 a0_7g_7 a0_7g_8 a0_7g_9 a0_7g_10 a0_7g_11 a0_7g_12 a0_7g_13 a0_7g_14 a0_7_5 a0_7_6 bj24l2_l bj24l2_u (Int.le_trans zq4 l32f_a0_7_0) u2k0_a0_7_0 ba0_7_5_l ba0_7_5_u ba0_7_6_l ba0_7_6_u) (cwV 1 hts gX7_turnIn_X0_next rfl rfl rfl zd_X0_next ⟨Nat.le_of_ble_eq_true rfl, Nat.le_of_ble_eq_true rfl⟩) ⟨ax_blind (fun _ _ _ _ _ => trivial), zr_0 hKc hPc (q0 := 0) rfl, ax_pre hPc hKc hDc (fun _ _ => trivial)⟩ rfl rfl hl.1 rfl (lv_room (Nat.le_of_ble_eq_true rfl)) dX7_turnIn_51 ⟨Nat.le_of_ble_eq_true rfl, Nat.le_of_ble_eq_true rfl⟩) hS (fun q _ h => hFc q h) hFc (fun r51 u t H locs ht hvm hw hB hz1 hk1 hS => ?_)
            obtain ⟨hP1, hK1, hD1⟩ := hB
            rw [ht] at hP1
            obtain ⟨hP, hD⟩ := zc_back (w := [(a0, .inr (7, [a0g_0, .ref a0_1, a0g_2, a0g_3, a0g_4, a0g_5, a0g_6, .ref a0_7, .int a0_8, a0g_9, a0g_10])), (a0_7, .inr (0, [.int a0_7_0, a0_7g_1, a0_7g_2, a0_7g_3, a0_7g_4, .int a0_7_5, .int a0_7_6, a0_7g_7, a0_7g_8, a0_7g_9, a0_7g_10, a0_7g_11, a0_7g_12, a0_7g_13, a0_7g_14])), (a0_1, .inr (5, [a0_1g_0, .int a0_1_1, a0_1g_2, a0_1g_3, a0_1g_4, a0_1g_5, a0_1g_6]))]) hP hD hCc hk1 hFc hP1 hD1 [.inl 0, .inr 0, .inl 2] (by decide +kernel) rfl
            have hw : (0 : Int) ≤ r51.toInt ∧ r51.toInt ≤ (8 : Int) := hw
            obtain ⟨h51_0, h51_1⟩ := hw
            refine lv_istore_n (lv' := [(2, .int r51), (0, .ref a0), (1, .int a1), (3, .int j24l3)]) hx hb dX7_turnIn_54 rfl hl (by decide) rfl (fun ls hl => ?_)
            obtain ⟨x55, ex55⟩ : ∃ y : Int32, y = j24l3 + Int32.ofInt 1 := ⟨_, rfl⟩
            have qx55 : x55.toInt = j24l3.toInt + 1 := ai_inc ex55 (by decide) (by decide) u32f_j24l3 (by decide)
            have bx55 : (1 : Int) ≤ x55.toInt ∧ x55.toInt ≤ 9 := ⟨by rw [qx55]; exact Int.add_le_add bj24l3_l (Int.le_refl _), by rw [qx55]; exact Int.add_le_add u32f_j24l3 (Int.le_refl _)⟩
            refine lv_iinc (v := x55) (lv' := [(3, .int x55), (2, .int r51), (0, .ref a0), (1, .int a1)]) hx hb dX7_turnIn_55 hl (k := 3) rfl ex55.symm (by decide) rfl (fun ls hl => ?_)
            refine lv_goto (tgt := 24) hx hb dX7_turnIn_58 (by decide) ?_
            exact (hK0 _ _ _).mp (ih24 x55 r51 _ _ _ (by have h0 := qx55; omega) (Int.le_trans zq4 bx55.1) bx55.2 h51_0 h51_1 hP hD hS (lv_sub hl [2, 3, 1, 0] rfl))
          · have gc37 := ai_eq c37
            have u37f_j24l2 : j24l2.toInt ≤ (8 : Int) := bj24l2_u
            have l37f_j24l2 : (0 : Int) ≤ j24l2.toInt := bj24l2_l
            have u37f_a1 : a1.toInt ≤ (8 : Int) := u2k0_a1
            have l37f_a1 : (0 : Int) ≤ a1.toInt := l2k0_a1
            refine lv_aload_n hx hb dX7_turnIn_40 rfl (lv_at hl 0 rfl) ?_
            refine lv_iload_n hx hb dX7_turnIn_41 rfl (lv_at hl 3 rfl) ?_
            obtain ⟨hPc, hDc, hFc, hCc⟩ := zc_cut (wc := [(a0, .inr (7, [a0g_0, .ref a0_1, a0g_2, a0g_3, a0g_4, a0g_5, a0g_6, .ref a0_7, .int a0_8, a0g_9, a0g_10]))]) hP hD hS hA [0] (by decide +kernel) rfl
            have hKc := hK.sub (tys' := []) [] rfl
            refine va_calli (va_runV (As := [.int j24l3]) (rest := []) ⟨hx, hb, hml, hown, hts⟩ (c_X7_answered l dC dI H.size a0 j24l3 a0g_0 (.ref a0_1) a0g_2 a0g_3 a0g_4 a0g_5 a0g_6 (.ref a0_7) a0g_9 a0g_10 a0_8 ) (cwV 1 hts gX7_turnIn_X7_answered rfl rfl rfl zd_X7_answered ⟨Nat.le_of_ble_eq_true rfl, Nat.le_of_ble_eq_true rfl⟩) ⟨ax_blind (fun _ _ _ _ _ => trivial), zr_7 hKc hPc (q0 := 0) rfl, ax_pre hPc hKc hDc (fun _ _ => trivial)⟩ rfl rfl hl.1 rfl (lv_room (Nat.le_of_ble_eq_true rfl)) dX7_turnIn_42 ⟨Nat.le_of_ble_eq_true rfl, Nat.le_of_ble_eq_true rfl⟩) hS (fun q _ h => hFc q h) hFc (fun r42 u t H locs ht hvm hw hB hz1 hk1 hS => ?_)
            obtain ⟨v42na0_8, hP1, hK1, hD1⟩ := hB
            rw [ht] at hP1
            obtain ⟨hP, hD⟩ := zc_back (w := [(a0, .inr (7, [a0g_0, .ref a0_1, a0g_2, a0g_3, a0g_4, a0g_5, a0g_6, .ref a0_7, .int v42na0_8, a0g_9, a0g_10])), (a0_7, .inr (0, [.int a0_7_0, a0_7g_1, a0_7g_2, a0_7g_3, a0_7g_4, .int a0_7_5, .int a0_7_6, a0_7g_7, a0_7g_8, a0_7g_9, a0_7g_10, a0_7g_11, a0_7g_12, a0_7g_13, a0_7g_14])), (a0_1, .inr (5, [a0_1g_0, .int a0_1_1, a0_1g_2, a0_1g_3, a0_1g_4, a0_1g_5, a0_1g_6]))]) hP hD hCc hk1 hFc hP1 hD1 [.inr 0, .inl 1, .inl 2] (by decide +kernel) rfl
            have hw : r42 = j24l3 := hw
            have hw := hw.symm
            subst hw
            exact W.iret (v := j24l3) hx hb hr (fun t ht hW => ⟨⟨j24l3, (), rfl, ⟨(Int.le_trans zq75 bj24l3_l), u32f_j24l3⟩, v42na0_8, by rw [ht]; exact hP, va_K.moved hW.alike hK, hD⟩, hS.F ht⟩) hS.2.2 dX7_turnIn_45
    exact (hK0 _ _ _).mp (J24 10 0 a0_1_1 _ _ _ (by have h1 : (0 : Int) ≤ (0 : Int32).toInt := zq5; have h2 : (0 : Int32).toInt ≤ (0 : Int) := zq6; omega) zq5 (Int.le_trans zq6 zq7) ba0_1_1_l ba0_1_1_u hP hD hS (lv_sub hl [2, 3, 1, 0] rfl))
  · subst hw
    refine lv_if_ne (tgt := 14) hx hb dX7_turnIn_5 (by decide) (fun c5 => absurd (by decide +kernel) c5) (fun _ => ?_)
    refine lv_aload_n hx hb dX7_turnIn_8 rfl (lv_at hl 0 rfl) ?_
    refine lv_iconst (v := 1) hx hb dX7_turnIn_9 zk_iconst_1 ?_
    obtain ⟨hPc, hDc, hFc, hCc⟩ := zc_cut (wc := [(a0, .inr (7, [a0g_0, .ref a0_1, a0g_2, a0g_3, a0g_4, a0g_5, a0g_6, .ref a0_7, .int a0_8, a0g_9, a0g_10]))]) hP hD hS hA [0] (by decide +kernel) rfl
    have hKc := hK.sub (tys' := []) [] rfl
    refine va_calli (va_runV (As := [.int 1]) (rest := []) ⟨hx, hb, hml, hown, hts⟩ (c_X7_refused l dC dI H.size a0 1 a0g_0 (.ref a0_1) a0g_2 a0g_3 a0g_4 a0g_5 a0g_6 (.ref a0_7) a0g_9 a0g_10 a0_8 ) (cwV 1 hts gX7_turnIn_X7_refused rfl rfl rfl zd_X7_refused ⟨Nat.le_of_ble_eq_true rfl, Nat.le_of_ble_eq_true rfl⟩) ⟨ax_blind (fun _ _ _ _ _ => trivial), zr_7 hKc hPc (q0 := 0) rfl, ax_pre hPc hKc hDc (fun _ _ => trivial)⟩ rfl rfl hl.1 rfl (lv_room (Nat.le_of_ble_eq_true rfl)) dX7_turnIn_10 ⟨Nat.le_of_ble_eq_true rfl, Nat.le_of_ble_eq_true rfl⟩) hS (fun q _ h => hFc q h) hFc (fun r10 u t H locs ht hvm hw hB hz1 hk1 hS => ?_)
    obtain ⟨v10na0_8, hP1, hK1, hD1⟩ := hB
    rw [ht] at hP1
    obtain ⟨hP, hD⟩ := zc_back (w := [(a0, .inr (7, [a0g_0, .ref a0_1, a0g_2, a0g_3, a0g_4, a0g_5, a0g_6, .ref a0_7, .int v10na0_8, a0g_9, a0g_10])), (a0_7, .inr (0, [.int a0_7_0, a0_7g_1, a0_7g_2, a0_7g_3, a0_7g_4, .int a0_7_5, .int a0_7_6, a0_7g_7, a0_7g_8, a0_7g_9, a0_7g_10, a0_7g_11, a0_7g_12, a0_7g_13, a0_7g_14])), (a0_1, .inr (5, [a0_1g_0, .int a0_1_1, a0_1g_2, a0_1g_3, a0_1g_4, a0_1g_5, a0_1g_6]))]) hP hD hCc hk1 hFc hP1 hD1 [.inr 0, .inl 1, .inl 2] (by decide +kernel) rfl
    have hw : r10 = (-1) := hw
    have hw := hw.symm
    subst hw
    exact W.iret (v := (-1)) hx hb hr (fun t ht hW => ⟨⟨(-1), (), rfl, ⟨(Int.le_trans zq76 zq70), (Int.le_trans zq71 zq72)⟩, v10na0_8, by rw [ht]; exact hP, va_K.moved hW.alike hK, hD⟩, hS.F ht⟩) hS.2.2 dX7_turnIn_13

set_option maxHeartbeats 4000000 in
set_option maxRecDepth 100000 in
theorem c_X7_settles (l : Launch) (dC : Nat → ClassId) (dI : Nat → Nat → Nat) (sz : Nat) (a0 : Nat) (a0g_0 a0g_2 a0g_3 a0g_4 a0g_5 a0g_6 a0g_9 a0g_10 : Value) (a0_1 : Nat) (a0_7 : Nat) (a0_8 : Int32) (a0_7_0 : Int32) (a0_7g_1 a0_7g_2 a0_7g_3 a0_7g_4 a0_7g_7 a0_7g_8 a0_7g_9 a0_7g_10 a0_7g_11 a0_7g_12 a0_7g_13 a0_7g_14 : Value) (a0_7_5 : Int32) (a0_7_6 : Int32) (a0_1g_0 a0_1g_2 a0_1g_3 a0_1g_4 a0_1g_5 a0_1g_6 : Value) (a0_1_1 : Int32) (ba0_7_0_l : (0 : Int) ≤ a0_7_0.toInt) (ba0_7_0_u : a0_7_0.toInt ≤ (9 : Int)) (ba0_7_5_l : (0 : Int) ≤ a0_7_5.toInt) (ba0_7_5_u : a0_7_5.toInt ≤ (8 : Int)) (ba0_7_6_l : (0 : Int) ≤ a0_7_6.toInt) (ba0_7_6_u : a0_7_6.toInt ≤ (8 : Int)) (ba0_1_1_l : (0 : Int) ≤ a0_1_1.toInt) (ba0_1_1_u : a0_1_1.toInt ≤ (8 : Int)) : Met l yX7_settles wsX7_settles ({ frames := 3, cells := 0, slots := 0, locals := 72 }) (va_Pc [.ref a0] (ax_C dC dI sz [(a0, .inr (7, [a0g_0, .ref a0_1, a0g_2, a0g_3, a0g_4, a0g_5, a0g_6, .ref a0_7, .int a0_8, a0g_9, a0g_10])), (a0_7, .inr (0, [.int a0_7_0, a0_7g_1, a0_7g_2, a0_7g_3, a0_7g_4, .int a0_7_5, .int a0_7_6, a0_7g_7, a0_7g_8, a0_7g_9, a0_7g_10, a0_7g_11, a0_7g_12, a0_7g_13, a0_7g_14])), (a0_1, .inr (5, [a0_1g_0, .int a0_1_1, a0_1g_2, a0_1g_3, a0_1g_4, a0_1g_5, a0_1g_6]))] [] (fun _ => True))) (va_Qi (fun (r : Int32) (_ : Unit) => (-1 : Int) ≤ r.toInt ∧ r.toInt ≤ (9 : Int)) (fun (_ : Unit) (t : State) => ∃ na0_8 : Int32, ax_B dC dI (va_A [(a0, .inr (7, [a0g_0, .ref a0_1, a0g_2, a0g_3, a0g_4, a0g_5, a0g_6, .ref a0_7, .int a0_8, a0g_9, a0g_10])), (a0_7, .inr (0, [.int a0_7_0, a0_7g_1, a0_7g_2, a0_7g_3, a0_7g_4, .int a0_7_5, .int a0_7_6, a0_7g_7, a0_7g_8, a0_7g_9, a0_7g_10, a0_7g_11, a0_7g_12, a0_7g_13, a0_7g_14])), (a0_1, .inr (5, [a0_1g_0, .int a0_1_1, a0_1g_2, a0_1g_3, a0_1g_4, a0_1g_5, a0_1g_6]))] sz) [(a0, .inr (7, [a0g_0, .ref a0_1, a0g_2, a0g_3, a0g_4, a0g_5, a0g_6, .ref a0_7, .int na0_8, a0g_9, a0g_10])), (a0_7, .inr (0, [.int a0_7_0, a0_7g_1, a0_7g_2, a0_7g_3, a0_7g_4, .int a0_7_5, .int a0_7_6, a0_7g_7, a0_7g_8, a0_7g_9, a0_7g_10, a0_7g_11, a0_7g_12, a0_7g_13, a0_7g_14])), (a0_1, .inr (5, [a0_1g_0, .int a0_1_1, a0_1g_2, a0_1g_3, a0_1g_4, a0_1g_5, a0_1g_6]))] [] t) (va_A [(a0, .inr (7, [a0g_0, .ref a0_1, a0g_2, a0g_3, a0g_4, a0g_5, a0g_6, .ref a0_7, .int a0_8, a0g_9, a0g_10])), (a0_7, .inr (0, [.int a0_7_0, a0_7g_1, a0_7g_2, a0_7g_3, a0_7g_4, .int a0_7_5, .int a0_7_6, a0_7g_7, a0_7g_8, a0_7g_9, a0_7g_10, a0_7g_11, a0_7g_12, a0_7g_13, a0_7g_14])), (a0_1, .inr (5, [a0_1g_0, .int a0_1_1, a0_1g_2, a0_1g_3, a0_1g_4, a0_1g_5, a0_1g_6]))] sz)) 0 0 (va_A [(a0, .inr (7, [a0g_0, .ref a0_1, a0g_2, a0g_3, a0g_4, a0g_5, a0g_6, .ref a0_7, .int a0_8, a0g_9, a0g_10])), (a0_7, .inr (0, [.int a0_7_0, a0_7g_1, a0_7g_2, a0_7g_3, a0_7g_4, .int a0_7_5, .int a0_7_6, a0_7g_7, a0_7g_8, a0_7g_9, a0_7g_10, a0_7g_11, a0_7g_12, a0_7g_13, a0_7g_14])), (a0_1, .inr (5, [a0_1g_0, .int a0_1_1, a0_1g_2, a0_1g_3, a0_1g_4, a0_1g_5, a0_1g_6]))] sz) := by
  refine Met.ofW (cc := cX7_settles) (maxL := 3) (ret := (some .int)) (by decide) rfl ?_
  intro p e s m args below meth c s₁ B hml hv
  obtain ⟨rfl, hsz, hP, hK, hD0, hE⟩ := hv
  have hx := B.exec
  have hb := B.bytes
  have hr := B.returns
  have hts := atoms_spec (ws := wsX7_settles) B.pre
  have hown : s.vm.findClass RX7 = some m.cls := findClass_of_methodNamed B.named
  have hlocks := B.notSynchronized
  subst hsz
  have hD := hD0.self (sz := s.heap.size)
  generalize hAe : va_A [(a0, .inr (7, [a0g_0, .ref a0_1, a0g_2, a0g_3, a0g_4, a0g_5, a0g_6, .ref a0_7, .int a0_8, a0g_9, a0g_10])), (a0_7, .inr (0, [.int a0_7_0, a0_7g_1, a0_7g_2, a0_7g_3, a0_7g_4, .int a0_7_5, .int a0_7_6, a0_7g_7, a0_7g_8, a0_7g_9, a0_7g_10, a0_7g_11, a0_7g_12, a0_7g_13, a0_7g_14])), (a0_1, .inr (5, [a0_1g_0, .int a0_1_1, a0_1g_2, a0_1g_3, a0_1g_4, a0_1g_5, a0_1g_6]))] s.heap.size = A at hD ⊢
  have hA : ∀ q : Nat, s.heap.size ≤ q → A q := fun q h => by rw [← hAe]; exact Or.inr h
  have hS : va_S A s.heap s.heap [] := va_S.rf
  have hP : va_P (dC, dI) vwCl [(a0, .inr (7, [a0g_0, .ref a0_1, a0g_2, a0g_3, a0g_4, a0g_5, a0g_6, .ref a0_7, .int a0_8, a0g_9, a0g_10])), (a0_7, .inr (0, [.int a0_7_0, a0_7g_1, a0_7g_2, a0_7g_3, a0_7g_4, .int a0_7_5, .int a0_7_6, a0_7g_7, a0_7g_8, a0_7g_9, a0_7g_10, a0_7g_11, a0_7g_12, a0_7g_13, a0_7g_14])), (a0_1, .inr (5, [a0_1g_0, .int a0_1_1, a0_1g_2, a0_1g_3, a0_1g_4, a0_1g_5, a0_1g_6]))] s.heap := hP
  have hl := lv_entry ([.ref a0]) (n := 3) (Nat.le_of_ble_eq_true rfl)
  rw [lg_entry_eq]
  generalize (lg_sl ([.ref a0]) ++ List.replicate (3 - (lg_sl ([.ref a0])).length) Slot.unset).toArray = ls at hl ⊢
  have hl : lv_has ls 3 [(0, .ref a0)] := hl
  refine ai_open (fun K hK0 => ?_)
  refine (hK0 _ _ _).mpr ?_
  refine lv_aload_n hx hb dX7_settles_0 rfl (lv_at hl 0 rfl) ?_
  obtain ⟨hPc, hDc, hFc, hCc⟩ := zc_cut (wc := [(a0, .inr (7, [a0g_0, .ref a0_1, a0g_2, a0g_3, a0g_4, a0g_5, a0g_6, .ref a0_7, .int a0_8, a0g_9, a0g_10])), (a0_7, .inr (0, [.int a0_7_0, a0_7g_1, a0_7g_2, a0_7g_3, a0_7g_4, .int a0_7_5, .int a0_7_6, a0_7g_7, a0_7g_8, a0_7g_9, a0_7g_10, a0_7g_11, a0_7g_12, a0_7g_13, a0_7g_14]))]) hP hD hS hA [0, 1] (by decide +kernel) rfl
  have hKc := hK.sub (tys' := []) [] rfl
  refine va_calli (va_runV (As := []) (rest := []) ⟨hx, hb, hml, hown, hts⟩ (c_X7_hasGallery l dC dI s.heap.size a0 a0g_0 (.ref a0_1) a0g_2 a0g_3 a0g_4 a0g_5 a0g_6 (.int a0_8) a0g_9 a0g_10 a0_7 a0_7_0 a0_7g_1 a0_7g_2 a0_7g_3 a0_7g_4 (.int a0_7_5) (.int a0_7_6) a0_7g_7 a0_7g_8 a0_7g_9 a0_7g_10 a0_7g_11 a0_7g_12 a0_7g_13 a0_7g_14 ba0_7_0_l ba0_7_0_u) (cwV 0 hts gX7_settles_X7_hasGallery rfl rfl rfl zd_X7_hasGallery ⟨Nat.le_of_ble_eq_true rfl, Nat.le_of_ble_eq_true rfl⟩) ⟨ax_blind (fun _ _ _ _ _ => trivial), zr_7 hKc hPc (q0 := 0) rfl, ax_pre hPc hKc hDc (fun _ _ => trivial)⟩ rfl rfl hl.1 rfl (lv_room (Nat.le_of_ble_eq_true rfl)) dX7_settles_1 ⟨Nat.le_of_ble_eq_true rfl, Nat.le_of_ble_eq_true rfl⟩) hS (fun q _ h => hFc q h) hFc (fun r1 u t H locs ht hvm hw hB hz1 hk1 hS => ?_)
  obtain ⟨hP1, hK1, hD1⟩ := hB
  rw [ht] at hP1
  obtain ⟨hP, hD⟩ := zc_back (w := [(a0, .inr (7, [a0g_0, .ref a0_1, a0g_2, a0g_3, a0g_4, a0g_5, a0g_6, .ref a0_7, .int a0_8, a0g_9, a0g_10])), (a0_7, .inr (0, [.int a0_7_0, a0_7g_1, a0_7g_2, a0_7g_3, a0_7g_4, .int a0_7_5, .int a0_7_6, a0_7g_7, a0_7g_8, a0_7g_9, a0_7g_10, a0_7g_11, a0_7g_12, a0_7g_13, a0_7g_14])), (a0_1, .inr (5, [a0_1g_0, .int a0_1_1, a0_1g_2, a0_1g_3, a0_1g_4, a0_1g_5, a0_1g_6]))]) hP hD hCc hk1 hFc hP1 hD1 [.inr 0, .inr 1, .inl 2] (by decide +kernel) rfl
  rcases hw with hw | hw
  · obtain ⟨hw, h1_0, h1_1⟩ := hw
    subst hw
    have l1k0_a0_7_0 : (1 : Int) ≤ a0_7_0.toInt := h1_0
    have u1k0_a0_7_0 : a0_7_0.toInt ≤ (9 : Int) := ba0_7_0_u
    refine lv_if_ne (tgt := 13) hx hb dX7_settles_4 (by decide) (fun _ => ?_) (fun c4 => absurd c4 (by decide +kernel))
    refine lv_aload_n hx hb dX7_settles_13 rfl (lv_at hl 0 rfl) ?_
    obtain ⟨hPc, hDc, hFc, hCc⟩ := zc_cut (wc := [(a0, .inr (7, [a0g_0, .ref a0_1, a0g_2, a0g_3, a0g_4, a0g_5, a0g_6, .ref a0_7, .int a0_8, a0g_9, a0g_10])), (a0_7, .inr (0, [.int a0_7_0, a0_7g_1, a0_7g_2, a0_7g_3, a0_7g_4, .int a0_7_5, .int a0_7_6, a0_7g_7, a0_7g_8, a0_7g_9, a0_7g_10, a0_7g_11, a0_7g_12, a0_7g_13, a0_7g_14])), (a0_1, .inr (5, [a0_1g_0, .int a0_1_1, a0_1g_2, a0_1g_3, a0_1g_4, a0_1g_5, a0_1g_6]))]) hP hD hS hA [0, 1, 2] (by decide +kernel) rfl
    have hKc := hK.sub (tys' := []) [] rfl
    refine va_calli (va_runV (As := []) (rest := []) ⟨hx, hb, hml, hown, hts⟩ (c_X7_roundLength l dC dI H.size a0 a0g_0 a0g_2 a0g_3 a0g_4 a0g_5 a0g_6 (.int a0_8) a0g_9 a0g_10 a0_1 a0_7 a0_7_0 a0_7g_1 a0_7g_2 a0_7g_3 a0_7g_4 a0_7g_7 a0_7g_8 a0_7g_9 a0_7g_10 a0_7g_11 a0_7g_12 a0_7g_13 a0_7g_14 a0_7_5 a0_7_6 a0_1g_0 a0_1g_2 a0_1g_3 a0_1g_4 a0_1g_5 a0_1g_6 a0_1_1 (Int.le_trans zq4 l1k0_a0_7_0) u1k0_a0_7_0 ba0_7_5_l ba0_7_5_u ba0_7_6_l ba0_7_6_u ba0_1_1_l ba0_1_1_u) (cwV 0 hts gX7_settles_X7_roundLength rfl rfl rfl zd_X7_roundLength ⟨Nat.le_of_ble_eq_true rfl, Nat.le_of_ble_eq_true rfl⟩) ⟨ax_blind (fun _ _ _ _ _ => trivial), zr_7 hKc hPc (q0 := 0) rfl, ax_pre hPc hKc hDc (fun _ _ => trivial)⟩ rfl rfl hl.1 rfl (lv_room (Nat.le_of_ble_eq_true rfl)) dX7_settles_14 ⟨Nat.le_of_ble_eq_true rfl, Nat.le_of_ble_eq_true rfl⟩) hS (fun q _ h => hFc q h) hFc (fun r14 u t H locs ht hvm hw hB hz1 hk1 hS => ?_)
    obtain ⟨hP1, hK1, hD1⟩ := hB
    rw [ht] at hP1
    obtain ⟨hP, hD⟩ := zc_back (w := [(a0, .inr (7, [a0g_0, .ref a0_1, a0g_2, a0g_3, a0g_4, a0g_5, a0g_6, .ref a0_7, .int a0_8, a0g_9, a0g_10])), (a0_7, .inr (0, [.int a0_7_0, a0_7g_1, a0_7g_2, a0_7g_3, a0_7g_4, .int a0_7_5, .int a0_7_6, a0_7g_7, a0_7g_8, a0_7g_9, a0_7g_10, a0_7g_11, a0_7g_12, a0_7g_13, a0_7g_14])), (a0_1, .inr (5, [a0_1g_0, .int a0_1_1, a0_1g_2, a0_1g_3, a0_1g_4, a0_1g_5, a0_1g_6]))]) hP hD hCc hk1 hFc hP1 hD1 [.inr 0, .inr 1, .inr 2] (by decide +kernel) rfl
    have hw : (1 : Int) ≤ r14.toInt ∧ r14.toInt ≤ (9 : Int) := hw
    obtain ⟨h14_0, h14_1⟩ := hw
    refine lv_istore_n (lv' := [(1, .int r14), (0, .ref a0)]) hx hb dX7_settles_17 rfl hl (by decide) rfl (fun ls hl => ?_)
    refine lv_iconst (v := 0) hx hb dX7_settles_18 zk_iconst_0 ?_
    refine lv_istore_n (lv' := [(2, .int 0), (1, .int r14), (0, .ref a0)]) hx hb dX7_settles_19 rfl hl (by decide) rfl (fun ls hl => ?_)
    have J20 : ∀ (n : Nat) (j20l2 : Int32) (H : Heap) (locs : List Loc) (ls : Array Slot), (10 : Int) - j20l2.toInt ≤ (n : Int) → (0 : Int) ≤ j20l2.toInt → j20l2.toInt ≤ (9 : Int) → va_P (dC, dI) vwCl [(a0, .inr (7, [a0g_0, .ref a0_1, a0g_2, a0g_3, a0g_4, a0g_5, a0g_6, .ref a0_7, .int a0_8, a0g_9, a0g_10])), (a0_7, .inr (0, [.int a0_7_0, a0_7g_1, a0_7g_2, a0_7g_3, a0_7g_4, .int a0_7_5, .int a0_7_6, a0_7g_7, a0_7g_8, a0_7g_9, a0_7g_10, a0_7g_11, a0_7g_12, a0_7g_13, a0_7g_14])), (a0_1, .inr (5, [a0_1g_0, .int a0_1_1, a0_1g_2, a0_1g_3, a0_1g_4, a0_1g_5, a0_1g_6]))] H → va_D A [(a0, .inr (7, [a0g_0, .ref a0_1, a0g_2, a0g_3, a0g_4, a0g_5, a0g_6, .ref a0_7, .int a0_8, a0g_9, a0g_10])), (a0_7, .inr (0, [.int a0_7_0, a0_7g_1, a0_7g_2, a0_7g_3, a0_7g_4, .int a0_7_5, .int a0_7_6, a0_7g_7, a0_7g_8, a0_7g_9, a0_7g_10, a0_7g_11, a0_7g_12, a0_7g_13, a0_7g_14])), (a0_1, .inr (5, [a0_1g_0, .int a0_1_1, a0_1g_2, a0_1g_3, a0_1g_4, a0_1g_5, a0_1g_6]))] → va_S A s.heap H locs → lv_has ls 3 [(0, .ref a0), (1, .int r14), (2, .int j20l2)] → K H locs (F0 m 20 ls []) := by
      intro n
      induction n with
      | zero =>
        intro j20l2 H locs ls hm bj20l2_l bj20l2_u hP hD hS hl
        have h8 := ai_min j20l2
        have h9 := ai_max j20l2
        exact absurd hm (by omega)
      | succ n ih20 =>
        intro j20l2 H locs ls hm bj20l2_l bj20l2_u hP hD hS hl
        refine (hK0 _ _ _).mpr ?_
        have hm20 := hm
        refine lv_iload_n hx hb dX7_settles_20 rfl (lv_at hl 2 rfl) ?_
        refine lv_aload_n hx hb dX7_settles_21 rfl (lv_at hl 0 rfl) ?_
        refine va_get (D := (dC, dI)) (ci := 7) (v := .ref a0_7) (C := RX7) (T := TX7) (N := 11) hx hb hts zi_X7_settles_7 hown hK hP 0 rfl rfl 7 (by decide) (hts (.fieldLink RX7 57 "WaxTurns" "hall" "LWaxTurns$Hall;") (zm_X7_settles_r1 (List.mem_of_getElem? (i := 0) rfl))) (fun _ h9 => h9) rfl dX7_settles_22 ?_
        refine va_get (D := (dC, dI)) (ci := 0) (v := .int a0_7_0) (C := RX0) (T := TX0) (N := 15) hx hb hts zi_X7_settles_0 hown hK hP 1 rfl rfl 0 (by decide) (hts (.fieldLink RX7 110 "WaxTurns$Hall" "figures" "I") (zm_X7_settles_r1 (List.mem_of_getElem? (i := 1) rfl))) (fun _ h9 => h9) rfl dX7_settles_25 ?_
        have J52 : ∀ (H : Heap) (locs : List Loc) (ls : Array Slot), va_P (dC, dI) vwCl [(a0, .inr (7, [a0g_0, .ref a0_1, a0g_2, a0g_3, a0g_4, a0g_5, a0g_6, .ref a0_7, .int a0_8, a0g_9, a0g_10])), (a0_7, .inr (0, [.int a0_7_0, a0_7g_1, a0_7g_2, a0_7g_3, a0_7g_4, .int a0_7_5, .int a0_7_6, a0_7g_7, a0_7g_8, a0_7g_9, a0_7g_10, a0_7g_11, a0_7g_12, a0_7g_13, a0_7g_14])), (a0_1, .inr (5, [a0_1g_0, .int a0_1_1, a0_1g_2, a0_1g_3, a0_1g_4, a0_1g_5, a0_1g_6]))] H → va_D A [(a0, .inr (7, [a0g_0, .ref a0_1, a0g_2, a0g_3, a0g_4, a0g_5, a0g_6, .ref a0_7, .int a0_8, a0g_9, a0g_10])), (a0_7, .inr (0, [.int a0_7_0, a0_7g_1, a0_7g_2, a0_7g_3, a0_7g_4, .int a0_7_5, .int a0_7_6, a0_7g_7, a0_7g_8, a0_7g_9, a0_7g_10, a0_7g_11, a0_7g_12, a0_7g_13, a0_7g_14])), (a0_1, .inr (5, [a0_1g_0, .int a0_1_1, a0_1g_2, a0_1g_3, a0_1g_4, a0_1g_5, a0_1g_6]))] → va_S A s.heap H locs → lv_has ls 3 [(0, .ref a0), (2, .int j20l2)] → K H locs (F0 m 52 ls []) := by
          intro  H locs ls   hP hD hS hl
          refine (hK0 _ _ _).mpr ?_
          refine lv_aload_n hx hb dX7_settles_52 rfl (lv_at hl 0 rfl) ?_
          refine lv_iload_n hx hb dX7_settles_53 rfl (lv_at hl 1 rfl) ?_
          obtain ⟨hPc, hDc, hFc, hCc⟩ := zc_cut (wc := [(a0, .inr (7, [a0g_0, .ref a0_1, a0g_2, a0g_3, a0g_4, a0g_5, a0g_6, .ref a0_7, .int a0_8, a0g_9, a0g_10]))]) hP hD hS hA [0] (by decide +kernel) rfl
          have hKc := hK.sub (tys' := []) [] rfl
          refine va_calli (va_runV (As := [.int j20l2]) (rest := []) ⟨hx, hb, hml, hown, hts⟩ (c_X7_answered l dC dI H.size a0 j20l2 a0g_0 (.ref a0_1) a0g_2 a0g_3 a0g_4 a0g_5 a0g_6 (.ref a0_7) a0g_9 a0g_10 a0_8 ) (cwV 1 hts gX7_settles_X7_answered rfl rfl rfl zd_X7_answered ⟨Nat.le_of_ble_eq_true rfl, Nat.le_of_ble_eq_true rfl⟩) ⟨ax_blind (fun _ _ _ _ _ => trivial), zr_7 hKc hPc (q0 := 0) rfl, ax_pre hPc hKc hDc (fun _ _ => trivial)⟩ rfl rfl hl.1 rfl (lv_room (Nat.le_of_ble_eq_true rfl)) dX7_settles_54 ⟨Nat.le_of_ble_eq_true rfl, Nat.le_of_ble_eq_true rfl⟩) hS (fun q _ h => hFc q h) hFc (fun r54 u t H locs ht hvm hw hB hz1 hk1 hS => ?_)
          obtain ⟨v54na0_8, hP1, hK1, hD1⟩ := hB
          rw [ht] at hP1
          obtain ⟨hP, hD⟩ := zc_back (w := [(a0, .inr (7, [a0g_0, .ref a0_1, a0g_2, a0g_3, a0g_4, a0g_5, a0g_6, .ref a0_7, .int v54na0_8, a0g_9, a0g_10])), (a0_7, .inr (0, [.int a0_7_0, a0_7g_1, a0_7g_2, a0_7g_3, a0_7g_4, .int a0_7_5, .int a0_7_6, a0_7g_7, a0_7g_8, a0_7g_9, a0_7g_10, a0_7g_11, a0_7g_12, a0_7g_13, a0_7g_14])), (a0_1, .inr (5, [a0_1g_0, .int a0_1_1, a0_1g_2, a0_1g_3, a0_1g_4, a0_1g_5, a0_1g_6]))]) hP hD hCc hk1 hFc hP1 hD1 [.inr 0, .inl 1, .inl 2] (by decide +kernel) rfl
          have hw : r54 = j20l2 := hw
          have hw := hw.symm
          subst hw
          exact W.iret (v := j20l2) hx hb hr (fun t ht hW => ⟨⟨j20l2, (), rfl, ⟨(Int.le_trans zq69 bj20l2_l), bj20l2_u⟩, v54na0_8, by rw [ht]; exact hP, va_K.moved hW.alike hK, hD⟩, hS.F ht⟩) hS.2.2 dX7_settles_57
        refine lv_icmp_ge (tgt := 52) hx hb dX7_settles_28 (by decide) (fun c28 => ?_) (fun c28 => ?_)
        · have gc28 := ai_le c28
          have u28t_a0_7_0 : a0_7_0.toInt ≤ (9 : Int) := u1k0_a0_7_0
          have l28t_j20l2 : (1 : Int) ≤ j20l2.toInt := Int.le_trans l1k0_a0_7_0 gc28
          exact (hK0 _ _ _).mp (J52  _ _ _   hP hD hS (lv_sub hl [0, 2] rfl))
        · have gc28 := ai_nle c28
          have u28f_j20l2 : j20l2.toInt ≤ (8 : Int) := ai_lthi gc28 u1k0_a0_7_0
          have l28f_a0_7_0 : (1 : Int) ≤ a0_7_0.toInt := l1k0_a0_7_0
          refine lv_aload_n hx hb dX7_settles_31 rfl (lv_at hl 0 rfl) ?_
          refine lv_iload_n hx hb dX7_settles_32 rfl (lv_at hl 2 rfl) ?_
          obtain ⟨hPc, hDc, hFc, hCc⟩ := zc_cut (wc := [(a0, .inr (7, [a0g_0, .ref a0_1, a0g_2, a0g_3, a0g_4, a0g_5, a0g_6, .ref a0_7, .int a0_8, a0g_9, a0g_10])), (a0_7, .inr (0, [.int a0_7_0, a0_7g_1, a0_7g_2, a0_7g_3, a0_7g_4, .int a0_7_5, .int a0_7_6, a0_7g_7, a0_7g_8, a0_7g_9, a0_7g_10, a0_7g_11, a0_7g_12, a0_7g_13, a0_7g_14])), (a0_1, .inr (5, [a0_1g_0, .int a0_1_1, a0_1g_2, a0_1g_3, a0_1g_4, a0_1g_5, a0_1g_6]))]) hP hD hS hA [0, 1, 2] (by decide +kernel) rfl
          have hKc := hK.sub (tys' := []) [] rfl
          refine va_calli (va_runV (As := [.int j20l2]) (rest := []) ⟨hx, hb, hml, hown, hts⟩ (c_X7_turnFromNow l dC dI H.size a0 j20l2 a0g_0 a0g_2 a0g_3 a0g_4 a0g_5 a0g_6 (.int a0_8) a0g_9 a0g_10 a0_1 a0_7 a0_7_0 a0_7g_1 a0_7g_2 a0_7g_3 a0_7g_4 a0_7g_7 a0_7g_8 a0_7g_9 a0_7g_10 a0_7g_11 a0_7g_12 a0_7g_13 a0_7g_14 a0_7_5 a0_7_6 a0_1g_0 a0_1g_2 a0_1g_3 a0_1g_4 a0_1g_5 a0_1g_6 a0_1_1 (Int.le_trans zq4 l28f_a0_7_0) u1k0_a0_7_0 ba0_7_5_l ba0_7_5_u ba0_7_6_l ba0_7_6_u ba0_1_1_l ba0_1_1_u) (cwV 1 hts gX7_settles_X7_turnFromNow rfl rfl rfl zd_X7_turnFromNow ⟨Nat.le_of_ble_eq_true rfl, Nat.le_of_ble_eq_true rfl⟩) ⟨ax_blind (fun _ _ _ _ _ => trivial), zr_7 hKc hPc (q0 := 0) rfl, ax_pre hPc hKc hDc (fun _ _ => trivial)⟩ rfl rfl hl.1 rfl (lv_room (Nat.le_of_ble_eq_true rfl)) dX7_settles_33 ⟨Nat.le_of_ble_eq_true rfl, Nat.le_of_ble_eq_true rfl⟩) hS (fun q _ h => hFc q h) hFc (fun r33 u t H locs ht hvm hw hB hz1 hk1 hS => ?_)
          obtain ⟨hP1, hK1, hD1⟩ := hB
          rw [ht] at hP1
          obtain ⟨hP, hD⟩ := zc_back (w := [(a0, .inr (7, [a0g_0, .ref a0_1, a0g_2, a0g_3, a0g_4, a0g_5, a0g_6, .ref a0_7, .int a0_8, a0g_9, a0g_10])), (a0_7, .inr (0, [.int a0_7_0, a0_7g_1, a0_7g_2, a0_7g_3, a0_7g_4, .int a0_7_5, .int a0_7_6, a0_7g_7, a0_7g_8, a0_7g_9, a0_7g_10, a0_7g_11, a0_7g_12, a0_7g_13, a0_7g_14])), (a0_1, .inr (5, [a0_1g_0, .int a0_1_1, a0_1g_2, a0_1g_3, a0_1g_4, a0_1g_5, a0_1g_6]))]) hP hD hCc hk1 hFc hP1 hD1 [.inr 0, .inr 1, .inr 2] (by decide +kernel) rfl
          have hw : (0 : Int) ≤ r33.toInt ∧ r33.toInt ≤ (8 : Int) := hw
          obtain ⟨h33_0, h33_1⟩ := hw
          refine lv_aload_n hx hb dX7_settles_36 rfl (lv_at hl 0 rfl) ?_
          refine lv_iload_n hx hb dX7_settles_37 rfl (lv_at hl 2 rfl) ?_
          refine lv_iload_n hx hb dX7_settles_38 rfl (lv_at hl 1 rfl) ?_
          refine lv_iadd hx hb dX7_settles_39 ?_
          refine lv_topi (fun x39 ex39 => ?_)
          have qx39 : x39.toInt = j20l2.toInt + r14.toInt := ai_add ex39 ⟨bj20l2_l, u28f_j20l2⟩ ⟨h14_0, h14_1⟩ (by decide) (by decide)
          have bx39 : (1 : Int) ≤ x39.toInt ∧ x39.toInt ≤ 17 := ⟨by rw [qx39]; exact Int.add_le_add bj20l2_l h14_0, by rw [qx39]; exact Int.add_le_add u28f_j20l2 h14_1⟩
          obtain ⟨hPc, hDc, hFc, hCc⟩ := zc_cut (wc := [(a0, .inr (7, [a0g_0, .ref a0_1, a0g_2, a0g_3, a0g_4, a0g_5, a0g_6, .ref a0_7, .int a0_8, a0g_9, a0g_10])), (a0_7, .inr (0, [.int a0_7_0, a0_7g_1, a0_7g_2, a0_7g_3, a0_7g_4, .int a0_7_5, .int a0_7_6, a0_7g_7, a0_7g_8, a0_7g_9, a0_7g_10, a0_7g_11, a0_7g_12, a0_7g_13, a0_7g_14])), (a0_1, .inr (5, [a0_1g_0, .int a0_1_1, a0_1g_2, a0_1g_3, a0_1g_4, a0_1g_5, a0_1g_6]))]) hP hD hS hA [0, 1, 2] (by decide +kernel) rfl
          have hKc := hK.sub (tys' := []) [] rfl
          refine va_calli (va_runV (As := [.int x39]) (rest := [.int r33]) ⟨hx, hb, hml, hown, hts⟩ (c_X7_turnFromNow l dC dI H.size a0 x39 a0g_0 a0g_2 a0g_3 a0g_4 a0g_5 a0g_6 (.int a0_8) a0g_9 a0g_10 a0_1 a0_7 a0_7_0 a0_7g_1 a0_7g_2 a0_7g_3 a0_7g_4 a0_7g_7 a0_7g_8 a0_7g_9 a0_7g_10 a0_7g_11 a0_7g_12 a0_7g_13 a0_7g_14 a0_7_5 a0_7_6 a0_1g_0 a0_1g_2 a0_1g_3 a0_1g_4 a0_1g_5 a0_1g_6 a0_1_1 (Int.le_trans zq4 l28f_a0_7_0) u1k0_a0_7_0 ba0_7_5_l ba0_7_5_u ba0_7_6_l ba0_7_6_u ba0_1_1_l ba0_1_1_u) (cwV 1 hts gX7_settles_X7_turnFromNow rfl rfl rfl zd_X7_turnFromNow ⟨Nat.le_of_ble_eq_true rfl, Nat.le_of_ble_eq_true rfl⟩) ⟨ax_blind (fun _ _ _ _ _ => trivial), zr_7 hKc hPc (q0 := 0) rfl, ax_pre hPc hKc hDc (fun _ _ => trivial)⟩ rfl rfl hl.1 rfl (lv_room (Nat.le_of_ble_eq_true rfl)) dX7_settles_40 ⟨Nat.le_of_ble_eq_true rfl, Nat.le_of_ble_eq_true rfl⟩) hS (fun q _ h => hFc q h) hFc (fun r40 u t H locs ht hvm hw hB hz1 hk1 hS => ?_)
          obtain ⟨hP1, hK1, hD1⟩ := hB
          rw [ht] at hP1
          obtain ⟨hP, hD⟩ := zc_back (w := [(a0, .inr (7, [a0g_0, .ref a0_1, a0g_2, a0g_3, a0g_4, a0g_5, a0g_6, .ref a0_7, .int a0_8, a0g_9, a0g_10])), (a0_7, .inr (0, [.int a0_7_0, a0_7g_1, a0_7g_2, a0_7g_3, a0_7g_4, .int a0_7_5, .int a0_7_6, a0_7g_7, a0_7g_8, a0_7g_9, a0_7g_10, a0_7g_11, a0_7g_12, a0_7g_13, a0_7g_14])), (a0_1, .inr (5, [a0_1g_0, .int a0_1_1, a0_1g_2, a0_1g_3, a0_1g_4, a0_1g_5, a0_1g_6]))]) hP hD hCc hk1 hFc hP1 hD1 [.inr 0, .inr 1, .inr 2] (by decide +kernel) rfl
          have hw : (0 : Int) ≤ r40.toInt ∧ r40.toInt ≤ (8 : Int) := hw
          obtain ⟨h40_0, h40_1⟩ := hw
          refine lv_icmp_eq (tgt := 52) hx hb dX7_settles_43 (by decide) (fun c43 => ?_) (fun c43 => ?_)
          · have gc43 := ai_eq c43
            have u43t_r33 : r33.toInt ≤ (8 : Int) := h33_1
            have l43t_r33 : (0 : Int) ≤ r33.toInt := h33_0
            have u43t_r40 : r40.toInt ≤ (8 : Int) := h40_1
            have l43t_r40 : (0 : Int) ≤ r40.toInt := h40_0
            exact (hK0 _ _ _).mp (J52  _ _ _   hP hD hS (lv_sub hl [0, 2] rfl))
          · have gc43 := ai_ne c43
            obtain ⟨x46, ex46⟩ : ∃ y : Int32, y = j20l2 + Int32.ofInt 1 := ⟨_, rfl⟩
            have qx46 : x46.toInt = j20l2.toInt + 1 := ai_inc ex46 (by decide) (by decide) u28f_j20l2 (by decide)
            have bx46 : (1 : Int) ≤ x46.toInt ∧ x46.toInt ≤ 9 := ⟨by rw [qx46]; exact Int.add_le_add bj20l2_l (Int.le_refl _), by rw [qx46]; exact Int.add_le_add u28f_j20l2 (Int.le_refl _)⟩
            refine lv_iinc (v := x46) (lv' := [(2, .int x46), (0, .ref a0), (1, .int r14)]) hx hb dX7_settles_46 hl (k := 2) rfl ex46.symm (by decide) rfl (fun ls hl => ?_)
            refine lv_goto (tgt := 20) hx hb dX7_settles_49 (by decide) ?_
            exact (hK0 _ _ _).mp (ih20 x46 _ _ _ (by have h0 := qx46; omega) (Int.le_trans zq4 bx46.1) bx46.2 hP hD hS (lv_sub hl [1, 2, 0] rfl))
    exact (hK0 _ _ _).mp (J20 10 0 _ _ _ (by have h1 : (0 : Int) ≤ (0 : Int32).toInt := zq5; have h2 : (0 : Int32).toInt ≤ (0 : Int) := zq6; omega) zq5 (Int.le_trans zq6 zq7) hP hD hS (lv_sub hl [2, 1, 0] rfl))
  · obtain ⟨hw, h1_0, h1_1⟩ := hw
    subst hw
    have l1k1_a0_7_0 : (0 : Int) ≤ a0_7_0.toInt := ba0_7_0_l
    have u1k1_a0_7_0 : a0_7_0.toInt ≤ (0 : Int) := h1_1
    refine lv_if_ne (tgt := 13) hx hb dX7_settles_4 (by decide) (fun c4 => absurd (by decide +kernel) c4) (fun _ => ?_)
    refine lv_aload_n hx hb dX7_settles_7 rfl (lv_at hl 0 rfl) ?_
    refine lv_iconst (v := 1) hx hb dX7_settles_8 zk_iconst_1 ?_
    obtain ⟨hPc, hDc, hFc, hCc⟩ := zc_cut (wc := [(a0, .inr (7, [a0g_0, .ref a0_1, a0g_2, a0g_3, a0g_4, a0g_5, a0g_6, .ref a0_7, .int a0_8, a0g_9, a0g_10]))]) hP hD hS hA [0] (by decide +kernel) rfl
    have hKc := hK.sub (tys' := []) [] rfl
    refine va_calli (va_runV (As := [.int 1]) (rest := []) ⟨hx, hb, hml, hown, hts⟩ (c_X7_refused l dC dI H.size a0 1 a0g_0 (.ref a0_1) a0g_2 a0g_3 a0g_4 a0g_5 a0g_6 (.ref a0_7) a0g_9 a0g_10 a0_8 ) (cwV 1 hts gX7_settles_X7_refused rfl rfl rfl zd_X7_refused ⟨Nat.le_of_ble_eq_true rfl, Nat.le_of_ble_eq_true rfl⟩) ⟨ax_blind (fun _ _ _ _ _ => trivial), zr_7 hKc hPc (q0 := 0) rfl, ax_pre hPc hKc hDc (fun _ _ => trivial)⟩ rfl rfl hl.1 rfl (lv_room (Nat.le_of_ble_eq_true rfl)) dX7_settles_9 ⟨Nat.le_of_ble_eq_true rfl, Nat.le_of_ble_eq_true rfl⟩) hS (fun q _ h => hFc q h) hFc (fun r9 u t H locs ht hvm hw hB hz1 hk1 hS => ?_)
    obtain ⟨v9na0_8, hP1, hK1, hD1⟩ := hB
    rw [ht] at hP1
    obtain ⟨hP, hD⟩ := zc_back (w := [(a0, .inr (7, [a0g_0, .ref a0_1, a0g_2, a0g_3, a0g_4, a0g_5, a0g_6, .ref a0_7, .int v9na0_8, a0g_9, a0g_10])), (a0_7, .inr (0, [.int a0_7_0, a0_7g_1, a0_7g_2, a0_7g_3, a0_7g_4, .int a0_7_5, .int a0_7_6, a0_7g_7, a0_7g_8, a0_7g_9, a0_7g_10, a0_7g_11, a0_7g_12, a0_7g_13, a0_7g_14])), (a0_1, .inr (5, [a0_1g_0, .int a0_1_1, a0_1g_2, a0_1g_3, a0_1g_4, a0_1g_5, a0_1g_6]))]) hP hD hCc hk1 hFc hP1 hD1 [.inr 0, .inl 1, .inl 2] (by decide +kernel) rfl
    have hw : r9 = (-1) := hw
    have hw := hw.symm
    subst hw
    exact W.iret (v := (-1)) hx hb hr (fun t ht hW => ⟨⟨(-1), (), rfl, ⟨zq70, (Int.le_trans zq71 zq77)⟩, v9na0_8, by rw [ht]; exact hP, va_K.moved hW.alike hK, hD⟩, hS.F ht⟩) hS.2.2 dX7_settles_12
