section P260_01_safe
set_option maxHeartbeats 4000000 in
set_option maxRecDepth 100000 in
theorem c_X8_route (l : Launch) (dC : Nat → ClassId) (dI : Nat → Nat → Nat) (sz : Nat) (a0 : Nat) (a1 : Int32) (a2 : Int32) (a0_0 : Int32) (a0g_1 a0g_2 a0g_3 a0g_4 a0g_5 a0g_6 a0g_7 a0g_8 a0g_9 a0g_10 a0g_12 a0g_13 a0g_16 a0g_19 a0g_20 a0g_21 a0g_22 a0g_29 a0g_30 a0g_31 a0g_34 a0g_35 a0g_36 a0g_37 a0g_38 a0g_39 : Value) (a0_11 : Int32) (a0_14 : Int32) (a0_15 : Nat) (a0_17 : Nat) (a0_18 : Nat) (a0_23 : Nat) (a0_24 : Nat) (a0_25 : Int32) (a0_26 : Int32) (a0_27 : Int32) (a0_28 : Int32) (a0_32 : Nat) (a0_33 : Nat) (ka0_15 : ClassId) (fa0_15 : Nat → Int32) (ka0_23 : ClassId) (fa0_23 : Nat → Int32) (ka0_24 : ClassId) (fa0_24 : Nat → Int32) (ka0_17 : ClassId) (fa0_17 : Nat → Int32) (ka0_18 : ClassId) (fa0_18 : Nat → Int32) (ka0_32 : ClassId) (fa0_32 : Nat → Int32) (ka0_33 : ClassId) (fa0_33 : Nat → Int32) (ba0_14_l : (1 : Int) ≤ a0_14.toInt) (ba0_14_u : a0_14.toInt ≤ (1 : Int)) (bfa0_15 : ((∀ k : Nat, 0 ≤ k → k ≤ 0 → (2 : Int) ≤ (fa0_15 k).toInt ∧ (fa0_15 k).toInt ≤ 9) ∧ (∀ k : Nat, 1 ≤ k → k ≤ 1 → (1 : Int) ≤ (fa0_15 k).toInt ∧ (fa0_15 k).toInt ≤ 20) ∧ (∀ k : Nat, 2 ≤ k → k ≤ 2 → (0 : Int) ≤ (fa0_15 k).toInt ∧ (fa0_15 k).toInt ≤ 8) ∧ (∀ k : Nat, 3 ≤ k → k ≤ 3 → (0 : Int) ≤ (fa0_15 k).toInt ∧ (fa0_15 k).toInt ≤ 100) ∧ (∀ k : Nat, 4 ≤ k → k ≤ 4 → (0 : Int) ≤ (fa0_15 k).toInt ∧ (fa0_15 k).toInt ≤ 9) ∧ (∀ k : Nat, 5 ≤ k → k ≤ 5 → (0 : Int) ≤ (fa0_15 k).toInt ∧ (fa0_15 k).toInt ≤ 3) ∧ (∀ k : Nat, 6 ≤ k → k ≤ 6 → (0 : Int) ≤ (fa0_15 k).toInt ∧ (fa0_15 k).toInt ≤ 6) ∧ (∀ k : Nat, 7 ≤ k → k ≤ 9 → (0 : Int) ≤ (fa0_15 k).toInt ∧ (fa0_15 k).toInt ≤ 8) ∧ (∀ k : Nat, 12 ≤ k → k ≤ 29 → (0 : Int) ≤ (fa0_15 k).toInt ∧ (fa0_15 k).toInt ≤ 20) ∧ (∀ k : Nat, 30 ≤ k → k ≤ 35 → (0 : Int) ≤ (fa0_15 k).toInt ∧ (fa0_15 k).toInt ≤ 8) ∧ (∀ k : Nat, 36 ≤ k → k ≤ 47 → (0 : Int) ≤ (fa0_15 k).toInt ∧ (fa0_15 k).toInt ≤ 999))) (bfa0_23 : (∀ k, (0 : Int) ≤ (fa0_23 k).toInt ∧ (fa0_23 k).toInt ≤ 80)) (bfa0_24 : (∀ k, (0 : Int) ≤ (fa0_24 k).toInt ∧ (fa0_24 k).toInt ≤ 80)) (bfa0_17 : ((∀ k : Nat, 0 ≤ k → k ≤ 8 → (0 : Int) ≤ (fa0_17 k).toInt ∧ (fa0_17 k).toInt ≤ 8) ∧ (∀ k : Nat, 19 ≤ k → k ≤ 19 → (0 : Int) ≤ (fa0_17 k).toInt ∧ (fa0_17 k).toInt ≤ 8) ∧ (∀ k : Nat, 20 ≤ k → k ≤ 20 → (0 : Int) ≤ (fa0_17 k).toInt ∧ (fa0_17 k).toInt ≤ 19))) (bfa0_18 : ((∀ k : Nat, 0 ≤ k → k ≤ 8 → (0 : Int) ≤ (fa0_18 k).toInt ∧ (fa0_18 k).toInt ≤ 8) ∧ (∀ k : Nat, 19 ≤ k → k ≤ 19 → (0 : Int) ≤ (fa0_18 k).toInt ∧ (fa0_18 k).toInt ≤ 8) ∧ (∀ k : Nat, 20 ≤ k → k ≤ 20 → (0 : Int) ≤ (fa0_18 k).toInt ∧ (fa0_18 k).toInt ≤ 19))) (hkm : ∀ (j i0 i : Int32), (0 : Int) ≤ j.toInt → j.toInt ≤ 8 → i0.toInt = 12 + 2 * j.toInt → i.toInt = 13 + 2 * j.toInt → (fa0_15 i0.toNatClampNeg).toInt = (1 : Int32).toInt → (1 : Int) ≤ (fa0_15 i.toNatClampNeg).toInt) : zm l yX8_route wsX8_route ({ frames := 5, cells := 0, slots := 0, locals := 118 }) [.ref a0, .int a1, .int a2] dC dI sz [(a0, .inr (8, [Value.int a0_0, a0g_1, a0g_2, a0g_3, a0g_4, a0g_5, a0g_6, a0g_7, a0g_8, a0g_9, a0g_10, Value.int a0_11, a0g_12, a0g_13, Value.int a0_14, Value.ref a0_15, a0g_16, Value.ref a0_17, Value.ref a0_18, a0g_19, a0g_20, a0g_21, a0g_22, Value.ref a0_23, Value.ref a0_24, Value.int a0_25, Value.int a0_26, Value.int a0_27, Value.int a0_28, a0g_29, a0g_30, a0g_31, Value.ref a0_32, Value.ref a0_33, a0g_34, a0g_35, a0g_36, a0g_37, a0g_38, a0g_39])), (a0_15, .inl (ka0_15, 156, .inl (fa0_15))), (a0_23, .inl (ka0_23, 3, .inl (fa0_23))), (a0_24, .inl (ka0_24, 3, .inl (fa0_24))), (a0_17, .inl (ka0_17, 23, .inl (fa0_17))), (a0_18, .inl (ka0_18, 23, .inl (fa0_18))), (a0_32, .inl (ka0_32, 61, .inl (fa0_32))), (a0_33, .inl (ka0_33, 620, .inl (fa0_33)))] [(ka0_15, .int), (ka0_23, .int), (ka0_24, .int), (ka0_17, .int), (ka0_18, .int), (ka0_32, .int), (ka0_33, .int)] (fun A _ => True) (fun A => va_Qi (fun (r : Int32) (_ : Unit) => True) (fun (_ : Unit) (t : State) => ∃ na0_0 : Int32, ∃ na0_11 : Int32, ∃ na0_25 : Int32, ∃ na0_26 : Int32, ∃ na0_27 : Int32, ∃ na0_28 : Int32, ∃ nfa0_23 : Nat → Int32, ∃ nfa0_24 : Nat → Int32, ∃ nfa0_18 : Nat → Int32, ∃ nfa0_32 : Nat → Int32, ∃ nfa0_33 : Nat → Int32, (∀ k, (0 : Int) ≤ (nfa0_23 k).toInt ∧ (nfa0_23 k).toInt ≤ 80) ∧ (∀ k, (0 : Int) ≤ (nfa0_24 k).toInt ∧ (nfa0_24 k).toInt ≤ 80) ∧ ((∀ k : Nat, 0 ≤ k → k ≤ 8 → (0 : Int) ≤ (nfa0_18 k).toInt ∧ (nfa0_18 k).toInt ≤ 8) ∧ (∀ k : Nat, 19 ≤ k → k ≤ 19 → (0 : Int) ≤ (nfa0_18 k).toInt ∧ (nfa0_18 k).toInt ≤ 8) ∧ (∀ k : Nat, 20 ≤ k → k ≤ 20 → (0 : Int) ≤ (nfa0_18 k).toInt ∧ (nfa0_18 k).toInt ≤ 19)) ∧ ax_B dC dI A [(a0, .inr (8, [Value.int na0_0, a0g_1, a0g_2, a0g_3, a0g_4, a0g_5, a0g_6, a0g_7, a0g_8, a0g_9, a0g_10, Value.int na0_11, a0g_12, a0g_13, Value.int a0_14, Value.ref a0_15, a0g_16, Value.ref a0_17, Value.ref a0_18, a0g_19, a0g_20, a0g_21, a0g_22, Value.ref a0_23, Value.ref a0_24, Value.int na0_25, Value.int na0_26, Value.int na0_27, Value.int na0_28, a0g_29, a0g_30, a0g_31, Value.ref a0_32, Value.ref a0_33, a0g_34, a0g_35, a0g_36, a0g_37, a0g_38, a0g_39])), (a0_15, .inl (ka0_15, 156, .inl (fa0_15))), (a0_23, .inl (ka0_23, 3, .inl (nfa0_23))), (a0_24, .inl (ka0_24, 3, .inl (nfa0_24))), (a0_17, .inl (ka0_17, 23, .inl (fa0_17))), (a0_18, .inl (ka0_18, 23, .inl (nfa0_18))), (a0_32, .inl (ka0_32, 61, .inl (nfa0_32))), (a0_33, .inl (ka0_33, 620, .inl (nfa0_33)))] [(ka0_15, .int), (ka0_23, .int), (ka0_24, .int), (ka0_17, .int), (ka0_18, .int), (ka0_32, .int), (ka0_33, .int)] t) A) := by
  refine zh (cc := cX8_route) (maxL := 4) (ret := (some .int)) zn_RX8 rfl (Nat.le_of_ble_eq_true rfl) (fun p e s m below meth c A ls hx hb hml hr hts (hown : s.vm.findClass RX8 = some m.cls) hlocks hA hS hP hK hD hE (hl : lv_has ls 4 [(0, .ref a0), (1, .int a1), (2, .int a2)]) => ?_)
  refine lv_aload_n hx hb dX8_route_0 rfl (lv_at hl 0 rfl) ?_
  refine va_callv (va_runV (As := []) (rest := []) ⟨hx, hb, hml, hown, hts⟩ (c_X8_good l dC dI s.heap.size a0 a0_0 a0g_1 a0g_2 a0g_3 a0g_4 a0g_5 a0g_6 a0g_7 a0g_8 a0g_9 a0g_10 a0g_12 a0g_13 (Value.int a0_14) (Value.ref a0_15) a0g_16 (Value.ref a0_17) (Value.ref a0_18) a0g_19 a0g_20 a0g_21 a0g_22 (Value.ref a0_23) (Value.ref a0_24) (Value.int a0_25) (Value.int a0_26) (Value.int a0_27) (Value.int a0_28) a0g_29 a0g_30 a0g_31 (Value.ref a0_32) (Value.ref a0_33) a0g_34 a0g_35 a0g_36 a0g_37 a0g_38 a0g_39 a0_11 ) (cwV 0 hts gX8_route_X8_good rfl rfl rfl zd_X8_good ⟨Nat.le_of_ble_eq_true rfl, Nat.le_of_ble_eq_true rfl⟩) ⟨ax_blind (fun _ _ _ _ _ => trivial), zr_8 (zp_K hK) (zp_P1 hP) (q0 := 0) rfl, ax_pre (zp_P1 hP) (zp_K hK) (zp_D1 hD) (fun _ _ => trivial)⟩ rfl rfl hl.1 rfl (lv_room (Nat.le_of_ble_eq_true rfl)) dX8_route_1 ⟨Nat.le_of_ble_eq_true rfl, Nat.le_of_ble_eq_true rfl⟩) hS (fun q _ h => zp_F1 hD hS hA q h) (zp_F1 hD hS hA) (fun u t H locs ht hvm hw hB hz1 hk1 hS1 => zx_2 hB (fun v1na0_0 v1na0_11 hB => zo1 hB ht hP hD hk1 (zp_F1 hD hS hA) hS1 (fun hP hK1 hD hS => ?_)))
  refine lv_aload_n hx hb dX8_route_4 rfl (lv_at hl 0 rfl) ?_
  refine lv_iload_n hx hb dX8_route_5 rfl (lv_at hl 1 rfl) ?_
  refine lv_iload_n hx hb dX8_route_6 rfl (lv_at hl 2 rfl) ?_
  have hKc := hK.sub (tys' := [(ka0_15, .int)]) [0] rfl
  refine va_calli (va_runV (As := [.int a1, .int a2]) (rest := []) ⟨hx, hb, hml, hown, hts⟩ (c_X8_routeWhy l dC dI H.size a0 a1 a2 (Value.int v1na0_0) a0g_1 a0g_2 a0g_3 a0g_4 a0g_5 a0g_6 a0g_7 a0g_8 a0g_9 a0g_10 (Value.int v1na0_11) a0g_12 a0g_13 a0g_16 (Value.ref a0_17) (Value.ref a0_18) a0g_19 a0g_20 a0g_21 a0g_22 (Value.ref a0_23) (Value.ref a0_24) (Value.int a0_25) (Value.int a0_26) (Value.int a0_27) (Value.int a0_28) a0g_29 a0g_30 a0g_31 (Value.ref a0_32) (Value.ref a0_33) a0g_34 a0g_35 a0g_36 a0g_37 a0g_38 a0g_39 a0_14 a0_15 ka0_15 fa0_15 ba0_14_l ba0_14_u bfa0_15) (cwV 2 hts gX8_route_X8_routeWhy rfl rfl rfl zd_X8_routeWhy ⟨Nat.le_of_ble_eq_true rfl, Nat.le_of_ble_eq_true rfl⟩) ⟨ax_blind (fun _ _ _ _ _ => trivial), zr_8 hKc (zp_P2 hP) (q0 := 0) rfl, ax_pre (zp_P2 hP) hKc (zp_D2 hD) (fun _ _ => trivial)⟩ rfl rfl hl.1 rfl (lv_room (Nat.le_of_ble_eq_true rfl)) dX8_route_7 ⟨Nat.le_of_ble_eq_true rfl, Nat.le_of_ble_eq_true rfl⟩) hS (fun q _ h => zp_F2 hD hS hA q h) (zp_F2 hD hS hA) (fun r7 u t H locs ht hvm hw hB hz1 hk1 hS1 => zo2 hB ht hP hD hk1 (zp_F2 hD hS hA) hS1 (fun hP hK1 hD hS => ?_))
  rcases hw with hw | hw | hw
  · obtain ⟨hw, h7_0, h7_1⟩ := hw
    subst hw
    have l7k0_a1 : (0 : Int) ≤ a1.toInt := h7_0
    have u7k0_a1 : a1.toInt ≤ (8 : Int) := h7_1
    refine lv_istore_n (lv' := [(3, .int 2), (0, .ref a0), (1, .int a1), (2, .int a2)]) hx hb dX8_route_10 rfl hl (by decide) rfl (fun ls hl => ?_)
    refine lv_iload_n hx hb dX8_route_11 rfl (lv_at hl 0 rfl) ?_
    refine lv_if_eq (tgt := 21) hx hb dX8_route_12 (by decide) (fun c12 => absurd c12 (by decide +kernel)) (fun _ => ?_)
    refine lv_aload_n hx hb dX8_route_15 rfl (lv_at hl 1 rfl) ?_
    refine lv_iload_n hx hb dX8_route_16 rfl (lv_at hl 0 rfl) ?_
    refine va_calli (va_runV (As := [.int 2]) (rest := []) ⟨hx, hb, hml, hown, hts⟩ (c_X8_no l dC dI H.size a0 2 (Value.int v1na0_0) a0g_1 a0g_2 a0g_3 a0g_4 a0g_5 a0g_6 a0g_7 a0g_8 a0g_9 a0g_10 a0g_12 a0g_13 (Value.int a0_14) (Value.ref a0_15) a0g_16 (Value.ref a0_17) (Value.ref a0_18) a0g_19 a0g_20 a0g_21 a0g_22 (Value.ref a0_23) (Value.ref a0_24) (Value.int a0_25) (Value.int a0_26) (Value.int a0_27) (Value.int a0_28) a0g_29 a0g_30 a0g_31 (Value.ref a0_32) (Value.ref a0_33) a0g_34 a0g_35 a0g_36 a0g_37 a0g_38 a0g_39 v1na0_11 ) (cwV 1 hts gX8_route_X8_no rfl rfl rfl zd_X8_no ⟨Nat.le_of_ble_eq_true rfl, Nat.le_of_ble_eq_true rfl⟩) ⟨ax_blind (fun _ _ _ _ _ => trivial), zr_8 (zp_K hK) (zp_P1 hP) (q0 := 0) rfl, ax_pre (zp_P1 hP) (zp_K hK) (zp_D1 hD) (fun _ _ => trivial)⟩ rfl rfl hl.1 rfl (lv_room (Nat.le_of_ble_eq_true rfl)) dX8_route_17 ⟨Nat.le_of_ble_eq_true rfl, Nat.le_of_ble_eq_true rfl⟩) hS (fun q _ h => zp_F1 hD hS hA q h) (zp_F1 hD hS hA) (fun r17 u t H locs ht hvm hw hB hz1 hk1 hS1 => zx_1 hB (fun v17na0_11 hB => zo1 hB ht hP hD hk1 (zp_F1 hD hS hA) hS1 (fun hP hK1 hD hS => ?_)))
    have hw : r17 = (-1) := hw
    have hw := hw.symm
    subst hw
    exact W.iret (v := (-1)) hx hb hr (fun t ht hW => ⟨⟨(-1), (), rfl, trivial, v1na0_0, v17na0_11, a0_25, a0_26, a0_27, a0_28, fa0_23, fa0_24, fa0_18, fa0_32, fa0_33, bfa0_23, bfa0_24, bfa0_18, by rw [ht]; exact hP, va_K.moved hW.alike hK, hD⟩, hS.F ht⟩) hS.2.2 dX8_route_20
  · subst hw
    refine lv_istore_n (lv' := [(3, .int 1), (0, .ref a0), (1, .int a1), (2, .int a2)]) hx hb dX8_route_10 rfl hl (by decide) rfl (fun ls hl => ?_)
    refine lv_iload_n hx hb dX8_route_11 rfl (lv_at hl 0 rfl) ?_
    refine lv_if_eq (tgt := 21) hx hb dX8_route_12 (by decide) (fun c12 => absurd c12 (by decide +kernel)) (fun _ => ?_)
    refine lv_aload_n hx hb dX8_route_15 rfl (lv_at hl 1 rfl) ?_
    refine lv_iload_n hx hb dX8_route_16 rfl (lv_at hl 0 rfl) ?_
    refine va_calli (va_runV (As := [.int 1]) (rest := []) ⟨hx, hb, hml, hown, hts⟩ (c_X8_no l dC dI H.size a0 1 (Value.int v1na0_0) a0g_1 a0g_2 a0g_3 a0g_4 a0g_5 a0g_6 a0g_7 a0g_8 a0g_9 a0g_10 a0g_12 a0g_13 (Value.int a0_14) (Value.ref a0_15) a0g_16 (Value.ref a0_17) (Value.ref a0_18) a0g_19 a0g_20 a0g_21 a0g_22 (Value.ref a0_23) (Value.ref a0_24) (Value.int a0_25) (Value.int a0_26) (Value.int a0_27) (Value.int a0_28) a0g_29 a0g_30 a0g_31 (Value.ref a0_32) (Value.ref a0_33) a0g_34 a0g_35 a0g_36 a0g_37 a0g_38 a0g_39 v1na0_11 ) (cwV 1 hts gX8_route_X8_no rfl rfl rfl zd_X8_no ⟨Nat.le_of_ble_eq_true rfl, Nat.le_of_ble_eq_true rfl⟩) ⟨ax_blind (fun _ _ _ _ _ => trivial), zr_8 (zp_K hK) (zp_P1 hP) (q0 := 0) rfl, ax_pre (zp_P1 hP) (zp_K hK) (zp_D1 hD) (fun _ _ => trivial)⟩ rfl rfl hl.1 rfl (lv_room (Nat.le_of_ble_eq_true rfl)) dX8_route_17 ⟨Nat.le_of_ble_eq_true rfl, Nat.le_of_ble_eq_true rfl⟩) hS (fun q _ h => zp_F1 hD hS hA q h) (zp_F1 hD hS hA) (fun r17 u t H locs ht hvm hw hB hz1 hk1 hS1 => zx_1 hB (fun v17na0_11 hB => zo1 hB ht hP hD hk1 (zp_F1 hD hS hA) hS1 (fun hP hK1 hD hS => ?_)))
    have hw : r17 = (-1) := hw
    have hw := hw.symm
    subst hw
    exact W.iret (v := (-1)) hx hb hr (fun t ht hW => ⟨⟨(-1), (), rfl, trivial, v1na0_0, v17na0_11, a0_25, a0_26, a0_27, a0_28, fa0_23, fa0_24, fa0_18, fa0_32, fa0_33, bfa0_23, bfa0_24, bfa0_18, by rw [ht]; exact hP, va_K.moved hW.alike hK, hD⟩, hS.F ht⟩) hS.2.2 dX8_route_20
  · obtain ⟨hw, h7_0, h7_1, h7_2, h7_3⟩ := hw
    subst hw
    have l7k2_a1 : (0 : Int) ≤ a1.toInt := h7_0
    have u7k2_a1 : a1.toInt ≤ (8 : Int) := h7_1
    have l7k2_a2 : (1 : Int) ≤ a2.toInt := h7_2
    have u7k2_a2 : a2.toInt ≤ (60 : Int) := h7_3
    refine lv_istore_n (lv' := [(3, .int 0), (0, .ref a0), (1, .int a1), (2, .int a2)]) hx hb dX8_route_10 rfl hl (by decide) rfl (fun ls hl => ?_)
    refine lv_iload_n hx hb dX8_route_11 rfl (lv_at hl 0 rfl) ?_
    refine lv_if_eq (tgt := 21) hx hb dX8_route_12 (by decide) (fun _ => ?_) (fun c12 => absurd (by decide +kernel) c12)
    refine lv_aload_n hx hb dX8_route_21 rfl (lv_at hl 1 rfl) ?_
    refine lv_iload_n hx hb dX8_route_22 rfl (lv_at hl 3 rfl) ?_
    have hKc := hK.sub (tys' := [(ka0_15, .int), (ka0_23, .int), (ka0_24, .int), (ka0_17, .int), (ka0_18, .int), (ka0_32, .int), (ka0_33, .int)]) [0, 1, 2, 3, 4, 5, 6] rfl
    refine va_callv (va_runV (As := [.int a2]) (rest := []) ⟨hx, hb, hml, hown, hts⟩ (c_X8_layRoute l dC dI H.size a0 a2 (Value.int v1na0_0) a0g_1 a0g_2 a0g_3 a0g_4 a0g_5 a0g_6 a0g_7 a0g_8 a0g_9 a0g_10 (Value.int v1na0_11) a0g_12 a0g_13 (Value.int a0_14) a0g_16 a0g_19 a0g_20 a0g_21 a0g_22 a0g_29 a0g_30 a0g_31 a0g_34 a0g_35 a0g_36 a0g_37 a0g_38 a0g_39 a0_15 a0_17 a0_18 a0_23 a0_24 a0_25 a0_26 a0_27 a0_28 a0_32 a0_33 ka0_15 fa0_15 ka0_23 fa0_23 ka0_24 fa0_24 ka0_17 fa0_17 ka0_18 fa0_18 ka0_32 fa0_32 ka0_33 fa0_33 l7k2_a2 u7k2_a2 bfa0_15 bfa0_23 bfa0_24 bfa0_17 bfa0_18 hkm) (cwV 1 hts gX8_route_X8_layRoute rfl rfl rfl zd_X8_layRoute ⟨Nat.le_of_ble_eq_true rfl, Nat.le_of_ble_eq_true rfl⟩) ⟨ax_blind (fun _ _ _ _ _ => trivial), zr_8 hKc (zp_P8 hP) (q0 := 0) rfl, ax_pre (zp_P8 hP) hKc (zp_D8 hD) (fun _ _ => trivial)⟩ rfl rfl hl.1 rfl (lv_room (Nat.le_of_ble_eq_true rfl)) dX8_route_23 ⟨Nat.le_of_ble_eq_true rfl, Nat.le_of_ble_eq_true rfl⟩) hS (fun q _ h => zp_F8 hD hS hA q h) (zp_F8 hD hS hA) (fun u t H locs ht hvm hw hB hz1 hk1 hS1 => zx_9 hB (fun v23na0_25 v23na0_26 v23na0_27 v23na0_28 v23nfa0_23 v23nfa0_24 v23nfa0_18 v23nfa0_32 v23nfa0_33 hB => zy_3 hB (fun bv23nfa0_23 bv23nfa0_24 bv23nfa0_18 hB => zo8 hB ht hP hD hk1 (zp_F8 hD hS hA) hS1 (fun hP hK1 hD hS => ?_))))
    refine lv_aload_n hx hb dX8_route_26 rfl (lv_at hl 1 rfl) ?_
    refine va_get (D := (dC, dI)) (ci := 8) (v := .ref a0_33) (C := RX8) (T := TX8) (N := 40) hx hb hts zi_X8_route_8 hown hK hP 0 rfl rfl 33 (by decide) (hts (.fieldLink RX8 50 "WaxTurnsModel" "with" "[I") (zm_X8_route_r1 (List.mem_of_getElem? (i := 0) rfl))) (fun _ h9 => h9) rfl dX8_route_27 ?_
    refine lv_iload_n hx hb dX8_route_30 rfl (lv_at hl 2 rfl) ?_
    refine va_iald hx hb hK hP 7 6 rfl rfl (ai_in l7k2_a1 u7k2_a1 (by decide) (by decide)) dX8_route_31 ?_
    refine lv_topi (fun x31 ex31 => ?_)
    exact W.iret (v := x31) hx hb hr (fun t ht hW => ⟨⟨x31, (), rfl, trivial, v1na0_0, v1na0_11, v23na0_25, v23na0_26, v23na0_27, v23na0_28, v23nfa0_23, v23nfa0_24, v23nfa0_18, v23nfa0_32, v23nfa0_33, bv23nfa0_23, bv23nfa0_24, bv23nfa0_18, by rw [ht]; exact hP, va_K.moved hW.alike hK, hD⟩, hS.F ht⟩) hS.2.2 dX8_route_32

set_option maxHeartbeats 4000000 in
set_option maxRecDepth 100000 in
theorem c_X8_stand (l : Launch) (dC : Nat → ClassId) (dI : Nat → Nat → Nat) (sz : Nat) (a0 : Nat) (a1 : Int32) (a0_0 : Int32) (a0g_1 a0g_2 a0g_3 a0g_4 a0g_5 a0g_6 a0g_7 a0g_8 a0g_9 a0g_10 a0g_12 a0g_13 a0g_16 a0g_19 a0g_20 a0g_21 a0g_22 a0g_29 a0g_30 a0g_31 a0g_34 a0g_35 a0g_36 a0g_37 a0g_38 a0g_39 : Value) (a0_11 : Int32) (a0_14 : Int32) (a0_15 : Nat) (a0_17 : Nat) (a0_18 : Nat) (a0_23 : Nat) (a0_24 : Nat) (a0_25 : Int32) (a0_26 : Int32) (a0_27 : Int32) (a0_28 : Int32) (a0_32 : Nat) (a0_33 : Nat) (ka0_15 : ClassId) (fa0_15 : Nat → Int32) (ka0_23 : ClassId) (fa0_23 : Nat → Int32) (ka0_24 : ClassId) (fa0_24 : Nat → Int32) (ka0_17 : ClassId) (fa0_17 : Nat → Int32) (ka0_18 : ClassId) (fa0_18 : Nat → Int32) (ka0_32 : ClassId) (fa0_32 : Nat → Int32) (ka0_33 : ClassId) (fa0_33 : Nat → Int32) (ba0_14_l : (1 : Int) ≤ a0_14.toInt) (ba0_14_u : a0_14.toInt ≤ (1 : Int)) (bfa0_15 : ((∀ k : Nat, 0 ≤ k → k ≤ 0 → (2 : Int) ≤ (fa0_15 k).toInt ∧ (fa0_15 k).toInt ≤ 9) ∧ (∀ k : Nat, 1 ≤ k → k ≤ 1 → (1 : Int) ≤ (fa0_15 k).toInt ∧ (fa0_15 k).toInt ≤ 20) ∧ (∀ k : Nat, 2 ≤ k → k ≤ 2 → (0 : Int) ≤ (fa0_15 k).toInt ∧ (fa0_15 k).toInt ≤ 8) ∧ (∀ k : Nat, 3 ≤ k → k ≤ 3 → (0 : Int) ≤ (fa0_15 k).toInt ∧ (fa0_15 k).toInt ≤ 100) ∧ (∀ k : Nat, 4 ≤ k → k ≤ 4 → (0 : Int) ≤ (fa0_15 k).toInt ∧ (fa0_15 k).toInt ≤ 9) ∧ (∀ k : Nat, 5 ≤ k → k ≤ 5 → (0 : Int) ≤ (fa0_15 k).toInt ∧ (fa0_15 k).toInt ≤ 3) ∧ (∀ k : Nat, 6 ≤ k → k ≤ 6 → (0 : Int) ≤ (fa0_15 k).toInt ∧ (fa0_15 k).toInt ≤ 6) ∧ (∀ k : Nat, 7 ≤ k → k ≤ 9 → (0 : Int) ≤ (fa0_15 k).toInt ∧ (fa0_15 k).toInt ≤ 8) ∧ (∀ k : Nat, 12 ≤ k → k ≤ 29 → (0 : Int) ≤ (fa0_15 k).toInt ∧ (fa0_15 k).toInt ≤ 20) ∧ (∀ k : Nat, 30 ≤ k → k ≤ 35 → (0 : Int) ≤ (fa0_15 k).toInt ∧ (fa0_15 k).toInt ≤ 8) ∧ (∀ k : Nat, 36 ≤ k → k ≤ 47 → (0 : Int) ≤ (fa0_15 k).toInt ∧ (fa0_15 k).toInt ≤ 999))) (bfa0_23 : (∀ k, (0 : Int) ≤ (fa0_23 k).toInt ∧ (fa0_23 k).toInt ≤ 80)) (bfa0_24 : (∀ k, (0 : Int) ≤ (fa0_24 k).toInt ∧ (fa0_24 k).toInt ≤ 80)) (bfa0_17 : ((∀ k : Nat, 0 ≤ k → k ≤ 8 → (0 : Int) ≤ (fa0_17 k).toInt ∧ (fa0_17 k).toInt ≤ 8) ∧ (∀ k : Nat, 19 ≤ k → k ≤ 19 → (0 : Int) ≤ (fa0_17 k).toInt ∧ (fa0_17 k).toInt ≤ 8) ∧ (∀ k : Nat, 20 ≤ k → k ≤ 20 → (0 : Int) ≤ (fa0_17 k).toInt ∧ (fa0_17 k).toInt ≤ 19))) (bfa0_18 : ((∀ k : Nat, 0 ≤ k → k ≤ 8 → (0 : Int) ≤ (fa0_18 k).toInt ∧ (fa0_18 k).toInt ≤ 8) ∧ (∀ k : Nat, 19 ≤ k → k ≤ 19 → (0 : Int) ≤ (fa0_18 k).toInt ∧ (fa0_18 k).toInt ≤ 8) ∧ (∀ k : Nat, 20 ≤ k → k ≤ 20 → (0 : Int) ≤ (fa0_18 k).toInt ∧ (fa0_18 k).toInt ≤ 19))) (hkm : ∀ (j i0 i : Int32), (0 : Int) ≤ j.toInt → j.toInt ≤ 8 → i0.toInt = 12 + 2 * j.toInt → i.toInt = 13 + 2 * j.toInt → (fa0_15 i0.toNatClampNeg).toInt = (1 : Int32).toInt → (1 : Int) ≤ (fa0_15 i.toNatClampNeg).toInt) : zm l yX8_stand wsX8_stand ({ frames := 5, cells := 0, slots := 0, locals := 118 }) [.ref a0, .int a1] dC dI sz [(a0, .inr (8, [Value.int a0_0, a0g_1, a0g_2, a0g_3, a0g_4, a0g_5, a0g_6, a0g_7, a0g_8, a0g_9, a0g_10, Value.int a0_11, a0g_12, a0g_13, Value.int a0_14, Value.ref a0_15, a0g_16, Value.ref a0_17, Value.ref a0_18, a0g_19, a0g_20, a0g_21, a0g_22, Value.ref a0_23, Value.ref a0_24, Value.int a0_25, Value.int a0_26, Value.int a0_27, Value.int a0_28, a0g_29, a0g_30, a0g_31, Value.ref a0_32, Value.ref a0_33, a0g_34, a0g_35, a0g_36, a0g_37, a0g_38, a0g_39])), (a0_15, .inl (ka0_15, 156, .inl (fa0_15))), (a0_23, .inl (ka0_23, 3, .inl (fa0_23))), (a0_24, .inl (ka0_24, 3, .inl (fa0_24))), (a0_17, .inl (ka0_17, 23, .inl (fa0_17))), (a0_18, .inl (ka0_18, 23, .inl (fa0_18))), (a0_32, .inl (ka0_32, 61, .inl (fa0_32))), (a0_33, .inl (ka0_33, 620, .inl (fa0_33)))] [(ka0_15, .int), (ka0_23, .int), (ka0_24, .int), (ka0_17, .int), (ka0_18, .int), (ka0_32, .int), (ka0_33, .int)] (fun A _ => True) (fun A => va_Qi (fun (r : Int32) (_ : Unit) => (-1 : Int) ≤ r.toInt ∧ r.toInt ≤ (8 : Int)) (fun (_ : Unit) (t : State) => ∃ na0_0 : Int32, ∃ na0_11 : Int32, ∃ na0_25 : Int32, ∃ na0_26 : Int32, ∃ na0_27 : Int32, ∃ na0_28 : Int32, ∃ nfa0_23 : Nat → Int32, ∃ nfa0_24 : Nat → Int32, ∃ nfa0_18 : Nat → Int32, ∃ nfa0_32 : Nat → Int32, ∃ nfa0_33 : Nat → Int32, (∀ k, (0 : Int) ≤ (nfa0_23 k).toInt ∧ (nfa0_23 k).toInt ≤ 80) ∧ (∀ k, (0 : Int) ≤ (nfa0_24 k).toInt ∧ (nfa0_24 k).toInt ≤ 80) ∧ ((∀ k : Nat, 0 ≤ k → k ≤ 8 → (0 : Int) ≤ (nfa0_18 k).toInt ∧ (nfa0_18 k).toInt ≤ 8) ∧ (∀ k : Nat, 19 ≤ k → k ≤ 19 → (0 : Int) ≤ (nfa0_18 k).toInt ∧ (nfa0_18 k).toInt ≤ 8) ∧ (∀ k : Nat, 20 ≤ k → k ≤ 20 → (0 : Int) ≤ (nfa0_18 k).toInt ∧ (nfa0_18 k).toInt ≤ 19)) ∧ ax_B dC dI A [(a0, .inr (8, [Value.int na0_0, a0g_1, a0g_2, a0g_3, a0g_4, a0g_5, a0g_6, a0g_7, a0g_8, a0g_9, a0g_10, Value.int na0_11, a0g_12, a0g_13, Value.int a0_14, Value.ref a0_15, a0g_16, Value.ref a0_17, Value.ref a0_18, a0g_19, a0g_20, a0g_21, a0g_22, Value.ref a0_23, Value.ref a0_24, Value.int na0_25, Value.int na0_26, Value.int na0_27, Value.int na0_28, a0g_29, a0g_30, a0g_31, Value.ref a0_32, Value.ref a0_33, a0g_34, a0g_35, a0g_36, a0g_37, a0g_38, a0g_39])), (a0_15, .inl (ka0_15, 156, .inl (fa0_15))), (a0_23, .inl (ka0_23, 3, .inl (nfa0_23))), (a0_24, .inl (ka0_24, 3, .inl (nfa0_24))), (a0_17, .inl (ka0_17, 23, .inl (fa0_17))), (a0_18, .inl (ka0_18, 23, .inl (nfa0_18))), (a0_32, .inl (ka0_32, 61, .inl (nfa0_32))), (a0_33, .inl (ka0_33, 620, .inl (nfa0_33)))] [(ka0_15, .int), (ka0_23, .int), (ka0_24, .int), (ka0_17, .int), (ka0_18, .int), (ka0_32, .int), (ka0_33, .int)] t) A) := by
  refine zh (cc := cX8_stand) (maxL := 5) (ret := (some .int)) zn_RX8 rfl (Nat.le_of_ble_eq_true rfl) (fun p e s m below meth c A ls hx hb hml hr hts (hown : s.vm.findClass RX8 = some m.cls) hlocks hA hS hP hK hD hE (hl : lv_has ls 5 [(0, .ref a0), (1, .int a1)]) => ?_)
  refine ai_open (fun K hK0 => ?_)
  refine (hK0 _ _ _).mpr ?_
  refine lv_aload_n hx hb dX8_stand_0 rfl (lv_at hl 0 rfl) ?_
  refine va_callv (va_runV (As := []) (rest := []) ⟨hx, hb, hml, hown, hts⟩ (c_X8_good l dC dI s.heap.size a0 a0_0 a0g_1 a0g_2 a0g_3 a0g_4 a0g_5 a0g_6 a0g_7 a0g_8 a0g_9 a0g_10 a0g_12 a0g_13 (Value.int a0_14) (Value.ref a0_15) a0g_16 (Value.ref a0_17) (Value.ref a0_18) a0g_19 a0g_20 a0g_21 a0g_22 (Value.ref a0_23) (Value.ref a0_24) (Value.int a0_25) (Value.int a0_26) (Value.int a0_27) (Value.int a0_28) a0g_29 a0g_30 a0g_31 (Value.ref a0_32) (Value.ref a0_33) a0g_34 a0g_35 a0g_36 a0g_37 a0g_38 a0g_39 a0_11 ) (cwV 0 hts gX8_stand_X8_good rfl rfl rfl zd_X8_good ⟨Nat.le_of_ble_eq_true rfl, Nat.le_of_ble_eq_true rfl⟩) ⟨ax_blind (fun _ _ _ _ _ => trivial), zr_8 (zp_K hK) (zp_P1 hP) (q0 := 0) rfl, ax_pre (zp_P1 hP) (zp_K hK) (zp_D1 hD) (fun _ _ => trivial)⟩ rfl rfl hl.1 rfl (lv_room (Nat.le_of_ble_eq_true rfl)) dX8_stand_1 ⟨Nat.le_of_ble_eq_true rfl, Nat.le_of_ble_eq_true rfl⟩) hS (fun q _ h => zp_F1 hD hS hA q h) (zp_F1 hD hS hA) (fun u t H locs ht hvm hw hB hz1 hk1 hS1 => zx_2 hB (fun v1na0_0 v1na0_11 hB => zo1 hB ht hP hD hk1 (zp_F1 hD hS hA) hS1 (fun hP hK1 hD hS => ?_)))
  refine lv_aload_n hx hb dX8_stand_4 rfl (lv_at hl 0 rfl) ?_
  refine lv_aload_n hx hb dX8_stand_5 rfl (lv_at hl 0 rfl) ?_
  refine va_get (D := (dC, dI)) (ci := 8) (v := .int a0_14) (C := RX8) (T := TX8) (N := 40) hx hb hts zi_X8_stand_8 hown hK hP 0 rfl rfl 14 (by decide) (hts (.fieldLink RX8 173 "WaxTurnsModel" "hasGallery" "Z") (zm_X8_stand_r1 (List.mem_of_getElem? (i := 0) rfl))) (fun _ h9 => h9) rfl dX8_stand_6 ?_
  refine lv_iload_n hx hb dX8_stand_9 rfl (lv_at hl 1 rfl) ?_
  refine lv_iconst (v := 1) hx hb dX8_stand_10 zk_iconst_1 ?_
  refine lv_bipush (v := 60) hx hb dX8_stand_11 zk_bipush_60 ?_
  refine va_calli (va_runS (As := [.int a1, .int 1, .int 60]) (rest := [.int a0_14, .ref a0]) ⟨hx, hb, hml, hown, hts⟩ (c_X8_in l dC dI H.size a1 1 60 ) (va_cwS 3 hts gX8_stand_X8_in rfl rfl rfl zd_X8_in.2 ⟨Nat.le_of_ble_eq_true rfl, Nat.le_of_ble_eq_true rfl⟩) ⟨ax_blind (fun _ _ _ _ _ => trivial), ax_pre (zp_P0 hP) (zp_K hK) (zp_D0 hD) (fun _ _ => trivial)⟩ rfl rfl hl.1 rfl (lv_room (Nat.le_of_ble_eq_true rfl)) dX8_stand_13 ⟨Nat.le_of_ble_eq_true rfl, Nat.le_of_ble_eq_true rfl⟩) hS (fun q _ h => zp_F0 hD hS hA q h) (zp_F0 hD hS hA) (fun r13 u t H locs ht hvm hw hB hz1 hk1 hS1 => zo0 hB ht hP hD hk1 (zp_F0 hD hS hA) hS1 (fun hP hK1 hD hS => ?_))
  rcases hw with hw | hw
  · obtain ⟨hw, h13⟩ := hw
    subst hw
    have l13k0_a1 : (1 : Int) ≤ a1.toInt := Int.le_trans zq1 h13.1
    have u13k0_a1 : a1.toInt ≤ (60 : Int) := Int.le_trans h13.2 zq46
    refine va_calli (va_runV (As := [.int a0_14, .int 1]) (rest := []) ⟨hx, hb, hml, hown, hts⟩ (c_X8_whyB l dC dI H.size a0 a0_14 1 (Value.int v1na0_0) a0g_1 a0g_2 a0g_3 a0g_4 a0g_5 a0g_6 a0g_7 a0g_8 a0g_9 a0g_10 (Value.int v1na0_11) a0g_12 a0g_13 (Value.int a0_14) (Value.ref a0_15) a0g_16 (Value.ref a0_17) (Value.ref a0_18) a0g_19 a0g_20 a0g_21 a0g_22 (Value.ref a0_23) (Value.ref a0_24) (Value.int a0_25) (Value.int a0_26) (Value.int a0_27) (Value.int a0_28) a0g_29 a0g_30 a0g_31 (Value.ref a0_32) (Value.ref a0_33) a0g_34 a0g_35 a0g_36 a0g_37 a0g_38 a0g_39 (Int.le_trans zq4 ba0_14_l) ba0_14_u (Int.le_trans zq4 zq1) zq0) (cwV 2 hts gX8_stand_X8_why rfl rfl rfl zd_X8_why ⟨Nat.le_of_ble_eq_true rfl, Nat.le_of_ble_eq_true rfl⟩) ⟨ax_blind (fun _ _ _ _ _ => trivial), zr_8 (zp_K hK) (zp_P1 hP) (q0 := 0) rfl, ax_pre (zp_P1 hP) (zp_K hK) (zp_D1 hD) (fun _ _ => trivial)⟩ rfl rfl hl.1 rfl (lv_room (Nat.le_of_ble_eq_true rfl)) dX8_stand_16 ⟨Nat.le_of_ble_eq_true rfl, Nat.le_of_ble_eq_true rfl⟩) hS (fun q _ h => zp_F1 hD hS hA q h) (zp_F1 hD hS hA) (fun r16 u t H locs ht hvm hw hB hz1 hk1 hS1 => zo1 hB ht hP hD hk1 (zp_F1 hD hS hA) hS1 (fun hP hK1 hD hS => ?_))
    rcases hw with hw | hw | hw
    · obtain ⟨hw, h16_0, h16_1, h16_2, h16_3⟩ := hw
      subst hw
      have l16k0_a0_14 : (1 : Int) ≤ a0_14.toInt := ba0_14_l
      have u16k0_a0_14 : a0_14.toInt ≤ (1 : Int) := ba0_14_u
      exact absurd h16_3 (by decide)
    · obtain ⟨hw, h16_0, h16_1⟩ := hw
      subst hw
      have l16k1_a0_14 : (1 : Int) ≤ a0_14.toInt := ba0_14_l
      have u16k1_a0_14 : a0_14.toInt ≤ (0 : Int) := h16_1
      exact absurd (Int.le_trans l16k1_a0_14 u16k1_a0_14) (by decide)
    · obtain ⟨hw, h16_0, h16_1, h16_2, h16_3⟩ := hw
      subst hw
      have l16k2_a0_14 : (1 : Int) ≤ a0_14.toInt := ba0_14_l
      have u16k2_a0_14 : a0_14.toInt ≤ (1 : Int) := ba0_14_u
      refine lv_istore_n (lv' := [(2, .int 0), (0, .ref a0), (1, .int a1)]) hx hb dX8_stand_19 rfl hl (by decide) rfl (fun ls hl => ?_)
      refine lv_iload_n hx hb dX8_stand_20 rfl (lv_at hl 0 rfl) ?_
      refine lv_if_eq (tgt := 30) hx hb dX8_stand_21 (by decide) (fun _ => ?_) (fun c21 => absurd (by decide +kernel) c21)
      refine lv_aload_n hx hb dX8_stand_30 rfl (lv_at hl 1 rfl) ?_
      refine lv_iload_n hx hb dX8_stand_31 rfl (lv_at hl 2 rfl) ?_
      have hKc := hK.sub (tys' := [(ka0_15, .int), (ka0_23, .int), (ka0_24, .int), (ka0_17, .int), (ka0_18, .int), (ka0_32, .int), (ka0_33, .int)]) [0, 1, 2, 3, 4, 5, 6] rfl
      refine va_callv (va_runV (As := [.int a1]) (rest := []) ⟨hx, hb, hml, hown, hts⟩ (c_X8_layRoute l dC dI H.size a0 a1 (Value.int v1na0_0) a0g_1 a0g_2 a0g_3 a0g_4 a0g_5 a0g_6 a0g_7 a0g_8 a0g_9 a0g_10 (Value.int v1na0_11) a0g_12 a0g_13 (Value.int a0_14) a0g_16 a0g_19 a0g_20 a0g_21 a0g_22 a0g_29 a0g_30 a0g_31 a0g_34 a0g_35 a0g_36 a0g_37 a0g_38 a0g_39 a0_15 a0_17 a0_18 a0_23 a0_24 a0_25 a0_26 a0_27 a0_28 a0_32 a0_33 ka0_15 fa0_15 ka0_23 fa0_23 ka0_24 fa0_24 ka0_17 fa0_17 ka0_18 fa0_18 ka0_32 fa0_32 ka0_33 fa0_33 l13k0_a1 u13k0_a1 bfa0_15 bfa0_23 bfa0_24 bfa0_17 bfa0_18 hkm) (cwV 1 hts gX8_stand_X8_layRoute rfl rfl rfl zd_X8_layRoute ⟨Nat.le_of_ble_eq_true rfl, Nat.le_of_ble_eq_true rfl⟩) ⟨ax_blind (fun _ _ _ _ _ => trivial), zr_8 hKc (zp_P8 hP) (q0 := 0) rfl, ax_pre (zp_P8 hP) hKc (zp_D8 hD) (fun _ _ => trivial)⟩ rfl rfl hl.1 rfl (lv_room (Nat.le_of_ble_eq_true rfl)) dX8_stand_32 ⟨Nat.le_of_ble_eq_true rfl, Nat.le_of_ble_eq_true rfl⟩) hS (fun q _ h => zp_F8 hD hS hA q h) (zp_F8 hD hS hA) (fun u t H locs ht hvm hw hB hz1 hk1 hS1 => zx_9 hB (fun v32na0_25 v32na0_26 v32na0_27 v32na0_28 v32nfa0_23 v32nfa0_24 v32nfa0_18 v32nfa0_32 v32nfa0_33 hB => zy_3 hB (fun bv32nfa0_23 bv32nfa0_24 bv32nfa0_18 hB => zo8 hB ht hP hD hk1 (zp_F8 hD hS hA) hS1 (fun hP hK1 hD hS => ?_))))
      refine lv_iconst (v := 0) hx hb dX8_stand_35 zk_iconst_0 ?_
      refine lv_istore_n (lv' := [(3, .int 0), (2, .int 0), (0, .ref a0), (1, .int a1)]) hx hb dX8_stand_36 rfl hl (by decide) rfl (fun ls hl => ?_)
      refine lv_iconst (v := 1) hx hb dX8_stand_37 zk_iconst_1 ?_
      refine lv_istore (lv' := [(4, .int 1), (3, .int 0), (2, .int 0), (0, .ref a0), (1, .int a1)]) hx hb dX8_stand_38 hl (by decide) rfl (fun ls hl => ?_)
      have J40 : ∀ (n : Nat) (j40l4 : Int32) (j40l3 : Int32) (H : Heap) (locs : List Loc) (ls : Array Slot), (10 : Int) - j40l4.toInt ≤ (n : Int) → (1 : Int) ≤ j40l4.toInt → j40l4.toInt ≤ (9 : Int) → (0 : Int) ≤ j40l3.toInt → j40l3.toInt ≤ (8 : Int) → va_P (dC, dI) vwCl [(a0, .inr (8, [Value.int v1na0_0, a0g_1, a0g_2, a0g_3, a0g_4, a0g_5, a0g_6, a0g_7, a0g_8, a0g_9, a0g_10, Value.int v1na0_11, a0g_12, a0g_13, Value.int a0_14, Value.ref a0_15, a0g_16, Value.ref a0_17, Value.ref a0_18, a0g_19, a0g_20, a0g_21, a0g_22, Value.ref a0_23, Value.ref a0_24, Value.int v32na0_25, Value.int v32na0_26, Value.int v32na0_27, Value.int v32na0_28, a0g_29, a0g_30, a0g_31, Value.ref a0_32, Value.ref a0_33, a0g_34, a0g_35, a0g_36, a0g_37, a0g_38, a0g_39])), (a0_15, .inl (ka0_15, 156, .inl (fa0_15))), (a0_23, .inl (ka0_23, 3, .inl (v32nfa0_23))), (a0_24, .inl (ka0_24, 3, .inl (v32nfa0_24))), (a0_17, .inl (ka0_17, 23, .inl (fa0_17))), (a0_18, .inl (ka0_18, 23, .inl (v32nfa0_18))), (a0_32, .inl (ka0_32, 61, .inl (v32nfa0_32))), (a0_33, .inl (ka0_33, 620, .inl (v32nfa0_33)))] H → va_D A [(a0, .inr (8, [Value.int v1na0_0, a0g_1, a0g_2, a0g_3, a0g_4, a0g_5, a0g_6, a0g_7, a0g_8, a0g_9, a0g_10, Value.int v1na0_11, a0g_12, a0g_13, Value.int a0_14, Value.ref a0_15, a0g_16, Value.ref a0_17, Value.ref a0_18, a0g_19, a0g_20, a0g_21, a0g_22, Value.ref a0_23, Value.ref a0_24, Value.int v32na0_25, Value.int v32na0_26, Value.int v32na0_27, Value.int v32na0_28, a0g_29, a0g_30, a0g_31, Value.ref a0_32, Value.ref a0_33, a0g_34, a0g_35, a0g_36, a0g_37, a0g_38, a0g_39])), (a0_15, .inl (ka0_15, 156, .inl (fa0_15))), (a0_23, .inl (ka0_23, 3, .inl (v32nfa0_23))), (a0_24, .inl (ka0_24, 3, .inl (v32nfa0_24))), (a0_17, .inl (ka0_17, 23, .inl (fa0_17))), (a0_18, .inl (ka0_18, 23, .inl (v32nfa0_18))), (a0_32, .inl (ka0_32, 61, .inl (v32nfa0_32))), (a0_33, .inl (ka0_33, 620, .inl (v32nfa0_33)))] → va_S A s.heap H locs → lv_has ls 5 [(0, .ref a0), (3, .int j40l3), (4, .int j40l4)] → K H locs (F0 m 40 ls []) := by
        intro n
        induction n with
        | zero =>
          intro j40l4 j40l3 H locs ls hm bj40l4_l bj40l4_u bj40l3_l bj40l3_u hP hD hS hl
          have h8 := ai_min j40l4
          have h9 := ai_max j40l4
          exact absurd hm (by omega)
        | succ n ih40 =>
          intro j40l4 j40l3 H locs ls hm bj40l4_l bj40l4_u bj40l3_l bj40l3_u hP hD hS hl
          refine (hK0 _ _ _).mpr ?_
          have hm40 := hm
          refine lv_iload hx hb dX8_stand_40 (lv_at hl 2 rfl) ?_
          refine lv_aload_n hx hb dX8_stand_42 rfl (lv_at hl 0 rfl) ?_
          refine va_get (D := (dC, dI)) (ci := 8) (v := .ref a0_15) (C := RX8) (T := TX8) (N := 40) hx hb hts zi_X8_stand_8 hown hK hP 0 rfl rfl 15 (by decide) (hts (.fieldLink RX8 20 "WaxTurnsModel" "\x72" "[I") (zm_X8_stand_r1 (List.mem_of_getElem? (i := 1) rfl))) (fun _ h9 => h9) rfl dX8_stand_43 ?_
          refine lv_iconst (v := 0) hx hb dX8_stand_46 zk_iconst_0 ?_
          refine va_iald hx hb hK hP 1 0 rfl rfl (by unfold vp_in; decide +kernel) dX8_stand_47 ?_
          refine lv_topi (fun x47 ex47 => ?_)
          have bx47 : (2 : Int) ≤ x47.toInt ∧ x47.toInt ≤ 9 := by rw [ex47]; exact ai_rd bfa0_15.1 zq5 zq6 (by decide) (by decide) (by decide)
          refine lv_icmp_ge (tgt := 76) hx hb dX8_stand_48 (by decide) (fun c48 => ?_) (fun c48 => ?_)
          · have gc48 := ai_le c48
            have u48t_x47 : x47.toInt ≤ (9 : Int) := bx47.2
            have l48t_j40l4 : (2 : Int) ≤ j40l4.toInt := Int.le_trans bx47.1 gc48
            refine lv_iload_n hx hb dX8_stand_76 rfl (lv_at hl 1 rfl) ?_
            exact W.iret (v := j40l3) hx hb hr (fun t ht hW => ⟨⟨j40l3, (), rfl, ⟨(Int.le_trans zq69 bj40l3_l), bj40l3_u⟩, v1na0_0, v1na0_11, v32na0_25, v32na0_26, v32na0_27, v32na0_28, v32nfa0_23, v32nfa0_24, v32nfa0_18, v32nfa0_32, v32nfa0_33, bv32nfa0_23, bv32nfa0_24, bv32nfa0_18, by rw [ht]; exact hP, va_K.moved hW.alike hK, hD⟩, hS.F ht⟩) hS.2.2 dX8_stand_77
          · have gc48 := ai_nle c48
            have u48f_j40l4 : j40l4.toInt ≤ (8 : Int) := ai_lthi gc48 bx47.2
            have l48f_x47 : (2 : Int) ≤ x47.toInt := bx47.1
            refine lv_aload_n hx hb dX8_stand_51 rfl (lv_at hl 0 rfl) ?_
            refine va_get (D := (dC, dI)) (ci := 8) (v := .ref a0_33) (C := RX8) (T := TX8) (N := 40) hx hb hts zi_X8_stand_8 hown hK hP 0 rfl rfl 33 (by decide) (hts (.fieldLink RX8 50 "WaxTurnsModel" "with" "[I") (zm_X8_stand_r1 (List.mem_of_getElem? (i := 2) rfl))) (fun _ h9 => h9) rfl dX8_stand_52 ?_
            refine lv_iload hx hb dX8_stand_55 (lv_at hl 2 rfl) ?_
            refine va_iald hx hb hK hP 7 6 rfl rfl (ai_in bj40l4_l u48f_j40l4 (by decide) (by decide)) dX8_stand_57 ?_
            refine lv_topi (fun x57 ex57 => ?_)
            refine lv_aload_n hx hb dX8_stand_58 rfl (lv_at hl 0 rfl) ?_
            refine va_get (D := (dC, dI)) (ci := 8) (v := .ref a0_33) (C := RX8) (T := TX8) (N := 40) hx hb hts zi_X8_stand_8 hown hK hP 0 rfl rfl 33 (by decide) (hts (.fieldLink RX8 50 "WaxTurnsModel" "with" "[I") (zm_X8_stand_r1 (List.mem_of_getElem? (i := 2) rfl))) (fun _ h9 => h9) rfl dX8_stand_59 ?_
            refine lv_iload_n hx hb dX8_stand_62 rfl (lv_at hl 1 rfl) ?_
            refine va_iald hx hb hK hP 7 6 rfl rfl (ai_in bj40l3_l bj40l3_u (by decide) (by decide)) dX8_stand_63 ?_
            refine lv_topi (fun x63 ex63 => ?_)
            have J70 : ∀ (j70l3 : Int32) (H : Heap) (locs : List Loc) (ls : Array Slot), (0 : Int) ≤ j70l3.toInt → j70l3.toInt ≤ (8 : Int) → va_P (dC, dI) vwCl [(a0, .inr (8, [Value.int v1na0_0, a0g_1, a0g_2, a0g_3, a0g_4, a0g_5, a0g_6, a0g_7, a0g_8, a0g_9, a0g_10, Value.int v1na0_11, a0g_12, a0g_13, Value.int a0_14, Value.ref a0_15, a0g_16, Value.ref a0_17, Value.ref a0_18, a0g_19, a0g_20, a0g_21, a0g_22, Value.ref a0_23, Value.ref a0_24, Value.int v32na0_25, Value.int v32na0_26, Value.int v32na0_27, Value.int v32na0_28, a0g_29, a0g_30, a0g_31, Value.ref a0_32, Value.ref a0_33, a0g_34, a0g_35, a0g_36, a0g_37, a0g_38, a0g_39])), (a0_15, .inl (ka0_15, 156, .inl (fa0_15))), (a0_23, .inl (ka0_23, 3, .inl (v32nfa0_23))), (a0_24, .inl (ka0_24, 3, .inl (v32nfa0_24))), (a0_17, .inl (ka0_17, 23, .inl (fa0_17))), (a0_18, .inl (ka0_18, 23, .inl (v32nfa0_18))), (a0_32, .inl (ka0_32, 61, .inl (v32nfa0_32))), (a0_33, .inl (ka0_33, 620, .inl (v32nfa0_33)))] H → va_D A [(a0, .inr (8, [Value.int v1na0_0, a0g_1, a0g_2, a0g_3, a0g_4, a0g_5, a0g_6, a0g_7, a0g_8, a0g_9, a0g_10, Value.int v1na0_11, a0g_12, a0g_13, Value.int a0_14, Value.ref a0_15, a0g_16, Value.ref a0_17, Value.ref a0_18, a0g_19, a0g_20, a0g_21, a0g_22, Value.ref a0_23, Value.ref a0_24, Value.int v32na0_25, Value.int v32na0_26, Value.int v32na0_27, Value.int v32na0_28, a0g_29, a0g_30, a0g_31, Value.ref a0_32, Value.ref a0_33, a0g_34, a0g_35, a0g_36, a0g_37, a0g_38, a0g_39])), (a0_15, .inl (ka0_15, 156, .inl (fa0_15))), (a0_23, .inl (ka0_23, 3, .inl (v32nfa0_23))), (a0_24, .inl (ka0_24, 3, .inl (v32nfa0_24))), (a0_17, .inl (ka0_17, 23, .inl (fa0_17))), (a0_18, .inl (ka0_18, 23, .inl (v32nfa0_18))), (a0_32, .inl (ka0_32, 61, .inl (v32nfa0_32))), (a0_33, .inl (ka0_33, 620, .inl (v32nfa0_33)))] → va_S A s.heap H locs → lv_has ls 5 [(0, .ref a0), (3, .int j70l3), (4, .int j40l4)] → K H locs (F0 m 70 ls []) := by
              intro j70l3 H locs ls  bj70l3_l bj70l3_u hP hD hS hl
              refine (hK0 _ _ _).mpr ?_
              obtain ⟨x70, ex70⟩ : ∃ y : Int32, y = j40l4 + Int32.ofInt 1 := ⟨_, rfl⟩
              have qx70 : x70.toInt = j40l4.toInt + 1 := ai_inc ex70 (by decide) (by decide) u48f_j40l4 (by decide)
              have bx70 : (2 : Int) ≤ x70.toInt ∧ x70.toInt ≤ 9 := ⟨by rw [qx70]; exact Int.add_le_add bj40l4_l (Int.le_refl _), by rw [qx70]; exact Int.add_le_add u48f_j40l4 (Int.le_refl _)⟩
              refine lv_iinc (v := x70) (lv' := [(4, .int x70), (0, .ref a0), (3, .int j70l3)]) hx hb dX8_stand_70 hl (k := 2) rfl ex70.symm (by decide) rfl (fun ls hl => ?_)
              refine lv_goto (tgt := 40) hx hb dX8_stand_73 (by decide) ?_
              exact (hK0 _ _ _).mp (ih40 x70 j70l3 _ _ _ (by have h0 := qx70; omega) (Int.le_trans zq54 bx70.1) bx70.2 bj70l3_l bj70l3_u hP hD hS (lv_sub hl [1, 2, 0] rfl))
            refine lv_icmp_le (tgt := 70) hx hb dX8_stand_64 (by decide) (fun c64 => ?_) (fun c64 => ?_)
            · have gc64 := ai_le c64
              exact (hK0 _ _ _).mp (J70 j40l3 _ _ _  bj40l3_l bj40l3_u hP hD hS (lv_sub hl [0, 1, 2] rfl))
            · have gc64 := ai_nle c64
              have u64f_x63 : x63.toInt ≤ (2147483646 : Int) := ai_lthi gc64 (ai_max x57)
              have l64f_x57 : (-2147483647 : Int) ≤ x57.toInt := ai_ltlo gc64 (ai_min x63)
              refine lv_iload hx hb dX8_stand_67 (lv_at hl 2 rfl) ?_
              refine lv_istore_n (lv' := [(3, .int j40l4), (0, .ref a0), (4, .int j40l4)]) hx hb dX8_stand_69 rfl hl (by decide) rfl (fun ls hl => ?_)
              exact (hK0 _ _ _).mp (J70 j40l4 _ _ _  (Int.le_trans zq4 bj40l4_l) u48f_j40l4 hP hD hS (lv_sub hl [1, 0, 2] rfl))
      exact (hK0 _ _ _).mp (J40 9 1 0 _ _ _ (by have h1 : (1 : Int) ≤ (1 : Int32).toInt := zq1; have h2 : (1 : Int32).toInt ≤ (1 : Int) := zq0; omega) zq1 (Int.le_trans zq0 zq56) zq5 (Int.le_trans zq6 zq20) hP hD hS (lv_sub hl [3, 1, 0] rfl))
  · obtain ⟨hw, h13⟩ := hw
    subst hw
    refine va_calli (va_runV (As := [.int a0_14, .int 0]) (rest := []) ⟨hx, hb, hml, hown, hts⟩ (c_X8_whyB l dC dI H.size a0 a0_14 0 (Value.int v1na0_0) a0g_1 a0g_2 a0g_3 a0g_4 a0g_5 a0g_6 a0g_7 a0g_8 a0g_9 a0g_10 (Value.int v1na0_11) a0g_12 a0g_13 (Value.int a0_14) (Value.ref a0_15) a0g_16 (Value.ref a0_17) (Value.ref a0_18) a0g_19 a0g_20 a0g_21 a0g_22 (Value.ref a0_23) (Value.ref a0_24) (Value.int a0_25) (Value.int a0_26) (Value.int a0_27) (Value.int a0_28) a0g_29 a0g_30 a0g_31 (Value.ref a0_32) (Value.ref a0_33) a0g_34 a0g_35 a0g_36 a0g_37 a0g_38 a0g_39 (Int.le_trans zq4 ba0_14_l) ba0_14_u zq5 (Int.le_trans zq6 zq4)) (cwV 2 hts gX8_stand_X8_why rfl rfl rfl zd_X8_why ⟨Nat.le_of_ble_eq_true rfl, Nat.le_of_ble_eq_true rfl⟩) ⟨ax_blind (fun _ _ _ _ _ => trivial), zr_8 (zp_K hK) (zp_P1 hP) (q0 := 0) rfl, ax_pre (zp_P1 hP) (zp_K hK) (zp_D1 hD) (fun _ _ => trivial)⟩ rfl rfl hl.1 rfl (lv_room (Nat.le_of_ble_eq_true rfl)) dX8_stand_16 ⟨Nat.le_of_ble_eq_true rfl, Nat.le_of_ble_eq_true rfl⟩) hS (fun q _ h => zp_F1 hD hS hA q h) (zp_F1 hD hS hA) (fun r16 u t H locs ht hvm hw hB hz1 hk1 hS1 => zo1 hB ht hP hD hk1 (zp_F1 hD hS hA) hS1 (fun hP hK1 hD hS => ?_))
    rcases hw with hw | hw | hw
    · obtain ⟨hw, h16_0, h16_1, h16_2, h16_3⟩ := hw
      subst hw
      have l16k0_a0_14 : (1 : Int) ≤ a0_14.toInt := ba0_14_l
      have u16k0_a0_14 : a0_14.toInt ≤ (1 : Int) := ba0_14_u
      refine lv_istore_n (lv' := [(2, .int 2), (0, .ref a0), (1, .int a1)]) hx hb dX8_stand_19 rfl hl (by decide) rfl (fun ls hl => ?_)
      refine lv_iload_n hx hb dX8_stand_20 rfl (lv_at hl 0 rfl) ?_
      refine lv_if_eq (tgt := 30) hx hb dX8_stand_21 (by decide) (fun c21 => absurd c21 (by decide +kernel)) (fun _ => ?_)
      refine lv_aload_n hx hb dX8_stand_24 rfl (lv_at hl 1 rfl) ?_
      refine lv_iload_n hx hb dX8_stand_25 rfl (lv_at hl 0 rfl) ?_
      refine va_calli (va_runV (As := [.int 2]) (rest := []) ⟨hx, hb, hml, hown, hts⟩ (c_X8_no l dC dI H.size a0 2 (Value.int v1na0_0) a0g_1 a0g_2 a0g_3 a0g_4 a0g_5 a0g_6 a0g_7 a0g_8 a0g_9 a0g_10 a0g_12 a0g_13 (Value.int a0_14) (Value.ref a0_15) a0g_16 (Value.ref a0_17) (Value.ref a0_18) a0g_19 a0g_20 a0g_21 a0g_22 (Value.ref a0_23) (Value.ref a0_24) (Value.int a0_25) (Value.int a0_26) (Value.int a0_27) (Value.int a0_28) a0g_29 a0g_30 a0g_31 (Value.ref a0_32) (Value.ref a0_33) a0g_34 a0g_35 a0g_36 a0g_37 a0g_38 a0g_39 v1na0_11 ) (cwV 1 hts gX8_stand_X8_no rfl rfl rfl zd_X8_no ⟨Nat.le_of_ble_eq_true rfl, Nat.le_of_ble_eq_true rfl⟩) ⟨ax_blind (fun _ _ _ _ _ => trivial), zr_8 (zp_K hK) (zp_P1 hP) (q0 := 0) rfl, ax_pre (zp_P1 hP) (zp_K hK) (zp_D1 hD) (fun _ _ => trivial)⟩ rfl rfl hl.1 rfl (lv_room (Nat.le_of_ble_eq_true rfl)) dX8_stand_26 ⟨Nat.le_of_ble_eq_true rfl, Nat.le_of_ble_eq_true rfl⟩) hS (fun q _ h => zp_F1 hD hS hA q h) (zp_F1 hD hS hA) (fun r26 u t H locs ht hvm hw hB hz1 hk1 hS1 => zx_1 hB (fun v26na0_11 hB => zo1 hB ht hP hD hk1 (zp_F1 hD hS hA) hS1 (fun hP hK1 hD hS => ?_)))
      have hw : r26 = (-1) := hw
      have hw := hw.symm
      subst hw
      exact W.iret (v := (-1)) hx hb hr (fun t ht hW => ⟨⟨(-1), (), rfl, ⟨zq70, (Int.le_trans zq71 zq72)⟩, v1na0_0, v26na0_11, a0_25, a0_26, a0_27, a0_28, fa0_23, fa0_24, fa0_18, fa0_32, fa0_33, bfa0_23, bfa0_24, bfa0_18, by rw [ht]; exact hP, va_K.moved hW.alike hK, hD⟩, hS.F ht⟩) hS.2.2 dX8_stand_29
    · obtain ⟨hw, h16_0, h16_1⟩ := hw
      subst hw
      have l16k1_a0_14 : (1 : Int) ≤ a0_14.toInt := ba0_14_l
      have u16k1_a0_14 : a0_14.toInt ≤ (0 : Int) := h16_1
      exact absurd (Int.le_trans l16k1_a0_14 u16k1_a0_14) (by decide)
    · obtain ⟨hw, h16_0, h16_1, h16_2, h16_3⟩ := hw
      subst hw
      have l16k2_a0_14 : (1 : Int) ≤ a0_14.toInt := ba0_14_l
      have u16k2_a0_14 : a0_14.toInt ≤ (1 : Int) := ba0_14_u
      exact absurd h16_2 (by decide)

set_option maxHeartbeats 4000000 in
set_option maxRecDepth 100000 in
theorem c_X8_guard (l : Launch) (dC : Nat → ClassId) (dI : Nat → Nat → Nat) (sz : Nat) (a0 : Nat) (a1 : Int32) (a0_0 : Int32) (a0g_1 a0g_2 a0g_3 a0g_4 a0g_5 a0g_6 a0g_7 a0g_8 a0g_9 a0g_10 a0g_12 a0g_13 a0g_16 a0g_19 a0g_20 a0g_21 a0g_22 a0g_29 a0g_30 a0g_31 a0g_32 a0g_33 a0g_34 a0g_35 a0g_36 a0g_37 a0g_38 a0g_39 : Value) (a0_11 : Int32) (a0_14 : Int32) (a0_15 : Nat) (a0_17 : Nat) (a0_18 : Nat) (a0_23 : Nat) (a0_24 : Nat) (a0_25 : Int32) (a0_26 : Int32) (a0_27 : Int32) (a0_28 : Int32) (ka0_15 : ClassId) (fa0_15 : Nat → Int32) (ka0_23 : ClassId) (fa0_23 : Nat → Int32) (ka0_24 : ClassId) (fa0_24 : Nat → Int32) (ka0_17 : ClassId) (fa0_17 : Nat → Int32) (ka0_18 : ClassId) (fa0_18 : Nat → Int32) (ba0_14_l : (1 : Int) ≤ a0_14.toInt) (ba0_14_u : a0_14.toInt ≤ (1 : Int)) (bfa0_15 : ((∀ k : Nat, 0 ≤ k → k ≤ 0 → (2 : Int) ≤ (fa0_15 k).toInt ∧ (fa0_15 k).toInt ≤ 9) ∧ (∀ k : Nat, 1 ≤ k → k ≤ 1 → (1 : Int) ≤ (fa0_15 k).toInt ∧ (fa0_15 k).toInt ≤ 20) ∧ (∀ k : Nat, 2 ≤ k → k ≤ 2 → (0 : Int) ≤ (fa0_15 k).toInt ∧ (fa0_15 k).toInt ≤ 8) ∧ (∀ k : Nat, 3 ≤ k → k ≤ 3 → (0 : Int) ≤ (fa0_15 k).toInt ∧ (fa0_15 k).toInt ≤ 100) ∧ (∀ k : Nat, 4 ≤ k → k ≤ 4 → (0 : Int) ≤ (fa0_15 k).toInt ∧ (fa0_15 k).toInt ≤ 9) ∧ (∀ k : Nat, 5 ≤ k → k ≤ 5 → (0 : Int) ≤ (fa0_15 k).toInt ∧ (fa0_15 k).toInt ≤ 3) ∧ (∀ k : Nat, 6 ≤ k → k ≤ 6 → (0 : Int) ≤ (fa0_15 k).toInt ∧ (fa0_15 k).toInt ≤ 6) ∧ (∀ k : Nat, 7 ≤ k → k ≤ 9 → (0 : Int) ≤ (fa0_15 k).toInt ∧ (fa0_15 k).toInt ≤ 8) ∧ (∀ k : Nat, 12 ≤ k → k ≤ 29 → (0 : Int) ≤ (fa0_15 k).toInt ∧ (fa0_15 k).toInt ≤ 20) ∧ (∀ k : Nat, 30 ≤ k → k ≤ 35 → (0 : Int) ≤ (fa0_15 k).toInt ∧ (fa0_15 k).toInt ≤ 8) ∧ (∀ k : Nat, 36 ≤ k → k ≤ 47 → (0 : Int) ≤ (fa0_15 k).toInt ∧ (fa0_15 k).toInt ≤ 999))) (bfa0_23 : (∀ k, (0 : Int) ≤ (fa0_23 k).toInt ∧ (fa0_23 k).toInt ≤ 80)) (bfa0_24 : (∀ k, (0 : Int) ≤ (fa0_24 k).toInt ∧ (fa0_24 k).toInt ≤ 80)) (bfa0_17 : ((∀ k : Nat, 0 ≤ k → k ≤ 8 → (0 : Int) ≤ (fa0_17 k).toInt ∧ (fa0_17 k).toInt ≤ 8) ∧ (∀ k : Nat, 19 ≤ k → k ≤ 19 → (0 : Int) ≤ (fa0_17 k).toInt ∧ (fa0_17 k).toInt ≤ 8) ∧ (∀ k : Nat, 20 ≤ k → k ≤ 20 → (0 : Int) ≤ (fa0_17 k).toInt ∧ (fa0_17 k).toInt ≤ 19))) (bfa0_18 : ((∀ k : Nat, 0 ≤ k → k ≤ 8 → (0 : Int) ≤ (fa0_18 k).toInt ∧ (fa0_18 k).toInt ≤ 8) ∧ (∀ k : Nat, 19 ≤ k → k ≤ 19 → (0 : Int) ≤ (fa0_18 k).toInt ∧ (fa0_18 k).toInt ≤ 8) ∧ (∀ k : Nat, 20 ≤ k → k ≤ 20 → (0 : Int) ≤ (fa0_18 k).toInt ∧ (fa0_18 k).toInt ≤ 19))) (hkm : ∀ (j i0 i : Int32), (0 : Int) ≤ j.toInt → j.toInt ≤ 8 → i0.toInt = 12 + 2 * j.toInt → i.toInt = 13 + 2 * j.toInt → (fa0_15 i0.toNatClampNeg).toInt = (1 : Int32).toInt → (1 : Int) ≤ (fa0_15 i.toNatClampNeg).toInt) : zm l yX8_guard wsX8_guard ({ frames := 4, cells := 0, slots := 0, locals := 95 }) [.ref a0, .int a1] dC dI sz [(a0, .inr (8, [Value.int a0_0, a0g_1, a0g_2, a0g_3, a0g_4, a0g_5, a0g_6, a0g_7, a0g_8, a0g_9, a0g_10, Value.int a0_11, a0g_12, a0g_13, Value.int a0_14, Value.ref a0_15, a0g_16, Value.ref a0_17, Value.ref a0_18, a0g_19, a0g_20, a0g_21, a0g_22, Value.ref a0_23, Value.ref a0_24, Value.int a0_25, Value.int a0_26, Value.int a0_27, Value.int a0_28, a0g_29, a0g_30, a0g_31, a0g_32, a0g_33, a0g_34, a0g_35, a0g_36, a0g_37, a0g_38, a0g_39])), (a0_15, .inl (ka0_15, 156, .inl (fa0_15))), (a0_23, .inl (ka0_23, 3, .inl (fa0_23))), (a0_24, .inl (ka0_24, 3, .inl (fa0_24))), (a0_17, .inl (ka0_17, 23, .inl (fa0_17))), (a0_18, .inl (ka0_18, 23, .inl (fa0_18)))] [(ka0_15, .int), (ka0_23, .int), (ka0_24, .int), (ka0_17, .int), (ka0_18, .int)] (fun A _ => True) (fun A => va_Qi (fun (r : Int32) (_ : Unit) => (-2 : Int) ≤ r.toInt ∧ r.toInt ≤ (729 : Int)) (fun (_ : Unit) (t : State) => ∃ na0_0 : Int32, ∃ na0_11 : Int32, ∃ na0_25 : Int32, ∃ na0_26 : Int32, ∃ na0_27 : Int32, ∃ na0_28 : Int32, ∃ nfa0_23 : Nat → Int32, ∃ nfa0_24 : Nat → Int32, ∃ nfa0_18 : Nat → Int32, (∀ k, (0 : Int) ≤ (nfa0_23 k).toInt ∧ (nfa0_23 k).toInt ≤ 80) ∧ (∀ k, (0 : Int) ≤ (nfa0_24 k).toInt ∧ (nfa0_24 k).toInt ≤ 80) ∧ ((∀ k : Nat, 0 ≤ k → k ≤ 8 → (0 : Int) ≤ (nfa0_18 k).toInt ∧ (nfa0_18 k).toInt ≤ 8) ∧ (∀ k : Nat, 19 ≤ k → k ≤ 19 → (0 : Int) ≤ (nfa0_18 k).toInt ∧ (nfa0_18 k).toInt ≤ 8) ∧ (∀ k : Nat, 20 ≤ k → k ≤ 20 → (0 : Int) ≤ (nfa0_18 k).toInt ∧ (nfa0_18 k).toInt ≤ 19)) ∧ ax_B dC dI A [(a0, .inr (8, [Value.int na0_0, a0g_1, a0g_2, a0g_3, a0g_4, a0g_5, a0g_6, a0g_7, a0g_8, a0g_9, a0g_10, Value.int na0_11, a0g_12, a0g_13, Value.int a0_14, Value.ref a0_15, a0g_16, Value.ref a0_17, Value.ref a0_18, a0g_19, a0g_20, a0g_21, a0g_22, Value.ref a0_23, Value.ref a0_24, Value.int na0_25, Value.int na0_26, Value.int na0_27, Value.int na0_28, a0g_29, a0g_30, a0g_31, a0g_32, a0g_33, a0g_34, a0g_35, a0g_36, a0g_37, a0g_38, a0g_39])), (a0_15, .inl (ka0_15, 156, .inl (fa0_15))), (a0_23, .inl (ka0_23, 3, .inl (nfa0_23))), (a0_24, .inl (ka0_24, 3, .inl (nfa0_24))), (a0_17, .inl (ka0_17, 23, .inl (fa0_17))), (a0_18, .inl (ka0_18, 23, .inl (nfa0_18)))] [(ka0_15, .int), (ka0_23, .int), (ka0_24, .int), (ka0_17, .int), (ka0_18, .int)] t) A) := by
  refine zh (cc := cX8_guard) (maxL := 6) (ret := (some .int)) zn_RX8 rfl (Nat.le_of_ble_eq_true rfl) (fun p e s m below meth c A ls hx hb hml hr hts (hown : s.vm.findClass RX8 = some m.cls) hlocks hA hS hP hK hD hE (hl : lv_has ls 6 [(0, .ref a0), (1, .int a1)]) => ?_)
  refine ai_open (fun K hK0 => ?_)
  refine (hK0 _ _ _).mpr ?_
  refine lv_aload_n hx hb dX8_guard_0 rfl (lv_at hl 0 rfl) ?_
  refine va_callv (va_runV (As := []) (rest := []) ⟨hx, hb, hml, hown, hts⟩ (c_X8_good l dC dI s.heap.size a0 a0_0 a0g_1 a0g_2 a0g_3 a0g_4 a0g_5 a0g_6 a0g_7 a0g_8 a0g_9 a0g_10 a0g_12 a0g_13 (Value.int a0_14) (Value.ref a0_15) a0g_16 (Value.ref a0_17) (Value.ref a0_18) a0g_19 a0g_20 a0g_21 a0g_22 (Value.ref a0_23) (Value.ref a0_24) (Value.int a0_25) (Value.int a0_26) (Value.int a0_27) (Value.int a0_28) a0g_29 a0g_30 a0g_31 a0g_32 a0g_33 a0g_34 a0g_35 a0g_36 a0g_37 a0g_38 a0g_39 a0_11 ) (cwV 0 hts gX8_guard_X8_good rfl rfl rfl zd_X8_good ⟨Nat.le_of_ble_eq_true rfl, Nat.le_of_ble_eq_true rfl⟩) ⟨ax_blind (fun _ _ _ _ _ => trivial), zr_8 (zp_K hK) (zp_P1 hP) (q0 := 0) rfl, ax_pre (zp_P1 hP) (zp_K hK) (zp_D1 hD) (fun _ _ => trivial)⟩ rfl rfl hl.1 rfl (lv_room (Nat.le_of_ble_eq_true rfl)) dX8_guard_1 ⟨Nat.le_of_ble_eq_true rfl, Nat.le_of_ble_eq_true rfl⟩) hS (fun q _ h => zp_F1 hD hS hA q h) (zp_F1 hD hS hA) (fun u t H locs ht hvm hw hB hz1 hk1 hS1 => zx_2 hB (fun v1na0_0 v1na0_11 hB => zo1 hB ht hP hD hk1 (zp_F1 hD hS hA) hS1 (fun hP hK1 hD hS => ?_)))
  refine lv_aload_n hx hb dX8_guard_4 rfl (lv_at hl 0 rfl) ?_
  refine lv_aload_n hx hb dX8_guard_5 rfl (lv_at hl 0 rfl) ?_
  refine va_get (D := (dC, dI)) (ci := 8) (v := .int a0_14) (C := RX8) (T := TX8) (N := 40) hx hb hts zi_X8_guard_8 hown hK hP 0 rfl rfl 14 (by decide) (hts (.fieldLink RX8 173 "WaxTurnsModel" "hasGallery" "Z") (zm_X8_guard_r1 (List.mem_of_getElem? (i := 0) rfl))) (fun _ h9 => h9) rfl dX8_guard_6 ?_
  refine lv_iload_n hx hb dX8_guard_9 rfl (lv_at hl 1 rfl) ?_
  refine lv_iconst (v := 1) hx hb dX8_guard_10 zk_iconst_1 ?_
  refine lv_bipush (v := 60) hx hb dX8_guard_11 zk_bipush_60 ?_
  refine va_calli (va_runS (As := [.int a1, .int 1, .int 60]) (rest := [.int a0_14, .ref a0]) ⟨hx, hb, hml, hown, hts⟩ (c_X8_in l dC dI H.size a1 1 60 ) (va_cwS 3 hts gX8_guard_X8_in rfl rfl rfl zd_X8_in.2 ⟨Nat.le_of_ble_eq_true rfl, Nat.le_of_ble_eq_true rfl⟩) ⟨ax_blind (fun _ _ _ _ _ => trivial), ax_pre (zp_P0 hP) (zp_K hK) (zp_D0 hD) (fun _ _ => trivial)⟩ rfl rfl hl.1 rfl (lv_room (Nat.le_of_ble_eq_true rfl)) dX8_guard_13 ⟨Nat.le_of_ble_eq_true rfl, Nat.le_of_ble_eq_true rfl⟩) hS (fun q _ h => zp_F0 hD hS hA q h) (zp_F0 hD hS hA) (fun r13 u t H locs ht hvm hw hB hz1 hk1 hS1 => zo0 hB ht hP hD hk1 (zp_F0 hD hS hA) hS1 (fun hP hK1 hD hS => ?_))
  rcases hw with hw | hw
  · obtain ⟨hw, h13⟩ := hw
    subst hw
    have l13k0_a1 : (1 : Int) ≤ a1.toInt := Int.le_trans zq1 h13.1
    have u13k0_a1 : a1.toInt ≤ (60 : Int) := Int.le_trans h13.2 zq46
    refine va_calli (va_runV (As := [.int a0_14, .int 1]) (rest := []) ⟨hx, hb, hml, hown, hts⟩ (c_X8_whyB l dC dI H.size a0 a0_14 1 (Value.int v1na0_0) a0g_1 a0g_2 a0g_3 a0g_4 a0g_5 a0g_6 a0g_7 a0g_8 a0g_9 a0g_10 (Value.int v1na0_11) a0g_12 a0g_13 (Value.int a0_14) (Value.ref a0_15) a0g_16 (Value.ref a0_17) (Value.ref a0_18) a0g_19 a0g_20 a0g_21 a0g_22 (Value.ref a0_23) (Value.ref a0_24) (Value.int a0_25) (Value.int a0_26) (Value.int a0_27) (Value.int a0_28) a0g_29 a0g_30 a0g_31 a0g_32 a0g_33 a0g_34 a0g_35 a0g_36 a0g_37 a0g_38 a0g_39 (Int.le_trans zq4 ba0_14_l) ba0_14_u (Int.le_trans zq4 zq1) zq0) (cwV 2 hts gX8_guard_X8_why rfl rfl rfl zd_X8_why ⟨Nat.le_of_ble_eq_true rfl, Nat.le_of_ble_eq_true rfl⟩) ⟨ax_blind (fun _ _ _ _ _ => trivial), zr_8 (zp_K hK) (zp_P1 hP) (q0 := 0) rfl, ax_pre (zp_P1 hP) (zp_K hK) (zp_D1 hD) (fun _ _ => trivial)⟩ rfl rfl hl.1 rfl (lv_room (Nat.le_of_ble_eq_true rfl)) dX8_guard_16 ⟨Nat.le_of_ble_eq_true rfl, Nat.le_of_ble_eq_true rfl⟩) hS (fun q _ h => zp_F1 hD hS hA q h) (zp_F1 hD hS hA) (fun r16 u t H locs ht hvm hw hB hz1 hk1 hS1 => zo1 hB ht hP hD hk1 (zp_F1 hD hS hA) hS1 (fun hP hK1 hD hS => ?_))
    rcases hw with hw | hw | hw
    · obtain ⟨hw, h16_0, h16_1, h16_2, h16_3⟩ := hw
      subst hw
      have l16k0_a0_14 : (1 : Int) ≤ a0_14.toInt := ba0_14_l
      have u16k0_a0_14 : a0_14.toInt ≤ (1 : Int) := ba0_14_u
      exact absurd h16_3 (by decide)
    · obtain ⟨hw, h16_0, h16_1⟩ := hw
      subst hw
      have l16k1_a0_14 : (1 : Int) ≤ a0_14.toInt := ba0_14_l
      have u16k1_a0_14 : a0_14.toInt ≤ (0 : Int) := h16_1
      exact absurd (Int.le_trans l16k1_a0_14 u16k1_a0_14) (by decide)
    · obtain ⟨hw, h16_0, h16_1, h16_2, h16_3⟩ := hw
      subst hw
      have l16k2_a0_14 : (1 : Int) ≤ a0_14.toInt := ba0_14_l
      have u16k2_a0_14 : a0_14.toInt ≤ (1 : Int) := ba0_14_u
      refine lv_istore_n (lv' := [(2, .int 0), (0, .ref a0), (1, .int a1)]) hx hb dX8_guard_19 rfl hl (by decide) rfl (fun ls hl => ?_)
      refine lv_iload_n hx hb dX8_guard_20 rfl (lv_at hl 0 rfl) ?_
      refine lv_if_eq (tgt := 30) hx hb dX8_guard_21 (by decide) (fun _ => ?_) (fun c21 => absurd (by decide +kernel) c21)
      refine lv_bipush (v := (-2)) hx hb dX8_guard_30 zk_bipush_n2 ?_
      refine lv_istore_n (lv' := [(3, .int (-2)), (2, .int 0), (0, .ref a0), (1, .int a1)]) hx hb dX8_guard_32 rfl hl (by decide) rfl (fun ls hl => ?_)
      refine lv_iconst (v := 0) hx hb dX8_guard_33 zk_iconst_0 ?_
      refine lv_istore (lv' := [(4, .int 0), (3, .int (-2)), (2, .int 0), (0, .ref a0), (1, .int a1)]) hx hb dX8_guard_34 hl (by decide) rfl (fun ls hl => ?_)
      have J36 : ∀ (n : Nat) (j36l4 : Int32) (j36l3 : Int32) (j36a0_25 : Int32) (j36a0_26 : Int32) (j36a0_27 : Int32) (j36a0_28 : Int32) (j36a0_23_a : Nat → Int32) (j36a0_24_a : Nat → Int32) (j36a0_18_a : Nat → Int32) (H : Heap) (locs : List Loc) (ls : Array Slot), (730 : Int) - j36l4.toInt ≤ (n : Int) → (0 : Int) ≤ j36l4.toInt → j36l4.toInt ≤ (729 : Int) → (-2 : Int) ≤ j36l3.toInt → j36l3.toInt ≤ (729 : Int) → (∀ k, (0 : Int) ≤ (j36a0_23_a k).toInt ∧ (j36a0_23_a k).toInt ≤ 80) → (∀ k, (0 : Int) ≤ (j36a0_24_a k).toInt ∧ (j36a0_24_a k).toInt ≤ 80) → ((∀ k : Nat, 0 ≤ k → k ≤ 8 → (0 : Int) ≤ (j36a0_18_a k).toInt ∧ (j36a0_18_a k).toInt ≤ 8) ∧ (∀ k : Nat, 19 ≤ k → k ≤ 19 → (0 : Int) ≤ (j36a0_18_a k).toInt ∧ (j36a0_18_a k).toInt ≤ 8) ∧ (∀ k : Nat, 20 ≤ k → k ≤ 20 → (0 : Int) ≤ (j36a0_18_a k).toInt ∧ (j36a0_18_a k).toInt ≤ 19)) → va_P (dC, dI) vwCl [(a0, .inr (8, [Value.int v1na0_0, a0g_1, a0g_2, a0g_3, a0g_4, a0g_5, a0g_6, a0g_7, a0g_8, a0g_9, a0g_10, Value.int v1na0_11, a0g_12, a0g_13, Value.int a0_14, Value.ref a0_15, a0g_16, Value.ref a0_17, Value.ref a0_18, a0g_19, a0g_20, a0g_21, a0g_22, Value.ref a0_23, Value.ref a0_24, Value.int j36a0_25, Value.int j36a0_26, Value.int j36a0_27, Value.int j36a0_28, a0g_29, a0g_30, a0g_31, a0g_32, a0g_33, a0g_34, a0g_35, a0g_36, a0g_37, a0g_38, a0g_39])), (a0_15, .inl (ka0_15, 156, .inl (fa0_15))), (a0_23, .inl (ka0_23, 3, .inl (j36a0_23_a))), (a0_24, .inl (ka0_24, 3, .inl (j36a0_24_a))), (a0_17, .inl (ka0_17, 23, .inl (fa0_17))), (a0_18, .inl (ka0_18, 23, .inl (j36a0_18_a)))] H → va_D A [(a0, .inr (8, [Value.int v1na0_0, a0g_1, a0g_2, a0g_3, a0g_4, a0g_5, a0g_6, a0g_7, a0g_8, a0g_9, a0g_10, Value.int v1na0_11, a0g_12, a0g_13, Value.int a0_14, Value.ref a0_15, a0g_16, Value.ref a0_17, Value.ref a0_18, a0g_19, a0g_20, a0g_21, a0g_22, Value.ref a0_23, Value.ref a0_24, Value.int j36a0_25, Value.int j36a0_26, Value.int j36a0_27, Value.int j36a0_28, a0g_29, a0g_30, a0g_31, a0g_32, a0g_33, a0g_34, a0g_35, a0g_36, a0g_37, a0g_38, a0g_39])), (a0_15, .inl (ka0_15, 156, .inl (fa0_15))), (a0_23, .inl (ka0_23, 3, .inl (j36a0_23_a))), (a0_24, .inl (ka0_24, 3, .inl (j36a0_24_a))), (a0_17, .inl (ka0_17, 23, .inl (fa0_17))), (a0_18, .inl (ka0_18, 23, .inl (j36a0_18_a)))] → va_S A s.heap H locs → lv_has ls 6 [(0, .ref a0), (1, .int a1), (3, .int j36l3), (4, .int j36l4)] → K H locs (F0 m 36 ls []) := by
        intro n
        induction n with
        | zero =>
          intro j36l4 j36l3 j36a0_25 j36a0_26 j36a0_27 j36a0_28 j36a0_23_a j36a0_24_a j36a0_18_a H locs ls hm bj36l4_l bj36l4_u bj36l3_l bj36l3_u bj36a0_23_a bj36a0_24_a bj36a0_18_a hP hD hS hl
          have h8 := ai_min j36l4
          have h9 := ai_max j36l4
          exact absurd hm (by omega)
        | succ n ih36 =>
          intro j36l4 j36l3 j36a0_25 j36a0_26 j36a0_27 j36a0_28 j36a0_23_a j36a0_24_a j36a0_18_a H locs ls hm bj36l4_l bj36l4_u bj36l3_l bj36l3_u bj36a0_23_a bj36a0_24_a bj36a0_18_a hP hD hS hl
          refine (hK0 _ _ _).mpr ?_
          have hm36 := hm
          refine lv_iload hx hb dX8_guard_36 (lv_at hl 3 rfl) ?_
          refine lv_iconst (v := 1) hx hb dX8_guard_38 zk_iconst_1 ?_
          refine lv_aload_n hx hb dX8_guard_39 rfl (lv_at hl 0 rfl) ?_
          refine va_get (D := (dC, dI)) (ci := 8) (v := .ref a0_15) (C := RX8) (T := TX8) (N := 40) hx hb hts zi_X8_guard_8 hown hK hP 0 rfl rfl 15 (by decide) (hts (.fieldLink RX8 20 "WaxTurnsModel" "\x72" "[I") (zm_X8_guard_r1 (List.mem_of_getElem? (i := 1) rfl))) (fun _ h9 => h9) rfl dX8_guard_40 ?_
          refine lv_iconst (v := 0) hx hb dX8_guard_43 zk_iconst_0 ?_
          refine va_iald hx hb hK hP 1 0 rfl rfl (by unfold vp_in; decide +kernel) dX8_guard_44 ?_
          refine lv_topi (fun x44 ex44 => ?_)
          have bx44 : (2 : Int) ≤ x44.toInt ∧ x44.toInt ≤ 9 := by rw [ex44]; exact ai_rd bfa0_15.1 zq5 zq6 (by decide) (by decide) (by decide)
          refine lv_ishl hx hb dX8_guard_45 ?_
          refine lv_topi (fun x45 ex45 => ?_)
          have bx45 : (1 : Int) ≤ x45.toInt ∧ x45.toInt ≤ 512 := sh_1 ex45 (Int.le_trans zq50 bx44.1) bx44.2
          refine lv_icmp_ge (tgt := 127) hx hb dX8_guard_46 (by decide) (fun c46 => ?_) (fun c46 => ?_)
          · have gc46 := ai_le c46
            have u46t_x45 : x45.toInt ≤ (512 : Int) := bx45.2
            have l46t_j36l4 : (1 : Int) ≤ j36l4.toInt := Int.le_trans bx45.1 gc46
            refine lv_aload_n hx hb dX8_guard_127 rfl (lv_at hl 0 rfl) ?_
            refine lv_iconst (v := 0) hx hb dX8_guard_128 zk_iconst_0 ?_
            refine va_put (D := (dC, dI)) (ci := 8) (v := .int 0) (ty := .int) (C := RX8) (T := TX8) (N := 40) hx hb hts zi_X8_guard_8 tyX8 tyX8_ok nmX8 hown hK hP hD hS 0 rfl rfl 25 (by decide) (hts (.fieldLink RX8 235 "WaxTurnsModel" "stood" "I") (zm_X8_guard_r1 (List.mem_of_getElem? (i := 2) rfl))) (fun _ h9 => h9) rfl (tyX8_ok 25 (by decide)) rfl rfl (Nat.le_of_ble_eq_true rfl) dX8_guard_129 (fun H locs hP hD hS => ?_)
            refine zs_0 (y := (a0, .inr (8, [Value.int v1na0_0, a0g_1, a0g_2, a0g_3, a0g_4, a0g_5, a0g_6, a0g_7, a0g_8, a0g_9, a0g_10, Value.int v1na0_11, a0g_12, a0g_13, Value.int a0_14, Value.ref a0_15, a0g_16, Value.ref a0_17, Value.ref a0_18, a0g_19, a0g_20, a0g_21, a0g_22, Value.ref a0_23, Value.ref a0_24, Value.int 0, Value.int j36a0_26, Value.int j36a0_27, Value.int j36a0_28, a0g_29, a0g_30, a0g_31, a0g_32, a0g_33, a0g_34, a0g_35, a0g_36, a0g_37, a0g_38, a0g_39]))) hP hD rfl (fun hP hD => ?_)
            refine lv_iload_n hx hb dX8_guard_132 rfl (lv_at hl 2 rfl) ?_
            exact W.iret (v := j36l3) hx hb hr (fun t ht hW => ⟨⟨j36l3, (), rfl, ⟨bj36l3_l, bj36l3_u⟩, v1na0_0, v1na0_11, 0, j36a0_26, j36a0_27, j36a0_28, j36a0_23_a, j36a0_24_a, j36a0_18_a, bj36a0_23_a, bj36a0_24_a, bj36a0_18_a, by rw [ht]; exact hP, va_K.moved hW.alike hK, hD⟩, hS.F ht⟩) hS.2.2 dX8_guard_133
          · have gc46 := ai_nle c46
            have u46f_j36l4 : j36l4.toInt ≤ (511 : Int) := ai_lthi gc46 bx45.2
            have l46f_x45 : (1 : Int) ≤ x45.toInt := bx45.1
            refine lv_iload_n hx hb dX8_guard_49 rfl (lv_at hl 2 rfl) ?_
            have J121 : ∀ (j121l3 : Int32) (j121a0_25 : Int32) (j121a0_26 : Int32) (j121a0_27 : Int32) (j121a0_28 : Int32) (j121a0_23_a : Nat → Int32) (j121a0_24_a : Nat → Int32) (j121a0_18_a : Nat → Int32) (H : Heap) (locs : List Loc) (ls : Array Slot), (-2 : Int) ≤ j121l3.toInt → j121l3.toInt ≤ (729 : Int) → (∀ k, (0 : Int) ≤ (j121a0_23_a k).toInt ∧ (j121a0_23_a k).toInt ≤ 80) → (∀ k, (0 : Int) ≤ (j121a0_24_a k).toInt ∧ (j121a0_24_a k).toInt ≤ 80) → ((∀ k : Nat, 0 ≤ k → k ≤ 8 → (0 : Int) ≤ (j121a0_18_a k).toInt ∧ (j121a0_18_a k).toInt ≤ 8) ∧ (∀ k : Nat, 19 ≤ k → k ≤ 19 → (0 : Int) ≤ (j121a0_18_a k).toInt ∧ (j121a0_18_a k).toInt ≤ 8) ∧ (∀ k : Nat, 20 ≤ k → k ≤ 20 → (0 : Int) ≤ (j121a0_18_a k).toInt ∧ (j121a0_18_a k).toInt ≤ 19)) → va_P (dC, dI) vwCl [(a0, .inr (8, [Value.int v1na0_0, a0g_1, a0g_2, a0g_3, a0g_4, a0g_5, a0g_6, a0g_7, a0g_8, a0g_9, a0g_10, Value.int v1na0_11, a0g_12, a0g_13, Value.int a0_14, Value.ref a0_15, a0g_16, Value.ref a0_17, Value.ref a0_18, a0g_19, a0g_20, a0g_21, a0g_22, Value.ref a0_23, Value.ref a0_24, Value.int j121a0_25, Value.int j121a0_26, Value.int j121a0_27, Value.int j121a0_28, a0g_29, a0g_30, a0g_31, a0g_32, a0g_33, a0g_34, a0g_35, a0g_36, a0g_37, a0g_38, a0g_39])), (a0_15, .inl (ka0_15, 156, .inl (fa0_15))), (a0_23, .inl (ka0_23, 3, .inl (j121a0_23_a))), (a0_24, .inl (ka0_24, 3, .inl (j121a0_24_a))), (a0_17, .inl (ka0_17, 23, .inl (fa0_17))), (a0_18, .inl (ka0_18, 23, .inl (j121a0_18_a)))] H → va_D A [(a0, .inr (8, [Value.int v1na0_0, a0g_1, a0g_2, a0g_3, a0g_4, a0g_5, a0g_6, a0g_7, a0g_8, a0g_9, a0g_10, Value.int v1na0_11, a0g_12, a0g_13, Value.int a0_14, Value.ref a0_15, a0g_16, Value.ref a0_17, Value.ref a0_18, a0g_19, a0g_20, a0g_21, a0g_22, Value.ref a0_23, Value.ref a0_24, Value.int j121a0_25, Value.int j121a0_26, Value.int j121a0_27, Value.int j121a0_28, a0g_29, a0g_30, a0g_31, a0g_32, a0g_33, a0g_34, a0g_35, a0g_36, a0g_37, a0g_38, a0g_39])), (a0_15, .inl (ka0_15, 156, .inl (fa0_15))), (a0_23, .inl (ka0_23, 3, .inl (j121a0_23_a))), (a0_24, .inl (ka0_24, 3, .inl (j121a0_24_a))), (a0_17, .inl (ka0_17, 23, .inl (fa0_17))), (a0_18, .inl (ka0_18, 23, .inl (j121a0_18_a)))] → va_S A s.heap H locs → lv_has ls 6 [(0, .ref a0), (1, .int a1), (3, .int j121l3), (4, .int j36l4)] → K H locs (F0 m 121 ls []) := by
              intro j121l3 j121a0_25 j121a0_26 j121a0_27 j121a0_28 j121a0_23_a j121a0_24_a j121a0_18_a H locs ls  bj121l3_l bj121l3_u bj121a0_23_a bj121a0_24_a bj121a0_18_a hP hD hS hl
              refine (hK0 _ _ _).mpr ?_
              obtain ⟨x121, ex121⟩ : ∃ y : Int32, y = j36l4 + Int32.ofInt 1 := ⟨_, rfl⟩
              have qx121 : x121.toInt = j36l4.toInt + 1 := ai_inc ex121 (by decide) (by decide) u46f_j36l4 (by decide)
              have bx121 : (1 : Int) ≤ x121.toInt ∧ x121.toInt ≤ 512 := ⟨by rw [qx121]; exact Int.add_le_add bj36l4_l (Int.le_refl _), by rw [qx121]; exact Int.add_le_add u46f_j36l4 (Int.le_refl _)⟩
              refine lv_iinc (v := x121) (lv' := [(4, .int x121), (0, .ref a0), (1, .int a1), (3, .int j121l3)]) hx hb dX8_guard_121 hl (k := 3) rfl ex121.symm (by decide) rfl (fun ls hl => ?_)
              refine lv_goto (tgt := 36) hx hb dX8_guard_124 (by decide) ?_
              exact (hK0 _ _ _).mp (ih36 x121 j121l3 j121a0_25 j121a0_26 j121a0_27 j121a0_28 j121a0_23_a j121a0_24_a j121a0_18_a _ _ _ (by have h0 := qx121; omega) (Int.le_trans zq4 bx121.1) (Int.le_trans bx121.2 zq199) bj121l3_l bj121l3_u bj121a0_23_a bj121a0_24_a bj121a0_18_a hP hD hS (lv_sub hl [1, 2, 3, 0] rfl))
            have J68 : ∀ (H : Heap) (locs : List Loc) (ls : Array Slot), va_P (dC, dI) vwCl [(a0, .inr (8, [Value.int v1na0_0, a0g_1, a0g_2, a0g_3, a0g_4, a0g_5, a0g_6, a0g_7, a0g_8, a0g_9, a0g_10, Value.int v1na0_11, a0g_12, a0g_13, Value.int a0_14, Value.ref a0_15, a0g_16, Value.ref a0_17, Value.ref a0_18, a0g_19, a0g_20, a0g_21, a0g_22, Value.ref a0_23, Value.ref a0_24, Value.int j36a0_25, Value.int j36a0_26, Value.int j36a0_27, Value.int j36a0_28, a0g_29, a0g_30, a0g_31, a0g_32, a0g_33, a0g_34, a0g_35, a0g_36, a0g_37, a0g_38, a0g_39])), (a0_15, .inl (ka0_15, 156, .inl (fa0_15))), (a0_23, .inl (ka0_23, 3, .inl (j36a0_23_a))), (a0_24, .inl (ka0_24, 3, .inl (j36a0_24_a))), (a0_17, .inl (ka0_17, 23, .inl (fa0_17))), (a0_18, .inl (ka0_18, 23, .inl (j36a0_18_a)))] H → va_D A [(a0, .inr (8, [Value.int v1na0_0, a0g_1, a0g_2, a0g_3, a0g_4, a0g_5, a0g_6, a0g_7, a0g_8, a0g_9, a0g_10, Value.int v1na0_11, a0g_12, a0g_13, Value.int a0_14, Value.ref a0_15, a0g_16, Value.ref a0_17, Value.ref a0_18, a0g_19, a0g_20, a0g_21, a0g_22, Value.ref a0_23, Value.ref a0_24, Value.int j36a0_25, Value.int j36a0_26, Value.int j36a0_27, Value.int j36a0_28, a0g_29, a0g_30, a0g_31, a0g_32, a0g_33, a0g_34, a0g_35, a0g_36, a0g_37, a0g_38, a0g_39])), (a0_15, .inl (ka0_15, 156, .inl (fa0_15))), (a0_23, .inl (ka0_23, 3, .inl (j36a0_23_a))), (a0_24, .inl (ka0_24, 3, .inl (j36a0_24_a))), (a0_17, .inl (ka0_17, 23, .inl (fa0_17))), (a0_18, .inl (ka0_18, 23, .inl (j36a0_18_a)))] → va_S A s.heap H locs → lv_has ls 6 [(0, .ref a0), (1, .int a1), (3, .int j36l3), (4, .int j36l4)] → K H locs (F0 m 68 ls []) := by
              intro  H locs ls   hP hD hS hl
              refine (hK0 _ _ _).mpr ?_
              refine lv_aload_n hx hb dX8_guard_68 rfl (lv_at hl 0 rfl) ?_
              have hKc := hK.sub (tys' := [(ka0_15, .int), (ka0_23, .int), (ka0_24, .int), (ka0_17, .int), (ka0_18, .int)]) [0, 1, 2, 3, 4] rfl
              refine va_callv (va_runV (As := []) (rest := []) ⟨hx, hb, hml, hown, hts⟩ (c_X8_begin l dC dI H.size a0 (Value.int v1na0_0) a0g_1 a0g_2 a0g_3 a0g_4 a0g_5 a0g_6 a0g_7 a0g_8 a0g_9 a0g_10 (Value.int v1na0_11) a0g_12 a0g_13 (Value.int a0_14) a0g_16 a0g_19 a0g_20 a0g_21 a0g_22 (Value.int j36a0_26) (Value.int j36a0_27) (Value.int j36a0_28) a0g_29 a0g_30 a0g_31 a0g_32 a0g_33 a0g_34 a0g_35 a0g_36 a0g_37 a0g_38 a0g_39 a0_15 a0_17 a0_18 a0_23 a0_24 j36a0_25 ka0_15 fa0_15 ka0_23 j36a0_23_a ka0_24 j36a0_24_a ka0_17 fa0_17 ka0_18 j36a0_18_a bfa0_15 bj36a0_23_a bj36a0_24_a bfa0_17 bj36a0_18_a) (cwV 0 hts gX8_guard_X8_begin rfl rfl rfl zd_X8_begin ⟨Nat.le_of_ble_eq_true rfl, Nat.le_of_ble_eq_true rfl⟩) ⟨ax_blind (fun _ _ _ _ _ => trivial), zr_8 hKc (zp_P6 hP) (q0 := 0) rfl, ax_pre (zp_P6 hP) hKc (zp_D6 hD) (fun _ _ => trivial)⟩ rfl rfl hl.1 rfl (lv_room (Nat.le_of_ble_eq_true rfl)) dX8_guard_69 ⟨Nat.le_of_ble_eq_true rfl, Nat.le_of_ble_eq_true rfl⟩) hS (fun q _ h => zp_F6 hD hS hA q h) (zp_F6 hD hS hA) (fun u t H locs ht hvm hw hB hz1 hk1 hS1 => zx_4 hB (fun v69na0_25 v69nfa0_23 v69nfa0_24 v69nfa0_18 hB => zy_3 hB (fun bv69nfa0_23 bv69nfa0_24 bv69nfa0_18 hB => zo6 hB ht hP hD hk1 (zp_F6 hD hS hA) hS1 (fun hP hK1 hD hS => ?_))))
              refine lv_aload_n hx hb dX8_guard_72 rfl (lv_at hl 0 rfl) ?_
              refine lv_iload hx hb dX8_guard_73 (lv_at hl 3 rfl) ?_
              refine va_put (D := (dC, dI)) (ci := 8) (v := .int j36l4) (ty := .int) (C := RX8) (T := TX8) (N := 40) hx hb hts zi_X8_guard_8 tyX8 tyX8_ok nmX8 hown hK hP hD hS 0 rfl rfl 25 (by decide) (hts (.fieldLink RX8 235 "WaxTurnsModel" "stood" "I") (zm_X8_guard_r1 (List.mem_of_getElem? (i := 2) rfl))) (fun _ h9 => h9) rfl (tyX8_ok 25 (by decide)) rfl rfl (Nat.le_of_ble_eq_true rfl) dX8_guard_75 (fun H locs hP hD hS => ?_)
              refine zs_0 (y := (a0, .inr (8, [Value.int v1na0_0, a0g_1, a0g_2, a0g_3, a0g_4, a0g_5, a0g_6, a0g_7, a0g_8, a0g_9, a0g_10, Value.int v1na0_11, a0g_12, a0g_13, Value.int a0_14, Value.ref a0_15, a0g_16, Value.ref a0_17, Value.ref a0_18, a0g_19, a0g_20, a0g_21, a0g_22, Value.ref a0_23, Value.ref a0_24, Value.int j36l4, Value.int j36a0_26, Value.int j36a0_27, Value.int j36a0_28, a0g_29, a0g_30, a0g_31, a0g_32, a0g_33, a0g_34, a0g_35, a0g_36, a0g_37, a0g_38, a0g_39]))) hP hD rfl (fun hP hD => ?_)
              refine lv_iconst (v := 0) hx hb dX8_guard_78 zk_iconst_0 ?_
              refine lv_istore (lv' := [(5, .int 0), (0, .ref a0), (1, .int a1), (3, .int j36l3), (4, .int j36l4)]) hx hb dX8_guard_79 hl (by decide) rfl (fun ls hl => ?_)
              have J81 : ∀ (n : Nat) (j81l5 : Int32) (j81a0_26 : Int32) (j81a0_27 : Int32) (j81a0_28 : Int32) (j81a0_18_a : Nat → Int32) (H : Heap) (locs : List Loc) (ls : Array Slot), (61 : Int) - j81l5.toInt ≤ (n : Int) → (0 : Int) ≤ j81l5.toInt → j81l5.toInt ≤ (60 : Int) → ((∀ k : Nat, 0 ≤ k → k ≤ 8 → (0 : Int) ≤ (j81a0_18_a k).toInt ∧ (j81a0_18_a k).toInt ≤ 8) ∧ (∀ k : Nat, 19 ≤ k → k ≤ 19 → (0 : Int) ≤ (j81a0_18_a k).toInt ∧ (j81a0_18_a k).toInt ≤ 8) ∧ (∀ k : Nat, 20 ≤ k → k ≤ 20 → (0 : Int) ≤ (j81a0_18_a k).toInt ∧ (j81a0_18_a k).toInt ≤ 19)) → va_P (dC, dI) vwCl [(a0, .inr (8, [Value.int v1na0_0, a0g_1, a0g_2, a0g_3, a0g_4, a0g_5, a0g_6, a0g_7, a0g_8, a0g_9, a0g_10, Value.int v1na0_11, a0g_12, a0g_13, Value.int a0_14, Value.ref a0_15, a0g_16, Value.ref a0_17, Value.ref a0_18, a0g_19, a0g_20, a0g_21, a0g_22, Value.ref a0_23, Value.ref a0_24, Value.int j36l4, Value.int j81a0_26, Value.int j81a0_27, Value.int j81a0_28, a0g_29, a0g_30, a0g_31, a0g_32, a0g_33, a0g_34, a0g_35, a0g_36, a0g_37, a0g_38, a0g_39])), (a0_15, .inl (ka0_15, 156, .inl (fa0_15))), (a0_23, .inl (ka0_23, 3, .inl (v69nfa0_23))), (a0_24, .inl (ka0_24, 3, .inl (v69nfa0_24))), (a0_17, .inl (ka0_17, 23, .inl (fa0_17))), (a0_18, .inl (ka0_18, 23, .inl (j81a0_18_a)))] H → va_D A [(a0, .inr (8, [Value.int v1na0_0, a0g_1, a0g_2, a0g_3, a0g_4, a0g_5, a0g_6, a0g_7, a0g_8, a0g_9, a0g_10, Value.int v1na0_11, a0g_12, a0g_13, Value.int a0_14, Value.ref a0_15, a0g_16, Value.ref a0_17, Value.ref a0_18, a0g_19, a0g_20, a0g_21, a0g_22, Value.ref a0_23, Value.ref a0_24, Value.int j36l4, Value.int j81a0_26, Value.int j81a0_27, Value.int j81a0_28, a0g_29, a0g_30, a0g_31, a0g_32, a0g_33, a0g_34, a0g_35, a0g_36, a0g_37, a0g_38, a0g_39])), (a0_15, .inl (ka0_15, 156, .inl (fa0_15))), (a0_23, .inl (ka0_23, 3, .inl (v69nfa0_23))), (a0_24, .inl (ka0_24, 3, .inl (v69nfa0_24))), (a0_17, .inl (ka0_17, 23, .inl (fa0_17))), (a0_18, .inl (ka0_18, 23, .inl (j81a0_18_a)))] → va_S A s.heap H locs → lv_has ls 6 [(0, .ref a0), (1, .int a1), (3, .int j36l3), (4, .int j36l4), (5, .int j81l5)] → K H locs (F0 m 81 ls []) := by
                intro n
                induction n with
                | zero =>
                  intro j81l5 j81a0_26 j81a0_27 j81a0_28 j81a0_18_a H locs ls hm bj81l5_l bj81l5_u bj81a0_18_a hP hD hS hl
                  have h8 := ai_min j81l5
                  have h9 := ai_max j81l5
                  exact absurd hm (by omega)
                | succ n ih81 =>
                  intro j81l5 j81a0_26 j81a0_27 j81a0_28 j81a0_18_a H locs ls hm bj81l5_l bj81l5_u bj81a0_18_a hP hD hS hl
                  refine (hK0 _ _ _).mpr ?_
                  have hm81 := hm
                  refine lv_iload hx hb dX8_guard_81 (lv_at hl 4 rfl) ?_
                  refine lv_iload_n hx hb dX8_guard_83 rfl (lv_at hl 1 rfl) ?_
                  refine lv_icmp_ge (tgt := 101) hx hb dX8_guard_84 (by decide) (fun c84 => ?_) (fun c84 => ?_)
                  · have gc84 := ai_le c84
                    have u84t_a1 : a1.toInt ≤ (60 : Int) := u13k0_a1
                    have l84t_j81l5 : (1 : Int) ≤ j81l5.toInt := Int.le_trans l13k0_a1 gc84
                    refine lv_aload_n hx hb dX8_guard_101 rfl (lv_at hl 0 rfl) ?_
                    refine va_get (D := (dC, dI)) (ci := 8) (v := .ref a0_18) (C := RX8) (T := TX8) (N := 40) hx hb hts zi_X8_guard_8 hown hK hP 0 rfl rfl 18 (by decide) (hts (.fieldLink RX8 29 "WaxTurnsModel" "trial" "[I") (zm_X8_guard_r1 (List.mem_of_getElem? (i := 3) rfl))) (fun _ h9 => h9) rfl dX8_guard_102 ?_
                    refine lv_bipush (v := 18) hx hb dX8_guard_105 zk_bipush_18 ?_
                    refine va_iald hx hb hK hP 5 4 rfl rfl (by unfold vp_in; decide +kernel) dX8_guard_107 ?_
                    refine lv_topi (fun x107 ex107 => ?_)
                    refine lv_aload_n hx hb dX8_guard_108 rfl (lv_at hl 0 rfl) ?_
                    refine va_get (D := (dC, dI)) (ci := 8) (v := .ref a0_17) (C := RX8) (T := TX8) (N := 40) hx hb hts zi_X8_guard_8 hown hK hP 0 rfl rfl 17 (by decide) (hts (.fieldLink RX8 26 "WaxTurnsModel" "st" "[I") (zm_X8_guard_r1 (List.mem_of_getElem? (i := 4) rfl))) (fun _ h9 => h9) rfl dX8_guard_109 ?_
                    refine lv_bipush (v := 18) hx hb dX8_guard_112 zk_bipush_18 ?_
                    refine va_iald hx hb hK hP 4 3 rfl rfl (by unfold vp_in; decide +kernel) dX8_guard_114 ?_
                    refine lv_topi (fun x114 ex114 => ?_)
                    refine lv_icmp_ne (tgt := 121) hx hb dX8_guard_115 (by decide) (fun c115 => ?_) (fun c115 => ?_)
                    · have gc115 := ai_ne c115
                      exact (hK0 _ _ _).mp (J121 j36l3 j36l4 j81a0_26 j81a0_27 j81a0_28 v69nfa0_23 v69nfa0_24 j81a0_18_a _ _ _  bj36l3_l bj36l3_u bv69nfa0_23 bv69nfa0_24 bj81a0_18_a hP hD hS (lv_sub hl [0, 1, 2, 3] rfl))
                    · have gc115 := ai_eq c115
                      refine lv_iload hx hb dX8_guard_118 (lv_at hl 3 rfl) ?_
                      refine lv_istore_n (lv' := [(3, .int j36l4), (0, .ref a0), (1, .int a1), (4, .int j36l4), (5, .int j81l5)]) hx hb dX8_guard_120 rfl hl (by decide) rfl (fun ls hl => ?_)
                      exact (hK0 _ _ _).mp (J121 j36l4 j36l4 j81a0_26 j81a0_27 j81a0_28 v69nfa0_23 v69nfa0_24 j81a0_18_a _ _ _  (Int.le_trans zq75 bj36l4_l) (Int.le_trans u46f_j36l4 zq200) bv69nfa0_23 bv69nfa0_24 bj81a0_18_a hP hD hS (lv_sub hl [1, 2, 0, 3] rfl))
                  · have gc84 := ai_nle c84
                    have u84f_j81l5 : j81l5.toInt ≤ (59 : Int) := ai_lthi gc84 u13k0_a1
                    have l84f_a1 : (1 : Int) ≤ a1.toInt := l13k0_a1
                    refine lv_aload_n hx hb dX8_guard_87 rfl (lv_at hl 0 rfl) ?_
                    refine lv_aload_n hx hb dX8_guard_88 rfl (lv_at hl 0 rfl) ?_
                    refine va_get (D := (dC, dI)) (ci := 8) (v := .ref a0_18) (C := RX8) (T := TX8) (N := 40) hx hb hts zi_X8_guard_8 hown hK hP 0 rfl rfl 18 (by decide) (hts (.fieldLink RX8 29 "WaxTurnsModel" "trial" "[I") (zm_X8_guard_r1 (List.mem_of_getElem? (i := 3) rfl))) (fun _ h9 => h9) rfl dX8_guard_89 ?_
                    refine zc_cutc (wc := [(a0, .inr (8, [Value.int v1na0_0, a0g_1, a0g_2, a0g_3, a0g_4, a0g_5, a0g_6, a0g_7, a0g_8, a0g_9, a0g_10, Value.int v1na0_11, a0g_12, a0g_13, Value.int a0_14, Value.ref a0_15, a0g_16, Value.ref a0_17, Value.ref a0_18, a0g_19, a0g_20, a0g_21, a0g_22, Value.ref a0_23, Value.ref a0_24, Value.int j36l4, Value.int j81a0_26, Value.int j81a0_27, Value.int j81a0_28, a0g_29, a0g_30, a0g_31, a0g_32, a0g_33, a0g_34, a0g_35, a0g_36, a0g_37, a0g_38, a0g_39])), (a0_18, .inl (ka0_18, 23, .inl (j81a0_18_a))), (a0_15, .inl (ka0_15, 156, .inl (fa0_15))), (a0_24, .inl (ka0_24, 3, .inl (v69nfa0_24))), (a0_23, .inl (ka0_23, 3, .inl (v69nfa0_23)))]) hP hD hS hA [0, 5, 1, 3, 2] (by decide +kernel) rfl (fun hPc hDc hFc hCc => ?_)
                    have hKc := hK.sub (tys' := [(ka0_18, .int), (ka0_15, .int), (ka0_24, .int), (ka0_23, .int)]) [4, 0, 2, 1] rfl
                    refine va_callv (va_runV (As := [.ref a0_18]) (rest := []) ⟨hx, hb, hml, hown, hts⟩ (c_X8_minuteOn l dC dI H.size a0 a0_18 (Value.int v1na0_0) a0g_1 a0g_2 a0g_3 a0g_4 a0g_5 a0g_6 a0g_7 a0g_8 a0g_9 a0g_10 (Value.int v1na0_11) a0g_12 a0g_13 (Value.int a0_14) a0g_16 (Value.ref a0_17) (Value.ref a0_18) a0g_19 a0g_20 a0g_21 a0g_22 a0g_29 a0g_30 a0g_31 a0g_32 a0g_33 a0g_34 a0g_35 a0g_36 a0g_37 a0g_38 a0g_39 a0_15 a0_23 a0_24 j36l4 j81a0_26 j81a0_27 j81a0_28 ka0_18 j81a0_18_a ka0_15 fa0_15 ka0_24 v69nfa0_24 ka0_23 v69nfa0_23 bj81a0_18_a bfa0_15 bv69nfa0_24 bv69nfa0_23 hkm) (cwV 1 hts gX8_guard_X8_minuteOn rfl rfl rfl zd_X8_minuteOn ⟨Nat.le_of_ble_eq_true rfl, Nat.le_of_ble_eq_true rfl⟩) ⟨ax_blind (fun _ _ _ _ _ => trivial), zr_8 hKc hPc (q0 := 0) rfl, ax_pre hPc hKc hDc (fun _ _ => trivial)⟩ rfl rfl hl.1 rfl (lv_room (Nat.le_of_ble_eq_true rfl)) dX8_guard_92 ⟨Nat.le_of_ble_eq_true rfl, Nat.le_of_ble_eq_true rfl⟩) hS (fun q _ h => hFc q h) hFc (fun u t H locs ht hvm hw hB hz1 hk1 hS => zx_4 hB (fun v92na0_26 v92na0_27 v92na0_28 v92nfa1 hB => zy_1 hB (fun bv92nfa1 hB => zo hB ht (fun hP1 hK1 hD1 => ?_))))
                    refine zc_backc (w := [(a0, .inr (8, [Value.int v1na0_0, a0g_1, a0g_2, a0g_3, a0g_4, a0g_5, a0g_6, a0g_7, a0g_8, a0g_9, a0g_10, Value.int v1na0_11, a0g_12, a0g_13, Value.int a0_14, Value.ref a0_15, a0g_16, Value.ref a0_17, Value.ref a0_18, a0g_19, a0g_20, a0g_21, a0g_22, Value.ref a0_23, Value.ref a0_24, Value.int j36l4, Value.int v92na0_26, Value.int v92na0_27, Value.int v92na0_28, a0g_29, a0g_30, a0g_31, a0g_32, a0g_33, a0g_34, a0g_35, a0g_36, a0g_37, a0g_38, a0g_39])), (a0_15, .inl (ka0_15, 156, .inl (fa0_15))), (a0_23, .inl (ka0_23, 3, .inl (v69nfa0_23))), (a0_24, .inl (ka0_24, 3, .inl (v69nfa0_24))), (a0_17, .inl (ka0_17, 23, .inl (fa0_17))), (a0_18, .inl (ka0_18, 23, .inl (v92nfa1)))]) hP hD hCc hk1 hFc hP1 hD1 [.inr 0, .inr 2, .inr 4, .inr 3, .inl 4, .inr 1] (by decide +kernel) rfl (fun hP hD => ?_)
                    obtain ⟨x95, ex95⟩ : ∃ y : Int32, y = j81l5 + Int32.ofInt 1 := ⟨_, rfl⟩
                    have qx95 : x95.toInt = j81l5.toInt + 1 := ai_inc ex95 (by decide) (by decide) u84f_j81l5 (by decide)
                    have bx95 : (1 : Int) ≤ x95.toInt ∧ x95.toInt ≤ 60 := ⟨by rw [qx95]; exact Int.add_le_add bj81l5_l (Int.le_refl _), by rw [qx95]; exact Int.add_le_add u84f_j81l5 (Int.le_refl _)⟩
                    refine lv_iinc (v := x95) (lv' := [(5, .int x95), (0, .ref a0), (1, .int a1), (3, .int j36l3), (4, .int j36l4)]) hx hb dX8_guard_95 hl (k := 4) rfl ex95.symm (by decide) rfl (fun ls hl => ?_)
                    refine lv_goto (tgt := 81) hx hb dX8_guard_98 (by decide) ?_
                    exact (hK0 _ _ _).mp (ih81 x95 v92na0_26 v92na0_27 v92na0_28 v92nfa1 _ _ _ (by have h0 := qx95; omega) (Int.le_trans zq4 bx95.1) bx95.2 bv92nfa1 hP hD hS (lv_sub hl [1, 2, 3, 4, 0] rfl))
              exact (hK0 _ _ _).mp (J81 61 0 j36a0_26 j36a0_27 j36a0_28 v69nfa0_18 _ _ _ (by have h1 : (0 : Int) ≤ (0 : Int32).toInt := zq5; have h2 : (0 : Int32).toInt ≤ (0 : Int) := zq6; omega) zq5 (Int.le_trans zq6 zq128) bv69nfa0_18 hP hD hS (lv_sub hl [1, 2, 3, 4, 0] rfl))
            refine lv_if_lt (tgt := 68) hx hb dX8_guard_50 (by decide) (fun c50 => ?_) (fun c50 => ?_)
            · have gc50 := ai_lt c50
              have u50t_j36l3 : j36l3.toInt ≤ (-1 : Int) := ai_lthi gc50 zq6
              exact (hK0 _ _ _).mp (J68  _ _ _   hP hD hS (lv_sub hl [0, 1, 2, 3] rfl))
            · have gc50 := ai_nlt c50
              have l50f_j36l3 : (0 : Int) ≤ j36l3.toInt := Int.le_trans zq5 gc50
              refine lv_iload hx hb dX8_guard_53 (lv_at hl 3 rfl) ?_
              refine va_calli (va_runS (As := [.int j36l4]) (rest := []) ⟨hx, hb, hml, hown, hts⟩ (c_X8_ones l dC dI H.size j36l4 ) (va_cwS 1 hts gX8_guard_X8_ones rfl rfl rfl zd_X8_ones.2 ⟨Nat.le_of_ble_eq_true rfl, Nat.le_of_ble_eq_true rfl⟩) ⟨ax_blind (fun _ _ _ _ _ => trivial), ax_pre (zp_P0 hP) (zp_K hK) (zp_D0 hD) (fun _ _ => trivial)⟩ rfl rfl hl.1 rfl (lv_room (Nat.le_of_ble_eq_true rfl)) dX8_guard_55 ⟨Nat.le_of_ble_eq_true rfl, Nat.le_of_ble_eq_true rfl⟩) hS (fun q _ h => zp_F0 hD hS hA q h) (zp_F0 hD hS hA) (fun r55 u t H locs ht hvm hw hB hz1 hk1 hS1 => zo0 hB ht hP hD hk1 (zp_F0 hD hS hA) hS1 (fun hP hK1 hD hS => ?_))
              refine lv_iload_n hx hb dX8_guard_58 rfl (lv_at hl 2 rfl) ?_
              refine va_calli (va_runS (As := [.int j36l3]) (rest := [.int r55]) ⟨hx, hb, hml, hown, hts⟩ (c_X8_ones l dC dI H.size j36l3 ) (va_cwS 1 hts gX8_guard_X8_ones rfl rfl rfl zd_X8_ones.2 ⟨Nat.le_of_ble_eq_true rfl, Nat.le_of_ble_eq_true rfl⟩) ⟨ax_blind (fun _ _ _ _ _ => trivial), ax_pre (zp_P0 hP) (zp_K hK) (zp_D0 hD) (fun _ _ => trivial)⟩ rfl rfl hl.1 rfl (lv_room (Nat.le_of_ble_eq_true rfl)) dX8_guard_59 ⟨Nat.le_of_ble_eq_true rfl, Nat.le_of_ble_eq_true rfl⟩) hS (fun q _ h => zp_F0 hD hS hA q h) (zp_F0 hD hS hA) (fun r59 u t H locs ht hvm hw hB hz1 hk1 hS1 => zo0 hB ht hP hD hk1 (zp_F0 hD hS hA) hS1 (fun hP hK1 hD hS => ?_))
              refine lv_icmp_lt (tgt := 68) hx hb dX8_guard_62 (by decide) (fun c62 => ?_) (fun c62 => ?_)
              · have gc62 := ai_lt c62
                have u62t_r55 : r55.toInt ≤ (2147483646 : Int) := ai_lthi gc62 (ai_max r59)
                have l62t_r59 : (-2147483647 : Int) ≤ r59.toInt := ai_ltlo gc62 (ai_min r55)
                exact (hK0 _ _ _).mp (J68  _ _ _   hP hD hS (lv_sub hl [0, 1, 2, 3] rfl))
              · have gc62 := ai_nlt c62
                refine lv_goto (tgt := 121) hx hb dX8_guard_65 (by decide) ?_
                exact (hK0 _ _ _).mp (J121 j36l3 j36a0_25 j36a0_26 j36a0_27 j36a0_28 j36a0_23_a j36a0_24_a j36a0_18_a _ _ _  (Int.le_trans zq75 l50f_j36l3) bj36l3_u bj36a0_23_a bj36a0_24_a bj36a0_18_a hP hD hS (lv_sub hl [0, 1, 2, 3] rfl))
      exact (hK0 _ _ _).mp (J36 730 0 (-2) a0_25 a0_26 a0_27 a0_28 fa0_23 fa0_24 fa0_18 _ _ _ (by have h1 : (0 : Int) ≤ (0 : Int32).toInt := zq5; have h2 : (0 : Int32).toInt ≤ (0 : Int) := zq6; omega) zq5 (Int.le_trans zq6 zq35) zq45 (Int.le_trans zq44 zq201) bfa0_23 bfa0_24 bfa0_18 hP hD hS (lv_sub hl [3, 4, 1, 0] rfl))
  · obtain ⟨hw, h13⟩ := hw
    subst hw
    refine va_calli (va_runV (As := [.int a0_14, .int 0]) (rest := []) ⟨hx, hb, hml, hown, hts⟩ (c_X8_whyB l dC dI H.size a0 a0_14 0 (Value.int v1na0_0) a0g_1 a0g_2 a0g_3 a0g_4 a0g_5 a0g_6 a0g_7 a0g_8 a0g_9 a0g_10 (Value.int v1na0_11) a0g_12 a0g_13 (Value.int a0_14) (Value.ref a0_15) a0g_16 (Value.ref a0_17) (Value.ref a0_18) a0g_19 a0g_20 a0g_21 a0g_22 (Value.ref a0_23) (Value.ref a0_24) (Value.int a0_25) (Value.int a0_26) (Value.int a0_27) (Value.int a0_28) a0g_29 a0g_30 a0g_31 a0g_32 a0g_33 a0g_34 a0g_35 a0g_36 a0g_37 a0g_38 a0g_39 (Int.le_trans zq4 ba0_14_l) ba0_14_u zq5 (Int.le_trans zq6 zq4)) (cwV 2 hts gX8_guard_X8_why rfl rfl rfl zd_X8_why ⟨Nat.le_of_ble_eq_true rfl, Nat.le_of_ble_eq_true rfl⟩) ⟨ax_blind (fun _ _ _ _ _ => trivial), zr_8 (zp_K hK) (zp_P1 hP) (q0 := 0) rfl, ax_pre (zp_P1 hP) (zp_K hK) (zp_D1 hD) (fun _ _ => trivial)⟩ rfl rfl hl.1 rfl (lv_room (Nat.le_of_ble_eq_true rfl)) dX8_guard_16 ⟨Nat.le_of_ble_eq_true rfl, Nat.le_of_ble_eq_true rfl⟩) hS (fun q _ h => zp_F1 hD hS hA q h) (zp_F1 hD hS hA) (fun r16 u t H locs ht hvm hw hB hz1 hk1 hS1 => zo1 hB ht hP hD hk1 (zp_F1 hD hS hA) hS1 (fun hP hK1 hD hS => ?_))
    rcases hw with hw | hw | hw
    · obtain ⟨hw, h16_0, h16_1, h16_2, h16_3⟩ := hw
      subst hw
      have l16k0_a0_14 : (1 : Int) ≤ a0_14.toInt := ba0_14_l
      have u16k0_a0_14 : a0_14.toInt ≤ (1 : Int) := ba0_14_u
      refine lv_istore_n (lv' := [(2, .int 2), (0, .ref a0), (1, .int a1)]) hx hb dX8_guard_19 rfl hl (by decide) rfl (fun ls hl => ?_)
      refine lv_iload_n hx hb dX8_guard_20 rfl (lv_at hl 0 rfl) ?_
      refine lv_if_eq (tgt := 30) hx hb dX8_guard_21 (by decide) (fun c21 => absurd c21 (by decide +kernel)) (fun _ => ?_)
      refine lv_aload_n hx hb dX8_guard_24 rfl (lv_at hl 1 rfl) ?_
      refine lv_iload_n hx hb dX8_guard_25 rfl (lv_at hl 0 rfl) ?_
      refine va_calli (va_runV (As := [.int 2]) (rest := []) ⟨hx, hb, hml, hown, hts⟩ (c_X8_no l dC dI H.size a0 2 (Value.int v1na0_0) a0g_1 a0g_2 a0g_3 a0g_4 a0g_5 a0g_6 a0g_7 a0g_8 a0g_9 a0g_10 a0g_12 a0g_13 (Value.int a0_14) (Value.ref a0_15) a0g_16 (Value.ref a0_17) (Value.ref a0_18) a0g_19 a0g_20 a0g_21 a0g_22 (Value.ref a0_23) (Value.ref a0_24) (Value.int a0_25) (Value.int a0_26) (Value.int a0_27) (Value.int a0_28) a0g_29 a0g_30 a0g_31 a0g_32 a0g_33 a0g_34 a0g_35 a0g_36 a0g_37 a0g_38 a0g_39 v1na0_11 ) (cwV 1 hts gX8_guard_X8_no rfl rfl rfl zd_X8_no ⟨Nat.le_of_ble_eq_true rfl, Nat.le_of_ble_eq_true rfl⟩) ⟨ax_blind (fun _ _ _ _ _ => trivial), zr_8 (zp_K hK) (zp_P1 hP) (q0 := 0) rfl, ax_pre (zp_P1 hP) (zp_K hK) (zp_D1 hD) (fun _ _ => trivial)⟩ rfl rfl hl.1 rfl (lv_room (Nat.le_of_ble_eq_true rfl)) dX8_guard_26 ⟨Nat.le_of_ble_eq_true rfl, Nat.le_of_ble_eq_true rfl⟩) hS (fun q _ h => zp_F1 hD hS hA q h) (zp_F1 hD hS hA) (fun r26 u t H locs ht hvm hw hB hz1 hk1 hS1 => zx_1 hB (fun v26na0_11 hB => zo1 hB ht hP hD hk1 (zp_F1 hD hS hA) hS1 (fun hP hK1 hD hS => ?_)))
      have hw : r26 = (-1) := hw
      have hw := hw.symm
      subst hw
      exact W.iret (v := (-1)) hx hb hr (fun t ht hW => ⟨⟨(-1), (), rfl, ⟨(Int.le_trans zq76 zq70), (Int.le_trans zq71 zq95)⟩, v1na0_0, v26na0_11, a0_25, a0_26, a0_27, a0_28, fa0_23, fa0_24, fa0_18, bfa0_23, bfa0_24, bfa0_18, by rw [ht]; exact hP, va_K.moved hW.alike hK, hD⟩, hS.F ht⟩) hS.2.2 dX8_guard_29
    · obtain ⟨hw, h16_0, h16_1⟩ := hw
      subst hw
      have l16k1_a0_14 : (1 : Int) ≤ a0_14.toInt := ba0_14_l
      have u16k1_a0_14 : a0_14.toInt ≤ (0 : Int) := h16_1
      exact absurd (Int.le_trans l16k1_a0_14 u16k1_a0_14) (by decide)
    · obtain ⟨hw, h16_0, h16_1, h16_2, h16_3⟩ := hw
      subst hw
      have l16k2_a0_14 : (1 : Int) ≤ a0_14.toInt := ba0_14_l
      have u16k2_a0_14 : a0_14.toInt ≤ (1 : Int) := ba0_14_u
      exact absurd h16_2 (by decide)
end P260_01_safe
section P260_02_safe
set_option maxHeartbeats 4000000 in
set_option maxRecDepth 100000 in
theorem c_X8_routeAt (l : Launch) (dC : Nat → ClassId) (dI : Nat → Nat → Nat) (sz : Nat) (a0 : Nat) (a1 : Int32) (a2 : Int32) (a3 : Int32) (a0_0 : Int32) (a0g_1 a0g_2 a0g_3 a0g_4 a0g_5 a0g_6 a0g_7 a0g_8 a0g_9 a0g_10 a0g_12 a0g_13 a0g_16 a0g_19 a0g_20 a0g_21 a0g_22 a0g_29 a0g_30 a0g_31 a0g_34 a0g_35 a0g_36 a0g_37 a0g_38 a0g_39 : Value) (a0_11 : Int32) (a0_14 : Int32) (a0_15 : Nat) (a0_17 : Nat) (a0_18 : Nat) (a0_23 : Nat) (a0_24 : Nat) (a0_25 : Int32) (a0_26 : Int32) (a0_27 : Int32) (a0_28 : Int32) (a0_32 : Nat) (a0_33 : Nat) (ka0_15 : ClassId) (fa0_15 : Nat → Int32) (ka0_23 : ClassId) (fa0_23 : Nat → Int32) (ka0_24 : ClassId) (fa0_24 : Nat → Int32) (ka0_17 : ClassId) (fa0_17 : Nat → Int32) (ka0_18 : ClassId) (fa0_18 : Nat → Int32) (ka0_32 : ClassId) (fa0_32 : Nat → Int32) (ka0_33 : ClassId) (fa0_33 : Nat → Int32) (ba0_14_l : (1 : Int) ≤ a0_14.toInt) (ba0_14_u : a0_14.toInt ≤ (1 : Int)) (bfa0_15 : ((∀ k : Nat, 0 ≤ k → k ≤ 0 → (2 : Int) ≤ (fa0_15 k).toInt ∧ (fa0_15 k).toInt ≤ 9) ∧ (∀ k : Nat, 1 ≤ k → k ≤ 1 → (1 : Int) ≤ (fa0_15 k).toInt ∧ (fa0_15 k).toInt ≤ 20) ∧ (∀ k : Nat, 2 ≤ k → k ≤ 2 → (0 : Int) ≤ (fa0_15 k).toInt ∧ (fa0_15 k).toInt ≤ 8) ∧ (∀ k : Nat, 3 ≤ k → k ≤ 3 → (0 : Int) ≤ (fa0_15 k).toInt ∧ (fa0_15 k).toInt ≤ 100) ∧ (∀ k : Nat, 4 ≤ k → k ≤ 4 → (0 : Int) ≤ (fa0_15 k).toInt ∧ (fa0_15 k).toInt ≤ 9) ∧ (∀ k : Nat, 5 ≤ k → k ≤ 5 → (0 : Int) ≤ (fa0_15 k).toInt ∧ (fa0_15 k).toInt ≤ 3) ∧ (∀ k : Nat, 6 ≤ k → k ≤ 6 → (0 : Int) ≤ (fa0_15 k).toInt ∧ (fa0_15 k).toInt ≤ 6) ∧ (∀ k : Nat, 7 ≤ k → k ≤ 9 → (0 : Int) ≤ (fa0_15 k).toInt ∧ (fa0_15 k).toInt ≤ 8) ∧ (∀ k : Nat, 12 ≤ k → k ≤ 29 → (0 : Int) ≤ (fa0_15 k).toInt ∧ (fa0_15 k).toInt ≤ 20) ∧ (∀ k : Nat, 30 ≤ k → k ≤ 35 → (0 : Int) ≤ (fa0_15 k).toInt ∧ (fa0_15 k).toInt ≤ 8) ∧ (∀ k : Nat, 36 ≤ k → k ≤ 47 → (0 : Int) ≤ (fa0_15 k).toInt ∧ (fa0_15 k).toInt ≤ 999))) (bfa0_23 : (∀ k, (0 : Int) ≤ (fa0_23 k).toInt ∧ (fa0_23 k).toInt ≤ 80)) (bfa0_24 : (∀ k, (0 : Int) ≤ (fa0_24 k).toInt ∧ (fa0_24 k).toInt ≤ 80)) (bfa0_17 : ((∀ k : Nat, 0 ≤ k → k ≤ 8 → (0 : Int) ≤ (fa0_17 k).toInt ∧ (fa0_17 k).toInt ≤ 8) ∧ (∀ k : Nat, 19 ≤ k → k ≤ 19 → (0 : Int) ≤ (fa0_17 k).toInt ∧ (fa0_17 k).toInt ≤ 8) ∧ (∀ k : Nat, 20 ≤ k → k ≤ 20 → (0 : Int) ≤ (fa0_17 k).toInt ∧ (fa0_17 k).toInt ≤ 19))) (bfa0_18 : ((∀ k : Nat, 0 ≤ k → k ≤ 8 → (0 : Int) ≤ (fa0_18 k).toInt ∧ (fa0_18 k).toInt ≤ 8) ∧ (∀ k : Nat, 19 ≤ k → k ≤ 19 → (0 : Int) ≤ (fa0_18 k).toInt ∧ (fa0_18 k).toInt ≤ 8) ∧ (∀ k : Nat, 20 ≤ k → k ≤ 20 → (0 : Int) ≤ (fa0_18 k).toInt ∧ (fa0_18 k).toInt ≤ 19))) (hkm : ∀ (j i0 i : Int32), (0 : Int) ≤ j.toInt → j.toInt ≤ 8 → i0.toInt = 12 + 2 * j.toInt → i.toInt = 13 + 2 * j.toInt → (fa0_15 i0.toNatClampNeg).toInt = (1 : Int32).toInt → (1 : Int) ≤ (fa0_15 i.toNatClampNeg).toInt) : zm l yX8_routeAt wsX8_routeAt ({ frames := 5, cells := 0, slots := 0, locals := 118 }) [.ref a0, .int a1, .int a2, .int a3] dC dI sz [(a0, .inr (8, [Value.int a0_0, a0g_1, a0g_2, a0g_3, a0g_4, a0g_5, a0g_6, a0g_7, a0g_8, a0g_9, a0g_10, Value.int a0_11, a0g_12, a0g_13, Value.int a0_14, Value.ref a0_15, a0g_16, Value.ref a0_17, Value.ref a0_18, a0g_19, a0g_20, a0g_21, a0g_22, Value.ref a0_23, Value.ref a0_24, Value.int a0_25, Value.int a0_26, Value.int a0_27, Value.int a0_28, a0g_29, a0g_30, a0g_31, Value.ref a0_32, Value.ref a0_33, a0g_34, a0g_35, a0g_36, a0g_37, a0g_38, a0g_39])), (a0_15, .inl (ka0_15, 156, .inl (fa0_15))), (a0_23, .inl (ka0_23, 3, .inl (fa0_23))), (a0_24, .inl (ka0_24, 3, .inl (fa0_24))), (a0_17, .inl (ka0_17, 23, .inl (fa0_17))), (a0_18, .inl (ka0_18, 23, .inl (fa0_18))), (a0_32, .inl (ka0_32, 61, .inl (fa0_32))), (a0_33, .inl (ka0_33, 620, .inl (fa0_33)))] [(ka0_15, .int), (ka0_23, .int), (ka0_24, .int), (ka0_17, .int), (ka0_18, .int), (ka0_32, .int), (ka0_33, .int)] (fun A _ => True) (fun A => va_Qi (fun (r : Int32) (_ : Unit) => (-1 : Int) ≤ r.toInt ∧ r.toInt ≤ (8 : Int)) (fun (_ : Unit) (t : State) => ∃ na0_0 : Int32, ∃ na0_11 : Int32, ∃ na0_25 : Int32, ∃ na0_26 : Int32, ∃ na0_27 : Int32, ∃ na0_28 : Int32, ∃ nfa0_23 : Nat → Int32, ∃ nfa0_24 : Nat → Int32, ∃ nfa0_18 : Nat → Int32, ∃ nfa0_32 : Nat → Int32, ∃ nfa0_33 : Nat → Int32, (∀ k, (0 : Int) ≤ (nfa0_23 k).toInt ∧ (nfa0_23 k).toInt ≤ 80) ∧ (∀ k, (0 : Int) ≤ (nfa0_24 k).toInt ∧ (nfa0_24 k).toInt ≤ 80) ∧ ((∀ k : Nat, 0 ≤ k → k ≤ 8 → (0 : Int) ≤ (nfa0_18 k).toInt ∧ (nfa0_18 k).toInt ≤ 8) ∧ (∀ k : Nat, 19 ≤ k → k ≤ 19 → (0 : Int) ≤ (nfa0_18 k).toInt ∧ (nfa0_18 k).toInt ≤ 8) ∧ (∀ k : Nat, 20 ≤ k → k ≤ 20 → (0 : Int) ≤ (nfa0_18 k).toInt ∧ (nfa0_18 k).toInt ≤ 19)) ∧ ax_B dC dI A [(a0, .inr (8, [Value.int na0_0, a0g_1, a0g_2, a0g_3, a0g_4, a0g_5, a0g_6, a0g_7, a0g_8, a0g_9, a0g_10, Value.int na0_11, a0g_12, a0g_13, Value.int a0_14, Value.ref a0_15, a0g_16, Value.ref a0_17, Value.ref a0_18, a0g_19, a0g_20, a0g_21, a0g_22, Value.ref a0_23, Value.ref a0_24, Value.int na0_25, Value.int na0_26, Value.int na0_27, Value.int na0_28, a0g_29, a0g_30, a0g_31, Value.ref a0_32, Value.ref a0_33, a0g_34, a0g_35, a0g_36, a0g_37, a0g_38, a0g_39])), (a0_15, .inl (ka0_15, 156, .inl (fa0_15))), (a0_23, .inl (ka0_23, 3, .inl (nfa0_23))), (a0_24, .inl (ka0_24, 3, .inl (nfa0_24))), (a0_17, .inl (ka0_17, 23, .inl (fa0_17))), (a0_18, .inl (ka0_18, 23, .inl (nfa0_18))), (a0_32, .inl (ka0_32, 61, .inl (nfa0_32))), (a0_33, .inl (ka0_33, 620, .inl (nfa0_33)))] [(ka0_15, .int), (ka0_23, .int), (ka0_24, .int), (ka0_17, .int), (ka0_18, .int), (ka0_32, .int), (ka0_33, .int)] t) A) := by
  refine zh (cc := cX8_routeAt) (maxL := 7) (ret := (some .int)) zn_RX8 rfl (Nat.le_of_ble_eq_true rfl) (fun p e s m below meth c A ls hx hb hml hr hts (hown : s.vm.findClass RX8 = some m.cls) hlocks hA hS hP hK hD hE (hl : lv_has ls 7 [(0, .ref a0), (1, .int a1), (2, .int a2), (3, .int a3)]) => ?_)
  refine ai_open (fun K hK0 => ?_)
  refine (hK0 _ _ _).mpr ?_
  refine lv_aload_n hx hb dX8_routeAt_0 rfl (lv_at hl 0 rfl) ?_
  refine va_callv (va_runV (As := []) (rest := []) ⟨hx, hb, hml, hown, hts⟩ (c_X8_good l dC dI s.heap.size a0 a0_0 a0g_1 a0g_2 a0g_3 a0g_4 a0g_5 a0g_6 a0g_7 a0g_8 a0g_9 a0g_10 a0g_12 a0g_13 (Value.int a0_14) (Value.ref a0_15) a0g_16 (Value.ref a0_17) (Value.ref a0_18) a0g_19 a0g_20 a0g_21 a0g_22 (Value.ref a0_23) (Value.ref a0_24) (Value.int a0_25) (Value.int a0_26) (Value.int a0_27) (Value.int a0_28) a0g_29 a0g_30 a0g_31 (Value.ref a0_32) (Value.ref a0_33) a0g_34 a0g_35 a0g_36 a0g_37 a0g_38 a0g_39 a0_11 ) (cwV 0 hts gX8_routeAt_X8_good rfl rfl rfl zd_X8_good ⟨Nat.le_of_ble_eq_true rfl, Nat.le_of_ble_eq_true rfl⟩) ⟨ax_blind (fun _ _ _ _ _ => trivial), zr_8 (zp_K hK) (zp_P1 hP) (q0 := 0) rfl, ax_pre (zp_P1 hP) (zp_K hK) (zp_D1 hD) (fun _ _ => trivial)⟩ rfl rfl hl.1 rfl (lv_room (Nat.le_of_ble_eq_true rfl)) dX8_routeAt_1 ⟨Nat.le_of_ble_eq_true rfl, Nat.le_of_ble_eq_true rfl⟩) hS (fun q _ h => zp_F1 hD hS hA q h) (zp_F1 hD hS hA) (fun u t H locs ht hvm hw hB hz1 hk1 hS1 => zx_2 hB (fun v1na0_0 v1na0_11 hB => zo1 hB ht hP hD hk1 (zp_F1 hD hS hA) hS1 (fun hP hK1 hD hS => ?_)))
  refine lv_aload_n hx hb dX8_routeAt_4 rfl (lv_at hl 0 rfl) ?_
  refine lv_iload_n hx hb dX8_routeAt_5 rfl (lv_at hl 1 rfl) ?_
  refine lv_iload_n hx hb dX8_routeAt_6 rfl (lv_at hl 2 rfl) ?_
  have hKc := hK.sub (tys' := [(ka0_15, .int)]) [0] rfl
  refine va_calli (va_runV (As := [.int a1, .int a2]) (rest := []) ⟨hx, hb, hml, hown, hts⟩ (c_X8_routeWhy l dC dI H.size a0 a1 a2 (Value.int v1na0_0) a0g_1 a0g_2 a0g_3 a0g_4 a0g_5 a0g_6 a0g_7 a0g_8 a0g_9 a0g_10 (Value.int v1na0_11) a0g_12 a0g_13 a0g_16 (Value.ref a0_17) (Value.ref a0_18) a0g_19 a0g_20 a0g_21 a0g_22 (Value.ref a0_23) (Value.ref a0_24) (Value.int a0_25) (Value.int a0_26) (Value.int a0_27) (Value.int a0_28) a0g_29 a0g_30 a0g_31 (Value.ref a0_32) (Value.ref a0_33) a0g_34 a0g_35 a0g_36 a0g_37 a0g_38 a0g_39 a0_14 a0_15 ka0_15 fa0_15 ba0_14_l ba0_14_u bfa0_15) (cwV 2 hts gX8_routeAt_X8_routeWhy rfl rfl rfl zd_X8_routeWhy ⟨Nat.le_of_ble_eq_true rfl, Nat.le_of_ble_eq_true rfl⟩) ⟨ax_blind (fun _ _ _ _ _ => trivial), zr_8 hKc (zp_P2 hP) (q0 := 0) rfl, ax_pre (zp_P2 hP) hKc (zp_D2 hD) (fun _ _ => trivial)⟩ rfl rfl hl.1 rfl (lv_room (Nat.le_of_ble_eq_true rfl)) dX8_routeAt_7 ⟨Nat.le_of_ble_eq_true rfl, Nat.le_of_ble_eq_true rfl⟩) hS (fun q _ h => zp_F2 hD hS hA q h) (zp_F2 hD hS hA) (fun r7 u t H locs ht hvm hw hB hz1 hk1 hS1 => zo2 hB ht hP hD hk1 (zp_F2 hD hS hA) hS1 (fun hP hK1 hD hS => ?_))
  rcases hw with hw | hw | hw
  · obtain ⟨hw, h7_0, h7_1⟩ := hw
    subst hw
    have l7k0_a1 : (0 : Int) ≤ a1.toInt := h7_0
    have u7k0_a1 : a1.toInt ≤ (8 : Int) := h7_1
    refine lv_istore (lv' := [(4, .int 2), (0, .ref a0), (1, .int a1), (2, .int a2), (3, .int a3)]) hx hb dX8_routeAt_10 hl (by decide) rfl (fun ls hl => ?_)
    refine lv_iload hx hb dX8_routeAt_12 (lv_at hl 0 rfl) ?_
    refine lv_if_ne (tgt := 29) hx hb dX8_routeAt_14 (by decide) (fun _ => ?_) (fun c14 => absurd c14 (by decide +kernel))
    refine lv_iload hx hb dX8_routeAt_29 (lv_at hl 0 rfl) ?_
    refine lv_if_eq (tgt := 41) hx hb dX8_routeAt_31 (by decide) (fun c31 => absurd c31 (by decide +kernel)) (fun _ => ?_)
    refine lv_aload_n hx hb dX8_routeAt_34 rfl (lv_at hl 1 rfl) ?_
    refine lv_iload hx hb dX8_routeAt_35 (lv_at hl 0 rfl) ?_
    refine va_calli (va_runV (As := [.int 2]) (rest := []) ⟨hx, hb, hml, hown, hts⟩ (c_X8_no l dC dI H.size a0 2 (Value.int v1na0_0) a0g_1 a0g_2 a0g_3 a0g_4 a0g_5 a0g_6 a0g_7 a0g_8 a0g_9 a0g_10 a0g_12 a0g_13 (Value.int a0_14) (Value.ref a0_15) a0g_16 (Value.ref a0_17) (Value.ref a0_18) a0g_19 a0g_20 a0g_21 a0g_22 (Value.ref a0_23) (Value.ref a0_24) (Value.int a0_25) (Value.int a0_26) (Value.int a0_27) (Value.int a0_28) a0g_29 a0g_30 a0g_31 (Value.ref a0_32) (Value.ref a0_33) a0g_34 a0g_35 a0g_36 a0g_37 a0g_38 a0g_39 v1na0_11 ) (cwV 1 hts gX8_routeAt_X8_no rfl rfl rfl zd_X8_no ⟨Nat.le_of_ble_eq_true rfl, Nat.le_of_ble_eq_true rfl⟩) ⟨ax_blind (fun _ _ _ _ _ => trivial), zr_8 (zp_K hK) (zp_P1 hP) (q0 := 0) rfl, ax_pre (zp_P1 hP) (zp_K hK) (zp_D1 hD) (fun _ _ => trivial)⟩ rfl rfl hl.1 rfl (lv_room (Nat.le_of_ble_eq_true rfl)) dX8_routeAt_37 ⟨Nat.le_of_ble_eq_true rfl, Nat.le_of_ble_eq_true rfl⟩) hS (fun q _ h => zp_F1 hD hS hA q h) (zp_F1 hD hS hA) (fun r37 u t H locs ht hvm hw hB hz1 hk1 hS1 => zx_1 hB (fun v37na0_11 hB => zo1 hB ht hP hD hk1 (zp_F1 hD hS hA) hS1 (fun hP hK1 hD hS => ?_)))
    have hw : r37 = (-1) := hw
    have hw := hw.symm
    subst hw
    exact W.iret (v := (-1)) hx hb hr (fun t ht hW => ⟨⟨(-1), (), rfl, ⟨zq70, (Int.le_trans zq71 zq72)⟩, v1na0_0, v37na0_11, a0_25, a0_26, a0_27, a0_28, fa0_23, fa0_24, fa0_18, fa0_32, fa0_33, bfa0_23, bfa0_24, bfa0_18, by rw [ht]; exact hP, va_K.moved hW.alike hK, hD⟩, hS.F ht⟩) hS.2.2 dX8_routeAt_40
  · subst hw
    refine lv_istore (lv' := [(4, .int 1), (0, .ref a0), (1, .int a1), (2, .int a2), (3, .int a3)]) hx hb dX8_routeAt_10 hl (by decide) rfl (fun ls hl => ?_)
    refine lv_iload hx hb dX8_routeAt_12 (lv_at hl 0 rfl) ?_
    refine lv_if_ne (tgt := 29) hx hb dX8_routeAt_14 (by decide) (fun _ => ?_) (fun c14 => absurd c14 (by decide +kernel))
    refine lv_iload hx hb dX8_routeAt_29 (lv_at hl 0 rfl) ?_
    refine lv_if_eq (tgt := 41) hx hb dX8_routeAt_31 (by decide) (fun c31 => absurd c31 (by decide +kernel)) (fun _ => ?_)
    refine lv_aload_n hx hb dX8_routeAt_34 rfl (lv_at hl 1 rfl) ?_
    refine lv_iload hx hb dX8_routeAt_35 (lv_at hl 0 rfl) ?_
    refine va_calli (va_runV (As := [.int 1]) (rest := []) ⟨hx, hb, hml, hown, hts⟩ (c_X8_no l dC dI H.size a0 1 (Value.int v1na0_0) a0g_1 a0g_2 a0g_3 a0g_4 a0g_5 a0g_6 a0g_7 a0g_8 a0g_9 a0g_10 a0g_12 a0g_13 (Value.int a0_14) (Value.ref a0_15) a0g_16 (Value.ref a0_17) (Value.ref a0_18) a0g_19 a0g_20 a0g_21 a0g_22 (Value.ref a0_23) (Value.ref a0_24) (Value.int a0_25) (Value.int a0_26) (Value.int a0_27) (Value.int a0_28) a0g_29 a0g_30 a0g_31 (Value.ref a0_32) (Value.ref a0_33) a0g_34 a0g_35 a0g_36 a0g_37 a0g_38 a0g_39 v1na0_11 ) (cwV 1 hts gX8_routeAt_X8_no rfl rfl rfl zd_X8_no ⟨Nat.le_of_ble_eq_true rfl, Nat.le_of_ble_eq_true rfl⟩) ⟨ax_blind (fun _ _ _ _ _ => trivial), zr_8 (zp_K hK) (zp_P1 hP) (q0 := 0) rfl, ax_pre (zp_P1 hP) (zp_K hK) (zp_D1 hD) (fun _ _ => trivial)⟩ rfl rfl hl.1 rfl (lv_room (Nat.le_of_ble_eq_true rfl)) dX8_routeAt_37 ⟨Nat.le_of_ble_eq_true rfl, Nat.le_of_ble_eq_true rfl⟩) hS (fun q _ h => zp_F1 hD hS hA q h) (zp_F1 hD hS hA) (fun r37 u t H locs ht hvm hw hB hz1 hk1 hS1 => zx_1 hB (fun v37na0_11 hB => zo1 hB ht hP hD hk1 (zp_F1 hD hS hA) hS1 (fun hP hK1 hD hS => ?_)))
    have hw : r37 = (-1) := hw
    have hw := hw.symm
    subst hw
    exact W.iret (v := (-1)) hx hb hr (fun t ht hW => ⟨⟨(-1), (), rfl, ⟨zq70, (Int.le_trans zq71 zq72)⟩, v1na0_0, v37na0_11, a0_25, a0_26, a0_27, a0_28, fa0_23, fa0_24, fa0_18, fa0_32, fa0_33, bfa0_23, bfa0_24, bfa0_18, by rw [ht]; exact hP, va_K.moved hW.alike hK, hD⟩, hS.F ht⟩) hS.2.2 dX8_routeAt_40
  · obtain ⟨hw, h7_0, h7_1, h7_2, h7_3⟩ := hw
    subst hw
    have l7k2_a1 : (0 : Int) ≤ a1.toInt := h7_0
    have u7k2_a1 : a1.toInt ≤ (8 : Int) := h7_1
    have l7k2_a2 : (1 : Int) ≤ a2.toInt := h7_2
    have u7k2_a2 : a2.toInt ≤ (60 : Int) := h7_3
    refine lv_istore (lv' := [(4, .int 0), (0, .ref a0), (1, .int a1), (2, .int a2), (3, .int a3)]) hx hb dX8_routeAt_10 hl (by decide) rfl (fun ls hl => ?_)
    refine lv_iload hx hb dX8_routeAt_12 (lv_at hl 0 rfl) ?_
    refine lv_if_ne (tgt := 29) hx hb dX8_routeAt_14 (by decide) (fun c14 => absurd (by decide +kernel) c14) (fun _ => ?_)
    refine lv_iload_n hx hb dX8_routeAt_17 rfl (lv_at hl 4 rfl) ?_
    refine lv_iconst (v := 1) hx hb dX8_routeAt_18 zk_iconst_1 ?_
    refine lv_iload_n hx hb dX8_routeAt_19 rfl (lv_at hl 3 rfl) ?_
    refine va_calli (va_runS (As := [.int a3, .int 1, .int a2]) (rest := []) ⟨hx, hb, hml, hown, hts⟩ (c_X8_in l dC dI H.size a3 1 a2 ) (va_cwS 3 hts gX8_routeAt_X8_in rfl rfl rfl zd_X8_in.2 ⟨Nat.le_of_ble_eq_true rfl, Nat.le_of_ble_eq_true rfl⟩) ⟨ax_blind (fun _ _ _ _ _ => trivial), ax_pre (zp_P0 hP) (zp_K hK) (zp_D0 hD) (fun _ _ => trivial)⟩ rfl rfl hl.1 rfl (lv_room (Nat.le_of_ble_eq_true rfl)) dX8_routeAt_20 ⟨Nat.le_of_ble_eq_true rfl, Nat.le_of_ble_eq_true rfl⟩) hS (fun q _ h => zp_F0 hD hS hA q h) (zp_F0 hD hS hA) (fun r20 u t H locs ht hvm hw hB hz1 hk1 hS1 => zo0 hB ht hP hD hk1 (zp_F0 hD hS hA) hS1 (fun hP hK1 hD hS => ?_))
    rcases hw with hw | hw
    · obtain ⟨hw, h20⟩ := hw
      subst hw
      have l20k0_a3 : (1 : Int) ≤ a3.toInt := Int.le_trans zq1 h20.1
      have u20k0_a3 : a3.toInt ≤ (60 : Int) := Int.le_trans h20.2 u7k2_a2
      have l20k0_a2 : (1 : Int) ≤ a2.toInt := l7k2_a2
      refine lv_if_ne (tgt := 29) hx hb dX8_routeAt_23 (by decide) (fun _ => ?_) (fun c23 => absurd c23 (by decide +kernel))
      refine lv_iload hx hb dX8_routeAt_29 (lv_at hl 0 rfl) ?_
      refine lv_if_eq (tgt := 41) hx hb dX8_routeAt_31 (by decide) (fun _ => ?_) (fun c31 => absurd (by decide +kernel) c31)
      refine lv_aload_n hx hb dX8_routeAt_41 rfl (lv_at hl 1 rfl) ?_
      refine lv_iload_n hx hb dX8_routeAt_42 rfl (lv_at hl 3 rfl) ?_
      have hKc := hK.sub (tys' := [(ka0_15, .int), (ka0_23, .int), (ka0_24, .int), (ka0_17, .int), (ka0_18, .int), (ka0_32, .int), (ka0_33, .int)]) [0, 1, 2, 3, 4, 5, 6] rfl
      refine va_callv (va_runV (As := [.int a2]) (rest := []) ⟨hx, hb, hml, hown, hts⟩ (c_X8_layRoute l dC dI H.size a0 a2 (Value.int v1na0_0) a0g_1 a0g_2 a0g_3 a0g_4 a0g_5 a0g_6 a0g_7 a0g_8 a0g_9 a0g_10 (Value.int v1na0_11) a0g_12 a0g_13 (Value.int a0_14) a0g_16 a0g_19 a0g_20 a0g_21 a0g_22 a0g_29 a0g_30 a0g_31 a0g_34 a0g_35 a0g_36 a0g_37 a0g_38 a0g_39 a0_15 a0_17 a0_18 a0_23 a0_24 a0_25 a0_26 a0_27 a0_28 a0_32 a0_33 ka0_15 fa0_15 ka0_23 fa0_23 ka0_24 fa0_24 ka0_17 fa0_17 ka0_18 fa0_18 ka0_32 fa0_32 ka0_33 fa0_33 l20k0_a2 u7k2_a2 bfa0_15 bfa0_23 bfa0_24 bfa0_17 bfa0_18 hkm) (cwV 1 hts gX8_routeAt_X8_layRoute rfl rfl rfl zd_X8_layRoute ⟨Nat.le_of_ble_eq_true rfl, Nat.le_of_ble_eq_true rfl⟩) ⟨ax_blind (fun _ _ _ _ _ => trivial), zr_8 hKc (zp_P8 hP) (q0 := 0) rfl, ax_pre (zp_P8 hP) hKc (zp_D8 hD) (fun _ _ => trivial)⟩ rfl rfl hl.1 rfl (lv_room (Nat.le_of_ble_eq_true rfl)) dX8_routeAt_43 ⟨Nat.le_of_ble_eq_true rfl, Nat.le_of_ble_eq_true rfl⟩) hS (fun q _ h => zp_F8 hD hS hA q h) (zp_F8 hD hS hA) (fun u t H locs ht hvm hw hB hz1 hk1 hS1 => zx_9 hB (fun v43na0_25 v43na0_26 v43na0_27 v43na0_28 v43nfa0_23 v43nfa0_24 v43nfa0_18 v43nfa0_32 v43nfa0_33 hB => zy_3 hB (fun bv43nfa0_23 bv43nfa0_24 bv43nfa0_18 hB => zo8 hB ht hP hD hk1 (zp_F8 hD hS hA) hS1 (fun hP hK1 hD hS => ?_))))
      refine lv_iload_n hx hb dX8_routeAt_46 rfl (lv_at hl 2 rfl) ?_
      refine lv_istore (lv' := [(5, .int a1), (4, .int 0), (0, .ref a0), (1, .int a1), (2, .int a2), (3, .int a3)]) hx hb dX8_routeAt_47 hl (by decide) rfl (fun ls hl => ?_)
      refine lv_iconst (v := 0) hx hb dX8_routeAt_49 zk_iconst_0 ?_
      refine lv_istore (lv' := [(6, .int 0), (5, .int a1), (4, .int 0), (0, .ref a0), (1, .int a1), (2, .int a2), (3, .int a3)]) hx hb dX8_routeAt_50 hl (by decide) rfl (fun ls hl => ?_)
      have J52 : ∀ (n : Nat) (j52l6 : Int32) (j52l5 : Int32) (H : Heap) (locs : List Loc) (ls : Array Slot), (61 : Int) - j52l6.toInt ≤ (n : Int) → (0 : Int) ≤ j52l6.toInt → j52l6.toInt ≤ (60 : Int) → (0 : Int) ≤ j52l5.toInt → j52l5.toInt ≤ (8 : Int) → va_P (dC, dI) vwCl [(a0, .inr (8, [Value.int v1na0_0, a0g_1, a0g_2, a0g_3, a0g_4, a0g_5, a0g_6, a0g_7, a0g_8, a0g_9, a0g_10, Value.int v1na0_11, a0g_12, a0g_13, Value.int a0_14, Value.ref a0_15, a0g_16, Value.ref a0_17, Value.ref a0_18, a0g_19, a0g_20, a0g_21, a0g_22, Value.ref a0_23, Value.ref a0_24, Value.int v43na0_25, Value.int v43na0_26, Value.int v43na0_27, Value.int v43na0_28, a0g_29, a0g_30, a0g_31, Value.ref a0_32, Value.ref a0_33, a0g_34, a0g_35, a0g_36, a0g_37, a0g_38, a0g_39])), (a0_15, .inl (ka0_15, 156, .inl (fa0_15))), (a0_23, .inl (ka0_23, 3, .inl (v43nfa0_23))), (a0_24, .inl (ka0_24, 3, .inl (v43nfa0_24))), (a0_17, .inl (ka0_17, 23, .inl (fa0_17))), (a0_18, .inl (ka0_18, 23, .inl (v43nfa0_18))), (a0_32, .inl (ka0_32, 61, .inl (v43nfa0_32))), (a0_33, .inl (ka0_33, 620, .inl (v43nfa0_33)))] H → va_D A [(a0, .inr (8, [Value.int v1na0_0, a0g_1, a0g_2, a0g_3, a0g_4, a0g_5, a0g_6, a0g_7, a0g_8, a0g_9, a0g_10, Value.int v1na0_11, a0g_12, a0g_13, Value.int a0_14, Value.ref a0_15, a0g_16, Value.ref a0_17, Value.ref a0_18, a0g_19, a0g_20, a0g_21, a0g_22, Value.ref a0_23, Value.ref a0_24, Value.int v43na0_25, Value.int v43na0_26, Value.int v43na0_27, Value.int v43na0_28, a0g_29, a0g_30, a0g_31, Value.ref a0_32, Value.ref a0_33, a0g_34, a0g_35, a0g_36, a0g_37, a0g_38, a0g_39])), (a0_15, .inl (ka0_15, 156, .inl (fa0_15))), (a0_23, .inl (ka0_23, 3, .inl (v43nfa0_23))), (a0_24, .inl (ka0_24, 3, .inl (v43nfa0_24))), (a0_17, .inl (ka0_17, 23, .inl (fa0_17))), (a0_18, .inl (ka0_18, 23, .inl (v43nfa0_18))), (a0_32, .inl (ka0_32, 61, .inl (v43nfa0_32))), (a0_33, .inl (ka0_33, 620, .inl (v43nfa0_33)))] → va_S A s.heap H locs → lv_has ls 7 [(0, .ref a0), (3, .int a3), (5, .int j52l5), (6, .int j52l6)] → K H locs (F0 m 52 ls []) := by
        intro n
        induction n with
        | zero =>
          intro j52l6 j52l5 H locs ls hm bj52l6_l bj52l6_u bj52l5_l bj52l5_u hP hD hS hl
          have h8 := ai_min j52l6
          have h9 := ai_max j52l6
          exact absurd hm (by omega)
        | succ n ih52 =>
          intro j52l6 j52l5 H locs ls hm bj52l6_l bj52l6_u bj52l5_l bj52l5_u hP hD hS hl
          refine (hK0 _ _ _).mpr ?_
          have hm52 := hm
          refine lv_iload hx hb dX8_routeAt_52 (lv_at hl 3 rfl) ?_
          refine lv_iload_n hx hb dX8_routeAt_54 rfl (lv_at hl 1 rfl) ?_
          refine lv_icmp_ge (tgt := 75) hx hb dX8_routeAt_55 (by decide) (fun c55 => ?_) (fun c55 => ?_)
          · have gc55 := ai_le c55
            have u55t_a3 : a3.toInt ≤ (60 : Int) := u20k0_a3
            have l55t_j52l6 : (1 : Int) ≤ j52l6.toInt := Int.le_trans l20k0_a3 gc55
            refine lv_iload hx hb dX8_routeAt_75 (lv_at hl 2 rfl) ?_
            exact W.iret (v := j52l5) hx hb hr (fun t ht hW => ⟨⟨j52l5, (), rfl, ⟨(Int.le_trans zq69 bj52l5_l), bj52l5_u⟩, v1na0_0, v1na0_11, v43na0_25, v43na0_26, v43na0_27, v43na0_28, v43nfa0_23, v43nfa0_24, v43nfa0_18, v43nfa0_32, v43nfa0_33, bv43nfa0_23, bv43nfa0_24, bv43nfa0_18, by rw [ht]; exact hP, va_K.moved hW.alike hK, hD⟩, hS.F ht⟩) hS.2.2 dX8_routeAt_77
          · have gc55 := ai_nle c55
            have u55f_j52l6 : j52l6.toInt ≤ (59 : Int) := ai_lthi gc55 u20k0_a3
            have l55f_a3 : (1 : Int) ≤ a3.toInt := l20k0_a3
            refine lv_aload_n hx hb dX8_routeAt_58 rfl (lv_at hl 0 rfl) ?_
            refine lv_iload hx hb dX8_routeAt_59 (lv_at hl 3 rfl) ?_
            refine lv_iload hx hb dX8_routeAt_61 (lv_at hl 2 rfl) ?_
            refine lv_iconst (v := 1) hx hb dX8_routeAt_63 zk_iconst_1 ?_
            refine zc_cutc (wc := [(a0, .inr (8, [Value.int v1na0_0, a0g_1, a0g_2, a0g_3, a0g_4, a0g_5, a0g_6, a0g_7, a0g_8, a0g_9, a0g_10, Value.int v1na0_11, a0g_12, a0g_13, Value.int a0_14, Value.ref a0_15, a0g_16, Value.ref a0_17, Value.ref a0_18, a0g_19, a0g_20, a0g_21, a0g_22, Value.ref a0_23, Value.ref a0_24, Value.int v43na0_25, Value.int v43na0_26, Value.int v43na0_27, Value.int v43na0_28, a0g_29, a0g_30, a0g_31, Value.ref a0_32, Value.ref a0_33, a0g_34, a0g_35, a0g_36, a0g_37, a0g_38, a0g_39])), (a0_15, .inl (ka0_15, 156, .inl (fa0_15))), (a0_33, .inl (ka0_33, 620, .inl (v43nfa0_33))), (a0_32, .inl (ka0_32, 61, .inl (v43nfa0_32)))]) hP hD hS hA [0, 1, 7, 6] (by decide +kernel) rfl (fun hPc hDc hFc hCc => ?_)
            have hKc := hK.sub (tys' := [(ka0_15, .int), (ka0_33, .int), (ka0_32, .int)]) [0, 6, 5] rfl
            refine va_calli (va_runV (As := [.int j52l6, .int j52l5, .int 1]) (rest := []) ⟨hx, hb, hml, hown, hts⟩ (c_X8_bestFromW l dC dI H.size a0 j52l6 j52l5 1 (Value.int v1na0_0) a0g_1 a0g_2 a0g_3 a0g_4 a0g_5 a0g_6 a0g_7 a0g_8 a0g_9 a0g_10 (Value.int v1na0_11) a0g_12 a0g_13 (Value.int a0_14) a0g_16 (Value.ref a0_17) (Value.ref a0_18) a0g_19 a0g_20 a0g_21 a0g_22 (Value.ref a0_23) (Value.ref a0_24) (Value.int v43na0_25) (Value.int v43na0_26) (Value.int v43na0_27) (Value.int v43na0_28) a0g_29 a0g_30 a0g_31 a0g_34 a0g_35 a0g_36 a0g_37 a0g_38 a0g_39 a0_15 a0_32 a0_33 ka0_15 fa0_15 ka0_33 v43nfa0_33 ka0_32 v43nfa0_32 bj52l6_l u55f_j52l6 bj52l5_l bj52l5_u zq1 zq0 bfa0_15) (cwV 3 hts gX8_routeAt_X8_bestFrom rfl rfl rfl zd_X8_bestFrom ⟨Nat.le_of_ble_eq_true rfl, Nat.le_of_ble_eq_true rfl⟩) ⟨ax_blind (fun _ _ _ _ _ => trivial), zr_8 hKc hPc (q0 := 0) rfl, ax_pre hPc hKc hDc (fun _ _ => trivial)⟩ rfl rfl hl.1 rfl (lv_room (Nat.le_of_ble_eq_true rfl)) dX8_routeAt_64 ⟨Nat.le_of_ble_eq_true rfl, Nat.le_of_ble_eq_true rfl⟩) hS (fun q _ h => hFc q h) hFc (fun r64 u t H locs ht hvm hw hB hz1 hk1 hS => zo hB ht (fun hP1 hK1 hD1 => ?_))
            refine zc_backc (w := [(a0, .inr (8, [Value.int v1na0_0, a0g_1, a0g_2, a0g_3, a0g_4, a0g_5, a0g_6, a0g_7, a0g_8, a0g_9, a0g_10, Value.int v1na0_11, a0g_12, a0g_13, Value.int a0_14, Value.ref a0_15, a0g_16, Value.ref a0_17, Value.ref a0_18, a0g_19, a0g_20, a0g_21, a0g_22, Value.ref a0_23, Value.ref a0_24, Value.int v43na0_25, Value.int v43na0_26, Value.int v43na0_27, Value.int v43na0_28, a0g_29, a0g_30, a0g_31, Value.ref a0_32, Value.ref a0_33, a0g_34, a0g_35, a0g_36, a0g_37, a0g_38, a0g_39])), (a0_15, .inl (ka0_15, 156, .inl (fa0_15))), (a0_23, .inl (ka0_23, 3, .inl (v43nfa0_23))), (a0_24, .inl (ka0_24, 3, .inl (v43nfa0_24))), (a0_17, .inl (ka0_17, 23, .inl (fa0_17))), (a0_18, .inl (ka0_18, 23, .inl (v43nfa0_18))), (a0_32, .inl (ka0_32, 61, .inl (v43nfa0_32))), (a0_33, .inl (ka0_33, 620, .inl (v43nfa0_33)))]) hP hD hCc hk1 hFc hP1 hD1 [.inr 0, .inr 1, .inl 2, .inl 3, .inl 4, .inl 5, .inr 3, .inr 2] (by decide +kernel) rfl (fun hP hD => ?_)
            have hw : (0 : Int) ≤ r64.toInt ∧ r64.toInt ≤ (8 : Int) := hw
            obtain ⟨h64_0, h64_1⟩ := hw
            refine lv_istore (lv' := [(5, .int r64), (0, .ref a0), (3, .int a3), (6, .int j52l6)]) hx hb dX8_routeAt_67 hl (by decide) rfl (fun ls hl => ?_)
            obtain ⟨x69, ex69⟩ : ∃ y : Int32, y = j52l6 + Int32.ofInt 1 := ⟨_, rfl⟩
            have qx69 : x69.toInt = j52l6.toInt + 1 := ai_inc ex69 (by decide) (by decide) u55f_j52l6 (by decide)
            have bx69 : (1 : Int) ≤ x69.toInt ∧ x69.toInt ≤ 60 := ⟨by rw [qx69]; exact Int.add_le_add bj52l6_l (Int.le_refl _), by rw [qx69]; exact Int.add_le_add u55f_j52l6 (Int.le_refl _)⟩
            refine lv_iinc (v := x69) (lv' := [(6, .int x69), (5, .int r64), (0, .ref a0), (3, .int a3)]) hx hb dX8_routeAt_69 hl (k := 3) rfl ex69.symm (by decide) rfl (fun ls hl => ?_)
            refine lv_goto (tgt := 52) hx hb dX8_routeAt_72 (by decide) ?_
            exact (hK0 _ _ _).mp (ih52 x69 r64 _ _ _ (by have h0 := qx69; omega) (Int.le_trans zq4 bx69.1) bx69.2 h64_0 h64_1 hP hD hS (lv_sub hl [2, 3, 1, 0] rfl))
      exact (hK0 _ _ _).mp (J52 61 0 a1 _ _ _ (by have h1 : (0 : Int) ≤ (0 : Int32).toInt := zq5; have h2 : (0 : Int32).toInt ≤ (0 : Int) := zq6; omega) zq5 (Int.le_trans zq6 zq128) l7k2_a1 u7k2_a1 hP hD hS (lv_sub hl [3, 6, 1, 0] rfl))
    · obtain ⟨hw, h20⟩ := hw
      subst hw
      refine lv_if_ne (tgt := 29) hx hb dX8_routeAt_23 (by decide) (fun c23 => absurd (by decide +kernel) c23) (fun _ => ?_)
      refine lv_iconst (v := 1) hx hb dX8_routeAt_26 zk_iconst_1 ?_
      refine lv_istore (lv' := [(4, .int 1), (0, .ref a0), (1, .int a1), (2, .int a2), (3, .int a3)]) hx hb dX8_routeAt_27 hl (by decide) rfl (fun ls hl => ?_)
      refine lv_iload hx hb dX8_routeAt_29 (lv_at hl 0 rfl) ?_
      refine lv_if_eq (tgt := 41) hx hb dX8_routeAt_31 (by decide) (fun c31 => absurd c31 (by decide +kernel)) (fun _ => ?_)
      refine lv_aload_n hx hb dX8_routeAt_34 rfl (lv_at hl 1 rfl) ?_
      refine lv_iload hx hb dX8_routeAt_35 (lv_at hl 0 rfl) ?_
      refine va_calli (va_runV (As := [.int 1]) (rest := []) ⟨hx, hb, hml, hown, hts⟩ (c_X8_no l dC dI H.size a0 1 (Value.int v1na0_0) a0g_1 a0g_2 a0g_3 a0g_4 a0g_5 a0g_6 a0g_7 a0g_8 a0g_9 a0g_10 a0g_12 a0g_13 (Value.int a0_14) (Value.ref a0_15) a0g_16 (Value.ref a0_17) (Value.ref a0_18) a0g_19 a0g_20 a0g_21 a0g_22 (Value.ref a0_23) (Value.ref a0_24) (Value.int a0_25) (Value.int a0_26) (Value.int a0_27) (Value.int a0_28) a0g_29 a0g_30 a0g_31 (Value.ref a0_32) (Value.ref a0_33) a0g_34 a0g_35 a0g_36 a0g_37 a0g_38 a0g_39 v1na0_11 ) (cwV 1 hts gX8_routeAt_X8_no rfl rfl rfl zd_X8_no ⟨Nat.le_of_ble_eq_true rfl, Nat.le_of_ble_eq_true rfl⟩) ⟨ax_blind (fun _ _ _ _ _ => trivial), zr_8 (zp_K hK) (zp_P1 hP) (q0 := 0) rfl, ax_pre (zp_P1 hP) (zp_K hK) (zp_D1 hD) (fun _ _ => trivial)⟩ rfl rfl hl.1 rfl (lv_room (Nat.le_of_ble_eq_true rfl)) dX8_routeAt_37 ⟨Nat.le_of_ble_eq_true rfl, Nat.le_of_ble_eq_true rfl⟩) hS (fun q _ h => zp_F1 hD hS hA q h) (zp_F1 hD hS hA) (fun r37 u t H locs ht hvm hw hB hz1 hk1 hS1 => zx_1 hB (fun v37na0_11 hB => zo1 hB ht hP hD hk1 (zp_F1 hD hS hA) hS1 (fun hP hK1 hD hS => ?_)))
      have hw : r37 = (-1) := hw
      have hw := hw.symm
      subst hw
      exact W.iret (v := (-1)) hx hb hr (fun t ht hW => ⟨⟨(-1), (), rfl, ⟨zq70, (Int.le_trans zq71 zq72)⟩, v1na0_0, v37na0_11, a0_25, a0_26, a0_27, a0_28, fa0_23, fa0_24, fa0_18, fa0_32, fa0_33, bfa0_23, bfa0_24, bfa0_18, by rw [ht]; exact hP, va_K.moved hW.alike hK, hD⟩, hS.F ht⟩) hS.2.2 dX8_routeAt_40

set_option maxHeartbeats 4000000 in
set_option maxRecDepth 100000 in
theorem c_X8_figureHas (l : Launch) (dC : Nat → ClassId) (dI : Nat → Nat → Nat) (sz : Nat) (a1 : Int32) (a2 : Int32) (a3 : Int32)  : zm l yX8_figureHas wsX8_figureHas ({ frames := 0, cells := 0, slots := 0, locals := 0 }) [.int a1, .int a2, .int a3] dC dI sz [] [] (fun A _ => True) (fun A => va_Qi (fun (r : Int32) (_ : Unit) => True) (fun (_ : Unit) (t : State) => ax_B dC dI A [] [] t) A) := by
  refine zh (cc := cX8_figureHas) (maxL := 3) (ret := (some .int)) zn_RX8 rfl (Nat.le_of_ble_eq_true rfl) (fun p e s m below meth c A ls hx hb hml hr hts (hown : s.vm.findClass RX8 = some m.cls) hlocks hA hS hP hK hD hE (hl : lv_has ls 3 [(0, .int a1), (1, .int a2), (2, .int a3)]) => ?_)
  refine lv_iload_n hx hb dX8_figureHas_0 rfl (lv_at hl 1 rfl) ?_
  refine lv_if_eq (tgt := 17) hx hb dX8_figureHas_1 (by decide) (fun c1 => ?_) (fun c1 => ?_)
  · have gc1 := ai_eq c1
    have u1t_a2 : a2.toInt ≤ (0 : Int) := Int.le_trans (Int.le_of_eq gc1) zq6
    have l1t_a2 : (0 : Int) ≤ a2.toInt := Int.le_trans zq5 (Int.le_of_eq gc1.symm)
    refine lv_iload_n hx hb dX8_figureHas_17 rfl (lv_at hl 2 rfl) ?_
    refine lv_if_eq (tgt := 25) hx hb dX8_figureHas_18 (by decide) (fun c18 => ?_) (fun c18 => ?_)
    · have gc18 := ai_eq c18
      have u18t_a3 : a3.toInt ≤ (0 : Int) := Int.le_trans (Int.le_of_eq gc18) zq6
      have l18t_a3 : (0 : Int) ≤ a3.toInt := Int.le_trans zq5 (Int.le_of_eq gc18.symm)
      refine lv_iconst (v := 0) hx hb dX8_figureHas_25 zk_iconst_0 ?_
      exact W.iret (v := 0) hx hb hr (fun t ht hW => ⟨⟨0, (), rfl, trivial, by rw [ht]; exact hP, va_K.moved hW.alike hK, hD⟩, hS.F ht⟩) hS.2.2 dX8_figureHas_26
    · have gc18 := ai_ne c18
      refine lv_iconst (v := 1) hx hb dX8_figureHas_21 zk_iconst_1 ?_
      refine lv_goto (tgt := 26) hx hb dX8_figureHas_22 (by decide) ?_
      exact W.iret (v := 1) hx hb hr (fun t ht hW => ⟨⟨1, (), rfl, trivial, by rw [ht]; exact hP, va_K.moved hW.alike hK, hD⟩, hS.F ht⟩) hS.2.2 dX8_figureHas_26
  · have gc1 := ai_ne c1
    refine lv_iload_n hx hb dX8_figureHas_4 rfl (lv_at hl 2 rfl) ?_
    refine lv_if_eq (tgt := 13) hx hb dX8_figureHas_5 (by decide) (fun c5 => ?_) (fun c5 => ?_)
    · have gc5 := ai_eq c5
      have u5t_a3 : a3.toInt ≤ (0 : Int) := Int.le_trans (Int.le_of_eq gc5) zq6
      have l5t_a3 : (0 : Int) ≤ a3.toInt := Int.le_trans zq5 (Int.le_of_eq gc5.symm)
      refine lv_iconst (v := 4) hx hb dX8_figureHas_13 zk_iconst_4 ?_
      refine lv_goto (tgt := 26) hx hb dX8_figureHas_14 (by decide) ?_
      exact W.iret (v := 4) hx hb hr (fun t ht hW => ⟨⟨4, (), rfl, trivial, by rw [ht]; exact hP, va_K.moved hW.alike hK, hD⟩, hS.F ht⟩) hS.2.2 dX8_figureHas_26
    · have gc5 := ai_ne c5
      refine lv_iload_n hx hb dX8_figureHas_8 rfl (lv_at hl 0 rfl) ?_
      refine lv_ineg hx hb dX8_figureHas_9 ?_
      refine lv_topi (fun x9 ex9 => ?_)
      refine lv_goto (tgt := 26) hx hb dX8_figureHas_10 (by decide) ?_
      exact W.iret (v := x9) hx hb hr (fun t ht hW => ⟨⟨x9, (), rfl, trivial, by rw [ht]; exact hP, va_K.moved hW.alike hK, hD⟩, hS.F ht⟩) hS.2.2 dX8_figureHas_26

set_option maxHeartbeats 4000000 in
set_option maxRecDepth 100000 in
theorem c_X8_otherHas (l : Launch) (dC : Nat → ClassId) (dI : Nat → Nat → Nat) (sz : Nat) (a1 : Int32) (a2 : Int32)  : zm l yX8_otherHas wsX8_otherHas ({ frames := 0, cells := 0, slots := 0, locals := 0 }) [.int a1, .int a2] dC dI sz [] [] (fun A _ => True) (fun A => va_Qi (fun (r : Int32) (_ : Unit) => (r = 3) ∨ (r = 1 ∧ (0 : Int) ≤ a1.toInt ∧ a1.toInt ≤ (0 : Int) ∧ (0 : Int) ≤ a2.toInt ∧ a2.toInt ≤ (0 : Int)) ∨ (r = 0 ∧ (0 : Int) ≤ a2.toInt ∧ a2.toInt ≤ (0 : Int)) ∨ (r = (-1) ∧ (0 : Int) ≤ a1.toInt ∧ a1.toInt ≤ (0 : Int))) (fun (_ : Unit) (t : State) => ax_B dC dI A [] [] t) A) := by
  refine zh (cc := cX8_otherHas) (maxL := 2) (ret := (some .int)) zn_RX8 rfl (Nat.le_of_ble_eq_true rfl) (fun p e s m below meth c A ls hx hb hml hr hts (hown : s.vm.findClass RX8 = some m.cls) hlocks hA hS hP hK hD hE (hl : lv_has ls 2 [(0, .int a1), (1, .int a2)]) => ?_)
  refine lv_iload_n hx hb dX8_otherHas_0 rfl (lv_at hl 0 rfl) ?_
  refine lv_if_eq (tgt := 16) hx hb dX8_otherHas_1 (by decide) (fun c1 => ?_) (fun c1 => ?_)
  · have gc1 := ai_eq c1
    have u1t_a1 : a1.toInt ≤ (0 : Int) := Int.le_trans (Int.le_of_eq gc1) zq6
    have l1t_a1 : (0 : Int) ≤ a1.toInt := Int.le_trans zq5 (Int.le_of_eq gc1.symm)
    refine lv_iload_n hx hb dX8_otherHas_16 rfl (lv_at hl 1 rfl) ?_
    refine lv_if_eq (tgt := 24) hx hb dX8_otherHas_17 (by decide) (fun c17 => ?_) (fun c17 => ?_)
    · have gc17 := ai_eq c17
      have u17t_a2 : a2.toInt ≤ (0 : Int) := Int.le_trans (Int.le_of_eq gc17) zq6
      have l17t_a2 : (0 : Int) ≤ a2.toInt := Int.le_trans zq5 (Int.le_of_eq gc17.symm)
      refine lv_iconst (v := 1) hx hb dX8_otherHas_24 zk_iconst_1 ?_
      exact W.iret (v := 1) hx hb hr (fun t ht hW => ⟨⟨1, (), rfl, (Or.inr (Or.inl ⟨rfl, l1t_a1, u1t_a1, l17t_a2, u17t_a2⟩)), by rw [ht]; exact hP, va_K.moved hW.alike hK, hD⟩, hS.F ht⟩) hS.2.2 dX8_otherHas_25
    · have gc17 := ai_ne c17
      refine lv_iconst (v := (-1)) hx hb dX8_otherHas_20 zk_iconst_n1 ?_
      refine lv_goto (tgt := 25) hx hb dX8_otherHas_21 (by decide) ?_
      exact W.iret (v := (-1)) hx hb hr (fun t ht hW => ⟨⟨(-1), (), rfl, (Or.inr (Or.inr (Or.inr (⟨rfl, l1t_a1, u1t_a1⟩)))), by rw [ht]; exact hP, va_K.moved hW.alike hK, hD⟩, hS.F ht⟩) hS.2.2 dX8_otherHas_25
  · have gc1 := ai_ne c1
    refine lv_iload_n hx hb dX8_otherHas_4 rfl (lv_at hl 1 rfl) ?_
    refine lv_if_eq (tgt := 12) hx hb dX8_otherHas_5 (by decide) (fun c5 => ?_) (fun c5 => ?_)
    · have gc5 := ai_eq c5
      have u5t_a2 : a2.toInt ≤ (0 : Int) := Int.le_trans (Int.le_of_eq gc5) zq6
      have l5t_a2 : (0 : Int) ≤ a2.toInt := Int.le_trans zq5 (Int.le_of_eq gc5.symm)
      refine lv_iconst (v := 0) hx hb dX8_otherHas_12 zk_iconst_0 ?_
      refine lv_goto (tgt := 25) hx hb dX8_otherHas_13 (by decide) ?_
      exact W.iret (v := 0) hx hb hr (fun t ht hW => ⟨⟨0, (), rfl, (Or.inr (Or.inr (Or.inl ⟨rfl, l5t_a2, u5t_a2⟩))), by rw [ht]; exact hP, va_K.moved hW.alike hK, hD⟩, hS.F ht⟩) hS.2.2 dX8_otherHas_25
    · have gc5 := ai_ne c5
      refine lv_iconst (v := 3) hx hb dX8_otherHas_8 zk_iconst_3 ?_
      refine lv_goto (tgt := 25) hx hb dX8_otherHas_9 (by decide) ?_
      exact W.iret (v := 3) hx hb hr (fun t ht hW => ⟨⟨3, (), rfl, (Or.inl (rfl)), by rw [ht]; exact hP, va_K.moved hW.alike hK, hD⟩, hS.F ht⟩) hS.2.2 dX8_otherHas_25

set_option maxHeartbeats 4000000 in
set_option maxRecDepth 100000 in
theorem c_X8_dares (l : Launch) (dC : Nat → ClassId) (dI : Nat → Nat → Nat) (sz : Nat) (a0 : Nat) (a1 : Int32) (a2 : Int32) (a3 : Int32) (a4 : Int32) (a0_0 : Int32) (a0g_1 a0g_2 a0g_3 a0g_4 a0g_5 a0g_6 a0g_7 a0g_8 a0g_9 a0g_10 a0g_12 a0g_13 a0g_15 a0g_16 a0g_17 a0g_18 a0g_19 a0g_20 a0g_21 a0g_22 a0g_23 a0g_24 a0g_25 a0g_26 a0g_27 a0g_28 a0g_29 a0g_30 a0g_31 a0g_32 a0g_33 a0g_34 a0g_35 a0g_36 a0g_37 a0g_38 a0g_39 : Value) (a0_11 : Int32) (a0_14 : Int32) (ba0_14_l : (1 : Int) ≤ a0_14.toInt) (ba0_14_u : a0_14.toInt ≤ (1 : Int)) : zm l yX8_dares wsX8_dares ({ frames := 1, cells := 0, slots := 0, locals := 22 }) [.ref a0, .int a1, .int a2, .int a3, .int a4] dC dI sz [(a0, .inr (8, [Value.int a0_0, a0g_1, a0g_2, a0g_3, a0g_4, a0g_5, a0g_6, a0g_7, a0g_8, a0g_9, a0g_10, Value.int a0_11, a0g_12, a0g_13, Value.int a0_14, a0g_15, a0g_16, a0g_17, a0g_18, a0g_19, a0g_20, a0g_21, a0g_22, a0g_23, a0g_24, a0g_25, a0g_26, a0g_27, a0g_28, a0g_29, a0g_30, a0g_31, a0g_32, a0g_33, a0g_34, a0g_35, a0g_36, a0g_37, a0g_38, a0g_39]))] [] (fun A _ => True) (fun A => va_Qi (fun (r : Int32) (_ : Unit) => True) (fun (_ : Unit) (t : State) => ∃ na0_0 : Int32, ∃ na0_11 : Int32, ax_B dC dI A [(a0, .inr (8, [Value.int na0_0, a0g_1, a0g_2, a0g_3, a0g_4, a0g_5, a0g_6, a0g_7, a0g_8, a0g_9, a0g_10, Value.int na0_11, a0g_12, a0g_13, Value.int a0_14, a0g_15, a0g_16, a0g_17, a0g_18, a0g_19, a0g_20, a0g_21, a0g_22, a0g_23, a0g_24, a0g_25, a0g_26, a0g_27, a0g_28, a0g_29, a0g_30, a0g_31, a0g_32, a0g_33, a0g_34, a0g_35, a0g_36, a0g_37, a0g_38, a0g_39]))] [] t) A) := by
  refine zh (cc := cX8_dares) (maxL := 6) (ret := (some .int)) zn_RX8 rfl (Nat.le_of_ble_eq_true rfl) (fun p e s m below meth c A ls hx hb hml hr hts (hown : s.vm.findClass RX8 = some m.cls) hlocks hA hS hP hK hD hE (hl : lv_has ls 6 [(0, .ref a0), (1, .int a1), (2, .int a2), (3, .int a3), (4, .int a4)]) => ?_)
  refine lv_aload_n hx hb dX8_dares_0 rfl (lv_at hl 0 rfl) ?_
  refine va_callv (va_runV (As := []) (rest := []) ⟨hx, hb, hml, hown, hts⟩ (c_X8_good l dC dI s.heap.size a0 a0_0 a0g_1 a0g_2 a0g_3 a0g_4 a0g_5 a0g_6 a0g_7 a0g_8 a0g_9 a0g_10 a0g_12 a0g_13 (Value.int a0_14) a0g_15 a0g_16 a0g_17 a0g_18 a0g_19 a0g_20 a0g_21 a0g_22 a0g_23 a0g_24 a0g_25 a0g_26 a0g_27 a0g_28 a0g_29 a0g_30 a0g_31 a0g_32 a0g_33 a0g_34 a0g_35 a0g_36 a0g_37 a0g_38 a0g_39 a0_11 ) (cwV 0 hts gX8_dares_X8_good rfl rfl rfl zd_X8_good ⟨Nat.le_of_ble_eq_true rfl, Nat.le_of_ble_eq_true rfl⟩) ⟨ax_blind (fun _ _ _ _ _ => trivial), zr_8 (zp_K hK) (zp_P1 hP) (q0 := 0) rfl, ax_pre (zp_P1 hP) (zp_K hK) (zp_D1 hD) (fun _ _ => trivial)⟩ rfl rfl hl.1 rfl (lv_room (Nat.le_of_ble_eq_true rfl)) dX8_dares_1 ⟨Nat.le_of_ble_eq_true rfl, Nat.le_of_ble_eq_true rfl⟩) hS (fun q _ h => zp_F1 hD hS hA q h) (zp_F1 hD hS hA) (fun u t H locs ht hvm hw hB hz1 hk1 hS1 => zx_2 hB (fun v1na0_0 v1na0_11 hB => zo1 hB ht hP hD hk1 (zp_F1 hD hS hA) hS1 (fun hP hK1 hD hS => ?_)))
  refine lv_aload_n hx hb dX8_dares_4 rfl (lv_at hl 0 rfl) ?_
  refine lv_aload_n hx hb dX8_dares_5 rfl (lv_at hl 0 rfl) ?_
  refine va_get (D := (dC, dI)) (ci := 8) (v := .int a0_14) (C := RX8) (T := TX8) (N := 40) hx hb hts zi_X8_dares_8 hown hK hP 0 rfl rfl 14 (by decide) (hts (.fieldLink RX8 173 "WaxTurnsModel" "hasGallery" "Z") (List.mem_cons_of_mem _ (List.mem_append_left _ (List.mem_of_getElem? (i := 0) rfl)))) (fun _ h9 => h9) rfl dX8_dares_6 ?_
  refine lv_iload_n hx hb dX8_dares_9 rfl (lv_at hl 1 rfl) ?_
  refine lv_iconst (v := 0) hx hb dX8_dares_10 zk_iconst_0 ?_
  refine lv_bipush (v := 9) hx hb dX8_dares_11 zk_bipush_9 ?_
  refine va_calli (va_runS (As := [.int a1, .int 0, .int 9]) (rest := [.int a0_14, .ref a0]) ⟨hx, hb, hml, hown, hts⟩ (c_X8_in l dC dI H.size a1 0 9 ) (va_cwS 3 hts gX8_dares_X8_in rfl rfl rfl zd_X8_in.2 ⟨Nat.le_of_ble_eq_true rfl, Nat.le_of_ble_eq_true rfl⟩) ⟨ax_blind (fun _ _ _ _ _ => trivial), ax_pre (zp_P0 hP) (zp_K hK) (zp_D0 hD) (fun _ _ => trivial)⟩ rfl rfl hl.1 rfl (lv_room (Nat.le_of_ble_eq_true rfl)) dX8_dares_13 ⟨Nat.le_of_ble_eq_true rfl, Nat.le_of_ble_eq_true rfl⟩) hS (fun q _ h => zp_F0 hD hS hA q h) (zp_F0 hD hS hA) (fun r13 u t H locs ht hvm hw hB hz1 hk1 hS1 => zo0 hB ht hP hD hk1 (zp_F0 hD hS hA) hS1 (fun hP hK1 hD hS => ?_))
  rcases hw with hw | hw
  · obtain ⟨hw, h13⟩ := hw
    subst hw
    have l13k0_a1 : (0 : Int) ≤ a1.toInt := Int.le_trans zq5 h13.1
    have u13k0_a1 : a1.toInt ≤ (9 : Int) := Int.le_trans h13.2 zq3
    refine va_calli (va_runV (As := [.int a0_14, .int 1]) (rest := []) ⟨hx, hb, hml, hown, hts⟩ (c_X8_whyB l dC dI H.size a0 a0_14 1 (Value.int v1na0_0) a0g_1 a0g_2 a0g_3 a0g_4 a0g_5 a0g_6 a0g_7 a0g_8 a0g_9 a0g_10 (Value.int v1na0_11) a0g_12 a0g_13 (Value.int a0_14) a0g_15 a0g_16 a0g_17 a0g_18 a0g_19 a0g_20 a0g_21 a0g_22 a0g_23 a0g_24 a0g_25 a0g_26 a0g_27 a0g_28 a0g_29 a0g_30 a0g_31 a0g_32 a0g_33 a0g_34 a0g_35 a0g_36 a0g_37 a0g_38 a0g_39 (Int.le_trans zq4 ba0_14_l) ba0_14_u (Int.le_trans zq4 zq1) zq0) (cwV 2 hts gX8_dares_X8_why rfl rfl rfl zd_X8_why ⟨Nat.le_of_ble_eq_true rfl, Nat.le_of_ble_eq_true rfl⟩) ⟨ax_blind (fun _ _ _ _ _ => trivial), zr_8 (zp_K hK) (zp_P1 hP) (q0 := 0) rfl, ax_pre (zp_P1 hP) (zp_K hK) (zp_D1 hD) (fun _ _ => trivial)⟩ rfl rfl hl.1 rfl (lv_room (Nat.le_of_ble_eq_true rfl)) dX8_dares_16 ⟨Nat.le_of_ble_eq_true rfl, Nat.le_of_ble_eq_true rfl⟩) hS (fun q _ h => zp_F1 hD hS hA q h) (zp_F1 hD hS hA) (fun r16 u t H locs ht hvm hw hB hz1 hk1 hS1 => zo1 hB ht hP hD hk1 (zp_F1 hD hS hA) hS1 (fun hP hK1 hD hS => ?_))
    rcases hw with hw | hw | hw
    · obtain ⟨hw, h16_0, h16_1, h16_2, h16_3⟩ := hw
      subst hw
      have l16k0_a0_14 : (1 : Int) ≤ a0_14.toInt := ba0_14_l
      have u16k0_a0_14 : a0_14.toInt ≤ (1 : Int) := ba0_14_u
      exact absurd h16_3 (by decide)
    · obtain ⟨hw, h16_0, h16_1⟩ := hw
      subst hw
      have l16k1_a0_14 : (1 : Int) ≤ a0_14.toInt := ba0_14_l
      have u16k1_a0_14 : a0_14.toInt ≤ (0 : Int) := h16_1
      exact absurd (Int.le_trans l16k1_a0_14 u16k1_a0_14) (by decide)
    · obtain ⟨hw, h16_0, h16_1, h16_2, h16_3⟩ := hw
      subst hw
      have l16k2_a0_14 : (1 : Int) ≤ a0_14.toInt := ba0_14_l
      have u16k2_a0_14 : a0_14.toInt ≤ (1 : Int) := ba0_14_u
      refine lv_istore (lv' := [(5, .int 0), (0, .ref a0), (1, .int a1), (2, .int a2), (3, .int a3), (4, .int a4)]) hx hb dX8_dares_19 hl (by decide) rfl (fun ls hl => ?_)
      refine lv_iload hx hb dX8_dares_21 (lv_at hl 0 rfl) ?_
      refine lv_if_ne (tgt := 46) hx hb dX8_dares_23 (by decide) (fun c23 => absurd (by decide +kernel) c23) (fun _ => ?_)
      refine lv_iload hx hb dX8_dares_26 (lv_at hl 5 rfl) ?_
      refine lv_if_eq (tgt := 39) hx hb dX8_dares_28 (by decide) (fun c28 => ?_) (fun c28 => ?_)
      · have gc28 := ai_eq c28
        have u28t_a4 : a4.toInt ≤ (0 : Int) := Int.le_trans (Int.le_of_eq gc28) zq6
        have l28t_a4 : (0 : Int) ≤ a4.toInt := Int.le_trans zq5 (Int.le_of_eq gc28.symm)
        refine lv_iload_n hx hb dX8_dares_39 rfl (lv_at hl 2 rfl) ?_
        refine lv_iload_n hx hb dX8_dares_40 rfl (lv_at hl 3 rfl) ?_
        refine lv_iload_n hx hb dX8_dares_41 rfl (lv_at hl 4 rfl) ?_
        refine va_calli (va_runS (As := [.int a1, .int a2, .int a3]) (rest := []) ⟨hx, hb, hml, hown, hts⟩ (c_X8_figureHas l dC dI H.size a1 a2 a3 ) (va_cwS 3 hts gX8_dares_X8_figureHas rfl rfl rfl zd_X8_figureHas.2 ⟨Nat.le_of_ble_eq_true rfl, Nat.le_of_ble_eq_true rfl⟩) ⟨ax_blind (fun _ _ _ _ _ => trivial), ax_pre (zp_P0 hP) (zp_K hK) (zp_D0 hD) (fun _ _ => trivial)⟩ rfl rfl hl.1 rfl (lv_room (Nat.le_of_ble_eq_true rfl)) dX8_dares_42 ⟨Nat.le_of_ble_eq_true rfl, Nat.le_of_ble_eq_true rfl⟩) hS (fun q _ h => zp_F0 hD hS hA q h) (zp_F0 hD hS hA) (fun r42 u t H locs ht hvm hw hB hz1 hk1 hS1 => zo0 hB ht hP hD hk1 (zp_F0 hD hS hA) hS1 (fun hP hK1 hD hS => ?_))
        exact W.iret (v := r42) hx hb hr (fun t ht hW => ⟨⟨r42, (), rfl, trivial, v1na0_0, v1na0_11, by rw [ht]; exact hP, va_K.moved hW.alike hK, hD⟩, hS.F ht⟩) hS.2.2 dX8_dares_45
      · have gc28 := ai_ne c28
        refine lv_iload_n hx hb dX8_dares_31 rfl (lv_at hl 3 rfl) ?_
        refine lv_iload_n hx hb dX8_dares_32 rfl (lv_at hl 4 rfl) ?_
        refine va_calli (va_runS (As := [.int a2, .int a3]) (rest := []) ⟨hx, hb, hml, hown, hts⟩ (c_X8_otherHas l dC dI H.size a2 a3 ) (va_cwS 2 hts gX8_dares_X8_otherHas rfl rfl rfl zd_X8_otherHas.2 ⟨Nat.le_of_ble_eq_true rfl, Nat.le_of_ble_eq_true rfl⟩) ⟨ax_blind (fun _ _ _ _ _ => trivial), ax_pre (zp_P0 hP) (zp_K hK) (zp_D0 hD) (fun _ _ => trivial)⟩ rfl rfl hl.1 rfl (lv_room (Nat.le_of_ble_eq_true rfl)) dX8_dares_33 ⟨Nat.le_of_ble_eq_true rfl, Nat.le_of_ble_eq_true rfl⟩) hS (fun q _ h => zp_F0 hD hS hA q h) (zp_F0 hD hS hA) (fun r33 u t H locs ht hvm hw hB hz1 hk1 hS1 => zo0 hB ht hP hD hk1 (zp_F0 hD hS hA) hS1 (fun hP hK1 hD hS => ?_))
        rcases hw with hw | hw | hw | hw
        · subst hw
          refine lv_goto (tgt := 45) hx hb dX8_dares_36 (by decide) ?_
          exact W.iret (v := 3) hx hb hr (fun t ht hW => ⟨⟨3, (), rfl, trivial, v1na0_0, v1na0_11, by rw [ht]; exact hP, va_K.moved hW.alike hK, hD⟩, hS.F ht⟩) hS.2.2 dX8_dares_45
        · obtain ⟨hw, h33_0, h33_1, h33_2, h33_3⟩ := hw
          subst hw
          have l33k1_a2 : (0 : Int) ≤ a2.toInt := h33_0
          have u33k1_a2 : a2.toInt ≤ (0 : Int) := h33_1
          have l33k1_a3 : (0 : Int) ≤ a3.toInt := h33_2
          have u33k1_a3 : a3.toInt ≤ (0 : Int) := h33_3
          refine lv_goto (tgt := 45) hx hb dX8_dares_36 (by decide) ?_
          exact W.iret (v := 1) hx hb hr (fun t ht hW => ⟨⟨1, (), rfl, trivial, v1na0_0, v1na0_11, by rw [ht]; exact hP, va_K.moved hW.alike hK, hD⟩, hS.F ht⟩) hS.2.2 dX8_dares_45
        · obtain ⟨hw, h33_0, h33_1⟩ := hw
          subst hw
          have l33k2_a3 : (0 : Int) ≤ a3.toInt := h33_0
          have u33k2_a3 : a3.toInt ≤ (0 : Int) := h33_1
          refine lv_goto (tgt := 45) hx hb dX8_dares_36 (by decide) ?_
          exact W.iret (v := 0) hx hb hr (fun t ht hW => ⟨⟨0, (), rfl, trivial, v1na0_0, v1na0_11, by rw [ht]; exact hP, va_K.moved hW.alike hK, hD⟩, hS.F ht⟩) hS.2.2 dX8_dares_45
        · obtain ⟨hw, h33_0, h33_1⟩ := hw
          subst hw
          have l33k3_a2 : (0 : Int) ≤ a2.toInt := h33_0
          have u33k3_a2 : a2.toInt ≤ (0 : Int) := h33_1
          refine lv_goto (tgt := 45) hx hb dX8_dares_36 (by decide) ?_
          exact W.iret (v := (-1)) hx hb hr (fun t ht hW => ⟨⟨(-1), (), rfl, trivial, v1na0_0, v1na0_11, by rw [ht]; exact hP, va_K.moved hW.alike hK, hD⟩, hS.F ht⟩) hS.2.2 dX8_dares_45
  · obtain ⟨hw, h13⟩ := hw
    subst hw
    refine va_calli (va_runV (As := [.int a0_14, .int 0]) (rest := []) ⟨hx, hb, hml, hown, hts⟩ (c_X8_whyB l dC dI H.size a0 a0_14 0 (Value.int v1na0_0) a0g_1 a0g_2 a0g_3 a0g_4 a0g_5 a0g_6 a0g_7 a0g_8 a0g_9 a0g_10 (Value.int v1na0_11) a0g_12 a0g_13 (Value.int a0_14) a0g_15 a0g_16 a0g_17 a0g_18 a0g_19 a0g_20 a0g_21 a0g_22 a0g_23 a0g_24 a0g_25 a0g_26 a0g_27 a0g_28 a0g_29 a0g_30 a0g_31 a0g_32 a0g_33 a0g_34 a0g_35 a0g_36 a0g_37 a0g_38 a0g_39 (Int.le_trans zq4 ba0_14_l) ba0_14_u zq5 (Int.le_trans zq6 zq4)) (cwV 2 hts gX8_dares_X8_why rfl rfl rfl zd_X8_why ⟨Nat.le_of_ble_eq_true rfl, Nat.le_of_ble_eq_true rfl⟩) ⟨ax_blind (fun _ _ _ _ _ => trivial), zr_8 (zp_K hK) (zp_P1 hP) (q0 := 0) rfl, ax_pre (zp_P1 hP) (zp_K hK) (zp_D1 hD) (fun _ _ => trivial)⟩ rfl rfl hl.1 rfl (lv_room (Nat.le_of_ble_eq_true rfl)) dX8_dares_16 ⟨Nat.le_of_ble_eq_true rfl, Nat.le_of_ble_eq_true rfl⟩) hS (fun q _ h => zp_F1 hD hS hA q h) (zp_F1 hD hS hA) (fun r16 u t H locs ht hvm hw hB hz1 hk1 hS1 => zo1 hB ht hP hD hk1 (zp_F1 hD hS hA) hS1 (fun hP hK1 hD hS => ?_))
    rcases hw with hw | hw | hw
    · obtain ⟨hw, h16_0, h16_1, h16_2, h16_3⟩ := hw
      subst hw
      have l16k0_a0_14 : (1 : Int) ≤ a0_14.toInt := ba0_14_l
      have u16k0_a0_14 : a0_14.toInt ≤ (1 : Int) := ba0_14_u
      refine lv_istore (lv' := [(5, .int 2), (0, .ref a0), (1, .int a1), (2, .int a2), (3, .int a3), (4, .int a4)]) hx hb dX8_dares_19 hl (by decide) rfl (fun ls hl => ?_)
      refine lv_iload hx hb dX8_dares_21 (lv_at hl 0 rfl) ?_
      refine lv_if_ne (tgt := 46) hx hb dX8_dares_23 (by decide) (fun _ => ?_) (fun c23 => absurd c23 (by decide +kernel))
      refine lv_aload_n hx hb dX8_dares_46 rfl (lv_at hl 1 rfl) ?_
      refine lv_iload hx hb dX8_dares_47 (lv_at hl 0 rfl) ?_
      refine va_put (D := (dC, dI)) (ci := 8) (v := .int 2) (ty := .int) (C := RX8) (T := TX8) (N := 40) hx hb hts zi_X8_dares_8 tyX8 tyX8_ok nmX8 hown hK hP hD hS 0 rfl rfl 11 (by decide) (hts (.fieldLink RX8 62 "WaxTurnsModel" "trouble" "I") (List.mem_cons_of_mem _ (List.mem_append_left _ (List.mem_of_getElem? (i := 1) rfl)))) (fun _ h9 => h9) rfl (tyX8_ok 11 (by decide)) rfl rfl (Nat.le_of_ble_eq_true rfl) dX8_dares_49 (fun H locs hP hD hS => ?_)
      refine zs_0 (y := (a0, .inr (8, [Value.int v1na0_0, a0g_1, a0g_2, a0g_3, a0g_4, a0g_5, a0g_6, a0g_7, a0g_8, a0g_9, a0g_10, Value.int 2, a0g_12, a0g_13, Value.int a0_14, a0g_15, a0g_16, a0g_17, a0g_18, a0g_19, a0g_20, a0g_21, a0g_22, a0g_23, a0g_24, a0g_25, a0g_26, a0g_27, a0g_28, a0g_29, a0g_30, a0g_31, a0g_32, a0g_33, a0g_34, a0g_35, a0g_36, a0g_37, a0g_38, a0g_39]))) hP hD rfl (fun hP hD => ?_)
      refine lv_bipush (v := (-100)) hx hb dX8_dares_52 zk_bipush_n100 ?_
      exact W.iret (v := (-100)) hx hb hr (fun t ht hW => ⟨⟨(-100), (), rfl, trivial, v1na0_0, 2, by rw [ht]; exact hP, va_K.moved hW.alike hK, hD⟩, hS.F ht⟩) hS.2.2 dX8_dares_54
    · obtain ⟨hw, h16_0, h16_1⟩ := hw
      subst hw
      have l16k1_a0_14 : (1 : Int) ≤ a0_14.toInt := ba0_14_l
      have u16k1_a0_14 : a0_14.toInt ≤ (0 : Int) := h16_1
      exact absurd (Int.le_trans l16k1_a0_14 u16k1_a0_14) (by decide)
    · obtain ⟨hw, h16_0, h16_1, h16_2, h16_3⟩ := hw
      subst hw
      have l16k2_a0_14 : (1 : Int) ≤ a0_14.toInt := ba0_14_l
      have u16k2_a0_14 : a0_14.toInt ≤ (1 : Int) := ba0_14_u
      exact absurd h16_2 (by decide)

set_option maxHeartbeats 4000000 in
set_option maxRecDepth 100000 in
theorem c_X8_seekRests (l : Launch) (dC : Nat → ClassId) (dI : Nat → Nat → Nat) (sz : Nat) (a0 : Nat) (a1 : Int32) (a0g_0 a0g_1 a0g_2 a0g_3 a0g_4 a0g_5 a0g_6 a0g_7 a0g_8 a0g_9 a0g_10 a0g_11 a0g_12 a0g_13 a0g_14 a0g_15 a0g_16 a0g_17 a0g_18 a0g_19 a0g_20 a0g_21 a0g_22 a0g_23 a0g_24 a0g_25 a0g_26 a0g_27 a0g_28 a0g_29 a0g_30 a0g_31 a0g_32 a0g_33 a0g_34 a0g_35 a0g_36 a0g_38 a0g_39 : Value) (a0_37 : Int32)  : zm l yX8_seekRests wsX8_seekRests ({ frames := 1, cells := 0, slots := 0, locals := 22 }) [.ref a0, .int a1] dC dI sz [(a0, .inr (8, [a0g_0, a0g_1, a0g_2, a0g_3, a0g_4, a0g_5, a0g_6, a0g_7, a0g_8, a0g_9, a0g_10, a0g_11, a0g_12, a0g_13, a0g_14, a0g_15, a0g_16, a0g_17, a0g_18, a0g_19, a0g_20, a0g_21, a0g_22, a0g_23, a0g_24, a0g_25, a0g_26, a0g_27, a0g_28, a0g_29, a0g_30, a0g_31, a0g_32, a0g_33, a0g_34, a0g_35, a0g_36, Value.int a0_37, a0g_38, a0g_39]))] [] (fun A _ => True) (fun A => va_Qi (fun (r : Int32) (_ : Unit) => True) (fun (_ : Unit) (t : State) => ∃ na0_37 : Int32, ax_B dC dI A [(a0, .inr (8, [a0g_0, a0g_1, a0g_2, a0g_3, a0g_4, a0g_5, a0g_6, a0g_7, a0g_8, a0g_9, a0g_10, a0g_11, a0g_12, a0g_13, a0g_14, a0g_15, a0g_16, a0g_17, a0g_18, a0g_19, a0g_20, a0g_21, a0g_22, a0g_23, a0g_24, a0g_25, a0g_26, a0g_27, a0g_28, a0g_29, a0g_30, a0g_31, a0g_32, a0g_33, a0g_34, a0g_35, a0g_36, Value.int na0_37, a0g_38, a0g_39]))] [] t) A) := by
  refine zh (cc := cX8_seekRests) (maxL := 6) (ret := (some .int)) zn_RX8 rfl (Nat.le_of_ble_eq_true rfl) (fun p e s m below meth c A ls hx hb hml hr hts (hown : s.vm.findClass RX8 = some m.cls) hlocks hA hS hP hK hD hE (hl : lv_has ls 6 [(0, .ref a0), (1, .int a1)]) => ?_)
  refine ai_open (fun K hK0 => ?_)
  refine (hK0 _ _ _).mpr ?_
  refine lv_iconst (v := 0) hx hb dX8_seekRests_0 zk_iconst_0 ?_
  refine lv_istore_n (lv' := [(2, .int 0), (0, .ref a0), (1, .int a1)]) hx hb dX8_seekRests_1 rfl hl (by decide) rfl (fun ls hl => ?_)
  refine lv_aload_n hx hb dX8_seekRests_2 rfl (lv_at hl 1 rfl) ?_
  refine lv_bipush (v := (-2)) hx hb dX8_seekRests_3 zk_bipush_n2 ?_
  refine va_put (D := (dC, dI)) (ci := 8) (v := .int (-2)) (ty := .int) (C := RX8) (T := TX8) (N := 40) hx hb hts zi_X8_seekRests_8 tyX8 tyX8_ok nmX8 hown hK hP hD hS 0 rfl rfl 37 (by decide) (hts (.fieldLink RX8 359 "WaxTurnsModel" "firstRest" "I") (List.mem_cons_of_mem _ (List.mem_append_left _ (List.mem_of_getElem? (i := 0) rfl)))) (fun _ h9 => h9) rfl (tyX8_ok 37 (by decide)) rfl rfl (Nat.le_of_ble_eq_true rfl) dX8_seekRests_5 (fun H locs hP hD hS => ?_)
  refine zs_0 (y := (a0, .inr (8, [a0g_0, a0g_1, a0g_2, a0g_3, a0g_4, a0g_5, a0g_6, a0g_7, a0g_8, a0g_9, a0g_10, a0g_11, a0g_12, a0g_13, a0g_14, a0g_15, a0g_16, a0g_17, a0g_18, a0g_19, a0g_20, a0g_21, a0g_22, a0g_23, a0g_24, a0g_25, a0g_26, a0g_27, a0g_28, a0g_29, a0g_30, a0g_31, a0g_32, a0g_33, a0g_34, a0g_35, a0g_36, Value.int (-2), a0g_38, a0g_39]))) hP hD rfl (fun hP hD => ?_)
  refine lv_iconst (v := 0) hx hb dX8_seekRests_8 zk_iconst_0 ?_
  refine lv_istore_n (lv' := [(3, .int 0), (2, .int 0), (0, .ref a0), (1, .int a1)]) hx hb dX8_seekRests_9 rfl hl (by decide) rfl (fun ls hl => ?_)
  have J10 : ∀ (n : Nat) (j10l3 : Int32) (j10l2 : Int32) (j10a0_37 : Int32) (H : Heap) (locs : List Loc) (ls : Array Slot), (5 : Int) - j10l3.toInt ≤ (n : Int) → (0 : Int) ≤ j10l3.toInt → j10l3.toInt ≤ (4 : Int) → va_P (dC, dI) vwCl [(a0, .inr (8, [a0g_0, a0g_1, a0g_2, a0g_3, a0g_4, a0g_5, a0g_6, a0g_7, a0g_8, a0g_9, a0g_10, a0g_11, a0g_12, a0g_13, a0g_14, a0g_15, a0g_16, a0g_17, a0g_18, a0g_19, a0g_20, a0g_21, a0g_22, a0g_23, a0g_24, a0g_25, a0g_26, a0g_27, a0g_28, a0g_29, a0g_30, a0g_31, a0g_32, a0g_33, a0g_34, a0g_35, a0g_36, Value.int j10a0_37, a0g_38, a0g_39]))] H → va_D A [(a0, .inr (8, [a0g_0, a0g_1, a0g_2, a0g_3, a0g_4, a0g_5, a0g_6, a0g_7, a0g_8, a0g_9, a0g_10, a0g_11, a0g_12, a0g_13, a0g_14, a0g_15, a0g_16, a0g_17, a0g_18, a0g_19, a0g_20, a0g_21, a0g_22, a0g_23, a0g_24, a0g_25, a0g_26, a0g_27, a0g_28, a0g_29, a0g_30, a0g_31, a0g_32, a0g_33, a0g_34, a0g_35, a0g_36, Value.int j10a0_37, a0g_38, a0g_39]))] → va_S A s.heap H locs → lv_has ls 6 [(0, .ref a0), (1, .int a1), (2, .int j10l2), (3, .int j10l3)] → K H locs (F0 m 10 ls []) := by
    intro n
    induction n with
    | zero =>
      intro j10l3 j10l2 j10a0_37 H locs ls hm bj10l3_l bj10l3_u hP hD hS hl
      have h8 := ai_min j10l3
      have h9 := ai_max j10l3
      exact absurd hm (by omega)
    | succ n ih10 =>
      intro j10l3 j10l2 j10a0_37 H locs ls hm bj10l3_l bj10l3_u hP hD hS hl
      refine (hK0 _ _ _).mpr ?_
      have hm10 := hm
      refine lv_iload_n hx hb dX8_seekRests_10 rfl (lv_at hl 3 rfl) ?_
      refine lv_iconst (v := 4) hx hb dX8_seekRests_11 zk_iconst_4 ?_
      refine lv_icmp_ge (tgt := 123) hx hb dX8_seekRests_12 (by decide) (fun c12 => ?_) (fun c12 => ?_)
      · have gc12 := ai_le c12
        have l12t_j10l3 : (4 : Int) ≤ j10l3.toInt := Int.le_trans zq68 gc12
        refine lv_iload_n hx hb dX8_seekRests_123 rfl (lv_at hl 2 rfl) ?_
        exact W.iret (v := j10l2) hx hb hr (fun t ht hW => ⟨⟨j10l2, (), rfl, trivial, j10a0_37, by rw [ht]; exact hP, va_K.moved hW.alike hK, hD⟩, hS.F ht⟩) hS.2.2 dX8_seekRests_124
      · have gc12 := ai_nle c12
        have u12f_j10l3 : j10l3.toInt ≤ (3 : Int) := ai_lthi gc12 zq67
        refine lv_iload_n hx hb dX8_seekRests_15 rfl (lv_at hl 3 rfl) ?_
        refine lv_iconst (v := 1) hx hb dX8_seekRests_16 zk_iconst_1 ?_
        have J25 : ∀ (j25s0 : Int32) (H : Heap) (locs : List Loc) (ls : Array Slot), (0 : Int) ≤ j25s0.toInt → j25s0.toInt ≤ (1 : Int) → va_P (dC, dI) vwCl [(a0, .inr (8, [a0g_0, a0g_1, a0g_2, a0g_3, a0g_4, a0g_5, a0g_6, a0g_7, a0g_8, a0g_9, a0g_10, a0g_11, a0g_12, a0g_13, a0g_14, a0g_15, a0g_16, a0g_17, a0g_18, a0g_19, a0g_20, a0g_21, a0g_22, a0g_23, a0g_24, a0g_25, a0g_26, a0g_27, a0g_28, a0g_29, a0g_30, a0g_31, a0g_32, a0g_33, a0g_34, a0g_35, a0g_36, Value.int j10a0_37, a0g_38, a0g_39]))] H → va_D A [(a0, .inr (8, [a0g_0, a0g_1, a0g_2, a0g_3, a0g_4, a0g_5, a0g_6, a0g_7, a0g_8, a0g_9, a0g_10, a0g_11, a0g_12, a0g_13, a0g_14, a0g_15, a0g_16, a0g_17, a0g_18, a0g_19, a0g_20, a0g_21, a0g_22, a0g_23, a0g_24, a0g_25, a0g_26, a0g_27, a0g_28, a0g_29, a0g_30, a0g_31, a0g_32, a0g_33, a0g_34, a0g_35, a0g_36, Value.int j10a0_37, a0g_38, a0g_39]))] → va_S A s.heap H locs → lv_has ls 6 [(0, .ref a0), (1, .int a1), (2, .int j10l2), (3, .int j10l3)] → K H locs (F0 m 25 ls [.int j25s0]) := by
          intro j25s0 H locs ls  bj25s0_l bj25s0_u hP hD hS hl
          refine (hK0 _ _ _).mpr ?_
          refine lv_istore (lv' := [(4, .int j25s0), (0, .ref a0), (1, .int a1), (2, .int j10l2), (3, .int j10l3)]) hx hb dX8_seekRests_25 hl (by decide) rfl (fun ls hl => ?_)
          refine lv_iload_n hx hb dX8_seekRests_27 rfl (lv_at hl 4 rfl) ?_
          refine lv_iconst (v := 2) hx hb dX8_seekRests_28 zk_iconst_2 ?_
          refine lv_irem hx hb dX8_seekRests_29 (by decide +kernel) ?_
          refine lv_topi (fun x29 ex29 => ?_)
          have qx29 := ai_rem2 ex29 bj10l3_l (Int.lt_of_lt_of_le zq100 zq12) zq13
          have wx29 : x29.toInt = j10l3.toInt % 2 := qx29.1
          refine lv_iconst (v := 1) hx hb dX8_seekRests_30 zk_iconst_1 ?_
          have J39 : ∀ (j39s0 : Int32) (H : Heap) (locs : List Loc) (ls : Array Slot), (0 : Int) ≤ j39s0.toInt → j39s0.toInt ≤ (1 : Int) → va_P (dC, dI) vwCl [(a0, .inr (8, [a0g_0, a0g_1, a0g_2, a0g_3, a0g_4, a0g_5, a0g_6, a0g_7, a0g_8, a0g_9, a0g_10, a0g_11, a0g_12, a0g_13, a0g_14, a0g_15, a0g_16, a0g_17, a0g_18, a0g_19, a0g_20, a0g_21, a0g_22, a0g_23, a0g_24, a0g_25, a0g_26, a0g_27, a0g_28, a0g_29, a0g_30, a0g_31, a0g_32, a0g_33, a0g_34, a0g_35, a0g_36, Value.int j10a0_37, a0g_38, a0g_39]))] H → va_D A [(a0, .inr (8, [a0g_0, a0g_1, a0g_2, a0g_3, a0g_4, a0g_5, a0g_6, a0g_7, a0g_8, a0g_9, a0g_10, a0g_11, a0g_12, a0g_13, a0g_14, a0g_15, a0g_16, a0g_17, a0g_18, a0g_19, a0g_20, a0g_21, a0g_22, a0g_23, a0g_24, a0g_25, a0g_26, a0g_27, a0g_28, a0g_29, a0g_30, a0g_31, a0g_32, a0g_33, a0g_34, a0g_35, a0g_36, Value.int j10a0_37, a0g_38, a0g_39]))] → va_S A s.heap H locs → lv_has ls 6 [(0, .ref a0), (1, .int a1), (2, .int j10l2), (3, .int j10l3), (4, .int j25s0)] → K H locs (F0 m 39 ls [.int j39s0]) := by
            intro j39s0 H locs ls  bj39s0_l bj39s0_u hP hD hS hl
            refine (hK0 _ _ _).mpr ?_
            refine lv_istore (lv' := [(5, .int j39s0), (0, .ref a0), (1, .int a1), (2, .int j10l2), (3, .int j10l3), (4, .int j25s0)]) hx hb dX8_seekRests_39 hl (by decide) rfl (fun ls hl => ?_)
            refine lv_iload_n hx hb dX8_seekRests_41 rfl (lv_at hl 2 rfl) ?_
            refine lv_iload hx hb dX8_seekRests_42 (lv_at hl 5 rfl) ?_
            have J52 : ∀ (j52s0 : Int32) (H : Heap) (locs : List Loc) (ls : Array Slot), (0 : Int) ≤ j52s0.toInt → j52s0.toInt ≤ (1 : Int) → va_P (dC, dI) vwCl [(a0, .inr (8, [a0g_0, a0g_1, a0g_2, a0g_3, a0g_4, a0g_5, a0g_6, a0g_7, a0g_8, a0g_9, a0g_10, a0g_11, a0g_12, a0g_13, a0g_14, a0g_15, a0g_16, a0g_17, a0g_18, a0g_19, a0g_20, a0g_21, a0g_22, a0g_23, a0g_24, a0g_25, a0g_26, a0g_27, a0g_28, a0g_29, a0g_30, a0g_31, a0g_32, a0g_33, a0g_34, a0g_35, a0g_36, Value.int j10a0_37, a0g_38, a0g_39]))] H → va_D A [(a0, .inr (8, [a0g_0, a0g_1, a0g_2, a0g_3, a0g_4, a0g_5, a0g_6, a0g_7, a0g_8, a0g_9, a0g_10, a0g_11, a0g_12, a0g_13, a0g_14, a0g_15, a0g_16, a0g_17, a0g_18, a0g_19, a0g_20, a0g_21, a0g_22, a0g_23, a0g_24, a0g_25, a0g_26, a0g_27, a0g_28, a0g_29, a0g_30, a0g_31, a0g_32, a0g_33, a0g_34, a0g_35, a0g_36, Value.int j10a0_37, a0g_38, a0g_39]))] → va_S A s.heap H locs → lv_has ls 6 [(0, .ref a0), (1, .int a1), (2, .int j10l2), (3, .int j10l3), (4, .int j25s0), (5, .int j39s0)] → K H locs (F0 m 52 ls [.int j52s0, .int a1]) := by
              intro j52s0 H locs ls  bj52s0_l bj52s0_u hP hD hS hl
              refine (hK0 _ _ _).mpr ?_
              refine lv_iload hx hb dX8_seekRests_52 (lv_at hl 5 rfl) ?_
              refine va_calli (va_runS (As := [.int a1, .int j52s0, .int j39s0]) (rest := []) ⟨hx, hb, hml, hown, hts⟩ (c_X8_figureHas l dC dI H.size a1 j52s0 j39s0 ) (va_cwS 3 hts gX8_seekRests_X8_figureHas rfl rfl rfl zd_X8_figureHas.2 ⟨Nat.le_of_ble_eq_true rfl, Nat.le_of_ble_eq_true rfl⟩) ⟨ax_blind (fun _ _ _ _ _ => trivial), ax_pre (zp_P0 hP) (zp_K hK) (zp_D0 hD) (fun _ _ => trivial)⟩ rfl rfl hl.1 rfl (lv_room (Nat.le_of_ble_eq_true rfl)) dX8_seekRests_54 ⟨Nat.le_of_ble_eq_true rfl, Nat.le_of_ble_eq_true rfl⟩) hS (fun q _ h => zp_F0 hD hS hA q h) (zp_F0 hD hS hA) (fun r54 u t H locs ht hvm hw hB hz1 hk1 hS1 => zo0 hB ht hP hD hk1 (zp_F0 hD hS hA) hS1 (fun hP hK1 hD hS => ?_))
              refine lv_iload_n hx hb dX8_seekRests_57 rfl (lv_at hl 1 rfl) ?_
              refine lv_iload hx hb dX8_seekRests_58 (lv_at hl 4 rfl) ?_
              refine lv_iload hx hb dX8_seekRests_60 (lv_at hl 5 rfl) ?_
              refine va_calli (va_runS (As := [.int a1, .int j25s0, .int j39s0]) (rest := [.int r54]) ⟨hx, hb, hml, hown, hts⟩ (c_X8_figureHas l dC dI H.size a1 j25s0 j39s0 ) (va_cwS 3 hts gX8_seekRests_X8_figureHas rfl rfl rfl zd_X8_figureHas.2 ⟨Nat.le_of_ble_eq_true rfl, Nat.le_of_ble_eq_true rfl⟩) ⟨ax_blind (fun _ _ _ _ _ => trivial), ax_pre (zp_P0 hP) (zp_K hK) (zp_D0 hD) (fun _ _ => trivial)⟩ rfl rfl hl.1 rfl (lv_room (Nat.le_of_ble_eq_true rfl)) dX8_seekRests_62 ⟨Nat.le_of_ble_eq_true rfl, Nat.le_of_ble_eq_true rfl⟩) hS (fun q _ h => zp_F0 hD hS hA q h) (zp_F0 hD hS hA) (fun r62 u t H locs ht hvm hw hB hz1 hk1 hS1 => zo0 hB ht hP hD hk1 (zp_F0 hD hS hA) hS1 (fun hP hK1 hD hS => ?_))
              have J117 : ∀ (j117l2 : Int32) (j117a0_37 : Int32) (H : Heap) (locs : List Loc) (ls : Array Slot), va_P (dC, dI) vwCl [(a0, .inr (8, [a0g_0, a0g_1, a0g_2, a0g_3, a0g_4, a0g_5, a0g_6, a0g_7, a0g_8, a0g_9, a0g_10, a0g_11, a0g_12, a0g_13, a0g_14, a0g_15, a0g_16, a0g_17, a0g_18, a0g_19, a0g_20, a0g_21, a0g_22, a0g_23, a0g_24, a0g_25, a0g_26, a0g_27, a0g_28, a0g_29, a0g_30, a0g_31, a0g_32, a0g_33, a0g_34, a0g_35, a0g_36, Value.int j117a0_37, a0g_38, a0g_39]))] H → va_D A [(a0, .inr (8, [a0g_0, a0g_1, a0g_2, a0g_3, a0g_4, a0g_5, a0g_6, a0g_7, a0g_8, a0g_9, a0g_10, a0g_11, a0g_12, a0g_13, a0g_14, a0g_15, a0g_16, a0g_17, a0g_18, a0g_19, a0g_20, a0g_21, a0g_22, a0g_23, a0g_24, a0g_25, a0g_26, a0g_27, a0g_28, a0g_29, a0g_30, a0g_31, a0g_32, a0g_33, a0g_34, a0g_35, a0g_36, Value.int j117a0_37, a0g_38, a0g_39]))] → va_S A s.heap H locs → lv_has ls 6 [(0, .ref a0), (1, .int a1), (2, .int j117l2), (3, .int j10l3)] → K H locs (F0 m 117 ls []) := by
                intro j117l2 j117a0_37 H locs ls   hP hD hS hl
                refine (hK0 _ _ _).mpr ?_
                obtain ⟨x117, ex117⟩ : ∃ y : Int32, y = j10l3 + Int32.ofInt 1 := ⟨_, rfl⟩
                have qx117 : x117.toInt = j10l3.toInt + 1 := ai_inc ex117 (by decide) (by decide) u12f_j10l3 (by decide)
                have bx117 : (1 : Int) ≤ x117.toInt ∧ x117.toInt ≤ 4 := ⟨by rw [qx117]; exact Int.add_le_add bj10l3_l (Int.le_refl _), by rw [qx117]; exact Int.add_le_add u12f_j10l3 (Int.le_refl _)⟩
                refine lv_iinc (v := x117) (lv' := [(3, .int x117), (0, .ref a0), (1, .int a1), (2, .int j117l2)]) hx hb dX8_seekRests_117 hl (k := 3) rfl ex117.symm (by decide) rfl (fun ls hl => ?_)
                refine lv_goto (tgt := 10) hx hb dX8_seekRests_120 (by decide) ?_
                exact (hK0 _ _ _).mp (ih10 x117 j117l2 j117a0_37 _ _ _ (by have h0 := qx117; omega) (Int.le_trans zq4 bx117.1) bx117.2 hP hD hS (lv_sub hl [1, 2, 3, 0] rfl))
              refine lv_icmp_gt (tgt := 117) hx hb dX8_seekRests_65 (by decide) (fun c65 => ?_) (fun c65 => ?_)
              · have gc65 := ai_lt c65
                have u65t_r62 : r62.toInt ≤ (2147483646 : Int) := ai_lthi gc65 (ai_max r54)
                have l65t_r54 : (-2147483647 : Int) ≤ r54.toInt := ai_ltlo gc65 (ai_min r62)
                exact (hK0 _ _ _).mp (J117 j10l2 j10a0_37 _ _ _   hP hD hS (lv_sub hl [0, 1, 2, 3] rfl))
              · have gc65 := ai_nlt c65
                refine lv_iload hx hb dX8_seekRests_68 (lv_at hl 4 rfl) ?_
                refine lv_iload hx hb dX8_seekRests_70 (lv_at hl 5 rfl) ?_
                have J80 : ∀ (j80s0 : Int32) (H : Heap) (locs : List Loc) (ls : Array Slot), (0 : Int) ≤ j80s0.toInt → j80s0.toInt ≤ (1 : Int) → va_P (dC, dI) vwCl [(a0, .inr (8, [a0g_0, a0g_1, a0g_2, a0g_3, a0g_4, a0g_5, a0g_6, a0g_7, a0g_8, a0g_9, a0g_10, a0g_11, a0g_12, a0g_13, a0g_14, a0g_15, a0g_16, a0g_17, a0g_18, a0g_19, a0g_20, a0g_21, a0g_22, a0g_23, a0g_24, a0g_25, a0g_26, a0g_27, a0g_28, a0g_29, a0g_30, a0g_31, a0g_32, a0g_33, a0g_34, a0g_35, a0g_36, Value.int j10a0_37, a0g_38, a0g_39]))] H → va_D A [(a0, .inr (8, [a0g_0, a0g_1, a0g_2, a0g_3, a0g_4, a0g_5, a0g_6, a0g_7, a0g_8, a0g_9, a0g_10, a0g_11, a0g_12, a0g_13, a0g_14, a0g_15, a0g_16, a0g_17, a0g_18, a0g_19, a0g_20, a0g_21, a0g_22, a0g_23, a0g_24, a0g_25, a0g_26, a0g_27, a0g_28, a0g_29, a0g_30, a0g_31, a0g_32, a0g_33, a0g_34, a0g_35, a0g_36, Value.int j10a0_37, a0g_38, a0g_39]))] → va_S A s.heap H locs → lv_has ls 6 [(0, .ref a0), (1, .int a1), (2, .int j10l2), (3, .int j10l3), (4, .int j25s0), (5, .int j39s0)] → K H locs (F0 m 80 ls [.int j80s0, .int j25s0]) := by
                  intro j80s0 H locs ls  bj80s0_l bj80s0_u hP hD hS hl
                  refine (hK0 _ _ _).mpr ?_
                  refine va_calli (va_runS (As := [.int j25s0, .int j80s0]) (rest := []) ⟨hx, hb, hml, hown, hts⟩ (c_X8_otherHas l dC dI H.size j25s0 j80s0 ) (va_cwS 2 hts gX8_seekRests_X8_otherHas rfl rfl rfl zd_X8_otherHas.2 ⟨Nat.le_of_ble_eq_true rfl, Nat.le_of_ble_eq_true rfl⟩) ⟨ax_blind (fun _ _ _ _ _ => trivial), ax_pre (zp_P0 hP) (zp_K hK) (zp_D0 hD) (fun _ _ => trivial)⟩ rfl rfl hl.1 rfl (lv_room (Nat.le_of_ble_eq_true rfl)) dX8_seekRests_80 ⟨Nat.le_of_ble_eq_true rfl, Nat.le_of_ble_eq_true rfl⟩) hS (fun q _ h => zp_F0 hD hS hA q h) (zp_F0 hD hS hA) (fun r80 u t H locs ht hvm hw hB hz1 hk1 hS1 => zo0 hB ht hP hD hk1 (zp_F0 hD hS hA) hS1 (fun hP hK1 hD hS => ?_))
                  rcases hw with hw | hw | hw | hw
                  · subst hw
                    refine lv_iload hx hb dX8_seekRests_83 (lv_at hl 4 rfl) ?_
                    refine lv_iload hx hb dX8_seekRests_85 (lv_at hl 5 rfl) ?_
                    refine va_calli (va_runS (As := [.int j25s0, .int j39s0]) (rest := [.int 3]) ⟨hx, hb, hml, hown, hts⟩ (c_X8_otherHas l dC dI H.size j25s0 j39s0 ) (va_cwS 2 hts gX8_seekRests_X8_otherHas rfl rfl rfl zd_X8_otherHas.2 ⟨Nat.le_of_ble_eq_true rfl, Nat.le_of_ble_eq_true rfl⟩) ⟨ax_blind (fun _ _ _ _ _ => trivial), ax_pre (zp_P0 hP) (zp_K hK) (zp_D0 hD) (fun _ _ => trivial)⟩ rfl rfl hl.1 rfl (lv_room (Nat.le_of_ble_eq_true rfl)) dX8_seekRests_87 ⟨Nat.le_of_ble_eq_true rfl, Nat.le_of_ble_eq_true rfl⟩) hS (fun q _ h => zp_F0 hD hS hA q h) (zp_F0 hD hS hA) (fun r87 u t H locs ht hvm hw hB hz1 hk1 hS1 => zo0 hB ht hP hD hk1 (zp_F0 hD hS hA) hS1 (fun hP hK1 hD hS => ?_))
                    rcases hw with hw | hw | hw | hw
                    · subst hw
                      refine lv_icmp_le (tgt := 96) hx hb dX8_seekRests_90 (by decide) (fun _ => ?_) (fun c90 => absurd (by decide +kernel) c90)
                      refine lv_iload_n hx hb dX8_seekRests_96 rfl (lv_at hl 2 rfl) ?_
                      have J114 : ∀ (j114a0_37 : Int32) (H : Heap) (locs : List Loc) (ls : Array Slot), va_P (dC, dI) vwCl [(a0, .inr (8, [a0g_0, a0g_1, a0g_2, a0g_3, a0g_4, a0g_5, a0g_6, a0g_7, a0g_8, a0g_9, a0g_10, a0g_11, a0g_12, a0g_13, a0g_14, a0g_15, a0g_16, a0g_17, a0g_18, a0g_19, a0g_20, a0g_21, a0g_22, a0g_23, a0g_24, a0g_25, a0g_26, a0g_27, a0g_28, a0g_29, a0g_30, a0g_31, a0g_32, a0g_33, a0g_34, a0g_35, a0g_36, Value.int j114a0_37, a0g_38, a0g_39]))] H → va_D A [(a0, .inr (8, [a0g_0, a0g_1, a0g_2, a0g_3, a0g_4, a0g_5, a0g_6, a0g_7, a0g_8, a0g_9, a0g_10, a0g_11, a0g_12, a0g_13, a0g_14, a0g_15, a0g_16, a0g_17, a0g_18, a0g_19, a0g_20, a0g_21, a0g_22, a0g_23, a0g_24, a0g_25, a0g_26, a0g_27, a0g_28, a0g_29, a0g_30, a0g_31, a0g_32, a0g_33, a0g_34, a0g_35, a0g_36, Value.int j114a0_37, a0g_38, a0g_39]))] → va_S A s.heap H locs → lv_has ls 6 [(0, .ref a0), (1, .int a1), (2, .int j10l2), (3, .int j10l3)] → K H locs (F0 m 114 ls []) := by
                        intro j114a0_37 H locs ls   hP hD hS hl
                        refine (hK0 _ _ _).mpr ?_
                        obtain ⟨x114, ex114⟩ : ∃ y : Int32, y = j10l2 + Int32.ofInt 1 := ⟨_, rfl⟩
                        refine lv_iinc (v := x114) (lv' := [(2, .int x114), (0, .ref a0), (1, .int a1), (3, .int j10l3)]) hx hb dX8_seekRests_114 hl (k := 2) rfl ex114.symm (by decide) rfl (fun ls hl => ?_)
                        exact (hK0 _ _ _).mp (J117 x114 j114a0_37 _ _ _   hP hD hS (lv_sub hl [1, 2, 0, 3] rfl))
                      refine lv_if_ne (tgt := 114) hx hb dX8_seekRests_97 (by decide) (fun c97 => ?_) (fun c97 => ?_)
                      · have gc97 := ai_ne c97
                        exact (hK0 _ _ _).mp (J114 j10a0_37 _ _ _   hP hD hS (lv_sub hl [0, 1, 2, 3] rfl))
                      · have gc97 := ai_eq c97
                        have u97f_j10l2 : j10l2.toInt ≤ (0 : Int) := Int.le_trans (Int.le_of_eq gc97) zq6
                        have l97f_j10l2 : (0 : Int) ≤ j10l2.toInt := Int.le_trans zq5 (Int.le_of_eq gc97.symm)
                        refine lv_aload_n hx hb dX8_seekRests_100 rfl (lv_at hl 0 rfl) ?_
                        refine lv_bipush (v := 10) hx hb dX8_seekRests_101 zk_bipush_10 ?_
                        refine lv_iload_n hx hb dX8_seekRests_103 rfl (lv_at hl 3 rfl) ?_
                        refine lv_iconst (v := 2) hx hb dX8_seekRests_104 zk_iconst_2 ?_
                        refine lv_idiv hx hb dX8_seekRests_105 (by decide +kernel) ?_
                        refine lv_topi (fun x105 ex105 => ?_)
                        have qx105 := ai_div ex105 ⟨bj10l3_l, u12f_j10l3⟩ (Int.lt_of_lt_of_le zq100 zq12)
                        have u105z_x105 : x105.toInt ≤ (1 : Int) := (by have h1 := qx105.1; have h2 := u12f_j10l3; have h3 : (2 : Int32).toInt = 2 := (by decide); rw [h3] at h1; omega)
                        refine lv_imul hx hb dX8_seekRests_106 ?_
                        refine lv_topi (fun x106 ex106 => ?_)
                        have qx106 : x106.toInt = (10 : Int32).toInt * x105.toInt ∧ (0 : Int) ≤ x106.toInt ∧ x106.toInt ≤ 10 := ai_mul ex106 ⟨zq26, zq27⟩ ⟨qx105.2.1, u105z_x105⟩ (by decide) (by decide) zq103
                        have wx106 : x106.toInt = 10 * x105.toInt := qx106.1
                        refine lv_iload_n hx hb dX8_seekRests_107 rfl (lv_at hl 3 rfl) ?_
                        refine lv_iconst (v := 2) hx hb dX8_seekRests_108 zk_iconst_2 ?_
                        refine lv_irem hx hb dX8_seekRests_109 (by decide +kernel) ?_
                        refine lv_topi (fun x109 ex109 => ?_)
                        have qx109 := ai_rem2 ex109 bj10l3_l (Int.lt_of_lt_of_le zq100 zq12) zq13
                        have wx109 : x109.toInt = j10l3.toInt % 2 := qx109.1
                        refine lv_iadd hx hb dX8_seekRests_110 ?_
                        refine lv_topi (fun x110 ex110 => ?_)
                        have qx110 : x110.toInt = x106.toInt + x109.toInt := ai_add ex110 ⟨qx106.2.1, qx106.2.2⟩ ⟨qx109.2.1, qx109.2.2⟩ (by decide) (by decide)
                        have bx110 : (0 : Int) ≤ x110.toInt ∧ x110.toInt ≤ 11 := ⟨by rw [qx110]; exact Int.add_le_add qx106.2.1 qx109.2.1, by rw [qx110]; exact Int.add_le_add qx106.2.2 qx109.2.2⟩
                        refine va_put (D := (dC, dI)) (ci := 8) (v := .int x110) (ty := .int) (C := RX8) (T := TX8) (N := 40) hx hb hts zi_X8_seekRests_8 tyX8 tyX8_ok nmX8 hown hK hP hD hS 0 rfl rfl 37 (by decide) (hts (.fieldLink RX8 359 "WaxTurnsModel" "firstRest" "I") (List.mem_cons_of_mem _ (List.mem_append_left _ (List.mem_of_getElem? (i := 0) rfl)))) (fun _ h9 => h9) rfl (tyX8_ok 37 (by decide)) rfl rfl (Nat.le_of_ble_eq_true rfl) dX8_seekRests_111 (fun H locs hP hD hS => ?_)
                        refine zs_0 (y := (a0, .inr (8, [a0g_0, a0g_1, a0g_2, a0g_3, a0g_4, a0g_5, a0g_6, a0g_7, a0g_8, a0g_9, a0g_10, a0g_11, a0g_12, a0g_13, a0g_14, a0g_15, a0g_16, a0g_17, a0g_18, a0g_19, a0g_20, a0g_21, a0g_22, a0g_23, a0g_24, a0g_25, a0g_26, a0g_27, a0g_28, a0g_29, a0g_30, a0g_31, a0g_32, a0g_33, a0g_34, a0g_35, a0g_36, Value.int x110, a0g_38, a0g_39]))) hP hD rfl (fun hP hD => ?_)
                        exact (hK0 _ _ _).mp (J114 x110 _ _ _   hP hD hS (lv_sub hl [0, 1, 2, 3] rfl))
                    · obtain ⟨hw, h87_0, h87_1, h87_2, h87_3⟩ := hw
                      subst hw
                      have l87k1_j25s0 : (0 : Int) ≤ j25s0.toInt := bj25s0_l
                      have u87k1_j25s0 : j25s0.toInt ≤ (0 : Int) := h87_1
                      have l87k1_j39s0 : (0 : Int) ≤ j39s0.toInt := bj39s0_l
                      have u87k1_j39s0 : j39s0.toInt ≤ (0 : Int) := h87_3
                      refine lv_icmp_le (tgt := 96) hx hb dX8_seekRests_90 (by decide) (fun c90 => absurd c90 (by decide +kernel)) (fun _ => ?_)
                      refine lv_goto (tgt := 117) hx hb dX8_seekRests_93 (by decide) ?_
                      exact (hK0 _ _ _).mp (J117 j10l2 j10a0_37 _ _ _   hP hD hS (lv_sub hl [0, 1, 2, 3] rfl))
                    · obtain ⟨hw, h87_0, h87_1⟩ := hw
                      subst hw
                      have l87k2_j39s0 : (0 : Int) ≤ j39s0.toInt := bj39s0_l
                      have u87k2_j39s0 : j39s0.toInt ≤ (0 : Int) := h87_1
                      refine lv_icmp_le (tgt := 96) hx hb dX8_seekRests_90 (by decide) (fun c90 => absurd c90 (by decide +kernel)) (fun _ => ?_)
                      refine lv_goto (tgt := 117) hx hb dX8_seekRests_93 (by decide) ?_
                      exact (hK0 _ _ _).mp (J117 j10l2 j10a0_37 _ _ _   hP hD hS (lv_sub hl [0, 1, 2, 3] rfl))
                    · obtain ⟨hw, h87_0, h87_1⟩ := hw
                      subst hw
                      have l87k3_j25s0 : (0 : Int) ≤ j25s0.toInt := bj25s0_l
                      have u87k3_j25s0 : j25s0.toInt ≤ (0 : Int) := h87_1
                      refine lv_icmp_le (tgt := 96) hx hb dX8_seekRests_90 (by decide) (fun c90 => absurd c90 (by decide +kernel)) (fun _ => ?_)
                      refine lv_goto (tgt := 117) hx hb dX8_seekRests_93 (by decide) ?_
                      exact (hK0 _ _ _).mp (J117 j10l2 j10a0_37 _ _ _   hP hD hS (lv_sub hl [0, 1, 2, 3] rfl))
                  · obtain ⟨hw, h80_0, h80_1, h80_2, h80_3⟩ := hw
                    subst hw
                    have l80k1_j25s0 : (0 : Int) ≤ j25s0.toInt := bj25s0_l
                    have u80k1_j25s0 : j25s0.toInt ≤ (0 : Int) := h80_1
                    have l80k1_j80s0 : (0 : Int) ≤ j80s0.toInt := bj80s0_l
                    have u80k1_j80s0 : j80s0.toInt ≤ (0 : Int) := h80_3
                    refine lv_iload hx hb dX8_seekRests_83 (lv_at hl 4 rfl) ?_
                    refine lv_iload hx hb dX8_seekRests_85 (lv_at hl 5 rfl) ?_
                    refine va_calli (va_runS (As := [.int j25s0, .int j39s0]) (rest := [.int 1]) ⟨hx, hb, hml, hown, hts⟩ (c_X8_otherHas l dC dI H.size j25s0 j39s0 ) (va_cwS 2 hts gX8_seekRests_X8_otherHas rfl rfl rfl zd_X8_otherHas.2 ⟨Nat.le_of_ble_eq_true rfl, Nat.le_of_ble_eq_true rfl⟩) ⟨ax_blind (fun _ _ _ _ _ => trivial), ax_pre (zp_P0 hP) (zp_K hK) (zp_D0 hD) (fun _ _ => trivial)⟩ rfl rfl hl.1 rfl (lv_room (Nat.le_of_ble_eq_true rfl)) dX8_seekRests_87 ⟨Nat.le_of_ble_eq_true rfl, Nat.le_of_ble_eq_true rfl⟩) hS (fun q _ h => zp_F0 hD hS hA q h) (zp_F0 hD hS hA) (fun r87 u t H locs ht hvm hw hB hz1 hk1 hS1 => zo0 hB ht hP hD hk1 (zp_F0 hD hS hA) hS1 (fun hP hK1 hD hS => ?_))
                    rcases hw with hw | hw | hw | hw
                    · subst hw
                      refine lv_icmp_le (tgt := 96) hx hb dX8_seekRests_90 (by decide) (fun _ => ?_) (fun c90 => absurd (by decide +kernel) c90)
                      refine lv_iload_n hx hb dX8_seekRests_96 rfl (lv_at hl 2 rfl) ?_
                      have J114 : ∀ (j114a0_37 : Int32) (H : Heap) (locs : List Loc) (ls : Array Slot), va_P (dC, dI) vwCl [(a0, .inr (8, [a0g_0, a0g_1, a0g_2, a0g_3, a0g_4, a0g_5, a0g_6, a0g_7, a0g_8, a0g_9, a0g_10, a0g_11, a0g_12, a0g_13, a0g_14, a0g_15, a0g_16, a0g_17, a0g_18, a0g_19, a0g_20, a0g_21, a0g_22, a0g_23, a0g_24, a0g_25, a0g_26, a0g_27, a0g_28, a0g_29, a0g_30, a0g_31, a0g_32, a0g_33, a0g_34, a0g_35, a0g_36, Value.int j114a0_37, a0g_38, a0g_39]))] H → va_D A [(a0, .inr (8, [a0g_0, a0g_1, a0g_2, a0g_3, a0g_4, a0g_5, a0g_6, a0g_7, a0g_8, a0g_9, a0g_10, a0g_11, a0g_12, a0g_13, a0g_14, a0g_15, a0g_16, a0g_17, a0g_18, a0g_19, a0g_20, a0g_21, a0g_22, a0g_23, a0g_24, a0g_25, a0g_26, a0g_27, a0g_28, a0g_29, a0g_30, a0g_31, a0g_32, a0g_33, a0g_34, a0g_35, a0g_36, Value.int j114a0_37, a0g_38, a0g_39]))] → va_S A s.heap H locs → lv_has ls 6 [(0, .ref a0), (1, .int a1), (2, .int j10l2), (3, .int j10l3)] → K H locs (F0 m 114 ls []) := by
                        intro j114a0_37 H locs ls   hP hD hS hl
                        refine (hK0 _ _ _).mpr ?_
                        obtain ⟨x114, ex114⟩ : ∃ y : Int32, y = j10l2 + Int32.ofInt 1 := ⟨_, rfl⟩
                        refine lv_iinc (v := x114) (lv' := [(2, .int x114), (0, .ref a0), (1, .int a1), (3, .int j10l3)]) hx hb dX8_seekRests_114 hl (k := 2) rfl ex114.symm (by decide) rfl (fun ls hl => ?_)
                        exact (hK0 _ _ _).mp (J117 x114 j114a0_37 _ _ _   hP hD hS (lv_sub hl [1, 2, 0, 3] rfl))
                      refine lv_if_ne (tgt := 114) hx hb dX8_seekRests_97 (by decide) (fun c97 => ?_) (fun c97 => ?_)
                      · have gc97 := ai_ne c97
                        exact (hK0 _ _ _).mp (J114 j10a0_37 _ _ _   hP hD hS (lv_sub hl [0, 1, 2, 3] rfl))
                      · have gc97 := ai_eq c97
                        have u97f_j10l2 : j10l2.toInt ≤ (0 : Int) := Int.le_trans (Int.le_of_eq gc97) zq6
                        have l97f_j10l2 : (0 : Int) ≤ j10l2.toInt := Int.le_trans zq5 (Int.le_of_eq gc97.symm)
                        refine lv_aload_n hx hb dX8_seekRests_100 rfl (lv_at hl 0 rfl) ?_
                        refine lv_bipush (v := 10) hx hb dX8_seekRests_101 zk_bipush_10 ?_
                        refine lv_iload_n hx hb dX8_seekRests_103 rfl (lv_at hl 3 rfl) ?_
                        refine lv_iconst (v := 2) hx hb dX8_seekRests_104 zk_iconst_2 ?_
                        refine lv_idiv hx hb dX8_seekRests_105 (by decide +kernel) ?_
                        refine lv_topi (fun x105 ex105 => ?_)
                        have qx105 := ai_div ex105 ⟨bj10l3_l, u12f_j10l3⟩ (Int.lt_of_lt_of_le zq100 zq12)
                        have u105z_x105 : x105.toInt ≤ (1 : Int) := (by have h1 := qx105.1; have h2 := u12f_j10l3; have h3 : (2 : Int32).toInt = 2 := (by decide); rw [h3] at h1; omega)
                        refine lv_imul hx hb dX8_seekRests_106 ?_
                        refine lv_topi (fun x106 ex106 => ?_)
                        have qx106 : x106.toInt = (10 : Int32).toInt * x105.toInt ∧ (0 : Int) ≤ x106.toInt ∧ x106.toInt ≤ 10 := ai_mul ex106 ⟨zq26, zq27⟩ ⟨qx105.2.1, u105z_x105⟩ (by decide) (by decide) zq103
                        have wx106 : x106.toInt = 10 * x105.toInt := qx106.1
                        refine lv_iload_n hx hb dX8_seekRests_107 rfl (lv_at hl 3 rfl) ?_
                        refine lv_iconst (v := 2) hx hb dX8_seekRests_108 zk_iconst_2 ?_
                        refine lv_irem hx hb dX8_seekRests_109 (by decide +kernel) ?_
                        refine lv_topi (fun x109 ex109 => ?_)
                        have qx109 := ai_rem2 ex109 bj10l3_l (Int.lt_of_lt_of_le zq100 zq12) zq13
                        have wx109 : x109.toInt = j10l3.toInt % 2 := qx109.1
                        refine lv_iadd hx hb dX8_seekRests_110 ?_
                        refine lv_topi (fun x110 ex110 => ?_)
                        have qx110 : x110.toInt = x106.toInt + x109.toInt := ai_add ex110 ⟨qx106.2.1, qx106.2.2⟩ ⟨qx109.2.1, qx109.2.2⟩ (by decide) (by decide)
                        have bx110 : (0 : Int) ≤ x110.toInt ∧ x110.toInt ≤ 11 := ⟨by rw [qx110]; exact Int.add_le_add qx106.2.1 qx109.2.1, by rw [qx110]; exact Int.add_le_add qx106.2.2 qx109.2.2⟩
                        refine va_put (D := (dC, dI)) (ci := 8) (v := .int x110) (ty := .int) (C := RX8) (T := TX8) (N := 40) hx hb hts zi_X8_seekRests_8 tyX8 tyX8_ok nmX8 hown hK hP hD hS 0 rfl rfl 37 (by decide) (hts (.fieldLink RX8 359 "WaxTurnsModel" "firstRest" "I") (List.mem_cons_of_mem _ (List.mem_append_left _ (List.mem_of_getElem? (i := 0) rfl)))) (fun _ h9 => h9) rfl (tyX8_ok 37 (by decide)) rfl rfl (Nat.le_of_ble_eq_true rfl) dX8_seekRests_111 (fun H locs hP hD hS => ?_)
                        refine zs_0 (y := (a0, .inr (8, [a0g_0, a0g_1, a0g_2, a0g_3, a0g_4, a0g_5, a0g_6, a0g_7, a0g_8, a0g_9, a0g_10, a0g_11, a0g_12, a0g_13, a0g_14, a0g_15, a0g_16, a0g_17, a0g_18, a0g_19, a0g_20, a0g_21, a0g_22, a0g_23, a0g_24, a0g_25, a0g_26, a0g_27, a0g_28, a0g_29, a0g_30, a0g_31, a0g_32, a0g_33, a0g_34, a0g_35, a0g_36, Value.int x110, a0g_38, a0g_39]))) hP hD rfl (fun hP hD => ?_)
                        exact (hK0 _ _ _).mp (J114 x110 _ _ _   hP hD hS (lv_sub hl [0, 1, 2, 3] rfl))
                    · obtain ⟨hw, h87_0, h87_1, h87_2, h87_3⟩ := hw
                      subst hw
                      have l87k1_j25s0 : (0 : Int) ≤ j25s0.toInt := l80k1_j25s0
                      have u87k1_j25s0 : j25s0.toInt ≤ (0 : Int) := u80k1_j25s0
                      have l87k1_j39s0 : (0 : Int) ≤ j39s0.toInt := bj39s0_l
                      have u87k1_j39s0 : j39s0.toInt ≤ (0 : Int) := h87_3
                      refine lv_icmp_le (tgt := 96) hx hb dX8_seekRests_90 (by decide) (fun _ => ?_) (fun c90 => absurd (by decide +kernel) c90)
                      refine lv_iload_n hx hb dX8_seekRests_96 rfl (lv_at hl 2 rfl) ?_
                      have J114 : ∀ (j114a0_37 : Int32) (H : Heap) (locs : List Loc) (ls : Array Slot), va_P (dC, dI) vwCl [(a0, .inr (8, [a0g_0, a0g_1, a0g_2, a0g_3, a0g_4, a0g_5, a0g_6, a0g_7, a0g_8, a0g_9, a0g_10, a0g_11, a0g_12, a0g_13, a0g_14, a0g_15, a0g_16, a0g_17, a0g_18, a0g_19, a0g_20, a0g_21, a0g_22, a0g_23, a0g_24, a0g_25, a0g_26, a0g_27, a0g_28, a0g_29, a0g_30, a0g_31, a0g_32, a0g_33, a0g_34, a0g_35, a0g_36, Value.int j114a0_37, a0g_38, a0g_39]))] H → va_D A [(a0, .inr (8, [a0g_0, a0g_1, a0g_2, a0g_3, a0g_4, a0g_5, a0g_6, a0g_7, a0g_8, a0g_9, a0g_10, a0g_11, a0g_12, a0g_13, a0g_14, a0g_15, a0g_16, a0g_17, a0g_18, a0g_19, a0g_20, a0g_21, a0g_22, a0g_23, a0g_24, a0g_25, a0g_26, a0g_27, a0g_28, a0g_29, a0g_30, a0g_31, a0g_32, a0g_33, a0g_34, a0g_35, a0g_36, Value.int j114a0_37, a0g_38, a0g_39]))] → va_S A s.heap H locs → lv_has ls 6 [(0, .ref a0), (1, .int a1), (2, .int j10l2), (3, .int j10l3)] → K H locs (F0 m 114 ls []) := by
                        intro j114a0_37 H locs ls   hP hD hS hl
                        refine (hK0 _ _ _).mpr ?_
                        obtain ⟨x114, ex114⟩ : ∃ y : Int32, y = j10l2 + Int32.ofInt 1 := ⟨_, rfl⟩
                        refine lv_iinc (v := x114) (lv' := [(2, .int x114), (0, .ref a0), (1, .int a1), (3, .int j10l3)]) hx hb dX8_seekRests_114 hl (k := 2) rfl ex114.symm (by decide) rfl (fun ls hl => ?_)
                        exact (hK0 _ _ _).mp (J117 x114 j114a0_37 _ _ _   hP hD hS (lv_sub hl [1, 2, 0, 3] rfl))
                      refine lv_if_ne (tgt := 114) hx hb dX8_seekRests_97 (by decide) (fun c97 => ?_) (fun c97 => ?_)
                      · have gc97 := ai_ne c97
                        exact (hK0 _ _ _).mp (J114 j10a0_37 _ _ _   hP hD hS (lv_sub hl [0, 1, 2, 3] rfl))
                      · have gc97 := ai_eq c97
                        have u97f_j10l2 : j10l2.toInt ≤ (0 : Int) := Int.le_trans (Int.le_of_eq gc97) zq6
                        have l97f_j10l2 : (0 : Int) ≤ j10l2.toInt := Int.le_trans zq5 (Int.le_of_eq gc97.symm)
                        refine lv_aload_n hx hb dX8_seekRests_100 rfl (lv_at hl 0 rfl) ?_
                        refine lv_bipush (v := 10) hx hb dX8_seekRests_101 zk_bipush_10 ?_
                        refine lv_iload_n hx hb dX8_seekRests_103 rfl (lv_at hl 3 rfl) ?_
                        refine lv_iconst (v := 2) hx hb dX8_seekRests_104 zk_iconst_2 ?_
                        refine lv_idiv hx hb dX8_seekRests_105 (by decide +kernel) ?_
                        refine lv_topi (fun x105 ex105 => ?_)
                        have qx105 := ai_div ex105 ⟨bj10l3_l, u12f_j10l3⟩ (Int.lt_of_lt_of_le zq100 zq12)
                        have u105z_x105 : x105.toInt ≤ (1 : Int) := (by have h1 := qx105.1; have h2 := u12f_j10l3; have h3 : (2 : Int32).toInt = 2 := (by decide); rw [h3] at h1; omega)
                        refine lv_imul hx hb dX8_seekRests_106 ?_
                        refine lv_topi (fun x106 ex106 => ?_)
                        have qx106 : x106.toInt = (10 : Int32).toInt * x105.toInt ∧ (0 : Int) ≤ x106.toInt ∧ x106.toInt ≤ 10 := ai_mul ex106 ⟨zq26, zq27⟩ ⟨qx105.2.1, u105z_x105⟩ (by decide) (by decide) zq103
                        have wx106 : x106.toInt = 10 * x105.toInt := qx106.1
                        refine lv_iload_n hx hb dX8_seekRests_107 rfl (lv_at hl 3 rfl) ?_
                        refine lv_iconst (v := 2) hx hb dX8_seekRests_108 zk_iconst_2 ?_
                        refine lv_irem hx hb dX8_seekRests_109 (by decide +kernel) ?_
                        refine lv_topi (fun x109 ex109 => ?_)
                        have qx109 := ai_rem2 ex109 bj10l3_l (Int.lt_of_lt_of_le zq100 zq12) zq13
                        have wx109 : x109.toInt = j10l3.toInt % 2 := qx109.1
                        refine lv_iadd hx hb dX8_seekRests_110 ?_
                        refine lv_topi (fun x110 ex110 => ?_)
                        have qx110 : x110.toInt = x106.toInt + x109.toInt := ai_add ex110 ⟨qx106.2.1, qx106.2.2⟩ ⟨qx109.2.1, qx109.2.2⟩ (by decide) (by decide)
                        have bx110 : (0 : Int) ≤ x110.toInt ∧ x110.toInt ≤ 11 := ⟨by rw [qx110]; exact Int.add_le_add qx106.2.1 qx109.2.1, by rw [qx110]; exact Int.add_le_add qx106.2.2 qx109.2.2⟩
                        refine va_put (D := (dC, dI)) (ci := 8) (v := .int x110) (ty := .int) (C := RX8) (T := TX8) (N := 40) hx hb hts zi_X8_seekRests_8 tyX8 tyX8_ok nmX8 hown hK hP hD hS 0 rfl rfl 37 (by decide) (hts (.fieldLink RX8 359 "WaxTurnsModel" "firstRest" "I") (List.mem_cons_of_mem _ (List.mem_append_left _ (List.mem_of_getElem? (i := 0) rfl)))) (fun _ h9 => h9) rfl (tyX8_ok 37 (by decide)) rfl rfl (Nat.le_of_ble_eq_true rfl) dX8_seekRests_111 (fun H locs hP hD hS => ?_)
                        refine zs_0 (y := (a0, .inr (8, [a0g_0, a0g_1, a0g_2, a0g_3, a0g_4, a0g_5, a0g_6, a0g_7, a0g_8, a0g_9, a0g_10, a0g_11, a0g_12, a0g_13, a0g_14, a0g_15, a0g_16, a0g_17, a0g_18, a0g_19, a0g_20, a0g_21, a0g_22, a0g_23, a0g_24, a0g_25, a0g_26, a0g_27, a0g_28, a0g_29, a0g_30, a0g_31, a0g_32, a0g_33, a0g_34, a0g_35, a0g_36, Value.int x110, a0g_38, a0g_39]))) hP hD rfl (fun hP hD => ?_)
                        exact (hK0 _ _ _).mp (J114 x110 _ _ _   hP hD hS (lv_sub hl [0, 1, 2, 3] rfl))
                    · obtain ⟨hw, h87_0, h87_1⟩ := hw
                      subst hw
                      have l87k2_j39s0 : (0 : Int) ≤ j39s0.toInt := bj39s0_l
                      have u87k2_j39s0 : j39s0.toInt ≤ (0 : Int) := h87_1
                      refine lv_icmp_le (tgt := 96) hx hb dX8_seekRests_90 (by decide) (fun c90 => absurd c90 (by decide +kernel)) (fun _ => ?_)
                      refine lv_goto (tgt := 117) hx hb dX8_seekRests_93 (by decide) ?_
                      exact (hK0 _ _ _).mp (J117 j10l2 j10a0_37 _ _ _   hP hD hS (lv_sub hl [0, 1, 2, 3] rfl))
                    · obtain ⟨hw, h87_0, h87_1⟩ := hw
                      subst hw
                      have l87k3_j25s0 : (0 : Int) ≤ j25s0.toInt := l80k1_j25s0
                      have u87k3_j25s0 : j25s0.toInt ≤ (0 : Int) := u80k1_j25s0
                      refine lv_icmp_le (tgt := 96) hx hb dX8_seekRests_90 (by decide) (fun c90 => absurd c90 (by decide +kernel)) (fun _ => ?_)
                      refine lv_goto (tgt := 117) hx hb dX8_seekRests_93 (by decide) ?_
                      exact (hK0 _ _ _).mp (J117 j10l2 j10a0_37 _ _ _   hP hD hS (lv_sub hl [0, 1, 2, 3] rfl))
                  · obtain ⟨hw, h80_0, h80_1⟩ := hw
                    subst hw
                    have l80k2_j80s0 : (0 : Int) ≤ j80s0.toInt := bj80s0_l
                    have u80k2_j80s0 : j80s0.toInt ≤ (0 : Int) := h80_1
                    refine lv_iload hx hb dX8_seekRests_83 (lv_at hl 4 rfl) ?_
                    refine lv_iload hx hb dX8_seekRests_85 (lv_at hl 5 rfl) ?_
                    refine va_calli (va_runS (As := [.int j25s0, .int j39s0]) (rest := [.int 0]) ⟨hx, hb, hml, hown, hts⟩ (c_X8_otherHas l dC dI H.size j25s0 j39s0 ) (va_cwS 2 hts gX8_seekRests_X8_otherHas rfl rfl rfl zd_X8_otherHas.2 ⟨Nat.le_of_ble_eq_true rfl, Nat.le_of_ble_eq_true rfl⟩) ⟨ax_blind (fun _ _ _ _ _ => trivial), ax_pre (zp_P0 hP) (zp_K hK) (zp_D0 hD) (fun _ _ => trivial)⟩ rfl rfl hl.1 rfl (lv_room (Nat.le_of_ble_eq_true rfl)) dX8_seekRests_87 ⟨Nat.le_of_ble_eq_true rfl, Nat.le_of_ble_eq_true rfl⟩) hS (fun q _ h => zp_F0 hD hS hA q h) (zp_F0 hD hS hA) (fun r87 u t H locs ht hvm hw hB hz1 hk1 hS1 => zo0 hB ht hP hD hk1 (zp_F0 hD hS hA) hS1 (fun hP hK1 hD hS => ?_))
                    rcases hw with hw | hw | hw | hw
                    · subst hw
                      refine lv_icmp_le (tgt := 96) hx hb dX8_seekRests_90 (by decide) (fun _ => ?_) (fun c90 => absurd (by decide +kernel) c90)
                      refine lv_iload_n hx hb dX8_seekRests_96 rfl (lv_at hl 2 rfl) ?_
                      have J114 : ∀ (j114a0_37 : Int32) (H : Heap) (locs : List Loc) (ls : Array Slot), va_P (dC, dI) vwCl [(a0, .inr (8, [a0g_0, a0g_1, a0g_2, a0g_3, a0g_4, a0g_5, a0g_6, a0g_7, a0g_8, a0g_9, a0g_10, a0g_11, a0g_12, a0g_13, a0g_14, a0g_15, a0g_16, a0g_17, a0g_18, a0g_19, a0g_20, a0g_21, a0g_22, a0g_23, a0g_24, a0g_25, a0g_26, a0g_27, a0g_28, a0g_29, a0g_30, a0g_31, a0g_32, a0g_33, a0g_34, a0g_35, a0g_36, Value.int j114a0_37, a0g_38, a0g_39]))] H → va_D A [(a0, .inr (8, [a0g_0, a0g_1, a0g_2, a0g_3, a0g_4, a0g_5, a0g_6, a0g_7, a0g_8, a0g_9, a0g_10, a0g_11, a0g_12, a0g_13, a0g_14, a0g_15, a0g_16, a0g_17, a0g_18, a0g_19, a0g_20, a0g_21, a0g_22, a0g_23, a0g_24, a0g_25, a0g_26, a0g_27, a0g_28, a0g_29, a0g_30, a0g_31, a0g_32, a0g_33, a0g_34, a0g_35, a0g_36, Value.int j114a0_37, a0g_38, a0g_39]))] → va_S A s.heap H locs → lv_has ls 6 [(0, .ref a0), (1, .int a1), (2, .int j10l2), (3, .int j10l3)] → K H locs (F0 m 114 ls []) := by
                        intro j114a0_37 H locs ls   hP hD hS hl
                        refine (hK0 _ _ _).mpr ?_
                        obtain ⟨x114, ex114⟩ : ∃ y : Int32, y = j10l2 + Int32.ofInt 1 := ⟨_, rfl⟩
                        refine lv_iinc (v := x114) (lv' := [(2, .int x114), (0, .ref a0), (1, .int a1), (3, .int j10l3)]) hx hb dX8_seekRests_114 hl (k := 2) rfl ex114.symm (by decide) rfl (fun ls hl => ?_)
                        exact (hK0 _ _ _).mp (J117 x114 j114a0_37 _ _ _   hP hD hS (lv_sub hl [1, 2, 0, 3] rfl))
                      refine lv_if_ne (tgt := 114) hx hb dX8_seekRests_97 (by decide) (fun c97 => ?_) (fun c97 => ?_)
                      · have gc97 := ai_ne c97
                        exact (hK0 _ _ _).mp (J114 j10a0_37 _ _ _   hP hD hS (lv_sub hl [0, 1, 2, 3] rfl))
                      · have gc97 := ai_eq c97
                        have u97f_j10l2 : j10l2.toInt ≤ (0 : Int) := Int.le_trans (Int.le_of_eq gc97) zq6
                        have l97f_j10l2 : (0 : Int) ≤ j10l2.toInt := Int.le_trans zq5 (Int.le_of_eq gc97.symm)
                        refine lv_aload_n hx hb dX8_seekRests_100 rfl (lv_at hl 0 rfl) ?_
                        refine lv_bipush (v := 10) hx hb dX8_seekRests_101 zk_bipush_10 ?_
                        refine lv_iload_n hx hb dX8_seekRests_103 rfl (lv_at hl 3 rfl) ?_
                        refine lv_iconst (v := 2) hx hb dX8_seekRests_104 zk_iconst_2 ?_
                        refine lv_idiv hx hb dX8_seekRests_105 (by decide +kernel) ?_
                        refine lv_topi (fun x105 ex105 => ?_)
                        have qx105 := ai_div ex105 ⟨bj10l3_l, u12f_j10l3⟩ (Int.lt_of_lt_of_le zq100 zq12)
                        have u105z_x105 : x105.toInt ≤ (1 : Int) := (by have h1 := qx105.1; have h2 := u12f_j10l3; have h3 : (2 : Int32).toInt = 2 := (by decide); rw [h3] at h1; omega)
                        refine lv_imul hx hb dX8_seekRests_106 ?_
                        refine lv_topi (fun x106 ex106 => ?_)
                        have qx106 : x106.toInt = (10 : Int32).toInt * x105.toInt ∧ (0 : Int) ≤ x106.toInt ∧ x106.toInt ≤ 10 := ai_mul ex106 ⟨zq26, zq27⟩ ⟨qx105.2.1, u105z_x105⟩ (by decide) (by decide) zq103
                        have wx106 : x106.toInt = 10 * x105.toInt := qx106.1
                        refine lv_iload_n hx hb dX8_seekRests_107 rfl (lv_at hl 3 rfl) ?_
                        refine lv_iconst (v := 2) hx hb dX8_seekRests_108 zk_iconst_2 ?_
                        refine lv_irem hx hb dX8_seekRests_109 (by decide +kernel) ?_
                        refine lv_topi (fun x109 ex109 => ?_)
                        have qx109 := ai_rem2 ex109 bj10l3_l (Int.lt_of_lt_of_le zq100 zq12) zq13
                        have wx109 : x109.toInt = j10l3.toInt % 2 := qx109.1
                        refine lv_iadd hx hb dX8_seekRests_110 ?_
                        refine lv_topi (fun x110 ex110 => ?_)
                        have qx110 : x110.toInt = x106.toInt + x109.toInt := ai_add ex110 ⟨qx106.2.1, qx106.2.2⟩ ⟨qx109.2.1, qx109.2.2⟩ (by decide) (by decide)
                        have bx110 : (0 : Int) ≤ x110.toInt ∧ x110.toInt ≤ 11 := ⟨by rw [qx110]; exact Int.add_le_add qx106.2.1 qx109.2.1, by rw [qx110]; exact Int.add_le_add qx106.2.2 qx109.2.2⟩
                        refine va_put (D := (dC, dI)) (ci := 8) (v := .int x110) (ty := .int) (C := RX8) (T := TX8) (N := 40) hx hb hts zi_X8_seekRests_8 tyX8 tyX8_ok nmX8 hown hK hP hD hS 0 rfl rfl 37 (by decide) (hts (.fieldLink RX8 359 "WaxTurnsModel" "firstRest" "I") (List.mem_cons_of_mem _ (List.mem_append_left _ (List.mem_of_getElem? (i := 0) rfl)))) (fun _ h9 => h9) rfl (tyX8_ok 37 (by decide)) rfl rfl (Nat.le_of_ble_eq_true rfl) dX8_seekRests_111 (fun H locs hP hD hS => ?_)
                        refine zs_0 (y := (a0, .inr (8, [a0g_0, a0g_1, a0g_2, a0g_3, a0g_4, a0g_5, a0g_6, a0g_7, a0g_8, a0g_9, a0g_10, a0g_11, a0g_12, a0g_13, a0g_14, a0g_15, a0g_16, a0g_17, a0g_18, a0g_19, a0g_20, a0g_21, a0g_22, a0g_23, a0g_24, a0g_25, a0g_26, a0g_27, a0g_28, a0g_29, a0g_30, a0g_31, a0g_32, a0g_33, a0g_34, a0g_35, a0g_36, Value.int x110, a0g_38, a0g_39]))) hP hD rfl (fun hP hD => ?_)
                        exact (hK0 _ _ _).mp (J114 x110 _ _ _   hP hD hS (lv_sub hl [0, 1, 2, 3] rfl))
                    · obtain ⟨hw, h87_0, h87_1, h87_2, h87_3⟩ := hw
                      subst hw
                      have l87k1_j25s0 : (0 : Int) ≤ j25s0.toInt := bj25s0_l
                      have u87k1_j25s0 : j25s0.toInt ≤ (0 : Int) := h87_1
                      have l87k1_j39s0 : (0 : Int) ≤ j39s0.toInt := bj39s0_l
                      have u87k1_j39s0 : j39s0.toInt ≤ (0 : Int) := h87_3
                      refine lv_icmp_le (tgt := 96) hx hb dX8_seekRests_90 (by decide) (fun _ => ?_) (fun c90 => absurd (by decide +kernel) c90)
                      refine lv_iload_n hx hb dX8_seekRests_96 rfl (lv_at hl 2 rfl) ?_
                      have J114 : ∀ (j114a0_37 : Int32) (H : Heap) (locs : List Loc) (ls : Array Slot), va_P (dC, dI) vwCl [(a0, .inr (8, [a0g_0, a0g_1, a0g_2, a0g_3, a0g_4, a0g_5, a0g_6, a0g_7, a0g_8, a0g_9, a0g_10, a0g_11, a0g_12, a0g_13, a0g_14, a0g_15, a0g_16, a0g_17, a0g_18, a0g_19, a0g_20, a0g_21, a0g_22, a0g_23, a0g_24, a0g_25, a0g_26, a0g_27, a0g_28, a0g_29, a0g_30, a0g_31, a0g_32, a0g_33, a0g_34, a0g_35, a0g_36, Value.int j114a0_37, a0g_38, a0g_39]))] H → va_D A [(a0, .inr (8, [a0g_0, a0g_1, a0g_2, a0g_3, a0g_4, a0g_5, a0g_6, a0g_7, a0g_8, a0g_9, a0g_10, a0g_11, a0g_12, a0g_13, a0g_14, a0g_15, a0g_16, a0g_17, a0g_18, a0g_19, a0g_20, a0g_21, a0g_22, a0g_23, a0g_24, a0g_25, a0g_26, a0g_27, a0g_28, a0g_29, a0g_30, a0g_31, a0g_32, a0g_33, a0g_34, a0g_35, a0g_36, Value.int j114a0_37, a0g_38, a0g_39]))] → va_S A s.heap H locs → lv_has ls 6 [(0, .ref a0), (1, .int a1), (2, .int j10l2), (3, .int j10l3)] → K H locs (F0 m 114 ls []) := by
                        intro j114a0_37 H locs ls   hP hD hS hl
                        refine (hK0 _ _ _).mpr ?_
                        obtain ⟨x114, ex114⟩ : ∃ y : Int32, y = j10l2 + Int32.ofInt 1 := ⟨_, rfl⟩
                        refine lv_iinc (v := x114) (lv' := [(2, .int x114), (0, .ref a0), (1, .int a1), (3, .int j10l3)]) hx hb dX8_seekRests_114 hl (k := 2) rfl ex114.symm (by decide) rfl (fun ls hl => ?_)
                        exact (hK0 _ _ _).mp (J117 x114 j114a0_37 _ _ _   hP hD hS (lv_sub hl [1, 2, 0, 3] rfl))
                      refine lv_if_ne (tgt := 114) hx hb dX8_seekRests_97 (by decide) (fun c97 => ?_) (fun c97 => ?_)
                      · have gc97 := ai_ne c97
                        exact (hK0 _ _ _).mp (J114 j10a0_37 _ _ _   hP hD hS (lv_sub hl [0, 1, 2, 3] rfl))
                      · have gc97 := ai_eq c97
                        have u97f_j10l2 : j10l2.toInt ≤ (0 : Int) := Int.le_trans (Int.le_of_eq gc97) zq6
                        have l97f_j10l2 : (0 : Int) ≤ j10l2.toInt := Int.le_trans zq5 (Int.le_of_eq gc97.symm)
                        refine lv_aload_n hx hb dX8_seekRests_100 rfl (lv_at hl 0 rfl) ?_
                        refine lv_bipush (v := 10) hx hb dX8_seekRests_101 zk_bipush_10 ?_
                        refine lv_iload_n hx hb dX8_seekRests_103 rfl (lv_at hl 3 rfl) ?_
                        refine lv_iconst (v := 2) hx hb dX8_seekRests_104 zk_iconst_2 ?_
                        refine lv_idiv hx hb dX8_seekRests_105 (by decide +kernel) ?_
                        refine lv_topi (fun x105 ex105 => ?_)
                        have qx105 := ai_div ex105 ⟨bj10l3_l, u12f_j10l3⟩ (Int.lt_of_lt_of_le zq100 zq12)
                        have u105z_x105 : x105.toInt ≤ (1 : Int) := (by have h1 := qx105.1; have h2 := u12f_j10l3; have h3 : (2 : Int32).toInt = 2 := (by decide); rw [h3] at h1; omega)
                        refine lv_imul hx hb dX8_seekRests_106 ?_
                        refine lv_topi (fun x106 ex106 => ?_)
                        have qx106 : x106.toInt = (10 : Int32).toInt * x105.toInt ∧ (0 : Int) ≤ x106.toInt ∧ x106.toInt ≤ 10 := ai_mul ex106 ⟨zq26, zq27⟩ ⟨qx105.2.1, u105z_x105⟩ (by decide) (by decide) zq103
                        have wx106 : x106.toInt = 10 * x105.toInt := qx106.1
                        refine lv_iload_n hx hb dX8_seekRests_107 rfl (lv_at hl 3 rfl) ?_
                        refine lv_iconst (v := 2) hx hb dX8_seekRests_108 zk_iconst_2 ?_
                        refine lv_irem hx hb dX8_seekRests_109 (by decide +kernel) ?_
                        refine lv_topi (fun x109 ex109 => ?_)
                        have qx109 := ai_rem2 ex109 bj10l3_l (Int.lt_of_lt_of_le zq100 zq12) zq13
                        have wx109 : x109.toInt = j10l3.toInt % 2 := qx109.1
                        refine lv_iadd hx hb dX8_seekRests_110 ?_
                        refine lv_topi (fun x110 ex110 => ?_)
                        have qx110 : x110.toInt = x106.toInt + x109.toInt := ai_add ex110 ⟨qx106.2.1, qx106.2.2⟩ ⟨qx109.2.1, qx109.2.2⟩ (by decide) (by decide)
                        have bx110 : (0 : Int) ≤ x110.toInt ∧ x110.toInt ≤ 11 := ⟨by rw [qx110]; exact Int.add_le_add qx106.2.1 qx109.2.1, by rw [qx110]; exact Int.add_le_add qx106.2.2 qx109.2.2⟩
                        refine va_put (D := (dC, dI)) (ci := 8) (v := .int x110) (ty := .int) (C := RX8) (T := TX8) (N := 40) hx hb hts zi_X8_seekRests_8 tyX8 tyX8_ok nmX8 hown hK hP hD hS 0 rfl rfl 37 (by decide) (hts (.fieldLink RX8 359 "WaxTurnsModel" "firstRest" "I") (List.mem_cons_of_mem _ (List.mem_append_left _ (List.mem_of_getElem? (i := 0) rfl)))) (fun _ h9 => h9) rfl (tyX8_ok 37 (by decide)) rfl rfl (Nat.le_of_ble_eq_true rfl) dX8_seekRests_111 (fun H locs hP hD hS => ?_)
                        refine zs_0 (y := (a0, .inr (8, [a0g_0, a0g_1, a0g_2, a0g_3, a0g_4, a0g_5, a0g_6, a0g_7, a0g_8, a0g_9, a0g_10, a0g_11, a0g_12, a0g_13, a0g_14, a0g_15, a0g_16, a0g_17, a0g_18, a0g_19, a0g_20, a0g_21, a0g_22, a0g_23, a0g_24, a0g_25, a0g_26, a0g_27, a0g_28, a0g_29, a0g_30, a0g_31, a0g_32, a0g_33, a0g_34, a0g_35, a0g_36, Value.int x110, a0g_38, a0g_39]))) hP hD rfl (fun hP hD => ?_)
                        exact (hK0 _ _ _).mp (J114 x110 _ _ _   hP hD hS (lv_sub hl [0, 1, 2, 3] rfl))
                    · obtain ⟨hw, h87_0, h87_1⟩ := hw
                      subst hw
                      have l87k2_j39s0 : (0 : Int) ≤ j39s0.toInt := bj39s0_l
                      have u87k2_j39s0 : j39s0.toInt ≤ (0 : Int) := h87_1
                      refine lv_icmp_le (tgt := 96) hx hb dX8_seekRests_90 (by decide) (fun _ => ?_) (fun c90 => absurd (by decide +kernel) c90)
                      refine lv_iload_n hx hb dX8_seekRests_96 rfl (lv_at hl 2 rfl) ?_
                      have J114 : ∀ (j114a0_37 : Int32) (H : Heap) (locs : List Loc) (ls : Array Slot), va_P (dC, dI) vwCl [(a0, .inr (8, [a0g_0, a0g_1, a0g_2, a0g_3, a0g_4, a0g_5, a0g_6, a0g_7, a0g_8, a0g_9, a0g_10, a0g_11, a0g_12, a0g_13, a0g_14, a0g_15, a0g_16, a0g_17, a0g_18, a0g_19, a0g_20, a0g_21, a0g_22, a0g_23, a0g_24, a0g_25, a0g_26, a0g_27, a0g_28, a0g_29, a0g_30, a0g_31, a0g_32, a0g_33, a0g_34, a0g_35, a0g_36, Value.int j114a0_37, a0g_38, a0g_39]))] H → va_D A [(a0, .inr (8, [a0g_0, a0g_1, a0g_2, a0g_3, a0g_4, a0g_5, a0g_6, a0g_7, a0g_8, a0g_9, a0g_10, a0g_11, a0g_12, a0g_13, a0g_14, a0g_15, a0g_16, a0g_17, a0g_18, a0g_19, a0g_20, a0g_21, a0g_22, a0g_23, a0g_24, a0g_25, a0g_26, a0g_27, a0g_28, a0g_29, a0g_30, a0g_31, a0g_32, a0g_33, a0g_34, a0g_35, a0g_36, Value.int j114a0_37, a0g_38, a0g_39]))] → va_S A s.heap H locs → lv_has ls 6 [(0, .ref a0), (1, .int a1), (2, .int j10l2), (3, .int j10l3)] → K H locs (F0 m 114 ls []) := by
                        intro j114a0_37 H locs ls   hP hD hS hl
                        refine (hK0 _ _ _).mpr ?_
                        obtain ⟨x114, ex114⟩ : ∃ y : Int32, y = j10l2 + Int32.ofInt 1 := ⟨_, rfl⟩
                        refine lv_iinc (v := x114) (lv' := [(2, .int x114), (0, .ref a0), (1, .int a1), (3, .int j10l3)]) hx hb dX8_seekRests_114 hl (k := 2) rfl ex114.symm (by decide) rfl (fun ls hl => ?_)
                        exact (hK0 _ _ _).mp (J117 x114 j114a0_37 _ _ _   hP hD hS (lv_sub hl [1, 2, 0, 3] rfl))
                      refine lv_if_ne (tgt := 114) hx hb dX8_seekRests_97 (by decide) (fun c97 => ?_) (fun c97 => ?_)
                      · have gc97 := ai_ne c97
                        exact (hK0 _ _ _).mp (J114 j10a0_37 _ _ _   hP hD hS (lv_sub hl [0, 1, 2, 3] rfl))
                      · have gc97 := ai_eq c97
                        have u97f_j10l2 : j10l2.toInt ≤ (0 : Int) := Int.le_trans (Int.le_of_eq gc97) zq6
                        have l97f_j10l2 : (0 : Int) ≤ j10l2.toInt := Int.le_trans zq5 (Int.le_of_eq gc97.symm)
                        refine lv_aload_n hx hb dX8_seekRests_100 rfl (lv_at hl 0 rfl) ?_
                        refine lv_bipush (v := 10) hx hb dX8_seekRests_101 zk_bipush_10 ?_
                        refine lv_iload_n hx hb dX8_seekRests_103 rfl (lv_at hl 3 rfl) ?_
                        refine lv_iconst (v := 2) hx hb dX8_seekRests_104 zk_iconst_2 ?_
                        refine lv_idiv hx hb dX8_seekRests_105 (by decide +kernel) ?_
                        refine lv_topi (fun x105 ex105 => ?_)
                        have qx105 := ai_div ex105 ⟨bj10l3_l, u12f_j10l3⟩ (Int.lt_of_lt_of_le zq100 zq12)
                        have u105z_x105 : x105.toInt ≤ (1 : Int) := (by have h1 := qx105.1; have h2 := u12f_j10l3; have h3 : (2 : Int32).toInt = 2 := (by decide); rw [h3] at h1; omega)
                        refine lv_imul hx hb dX8_seekRests_106 ?_
                        refine lv_topi (fun x106 ex106 => ?_)
                        have qx106 : x106.toInt = (10 : Int32).toInt * x105.toInt ∧ (0 : Int) ≤ x106.toInt ∧ x106.toInt ≤ 10 := ai_mul ex106 ⟨zq26, zq27⟩ ⟨qx105.2.1, u105z_x105⟩ (by decide) (by decide) zq103
                        have wx106 : x106.toInt = 10 * x105.toInt := qx106.1
                        refine lv_iload_n hx hb dX8_seekRests_107 rfl (lv_at hl 3 rfl) ?_
                        refine lv_iconst (v := 2) hx hb dX8_seekRests_108 zk_iconst_2 ?_
                        refine lv_irem hx hb dX8_seekRests_109 (by decide +kernel) ?_
                        refine lv_topi (fun x109 ex109 => ?_)
                        have qx109 := ai_rem2 ex109 bj10l3_l (Int.lt_of_lt_of_le zq100 zq12) zq13
                        have wx109 : x109.toInt = j10l3.toInt % 2 := qx109.1
                        refine lv_iadd hx hb dX8_seekRests_110 ?_
                        refine lv_topi (fun x110 ex110 => ?_)
                        have qx110 : x110.toInt = x106.toInt + x109.toInt := ai_add ex110 ⟨qx106.2.1, qx106.2.2⟩ ⟨qx109.2.1, qx109.2.2⟩ (by decide) (by decide)
                        have bx110 : (0 : Int) ≤ x110.toInt ∧ x110.toInt ≤ 11 := ⟨by rw [qx110]; exact Int.add_le_add qx106.2.1 qx109.2.1, by rw [qx110]; exact Int.add_le_add qx106.2.2 qx109.2.2⟩
                        refine va_put (D := (dC, dI)) (ci := 8) (v := .int x110) (ty := .int) (C := RX8) (T := TX8) (N := 40) hx hb hts zi_X8_seekRests_8 tyX8 tyX8_ok nmX8 hown hK hP hD hS 0 rfl rfl 37 (by decide) (hts (.fieldLink RX8 359 "WaxTurnsModel" "firstRest" "I") (List.mem_cons_of_mem _ (List.mem_append_left _ (List.mem_of_getElem? (i := 0) rfl)))) (fun _ h9 => h9) rfl (tyX8_ok 37 (by decide)) rfl rfl (Nat.le_of_ble_eq_true rfl) dX8_seekRests_111 (fun H locs hP hD hS => ?_)
                        refine zs_0 (y := (a0, .inr (8, [a0g_0, a0g_1, a0g_2, a0g_3, a0g_4, a0g_5, a0g_6, a0g_7, a0g_8, a0g_9, a0g_10, a0g_11, a0g_12, a0g_13, a0g_14, a0g_15, a0g_16, a0g_17, a0g_18, a0g_19, a0g_20, a0g_21, a0g_22, a0g_23, a0g_24, a0g_25, a0g_26, a0g_27, a0g_28, a0g_29, a0g_30, a0g_31, a0g_32, a0g_33, a0g_34, a0g_35, a0g_36, Value.int x110, a0g_38, a0g_39]))) hP hD rfl (fun hP hD => ?_)
                        exact (hK0 _ _ _).mp (J114 x110 _ _ _   hP hD hS (lv_sub hl [0, 1, 2, 3] rfl))
                    · obtain ⟨hw, h87_0, h87_1⟩ := hw
                      subst hw
                      have l87k3_j25s0 : (0 : Int) ≤ j25s0.toInt := bj25s0_l
                      have u87k3_j25s0 : j25s0.toInt ≤ (0 : Int) := h87_1
                      refine lv_icmp_le (tgt := 96) hx hb dX8_seekRests_90 (by decide) (fun c90 => absurd c90 (by decide +kernel)) (fun _ => ?_)
                      refine lv_goto (tgt := 117) hx hb dX8_seekRests_93 (by decide) ?_
                      exact (hK0 _ _ _).mp (J117 j10l2 j10a0_37 _ _ _   hP hD hS (lv_sub hl [0, 1, 2, 3] rfl))
                  · obtain ⟨hw, h80_0, h80_1⟩ := hw
                    subst hw
                    have l80k3_j25s0 : (0 : Int) ≤ j25s0.toInt := bj25s0_l
                    have u80k3_j25s0 : j25s0.toInt ≤ (0 : Int) := h80_1
                    refine lv_iload hx hb dX8_seekRests_83 (lv_at hl 4 rfl) ?_
                    refine lv_iload hx hb dX8_seekRests_85 (lv_at hl 5 rfl) ?_
                    refine va_calli (va_runS (As := [.int j25s0, .int j39s0]) (rest := [.int (-1)]) ⟨hx, hb, hml, hown, hts⟩ (c_X8_otherHas l dC dI H.size j25s0 j39s0 ) (va_cwS 2 hts gX8_seekRests_X8_otherHas rfl rfl rfl zd_X8_otherHas.2 ⟨Nat.le_of_ble_eq_true rfl, Nat.le_of_ble_eq_true rfl⟩) ⟨ax_blind (fun _ _ _ _ _ => trivial), ax_pre (zp_P0 hP) (zp_K hK) (zp_D0 hD) (fun _ _ => trivial)⟩ rfl rfl hl.1 rfl (lv_room (Nat.le_of_ble_eq_true rfl)) dX8_seekRests_87 ⟨Nat.le_of_ble_eq_true rfl, Nat.le_of_ble_eq_true rfl⟩) hS (fun q _ h => zp_F0 hD hS hA q h) (zp_F0 hD hS hA) (fun r87 u t H locs ht hvm hw hB hz1 hk1 hS1 => zo0 hB ht hP hD hk1 (zp_F0 hD hS hA) hS1 (fun hP hK1 hD hS => ?_))
                    rcases hw with hw | hw | hw | hw
                    · subst hw
                      refine lv_icmp_le (tgt := 96) hx hb dX8_seekRests_90 (by decide) (fun _ => ?_) (fun c90 => absurd (by decide +kernel) c90)
                      refine lv_iload_n hx hb dX8_seekRests_96 rfl (lv_at hl 2 rfl) ?_
                      have J114 : ∀ (j114a0_37 : Int32) (H : Heap) (locs : List Loc) (ls : Array Slot), va_P (dC, dI) vwCl [(a0, .inr (8, [a0g_0, a0g_1, a0g_2, a0g_3, a0g_4, a0g_5, a0g_6, a0g_7, a0g_8, a0g_9, a0g_10, a0g_11, a0g_12, a0g_13, a0g_14, a0g_15, a0g_16, a0g_17, a0g_18, a0g_19, a0g_20, a0g_21, a0g_22, a0g_23, a0g_24, a0g_25, a0g_26, a0g_27, a0g_28, a0g_29, a0g_30, a0g_31, a0g_32, a0g_33, a0g_34, a0g_35, a0g_36, Value.int j114a0_37, a0g_38, a0g_39]))] H → va_D A [(a0, .inr (8, [a0g_0, a0g_1, a0g_2, a0g_3, a0g_4, a0g_5, a0g_6, a0g_7, a0g_8, a0g_9, a0g_10, a0g_11, a0g_12, a0g_13, a0g_14, a0g_15, a0g_16, a0g_17, a0g_18, a0g_19, a0g_20, a0g_21, a0g_22, a0g_23, a0g_24, a0g_25, a0g_26, a0g_27, a0g_28, a0g_29, a0g_30, a0g_31, a0g_32, a0g_33, a0g_34, a0g_35, a0g_36, Value.int j114a0_37, a0g_38, a0g_39]))] → va_S A s.heap H locs → lv_has ls 6 [(0, .ref a0), (1, .int a1), (2, .int j10l2), (3, .int j10l3)] → K H locs (F0 m 114 ls []) := by
                        intro j114a0_37 H locs ls   hP hD hS hl
                        refine (hK0 _ _ _).mpr ?_
                        obtain ⟨x114, ex114⟩ : ∃ y : Int32, y = j10l2 + Int32.ofInt 1 := ⟨_, rfl⟩
                        refine lv_iinc (v := x114) (lv' := [(2, .int x114), (0, .ref a0), (1, .int a1), (3, .int j10l3)]) hx hb dX8_seekRests_114 hl (k := 2) rfl ex114.symm (by decide) rfl (fun ls hl => ?_)
                        exact (hK0 _ _ _).mp (J117 x114 j114a0_37 _ _ _   hP hD hS (lv_sub hl [1, 2, 0, 3] rfl))
                      refine lv_if_ne (tgt := 114) hx hb dX8_seekRests_97 (by decide) (fun c97 => ?_) (fun c97 => ?_)
                      · have gc97 := ai_ne c97
                        exact (hK0 _ _ _).mp (J114 j10a0_37 _ _ _   hP hD hS (lv_sub hl [0, 1, 2, 3] rfl))
                      · have gc97 := ai_eq c97
                        have u97f_j10l2 : j10l2.toInt ≤ (0 : Int) := Int.le_trans (Int.le_of_eq gc97) zq6
                        have l97f_j10l2 : (0 : Int) ≤ j10l2.toInt := Int.le_trans zq5 (Int.le_of_eq gc97.symm)
                        refine lv_aload_n hx hb dX8_seekRests_100 rfl (lv_at hl 0 rfl) ?_
                        refine lv_bipush (v := 10) hx hb dX8_seekRests_101 zk_bipush_10 ?_
                        refine lv_iload_n hx hb dX8_seekRests_103 rfl (lv_at hl 3 rfl) ?_
                        refine lv_iconst (v := 2) hx hb dX8_seekRests_104 zk_iconst_2 ?_
                        refine lv_idiv hx hb dX8_seekRests_105 (by decide +kernel) ?_
                        refine lv_topi (fun x105 ex105 => ?_)
                        have qx105 := ai_div ex105 ⟨bj10l3_l, u12f_j10l3⟩ (Int.lt_of_lt_of_le zq100 zq12)
                        have u105z_x105 : x105.toInt ≤ (1 : Int) := (by have h1 := qx105.1; have h2 := u12f_j10l3; have h3 : (2 : Int32).toInt = 2 := (by decide); rw [h3] at h1; omega)
                        refine lv_imul hx hb dX8_seekRests_106 ?_
                        refine lv_topi (fun x106 ex106 => ?_)
                        have qx106 : x106.toInt = (10 : Int32).toInt * x105.toInt ∧ (0 : Int) ≤ x106.toInt ∧ x106.toInt ≤ 10 := ai_mul ex106 ⟨zq26, zq27⟩ ⟨qx105.2.1, u105z_x105⟩ (by decide) (by decide) zq103
                        have wx106 : x106.toInt = 10 * x105.toInt := qx106.1
                        refine lv_iload_n hx hb dX8_seekRests_107 rfl (lv_at hl 3 rfl) ?_
                        refine lv_iconst (v := 2) hx hb dX8_seekRests_108 zk_iconst_2 ?_
                        refine lv_irem hx hb dX8_seekRests_109 (by decide +kernel) ?_
                        refine lv_topi (fun x109 ex109 => ?_)
                        have qx109 := ai_rem2 ex109 bj10l3_l (Int.lt_of_lt_of_le zq100 zq12) zq13
                        have wx109 : x109.toInt = j10l3.toInt % 2 := qx109.1
                        refine lv_iadd hx hb dX8_seekRests_110 ?_
                        refine lv_topi (fun x110 ex110 => ?_)
                        have qx110 : x110.toInt = x106.toInt + x109.toInt := ai_add ex110 ⟨qx106.2.1, qx106.2.2⟩ ⟨qx109.2.1, qx109.2.2⟩ (by decide) (by decide)
                        have bx110 : (0 : Int) ≤ x110.toInt ∧ x110.toInt ≤ 11 := ⟨by rw [qx110]; exact Int.add_le_add qx106.2.1 qx109.2.1, by rw [qx110]; exact Int.add_le_add qx106.2.2 qx109.2.2⟩
                        refine va_put (D := (dC, dI)) (ci := 8) (v := .int x110) (ty := .int) (C := RX8) (T := TX8) (N := 40) hx hb hts zi_X8_seekRests_8 tyX8 tyX8_ok nmX8 hown hK hP hD hS 0 rfl rfl 37 (by decide) (hts (.fieldLink RX8 359 "WaxTurnsModel" "firstRest" "I") (List.mem_cons_of_mem _ (List.mem_append_left _ (List.mem_of_getElem? (i := 0) rfl)))) (fun _ h9 => h9) rfl (tyX8_ok 37 (by decide)) rfl rfl (Nat.le_of_ble_eq_true rfl) dX8_seekRests_111 (fun H locs hP hD hS => ?_)
                        refine zs_0 (y := (a0, .inr (8, [a0g_0, a0g_1, a0g_2, a0g_3, a0g_4, a0g_5, a0g_6, a0g_7, a0g_8, a0g_9, a0g_10, a0g_11, a0g_12, a0g_13, a0g_14, a0g_15, a0g_16, a0g_17, a0g_18, a0g_19, a0g_20, a0g_21, a0g_22, a0g_23, a0g_24, a0g_25, a0g_26, a0g_27, a0g_28, a0g_29, a0g_30, a0g_31, a0g_32, a0g_33, a0g_34, a0g_35, a0g_36, Value.int x110, a0g_38, a0g_39]))) hP hD rfl (fun hP hD => ?_)
                        exact (hK0 _ _ _).mp (J114 x110 _ _ _   hP hD hS (lv_sub hl [0, 1, 2, 3] rfl))
                    · obtain ⟨hw, h87_0, h87_1, h87_2, h87_3⟩ := hw
                      subst hw
                      have l87k1_j25s0 : (0 : Int) ≤ j25s0.toInt := l80k3_j25s0
                      have u87k1_j25s0 : j25s0.toInt ≤ (0 : Int) := u80k3_j25s0
                      have l87k1_j39s0 : (0 : Int) ≤ j39s0.toInt := bj39s0_l
                      have u87k1_j39s0 : j39s0.toInt ≤ (0 : Int) := h87_3
                      refine lv_icmp_le (tgt := 96) hx hb dX8_seekRests_90 (by decide) (fun _ => ?_) (fun c90 => absurd (by decide +kernel) c90)
                      refine lv_iload_n hx hb dX8_seekRests_96 rfl (lv_at hl 2 rfl) ?_
                      have J114 : ∀ (j114a0_37 : Int32) (H : Heap) (locs : List Loc) (ls : Array Slot), va_P (dC, dI) vwCl [(a0, .inr (8, [a0g_0, a0g_1, a0g_2, a0g_3, a0g_4, a0g_5, a0g_6, a0g_7, a0g_8, a0g_9, a0g_10, a0g_11, a0g_12, a0g_13, a0g_14, a0g_15, a0g_16, a0g_17, a0g_18, a0g_19, a0g_20, a0g_21, a0g_22, a0g_23, a0g_24, a0g_25, a0g_26, a0g_27, a0g_28, a0g_29, a0g_30, a0g_31, a0g_32, a0g_33, a0g_34, a0g_35, a0g_36, Value.int j114a0_37, a0g_38, a0g_39]))] H → va_D A [(a0, .inr (8, [a0g_0, a0g_1, a0g_2, a0g_3, a0g_4, a0g_5, a0g_6, a0g_7, a0g_8, a0g_9, a0g_10, a0g_11, a0g_12, a0g_13, a0g_14, a0g_15, a0g_16, a0g_17, a0g_18, a0g_19, a0g_20, a0g_21, a0g_22, a0g_23, a0g_24, a0g_25, a0g_26, a0g_27, a0g_28, a0g_29, a0g_30, a0g_31, a0g_32, a0g_33, a0g_34, a0g_35, a0g_36, Value.int j114a0_37, a0g_38, a0g_39]))] → va_S A s.heap H locs → lv_has ls 6 [(0, .ref a0), (1, .int a1), (2, .int j10l2), (3, .int j10l3)] → K H locs (F0 m 114 ls []) := by
                        intro j114a0_37 H locs ls   hP hD hS hl
                        refine (hK0 _ _ _).mpr ?_
                        obtain ⟨x114, ex114⟩ : ∃ y : Int32, y = j10l2 + Int32.ofInt 1 := ⟨_, rfl⟩
                        refine lv_iinc (v := x114) (lv' := [(2, .int x114), (0, .ref a0), (1, .int a1), (3, .int j10l3)]) hx hb dX8_seekRests_114 hl (k := 2) rfl ex114.symm (by decide) rfl (fun ls hl => ?_)
                        exact (hK0 _ _ _).mp (J117 x114 j114a0_37 _ _ _   hP hD hS (lv_sub hl [1, 2, 0, 3] rfl))
                      refine lv_if_ne (tgt := 114) hx hb dX8_seekRests_97 (by decide) (fun c97 => ?_) (fun c97 => ?_)
                      · have gc97 := ai_ne c97
                        exact (hK0 _ _ _).mp (J114 j10a0_37 _ _ _   hP hD hS (lv_sub hl [0, 1, 2, 3] rfl))
                      · have gc97 := ai_eq c97
                        have u97f_j10l2 : j10l2.toInt ≤ (0 : Int) := Int.le_trans (Int.le_of_eq gc97) zq6
                        have l97f_j10l2 : (0 : Int) ≤ j10l2.toInt := Int.le_trans zq5 (Int.le_of_eq gc97.symm)
                        refine lv_aload_n hx hb dX8_seekRests_100 rfl (lv_at hl 0 rfl) ?_
                        refine lv_bipush (v := 10) hx hb dX8_seekRests_101 zk_bipush_10 ?_
                        refine lv_iload_n hx hb dX8_seekRests_103 rfl (lv_at hl 3 rfl) ?_
                        refine lv_iconst (v := 2) hx hb dX8_seekRests_104 zk_iconst_2 ?_
                        refine lv_idiv hx hb dX8_seekRests_105 (by decide +kernel) ?_
                        refine lv_topi (fun x105 ex105 => ?_)
                        have qx105 := ai_div ex105 ⟨bj10l3_l, u12f_j10l3⟩ (Int.lt_of_lt_of_le zq100 zq12)
                        have u105z_x105 : x105.toInt ≤ (1 : Int) := (by have h1 := qx105.1; have h2 := u12f_j10l3; have h3 : (2 : Int32).toInt = 2 := (by decide); rw [h3] at h1; omega)
                        refine lv_imul hx hb dX8_seekRests_106 ?_
                        refine lv_topi (fun x106 ex106 => ?_)
                        have qx106 : x106.toInt = (10 : Int32).toInt * x105.toInt ∧ (0 : Int) ≤ x106.toInt ∧ x106.toInt ≤ 10 := ai_mul ex106 ⟨zq26, zq27⟩ ⟨qx105.2.1, u105z_x105⟩ (by decide) (by decide) zq103
                        have wx106 : x106.toInt = 10 * x105.toInt := qx106.1
                        refine lv_iload_n hx hb dX8_seekRests_107 rfl (lv_at hl 3 rfl) ?_
                        refine lv_iconst (v := 2) hx hb dX8_seekRests_108 zk_iconst_2 ?_
                        refine lv_irem hx hb dX8_seekRests_109 (by decide +kernel) ?_
                        refine lv_topi (fun x109 ex109 => ?_)
                        have qx109 := ai_rem2 ex109 bj10l3_l (Int.lt_of_lt_of_le zq100 zq12) zq13
                        have wx109 : x109.toInt = j10l3.toInt % 2 := qx109.1
                        refine lv_iadd hx hb dX8_seekRests_110 ?_
                        refine lv_topi (fun x110 ex110 => ?_)
                        have qx110 : x110.toInt = x106.toInt + x109.toInt := ai_add ex110 ⟨qx106.2.1, qx106.2.2⟩ ⟨qx109.2.1, qx109.2.2⟩ (by decide) (by decide)
                        have bx110 : (0 : Int) ≤ x110.toInt ∧ x110.toInt ≤ 11 := ⟨by rw [qx110]; exact Int.add_le_add qx106.2.1 qx109.2.1, by rw [qx110]; exact Int.add_le_add qx106.2.2 qx109.2.2⟩
                        refine va_put (D := (dC, dI)) (ci := 8) (v := .int x110) (ty := .int) (C := RX8) (T := TX8) (N := 40) hx hb hts zi_X8_seekRests_8 tyX8 tyX8_ok nmX8 hown hK hP hD hS 0 rfl rfl 37 (by decide) (hts (.fieldLink RX8 359 "WaxTurnsModel" "firstRest" "I") (List.mem_cons_of_mem _ (List.mem_append_left _ (List.mem_of_getElem? (i := 0) rfl)))) (fun _ h9 => h9) rfl (tyX8_ok 37 (by decide)) rfl rfl (Nat.le_of_ble_eq_true rfl) dX8_seekRests_111 (fun H locs hP hD hS => ?_)
                        refine zs_0 (y := (a0, .inr (8, [a0g_0, a0g_1, a0g_2, a0g_3, a0g_4, a0g_5, a0g_6, a0g_7, a0g_8, a0g_9, a0g_10, a0g_11, a0g_12, a0g_13, a0g_14, a0g_15, a0g_16, a0g_17, a0g_18, a0g_19, a0g_20, a0g_21, a0g_22, a0g_23, a0g_24, a0g_25, a0g_26, a0g_27, a0g_28, a0g_29, a0g_30, a0g_31, a0g_32, a0g_33, a0g_34, a0g_35, a0g_36, Value.int x110, a0g_38, a0g_39]))) hP hD rfl (fun hP hD => ?_)
                        exact (hK0 _ _ _).mp (J114 x110 _ _ _   hP hD hS (lv_sub hl [0, 1, 2, 3] rfl))
                    · obtain ⟨hw, h87_0, h87_1⟩ := hw
                      subst hw
                      have l87k2_j39s0 : (0 : Int) ≤ j39s0.toInt := bj39s0_l
                      have u87k2_j39s0 : j39s0.toInt ≤ (0 : Int) := h87_1
                      refine lv_icmp_le (tgt := 96) hx hb dX8_seekRests_90 (by decide) (fun _ => ?_) (fun c90 => absurd (by decide +kernel) c90)
                      refine lv_iload_n hx hb dX8_seekRests_96 rfl (lv_at hl 2 rfl) ?_
                      have J114 : ∀ (j114a0_37 : Int32) (H : Heap) (locs : List Loc) (ls : Array Slot), va_P (dC, dI) vwCl [(a0, .inr (8, [a0g_0, a0g_1, a0g_2, a0g_3, a0g_4, a0g_5, a0g_6, a0g_7, a0g_8, a0g_9, a0g_10, a0g_11, a0g_12, a0g_13, a0g_14, a0g_15, a0g_16, a0g_17, a0g_18, a0g_19, a0g_20, a0g_21, a0g_22, a0g_23, a0g_24, a0g_25, a0g_26, a0g_27, a0g_28, a0g_29, a0g_30, a0g_31, a0g_32, a0g_33, a0g_34, a0g_35, a0g_36, Value.int j114a0_37, a0g_38, a0g_39]))] H → va_D A [(a0, .inr (8, [a0g_0, a0g_1, a0g_2, a0g_3, a0g_4, a0g_5, a0g_6, a0g_7, a0g_8, a0g_9, a0g_10, a0g_11, a0g_12, a0g_13, a0g_14, a0g_15, a0g_16, a0g_17, a0g_18, a0g_19, a0g_20, a0g_21, a0g_22, a0g_23, a0g_24, a0g_25, a0g_26, a0g_27, a0g_28, a0g_29, a0g_30, a0g_31, a0g_32, a0g_33, a0g_34, a0g_35, a0g_36, Value.int j114a0_37, a0g_38, a0g_39]))] → va_S A s.heap H locs → lv_has ls 6 [(0, .ref a0), (1, .int a1), (2, .int j10l2), (3, .int j10l3)] → K H locs (F0 m 114 ls []) := by
                        intro j114a0_37 H locs ls   hP hD hS hl
                        refine (hK0 _ _ _).mpr ?_
                        obtain ⟨x114, ex114⟩ : ∃ y : Int32, y = j10l2 + Int32.ofInt 1 := ⟨_, rfl⟩
                        refine lv_iinc (v := x114) (lv' := [(2, .int x114), (0, .ref a0), (1, .int a1), (3, .int j10l3)]) hx hb dX8_seekRests_114 hl (k := 2) rfl ex114.symm (by decide) rfl (fun ls hl => ?_)
                        exact (hK0 _ _ _).mp (J117 x114 j114a0_37 _ _ _   hP hD hS (lv_sub hl [1, 2, 0, 3] rfl))
                      refine lv_if_ne (tgt := 114) hx hb dX8_seekRests_97 (by decide) (fun c97 => ?_) (fun c97 => ?_)
                      · have gc97 := ai_ne c97
                        exact (hK0 _ _ _).mp (J114 j10a0_37 _ _ _   hP hD hS (lv_sub hl [0, 1, 2, 3] rfl))
                      · have gc97 := ai_eq c97
                        have u97f_j10l2 : j10l2.toInt ≤ (0 : Int) := Int.le_trans (Int.le_of_eq gc97) zq6
                        have l97f_j10l2 : (0 : Int) ≤ j10l2.toInt := Int.le_trans zq5 (Int.le_of_eq gc97.symm)
                        refine lv_aload_n hx hb dX8_seekRests_100 rfl (lv_at hl 0 rfl) ?_
                        refine lv_bipush (v := 10) hx hb dX8_seekRests_101 zk_bipush_10 ?_
                        refine lv_iload_n hx hb dX8_seekRests_103 rfl (lv_at hl 3 rfl) ?_
                        refine lv_iconst (v := 2) hx hb dX8_seekRests_104 zk_iconst_2 ?_
                        refine lv_idiv hx hb dX8_seekRests_105 (by decide +kernel) ?_
                        refine lv_topi (fun x105 ex105 => ?_)
                        have qx105 := ai_div ex105 ⟨bj10l3_l, u12f_j10l3⟩ (Int.lt_of_lt_of_le zq100 zq12)
                        have u105z_x105 : x105.toInt ≤ (1 : Int) := (by have h1 := qx105.1; have h2 := u12f_j10l3; have h3 : (2 : Int32).toInt = 2 := (by decide); rw [h3] at h1; omega)
                        refine lv_imul hx hb dX8_seekRests_106 ?_
                        refine lv_topi (fun x106 ex106 => ?_)
                        have qx106 : x106.toInt = (10 : Int32).toInt * x105.toInt ∧ (0 : Int) ≤ x106.toInt ∧ x106.toInt ≤ 10 := ai_mul ex106 ⟨zq26, zq27⟩ ⟨qx105.2.1, u105z_x105⟩ (by decide) (by decide) zq103
                        have wx106 : x106.toInt = 10 * x105.toInt := qx106.1
                        refine lv_iload_n hx hb dX8_seekRests_107 rfl (lv_at hl 3 rfl) ?_
                        refine lv_iconst (v := 2) hx hb dX8_seekRests_108 zk_iconst_2 ?_
                        refine lv_irem hx hb dX8_seekRests_109 (by decide +kernel) ?_
                        refine lv_topi (fun x109 ex109 => ?_)
                        have qx109 := ai_rem2 ex109 bj10l3_l (Int.lt_of_lt_of_le zq100 zq12) zq13
                        have wx109 : x109.toInt = j10l3.toInt % 2 := qx109.1
                        refine lv_iadd hx hb dX8_seekRests_110 ?_
                        refine lv_topi (fun x110 ex110 => ?_)
                        have qx110 : x110.toInt = x106.toInt + x109.toInt := ai_add ex110 ⟨qx106.2.1, qx106.2.2⟩ ⟨qx109.2.1, qx109.2.2⟩ (by decide) (by decide)
                        have bx110 : (0 : Int) ≤ x110.toInt ∧ x110.toInt ≤ 11 := ⟨by rw [qx110]; exact Int.add_le_add qx106.2.1 qx109.2.1, by rw [qx110]; exact Int.add_le_add qx106.2.2 qx109.2.2⟩
                        refine va_put (D := (dC, dI)) (ci := 8) (v := .int x110) (ty := .int) (C := RX8) (T := TX8) (N := 40) hx hb hts zi_X8_seekRests_8 tyX8 tyX8_ok nmX8 hown hK hP hD hS 0 rfl rfl 37 (by decide) (hts (.fieldLink RX8 359 "WaxTurnsModel" "firstRest" "I") (List.mem_cons_of_mem _ (List.mem_append_left _ (List.mem_of_getElem? (i := 0) rfl)))) (fun _ h9 => h9) rfl (tyX8_ok 37 (by decide)) rfl rfl (Nat.le_of_ble_eq_true rfl) dX8_seekRests_111 (fun H locs hP hD hS => ?_)
                        refine zs_0 (y := (a0, .inr (8, [a0g_0, a0g_1, a0g_2, a0g_3, a0g_4, a0g_5, a0g_6, a0g_7, a0g_8, a0g_9, a0g_10, a0g_11, a0g_12, a0g_13, a0g_14, a0g_15, a0g_16, a0g_17, a0g_18, a0g_19, a0g_20, a0g_21, a0g_22, a0g_23, a0g_24, a0g_25, a0g_26, a0g_27, a0g_28, a0g_29, a0g_30, a0g_31, a0g_32, a0g_33, a0g_34, a0g_35, a0g_36, Value.int x110, a0g_38, a0g_39]))) hP hD rfl (fun hP hD => ?_)
                        exact (hK0 _ _ _).mp (J114 x110 _ _ _   hP hD hS (lv_sub hl [0, 1, 2, 3] rfl))
                    · obtain ⟨hw, h87_0, h87_1⟩ := hw
                      subst hw
                      have l87k3_j25s0 : (0 : Int) ≤ j25s0.toInt := l80k3_j25s0
                      have u87k3_j25s0 : j25s0.toInt ≤ (0 : Int) := u80k3_j25s0
                      refine lv_icmp_le (tgt := 96) hx hb dX8_seekRests_90 (by decide) (fun _ => ?_) (fun c90 => absurd (by decide +kernel) c90)
                      refine lv_iload_n hx hb dX8_seekRests_96 rfl (lv_at hl 2 rfl) ?_
                      have J114 : ∀ (j114a0_37 : Int32) (H : Heap) (locs : List Loc) (ls : Array Slot), va_P (dC, dI) vwCl [(a0, .inr (8, [a0g_0, a0g_1, a0g_2, a0g_3, a0g_4, a0g_5, a0g_6, a0g_7, a0g_8, a0g_9, a0g_10, a0g_11, a0g_12, a0g_13, a0g_14, a0g_15, a0g_16, a0g_17, a0g_18, a0g_19, a0g_20, a0g_21, a0g_22, a0g_23, a0g_24, a0g_25, a0g_26, a0g_27, a0g_28, a0g_29, a0g_30, a0g_31, a0g_32, a0g_33, a0g_34, a0g_35, a0g_36, Value.int j114a0_37, a0g_38, a0g_39]))] H → va_D A [(a0, .inr (8, [a0g_0, a0g_1, a0g_2, a0g_3, a0g_4, a0g_5, a0g_6, a0g_7, a0g_8, a0g_9, a0g_10, a0g_11, a0g_12, a0g_13, a0g_14, a0g_15, a0g_16, a0g_17, a0g_18, a0g_19, a0g_20, a0g_21, a0g_22, a0g_23, a0g_24, a0g_25, a0g_26, a0g_27, a0g_28, a0g_29, a0g_30, a0g_31, a0g_32, a0g_33, a0g_34, a0g_35, a0g_36, Value.int j114a0_37, a0g_38, a0g_39]))] → va_S A s.heap H locs → lv_has ls 6 [(0, .ref a0), (1, .int a1), (2, .int j10l2), (3, .int j10l3)] → K H locs (F0 m 114 ls []) := by
                        intro j114a0_37 H locs ls   hP hD hS hl
                        refine (hK0 _ _ _).mpr ?_
                        obtain ⟨x114, ex114⟩ : ∃ y : Int32, y = j10l2 + Int32.ofInt 1 := ⟨_, rfl⟩
                        refine lv_iinc (v := x114) (lv' := [(2, .int x114), (0, .ref a0), (1, .int a1), (3, .int j10l3)]) hx hb dX8_seekRests_114 hl (k := 2) rfl ex114.symm (by decide) rfl (fun ls hl => ?_)
                        exact (hK0 _ _ _).mp (J117 x114 j114a0_37 _ _ _   hP hD hS (lv_sub hl [1, 2, 0, 3] rfl))
                      refine lv_if_ne (tgt := 114) hx hb dX8_seekRests_97 (by decide) (fun c97 => ?_) (fun c97 => ?_)
                      · have gc97 := ai_ne c97
                        exact (hK0 _ _ _).mp (J114 j10a0_37 _ _ _   hP hD hS (lv_sub hl [0, 1, 2, 3] rfl))
                      · have gc97 := ai_eq c97
                        have u97f_j10l2 : j10l2.toInt ≤ (0 : Int) := Int.le_trans (Int.le_of_eq gc97) zq6
                        have l97f_j10l2 : (0 : Int) ≤ j10l2.toInt := Int.le_trans zq5 (Int.le_of_eq gc97.symm)
                        refine lv_aload_n hx hb dX8_seekRests_100 rfl (lv_at hl 0 rfl) ?_
                        refine lv_bipush (v := 10) hx hb dX8_seekRests_101 zk_bipush_10 ?_
                        refine lv_iload_n hx hb dX8_seekRests_103 rfl (lv_at hl 3 rfl) ?_
                        refine lv_iconst (v := 2) hx hb dX8_seekRests_104 zk_iconst_2 ?_
                        refine lv_idiv hx hb dX8_seekRests_105 (by decide +kernel) ?_
                        refine lv_topi (fun x105 ex105 => ?_)
                        have qx105 := ai_div ex105 ⟨bj10l3_l, u12f_j10l3⟩ (Int.lt_of_lt_of_le zq100 zq12)
                        have u105z_x105 : x105.toInt ≤ (1 : Int) := (by have h1 := qx105.1; have h2 := u12f_j10l3; have h3 : (2 : Int32).toInt = 2 := (by decide); rw [h3] at h1; omega)
                        refine lv_imul hx hb dX8_seekRests_106 ?_
                        refine lv_topi (fun x106 ex106 => ?_)
                        have qx106 : x106.toInt = (10 : Int32).toInt * x105.toInt ∧ (0 : Int) ≤ x106.toInt ∧ x106.toInt ≤ 10 := ai_mul ex106 ⟨zq26, zq27⟩ ⟨qx105.2.1, u105z_x105⟩ (by decide) (by decide) zq103
                        have wx106 : x106.toInt = 10 * x105.toInt := qx106.1
                        refine lv_iload_n hx hb dX8_seekRests_107 rfl (lv_at hl 3 rfl) ?_
                        refine lv_iconst (v := 2) hx hb dX8_seekRests_108 zk_iconst_2 ?_
                        refine lv_irem hx hb dX8_seekRests_109 (by decide +kernel) ?_
                        refine lv_topi (fun x109 ex109 => ?_)
                        have qx109 := ai_rem2 ex109 bj10l3_l (Int.lt_of_lt_of_le zq100 zq12) zq13
                        have wx109 : x109.toInt = j10l3.toInt % 2 := qx109.1
                        refine lv_iadd hx hb dX8_seekRests_110 ?_
                        refine lv_topi (fun x110 ex110 => ?_)
                        have qx110 : x110.toInt = x106.toInt + x109.toInt := ai_add ex110 ⟨qx106.2.1, qx106.2.2⟩ ⟨qx109.2.1, qx109.2.2⟩ (by decide) (by decide)
                        have bx110 : (0 : Int) ≤ x110.toInt ∧ x110.toInt ≤ 11 := ⟨by rw [qx110]; exact Int.add_le_add qx106.2.1 qx109.2.1, by rw [qx110]; exact Int.add_le_add qx106.2.2 qx109.2.2⟩
                        refine va_put (D := (dC, dI)) (ci := 8) (v := .int x110) (ty := .int) (C := RX8) (T := TX8) (N := 40) hx hb hts zi_X8_seekRests_8 tyX8 tyX8_ok nmX8 hown hK hP hD hS 0 rfl rfl 37 (by decide) (hts (.fieldLink RX8 359 "WaxTurnsModel" "firstRest" "I") (List.mem_cons_of_mem _ (List.mem_append_left _ (List.mem_of_getElem? (i := 0) rfl)))) (fun _ h9 => h9) rfl (tyX8_ok 37 (by decide)) rfl rfl (Nat.le_of_ble_eq_true rfl) dX8_seekRests_111 (fun H locs hP hD hS => ?_)
                        refine zs_0 (y := (a0, .inr (8, [a0g_0, a0g_1, a0g_2, a0g_3, a0g_4, a0g_5, a0g_6, a0g_7, a0g_8, a0g_9, a0g_10, a0g_11, a0g_12, a0g_13, a0g_14, a0g_15, a0g_16, a0g_17, a0g_18, a0g_19, a0g_20, a0g_21, a0g_22, a0g_23, a0g_24, a0g_25, a0g_26, a0g_27, a0g_28, a0g_29, a0g_30, a0g_31, a0g_32, a0g_33, a0g_34, a0g_35, a0g_36, Value.int x110, a0g_38, a0g_39]))) hP hD rfl (fun hP hD => ?_)
                        exact (hK0 _ _ _).mp (J114 x110 _ _ _   hP hD hS (lv_sub hl [0, 1, 2, 3] rfl))
                refine lv_if_ne (tgt := 79) hx hb dX8_seekRests_72 (by decide) (fun c72 => ?_) (fun c72 => ?_)
                · have gc72 := ai_ne c72
                  have l72t_j39s0 : (1 : Int) ≤ j39s0.toInt := (by have h1 := bj39s0_l; have h2 : (0 : Int32).toInt = 0 := (by decide); rw [h2] at gc72; omega)
                  refine lv_iconst (v := 0) hx hb dX8_seekRests_79 zk_iconst_0 ?_
                  exact (hK0 _ _ _).mp (J80 0 _ _ _  zq5 (Int.le_trans zq6 zq4) hP hD hS (lv_sub hl [0, 1, 2, 3, 4, 5] rfl))
                · have gc72 := ai_eq c72
                  have u72f_j39s0 : j39s0.toInt ≤ (0 : Int) := Int.le_trans (Int.le_of_eq gc72) zq6
                  have l72f_j39s0 : (0 : Int) ≤ j39s0.toInt := bj39s0_l
                  refine lv_iconst (v := 1) hx hb dX8_seekRests_75 zk_iconst_1 ?_
                  refine lv_goto (tgt := 80) hx hb dX8_seekRests_76 (by decide) ?_
                  exact (hK0 _ _ _).mp (J80 1 _ _ _  (Int.le_trans zq4 zq1) zq0 hP hD hS (lv_sub hl [0, 1, 2, 3, 4, 5] rfl))
            refine lv_if_ne (tgt := 51) hx hb dX8_seekRests_44 (by decide) (fun c44 => ?_) (fun c44 => ?_)
            · have gc44 := ai_ne c44
              have l44t_j25s0 : (1 : Int) ≤ j25s0.toInt := (by have h1 := bj25s0_l; have h2 : (0 : Int32).toInt = 0 := (by decide); rw [h2] at gc44; omega)
              refine lv_iconst (v := 0) hx hb dX8_seekRests_51 zk_iconst_0 ?_
              exact (hK0 _ _ _).mp (J52 0 _ _ _  zq5 (Int.le_trans zq6 zq4) hP hD hS (lv_sub hl [1, 2, 3, 4, 5, 0] rfl))
            · have gc44 := ai_eq c44
              have u44f_j25s0 : j25s0.toInt ≤ (0 : Int) := Int.le_trans (Int.le_of_eq gc44) zq6
              have l44f_j25s0 : (0 : Int) ≤ j25s0.toInt := bj25s0_l
              refine lv_iconst (v := 1) hx hb dX8_seekRests_47 zk_iconst_1 ?_
              refine lv_goto (tgt := 52) hx hb dX8_seekRests_48 (by decide) ?_
              exact (hK0 _ _ _).mp (J52 1 _ _ _  (Int.le_trans zq4 zq1) zq0 hP hD hS (lv_sub hl [1, 2, 3, 4, 5, 0] rfl))
          refine lv_icmp_ne (tgt := 38) hx hb dX8_seekRests_31 (by decide) (fun c31 => ?_) (fun c31 => ?_)
          · have gc31 := ai_ne c31
            have u31t_x29 : x29.toInt ≤ (0 : Int) := (by have h1 := qx29.2.2; have h2 : (1 : Int32).toInt = 1 := (by decide); rw [h2] at gc31; omega)
            refine lv_iconst (v := 0) hx hb dX8_seekRests_38 zk_iconst_0 ?_
            exact (hK0 _ _ _).mp (J39 0 _ _ _  zq5 (Int.le_trans zq6 zq4) hP hD hS (lv_sub hl [1, 2, 3, 4, 0] rfl))
          · have gc31 := ai_eq c31
            have u31f_x29 : x29.toInt ≤ (1 : Int) := qx29.2.2
            have l31f_x29 : (1 : Int) ≤ x29.toInt := Int.le_trans zq1 (Int.le_of_eq gc31.symm)
            refine lv_iconst (v := 1) hx hb dX8_seekRests_34 zk_iconst_1 ?_
            refine lv_goto (tgt := 39) hx hb dX8_seekRests_35 (by decide) ?_
            exact (hK0 _ _ _).mp (J39 1 _ _ _  (Int.le_trans zq4 zq1) zq0 hP hD hS (lv_sub hl [1, 2, 3, 4, 0] rfl))
        refine lv_icmp_le (tgt := 24) hx hb dX8_seekRests_17 (by decide) (fun c17 => ?_) (fun c17 => ?_)
        · have gc17 := ai_le c17
          have u17t_j10l3 : j10l3.toInt ≤ (1 : Int) := Int.le_trans gc17 zq0
          refine lv_iconst (v := 0) hx hb dX8_seekRests_24 zk_iconst_0 ?_
          exact (hK0 _ _ _).mp (J25 0 _ _ _  zq5 (Int.le_trans zq6 zq4) hP hD hS (lv_sub hl [0, 1, 2, 3] rfl))
        · have gc17 := ai_nle c17
          have l17f_j10l3 : (2 : Int) ≤ j10l3.toInt := ai_ltlo gc17 zq1
          refine lv_iconst (v := 1) hx hb dX8_seekRests_20 zk_iconst_1 ?_
          refine lv_goto (tgt := 25) hx hb dX8_seekRests_21 (by decide) ?_
          exact (hK0 _ _ _).mp (J25 1 _ _ _  (Int.le_trans zq4 zq1) zq0 hP hD hS (lv_sub hl [0, 1, 2, 3] rfl))
  exact (hK0 _ _ _).mp (J10 5 0 0 (-2) _ _ _ (by have h1 : (0 : Int) ≤ (0 : Int32).toInt := zq5; have h2 : (0 : Int32).toInt ≤ (0 : Int) := zq6; omega) zq5 (Int.le_trans zq6 zq101) hP hD hS (lv_sub hl [2, 3, 1, 0] rfl))
end P260_02_safe
section P260_03_safe
set_option maxHeartbeats 4000000 in
set_option maxRecDepth 100000 in
theorem c_X8_rests (l : Launch) (dC : Nat → ClassId) (dI : Nat → Nat → Nat) (sz : Nat) (a0 : Nat) (a1 : Int32) (a0_0 : Int32) (a0g_1 a0g_2 a0g_3 a0g_4 a0g_5 a0g_6 a0g_7 a0g_8 a0g_9 a0g_10 a0g_12 a0g_13 a0g_15 a0g_16 a0g_17 a0g_18 a0g_19 a0g_20 a0g_21 a0g_22 a0g_23 a0g_24 a0g_25 a0g_26 a0g_27 a0g_28 a0g_29 a0g_30 a0g_31 a0g_32 a0g_33 a0g_34 a0g_35 a0g_36 a0g_38 a0g_39 : Value) (a0_11 : Int32) (a0_14 : Int32) (a0_37 : Int32) (ba0_14_l : (1 : Int) ≤ a0_14.toInt) (ba0_14_u : a0_14.toInt ≤ (1 : Int)) : zm l yX8_rests wsX8_rests ({ frames := 2, cells := 0, slots := 0, locals := 47 }) [.ref a0, .int a1] dC dI sz [(a0, .inr (8, [Value.int a0_0, a0g_1, a0g_2, a0g_3, a0g_4, a0g_5, a0g_6, a0g_7, a0g_8, a0g_9, a0g_10, Value.int a0_11, a0g_12, a0g_13, Value.int a0_14, a0g_15, a0g_16, a0g_17, a0g_18, a0g_19, a0g_20, a0g_21, a0g_22, a0g_23, a0g_24, a0g_25, a0g_26, a0g_27, a0g_28, a0g_29, a0g_30, a0g_31, a0g_32, a0g_33, a0g_34, a0g_35, a0g_36, Value.int a0_37, a0g_38, a0g_39]))] [] (fun A _ => True) (fun A => va_Qi (fun (r : Int32) (_ : Unit) => True) (fun (_ : Unit) (t : State) => ∃ na0_0 : Int32, ∃ na0_11 : Int32, ∃ na0_37 : Int32, ax_B dC dI A [(a0, .inr (8, [Value.int na0_0, a0g_1, a0g_2, a0g_3, a0g_4, a0g_5, a0g_6, a0g_7, a0g_8, a0g_9, a0g_10, Value.int na0_11, a0g_12, a0g_13, Value.int a0_14, a0g_15, a0g_16, a0g_17, a0g_18, a0g_19, a0g_20, a0g_21, a0g_22, a0g_23, a0g_24, a0g_25, a0g_26, a0g_27, a0g_28, a0g_29, a0g_30, a0g_31, a0g_32, a0g_33, a0g_34, a0g_35, a0g_36, Value.int na0_37, a0g_38, a0g_39]))] [] t) A) := by
  refine zh (cc := cX8_rests) (maxL := 3) (ret := (some .int)) zn_RX8 rfl (Nat.le_of_ble_eq_true rfl) (fun p e s m below meth c A ls hx hb hml hr hts (hown : s.vm.findClass RX8 = some m.cls) hlocks hA hS hP hK hD hE (hl : lv_has ls 3 [(0, .ref a0), (1, .int a1)]) => ?_)
  refine lv_aload_n hx hb dX8_rests_0 rfl (lv_at hl 0 rfl) ?_
  refine va_callv (va_runV (As := []) (rest := []) ⟨hx, hb, hml, hown, hts⟩ (c_X8_good l dC dI s.heap.size a0 a0_0 a0g_1 a0g_2 a0g_3 a0g_4 a0g_5 a0g_6 a0g_7 a0g_8 a0g_9 a0g_10 a0g_12 a0g_13 (Value.int a0_14) a0g_15 a0g_16 a0g_17 a0g_18 a0g_19 a0g_20 a0g_21 a0g_22 a0g_23 a0g_24 a0g_25 a0g_26 a0g_27 a0g_28 a0g_29 a0g_30 a0g_31 a0g_32 a0g_33 a0g_34 a0g_35 a0g_36 (Value.int a0_37) a0g_38 a0g_39 a0_11 ) (cwV 0 hts gX8_rests_X8_good rfl rfl rfl zd_X8_good ⟨Nat.le_of_ble_eq_true rfl, Nat.le_of_ble_eq_true rfl⟩) ⟨ax_blind (fun _ _ _ _ _ => trivial), zr_8 (zp_K hK) (zp_P1 hP) (q0 := 0) rfl, ax_pre (zp_P1 hP) (zp_K hK) (zp_D1 hD) (fun _ _ => trivial)⟩ rfl rfl hl.1 rfl (lv_room (Nat.le_of_ble_eq_true rfl)) dX8_rests_1 ⟨Nat.le_of_ble_eq_true rfl, Nat.le_of_ble_eq_true rfl⟩) hS (fun q _ h => zp_F1 hD hS hA q h) (zp_F1 hD hS hA) (fun u t H locs ht hvm hw hB hz1 hk1 hS1 => zx_2 hB (fun v1na0_0 v1na0_11 hB => zo1 hB ht hP hD hk1 (zp_F1 hD hS hA) hS1 (fun hP hK1 hD hS => ?_)))
  refine lv_aload_n hx hb dX8_rests_4 rfl (lv_at hl 0 rfl) ?_
  refine lv_aload_n hx hb dX8_rests_5 rfl (lv_at hl 0 rfl) ?_
  refine va_get (D := (dC, dI)) (ci := 8) (v := .int a0_14) (C := RX8) (T := TX8) (N := 40) hx hb hts zi_X8_rests_8 hown hK hP 0 rfl rfl 14 (by decide) (hts (.fieldLink RX8 173 "WaxTurnsModel" "hasGallery" "Z") (zm_X8_rests_r1 (List.mem_of_getElem? (i := 0) rfl))) (fun _ h9 => h9) rfl dX8_rests_6 ?_
  refine lv_iload_n hx hb dX8_rests_9 rfl (lv_at hl 1 rfl) ?_
  refine lv_iconst (v := 0) hx hb dX8_rests_10 zk_iconst_0 ?_
  refine lv_bipush (v := 9) hx hb dX8_rests_11 zk_bipush_9 ?_
  refine va_calli (va_runS (As := [.int a1, .int 0, .int 9]) (rest := [.int a0_14, .ref a0]) ⟨hx, hb, hml, hown, hts⟩ (c_X8_in l dC dI H.size a1 0 9 ) (va_cwS 3 hts gX8_rests_X8_in rfl rfl rfl zd_X8_in.2 ⟨Nat.le_of_ble_eq_true rfl, Nat.le_of_ble_eq_true rfl⟩) ⟨ax_blind (fun _ _ _ _ _ => trivial), ax_pre (zp_P0 hP) (zp_K hK) (zp_D0 hD) (fun _ _ => trivial)⟩ rfl rfl hl.1 rfl (lv_room (Nat.le_of_ble_eq_true rfl)) dX8_rests_13 ⟨Nat.le_of_ble_eq_true rfl, Nat.le_of_ble_eq_true rfl⟩) hS (fun q _ h => zp_F0 hD hS hA q h) (zp_F0 hD hS hA) (fun r13 u t H locs ht hvm hw hB hz1 hk1 hS1 => zo0 hB ht hP hD hk1 (zp_F0 hD hS hA) hS1 (fun hP hK1 hD hS => ?_))
  rcases hw with hw | hw
  · obtain ⟨hw, h13⟩ := hw
    subst hw
    have l13k0_a1 : (0 : Int) ≤ a1.toInt := Int.le_trans zq5 h13.1
    have u13k0_a1 : a1.toInt ≤ (9 : Int) := Int.le_trans h13.2 zq3
    refine va_calli (va_runV (As := [.int a0_14, .int 1]) (rest := []) ⟨hx, hb, hml, hown, hts⟩ (c_X8_whyB l dC dI H.size a0 a0_14 1 (Value.int v1na0_0) a0g_1 a0g_2 a0g_3 a0g_4 a0g_5 a0g_6 a0g_7 a0g_8 a0g_9 a0g_10 (Value.int v1na0_11) a0g_12 a0g_13 (Value.int a0_14) a0g_15 a0g_16 a0g_17 a0g_18 a0g_19 a0g_20 a0g_21 a0g_22 a0g_23 a0g_24 a0g_25 a0g_26 a0g_27 a0g_28 a0g_29 a0g_30 a0g_31 a0g_32 a0g_33 a0g_34 a0g_35 a0g_36 (Value.int a0_37) a0g_38 a0g_39 (Int.le_trans zq4 ba0_14_l) ba0_14_u (Int.le_trans zq4 zq1) zq0) (cwV 2 hts gX8_rests_X8_why rfl rfl rfl zd_X8_why ⟨Nat.le_of_ble_eq_true rfl, Nat.le_of_ble_eq_true rfl⟩) ⟨ax_blind (fun _ _ _ _ _ => trivial), zr_8 (zp_K hK) (zp_P1 hP) (q0 := 0) rfl, ax_pre (zp_P1 hP) (zp_K hK) (zp_D1 hD) (fun _ _ => trivial)⟩ rfl rfl hl.1 rfl (lv_room (Nat.le_of_ble_eq_true rfl)) dX8_rests_16 ⟨Nat.le_of_ble_eq_true rfl, Nat.le_of_ble_eq_true rfl⟩) hS (fun q _ h => zp_F1 hD hS hA q h) (zp_F1 hD hS hA) (fun r16 u t H locs ht hvm hw hB hz1 hk1 hS1 => zo1 hB ht hP hD hk1 (zp_F1 hD hS hA) hS1 (fun hP hK1 hD hS => ?_))
    rcases hw with hw | hw | hw
    · obtain ⟨hw, h16_0, h16_1, h16_2, h16_3⟩ := hw
      subst hw
      have l16k0_a0_14 : (1 : Int) ≤ a0_14.toInt := ba0_14_l
      have u16k0_a0_14 : a0_14.toInt ≤ (1 : Int) := ba0_14_u
      exact absurd h16_3 (by decide)
    · obtain ⟨hw, h16_0, h16_1⟩ := hw
      subst hw
      have l16k1_a0_14 : (1 : Int) ≤ a0_14.toInt := ba0_14_l
      have u16k1_a0_14 : a0_14.toInt ≤ (0 : Int) := h16_1
      exact absurd (Int.le_trans l16k1_a0_14 u16k1_a0_14) (by decide)
    · obtain ⟨hw, h16_0, h16_1, h16_2, h16_3⟩ := hw
      subst hw
      have l16k2_a0_14 : (1 : Int) ≤ a0_14.toInt := ba0_14_l
      have u16k2_a0_14 : a0_14.toInt ≤ (1 : Int) := ba0_14_u
      refine lv_istore_n (lv' := [(2, .int 0), (0, .ref a0), (1, .int a1)]) hx hb dX8_rests_19 rfl hl (by decide) rfl (fun ls hl => ?_)
      refine lv_iload_n hx hb dX8_rests_20 rfl (lv_at hl 0 rfl) ?_
      refine lv_if_eq (tgt := 32) hx hb dX8_rests_21 (by decide) (fun _ => ?_) (fun c21 => absurd (by decide +kernel) c21)
      refine lv_aload_n hx hb dX8_rests_32 rfl (lv_at hl 1 rfl) ?_
      refine lv_iload_n hx hb dX8_rests_33 rfl (lv_at hl 2 rfl) ?_
      refine va_calli (va_runV (As := [.int a1]) (rest := []) ⟨hx, hb, hml, hown, hts⟩ (c_X8_seekRests l dC dI H.size a0 a1 (Value.int v1na0_0) a0g_1 a0g_2 a0g_3 a0g_4 a0g_5 a0g_6 a0g_7 a0g_8 a0g_9 a0g_10 (Value.int v1na0_11) a0g_12 a0g_13 (Value.int a0_14) a0g_15 a0g_16 a0g_17 a0g_18 a0g_19 a0g_20 a0g_21 a0g_22 a0g_23 a0g_24 a0g_25 a0g_26 a0g_27 a0g_28 a0g_29 a0g_30 a0g_31 a0g_32 a0g_33 a0g_34 a0g_35 a0g_36 a0g_38 a0g_39 a0_37 ) (cwV 1 hts gX8_rests_X8_seekRests rfl rfl rfl zd_X8_seekRests ⟨Nat.le_of_ble_eq_true rfl, Nat.le_of_ble_eq_true rfl⟩) ⟨ax_blind (fun _ _ _ _ _ => trivial), zr_8 (zp_K hK) (zp_P1 hP) (q0 := 0) rfl, ax_pre (zp_P1 hP) (zp_K hK) (zp_D1 hD) (fun _ _ => trivial)⟩ rfl rfl hl.1 rfl (lv_room (Nat.le_of_ble_eq_true rfl)) dX8_rests_34 ⟨Nat.le_of_ble_eq_true rfl, Nat.le_of_ble_eq_true rfl⟩) hS (fun q _ h => zp_F1 hD hS hA q h) (zp_F1 hD hS hA) (fun r34 u t H locs ht hvm hw hB hz1 hk1 hS1 => zx_1 hB (fun v34na0_37 hB => zo1 hB ht hP hD hk1 (zp_F1 hD hS hA) hS1 (fun hP hK1 hD hS => ?_)))
      exact W.iret (v := r34) hx hb hr (fun t ht hW => ⟨⟨r34, (), rfl, trivial, v1na0_0, v1na0_11, v34na0_37, by rw [ht]; exact hP, va_K.moved hW.alike hK, hD⟩, hS.F ht⟩) hS.2.2 dX8_rests_37
  · obtain ⟨hw, h13⟩ := hw
    subst hw
    refine va_calli (va_runV (As := [.int a0_14, .int 0]) (rest := []) ⟨hx, hb, hml, hown, hts⟩ (c_X8_whyB l dC dI H.size a0 a0_14 0 (Value.int v1na0_0) a0g_1 a0g_2 a0g_3 a0g_4 a0g_5 a0g_6 a0g_7 a0g_8 a0g_9 a0g_10 (Value.int v1na0_11) a0g_12 a0g_13 (Value.int a0_14) a0g_15 a0g_16 a0g_17 a0g_18 a0g_19 a0g_20 a0g_21 a0g_22 a0g_23 a0g_24 a0g_25 a0g_26 a0g_27 a0g_28 a0g_29 a0g_30 a0g_31 a0g_32 a0g_33 a0g_34 a0g_35 a0g_36 (Value.int a0_37) a0g_38 a0g_39 (Int.le_trans zq4 ba0_14_l) ba0_14_u zq5 (Int.le_trans zq6 zq4)) (cwV 2 hts gX8_rests_X8_why rfl rfl rfl zd_X8_why ⟨Nat.le_of_ble_eq_true rfl, Nat.le_of_ble_eq_true rfl⟩) ⟨ax_blind (fun _ _ _ _ _ => trivial), zr_8 (zp_K hK) (zp_P1 hP) (q0 := 0) rfl, ax_pre (zp_P1 hP) (zp_K hK) (zp_D1 hD) (fun _ _ => trivial)⟩ rfl rfl hl.1 rfl (lv_room (Nat.le_of_ble_eq_true rfl)) dX8_rests_16 ⟨Nat.le_of_ble_eq_true rfl, Nat.le_of_ble_eq_true rfl⟩) hS (fun q _ h => zp_F1 hD hS hA q h) (zp_F1 hD hS hA) (fun r16 u t H locs ht hvm hw hB hz1 hk1 hS1 => zo1 hB ht hP hD hk1 (zp_F1 hD hS hA) hS1 (fun hP hK1 hD hS => ?_))
    rcases hw with hw | hw | hw
    · obtain ⟨hw, h16_0, h16_1, h16_2, h16_3⟩ := hw
      subst hw
      have l16k0_a0_14 : (1 : Int) ≤ a0_14.toInt := ba0_14_l
      have u16k0_a0_14 : a0_14.toInt ≤ (1 : Int) := ba0_14_u
      refine lv_istore_n (lv' := [(2, .int 2), (0, .ref a0), (1, .int a1)]) hx hb dX8_rests_19 rfl hl (by decide) rfl (fun ls hl => ?_)
      refine lv_iload_n hx hb dX8_rests_20 rfl (lv_at hl 0 rfl) ?_
      refine lv_if_eq (tgt := 32) hx hb dX8_rests_21 (by decide) (fun c21 => absurd c21 (by decide +kernel)) (fun _ => ?_)
      refine lv_aload_n hx hb dX8_rests_24 rfl (lv_at hl 1 rfl) ?_
      refine lv_iload_n hx hb dX8_rests_25 rfl (lv_at hl 0 rfl) ?_
      refine va_calli (va_runV (As := [.int 2]) (rest := []) ⟨hx, hb, hml, hown, hts⟩ (c_X8_no l dC dI H.size a0 2 (Value.int v1na0_0) a0g_1 a0g_2 a0g_3 a0g_4 a0g_5 a0g_6 a0g_7 a0g_8 a0g_9 a0g_10 a0g_12 a0g_13 (Value.int a0_14) a0g_15 a0g_16 a0g_17 a0g_18 a0g_19 a0g_20 a0g_21 a0g_22 a0g_23 a0g_24 a0g_25 a0g_26 a0g_27 a0g_28 a0g_29 a0g_30 a0g_31 a0g_32 a0g_33 a0g_34 a0g_35 a0g_36 (Value.int a0_37) a0g_38 a0g_39 v1na0_11 ) (cwV 1 hts gX8_rests_X8_no rfl rfl rfl zd_X8_no ⟨Nat.le_of_ble_eq_true rfl, Nat.le_of_ble_eq_true rfl⟩) ⟨ax_blind (fun _ _ _ _ _ => trivial), zr_8 (zp_K hK) (zp_P1 hP) (q0 := 0) rfl, ax_pre (zp_P1 hP) (zp_K hK) (zp_D1 hD) (fun _ _ => trivial)⟩ rfl rfl hl.1 rfl (lv_room (Nat.le_of_ble_eq_true rfl)) dX8_rests_26 ⟨Nat.le_of_ble_eq_true rfl, Nat.le_of_ble_eq_true rfl⟩) hS (fun q _ h => zp_F1 hD hS hA q h) (zp_F1 hD hS hA) (fun r26 u t H locs ht hvm hw hB hz1 hk1 hS1 => zx_1 hB (fun v26na0_11 hB => zo1 hB ht hP hD hk1 (zp_F1 hD hS hA) hS1 (fun hP hK1 hD hS => ?_)))
      have hw : r26 = (-1) := hw
      have hw := hw.symm
      subst hw
      refine lv_goto (tgt := 37) hx hb dX8_rests_29 (by decide) ?_
      exact W.iret (v := (-1)) hx hb hr (fun t ht hW => ⟨⟨(-1), (), rfl, trivial, v1na0_0, v26na0_11, a0_37, by rw [ht]; exact hP, va_K.moved hW.alike hK, hD⟩, hS.F ht⟩) hS.2.2 dX8_rests_37
    · obtain ⟨hw, h16_0, h16_1⟩ := hw
      subst hw
      have l16k1_a0_14 : (1 : Int) ≤ a0_14.toInt := ba0_14_l
      have u16k1_a0_14 : a0_14.toInt ≤ (0 : Int) := h16_1
      exact absurd (Int.le_trans l16k1_a0_14 u16k1_a0_14) (by decide)
    · obtain ⟨hw, h16_0, h16_1, h16_2, h16_3⟩ := hw
      subst hw
      have l16k2_a0_14 : (1 : Int) ≤ a0_14.toInt := ba0_14_l
      have u16k2_a0_14 : a0_14.toInt ≤ (1 : Int) := ba0_14_u
      exact absurd h16_2 (by decide)

set_option maxHeartbeats 4000000 in
set_option maxRecDepth 100000 in
theorem c_X8_rest (l : Launch) (dC : Nat → ClassId) (dI : Nat → Nat → Nat) (sz : Nat) (a0 : Nat) (a1 : Int32) (a0_0 : Int32) (a0g_1 a0g_2 a0g_3 a0g_4 a0g_5 a0g_6 a0g_7 a0g_8 a0g_9 a0g_10 a0g_12 a0g_13 a0g_15 a0g_16 a0g_17 a0g_18 a0g_19 a0g_20 a0g_21 a0g_22 a0g_23 a0g_24 a0g_25 a0g_26 a0g_27 a0g_28 a0g_29 a0g_30 a0g_31 a0g_32 a0g_33 a0g_34 a0g_35 a0g_36 a0g_38 a0g_39 : Value) (a0_11 : Int32) (a0_14 : Int32) (a0_37 : Int32) (ba0_14_l : (1 : Int) ≤ a0_14.toInt) (ba0_14_u : a0_14.toInt ≤ (1 : Int)) : zm l yX8_rest wsX8_rest ({ frames := 2, cells := 0, slots := 0, locals := 47 }) [.ref a0, .int a1] dC dI sz [(a0, .inr (8, [Value.int a0_0, a0g_1, a0g_2, a0g_3, a0g_4, a0g_5, a0g_6, a0g_7, a0g_8, a0g_9, a0g_10, Value.int a0_11, a0g_12, a0g_13, Value.int a0_14, a0g_15, a0g_16, a0g_17, a0g_18, a0g_19, a0g_20, a0g_21, a0g_22, a0g_23, a0g_24, a0g_25, a0g_26, a0g_27, a0g_28, a0g_29, a0g_30, a0g_31, a0g_32, a0g_33, a0g_34, a0g_35, a0g_36, Value.int a0_37, a0g_38, a0g_39]))] [] (fun A _ => True) (fun A => va_Qi (fun (r : Int32) (_ : Unit) => True) (fun (_ : Unit) (t : State) => ∃ na0_0 : Int32, ∃ na0_11 : Int32, ∃ na0_37 : Int32, ax_B dC dI A [(a0, .inr (8, [Value.int na0_0, a0g_1, a0g_2, a0g_3, a0g_4, a0g_5, a0g_6, a0g_7, a0g_8, a0g_9, a0g_10, Value.int na0_11, a0g_12, a0g_13, Value.int a0_14, a0g_15, a0g_16, a0g_17, a0g_18, a0g_19, a0g_20, a0g_21, a0g_22, a0g_23, a0g_24, a0g_25, a0g_26, a0g_27, a0g_28, a0g_29, a0g_30, a0g_31, a0g_32, a0g_33, a0g_34, a0g_35, a0g_36, Value.int na0_37, a0g_38, a0g_39]))] [] t) A) := by
  refine zh (cc := cX8_rest) (maxL := 3) (ret := (some .int)) zn_RX8 rfl (Nat.le_of_ble_eq_true rfl) (fun p e s m below meth c A ls hx hb hml hr hts (hown : s.vm.findClass RX8 = some m.cls) hlocks hA hS hP hK hD hE (hl : lv_has ls 3 [(0, .ref a0), (1, .int a1)]) => ?_)
  refine lv_aload_n hx hb dX8_rest_0 rfl (lv_at hl 0 rfl) ?_
  refine va_callv (va_runV (As := []) (rest := []) ⟨hx, hb, hml, hown, hts⟩ (c_X8_good l dC dI s.heap.size a0 a0_0 a0g_1 a0g_2 a0g_3 a0g_4 a0g_5 a0g_6 a0g_7 a0g_8 a0g_9 a0g_10 a0g_12 a0g_13 (Value.int a0_14) a0g_15 a0g_16 a0g_17 a0g_18 a0g_19 a0g_20 a0g_21 a0g_22 a0g_23 a0g_24 a0g_25 a0g_26 a0g_27 a0g_28 a0g_29 a0g_30 a0g_31 a0g_32 a0g_33 a0g_34 a0g_35 a0g_36 (Value.int a0_37) a0g_38 a0g_39 a0_11 ) (cwV 0 hts gX8_rest_X8_good rfl rfl rfl zd_X8_good ⟨Nat.le_of_ble_eq_true rfl, Nat.le_of_ble_eq_true rfl⟩) ⟨ax_blind (fun _ _ _ _ _ => trivial), zr_8 (zp_K hK) (zp_P1 hP) (q0 := 0) rfl, ax_pre (zp_P1 hP) (zp_K hK) (zp_D1 hD) (fun _ _ => trivial)⟩ rfl rfl hl.1 rfl (lv_room (Nat.le_of_ble_eq_true rfl)) dX8_rest_1 ⟨Nat.le_of_ble_eq_true rfl, Nat.le_of_ble_eq_true rfl⟩) hS (fun q _ h => zp_F1 hD hS hA q h) (zp_F1 hD hS hA) (fun u t H locs ht hvm hw hB hz1 hk1 hS1 => zx_2 hB (fun v1na0_0 v1na0_11 hB => zo1 hB ht hP hD hk1 (zp_F1 hD hS hA) hS1 (fun hP hK1 hD hS => ?_)))
  refine lv_aload_n hx hb dX8_rest_4 rfl (lv_at hl 0 rfl) ?_
  refine lv_aload_n hx hb dX8_rest_5 rfl (lv_at hl 0 rfl) ?_
  refine va_get (D := (dC, dI)) (ci := 8) (v := .int a0_14) (C := RX8) (T := TX8) (N := 40) hx hb hts zi_X8_rest_8 hown hK hP 0 rfl rfl 14 (by decide) (hts (.fieldLink RX8 173 "WaxTurnsModel" "hasGallery" "Z") (zm_X8_rest_r1 (List.mem_of_getElem? (i := 0) rfl))) (fun _ h9 => h9) rfl dX8_rest_6 ?_
  refine lv_iload_n hx hb dX8_rest_9 rfl (lv_at hl 1 rfl) ?_
  refine lv_iconst (v := 0) hx hb dX8_rest_10 zk_iconst_0 ?_
  refine lv_bipush (v := 9) hx hb dX8_rest_11 zk_bipush_9 ?_
  refine va_calli (va_runS (As := [.int a1, .int 0, .int 9]) (rest := [.int a0_14, .ref a0]) ⟨hx, hb, hml, hown, hts⟩ (c_X8_in l dC dI H.size a1 0 9 ) (va_cwS 3 hts gX8_rest_X8_in rfl rfl rfl zd_X8_in.2 ⟨Nat.le_of_ble_eq_true rfl, Nat.le_of_ble_eq_true rfl⟩) ⟨ax_blind (fun _ _ _ _ _ => trivial), ax_pre (zp_P0 hP) (zp_K hK) (zp_D0 hD) (fun _ _ => trivial)⟩ rfl rfl hl.1 rfl (lv_room (Nat.le_of_ble_eq_true rfl)) dX8_rest_13 ⟨Nat.le_of_ble_eq_true rfl, Nat.le_of_ble_eq_true rfl⟩) hS (fun q _ h => zp_F0 hD hS hA q h) (zp_F0 hD hS hA) (fun r13 u t H locs ht hvm hw hB hz1 hk1 hS1 => zo0 hB ht hP hD hk1 (zp_F0 hD hS hA) hS1 (fun hP hK1 hD hS => ?_))
  rcases hw with hw | hw
  · obtain ⟨hw, h13⟩ := hw
    subst hw
    have l13k0_a1 : (0 : Int) ≤ a1.toInt := Int.le_trans zq5 h13.1
    have u13k0_a1 : a1.toInt ≤ (9 : Int) := Int.le_trans h13.2 zq3
    refine va_calli (va_runV (As := [.int a0_14, .int 1]) (rest := []) ⟨hx, hb, hml, hown, hts⟩ (c_X8_whyB l dC dI H.size a0 a0_14 1 (Value.int v1na0_0) a0g_1 a0g_2 a0g_3 a0g_4 a0g_5 a0g_6 a0g_7 a0g_8 a0g_9 a0g_10 (Value.int v1na0_11) a0g_12 a0g_13 (Value.int a0_14) a0g_15 a0g_16 a0g_17 a0g_18 a0g_19 a0g_20 a0g_21 a0g_22 a0g_23 a0g_24 a0g_25 a0g_26 a0g_27 a0g_28 a0g_29 a0g_30 a0g_31 a0g_32 a0g_33 a0g_34 a0g_35 a0g_36 (Value.int a0_37) a0g_38 a0g_39 (Int.le_trans zq4 ba0_14_l) ba0_14_u (Int.le_trans zq4 zq1) zq0) (cwV 2 hts gX8_rest_X8_why rfl rfl rfl zd_X8_why ⟨Nat.le_of_ble_eq_true rfl, Nat.le_of_ble_eq_true rfl⟩) ⟨ax_blind (fun _ _ _ _ _ => trivial), zr_8 (zp_K hK) (zp_P1 hP) (q0 := 0) rfl, ax_pre (zp_P1 hP) (zp_K hK) (zp_D1 hD) (fun _ _ => trivial)⟩ rfl rfl hl.1 rfl (lv_room (Nat.le_of_ble_eq_true rfl)) dX8_rest_16 ⟨Nat.le_of_ble_eq_true rfl, Nat.le_of_ble_eq_true rfl⟩) hS (fun q _ h => zp_F1 hD hS hA q h) (zp_F1 hD hS hA) (fun r16 u t H locs ht hvm hw hB hz1 hk1 hS1 => zo1 hB ht hP hD hk1 (zp_F1 hD hS hA) hS1 (fun hP hK1 hD hS => ?_))
    rcases hw with hw | hw | hw
    · obtain ⟨hw, h16_0, h16_1, h16_2, h16_3⟩ := hw
      subst hw
      have l16k0_a0_14 : (1 : Int) ≤ a0_14.toInt := ba0_14_l
      have u16k0_a0_14 : a0_14.toInt ≤ (1 : Int) := ba0_14_u
      exact absurd h16_3 (by decide)
    · obtain ⟨hw, h16_0, h16_1⟩ := hw
      subst hw
      have l16k1_a0_14 : (1 : Int) ≤ a0_14.toInt := ba0_14_l
      have u16k1_a0_14 : a0_14.toInt ≤ (0 : Int) := h16_1
      exact absurd (Int.le_trans l16k1_a0_14 u16k1_a0_14) (by decide)
    · obtain ⟨hw, h16_0, h16_1, h16_2, h16_3⟩ := hw
      subst hw
      have l16k2_a0_14 : (1 : Int) ≤ a0_14.toInt := ba0_14_l
      have u16k2_a0_14 : a0_14.toInt ≤ (1 : Int) := ba0_14_u
      refine lv_istore_n (lv' := [(2, .int 0), (0, .ref a0), (1, .int a1)]) hx hb dX8_rest_19 rfl hl (by decide) rfl (fun ls hl => ?_)
      refine lv_iload_n hx hb dX8_rest_20 rfl (lv_at hl 0 rfl) ?_
      refine lv_if_eq (tgt := 30) hx hb dX8_rest_21 (by decide) (fun _ => ?_) (fun c21 => absurd (by decide +kernel) c21)
      refine lv_aload_n hx hb dX8_rest_30 rfl (lv_at hl 1 rfl) ?_
      refine lv_iload_n hx hb dX8_rest_31 rfl (lv_at hl 2 rfl) ?_
      refine va_calli (va_runV (As := [.int a1]) (rest := []) ⟨hx, hb, hml, hown, hts⟩ (c_X8_seekRests l dC dI H.size a0 a1 (Value.int v1na0_0) a0g_1 a0g_2 a0g_3 a0g_4 a0g_5 a0g_6 a0g_7 a0g_8 a0g_9 a0g_10 (Value.int v1na0_11) a0g_12 a0g_13 (Value.int a0_14) a0g_15 a0g_16 a0g_17 a0g_18 a0g_19 a0g_20 a0g_21 a0g_22 a0g_23 a0g_24 a0g_25 a0g_26 a0g_27 a0g_28 a0g_29 a0g_30 a0g_31 a0g_32 a0g_33 a0g_34 a0g_35 a0g_36 a0g_38 a0g_39 a0_37 ) (cwV 1 hts gX8_rest_X8_seekRests rfl rfl rfl zd_X8_seekRests ⟨Nat.le_of_ble_eq_true rfl, Nat.le_of_ble_eq_true rfl⟩) ⟨ax_blind (fun _ _ _ _ _ => trivial), zr_8 (zp_K hK) (zp_P1 hP) (q0 := 0) rfl, ax_pre (zp_P1 hP) (zp_K hK) (zp_D1 hD) (fun _ _ => trivial)⟩ rfl rfl hl.1 rfl (lv_room (Nat.le_of_ble_eq_true rfl)) dX8_rest_32 ⟨Nat.le_of_ble_eq_true rfl, Nat.le_of_ble_eq_true rfl⟩) hS (fun q _ h => zp_F1 hD hS hA q h) (zp_F1 hD hS hA) (fun r32 u t H locs ht hvm hw hB hz1 hk1 hS1 => zx_1 hB (fun v32na0_37 hB => zo1 hB ht hP hD hk1 (zp_F1 hD hS hA) hS1 (fun hP hK1 hD hS => ?_)))
      refine lv_pop hx hb dX8_rest_35 rfl ?_
      refine lv_aload_n hx hb dX8_rest_36 rfl (lv_at hl 1 rfl) ?_
      refine va_get (D := (dC, dI)) (ci := 8) (v := .int v32na0_37) (C := RX8) (T := TX8) (N := 40) hx hb hts zi_X8_rest_8 hown hK hP 0 rfl rfl 37 (by decide) (hts (.fieldLink RX8 359 "WaxTurnsModel" "firstRest" "I") (zm_X8_rest_r1 (List.mem_of_getElem? (i := 1) rfl))) (fun _ h9 => h9) rfl dX8_rest_37 ?_
      exact W.iret (v := v32na0_37) hx hb hr (fun t ht hW => ⟨⟨v32na0_37, (), rfl, trivial, v1na0_0, v1na0_11, v32na0_37, by rw [ht]; exact hP, va_K.moved hW.alike hK, hD⟩, hS.F ht⟩) hS.2.2 dX8_rest_40
  · obtain ⟨hw, h13⟩ := hw
    subst hw
    refine va_calli (va_runV (As := [.int a0_14, .int 0]) (rest := []) ⟨hx, hb, hml, hown, hts⟩ (c_X8_whyB l dC dI H.size a0 a0_14 0 (Value.int v1na0_0) a0g_1 a0g_2 a0g_3 a0g_4 a0g_5 a0g_6 a0g_7 a0g_8 a0g_9 a0g_10 (Value.int v1na0_11) a0g_12 a0g_13 (Value.int a0_14) a0g_15 a0g_16 a0g_17 a0g_18 a0g_19 a0g_20 a0g_21 a0g_22 a0g_23 a0g_24 a0g_25 a0g_26 a0g_27 a0g_28 a0g_29 a0g_30 a0g_31 a0g_32 a0g_33 a0g_34 a0g_35 a0g_36 (Value.int a0_37) a0g_38 a0g_39 (Int.le_trans zq4 ba0_14_l) ba0_14_u zq5 (Int.le_trans zq6 zq4)) (cwV 2 hts gX8_rest_X8_why rfl rfl rfl zd_X8_why ⟨Nat.le_of_ble_eq_true rfl, Nat.le_of_ble_eq_true rfl⟩) ⟨ax_blind (fun _ _ _ _ _ => trivial), zr_8 (zp_K hK) (zp_P1 hP) (q0 := 0) rfl, ax_pre (zp_P1 hP) (zp_K hK) (zp_D1 hD) (fun _ _ => trivial)⟩ rfl rfl hl.1 rfl (lv_room (Nat.le_of_ble_eq_true rfl)) dX8_rest_16 ⟨Nat.le_of_ble_eq_true rfl, Nat.le_of_ble_eq_true rfl⟩) hS (fun q _ h => zp_F1 hD hS hA q h) (zp_F1 hD hS hA) (fun r16 u t H locs ht hvm hw hB hz1 hk1 hS1 => zo1 hB ht hP hD hk1 (zp_F1 hD hS hA) hS1 (fun hP hK1 hD hS => ?_))
    rcases hw with hw | hw | hw
    · obtain ⟨hw, h16_0, h16_1, h16_2, h16_3⟩ := hw
      subst hw
      have l16k0_a0_14 : (1 : Int) ≤ a0_14.toInt := ba0_14_l
      have u16k0_a0_14 : a0_14.toInt ≤ (1 : Int) := ba0_14_u
      refine lv_istore_n (lv' := [(2, .int 2), (0, .ref a0), (1, .int a1)]) hx hb dX8_rest_19 rfl hl (by decide) rfl (fun ls hl => ?_)
      refine lv_iload_n hx hb dX8_rest_20 rfl (lv_at hl 0 rfl) ?_
      refine lv_if_eq (tgt := 30) hx hb dX8_rest_21 (by decide) (fun c21 => absurd c21 (by decide +kernel)) (fun _ => ?_)
      refine lv_aload_n hx hb dX8_rest_24 rfl (lv_at hl 1 rfl) ?_
      refine lv_iload_n hx hb dX8_rest_25 rfl (lv_at hl 0 rfl) ?_
      refine va_calli (va_runV (As := [.int 2]) (rest := []) ⟨hx, hb, hml, hown, hts⟩ (c_X8_no l dC dI H.size a0 2 (Value.int v1na0_0) a0g_1 a0g_2 a0g_3 a0g_4 a0g_5 a0g_6 a0g_7 a0g_8 a0g_9 a0g_10 a0g_12 a0g_13 (Value.int a0_14) a0g_15 a0g_16 a0g_17 a0g_18 a0g_19 a0g_20 a0g_21 a0g_22 a0g_23 a0g_24 a0g_25 a0g_26 a0g_27 a0g_28 a0g_29 a0g_30 a0g_31 a0g_32 a0g_33 a0g_34 a0g_35 a0g_36 (Value.int a0_37) a0g_38 a0g_39 v1na0_11 ) (cwV 1 hts gX8_rest_X8_no rfl rfl rfl zd_X8_no ⟨Nat.le_of_ble_eq_true rfl, Nat.le_of_ble_eq_true rfl⟩) ⟨ax_blind (fun _ _ _ _ _ => trivial), zr_8 (zp_K hK) (zp_P1 hP) (q0 := 0) rfl, ax_pre (zp_P1 hP) (zp_K hK) (zp_D1 hD) (fun _ _ => trivial)⟩ rfl rfl hl.1 rfl (lv_room (Nat.le_of_ble_eq_true rfl)) dX8_rest_26 ⟨Nat.le_of_ble_eq_true rfl, Nat.le_of_ble_eq_true rfl⟩) hS (fun q _ h => zp_F1 hD hS hA q h) (zp_F1 hD hS hA) (fun r26 u t H locs ht hvm hw hB hz1 hk1 hS1 => zx_1 hB (fun v26na0_11 hB => zo1 hB ht hP hD hk1 (zp_F1 hD hS hA) hS1 (fun hP hK1 hD hS => ?_)))
      have hw : r26 = (-1) := hw
      have hw := hw.symm
      subst hw
      exact W.iret (v := (-1)) hx hb hr (fun t ht hW => ⟨⟨(-1), (), rfl, trivial, v1na0_0, v26na0_11, a0_37, by rw [ht]; exact hP, va_K.moved hW.alike hK, hD⟩, hS.F ht⟩) hS.2.2 dX8_rest_29
    · obtain ⟨hw, h16_0, h16_1⟩ := hw
      subst hw
      have l16k1_a0_14 : (1 : Int) ≤ a0_14.toInt := ba0_14_l
      have u16k1_a0_14 : a0_14.toInt ≤ (0 : Int) := h16_1
      exact absurd (Int.le_trans l16k1_a0_14 u16k1_a0_14) (by decide)
    · obtain ⟨hw, h16_0, h16_1, h16_2, h16_3⟩ := hw
      subst hw
      have l16k2_a0_14 : (1 : Int) ≤ a0_14.toInt := ba0_14_l
      have u16k2_a0_14 : a0_14.toInt ≤ (1 : Int) := ba0_14_u
      exact absurd h16_2 (by decide)

set_option maxHeartbeats 4000000 in
set_option maxRecDepth 100000 in
theorem c_X8_turnsOf (l : Launch) (dC : Nat → ClassId) (dI : Nat → Nat → Nat) (sz : Nat) (a0 : Nat) (a1 : Int32) (a2 : Int32) (a0g_0 a0g_1 a0g_2 a0g_3 a0g_4 a0g_5 a0g_6 a0g_7 a0g_8 a0g_9 a0g_10 a0g_11 a0g_12 a0g_13 a0g_14 a0g_16 a0g_18 a0g_19 a0g_20 a0g_21 a0g_22 a0g_23 a0g_24 a0g_25 a0g_26 a0g_27 a0g_28 a0g_32 a0g_33 a0g_34 a0g_35 a0g_36 a0g_37 a0g_38 a0g_39 : Value) (a0_15 : Nat) (a0_17 : Nat) (a0_29 : Nat) (a0_30 : Int32) (a0_31 : Int32) (ka0_17 : ClassId) (fa0_17 : Nat → Int32) (ka0_29 : ClassId) (fa0_29 : Nat → Int32) (ka0_15 : ClassId) (fa0_15 : Nat → Int32) (ba2_l : (0 : Int) ≤ a2.toInt) (ba2_u : a2.toInt ≤ (8 : Int)) (bfa0_17 : ((∀ k : Nat, 0 ≤ k → k ≤ 8 → (0 : Int) ≤ (fa0_17 k).toInt ∧ (fa0_17 k).toInt ≤ 8) ∧ (∀ k : Nat, 19 ≤ k → k ≤ 19 → (0 : Int) ≤ (fa0_17 k).toInt ∧ (fa0_17 k).toInt ≤ 8) ∧ (∀ k : Nat, 20 ≤ k → k ≤ 20 → (0 : Int) ≤ (fa0_17 k).toInt ∧ (fa0_17 k).toInt ≤ 19))) (bfa0_29 : (∀ k, (0 : Int) ≤ (fa0_29 k).toInt ∧ (fa0_29 k).toInt ≤ 8)) (bfa0_15 : ((∀ k : Nat, 0 ≤ k → k ≤ 0 → (2 : Int) ≤ (fa0_15 k).toInt ∧ (fa0_15 k).toInt ≤ 9) ∧ (∀ k : Nat, 1 ≤ k → k ≤ 1 → (1 : Int) ≤ (fa0_15 k).toInt ∧ (fa0_15 k).toInt ≤ 20) ∧ (∀ k : Nat, 2 ≤ k → k ≤ 2 → (0 : Int) ≤ (fa0_15 k).toInt ∧ (fa0_15 k).toInt ≤ 8) ∧ (∀ k : Nat, 3 ≤ k → k ≤ 3 → (0 : Int) ≤ (fa0_15 k).toInt ∧ (fa0_15 k).toInt ≤ 100) ∧ (∀ k : Nat, 4 ≤ k → k ≤ 4 → (0 : Int) ≤ (fa0_15 k).toInt ∧ (fa0_15 k).toInt ≤ 9) ∧ (∀ k : Nat, 5 ≤ k → k ≤ 5 → (0 : Int) ≤ (fa0_15 k).toInt ∧ (fa0_15 k).toInt ≤ 3) ∧ (∀ k : Nat, 6 ≤ k → k ≤ 6 → (0 : Int) ≤ (fa0_15 k).toInt ∧ (fa0_15 k).toInt ≤ 6) ∧ (∀ k : Nat, 7 ≤ k → k ≤ 9 → (0 : Int) ≤ (fa0_15 k).toInt ∧ (fa0_15 k).toInt ≤ 8) ∧ (∀ k : Nat, 12 ≤ k → k ≤ 29 → (0 : Int) ≤ (fa0_15 k).toInt ∧ (fa0_15 k).toInt ≤ 20) ∧ (∀ k : Nat, 30 ≤ k → k ≤ 35 → (0 : Int) ≤ (fa0_15 k).toInt ∧ (fa0_15 k).toInt ≤ 8) ∧ (∀ k : Nat, 36 ≤ k → k ≤ 47 → (0 : Int) ≤ (fa0_15 k).toInt ∧ (fa0_15 k).toInt ≤ 999))) : zm l yX8_turnsOf wsX8_turnsOf ({ frames := 2, cells := 0, slots := 0, locals := 44 }) [.ref a0, .int a1, .int a2] dC dI sz [(a0, .inr (8, [a0g_0, a0g_1, a0g_2, a0g_3, a0g_4, a0g_5, a0g_6, a0g_7, a0g_8, a0g_9, a0g_10, a0g_11, a0g_12, a0g_13, a0g_14, Value.ref a0_15, a0g_16, Value.ref a0_17, a0g_18, a0g_19, a0g_20, a0g_21, a0g_22, a0g_23, a0g_24, a0g_25, a0g_26, a0g_27, a0g_28, Value.ref a0_29, Value.int a0_30, Value.int a0_31, a0g_32, a0g_33, a0g_34, a0g_35, a0g_36, a0g_37, a0g_38, a0g_39])), (a0_17, .inl (ka0_17, 23, .inl (fa0_17))), (a0_29, .inl (ka0_29, 10, .inl (fa0_29))), (a0_15, .inl (ka0_15, 156, .inl (fa0_15)))] [(ka0_17, .int), (ka0_29, .int), (ka0_15, .int)] (fun A _ => True) (fun A => va_Qi (fun (r : Int32) (_ : Unit) => (0 : Int) ≤ r.toInt ∧ r.toInt ≤ (8 : Int)) (fun (_ : Unit) (t : State) => ∃ na0_30 : Int32, ∃ na0_31 : Int32, ∃ nfa0_29 : Nat → Int32, (∀ k, (0 : Int) ≤ (nfa0_29 k).toInt ∧ (nfa0_29 k).toInt ≤ 8) ∧ ax_B dC dI A [(a0, .inr (8, [a0g_0, a0g_1, a0g_2, a0g_3, a0g_4, a0g_5, a0g_6, a0g_7, a0g_8, a0g_9, a0g_10, a0g_11, a0g_12, a0g_13, a0g_14, Value.ref a0_15, a0g_16, Value.ref a0_17, a0g_18, a0g_19, a0g_20, a0g_21, a0g_22, a0g_23, a0g_24, a0g_25, a0g_26, a0g_27, a0g_28, Value.ref a0_29, Value.int na0_30, Value.int na0_31, a0g_32, a0g_33, a0g_34, a0g_35, a0g_36, a0g_37, a0g_38, a0g_39])), (a0_17, .inl (ka0_17, 23, .inl (fa0_17))), (a0_29, .inl (ka0_29, 10, .inl (nfa0_29))), (a0_15, .inl (ka0_15, 156, .inl (fa0_15)))] [(ka0_17, .int), (ka0_29, .int), (ka0_15, .int)] t) A) := by
  refine zh (cc := cX8_turnsOf) (maxL := 5) (ret := (some .int)) zn_RX8 rfl (Nat.le_of_ble_eq_true rfl) (fun p e s m below meth c A ls hx hb hml hr hts (hown : s.vm.findClass RX8 = some m.cls) hlocks hA hS hP hK hD hE (hl : lv_has ls 5 [(0, .ref a0), (1, .int a1), (2, .int a2)]) => ?_)
  refine ai_open (fun K hK0 => ?_)
  refine (hK0 _ _ _).mpr ?_
  refine lv_aload_n hx hb dX8_turnsOf_0 rfl (lv_at hl 0 rfl) ?_
  have hKc := hK.sub (tys' := [(ka0_17, .int), (ka0_29, .int), (ka0_15, .int)]) [0, 1, 2] rfl
  refine va_callv (va_runV (As := []) (rest := []) ⟨hx, hb, hml, hown, hts⟩ (c_X8_goRound l dC dI s.heap.size a0 a0g_0 a0g_1 a0g_2 a0g_3 a0g_4 a0g_5 a0g_6 a0g_7 a0g_8 a0g_9 a0g_10 a0g_11 a0g_12 a0g_13 a0g_14 a0g_16 a0g_18 a0g_19 a0g_20 a0g_21 a0g_22 a0g_23 a0g_24 a0g_25 a0g_26 a0g_27 a0g_28 a0g_32 a0g_33 a0g_34 a0g_35 a0g_36 a0g_37 a0g_38 a0g_39 a0_15 a0_17 a0_29 a0_30 a0_31 ka0_17 fa0_17 ka0_29 fa0_29 ka0_15 fa0_15 bfa0_17 bfa0_29 bfa0_15) (cwV 0 hts gX8_turnsOf_X8_goRound rfl rfl rfl zd_X8_goRound ⟨Nat.le_of_ble_eq_true rfl, Nat.le_of_ble_eq_true rfl⟩) ⟨ax_blind (fun _ _ _ _ _ => trivial), zr_8 hKc (zp_P4 hP) (q0 := 0) rfl, ax_pre (zp_P4 hP) hKc (zp_D4 hD) (fun _ _ => trivial)⟩ rfl rfl hl.1 rfl (lv_room (Nat.le_of_ble_eq_true rfl)) dX8_turnsOf_1 ⟨Nat.le_of_ble_eq_true rfl, Nat.le_of_ble_eq_true rfl⟩) hS (fun q _ h => zp_F4 hD hS hA q h) (zp_F4 hD hS hA) (fun u t H locs ht hvm hw hB hz1 hk1 hS1 => zx_3 hB (fun v1na0_30 v1na0_31 v1nfa0_29 hB => zy_2 hB (fun bv1nfa0_29 hraw1_0 hB => zo4 hB ht hP hD hk1 (zp_F4 hD hS hA) hS1 (fun hP hK1 hD hS => ?_))))
  refine lv_iconst (v := 0) hx hb dX8_turnsOf_4 zk_iconst_0 ?_
  refine lv_istore_n (lv' := [(3, .int 0), (0, .ref a0), (1, .int a1), (2, .int a2)]) hx hb dX8_turnsOf_5 rfl hl (by decide) rfl (fun ls hl => ?_)
  refine lv_iconst (v := 1) hx hb dX8_turnsOf_6 zk_iconst_1 ?_
  refine lv_istore (lv' := [(4, .int 1), (3, .int 0), (0, .ref a0), (1, .int a1), (2, .int a2)]) hx hb dX8_turnsOf_7 hl (by decide) rfl (fun ls hl => ?_)
  have J9 : ∀ (n : Nat) (j9l4 : Int32) (j9l3 : Int32) (H : Heap) (locs : List Loc) (ls : Array Slot), (10 : Int) - j9l4.toInt ≤ (n : Int) → (1 : Int) ≤ j9l4.toInt → j9l4.toInt ≤ (9 : Int) → (0 : Int) ≤ j9l3.toInt → j9l3.toInt ≤ (9 : Int) → ((0 : Int) ≤ j9l3.toInt ∧ j9l3.toInt < j9l4.toInt) → va_P (dC, dI) vwCl [(a0, .inr (8, [a0g_0, a0g_1, a0g_2, a0g_3, a0g_4, a0g_5, a0g_6, a0g_7, a0g_8, a0g_9, a0g_10, a0g_11, a0g_12, a0g_13, a0g_14, Value.ref a0_15, a0g_16, Value.ref a0_17, a0g_18, a0g_19, a0g_20, a0g_21, a0g_22, a0g_23, a0g_24, a0g_25, a0g_26, a0g_27, a0g_28, Value.ref a0_29, Value.int v1na0_30, Value.int v1na0_31, a0g_32, a0g_33, a0g_34, a0g_35, a0g_36, a0g_37, a0g_38, a0g_39])), (a0_17, .inl (ka0_17, 23, .inl (fa0_17))), (a0_29, .inl (ka0_29, 10, .inl (v1nfa0_29))), (a0_15, .inl (ka0_15, 156, .inl (fa0_15)))] H → va_D A [(a0, .inr (8, [a0g_0, a0g_1, a0g_2, a0g_3, a0g_4, a0g_5, a0g_6, a0g_7, a0g_8, a0g_9, a0g_10, a0g_11, a0g_12, a0g_13, a0g_14, Value.ref a0_15, a0g_16, Value.ref a0_17, a0g_18, a0g_19, a0g_20, a0g_21, a0g_22, a0g_23, a0g_24, a0g_25, a0g_26, a0g_27, a0g_28, Value.ref a0_29, Value.int v1na0_30, Value.int v1na0_31, a0g_32, a0g_33, a0g_34, a0g_35, a0g_36, a0g_37, a0g_38, a0g_39])), (a0_17, .inl (ka0_17, 23, .inl (fa0_17))), (a0_29, .inl (ka0_29, 10, .inl (v1nfa0_29))), (a0_15, .inl (ka0_15, 156, .inl (fa0_15)))] → va_S A s.heap H locs → lv_has ls 5 [(0, .ref a0), (1, .int a1), (2, .int a2), (3, .int j9l3), (4, .int j9l4)] → K H locs (F0 m 9 ls []) := by
    intro n
    induction n with
    | zero =>
      intro j9l4 j9l3 H locs ls hm bj9l4_l bj9l4_u bj9l3_l bj9l3_u ts9 hP hD hS hl
      have h8 := ai_min j9l4
      have h9 := ai_max j9l4
      exact absurd hm (by omega)
    | succ n ih9 =>
      intro j9l4 j9l3 H locs ls hm bj9l4_l bj9l4_u bj9l3_l bj9l3_u ts9 hP hD hS hl
      refine (hK0 _ _ _).mpr ?_
      have hm9 := hm
      refine lv_iload hx hb dX8_turnsOf_9 (lv_at hl 4 rfl) ?_
      refine lv_iload_n hx hb dX8_turnsOf_11 rfl (lv_at hl 2 rfl) ?_
      refine lv_icmp_gt (tgt := 39) hx hb dX8_turnsOf_12 (by decide) (fun c12 => ?_) (fun c12 => ?_)
      · have gc12 := ai_lt c12
        have u12t_a2 : a2.toInt ≤ (8 : Int) := ba2_u
        have l12t_j9l4 : (1 : Int) ≤ j9l4.toInt := bj9l4_l
        refine lv_iload_n hx hb dX8_turnsOf_39 rfl (lv_at hl 3 rfl) ?_
        have u39z_j9l3 : j9l3.toInt ≤ (8 : Int) := by omega
        exact W.iret (v := j9l3) hx hb hr (fun t ht hW => ⟨⟨j9l3, (), rfl, ⟨bj9l3_l, u39z_j9l3⟩, v1na0_30, v1na0_31, v1nfa0_29, bv1nfa0_29, by rw [ht]; exact hP, va_K.moved hW.alike hK, hD⟩, hS.F ht⟩) hS.2.2 dX8_turnsOf_40
      · have gc12 := ai_nlt c12
        have u12f_j9l4 : j9l4.toInt ≤ (8 : Int) := Int.le_trans gc12 ba2_u
        have l12f_a2 : (1 : Int) ≤ a2.toInt := Int.le_trans bj9l4_l gc12
        refine lv_iload_n hx hb dX8_turnsOf_15 rfl (lv_at hl 3 rfl) ?_
        have u15z_j9l3 : j9l3.toInt ≤ (8 : Int) := by omega
        refine lv_aload_n hx hb dX8_turnsOf_16 rfl (lv_at hl 0 rfl) ?_
        refine lv_iload hx hb dX8_turnsOf_17 (lv_at hl 4 rfl) ?_
        refine zc_cutc (wc := [(a0, .inr (8, [a0g_0, a0g_1, a0g_2, a0g_3, a0g_4, a0g_5, a0g_6, a0g_7, a0g_8, a0g_9, a0g_10, a0g_11, a0g_12, a0g_13, a0g_14, Value.ref a0_15, a0g_16, Value.ref a0_17, a0g_18, a0g_19, a0g_20, a0g_21, a0g_22, a0g_23, a0g_24, a0g_25, a0g_26, a0g_27, a0g_28, Value.ref a0_29, Value.int v1na0_30, Value.int v1na0_31, a0g_32, a0g_33, a0g_34, a0g_35, a0g_36, a0g_37, a0g_38, a0g_39])), (a0_29, .inl (ka0_29, 10, .inl (v1nfa0_29)))]) hP hD hS hA [0, 2] (by decide +kernel) rfl (fun hPc hDc hFc hCc => ?_)
        have hKc := hK.sub (tys' := [(ka0_29, .int)]) [1] rfl
        refine va_calli (va_runV (As := [.int j9l4]) (rest := [.int j9l3]) ⟨hx, hb, hml, hown, hts⟩ (c_X8_turnAt l dC dI H.size a0 j9l4 a0g_0 a0g_1 a0g_2 a0g_3 a0g_4 a0g_5 a0g_6 a0g_7 a0g_8 a0g_9 a0g_10 a0g_11 a0g_12 a0g_13 a0g_14 (Value.ref a0_15) a0g_16 (Value.ref a0_17) a0g_18 a0g_19 a0g_20 a0g_21 a0g_22 a0g_23 a0g_24 a0g_25 a0g_26 a0g_27 a0g_28 a0g_32 a0g_33 a0g_34 a0g_35 a0g_36 a0g_37 a0g_38 a0g_39 a0_29 v1na0_30 v1na0_31 ka0_29 v1nfa0_29 (Int.le_trans zq4 bj9l4_l) (by omega : (0 : Int) ≤ v1na0_30.toInt) (by omega : v1na0_30.toInt ≤ (8 : Int)) (by omega : (1 : Int) ≤ v1na0_31.toInt) (by omega : v1na0_31.toInt ≤ (9 : Int)) bv1nfa0_29 (by omega)) (cwV 1 hts gX8_turnsOf_X8_turnAt rfl rfl rfl zd_X8_turnAt ⟨Nat.le_of_ble_eq_true rfl, Nat.le_of_ble_eq_true rfl⟩) ⟨ax_blind (fun _ _ _ _ _ => trivial), zr_8 hKc hPc (q0 := 0) rfl, ax_pre hPc hKc hDc (fun _ _ => trivial)⟩ rfl rfl hl.1 rfl (lv_room (Nat.le_of_ble_eq_true rfl)) dX8_turnsOf_19 ⟨Nat.le_of_ble_eq_true rfl, Nat.le_of_ble_eq_true rfl⟩) hS (fun q _ h => hFc q h) hFc (fun r19 u t H locs ht hvm hw hB hz1 hk1 hS => zo hB ht (fun hP1 hK1 hD1 => ?_))
        refine zc_backc (w := [(a0, .inr (8, [a0g_0, a0g_1, a0g_2, a0g_3, a0g_4, a0g_5, a0g_6, a0g_7, a0g_8, a0g_9, a0g_10, a0g_11, a0g_12, a0g_13, a0g_14, Value.ref a0_15, a0g_16, Value.ref a0_17, a0g_18, a0g_19, a0g_20, a0g_21, a0g_22, a0g_23, a0g_24, a0g_25, a0g_26, a0g_27, a0g_28, Value.ref a0_29, Value.int v1na0_30, Value.int v1na0_31, a0g_32, a0g_33, a0g_34, a0g_35, a0g_36, a0g_37, a0g_38, a0g_39])), (a0_17, .inl (ka0_17, 23, .inl (fa0_17))), (a0_29, .inl (ka0_29, 10, .inl (v1nfa0_29))), (a0_15, .inl (ka0_15, 156, .inl (fa0_15)))]) hP hD hCc hk1 hFc hP1 hD1 [.inr 0, .inl 1, .inr 1, .inl 3] (by decide +kernel) rfl (fun hP hD => ?_)
        have hw : (0 : Int) ≤ r19.toInt ∧ r19.toInt ≤ (8 : Int) := hw
        obtain ⟨h19_0, h19_1⟩ := hw
        refine lv_iload_n hx hb dX8_turnsOf_22 rfl (lv_at hl 1 rfl) ?_
        refine lv_icmp_ne (tgt := 30) hx hb dX8_turnsOf_23 (by decide) (fun c23 => ?_) (fun c23 => ?_)
        · have gc23 := ai_ne c23
          refine lv_iconst (v := 0) hx hb dX8_turnsOf_30 zk_iconst_0 ?_
          refine lv_iadd hx hb dX8_turnsOf_31 ?_
          refine lv_topi (fun x31 ex31 => ?_)
          have qx31 : x31.toInt = j9l3.toInt + (0 : Int32).toInt := ai_add ex31 ⟨bj9l3_l, u15z_j9l3⟩ ⟨zq5, zq6⟩ (by decide) (by decide)
          have bx31 : (0 : Int) ≤ x31.toInt ∧ x31.toInt ≤ 8 := ⟨by rw [qx31]; exact Int.add_le_add bj9l3_l zq5, by rw [qx31]; exact Int.add_le_add u15z_j9l3 zq6⟩
          have wx31 : x31.toInt = j9l3.toInt + 0 := qx31
          refine lv_istore_n (lv' := [(3, .int x31), (0, .ref a0), (1, .int a1), (2, .int a2), (4, .int j9l4)]) hx hb dX8_turnsOf_32 rfl hl (by decide) rfl (fun ls hl => ?_)
          obtain ⟨x33, ex33⟩ : ∃ y : Int32, y = j9l4 + Int32.ofInt 1 := ⟨_, rfl⟩
          have qx33 : x33.toInt = j9l4.toInt + 1 := ai_inc ex33 (by decide) (by decide) u12f_j9l4 (by decide)
          have bx33 : (2 : Int) ≤ x33.toInt ∧ x33.toInt ≤ 9 := ⟨by rw [qx33]; exact Int.add_le_add bj9l4_l (Int.le_refl _), by rw [qx33]; exact Int.add_le_add u12f_j9l4 (Int.le_refl _)⟩
          refine lv_iinc (v := x33) (lv' := [(4, .int x33), (3, .int x31), (0, .ref a0), (1, .int a1), (2, .int a2)]) hx hb dX8_turnsOf_33 hl (k := 4) rfl ex33.symm (by decide) rfl (fun ls hl => ?_)
          refine lv_goto (tgt := 9) hx hb dX8_turnsOf_36 (by decide) ?_
          exact (hK0 _ _ _).mp (ih9 x33 x31 _ _ _ (by have h0 := qx33; omega) (Int.le_trans zq54 bx33.1) bx33.2 bx31.1 (Int.le_trans bx31.2 zq22) ⟨by omega, by omega⟩ hP hD hS (lv_sub hl [2, 3, 4, 1, 0] rfl))
        · have gc23 := ai_eq c23
          have u23f_a1 : a1.toInt ≤ (8 : Int) := Int.le_trans (Int.le_of_eq gc23.symm) h19_1
          have l23f_a1 : (0 : Int) ≤ a1.toInt := Int.le_trans h19_0 (Int.le_of_eq gc23)
          refine lv_iconst (v := 1) hx hb dX8_turnsOf_26 zk_iconst_1 ?_
          refine lv_goto (tgt := 31) hx hb dX8_turnsOf_27 (by decide) ?_
          refine lv_iadd hx hb dX8_turnsOf_31 ?_
          refine lv_topi (fun x31 ex31 => ?_)
          have qx31 : x31.toInt = j9l3.toInt + (1 : Int32).toInt := ai_add ex31 ⟨bj9l3_l, u15z_j9l3⟩ ⟨zq1, zq0⟩ (by decide) (by decide)
          have bx31 : (1 : Int) ≤ x31.toInt ∧ x31.toInt ≤ 9 := ⟨by rw [qx31]; exact Int.add_le_add bj9l3_l zq1, by rw [qx31]; exact Int.add_le_add u15z_j9l3 zq0⟩
          have wx31 : x31.toInt = j9l3.toInt + 1 := qx31
          refine lv_istore_n (lv' := [(3, .int x31), (0, .ref a0), (1, .int a1), (2, .int a2), (4, .int j9l4)]) hx hb dX8_turnsOf_32 rfl hl (by decide) rfl (fun ls hl => ?_)
          obtain ⟨x33, ex33⟩ : ∃ y : Int32, y = j9l4 + Int32.ofInt 1 := ⟨_, rfl⟩
          have qx33 : x33.toInt = j9l4.toInt + 1 := ai_inc ex33 (by decide) (by decide) u12f_j9l4 (by decide)
          have bx33 : (2 : Int) ≤ x33.toInt ∧ x33.toInt ≤ 9 := ⟨by rw [qx33]; exact Int.add_le_add bj9l4_l (Int.le_refl _), by rw [qx33]; exact Int.add_le_add u12f_j9l4 (Int.le_refl _)⟩
          refine lv_iinc (v := x33) (lv' := [(4, .int x33), (3, .int x31), (0, .ref a0), (1, .int a1), (2, .int a2)]) hx hb dX8_turnsOf_33 hl (k := 4) rfl ex33.symm (by decide) rfl (fun ls hl => ?_)
          refine lv_goto (tgt := 9) hx hb dX8_turnsOf_36 (by decide) ?_
          exact (hK0 _ _ _).mp (ih9 x33 x31 _ _ _ (by have h0 := qx33; omega) (Int.le_trans zq54 bx33.1) bx33.2 (Int.le_trans zq4 bx31.1) bx31.2 ⟨by omega, by omega⟩ hP hD hS (lv_sub hl [2, 3, 4, 1, 0] rfl))
  exact (hK0 _ _ _).mp (J9 9 1 0 _ _ _ (by have h1 : (1 : Int) ≤ (1 : Int32).toInt := zq1; have h2 : (1 : Int32).toInt ≤ (1 : Int) := zq0; omega) zq1 (Int.le_trans zq0 zq56) zq5 (Int.le_trans zq6 zq7) (by decide) hP hD hS (lv_sub hl [2, 3, 4, 1, 0] rfl))

set_option maxHeartbeats 4000000 in
set_option maxRecDepth 100000 in
theorem c_X8_lowest (l : Launch) (dC : Nat → ClassId) (dI : Nat → Nat → Nat) (sz : Nat) (a1 : Int64) (a2 : Int64) (a3 : Int32) (hd : ¬ a2 = 0) : zm l yX8_lowest wsX8_lowest ({ frames := 0, cells := 0, slots := 0, locals := 0 }) [.long a1, .long a2, .int a3] dC dI sz [] [] (fun A _ => True) (fun A => va_Ql (fun (r : Int64) (_ : Unit) => True) (fun (_ : Unit) (t : State) => ax_B dC dI A [] [] t) A) := by
  refine zh (cc := cX8_lowest) (maxL := 11) (ret := (some .long)) zn_RX8 rfl (Nat.le_of_ble_eq_true rfl) (fun p e s m below meth c A ls hx hb hml hr hts (hown : s.vm.findClass RX8 = some m.cls) hlocks hA hS hP hK hD hE (hl : lv_has ls 11 [(0, .long a1), (2, .long a2), (4, .int a3)]) => ?_)
  refine ai_open (fun K hK0 => ?_)
  refine (hK0 _ _ _).mpr ?_
  refine lv_lload_n hx hb dX8_lowest_0 rfl (lv_at hl 1 rfl) ?_
  refine lv_lstore (lv' := [(5, .long a2), (0, .long a1), (2, .long a2), (4, .int a3)]) hx hb dX8_lowest_1 hl (by decide) rfl (fun ls hl => ?_)
  refine lv_lload_n hx hb dX8_lowest_3 rfl (lv_at hl 1 rfl) ?_
  refine lv_lstore (lv' := [(7, .long a1), (5, .long a2), (0, .long a1), (2, .long a2), (4, .int a3)]) hx hb dX8_lowest_4 hl (by decide) rfl (fun ls hl => ?_)
  have J6 : ∀ (n : Nat) (j6l7 : Int64) (j6l5 : Int64) (H : Heap) (locs : List Loc) (ls : Array Slot), j6l7.toInt.natAbs < n → (¬ j6l5 = 0) → va_P (dC, dI) vwCl [] H → va_D A [] → va_S A s.heap H locs → lv_has ls 11 [(0, .long a1), (2, .long a2), (4, .int a3), (5, .long j6l5), (7, .long j6l7)] → K H locs (F0 m 6 ls []) := by
    intro n
    induction n with
    | zero =>
      intro j6l7 j6l5 H locs ls hm nz6 hP hD hS hl
      exact absurd hm (by omega)
    | succ n ih6 =>
      intro j6l7 j6l5 H locs ls hm nz6 hP hD hS hl
      refine (hK0 _ _ _).mpr ?_
      have hm6 := hm
      refine lv_lload hx hb dX8_lowest_6 (lv_at hl 4 rfl) ?_
      refine lv_lconst (v := 0) hx hb dX8_lowest_8 (by decide) ?_
      refine W.lcmp hx hb dX8_lowest_9 ?_
      refine lv_topi (fun x9 ex9 => ?_)
      refine lv_if_eq (tgt := 31) hx hb dX8_lowest_10 (by decide) (fun c10 => ?_) (fun c10 => ?_)
      · have gc10 := ai_eq c10
        have u10t_x9 : x9.toInt ≤ (0 : Int) := Int.le_trans (Int.le_of_eq gc10) zq6
        have l10t_x9 : (0 : Int) ≤ x9.toInt := Int.le_trans zq5 (Int.le_of_eq gc10.symm)
        refine lv_iload hx hb dX8_lowest_31 (lv_at hl 2 rfl) ?_
        have J41 : ∀ (j41s0 : Int64) (H : Heap) (locs : List Loc) (ls : Array Slot), va_P (dC, dI) vwCl [] H → va_D A [] → va_S A s.heap H locs → lv_has ls 11 [(5, .long j6l5)] → K H locs (F0 m 41 ls [.long j41s0]) := by
          intro j41s0 H locs ls   hP hD hS hl
          refine (hK0 _ _ _).mpr ?_
          refine lv_lload hx hb dX8_lowest_41 (lv_at hl 0 rfl) ?_
          refine lv_ldiv hx hb dX8_lowest_43 nz6 ?_
          refine lv_topl (fun x43 ex43 => ?_)
          exact W.lret (v := x43) hx hb hr (fun t ht hW => ⟨⟨x43, (), rfl, trivial, by rw [ht]; exact hP, va_K.moved hW.alike hK, hD⟩, hS.F ht⟩) hS.2.2 dX8_lowest_44
        refine lv_if_eq (tgt := 40) hx hb dX8_lowest_33 (by decide) (fun c33 => ?_) (fun c33 => ?_)
        · have gc33 := ai_eq c33
          have u33t_a3 : a3.toInt ≤ (0 : Int) := Int.le_trans (Int.le_of_eq gc33) zq6
          have l33t_a3 : (0 : Int) ≤ a3.toInt := Int.le_trans zq5 (Int.le_of_eq gc33.symm)
          refine lv_lload_n hx hb dX8_lowest_40 rfl (lv_at hl 0 rfl) ?_
          exact (hK0 _ _ _).mp (J41 a1 _ _ _   hP hD hS (lv_sub hl [3] rfl))
        · have gc33 := ai_ne c33
          refine lv_lload_n hx hb dX8_lowest_36 rfl (lv_at hl 1 rfl) ?_
          refine lv_goto (tgt := 41) hx hb dX8_lowest_37 (by decide) ?_
          exact (hK0 _ _ _).mp (J41 a2 _ _ _   hP hD hS (lv_sub hl [3] rfl))
      · have gc10 := ai_ne c10
        have zc10 : ¬ j6l7 = 0 := ai_lcne ex9 c10
        refine lv_lload hx hb dX8_lowest_13 (lv_at hl 3 rfl) ?_
        refine lv_lload hx hb dX8_lowest_15 (lv_at hl 4 rfl) ?_
        refine lv_lrem hx hb dX8_lowest_17 zc10 ?_
        refine lv_topl (fun x17 ex17 => ?_)
        refine lv_lstore (lv' := [(9, .long x17), (0, .long a1), (2, .long a2), (4, .int a3), (5, .long j6l5), (7, .long j6l7)]) hx hb dX8_lowest_18 hl (by decide) rfl (fun ls hl => ?_)
        refine lv_lload hx hb dX8_lowest_20 (lv_at hl 5 rfl) ?_
        refine lv_lstore (lv' := [(5, .long j6l7), (9, .long x17), (0, .long a1), (2, .long a2), (4, .int a3), (7, .long j6l7)]) hx hb dX8_lowest_22 hl (by decide) rfl (fun ls hl => ?_)
        refine lv_lload hx hb dX8_lowest_24 (lv_at hl 1 rfl) ?_
        refine lv_lstore (lv' := [(7, .long x17), (5, .long j6l7), (9, .long x17), (0, .long a1), (2, .long a2), (4, .int a3)]) hx hb dX8_lowest_26 hl (by decide) rfl (fun ls hl => ?_)
        refine lv_goto (tgt := 6) hx hb dX8_lowest_28 (by decide) ?_
        exact (hK0 _ _ _).mp (ih6 x17 j6l7 _ _ _ (by have h1 := lw_mod (x := j6l5) zc10; rw [← ex17] at h1; omega) zc10 hP hD hS (lv_sub hl [3, 4, 5, 1, 0] rfl))
  exact (hK0 _ _ _).mp (J6 9223372036854775809 a1 a2 _ _ _ (lw_b _) hd hP hD hS (lv_sub hl [2, 3, 4, 1, 0] rfl))

set_option maxHeartbeats 4000000 in
set_option maxRecDepth 100000 in
theorem c_X8_odds (l : Launch) (dC : Nat → ClassId) (dI : Nat → Nat → Nat) (sz : Nat) (a0 : Nat) (a1 : Int32) (a2 : Int32) (a3 : Int32) (a0_0 : Int32) (a0g_1 a0g_2 a0g_3 a0g_4 a0g_5 a0g_6 a0g_7 a0g_8 a0g_9 a0g_10 a0g_12 a0g_13 a0g_16 a0g_18 a0g_19 a0g_20 a0g_21 a0g_22 a0g_23 a0g_24 a0g_25 a0g_26 a0g_27 a0g_28 a0g_32 a0g_33 a0g_34 a0g_35 a0g_36 a0g_37 a0g_38 a0g_39 : Value) (a0_11 : Int32) (a0_14 : Int32) (a0_15 : Nat) (a0_17 : Nat) (a0_29 : Nat) (a0_30 : Int32) (a0_31 : Int32) (ka0_15 : ClassId) (fa0_15 : Nat → Int32) (ka0_17 : ClassId) (fa0_17 : Nat → Int32) (ka0_29 : ClassId) (fa0_29 : Nat → Int32) (ba0_14_l : (1 : Int) ≤ a0_14.toInt) (ba0_14_u : a0_14.toInt ≤ (1 : Int)) (bfa0_15 : ((∀ k : Nat, 0 ≤ k → k ≤ 0 → (2 : Int) ≤ (fa0_15 k).toInt ∧ (fa0_15 k).toInt ≤ 9) ∧ (∀ k : Nat, 1 ≤ k → k ≤ 1 → (1 : Int) ≤ (fa0_15 k).toInt ∧ (fa0_15 k).toInt ≤ 20) ∧ (∀ k : Nat, 2 ≤ k → k ≤ 2 → (0 : Int) ≤ (fa0_15 k).toInt ∧ (fa0_15 k).toInt ≤ 8) ∧ (∀ k : Nat, 3 ≤ k → k ≤ 3 → (0 : Int) ≤ (fa0_15 k).toInt ∧ (fa0_15 k).toInt ≤ 100) ∧ (∀ k : Nat, 4 ≤ k → k ≤ 4 → (0 : Int) ≤ (fa0_15 k).toInt ∧ (fa0_15 k).toInt ≤ 9) ∧ (∀ k : Nat, 5 ≤ k → k ≤ 5 → (0 : Int) ≤ (fa0_15 k).toInt ∧ (fa0_15 k).toInt ≤ 3) ∧ (∀ k : Nat, 6 ≤ k → k ≤ 6 → (0 : Int) ≤ (fa0_15 k).toInt ∧ (fa0_15 k).toInt ≤ 6) ∧ (∀ k : Nat, 7 ≤ k → k ≤ 9 → (0 : Int) ≤ (fa0_15 k).toInt ∧ (fa0_15 k).toInt ≤ 8) ∧ (∀ k : Nat, 12 ≤ k → k ≤ 29 → (0 : Int) ≤ (fa0_15 k).toInt ∧ (fa0_15 k).toInt ≤ 20) ∧ (∀ k : Nat, 30 ≤ k → k ≤ 35 → (0 : Int) ≤ (fa0_15 k).toInt ∧ (fa0_15 k).toInt ≤ 8) ∧ (∀ k : Nat, 36 ≤ k → k ≤ 47 → (0 : Int) ≤ (fa0_15 k).toInt ∧ (fa0_15 k).toInt ≤ 999))) (bfa0_17 : ((∀ k : Nat, 0 ≤ k → k ≤ 8 → (0 : Int) ≤ (fa0_17 k).toInt ∧ (fa0_17 k).toInt ≤ 8) ∧ (∀ k : Nat, 19 ≤ k → k ≤ 19 → (0 : Int) ≤ (fa0_17 k).toInt ∧ (fa0_17 k).toInt ≤ 8) ∧ (∀ k : Nat, 20 ≤ k → k ≤ 20 → (0 : Int) ≤ (fa0_17 k).toInt ∧ (fa0_17 k).toInt ≤ 19))) (bfa0_29 : (∀ k, (0 : Int) ≤ (fa0_29 k).toInt ∧ (fa0_29 k).toInt ≤ 8)) : zm l yX8_odds wsX8_odds ({ frames := 3, cells := 0, slots := 0, locals := 68 }) [.ref a0, .int a1, .int a2, .int a3] dC dI sz [(a0, .inr (8, [Value.int a0_0, a0g_1, a0g_2, a0g_3, a0g_4, a0g_5, a0g_6, a0g_7, a0g_8, a0g_9, a0g_10, Value.int a0_11, a0g_12, a0g_13, Value.int a0_14, Value.ref a0_15, a0g_16, Value.ref a0_17, a0g_18, a0g_19, a0g_20, a0g_21, a0g_22, a0g_23, a0g_24, a0g_25, a0g_26, a0g_27, a0g_28, Value.ref a0_29, Value.int a0_30, Value.int a0_31, a0g_32, a0g_33, a0g_34, a0g_35, a0g_36, a0g_37, a0g_38, a0g_39])), (a0_15, .inl (ka0_15, 156, .inl (fa0_15))), (a0_17, .inl (ka0_17, 23, .inl (fa0_17))), (a0_29, .inl (ka0_29, 10, .inl (fa0_29)))] [(ka0_15, .int), (ka0_17, .int), (ka0_29, .int)] (fun A _ => True) (fun A => va_Ql (fun (r : Int64) (_ : Unit) => True) (fun (_ : Unit) (t : State) => ∃ na0_0 : Int32, ∃ na0_11 : Int32, ∃ na0_30 : Int32, ∃ na0_31 : Int32, ∃ nfa0_29 : Nat → Int32, (∀ k, (0 : Int) ≤ (nfa0_29 k).toInt ∧ (nfa0_29 k).toInt ≤ 8) ∧ ax_B dC dI A [(a0, .inr (8, [Value.int na0_0, a0g_1, a0g_2, a0g_3, a0g_4, a0g_5, a0g_6, a0g_7, a0g_8, a0g_9, a0g_10, Value.int na0_11, a0g_12, a0g_13, Value.int a0_14, Value.ref a0_15, a0g_16, Value.ref a0_17, a0g_18, a0g_19, a0g_20, a0g_21, a0g_22, a0g_23, a0g_24, a0g_25, a0g_26, a0g_27, a0g_28, Value.ref a0_29, Value.int na0_30, Value.int na0_31, a0g_32, a0g_33, a0g_34, a0g_35, a0g_36, a0g_37, a0g_38, a0g_39])), (a0_15, .inl (ka0_15, 156, .inl (fa0_15))), (a0_17, .inl (ka0_17, 23, .inl (fa0_17))), (a0_29, .inl (ka0_29, 10, .inl (nfa0_29)))] [(ka0_15, .int), (ka0_17, .int), (ka0_29, .int)] t) A) := by
  refine zh (cc := cX8_odds) (maxL := 11) (ret := (some .long)) zn_RX8 rfl (Nat.le_of_ble_eq_true rfl) (fun p e s m below meth c A ls hx hb hml hr hts (hown : s.vm.findClass RX8 = some m.cls) hlocks hA hS hP hK hD hE (hl : lv_has ls 11 [(0, .ref a0), (1, .int a1), (2, .int a2), (3, .int a3)]) => ?_)
  refine lv_aload_n hx hb dX8_odds_0 rfl (lv_at hl 0 rfl) ?_
  refine va_callv (va_runV (As := []) (rest := []) ⟨hx, hb, hml, hown, hts⟩ (c_X8_good l dC dI s.heap.size a0 a0_0 a0g_1 a0g_2 a0g_3 a0g_4 a0g_5 a0g_6 a0g_7 a0g_8 a0g_9 a0g_10 a0g_12 a0g_13 (Value.int a0_14) (Value.ref a0_15) a0g_16 (Value.ref a0_17) a0g_18 a0g_19 a0g_20 a0g_21 a0g_22 a0g_23 a0g_24 a0g_25 a0g_26 a0g_27 a0g_28 (Value.ref a0_29) (Value.int a0_30) (Value.int a0_31) a0g_32 a0g_33 a0g_34 a0g_35 a0g_36 a0g_37 a0g_38 a0g_39 a0_11 ) (cwV 0 hts gX8_odds_X8_good rfl rfl rfl zd_X8_good ⟨Nat.le_of_ble_eq_true rfl, Nat.le_of_ble_eq_true rfl⟩) ⟨ax_blind (fun _ _ _ _ _ => trivial), zr_8 (zp_K hK) (zp_P1 hP) (q0 := 0) rfl, ax_pre (zp_P1 hP) (zp_K hK) (zp_D1 hD) (fun _ _ => trivial)⟩ rfl rfl hl.1 rfl (lv_room (Nat.le_of_ble_eq_true rfl)) dX8_odds_1 ⟨Nat.le_of_ble_eq_true rfl, Nat.le_of_ble_eq_true rfl⟩) hS (fun q _ h => zp_F1 hD hS hA q h) (zp_F1 hD hS hA) (fun u t H locs ht hvm hw hB hz1 hk1 hS1 => zx_2 hB (fun v1na0_0 v1na0_11 hB => zo1 hB ht hP hD hk1 (zp_F1 hD hS hA) hS1 (fun hP hK1 hD hS => ?_)))
  refine lv_aload_n hx hb dX8_odds_4 rfl (lv_at hl 0 rfl) ?_
  refine lv_aload_n hx hb dX8_odds_5 rfl (lv_at hl 0 rfl) ?_
  refine lv_iload_n hx hb dX8_odds_6 rfl (lv_at hl 1 rfl) ?_
  have hKc := hK.sub (tys' := [(ka0_15, .int)]) [0] rfl
  refine va_calli (va_runV (As := [.int a1]) (rest := [.ref a0]) ⟨hx, hb, hml, hown, hts⟩ (c_X8_isFigure l dC dI H.size a0 a1 (Value.int v1na0_0) a0g_1 a0g_2 a0g_3 a0g_4 a0g_5 a0g_6 a0g_7 a0g_8 a0g_9 a0g_10 (Value.int v1na0_11) a0g_12 a0g_13 a0g_16 (Value.ref a0_17) a0g_18 a0g_19 a0g_20 a0g_21 a0g_22 a0g_23 a0g_24 a0g_25 a0g_26 a0g_27 a0g_28 (Value.ref a0_29) (Value.int a0_30) (Value.int a0_31) a0g_32 a0g_33 a0g_34 a0g_35 a0g_36 a0g_37 a0g_38 a0g_39 a0_14 a0_15 ka0_15 fa0_15 ba0_14_l ba0_14_u bfa0_15) (cwV 1 hts gX8_odds_X8_isFigure rfl rfl rfl zd_X8_isFigure ⟨Nat.le_of_ble_eq_true rfl, Nat.le_of_ble_eq_true rfl⟩) ⟨ax_blind (fun _ _ _ _ _ => trivial), zr_8 hKc (zp_P2 hP) (q0 := 0) rfl, ax_pre (zp_P2 hP) hKc (zp_D2 hD) (fun _ _ => trivial)⟩ rfl rfl hl.1 rfl (lv_room (Nat.le_of_ble_eq_true rfl)) dX8_odds_7 ⟨Nat.le_of_ble_eq_true rfl, Nat.le_of_ble_eq_true rfl⟩) hS (fun q _ h => zp_F2 hD hS hA q h) (zp_F2 hD hS hA) (fun r7 u t H locs ht hvm hw hB hz1 hk1 hS1 => zo2 hB ht hP hD hk1 (zp_F2 hD hS hA) hS1 (fun hP hK1 hD hS => ?_))
  rcases hw with hw | hw
  · obtain ⟨hw, h7_0, h7_1⟩ := hw
    subst hw
    have l7k0_a1 : (0 : Int) ≤ a1.toInt := h7_0
    have u7k0_a1 : a1.toInt ≤ (8 : Int) := h7_1
    refine lv_iload_n hx hb dX8_odds_10 rfl (lv_at hl 2 rfl) ?_
    refine lv_iconst (v := 0) hx hb dX8_odds_11 zk_iconst_0 ?_
    refine lv_bipush (v := 8) hx hb dX8_odds_12 zk_bipush_8 ?_
    refine va_calli (va_runS (As := [.int a2, .int 0, .int 8]) (rest := [.int 1, .ref a0]) ⟨hx, hb, hml, hown, hts⟩ (c_X8_in l dC dI H.size a2 0 8 ) (va_cwS 3 hts gX8_odds_X8_in rfl rfl rfl zd_X8_in.2 ⟨Nat.le_of_ble_eq_true rfl, Nat.le_of_ble_eq_true rfl⟩) ⟨ax_blind (fun _ _ _ _ _ => trivial), ax_pre (zp_P0 hP) (zp_K hK) (zp_D0 hD) (fun _ _ => trivial)⟩ rfl rfl hl.1 rfl (lv_room (Nat.le_of_ble_eq_true rfl)) dX8_odds_14 ⟨Nat.le_of_ble_eq_true rfl, Nat.le_of_ble_eq_true rfl⟩) hS (fun q _ h => zp_F0 hD hS hA q h) (zp_F0 hD hS hA) (fun r14 u t H locs ht hvm hw hB hz1 hk1 hS1 => zo0 hB ht hP hD hk1 (zp_F0 hD hS hA) hS1 (fun hP hK1 hD hS => ?_))
    rcases hw with hw | hw
    · obtain ⟨hw, h14⟩ := hw
      subst hw
      have l14k0_a2 : (0 : Int) ≤ a2.toInt := Int.le_trans zq5 h14.1
      have u14k0_a2 : a2.toInt ≤ (8 : Int) := Int.le_trans h14.2 zq28
      refine va_calli (va_runV (As := [.int 1, .int 1]) (rest := []) ⟨hx, hb, hml, hown, hts⟩ (c_X8_whyB l dC dI H.size a0 1 1 (Value.int v1na0_0) a0g_1 a0g_2 a0g_3 a0g_4 a0g_5 a0g_6 a0g_7 a0g_8 a0g_9 a0g_10 (Value.int v1na0_11) a0g_12 a0g_13 (Value.int a0_14) (Value.ref a0_15) a0g_16 (Value.ref a0_17) a0g_18 a0g_19 a0g_20 a0g_21 a0g_22 a0g_23 a0g_24 a0g_25 a0g_26 a0g_27 a0g_28 (Value.ref a0_29) (Value.int a0_30) (Value.int a0_31) a0g_32 a0g_33 a0g_34 a0g_35 a0g_36 a0g_37 a0g_38 a0g_39 (Int.le_trans zq4 zq1) zq0 (Int.le_trans zq4 zq1) zq0) (cwV 2 hts gX8_odds_X8_why rfl rfl rfl zd_X8_why ⟨Nat.le_of_ble_eq_true rfl, Nat.le_of_ble_eq_true rfl⟩) ⟨ax_blind (fun _ _ _ _ _ => trivial), zr_8 (zp_K hK) (zp_P1 hP) (q0 := 0) rfl, ax_pre (zp_P1 hP) (zp_K hK) (zp_D1 hD) (fun _ _ => trivial)⟩ rfl rfl hl.1 rfl (lv_room (Nat.le_of_ble_eq_true rfl)) dX8_odds_17 ⟨Nat.le_of_ble_eq_true rfl, Nat.le_of_ble_eq_true rfl⟩) hS (fun q _ h => zp_F1 hD hS hA q h) (zp_F1 hD hS hA) (fun r17 u t H locs ht hvm hw hB hz1 hk1 hS1 => zo1 hB ht hP hD hk1 (zp_F1 hD hS hA) hS1 (fun hP hK1 hD hS => ?_))
      rcases hw with hw | hw | hw
      · obtain ⟨hw, h17_0, h17_1, h17_2, h17_3⟩ := hw
        subst hw
        exact absurd h17_3 (by decide)
      · obtain ⟨hw, h17_0, h17_1⟩ := hw
        subst hw
        exact absurd h17_1 (by decide)
      · obtain ⟨hw, h17_0, h17_1, h17_2, h17_3⟩ := hw
        subst hw
        refine lv_istore (lv' := [(4, .int 0), (0, .ref a0), (1, .int a1), (2, .int a2), (3, .int a3)]) hx hb dX8_odds_20 hl (by decide) rfl (fun ls hl => ?_)
        refine lv_iload hx hb dX8_odds_22 (lv_at hl 0 rfl) ?_
        refine lv_if_eq (tgt := 35) hx hb dX8_odds_24 (by decide) (fun _ => ?_) (fun c24 => absurd (by decide +kernel) c24)
        refine lv_aload_n hx hb dX8_odds_35 rfl (lv_at hl 1 rfl) ?_
        refine lv_iload_n hx hb dX8_odds_36 rfl (lv_at hl 2 rfl) ?_
        refine lv_iload_n hx hb dX8_odds_37 rfl (lv_at hl 3 rfl) ?_
        refine zc_cutc (wc := [(a0, .inr (8, [Value.int v1na0_0, a0g_1, a0g_2, a0g_3, a0g_4, a0g_5, a0g_6, a0g_7, a0g_8, a0g_9, a0g_10, Value.int v1na0_11, a0g_12, a0g_13, Value.int a0_14, Value.ref a0_15, a0g_16, Value.ref a0_17, a0g_18, a0g_19, a0g_20, a0g_21, a0g_22, a0g_23, a0g_24, a0g_25, a0g_26, a0g_27, a0g_28, Value.ref a0_29, Value.int a0_30, Value.int a0_31, a0g_32, a0g_33, a0g_34, a0g_35, a0g_36, a0g_37, a0g_38, a0g_39])), (a0_17, .inl (ka0_17, 23, .inl (fa0_17))), (a0_29, .inl (ka0_29, 10, .inl (fa0_29))), (a0_15, .inl (ka0_15, 156, .inl (fa0_15)))]) hP hD hS hA [0, 2, 3, 1] (by decide +kernel) rfl (fun hPc hDc hFc hCc => ?_)
        have hKc := hK.sub (tys' := [(ka0_17, .int), (ka0_29, .int), (ka0_15, .int)]) [1, 2, 0] rfl
        refine va_calli (va_runV (As := [.int a1, .int a2]) (rest := []) ⟨hx, hb, hml, hown, hts⟩ (c_X8_turnsOf l dC dI H.size a0 a1 a2 (Value.int v1na0_0) a0g_1 a0g_2 a0g_3 a0g_4 a0g_5 a0g_6 a0g_7 a0g_8 a0g_9 a0g_10 (Value.int v1na0_11) a0g_12 a0g_13 (Value.int a0_14) a0g_16 a0g_18 a0g_19 a0g_20 a0g_21 a0g_22 a0g_23 a0g_24 a0g_25 a0g_26 a0g_27 a0g_28 a0g_32 a0g_33 a0g_34 a0g_35 a0g_36 a0g_37 a0g_38 a0g_39 a0_15 a0_17 a0_29 a0_30 a0_31 ka0_17 fa0_17 ka0_29 fa0_29 ka0_15 fa0_15 l14k0_a2 u14k0_a2 bfa0_17 bfa0_29 bfa0_15) (cwV 2 hts gX8_odds_X8_turnsOf rfl rfl rfl zd_X8_turnsOf ⟨Nat.le_of_ble_eq_true rfl, Nat.le_of_ble_eq_true rfl⟩) ⟨ax_blind (fun _ _ _ _ _ => trivial), zr_8 hKc hPc (q0 := 0) rfl, ax_pre hPc hKc hDc (fun _ _ => trivial)⟩ rfl rfl hl.1 rfl (lv_room (Nat.le_of_ble_eq_true rfl)) dX8_odds_38 ⟨Nat.le_of_ble_eq_true rfl, Nat.le_of_ble_eq_true rfl⟩) hS (fun q _ h => hFc q h) hFc (fun r38 u t H locs ht hvm hw hB hz1 hk1 hS => zx_3 hB (fun v38na0_30 v38na0_31 v38nfa0_29 hB => zy_1 hB (fun bv38nfa0_29 hB => zo hB ht (fun hP1 hK1 hD1 => ?_))))
        refine zc_backc (w := [(a0, .inr (8, [Value.int v1na0_0, a0g_1, a0g_2, a0g_3, a0g_4, a0g_5, a0g_6, a0g_7, a0g_8, a0g_9, a0g_10, Value.int v1na0_11, a0g_12, a0g_13, Value.int a0_14, Value.ref a0_15, a0g_16, Value.ref a0_17, a0g_18, a0g_19, a0g_20, a0g_21, a0g_22, a0g_23, a0g_24, a0g_25, a0g_26, a0g_27, a0g_28, Value.ref a0_29, Value.int v38na0_30, Value.int v38na0_31, a0g_32, a0g_33, a0g_34, a0g_35, a0g_36, a0g_37, a0g_38, a0g_39])), (a0_15, .inl (ka0_15, 156, .inl (fa0_15))), (a0_17, .inl (ka0_17, 23, .inl (fa0_17))), (a0_29, .inl (ka0_29, 10, .inl (v38nfa0_29)))]) hP hD hCc hk1 hFc hP1 hD1 [.inr 0, .inr 3, .inr 1, .inr 2] (by decide +kernel) rfl (fun hP hD => ?_)
        have hw : (0 : Int) ≤ r38.toInt ∧ r38.toInt ≤ (8 : Int) := hw
        obtain ⟨h38_0, h38_1⟩ := hw
        refine lv_istore (lv' := [(5, .int r38), (4, .int 0), (0, .ref a0), (1, .int a1), (2, .int a2), (3, .int a3)]) hx hb dX8_odds_41 hl (by decide) rfl (fun ls hl => ?_)
        refine lv_lconst (v := 1) hx hb dX8_odds_43 (by decide) ?_
        refine lv_lstore (lv' := [(6, .long 1), (5, .int r38), (4, .int 0), (0, .ref a0), (1, .int a1), (2, .int a2), (3, .int a3)]) hx hb dX8_odds_44 hl (by decide) rfl (fun ls hl => ?_)
        refine lv_lconst (v := 1) hx hb dX8_odds_46 (by decide) ?_
        refine lv_lstore (lv' := [(8, .long 1), (6, .long 1), (5, .int r38), (4, .int 0), (0, .ref a0), (1, .int a1), (2, .int a2), (3, .int a3)]) hx hb dX8_odds_47 hl (by decide) rfl (fun ls hl => ?_)
        refine lv_iconst (v := 0) hx hb dX8_odds_49 zk_iconst_0 ?_
        refine lv_istore (lv' := [(10, .int 0), (8, .long 1), (6, .long 1), (5, .int r38), (4, .int 0), (0, .ref a0), (1, .int a1), (2, .int a2), (3, .int a3)]) hx hb dX8_odds_50 hl (by decide) rfl (fun ls hl => ?_)
        refine lv_iload hx hb dX8_odds_52 (lv_at hl 0 rfl) ?_
        refine lv_iload hx hb dX8_odds_54 (lv_at hl 3 rfl) ?_
        refine lv_icmp_ge (tgt := 85) hx hb dX8_odds_56 (by decide) (fun c56 => ?_) (fun c56 => ?_)
        · have gc56 := ai_le c56
          have u56t_r38 : r38.toInt ≤ (0 : Int) := Int.le_trans gc56 zq6
          refine lv_lload hx hb dX8_odds_85 (lv_at hl 2 rfl) ?_
          refine lv_lload hx hb dX8_odds_87 (lv_at hl 1 rfl) ?_
          refine lv_lsub hx hb dX8_odds_89 ?_
          refine lv_topl (fun x89 ex89 => ?_)
          refine lv_lload hx hb dX8_odds_90 (lv_at hl 2 rfl) ?_
          refine lv_iload_n hx hb dX8_odds_92 rfl (lv_at hl 8 rfl) ?_
          refine va_calll (va_runS (As := [.long x89, .long 1, .int a3]) (rest := []) ⟨hx, hb, hml, hown, hts⟩ (c_X8_lowest l dC dI H.size x89 1 a3 (by decide)) (va_cwS 3 hts gX8_odds_X8_lowest rfl rfl rfl zd_X8_lowest.2 ⟨Nat.le_of_ble_eq_true rfl, Nat.le_of_ble_eq_true rfl⟩) ⟨ax_blind (fun _ _ _ _ _ => trivial), ax_pre (zp_P0 hP) (zp_K hK) (zp_D0 hD) (fun _ _ => trivial)⟩ rfl rfl hl.1 rfl (lv_room (Nat.le_of_ble_eq_true rfl)) dX8_odds_93 ⟨Nat.le_of_ble_eq_true rfl, Nat.le_of_ble_eq_true rfl⟩) hS (fun q _ h => zp_F0 hD hS hA q h) (zp_F0 hD hS hA) (fun r93 u t H locs ht hvm hw hB hz1 hk1 hS1 => zo0 hB ht hP hD hk1 (zp_F0 hD hS hA) hS1 (fun hP hK1 hD hS => ?_))
          exact W.lret (v := r93) hx hb hr (fun t ht hW => ⟨⟨r93, (), rfl, trivial, v1na0_0, v1na0_11, v38na0_30, v38na0_31, v38nfa0_29, bv38nfa0_29, by rw [ht]; exact hP, va_K.moved hW.alike hK, hD⟩, hS.F ht⟩) hS.2.2 dX8_odds_96
        · have gc56 := ai_nle c56
          have l56f_r38 : (1 : Int) ≤ r38.toInt := ai_ltlo gc56 zq5
          refine lv_lload hx hb dX8_odds_59 (lv_at hl 2 rfl) ?_
          refine lv_ldc2 (v := 100) hx hb hown (hts (.constantLong RX8 368 (100)) (zm_X8_odds_r1 (List.mem_of_getElem? (i := 0) rfl))) dX8_odds_61 ?_
          refine lv_lmul hx hb dX8_odds_64 ?_
          refine ax_tv (.long 100) (by decide +kernel) ?_
          refine lv_lstore (lv' := [(6, .long 100), (10, .int 0), (8, .long 1), (5, .int r38), (4, .int 0), (0, .ref a0), (1, .int a1), (2, .int a2), (3, .int a3)]) hx hb dX8_odds_65 hl (by decide) rfl (fun ls hl => ?_)
          refine lv_lload hx hb dX8_odds_67 (lv_at hl 2 rfl) ?_
          refine lv_aload_n hx hb dX8_odds_69 rfl (lv_at hl 5 rfl) ?_
          refine va_get (D := (dC, dI)) (ci := 8) (v := .ref a0_15) (C := RX8) (T := TX8) (N := 40) hx hb hts zi_X8_odds_8 hown hK hP 0 rfl rfl 15 (by decide) (hts (.fieldLink RX8 20 "WaxTurnsModel" "\x72" "[I") (zm_X8_odds_r1 (List.mem_of_getElem? (i := 1) rfl))) (fun _ h9 => h9) rfl dX8_odds_70 ?_
          refine lv_iconst (v := 3) hx hb dX8_odds_73 zk_iconst_3 ?_
          refine va_iald hx hb hK hP 1 0 rfl rfl (by unfold vp_in; decide +kernel) dX8_odds_74 ?_
          refine lv_topi (fun x74 ex74 => ?_)
          have bx74 : (0 : Int) ≤ x74.toInt ∧ x74.toInt ≤ 100 := by rw [ex74]; exact ai_rd bfa0_15.2.2.2.1 zq8 zq9 (by decide) (by decide) (by decide)
          obtain ⟨x75, ex75⟩ : ∃ y : Int64, y = (x74 : Int32).toInt64 := ⟨_, rfl⟩
          refine lv_i2l (v := x75) hx hb dX8_odds_75 ex75.symm ?_
          refine lv_lmul hx hb dX8_odds_76 ?_
          refine lv_topl (fun x76 ex76 => ?_)
          refine lv_lstore (lv' := [(8, .long x76), (6, .long 100), (10, .int 0), (5, .int r38), (4, .int 0), (0, .ref a0), (1, .int a1), (2, .int a2), (3, .int a3)]) hx hb dX8_odds_77 hl (by decide) rfl (fun ls hl => ?_)
          refine lv_iinc (v := 1) (lv' := [(10, .int 1), (8, .long x76), (6, .long 100), (5, .int r38), (4, .int 0), (0, .ref a0), (1, .int a1), (2, .int a2), (3, .int a3)]) hx hb dX8_odds_79 hl (k := 2) rfl (by decide +kernel) (by decide) rfl (fun ls hl => ?_)
          refine lv_goto (tgt := 52) hx hb dX8_odds_82 (by decide) ?_
          refine lv_iload hx hb dX8_odds_52 (lv_at hl 0 rfl) ?_
          refine lv_iload hx hb dX8_odds_54 (lv_at hl 3 rfl) ?_
          refine lv_icmp_ge (tgt := 85) hx hb dX8_odds_56 (by decide) (fun c56 => ?_) (fun c56 => ?_)
          · have gc56 := ai_le c56
            have u56t_r38 : r38.toInt ≤ (1 : Int) := Int.le_trans gc56 zq0
            refine lv_lload hx hb dX8_odds_85 (lv_at hl 2 rfl) ?_
            refine lv_lload hx hb dX8_odds_87 (lv_at hl 1 rfl) ?_
            refine lv_lsub hx hb dX8_odds_89 ?_
            refine lv_topl (fun x89 ex89 => ?_)
            refine lv_lload hx hb dX8_odds_90 (lv_at hl 2 rfl) ?_
            refine lv_iload_n hx hb dX8_odds_92 rfl (lv_at hl 8 rfl) ?_
            refine va_calll (va_runS (As := [.long x89, .long 100, .int a3]) (rest := []) ⟨hx, hb, hml, hown, hts⟩ (c_X8_lowest l dC dI H.size x89 100 a3 (by decide)) (va_cwS 3 hts gX8_odds_X8_lowest rfl rfl rfl zd_X8_lowest.2 ⟨Nat.le_of_ble_eq_true rfl, Nat.le_of_ble_eq_true rfl⟩) ⟨ax_blind (fun _ _ _ _ _ => trivial), ax_pre (zp_P0 hP) (zp_K hK) (zp_D0 hD) (fun _ _ => trivial)⟩ rfl rfl hl.1 rfl (lv_room (Nat.le_of_ble_eq_true rfl)) dX8_odds_93 ⟨Nat.le_of_ble_eq_true rfl, Nat.le_of_ble_eq_true rfl⟩) hS (fun q _ h => zp_F0 hD hS hA q h) (zp_F0 hD hS hA) (fun r93 u t H locs ht hvm hw hB hz1 hk1 hS1 => zo0 hB ht hP hD hk1 (zp_F0 hD hS hA) hS1 (fun hP hK1 hD hS => ?_))
            exact W.lret (v := r93) hx hb hr (fun t ht hW => ⟨⟨r93, (), rfl, trivial, v1na0_0, v1na0_11, v38na0_30, v38na0_31, v38nfa0_29, bv38nfa0_29, by rw [ht]; exact hP, va_K.moved hW.alike hK, hD⟩, hS.F ht⟩) hS.2.2 dX8_odds_96
          · have gc56 := ai_nle c56
            have l56f_r38 : (2 : Int) ≤ r38.toInt := ai_ltlo gc56 zq1
            refine lv_lload hx hb dX8_odds_59 (lv_at hl 2 rfl) ?_
            refine lv_ldc2 (v := 100) hx hb hown (hts (.constantLong RX8 368 (100)) (zm_X8_odds_r1 (List.mem_of_getElem? (i := 0) rfl))) dX8_odds_61 ?_
            refine lv_lmul hx hb dX8_odds_64 ?_
            refine ax_tv (.long 10000) (by decide +kernel) ?_
            refine lv_lstore (lv' := [(6, .long 10000), (10, .int 1), (8, .long x76), (5, .int r38), (4, .int 0), (0, .ref a0), (1, .int a1), (2, .int a2), (3, .int a3)]) hx hb dX8_odds_65 hl (by decide) rfl (fun ls hl => ?_)
            refine lv_lload hx hb dX8_odds_67 (lv_at hl 2 rfl) ?_
            refine lv_aload_n hx hb dX8_odds_69 rfl (lv_at hl 5 rfl) ?_
            refine va_get (D := (dC, dI)) (ci := 8) (v := .ref a0_15) (C := RX8) (T := TX8) (N := 40) hx hb hts zi_X8_odds_8 hown hK hP 0 rfl rfl 15 (by decide) (hts (.fieldLink RX8 20 "WaxTurnsModel" "\x72" "[I") (zm_X8_odds_r1 (List.mem_of_getElem? (i := 1) rfl))) (fun _ h9 => h9) rfl dX8_odds_70 ?_
            refine lv_iconst (v := 3) hx hb dX8_odds_73 zk_iconst_3 ?_
            refine va_iald hx hb hK hP 1 0 rfl rfl (by unfold vp_in; decide +kernel) dX8_odds_74 ?_
            refine ax_ti x74 ex74.symm ?_
            obtain ⟨x75v2, ex75v2⟩ : ∃ y : Int64, y = (x74 : Int32).toInt64 := ⟨_, rfl⟩
            refine lv_i2l (v := x75v2) hx hb dX8_odds_75 ex75v2.symm ?_
            refine lv_lmul hx hb dX8_odds_76 ?_
            refine lv_topl (fun x76v2 ex76v2 => ?_)
            refine lv_lstore (lv' := [(8, .long x76v2), (6, .long 10000), (10, .int 1), (5, .int r38), (4, .int 0), (0, .ref a0), (1, .int a1), (2, .int a2), (3, .int a3)]) hx hb dX8_odds_77 hl (by decide) rfl (fun ls hl => ?_)
            refine lv_iinc (v := 2) (lv' := [(10, .int 2), (8, .long x76v2), (6, .long 10000), (5, .int r38), (4, .int 0), (0, .ref a0), (1, .int a1), (2, .int a2), (3, .int a3)]) hx hb dX8_odds_79 hl (k := 2) rfl (by decide +kernel) (by decide) rfl (fun ls hl => ?_)
            refine lv_goto (tgt := 52) hx hb dX8_odds_82 (by decide) ?_
            refine lv_iload hx hb dX8_odds_52 (lv_at hl 0 rfl) ?_
            refine lv_iload hx hb dX8_odds_54 (lv_at hl 3 rfl) ?_
            refine lv_icmp_ge (tgt := 85) hx hb dX8_odds_56 (by decide) (fun c56 => ?_) (fun c56 => ?_)
            · have gc56 := ai_le c56
              have u56t_r38 : r38.toInt ≤ (2 : Int) := Int.le_trans gc56 zq13
              refine lv_lload hx hb dX8_odds_85 (lv_at hl 2 rfl) ?_
              refine lv_lload hx hb dX8_odds_87 (lv_at hl 1 rfl) ?_
              refine lv_lsub hx hb dX8_odds_89 ?_
              refine lv_topl (fun x89 ex89 => ?_)
              refine lv_lload hx hb dX8_odds_90 (lv_at hl 2 rfl) ?_
              refine lv_iload_n hx hb dX8_odds_92 rfl (lv_at hl 8 rfl) ?_
              refine va_calll (va_runS (As := [.long x89, .long 10000, .int a3]) (rest := []) ⟨hx, hb, hml, hown, hts⟩ (c_X8_lowest l dC dI H.size x89 10000 a3 (by decide)) (va_cwS 3 hts gX8_odds_X8_lowest rfl rfl rfl zd_X8_lowest.2 ⟨Nat.le_of_ble_eq_true rfl, Nat.le_of_ble_eq_true rfl⟩) ⟨ax_blind (fun _ _ _ _ _ => trivial), ax_pre (zp_P0 hP) (zp_K hK) (zp_D0 hD) (fun _ _ => trivial)⟩ rfl rfl hl.1 rfl (lv_room (Nat.le_of_ble_eq_true rfl)) dX8_odds_93 ⟨Nat.le_of_ble_eq_true rfl, Nat.le_of_ble_eq_true rfl⟩) hS (fun q _ h => zp_F0 hD hS hA q h) (zp_F0 hD hS hA) (fun r93 u t H locs ht hvm hw hB hz1 hk1 hS1 => zo0 hB ht hP hD hk1 (zp_F0 hD hS hA) hS1 (fun hP hK1 hD hS => ?_))
              exact W.lret (v := r93) hx hb hr (fun t ht hW => ⟨⟨r93, (), rfl, trivial, v1na0_0, v1na0_11, v38na0_30, v38na0_31, v38nfa0_29, bv38nfa0_29, by rw [ht]; exact hP, va_K.moved hW.alike hK, hD⟩, hS.F ht⟩) hS.2.2 dX8_odds_96
            · have gc56 := ai_nle c56
              have l56f_r38 : (3 : Int) ≤ r38.toInt := ai_ltlo gc56 zq12
              refine lv_lload hx hb dX8_odds_59 (lv_at hl 2 rfl) ?_
              refine lv_ldc2 (v := 100) hx hb hown (hts (.constantLong RX8 368 (100)) (zm_X8_odds_r1 (List.mem_of_getElem? (i := 0) rfl))) dX8_odds_61 ?_
              refine lv_lmul hx hb dX8_odds_64 ?_
              refine ax_tv (.long 1000000) (by decide +kernel) ?_
              refine lv_lstore (lv' := [(6, .long 1000000), (10, .int 2), (8, .long x76v2), (5, .int r38), (4, .int 0), (0, .ref a0), (1, .int a1), (2, .int a2), (3, .int a3)]) hx hb dX8_odds_65 hl (by decide) rfl (fun ls hl => ?_)
              refine lv_lload hx hb dX8_odds_67 (lv_at hl 2 rfl) ?_
              refine lv_aload_n hx hb dX8_odds_69 rfl (lv_at hl 5 rfl) ?_
              refine va_get (D := (dC, dI)) (ci := 8) (v := .ref a0_15) (C := RX8) (T := TX8) (N := 40) hx hb hts zi_X8_odds_8 hown hK hP 0 rfl rfl 15 (by decide) (hts (.fieldLink RX8 20 "WaxTurnsModel" "\x72" "[I") (zm_X8_odds_r1 (List.mem_of_getElem? (i := 1) rfl))) (fun _ h9 => h9) rfl dX8_odds_70 ?_
              refine lv_iconst (v := 3) hx hb dX8_odds_73 zk_iconst_3 ?_
              refine va_iald hx hb hK hP 1 0 rfl rfl (by unfold vp_in; decide +kernel) dX8_odds_74 ?_
              refine ax_ti x74 ex74.symm ?_
              obtain ⟨x75v3, ex75v3⟩ : ∃ y : Int64, y = (x74 : Int32).toInt64 := ⟨_, rfl⟩
              refine lv_i2l (v := x75v3) hx hb dX8_odds_75 ex75v3.symm ?_
              refine lv_lmul hx hb dX8_odds_76 ?_
              refine lv_topl (fun x76v3 ex76v3 => ?_)
              refine lv_lstore (lv' := [(8, .long x76v3), (6, .long 1000000), (10, .int 2), (5, .int r38), (4, .int 0), (0, .ref a0), (1, .int a1), (2, .int a2), (3, .int a3)]) hx hb dX8_odds_77 hl (by decide) rfl (fun ls hl => ?_)
              refine lv_iinc (v := 3) (lv' := [(10, .int 3), (8, .long x76v3), (6, .long 1000000), (5, .int r38), (4, .int 0), (0, .ref a0), (1, .int a1), (2, .int a2), (3, .int a3)]) hx hb dX8_odds_79 hl (k := 2) rfl (by decide +kernel) (by decide) rfl (fun ls hl => ?_)
              refine lv_goto (tgt := 52) hx hb dX8_odds_82 (by decide) ?_
              refine lv_iload hx hb dX8_odds_52 (lv_at hl 0 rfl) ?_
              refine lv_iload hx hb dX8_odds_54 (lv_at hl 3 rfl) ?_
              refine lv_icmp_ge (tgt := 85) hx hb dX8_odds_56 (by decide) (fun c56 => ?_) (fun c56 => ?_)
              · have gc56 := ai_le c56
                have u56t_r38 : r38.toInt ≤ (3 : Int) := Int.le_trans gc56 zq9
                refine lv_lload hx hb dX8_odds_85 (lv_at hl 2 rfl) ?_
                refine lv_lload hx hb dX8_odds_87 (lv_at hl 1 rfl) ?_
                refine lv_lsub hx hb dX8_odds_89 ?_
                refine lv_topl (fun x89 ex89 => ?_)
                refine lv_lload hx hb dX8_odds_90 (lv_at hl 2 rfl) ?_
                refine lv_iload_n hx hb dX8_odds_92 rfl (lv_at hl 8 rfl) ?_
                refine va_calll (va_runS (As := [.long x89, .long 1000000, .int a3]) (rest := []) ⟨hx, hb, hml, hown, hts⟩ (c_X8_lowest l dC dI H.size x89 1000000 a3 (by decide)) (va_cwS 3 hts gX8_odds_X8_lowest rfl rfl rfl zd_X8_lowest.2 ⟨Nat.le_of_ble_eq_true rfl, Nat.le_of_ble_eq_true rfl⟩) ⟨ax_blind (fun _ _ _ _ _ => trivial), ax_pre (zp_P0 hP) (zp_K hK) (zp_D0 hD) (fun _ _ => trivial)⟩ rfl rfl hl.1 rfl (lv_room (Nat.le_of_ble_eq_true rfl)) dX8_odds_93 ⟨Nat.le_of_ble_eq_true rfl, Nat.le_of_ble_eq_true rfl⟩) hS (fun q _ h => zp_F0 hD hS hA q h) (zp_F0 hD hS hA) (fun r93 u t H locs ht hvm hw hB hz1 hk1 hS1 => zo0 hB ht hP hD hk1 (zp_F0 hD hS hA) hS1 (fun hP hK1 hD hS => ?_))
                exact W.lret (v := r93) hx hb hr (fun t ht hW => ⟨⟨r93, (), rfl, trivial, v1na0_0, v1na0_11, v38na0_30, v38na0_31, v38nfa0_29, bv38nfa0_29, by rw [ht]; exact hP, va_K.moved hW.alike hK, hD⟩, hS.F ht⟩) hS.2.2 dX8_odds_96
              · have gc56 := ai_nle c56
                have l56f_r38 : (4 : Int) ≤ r38.toInt := ai_ltlo gc56 zq8
                refine lv_lload hx hb dX8_odds_59 (lv_at hl 2 rfl) ?_
                refine lv_ldc2 (v := 100) hx hb hown (hts (.constantLong RX8 368 (100)) (zm_X8_odds_r1 (List.mem_of_getElem? (i := 0) rfl))) dX8_odds_61 ?_
                refine lv_lmul hx hb dX8_odds_64 ?_
                refine ax_tv (.long 100000000) (by decide +kernel) ?_
                refine lv_lstore (lv' := [(6, .long 100000000), (10, .int 3), (8, .long x76v3), (5, .int r38), (4, .int 0), (0, .ref a0), (1, .int a1), (2, .int a2), (3, .int a3)]) hx hb dX8_odds_65 hl (by decide) rfl (fun ls hl => ?_)
                refine lv_lload hx hb dX8_odds_67 (lv_at hl 2 rfl) ?_
                refine lv_aload_n hx hb dX8_odds_69 rfl (lv_at hl 5 rfl) ?_
                refine va_get (D := (dC, dI)) (ci := 8) (v := .ref a0_15) (C := RX8) (T := TX8) (N := 40) hx hb hts zi_X8_odds_8 hown hK hP 0 rfl rfl 15 (by decide) (hts (.fieldLink RX8 20 "WaxTurnsModel" "\x72" "[I") (zm_X8_odds_r1 (List.mem_of_getElem? (i := 1) rfl))) (fun _ h9 => h9) rfl dX8_odds_70 ?_
                refine lv_iconst (v := 3) hx hb dX8_odds_73 zk_iconst_3 ?_
                refine va_iald hx hb hK hP 1 0 rfl rfl (by unfold vp_in; decide +kernel) dX8_odds_74 ?_
                refine ax_ti x74 ex74.symm ?_
                obtain ⟨x75v4, ex75v4⟩ : ∃ y : Int64, y = (x74 : Int32).toInt64 := ⟨_, rfl⟩
                refine lv_i2l (v := x75v4) hx hb dX8_odds_75 ex75v4.symm ?_
                refine lv_lmul hx hb dX8_odds_76 ?_
                refine lv_topl (fun x76v4 ex76v4 => ?_)
                refine lv_lstore (lv' := [(8, .long x76v4), (6, .long 100000000), (10, .int 3), (5, .int r38), (4, .int 0), (0, .ref a0), (1, .int a1), (2, .int a2), (3, .int a3)]) hx hb dX8_odds_77 hl (by decide) rfl (fun ls hl => ?_)
                refine lv_iinc (v := 4) (lv' := [(10, .int 4), (8, .long x76v4), (6, .long 100000000), (5, .int r38), (4, .int 0), (0, .ref a0), (1, .int a1), (2, .int a2), (3, .int a3)]) hx hb dX8_odds_79 hl (k := 2) rfl (by decide +kernel) (by decide) rfl (fun ls hl => ?_)
                refine lv_goto (tgt := 52) hx hb dX8_odds_82 (by decide) ?_
                refine lv_iload hx hb dX8_odds_52 (lv_at hl 0 rfl) ?_
                refine lv_iload hx hb dX8_odds_54 (lv_at hl 3 rfl) ?_
                refine lv_icmp_ge (tgt := 85) hx hb dX8_odds_56 (by decide) (fun c56 => ?_) (fun c56 => ?_)
                · have gc56 := ai_le c56
                  have u56t_r38 : r38.toInt ≤ (4 : Int) := Int.le_trans gc56 zq67
                  refine lv_lload hx hb dX8_odds_85 (lv_at hl 2 rfl) ?_
                  refine lv_lload hx hb dX8_odds_87 (lv_at hl 1 rfl) ?_
                  refine lv_lsub hx hb dX8_odds_89 ?_
                  refine lv_topl (fun x89 ex89 => ?_)
                  refine lv_lload hx hb dX8_odds_90 (lv_at hl 2 rfl) ?_
                  refine lv_iload_n hx hb dX8_odds_92 rfl (lv_at hl 8 rfl) ?_
                  refine va_calll (va_runS (As := [.long x89, .long 100000000, .int a3]) (rest := []) ⟨hx, hb, hml, hown, hts⟩ (c_X8_lowest l dC dI H.size x89 100000000 a3 (by decide)) (va_cwS 3 hts gX8_odds_X8_lowest rfl rfl rfl zd_X8_lowest.2 ⟨Nat.le_of_ble_eq_true rfl, Nat.le_of_ble_eq_true rfl⟩) ⟨ax_blind (fun _ _ _ _ _ => trivial), ax_pre (zp_P0 hP) (zp_K hK) (zp_D0 hD) (fun _ _ => trivial)⟩ rfl rfl hl.1 rfl (lv_room (Nat.le_of_ble_eq_true rfl)) dX8_odds_93 ⟨Nat.le_of_ble_eq_true rfl, Nat.le_of_ble_eq_true rfl⟩) hS (fun q _ h => zp_F0 hD hS hA q h) (zp_F0 hD hS hA) (fun r93 u t H locs ht hvm hw hB hz1 hk1 hS1 => zo0 hB ht hP hD hk1 (zp_F0 hD hS hA) hS1 (fun hP hK1 hD hS => ?_))
                  exact W.lret (v := r93) hx hb hr (fun t ht hW => ⟨⟨r93, (), rfl, trivial, v1na0_0, v1na0_11, v38na0_30, v38na0_31, v38nfa0_29, bv38nfa0_29, by rw [ht]; exact hP, va_K.moved hW.alike hK, hD⟩, hS.F ht⟩) hS.2.2 dX8_odds_96
                · have gc56 := ai_nle c56
                  have l56f_r38 : (5 : Int) ≤ r38.toInt := ai_ltlo gc56 zq68
                  refine lv_lload hx hb dX8_odds_59 (lv_at hl 2 rfl) ?_
                  refine lv_ldc2 (v := 100) hx hb hown (hts (.constantLong RX8 368 (100)) (zm_X8_odds_r1 (List.mem_of_getElem? (i := 0) rfl))) dX8_odds_61 ?_
                  refine lv_lmul hx hb dX8_odds_64 ?_
                  refine ax_tv (.long 10000000000) (by decide +kernel) ?_
                  refine lv_lstore (lv' := [(6, .long 10000000000), (10, .int 4), (8, .long x76v4), (5, .int r38), (4, .int 0), (0, .ref a0), (1, .int a1), (2, .int a2), (3, .int a3)]) hx hb dX8_odds_65 hl (by decide) rfl (fun ls hl => ?_)
                  refine lv_lload hx hb dX8_odds_67 (lv_at hl 2 rfl) ?_
                  refine lv_aload_n hx hb dX8_odds_69 rfl (lv_at hl 5 rfl) ?_
                  refine va_get (D := (dC, dI)) (ci := 8) (v := .ref a0_15) (C := RX8) (T := TX8) (N := 40) hx hb hts zi_X8_odds_8 hown hK hP 0 rfl rfl 15 (by decide) (hts (.fieldLink RX8 20 "WaxTurnsModel" "\x72" "[I") (zm_X8_odds_r1 (List.mem_of_getElem? (i := 1) rfl))) (fun _ h9 => h9) rfl dX8_odds_70 ?_
                  refine lv_iconst (v := 3) hx hb dX8_odds_73 zk_iconst_3 ?_
                  refine va_iald hx hb hK hP 1 0 rfl rfl (by unfold vp_in; decide +kernel) dX8_odds_74 ?_
                  refine ax_ti x74 ex74.symm ?_
                  obtain ⟨x75v5, ex75v5⟩ : ∃ y : Int64, y = (x74 : Int32).toInt64 := ⟨_, rfl⟩
                  refine lv_i2l (v := x75v5) hx hb dX8_odds_75 ex75v5.symm ?_
                  refine lv_lmul hx hb dX8_odds_76 ?_
                  refine lv_topl (fun x76v5 ex76v5 => ?_)
                  refine lv_lstore (lv' := [(8, .long x76v5), (6, .long 10000000000), (10, .int 4), (5, .int r38), (4, .int 0), (0, .ref a0), (1, .int a1), (2, .int a2), (3, .int a3)]) hx hb dX8_odds_77 hl (by decide) rfl (fun ls hl => ?_)
                  refine lv_iinc (v := 5) (lv' := [(10, .int 5), (8, .long x76v5), (6, .long 10000000000), (5, .int r38), (4, .int 0), (0, .ref a0), (1, .int a1), (2, .int a2), (3, .int a3)]) hx hb dX8_odds_79 hl (k := 2) rfl (by decide +kernel) (by decide) rfl (fun ls hl => ?_)
                  refine lv_goto (tgt := 52) hx hb dX8_odds_82 (by decide) ?_
                  refine lv_iload hx hb dX8_odds_52 (lv_at hl 0 rfl) ?_
                  refine lv_iload hx hb dX8_odds_54 (lv_at hl 3 rfl) ?_
                  refine lv_icmp_ge (tgt := 85) hx hb dX8_odds_56 (by decide) (fun c56 => ?_) (fun c56 => ?_)
                  · have gc56 := ai_le c56
                    have u56t_r38 : r38.toInt ≤ (5 : Int) := Int.le_trans gc56 zq113
                    refine lv_lload hx hb dX8_odds_85 (lv_at hl 2 rfl) ?_
                    refine lv_lload hx hb dX8_odds_87 (lv_at hl 1 rfl) ?_
                    refine lv_lsub hx hb dX8_odds_89 ?_
                    refine lv_topl (fun x89 ex89 => ?_)
                    refine lv_lload hx hb dX8_odds_90 (lv_at hl 2 rfl) ?_
                    refine lv_iload_n hx hb dX8_odds_92 rfl (lv_at hl 8 rfl) ?_
                    refine va_calll (va_runS (As := [.long x89, .long 10000000000, .int a3]) (rest := []) ⟨hx, hb, hml, hown, hts⟩ (c_X8_lowest l dC dI H.size x89 10000000000 a3 (by decide)) (va_cwS 3 hts gX8_odds_X8_lowest rfl rfl rfl zd_X8_lowest.2 ⟨Nat.le_of_ble_eq_true rfl, Nat.le_of_ble_eq_true rfl⟩) ⟨ax_blind (fun _ _ _ _ _ => trivial), ax_pre (zp_P0 hP) (zp_K hK) (zp_D0 hD) (fun _ _ => trivial)⟩ rfl rfl hl.1 rfl (lv_room (Nat.le_of_ble_eq_true rfl)) dX8_odds_93 ⟨Nat.le_of_ble_eq_true rfl, Nat.le_of_ble_eq_true rfl⟩) hS (fun q _ h => zp_F0 hD hS hA q h) (zp_F0 hD hS hA) (fun r93 u t H locs ht hvm hw hB hz1 hk1 hS1 => zo0 hB ht hP hD hk1 (zp_F0 hD hS hA) hS1 (fun hP hK1 hD hS => ?_))
                    exact W.lret (v := r93) hx hb hr (fun t ht hW => ⟨⟨r93, (), rfl, trivial, v1na0_0, v1na0_11, v38na0_30, v38na0_31, v38nfa0_29, bv38nfa0_29, by rw [ht]; exact hP, va_K.moved hW.alike hK, hD⟩, hS.F ht⟩) hS.2.2 dX8_odds_96
                  · have gc56 := ai_nle c56
                    have l56f_r38 : (6 : Int) ≤ r38.toInt := ai_ltlo gc56 zq112
                    refine lv_lload hx hb dX8_odds_59 (lv_at hl 2 rfl) ?_
                    refine lv_ldc2 (v := 100) hx hb hown (hts (.constantLong RX8 368 (100)) (zm_X8_odds_r1 (List.mem_of_getElem? (i := 0) rfl))) dX8_odds_61 ?_
                    refine lv_lmul hx hb dX8_odds_64 ?_
                    refine ax_tv (.long 1000000000000) (by decide +kernel) ?_
                    refine lv_lstore (lv' := [(6, .long 1000000000000), (10, .int 5), (8, .long x76v5), (5, .int r38), (4, .int 0), (0, .ref a0), (1, .int a1), (2, .int a2), (3, .int a3)]) hx hb dX8_odds_65 hl (by decide) rfl (fun ls hl => ?_)
                    refine lv_lload hx hb dX8_odds_67 (lv_at hl 2 rfl) ?_
                    refine lv_aload_n hx hb dX8_odds_69 rfl (lv_at hl 5 rfl) ?_
                    refine va_get (D := (dC, dI)) (ci := 8) (v := .ref a0_15) (C := RX8) (T := TX8) (N := 40) hx hb hts zi_X8_odds_8 hown hK hP 0 rfl rfl 15 (by decide) (hts (.fieldLink RX8 20 "WaxTurnsModel" "\x72" "[I") (zm_X8_odds_r1 (List.mem_of_getElem? (i := 1) rfl))) (fun _ h9 => h9) rfl dX8_odds_70 ?_
                    refine lv_iconst (v := 3) hx hb dX8_odds_73 zk_iconst_3 ?_
                    refine va_iald hx hb hK hP 1 0 rfl rfl (by unfold vp_in; decide +kernel) dX8_odds_74 ?_
                    refine ax_ti x74 ex74.symm ?_
                    obtain ⟨x75v6, ex75v6⟩ : ∃ y : Int64, y = (x74 : Int32).toInt64 := ⟨_, rfl⟩
                    refine lv_i2l (v := x75v6) hx hb dX8_odds_75 ex75v6.symm ?_
                    refine lv_lmul hx hb dX8_odds_76 ?_
                    refine lv_topl (fun x76v6 ex76v6 => ?_)
                    refine lv_lstore (lv' := [(8, .long x76v6), (6, .long 1000000000000), (10, .int 5), (5, .int r38), (4, .int 0), (0, .ref a0), (1, .int a1), (2, .int a2), (3, .int a3)]) hx hb dX8_odds_77 hl (by decide) rfl (fun ls hl => ?_)
                    refine lv_iinc (v := 6) (lv' := [(10, .int 6), (8, .long x76v6), (6, .long 1000000000000), (5, .int r38), (4, .int 0), (0, .ref a0), (1, .int a1), (2, .int a2), (3, .int a3)]) hx hb dX8_odds_79 hl (k := 2) rfl (by decide +kernel) (by decide) rfl (fun ls hl => ?_)
                    refine lv_goto (tgt := 52) hx hb dX8_odds_82 (by decide) ?_
                    refine lv_iload hx hb dX8_odds_52 (lv_at hl 0 rfl) ?_
                    refine lv_iload hx hb dX8_odds_54 (lv_at hl 3 rfl) ?_
                    refine lv_icmp_ge (tgt := 85) hx hb dX8_odds_56 (by decide) (fun c56 => ?_) (fun c56 => ?_)
                    · have gc56 := ai_le c56
                      have u56t_r38 : r38.toInt ≤ (6 : Int) := Int.le_trans gc56 zq16
                      refine lv_lload hx hb dX8_odds_85 (lv_at hl 2 rfl) ?_
                      refine lv_lload hx hb dX8_odds_87 (lv_at hl 1 rfl) ?_
                      refine lv_lsub hx hb dX8_odds_89 ?_
                      refine lv_topl (fun x89 ex89 => ?_)
                      refine lv_lload hx hb dX8_odds_90 (lv_at hl 2 rfl) ?_
                      refine lv_iload_n hx hb dX8_odds_92 rfl (lv_at hl 8 rfl) ?_
                      refine va_calll (va_runS (As := [.long x89, .long 1000000000000, .int a3]) (rest := []) ⟨hx, hb, hml, hown, hts⟩ (c_X8_lowest l dC dI H.size x89 1000000000000 a3 (by decide)) (va_cwS 3 hts gX8_odds_X8_lowest rfl rfl rfl zd_X8_lowest.2 ⟨Nat.le_of_ble_eq_true rfl, Nat.le_of_ble_eq_true rfl⟩) ⟨ax_blind (fun _ _ _ _ _ => trivial), ax_pre (zp_P0 hP) (zp_K hK) (zp_D0 hD) (fun _ _ => trivial)⟩ rfl rfl hl.1 rfl (lv_room (Nat.le_of_ble_eq_true rfl)) dX8_odds_93 ⟨Nat.le_of_ble_eq_true rfl, Nat.le_of_ble_eq_true rfl⟩) hS (fun q _ h => zp_F0 hD hS hA q h) (zp_F0 hD hS hA) (fun r93 u t H locs ht hvm hw hB hz1 hk1 hS1 => zo0 hB ht hP hD hk1 (zp_F0 hD hS hA) hS1 (fun hP hK1 hD hS => ?_))
                      exact W.lret (v := r93) hx hb hr (fun t ht hW => ⟨⟨r93, (), rfl, trivial, v1na0_0, v1na0_11, v38na0_30, v38na0_31, v38nfa0_29, bv38nfa0_29, by rw [ht]; exact hP, va_K.moved hW.alike hK, hD⟩, hS.F ht⟩) hS.2.2 dX8_odds_96
                    · have gc56 := ai_nle c56
                      have l56f_r38 : (7 : Int) ≤ r38.toInt := ai_ltlo gc56 zq15
                      refine lv_lload hx hb dX8_odds_59 (lv_at hl 2 rfl) ?_
                      refine lv_ldc2 (v := 100) hx hb hown (hts (.constantLong RX8 368 (100)) (zm_X8_odds_r1 (List.mem_of_getElem? (i := 0) rfl))) dX8_odds_61 ?_
                      refine lv_lmul hx hb dX8_odds_64 ?_
                      refine ax_tv (.long 100000000000000) (by decide +kernel) ?_
                      refine lv_lstore (lv' := [(6, .long 100000000000000), (10, .int 6), (8, .long x76v6), (5, .int r38), (4, .int 0), (0, .ref a0), (1, .int a1), (2, .int a2), (3, .int a3)]) hx hb dX8_odds_65 hl (by decide) rfl (fun ls hl => ?_)
                      refine lv_lload hx hb dX8_odds_67 (lv_at hl 2 rfl) ?_
                      refine lv_aload_n hx hb dX8_odds_69 rfl (lv_at hl 5 rfl) ?_
                      refine va_get (D := (dC, dI)) (ci := 8) (v := .ref a0_15) (C := RX8) (T := TX8) (N := 40) hx hb hts zi_X8_odds_8 hown hK hP 0 rfl rfl 15 (by decide) (hts (.fieldLink RX8 20 "WaxTurnsModel" "\x72" "[I") (zm_X8_odds_r1 (List.mem_of_getElem? (i := 1) rfl))) (fun _ h9 => h9) rfl dX8_odds_70 ?_
                      refine lv_iconst (v := 3) hx hb dX8_odds_73 zk_iconst_3 ?_
                      refine va_iald hx hb hK hP 1 0 rfl rfl (by unfold vp_in; decide +kernel) dX8_odds_74 ?_
                      refine ax_ti x74 ex74.symm ?_
                      obtain ⟨x75v7, ex75v7⟩ : ∃ y : Int64, y = (x74 : Int32).toInt64 := ⟨_, rfl⟩
                      refine lv_i2l (v := x75v7) hx hb dX8_odds_75 ex75v7.symm ?_
                      refine lv_lmul hx hb dX8_odds_76 ?_
                      refine lv_topl (fun x76v7 ex76v7 => ?_)
                      refine lv_lstore (lv' := [(8, .long x76v7), (6, .long 100000000000000), (10, .int 6), (5, .int r38), (4, .int 0), (0, .ref a0), (1, .int a1), (2, .int a2), (3, .int a3)]) hx hb dX8_odds_77 hl (by decide) rfl (fun ls hl => ?_)
                      refine lv_iinc (v := 7) (lv' := [(10, .int 7), (8, .long x76v7), (6, .long 100000000000000), (5, .int r38), (4, .int 0), (0, .ref a0), (1, .int a1), (2, .int a2), (3, .int a3)]) hx hb dX8_odds_79 hl (k := 2) rfl (by decide +kernel) (by decide) rfl (fun ls hl => ?_)
                      refine lv_goto (tgt := 52) hx hb dX8_odds_82 (by decide) ?_
                      refine lv_iload hx hb dX8_odds_52 (lv_at hl 0 rfl) ?_
                      refine lv_iload hx hb dX8_odds_54 (lv_at hl 3 rfl) ?_
                      refine lv_icmp_ge (tgt := 85) hx hb dX8_odds_56 (by decide) (fun c56 => ?_) (fun c56 => ?_)
                      · have gc56 := ai_le c56
                        have u56t_r38 : r38.toInt ≤ (7 : Int) := Int.le_trans gc56 zq115
                        refine lv_lload hx hb dX8_odds_85 (lv_at hl 2 rfl) ?_
                        refine lv_lload hx hb dX8_odds_87 (lv_at hl 1 rfl) ?_
                        refine lv_lsub hx hb dX8_odds_89 ?_
                        refine lv_topl (fun x89 ex89 => ?_)
                        refine lv_lload hx hb dX8_odds_90 (lv_at hl 2 rfl) ?_
                        refine lv_iload_n hx hb dX8_odds_92 rfl (lv_at hl 8 rfl) ?_
                        refine va_calll (va_runS (As := [.long x89, .long 100000000000000, .int a3]) (rest := []) ⟨hx, hb, hml, hown, hts⟩ (c_X8_lowest l dC dI H.size x89 100000000000000 a3 (by decide)) (va_cwS 3 hts gX8_odds_X8_lowest rfl rfl rfl zd_X8_lowest.2 ⟨Nat.le_of_ble_eq_true rfl, Nat.le_of_ble_eq_true rfl⟩) ⟨ax_blind (fun _ _ _ _ _ => trivial), ax_pre (zp_P0 hP) (zp_K hK) (zp_D0 hD) (fun _ _ => trivial)⟩ rfl rfl hl.1 rfl (lv_room (Nat.le_of_ble_eq_true rfl)) dX8_odds_93 ⟨Nat.le_of_ble_eq_true rfl, Nat.le_of_ble_eq_true rfl⟩) hS (fun q _ h => zp_F0 hD hS hA q h) (zp_F0 hD hS hA) (fun r93 u t H locs ht hvm hw hB hz1 hk1 hS1 => zo0 hB ht hP hD hk1 (zp_F0 hD hS hA) hS1 (fun hP hK1 hD hS => ?_))
                        exact W.lret (v := r93) hx hb hr (fun t ht hW => ⟨⟨r93, (), rfl, trivial, v1na0_0, v1na0_11, v38na0_30, v38na0_31, v38nfa0_29, bv38nfa0_29, by rw [ht]; exact hP, va_K.moved hW.alike hK, hD⟩, hS.F ht⟩) hS.2.2 dX8_odds_96
                      · have gc56 := ai_nle c56
                        have l56f_r38 : (8 : Int) ≤ r38.toInt := ai_ltlo gc56 zq114
                        refine lv_lload hx hb dX8_odds_59 (lv_at hl 2 rfl) ?_
                        refine lv_ldc2 (v := 100) hx hb hown (hts (.constantLong RX8 368 (100)) (zm_X8_odds_r1 (List.mem_of_getElem? (i := 0) rfl))) dX8_odds_61 ?_
                        refine lv_lmul hx hb dX8_odds_64 ?_
                        refine ax_tv (.long 10000000000000000) (by decide +kernel) ?_
                        refine lv_lstore (lv' := [(6, .long 10000000000000000), (10, .int 7), (8, .long x76v7), (5, .int r38), (4, .int 0), (0, .ref a0), (1, .int a1), (2, .int a2), (3, .int a3)]) hx hb dX8_odds_65 hl (by decide) rfl (fun ls hl => ?_)
                        refine lv_lload hx hb dX8_odds_67 (lv_at hl 2 rfl) ?_
                        refine lv_aload_n hx hb dX8_odds_69 rfl (lv_at hl 5 rfl) ?_
                        refine va_get (D := (dC, dI)) (ci := 8) (v := .ref a0_15) (C := RX8) (T := TX8) (N := 40) hx hb hts zi_X8_odds_8 hown hK hP 0 rfl rfl 15 (by decide) (hts (.fieldLink RX8 20 "WaxTurnsModel" "\x72" "[I") (zm_X8_odds_r1 (List.mem_of_getElem? (i := 1) rfl))) (fun _ h9 => h9) rfl dX8_odds_70 ?_
                        refine lv_iconst (v := 3) hx hb dX8_odds_73 zk_iconst_3 ?_
                        refine va_iald hx hb hK hP 1 0 rfl rfl (by unfold vp_in; decide +kernel) dX8_odds_74 ?_
                        refine ax_ti x74 ex74.symm ?_
                        obtain ⟨x75v8, ex75v8⟩ : ∃ y : Int64, y = (x74 : Int32).toInt64 := ⟨_, rfl⟩
                        refine lv_i2l (v := x75v8) hx hb dX8_odds_75 ex75v8.symm ?_
                        refine lv_lmul hx hb dX8_odds_76 ?_
                        refine lv_topl (fun x76v8 ex76v8 => ?_)
                        refine lv_lstore (lv' := [(8, .long x76v8), (6, .long 10000000000000000), (10, .int 7), (5, .int r38), (4, .int 0), (0, .ref a0), (1, .int a1), (2, .int a2), (3, .int a3)]) hx hb dX8_odds_77 hl (by decide) rfl (fun ls hl => ?_)
                        refine lv_iinc (v := 8) (lv' := [(10, .int 8), (8, .long x76v8), (6, .long 10000000000000000), (5, .int r38), (4, .int 0), (0, .ref a0), (1, .int a1), (2, .int a2), (3, .int a3)]) hx hb dX8_odds_79 hl (k := 2) rfl (by decide +kernel) (by decide) rfl (fun ls hl => ?_)
                        refine lv_goto (tgt := 52) hx hb dX8_odds_82 (by decide) ?_
                        refine lv_iload hx hb dX8_odds_52 (lv_at hl 0 rfl) ?_
                        refine lv_iload hx hb dX8_odds_54 (lv_at hl 3 rfl) ?_
                        refine lv_icmp_ge (tgt := 85) hx hb dX8_odds_56 (by decide) (fun c56 => ?_) (fun c56 => ?_)
                        · have gc56 := ai_le c56
                          have u56t_r38 : r38.toInt ≤ (8 : Int) := h38_1
                          refine lv_lload hx hb dX8_odds_85 (lv_at hl 2 rfl) ?_
                          refine lv_lload hx hb dX8_odds_87 (lv_at hl 1 rfl) ?_
                          refine lv_lsub hx hb dX8_odds_89 ?_
                          refine lv_topl (fun x89 ex89 => ?_)
                          refine lv_lload hx hb dX8_odds_90 (lv_at hl 2 rfl) ?_
                          refine lv_iload_n hx hb dX8_odds_92 rfl (lv_at hl 8 rfl) ?_
                          refine va_calll (va_runS (As := [.long x89, .long 10000000000000000, .int a3]) (rest := []) ⟨hx, hb, hml, hown, hts⟩ (c_X8_lowest l dC dI H.size x89 10000000000000000 a3 (by decide)) (va_cwS 3 hts gX8_odds_X8_lowest rfl rfl rfl zd_X8_lowest.2 ⟨Nat.le_of_ble_eq_true rfl, Nat.le_of_ble_eq_true rfl⟩) ⟨ax_blind (fun _ _ _ _ _ => trivial), ax_pre (zp_P0 hP) (zp_K hK) (zp_D0 hD) (fun _ _ => trivial)⟩ rfl rfl hl.1 rfl (lv_room (Nat.le_of_ble_eq_true rfl)) dX8_odds_93 ⟨Nat.le_of_ble_eq_true rfl, Nat.le_of_ble_eq_true rfl⟩) hS (fun q _ h => zp_F0 hD hS hA q h) (zp_F0 hD hS hA) (fun r93 u t H locs ht hvm hw hB hz1 hk1 hS1 => zo0 hB ht hP hD hk1 (zp_F0 hD hS hA) hS1 (fun hP hK1 hD hS => ?_))
                          exact W.lret (v := r93) hx hb hr (fun t ht hW => ⟨⟨r93, (), rfl, trivial, v1na0_0, v1na0_11, v38na0_30, v38na0_31, v38nfa0_29, bv38nfa0_29, by rw [ht]; exact hP, va_K.moved hW.alike hK, hD⟩, hS.F ht⟩) hS.2.2 dX8_odds_96
                        · have gc56 := ai_nle c56
                          have l56f_r38 : (9 : Int) ≤ r38.toInt := ai_ltlo gc56 zq116
                          exact absurd (Int.le_trans l56f_r38 h38_1) (by decide)
    · obtain ⟨hw, h14⟩ := hw
      subst hw
      refine va_calli (va_runV (As := [.int 1, .int 0]) (rest := []) ⟨hx, hb, hml, hown, hts⟩ (c_X8_whyB l dC dI H.size a0 1 0 (Value.int v1na0_0) a0g_1 a0g_2 a0g_3 a0g_4 a0g_5 a0g_6 a0g_7 a0g_8 a0g_9 a0g_10 (Value.int v1na0_11) a0g_12 a0g_13 (Value.int a0_14) (Value.ref a0_15) a0g_16 (Value.ref a0_17) a0g_18 a0g_19 a0g_20 a0g_21 a0g_22 a0g_23 a0g_24 a0g_25 a0g_26 a0g_27 a0g_28 (Value.ref a0_29) (Value.int a0_30) (Value.int a0_31) a0g_32 a0g_33 a0g_34 a0g_35 a0g_36 a0g_37 a0g_38 a0g_39 (Int.le_trans zq4 zq1) zq0 zq5 (Int.le_trans zq6 zq4)) (cwV 2 hts gX8_odds_X8_why rfl rfl rfl zd_X8_why ⟨Nat.le_of_ble_eq_true rfl, Nat.le_of_ble_eq_true rfl⟩) ⟨ax_blind (fun _ _ _ _ _ => trivial), zr_8 (zp_K hK) (zp_P1 hP) (q0 := 0) rfl, ax_pre (zp_P1 hP) (zp_K hK) (zp_D1 hD) (fun _ _ => trivial)⟩ rfl rfl hl.1 rfl (lv_room (Nat.le_of_ble_eq_true rfl)) dX8_odds_17 ⟨Nat.le_of_ble_eq_true rfl, Nat.le_of_ble_eq_true rfl⟩) hS (fun q _ h => zp_F1 hD hS hA q h) (zp_F1 hD hS hA) (fun r17 u t H locs ht hvm hw hB hz1 hk1 hS1 => zo1 hB ht hP hD hk1 (zp_F1 hD hS hA) hS1 (fun hP hK1 hD hS => ?_))
      rcases hw with hw | hw | hw
      · obtain ⟨hw, h17_0, h17_1, h17_2, h17_3⟩ := hw
        subst hw
        refine lv_istore (lv' := [(4, .int 2), (0, .ref a0), (1, .int a1), (2, .int a2), (3, .int a3)]) hx hb dX8_odds_20 hl (by decide) rfl (fun ls hl => ?_)
        refine lv_iload hx hb dX8_odds_22 (lv_at hl 0 rfl) ?_
        refine lv_if_eq (tgt := 35) hx hb dX8_odds_24 (by decide) (fun c24 => absurd c24 (by decide +kernel)) (fun _ => ?_)
        refine lv_aload_n hx hb dX8_odds_27 rfl (lv_at hl 1 rfl) ?_
        refine lv_iload hx hb dX8_odds_28 (lv_at hl 0 rfl) ?_
        refine va_calli (va_runV (As := [.int 2]) (rest := []) ⟨hx, hb, hml, hown, hts⟩ (c_X8_no l dC dI H.size a0 2 (Value.int v1na0_0) a0g_1 a0g_2 a0g_3 a0g_4 a0g_5 a0g_6 a0g_7 a0g_8 a0g_9 a0g_10 a0g_12 a0g_13 (Value.int a0_14) (Value.ref a0_15) a0g_16 (Value.ref a0_17) a0g_18 a0g_19 a0g_20 a0g_21 a0g_22 a0g_23 a0g_24 a0g_25 a0g_26 a0g_27 a0g_28 (Value.ref a0_29) (Value.int a0_30) (Value.int a0_31) a0g_32 a0g_33 a0g_34 a0g_35 a0g_36 a0g_37 a0g_38 a0g_39 v1na0_11 ) (cwV 1 hts gX8_odds_X8_no rfl rfl rfl zd_X8_no ⟨Nat.le_of_ble_eq_true rfl, Nat.le_of_ble_eq_true rfl⟩) ⟨ax_blind (fun _ _ _ _ _ => trivial), zr_8 (zp_K hK) (zp_P1 hP) (q0 := 0) rfl, ax_pre (zp_P1 hP) (zp_K hK) (zp_D1 hD) (fun _ _ => trivial)⟩ rfl rfl hl.1 rfl (lv_room (Nat.le_of_ble_eq_true rfl)) dX8_odds_30 ⟨Nat.le_of_ble_eq_true rfl, Nat.le_of_ble_eq_true rfl⟩) hS (fun q _ h => zp_F1 hD hS hA q h) (zp_F1 hD hS hA) (fun r30 u t H locs ht hvm hw hB hz1 hk1 hS1 => zx_1 hB (fun v30na0_11 hB => zo1 hB ht hP hD hk1 (zp_F1 hD hS hA) hS1 (fun hP hK1 hD hS => ?_)))
        have hw : r30 = (-1) := hw
        have hw := hw.symm
        subst hw
        obtain ⟨x33, ex33⟩ : ∃ y : Int64, y = ((-1) : Int32).toInt64 := ⟨_, rfl⟩
        refine lv_i2l (v := x33) hx hb dX8_odds_33 ex33.symm ?_
        exact W.lret (v := x33) hx hb hr (fun t ht hW => ⟨⟨x33, (), rfl, trivial, v1na0_0, v30na0_11, a0_30, a0_31, fa0_29, bfa0_29, by rw [ht]; exact hP, va_K.moved hW.alike hK, hD⟩, hS.F ht⟩) hS.2.2 dX8_odds_34
      · obtain ⟨hw, h17_0, h17_1⟩ := hw
        subst hw
        exact absurd h17_1 (by decide)
      · obtain ⟨hw, h17_0, h17_1, h17_2, h17_3⟩ := hw
        subst hw
        exact absurd h17_2 (by decide)
  · subst hw
    refine lv_iload_n hx hb dX8_odds_10 rfl (lv_at hl 2 rfl) ?_
    refine lv_iconst (v := 0) hx hb dX8_odds_11 zk_iconst_0 ?_
    refine lv_bipush (v := 8) hx hb dX8_odds_12 zk_bipush_8 ?_
    refine va_calli (va_runS (As := [.int a2, .int 0, .int 8]) (rest := [.int 0, .ref a0]) ⟨hx, hb, hml, hown, hts⟩ (c_X8_in l dC dI H.size a2 0 8 ) (va_cwS 3 hts gX8_odds_X8_in rfl rfl rfl zd_X8_in.2 ⟨Nat.le_of_ble_eq_true rfl, Nat.le_of_ble_eq_true rfl⟩) ⟨ax_blind (fun _ _ _ _ _ => trivial), ax_pre (zp_P0 hP) (zp_K hK) (zp_D0 hD) (fun _ _ => trivial)⟩ rfl rfl hl.1 rfl (lv_room (Nat.le_of_ble_eq_true rfl)) dX8_odds_14 ⟨Nat.le_of_ble_eq_true rfl, Nat.le_of_ble_eq_true rfl⟩) hS (fun q _ h => zp_F0 hD hS hA q h) (zp_F0 hD hS hA) (fun r14 u t H locs ht hvm hw hB hz1 hk1 hS1 => zo0 hB ht hP hD hk1 (zp_F0 hD hS hA) hS1 (fun hP hK1 hD hS => ?_))
    rcases hw with hw | hw
    · obtain ⟨hw, h14⟩ := hw
      subst hw
      have l14k0_a2 : (0 : Int) ≤ a2.toInt := Int.le_trans zq5 h14.1
      have u14k0_a2 : a2.toInt ≤ (8 : Int) := Int.le_trans h14.2 zq28
      refine va_calli (va_runV (As := [.int 0, .int 1]) (rest := []) ⟨hx, hb, hml, hown, hts⟩ (c_X8_whyB l dC dI H.size a0 0 1 (Value.int v1na0_0) a0g_1 a0g_2 a0g_3 a0g_4 a0g_5 a0g_6 a0g_7 a0g_8 a0g_9 a0g_10 (Value.int v1na0_11) a0g_12 a0g_13 (Value.int a0_14) (Value.ref a0_15) a0g_16 (Value.ref a0_17) a0g_18 a0g_19 a0g_20 a0g_21 a0g_22 a0g_23 a0g_24 a0g_25 a0g_26 a0g_27 a0g_28 (Value.ref a0_29) (Value.int a0_30) (Value.int a0_31) a0g_32 a0g_33 a0g_34 a0g_35 a0g_36 a0g_37 a0g_38 a0g_39 zq5 (Int.le_trans zq6 zq4) (Int.le_trans zq4 zq1) zq0) (cwV 2 hts gX8_odds_X8_why rfl rfl rfl zd_X8_why ⟨Nat.le_of_ble_eq_true rfl, Nat.le_of_ble_eq_true rfl⟩) ⟨ax_blind (fun _ _ _ _ _ => trivial), zr_8 (zp_K hK) (zp_P1 hP) (q0 := 0) rfl, ax_pre (zp_P1 hP) (zp_K hK) (zp_D1 hD) (fun _ _ => trivial)⟩ rfl rfl hl.1 rfl (lv_room (Nat.le_of_ble_eq_true rfl)) dX8_odds_17 ⟨Nat.le_of_ble_eq_true rfl, Nat.le_of_ble_eq_true rfl⟩) hS (fun q _ h => zp_F1 hD hS hA q h) (zp_F1 hD hS hA) (fun r17 u t H locs ht hvm hw hB hz1 hk1 hS1 => zo1 hB ht hP hD hk1 (zp_F1 hD hS hA) hS1 (fun hP hK1 hD hS => ?_))
      rcases hw with hw | hw | hw
      · obtain ⟨hw, h17_0, h17_1, h17_2, h17_3⟩ := hw
        subst hw
        exact absurd h17_0 (by decide)
      · obtain ⟨hw, h17_0, h17_1⟩ := hw
        subst hw
        refine lv_istore (lv' := [(4, .int 1), (0, .ref a0), (1, .int a1), (2, .int a2), (3, .int a3)]) hx hb dX8_odds_20 hl (by decide) rfl (fun ls hl => ?_)
        refine lv_iload hx hb dX8_odds_22 (lv_at hl 0 rfl) ?_
        refine lv_if_eq (tgt := 35) hx hb dX8_odds_24 (by decide) (fun c24 => absurd c24 (by decide +kernel)) (fun _ => ?_)
        refine lv_aload_n hx hb dX8_odds_27 rfl (lv_at hl 1 rfl) ?_
        refine lv_iload hx hb dX8_odds_28 (lv_at hl 0 rfl) ?_
        refine va_calli (va_runV (As := [.int 1]) (rest := []) ⟨hx, hb, hml, hown, hts⟩ (c_X8_no l dC dI H.size a0 1 (Value.int v1na0_0) a0g_1 a0g_2 a0g_3 a0g_4 a0g_5 a0g_6 a0g_7 a0g_8 a0g_9 a0g_10 a0g_12 a0g_13 (Value.int a0_14) (Value.ref a0_15) a0g_16 (Value.ref a0_17) a0g_18 a0g_19 a0g_20 a0g_21 a0g_22 a0g_23 a0g_24 a0g_25 a0g_26 a0g_27 a0g_28 (Value.ref a0_29) (Value.int a0_30) (Value.int a0_31) a0g_32 a0g_33 a0g_34 a0g_35 a0g_36 a0g_37 a0g_38 a0g_39 v1na0_11 ) (cwV 1 hts gX8_odds_X8_no rfl rfl rfl zd_X8_no ⟨Nat.le_of_ble_eq_true rfl, Nat.le_of_ble_eq_true rfl⟩) ⟨ax_blind (fun _ _ _ _ _ => trivial), zr_8 (zp_K hK) (zp_P1 hP) (q0 := 0) rfl, ax_pre (zp_P1 hP) (zp_K hK) (zp_D1 hD) (fun _ _ => trivial)⟩ rfl rfl hl.1 rfl (lv_room (Nat.le_of_ble_eq_true rfl)) dX8_odds_30 ⟨Nat.le_of_ble_eq_true rfl, Nat.le_of_ble_eq_true rfl⟩) hS (fun q _ h => zp_F1 hD hS hA q h) (zp_F1 hD hS hA) (fun r30 u t H locs ht hvm hw hB hz1 hk1 hS1 => zx_1 hB (fun v30na0_11 hB => zo1 hB ht hP hD hk1 (zp_F1 hD hS hA) hS1 (fun hP hK1 hD hS => ?_)))
        have hw : r30 = (-1) := hw
        have hw := hw.symm
        subst hw
        obtain ⟨x33, ex33⟩ : ∃ y : Int64, y = ((-1) : Int32).toInt64 := ⟨_, rfl⟩
        refine lv_i2l (v := x33) hx hb dX8_odds_33 ex33.symm ?_
        exact W.lret (v := x33) hx hb hr (fun t ht hW => ⟨⟨x33, (), rfl, trivial, v1na0_0, v30na0_11, a0_30, a0_31, fa0_29, bfa0_29, by rw [ht]; exact hP, va_K.moved hW.alike hK, hD⟩, hS.F ht⟩) hS.2.2 dX8_odds_34
      · obtain ⟨hw, h17_0, h17_1, h17_2, h17_3⟩ := hw
        subst hw
        exact absurd h17_0 (by decide)
    · obtain ⟨hw, h14⟩ := hw
      subst hw
      refine va_calli (va_runV (As := [.int 0, .int 0]) (rest := []) ⟨hx, hb, hml, hown, hts⟩ (c_X8_whyB l dC dI H.size a0 0 0 (Value.int v1na0_0) a0g_1 a0g_2 a0g_3 a0g_4 a0g_5 a0g_6 a0g_7 a0g_8 a0g_9 a0g_10 (Value.int v1na0_11) a0g_12 a0g_13 (Value.int a0_14) (Value.ref a0_15) a0g_16 (Value.ref a0_17) a0g_18 a0g_19 a0g_20 a0g_21 a0g_22 a0g_23 a0g_24 a0g_25 a0g_26 a0g_27 a0g_28 (Value.ref a0_29) (Value.int a0_30) (Value.int a0_31) a0g_32 a0g_33 a0g_34 a0g_35 a0g_36 a0g_37 a0g_38 a0g_39 zq5 (Int.le_trans zq6 zq4) zq5 (Int.le_trans zq6 zq4)) (cwV 2 hts gX8_odds_X8_why rfl rfl rfl zd_X8_why ⟨Nat.le_of_ble_eq_true rfl, Nat.le_of_ble_eq_true rfl⟩) ⟨ax_blind (fun _ _ _ _ _ => trivial), zr_8 (zp_K hK) (zp_P1 hP) (q0 := 0) rfl, ax_pre (zp_P1 hP) (zp_K hK) (zp_D1 hD) (fun _ _ => trivial)⟩ rfl rfl hl.1 rfl (lv_room (Nat.le_of_ble_eq_true rfl)) dX8_odds_17 ⟨Nat.le_of_ble_eq_true rfl, Nat.le_of_ble_eq_true rfl⟩) hS (fun q _ h => zp_F1 hD hS hA q h) (zp_F1 hD hS hA) (fun r17 u t H locs ht hvm hw hB hz1 hk1 hS1 => zo1 hB ht hP hD hk1 (zp_F1 hD hS hA) hS1 (fun hP hK1 hD hS => ?_))
      rcases hw with hw | hw | hw
      · obtain ⟨hw, h17_0, h17_1, h17_2, h17_3⟩ := hw
        subst hw
        exact absurd h17_0 (by decide)
      · obtain ⟨hw, h17_0, h17_1⟩ := hw
        subst hw
        refine lv_istore (lv' := [(4, .int 1), (0, .ref a0), (1, .int a1), (2, .int a2), (3, .int a3)]) hx hb dX8_odds_20 hl (by decide) rfl (fun ls hl => ?_)
        refine lv_iload hx hb dX8_odds_22 (lv_at hl 0 rfl) ?_
        refine lv_if_eq (tgt := 35) hx hb dX8_odds_24 (by decide) (fun c24 => absurd c24 (by decide +kernel)) (fun _ => ?_)
        refine lv_aload_n hx hb dX8_odds_27 rfl (lv_at hl 1 rfl) ?_
        refine lv_iload hx hb dX8_odds_28 (lv_at hl 0 rfl) ?_
        refine va_calli (va_runV (As := [.int 1]) (rest := []) ⟨hx, hb, hml, hown, hts⟩ (c_X8_no l dC dI H.size a0 1 (Value.int v1na0_0) a0g_1 a0g_2 a0g_3 a0g_4 a0g_5 a0g_6 a0g_7 a0g_8 a0g_9 a0g_10 a0g_12 a0g_13 (Value.int a0_14) (Value.ref a0_15) a0g_16 (Value.ref a0_17) a0g_18 a0g_19 a0g_20 a0g_21 a0g_22 a0g_23 a0g_24 a0g_25 a0g_26 a0g_27 a0g_28 (Value.ref a0_29) (Value.int a0_30) (Value.int a0_31) a0g_32 a0g_33 a0g_34 a0g_35 a0g_36 a0g_37 a0g_38 a0g_39 v1na0_11 ) (cwV 1 hts gX8_odds_X8_no rfl rfl rfl zd_X8_no ⟨Nat.le_of_ble_eq_true rfl, Nat.le_of_ble_eq_true rfl⟩) ⟨ax_blind (fun _ _ _ _ _ => trivial), zr_8 (zp_K hK) (zp_P1 hP) (q0 := 0) rfl, ax_pre (zp_P1 hP) (zp_K hK) (zp_D1 hD) (fun _ _ => trivial)⟩ rfl rfl hl.1 rfl (lv_room (Nat.le_of_ble_eq_true rfl)) dX8_odds_30 ⟨Nat.le_of_ble_eq_true rfl, Nat.le_of_ble_eq_true rfl⟩) hS (fun q _ h => zp_F1 hD hS hA q h) (zp_F1 hD hS hA) (fun r30 u t H locs ht hvm hw hB hz1 hk1 hS1 => zx_1 hB (fun v30na0_11 hB => zo1 hB ht hP hD hk1 (zp_F1 hD hS hA) hS1 (fun hP hK1 hD hS => ?_)))
        have hw : r30 = (-1) := hw
        have hw := hw.symm
        subst hw
        obtain ⟨x33, ex33⟩ : ∃ y : Int64, y = ((-1) : Int32).toInt64 := ⟨_, rfl⟩
        refine lv_i2l (v := x33) hx hb dX8_odds_33 ex33.symm ?_
        exact W.lret (v := x33) hx hb hr (fun t ht hW => ⟨⟨x33, (), rfl, trivial, v1na0_0, v30na0_11, a0_30, a0_31, fa0_29, bfa0_29, by rw [ht]; exact hP, va_K.moved hW.alike hK, hD⟩, hS.F ht⟩) hS.2.2 dX8_odds_34
      · obtain ⟨hw, h17_0, h17_1, h17_2, h17_3⟩ := hw
        subst hw
        exact absurd h17_0 (by decide)
end P260_03_safe
section P260_04_safe
set_option maxHeartbeats 4000000 in
set_option maxRecDepth 100000 in
theorem c_X8_mean (l : Launch) (dC : Nat → ClassId) (dI : Nat → Nat → Nat) (sz : Nat) (a0 : Nat) (a1 : Int32) (a2 : Int32) (a3 : Int32) (a0_0 : Int32) (a0g_1 a0g_2 a0g_3 a0g_4 a0g_5 a0g_6 a0g_7 a0g_8 a0g_9 a0g_10 a0g_12 a0g_13 a0g_16 a0g_18 a0g_19 a0g_20 a0g_21 a0g_22 a0g_23 a0g_24 a0g_25 a0g_26 a0g_27 a0g_28 a0g_32 a0g_33 a0g_34 a0g_35 a0g_36 a0g_37 a0g_38 a0g_39 : Value) (a0_11 : Int32) (a0_14 : Int32) (a0_15 : Nat) (a0_17 : Nat) (a0_29 : Nat) (a0_30 : Int32) (a0_31 : Int32) (ka0_15 : ClassId) (fa0_15 : Nat → Int32) (ka0_17 : ClassId) (fa0_17 : Nat → Int32) (ka0_29 : ClassId) (fa0_29 : Nat → Int32) (ba0_14_l : (1 : Int) ≤ a0_14.toInt) (ba0_14_u : a0_14.toInt ≤ (1 : Int)) (bfa0_15 : ((∀ k : Nat, 0 ≤ k → k ≤ 0 → (2 : Int) ≤ (fa0_15 k).toInt ∧ (fa0_15 k).toInt ≤ 9) ∧ (∀ k : Nat, 1 ≤ k → k ≤ 1 → (1 : Int) ≤ (fa0_15 k).toInt ∧ (fa0_15 k).toInt ≤ 20) ∧ (∀ k : Nat, 2 ≤ k → k ≤ 2 → (0 : Int) ≤ (fa0_15 k).toInt ∧ (fa0_15 k).toInt ≤ 8) ∧ (∀ k : Nat, 3 ≤ k → k ≤ 3 → (0 : Int) ≤ (fa0_15 k).toInt ∧ (fa0_15 k).toInt ≤ 100) ∧ (∀ k : Nat, 4 ≤ k → k ≤ 4 → (0 : Int) ≤ (fa0_15 k).toInt ∧ (fa0_15 k).toInt ≤ 9) ∧ (∀ k : Nat, 5 ≤ k → k ≤ 5 → (0 : Int) ≤ (fa0_15 k).toInt ∧ (fa0_15 k).toInt ≤ 3) ∧ (∀ k : Nat, 6 ≤ k → k ≤ 6 → (0 : Int) ≤ (fa0_15 k).toInt ∧ (fa0_15 k).toInt ≤ 6) ∧ (∀ k : Nat, 7 ≤ k → k ≤ 9 → (0 : Int) ≤ (fa0_15 k).toInt ∧ (fa0_15 k).toInt ≤ 8) ∧ (∀ k : Nat, 12 ≤ k → k ≤ 29 → (0 : Int) ≤ (fa0_15 k).toInt ∧ (fa0_15 k).toInt ≤ 20) ∧ (∀ k : Nat, 30 ≤ k → k ≤ 35 → (0 : Int) ≤ (fa0_15 k).toInt ∧ (fa0_15 k).toInt ≤ 8) ∧ (∀ k : Nat, 36 ≤ k → k ≤ 47 → (0 : Int) ≤ (fa0_15 k).toInt ∧ (fa0_15 k).toInt ≤ 999))) (bfa0_17 : ((∀ k : Nat, 0 ≤ k → k ≤ 8 → (0 : Int) ≤ (fa0_17 k).toInt ∧ (fa0_17 k).toInt ≤ 8) ∧ (∀ k : Nat, 19 ≤ k → k ≤ 19 → (0 : Int) ≤ (fa0_17 k).toInt ∧ (fa0_17 k).toInt ≤ 8) ∧ (∀ k : Nat, 20 ≤ k → k ≤ 20 → (0 : Int) ≤ (fa0_17 k).toInt ∧ (fa0_17 k).toInt ≤ 19))) (bfa0_29 : (∀ k, (0 : Int) ≤ (fa0_29 k).toInt ∧ (fa0_29 k).toInt ≤ 8)) : zm l yX8_mean wsX8_mean ({ frames := 3, cells := 0, slots := 0, locals := 68 }) [.ref a0, .int a1, .int a2, .int a3] dC dI sz [(a0, .inr (8, [Value.int a0_0, a0g_1, a0g_2, a0g_3, a0g_4, a0g_5, a0g_6, a0g_7, a0g_8, a0g_9, a0g_10, Value.int a0_11, a0g_12, a0g_13, Value.int a0_14, Value.ref a0_15, a0g_16, Value.ref a0_17, a0g_18, a0g_19, a0g_20, a0g_21, a0g_22, a0g_23, a0g_24, a0g_25, a0g_26, a0g_27, a0g_28, Value.ref a0_29, Value.int a0_30, Value.int a0_31, a0g_32, a0g_33, a0g_34, a0g_35, a0g_36, a0g_37, a0g_38, a0g_39])), (a0_15, .inl (ka0_15, 156, .inl (fa0_15))), (a0_17, .inl (ka0_17, 23, .inl (fa0_17))), (a0_29, .inl (ka0_29, 10, .inl (fa0_29)))] [(ka0_15, .int), (ka0_17, .int), (ka0_29, .int)] (fun A _ => True) (fun A => va_Ql (fun (r : Int64) (_ : Unit) => True) (fun (_ : Unit) (t : State) => ∃ na0_0 : Int32, ∃ na0_11 : Int32, ∃ na0_30 : Int32, ∃ na0_31 : Int32, ∃ nfa0_29 : Nat → Int32, (∀ k, (0 : Int) ≤ (nfa0_29 k).toInt ∧ (nfa0_29 k).toInt ≤ 8) ∧ ax_B dC dI A [(a0, .inr (8, [Value.int na0_0, a0g_1, a0g_2, a0g_3, a0g_4, a0g_5, a0g_6, a0g_7, a0g_8, a0g_9, a0g_10, Value.int na0_11, a0g_12, a0g_13, Value.int a0_14, Value.ref a0_15, a0g_16, Value.ref a0_17, a0g_18, a0g_19, a0g_20, a0g_21, a0g_22, a0g_23, a0g_24, a0g_25, a0g_26, a0g_27, a0g_28, Value.ref a0_29, Value.int na0_30, Value.int na0_31, a0g_32, a0g_33, a0g_34, a0g_35, a0g_36, a0g_37, a0g_38, a0g_39])), (a0_15, .inl (ka0_15, 156, .inl (fa0_15))), (a0_17, .inl (ka0_17, 23, .inl (fa0_17))), (a0_29, .inl (ka0_29, 10, .inl (nfa0_29)))] [(ka0_15, .int), (ka0_17, .int), (ka0_29, .int)] t) A) := by
  refine zh (cc := cX8_mean) (maxL := 5) (ret := (some .long)) zn_RX8 rfl (Nat.le_of_ble_eq_true rfl) (fun p e s m below meth c A ls hx hb hml hr hts (hown : s.vm.findClass RX8 = some m.cls) hlocks hA hS hP hK hD hE (hl : lv_has ls 5 [(0, .ref a0), (1, .int a1), (2, .int a2), (3, .int a3)]) => ?_)
  refine lv_aload_n hx hb dX8_mean_0 rfl (lv_at hl 0 rfl) ?_
  refine va_callv (va_runV (As := []) (rest := []) ⟨hx, hb, hml, hown, hts⟩ (c_X8_good l dC dI s.heap.size a0 a0_0 a0g_1 a0g_2 a0g_3 a0g_4 a0g_5 a0g_6 a0g_7 a0g_8 a0g_9 a0g_10 a0g_12 a0g_13 (Value.int a0_14) (Value.ref a0_15) a0g_16 (Value.ref a0_17) a0g_18 a0g_19 a0g_20 a0g_21 a0g_22 a0g_23 a0g_24 a0g_25 a0g_26 a0g_27 a0g_28 (Value.ref a0_29) (Value.int a0_30) (Value.int a0_31) a0g_32 a0g_33 a0g_34 a0g_35 a0g_36 a0g_37 a0g_38 a0g_39 a0_11 ) (cwV 0 hts gX8_mean_X8_good rfl rfl rfl zd_X8_good ⟨Nat.le_of_ble_eq_true rfl, Nat.le_of_ble_eq_true rfl⟩) ⟨ax_blind (fun _ _ _ _ _ => trivial), zr_8 (zp_K hK) (zp_P1 hP) (q0 := 0) rfl, ax_pre (zp_P1 hP) (zp_K hK) (zp_D1 hD) (fun _ _ => trivial)⟩ rfl rfl hl.1 rfl (lv_room (Nat.le_of_ble_eq_true rfl)) dX8_mean_1 ⟨Nat.le_of_ble_eq_true rfl, Nat.le_of_ble_eq_true rfl⟩) hS (fun q _ h => zp_F1 hD hS hA q h) (zp_F1 hD hS hA) (fun u t H locs ht hvm hw hB hz1 hk1 hS1 => zx_2 hB (fun v1na0_0 v1na0_11 hB => zo1 hB ht hP hD hk1 (zp_F1 hD hS hA) hS1 (fun hP hK1 hD hS => ?_)))
  refine lv_aload_n hx hb dX8_mean_4 rfl (lv_at hl 0 rfl) ?_
  refine lv_aload_n hx hb dX8_mean_5 rfl (lv_at hl 0 rfl) ?_
  refine lv_iload_n hx hb dX8_mean_6 rfl (lv_at hl 1 rfl) ?_
  have hKc := hK.sub (tys' := [(ka0_15, .int)]) [0] rfl
  refine va_calli (va_runV (As := [.int a1]) (rest := [.ref a0]) ⟨hx, hb, hml, hown, hts⟩ (c_X8_isFigure l dC dI H.size a0 a1 (Value.int v1na0_0) a0g_1 a0g_2 a0g_3 a0g_4 a0g_5 a0g_6 a0g_7 a0g_8 a0g_9 a0g_10 (Value.int v1na0_11) a0g_12 a0g_13 a0g_16 (Value.ref a0_17) a0g_18 a0g_19 a0g_20 a0g_21 a0g_22 a0g_23 a0g_24 a0g_25 a0g_26 a0g_27 a0g_28 (Value.ref a0_29) (Value.int a0_30) (Value.int a0_31) a0g_32 a0g_33 a0g_34 a0g_35 a0g_36 a0g_37 a0g_38 a0g_39 a0_14 a0_15 ka0_15 fa0_15 ba0_14_l ba0_14_u bfa0_15) (cwV 1 hts gX8_mean_X8_isFigure rfl rfl rfl zd_X8_isFigure ⟨Nat.le_of_ble_eq_true rfl, Nat.le_of_ble_eq_true rfl⟩) ⟨ax_blind (fun _ _ _ _ _ => trivial), zr_8 hKc (zp_P2 hP) (q0 := 0) rfl, ax_pre (zp_P2 hP) hKc (zp_D2 hD) (fun _ _ => trivial)⟩ rfl rfl hl.1 rfl (lv_room (Nat.le_of_ble_eq_true rfl)) dX8_mean_7 ⟨Nat.le_of_ble_eq_true rfl, Nat.le_of_ble_eq_true rfl⟩) hS (fun q _ h => zp_F2 hD hS hA q h) (zp_F2 hD hS hA) (fun r7 u t H locs ht hvm hw hB hz1 hk1 hS1 => zo2 hB ht hP hD hk1 (zp_F2 hD hS hA) hS1 (fun hP hK1 hD hS => ?_))
  rcases hw with hw | hw
  · obtain ⟨hw, h7_0, h7_1⟩ := hw
    subst hw
    have l7k0_a1 : (0 : Int) ≤ a1.toInt := h7_0
    have u7k0_a1 : a1.toInt ≤ (8 : Int) := h7_1
    refine lv_iload_n hx hb dX8_mean_10 rfl (lv_at hl 2 rfl) ?_
    refine lv_iconst (v := 0) hx hb dX8_mean_11 zk_iconst_0 ?_
    refine lv_bipush (v := 8) hx hb dX8_mean_12 zk_bipush_8 ?_
    refine va_calli (va_runS (As := [.int a2, .int 0, .int 8]) (rest := [.int 1, .ref a0]) ⟨hx, hb, hml, hown, hts⟩ (c_X8_in l dC dI H.size a2 0 8 ) (va_cwS 3 hts gX8_mean_X8_in rfl rfl rfl zd_X8_in.2 ⟨Nat.le_of_ble_eq_true rfl, Nat.le_of_ble_eq_true rfl⟩) ⟨ax_blind (fun _ _ _ _ _ => trivial), ax_pre (zp_P0 hP) (zp_K hK) (zp_D0 hD) (fun _ _ => trivial)⟩ rfl rfl hl.1 rfl (lv_room (Nat.le_of_ble_eq_true rfl)) dX8_mean_14 ⟨Nat.le_of_ble_eq_true rfl, Nat.le_of_ble_eq_true rfl⟩) hS (fun q _ h => zp_F0 hD hS hA q h) (zp_F0 hD hS hA) (fun r14 u t H locs ht hvm hw hB hz1 hk1 hS1 => zo0 hB ht hP hD hk1 (zp_F0 hD hS hA) hS1 (fun hP hK1 hD hS => ?_))
    rcases hw with hw | hw
    · obtain ⟨hw, h14⟩ := hw
      subst hw
      have l14k0_a2 : (0 : Int) ≤ a2.toInt := Int.le_trans zq5 h14.1
      have u14k0_a2 : a2.toInt ≤ (8 : Int) := Int.le_trans h14.2 zq28
      refine va_calli (va_runV (As := [.int 1, .int 1]) (rest := []) ⟨hx, hb, hml, hown, hts⟩ (c_X8_whyB l dC dI H.size a0 1 1 (Value.int v1na0_0) a0g_1 a0g_2 a0g_3 a0g_4 a0g_5 a0g_6 a0g_7 a0g_8 a0g_9 a0g_10 (Value.int v1na0_11) a0g_12 a0g_13 (Value.int a0_14) (Value.ref a0_15) a0g_16 (Value.ref a0_17) a0g_18 a0g_19 a0g_20 a0g_21 a0g_22 a0g_23 a0g_24 a0g_25 a0g_26 a0g_27 a0g_28 (Value.ref a0_29) (Value.int a0_30) (Value.int a0_31) a0g_32 a0g_33 a0g_34 a0g_35 a0g_36 a0g_37 a0g_38 a0g_39 (Int.le_trans zq4 zq1) zq0 (Int.le_trans zq4 zq1) zq0) (cwV 2 hts gX8_mean_X8_why rfl rfl rfl zd_X8_why ⟨Nat.le_of_ble_eq_true rfl, Nat.le_of_ble_eq_true rfl⟩) ⟨ax_blind (fun _ _ _ _ _ => trivial), zr_8 (zp_K hK) (zp_P1 hP) (q0 := 0) rfl, ax_pre (zp_P1 hP) (zp_K hK) (zp_D1 hD) (fun _ _ => trivial)⟩ rfl rfl hl.1 rfl (lv_room (Nat.le_of_ble_eq_true rfl)) dX8_mean_17 ⟨Nat.le_of_ble_eq_true rfl, Nat.le_of_ble_eq_true rfl⟩) hS (fun q _ h => zp_F1 hD hS hA q h) (zp_F1 hD hS hA) (fun r17 u t H locs ht hvm hw hB hz1 hk1 hS1 => zo1 hB ht hP hD hk1 (zp_F1 hD hS hA) hS1 (fun hP hK1 hD hS => ?_))
      rcases hw with hw | hw | hw
      · obtain ⟨hw, h17_0, h17_1, h17_2, h17_3⟩ := hw
        subst hw
        exact absurd h17_3 (by decide)
      · obtain ⟨hw, h17_0, h17_1⟩ := hw
        subst hw
        exact absurd h17_1 (by decide)
      · obtain ⟨hw, h17_0, h17_1, h17_2, h17_3⟩ := hw
        subst hw
        refine lv_istore (lv' := [(4, .int 0), (0, .ref a0), (1, .int a1), (2, .int a2), (3, .int a3)]) hx hb dX8_mean_20 hl (by decide) rfl (fun ls hl => ?_)
        refine lv_iload hx hb dX8_mean_22 (lv_at hl 0 rfl) ?_
        refine lv_if_eq (tgt := 35) hx hb dX8_mean_24 (by decide) (fun _ => ?_) (fun c24 => absurd (by decide +kernel) c24)
        refine lv_aload_n hx hb dX8_mean_35 rfl (lv_at hl 1 rfl) ?_
        refine lv_iload_n hx hb dX8_mean_36 rfl (lv_at hl 2 rfl) ?_
        refine lv_iload_n hx hb dX8_mean_37 rfl (lv_at hl 3 rfl) ?_
        refine zc_cutc (wc := [(a0, .inr (8, [Value.int v1na0_0, a0g_1, a0g_2, a0g_3, a0g_4, a0g_5, a0g_6, a0g_7, a0g_8, a0g_9, a0g_10, Value.int v1na0_11, a0g_12, a0g_13, Value.int a0_14, Value.ref a0_15, a0g_16, Value.ref a0_17, a0g_18, a0g_19, a0g_20, a0g_21, a0g_22, a0g_23, a0g_24, a0g_25, a0g_26, a0g_27, a0g_28, Value.ref a0_29, Value.int a0_30, Value.int a0_31, a0g_32, a0g_33, a0g_34, a0g_35, a0g_36, a0g_37, a0g_38, a0g_39])), (a0_17, .inl (ka0_17, 23, .inl (fa0_17))), (a0_29, .inl (ka0_29, 10, .inl (fa0_29))), (a0_15, .inl (ka0_15, 156, .inl (fa0_15)))]) hP hD hS hA [0, 2, 3, 1] (by decide +kernel) rfl (fun hPc hDc hFc hCc => ?_)
        have hKc := hK.sub (tys' := [(ka0_17, .int), (ka0_29, .int), (ka0_15, .int)]) [1, 2, 0] rfl
        refine va_calli (va_runV (As := [.int a1, .int a2]) (rest := []) ⟨hx, hb, hml, hown, hts⟩ (c_X8_turnsOf l dC dI H.size a0 a1 a2 (Value.int v1na0_0) a0g_1 a0g_2 a0g_3 a0g_4 a0g_5 a0g_6 a0g_7 a0g_8 a0g_9 a0g_10 (Value.int v1na0_11) a0g_12 a0g_13 (Value.int a0_14) a0g_16 a0g_18 a0g_19 a0g_20 a0g_21 a0g_22 a0g_23 a0g_24 a0g_25 a0g_26 a0g_27 a0g_28 a0g_32 a0g_33 a0g_34 a0g_35 a0g_36 a0g_37 a0g_38 a0g_39 a0_15 a0_17 a0_29 a0_30 a0_31 ka0_17 fa0_17 ka0_29 fa0_29 ka0_15 fa0_15 l14k0_a2 u14k0_a2 bfa0_17 bfa0_29 bfa0_15) (cwV 2 hts gX8_mean_X8_turnsOf rfl rfl rfl zd_X8_turnsOf ⟨Nat.le_of_ble_eq_true rfl, Nat.le_of_ble_eq_true rfl⟩) ⟨ax_blind (fun _ _ _ _ _ => trivial), zr_8 hKc hPc (q0 := 0) rfl, ax_pre hPc hKc hDc (fun _ _ => trivial)⟩ rfl rfl hl.1 rfl (lv_room (Nat.le_of_ble_eq_true rfl)) dX8_mean_38 ⟨Nat.le_of_ble_eq_true rfl, Nat.le_of_ble_eq_true rfl⟩) hS (fun q _ h => hFc q h) hFc (fun r38 u t H locs ht hvm hw hB hz1 hk1 hS => zx_3 hB (fun v38na0_30 v38na0_31 v38nfa0_29 hB => zy_1 hB (fun bv38nfa0_29 hB => zo hB ht (fun hP1 hK1 hD1 => ?_))))
        refine zc_backc (w := [(a0, .inr (8, [Value.int v1na0_0, a0g_1, a0g_2, a0g_3, a0g_4, a0g_5, a0g_6, a0g_7, a0g_8, a0g_9, a0g_10, Value.int v1na0_11, a0g_12, a0g_13, Value.int a0_14, Value.ref a0_15, a0g_16, Value.ref a0_17, a0g_18, a0g_19, a0g_20, a0g_21, a0g_22, a0g_23, a0g_24, a0g_25, a0g_26, a0g_27, a0g_28, Value.ref a0_29, Value.int v38na0_30, Value.int v38na0_31, a0g_32, a0g_33, a0g_34, a0g_35, a0g_36, a0g_37, a0g_38, a0g_39])), (a0_15, .inl (ka0_15, 156, .inl (fa0_15))), (a0_17, .inl (ka0_17, 23, .inl (fa0_17))), (a0_29, .inl (ka0_29, 10, .inl (v38nfa0_29)))]) hP hD hCc hk1 hFc hP1 hD1 [.inr 0, .inr 3, .inr 1, .inr 2] (by decide +kernel) rfl (fun hP hD => ?_)
        have hw : (0 : Int) ≤ r38.toInt ∧ r38.toInt ≤ (8 : Int) := hw
        obtain ⟨h38_0, h38_1⟩ := hw
        obtain ⟨x41, ex41⟩ : ∃ y : Int64, y = (r38 : Int32).toInt64 := ⟨_, rfl⟩
        refine lv_i2l (v := x41) hx hb dX8_mean_41 ex41.symm ?_
        refine lv_bipush (v := 100) hx hb dX8_mean_42 zk_bipush_100 ?_
        refine lv_aload_n hx hb dX8_mean_44 rfl (lv_at hl 1 rfl) ?_
        refine va_get (D := (dC, dI)) (ci := 8) (v := .ref a0_15) (C := RX8) (T := TX8) (N := 40) hx hb hts zi_X8_mean_8 hown hK hP 0 rfl rfl 15 (by decide) (hts (.fieldLink RX8 20 "WaxTurnsModel" "\x72" "[I") (zm_X8_mean_r1 (List.mem_of_getElem? (i := 0) rfl))) (fun _ h9 => h9) rfl dX8_mean_45 ?_
        refine lv_iconst (v := 3) hx hb dX8_mean_48 zk_iconst_3 ?_
        refine va_iald hx hb hK hP 1 0 rfl rfl (by unfold vp_in; decide +kernel) dX8_mean_49 ?_
        refine lv_topi (fun x49 ex49 => ?_)
        have bx49 : (0 : Int) ≤ x49.toInt ∧ x49.toInt ≤ 100 := by rw [ex49]; exact ai_rd bfa0_15.2.2.2.1 zq8 zq9 (by decide) (by decide) (by decide)
        refine lv_isub hx hb dX8_mean_50 ?_
        refine lv_topi (fun x50 ex50 => ?_)
        have qx50 : x50.toInt = (100 : Int32).toInt - x49.toInt := ai_sub ex50 ⟨zq24, zq32⟩ ⟨bx49.1, bx49.2⟩ (by decide) (by decide)
        have bx50 : (0 : Int) ≤ x50.toInt ∧ x50.toInt ≤ 100 := ⟨by rw [qx50]; exact Int.sub_le_sub zq24 bx49.2, by rw [qx50]; exact Int.sub_le_sub zq32 bx49.1⟩
        obtain ⟨x51, ex51⟩ : ∃ y : Int64, y = (x50 : Int32).toInt64 := ⟨_, rfl⟩
        refine lv_i2l (v := x51) hx hb dX8_mean_51 ex51.symm ?_
        refine lv_lmul hx hb dX8_mean_52 ?_
        refine lv_topl (fun x52 ex52 => ?_)
        refine lv_ldc2 (v := 100) hx hb hown (hts (.constantLong RX8 368 (100)) (zm_X8_mean_r1 (List.mem_of_getElem? (i := 1) rfl))) dX8_mean_53 ?_
        refine lv_iload_n hx hb dX8_mean_56 rfl (lv_at hl 4 rfl) ?_
        refine va_calll (va_runS (As := [.long x52, .long 100, .int a3]) (rest := []) ⟨hx, hb, hml, hown, hts⟩ (c_X8_lowest l dC dI H.size x52 100 a3 (by decide)) (va_cwS 3 hts gX8_mean_X8_lowest rfl rfl rfl zd_X8_lowest.2 ⟨Nat.le_of_ble_eq_true rfl, Nat.le_of_ble_eq_true rfl⟩) ⟨ax_blind (fun _ _ _ _ _ => trivial), ax_pre (zp_P0 hP) (zp_K hK) (zp_D0 hD) (fun _ _ => trivial)⟩ rfl rfl hl.1 rfl (lv_room (Nat.le_of_ble_eq_true rfl)) dX8_mean_57 ⟨Nat.le_of_ble_eq_true rfl, Nat.le_of_ble_eq_true rfl⟩) hS (fun q _ h => zp_F0 hD hS hA q h) (zp_F0 hD hS hA) (fun r57 u t H locs ht hvm hw hB hz1 hk1 hS1 => zo0 hB ht hP hD hk1 (zp_F0 hD hS hA) hS1 (fun hP hK1 hD hS => ?_))
        exact W.lret (v := r57) hx hb hr (fun t ht hW => ⟨⟨r57, (), rfl, trivial, v1na0_0, v1na0_11, v38na0_30, v38na0_31, v38nfa0_29, bv38nfa0_29, by rw [ht]; exact hP, va_K.moved hW.alike hK, hD⟩, hS.F ht⟩) hS.2.2 dX8_mean_60
    · obtain ⟨hw, h14⟩ := hw
      subst hw
      refine va_calli (va_runV (As := [.int 1, .int 0]) (rest := []) ⟨hx, hb, hml, hown, hts⟩ (c_X8_whyB l dC dI H.size a0 1 0 (Value.int v1na0_0) a0g_1 a0g_2 a0g_3 a0g_4 a0g_5 a0g_6 a0g_7 a0g_8 a0g_9 a0g_10 (Value.int v1na0_11) a0g_12 a0g_13 (Value.int a0_14) (Value.ref a0_15) a0g_16 (Value.ref a0_17) a0g_18 a0g_19 a0g_20 a0g_21 a0g_22 a0g_23 a0g_24 a0g_25 a0g_26 a0g_27 a0g_28 (Value.ref a0_29) (Value.int a0_30) (Value.int a0_31) a0g_32 a0g_33 a0g_34 a0g_35 a0g_36 a0g_37 a0g_38 a0g_39 (Int.le_trans zq4 zq1) zq0 zq5 (Int.le_trans zq6 zq4)) (cwV 2 hts gX8_mean_X8_why rfl rfl rfl zd_X8_why ⟨Nat.le_of_ble_eq_true rfl, Nat.le_of_ble_eq_true rfl⟩) ⟨ax_blind (fun _ _ _ _ _ => trivial), zr_8 (zp_K hK) (zp_P1 hP) (q0 := 0) rfl, ax_pre (zp_P1 hP) (zp_K hK) (zp_D1 hD) (fun _ _ => trivial)⟩ rfl rfl hl.1 rfl (lv_room (Nat.le_of_ble_eq_true rfl)) dX8_mean_17 ⟨Nat.le_of_ble_eq_true rfl, Nat.le_of_ble_eq_true rfl⟩) hS (fun q _ h => zp_F1 hD hS hA q h) (zp_F1 hD hS hA) (fun r17 u t H locs ht hvm hw hB hz1 hk1 hS1 => zo1 hB ht hP hD hk1 (zp_F1 hD hS hA) hS1 (fun hP hK1 hD hS => ?_))
      rcases hw with hw | hw | hw
      · obtain ⟨hw, h17_0, h17_1, h17_2, h17_3⟩ := hw
        subst hw
        refine lv_istore (lv' := [(4, .int 2), (0, .ref a0), (1, .int a1), (2, .int a2), (3, .int a3)]) hx hb dX8_mean_20 hl (by decide) rfl (fun ls hl => ?_)
        refine lv_iload hx hb dX8_mean_22 (lv_at hl 0 rfl) ?_
        refine lv_if_eq (tgt := 35) hx hb dX8_mean_24 (by decide) (fun c24 => absurd c24 (by decide +kernel)) (fun _ => ?_)
        refine lv_aload_n hx hb dX8_mean_27 rfl (lv_at hl 1 rfl) ?_
        refine lv_iload hx hb dX8_mean_28 (lv_at hl 0 rfl) ?_
        refine va_calli (va_runV (As := [.int 2]) (rest := []) ⟨hx, hb, hml, hown, hts⟩ (c_X8_no l dC dI H.size a0 2 (Value.int v1na0_0) a0g_1 a0g_2 a0g_3 a0g_4 a0g_5 a0g_6 a0g_7 a0g_8 a0g_9 a0g_10 a0g_12 a0g_13 (Value.int a0_14) (Value.ref a0_15) a0g_16 (Value.ref a0_17) a0g_18 a0g_19 a0g_20 a0g_21 a0g_22 a0g_23 a0g_24 a0g_25 a0g_26 a0g_27 a0g_28 (Value.ref a0_29) (Value.int a0_30) (Value.int a0_31) a0g_32 a0g_33 a0g_34 a0g_35 a0g_36 a0g_37 a0g_38 a0g_39 v1na0_11 ) (cwV 1 hts gX8_mean_X8_no rfl rfl rfl zd_X8_no ⟨Nat.le_of_ble_eq_true rfl, Nat.le_of_ble_eq_true rfl⟩) ⟨ax_blind (fun _ _ _ _ _ => trivial), zr_8 (zp_K hK) (zp_P1 hP) (q0 := 0) rfl, ax_pre (zp_P1 hP) (zp_K hK) (zp_D1 hD) (fun _ _ => trivial)⟩ rfl rfl hl.1 rfl (lv_room (Nat.le_of_ble_eq_true rfl)) dX8_mean_30 ⟨Nat.le_of_ble_eq_true rfl, Nat.le_of_ble_eq_true rfl⟩) hS (fun q _ h => zp_F1 hD hS hA q h) (zp_F1 hD hS hA) (fun r30 u t H locs ht hvm hw hB hz1 hk1 hS1 => zx_1 hB (fun v30na0_11 hB => zo1 hB ht hP hD hk1 (zp_F1 hD hS hA) hS1 (fun hP hK1 hD hS => ?_)))
        have hw : r30 = (-1) := hw
        have hw := hw.symm
        subst hw
        obtain ⟨x33, ex33⟩ : ∃ y : Int64, y = ((-1) : Int32).toInt64 := ⟨_, rfl⟩
        refine lv_i2l (v := x33) hx hb dX8_mean_33 ex33.symm ?_
        exact W.lret (v := x33) hx hb hr (fun t ht hW => ⟨⟨x33, (), rfl, trivial, v1na0_0, v30na0_11, a0_30, a0_31, fa0_29, bfa0_29, by rw [ht]; exact hP, va_K.moved hW.alike hK, hD⟩, hS.F ht⟩) hS.2.2 dX8_mean_34
      · obtain ⟨hw, h17_0, h17_1⟩ := hw
        subst hw
        exact absurd h17_1 (by decide)
      · obtain ⟨hw, h17_0, h17_1, h17_2, h17_3⟩ := hw
        subst hw
        exact absurd h17_2 (by decide)
  · subst hw
    refine lv_iload_n hx hb dX8_mean_10 rfl (lv_at hl 2 rfl) ?_
    refine lv_iconst (v := 0) hx hb dX8_mean_11 zk_iconst_0 ?_
    refine lv_bipush (v := 8) hx hb dX8_mean_12 zk_bipush_8 ?_
    refine va_calli (va_runS (As := [.int a2, .int 0, .int 8]) (rest := [.int 0, .ref a0]) ⟨hx, hb, hml, hown, hts⟩ (c_X8_in l dC dI H.size a2 0 8 ) (va_cwS 3 hts gX8_mean_X8_in rfl rfl rfl zd_X8_in.2 ⟨Nat.le_of_ble_eq_true rfl, Nat.le_of_ble_eq_true rfl⟩) ⟨ax_blind (fun _ _ _ _ _ => trivial), ax_pre (zp_P0 hP) (zp_K hK) (zp_D0 hD) (fun _ _ => trivial)⟩ rfl rfl hl.1 rfl (lv_room (Nat.le_of_ble_eq_true rfl)) dX8_mean_14 ⟨Nat.le_of_ble_eq_true rfl, Nat.le_of_ble_eq_true rfl⟩) hS (fun q _ h => zp_F0 hD hS hA q h) (zp_F0 hD hS hA) (fun r14 u t H locs ht hvm hw hB hz1 hk1 hS1 => zo0 hB ht hP hD hk1 (zp_F0 hD hS hA) hS1 (fun hP hK1 hD hS => ?_))
    rcases hw with hw | hw
    · obtain ⟨hw, h14⟩ := hw
      subst hw
      have l14k0_a2 : (0 : Int) ≤ a2.toInt := Int.le_trans zq5 h14.1
      have u14k0_a2 : a2.toInt ≤ (8 : Int) := Int.le_trans h14.2 zq28
      refine va_calli (va_runV (As := [.int 0, .int 1]) (rest := []) ⟨hx, hb, hml, hown, hts⟩ (c_X8_whyB l dC dI H.size a0 0 1 (Value.int v1na0_0) a0g_1 a0g_2 a0g_3 a0g_4 a0g_5 a0g_6 a0g_7 a0g_8 a0g_9 a0g_10 (Value.int v1na0_11) a0g_12 a0g_13 (Value.int a0_14) (Value.ref a0_15) a0g_16 (Value.ref a0_17) a0g_18 a0g_19 a0g_20 a0g_21 a0g_22 a0g_23 a0g_24 a0g_25 a0g_26 a0g_27 a0g_28 (Value.ref a0_29) (Value.int a0_30) (Value.int a0_31) a0g_32 a0g_33 a0g_34 a0g_35 a0g_36 a0g_37 a0g_38 a0g_39 zq5 (Int.le_trans zq6 zq4) (Int.le_trans zq4 zq1) zq0) (cwV 2 hts gX8_mean_X8_why rfl rfl rfl zd_X8_why ⟨Nat.le_of_ble_eq_true rfl, Nat.le_of_ble_eq_true rfl⟩) ⟨ax_blind (fun _ _ _ _ _ => trivial), zr_8 (zp_K hK) (zp_P1 hP) (q0 := 0) rfl, ax_pre (zp_P1 hP) (zp_K hK) (zp_D1 hD) (fun _ _ => trivial)⟩ rfl rfl hl.1 rfl (lv_room (Nat.le_of_ble_eq_true rfl)) dX8_mean_17 ⟨Nat.le_of_ble_eq_true rfl, Nat.le_of_ble_eq_true rfl⟩) hS (fun q _ h => zp_F1 hD hS hA q h) (zp_F1 hD hS hA) (fun r17 u t H locs ht hvm hw hB hz1 hk1 hS1 => zo1 hB ht hP hD hk1 (zp_F1 hD hS hA) hS1 (fun hP hK1 hD hS => ?_))
      rcases hw with hw | hw | hw
      · obtain ⟨hw, h17_0, h17_1, h17_2, h17_3⟩ := hw
        subst hw
        exact absurd h17_0 (by decide)
      · obtain ⟨hw, h17_0, h17_1⟩ := hw
        subst hw
        refine lv_istore (lv' := [(4, .int 1), (0, .ref a0), (1, .int a1), (2, .int a2), (3, .int a3)]) hx hb dX8_mean_20 hl (by decide) rfl (fun ls hl => ?_)
        refine lv_iload hx hb dX8_mean_22 (lv_at hl 0 rfl) ?_
        refine lv_if_eq (tgt := 35) hx hb dX8_mean_24 (by decide) (fun c24 => absurd c24 (by decide +kernel)) (fun _ => ?_)
        refine lv_aload_n hx hb dX8_mean_27 rfl (lv_at hl 1 rfl) ?_
        refine lv_iload hx hb dX8_mean_28 (lv_at hl 0 rfl) ?_
        refine va_calli (va_runV (As := [.int 1]) (rest := []) ⟨hx, hb, hml, hown, hts⟩ (c_X8_no l dC dI H.size a0 1 (Value.int v1na0_0) a0g_1 a0g_2 a0g_3 a0g_4 a0g_5 a0g_6 a0g_7 a0g_8 a0g_9 a0g_10 a0g_12 a0g_13 (Value.int a0_14) (Value.ref a0_15) a0g_16 (Value.ref a0_17) a0g_18 a0g_19 a0g_20 a0g_21 a0g_22 a0g_23 a0g_24 a0g_25 a0g_26 a0g_27 a0g_28 (Value.ref a0_29) (Value.int a0_30) (Value.int a0_31) a0g_32 a0g_33 a0g_34 a0g_35 a0g_36 a0g_37 a0g_38 a0g_39 v1na0_11 ) (cwV 1 hts gX8_mean_X8_no rfl rfl rfl zd_X8_no ⟨Nat.le_of_ble_eq_true rfl, Nat.le_of_ble_eq_true rfl⟩) ⟨ax_blind (fun _ _ _ _ _ => trivial), zr_8 (zp_K hK) (zp_P1 hP) (q0 := 0) rfl, ax_pre (zp_P1 hP) (zp_K hK) (zp_D1 hD) (fun _ _ => trivial)⟩ rfl rfl hl.1 rfl (lv_room (Nat.le_of_ble_eq_true rfl)) dX8_mean_30 ⟨Nat.le_of_ble_eq_true rfl, Nat.le_of_ble_eq_true rfl⟩) hS (fun q _ h => zp_F1 hD hS hA q h) (zp_F1 hD hS hA) (fun r30 u t H locs ht hvm hw hB hz1 hk1 hS1 => zx_1 hB (fun v30na0_11 hB => zo1 hB ht hP hD hk1 (zp_F1 hD hS hA) hS1 (fun hP hK1 hD hS => ?_)))
        have hw : r30 = (-1) := hw
        have hw := hw.symm
        subst hw
        obtain ⟨x33, ex33⟩ : ∃ y : Int64, y = ((-1) : Int32).toInt64 := ⟨_, rfl⟩
        refine lv_i2l (v := x33) hx hb dX8_mean_33 ex33.symm ?_
        exact W.lret (v := x33) hx hb hr (fun t ht hW => ⟨⟨x33, (), rfl, trivial, v1na0_0, v30na0_11, a0_30, a0_31, fa0_29, bfa0_29, by rw [ht]; exact hP, va_K.moved hW.alike hK, hD⟩, hS.F ht⟩) hS.2.2 dX8_mean_34
      · obtain ⟨hw, h17_0, h17_1, h17_2, h17_3⟩ := hw
        subst hw
        exact absurd h17_0 (by decide)
    · obtain ⟨hw, h14⟩ := hw
      subst hw
      refine va_calli (va_runV (As := [.int 0, .int 0]) (rest := []) ⟨hx, hb, hml, hown, hts⟩ (c_X8_whyB l dC dI H.size a0 0 0 (Value.int v1na0_0) a0g_1 a0g_2 a0g_3 a0g_4 a0g_5 a0g_6 a0g_7 a0g_8 a0g_9 a0g_10 (Value.int v1na0_11) a0g_12 a0g_13 (Value.int a0_14) (Value.ref a0_15) a0g_16 (Value.ref a0_17) a0g_18 a0g_19 a0g_20 a0g_21 a0g_22 a0g_23 a0g_24 a0g_25 a0g_26 a0g_27 a0g_28 (Value.ref a0_29) (Value.int a0_30) (Value.int a0_31) a0g_32 a0g_33 a0g_34 a0g_35 a0g_36 a0g_37 a0g_38 a0g_39 zq5 (Int.le_trans zq6 zq4) zq5 (Int.le_trans zq6 zq4)) (cwV 2 hts gX8_mean_X8_why rfl rfl rfl zd_X8_why ⟨Nat.le_of_ble_eq_true rfl, Nat.le_of_ble_eq_true rfl⟩) ⟨ax_blind (fun _ _ _ _ _ => trivial), zr_8 (zp_K hK) (zp_P1 hP) (q0 := 0) rfl, ax_pre (zp_P1 hP) (zp_K hK) (zp_D1 hD) (fun _ _ => trivial)⟩ rfl rfl hl.1 rfl (lv_room (Nat.le_of_ble_eq_true rfl)) dX8_mean_17 ⟨Nat.le_of_ble_eq_true rfl, Nat.le_of_ble_eq_true rfl⟩) hS (fun q _ h => zp_F1 hD hS hA q h) (zp_F1 hD hS hA) (fun r17 u t H locs ht hvm hw hB hz1 hk1 hS1 => zo1 hB ht hP hD hk1 (zp_F1 hD hS hA) hS1 (fun hP hK1 hD hS => ?_))
      rcases hw with hw | hw | hw
      · obtain ⟨hw, h17_0, h17_1, h17_2, h17_3⟩ := hw
        subst hw
        exact absurd h17_0 (by decide)
      · obtain ⟨hw, h17_0, h17_1⟩ := hw
        subst hw
        refine lv_istore (lv' := [(4, .int 1), (0, .ref a0), (1, .int a1), (2, .int a2), (3, .int a3)]) hx hb dX8_mean_20 hl (by decide) rfl (fun ls hl => ?_)
        refine lv_iload hx hb dX8_mean_22 (lv_at hl 0 rfl) ?_
        refine lv_if_eq (tgt := 35) hx hb dX8_mean_24 (by decide) (fun c24 => absurd c24 (by decide +kernel)) (fun _ => ?_)
        refine lv_aload_n hx hb dX8_mean_27 rfl (lv_at hl 1 rfl) ?_
        refine lv_iload hx hb dX8_mean_28 (lv_at hl 0 rfl) ?_
        refine va_calli (va_runV (As := [.int 1]) (rest := []) ⟨hx, hb, hml, hown, hts⟩ (c_X8_no l dC dI H.size a0 1 (Value.int v1na0_0) a0g_1 a0g_2 a0g_3 a0g_4 a0g_5 a0g_6 a0g_7 a0g_8 a0g_9 a0g_10 a0g_12 a0g_13 (Value.int a0_14) (Value.ref a0_15) a0g_16 (Value.ref a0_17) a0g_18 a0g_19 a0g_20 a0g_21 a0g_22 a0g_23 a0g_24 a0g_25 a0g_26 a0g_27 a0g_28 (Value.ref a0_29) (Value.int a0_30) (Value.int a0_31) a0g_32 a0g_33 a0g_34 a0g_35 a0g_36 a0g_37 a0g_38 a0g_39 v1na0_11 ) (cwV 1 hts gX8_mean_X8_no rfl rfl rfl zd_X8_no ⟨Nat.le_of_ble_eq_true rfl, Nat.le_of_ble_eq_true rfl⟩) ⟨ax_blind (fun _ _ _ _ _ => trivial), zr_8 (zp_K hK) (zp_P1 hP) (q0 := 0) rfl, ax_pre (zp_P1 hP) (zp_K hK) (zp_D1 hD) (fun _ _ => trivial)⟩ rfl rfl hl.1 rfl (lv_room (Nat.le_of_ble_eq_true rfl)) dX8_mean_30 ⟨Nat.le_of_ble_eq_true rfl, Nat.le_of_ble_eq_true rfl⟩) hS (fun q _ h => zp_F1 hD hS hA q h) (zp_F1 hD hS hA) (fun r30 u t H locs ht hvm hw hB hz1 hk1 hS1 => zx_1 hB (fun v30na0_11 hB => zo1 hB ht hP hD hk1 (zp_F1 hD hS hA) hS1 (fun hP hK1 hD hS => ?_)))
        have hw : r30 = (-1) := hw
        have hw := hw.symm
        subst hw
        obtain ⟨x33, ex33⟩ : ∃ y : Int64, y = ((-1) : Int32).toInt64 := ⟨_, rfl⟩
        refine lv_i2l (v := x33) hx hb dX8_mean_33 ex33.symm ?_
        exact W.lret (v := x33) hx hb hr (fun t ht hW => ⟨⟨x33, (), rfl, trivial, v1na0_0, v30na0_11, a0_30, a0_31, fa0_29, bfa0_29, by rw [ht]; exact hP, va_K.moved hW.alike hK, hD⟩, hS.F ht⟩) hS.2.2 dX8_mean_34
      · obtain ⟨hw, h17_0, h17_1, h17_2, h17_3⟩ := hw
        subst hw
        exact absurd h17_0 (by decide)

set_option maxHeartbeats 4000000 in
set_option maxRecDepth 100000 in
theorem c_X8_drawWhy (l : Launch) (dC : Nat → ClassId) (dI : Nat → Nat → Nat) (sz : Nat) (a0 : Nat) (a1 : Int32) (a2 : Int32) (a3 : Int32) (a4 : Int32) (a0g_0 a0g_1 a0g_2 a0g_3 a0g_4 a0g_5 a0g_6 a0g_7 a0g_8 a0g_9 a0g_10 a0g_11 a0g_12 a0g_13 a0g_14 a0g_16 a0g_18 a0g_19 a0g_20 a0g_21 a0g_22 a0g_23 a0g_24 a0g_25 a0g_26 a0g_27 a0g_28 a0g_32 a0g_33 a0g_34 a0g_35 a0g_36 a0g_37 : Value) (a0_15 : Nat) (a0_17 : Nat) (a0_29 : Nat) (a0_30 : Int32) (a0_31 : Int32) (a0_38 : Int32) (a0_39 : Int32) (ka0_17 : ClassId) (fa0_17 : Nat → Int32) (ka0_29 : ClassId) (fa0_29 : Nat → Int32) (ka0_15 : ClassId) (fa0_15 : Nat → Int32) (ba1_l : (0 : Int) ≤ a1.toInt) (ba1_u : a1.toInt ≤ (1 : Int)) (bfa0_17 : ((∀ k : Nat, 0 ≤ k → k ≤ 8 → (0 : Int) ≤ (fa0_17 k).toInt ∧ (fa0_17 k).toInt ≤ 8) ∧ (∀ k : Nat, 19 ≤ k → k ≤ 19 → (0 : Int) ≤ (fa0_17 k).toInt ∧ (fa0_17 k).toInt ≤ 8) ∧ (∀ k : Nat, 20 ≤ k → k ≤ 20 → (0 : Int) ≤ (fa0_17 k).toInt ∧ (fa0_17 k).toInt ≤ 19))) (bfa0_29 : (∀ k, (0 : Int) ≤ (fa0_29 k).toInt ∧ (fa0_29 k).toInt ≤ 8)) (bfa0_15 : ((∀ k : Nat, 0 ≤ k → k ≤ 0 → (2 : Int) ≤ (fa0_15 k).toInt ∧ (fa0_15 k).toInt ≤ 9) ∧ (∀ k : Nat, 1 ≤ k → k ≤ 1 → (1 : Int) ≤ (fa0_15 k).toInt ∧ (fa0_15 k).toInt ≤ 20) ∧ (∀ k : Nat, 2 ≤ k → k ≤ 2 → (0 : Int) ≤ (fa0_15 k).toInt ∧ (fa0_15 k).toInt ≤ 8) ∧ (∀ k : Nat, 3 ≤ k → k ≤ 3 → (0 : Int) ≤ (fa0_15 k).toInt ∧ (fa0_15 k).toInt ≤ 100) ∧ (∀ k : Nat, 4 ≤ k → k ≤ 4 → (0 : Int) ≤ (fa0_15 k).toInt ∧ (fa0_15 k).toInt ≤ 9) ∧ (∀ k : Nat, 5 ≤ k → k ≤ 5 → (0 : Int) ≤ (fa0_15 k).toInt ∧ (fa0_15 k).toInt ≤ 3) ∧ (∀ k : Nat, 6 ≤ k → k ≤ 6 → (0 : Int) ≤ (fa0_15 k).toInt ∧ (fa0_15 k).toInt ≤ 6) ∧ (∀ k : Nat, 7 ≤ k → k ≤ 9 → (0 : Int) ≤ (fa0_15 k).toInt ∧ (fa0_15 k).toInt ≤ 8) ∧ (∀ k : Nat, 12 ≤ k → k ≤ 29 → (0 : Int) ≤ (fa0_15 k).toInt ∧ (fa0_15 k).toInt ≤ 20) ∧ (∀ k : Nat, 30 ≤ k → k ≤ 35 → (0 : Int) ≤ (fa0_15 k).toInt ∧ (fa0_15 k).toInt ≤ 8) ∧ (∀ k : Nat, 36 ≤ k → k ≤ 47 → (0 : Int) ≤ (fa0_15 k).toInt ∧ (fa0_15 k).toInt ≤ 999))) : zm l yX8_drawWhy wsX8_drawWhy ({ frames := 2, cells := 0, slots := 0, locals := 44 }) [.ref a0, .int a1, .int a2, .int a3, .int a4] dC dI sz [(a0, .inr (8, [a0g_0, a0g_1, a0g_2, a0g_3, a0g_4, a0g_5, a0g_6, a0g_7, a0g_8, a0g_9, a0g_10, a0g_11, a0g_12, a0g_13, a0g_14, Value.ref a0_15, a0g_16, Value.ref a0_17, a0g_18, a0g_19, a0g_20, a0g_21, a0g_22, a0g_23, a0g_24, a0g_25, a0g_26, a0g_27, a0g_28, Value.ref a0_29, Value.int a0_30, Value.int a0_31, a0g_32, a0g_33, a0g_34, a0g_35, a0g_36, a0g_37, Value.int a0_38, Value.int a0_39])), (a0_17, .inl (ka0_17, 23, .inl (fa0_17))), (a0_29, .inl (ka0_29, 10, .inl (fa0_29))), (a0_15, .inl (ka0_15, 156, .inl (fa0_15)))] [(ka0_17, .int), (ka0_29, .int), (ka0_15, .int)] (fun A _ => True) (fun A => va_Qi (fun (r : Int32) (_ : Unit) => (r = 2 ∧ (1 : Int) ≤ a1.toInt ∧ a1.toInt ≤ (1 : Int)) ∨ (r = 1 ∧ (0 : Int) ≤ a1.toInt ∧ a1.toInt ≤ (0 : Int)) ∨ (r = 0 ∧ (1 : Int) ≤ a1.toInt ∧ a1.toInt ≤ (1 : Int) ∧ (0 : Int) ≤ a3.toInt ∧ a3.toInt ≤ (65536 : Int) ∧ (0 : Int) ≤ a4.toInt ∧ a4.toInt ≤ (200 : Int))) (fun (_ : Unit) (t : State) => ∃ na0_30 : Int32, ∃ na0_31 : Int32, ∃ na0_38 : Int32, ∃ na0_39 : Int32, ∃ nfa0_29 : Nat → Int32, (∀ k, (0 : Int) ≤ (nfa0_29 k).toInt ∧ (nfa0_29 k).toInt ≤ 8) ∧ ax_B dC dI A [(a0, .inr (8, [a0g_0, a0g_1, a0g_2, a0g_3, a0g_4, a0g_5, a0g_6, a0g_7, a0g_8, a0g_9, a0g_10, a0g_11, a0g_12, a0g_13, a0g_14, Value.ref a0_15, a0g_16, Value.ref a0_17, a0g_18, a0g_19, a0g_20, a0g_21, a0g_22, a0g_23, a0g_24, a0g_25, a0g_26, a0g_27, a0g_28, Value.ref a0_29, Value.int na0_30, Value.int na0_31, a0g_32, a0g_33, a0g_34, a0g_35, a0g_36, a0g_37, Value.int na0_38, Value.int na0_39])), (a0_17, .inl (ka0_17, 23, .inl (fa0_17))), (a0_29, .inl (ka0_29, 10, .inl (nfa0_29))), (a0_15, .inl (ka0_15, 156, .inl (fa0_15)))] [(ka0_17, .int), (ka0_29, .int), (ka0_15, .int)] t) A) := by
  refine zh (cc := cX8_drawWhy) (maxL := 9) (ret := (some .int)) zn_RX8 rfl (Nat.le_of_ble_eq_true rfl) (fun p e s m below meth c A ls hx hb hml hr hts (hown : s.vm.findClass RX8 = some m.cls) hlocks hA hS hP hK hD hE (hl : lv_has ls 9 [(0, .ref a0), (1, .int a1), (2, .int a2), (3, .int a3), (4, .int a4)]) => ?_)
  refine ai_open (fun K hK0 => ?_)
  refine (hK0 _ _ _).mpr ?_
  refine lv_aload_n hx hb dX8_drawWhy_0 rfl (lv_at hl 0 rfl) ?_
  refine lv_iload_n hx hb dX8_drawWhy_1 rfl (lv_at hl 1 rfl) ?_
  refine lv_iload_n hx hb dX8_drawWhy_2 rfl (lv_at hl 3 rfl) ?_
  refine lv_iconst (v := 0) hx hb dX8_drawWhy_3 zk_iconst_0 ?_
  refine lv_ldcw (v := 65536) hx hb hown (hts (.constant RX8 374 (65536)) (zm_X8_drawWhy_r1 (List.mem_of_getElem? (i := 0) rfl))) dX8_drawWhy_4 ?_
  refine va_calli (va_runS (As := [.int a3, .int 0, .int 65536]) (rest := [.int a1, .ref a0]) ⟨hx, hb, hml, hown, hts⟩ (c_X8_in l dC dI s.heap.size a3 0 65536 ) (va_cwS 3 hts gX8_drawWhy_X8_in rfl rfl rfl zd_X8_in.2 ⟨Nat.le_of_ble_eq_true rfl, Nat.le_of_ble_eq_true rfl⟩) ⟨ax_blind (fun _ _ _ _ _ => trivial), ax_pre (zp_P0 hP) (zp_K hK) (zp_D0 hD) (fun _ _ => trivial)⟩ rfl rfl hl.1 rfl (lv_room (Nat.le_of_ble_eq_true rfl)) dX8_drawWhy_7 ⟨Nat.le_of_ble_eq_true rfl, Nat.le_of_ble_eq_true rfl⟩) hS (fun q _ h => zp_F0 hD hS hA q h) (zp_F0 hD hS hA) (fun r7 u t H locs ht hvm hw hB hz1 hk1 hS1 => zo0 hB ht hP hD hk1 (zp_F0 hD hS hA) hS1 (fun hP hK1 hD hS => ?_))
  rcases hw with hw | hw
  · obtain ⟨hw, h7⟩ := hw
    subst hw
    have l7k0_a3 : (0 : Int) ≤ a3.toInt := Int.le_trans zq5 h7.1
    have u7k0_a3 : a3.toInt ≤ (65536 : Int) := Int.le_trans h7.2 zq105
    refine lv_if_eq (tgt := 29) hx hb dX8_drawWhy_10 (by decide) (fun c10 => absurd c10 (by decide +kernel)) (fun _ => ?_)
    refine lv_iload hx hb dX8_drawWhy_13 (lv_at hl 4 rfl) ?_
    refine lv_iconst (v := 0) hx hb dX8_drawWhy_15 zk_iconst_0 ?_
    refine lv_sipush (v := 200) hx hb dX8_drawWhy_16 zk_sipush_200 ?_
    refine va_calli (va_runS (As := [.int a4, .int 0, .int 200]) (rest := [.int a1, .ref a0]) ⟨hx, hb, hml, hown, hts⟩ (c_X8_in l dC dI H.size a4 0 200 ) (va_cwS 3 hts gX8_drawWhy_X8_in rfl rfl rfl zd_X8_in.2 ⟨Nat.le_of_ble_eq_true rfl, Nat.le_of_ble_eq_true rfl⟩) ⟨ax_blind (fun _ _ _ _ _ => trivial), ax_pre (zp_P0 hP) (zp_K hK) (zp_D0 hD) (fun _ _ => trivial)⟩ rfl rfl hl.1 rfl (lv_room (Nat.le_of_ble_eq_true rfl)) dX8_drawWhy_19 ⟨Nat.le_of_ble_eq_true rfl, Nat.le_of_ble_eq_true rfl⟩) hS (fun q _ h => zp_F0 hD hS hA q h) (zp_F0 hD hS hA) (fun r19 u t H locs ht hvm hw hB hz1 hk1 hS1 => zo0 hB ht hP hD hk1 (zp_F0 hD hS hA) hS1 (fun hP hK1 hD hS => ?_))
    rcases hw with hw | hw
    · obtain ⟨hw, h19⟩ := hw
      subst hw
      have l19k0_a4 : (0 : Int) ≤ a4.toInt := Int.le_trans zq5 h19.1
      have u19k0_a4 : a4.toInt ≤ (200 : Int) := Int.le_trans h19.2 zq65
      refine lv_if_eq (tgt := 29) hx hb dX8_drawWhy_22 (by decide) (fun c22 => absurd c22 (by decide +kernel)) (fun _ => ?_)
      refine lv_iconst (v := 1) hx hb dX8_drawWhy_25 zk_iconst_1 ?_
      refine lv_goto (tgt := 30) hx hb dX8_drawWhy_26 (by decide) ?_
      refine va_calli (va_runV (As := [.int a1, .int 1]) (rest := []) ⟨hx, hb, hml, hown, hts⟩ (c_X8_whyB l dC dI H.size a0 a1 1 a0g_0 a0g_1 a0g_2 a0g_3 a0g_4 a0g_5 a0g_6 a0g_7 a0g_8 a0g_9 a0g_10 a0g_11 a0g_12 a0g_13 a0g_14 (Value.ref a0_15) a0g_16 (Value.ref a0_17) a0g_18 a0g_19 a0g_20 a0g_21 a0g_22 a0g_23 a0g_24 a0g_25 a0g_26 a0g_27 a0g_28 (Value.ref a0_29) (Value.int a0_30) (Value.int a0_31) a0g_32 a0g_33 a0g_34 a0g_35 a0g_36 a0g_37 (Value.int a0_38) (Value.int a0_39) ba1_l ba1_u (Int.le_trans zq4 zq1) zq0) (cwV 2 hts gX8_drawWhy_X8_why rfl rfl rfl zd_X8_why ⟨Nat.le_of_ble_eq_true rfl, Nat.le_of_ble_eq_true rfl⟩) ⟨ax_blind (fun _ _ _ _ _ => trivial), zr_8 (zp_K hK) (zp_P1 hP) (q0 := 0) rfl, ax_pre (zp_P1 hP) (zp_K hK) (zp_D1 hD) (fun _ _ => trivial)⟩ rfl rfl hl.1 rfl (lv_room (Nat.le_of_ble_eq_true rfl)) dX8_drawWhy_30 ⟨Nat.le_of_ble_eq_true rfl, Nat.le_of_ble_eq_true rfl⟩) hS (fun q _ h => zp_F1 hD hS hA q h) (zp_F1 hD hS hA) (fun r30 u t H locs ht hvm hw hB hz1 hk1 hS1 => zo1 hB ht hP hD hk1 (zp_F1 hD hS hA) hS1 (fun hP hK1 hD hS => ?_))
      rcases hw with hw | hw | hw
      · obtain ⟨hw, h30_0, h30_1, h30_2, h30_3⟩ := hw
        subst hw
        have l30k0_a1 : (1 : Int) ≤ a1.toInt := h30_0
        have u30k0_a1 : a1.toInt ≤ (1 : Int) := ba1_u
        exact absurd h30_3 (by decide)
      · obtain ⟨hw, h30_0, h30_1⟩ := hw
        subst hw
        have l30k1_a1 : (0 : Int) ≤ a1.toInt := ba1_l
        have u30k1_a1 : a1.toInt ≤ (0 : Int) := h30_1
        refine lv_istore (lv' := [(5, .int 1), (0, .ref a0), (1, .int a1), (2, .int a2), (3, .int a3), (4, .int a4)]) hx hb dX8_drawWhy_33 hl (by decide) rfl (fun ls hl => ?_)
        refine lv_iload hx hb dX8_drawWhy_35 (lv_at hl 0 rfl) ?_
        refine lv_if_eq (tgt := 43) hx hb dX8_drawWhy_37 (by decide) (fun c37 => absurd c37 (by decide +kernel)) (fun _ => ?_)
        refine lv_iload hx hb dX8_drawWhy_40 (lv_at hl 0 rfl) ?_
        exact W.iret (v := 1) hx hb hr (fun t ht hW => ⟨⟨1, (), rfl, (Or.inr (Or.inl ⟨rfl, l30k1_a1, u30k1_a1⟩)), a0_30, a0_31, a0_38, a0_39, fa0_29, bfa0_29, by rw [ht]; exact hP, va_K.moved hW.alike hK, hD⟩, hS.F ht⟩) hS.2.2 dX8_drawWhy_42
      · obtain ⟨hw, h30_0, h30_1, h30_2, h30_3⟩ := hw
        subst hw
        have l30k2_a1 : (1 : Int) ≤ a1.toInt := h30_0
        have u30k2_a1 : a1.toInt ≤ (1 : Int) := ba1_u
        refine lv_istore (lv' := [(5, .int 0), (0, .ref a0), (1, .int a1), (2, .int a2), (3, .int a3), (4, .int a4)]) hx hb dX8_drawWhy_33 hl (by decide) rfl (fun ls hl => ?_)
        refine lv_iload hx hb dX8_drawWhy_35 (lv_at hl 0 rfl) ?_
        refine lv_if_eq (tgt := 43) hx hb dX8_drawWhy_37 (by decide) (fun _ => ?_) (fun c37 => absurd (by decide +kernel) c37)
        refine lv_iload_n hx hb dX8_drawWhy_43 rfl (lv_at hl 4 rfl) ?_
        refine lv_istore (lv' := [(6, .int a3), (5, .int 0), (0, .ref a0), (1, .int a1), (2, .int a2), (3, .int a3), (4, .int a4)]) hx hb dX8_drawWhy_44 hl (by decide) rfl (fun ls hl => ?_)
        refine lv_aload_n hx hb dX8_drawWhy_46 rfl (lv_at hl 2 rfl) ?_
        refine lv_bipush (v := (-2)) hx hb dX8_drawWhy_47 zk_bipush_n2 ?_
        refine va_put (D := (dC, dI)) (ci := 8) (v := .int (-2)) (ty := .int) (C := RX8) (T := TX8) (N := 40) hx hb hts zi_X8_drawWhy_8 tyX8 tyX8_ok nmX8 hown hK hP hD hS 0 rfl rfl 38 (by decide) (hts (.fieldLink RX8 375 "WaxTurnsModel" "shutFirst" "I") (zm_X8_drawWhy_r1 (List.mem_of_getElem? (i := 1) rfl))) (fun _ h9 => h9) rfl (tyX8_ok 38 (by decide)) rfl rfl (Nat.le_of_ble_eq_true rfl) dX8_drawWhy_49 (fun H locs hP hD hS => ?_)
        refine zs_0 (y := (a0, .inr (8, [a0g_0, a0g_1, a0g_2, a0g_3, a0g_4, a0g_5, a0g_6, a0g_7, a0g_8, a0g_9, a0g_10, a0g_11, a0g_12, a0g_13, a0g_14, Value.ref a0_15, a0g_16, Value.ref a0_17, a0g_18, a0g_19, a0g_20, a0g_21, a0g_22, a0g_23, a0g_24, a0g_25, a0g_26, a0g_27, a0g_28, Value.ref a0_29, Value.int a0_30, Value.int a0_31, a0g_32, a0g_33, a0g_34, a0g_35, a0g_36, a0g_37, Value.int (-2), Value.int a0_39]))) hP hD rfl (fun hP hD => ?_)
        refine lv_aload_n hx hb dX8_drawWhy_52 rfl (lv_at hl 2 rfl) ?_
        refine lv_iconst (v := 0) hx hb dX8_drawWhy_53 zk_iconst_0 ?_
        refine va_put (D := (dC, dI)) (ci := 8) (v := .int 0) (ty := .int) (C := RX8) (T := TX8) (N := 40) hx hb hts zi_X8_drawWhy_8 tyX8 tyX8_ok nmX8 hown hK hP hD hS 0 rfl rfl 39 (by decide) (hts (.fieldLink RX8 378 "WaxTurnsModel" "aliveOften" "I") (zm_X8_drawWhy_r1 (List.mem_of_getElem? (i := 2) rfl))) (fun _ h9 => h9) rfl (tyX8_ok 39 (by decide)) rfl rfl (Nat.le_of_ble_eq_true rfl) dX8_drawWhy_54 (fun H locs hP hD hS => ?_)
        refine zs_0 (y := (a0, .inr (8, [a0g_0, a0g_1, a0g_2, a0g_3, a0g_4, a0g_5, a0g_6, a0g_7, a0g_8, a0g_9, a0g_10, a0g_11, a0g_12, a0g_13, a0g_14, Value.ref a0_15, a0g_16, Value.ref a0_17, a0g_18, a0g_19, a0g_20, a0g_21, a0g_22, a0g_23, a0g_24, a0g_25, a0g_26, a0g_27, a0g_28, Value.ref a0_29, Value.int a0_30, Value.int a0_31, a0g_32, a0g_33, a0g_34, a0g_35, a0g_36, a0g_37, Value.int (-2), Value.int 0]))) hP hD rfl (fun hP hD => ?_)
        refine lv_aload_n hx hb dX8_drawWhy_57 rfl (lv_at hl 2 rfl) ?_
        have hKc := hK.sub (tys' := [(ka0_17, .int), (ka0_29, .int), (ka0_15, .int)]) [0, 1, 2] rfl
        refine va_callv (va_runV (As := []) (rest := []) ⟨hx, hb, hml, hown, hts⟩ (c_X8_goRound l dC dI H.size a0 a0g_0 a0g_1 a0g_2 a0g_3 a0g_4 a0g_5 a0g_6 a0g_7 a0g_8 a0g_9 a0g_10 a0g_11 a0g_12 a0g_13 a0g_14 a0g_16 a0g_18 a0g_19 a0g_20 a0g_21 a0g_22 a0g_23 a0g_24 a0g_25 a0g_26 a0g_27 a0g_28 a0g_32 a0g_33 a0g_34 a0g_35 a0g_36 a0g_37 (Value.int (-2)) (Value.int 0) a0_15 a0_17 a0_29 a0_30 a0_31 ka0_17 fa0_17 ka0_29 fa0_29 ka0_15 fa0_15 bfa0_17 bfa0_29 bfa0_15) (cwV 0 hts gX8_drawWhy_X8_goRound rfl rfl rfl zd_X8_goRound ⟨Nat.le_of_ble_eq_true rfl, Nat.le_of_ble_eq_true rfl⟩) ⟨ax_blind (fun _ _ _ _ _ => trivial), zr_8 hKc (zp_P4 hP) (q0 := 0) rfl, ax_pre (zp_P4 hP) hKc (zp_D4 hD) (fun _ _ => trivial)⟩ rfl rfl hl.1 rfl (lv_room (Nat.le_of_ble_eq_true rfl)) dX8_drawWhy_58 ⟨Nat.le_of_ble_eq_true rfl, Nat.le_of_ble_eq_true rfl⟩) hS (fun q _ h => zp_F4 hD hS hA q h) (zp_F4 hD hS hA) (fun u t H locs ht hvm hw hB hz1 hk1 hS1 => zx_3 hB (fun v58na0_30 v58na0_31 v58nfa0_29 hB => zy_2 hB (fun bv58nfa0_29 hraw58_0 hB => zo4 hB ht hP hD hk1 (zp_F4 hD hS hA) hS1 (fun hP hK1 hD hS => ?_))))
        refine lv_iconst (v := 1) hx hb dX8_drawWhy_61 zk_iconst_1 ?_
        refine lv_istore (lv' := [(7, .int 1), (6, .int a3), (5, .int 0), (0, .ref a0), (1, .int a1), (2, .int a2), (3, .int a3), (4, .int a4)]) hx hb dX8_drawWhy_62 hl (by decide) rfl (fun ls hl => ?_)
        have J64 : ∀ (n : Nat) (j64l7 : Int32) (j64l6 : Int32) (j64a0_38 : Int32) (j64a0_39 : Int32) (H : Heap) (locs : List Loc) (ls : Array Slot), (202 : Int) - j64l7.toInt ≤ (n : Int) → (1 : Int) ≤ j64l7.toInt → j64l7.toInt ≤ (201 : Int) → (0 : Int) ≤ j64l6.toInt → j64l6.toInt ≤ (65536 : Int) → va_P (dC, dI) vwCl [(a0, .inr (8, [a0g_0, a0g_1, a0g_2, a0g_3, a0g_4, a0g_5, a0g_6, a0g_7, a0g_8, a0g_9, a0g_10, a0g_11, a0g_12, a0g_13, a0g_14, Value.ref a0_15, a0g_16, Value.ref a0_17, a0g_18, a0g_19, a0g_20, a0g_21, a0g_22, a0g_23, a0g_24, a0g_25, a0g_26, a0g_27, a0g_28, Value.ref a0_29, Value.int v58na0_30, Value.int v58na0_31, a0g_32, a0g_33, a0g_34, a0g_35, a0g_36, a0g_37, Value.int j64a0_38, Value.int j64a0_39])), (a0_17, .inl (ka0_17, 23, .inl (fa0_17))), (a0_29, .inl (ka0_29, 10, .inl (v58nfa0_29))), (a0_15, .inl (ka0_15, 156, .inl (fa0_15)))] H → va_D A [(a0, .inr (8, [a0g_0, a0g_1, a0g_2, a0g_3, a0g_4, a0g_5, a0g_6, a0g_7, a0g_8, a0g_9, a0g_10, a0g_11, a0g_12, a0g_13, a0g_14, Value.ref a0_15, a0g_16, Value.ref a0_17, a0g_18, a0g_19, a0g_20, a0g_21, a0g_22, a0g_23, a0g_24, a0g_25, a0g_26, a0g_27, a0g_28, Value.ref a0_29, Value.int v58na0_30, Value.int v58na0_31, a0g_32, a0g_33, a0g_34, a0g_35, a0g_36, a0g_37, Value.int j64a0_38, Value.int j64a0_39])), (a0_17, .inl (ka0_17, 23, .inl (fa0_17))), (a0_29, .inl (ka0_29, 10, .inl (v58nfa0_29))), (a0_15, .inl (ka0_15, 156, .inl (fa0_15)))] → va_S A s.heap H locs → lv_has ls 9 [(0, .ref a0), (2, .int a2), (4, .int a4), (6, .int j64l6), (7, .int j64l7)] → K H locs (F0 m 64 ls []) := by
          intro n
          induction n with
          | zero =>
            intro j64l7 j64l6 j64a0_38 j64a0_39 H locs ls hm bj64l7_l bj64l7_u bj64l6_l bj64l6_u hP hD hS hl
            have h8 := ai_min j64l7
            have h9 := ai_max j64l7
            exact absurd hm (by omega)
          | succ n ih64 =>
            intro j64l7 j64l6 j64a0_38 j64a0_39 H locs ls hm bj64l7_l bj64l7_u bj64l6_l bj64l6_u hP hD hS hl
            refine (hK0 _ _ _).mpr ?_
            have hm64 := hm
            refine lv_iload hx hb dX8_drawWhy_64 (lv_at hl 4 rfl) ?_
            refine lv_iload hx hb dX8_drawWhy_66 (lv_at hl 2 rfl) ?_
            refine lv_icmp_gt (tgt := 159) hx hb dX8_drawWhy_68 (by decide) (fun c68 => ?_) (fun c68 => ?_)
            · have gc68 := ai_lt c68
              have u68t_a4 : a4.toInt ≤ (200 : Int) := u19k0_a4
              have l68t_j64l7 : (1 : Int) ≤ j64l7.toInt := bj64l7_l
              refine lv_iconst (v := 0) hx hb dX8_drawWhy_159 zk_iconst_0 ?_
              exact W.iret (v := 0) hx hb hr (fun t ht hW => ⟨⟨0, (), rfl, (Or.inr (Or.inr (⟨rfl, l30k2_a1, u30k2_a1, l7k0_a3, u7k0_a3, l19k0_a4, u68t_a4⟩))), v58na0_30, v58na0_31, j64a0_38, j64a0_39, v58nfa0_29, bv58nfa0_29, by rw [ht]; exact hP, va_K.moved hW.alike hK, hD⟩, hS.F ht⟩) hS.2.2 dX8_drawWhy_160
            · have gc68 := ai_nlt c68
              have u68f_j64l7 : j64l7.toInt ≤ (200 : Int) := Int.le_trans gc68 u19k0_a4
              have l68f_a4 : (1 : Int) ≤ a4.toInt := Int.le_trans bj64l7_l gc68
              refine lv_bipush (v := 75) hx hb dX8_drawWhy_71 zk_bipush_75 ?_
              refine lv_iload hx hb dX8_drawWhy_73 (lv_at hl 3 rfl) ?_
              refine lv_imul hx hb dX8_drawWhy_75 ?_
              refine lv_topi (fun x75 ex75 => ?_)
              have qx75 : x75.toInt = (75 : Int32).toInt * j64l6.toInt ∧ (0 : Int) ≤ x75.toInt ∧ x75.toInt ≤ 4915200 := ai_mul ex75 ⟨zq202, zq203⟩ ⟨bj64l6_l, bj64l6_u⟩ (by decide) (by decide) zq204
              have wx75 : x75.toInt = 75 * j64l6.toInt := qx75.1
              refine lv_bipush (v := 74) hx hb dX8_drawWhy_76 zk_bipush_74 ?_
              refine lv_iadd hx hb dX8_drawWhy_78 ?_
              refine lv_topi (fun x78 ex78 => ?_)
              have qx78 : x78.toInt = x75.toInt + (74 : Int32).toInt := ai_add ex78 ⟨qx75.2.1, qx75.2.2⟩ ⟨zq205, zq206⟩ (by decide) (by decide)
              have bx78 : (74 : Int) ≤ x78.toInt ∧ x78.toInt ≤ 4915274 := ⟨by rw [qx78]; exact Int.add_le_add qx75.2.1 zq205, by rw [qx78]; exact Int.add_le_add qx75.2.2 zq206⟩
              have wx78 : x78.toInt = x75.toInt + 74 := qx78
              refine lv_ldcw (v := 65537) hx hb hown (hts (.constant RX8 381 (65537)) (zm_X8_drawWhy_r1 (List.mem_of_getElem? (i := 3) rfl))) dX8_drawWhy_79 ?_
              refine lv_irem hx hb dX8_drawWhy_82 (by decide +kernel) ?_
              refine lv_topi (fun x82 ex82 => ?_)
              have qx82 := ai_rem2 ex82 (Int.le_trans zq207 bx78.1) (Int.lt_of_lt_of_le zq208 zq209) zq210
              have wx82 : x82.toInt = x78.toInt % 65537 := qx82.1
              refine lv_istore (lv' := [(6, .int x82), (0, .ref a0), (2, .int a2), (4, .int a4), (7, .int j64l7)]) hx hb dX8_drawWhy_83 hl (by decide) rfl (fun ls hl => ?_)
              refine lv_iload hx hb dX8_drawWhy_85 (lv_at hl 0 rfl) ?_
              refine lv_bipush (v := 100) hx hb dX8_drawWhy_87 zk_bipush_100 ?_
              refine lv_irem hx hb dX8_drawWhy_89 (by decide +kernel) ?_
              refine lv_topi (fun x89 ex89 => ?_)
              have qx89 := ai_rem2 ex89 qx82.2.1 (Int.lt_of_lt_of_le zq23 zq24) zq32
              have wx89 : x89.toInt = x82.toInt % 100 := qx89.1
              refine lv_aload_n hx hb dX8_drawWhy_90 rfl (lv_at hl 1 rfl) ?_
              refine va_get (D := (dC, dI)) (ci := 8) (v := .ref a0_15) (C := RX8) (T := TX8) (N := 40) hx hb hts zi_X8_drawWhy_8 hown hK hP 0 rfl rfl 15 (by decide) (hts (.fieldLink RX8 20 "WaxTurnsModel" "\x72" "[I") (zm_X8_drawWhy_r1 (List.mem_of_getElem? (i := 4) rfl))) (fun _ h9 => h9) rfl dX8_drawWhy_91 ?_
              refine lv_iconst (v := 3) hx hb dX8_drawWhy_94 zk_iconst_3 ?_
              refine va_iald hx hb hK hP 3 2 rfl rfl (by unfold vp_in; decide +kernel) dX8_drawWhy_95 ?_
              refine lv_topi (fun x95 ex95 => ?_)
              have bx95 : (0 : Int) ≤ x95.toInt ∧ x95.toInt ≤ 100 := by rw [ex95]; exact ai_rd bfa0_15.2.2.2.1 zq8 zq9 (by decide) (by decide) (by decide)
              have J104 : ∀ (j104s0 : Int32) (H : Heap) (locs : List Loc) (ls : Array Slot), (0 : Int) ≤ j104s0.toInt → j104s0.toInt ≤ (1 : Int) → va_P (dC, dI) vwCl [(a0, .inr (8, [a0g_0, a0g_1, a0g_2, a0g_3, a0g_4, a0g_5, a0g_6, a0g_7, a0g_8, a0g_9, a0g_10, a0g_11, a0g_12, a0g_13, a0g_14, Value.ref a0_15, a0g_16, Value.ref a0_17, a0g_18, a0g_19, a0g_20, a0g_21, a0g_22, a0g_23, a0g_24, a0g_25, a0g_26, a0g_27, a0g_28, Value.ref a0_29, Value.int v58na0_30, Value.int v58na0_31, a0g_32, a0g_33, a0g_34, a0g_35, a0g_36, a0g_37, Value.int j64a0_38, Value.int j64a0_39])), (a0_17, .inl (ka0_17, 23, .inl (fa0_17))), (a0_29, .inl (ka0_29, 10, .inl (v58nfa0_29))), (a0_15, .inl (ka0_15, 156, .inl (fa0_15)))] H → va_D A [(a0, .inr (8, [a0g_0, a0g_1, a0g_2, a0g_3, a0g_4, a0g_5, a0g_6, a0g_7, a0g_8, a0g_9, a0g_10, a0g_11, a0g_12, a0g_13, a0g_14, Value.ref a0_15, a0g_16, Value.ref a0_17, a0g_18, a0g_19, a0g_20, a0g_21, a0g_22, a0g_23, a0g_24, a0g_25, a0g_26, a0g_27, a0g_28, Value.ref a0_29, Value.int v58na0_30, Value.int v58na0_31, a0g_32, a0g_33, a0g_34, a0g_35, a0g_36, a0g_37, Value.int j64a0_38, Value.int j64a0_39])), (a0_17, .inl (ka0_17, 23, .inl (fa0_17))), (a0_29, .inl (ka0_29, 10, .inl (v58nfa0_29))), (a0_15, .inl (ka0_15, 156, .inl (fa0_15)))] → va_S A s.heap H locs → lv_has ls 9 [(0, .ref a0), (2, .int a2), (4, .int a4), (6, .int x82), (7, .int j64l7)] → K H locs (F0 m 104 ls [.int j104s0]) := by
                intro j104s0 H locs ls  bj104s0_l bj104s0_u hP hD hS hl
                refine (hK0 _ _ _).mpr ?_
                refine lv_istore (lv' := [(8, .int j104s0), (0, .ref a0), (2, .int a2), (4, .int a4), (6, .int x82), (7, .int j64l7)]) hx hb dX8_drawWhy_104 hl (by decide) rfl (fun ls hl => ?_)
                refine lv_iload hx hb dX8_drawWhy_106 (lv_at hl 0 rfl) ?_
                have J124 : ∀ (j124a0_38 : Int32) (H : Heap) (locs : List Loc) (ls : Array Slot), va_P (dC, dI) vwCl [(a0, .inr (8, [a0g_0, a0g_1, a0g_2, a0g_3, a0g_4, a0g_5, a0g_6, a0g_7, a0g_8, a0g_9, a0g_10, a0g_11, a0g_12, a0g_13, a0g_14, Value.ref a0_15, a0g_16, Value.ref a0_17, a0g_18, a0g_19, a0g_20, a0g_21, a0g_22, a0g_23, a0g_24, a0g_25, a0g_26, a0g_27, a0g_28, Value.ref a0_29, Value.int v58na0_30, Value.int v58na0_31, a0g_32, a0g_33, a0g_34, a0g_35, a0g_36, a0g_37, Value.int j124a0_38, Value.int j64a0_39])), (a0_17, .inl (ka0_17, 23, .inl (fa0_17))), (a0_29, .inl (ka0_29, 10, .inl (v58nfa0_29))), (a0_15, .inl (ka0_15, 156, .inl (fa0_15)))] H → va_D A [(a0, .inr (8, [a0g_0, a0g_1, a0g_2, a0g_3, a0g_4, a0g_5, a0g_6, a0g_7, a0g_8, a0g_9, a0g_10, a0g_11, a0g_12, a0g_13, a0g_14, Value.ref a0_15, a0g_16, Value.ref a0_17, a0g_18, a0g_19, a0g_20, a0g_21, a0g_22, a0g_23, a0g_24, a0g_25, a0g_26, a0g_27, a0g_28, Value.ref a0_29, Value.int v58na0_30, Value.int v58na0_31, a0g_32, a0g_33, a0g_34, a0g_35, a0g_36, a0g_37, Value.int j124a0_38, Value.int j64a0_39])), (a0_17, .inl (ka0_17, 23, .inl (fa0_17))), (a0_29, .inl (ka0_29, 10, .inl (v58nfa0_29))), (a0_15, .inl (ka0_15, 156, .inl (fa0_15)))] → va_S A s.heap H locs → lv_has ls 9 [(0, .ref a0), (2, .int a2), (4, .int a4), (6, .int x82), (7, .int j64l7), (8, .int j104s0)] → K H locs (F0 m 124 ls []) := by
                  intro j124a0_38 H locs ls   hP hD hS hl
                  refine (hK0 _ _ _).mpr ?_
                  refine lv_aload_n hx hb dX8_drawWhy_124 rfl (lv_at hl 0 rfl) ?_
                  refine lv_dup hx hb dX8_drawWhy_125 rfl ?_
                  refine va_get (D := (dC, dI)) (ci := 8) (v := .int j64a0_39) (C := RX8) (T := TX8) (N := 40) hx hb hts zi_X8_drawWhy_8 hown hK hP 0 rfl rfl 39 (by decide) (hts (.fieldLink RX8 378 "WaxTurnsModel" "aliveOften" "I") (zm_X8_drawWhy_r1 (List.mem_of_getElem? (i := 2) rfl))) (fun _ h9 => h9) rfl dX8_drawWhy_126 ?_
                  refine lv_iload hx hb dX8_drawWhy_129 (lv_at hl 5 rfl) ?_
                  have J149 : ∀ (j149s0 : Int32) (H : Heap) (locs : List Loc) (ls : Array Slot), (0 : Int) ≤ j149s0.toInt → j149s0.toInt ≤ (1 : Int) → va_P (dC, dI) vwCl [(a0, .inr (8, [a0g_0, a0g_1, a0g_2, a0g_3, a0g_4, a0g_5, a0g_6, a0g_7, a0g_8, a0g_9, a0g_10, a0g_11, a0g_12, a0g_13, a0g_14, Value.ref a0_15, a0g_16, Value.ref a0_17, a0g_18, a0g_19, a0g_20, a0g_21, a0g_22, a0g_23, a0g_24, a0g_25, a0g_26, a0g_27, a0g_28, Value.ref a0_29, Value.int v58na0_30, Value.int v58na0_31, a0g_32, a0g_33, a0g_34, a0g_35, a0g_36, a0g_37, Value.int j124a0_38, Value.int j64a0_39])), (a0_17, .inl (ka0_17, 23, .inl (fa0_17))), (a0_29, .inl (ka0_29, 10, .inl (v58nfa0_29))), (a0_15, .inl (ka0_15, 156, .inl (fa0_15)))] H → va_D A [(a0, .inr (8, [a0g_0, a0g_1, a0g_2, a0g_3, a0g_4, a0g_5, a0g_6, a0g_7, a0g_8, a0g_9, a0g_10, a0g_11, a0g_12, a0g_13, a0g_14, Value.ref a0_15, a0g_16, Value.ref a0_17, a0g_18, a0g_19, a0g_20, a0g_21, a0g_22, a0g_23, a0g_24, a0g_25, a0g_26, a0g_27, a0g_28, Value.ref a0_29, Value.int v58na0_30, Value.int v58na0_31, a0g_32, a0g_33, a0g_34, a0g_35, a0g_36, a0g_37, Value.int j124a0_38, Value.int j64a0_39])), (a0_17, .inl (ka0_17, 23, .inl (fa0_17))), (a0_29, .inl (ka0_29, 10, .inl (v58nfa0_29))), (a0_15, .inl (ka0_15, 156, .inl (fa0_15)))] → va_S A s.heap H locs → lv_has ls 9 [(0, .ref a0), (2, .int a2), (4, .int a4), (6, .int x82), (7, .int j64l7)] → K H locs (F0 m 149 ls [.int j149s0, .int j64a0_39, .ref a0]) := by
                    intro j149s0 H locs ls  bj149s0_l bj149s0_u hP hD hS hl
                    refine (hK0 _ _ _).mpr ?_
                    refine lv_iadd hx hb dX8_drawWhy_149 ?_
                    refine lv_topi (fun x149 ex149 => ?_)
                    refine va_put (D := (dC, dI)) (ci := 8) (v := .int x149) (ty := .int) (C := RX8) (T := TX8) (N := 40) hx hb hts zi_X8_drawWhy_8 tyX8 tyX8_ok nmX8 hown hK hP hD hS 0 rfl rfl 39 (by decide) (hts (.fieldLink RX8 378 "WaxTurnsModel" "aliveOften" "I") (zm_X8_drawWhy_r1 (List.mem_of_getElem? (i := 2) rfl))) (fun _ h9 => h9) rfl (tyX8_ok 39 (by decide)) rfl rfl (Nat.le_of_ble_eq_true rfl) dX8_drawWhy_150 (fun H locs hP hD hS => ?_)
                    refine zs_0 (y := (a0, .inr (8, [a0g_0, a0g_1, a0g_2, a0g_3, a0g_4, a0g_5, a0g_6, a0g_7, a0g_8, a0g_9, a0g_10, a0g_11, a0g_12, a0g_13, a0g_14, Value.ref a0_15, a0g_16, Value.ref a0_17, a0g_18, a0g_19, a0g_20, a0g_21, a0g_22, a0g_23, a0g_24, a0g_25, a0g_26, a0g_27, a0g_28, Value.ref a0_29, Value.int v58na0_30, Value.int v58na0_31, a0g_32, a0g_33, a0g_34, a0g_35, a0g_36, a0g_37, Value.int j124a0_38, Value.int x149]))) hP hD rfl (fun hP hD => ?_)
                    obtain ⟨x153, ex153⟩ : ∃ y : Int32, y = j64l7 + Int32.ofInt 1 := ⟨_, rfl⟩
                    have qx153 : x153.toInt = j64l7.toInt + 1 := ai_inc ex153 (by decide) (by decide) u68f_j64l7 (by decide)
                    have bx153 : (2 : Int) ≤ x153.toInt ∧ x153.toInt ≤ 201 := ⟨by rw [qx153]; exact Int.add_le_add bj64l7_l (Int.le_refl _), by rw [qx153]; exact Int.add_le_add u68f_j64l7 (Int.le_refl _)⟩
                    refine lv_iinc (v := x153) (lv' := [(7, .int x153), (0, .ref a0), (2, .int a2), (4, .int a4), (6, .int x82)]) hx hb dX8_drawWhy_153 hl (k := 4) rfl ex153.symm (by decide) rfl (fun ls hl => ?_)
                    refine lv_goto (tgt := 64) hx hb dX8_drawWhy_156 (by decide) ?_
                    exact (hK0 _ _ _).mp (ih64 x153 x82 j124a0_38 x149 _ _ _ (by have h0 := qx153; omega) (Int.le_trans zq54 bx153.1) bx153.2 qx82.2.1 qx82.2.2 hP hD hS (lv_sub hl [1, 2, 3, 4, 0] rfl))
                  have J148 : ∀ (H : Heap) (locs : List Loc) (ls : Array Slot), va_P (dC, dI) vwCl [(a0, .inr (8, [a0g_0, a0g_1, a0g_2, a0g_3, a0g_4, a0g_5, a0g_6, a0g_7, a0g_8, a0g_9, a0g_10, a0g_11, a0g_12, a0g_13, a0g_14, Value.ref a0_15, a0g_16, Value.ref a0_17, a0g_18, a0g_19, a0g_20, a0g_21, a0g_22, a0g_23, a0g_24, a0g_25, a0g_26, a0g_27, a0g_28, Value.ref a0_29, Value.int v58na0_30, Value.int v58na0_31, a0g_32, a0g_33, a0g_34, a0g_35, a0g_36, a0g_37, Value.int j124a0_38, Value.int j64a0_39])), (a0_17, .inl (ka0_17, 23, .inl (fa0_17))), (a0_29, .inl (ka0_29, 10, .inl (v58nfa0_29))), (a0_15, .inl (ka0_15, 156, .inl (fa0_15)))] H → va_D A [(a0, .inr (8, [a0g_0, a0g_1, a0g_2, a0g_3, a0g_4, a0g_5, a0g_6, a0g_7, a0g_8, a0g_9, a0g_10, a0g_11, a0g_12, a0g_13, a0g_14, Value.ref a0_15, a0g_16, Value.ref a0_17, a0g_18, a0g_19, a0g_20, a0g_21, a0g_22, a0g_23, a0g_24, a0g_25, a0g_26, a0g_27, a0g_28, Value.ref a0_29, Value.int v58na0_30, Value.int v58na0_31, a0g_32, a0g_33, a0g_34, a0g_35, a0g_36, a0g_37, Value.int j124a0_38, Value.int j64a0_39])), (a0_17, .inl (ka0_17, 23, .inl (fa0_17))), (a0_29, .inl (ka0_29, 10, .inl (v58nfa0_29))), (a0_15, .inl (ka0_15, 156, .inl (fa0_15)))] → va_S A s.heap H locs → lv_has ls 9 [(0, .ref a0), (2, .int a2), (4, .int a4), (6, .int x82), (7, .int j64l7)] → K H locs (F0 m 148 ls [.int j64a0_39, .ref a0]) := by
                    intro  H locs ls   hP hD hS hl
                    refine (hK0 _ _ _).mpr ?_
                    refine lv_iconst (v := 0) hx hb dX8_drawWhy_148 zk_iconst_0 ?_
                    exact (hK0 _ _ _).mp (J149 0 _ _ _  zq5 (Int.le_trans zq6 zq4) hP hD hS (lv_sub hl [0, 1, 2, 3, 4] rfl))
                  refine lv_if_ne (tgt := 148) hx hb dX8_drawWhy_131 (by decide) (fun c131 => ?_) (fun c131 => ?_)
                  · have gc131 := ai_ne c131
                    have l131t_j104s0 : (1 : Int) ≤ j104s0.toInt := (by have h1 := bj104s0_l; have h2 : (0 : Int32).toInt = 0 := (by decide); rw [h2] at gc131; omega)
                    exact (hK0 _ _ _).mp (J148  _ _ _   hP hD hS (lv_sub hl [0, 1, 2, 3, 4] rfl))
                  · have gc131 := ai_eq c131
                    have u131f_j104s0 : j104s0.toInt ≤ (0 : Int) := Int.le_trans (Int.le_of_eq gc131) zq6
                    have l131f_j104s0 : (0 : Int) ≤ j104s0.toInt := bj104s0_l
                    refine lv_aload_n hx hb dX8_drawWhy_134 rfl (lv_at hl 0 rfl) ?_
                    refine lv_iload hx hb dX8_drawWhy_135 (lv_at hl 4 rfl) ?_
                    refine zc_cutc (wc := [(a0, .inr (8, [a0g_0, a0g_1, a0g_2, a0g_3, a0g_4, a0g_5, a0g_6, a0g_7, a0g_8, a0g_9, a0g_10, a0g_11, a0g_12, a0g_13, a0g_14, Value.ref a0_15, a0g_16, Value.ref a0_17, a0g_18, a0g_19, a0g_20, a0g_21, a0g_22, a0g_23, a0g_24, a0g_25, a0g_26, a0g_27, a0g_28, Value.ref a0_29, Value.int v58na0_30, Value.int v58na0_31, a0g_32, a0g_33, a0g_34, a0g_35, a0g_36, a0g_37, Value.int j124a0_38, Value.int j64a0_39])), (a0_29, .inl (ka0_29, 10, .inl (v58nfa0_29)))]) hP hD hS hA [0, 2] (by decide +kernel) rfl (fun hPc hDc hFc hCc => ?_)
                    have hKc := hK.sub (tys' := [(ka0_29, .int)]) [1] rfl
                    refine va_calli (va_runV (As := [.int j64l7]) (rest := [.int j64a0_39, .ref a0]) ⟨hx, hb, hml, hown, hts⟩ (c_X8_turnAt l dC dI H.size a0 j64l7 a0g_0 a0g_1 a0g_2 a0g_3 a0g_4 a0g_5 a0g_6 a0g_7 a0g_8 a0g_9 a0g_10 a0g_11 a0g_12 a0g_13 a0g_14 (Value.ref a0_15) a0g_16 (Value.ref a0_17) a0g_18 a0g_19 a0g_20 a0g_21 a0g_22 a0g_23 a0g_24 a0g_25 a0g_26 a0g_27 a0g_28 a0g_32 a0g_33 a0g_34 a0g_35 a0g_36 a0g_37 (Value.int j124a0_38) (Value.int j64a0_39) a0_29 v58na0_30 v58na0_31 ka0_29 v58nfa0_29 (Int.le_trans zq4 bj64l7_l) (by omega : (0 : Int) ≤ v58na0_30.toInt) (by omega : v58na0_30.toInt ≤ (8 : Int)) (by omega : (1 : Int) ≤ v58na0_31.toInt) (by omega : v58na0_31.toInt ≤ (9 : Int)) bv58nfa0_29 (by omega)) (cwV 1 hts gX8_drawWhy_X8_turnAt rfl rfl rfl zd_X8_turnAt ⟨Nat.le_of_ble_eq_true rfl, Nat.le_of_ble_eq_true rfl⟩) ⟨ax_blind (fun _ _ _ _ _ => trivial), zr_8 hKc hPc (q0 := 0) rfl, ax_pre hPc hKc hDc (fun _ _ => trivial)⟩ rfl rfl hl.1 rfl (lv_room (Nat.le_of_ble_eq_true rfl)) dX8_drawWhy_137 ⟨Nat.le_of_ble_eq_true rfl, Nat.le_of_ble_eq_true rfl⟩) hS (fun q _ h => hFc q h) hFc (fun r137 u t H locs ht hvm hw hB hz1 hk1 hS => zo hB ht (fun hP1 hK1 hD1 => ?_))
                    refine zc_backc (w := [(a0, .inr (8, [a0g_0, a0g_1, a0g_2, a0g_3, a0g_4, a0g_5, a0g_6, a0g_7, a0g_8, a0g_9, a0g_10, a0g_11, a0g_12, a0g_13, a0g_14, Value.ref a0_15, a0g_16, Value.ref a0_17, a0g_18, a0g_19, a0g_20, a0g_21, a0g_22, a0g_23, a0g_24, a0g_25, a0g_26, a0g_27, a0g_28, Value.ref a0_29, Value.int v58na0_30, Value.int v58na0_31, a0g_32, a0g_33, a0g_34, a0g_35, a0g_36, a0g_37, Value.int j124a0_38, Value.int j64a0_39])), (a0_17, .inl (ka0_17, 23, .inl (fa0_17))), (a0_29, .inl (ka0_29, 10, .inl (v58nfa0_29))), (a0_15, .inl (ka0_15, 156, .inl (fa0_15)))]) hP hD hCc hk1 hFc hP1 hD1 [.inr 0, .inl 1, .inr 1, .inl 3] (by decide +kernel) rfl (fun hP hD => ?_)
                    have hw : (0 : Int) ≤ r137.toInt ∧ r137.toInt ≤ (8 : Int) := hw
                    obtain ⟨h137_0, h137_1⟩ := hw
                    refine lv_iload_n hx hb dX8_drawWhy_140 rfl (lv_at hl 1 rfl) ?_
                    refine lv_icmp_ne (tgt := 148) hx hb dX8_drawWhy_141 (by decide) (fun c141 => ?_) (fun c141 => ?_)
                    · have gc141 := ai_ne c141
                      exact (hK0 _ _ _).mp (J148  _ _ _   hP hD hS (lv_sub hl [0, 1, 2, 3, 4] rfl))
                    · have gc141 := ai_eq c141
                      have u141f_a2 : a2.toInt ≤ (8 : Int) := Int.le_trans (Int.le_of_eq gc141.symm) h137_1
                      have l141f_a2 : (0 : Int) ≤ a2.toInt := Int.le_trans h137_0 (Int.le_of_eq gc141)
                      refine lv_iconst (v := 1) hx hb dX8_drawWhy_144 zk_iconst_1 ?_
                      refine lv_goto (tgt := 149) hx hb dX8_drawWhy_145 (by decide) ?_
                      exact (hK0 _ _ _).mp (J149 1 _ _ _  (Int.le_trans zq4 zq1) zq0 hP hD hS (lv_sub hl [0, 1, 2, 3, 4] rfl))
                refine lv_if_eq (tgt := 124) hx hb dX8_drawWhy_108 (by decide) (fun c108 => ?_) (fun c108 => ?_)
                · have gc108 := ai_eq c108
                  have u108t_j104s0 : j104s0.toInt ≤ (0 : Int) := Int.le_trans (Int.le_of_eq gc108) zq6
                  have l108t_j104s0 : (0 : Int) ≤ j104s0.toInt := bj104s0_l
                  exact (hK0 _ _ _).mp (J124 j64a0_38 _ _ _   hP hD hS (lv_sub hl [1, 2, 3, 4, 5, 0] rfl))
                · have gc108 := ai_ne c108
                  have l108f_j104s0 : (1 : Int) ≤ j104s0.toInt := (by have h1 := bj104s0_l; have h2 : (0 : Int32).toInt = 0 := (by decide); rw [h2] at gc108; omega)
                  refine lv_aload_n hx hb dX8_drawWhy_111 rfl (lv_at hl 1 rfl) ?_
                  refine va_get (D := (dC, dI)) (ci := 8) (v := .int j64a0_38) (C := RX8) (T := TX8) (N := 40) hx hb hts zi_X8_drawWhy_8 hown hK hP 0 rfl rfl 38 (by decide) (hts (.fieldLink RX8 375 "WaxTurnsModel" "shutFirst" "I") (zm_X8_drawWhy_r1 (List.mem_of_getElem? (i := 1) rfl))) (fun _ h9 => h9) rfl dX8_drawWhy_112 ?_
                  refine lv_if_ge (tgt := 124) hx hb dX8_drawWhy_115 (by decide) (fun c115 => ?_) (fun c115 => ?_)
                  · have gc115 := ai_le c115
                    have l115t_j64a0_38 : (0 : Int) ≤ j64a0_38.toInt := Int.le_trans zq5 gc115
                    exact (hK0 _ _ _).mp (J124 j64a0_38 _ _ _   hP hD hS (lv_sub hl [1, 2, 3, 4, 5, 0] rfl))
                  · have gc115 := ai_nle c115
                    have u115f_j64a0_38 : j64a0_38.toInt ≤ (-1 : Int) := ai_lthi gc115 zq6
                    refine lv_aload_n hx hb dX8_drawWhy_118 rfl (lv_at hl 1 rfl) ?_
                    refine lv_iload hx hb dX8_drawWhy_119 (lv_at hl 5 rfl) ?_
                    refine va_put (D := (dC, dI)) (ci := 8) (v := .int j64l7) (ty := .int) (C := RX8) (T := TX8) (N := 40) hx hb hts zi_X8_drawWhy_8 tyX8 tyX8_ok nmX8 hown hK hP hD hS 0 rfl rfl 38 (by decide) (hts (.fieldLink RX8 375 "WaxTurnsModel" "shutFirst" "I") (zm_X8_drawWhy_r1 (List.mem_of_getElem? (i := 1) rfl))) (fun _ h9 => h9) rfl (tyX8_ok 38 (by decide)) rfl rfl (Nat.le_of_ble_eq_true rfl) dX8_drawWhy_121 (fun H locs hP hD hS => ?_)
                    refine zs_0 (y := (a0, .inr (8, [a0g_0, a0g_1, a0g_2, a0g_3, a0g_4, a0g_5, a0g_6, a0g_7, a0g_8, a0g_9, a0g_10, a0g_11, a0g_12, a0g_13, a0g_14, Value.ref a0_15, a0g_16, Value.ref a0_17, a0g_18, a0g_19, a0g_20, a0g_21, a0g_22, a0g_23, a0g_24, a0g_25, a0g_26, a0g_27, a0g_28, Value.ref a0_29, Value.int v58na0_30, Value.int v58na0_31, a0g_32, a0g_33, a0g_34, a0g_35, a0g_36, a0g_37, Value.int j64l7, Value.int j64a0_39]))) hP hD rfl (fun hP hD => ?_)
                    exact (hK0 _ _ _).mp (J124 j64l7 _ _ _   hP hD hS (lv_sub hl [1, 2, 3, 4, 5, 0] rfl))
              refine lv_icmp_ge (tgt := 103) hx hb dX8_drawWhy_96 (by decide) (fun c96 => ?_) (fun c96 => ?_)
              · have gc96 := ai_le c96
                have u96t_x95 : x95.toInt ≤ (99 : Int) := Int.le_trans gc96 qx89.2.2
                have l96t_x89 : (0 : Int) ≤ x89.toInt := qx89.2.1
                refine lv_iconst (v := 0) hx hb dX8_drawWhy_103 zk_iconst_0 ?_
                exact (hK0 _ _ _).mp (J104 0 _ _ _  zq5 (Int.le_trans zq6 zq4) hP hD hS (lv_sub hl [1, 2, 3, 0, 4] rfl))
              · have gc96 := ai_nle c96
                have u96f_x89 : x89.toInt ≤ (99 : Int) := qx89.2.2
                have l96f_x95 : (1 : Int) ≤ x95.toInt := ai_ltlo gc96 qx89.2.1
                refine lv_iconst (v := 1) hx hb dX8_drawWhy_99 zk_iconst_1 ?_
                refine lv_goto (tgt := 104) hx hb dX8_drawWhy_100 (by decide) ?_
                exact (hK0 _ _ _).mp (J104 1 _ _ _  (Int.le_trans zq4 zq1) zq0 hP hD hS (lv_sub hl [1, 2, 3, 0, 4] rfl))
        exact (hK0 _ _ _).mp (J64 201 1 a3 (-2) 0 _ _ _ (by have h1 : (1 : Int) ≤ (1 : Int32).toInt := zq1; have h2 : (1 : Int32).toInt ≤ (1 : Int) := zq0; omega) zq1 (Int.le_trans zq0 zq106) l7k0_a3 u7k0_a3 hP hD hS (lv_sub hl [3, 5, 7, 1, 0] rfl))
    · obtain ⟨hw, h19⟩ := hw
      subst hw
      refine lv_if_eq (tgt := 29) hx hb dX8_drawWhy_22 (by decide) (fun _ => ?_) (fun c22 => absurd (by decide +kernel) c22)
      refine lv_iconst (v := 0) hx hb dX8_drawWhy_29 zk_iconst_0 ?_
      refine va_calli (va_runV (As := [.int a1, .int 0]) (rest := []) ⟨hx, hb, hml, hown, hts⟩ (c_X8_whyB l dC dI H.size a0 a1 0 a0g_0 a0g_1 a0g_2 a0g_3 a0g_4 a0g_5 a0g_6 a0g_7 a0g_8 a0g_9 a0g_10 a0g_11 a0g_12 a0g_13 a0g_14 (Value.ref a0_15) a0g_16 (Value.ref a0_17) a0g_18 a0g_19 a0g_20 a0g_21 a0g_22 a0g_23 a0g_24 a0g_25 a0g_26 a0g_27 a0g_28 (Value.ref a0_29) (Value.int a0_30) (Value.int a0_31) a0g_32 a0g_33 a0g_34 a0g_35 a0g_36 a0g_37 (Value.int a0_38) (Value.int a0_39) ba1_l ba1_u zq5 (Int.le_trans zq6 zq4)) (cwV 2 hts gX8_drawWhy_X8_why rfl rfl rfl zd_X8_why ⟨Nat.le_of_ble_eq_true rfl, Nat.le_of_ble_eq_true rfl⟩) ⟨ax_blind (fun _ _ _ _ _ => trivial), zr_8 (zp_K hK) (zp_P1 hP) (q0 := 0) rfl, ax_pre (zp_P1 hP) (zp_K hK) (zp_D1 hD) (fun _ _ => trivial)⟩ rfl rfl hl.1 rfl (lv_room (Nat.le_of_ble_eq_true rfl)) dX8_drawWhy_30 ⟨Nat.le_of_ble_eq_true rfl, Nat.le_of_ble_eq_true rfl⟩) hS (fun q _ h => zp_F1 hD hS hA q h) (zp_F1 hD hS hA) (fun r30 u t H locs ht hvm hw hB hz1 hk1 hS1 => zo1 hB ht hP hD hk1 (zp_F1 hD hS hA) hS1 (fun hP hK1 hD hS => ?_))
      rcases hw with hw | hw | hw
      · obtain ⟨hw, h30_0, h30_1, h30_2, h30_3⟩ := hw
        subst hw
        have l30k0_a1 : (1 : Int) ≤ a1.toInt := h30_0
        have u30k0_a1 : a1.toInt ≤ (1 : Int) := ba1_u
        refine lv_istore (lv' := [(5, .int 2), (0, .ref a0), (1, .int a1), (2, .int a2), (3, .int a3), (4, .int a4)]) hx hb dX8_drawWhy_33 hl (by decide) rfl (fun ls hl => ?_)
        refine lv_iload hx hb dX8_drawWhy_35 (lv_at hl 0 rfl) ?_
        refine lv_if_eq (tgt := 43) hx hb dX8_drawWhy_37 (by decide) (fun c37 => absurd c37 (by decide +kernel)) (fun _ => ?_)
        refine lv_iload hx hb dX8_drawWhy_40 (lv_at hl 0 rfl) ?_
        exact W.iret (v := 2) hx hb hr (fun t ht hW => ⟨⟨2, (), rfl, (Or.inl ⟨rfl, l30k0_a1, u30k0_a1⟩), a0_30, a0_31, a0_38, a0_39, fa0_29, bfa0_29, by rw [ht]; exact hP, va_K.moved hW.alike hK, hD⟩, hS.F ht⟩) hS.2.2 dX8_drawWhy_42
      · obtain ⟨hw, h30_0, h30_1⟩ := hw
        subst hw
        have l30k1_a1 : (0 : Int) ≤ a1.toInt := ba1_l
        have u30k1_a1 : a1.toInt ≤ (0 : Int) := h30_1
        refine lv_istore (lv' := [(5, .int 1), (0, .ref a0), (1, .int a1), (2, .int a2), (3, .int a3), (4, .int a4)]) hx hb dX8_drawWhy_33 hl (by decide) rfl (fun ls hl => ?_)
        refine lv_iload hx hb dX8_drawWhy_35 (lv_at hl 0 rfl) ?_
        refine lv_if_eq (tgt := 43) hx hb dX8_drawWhy_37 (by decide) (fun c37 => absurd c37 (by decide +kernel)) (fun _ => ?_)
        refine lv_iload hx hb dX8_drawWhy_40 (lv_at hl 0 rfl) ?_
        exact W.iret (v := 1) hx hb hr (fun t ht hW => ⟨⟨1, (), rfl, (Or.inr (Or.inl ⟨rfl, l30k1_a1, u30k1_a1⟩)), a0_30, a0_31, a0_38, a0_39, fa0_29, bfa0_29, by rw [ht]; exact hP, va_K.moved hW.alike hK, hD⟩, hS.F ht⟩) hS.2.2 dX8_drawWhy_42
      · obtain ⟨hw, h30_0, h30_1, h30_2, h30_3⟩ := hw
        subst hw
        have l30k2_a1 : (1 : Int) ≤ a1.toInt := h30_0
        have u30k2_a1 : a1.toInt ≤ (1 : Int) := ba1_u
        exact absurd h30_2 (by decide)
  · obtain ⟨hw, h7⟩ := hw
    subst hw
    refine lv_if_eq (tgt := 29) hx hb dX8_drawWhy_10 (by decide) (fun _ => ?_) (fun c10 => absurd (by decide +kernel) c10)
    refine lv_iconst (v := 0) hx hb dX8_drawWhy_29 zk_iconst_0 ?_
    refine va_calli (va_runV (As := [.int a1, .int 0]) (rest := []) ⟨hx, hb, hml, hown, hts⟩ (c_X8_whyB l dC dI H.size a0 a1 0 a0g_0 a0g_1 a0g_2 a0g_3 a0g_4 a0g_5 a0g_6 a0g_7 a0g_8 a0g_9 a0g_10 a0g_11 a0g_12 a0g_13 a0g_14 (Value.ref a0_15) a0g_16 (Value.ref a0_17) a0g_18 a0g_19 a0g_20 a0g_21 a0g_22 a0g_23 a0g_24 a0g_25 a0g_26 a0g_27 a0g_28 (Value.ref a0_29) (Value.int a0_30) (Value.int a0_31) a0g_32 a0g_33 a0g_34 a0g_35 a0g_36 a0g_37 (Value.int a0_38) (Value.int a0_39) ba1_l ba1_u zq5 (Int.le_trans zq6 zq4)) (cwV 2 hts gX8_drawWhy_X8_why rfl rfl rfl zd_X8_why ⟨Nat.le_of_ble_eq_true rfl, Nat.le_of_ble_eq_true rfl⟩) ⟨ax_blind (fun _ _ _ _ _ => trivial), zr_8 (zp_K hK) (zp_P1 hP) (q0 := 0) rfl, ax_pre (zp_P1 hP) (zp_K hK) (zp_D1 hD) (fun _ _ => trivial)⟩ rfl rfl hl.1 rfl (lv_room (Nat.le_of_ble_eq_true rfl)) dX8_drawWhy_30 ⟨Nat.le_of_ble_eq_true rfl, Nat.le_of_ble_eq_true rfl⟩) hS (fun q _ h => zp_F1 hD hS hA q h) (zp_F1 hD hS hA) (fun r30 u t H locs ht hvm hw hB hz1 hk1 hS1 => zo1 hB ht hP hD hk1 (zp_F1 hD hS hA) hS1 (fun hP hK1 hD hS => ?_))
    rcases hw with hw | hw | hw
    · obtain ⟨hw, h30_0, h30_1, h30_2, h30_3⟩ := hw
      subst hw
      have l30k0_a1 : (1 : Int) ≤ a1.toInt := h30_0
      have u30k0_a1 : a1.toInt ≤ (1 : Int) := ba1_u
      refine lv_istore (lv' := [(5, .int 2), (0, .ref a0), (1, .int a1), (2, .int a2), (3, .int a3), (4, .int a4)]) hx hb dX8_drawWhy_33 hl (by decide) rfl (fun ls hl => ?_)
      refine lv_iload hx hb dX8_drawWhy_35 (lv_at hl 0 rfl) ?_
      refine lv_if_eq (tgt := 43) hx hb dX8_drawWhy_37 (by decide) (fun c37 => absurd c37 (by decide +kernel)) (fun _ => ?_)
      refine lv_iload hx hb dX8_drawWhy_40 (lv_at hl 0 rfl) ?_
      exact W.iret (v := 2) hx hb hr (fun t ht hW => ⟨⟨2, (), rfl, (Or.inl ⟨rfl, l30k0_a1, u30k0_a1⟩), a0_30, a0_31, a0_38, a0_39, fa0_29, bfa0_29, by rw [ht]; exact hP, va_K.moved hW.alike hK, hD⟩, hS.F ht⟩) hS.2.2 dX8_drawWhy_42
    · obtain ⟨hw, h30_0, h30_1⟩ := hw
      subst hw
      have l30k1_a1 : (0 : Int) ≤ a1.toInt := ba1_l
      have u30k1_a1 : a1.toInt ≤ (0 : Int) := h30_1
      refine lv_istore (lv' := [(5, .int 1), (0, .ref a0), (1, .int a1), (2, .int a2), (3, .int a3), (4, .int a4)]) hx hb dX8_drawWhy_33 hl (by decide) rfl (fun ls hl => ?_)
      refine lv_iload hx hb dX8_drawWhy_35 (lv_at hl 0 rfl) ?_
      refine lv_if_eq (tgt := 43) hx hb dX8_drawWhy_37 (by decide) (fun c37 => absurd c37 (by decide +kernel)) (fun _ => ?_)
      refine lv_iload hx hb dX8_drawWhy_40 (lv_at hl 0 rfl) ?_
      exact W.iret (v := 1) hx hb hr (fun t ht hW => ⟨⟨1, (), rfl, (Or.inr (Or.inl ⟨rfl, l30k1_a1, u30k1_a1⟩)), a0_30, a0_31, a0_38, a0_39, fa0_29, bfa0_29, by rw [ht]; exact hP, va_K.moved hW.alike hK, hD⟩, hS.F ht⟩) hS.2.2 dX8_drawWhy_42
    · obtain ⟨hw, h30_0, h30_1, h30_2, h30_3⟩ := hw
      subst hw
      have l30k2_a1 : (1 : Int) ≤ a1.toInt := h30_0
      have u30k2_a1 : a1.toInt ≤ (1 : Int) := ba1_u
      exact absurd h30_2 (by decide)
end P260_04_safe
section P260_05_safe
set_option maxHeartbeats 4000000 in
set_option maxRecDepth 100000 in
theorem c_X8_drawn (l : Launch) (dC : Nat → ClassId) (dI : Nat → Nat → Nat) (sz : Nat) (a0 : Nat) (a1 : Int32) (a2 : Int32) (a3 : Int32) (a0_0 : Int32) (a0g_1 a0g_2 a0g_3 a0g_4 a0g_5 a0g_6 a0g_7 a0g_8 a0g_9 a0g_10 a0g_12 a0g_13 a0g_16 a0g_18 a0g_19 a0g_20 a0g_21 a0g_22 a0g_23 a0g_24 a0g_25 a0g_26 a0g_27 a0g_28 a0g_32 a0g_33 a0g_34 a0g_35 a0g_36 a0g_37 : Value) (a0_11 : Int32) (a0_14 : Int32) (a0_15 : Nat) (a0_17 : Nat) (a0_29 : Nat) (a0_30 : Int32) (a0_31 : Int32) (a0_38 : Int32) (a0_39 : Int32) (ka0_15 : ClassId) (fa0_15 : Nat → Int32) (ka0_17 : ClassId) (fa0_17 : Nat → Int32) (ka0_29 : ClassId) (fa0_29 : Nat → Int32) (ba0_14_l : (1 : Int) ≤ a0_14.toInt) (ba0_14_u : a0_14.toInt ≤ (1 : Int)) (bfa0_15 : ((∀ k : Nat, 0 ≤ k → k ≤ 0 → (2 : Int) ≤ (fa0_15 k).toInt ∧ (fa0_15 k).toInt ≤ 9) ∧ (∀ k : Nat, 1 ≤ k → k ≤ 1 → (1 : Int) ≤ (fa0_15 k).toInt ∧ (fa0_15 k).toInt ≤ 20) ∧ (∀ k : Nat, 2 ≤ k → k ≤ 2 → (0 : Int) ≤ (fa0_15 k).toInt ∧ (fa0_15 k).toInt ≤ 8) ∧ (∀ k : Nat, 3 ≤ k → k ≤ 3 → (0 : Int) ≤ (fa0_15 k).toInt ∧ (fa0_15 k).toInt ≤ 100) ∧ (∀ k : Nat, 4 ≤ k → k ≤ 4 → (0 : Int) ≤ (fa0_15 k).toInt ∧ (fa0_15 k).toInt ≤ 9) ∧ (∀ k : Nat, 5 ≤ k → k ≤ 5 → (0 : Int) ≤ (fa0_15 k).toInt ∧ (fa0_15 k).toInt ≤ 3) ∧ (∀ k : Nat, 6 ≤ k → k ≤ 6 → (0 : Int) ≤ (fa0_15 k).toInt ∧ (fa0_15 k).toInt ≤ 6) ∧ (∀ k : Nat, 7 ≤ k → k ≤ 9 → (0 : Int) ≤ (fa0_15 k).toInt ∧ (fa0_15 k).toInt ≤ 8) ∧ (∀ k : Nat, 12 ≤ k → k ≤ 29 → (0 : Int) ≤ (fa0_15 k).toInt ∧ (fa0_15 k).toInt ≤ 20) ∧ (∀ k : Nat, 30 ≤ k → k ≤ 35 → (0 : Int) ≤ (fa0_15 k).toInt ∧ (fa0_15 k).toInt ≤ 8) ∧ (∀ k : Nat, 36 ≤ k → k ≤ 47 → (0 : Int) ≤ (fa0_15 k).toInt ∧ (fa0_15 k).toInt ≤ 999))) (bfa0_17 : ((∀ k : Nat, 0 ≤ k → k ≤ 8 → (0 : Int) ≤ (fa0_17 k).toInt ∧ (fa0_17 k).toInt ≤ 8) ∧ (∀ k : Nat, 19 ≤ k → k ≤ 19 → (0 : Int) ≤ (fa0_17 k).toInt ∧ (fa0_17 k).toInt ≤ 8) ∧ (∀ k : Nat, 20 ≤ k → k ≤ 20 → (0 : Int) ≤ (fa0_17 k).toInt ∧ (fa0_17 k).toInt ≤ 19))) (bfa0_29 : (∀ k, (0 : Int) ≤ (fa0_29 k).toInt ∧ (fa0_29 k).toInt ≤ 8)) : zm l yX8_drawn wsX8_drawn ({ frames := 3, cells := 0, slots := 0, locals := 72 }) [.ref a0, .int a1, .int a2, .int a3] dC dI sz [(a0, .inr (8, [Value.int a0_0, a0g_1, a0g_2, a0g_3, a0g_4, a0g_5, a0g_6, a0g_7, a0g_8, a0g_9, a0g_10, Value.int a0_11, a0g_12, a0g_13, Value.int a0_14, Value.ref a0_15, a0g_16, Value.ref a0_17, a0g_18, a0g_19, a0g_20, a0g_21, a0g_22, a0g_23, a0g_24, a0g_25, a0g_26, a0g_27, a0g_28, Value.ref a0_29, Value.int a0_30, Value.int a0_31, a0g_32, a0g_33, a0g_34, a0g_35, a0g_36, a0g_37, Value.int a0_38, Value.int a0_39])), (a0_15, .inl (ka0_15, 156, .inl (fa0_15))), (a0_17, .inl (ka0_17, 23, .inl (fa0_17))), (a0_29, .inl (ka0_29, 10, .inl (fa0_29)))] [(ka0_15, .int), (ka0_17, .int), (ka0_29, .int)] (fun A _ => True) (fun A => va_Qi (fun (r : Int32) (_ : Unit) => True) (fun (_ : Unit) (t : State) => ∃ na0_0 : Int32, ∃ na0_11 : Int32, ∃ na0_30 : Int32, ∃ na0_31 : Int32, ∃ na0_38 : Int32, ∃ na0_39 : Int32, ∃ nfa0_29 : Nat → Int32, (∀ k, (0 : Int) ≤ (nfa0_29 k).toInt ∧ (nfa0_29 k).toInt ≤ 8) ∧ ax_B dC dI A [(a0, .inr (8, [Value.int na0_0, a0g_1, a0g_2, a0g_3, a0g_4, a0g_5, a0g_6, a0g_7, a0g_8, a0g_9, a0g_10, Value.int na0_11, a0g_12, a0g_13, Value.int a0_14, Value.ref a0_15, a0g_16, Value.ref a0_17, a0g_18, a0g_19, a0g_20, a0g_21, a0g_22, a0g_23, a0g_24, a0g_25, a0g_26, a0g_27, a0g_28, Value.ref a0_29, Value.int na0_30, Value.int na0_31, a0g_32, a0g_33, a0g_34, a0g_35, a0g_36, a0g_37, Value.int na0_38, Value.int na0_39])), (a0_15, .inl (ka0_15, 156, .inl (fa0_15))), (a0_17, .inl (ka0_17, 23, .inl (fa0_17))), (a0_29, .inl (ka0_29, 10, .inl (nfa0_29)))] [(ka0_15, .int), (ka0_17, .int), (ka0_29, .int)] t) A) := by
  refine zh (cc := cX8_drawn) (maxL := 5) (ret := (some .int)) zn_RX8 rfl (Nat.le_of_ble_eq_true rfl) (fun p e s m below meth c A ls hx hb hml hr hts (hown : s.vm.findClass RX8 = some m.cls) hlocks hA hS hP hK hD hE (hl : lv_has ls 5 [(0, .ref a0), (1, .int a1), (2, .int a2), (3, .int a3)]) => ?_)
  refine lv_aload_n hx hb dX8_drawn_0 rfl (lv_at hl 0 rfl) ?_
  refine va_callv (va_runV (As := []) (rest := []) ⟨hx, hb, hml, hown, hts⟩ (c_X8_good l dC dI s.heap.size a0 a0_0 a0g_1 a0g_2 a0g_3 a0g_4 a0g_5 a0g_6 a0g_7 a0g_8 a0g_9 a0g_10 a0g_12 a0g_13 (Value.int a0_14) (Value.ref a0_15) a0g_16 (Value.ref a0_17) a0g_18 a0g_19 a0g_20 a0g_21 a0g_22 a0g_23 a0g_24 a0g_25 a0g_26 a0g_27 a0g_28 (Value.ref a0_29) (Value.int a0_30) (Value.int a0_31) a0g_32 a0g_33 a0g_34 a0g_35 a0g_36 a0g_37 (Value.int a0_38) (Value.int a0_39) a0_11 ) (cwV 0 hts gX8_drawn_X8_good rfl rfl rfl zd_X8_good ⟨Nat.le_of_ble_eq_true rfl, Nat.le_of_ble_eq_true rfl⟩) ⟨ax_blind (fun _ _ _ _ _ => trivial), zr_8 (zp_K hK) (zp_P1 hP) (q0 := 0) rfl, ax_pre (zp_P1 hP) (zp_K hK) (zp_D1 hD) (fun _ _ => trivial)⟩ rfl rfl hl.1 rfl (lv_room (Nat.le_of_ble_eq_true rfl)) dX8_drawn_1 ⟨Nat.le_of_ble_eq_true rfl, Nat.le_of_ble_eq_true rfl⟩) hS (fun q _ h => zp_F1 hD hS hA q h) (zp_F1 hD hS hA) (fun u t H locs ht hvm hw hB hz1 hk1 hS1 => zx_2 hB (fun v1na0_0 v1na0_11 hB => zo1 hB ht hP hD hk1 (zp_F1 hD hS hA) hS1 (fun hP hK1 hD hS => ?_)))
  refine lv_aload_n hx hb dX8_drawn_4 rfl (lv_at hl 0 rfl) ?_
  refine lv_aload_n hx hb dX8_drawn_5 rfl (lv_at hl 0 rfl) ?_
  refine lv_iload_n hx hb dX8_drawn_6 rfl (lv_at hl 1 rfl) ?_
  have hKc := hK.sub (tys' := [(ka0_15, .int)]) [0] rfl
  refine va_calli (va_runV (As := [.int a1]) (rest := [.ref a0]) ⟨hx, hb, hml, hown, hts⟩ (c_X8_isFigure l dC dI H.size a0 a1 (Value.int v1na0_0) a0g_1 a0g_2 a0g_3 a0g_4 a0g_5 a0g_6 a0g_7 a0g_8 a0g_9 a0g_10 (Value.int v1na0_11) a0g_12 a0g_13 a0g_16 (Value.ref a0_17) a0g_18 a0g_19 a0g_20 a0g_21 a0g_22 a0g_23 a0g_24 a0g_25 a0g_26 a0g_27 a0g_28 (Value.ref a0_29) (Value.int a0_30) (Value.int a0_31) a0g_32 a0g_33 a0g_34 a0g_35 a0g_36 a0g_37 (Value.int a0_38) (Value.int a0_39) a0_14 a0_15 ka0_15 fa0_15 ba0_14_l ba0_14_u bfa0_15) (cwV 1 hts gX8_drawn_X8_isFigure rfl rfl rfl zd_X8_isFigure ⟨Nat.le_of_ble_eq_true rfl, Nat.le_of_ble_eq_true rfl⟩) ⟨ax_blind (fun _ _ _ _ _ => trivial), zr_8 hKc (zp_P2 hP) (q0 := 0) rfl, ax_pre (zp_P2 hP) hKc (zp_D2 hD) (fun _ _ => trivial)⟩ rfl rfl hl.1 rfl (lv_room (Nat.le_of_ble_eq_true rfl)) dX8_drawn_7 ⟨Nat.le_of_ble_eq_true rfl, Nat.le_of_ble_eq_true rfl⟩) hS (fun q _ h => zp_F2 hD hS hA q h) (zp_F2 hD hS hA) (fun r7 u t H locs ht hvm hw hB hz1 hk1 hS1 => zo2 hB ht hP hD hk1 (zp_F2 hD hS hA) hS1 (fun hP hK1 hD hS => ?_))
  rcases hw with hw | hw
  · obtain ⟨hw, h7_0, h7_1⟩ := hw
    subst hw
    have l7k0_a1 : (0 : Int) ≤ a1.toInt := h7_0
    have u7k0_a1 : a1.toInt ≤ (8 : Int) := h7_1
    refine lv_iload_n hx hb dX8_drawn_10 rfl (lv_at hl 1 rfl) ?_
    refine lv_iload_n hx hb dX8_drawn_11 rfl (lv_at hl 2 rfl) ?_
    refine lv_iload_n hx hb dX8_drawn_12 rfl (lv_at hl 3 rfl) ?_
    refine zc_cutc (wc := [(a0, .inr (8, [Value.int v1na0_0, a0g_1, a0g_2, a0g_3, a0g_4, a0g_5, a0g_6, a0g_7, a0g_8, a0g_9, a0g_10, Value.int v1na0_11, a0g_12, a0g_13, Value.int a0_14, Value.ref a0_15, a0g_16, Value.ref a0_17, a0g_18, a0g_19, a0g_20, a0g_21, a0g_22, a0g_23, a0g_24, a0g_25, a0g_26, a0g_27, a0g_28, Value.ref a0_29, Value.int a0_30, Value.int a0_31, a0g_32, a0g_33, a0g_34, a0g_35, a0g_36, a0g_37, Value.int a0_38, Value.int a0_39])), (a0_17, .inl (ka0_17, 23, .inl (fa0_17))), (a0_29, .inl (ka0_29, 10, .inl (fa0_29))), (a0_15, .inl (ka0_15, 156, .inl (fa0_15)))]) hP hD hS hA [0, 2, 3, 1] (by decide +kernel) rfl (fun hPc hDc hFc hCc => ?_)
    have hKc := hK.sub (tys' := [(ka0_17, .int), (ka0_29, .int), (ka0_15, .int)]) [1, 2, 0] rfl
    refine va_calli (va_runV (As := [.int 1, .int a1, .int a2, .int a3]) (rest := []) ⟨hx, hb, hml, hown, hts⟩ (c_X8_drawWhy l dC dI H.size a0 1 a1 a2 a3 (Value.int v1na0_0) a0g_1 a0g_2 a0g_3 a0g_4 a0g_5 a0g_6 a0g_7 a0g_8 a0g_9 a0g_10 (Value.int v1na0_11) a0g_12 a0g_13 (Value.int a0_14) a0g_16 a0g_18 a0g_19 a0g_20 a0g_21 a0g_22 a0g_23 a0g_24 a0g_25 a0g_26 a0g_27 a0g_28 a0g_32 a0g_33 a0g_34 a0g_35 a0g_36 a0g_37 a0_15 a0_17 a0_29 a0_30 a0_31 a0_38 a0_39 ka0_17 fa0_17 ka0_29 fa0_29 ka0_15 fa0_15 (Int.le_trans zq4 zq1) zq0 bfa0_17 bfa0_29 bfa0_15) (cwV 4 hts gX8_drawn_X8_drawWhy rfl rfl rfl zd_X8_drawWhy ⟨Nat.le_of_ble_eq_true rfl, Nat.le_of_ble_eq_true rfl⟩) ⟨ax_blind (fun _ _ _ _ _ => trivial), zr_8 hKc hPc (q0 := 0) rfl, ax_pre hPc hKc hDc (fun _ _ => trivial)⟩ rfl rfl hl.1 rfl (lv_room (Nat.le_of_ble_eq_true rfl)) dX8_drawn_13 ⟨Nat.le_of_ble_eq_true rfl, Nat.le_of_ble_eq_true rfl⟩) hS (fun q _ h => hFc q h) hFc (fun r13 u t H locs ht hvm hw hB hz1 hk1 hS => zx_5 hB (fun v13na0_30 v13na0_31 v13na0_38 v13na0_39 v13nfa0_29 hB => zy_1 hB (fun bv13nfa0_29 hB => zo hB ht (fun hP1 hK1 hD1 => ?_))))
    refine zc_backc (w := [(a0, .inr (8, [Value.int v1na0_0, a0g_1, a0g_2, a0g_3, a0g_4, a0g_5, a0g_6, a0g_7, a0g_8, a0g_9, a0g_10, Value.int v1na0_11, a0g_12, a0g_13, Value.int a0_14, Value.ref a0_15, a0g_16, Value.ref a0_17, a0g_18, a0g_19, a0g_20, a0g_21, a0g_22, a0g_23, a0g_24, a0g_25, a0g_26, a0g_27, a0g_28, Value.ref a0_29, Value.int v13na0_30, Value.int v13na0_31, a0g_32, a0g_33, a0g_34, a0g_35, a0g_36, a0g_37, Value.int v13na0_38, Value.int v13na0_39])), (a0_15, .inl (ka0_15, 156, .inl (fa0_15))), (a0_17, .inl (ka0_17, 23, .inl (fa0_17))), (a0_29, .inl (ka0_29, 10, .inl (v13nfa0_29)))]) hP hD hCc hk1 hFc hP1 hD1 [.inr 0, .inr 3, .inr 1, .inr 2] (by decide +kernel) rfl (fun hP hD => ?_)
    rcases hw with hw | hw | hw
    · obtain ⟨hw, h13_0, h13_1⟩ := hw
      subst hw
      refine lv_istore (lv' := [(4, .int 2), (0, .ref a0), (1, .int a1), (2, .int a2), (3, .int a3)]) hx hb dX8_drawn_16 hl (by decide) rfl (fun ls hl => ?_)
      refine lv_iload hx hb dX8_drawn_18 (lv_at hl 0 rfl) ?_
      refine lv_if_eq (tgt := 32) hx hb dX8_drawn_20 (by decide) (fun c20 => absurd c20 (by decide +kernel)) (fun _ => ?_)
      refine lv_aload_n hx hb dX8_drawn_23 rfl (lv_at hl 1 rfl) ?_
      refine lv_iload hx hb dX8_drawn_24 (lv_at hl 0 rfl) ?_
      refine va_calli (va_runV (As := [.int 2]) (rest := []) ⟨hx, hb, hml, hown, hts⟩ (c_X8_no l dC dI H.size a0 2 (Value.int v1na0_0) a0g_1 a0g_2 a0g_3 a0g_4 a0g_5 a0g_6 a0g_7 a0g_8 a0g_9 a0g_10 a0g_12 a0g_13 (Value.int a0_14) (Value.ref a0_15) a0g_16 (Value.ref a0_17) a0g_18 a0g_19 a0g_20 a0g_21 a0g_22 a0g_23 a0g_24 a0g_25 a0g_26 a0g_27 a0g_28 (Value.ref a0_29) (Value.int v13na0_30) (Value.int v13na0_31) a0g_32 a0g_33 a0g_34 a0g_35 a0g_36 a0g_37 (Value.int v13na0_38) (Value.int v13na0_39) v1na0_11 ) (cwV 1 hts gX8_drawn_X8_no rfl rfl rfl zd_X8_no ⟨Nat.le_of_ble_eq_true rfl, Nat.le_of_ble_eq_true rfl⟩) ⟨ax_blind (fun _ _ _ _ _ => trivial), zr_8 (zp_K hK) (zp_P1 hP) (q0 := 0) rfl, ax_pre (zp_P1 hP) (zp_K hK) (zp_D1 hD) (fun _ _ => trivial)⟩ rfl rfl hl.1 rfl (lv_room (Nat.le_of_ble_eq_true rfl)) dX8_drawn_26 ⟨Nat.le_of_ble_eq_true rfl, Nat.le_of_ble_eq_true rfl⟩) hS (fun q _ h => zp_F1 hD hS hA q h) (zp_F1 hD hS hA) (fun r26 u t H locs ht hvm hw hB hz1 hk1 hS1 => zx_1 hB (fun v26na0_11 hB => zo1 hB ht hP hD hk1 (zp_F1 hD hS hA) hS1 (fun hP hK1 hD hS => ?_)))
      have hw : r26 = (-1) := hw
      have hw := hw.symm
      subst hw
      refine lv_goto (tgt := 36) hx hb dX8_drawn_29 (by decide) ?_
      exact W.iret (v := (-1)) hx hb hr (fun t ht hW => ⟨⟨(-1), (), rfl, trivial, v1na0_0, v26na0_11, v13na0_30, v13na0_31, v13na0_38, v13na0_39, v13nfa0_29, bv13nfa0_29, by rw [ht]; exact hP, va_K.moved hW.alike hK, hD⟩, hS.F ht⟩) hS.2.2 dX8_drawn_36
    · obtain ⟨hw, h13_0, h13_1⟩ := hw
      subst hw
      exact absurd h13_1 (by decide)
    · obtain ⟨hw, h13_0, h13_1, h13_2, h13_3, h13_4, h13_5⟩ := hw
      subst hw
      have l13k2_a2 : (0 : Int) ≤ a2.toInt := h13_2
      have u13k2_a2 : a2.toInt ≤ (65536 : Int) := h13_3
      have l13k2_a3 : (0 : Int) ≤ a3.toInt := h13_4
      have u13k2_a3 : a3.toInt ≤ (200 : Int) := h13_5
      refine lv_istore (lv' := [(4, .int 0), (0, .ref a0), (1, .int a1), (2, .int a2), (3, .int a3)]) hx hb dX8_drawn_16 hl (by decide) rfl (fun ls hl => ?_)
      refine lv_iload hx hb dX8_drawn_18 (lv_at hl 0 rfl) ?_
      refine lv_if_eq (tgt := 32) hx hb dX8_drawn_20 (by decide) (fun _ => ?_) (fun c20 => absurd (by decide +kernel) c20)
      refine lv_aload_n hx hb dX8_drawn_32 rfl (lv_at hl 1 rfl) ?_
      refine va_get (D := (dC, dI)) (ci := 8) (v := .int v13na0_39) (C := RX8) (T := TX8) (N := 40) hx hb hts zi_X8_drawn_8 hown hK hP 0 rfl rfl 39 (by decide) (hts (.fieldLink RX8 378 "WaxTurnsModel" "aliveOften" "I") (zm_X8_drawn_r1 (List.mem_of_getElem? (i := 0) rfl))) (fun _ h9 => h9) rfl dX8_drawn_33 ?_
      exact W.iret (v := v13na0_39) hx hb hr (fun t ht hW => ⟨⟨v13na0_39, (), rfl, trivial, v1na0_0, v1na0_11, v13na0_30, v13na0_31, v13na0_38, v13na0_39, v13nfa0_29, bv13nfa0_29, by rw [ht]; exact hP, va_K.moved hW.alike hK, hD⟩, hS.F ht⟩) hS.2.2 dX8_drawn_36
  · subst hw
    refine lv_iload_n hx hb dX8_drawn_10 rfl (lv_at hl 1 rfl) ?_
    refine lv_iload_n hx hb dX8_drawn_11 rfl (lv_at hl 2 rfl) ?_
    refine lv_iload_n hx hb dX8_drawn_12 rfl (lv_at hl 3 rfl) ?_
    refine zc_cutc (wc := [(a0, .inr (8, [Value.int v1na0_0, a0g_1, a0g_2, a0g_3, a0g_4, a0g_5, a0g_6, a0g_7, a0g_8, a0g_9, a0g_10, Value.int v1na0_11, a0g_12, a0g_13, Value.int a0_14, Value.ref a0_15, a0g_16, Value.ref a0_17, a0g_18, a0g_19, a0g_20, a0g_21, a0g_22, a0g_23, a0g_24, a0g_25, a0g_26, a0g_27, a0g_28, Value.ref a0_29, Value.int a0_30, Value.int a0_31, a0g_32, a0g_33, a0g_34, a0g_35, a0g_36, a0g_37, Value.int a0_38, Value.int a0_39])), (a0_17, .inl (ka0_17, 23, .inl (fa0_17))), (a0_29, .inl (ka0_29, 10, .inl (fa0_29))), (a0_15, .inl (ka0_15, 156, .inl (fa0_15)))]) hP hD hS hA [0, 2, 3, 1] (by decide +kernel) rfl (fun hPc hDc hFc hCc => ?_)
    have hKc := hK.sub (tys' := [(ka0_17, .int), (ka0_29, .int), (ka0_15, .int)]) [1, 2, 0] rfl
    refine va_calli (va_runV (As := [.int 0, .int a1, .int a2, .int a3]) (rest := []) ⟨hx, hb, hml, hown, hts⟩ (c_X8_drawWhy l dC dI H.size a0 0 a1 a2 a3 (Value.int v1na0_0) a0g_1 a0g_2 a0g_3 a0g_4 a0g_5 a0g_6 a0g_7 a0g_8 a0g_9 a0g_10 (Value.int v1na0_11) a0g_12 a0g_13 (Value.int a0_14) a0g_16 a0g_18 a0g_19 a0g_20 a0g_21 a0g_22 a0g_23 a0g_24 a0g_25 a0g_26 a0g_27 a0g_28 a0g_32 a0g_33 a0g_34 a0g_35 a0g_36 a0g_37 a0_15 a0_17 a0_29 a0_30 a0_31 a0_38 a0_39 ka0_17 fa0_17 ka0_29 fa0_29 ka0_15 fa0_15 zq5 (Int.le_trans zq6 zq4) bfa0_17 bfa0_29 bfa0_15) (cwV 4 hts gX8_drawn_X8_drawWhy rfl rfl rfl zd_X8_drawWhy ⟨Nat.le_of_ble_eq_true rfl, Nat.le_of_ble_eq_true rfl⟩) ⟨ax_blind (fun _ _ _ _ _ => trivial), zr_8 hKc hPc (q0 := 0) rfl, ax_pre hPc hKc hDc (fun _ _ => trivial)⟩ rfl rfl hl.1 rfl (lv_room (Nat.le_of_ble_eq_true rfl)) dX8_drawn_13 ⟨Nat.le_of_ble_eq_true rfl, Nat.le_of_ble_eq_true rfl⟩) hS (fun q _ h => hFc q h) hFc (fun r13 u t H locs ht hvm hw hB hz1 hk1 hS => zx_5 hB (fun v13na0_30 v13na0_31 v13na0_38 v13na0_39 v13nfa0_29 hB => zy_1 hB (fun bv13nfa0_29 hB => zo hB ht (fun hP1 hK1 hD1 => ?_))))
    refine zc_backc (w := [(a0, .inr (8, [Value.int v1na0_0, a0g_1, a0g_2, a0g_3, a0g_4, a0g_5, a0g_6, a0g_7, a0g_8, a0g_9, a0g_10, Value.int v1na0_11, a0g_12, a0g_13, Value.int a0_14, Value.ref a0_15, a0g_16, Value.ref a0_17, a0g_18, a0g_19, a0g_20, a0g_21, a0g_22, a0g_23, a0g_24, a0g_25, a0g_26, a0g_27, a0g_28, Value.ref a0_29, Value.int v13na0_30, Value.int v13na0_31, a0g_32, a0g_33, a0g_34, a0g_35, a0g_36, a0g_37, Value.int v13na0_38, Value.int v13na0_39])), (a0_15, .inl (ka0_15, 156, .inl (fa0_15))), (a0_17, .inl (ka0_17, 23, .inl (fa0_17))), (a0_29, .inl (ka0_29, 10, .inl (v13nfa0_29)))]) hP hD hCc hk1 hFc hP1 hD1 [.inr 0, .inr 3, .inr 1, .inr 2] (by decide +kernel) rfl (fun hP hD => ?_)
    rcases hw with hw | hw | hw
    · obtain ⟨hw, h13_0, h13_1⟩ := hw
      subst hw
      exact absurd h13_0 (by decide)
    · obtain ⟨hw, h13_0, h13_1⟩ := hw
      subst hw
      refine lv_istore (lv' := [(4, .int 1), (0, .ref a0), (1, .int a1), (2, .int a2), (3, .int a3)]) hx hb dX8_drawn_16 hl (by decide) rfl (fun ls hl => ?_)
      refine lv_iload hx hb dX8_drawn_18 (lv_at hl 0 rfl) ?_
      refine lv_if_eq (tgt := 32) hx hb dX8_drawn_20 (by decide) (fun c20 => absurd c20 (by decide +kernel)) (fun _ => ?_)
      refine lv_aload_n hx hb dX8_drawn_23 rfl (lv_at hl 1 rfl) ?_
      refine lv_iload hx hb dX8_drawn_24 (lv_at hl 0 rfl) ?_
      refine va_calli (va_runV (As := [.int 1]) (rest := []) ⟨hx, hb, hml, hown, hts⟩ (c_X8_no l dC dI H.size a0 1 (Value.int v1na0_0) a0g_1 a0g_2 a0g_3 a0g_4 a0g_5 a0g_6 a0g_7 a0g_8 a0g_9 a0g_10 a0g_12 a0g_13 (Value.int a0_14) (Value.ref a0_15) a0g_16 (Value.ref a0_17) a0g_18 a0g_19 a0g_20 a0g_21 a0g_22 a0g_23 a0g_24 a0g_25 a0g_26 a0g_27 a0g_28 (Value.ref a0_29) (Value.int v13na0_30) (Value.int v13na0_31) a0g_32 a0g_33 a0g_34 a0g_35 a0g_36 a0g_37 (Value.int v13na0_38) (Value.int v13na0_39) v1na0_11 ) (cwV 1 hts gX8_drawn_X8_no rfl rfl rfl zd_X8_no ⟨Nat.le_of_ble_eq_true rfl, Nat.le_of_ble_eq_true rfl⟩) ⟨ax_blind (fun _ _ _ _ _ => trivial), zr_8 (zp_K hK) (zp_P1 hP) (q0 := 0) rfl, ax_pre (zp_P1 hP) (zp_K hK) (zp_D1 hD) (fun _ _ => trivial)⟩ rfl rfl hl.1 rfl (lv_room (Nat.le_of_ble_eq_true rfl)) dX8_drawn_26 ⟨Nat.le_of_ble_eq_true rfl, Nat.le_of_ble_eq_true rfl⟩) hS (fun q _ h => zp_F1 hD hS hA q h) (zp_F1 hD hS hA) (fun r26 u t H locs ht hvm hw hB hz1 hk1 hS1 => zx_1 hB (fun v26na0_11 hB => zo1 hB ht hP hD hk1 (zp_F1 hD hS hA) hS1 (fun hP hK1 hD hS => ?_)))
      have hw : r26 = (-1) := hw
      have hw := hw.symm
      subst hw
      refine lv_goto (tgt := 36) hx hb dX8_drawn_29 (by decide) ?_
      exact W.iret (v := (-1)) hx hb hr (fun t ht hW => ⟨⟨(-1), (), rfl, trivial, v1na0_0, v26na0_11, v13na0_30, v13na0_31, v13na0_38, v13na0_39, v13nfa0_29, bv13nfa0_29, by rw [ht]; exact hP, va_K.moved hW.alike hK, hD⟩, hS.F ht⟩) hS.2.2 dX8_drawn_36
    · obtain ⟨hw, h13_0, h13_1, h13_2, h13_3, h13_4, h13_5⟩ := hw
      subst hw
      exact absurd h13_0 (by decide)

set_option maxHeartbeats 4000000 in
set_option maxRecDepth 100000 in
theorem c_X8_firstShut (l : Launch) (dC : Nat → ClassId) (dI : Nat → Nat → Nat) (sz : Nat) (a0 : Nat) (a1 : Int32) (a2 : Int32) (a0_0 : Int32) (a0g_1 a0g_2 a0g_3 a0g_4 a0g_5 a0g_6 a0g_7 a0g_8 a0g_9 a0g_10 a0g_12 a0g_13 a0g_16 a0g_18 a0g_19 a0g_20 a0g_21 a0g_22 a0g_23 a0g_24 a0g_25 a0g_26 a0g_27 a0g_28 a0g_32 a0g_33 a0g_34 a0g_35 a0g_36 a0g_37 : Value) (a0_11 : Int32) (a0_14 : Int32) (a0_15 : Nat) (a0_17 : Nat) (a0_29 : Nat) (a0_30 : Int32) (a0_31 : Int32) (a0_38 : Int32) (a0_39 : Int32) (ka0_17 : ClassId) (fa0_17 : Nat → Int32) (ka0_29 : ClassId) (fa0_29 : Nat → Int32) (ka0_15 : ClassId) (fa0_15 : Nat → Int32) (ba0_14_l : (1 : Int) ≤ a0_14.toInt) (ba0_14_u : a0_14.toInt ≤ (1 : Int)) (bfa0_17 : ((∀ k : Nat, 0 ≤ k → k ≤ 8 → (0 : Int) ≤ (fa0_17 k).toInt ∧ (fa0_17 k).toInt ≤ 8) ∧ (∀ k : Nat, 19 ≤ k → k ≤ 19 → (0 : Int) ≤ (fa0_17 k).toInt ∧ (fa0_17 k).toInt ≤ 8) ∧ (∀ k : Nat, 20 ≤ k → k ≤ 20 → (0 : Int) ≤ (fa0_17 k).toInt ∧ (fa0_17 k).toInt ≤ 19))) (bfa0_29 : (∀ k, (0 : Int) ≤ (fa0_29 k).toInt ∧ (fa0_29 k).toInt ≤ 8)) (bfa0_15 : ((∀ k : Nat, 0 ≤ k → k ≤ 0 → (2 : Int) ≤ (fa0_15 k).toInt ∧ (fa0_15 k).toInt ≤ 9) ∧ (∀ k : Nat, 1 ≤ k → k ≤ 1 → (1 : Int) ≤ (fa0_15 k).toInt ∧ (fa0_15 k).toInt ≤ 20) ∧ (∀ k : Nat, 2 ≤ k → k ≤ 2 → (0 : Int) ≤ (fa0_15 k).toInt ∧ (fa0_15 k).toInt ≤ 8) ∧ (∀ k : Nat, 3 ≤ k → k ≤ 3 → (0 : Int) ≤ (fa0_15 k).toInt ∧ (fa0_15 k).toInt ≤ 100) ∧ (∀ k : Nat, 4 ≤ k → k ≤ 4 → (0 : Int) ≤ (fa0_15 k).toInt ∧ (fa0_15 k).toInt ≤ 9) ∧ (∀ k : Nat, 5 ≤ k → k ≤ 5 → (0 : Int) ≤ (fa0_15 k).toInt ∧ (fa0_15 k).toInt ≤ 3) ∧ (∀ k : Nat, 6 ≤ k → k ≤ 6 → (0 : Int) ≤ (fa0_15 k).toInt ∧ (fa0_15 k).toInt ≤ 6) ∧ (∀ k : Nat, 7 ≤ k → k ≤ 9 → (0 : Int) ≤ (fa0_15 k).toInt ∧ (fa0_15 k).toInt ≤ 8) ∧ (∀ k : Nat, 12 ≤ k → k ≤ 29 → (0 : Int) ≤ (fa0_15 k).toInt ∧ (fa0_15 k).toInt ≤ 20) ∧ (∀ k : Nat, 30 ≤ k → k ≤ 35 → (0 : Int) ≤ (fa0_15 k).toInt ∧ (fa0_15 k).toInt ≤ 8) ∧ (∀ k : Nat, 36 ≤ k → k ≤ 47 → (0 : Int) ≤ (fa0_15 k).toInt ∧ (fa0_15 k).toInt ≤ 999))) : zm l yX8_firstShut wsX8_firstShut ({ frames := 3, cells := 0, slots := 0, locals := 72 }) [.ref a0, .int a1, .int a2] dC dI sz [(a0, .inr (8, [Value.int a0_0, a0g_1, a0g_2, a0g_3, a0g_4, a0g_5, a0g_6, a0g_7, a0g_8, a0g_9, a0g_10, Value.int a0_11, a0g_12, a0g_13, Value.int a0_14, Value.ref a0_15, a0g_16, Value.ref a0_17, a0g_18, a0g_19, a0g_20, a0g_21, a0g_22, a0g_23, a0g_24, a0g_25, a0g_26, a0g_27, a0g_28, Value.ref a0_29, Value.int a0_30, Value.int a0_31, a0g_32, a0g_33, a0g_34, a0g_35, a0g_36, a0g_37, Value.int a0_38, Value.int a0_39])), (a0_17, .inl (ka0_17, 23, .inl (fa0_17))), (a0_29, .inl (ka0_29, 10, .inl (fa0_29))), (a0_15, .inl (ka0_15, 156, .inl (fa0_15)))] [(ka0_17, .int), (ka0_29, .int), (ka0_15, .int)] (fun A _ => True) (fun A => va_Qi (fun (r : Int32) (_ : Unit) => True) (fun (_ : Unit) (t : State) => ∃ na0_0 : Int32, ∃ na0_11 : Int32, ∃ na0_30 : Int32, ∃ na0_31 : Int32, ∃ na0_38 : Int32, ∃ na0_39 : Int32, ∃ nfa0_29 : Nat → Int32, (∀ k, (0 : Int) ≤ (nfa0_29 k).toInt ∧ (nfa0_29 k).toInt ≤ 8) ∧ ax_B dC dI A [(a0, .inr (8, [Value.int na0_0, a0g_1, a0g_2, a0g_3, a0g_4, a0g_5, a0g_6, a0g_7, a0g_8, a0g_9, a0g_10, Value.int na0_11, a0g_12, a0g_13, Value.int a0_14, Value.ref a0_15, a0g_16, Value.ref a0_17, a0g_18, a0g_19, a0g_20, a0g_21, a0g_22, a0g_23, a0g_24, a0g_25, a0g_26, a0g_27, a0g_28, Value.ref a0_29, Value.int na0_30, Value.int na0_31, a0g_32, a0g_33, a0g_34, a0g_35, a0g_36, a0g_37, Value.int na0_38, Value.int na0_39])), (a0_17, .inl (ka0_17, 23, .inl (fa0_17))), (a0_29, .inl (ka0_29, 10, .inl (nfa0_29))), (a0_15, .inl (ka0_15, 156, .inl (fa0_15)))] [(ka0_17, .int), (ka0_29, .int), (ka0_15, .int)] t) A) := by
  refine zh (cc := cX8_firstShut) (maxL := 4) (ret := (some .int)) zn_RX8 rfl (Nat.le_of_ble_eq_true rfl) (fun p e s m below meth c A ls hx hb hml hr hts (hown : s.vm.findClass RX8 = some m.cls) hlocks hA hS hP hK hD hE (hl : lv_has ls 4 [(0, .ref a0), (1, .int a1), (2, .int a2)]) => ?_)
  refine lv_aload_n hx hb dX8_firstShut_0 rfl (lv_at hl 0 rfl) ?_
  refine va_callv (va_runV (As := []) (rest := []) ⟨hx, hb, hml, hown, hts⟩ (c_X8_good l dC dI s.heap.size a0 a0_0 a0g_1 a0g_2 a0g_3 a0g_4 a0g_5 a0g_6 a0g_7 a0g_8 a0g_9 a0g_10 a0g_12 a0g_13 (Value.int a0_14) (Value.ref a0_15) a0g_16 (Value.ref a0_17) a0g_18 a0g_19 a0g_20 a0g_21 a0g_22 a0g_23 a0g_24 a0g_25 a0g_26 a0g_27 a0g_28 (Value.ref a0_29) (Value.int a0_30) (Value.int a0_31) a0g_32 a0g_33 a0g_34 a0g_35 a0g_36 a0g_37 (Value.int a0_38) (Value.int a0_39) a0_11 ) (cwV 0 hts gX8_firstShut_X8_good rfl rfl rfl zd_X8_good ⟨Nat.le_of_ble_eq_true rfl, Nat.le_of_ble_eq_true rfl⟩) ⟨ax_blind (fun _ _ _ _ _ => trivial), zr_8 (zp_K hK) (zp_P1 hP) (q0 := 0) rfl, ax_pre (zp_P1 hP) (zp_K hK) (zp_D1 hD) (fun _ _ => trivial)⟩ rfl rfl hl.1 rfl (lv_room (Nat.le_of_ble_eq_true rfl)) dX8_firstShut_1 ⟨Nat.le_of_ble_eq_true rfl, Nat.le_of_ble_eq_true rfl⟩) hS (fun q _ h => zp_F1 hD hS hA q h) (zp_F1 hD hS hA) (fun u t H locs ht hvm hw hB hz1 hk1 hS1 => zx_2 hB (fun v1na0_0 v1na0_11 hB => zo1 hB ht hP hD hk1 (zp_F1 hD hS hA) hS1 (fun hP hK1 hD hS => ?_)))
  refine lv_aload_n hx hb dX8_firstShut_4 rfl (lv_at hl 0 rfl) ?_
  refine lv_aload_n hx hb dX8_firstShut_5 rfl (lv_at hl 0 rfl) ?_
  refine va_get (D := (dC, dI)) (ci := 8) (v := .int a0_14) (C := RX8) (T := TX8) (N := 40) hx hb hts zi_X8_firstShut_8 hown hK hP 0 rfl rfl 14 (by decide) (hts (.fieldLink RX8 173 "WaxTurnsModel" "hasGallery" "Z") (zm_X8_firstShut_r1 (List.mem_of_getElem? (i := 0) rfl))) (fun _ h9 => h9) rfl dX8_firstShut_6 ?_
  refine lv_iconst (v := (-1)) hx hb dX8_firstShut_9 zk_iconst_n1 ?_
  refine lv_iload_n hx hb dX8_firstShut_10 rfl (lv_at hl 1 rfl) ?_
  refine lv_iload_n hx hb dX8_firstShut_11 rfl (lv_at hl 2 rfl) ?_
  have hKc := hK.sub (tys' := [(ka0_17, .int), (ka0_29, .int), (ka0_15, .int)]) [0, 1, 2] rfl
  refine va_calli (va_runV (As := [.int a0_14, .int (-1), .int a1, .int a2]) (rest := []) ⟨hx, hb, hml, hown, hts⟩ (c_X8_drawWhy l dC dI H.size a0 a0_14 (-1) a1 a2 (Value.int v1na0_0) a0g_1 a0g_2 a0g_3 a0g_4 a0g_5 a0g_6 a0g_7 a0g_8 a0g_9 a0g_10 (Value.int v1na0_11) a0g_12 a0g_13 (Value.int a0_14) a0g_16 a0g_18 a0g_19 a0g_20 a0g_21 a0g_22 a0g_23 a0g_24 a0g_25 a0g_26 a0g_27 a0g_28 a0g_32 a0g_33 a0g_34 a0g_35 a0g_36 a0g_37 a0_15 a0_17 a0_29 a0_30 a0_31 a0_38 a0_39 ka0_17 fa0_17 ka0_29 fa0_29 ka0_15 fa0_15 (Int.le_trans zq4 ba0_14_l) ba0_14_u bfa0_17 bfa0_29 bfa0_15) (cwV 4 hts gX8_firstShut_X8_drawWhy rfl rfl rfl zd_X8_drawWhy ⟨Nat.le_of_ble_eq_true rfl, Nat.le_of_ble_eq_true rfl⟩) ⟨ax_blind (fun _ _ _ _ _ => trivial), zr_8 hKc (zp_P4 hP) (q0 := 0) rfl, ax_pre (zp_P4 hP) hKc (zp_D4 hD) (fun _ _ => trivial)⟩ rfl rfl hl.1 rfl (lv_room (Nat.le_of_ble_eq_true rfl)) dX8_firstShut_12 ⟨Nat.le_of_ble_eq_true rfl, Nat.le_of_ble_eq_true rfl⟩) hS (fun q _ h => zp_F4 hD hS hA q h) (zp_F4 hD hS hA) (fun r12 u t H locs ht hvm hw hB hz1 hk1 hS1 => zx_5 hB (fun v12na0_30 v12na0_31 v12na0_38 v12na0_39 v12nfa0_29 hB => zy_1 hB (fun bv12nfa0_29 hB => zo4 hB ht hP hD hk1 (zp_F4 hD hS hA) hS1 (fun hP hK1 hD hS => ?_))))
  rcases hw with hw | hw | hw
  · obtain ⟨hw, h12_0, h12_1⟩ := hw
    subst hw
    have l12k0_a0_14 : (1 : Int) ≤ a0_14.toInt := ba0_14_l
    have u12k0_a0_14 : a0_14.toInt ≤ (1 : Int) := ba0_14_u
    refine lv_istore_n (lv' := [(3, .int 2), (0, .ref a0), (1, .int a1), (2, .int a2)]) hx hb dX8_firstShut_15 rfl hl (by decide) rfl (fun ls hl => ?_)
    refine lv_iload_n hx hb dX8_firstShut_16 rfl (lv_at hl 0 rfl) ?_
    refine lv_if_eq (tgt := 28) hx hb dX8_firstShut_17 (by decide) (fun c17 => absurd c17 (by decide +kernel)) (fun _ => ?_)
    refine lv_aload_n hx hb dX8_firstShut_20 rfl (lv_at hl 1 rfl) ?_
    refine lv_iload_n hx hb dX8_firstShut_21 rfl (lv_at hl 0 rfl) ?_
    refine va_calli (va_runV (As := [.int 2]) (rest := []) ⟨hx, hb, hml, hown, hts⟩ (c_X8_no l dC dI H.size a0 2 (Value.int v1na0_0) a0g_1 a0g_2 a0g_3 a0g_4 a0g_5 a0g_6 a0g_7 a0g_8 a0g_9 a0g_10 a0g_12 a0g_13 (Value.int a0_14) (Value.ref a0_15) a0g_16 (Value.ref a0_17) a0g_18 a0g_19 a0g_20 a0g_21 a0g_22 a0g_23 a0g_24 a0g_25 a0g_26 a0g_27 a0g_28 (Value.ref a0_29) (Value.int v12na0_30) (Value.int v12na0_31) a0g_32 a0g_33 a0g_34 a0g_35 a0g_36 a0g_37 (Value.int v12na0_38) (Value.int v12na0_39) v1na0_11 ) (cwV 1 hts gX8_firstShut_X8_no rfl rfl rfl zd_X8_no ⟨Nat.le_of_ble_eq_true rfl, Nat.le_of_ble_eq_true rfl⟩) ⟨ax_blind (fun _ _ _ _ _ => trivial), zr_8 (zp_K hK) (zp_P1 hP) (q0 := 0) rfl, ax_pre (zp_P1 hP) (zp_K hK) (zp_D1 hD) (fun _ _ => trivial)⟩ rfl rfl hl.1 rfl (lv_room (Nat.le_of_ble_eq_true rfl)) dX8_firstShut_22 ⟨Nat.le_of_ble_eq_true rfl, Nat.le_of_ble_eq_true rfl⟩) hS (fun q _ h => zp_F1 hD hS hA q h) (zp_F1 hD hS hA) (fun r22 u t H locs ht hvm hw hB hz1 hk1 hS1 => zx_1 hB (fun v22na0_11 hB => zo1 hB ht hP hD hk1 (zp_F1 hD hS hA) hS1 (fun hP hK1 hD hS => ?_)))
    have hw : r22 = (-1) := hw
    have hw := hw.symm
    subst hw
    refine lv_goto (tgt := 32) hx hb dX8_firstShut_25 (by decide) ?_
    exact W.iret (v := (-1)) hx hb hr (fun t ht hW => ⟨⟨(-1), (), rfl, trivial, v1na0_0, v22na0_11, v12na0_30, v12na0_31, v12na0_38, v12na0_39, v12nfa0_29, bv12nfa0_29, by rw [ht]; exact hP, va_K.moved hW.alike hK, hD⟩, hS.F ht⟩) hS.2.2 dX8_firstShut_32
  · obtain ⟨hw, h12_0, h12_1⟩ := hw
    subst hw
    have l12k1_a0_14 : (1 : Int) ≤ a0_14.toInt := ba0_14_l
    have u12k1_a0_14 : a0_14.toInt ≤ (0 : Int) := h12_1
    exact absurd (Int.le_trans l12k1_a0_14 u12k1_a0_14) (by decide)
  · obtain ⟨hw, h12_0, h12_1, h12_2, h12_3, h12_4, h12_5⟩ := hw
    subst hw
    have l12k2_a0_14 : (1 : Int) ≤ a0_14.toInt := ba0_14_l
    have u12k2_a0_14 : a0_14.toInt ≤ (1 : Int) := ba0_14_u
    have l12k2_a1 : (0 : Int) ≤ a1.toInt := h12_2
    have u12k2_a1 : a1.toInt ≤ (65536 : Int) := h12_3
    have l12k2_a2 : (0 : Int) ≤ a2.toInt := h12_4
    have u12k2_a2 : a2.toInt ≤ (200 : Int) := h12_5
    refine lv_istore_n (lv' := [(3, .int 0), (0, .ref a0), (1, .int a1), (2, .int a2)]) hx hb dX8_firstShut_15 rfl hl (by decide) rfl (fun ls hl => ?_)
    refine lv_iload_n hx hb dX8_firstShut_16 rfl (lv_at hl 0 rfl) ?_
    refine lv_if_eq (tgt := 28) hx hb dX8_firstShut_17 (by decide) (fun _ => ?_) (fun c17 => absurd (by decide +kernel) c17)
    refine lv_aload_n hx hb dX8_firstShut_28 rfl (lv_at hl 1 rfl) ?_
    refine va_get (D := (dC, dI)) (ci := 8) (v := .int v12na0_38) (C := RX8) (T := TX8) (N := 40) hx hb hts zi_X8_firstShut_8 hown hK hP 0 rfl rfl 38 (by decide) (hts (.fieldLink RX8 375 "WaxTurnsModel" "shutFirst" "I") (zm_X8_firstShut_r1 (List.mem_of_getElem? (i := 1) rfl))) (fun _ h9 => h9) rfl dX8_firstShut_29 ?_
    exact W.iret (v := v12na0_38) hx hb hr (fun t ht hW => ⟨⟨v12na0_38, (), rfl, trivial, v1na0_0, v1na0_11, v12na0_30, v12na0_31, v12na0_38, v12na0_39, v12nfa0_29, bv12nfa0_29, by rw [ht]; exact hP, va_K.moved hW.alike hK, hD⟩, hS.F ht⟩) hS.2.2 dX8_firstShut_32
end P260_05_safe
