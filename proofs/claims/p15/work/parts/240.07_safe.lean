section P240_07_safe
set_option maxHeartbeats 4000000 in
set_option maxRecDepth 100000 in
theorem c_X8_patrol (l : Launch) (dC : Nat → ClassId) (dI : Nat → Nat → Nat) (sz : Nat) (a0 : Nat) (a1 : Int32) (a2 : Int32) (a0_0 : Int32) (a0g_1 a0g_2 a0g_3 a0g_4 a0g_5 a0g_6 a0g_7 a0g_8 a0g_9 a0g_10 a0g_12 a0g_13 a0g_16 a0g_19 a0g_20 a0g_21 a0g_22 a0g_29 a0g_30 a0g_31 a0g_32 a0g_33 a0g_34 a0g_35 a0g_36 a0g_37 a0g_38 a0g_39 : Value) (a0_11 : Int32) (a0_14 : Int32) (a0_15 : Nat) (a0_17 : Nat) (a0_18 : Nat) (a0_23 : Nat) (a0_24 : Nat) (a0_25 : Int32) (a0_26 : Int32) (a0_27 : Int32) (a0_28 : Int32) (ka0_15 : ClassId) (fa0_15 : Nat → Int32) (ka0_23 : ClassId) (fa0_23 : Nat → Int32) (ka0_24 : ClassId) (fa0_24 : Nat → Int32) (ka0_17 : ClassId) (fa0_17 : Nat → Int32) (ka0_18 : ClassId) (fa0_18 : Nat → Int32) (ba0_14_l : (1 : Int) ≤ a0_14.toInt) (ba0_14_u : a0_14.toInt ≤ (1 : Int)) (bfa0_15 : ((∀ k : Nat, 0 ≤ k → k ≤ 0 → (2 : Int) ≤ (fa0_15 k).toInt ∧ (fa0_15 k).toInt ≤ 9) ∧ (∀ k : Nat, 1 ≤ k → k ≤ 1 → (1 : Int) ≤ (fa0_15 k).toInt ∧ (fa0_15 k).toInt ≤ 20) ∧ (∀ k : Nat, 2 ≤ k → k ≤ 2 → (0 : Int) ≤ (fa0_15 k).toInt ∧ (fa0_15 k).toInt ≤ 8) ∧ (∀ k : Nat, 3 ≤ k → k ≤ 3 → (0 : Int) ≤ (fa0_15 k).toInt ∧ (fa0_15 k).toInt ≤ 100) ∧ (∀ k : Nat, 4 ≤ k → k ≤ 4 → (0 : Int) ≤ (fa0_15 k).toInt ∧ (fa0_15 k).toInt ≤ 9) ∧ (∀ k : Nat, 5 ≤ k → k ≤ 5 → (0 : Int) ≤ (fa0_15 k).toInt ∧ (fa0_15 k).toInt ≤ 3) ∧ (∀ k : Nat, 6 ≤ k → k ≤ 6 → (0 : Int) ≤ (fa0_15 k).toInt ∧ (fa0_15 k).toInt ≤ 6) ∧ (∀ k : Nat, 7 ≤ k → k ≤ 9 → (0 : Int) ≤ (fa0_15 k).toInt ∧ (fa0_15 k).toInt ≤ 8) ∧ (∀ k : Nat, 12 ≤ k → k ≤ 29 → (0 : Int) ≤ (fa0_15 k).toInt ∧ (fa0_15 k).toInt ≤ 20) ∧ (∀ k : Nat, 30 ≤ k → k ≤ 35 → (0 : Int) ≤ (fa0_15 k).toInt ∧ (fa0_15 k).toInt ≤ 8) ∧ (∀ k : Nat, 36 ≤ k → k ≤ 47 → (0 : Int) ≤ (fa0_15 k).toInt ∧ (fa0_15 k).toInt ≤ 999))) (bfa0_23 : (∀ k, (0 : Int) ≤ (fa0_23 k).toInt ∧ (fa0_23 k).toInt ≤ 80)) (bfa0_24 : (∀ k, (0 : Int) ≤ (fa0_24 k).toInt ∧ (fa0_24 k).toInt ≤ 80)) (bfa0_17 : ((∀ k : Nat, 0 ≤ k → k ≤ 8 → (0 : Int) ≤ (fa0_17 k).toInt ∧ (fa0_17 k).toInt ≤ 8) ∧ (∀ k : Nat, 19 ≤ k → k ≤ 19 → (0 : Int) ≤ (fa0_17 k).toInt ∧ (fa0_17 k).toInt ≤ 8) ∧ (∀ k : Nat, 20 ≤ k → k ≤ 20 → (0 : Int) ≤ (fa0_17 k).toInt ∧ (fa0_17 k).toInt ≤ 19))) (bfa0_18 : ((∀ k : Nat, 0 ≤ k → k ≤ 8 → (0 : Int) ≤ (fa0_18 k).toInt ∧ (fa0_18 k).toInt ≤ 8) ∧ (∀ k : Nat, 19 ≤ k → k ≤ 19 → (0 : Int) ≤ (fa0_18 k).toInt ∧ (fa0_18 k).toInt ≤ 8) ∧ (∀ k : Nat, 20 ≤ k → k ≤ 20 → (0 : Int) ≤ (fa0_18 k).toInt ∧ (fa0_18 k).toInt ≤ 19))) (hkm : ∀ (j i0 i : Int32), (0 : Int) ≤ j.toInt → j.toInt ≤ 8 → i0.toInt = 12 + 2 * j.toInt → i.toInt = 13 + 2 * j.toInt → (fa0_15 i0.toNatClampNeg).toInt = (1 : Int32).toInt → (1 : Int) ≤ (fa0_15 i.toNatClampNeg).toInt) : zm l yX8_patrol wsX8_patrol ({ frames := 4, cells := 0, slots := 0, locals := 95 }) [.ref a0, .int a1, .int a2] dC dI sz [(a0, .inr (8, [Value.int a0_0, a0g_1, a0g_2, a0g_3, a0g_4, a0g_5, a0g_6, a0g_7, a0g_8, a0g_9, a0g_10, Value.int a0_11, a0g_12, a0g_13, Value.int a0_14, Value.ref a0_15, a0g_16, Value.ref a0_17, Value.ref a0_18, a0g_19, a0g_20, a0g_21, a0g_22, Value.ref a0_23, Value.ref a0_24, Value.int a0_25, Value.int a0_26, Value.int a0_27, Value.int a0_28, a0g_29, a0g_30, a0g_31, a0g_32, a0g_33, a0g_34, a0g_35, a0g_36, a0g_37, a0g_38, a0g_39])), (a0_15, .inl (ka0_15, 156, .inl (fa0_15))), (a0_23, .inl (ka0_23, 3, .inl (fa0_23))), (a0_24, .inl (ka0_24, 3, .inl (fa0_24))), (a0_17, .inl (ka0_17, 23, .inl (fa0_17))), (a0_18, .inl (ka0_18, 23, .inl (fa0_18)))] [(ka0_15, .int), (ka0_23, .int), (ka0_24, .int), (ka0_17, .int), (ka0_18, .int)] (fun A _ => True) (fun A => va_Qi (fun (r : Int32) (_ : Unit) => (-2 : Int) ≤ r.toInt ∧ r.toInt ≤ (880 : Int)) (fun (_ : Unit) (t : State) => ∃ na0_0 : Int32, ∃ na0_11 : Int32, ∃ na0_25 : Int32, ∃ na0_26 : Int32, ∃ na0_27 : Int32, ∃ na0_28 : Int32, ∃ nfa0_23 : Nat → Int32, ∃ nfa0_24 : Nat → Int32, ∃ nfa0_18 : Nat → Int32, (∀ k, (0 : Int) ≤ (nfa0_23 k).toInt ∧ (nfa0_23 k).toInt ≤ 80) ∧ (∀ k, (0 : Int) ≤ (nfa0_24 k).toInt ∧ (nfa0_24 k).toInt ≤ 80) ∧ ((∀ k : Nat, 0 ≤ k → k ≤ 8 → (0 : Int) ≤ (nfa0_18 k).toInt ∧ (nfa0_18 k).toInt ≤ 8) ∧ (∀ k : Nat, 19 ≤ k → k ≤ 19 → (0 : Int) ≤ (nfa0_18 k).toInt ∧ (nfa0_18 k).toInt ≤ 8) ∧ (∀ k : Nat, 20 ≤ k → k ≤ 20 → (0 : Int) ≤ (nfa0_18 k).toInt ∧ (nfa0_18 k).toInt ≤ 19)) ∧ ax_B dC dI A [(a0, .inr (8, [Value.int na0_0, a0g_1, a0g_2, a0g_3, a0g_4, a0g_5, a0g_6, a0g_7, a0g_8, a0g_9, a0g_10, Value.int na0_11, a0g_12, a0g_13, Value.int a0_14, Value.ref a0_15, a0g_16, Value.ref a0_17, Value.ref a0_18, a0g_19, a0g_20, a0g_21, a0g_22, Value.ref a0_23, Value.ref a0_24, Value.int na0_25, Value.int na0_26, Value.int na0_27, Value.int na0_28, a0g_29, a0g_30, a0g_31, a0g_32, a0g_33, a0g_34, a0g_35, a0g_36, a0g_37, a0g_38, a0g_39])), (a0_15, .inl (ka0_15, 156, .inl (fa0_15))), (a0_23, .inl (ka0_23, 3, .inl (nfa0_23))), (a0_24, .inl (ka0_24, 3, .inl (nfa0_24))), (a0_17, .inl (ka0_17, 23, .inl (fa0_17))), (a0_18, .inl (ka0_18, 23, .inl (nfa0_18)))] [(ka0_15, .int), (ka0_23, .int), (ka0_24, .int), (ka0_17, .int), (ka0_18, .int)] t) A) := by
  refine zh (cc := cX8_patrol) (maxL := 9) (ret := (some .int)) zn_RX8 rfl (Nat.le_of_ble_eq_true rfl) (fun p e s m below meth c A ls hx hb hml hr hts (hown : s.vm.findClass RX8 = some m.cls) hlocks hA hS hP hK hD hE (hl : lv_has ls 9 [(0, .ref a0), (1, .int a1), (2, .int a2)]) => ?_)
  refine ai_open (fun K hK0 => ?_)
  refine (hK0 _ _ _).mpr ?_
  refine lv_aload_n hx hb dX8_patrol_0 rfl (lv_at hl 0 rfl) ?_
  refine va_callv (va_runV (As := []) (rest := []) ⟨hx, hb, hml, hown, hts⟩ (c_X8_good l dC dI s.heap.size a0 a0_0 a0g_1 a0g_2 a0g_3 a0g_4 a0g_5 a0g_6 a0g_7 a0g_8 a0g_9 a0g_10 a0g_12 a0g_13 (Value.int a0_14) (Value.ref a0_15) a0g_16 (Value.ref a0_17) (Value.ref a0_18) a0g_19 a0g_20 a0g_21 a0g_22 (Value.ref a0_23) (Value.ref a0_24) (Value.int a0_25) (Value.int a0_26) (Value.int a0_27) (Value.int a0_28) a0g_29 a0g_30 a0g_31 a0g_32 a0g_33 a0g_34 a0g_35 a0g_36 a0g_37 a0g_38 a0g_39 a0_11 ) (cwV 0 hts gX8_patrol_X8_good rfl rfl rfl zd_X8_good ⟨Nat.le_of_ble_eq_true rfl, Nat.le_of_ble_eq_true rfl⟩) ⟨ax_blind (fun _ _ _ _ _ => trivial), zr_8 (zp_K hK) (zp_P1 hP) (q0 := 0) rfl, ax_pre (zp_P1 hP) (zp_K hK) (zp_D1 hD) (fun _ _ => trivial)⟩ rfl rfl hl.1 rfl (lv_room (Nat.le_of_ble_eq_true rfl)) dX8_patrol_1 ⟨Nat.le_of_ble_eq_true rfl, Nat.le_of_ble_eq_true rfl⟩) hS (fun q _ h => zp_F1 hD hS hA q h) (zp_F1 hD hS hA) (fun u t H locs ht hvm hw hB hz1 hk1 hS1 => zx_2 hB (fun v1na0_0 v1na0_11 hB => zo1 hB ht hP hD hk1 (zp_F1 hD hS hA) hS1 (fun hP hK1 hD hS => ?_)))
  refine lv_aload_n hx hb dX8_patrol_4 rfl (lv_at hl 0 rfl) ?_
  refine lv_aload_n hx hb dX8_patrol_5 rfl (lv_at hl 0 rfl) ?_
  refine lv_iload_n hx hb dX8_patrol_6 rfl (lv_at hl 1 rfl) ?_
  have hKc := hK.sub (tys' := [(ka0_15, .int)]) [0] rfl
  refine va_calli (va_runV (As := [.int a1]) (rest := [.ref a0]) ⟨hx, hb, hml, hown, hts⟩ (c_X8_isWatcher l dC dI H.size a0 a1 (Value.int v1na0_0) a0g_1 a0g_2 a0g_3 a0g_4 a0g_5 a0g_6 a0g_7 a0g_8 a0g_9 a0g_10 (Value.int v1na0_11) a0g_12 a0g_13 a0g_16 (Value.ref a0_17) (Value.ref a0_18) a0g_19 a0g_20 a0g_21 a0g_22 (Value.ref a0_23) (Value.ref a0_24) (Value.int a0_25) (Value.int a0_26) (Value.int a0_27) (Value.int a0_28) a0g_29 a0g_30 a0g_31 a0g_32 a0g_33 a0g_34 a0g_35 a0g_36 a0g_37 a0g_38 a0g_39 a0_14 a0_15 ka0_15 fa0_15 ba0_14_l ba0_14_u bfa0_15) (cwV 1 hts gX8_patrol_X8_isWatcher rfl rfl rfl zd_X8_isWatcher ⟨Nat.le_of_ble_eq_true rfl, Nat.le_of_ble_eq_true rfl⟩) ⟨ax_blind (fun _ _ _ _ _ => trivial), zr_8 hKc (zp_P2 hP) (q0 := 0) rfl, ax_pre (zp_P2 hP) hKc (zp_D2 hD) (fun _ _ => trivial)⟩ rfl rfl hl.1 rfl (lv_room (Nat.le_of_ble_eq_true rfl)) dX8_patrol_7 ⟨Nat.le_of_ble_eq_true rfl, Nat.le_of_ble_eq_true rfl⟩) hS (fun q _ h => zp_F2 hD hS hA q h) (zp_F2 hD hS hA) (fun r7 u t H locs ht hvm hw hB hz1 hk1 hS1 => zo2 hB ht hP hD hk1 (zp_F2 hD hS hA) hS1 (fun hP hK1 hD hS => ?_))
  rcases hw with hw | hw
  · obtain ⟨hw, h7_0, h7_1⟩ := hw
    subst hw
    have l7k0_a1 : (0 : Int) ≤ a1.toInt := h7_0
    have u7k0_a1 : a1.toInt ≤ (2 : Int) := h7_1
    refine lv_iload_n hx hb dX8_patrol_10 rfl (lv_at hl 2 rfl) ?_
    refine lv_iconst (v := 1) hx hb dX8_patrol_11 zk_iconst_1 ?_
    refine lv_bipush (v := 60) hx hb dX8_patrol_12 zk_bipush_60 ?_
    refine va_calli (va_runS (As := [.int a2, .int 1, .int 60]) (rest := [.int 1, .ref a0]) ⟨hx, hb, hml, hown, hts⟩ (c_X8_in l dC dI H.size a2 1 60 ) (va_cwS 3 hts gX8_patrol_X8_in rfl rfl rfl zd_X8_in.2 ⟨Nat.le_of_ble_eq_true rfl, Nat.le_of_ble_eq_true rfl⟩) ⟨ax_blind (fun _ _ _ _ _ => trivial), ax_pre (zp_P0 hP) (zp_K hK) (zp_D0 hD) (fun _ _ => trivial)⟩ rfl rfl hl.1 rfl (lv_room (Nat.le_of_ble_eq_true rfl)) dX8_patrol_14 ⟨Nat.le_of_ble_eq_true rfl, Nat.le_of_ble_eq_true rfl⟩) hS (fun q _ h => zp_F0 hD hS hA q h) (zp_F0 hD hS hA) (fun r14 u t H locs ht hvm hw hB hz1 hk1 hS1 => zo0 hB ht hP hD hk1 (zp_F0 hD hS hA) hS1 (fun hP hK1 hD hS => ?_))
    rcases hw with hw | hw
    · obtain ⟨hw, h14⟩ := hw
      subst hw
      have l14k0_a2 : (1 : Int) ≤ a2.toInt := Int.le_trans zq1 h14.1
      have u14k0_a2 : a2.toInt ≤ (60 : Int) := Int.le_trans h14.2 zq46
      refine va_calli (va_runV (As := [.int 1, .int 1]) (rest := []) ⟨hx, hb, hml, hown, hts⟩ (c_X8_whyB l dC dI H.size a0 1 1 (Value.int v1na0_0) a0g_1 a0g_2 a0g_3 a0g_4 a0g_5 a0g_6 a0g_7 a0g_8 a0g_9 a0g_10 (Value.int v1na0_11) a0g_12 a0g_13 (Value.int a0_14) (Value.ref a0_15) a0g_16 (Value.ref a0_17) (Value.ref a0_18) a0g_19 a0g_20 a0g_21 a0g_22 (Value.ref a0_23) (Value.ref a0_24) (Value.int a0_25) (Value.int a0_26) (Value.int a0_27) (Value.int a0_28) a0g_29 a0g_30 a0g_31 a0g_32 a0g_33 a0g_34 a0g_35 a0g_36 a0g_37 a0g_38 a0g_39 (Int.le_trans zq4 zq1) zq0 (Int.le_trans zq4 zq1) zq0) (cwV 2 hts gX8_patrol_X8_why rfl rfl rfl zd_X8_why ⟨Nat.le_of_ble_eq_true rfl, Nat.le_of_ble_eq_true rfl⟩) ⟨ax_blind (fun _ _ _ _ _ => trivial), zr_8 (zp_K hK) (zp_P1 hP) (q0 := 0) rfl, ax_pre (zp_P1 hP) (zp_K hK) (zp_D1 hD) (fun _ _ => trivial)⟩ rfl rfl hl.1 rfl (lv_room (Nat.le_of_ble_eq_true rfl)) dX8_patrol_17 ⟨Nat.le_of_ble_eq_true rfl, Nat.le_of_ble_eq_true rfl⟩) hS (fun q _ h => zp_F1 hD hS hA q h) (zp_F1 hD hS hA) (fun r17 u t H locs ht hvm hw hB hz1 hk1 hS1 => zo1 hB ht hP hD hk1 (zp_F1 hD hS hA) hS1 (fun hP hK1 hD hS => ?_))
      rcases hw with hw | hw | hw
      · obtain ⟨hw, h17_0, h17_1, h17_2, h17_3⟩ := hw
        subst hw
        exact absurd h17_3 (by decide)
      · obtain ⟨hw, h17_0, h17_1⟩ := hw
        subst hw
        exact absurd h17_1 (by decide)
      · obtain ⟨hw, h17_0, h17_1, h17_2, h17_3⟩ := hw
        subst hw
        refine lv_istore_n (lv' := [(3, .int 0), (0, .ref a0), (1, .int a1), (2, .int a2)]) hx hb dX8_patrol_20 rfl hl (by decide) rfl (fun ls hl => ?_)
        refine lv_iload_n hx hb dX8_patrol_21 rfl (lv_at hl 0 rfl) ?_
        refine lv_if_eq (tgt := 31) hx hb dX8_patrol_22 (by decide) (fun _ => ?_) (fun c22 => absurd (by decide +kernel) c22)
        refine lv_bipush (v := (-2)) hx hb dX8_patrol_31 zk_bipush_n2 ?_
        refine lv_istore (lv' := [(4, .int (-2)), (3, .int 0), (0, .ref a0), (1, .int a1), (2, .int a2)]) hx hb dX8_patrol_33 hl (by decide) rfl (fun ls hl => ?_)
        refine lv_ldcw (v := 100000000) hx hb hown (hts (.constant RX8 313 (100000000)) (zm_X8_patrol_r1 (List.mem_of_getElem? (i := 0) rfl))) dX8_patrol_35 ?_
        refine lv_istore (lv' := [(5, .int 100000000), (4, .int (-2)), (3, .int 0), (0, .ref a0), (1, .int a1), (2, .int a2)]) hx hb dX8_patrol_38 hl (by decide) rfl (fun ls hl => ?_)
        refine lv_iconst (v := (-1)) hx hb dX8_patrol_40 zk_iconst_n1 ?_
        refine lv_istore (lv' := [(6, .int (-1)), (5, .int 100000000), (4, .int (-2)), (3, .int 0), (0, .ref a0), (1, .int a1), (2, .int a2)]) hx hb dX8_patrol_41 hl (by decide) rfl (fun ls hl => ?_)
        refine lv_iconst (v := 0) hx hb dX8_patrol_43 zk_iconst_0 ?_
        refine lv_istore (lv' := [(7, .int 0), (6, .int (-1)), (5, .int 100000000), (4, .int (-2)), (3, .int 0), (0, .ref a0), (1, .int a1), (2, .int a2)]) hx hb dX8_patrol_44 hl (by decide) rfl (fun ls hl => ?_)
        have J46 : ∀ (n : Nat) (j46l7 : Int32) (j46l6 : Int32) (j46l5 : Int32) (j46l4 : Int32) (j46a0_25 : Int32) (j46a0_26 : Int32) (j46a0_27 : Int32) (j46a0_28 : Int32) (j46a0_23_a : Nat → Int32) (j46a0_24_a : Nat → Int32) (j46a0_18_a : Nat → Int32) (H : Heap) (locs : List Loc) (ls : Array Slot), (100 : Int) - j46l7.toInt ≤ (n : Int) → (0 : Int) ≤ j46l7.toInt → j46l7.toInt ≤ (99 : Int) → j46l5.toInt ≤ (100000000 : Int) → (-2 : Int) ≤ j46l4.toInt → j46l4.toInt ≤ (880 : Int) → (∀ k, (0 : Int) ≤ (j46a0_23_a k).toInt ∧ (j46a0_23_a k).toInt ≤ 80) → (∀ k, (0 : Int) ≤ (j46a0_24_a k).toInt ∧ (j46a0_24_a k).toInt ≤ 80) → ((∀ k : Nat, 0 ≤ k → k ≤ 8 → (0 : Int) ≤ (j46a0_18_a k).toInt ∧ (j46a0_18_a k).toInt ≤ 8) ∧ (∀ k : Nat, 19 ≤ k → k ≤ 19 → (0 : Int) ≤ (j46a0_18_a k).toInt ∧ (j46a0_18_a k).toInt ≤ 8) ∧ (∀ k : Nat, 20 ≤ k → k ≤ 20 → (0 : Int) ≤ (j46a0_18_a k).toInt ∧ (j46a0_18_a k).toInt ≤ 19)) → va_P (dC, dI) vwCl [(a0, .inr (8, [Value.int v1na0_0, a0g_1, a0g_2, a0g_3, a0g_4, a0g_5, a0g_6, a0g_7, a0g_8, a0g_9, a0g_10, Value.int v1na0_11, a0g_12, a0g_13, Value.int a0_14, Value.ref a0_15, a0g_16, Value.ref a0_17, Value.ref a0_18, a0g_19, a0g_20, a0g_21, a0g_22, Value.ref a0_23, Value.ref a0_24, Value.int j46a0_25, Value.int j46a0_26, Value.int j46a0_27, Value.int j46a0_28, a0g_29, a0g_30, a0g_31, a0g_32, a0g_33, a0g_34, a0g_35, a0g_36, a0g_37, a0g_38, a0g_39])), (a0_15, .inl (ka0_15, 156, .inl (fa0_15))), (a0_23, .inl (ka0_23, 3, .inl (j46a0_23_a))), (a0_24, .inl (ka0_24, 3, .inl (j46a0_24_a))), (a0_17, .inl (ka0_17, 23, .inl (fa0_17))), (a0_18, .inl (ka0_18, 23, .inl (j46a0_18_a)))] H → va_D A [(a0, .inr (8, [Value.int v1na0_0, a0g_1, a0g_2, a0g_3, a0g_4, a0g_5, a0g_6, a0g_7, a0g_8, a0g_9, a0g_10, Value.int v1na0_11, a0g_12, a0g_13, Value.int a0_14, Value.ref a0_15, a0g_16, Value.ref a0_17, Value.ref a0_18, a0g_19, a0g_20, a0g_21, a0g_22, Value.ref a0_23, Value.ref a0_24, Value.int j46a0_25, Value.int j46a0_26, Value.int j46a0_27, Value.int j46a0_28, a0g_29, a0g_30, a0g_31, a0g_32, a0g_33, a0g_34, a0g_35, a0g_36, a0g_37, a0g_38, a0g_39])), (a0_15, .inl (ka0_15, 156, .inl (fa0_15))), (a0_23, .inl (ka0_23, 3, .inl (j46a0_23_a))), (a0_24, .inl (ka0_24, 3, .inl (j46a0_24_a))), (a0_17, .inl (ka0_17, 23, .inl (fa0_17))), (a0_18, .inl (ka0_18, 23, .inl (j46a0_18_a)))] → va_S A s.heap H locs → lv_has ls 9 [(0, .ref a0), (1, .int a1), (2, .int a2), (4, .int j46l4), (5, .int j46l5), (6, .int j46l6), (7, .int j46l7)] → K H locs (F0 m 46 ls []) := by
          intro n
          induction n with
          | zero =>
            intro j46l7 j46l6 j46l5 j46l4 j46a0_25 j46a0_26 j46a0_27 j46a0_28 j46a0_23_a j46a0_24_a j46a0_18_a H locs ls hm bj46l7_l bj46l7_u bj46l5_u bj46l4_l bj46l4_u bj46a0_23_a bj46a0_24_a bj46a0_18_a hP hD hS hl
            have h8 := ai_min j46l7
            have h9 := ai_max j46l7
            exact absurd hm (by omega)
          | succ n ih46 =>
            intro j46l7 j46l6 j46l5 j46l4 j46a0_25 j46a0_26 j46a0_27 j46a0_28 j46a0_23_a j46a0_24_a j46a0_18_a H locs ls hm bj46l7_l bj46l7_u bj46l5_u bj46l4_l bj46l4_u bj46a0_23_a bj46a0_24_a bj46a0_18_a hP hD hS hl
            refine (hK0 _ _ _).mpr ?_
            have hm46 := hm
            refine lv_iload hx hb dX8_patrol_46 (lv_at hl 6 rfl) ?_
            refine lv_aload_n hx hb dX8_patrol_48 rfl (lv_at hl 0 rfl) ?_
            refine va_get (D := (dC, dI)) (ci := 8) (v := .ref a0_15) (C := RX8) (T := TX8) (N := 40) hx hb hts zi_X8_patrol_8 hown hK hP 0 rfl rfl 15 (by decide) (hts (.fieldLink RX8 20 "WaxTurnsModel" "\x72" "[I") (zm_X8_patrol_r1 (List.mem_of_getElem? (i := 1) rfl))) (fun _ h9 => h9) rfl dX8_patrol_49 ?_
            refine lv_iconst (v := 0) hx hb dX8_patrol_52 zk_iconst_0 ?_
            refine va_iald hx hb hK hP 1 0 rfl rfl (by unfold vp_in; decide +kernel) dX8_patrol_53 ?_
            refine lv_topi (fun x53 ex53 => ?_)
            have bx53 : (2 : Int) ≤ x53.toInt ∧ x53.toInt ≤ 9 := by rw [ex53]; exact ai_rd bfa0_15.1 zq5 zq6 (by decide) (by decide) (by decide)
            refine lv_aload_n hx hb dX8_patrol_54 rfl (lv_at hl 0 rfl) ?_
            refine va_get (D := (dC, dI)) (ci := 8) (v := .ref a0_15) (C := RX8) (T := TX8) (N := 40) hx hb hts zi_X8_patrol_8 hown hK hP 0 rfl rfl 15 (by decide) (hts (.fieldLink RX8 20 "WaxTurnsModel" "\x72" "[I") (zm_X8_patrol_r1 (List.mem_of_getElem? (i := 1) rfl))) (fun _ h9 => h9) rfl dX8_patrol_55 ?_
            refine lv_iconst (v := 0) hx hb dX8_patrol_58 zk_iconst_0 ?_
            refine va_iald hx hb hK hP 1 0 rfl rfl (by unfold vp_in; decide +kernel) dX8_patrol_59 ?_
            refine ax_ti x53 ex53.symm ?_
            refine lv_imul hx hb dX8_patrol_60 ?_
            refine lv_topi (fun x60 ex60 => ?_)
            have qx60 : x60.toInt = x53.toInt * x53.toInt ∧ (4 : Int) ≤ x60.toInt ∧ x60.toInt ≤ 81 := ai_mul ex60 ⟨bx53.1, bx53.2⟩ ⟨bx53.1, bx53.2⟩ (by decide) (by decide) zq21
            refine lv_icmp_ge (tgt := 199) hx hb dX8_patrol_61 (by decide) (fun c61 => ?_) (fun c61 => ?_)
            · have gc61 := ai_le c61
              have u61t_x60 : x60.toInt ≤ (81 : Int) := qx60.2.2
              have l61t_j46l7 : (4 : Int) ≤ j46l7.toInt := Int.le_trans qx60.2.1 gc61
              refine lv_iload hx hb dX8_patrol_199 (lv_at hl 3 rfl) ?_
              exact W.iret (v := j46l4) hx hb hr (fun t ht hW => ⟨⟨j46l4, (), rfl, ⟨bj46l4_l, bj46l4_u⟩, v1na0_0, v1na0_11, j46a0_25, j46a0_26, j46a0_27, j46a0_28, j46a0_23_a, j46a0_24_a, j46a0_18_a, bj46a0_23_a, bj46a0_24_a, bj46a0_18_a, by rw [ht]; exact hP, va_K.moved hW.alike hK, hD⟩, hS.F ht⟩) hS.2.2 dX8_patrol_201
            · have gc61 := ai_nle c61
              have u61f_j46l7 : j46l7.toInt ≤ (80 : Int) := ai_lthi gc61 qx60.2.2
              have l61f_x60 : (4 : Int) ≤ x60.toInt := qx60.2.1
              refine lv_aload_n hx hb dX8_patrol_64 rfl (lv_at hl 0 rfl) ?_
              have hKc := hK.sub (tys' := [(ka0_15, .int), (ka0_23, .int), (ka0_24, .int), (ka0_17, .int), (ka0_18, .int)]) [0, 1, 2, 3, 4] rfl
              refine va_callv (va_runV (As := []) (rest := []) ⟨hx, hb, hml, hown, hts⟩ (c_X8_begin l dC dI H.size a0 (Value.int v1na0_0) a0g_1 a0g_2 a0g_3 a0g_4 a0g_5 a0g_6 a0g_7 a0g_8 a0g_9 a0g_10 (Value.int v1na0_11) a0g_12 a0g_13 (Value.int a0_14) a0g_16 a0g_19 a0g_20 a0g_21 a0g_22 (Value.int j46a0_26) (Value.int j46a0_27) (Value.int j46a0_28) a0g_29 a0g_30 a0g_31 a0g_32 a0g_33 a0g_34 a0g_35 a0g_36 a0g_37 a0g_38 a0g_39 a0_15 a0_17 a0_18 a0_23 a0_24 j46a0_25 ka0_15 fa0_15 ka0_23 j46a0_23_a ka0_24 j46a0_24_a ka0_17 fa0_17 ka0_18 j46a0_18_a bfa0_15 bj46a0_23_a bj46a0_24_a bfa0_17 bj46a0_18_a) (cwV 0 hts gX8_patrol_X8_begin rfl rfl rfl zd_X8_begin ⟨Nat.le_of_ble_eq_true rfl, Nat.le_of_ble_eq_true rfl⟩) ⟨ax_blind (fun _ _ _ _ _ => trivial), zr_8 hKc (zp_P6 hP) (q0 := 0) rfl, ax_pre (zp_P6 hP) hKc (zp_D6 hD) (fun _ _ => trivial)⟩ rfl rfl hl.1 rfl (lv_room (Nat.le_of_ble_eq_true rfl)) dX8_patrol_65 ⟨Nat.le_of_ble_eq_true rfl, Nat.le_of_ble_eq_true rfl⟩) hS (fun q _ h => zp_F6 hD hS hA q h) (zp_F6 hD hS hA) (fun u t H locs ht hvm hw hB hz1 hk1 hS1 => zx_4 hB (fun v65na0_25 v65nfa0_23 v65nfa0_24 v65nfa0_18 hB => zy_3 hB (fun bv65nfa0_23 bv65nfa0_24 bv65nfa0_18 hB => zo6 hB ht hP hD hk1 (zp_F6 hD hS hA) hS1 (fun hP hK1 hD hS => ?_))))
              refine lv_aload_n hx hb dX8_patrol_68 rfl (lv_at hl 0 rfl) ?_
              refine va_get (D := (dC, dI)) (ci := 8) (v := .ref a0_23) (C := RX8) (T := TX8) (N := 40) hx hb hts zi_X8_patrol_8 hown hK hP 0 rfl rfl 23 (by decide) (hts (.fieldLink RX8 38 "WaxTurnsModel" "from" "[I") (zm_X8_patrol_r1 (List.mem_of_getElem? (i := 2) rfl))) (fun _ h9 => h9) rfl dX8_patrol_69 ?_
              refine lv_iload_n hx hb dX8_patrol_72 rfl (lv_at hl 1 rfl) ?_
              refine lv_iload hx hb dX8_patrol_73 (lv_at hl 6 rfl) ?_
              refine lv_aload_n hx hb dX8_patrol_75 rfl (lv_at hl 0 rfl) ?_
              refine va_get (D := (dC, dI)) (ci := 8) (v := .ref a0_15) (C := RX8) (T := TX8) (N := 40) hx hb hts zi_X8_patrol_8 hown hK hP 0 rfl rfl 15 (by decide) (hts (.fieldLink RX8 20 "WaxTurnsModel" "\x72" "[I") (zm_X8_patrol_r1 (List.mem_of_getElem? (i := 1) rfl))) (fun _ h9 => h9) rfl dX8_patrol_76 ?_
              refine lv_iconst (v := 0) hx hb dX8_patrol_79 zk_iconst_0 ?_
              refine va_iald hx hb hK hP 1 0 rfl rfl (by unfold vp_in; decide +kernel) dX8_patrol_80 ?_
              refine ax_ti x53 ex53.symm ?_
              refine lv_idiv hx hb dX8_patrol_81 (ai_nz bx53.1 (by decide)) ?_
              refine lv_topi (fun x81 ex81 => ?_)
              have qx81 := ai_div ex81 ⟨bj46l7_l, u61f_j46l7⟩ (Int.lt_of_lt_of_le zq100 bx53.1)
              refine va_iast hx hb hK hP hD hS 2 1 rfl rfl (ai_in l7k0_a1 u7k0_a1 (by decide) (by decide)) dX8_patrol_82 (fun H locs hP hD hS => ?_)
              obtain ⟨f82, ef82⟩ : ∃ g9 : Nat → Int32, g9 = upd v65nfa0_23 (a1 : Int32).toNatClampNeg x81 := ⟨_, rfl⟩
              refine zs_2 (y := (a0_23, .inl (ka0_23, 3, .inl (f82)))) hP hD (by rw [ef82]) (fun hP hD => ?_)
              have bf82 : (∀ k, (0 : Int) ≤ (f82 k).toInt ∧ (f82 k).toInt ≤ 80) := by rw [ef82]; exact ai_upd bv65nfa0_23 _ ⟨qx81.2.1, qx81.2.2⟩
              refine lv_aload_n hx hb dX8_patrol_83 rfl (lv_at hl 0 rfl) ?_
              refine va_get (D := (dC, dI)) (ci := 8) (v := .ref a0_24) (C := RX8) (T := TX8) (N := 40) hx hb hts zi_X8_patrol_8 hown hK hP 0 rfl rfl 24 (by decide) (hts (.fieldLink RX8 41 "WaxTurnsModel" "to" "[I") (zm_X8_patrol_r1 (List.mem_of_getElem? (i := 3) rfl))) (fun _ h9 => h9) rfl dX8_patrol_84 ?_
              refine lv_iload_n hx hb dX8_patrol_87 rfl (lv_at hl 1 rfl) ?_
              refine lv_iload hx hb dX8_patrol_88 (lv_at hl 6 rfl) ?_
              refine lv_aload_n hx hb dX8_patrol_90 rfl (lv_at hl 0 rfl) ?_
              refine va_get (D := (dC, dI)) (ci := 8) (v := .ref a0_15) (C := RX8) (T := TX8) (N := 40) hx hb hts zi_X8_patrol_8 hown hK hP 0 rfl rfl 15 (by decide) (hts (.fieldLink RX8 20 "WaxTurnsModel" "\x72" "[I") (zm_X8_patrol_r1 (List.mem_of_getElem? (i := 1) rfl))) (fun _ h9 => h9) rfl dX8_patrol_91 ?_
              refine lv_iconst (v := 0) hx hb dX8_patrol_94 zk_iconst_0 ?_
              refine va_iald hx hb hK hP 1 0 rfl rfl (by unfold vp_in; decide +kernel) dX8_patrol_95 ?_
              refine ax_ti x53 ex53.symm ?_
              refine lv_irem hx hb dX8_patrol_96 (ai_nz bx53.1 (by decide)) ?_
              refine lv_topi (fun x96 ex96 => ?_)
              have qx96 := ai_rem2 ex96 bj46l7_l (Int.lt_of_lt_of_le zq100 bx53.1) bx53.2
              refine va_iast hx hb hK hP hD hS 3 2 rfl rfl (ai_in l7k0_a1 u7k0_a1 (by decide) (by decide)) dX8_patrol_97 (fun H locs hP hD hS => ?_)
              obtain ⟨f97, ef97⟩ : ∃ g9 : Nat → Int32, g9 = upd v65nfa0_24 (a1 : Int32).toNatClampNeg x96 := ⟨_, rfl⟩
              refine zs_3 (y := (a0_24, .inl (ka0_24, 3, .inl (f97)))) hP hD (by rw [ef97]) (fun hP hD => ?_)
              have bf97 : (∀ k, (0 : Int) ≤ (f97 k).toInt ∧ (f97 k).toInt ≤ 80) := by rw [ef97]; exact ai_upd bv65nfa0_24 _ ⟨qx96.2.1, (Int.le_trans qx96.2.2 zq10)⟩
              refine lv_iconst (v := 0) hx hb dX8_patrol_98 zk_iconst_0 ?_
              refine lv_istore (lv' := [(8, .int 0), (0, .ref a0), (1, .int a1), (2, .int a2), (4, .int j46l4), (5, .int j46l5), (6, .int j46l6), (7, .int j46l7)]) hx hb dX8_patrol_99 hl (by decide) rfl (fun ls hl => ?_)
              have J101 : ∀ (n : Nat) (j101l8 : Int32) (j101a0_26 : Int32) (j101a0_27 : Int32) (j101a0_28 : Int32) (j101a0_18_a : Nat → Int32) (H : Heap) (locs : List Loc) (ls : Array Slot), (61 : Int) - j101l8.toInt ≤ (n : Int) → (0 : Int) ≤ j101l8.toInt → j101l8.toInt ≤ (60 : Int) → ((∀ k : Nat, 0 ≤ k → k ≤ 8 → (0 : Int) ≤ (j101a0_18_a k).toInt ∧ (j101a0_18_a k).toInt ≤ 8) ∧ (∀ k : Nat, 19 ≤ k → k ≤ 19 → (0 : Int) ≤ (j101a0_18_a k).toInt ∧ (j101a0_18_a k).toInt ≤ 8) ∧ (∀ k : Nat, 20 ≤ k → k ≤ 20 → (0 : Int) ≤ (j101a0_18_a k).toInt ∧ (j101a0_18_a k).toInt ≤ 19)) → va_P (dC, dI) vwCl [(a0, .inr (8, [Value.int v1na0_0, a0g_1, a0g_2, a0g_3, a0g_4, a0g_5, a0g_6, a0g_7, a0g_8, a0g_9, a0g_10, Value.int v1na0_11, a0g_12, a0g_13, Value.int a0_14, Value.ref a0_15, a0g_16, Value.ref a0_17, Value.ref a0_18, a0g_19, a0g_20, a0g_21, a0g_22, Value.ref a0_23, Value.ref a0_24, Value.int v65na0_25, Value.int j101a0_26, Value.int j101a0_27, Value.int j101a0_28, a0g_29, a0g_30, a0g_31, a0g_32, a0g_33, a0g_34, a0g_35, a0g_36, a0g_37, a0g_38, a0g_39])), (a0_15, .inl (ka0_15, 156, .inl (fa0_15))), (a0_23, .inl (ka0_23, 3, .inl (f82))), (a0_24, .inl (ka0_24, 3, .inl (f97))), (a0_17, .inl (ka0_17, 23, .inl (fa0_17))), (a0_18, .inl (ka0_18, 23, .inl (j101a0_18_a)))] H → va_D A [(a0, .inr (8, [Value.int v1na0_0, a0g_1, a0g_2, a0g_3, a0g_4, a0g_5, a0g_6, a0g_7, a0g_8, a0g_9, a0g_10, Value.int v1na0_11, a0g_12, a0g_13, Value.int a0_14, Value.ref a0_15, a0g_16, Value.ref a0_17, Value.ref a0_18, a0g_19, a0g_20, a0g_21, a0g_22, Value.ref a0_23, Value.ref a0_24, Value.int v65na0_25, Value.int j101a0_26, Value.int j101a0_27, Value.int j101a0_28, a0g_29, a0g_30, a0g_31, a0g_32, a0g_33, a0g_34, a0g_35, a0g_36, a0g_37, a0g_38, a0g_39])), (a0_15, .inl (ka0_15, 156, .inl (fa0_15))), (a0_23, .inl (ka0_23, 3, .inl (f82))), (a0_24, .inl (ka0_24, 3, .inl (f97))), (a0_17, .inl (ka0_17, 23, .inl (fa0_17))), (a0_18, .inl (ka0_18, 23, .inl (j101a0_18_a)))] → va_S A s.heap H locs → lv_has ls 9 [(0, .ref a0), (1, .int a1), (2, .int a2), (4, .int j46l4), (5, .int j46l5), (6, .int j46l6), (7, .int j46l7), (8, .int j101l8)] → K H locs (F0 m 101 ls []) := by
                intro n
                induction n with
                | zero =>
                  intro j101l8 j101a0_26 j101a0_27 j101a0_28 j101a0_18_a H locs ls hm bj101l8_l bj101l8_u bj101a0_18_a hP hD hS hl
                  have h8 := ai_min j101l8
                  have h9 := ai_max j101l8
                  exact absurd hm (by omega)
                | succ n ih101 =>
                  intro j101l8 j101a0_26 j101a0_27 j101a0_28 j101a0_18_a H locs ls hm bj101l8_l bj101l8_u bj101a0_18_a hP hD hS hl
                  refine (hK0 _ _ _).mpr ?_
                  have hm101 := hm
                  refine lv_iload hx hb dX8_patrol_101 (lv_at hl 7 rfl) ?_
                  refine lv_iload_n hx hb dX8_patrol_103 rfl (lv_at hl 2 rfl) ?_
                  refine lv_icmp_ge (tgt := 121) hx hb dX8_patrol_104 (by decide) (fun c104 => ?_) (fun c104 => ?_)
                  · have gc104 := ai_le c104
                    have u104t_a2 : a2.toInt ≤ (60 : Int) := u14k0_a2
                    have l104t_j101l8 : (1 : Int) ≤ j101l8.toInt := Int.le_trans l14k0_a2 gc104
                    refine lv_aload_n hx hb dX8_patrol_121 rfl (lv_at hl 0 rfl) ?_
                    refine va_get (D := (dC, dI)) (ci := 8) (v := .ref a0_18) (C := RX8) (T := TX8) (N := 40) hx hb hts zi_X8_patrol_8 hown hK hP 0 rfl rfl 18 (by decide) (hts (.fieldLink RX8 29 "WaxTurnsModel" "trial" "[I") (zm_X8_patrol_r1 (List.mem_of_getElem? (i := 4) rfl))) (fun _ h9 => h9) rfl dX8_patrol_122 ?_
                    refine lv_bipush (v := 18) hx hb dX8_patrol_125 zk_bipush_18 ?_
                    refine va_iald hx hb hK hP 5 4 rfl rfl (by unfold vp_in; decide +kernel) dX8_patrol_127 ?_
                    refine lv_topi (fun x127 ex127 => ?_)
                    refine va_calli (va_runS (As := [.int x127]) (rest := []) ⟨hx, hb, hml, hown, hts⟩ (c_X8_ones l dC dI H.size x127 ) (va_cwS 1 hts gX8_patrol_X8_ones rfl rfl rfl zd_X8_ones.2 ⟨Nat.le_of_ble_eq_true rfl, Nat.le_of_ble_eq_true rfl⟩) ⟨ax_blind (fun _ _ _ _ _ => trivial), ax_pre (zp_P0 hP) (zp_K hK) (zp_D0 hD) (fun _ _ => trivial)⟩ rfl rfl hl.1 rfl (lv_room (Nat.le_of_ble_eq_true rfl)) dX8_patrol_128 ⟨Nat.le_of_ble_eq_true rfl, Nat.le_of_ble_eq_true rfl⟩) hS (fun q _ h => zp_F0 hD hS hA q h) (zp_F0 hD hS hA) (fun r128 u t H locs ht hvm hw hB hz1 hk1 hS1 => zo0 hB ht hP hD hk1 (zp_F0 hD hS hA) hS1 (fun hP hK1 hD hS => ?_))
                    refine lv_istore (lv' := [(8, .int r128), (0, .ref a0), (1, .int a1), (2, .int a2), (4, .int j46l4), (5, .int j46l5), (6, .int j46l6), (7, .int j46l7)]) hx hb dX8_patrol_131 hl (by decide) rfl (fun ls hl => ?_)
                    refine lv_iload hx hb dX8_patrol_133 (lv_at hl 0 rfl) ?_
                    refine lv_iload hx hb dX8_patrol_135 (lv_at hl 5 rfl) ?_
                    have J193 : ∀ (j193l4 : Int32) (j193l5 : Int32) (j193l6 : Int32) (H : Heap) (locs : List Loc) (ls : Array Slot), (-2 : Int) ≤ j193l4.toInt → j193l4.toInt ≤ (880 : Int) → j193l5.toInt ≤ (100000000 : Int) → va_P (dC, dI) vwCl [(a0, .inr (8, [Value.int v1na0_0, a0g_1, a0g_2, a0g_3, a0g_4, a0g_5, a0g_6, a0g_7, a0g_8, a0g_9, a0g_10, Value.int v1na0_11, a0g_12, a0g_13, Value.int a0_14, Value.ref a0_15, a0g_16, Value.ref a0_17, Value.ref a0_18, a0g_19, a0g_20, a0g_21, a0g_22, Value.ref a0_23, Value.ref a0_24, Value.int v65na0_25, Value.int j101a0_26, Value.int j101a0_27, Value.int j101a0_28, a0g_29, a0g_30, a0g_31, a0g_32, a0g_33, a0g_34, a0g_35, a0g_36, a0g_37, a0g_38, a0g_39])), (a0_15, .inl (ka0_15, 156, .inl (fa0_15))), (a0_23, .inl (ka0_23, 3, .inl (f82))), (a0_24, .inl (ka0_24, 3, .inl (f97))), (a0_17, .inl (ka0_17, 23, .inl (fa0_17))), (a0_18, .inl (ka0_18, 23, .inl (j101a0_18_a)))] H → va_D A [(a0, .inr (8, [Value.int v1na0_0, a0g_1, a0g_2, a0g_3, a0g_4, a0g_5, a0g_6, a0g_7, a0g_8, a0g_9, a0g_10, Value.int v1na0_11, a0g_12, a0g_13, Value.int a0_14, Value.ref a0_15, a0g_16, Value.ref a0_17, Value.ref a0_18, a0g_19, a0g_20, a0g_21, a0g_22, Value.ref a0_23, Value.ref a0_24, Value.int v65na0_25, Value.int j101a0_26, Value.int j101a0_27, Value.int j101a0_28, a0g_29, a0g_30, a0g_31, a0g_32, a0g_33, a0g_34, a0g_35, a0g_36, a0g_37, a0g_38, a0g_39])), (a0_15, .inl (ka0_15, 156, .inl (fa0_15))), (a0_23, .inl (ka0_23, 3, .inl (f82))), (a0_24, .inl (ka0_24, 3, .inl (f97))), (a0_17, .inl (ka0_17, 23, .inl (fa0_17))), (a0_18, .inl (ka0_18, 23, .inl (j101a0_18_a)))] → va_S A s.heap H locs → lv_has ls 9 [(0, .ref a0), (1, .int a1), (2, .int a2), (4, .int j193l4), (5, .int j193l5), (6, .int j193l6), (7, .int j46l7)] → K H locs (F0 m 193 ls []) := by
                      intro j193l4 j193l5 j193l6 H locs ls  bj193l4_l bj193l4_u bj193l5_u hP hD hS hl
                      refine (hK0 _ _ _).mpr ?_
                      obtain ⟨x193, ex193⟩ : ∃ y : Int32, y = j46l7 + Int32.ofInt 1 := ⟨_, rfl⟩
                      have qx193 : x193.toInt = j46l7.toInt + 1 := ai_inc ex193 (by decide) (by decide) u61f_j46l7 (by decide)
                      have bx193 : (1 : Int) ≤ x193.toInt ∧ x193.toInt ≤ 81 := ⟨by rw [qx193]; exact Int.add_le_add bj46l7_l (Int.le_refl _), by rw [qx193]; exact Int.add_le_add u61f_j46l7 (Int.le_refl _)⟩
                      refine lv_iinc (v := x193) (lv' := [(7, .int x193), (0, .ref a0), (1, .int a1), (2, .int a2), (4, .int j193l4), (5, .int j193l5), (6, .int j193l6)]) hx hb dX8_patrol_193 hl (k := 6) rfl ex193.symm (by decide) rfl (fun ls hl => ?_)
                      refine lv_goto (tgt := 46) hx hb dX8_patrol_196 (by decide) ?_
                      exact (hK0 _ _ _).mp (ih46 x193 j193l6 j193l5 j193l4 v65na0_25 j101a0_26 j101a0_27 j101a0_28 f82 f97 j101a0_18_a _ _ _ (by have h0 := qx193; omega) (Int.le_trans zq4 bx193.1) (Int.le_trans bx193.2 zq173) bj193l5_u bj193l4_l bj193l4_u bf82 bf97 bj101a0_18_a hP hD hS (lv_sub hl [1, 2, 3, 4, 5, 6, 0] rfl))
                    refine lv_icmp_gt (tgt := 193) hx hb dX8_patrol_137 (by decide) (fun c137 => ?_) (fun c137 => ?_)
                    · have gc137 := ai_lt c137
                      have u137t_j46l5 : j46l5.toInt ≤ (100000000 : Int) := bj46l5_u
                      have l137t_r128 : (-2147483647 : Int) ≤ r128.toInt := ai_ltlo gc137 (ai_min j46l5)
                      exact (hK0 _ _ _).mp (J193 j46l4 j46l5 j46l6 _ _ _  bj46l4_l bj46l4_u u137t_j46l5 hP hD hS (lv_sub hl [1, 2, 3, 4, 5, 6, 7] rfl))
                    · have gc137 := ai_nlt c137
                      have u137f_r128 : r128.toInt ≤ (100000000 : Int) := Int.le_trans gc137 bj46l5_u
                      refine lv_iload hx hb dX8_patrol_140 (lv_at hl 0 rfl) ?_
                      refine lv_iload hx hb dX8_patrol_142 (lv_at hl 5 rfl) ?_
                      have J162 : ∀ (H : Heap) (locs : List Loc) (ls : Array Slot), va_P (dC, dI) vwCl [(a0, .inr (8, [Value.int v1na0_0, a0g_1, a0g_2, a0g_3, a0g_4, a0g_5, a0g_6, a0g_7, a0g_8, a0g_9, a0g_10, Value.int v1na0_11, a0g_12, a0g_13, Value.int a0_14, Value.ref a0_15, a0g_16, Value.ref a0_17, Value.ref a0_18, a0g_19, a0g_20, a0g_21, a0g_22, Value.ref a0_23, Value.ref a0_24, Value.int v65na0_25, Value.int j101a0_26, Value.int j101a0_27, Value.int j101a0_28, a0g_29, a0g_30, a0g_31, a0g_32, a0g_33, a0g_34, a0g_35, a0g_36, a0g_37, a0g_38, a0g_39])), (a0_15, .inl (ka0_15, 156, .inl (fa0_15))), (a0_23, .inl (ka0_23, 3, .inl (f82))), (a0_24, .inl (ka0_24, 3, .inl (f97))), (a0_17, .inl (ka0_17, 23, .inl (fa0_17))), (a0_18, .inl (ka0_18, 23, .inl (j101a0_18_a)))] H → va_D A [(a0, .inr (8, [Value.int v1na0_0, a0g_1, a0g_2, a0g_3, a0g_4, a0g_5, a0g_6, a0g_7, a0g_8, a0g_9, a0g_10, Value.int v1na0_11, a0g_12, a0g_13, Value.int a0_14, Value.ref a0_15, a0g_16, Value.ref a0_17, Value.ref a0_18, a0g_19, a0g_20, a0g_21, a0g_22, Value.ref a0_23, Value.ref a0_24, Value.int v65na0_25, Value.int j101a0_26, Value.int j101a0_27, Value.int j101a0_28, a0g_29, a0g_30, a0g_31, a0g_32, a0g_33, a0g_34, a0g_35, a0g_36, a0g_37, a0g_38, a0g_39])), (a0_15, .inl (ka0_15, 156, .inl (fa0_15))), (a0_23, .inl (ka0_23, 3, .inl (f82))), (a0_24, .inl (ka0_24, 3, .inl (f97))), (a0_17, .inl (ka0_17, 23, .inl (fa0_17))), (a0_18, .inl (ka0_18, 23, .inl (j101a0_18_a)))] → va_S A s.heap H locs → lv_has ls 9 [(0, .ref a0), (1, .int a1), (2, .int a2), (7, .int j46l7), (8, .int r128)] → K H locs (F0 m 162 ls []) := by
                        intro  H locs ls   hP hD hS hl
                        refine (hK0 _ _ _).mpr ?_
                        refine lv_bipush (v := 10) hx hb dX8_patrol_162 zk_bipush_10 ?_
                        refine lv_aload_n hx hb dX8_patrol_164 rfl (lv_at hl 0 rfl) ?_
                        refine va_get (D := (dC, dI)) (ci := 8) (v := .ref a0_23) (C := RX8) (T := TX8) (N := 40) hx hb hts zi_X8_patrol_8 hown hK hP 0 rfl rfl 23 (by decide) (hts (.fieldLink RX8 38 "WaxTurnsModel" "from" "[I") (zm_X8_patrol_r1 (List.mem_of_getElem? (i := 2) rfl))) (fun _ h9 => h9) rfl dX8_patrol_165 ?_
                        refine lv_iload_n hx hb dX8_patrol_168 rfl (lv_at hl 1 rfl) ?_
                        refine va_iald hx hb hK hP 2 1 rfl rfl (ai_in l7k0_a1 u7k0_a1 (by decide) (by decide)) dX8_patrol_169 ?_
                        refine lv_topi (fun x169 ex169 => ?_)
                        have bx169 : (0 : Int) ≤ x169.toInt ∧ x169.toInt ≤ 80 := by rw [ex169]; exact bf82 _
                        refine lv_imul hx hb dX8_patrol_170 ?_
                        refine lv_topi (fun x170 ex170 => ?_)
                        have qx170 : x170.toInt = (10 : Int32).toInt * x169.toInt ∧ (0 : Int) ≤ x170.toInt ∧ x170.toInt ≤ 800 := ai_mul ex170 ⟨zq26, zq27⟩ ⟨bx169.1, bx169.2⟩ (by decide) (by decide) zq91
                        have wx170 : x170.toInt = 10 * x169.toInt := qx170.1
                        refine lv_aload_n hx hb dX8_patrol_171 rfl (lv_at hl 0 rfl) ?_
                        refine va_get (D := (dC, dI)) (ci := 8) (v := .ref a0_24) (C := RX8) (T := TX8) (N := 40) hx hb hts zi_X8_patrol_8 hown hK hP 0 rfl rfl 24 (by decide) (hts (.fieldLink RX8 41 "WaxTurnsModel" "to" "[I") (zm_X8_patrol_r1 (List.mem_of_getElem? (i := 3) rfl))) (fun _ h9 => h9) rfl dX8_patrol_172 ?_
                        refine lv_iload_n hx hb dX8_patrol_175 rfl (lv_at hl 1 rfl) ?_
                        refine va_iald hx hb hK hP 3 2 rfl rfl (ai_in l7k0_a1 u7k0_a1 (by decide) (by decide)) dX8_patrol_176 ?_
                        refine lv_topi (fun x176 ex176 => ?_)
                        have bx176 : (0 : Int) ≤ x176.toInt ∧ x176.toInt ≤ 80 := by rw [ex176]; exact bf97 _
                        refine lv_iadd hx hb dX8_patrol_177 ?_
                        refine lv_topi (fun x177 ex177 => ?_)
                        have qx177 : x177.toInt = x170.toInt + x176.toInt := ai_add ex177 ⟨qx170.2.1, qx170.2.2⟩ ⟨bx176.1, bx176.2⟩ (by decide) (by decide)
                        have bx177 : (0 : Int) ≤ x177.toInt ∧ x177.toInt ≤ 880 := ⟨by rw [qx177]; exact Int.add_le_add qx170.2.1 bx176.1, by rw [qx177]; exact Int.add_le_add qx170.2.2 bx176.2⟩
                        refine lv_istore (lv' := [(4, .int x177), (0, .ref a0), (1, .int a1), (2, .int a2), (7, .int j46l7), (8, .int r128)]) hx hb dX8_patrol_178 hl (by decide) rfl (fun ls hl => ?_)
                        refine lv_iload hx hb dX8_patrol_180 (lv_at hl 5 rfl) ?_
                        refine lv_istore (lv' := [(5, .int r128), (4, .int x177), (0, .ref a0), (1, .int a1), (2, .int a2), (7, .int j46l7), (8, .int r128)]) hx hb dX8_patrol_182 hl (by decide) rfl (fun ls hl => ?_)
                        refine lv_aload_n hx hb dX8_patrol_184 rfl (lv_at hl 2 rfl) ?_
                        refine va_get (D := (dC, dI)) (ci := 8) (v := .ref a0_18) (C := RX8) (T := TX8) (N := 40) hx hb hts zi_X8_patrol_8 hown hK hP 0 rfl rfl 18 (by decide) (hts (.fieldLink RX8 29 "WaxTurnsModel" "trial" "[I") (zm_X8_patrol_r1 (List.mem_of_getElem? (i := 4) rfl))) (fun _ h9 => h9) rfl dX8_patrol_185 ?_
                        refine lv_bipush (v := 22) hx hb dX8_patrol_188 zk_bipush_22 ?_
                        refine va_iald hx hb hK hP 5 4 rfl rfl (by unfold vp_in; decide +kernel) dX8_patrol_190 ?_
                        refine lv_topi (fun x190 ex190 => ?_)
                        refine lv_istore (lv' := [(6, .int x190), (5, .int r128), (4, .int x177), (0, .ref a0), (1, .int a1), (2, .int a2), (7, .int j46l7), (8, .int r128)]) hx hb dX8_patrol_191 hl (by decide) rfl (fun ls hl => ?_)
                        exact (hK0 _ _ _).mp (J193 x177 r128 x190 _ _ _  (Int.le_trans zq75 bx177.1) bx177.2 u137f_r128 hP hD hS (lv_sub hl [3, 4, 5, 2, 1, 0, 6] rfl))
                      refine lv_icmp_ne (tgt := 162) hx hb dX8_patrol_144 (by decide) (fun c144 => ?_) (fun c144 => ?_)
                      · have gc144 := ai_ne c144
                        exact (hK0 _ _ _).mp (J162  _ _ _   hP hD hS (lv_sub hl [1, 2, 3, 7, 0] rfl))
                      · have gc144 := ai_eq c144
                        have u144f_r128 : r128.toInt ≤ (100000000 : Int) := u137f_r128
                        have u144f_j46l5 : j46l5.toInt ≤ (100000000 : Int) := bj46l5_u
                        refine lv_aload_n hx hb dX8_patrol_147 rfl (lv_at hl 1 rfl) ?_
                        refine va_get (D := (dC, dI)) (ci := 8) (v := .ref a0_18) (C := RX8) (T := TX8) (N := 40) hx hb hts zi_X8_patrol_8 hown hK hP 0 rfl rfl 18 (by decide) (hts (.fieldLink RX8 29 "WaxTurnsModel" "trial" "[I") (zm_X8_patrol_r1 (List.mem_of_getElem? (i := 4) rfl))) (fun _ h9 => h9) rfl dX8_patrol_148 ?_
                        refine lv_bipush (v := 22) hx hb dX8_patrol_151 zk_bipush_22 ?_
                        refine va_iald hx hb hK hP 5 4 rfl rfl (by unfold vp_in; decide +kernel) dX8_patrol_153 ?_
                        refine lv_topi (fun x153 ex153 => ?_)
                        refine lv_iload hx hb dX8_patrol_154 (lv_at hl 6 rfl) ?_
                        refine lv_icmp_gt (tgt := 162) hx hb dX8_patrol_156 (by decide) (fun c156 => ?_) (fun c156 => ?_)
                        · have gc156 := ai_lt c156
                          have u156t_j46l6 : j46l6.toInt ≤ (2147483646 : Int) := ai_lthi gc156 (ai_max x153)
                          have l156t_x153 : (-2147483647 : Int) ≤ x153.toInt := ai_ltlo gc156 (ai_min j46l6)
                          exact (hK0 _ _ _).mp (J162  _ _ _   hP hD hS (lv_sub hl [1, 2, 3, 7, 0] rfl))
                        · have gc156 := ai_nlt c156
                          refine lv_goto (tgt := 193) hx hb dX8_patrol_159 (by decide) ?_
                          exact (hK0 _ _ _).mp (J193 j46l4 j46l5 j46l6 _ _ _  bj46l4_l bj46l4_u u144f_j46l5 hP hD hS (lv_sub hl [1, 2, 3, 4, 5, 6, 7] rfl))
                  · have gc104 := ai_nle c104
                    have u104f_j101l8 : j101l8.toInt ≤ (59 : Int) := ai_lthi gc104 u14k0_a2
                    have l104f_a2 : (1 : Int) ≤ a2.toInt := l14k0_a2
                    refine lv_aload_n hx hb dX8_patrol_107 rfl (lv_at hl 0 rfl) ?_
                    refine lv_aload_n hx hb dX8_patrol_108 rfl (lv_at hl 0 rfl) ?_
                    refine va_get (D := (dC, dI)) (ci := 8) (v := .ref a0_18) (C := RX8) (T := TX8) (N := 40) hx hb hts zi_X8_patrol_8 hown hK hP 0 rfl rfl 18 (by decide) (hts (.fieldLink RX8 29 "WaxTurnsModel" "trial" "[I") (zm_X8_patrol_r1 (List.mem_of_getElem? (i := 4) rfl))) (fun _ h9 => h9) rfl dX8_patrol_109 ?_
                    refine zc_cutc (wc := [(a0, .inr (8, [Value.int v1na0_0, a0g_1, a0g_2, a0g_3, a0g_4, a0g_5, a0g_6, a0g_7, a0g_8, a0g_9, a0g_10, Value.int v1na0_11, a0g_12, a0g_13, Value.int a0_14, Value.ref a0_15, a0g_16, Value.ref a0_17, Value.ref a0_18, a0g_19, a0g_20, a0g_21, a0g_22, Value.ref a0_23, Value.ref a0_24, Value.int v65na0_25, Value.int j101a0_26, Value.int j101a0_27, Value.int j101a0_28, a0g_29, a0g_30, a0g_31, a0g_32, a0g_33, a0g_34, a0g_35, a0g_36, a0g_37, a0g_38, a0g_39])), (a0_18, .inl (ka0_18, 23, .inl (j101a0_18_a))), (a0_15, .inl (ka0_15, 156, .inl (fa0_15))), (a0_24, .inl (ka0_24, 3, .inl (f97))), (a0_23, .inl (ka0_23, 3, .inl (f82)))]) hP hD hS hA [0, 5, 1, 3, 2] (by decide +kernel) rfl (fun hPc hDc hFc hCc => ?_)
                    have hKc := hK.sub (tys' := [(ka0_18, .int), (ka0_15, .int), (ka0_24, .int), (ka0_23, .int)]) [4, 0, 2, 1] rfl
                    refine va_callv (va_runV (As := [.ref a0_18]) (rest := []) ⟨hx, hb, hml, hown, hts⟩ (c_X8_minuteOn l dC dI H.size a0 a0_18 (Value.int v1na0_0) a0g_1 a0g_2 a0g_3 a0g_4 a0g_5 a0g_6 a0g_7 a0g_8 a0g_9 a0g_10 (Value.int v1na0_11) a0g_12 a0g_13 (Value.int a0_14) a0g_16 (Value.ref a0_17) (Value.ref a0_18) a0g_19 a0g_20 a0g_21 a0g_22 a0g_29 a0g_30 a0g_31 a0g_32 a0g_33 a0g_34 a0g_35 a0g_36 a0g_37 a0g_38 a0g_39 a0_15 a0_23 a0_24 v65na0_25 j101a0_26 j101a0_27 j101a0_28 ka0_18 j101a0_18_a ka0_15 fa0_15 ka0_24 f97 ka0_23 f82 bj101a0_18_a bfa0_15 bf97 bf82 hkm) (cwV 1 hts gX8_patrol_X8_minuteOn rfl rfl rfl zd_X8_minuteOn ⟨Nat.le_of_ble_eq_true rfl, Nat.le_of_ble_eq_true rfl⟩) ⟨ax_blind (fun _ _ _ _ _ => trivial), zr_8 hKc hPc (q0 := 0) rfl, ax_pre hPc hKc hDc (fun _ _ => trivial)⟩ rfl rfl hl.1 rfl (lv_room (Nat.le_of_ble_eq_true rfl)) dX8_patrol_112 ⟨Nat.le_of_ble_eq_true rfl, Nat.le_of_ble_eq_true rfl⟩) hS (fun q _ h => hFc q h) hFc (fun u t H locs ht hvm hw hB hz1 hk1 hS => zx_4 hB (fun v112na0_26 v112na0_27 v112na0_28 v112nfa1 hB => zy_1 hB (fun bv112nfa1 hB => zo hB ht (fun hP1 hK1 hD1 => ?_))))
                    refine zc_backc (w := [(a0, .inr (8, [Value.int v1na0_0, a0g_1, a0g_2, a0g_3, a0g_4, a0g_5, a0g_6, a0g_7, a0g_8, a0g_9, a0g_10, Value.int v1na0_11, a0g_12, a0g_13, Value.int a0_14, Value.ref a0_15, a0g_16, Value.ref a0_17, Value.ref a0_18, a0g_19, a0g_20, a0g_21, a0g_22, Value.ref a0_23, Value.ref a0_24, Value.int v65na0_25, Value.int v112na0_26, Value.int v112na0_27, Value.int v112na0_28, a0g_29, a0g_30, a0g_31, a0g_32, a0g_33, a0g_34, a0g_35, a0g_36, a0g_37, a0g_38, a0g_39])), (a0_15, .inl (ka0_15, 156, .inl (fa0_15))), (a0_23, .inl (ka0_23, 3, .inl (f82))), (a0_24, .inl (ka0_24, 3, .inl (f97))), (a0_17, .inl (ka0_17, 23, .inl (fa0_17))), (a0_18, .inl (ka0_18, 23, .inl (v112nfa1)))]) hP hD hCc hk1 hFc hP1 hD1 [.inr 0, .inr 2, .inr 4, .inr 3, .inl 4, .inr 1] (by decide +kernel) rfl (fun hP hD => ?_)
                    obtain ⟨x115, ex115⟩ : ∃ y : Int32, y = j101l8 + Int32.ofInt 1 := ⟨_, rfl⟩
                    have qx115 : x115.toInt = j101l8.toInt + 1 := ai_inc ex115 (by decide) (by decide) u104f_j101l8 (by decide)
                    have bx115 : (1 : Int) ≤ x115.toInt ∧ x115.toInt ≤ 60 := ⟨by rw [qx115]; exact Int.add_le_add bj101l8_l (Int.le_refl _), by rw [qx115]; exact Int.add_le_add u104f_j101l8 (Int.le_refl _)⟩
                    refine lv_iinc (v := x115) (lv' := [(8, .int x115), (0, .ref a0), (1, .int a1), (2, .int a2), (4, .int j46l4), (5, .int j46l5), (6, .int j46l6), (7, .int j46l7)]) hx hb dX8_patrol_115 hl (k := 7) rfl ex115.symm (by decide) rfl (fun ls hl => ?_)
                    refine lv_goto (tgt := 101) hx hb dX8_patrol_118 (by decide) ?_
                    exact (hK0 _ _ _).mp (ih101 x115 v112na0_26 v112na0_27 v112na0_28 v112nfa1 _ _ _ (by have h0 := qx115; omega) (Int.le_trans zq4 bx115.1) bx115.2 bv112nfa1 hP hD hS (lv_sub hl [1, 2, 3, 4, 5, 6, 7, 0] rfl))
              exact (hK0 _ _ _).mp (J101 61 0 j46a0_26 j46a0_27 j46a0_28 v65nfa0_18 _ _ _ (by have h1 : (0 : Int) ≤ (0 : Int32).toInt := zq5; have h2 : (0 : Int32).toInt ≤ (0 : Int) := zq6; omega) zq5 (Int.le_trans zq6 zq128) bv65nfa0_18 hP hD hS (lv_sub hl [1, 2, 3, 4, 5, 6, 7, 0] rfl))
        exact (hK0 _ _ _).mp (J46 100 0 (-1) 100000000 (-2) a0_25 a0_26 a0_27 a0_28 fa0_23 fa0_24 fa0_18 _ _ _ (by have h1 : (0 : Int) ≤ (0 : Int32).toInt := zq5; have h2 : (0 : Int32).toInt ≤ (0 : Int) := zq6; omega) zq5 (Int.le_trans zq6 zq41) zq174 zq45 (Int.le_trans zq44 zq175) bfa0_23 bfa0_24 bfa0_18 hP hD hS (lv_sub hl [5, 6, 7, 3, 2, 1, 0] rfl))
    · obtain ⟨hw, h14⟩ := hw
      subst hw
      refine va_calli (va_runV (As := [.int 1, .int 0]) (rest := []) ⟨hx, hb, hml, hown, hts⟩ (c_X8_whyB l dC dI H.size a0 1 0 (Value.int v1na0_0) a0g_1 a0g_2 a0g_3 a0g_4 a0g_5 a0g_6 a0g_7 a0g_8 a0g_9 a0g_10 (Value.int v1na0_11) a0g_12 a0g_13 (Value.int a0_14) (Value.ref a0_15) a0g_16 (Value.ref a0_17) (Value.ref a0_18) a0g_19 a0g_20 a0g_21 a0g_22 (Value.ref a0_23) (Value.ref a0_24) (Value.int a0_25) (Value.int a0_26) (Value.int a0_27) (Value.int a0_28) a0g_29 a0g_30 a0g_31 a0g_32 a0g_33 a0g_34 a0g_35 a0g_36 a0g_37 a0g_38 a0g_39 (Int.le_trans zq4 zq1) zq0 zq5 (Int.le_trans zq6 zq4)) (cwV 2 hts gX8_patrol_X8_why rfl rfl rfl zd_X8_why ⟨Nat.le_of_ble_eq_true rfl, Nat.le_of_ble_eq_true rfl⟩) ⟨ax_blind (fun _ _ _ _ _ => trivial), zr_8 (zp_K hK) (zp_P1 hP) (q0 := 0) rfl, ax_pre (zp_P1 hP) (zp_K hK) (zp_D1 hD) (fun _ _ => trivial)⟩ rfl rfl hl.1 rfl (lv_room (Nat.le_of_ble_eq_true rfl)) dX8_patrol_17 ⟨Nat.le_of_ble_eq_true rfl, Nat.le_of_ble_eq_true rfl⟩) hS (fun q _ h => zp_F1 hD hS hA q h) (zp_F1 hD hS hA) (fun r17 u t H locs ht hvm hw hB hz1 hk1 hS1 => zo1 hB ht hP hD hk1 (zp_F1 hD hS hA) hS1 (fun hP hK1 hD hS => ?_))
      rcases hw with hw | hw | hw
      · obtain ⟨hw, h17_0, h17_1, h17_2, h17_3⟩ := hw
        subst hw
        refine lv_istore_n (lv' := [(3, .int 2), (0, .ref a0), (1, .int a1), (2, .int a2)]) hx hb dX8_patrol_20 rfl hl (by decide) rfl (fun ls hl => ?_)
        refine lv_iload_n hx hb dX8_patrol_21 rfl (lv_at hl 0 rfl) ?_
        refine lv_if_eq (tgt := 31) hx hb dX8_patrol_22 (by decide) (fun c22 => absurd c22 (by decide +kernel)) (fun _ => ?_)
        refine lv_aload_n hx hb dX8_patrol_25 rfl (lv_at hl 1 rfl) ?_
        refine lv_iload_n hx hb dX8_patrol_26 rfl (lv_at hl 0 rfl) ?_
        refine va_calli (va_runV (As := [.int 2]) (rest := []) ⟨hx, hb, hml, hown, hts⟩ (c_X8_no l dC dI H.size a0 2 (Value.int v1na0_0) a0g_1 a0g_2 a0g_3 a0g_4 a0g_5 a0g_6 a0g_7 a0g_8 a0g_9 a0g_10 a0g_12 a0g_13 (Value.int a0_14) (Value.ref a0_15) a0g_16 (Value.ref a0_17) (Value.ref a0_18) a0g_19 a0g_20 a0g_21 a0g_22 (Value.ref a0_23) (Value.ref a0_24) (Value.int a0_25) (Value.int a0_26) (Value.int a0_27) (Value.int a0_28) a0g_29 a0g_30 a0g_31 a0g_32 a0g_33 a0g_34 a0g_35 a0g_36 a0g_37 a0g_38 a0g_39 v1na0_11 ) (cwV 1 hts gX8_patrol_X8_no rfl rfl rfl zd_X8_no ⟨Nat.le_of_ble_eq_true rfl, Nat.le_of_ble_eq_true rfl⟩) ⟨ax_blind (fun _ _ _ _ _ => trivial), zr_8 (zp_K hK) (zp_P1 hP) (q0 := 0) rfl, ax_pre (zp_P1 hP) (zp_K hK) (zp_D1 hD) (fun _ _ => trivial)⟩ rfl rfl hl.1 rfl (lv_room (Nat.le_of_ble_eq_true rfl)) dX8_patrol_27 ⟨Nat.le_of_ble_eq_true rfl, Nat.le_of_ble_eq_true rfl⟩) hS (fun q _ h => zp_F1 hD hS hA q h) (zp_F1 hD hS hA) (fun r27 u t H locs ht hvm hw hB hz1 hk1 hS1 => zx_1 hB (fun v27na0_11 hB => zo1 hB ht hP hD hk1 (zp_F1 hD hS hA) hS1 (fun hP hK1 hD hS => ?_)))
        have hw : r27 = (-1) := hw
        have hw := hw.symm
        subst hw
        exact W.iret (v := (-1)) hx hb hr (fun t ht hW => ⟨⟨(-1), (), rfl, ⟨(Int.le_trans zq76 zq70), (Int.le_trans zq71 zq94)⟩, v1na0_0, v27na0_11, a0_25, a0_26, a0_27, a0_28, fa0_23, fa0_24, fa0_18, bfa0_23, bfa0_24, bfa0_18, by rw [ht]; exact hP, va_K.moved hW.alike hK, hD⟩, hS.F ht⟩) hS.2.2 dX8_patrol_30
      · obtain ⟨hw, h17_0, h17_1⟩ := hw
        subst hw
        exact absurd h17_1 (by decide)
      · obtain ⟨hw, h17_0, h17_1, h17_2, h17_3⟩ := hw
        subst hw
        exact absurd h17_2 (by decide)
  · subst hw
    refine lv_iload_n hx hb dX8_patrol_10 rfl (lv_at hl 2 rfl) ?_
    refine lv_iconst (v := 1) hx hb dX8_patrol_11 zk_iconst_1 ?_
    refine lv_bipush (v := 60) hx hb dX8_patrol_12 zk_bipush_60 ?_
    refine va_calli (va_runS (As := [.int a2, .int 1, .int 60]) (rest := [.int 0, .ref a0]) ⟨hx, hb, hml, hown, hts⟩ (c_X8_in l dC dI H.size a2 1 60 ) (va_cwS 3 hts gX8_patrol_X8_in rfl rfl rfl zd_X8_in.2 ⟨Nat.le_of_ble_eq_true rfl, Nat.le_of_ble_eq_true rfl⟩) ⟨ax_blind (fun _ _ _ _ _ => trivial), ax_pre (zp_P0 hP) (zp_K hK) (zp_D0 hD) (fun _ _ => trivial)⟩ rfl rfl hl.1 rfl (lv_room (Nat.le_of_ble_eq_true rfl)) dX8_patrol_14 ⟨Nat.le_of_ble_eq_true rfl, Nat.le_of_ble_eq_true rfl⟩) hS (fun q _ h => zp_F0 hD hS hA q h) (zp_F0 hD hS hA) (fun r14 u t H locs ht hvm hw hB hz1 hk1 hS1 => zo0 hB ht hP hD hk1 (zp_F0 hD hS hA) hS1 (fun hP hK1 hD hS => ?_))
    rcases hw with hw | hw
    · obtain ⟨hw, h14⟩ := hw
      subst hw
      have l14k0_a2 : (1 : Int) ≤ a2.toInt := Int.le_trans zq1 h14.1
      have u14k0_a2 : a2.toInt ≤ (60 : Int) := Int.le_trans h14.2 zq46
      refine va_calli (va_runV (As := [.int 0, .int 1]) (rest := []) ⟨hx, hb, hml, hown, hts⟩ (c_X8_whyB l dC dI H.size a0 0 1 (Value.int v1na0_0) a0g_1 a0g_2 a0g_3 a0g_4 a0g_5 a0g_6 a0g_7 a0g_8 a0g_9 a0g_10 (Value.int v1na0_11) a0g_12 a0g_13 (Value.int a0_14) (Value.ref a0_15) a0g_16 (Value.ref a0_17) (Value.ref a0_18) a0g_19 a0g_20 a0g_21 a0g_22 (Value.ref a0_23) (Value.ref a0_24) (Value.int a0_25) (Value.int a0_26) (Value.int a0_27) (Value.int a0_28) a0g_29 a0g_30 a0g_31 a0g_32 a0g_33 a0g_34 a0g_35 a0g_36 a0g_37 a0g_38 a0g_39 zq5 (Int.le_trans zq6 zq4) (Int.le_trans zq4 zq1) zq0) (cwV 2 hts gX8_patrol_X8_why rfl rfl rfl zd_X8_why ⟨Nat.le_of_ble_eq_true rfl, Nat.le_of_ble_eq_true rfl⟩) ⟨ax_blind (fun _ _ _ _ _ => trivial), zr_8 (zp_K hK) (zp_P1 hP) (q0 := 0) rfl, ax_pre (zp_P1 hP) (zp_K hK) (zp_D1 hD) (fun _ _ => trivial)⟩ rfl rfl hl.1 rfl (lv_room (Nat.le_of_ble_eq_true rfl)) dX8_patrol_17 ⟨Nat.le_of_ble_eq_true rfl, Nat.le_of_ble_eq_true rfl⟩) hS (fun q _ h => zp_F1 hD hS hA q h) (zp_F1 hD hS hA) (fun r17 u t H locs ht hvm hw hB hz1 hk1 hS1 => zo1 hB ht hP hD hk1 (zp_F1 hD hS hA) hS1 (fun hP hK1 hD hS => ?_))
      rcases hw with hw | hw | hw
      · obtain ⟨hw, h17_0, h17_1, h17_2, h17_3⟩ := hw
        subst hw
        exact absurd h17_0 (by decide)
      · obtain ⟨hw, h17_0, h17_1⟩ := hw
        subst hw
        refine lv_istore_n (lv' := [(3, .int 1), (0, .ref a0), (1, .int a1), (2, .int a2)]) hx hb dX8_patrol_20 rfl hl (by decide) rfl (fun ls hl => ?_)
        refine lv_iload_n hx hb dX8_patrol_21 rfl (lv_at hl 0 rfl) ?_
        refine lv_if_eq (tgt := 31) hx hb dX8_patrol_22 (by decide) (fun c22 => absurd c22 (by decide +kernel)) (fun _ => ?_)
        refine lv_aload_n hx hb dX8_patrol_25 rfl (lv_at hl 1 rfl) ?_
        refine lv_iload_n hx hb dX8_patrol_26 rfl (lv_at hl 0 rfl) ?_
        refine va_calli (va_runV (As := [.int 1]) (rest := []) ⟨hx, hb, hml, hown, hts⟩ (c_X8_no l dC dI H.size a0 1 (Value.int v1na0_0) a0g_1 a0g_2 a0g_3 a0g_4 a0g_5 a0g_6 a0g_7 a0g_8 a0g_9 a0g_10 a0g_12 a0g_13 (Value.int a0_14) (Value.ref a0_15) a0g_16 (Value.ref a0_17) (Value.ref a0_18) a0g_19 a0g_20 a0g_21 a0g_22 (Value.ref a0_23) (Value.ref a0_24) (Value.int a0_25) (Value.int a0_26) (Value.int a0_27) (Value.int a0_28) a0g_29 a0g_30 a0g_31 a0g_32 a0g_33 a0g_34 a0g_35 a0g_36 a0g_37 a0g_38 a0g_39 v1na0_11 ) (cwV 1 hts gX8_patrol_X8_no rfl rfl rfl zd_X8_no ⟨Nat.le_of_ble_eq_true rfl, Nat.le_of_ble_eq_true rfl⟩) ⟨ax_blind (fun _ _ _ _ _ => trivial), zr_8 (zp_K hK) (zp_P1 hP) (q0 := 0) rfl, ax_pre (zp_P1 hP) (zp_K hK) (zp_D1 hD) (fun _ _ => trivial)⟩ rfl rfl hl.1 rfl (lv_room (Nat.le_of_ble_eq_true rfl)) dX8_patrol_27 ⟨Nat.le_of_ble_eq_true rfl, Nat.le_of_ble_eq_true rfl⟩) hS (fun q _ h => zp_F1 hD hS hA q h) (zp_F1 hD hS hA) (fun r27 u t H locs ht hvm hw hB hz1 hk1 hS1 => zx_1 hB (fun v27na0_11 hB => zo1 hB ht hP hD hk1 (zp_F1 hD hS hA) hS1 (fun hP hK1 hD hS => ?_)))
        have hw : r27 = (-1) := hw
        have hw := hw.symm
        subst hw
        exact W.iret (v := (-1)) hx hb hr (fun t ht hW => ⟨⟨(-1), (), rfl, ⟨(Int.le_trans zq76 zq70), (Int.le_trans zq71 zq94)⟩, v1na0_0, v27na0_11, a0_25, a0_26, a0_27, a0_28, fa0_23, fa0_24, fa0_18, bfa0_23, bfa0_24, bfa0_18, by rw [ht]; exact hP, va_K.moved hW.alike hK, hD⟩, hS.F ht⟩) hS.2.2 dX8_patrol_30
      · obtain ⟨hw, h17_0, h17_1, h17_2, h17_3⟩ := hw
        subst hw
        exact absurd h17_0 (by decide)
    · obtain ⟨hw, h14⟩ := hw
      subst hw
      refine va_calli (va_runV (As := [.int 0, .int 0]) (rest := []) ⟨hx, hb, hml, hown, hts⟩ (c_X8_whyB l dC dI H.size a0 0 0 (Value.int v1na0_0) a0g_1 a0g_2 a0g_3 a0g_4 a0g_5 a0g_6 a0g_7 a0g_8 a0g_9 a0g_10 (Value.int v1na0_11) a0g_12 a0g_13 (Value.int a0_14) (Value.ref a0_15) a0g_16 (Value.ref a0_17) (Value.ref a0_18) a0g_19 a0g_20 a0g_21 a0g_22 (Value.ref a0_23) (Value.ref a0_24) (Value.int a0_25) (Value.int a0_26) (Value.int a0_27) (Value.int a0_28) a0g_29 a0g_30 a0g_31 a0g_32 a0g_33 a0g_34 a0g_35 a0g_36 a0g_37 a0g_38 a0g_39 zq5 (Int.le_trans zq6 zq4) zq5 (Int.le_trans zq6 zq4)) (cwV 2 hts gX8_patrol_X8_why rfl rfl rfl zd_X8_why ⟨Nat.le_of_ble_eq_true rfl, Nat.le_of_ble_eq_true rfl⟩) ⟨ax_blind (fun _ _ _ _ _ => trivial), zr_8 (zp_K hK) (zp_P1 hP) (q0 := 0) rfl, ax_pre (zp_P1 hP) (zp_K hK) (zp_D1 hD) (fun _ _ => trivial)⟩ rfl rfl hl.1 rfl (lv_room (Nat.le_of_ble_eq_true rfl)) dX8_patrol_17 ⟨Nat.le_of_ble_eq_true rfl, Nat.le_of_ble_eq_true rfl⟩) hS (fun q _ h => zp_F1 hD hS hA q h) (zp_F1 hD hS hA) (fun r17 u t H locs ht hvm hw hB hz1 hk1 hS1 => zo1 hB ht hP hD hk1 (zp_F1 hD hS hA) hS1 (fun hP hK1 hD hS => ?_))
      rcases hw with hw | hw | hw
      · obtain ⟨hw, h17_0, h17_1, h17_2, h17_3⟩ := hw
        subst hw
        exact absurd h17_0 (by decide)
      · obtain ⟨hw, h17_0, h17_1⟩ := hw
        subst hw
        refine lv_istore_n (lv' := [(3, .int 1), (0, .ref a0), (1, .int a1), (2, .int a2)]) hx hb dX8_patrol_20 rfl hl (by decide) rfl (fun ls hl => ?_)
        refine lv_iload_n hx hb dX8_patrol_21 rfl (lv_at hl 0 rfl) ?_
        refine lv_if_eq (tgt := 31) hx hb dX8_patrol_22 (by decide) (fun c22 => absurd c22 (by decide +kernel)) (fun _ => ?_)
        refine lv_aload_n hx hb dX8_patrol_25 rfl (lv_at hl 1 rfl) ?_
        refine lv_iload_n hx hb dX8_patrol_26 rfl (lv_at hl 0 rfl) ?_
        refine va_calli (va_runV (As := [.int 1]) (rest := []) ⟨hx, hb, hml, hown, hts⟩ (c_X8_no l dC dI H.size a0 1 (Value.int v1na0_0) a0g_1 a0g_2 a0g_3 a0g_4 a0g_5 a0g_6 a0g_7 a0g_8 a0g_9 a0g_10 a0g_12 a0g_13 (Value.int a0_14) (Value.ref a0_15) a0g_16 (Value.ref a0_17) (Value.ref a0_18) a0g_19 a0g_20 a0g_21 a0g_22 (Value.ref a0_23) (Value.ref a0_24) (Value.int a0_25) (Value.int a0_26) (Value.int a0_27) (Value.int a0_28) a0g_29 a0g_30 a0g_31 a0g_32 a0g_33 a0g_34 a0g_35 a0g_36 a0g_37 a0g_38 a0g_39 v1na0_11 ) (cwV 1 hts gX8_patrol_X8_no rfl rfl rfl zd_X8_no ⟨Nat.le_of_ble_eq_true rfl, Nat.le_of_ble_eq_true rfl⟩) ⟨ax_blind (fun _ _ _ _ _ => trivial), zr_8 (zp_K hK) (zp_P1 hP) (q0 := 0) rfl, ax_pre (zp_P1 hP) (zp_K hK) (zp_D1 hD) (fun _ _ => trivial)⟩ rfl rfl hl.1 rfl (lv_room (Nat.le_of_ble_eq_true rfl)) dX8_patrol_27 ⟨Nat.le_of_ble_eq_true rfl, Nat.le_of_ble_eq_true rfl⟩) hS (fun q _ h => zp_F1 hD hS hA q h) (zp_F1 hD hS hA) (fun r27 u t H locs ht hvm hw hB hz1 hk1 hS1 => zx_1 hB (fun v27na0_11 hB => zo1 hB ht hP hD hk1 (zp_F1 hD hS hA) hS1 (fun hP hK1 hD hS => ?_)))
        have hw : r27 = (-1) := hw
        have hw := hw.symm
        subst hw
        exact W.iret (v := (-1)) hx hb hr (fun t ht hW => ⟨⟨(-1), (), rfl, ⟨(Int.le_trans zq76 zq70), (Int.le_trans zq71 zq94)⟩, v1na0_0, v27na0_11, a0_25, a0_26, a0_27, a0_28, fa0_23, fa0_24, fa0_18, bfa0_23, bfa0_24, bfa0_18, by rw [ht]; exact hP, va_K.moved hW.alike hK, hD⟩, hS.F ht⟩) hS.2.2 dX8_patrol_30
      · obtain ⟨hw, h17_0, h17_1, h17_2, h17_3⟩ := hw
        subst hw
        exact absurd h17_0 (by decide)
end P240_07_safe
section P245_00_safe
set_option maxHeartbeats 4000000 in
set_option maxRecDepth 100000 in
theorem c_X8_turnIn (l : Launch) (dC : Nat → ClassId) (dI : Nat → Nat → Nat) (sz : Nat) (a0 : Nat) (a1 : Int32) (a0_0 : Int32) (a0g_1 a0g_2 a0g_3 a0g_4 a0g_5 a0g_6 a0g_7 a0g_8 a0g_9 a0g_10 a0g_12 a0g_13 a0g_16 a0g_18 a0g_19 a0g_20 a0g_21 a0g_22 a0g_23 a0g_24 a0g_25 a0g_26 a0g_27 a0g_28 a0g_32 a0g_33 a0g_34 a0g_35 a0g_36 a0g_37 a0g_38 a0g_39 : Value) (a0_11 : Int32) (a0_14 : Int32) (a0_15 : Nat) (a0_17 : Nat) (a0_29 : Nat) (a0_30 : Int32) (a0_31 : Int32) (ka0_15 : ClassId) (fa0_15 : Nat → Int32) (ka0_17 : ClassId) (fa0_17 : Nat → Int32) (ka0_29 : ClassId) (fa0_29 : Nat → Int32) (ba0_14_l : (1 : Int) ≤ a0_14.toInt) (ba0_14_u : a0_14.toInt ≤ (1 : Int)) (bfa0_15 : ((∀ k : Nat, 0 ≤ k → k ≤ 0 → (2 : Int) ≤ (fa0_15 k).toInt ∧ (fa0_15 k).toInt ≤ 9) ∧ (∀ k : Nat, 1 ≤ k → k ≤ 1 → (1 : Int) ≤ (fa0_15 k).toInt ∧ (fa0_15 k).toInt ≤ 20) ∧ (∀ k : Nat, 2 ≤ k → k ≤ 2 → (0 : Int) ≤ (fa0_15 k).toInt ∧ (fa0_15 k).toInt ≤ 8) ∧ (∀ k : Nat, 3 ≤ k → k ≤ 3 → (0 : Int) ≤ (fa0_15 k).toInt ∧ (fa0_15 k).toInt ≤ 100) ∧ (∀ k : Nat, 4 ≤ k → k ≤ 4 → (0 : Int) ≤ (fa0_15 k).toInt ∧ (fa0_15 k).toInt ≤ 9) ∧ (∀ k : Nat, 5 ≤ k → k ≤ 5 → (0 : Int) ≤ (fa0_15 k).toInt ∧ (fa0_15 k).toInt ≤ 3) ∧ (∀ k : Nat, 6 ≤ k → k ≤ 6 → (0 : Int) ≤ (fa0_15 k).toInt ∧ (fa0_15 k).toInt ≤ 6) ∧ (∀ k : Nat, 7 ≤ k → k ≤ 9 → (0 : Int) ≤ (fa0_15 k).toInt ∧ (fa0_15 k).toInt ≤ 8) ∧ (∀ k : Nat, 12 ≤ k → k ≤ 29 → (0 : Int) ≤ (fa0_15 k).toInt ∧ (fa0_15 k).toInt ≤ 20) ∧ (∀ k : Nat, 30 ≤ k → k ≤ 35 → (0 : Int) ≤ (fa0_15 k).toInt ∧ (fa0_15 k).toInt ≤ 8) ∧ (∀ k : Nat, 36 ≤ k → k ≤ 47 → (0 : Int) ≤ (fa0_15 k).toInt ∧ (fa0_15 k).toInt ≤ 999))) (bfa0_17 : ((∀ k : Nat, 0 ≤ k → k ≤ 8 → (0 : Int) ≤ (fa0_17 k).toInt ∧ (fa0_17 k).toInt ≤ 8) ∧ (∀ k : Nat, 19 ≤ k → k ≤ 19 → (0 : Int) ≤ (fa0_17 k).toInt ∧ (fa0_17 k).toInt ≤ 8) ∧ (∀ k : Nat, 20 ≤ k → k ≤ 20 → (0 : Int) ≤ (fa0_17 k).toInt ∧ (fa0_17 k).toInt ≤ 19))) (bfa0_29 : (∀ k, (0 : Int) ≤ (fa0_29 k).toInt ∧ (fa0_29 k).toInt ≤ 8)) : zm l yX8_turnIn wsX8_turnIn ({ frames := 2, cells := 0, slots := 0, locals := 44 }) [.ref a0, .int a1] dC dI sz [(a0, .inr (8, [Value.int a0_0, a0g_1, a0g_2, a0g_3, a0g_4, a0g_5, a0g_6, a0g_7, a0g_8, a0g_9, a0g_10, Value.int a0_11, a0g_12, a0g_13, Value.int a0_14, Value.ref a0_15, a0g_16, Value.ref a0_17, a0g_18, a0g_19, a0g_20, a0g_21, a0g_22, a0g_23, a0g_24, a0g_25, a0g_26, a0g_27, a0g_28, Value.ref a0_29, Value.int a0_30, Value.int a0_31, a0g_32, a0g_33, a0g_34, a0g_35, a0g_36, a0g_37, a0g_38, a0g_39])), (a0_15, .inl (ka0_15, 156, .inl (fa0_15))), (a0_17, .inl (ka0_17, 23, .inl (fa0_17))), (a0_29, .inl (ka0_29, 10, .inl (fa0_29)))] [(ka0_15, .int), (ka0_17, .int), (ka0_29, .int)] (fun A _ => True) (fun A => va_Qi (fun (r : Int32) (_ : Unit) => (-2 : Int) ≤ r.toInt ∧ r.toInt ≤ (8 : Int)) (fun (_ : Unit) (t : State) => ∃ na0_0 : Int32, ∃ na0_11 : Int32, ∃ na0_30 : Int32, ∃ na0_31 : Int32, ∃ nfa0_29 : Nat → Int32, (∀ k, (0 : Int) ≤ (nfa0_29 k).toInt ∧ (nfa0_29 k).toInt ≤ 8) ∧ ax_B dC dI A [(a0, .inr (8, [Value.int na0_0, a0g_1, a0g_2, a0g_3, a0g_4, a0g_5, a0g_6, a0g_7, a0g_8, a0g_9, a0g_10, Value.int na0_11, a0g_12, a0g_13, Value.int a0_14, Value.ref a0_15, a0g_16, Value.ref a0_17, a0g_18, a0g_19, a0g_20, a0g_21, a0g_22, a0g_23, a0g_24, a0g_25, a0g_26, a0g_27, a0g_28, Value.ref a0_29, Value.int na0_30, Value.int na0_31, a0g_32, a0g_33, a0g_34, a0g_35, a0g_36, a0g_37, a0g_38, a0g_39])), (a0_15, .inl (ka0_15, 156, .inl (fa0_15))), (a0_17, .inl (ka0_17, 23, .inl (fa0_17))), (a0_29, .inl (ka0_29, 10, .inl (nfa0_29)))] [(ka0_15, .int), (ka0_17, .int), (ka0_29, .int)] t) A) := by
  refine zh (cc := cX8_turnIn) (maxL := 3) (ret := (some .int)) zn_RX8 rfl (Nat.le_of_ble_eq_true rfl) (fun p e s m below meth c A ls hx hb hml hr hts (hown : s.vm.findClass RX8 = some m.cls) hlocks hA hS hP hK hD hE (hl : lv_has ls 3 [(0, .ref a0), (1, .int a1)]) => ?_)
  refine ai_open (fun K hK0 => ?_)
  refine (hK0 _ _ _).mpr ?_
  refine lv_aload_n hx hb dX8_turnIn_0 rfl (lv_at hl 0 rfl) ?_
  refine va_callv (va_runV (As := []) (rest := []) ⟨hx, hb, hml, hown, hts⟩ (c_X8_good l dC dI s.heap.size a0 a0_0 a0g_1 a0g_2 a0g_3 a0g_4 a0g_5 a0g_6 a0g_7 a0g_8 a0g_9 a0g_10 a0g_12 a0g_13 (Value.int a0_14) (Value.ref a0_15) a0g_16 (Value.ref a0_17) a0g_18 a0g_19 a0g_20 a0g_21 a0g_22 a0g_23 a0g_24 a0g_25 a0g_26 a0g_27 a0g_28 (Value.ref a0_29) (Value.int a0_30) (Value.int a0_31) a0g_32 a0g_33 a0g_34 a0g_35 a0g_36 a0g_37 a0g_38 a0g_39 a0_11 ) (cwV 0 hts gX8_turnIn_X8_good rfl rfl rfl zd_X8_good ⟨Nat.le_of_ble_eq_true rfl, Nat.le_of_ble_eq_true rfl⟩) ⟨ax_blind (fun _ _ _ _ _ => trivial), zr_8 (zp_K hK) (zp_P1 hP) (q0 := 0) rfl, ax_pre (zp_P1 hP) (zp_K hK) (zp_D1 hD) (fun _ _ => trivial)⟩ rfl rfl hl.1 rfl (lv_room (Nat.le_of_ble_eq_true rfl)) dX8_turnIn_1 ⟨Nat.le_of_ble_eq_true rfl, Nat.le_of_ble_eq_true rfl⟩) hS (fun q _ h => zp_F1 hD hS hA q h) (zp_F1 hD hS hA) (fun u t H locs ht hvm hw hB hz1 hk1 hS1 => zx_2 hB (fun v1na0_0 v1na0_11 hB => zo1 hB ht hP hD hk1 (zp_F1 hD hS hA) hS1 (fun hP hK1 hD hS => ?_)))
  refine lv_aload_n hx hb dX8_turnIn_4 rfl (lv_at hl 0 rfl) ?_
  refine lv_iload_n hx hb dX8_turnIn_5 rfl (lv_at hl 1 rfl) ?_
  have hKc := hK.sub (tys' := [(ka0_15, .int)]) [0] rfl
  refine va_calli (va_runV (As := [.int a1]) (rest := []) ⟨hx, hb, hml, hown, hts⟩ (c_X8_isFigure l dC dI H.size a0 a1 (Value.int v1na0_0) a0g_1 a0g_2 a0g_3 a0g_4 a0g_5 a0g_6 a0g_7 a0g_8 a0g_9 a0g_10 (Value.int v1na0_11) a0g_12 a0g_13 a0g_16 (Value.ref a0_17) a0g_18 a0g_19 a0g_20 a0g_21 a0g_22 a0g_23 a0g_24 a0g_25 a0g_26 a0g_27 a0g_28 (Value.ref a0_29) (Value.int a0_30) (Value.int a0_31) a0g_32 a0g_33 a0g_34 a0g_35 a0g_36 a0g_37 a0g_38 a0g_39 a0_14 a0_15 ka0_15 fa0_15 ba0_14_l ba0_14_u bfa0_15) (cwV 1 hts gX8_turnIn_X8_isFigure rfl rfl rfl zd_X8_isFigure ⟨Nat.le_of_ble_eq_true rfl, Nat.le_of_ble_eq_true rfl⟩) ⟨ax_blind (fun _ _ _ _ _ => trivial), zr_8 hKc (zp_P2 hP) (q0 := 0) rfl, ax_pre (zp_P2 hP) hKc (zp_D2 hD) (fun _ _ => trivial)⟩ rfl rfl hl.1 rfl (lv_room (Nat.le_of_ble_eq_true rfl)) dX8_turnIn_6 ⟨Nat.le_of_ble_eq_true rfl, Nat.le_of_ble_eq_true rfl⟩) hS (fun q _ h => zp_F2 hD hS hA q h) (zp_F2 hD hS hA) (fun r6 u t H locs ht hvm hw hB hz1 hk1 hS1 => zo2 hB ht hP hD hk1 (zp_F2 hD hS hA) hS1 (fun hP hK1 hD hS => ?_))
  rcases hw with hw | hw
  · obtain ⟨hw, h6_0, h6_1⟩ := hw
    subst hw
    have l6k0_a1 : (0 : Int) ≤ a1.toInt := h6_0
    have u6k0_a1 : a1.toInt ≤ (8 : Int) := h6_1
    refine lv_if_ne (tgt := 18) hx hb dX8_turnIn_9 (by decide) (fun _ => ?_) (fun c9 => absurd c9 (by decide +kernel))
    refine lv_aload_n hx hb dX8_turnIn_18 rfl (lv_at hl 0 rfl) ?_
    refine zc_cutc (wc := [(a0, .inr (8, [Value.int v1na0_0, a0g_1, a0g_2, a0g_3, a0g_4, a0g_5, a0g_6, a0g_7, a0g_8, a0g_9, a0g_10, Value.int v1na0_11, a0g_12, a0g_13, Value.int a0_14, Value.ref a0_15, a0g_16, Value.ref a0_17, a0g_18, a0g_19, a0g_20, a0g_21, a0g_22, a0g_23, a0g_24, a0g_25, a0g_26, a0g_27, a0g_28, Value.ref a0_29, Value.int a0_30, Value.int a0_31, a0g_32, a0g_33, a0g_34, a0g_35, a0g_36, a0g_37, a0g_38, a0g_39])), (a0_17, .inl (ka0_17, 23, .inl (fa0_17))), (a0_29, .inl (ka0_29, 10, .inl (fa0_29))), (a0_15, .inl (ka0_15, 156, .inl (fa0_15)))]) hP hD hS hA [0, 2, 3, 1] (by decide +kernel) rfl (fun hPc hDc hFc hCc => ?_)
    have hKc := hK.sub (tys' := [(ka0_17, .int), (ka0_29, .int), (ka0_15, .int)]) [1, 2, 0] rfl
    refine va_callv (va_runV (As := []) (rest := []) ⟨hx, hb, hml, hown, hts⟩ (c_X8_goRound l dC dI H.size a0 (Value.int v1na0_0) a0g_1 a0g_2 a0g_3 a0g_4 a0g_5 a0g_6 a0g_7 a0g_8 a0g_9 a0g_10 (Value.int v1na0_11) a0g_12 a0g_13 (Value.int a0_14) a0g_16 a0g_18 a0g_19 a0g_20 a0g_21 a0g_22 a0g_23 a0g_24 a0g_25 a0g_26 a0g_27 a0g_28 a0g_32 a0g_33 a0g_34 a0g_35 a0g_36 a0g_37 a0g_38 a0g_39 a0_15 a0_17 a0_29 a0_30 a0_31 ka0_17 fa0_17 ka0_29 fa0_29 ka0_15 fa0_15 bfa0_17 bfa0_29 bfa0_15) (cwV 0 hts gX8_turnIn_X8_goRound rfl rfl rfl zd_X8_goRound ⟨Nat.le_of_ble_eq_true rfl, Nat.le_of_ble_eq_true rfl⟩) ⟨ax_blind (fun _ _ _ _ _ => trivial), zr_8 hKc hPc (q0 := 0) rfl, ax_pre hPc hKc hDc (fun _ _ => trivial)⟩ rfl rfl hl.1 rfl (lv_room (Nat.le_of_ble_eq_true rfl)) dX8_turnIn_19 ⟨Nat.le_of_ble_eq_true rfl, Nat.le_of_ble_eq_true rfl⟩) hS (fun q _ h => hFc q h) hFc (fun u t H locs ht hvm hw hB hz1 hk1 hS => zx_3 hB (fun v19na0_30 v19na0_31 v19nfa0_29 hB => zy_2 hB (fun bv19nfa0_29 hraw19_0 hB => zo hB ht (fun hP1 hK1 hD1 => ?_))))
    refine zc_backc (w := [(a0, .inr (8, [Value.int v1na0_0, a0g_1, a0g_2, a0g_3, a0g_4, a0g_5, a0g_6, a0g_7, a0g_8, a0g_9, a0g_10, Value.int v1na0_11, a0g_12, a0g_13, Value.int a0_14, Value.ref a0_15, a0g_16, Value.ref a0_17, a0g_18, a0g_19, a0g_20, a0g_21, a0g_22, a0g_23, a0g_24, a0g_25, a0g_26, a0g_27, a0g_28, Value.ref a0_29, Value.int v19na0_30, Value.int v19na0_31, a0g_32, a0g_33, a0g_34, a0g_35, a0g_36, a0g_37, a0g_38, a0g_39])), (a0_15, .inl (ka0_15, 156, .inl (fa0_15))), (a0_17, .inl (ka0_17, 23, .inl (fa0_17))), (a0_29, .inl (ka0_29, 10, .inl (v19nfa0_29)))]) hP hD hCc hk1 hFc hP1 hD1 [.inr 0, .inr 3, .inr 1, .inr 2] (by decide +kernel) rfl (fun hP hD => ?_)
    refine lv_iconst (v := 0) hx hb dX8_turnIn_22 zk_iconst_0 ?_
    refine lv_istore_n (lv' := [(2, .int 0), (0, .ref a0), (1, .int a1)]) hx hb dX8_turnIn_23 rfl hl (by decide) rfl (fun ls hl => ?_)
    have J24 : ∀ (n : Nat) (j24l2 : Int32) (H : Heap) (locs : List Loc) (ls : Array Slot), (10 : Int) - j24l2.toInt ≤ (n : Int) → (0 : Int) ≤ j24l2.toInt → j24l2.toInt ≤ (9 : Int) → va_P (dC, dI) vwCl [(a0, .inr (8, [Value.int v1na0_0, a0g_1, a0g_2, a0g_3, a0g_4, a0g_5, a0g_6, a0g_7, a0g_8, a0g_9, a0g_10, Value.int v1na0_11, a0g_12, a0g_13, Value.int a0_14, Value.ref a0_15, a0g_16, Value.ref a0_17, a0g_18, a0g_19, a0g_20, a0g_21, a0g_22, a0g_23, a0g_24, a0g_25, a0g_26, a0g_27, a0g_28, Value.ref a0_29, Value.int v19na0_30, Value.int v19na0_31, a0g_32, a0g_33, a0g_34, a0g_35, a0g_36, a0g_37, a0g_38, a0g_39])), (a0_15, .inl (ka0_15, 156, .inl (fa0_15))), (a0_17, .inl (ka0_17, 23, .inl (fa0_17))), (a0_29, .inl (ka0_29, 10, .inl (v19nfa0_29)))] H → va_D A [(a0, .inr (8, [Value.int v1na0_0, a0g_1, a0g_2, a0g_3, a0g_4, a0g_5, a0g_6, a0g_7, a0g_8, a0g_9, a0g_10, Value.int v1na0_11, a0g_12, a0g_13, Value.int a0_14, Value.ref a0_15, a0g_16, Value.ref a0_17, a0g_18, a0g_19, a0g_20, a0g_21, a0g_22, a0g_23, a0g_24, a0g_25, a0g_26, a0g_27, a0g_28, Value.ref a0_29, Value.int v19na0_30, Value.int v19na0_31, a0g_32, a0g_33, a0g_34, a0g_35, a0g_36, a0g_37, a0g_38, a0g_39])), (a0_15, .inl (ka0_15, 156, .inl (fa0_15))), (a0_17, .inl (ka0_17, 23, .inl (fa0_17))), (a0_29, .inl (ka0_29, 10, .inl (v19nfa0_29)))] → va_S A s.heap H locs → lv_has ls 3 [(0, .ref a0), (1, .int a1), (2, .int j24l2)] → K H locs (F0 m 24 ls []) := by
      intro n
      induction n with
      | zero =>
        intro j24l2 H locs ls hm bj24l2_l bj24l2_u hP hD hS hl
        have h8 := ai_min j24l2
        have h9 := ai_max j24l2
        exact absurd hm (by omega)
      | succ n ih24 =>
        intro j24l2 H locs ls hm bj24l2_l bj24l2_u hP hD hS hl
        refine (hK0 _ _ _).mpr ?_
        have hm24 := hm
        refine lv_iload_n hx hb dX8_turnIn_24 rfl (lv_at hl 2 rfl) ?_
        refine lv_aload_n hx hb dX8_turnIn_25 rfl (lv_at hl 0 rfl) ?_
        refine va_get (D := (dC, dI)) (ci := 8) (v := .int v19na0_30) (C := RX8) (T := TX8) (N := 40) hx hb hts zi_X8_turnIn_8 hown hK hP 0 rfl rfl 30 (by decide) (hts (.fieldLink RX8 283 "WaxTurnsModel" "settled" "I") (zm_X8_turnIn_r1 (List.mem_of_getElem? (i := 0) rfl))) (fun _ h9 => h9) rfl dX8_turnIn_26 ?_
        refine lv_aload_n hx hb dX8_turnIn_29 rfl (lv_at hl 0 rfl) ?_
        refine va_get (D := (dC, dI)) (ci := 8) (v := .int v19na0_31) (C := RX8) (T := TX8) (N := 40) hx hb hts zi_X8_turnIn_8 hown hK hP 0 rfl rfl 31 (by decide) (hts (.fieldLink RX8 286 "WaxTurnsModel" "again" "I") (zm_X8_turnIn_r1 (List.mem_of_getElem? (i := 1) rfl))) (fun _ h9 => h9) rfl dX8_turnIn_30 ?_
        refine lv_iadd hx hb dX8_turnIn_33 ?_
        refine lv_topi (fun x33 ex33 => ?_)
        have qx33 : x33.toInt = v19na0_30.toInt + v19na0_31.toInt := ai_add ex33 ⟨(by omega : (0 : Int) ≤ v19na0_30.toInt), (by omega : v19na0_30.toInt ≤ (8 : Int))⟩ ⟨(by omega : (1 : Int) ≤ v19na0_31.toInt), (by omega : v19na0_31.toInt ≤ (9 : Int))⟩ (by decide) (by decide)
        have bx33 : (1 : Int) ≤ x33.toInt ∧ x33.toInt ≤ 17 := ⟨by rw [qx33]; exact Int.add_le_add (by omega : (0 : Int) ≤ v19na0_30.toInt) (by omega : (1 : Int) ≤ v19na0_31.toInt), by rw [qx33]; exact Int.add_le_add (by omega : v19na0_30.toInt ≤ (8 : Int)) (by omega : v19na0_31.toInt ≤ (9 : Int))⟩
        have u33z_x33 : x33.toInt ≤ (9 : Int) := by omega
        refine lv_icmp_ge (tgt := 55) hx hb dX8_turnIn_34 (by decide) (fun c34 => ?_) (fun c34 => ?_)
        · have gc34 := ai_le c34
          have u34t_x33 : x33.toInt ≤ (9 : Int) := u33z_x33
          have l34t_j24l2 : (1 : Int) ≤ j24l2.toInt := Int.le_trans bx33.1 gc34
          refine lv_bipush (v := (-2)) hx hb dX8_turnIn_55 zk_bipush_n2 ?_
          exact W.iret (v := (-2)) hx hb hr (fun t ht hW => ⟨⟨(-2), (), rfl, ⟨zq45, (Int.le_trans zq44 zq74)⟩, v1na0_0, v1na0_11, v19na0_30, v19na0_31, v19nfa0_29, bv19nfa0_29, by rw [ht]; exact hP, va_K.moved hW.alike hK, hD⟩, hS.F ht⟩) hS.2.2 dX8_turnIn_57
        · have gc34 := ai_nle c34
          have u34f_j24l2 : j24l2.toInt ≤ (8 : Int) := ai_lthi gc34 u33z_x33
          have l34f_x33 : (1 : Int) ≤ x33.toInt := bx33.1
          refine lv_aload_n hx hb dX8_turnIn_37 rfl (lv_at hl 0 rfl) ?_
          refine va_get (D := (dC, dI)) (ci := 8) (v := .ref a0_29) (C := RX8) (T := TX8) (N := 40) hx hb hts zi_X8_turnIn_8 hown hK hP 0 rfl rfl 29 (by decide) (hts (.fieldLink RX8 44 "WaxTurnsModel" "row" "[I") (zm_X8_turnIn_r1 (List.mem_of_getElem? (i := 2) rfl))) (fun _ h9 => h9) rfl dX8_turnIn_38 ?_
          refine lv_iload_n hx hb dX8_turnIn_41 rfl (lv_at hl 2 rfl) ?_
          refine va_iald hx hb hK hP 3 2 rfl rfl (ai_in bj24l2_l u34f_j24l2 (by decide) (by decide)) dX8_turnIn_42 ?_
          refine lv_topi (fun x42 ex42 => ?_)
          have bx42 : (0 : Int) ≤ x42.toInt ∧ x42.toInt ≤ 8 := by rw [ex42]; exact bv19nfa0_29 _
          refine lv_iload_n hx hb dX8_turnIn_43 rfl (lv_at hl 1 rfl) ?_
          refine lv_icmp_ne (tgt := 49) hx hb dX8_turnIn_44 (by decide) (fun c44 => ?_) (fun c44 => ?_)
          · have gc44 := ai_ne c44
            obtain ⟨x49, ex49⟩ : ∃ y : Int32, y = j24l2 + Int32.ofInt 1 := ⟨_, rfl⟩
            have qx49 : x49.toInt = j24l2.toInt + 1 := ai_inc ex49 (by decide) (by decide) u34f_j24l2 (by decide)
            have bx49 : (1 : Int) ≤ x49.toInt ∧ x49.toInt ≤ 9 := ⟨by rw [qx49]; exact Int.add_le_add bj24l2_l (Int.le_refl _), by rw [qx49]; exact Int.add_le_add u34f_j24l2 (Int.le_refl _)⟩
            refine lv_iinc (v := x49) (lv' := [(2, .int x49), (0, .ref a0), (1, .int a1)]) hx hb dX8_turnIn_49 hl (k := 2) rfl ex49.symm (by decide) rfl (fun ls hl => ?_)
            refine lv_goto (tgt := 24) hx hb dX8_turnIn_52 (by decide) ?_
            exact (hK0 _ _ _).mp (ih24 x49 _ _ _ (by have h0 := qx49; omega) (Int.le_trans zq4 bx49.1) bx49.2 hP hD hS (lv_sub hl [1, 2, 0] rfl))
          · have gc44 := ai_eq c44
            have u44f_x42 : x42.toInt ≤ (8 : Int) := bx42.2
            have l44f_x42 : (0 : Int) ≤ x42.toInt := bx42.1
            have u44f_a1 : a1.toInt ≤ (8 : Int) := u6k0_a1
            have l44f_a1 : (0 : Int) ≤ a1.toInt := l6k0_a1
            refine lv_iload_n hx hb dX8_turnIn_47 rfl (lv_at hl 2 rfl) ?_
            exact W.iret (v := j24l2) hx hb hr (fun t ht hW => ⟨⟨j24l2, (), rfl, ⟨(Int.le_trans zq75 bj24l2_l), u34f_j24l2⟩, v1na0_0, v1na0_11, v19na0_30, v19na0_31, v19nfa0_29, bv19nfa0_29, by rw [ht]; exact hP, va_K.moved hW.alike hK, hD⟩, hS.F ht⟩) hS.2.2 dX8_turnIn_48
    exact (hK0 _ _ _).mp (J24 10 0 _ _ _ (by have h1 : (0 : Int) ≤ (0 : Int32).toInt := zq5; have h2 : (0 : Int32).toInt ≤ (0 : Int) := zq6; omega) zq5 (Int.le_trans zq6 zq7) hP hD hS (lv_sub hl [1, 2, 0] rfl))
  · subst hw
    refine lv_if_ne (tgt := 18) hx hb dX8_turnIn_9 (by decide) (fun c9 => absurd (by decide +kernel) c9) (fun _ => ?_)
    refine lv_aload_n hx hb dX8_turnIn_12 rfl (lv_at hl 0 rfl) ?_
    refine lv_iconst (v := 1) hx hb dX8_turnIn_13 zk_iconst_1 ?_
    refine va_calli (va_runV (As := [.int 1]) (rest := []) ⟨hx, hb, hml, hown, hts⟩ (c_X8_no l dC dI H.size a0 1 (Value.int v1na0_0) a0g_1 a0g_2 a0g_3 a0g_4 a0g_5 a0g_6 a0g_7 a0g_8 a0g_9 a0g_10 a0g_12 a0g_13 (Value.int a0_14) (Value.ref a0_15) a0g_16 (Value.ref a0_17) a0g_18 a0g_19 a0g_20 a0g_21 a0g_22 a0g_23 a0g_24 a0g_25 a0g_26 a0g_27 a0g_28 (Value.ref a0_29) (Value.int a0_30) (Value.int a0_31) a0g_32 a0g_33 a0g_34 a0g_35 a0g_36 a0g_37 a0g_38 a0g_39 v1na0_11 ) (cwV 1 hts gX8_turnIn_X8_no rfl rfl rfl zd_X8_no ⟨Nat.le_of_ble_eq_true rfl, Nat.le_of_ble_eq_true rfl⟩) ⟨ax_blind (fun _ _ _ _ _ => trivial), zr_8 (zp_K hK) (zp_P1 hP) (q0 := 0) rfl, ax_pre (zp_P1 hP) (zp_K hK) (zp_D1 hD) (fun _ _ => trivial)⟩ rfl rfl hl.1 rfl (lv_room (Nat.le_of_ble_eq_true rfl)) dX8_turnIn_14 ⟨Nat.le_of_ble_eq_true rfl, Nat.le_of_ble_eq_true rfl⟩) hS (fun q _ h => zp_F1 hD hS hA q h) (zp_F1 hD hS hA) (fun r14 u t H locs ht hvm hw hB hz1 hk1 hS1 => zx_1 hB (fun v14na0_11 hB => zo1 hB ht hP hD hk1 (zp_F1 hD hS hA) hS1 (fun hP hK1 hD hS => ?_)))
    have hw : r14 = (-1) := hw
    have hw := hw.symm
    subst hw
    exact W.iret (v := (-1)) hx hb hr (fun t ht hW => ⟨⟨(-1), (), rfl, ⟨(Int.le_trans zq76 zq70), (Int.le_trans zq71 zq72)⟩, v1na0_0, v14na0_11, a0_30, a0_31, fa0_29, bfa0_29, by rw [ht]; exact hP, va_K.moved hW.alike hK, hD⟩, hS.F ht⟩) hS.2.2 dX8_turnIn_17
end P245_00_safe
section P250_00_safe
set_option maxHeartbeats 4000000 in
set_option maxRecDepth 100000 in
theorem c_X8_turnBy (l : Launch) (dC : Nat → ClassId) (dI : Nat → Nat → Nat) (sz : Nat) (a0 : Nat) (a1 : Int32) (a2 : Int32) (a3 : Int32) (a4 : Int32) (a0g_0 a0g_1 a0g_2 a0g_3 a0g_4 a0g_5 a0g_6 a0g_7 a0g_8 a0g_9 a0g_10 a0g_11 a0g_12 a0g_13 a0g_14 a0g_16 a0g_17 a0g_18 a0g_19 a0g_20 a0g_21 a0g_22 a0g_23 a0g_24 a0g_25 a0g_26 a0g_27 a0g_28 a0g_29 a0g_30 a0g_31 a0g_32 a0g_33 a0g_35 a0g_36 a0g_37 a0g_38 a0g_39 : Value) (a0_15 : Nat) (a0_34 : Nat) (ka0_34 : ClassId) (fa0_34 : Nat → Int32) (ka0_15 : ClassId) (fa0_15 : Nat → Int32) (ba1_l : (0 : Int) ≤ a1.toInt) (ba1_u : a1.toInt ≤ (999 : Int)) (ba2_l : (0 : Int) ≤ a2.toInt) (ba2_u : a2.toInt ≤ (8 : Int)) (ba3_l : (0 : Int) ≤ a3.toInt) (ba3_u : a3.toInt ≤ (8 : Int)) (ba4_l : (0 : Int) ≤ a4.toInt) (ba4_u : a4.toInt ≤ (999 : Int)) (bfa0_15 : ((∀ k : Nat, 0 ≤ k → k ≤ 0 → (2 : Int) ≤ (fa0_15 k).toInt ∧ (fa0_15 k).toInt ≤ 9) ∧ (∀ k : Nat, 1 ≤ k → k ≤ 1 → (1 : Int) ≤ (fa0_15 k).toInt ∧ (fa0_15 k).toInt ≤ 20) ∧ (∀ k : Nat, 2 ≤ k → k ≤ 2 → (0 : Int) ≤ (fa0_15 k).toInt ∧ (fa0_15 k).toInt ≤ 8) ∧ (∀ k : Nat, 3 ≤ k → k ≤ 3 → (0 : Int) ≤ (fa0_15 k).toInt ∧ (fa0_15 k).toInt ≤ 100) ∧ (∀ k : Nat, 4 ≤ k → k ≤ 4 → (0 : Int) ≤ (fa0_15 k).toInt ∧ (fa0_15 k).toInt ≤ 9) ∧ (∀ k : Nat, 5 ≤ k → k ≤ 5 → (0 : Int) ≤ (fa0_15 k).toInt ∧ (fa0_15 k).toInt ≤ 3) ∧ (∀ k : Nat, 6 ≤ k → k ≤ 6 → (0 : Int) ≤ (fa0_15 k).toInt ∧ (fa0_15 k).toInt ≤ 6) ∧ (∀ k : Nat, 7 ≤ k → k ≤ 9 → (0 : Int) ≤ (fa0_15 k).toInt ∧ (fa0_15 k).toInt ≤ 8) ∧ (∀ k : Nat, 12 ≤ k → k ≤ 29 → (0 : Int) ≤ (fa0_15 k).toInt ∧ (fa0_15 k).toInt ≤ 20) ∧ (∀ k : Nat, 30 ≤ k → k ≤ 35 → (0 : Int) ≤ (fa0_15 k).toInt ∧ (fa0_15 k).toInt ≤ 8) ∧ (∀ k : Nat, 36 ≤ k → k ≤ 47 → (0 : Int) ≤ (fa0_15 k).toInt ∧ (fa0_15 k).toInt ≤ 999))) : zm l yX8_turnBy wsX8_turnBy ({ frames := 0, cells := 0, slots := 0, locals := 0 }) [.ref a0, .int a1, .int a2, .int a3, .int a4] dC dI sz [(a0, .inr (8, [a0g_0, a0g_1, a0g_2, a0g_3, a0g_4, a0g_5, a0g_6, a0g_7, a0g_8, a0g_9, a0g_10, a0g_11, a0g_12, a0g_13, a0g_14, Value.ref a0_15, a0g_16, a0g_17, a0g_18, a0g_19, a0g_20, a0g_21, a0g_22, a0g_23, a0g_24, a0g_25, a0g_26, a0g_27, a0g_28, a0g_29, a0g_30, a0g_31, a0g_32, a0g_33, Value.ref a0_34, a0g_35, a0g_36, a0g_37, a0g_38, a0g_39])), (a0_34, .inl (ka0_34, 9, .inl (fa0_34))), (a0_15, .inl (ka0_15, 156, .inl (fa0_15)))] [(ka0_34, .int), (ka0_15, .int)] (fun A _ => True) (fun A => va_Qi (fun (r : Int32) (_ : Unit) => ((0 : Int) ≤ r.toInt ∧ r.toInt ≤ 8) ∧ (a1.toInt = 0 → a2.toInt = a3.toInt → a3.toInt < (fa0_15 0).toInt → r.toInt = a3.toInt)) (fun (_ : Unit) (t : State) => ∃ nfa0_34 : Nat → Int32, ax_B dC dI A [(a0, .inr (8, [a0g_0, a0g_1, a0g_2, a0g_3, a0g_4, a0g_5, a0g_6, a0g_7, a0g_8, a0g_9, a0g_10, a0g_11, a0g_12, a0g_13, a0g_14, Value.ref a0_15, a0g_16, a0g_17, a0g_18, a0g_19, a0g_20, a0g_21, a0g_22, a0g_23, a0g_24, a0g_25, a0g_26, a0g_27, a0g_28, a0g_29, a0g_30, a0g_31, a0g_32, a0g_33, Value.ref a0_34, a0g_35, a0g_36, a0g_37, a0g_38, a0g_39])), (a0_34, .inl (ka0_34, 9, .inl (nfa0_34))), (a0_15, .inl (ka0_15, 156, .inl (fa0_15)))] [(ka0_34, .int), (ka0_15, .int)] t) A) := by
  refine zh (cc := cX8_turnBy) (maxL := 9) (ret := (some .int)) zn_RX8 rfl (Nat.le_of_ble_eq_true rfl) (fun p e s m below meth c A ls hx hb hml hr hts (hown : s.vm.findClass RX8 = some m.cls) hlocks hA hS hP hK hD hE (hl : lv_has ls 9 [(0, .ref a0), (1, .int a1), (2, .int a2), (3, .int a3), (4, .int a4)]) => ?_)
  refine ai_open (fun K hK0 => ?_)
  refine (hK0 _ _ _).mpr ?_
  refine lv_iconst (v := 0) hx hb dX8_turnBy_0 zk_iconst_0 ?_
  refine lv_istore (lv' := [(5, .int 0), (0, .ref a0), (1, .int a1), (2, .int a2), (3, .int a3), (4, .int a4)]) hx hb dX8_turnBy_1 hl (by decide) rfl (fun ls hl => ?_)
  have J3 : ∀ (n : Nat) (j3l5 : Int32) (j3a0_34_a : Nat → Int32) (H : Heap) (locs : List Loc) (ls : Array Slot), (10 : Int) - j3l5.toInt ≤ (n : Int) → (0 : Int) ≤ j3l5.toInt → j3l5.toInt ≤ (9 : Int) → (∀ i : Nat, i < j3l5.toNatClampNeg → (j3a0_34_a i).toInt = -1) → va_P (dC, dI) vwCl [(a0, .inr (8, [a0g_0, a0g_1, a0g_2, a0g_3, a0g_4, a0g_5, a0g_6, a0g_7, a0g_8, a0g_9, a0g_10, a0g_11, a0g_12, a0g_13, a0g_14, Value.ref a0_15, a0g_16, a0g_17, a0g_18, a0g_19, a0g_20, a0g_21, a0g_22, a0g_23, a0g_24, a0g_25, a0g_26, a0g_27, a0g_28, a0g_29, a0g_30, a0g_31, a0g_32, a0g_33, Value.ref a0_34, a0g_35, a0g_36, a0g_37, a0g_38, a0g_39])), (a0_34, .inl (ka0_34, 9, .inl (j3a0_34_a))), (a0_15, .inl (ka0_15, 156, .inl (fa0_15)))] H → va_D A [(a0, .inr (8, [a0g_0, a0g_1, a0g_2, a0g_3, a0g_4, a0g_5, a0g_6, a0g_7, a0g_8, a0g_9, a0g_10, a0g_11, a0g_12, a0g_13, a0g_14, Value.ref a0_15, a0g_16, a0g_17, a0g_18, a0g_19, a0g_20, a0g_21, a0g_22, a0g_23, a0g_24, a0g_25, a0g_26, a0g_27, a0g_28, a0g_29, a0g_30, a0g_31, a0g_32, a0g_33, Value.ref a0_34, a0g_35, a0g_36, a0g_37, a0g_38, a0g_39])), (a0_34, .inl (ka0_34, 9, .inl (j3a0_34_a))), (a0_15, .inl (ka0_15, 156, .inl (fa0_15)))] → va_S A s.heap H locs → lv_has ls 9 [(0, .ref a0), (1, .int a1), (2, .int a2), (3, .int a3), (4, .int a4), (5, .int j3l5)] → K H locs (F0 m 3 ls []) := by
    intro n
    induction n with
    | zero =>
      intro j3l5 j3a0_34_a H locs ls hm bj3l5_l bj3l5_u mf3 hP hD hS hl
      have h8 := ai_min j3l5
      have h9 := ai_max j3l5
      exact absurd hm (by omega)
    | succ n ih3 =>
      intro j3l5 j3a0_34_a H locs ls hm bj3l5_l bj3l5_u mf3 hP hD hS hl
      refine (hK0 _ _ _).mpr ?_
      have hm3 := hm
      refine lv_iload hx hb dX8_turnBy_3 (lv_at hl 5 rfl) ?_
      refine lv_bipush (v := 9) hx hb dX8_turnBy_5 zk_bipush_9 ?_
      refine lv_icmp_ge (tgt := 24) hx hb dX8_turnBy_7 (by decide) (fun c7 => ?_) (fun c7 => ?_)
      · have gc7 := ai_le c7
        have l7t_j3l5 : (9 : Int) ≤ j3l5.toInt := Int.le_trans zq2 gc7
        refine lv_iload_n hx hb dX8_turnBy_24 rfl (lv_at hl 3 rfl) ?_
        refine lv_istore (lv' := [(5, .int a3), (0, .ref a0), (1, .int a1), (2, .int a2), (3, .int a3), (4, .int a4)]) hx hb dX8_turnBy_25 hl (by decide) rfl (fun ls hl => ?_)
        refine lv_iconst (v := 0) hx hb dX8_turnBy_27 zk_iconst_0 ?_
        refine lv_istore (lv' := [(6, .int 0), (5, .int a3), (0, .ref a0), (1, .int a1), (2, .int a2), (3, .int a3), (4, .int a4)]) hx hb dX8_turnBy_28 hl (by decide) rfl (fun ls hl => ?_)
        have J30 : ∀ (n : Nat) (j30l6 : Int32) (j30l5 : Int32) (j30a0_34_a : Nat → Int32) (H : Heap) (locs : List Loc) (ls : Array Slot), (1000 : Int) - j30l6.toInt ≤ (n : Int) → (0 : Int) ≤ j30l6.toInt → j30l6.toInt ≤ (999 : Int) → (0 : Int) ≤ j30l5.toInt → j30l5.toInt ≤ (8 : Int) → (tb_M j30a0_34_a j30l6.toInt) → ((a1.toInt = 0 → a2.toInt = a3.toInt → a3.toInt < (fa0_15 0).toInt → j30l5.toInt = a3.toInt)) → va_P (dC, dI) vwCl [(a0, .inr (8, [a0g_0, a0g_1, a0g_2, a0g_3, a0g_4, a0g_5, a0g_6, a0g_7, a0g_8, a0g_9, a0g_10, a0g_11, a0g_12, a0g_13, a0g_14, Value.ref a0_15, a0g_16, a0g_17, a0g_18, a0g_19, a0g_20, a0g_21, a0g_22, a0g_23, a0g_24, a0g_25, a0g_26, a0g_27, a0g_28, a0g_29, a0g_30, a0g_31, a0g_32, a0g_33, Value.ref a0_34, a0g_35, a0g_36, a0g_37, a0g_38, a0g_39])), (a0_34, .inl (ka0_34, 9, .inl (j30a0_34_a))), (a0_15, .inl (ka0_15, 156, .inl (fa0_15)))] H → va_D A [(a0, .inr (8, [a0g_0, a0g_1, a0g_2, a0g_3, a0g_4, a0g_5, a0g_6, a0g_7, a0g_8, a0g_9, a0g_10, a0g_11, a0g_12, a0g_13, a0g_14, Value.ref a0_15, a0g_16, a0g_17, a0g_18, a0g_19, a0g_20, a0g_21, a0g_22, a0g_23, a0g_24, a0g_25, a0g_26, a0g_27, a0g_28, a0g_29, a0g_30, a0g_31, a0g_32, a0g_33, Value.ref a0_34, a0g_35, a0g_36, a0g_37, a0g_38, a0g_39])), (a0_34, .inl (ka0_34, 9, .inl (j30a0_34_a))), (a0_15, .inl (ka0_15, 156, .inl (fa0_15)))] → va_S A s.heap H locs → lv_has ls 9 [(0, .ref a0), (1, .int a1), (2, .int a2), (4, .int a4), (5, .int j30l5), (6, .int j30l6)] → K H locs (F0 m 30 ls []) := by
          intro n
          induction n with
          | zero =>
            intro j30l6 j30l5 j30a0_34_a H locs ls hm bj30l6_l bj30l6_u bj30l5_l bj30l5_u tm30 tc30 hP hD hS hl
            have h8 := ai_min j30l6
            have h9 := ai_max j30l6
            exact absurd hm (by omega)
          | succ n ih30 =>
            intro j30l6 j30l5 j30a0_34_a H locs ls hm bj30l6_l bj30l6_u bj30l5_l bj30l5_u tm30 tc30 hP hD hS hl
            refine (hK0 _ _ _).mpr ?_
            have hm30 := hm
            refine lv_iload hx hb dX8_turnBy_30 (lv_at hl 5 rfl) ?_
            refine lv_iload hx hb dX8_turnBy_32 (lv_at hl 3 rfl) ?_
            have J77 : ∀ (H : Heap) (locs : List Loc) (ls : Array Slot), va_P (dC, dI) vwCl [(a0, .inr (8, [a0g_0, a0g_1, a0g_2, a0g_3, a0g_4, a0g_5, a0g_6, a0g_7, a0g_8, a0g_9, a0g_10, a0g_11, a0g_12, a0g_13, a0g_14, Value.ref a0_15, a0g_16, a0g_17, a0g_18, a0g_19, a0g_20, a0g_21, a0g_22, a0g_23, a0g_24, a0g_25, a0g_26, a0g_27, a0g_28, a0g_29, a0g_30, a0g_31, a0g_32, a0g_33, Value.ref a0_34, a0g_35, a0g_36, a0g_37, a0g_38, a0g_39])), (a0_34, .inl (ka0_34, 9, .inl (j30a0_34_a))), (a0_15, .inl (ka0_15, 156, .inl (fa0_15)))] H → va_D A [(a0, .inr (8, [a0g_0, a0g_1, a0g_2, a0g_3, a0g_4, a0g_5, a0g_6, a0g_7, a0g_8, a0g_9, a0g_10, a0g_11, a0g_12, a0g_13, a0g_14, Value.ref a0_15, a0g_16, a0g_17, a0g_18, a0g_19, a0g_20, a0g_21, a0g_22, a0g_23, a0g_24, a0g_25, a0g_26, a0g_27, a0g_28, a0g_29, a0g_30, a0g_31, a0g_32, a0g_33, Value.ref a0_34, a0g_35, a0g_36, a0g_37, a0g_38, a0g_39])), (a0_34, .inl (ka0_34, 9, .inl (j30a0_34_a))), (a0_15, .inl (ka0_15, 156, .inl (fa0_15)))] → va_S A s.heap H locs → lv_has ls 9 [(0, .ref a0), (1, .int a1), (2, .int a2), (4, .int a4), (5, .int j30l5), (6, .int j30l6)] → K H locs (F0 m 77 ls []) := by
              intro  H locs ls   hP hD hS hl
              refine (hK0 _ _ _).mpr ?_
              refine lv_iload hx hb dX8_turnBy_77 (lv_at hl 5 rfl) ?_
              refine lv_iload hx hb dX8_turnBy_79 (lv_at hl 3 rfl) ?_
              have J104 : ∀ (j104s0 : Int32) (H : Heap) (locs : List Loc) (ls : Array Slot), va_P (dC, dI) vwCl [(a0, .inr (8, [a0g_0, a0g_1, a0g_2, a0g_3, a0g_4, a0g_5, a0g_6, a0g_7, a0g_8, a0g_9, a0g_10, a0g_11, a0g_12, a0g_13, a0g_14, Value.ref a0_15, a0g_16, a0g_17, a0g_18, a0g_19, a0g_20, a0g_21, a0g_22, a0g_23, a0g_24, a0g_25, a0g_26, a0g_27, a0g_28, a0g_29, a0g_30, a0g_31, a0g_32, a0g_33, Value.ref a0_34, a0g_35, a0g_36, a0g_37, a0g_38, a0g_39])), (a0_34, .inl (ka0_34, 9, .inl (j30a0_34_a))), (a0_15, .inl (ka0_15, 156, .inl (fa0_15)))] H → va_D A [(a0, .inr (8, [a0g_0, a0g_1, a0g_2, a0g_3, a0g_4, a0g_5, a0g_6, a0g_7, a0g_8, a0g_9, a0g_10, a0g_11, a0g_12, a0g_13, a0g_14, Value.ref a0_15, a0g_16, a0g_17, a0g_18, a0g_19, a0g_20, a0g_21, a0g_22, a0g_23, a0g_24, a0g_25, a0g_26, a0g_27, a0g_28, a0g_29, a0g_30, a0g_31, a0g_32, a0g_33, Value.ref a0_34, a0g_35, a0g_36, a0g_37, a0g_38, a0g_39])), (a0_34, .inl (ka0_34, 9, .inl (j30a0_34_a))), (a0_15, .inl (ka0_15, 156, .inl (fa0_15)))] → va_S A s.heap H locs → lv_has ls 9 [(0, .ref a0), (1, .int a1), (2, .int a2), (5, .int j30l5)] → K H locs (F0 m 104 ls [.int j104s0]) := by
                intro j104s0 H locs ls   hP hD hS hl
                refine (hK0 _ _ _).mpr ?_
                refine lv_istore (lv' := [(7, .int j104s0), (0, .ref a0), (1, .int a1), (2, .int a2), (5, .int j30l5)]) hx hb dX8_turnBy_104 hl (by decide) rfl (fun ls hl => ?_)
                refine lv_iconst (v := 0) hx hb dX8_turnBy_106 zk_iconst_0 ?_
                refine lv_istore (lv' := [(8, .int 0), (7, .int j104s0), (0, .ref a0), (1, .int a1), (2, .int a2), (5, .int j30l5)]) hx hb dX8_turnBy_107 hl (by decide) rfl (fun ls hl => ?_)
                have J109 : ∀ (n : Nat) (j109l8 : Int32) (j109l5 : Int32) (H : Heap) (locs : List Loc) (ls : Array Slot), (2147483648 : Int) - j109l8.toInt ≤ (n : Int) → (0 : Int) ≤ j109l8.toInt → (0 : Int) ≤ j109l5.toInt → j109l5.toInt ≤ (8 : Int) → ((a1.toInt = 0 → a2.toInt = a3.toInt → a3.toInt < (fa0_15 0).toInt → j109l5.toInt = a3.toInt)) → va_P (dC, dI) vwCl [(a0, .inr (8, [a0g_0, a0g_1, a0g_2, a0g_3, a0g_4, a0g_5, a0g_6, a0g_7, a0g_8, a0g_9, a0g_10, a0g_11, a0g_12, a0g_13, a0g_14, Value.ref a0_15, a0g_16, a0g_17, a0g_18, a0g_19, a0g_20, a0g_21, a0g_22, a0g_23, a0g_24, a0g_25, a0g_26, a0g_27, a0g_28, a0g_29, a0g_30, a0g_31, a0g_32, a0g_33, Value.ref a0_34, a0g_35, a0g_36, a0g_37, a0g_38, a0g_39])), (a0_34, .inl (ka0_34, 9, .inl (j30a0_34_a))), (a0_15, .inl (ka0_15, 156, .inl (fa0_15)))] H → va_D A [(a0, .inr (8, [a0g_0, a0g_1, a0g_2, a0g_3, a0g_4, a0g_5, a0g_6, a0g_7, a0g_8, a0g_9, a0g_10, a0g_11, a0g_12, a0g_13, a0g_14, Value.ref a0_15, a0g_16, a0g_17, a0g_18, a0g_19, a0g_20, a0g_21, a0g_22, a0g_23, a0g_24, a0g_25, a0g_26, a0g_27, a0g_28, a0g_29, a0g_30, a0g_31, a0g_32, a0g_33, Value.ref a0_34, a0g_35, a0g_36, a0g_37, a0g_38, a0g_39])), (a0_34, .inl (ka0_34, 9, .inl (j30a0_34_a))), (a0_15, .inl (ka0_15, 156, .inl (fa0_15)))] → va_S A s.heap H locs → lv_has ls 9 [(0, .ref a0), (1, .int a1), (2, .int a2), (5, .int j109l5), (7, .int j104s0), (8, .int j109l8)] → K H locs (F0 m 109 ls []) := by
                  intro n
                  induction n with
                  | zero =>
                    intro j109l8 j109l5 H locs ls hm bj109l8_l bj109l5_l bj109l5_u td109 hP hD hS hl
                    have h8 := ai_min j109l8
                    have h9 := ai_max j109l8
                    exact absurd hm (by omega)
                  | succ n ih109 =>
                    intro j109l8 j109l5 H locs ls hm bj109l8_l bj109l5_l bj109l5_u td109 hP hD hS hl
                    refine (hK0 _ _ _).mpr ?_
                    have hm109 := hm
                    refine lv_iload hx hb dX8_turnBy_109 (lv_at hl 5 rfl) ?_
                    refine lv_iload hx hb dX8_turnBy_111 (lv_at hl 4 rfl) ?_
                    refine lv_icmp_ge (tgt := 137) hx hb dX8_turnBy_113 (by decide) (fun c113 => ?_) (fun c113 => ?_)
                    · have gc113 := ai_le c113
                      refine lv_iload hx hb dX8_turnBy_137 (lv_at hl 3 rfl) ?_
                      exact W.iret (v := j109l5) hx hb hr (fun t ht hW => ⟨⟨j109l5, (), rfl, ⟨⟨bj109l5_l, bj109l5_u⟩, td109⟩, j30a0_34_a, by rw [ht]; exact hP, va_K.moved hW.alike hK, hD⟩, hS.F ht⟩) hS.2.2 dX8_turnBy_139
                    · have gc113 := ai_nle c113
                      have u113f_j109l8 : j109l8.toInt ≤ (2147483646 : Int) := ai_lthi gc113 (ai_max j104s0)
                      have l113f_j104s0 : (1 : Int) ≤ j104s0.toInt := ai_ltlo gc113 bj109l8_l
                      refine lv_iload_n hx hb dX8_turnBy_116 rfl (lv_at hl 1 rfl) ?_
                      refine lv_iload hx hb dX8_turnBy_117 (lv_at hl 3 rfl) ?_
                      refine lv_imul hx hb dX8_turnBy_119 ?_
                      refine lv_topi (fun x119 ex119 => ?_)
                      have qx119 : x119.toInt = a1.toInt * j109l5.toInt ∧ (0 : Int) ≤ x119.toInt ∧ x119.toInt ≤ 7992 := ai_mul ex119 ⟨ba1_l, ba1_u⟩ ⟨bj109l5_l, bj109l5_u⟩ (by decide) (by decide) zq176
                      refine lv_iload_n hx hb dX8_turnBy_120 rfl (lv_at hl 2 rfl) ?_
                      refine lv_iadd hx hb dX8_turnBy_121 ?_
                      refine lv_topi (fun x121 ex121 => ?_)
                      have qx121 : x121.toInt = x119.toInt + a2.toInt := ai_add ex121 ⟨qx119.2.1, qx119.2.2⟩ ⟨ba2_l, ba2_u⟩ (by decide) (by decide)
                      have bx121 : (0 : Int) ≤ x121.toInt ∧ x121.toInt ≤ 8000 := ⟨by rw [qx121]; exact Int.add_le_add qx119.2.1 ba2_l, by rw [qx121]; exact Int.add_le_add qx119.2.2 ba2_u⟩
                      refine lv_aload_n hx hb dX8_turnBy_122 rfl (lv_at hl 0 rfl) ?_
                      refine va_get (D := (dC, dI)) (ci := 8) (v := .ref a0_15) (C := RX8) (T := TX8) (N := 40) hx hb hts zi_X8_turnBy_8 hown hK hP 0 rfl rfl 15 (by decide) (hts (.fieldLink RX8 20 "WaxTurnsModel" "\x72" "[I") (List.mem_cons_of_mem _ (List.mem_append_left _ (List.mem_of_getElem? (i := 1) rfl)))) (fun _ h9 => h9) rfl dX8_turnBy_123 ?_
                      refine lv_iconst (v := 0) hx hb dX8_turnBy_126 zk_iconst_0 ?_
                      refine va_iald hx hb hK hP 2 1 rfl rfl (by unfold vp_in; decide +kernel) dX8_turnBy_127 ?_
                      refine lv_topi (fun x127 ex127 => ?_)
                      have bx127 : (2 : Int) ≤ x127.toInt ∧ x127.toInt ≤ 9 := by rw [ex127]; exact ai_rd bfa0_15.1 zq5 zq6 (by decide) (by decide) (by decide)
                      refine lv_irem hx hb dX8_turnBy_128 (ai_nz bx127.1 (by decide)) ?_
                      refine lv_topi (fun x128 ex128 => ?_)
                      have qx128 := ai_rem2 ex128 bx121.1 (Int.lt_of_lt_of_le zq100 bx127.1) bx127.2
                      refine lv_istore (lv' := [(5, .int x128), (0, .ref a0), (1, .int a1), (2, .int a2), (7, .int j104s0), (8, .int j109l8)]) hx hb dX8_turnBy_129 hl (by decide) rfl (fun ls hl => ?_)
                      obtain ⟨x131, ex131⟩ : ∃ y : Int32, y = j109l8 + Int32.ofInt 1 := ⟨_, rfl⟩
                      have qx131 : x131.toInt = j109l8.toInt + 1 := ai_inc ex131 (by decide) (by decide) u113f_j109l8 (by decide)
                      have bx131 : (1 : Int) ≤ x131.toInt ∧ x131.toInt ≤ 2147483647 := ⟨by rw [qx131]; exact Int.add_le_add bj109l8_l (Int.le_refl _), by rw [qx131]; exact Int.add_le_add u113f_j109l8 (Int.le_refl _)⟩
                      refine lv_iinc (v := x131) (lv' := [(8, .int x131), (5, .int x128), (0, .ref a0), (1, .int a1), (2, .int a2), (7, .int j104s0)]) hx hb dX8_turnBy_131 hl (k := 5) rfl ex131.symm (by decide) rfl (fun ls hl => ?_)
                      refine lv_goto (tgt := 109) hx hb dX8_turnBy_134 (by decide) ?_
                      exact (hK0 _ _ _).mp (ih109 x131 x128 _ _ _ (by have h0 := qx131; omega) (Int.le_trans zq4 bx131.1) qx128.2.1 qx128.2.2 (fun h1 h2 h3 => (tb_c h1 qx119.1 qx121 qx128.1 (by omega) (by have h4 : x127.toInt = (fa0_15 0).toInt := (by rw [ex127]; rfl); omega)).trans h2) hP hD hS (lv_sub hl [2, 3, 4, 1, 5, 0] rfl))
                exact (hK0 _ _ _).mp (J109 2147483648 0 j30l5 _ _ _ (by have h1 : (0 : Int) ≤ (0 : Int32).toInt := zq5; have h2 : (0 : Int32).toInt ≤ (0 : Int) := zq6; omega) zq5 bj30l5_l bj30l5_u tc30 hP hD hS (lv_sub hl [2, 3, 4, 5, 1, 0] rfl))
              refine lv_icmp_ge (tgt := 103) hx hb dX8_turnBy_81 (by decide) (fun c81 => ?_) (fun c81 => ?_)
              · have gc81 := ai_le c81
                have u81t_a4 : a4.toInt ≤ (999 : Int) := ba4_u
                have l81t_j30l6 : (0 : Int) ≤ j30l6.toInt := bj30l6_l
                refine lv_iconst (v := 0) hx hb dX8_turnBy_103 zk_iconst_0 ?_
                exact (hK0 _ _ _).mp (J104 0 _ _ _   hP hD hS (lv_sub hl [0, 1, 2, 4] rfl))
              · have gc81 := ai_nle c81
                have u81f_j30l6 : j30l6.toInt ≤ (998 : Int) := ai_lthi gc81 ba4_u
                have l81f_a4 : (1 : Int) ≤ a4.toInt := ai_ltlo gc81 bj30l6_l
                refine lv_iload hx hb dX8_turnBy_84 (lv_at hl 3 rfl) ?_
                refine lv_iload hx hb dX8_turnBy_86 (lv_at hl 5 rfl) ?_
                refine lv_isub hx hb dX8_turnBy_88 ?_
                refine lv_topi (fun x88 ex88 => ?_)
                have qx88 : x88.toInt = a4.toInt - j30l6.toInt := ai_sub ex88 ⟨l81f_a4, ba4_u⟩ ⟨bj30l6_l, u81f_j30l6⟩ (by decide) (by decide)
                have bx88 : (-997 : Int) ≤ x88.toInt ∧ x88.toInt ≤ 999 := ⟨by rw [qx88]; exact Int.sub_le_sub l81f_a4 u81f_j30l6, by rw [qx88]; exact Int.sub_le_sub ba4_u bj30l6_l⟩
                refine lv_iload hx hb dX8_turnBy_89 (lv_at hl 5 rfl) ?_
                refine lv_aload_n hx hb dX8_turnBy_91 rfl (lv_at hl 0 rfl) ?_
                refine va_get (D := (dC, dI)) (ci := 8) (v := .ref a0_34) (C := RX8) (T := TX8) (N := 40) hx hb hts zi_X8_turnBy_8 hown hK hP 0 rfl rfl 34 (by decide) (hts (.fieldLink RX8 53 "WaxTurnsModel" "metAt" "[I") (List.mem_cons_of_mem _ (List.mem_append_left _ (List.mem_of_getElem? (i := 0) rfl)))) (fun _ h9 => h9) rfl dX8_turnBy_92 ?_
                refine lv_iload hx hb dX8_turnBy_95 (lv_at hl 4 rfl) ?_
                refine va_iald hx hb hK hP 1 0 rfl rfl (ai_in bj30l5_l bj30l5_u (by decide) (by decide)) dX8_turnBy_97 ?_
                refine lv_topi (fun x97 ex97 => ?_)
                have hr97 := tb_r tm30 ex97 bj30l5_l bj30l5_u
                have l97z_x97 : (-1 : Int) ≤ x97.toInt := hr97.1
                have u97z_x97 : x97.toInt ≤ (999 : Int) := by omega
                refine lv_isub hx hb dX8_turnBy_98 ?_
                refine lv_topi (fun x98 ex98 => ?_)
                have qx98 : x98.toInt = j30l6.toInt - x97.toInt := ai_sub ex98 ⟨bj30l6_l, u81f_j30l6⟩ ⟨l97z_x97, u97z_x97⟩ (by decide) (by decide)
                have bx98 : (-999 : Int) ≤ x98.toInt ∧ x98.toInt ≤ 999 := ⟨by rw [qx98]; exact Int.sub_le_sub bj30l6_l u97z_x97, by rw [qx98]; exact Int.sub_le_sub u81f_j30l6 l97z_x97⟩
                have l98z_x98 : (1 : Int) ≤ x98.toInt := by omega
                refine lv_irem hx hb dX8_turnBy_99 (ai_nz l98z_x98 (by decide)) ?_
                refine lv_topi (fun x99 ex99 => ?_)
                refine lv_goto (tgt := 104) hx hb dX8_turnBy_100 (by decide) ?_
                exact (hK0 _ _ _).mp (J104 x99 _ _ _   hP hD hS (lv_sub hl [0, 1, 2, 4] rfl))
            refine lv_icmp_ge (tgt := 77) hx hb dX8_turnBy_34 (by decide) (fun c34 => ?_) (fun c34 => ?_)
            · have gc34 := ai_le c34
              have u34t_a4 : a4.toInt ≤ (999 : Int) := ba4_u
              have l34t_j30l6 : (0 : Int) ≤ j30l6.toInt := bj30l6_l
              exact (hK0 _ _ _).mp (J77  _ _ _   hP hD hS (lv_sub hl [0, 1, 2, 3, 4, 5] rfl))
            · have gc34 := ai_nle c34
              have u34f_j30l6 : j30l6.toInt ≤ (998 : Int) := ai_lthi gc34 ba4_u
              have l34f_a4 : (1 : Int) ≤ a4.toInt := ai_ltlo gc34 bj30l6_l
              refine lv_aload_n hx hb dX8_turnBy_37 rfl (lv_at hl 0 rfl) ?_
              refine va_get (D := (dC, dI)) (ci := 8) (v := .ref a0_34) (C := RX8) (T := TX8) (N := 40) hx hb hts zi_X8_turnBy_8 hown hK hP 0 rfl rfl 34 (by decide) (hts (.fieldLink RX8 53 "WaxTurnsModel" "metAt" "[I") (List.mem_cons_of_mem _ (List.mem_append_left _ (List.mem_of_getElem? (i := 0) rfl)))) (fun _ h9 => h9) rfl dX8_turnBy_38 ?_
              refine lv_iload hx hb dX8_turnBy_41 (lv_at hl 4 rfl) ?_
              refine va_iald hx hb hK hP 1 0 rfl rfl (ai_in bj30l5_l bj30l5_u (by decide) (by decide)) dX8_turnBy_43 ?_
              refine lv_topi (fun x43 ex43 => ?_)
              refine lv_if_ge (tgt := 77) hx hb dX8_turnBy_44 (by decide) (fun c44 => ?_) (fun c44 => ?_)
              · have gc44 := ai_le c44
                have l44t_x43 : (0 : Int) ≤ x43.toInt := Int.le_trans zq5 gc44
                exact (hK0 _ _ _).mp (J77  _ _ _   hP hD hS (lv_sub hl [0, 1, 2, 3, 4, 5] rfl))
              · have gc44 := ai_nle c44
                have u44f_x43 : x43.toInt ≤ (-1 : Int) := ai_lthi gc44 zq6
                refine lv_aload_n hx hb dX8_turnBy_47 rfl (lv_at hl 0 rfl) ?_
                refine va_get (D := (dC, dI)) (ci := 8) (v := .ref a0_34) (C := RX8) (T := TX8) (N := 40) hx hb hts zi_X8_turnBy_8 hown hK hP 0 rfl rfl 34 (by decide) (hts (.fieldLink RX8 53 "WaxTurnsModel" "metAt" "[I") (List.mem_cons_of_mem _ (List.mem_append_left _ (List.mem_of_getElem? (i := 0) rfl)))) (fun _ h9 => h9) rfl dX8_turnBy_48 ?_
                refine lv_iload hx hb dX8_turnBy_51 (lv_at hl 4 rfl) ?_
                refine lv_iload hx hb dX8_turnBy_53 (lv_at hl 5 rfl) ?_
                refine va_iast hx hb hK hP hD hS 1 0 rfl rfl (ai_in bj30l5_l bj30l5_u (by decide) (by decide)) dX8_turnBy_55 (fun H locs hP hD hS => ?_)
                obtain ⟨f55, ef55⟩ : ∃ g9 : Nat → Int32, g9 = upd j30a0_34_a (j30l5 : Int32).toNatClampNeg j30l6 := ⟨_, rfl⟩
                refine zs_1 (y := (a0_34, .inl (ka0_34, 9, .inl (f55)))) hP hD (by rw [ef55]) (fun hP hD => ?_)
                refine lv_iload_n hx hb dX8_turnBy_56 rfl (lv_at hl 1 rfl) ?_
                refine lv_iload hx hb dX8_turnBy_57 (lv_at hl 4 rfl) ?_
                refine lv_imul hx hb dX8_turnBy_59 ?_
                refine lv_topi (fun x59 ex59 => ?_)
                have qx59 : x59.toInt = a1.toInt * j30l5.toInt ∧ (0 : Int) ≤ x59.toInt ∧ x59.toInt ≤ 7992 := ai_mul ex59 ⟨ba1_l, ba1_u⟩ ⟨bj30l5_l, bj30l5_u⟩ (by decide) (by decide) zq176
                refine lv_iload_n hx hb dX8_turnBy_60 rfl (lv_at hl 2 rfl) ?_
                refine lv_iadd hx hb dX8_turnBy_61 ?_
                refine lv_topi (fun x61 ex61 => ?_)
                have qx61 : x61.toInt = x59.toInt + a2.toInt := ai_add ex61 ⟨qx59.2.1, qx59.2.2⟩ ⟨ba2_l, ba2_u⟩ (by decide) (by decide)
                have bx61 : (0 : Int) ≤ x61.toInt ∧ x61.toInt ≤ 8000 := ⟨by rw [qx61]; exact Int.add_le_add qx59.2.1 ba2_l, by rw [qx61]; exact Int.add_le_add qx59.2.2 ba2_u⟩
                refine lv_aload_n hx hb dX8_turnBy_62 rfl (lv_at hl 0 rfl) ?_
                refine va_get (D := (dC, dI)) (ci := 8) (v := .ref a0_15) (C := RX8) (T := TX8) (N := 40) hx hb hts zi_X8_turnBy_8 hown hK hP 0 rfl rfl 15 (by decide) (hts (.fieldLink RX8 20 "WaxTurnsModel" "\x72" "[I") (List.mem_cons_of_mem _ (List.mem_append_left _ (List.mem_of_getElem? (i := 1) rfl)))) (fun _ h9 => h9) rfl dX8_turnBy_63 ?_
                refine lv_iconst (v := 0) hx hb dX8_turnBy_66 zk_iconst_0 ?_
                refine va_iald hx hb hK hP 2 1 rfl rfl (by unfold vp_in; decide +kernel) dX8_turnBy_67 ?_
                refine lv_topi (fun x67 ex67 => ?_)
                have bx67 : (2 : Int) ≤ x67.toInt ∧ x67.toInt ≤ 9 := by rw [ex67]; exact ai_rd bfa0_15.1 zq5 zq6 (by decide) (by decide) (by decide)
                refine lv_irem hx hb dX8_turnBy_68 (ai_nz bx67.1 (by decide)) ?_
                refine lv_topi (fun x68 ex68 => ?_)
                have qx68 := ai_rem2 ex68 bx61.1 (Int.lt_of_lt_of_le zq100 bx67.1) bx67.2
                refine lv_istore (lv' := [(5, .int x68), (0, .ref a0), (1, .int a1), (2, .int a2), (4, .int a4), (6, .int j30l6)]) hx hb dX8_turnBy_69 hl (by decide) rfl (fun ls hl => ?_)
                obtain ⟨x71, ex71⟩ : ∃ y : Int32, y = j30l6 + Int32.ofInt 1 := ⟨_, rfl⟩
                have qx71 : x71.toInt = j30l6.toInt + 1 := ai_inc ex71 (by decide) (by decide) u34f_j30l6 (by decide)
                have bx71 : (1 : Int) ≤ x71.toInt ∧ x71.toInt ≤ 999 := ⟨by rw [qx71]; exact Int.add_le_add bj30l6_l (Int.le_refl _), by rw [qx71]; exact Int.add_le_add u34f_j30l6 (Int.le_refl _)⟩
                refine lv_iinc (v := x71) (lv' := [(6, .int x71), (5, .int x68), (0, .ref a0), (1, .int a1), (2, .int a2), (4, .int a4)]) hx hb dX8_turnBy_71 hl (k := 5) rfl ex71.symm (by decide) rfl (fun ls hl => ?_)
                refine lv_goto (tgt := 30) hx hb dX8_turnBy_74 (by decide) ?_
                exact (hK0 _ _ _).mp (ih30 x71 x68 f55 _ _ _ (by have h0 := qx71; omega) (Int.le_trans zq4 bx71.1) bx71.2 qx68.2.1 qx68.2.2 (tb_s tm30 ef55 qx71 bj30l6_l) (fun h1 h2 h3 => (tb_c h1 qx59.1 qx61 qx68.1 (by omega) (by have h4 : x67.toInt = (fa0_15 0).toInt := (by rw [ex67]; rfl); omega)).trans h2) hP hD hS (lv_sub hl [2, 3, 4, 5, 1, 0] rfl))
        exact (hK0 _ _ _).mp (J30 1000 0 a3 j3a0_34_a _ _ _ (by have h1 : (0 : Int) ≤ (0 : Int32).toInt := zq5; have h2 : (0 : Int32).toInt ≤ (0 : Int) := zq6; omega) zq5 (Int.le_trans zq6 zq81) ba3_l ba3_u (tb_0 mf3 (by omega) (by decide)) (fun _ _ _ => rfl) hP hD hS (lv_sub hl [2, 3, 4, 6, 1, 0] rfl))
      · have gc7 := ai_nle c7
        have u7f_j3l5 : j3l5.toInt ≤ (8 : Int) := ai_lthi gc7 zq3
        refine lv_aload_n hx hb dX8_turnBy_10 rfl (lv_at hl 0 rfl) ?_
        refine va_get (D := (dC, dI)) (ci := 8) (v := .ref a0_34) (C := RX8) (T := TX8) (N := 40) hx hb hts zi_X8_turnBy_8 hown hK hP 0 rfl rfl 34 (by decide) (hts (.fieldLink RX8 53 "WaxTurnsModel" "metAt" "[I") (List.mem_cons_of_mem _ (List.mem_append_left _ (List.mem_of_getElem? (i := 0) rfl)))) (fun _ h9 => h9) rfl dX8_turnBy_11 ?_
        refine lv_iload hx hb dX8_turnBy_14 (lv_at hl 5 rfl) ?_
        refine lv_iconst (v := (-1)) hx hb dX8_turnBy_16 zk_iconst_n1 ?_
        refine va_iast hx hb hK hP hD hS 1 0 rfl rfl (ai_in bj3l5_l u7f_j3l5 (by decide) (by decide)) dX8_turnBy_17 (fun H locs hP hD hS => ?_)
        obtain ⟨f17, ef17⟩ : ∃ g9 : Nat → Int32, g9 = upd j3a0_34_a (j3l5 : Int32).toNatClampNeg ((-1) : Int32) := ⟨_, rfl⟩
        refine zs_1 (y := (a0_34, .inl (ka0_34, 9, .inl (f17)))) hP hD (by rw [ef17]) (fun hP hD => ?_)
        obtain ⟨x18, ex18⟩ : ∃ y : Int32, y = j3l5 + Int32.ofInt 1 := ⟨_, rfl⟩
        have qx18 : x18.toInt = j3l5.toInt + 1 := ai_inc ex18 (by decide) (by decide) u7f_j3l5 (by decide)
        have bx18 : (1 : Int) ≤ x18.toInt ∧ x18.toInt ≤ 9 := ⟨by rw [qx18]; exact Int.add_le_add bj3l5_l (Int.le_refl _), by rw [qx18]; exact Int.add_le_add u7f_j3l5 (Int.le_refl _)⟩
        refine lv_iinc (v := x18) (lv' := [(5, .int x18), (0, .ref a0), (1, .int a1), (2, .int a2), (3, .int a3), (4, .int a4)]) hx hb dX8_turnBy_18 hl (k := 5) rfl ex18.symm (by decide) rfl (fun ls hl => ?_)
        refine lv_goto (tgt := 3) hx hb dX8_turnBy_21 (by decide) ?_
        exact (hK0 _ _ _).mp (ih3 x18 f17 _ _ _ (by have h0 := qx18; omega) (Int.le_trans zq4 bx18.1) bx18.2 (tb_f mf3 ef17 (by decide) qx18 bj3l5_l) hP hD hS (lv_sub hl [1, 2, 3, 4, 5, 0] rfl))
  exact (hK0 _ _ _).mp (J3 10 0 fa0_34 _ _ _ (by have h1 : (0 : Int) ≤ (0 : Int32).toInt := zq5; have h2 : (0 : Int32).toInt ≤ (0 : Int) := zq6; omega) zq5 (Int.le_trans zq6 zq7) (tb_z (by decide)) hP hD hS (lv_sub hl [1, 2, 3, 4, 5, 0] rfl))

set_option maxHeartbeats 4000000 in
set_option maxRecDepth 100000 in
theorem c_X8_codes (l : Launch) (dC : Nat → ClassId) (dI : Nat → Nat → Nat) (sz : Nat) (a0 : Nat) (a0g_0 a0g_1 a0g_2 a0g_3 a0g_4 a0g_5 a0g_6 a0g_7 a0g_8 a0g_9 a0g_10 a0g_11 a0g_12 a0g_13 a0g_14 a0g_16 a0g_17 a0g_18 a0g_19 a0g_20 a0g_21 a0g_22 a0g_23 a0g_24 a0g_25 a0g_26 a0g_27 a0g_28 a0g_29 a0g_30 a0g_31 a0g_32 a0g_33 a0g_34 a0g_35 a0g_36 a0g_37 a0g_38 a0g_39 : Value) (a0_15 : Nat) (ka0_15 : ClassId) (fa0_15 : Nat → Int32) (bfa0_15 : ((∀ k : Nat, 0 ≤ k → k ≤ 0 → (2 : Int) ≤ (fa0_15 k).toInt ∧ (fa0_15 k).toInt ≤ 9) ∧ (∀ k : Nat, 1 ≤ k → k ≤ 1 → (1 : Int) ≤ (fa0_15 k).toInt ∧ (fa0_15 k).toInt ≤ 20) ∧ (∀ k : Nat, 2 ≤ k → k ≤ 2 → (0 : Int) ≤ (fa0_15 k).toInt ∧ (fa0_15 k).toInt ≤ 8) ∧ (∀ k : Nat, 3 ≤ k → k ≤ 3 → (0 : Int) ≤ (fa0_15 k).toInt ∧ (fa0_15 k).toInt ≤ 100) ∧ (∀ k : Nat, 4 ≤ k → k ≤ 4 → (0 : Int) ≤ (fa0_15 k).toInt ∧ (fa0_15 k).toInt ≤ 9) ∧ (∀ k : Nat, 5 ≤ k → k ≤ 5 → (0 : Int) ≤ (fa0_15 k).toInt ∧ (fa0_15 k).toInt ≤ 3) ∧ (∀ k : Nat, 6 ≤ k → k ≤ 6 → (0 : Int) ≤ (fa0_15 k).toInt ∧ (fa0_15 k).toInt ≤ 6) ∧ (∀ k : Nat, 7 ≤ k → k ≤ 9 → (0 : Int) ≤ (fa0_15 k).toInt ∧ (fa0_15 k).toInt ≤ 8) ∧ (∀ k : Nat, 12 ≤ k → k ≤ 29 → (0 : Int) ≤ (fa0_15 k).toInt ∧ (fa0_15 k).toInt ≤ 20) ∧ (∀ k : Nat, 30 ≤ k → k ≤ 35 → (0 : Int) ≤ (fa0_15 k).toInt ∧ (fa0_15 k).toInt ≤ 8) ∧ (∀ k : Nat, 36 ≤ k → k ≤ 47 → (0 : Int) ≤ (fa0_15 k).toInt ∧ (fa0_15 k).toInt ≤ 999))) : zm l yX8_codes wsX8_codes ({ frames := 0, cells := 0, slots := 0, locals := 0 }) [.ref a0] dC dI sz [(a0, .inr (8, [a0g_0, a0g_1, a0g_2, a0g_3, a0g_4, a0g_5, a0g_6, a0g_7, a0g_8, a0g_9, a0g_10, a0g_11, a0g_12, a0g_13, a0g_14, Value.ref a0_15, a0g_16, a0g_17, a0g_18, a0g_19, a0g_20, a0g_21, a0g_22, a0g_23, a0g_24, a0g_25, a0g_26, a0g_27, a0g_28, a0g_29, a0g_30, a0g_31, a0g_32, a0g_33, a0g_34, a0g_35, a0g_36, a0g_37, a0g_38, a0g_39])), (a0_15, .inl (ka0_15, 156, .inl (fa0_15)))] [(ka0_15, .int)] (fun A _ => True) (fun A => va_Qi (fun (r : Int32) (_ : Unit) => (8 : Int) ≤ r.toInt ∧ r.toInt ≤ (729 : Int)) (fun (_ : Unit) (t : State) => ax_B dC dI A [(a0, .inr (8, [a0g_0, a0g_1, a0g_2, a0g_3, a0g_4, a0g_5, a0g_6, a0g_7, a0g_8, a0g_9, a0g_10, a0g_11, a0g_12, a0g_13, a0g_14, Value.ref a0_15, a0g_16, a0g_17, a0g_18, a0g_19, a0g_20, a0g_21, a0g_22, a0g_23, a0g_24, a0g_25, a0g_26, a0g_27, a0g_28, a0g_29, a0g_30, a0g_31, a0g_32, a0g_33, a0g_34, a0g_35, a0g_36, a0g_37, a0g_38, a0g_39])), (a0_15, .inl (ka0_15, 156, .inl (fa0_15)))] [(ka0_15, .int)] t) A) := by
  refine zh (cc := cX8_codes) (maxL := 1) (ret := (some .int)) zn_RX8 rfl (Nat.le_of_ble_eq_true rfl) (fun p e s m below meth c A ls hx hb hml hr hts (hown : s.vm.findClass RX8 = some m.cls) hlocks hA hS hP hK hD hE (hl : lv_has ls 1 [(0, .ref a0)]) => ?_)
  refine lv_aload_n hx hb dX8_codes_0 rfl (lv_at hl 0 rfl) ?_
  refine va_get (D := (dC, dI)) (ci := 8) (v := .ref a0_15) (C := RX8) (T := TX8) (N := 40) hx hb hts zi_X8_codes_8 hown hK hP 0 rfl rfl 15 (by decide) (hts (.fieldLink RX8 20 "WaxTurnsModel" "\x72" "[I") (List.mem_cons_of_mem _ (List.mem_append_left _ (List.mem_of_getElem? (i := 0) rfl)))) (fun _ h9 => h9) rfl dX8_codes_1 ?_
  refine lv_iconst (v := 0) hx hb dX8_codes_4 zk_iconst_0 ?_
  refine va_iald hx hb hK hP 1 0 rfl rfl (by unfold vp_in; decide +kernel) dX8_codes_5 ?_
  refine lv_topi (fun x5 ex5 => ?_)
  have bx5 : (2 : Int) ≤ x5.toInt ∧ x5.toInt ≤ 9 := by rw [ex5]; exact ai_rd bfa0_15.1 zq5 zq6 (by decide) (by decide) (by decide)
  refine lv_aload_n hx hb dX8_codes_6 rfl (lv_at hl 0 rfl) ?_
  refine va_get (D := (dC, dI)) (ci := 8) (v := .ref a0_15) (C := RX8) (T := TX8) (N := 40) hx hb hts zi_X8_codes_8 hown hK hP 0 rfl rfl 15 (by decide) (hts (.fieldLink RX8 20 "WaxTurnsModel" "\x72" "[I") (List.mem_cons_of_mem _ (List.mem_append_left _ (List.mem_of_getElem? (i := 0) rfl)))) (fun _ h9 => h9) rfl dX8_codes_7 ?_
  refine lv_iconst (v := 0) hx hb dX8_codes_10 zk_iconst_0 ?_
  refine va_iald hx hb hK hP 1 0 rfl rfl (by unfold vp_in; decide +kernel) dX8_codes_11 ?_
  refine ax_ti x5 ex5.symm ?_
  refine lv_imul hx hb dX8_codes_12 ?_
  refine lv_topi (fun x12 ex12 => ?_)
  have qx12 : x12.toInt = x5.toInt * x5.toInt ∧ (4 : Int) ≤ x12.toInt ∧ x12.toInt ≤ 81 := ai_mul ex12 ⟨bx5.1, bx5.2⟩ ⟨bx5.1, bx5.2⟩ (by decide) (by decide) zq21
  refine lv_aload_n hx hb dX8_codes_13 rfl (lv_at hl 0 rfl) ?_
  refine va_get (D := (dC, dI)) (ci := 8) (v := .ref a0_15) (C := RX8) (T := TX8) (N := 40) hx hb hts zi_X8_codes_8 hown hK hP 0 rfl rfl 15 (by decide) (hts (.fieldLink RX8 20 "WaxTurnsModel" "\x72" "[I") (List.mem_cons_of_mem _ (List.mem_append_left _ (List.mem_of_getElem? (i := 0) rfl)))) (fun _ h9 => h9) rfl dX8_codes_14 ?_
  refine lv_iconst (v := 0) hx hb dX8_codes_17 zk_iconst_0 ?_
  refine va_iald hx hb hK hP 1 0 rfl rfl (by unfold vp_in; decide +kernel) dX8_codes_18 ?_
  refine ax_ti x5 ex5.symm ?_
  refine lv_imul hx hb dX8_codes_19 ?_
  refine lv_topi (fun x19 ex19 => ?_)
  have qx19 : x19.toInt = x12.toInt * x5.toInt ∧ (8 : Int) ≤ x19.toInt ∧ x19.toInt ≤ 729 := ai_mul ex19 ⟨qx12.2.1, qx12.2.2⟩ ⟨bx5.1, bx5.2⟩ (by decide) (by decide) zq177
  exact W.iret (v := x19) hx hb hr (fun t ht hW => ⟨⟨x19, (), rfl, ⟨qx19.2.1, qx19.2.2⟩, by rw [ht]; exact hP, va_K.moved hW.alike hK, hD⟩, hS.F ht⟩) hS.2.2 dX8_codes_20

set_option maxHeartbeats 4000000 in
set_option maxRecDepth 100000 in
theorem c_X8_byCode (l : Launch) (dC : Nat → ClassId) (dI : Nat → Nat → Nat) (sz : Nat) (a0 : Nat) (a1 : Int32) (a2 : Int32) (a0g_0 a0g_1 a0g_2 a0g_3 a0g_4 a0g_5 a0g_6 a0g_7 a0g_8 a0g_9 a0g_10 a0g_11 a0g_12 a0g_13 a0g_14 a0g_16 a0g_17 a0g_18 a0g_19 a0g_20 a0g_21 a0g_22 a0g_23 a0g_24 a0g_25 a0g_26 a0g_27 a0g_28 a0g_29 a0g_30 a0g_31 a0g_32 a0g_33 a0g_35 a0g_36 a0g_37 a0g_38 a0g_39 : Value) (a0_15 : Nat) (a0_34 : Nat) (ka0_15 : ClassId) (fa0_15 : Nat → Int32) (ka0_34 : ClassId) (fa0_34 : Nat → Int32) (ba1_l : (0 : Int) ≤ a1.toInt) (ba1_u : a1.toInt ≤ (728 : Int)) (ba2_l : (0 : Int) ≤ a2.toInt) (ba2_u : a2.toInt ≤ (999 : Int)) (bfa0_15 : ((∀ k : Nat, 0 ≤ k → k ≤ 0 → (2 : Int) ≤ (fa0_15 k).toInt ∧ (fa0_15 k).toInt ≤ 9) ∧ (∀ k : Nat, 1 ≤ k → k ≤ 1 → (1 : Int) ≤ (fa0_15 k).toInt ∧ (fa0_15 k).toInt ≤ 20) ∧ (∀ k : Nat, 2 ≤ k → k ≤ 2 → (0 : Int) ≤ (fa0_15 k).toInt ∧ (fa0_15 k).toInt ≤ 8) ∧ (∀ k : Nat, 3 ≤ k → k ≤ 3 → (0 : Int) ≤ (fa0_15 k).toInt ∧ (fa0_15 k).toInt ≤ 100) ∧ (∀ k : Nat, 4 ≤ k → k ≤ 4 → (0 : Int) ≤ (fa0_15 k).toInt ∧ (fa0_15 k).toInt ≤ 9) ∧ (∀ k : Nat, 5 ≤ k → k ≤ 5 → (0 : Int) ≤ (fa0_15 k).toInt ∧ (fa0_15 k).toInt ≤ 3) ∧ (∀ k : Nat, 6 ≤ k → k ≤ 6 → (0 : Int) ≤ (fa0_15 k).toInt ∧ (fa0_15 k).toInt ≤ 6) ∧ (∀ k : Nat, 7 ≤ k → k ≤ 9 → (0 : Int) ≤ (fa0_15 k).toInt ∧ (fa0_15 k).toInt ≤ 8) ∧ (∀ k : Nat, 12 ≤ k → k ≤ 29 → (0 : Int) ≤ (fa0_15 k).toInt ∧ (fa0_15 k).toInt ≤ 20) ∧ (∀ k : Nat, 30 ≤ k → k ≤ 35 → (0 : Int) ≤ (fa0_15 k).toInt ∧ (fa0_15 k).toInt ≤ 8) ∧ (∀ k : Nat, 36 ≤ k → k ≤ 47 → (0 : Int) ≤ (fa0_15 k).toInt ∧ (fa0_15 k).toInt ≤ 999))) : zm l yX8_byCode wsX8_byCode ({ frames := 1, cells := 0, slots := 0, locals := 28 }) [.ref a0, .int a1, .int a2] dC dI sz [(a0, .inr (8, [a0g_0, a0g_1, a0g_2, a0g_3, a0g_4, a0g_5, a0g_6, a0g_7, a0g_8, a0g_9, a0g_10, a0g_11, a0g_12, a0g_13, a0g_14, Value.ref a0_15, a0g_16, a0g_17, a0g_18, a0g_19, a0g_20, a0g_21, a0g_22, a0g_23, a0g_24, a0g_25, a0g_26, a0g_27, a0g_28, a0g_29, a0g_30, a0g_31, a0g_32, a0g_33, Value.ref a0_34, a0g_35, a0g_36, a0g_37, a0g_38, a0g_39])), (a0_15, .inl (ka0_15, 156, .inl (fa0_15))), (a0_34, .inl (ka0_34, 9, .inl (fa0_34)))] [(ka0_15, .int), (ka0_34, .int)] (fun A _ => True) (fun A => va_Qi (fun (r : Int32) (_ : Unit) => ((0 : Int) ≤ r.toInt ∧ r.toInt ≤ 8) ∧ (∀ p9 : Int, 0 ≤ p9 → p9 < (fa0_15 0).toInt → a1.toInt = p9 * (fa0_15 0).toInt + p9 → r.toInt = p9)) (fun (_ : Unit) (t : State) => ∃ nfa0_34 : Nat → Int32, ax_B dC dI A [(a0, .inr (8, [a0g_0, a0g_1, a0g_2, a0g_3, a0g_4, a0g_5, a0g_6, a0g_7, a0g_8, a0g_9, a0g_10, a0g_11, a0g_12, a0g_13, a0g_14, Value.ref a0_15, a0g_16, a0g_17, a0g_18, a0g_19, a0g_20, a0g_21, a0g_22, a0g_23, a0g_24, a0g_25, a0g_26, a0g_27, a0g_28, a0g_29, a0g_30, a0g_31, a0g_32, a0g_33, Value.ref a0_34, a0g_35, a0g_36, a0g_37, a0g_38, a0g_39])), (a0_15, .inl (ka0_15, 156, .inl (fa0_15))), (a0_34, .inl (ka0_34, 9, .inl (nfa0_34)))] [(ka0_15, .int), (ka0_34, .int)] t) A) := by
  refine zh (cc := cX8_byCode) (maxL := 3) (ret := (some .int)) zn_RX8 rfl (Nat.le_of_ble_eq_true rfl) (fun p e s m below meth c A ls hx hb hml hr hts (hown : s.vm.findClass RX8 = some m.cls) hlocks hA hS hP hK hD hE (hl : lv_has ls 3 [(0, .ref a0), (1, .int a1), (2, .int a2)]) => ?_)
  refine lv_aload_n hx hb dX8_byCode_0 rfl (lv_at hl 0 rfl) ?_
  refine lv_iload_n hx hb dX8_byCode_1 rfl (lv_at hl 1 rfl) ?_
  refine lv_aload_n hx hb dX8_byCode_2 rfl (lv_at hl 0 rfl) ?_
  refine va_get (D := (dC, dI)) (ci := 8) (v := .ref a0_15) (C := RX8) (T := TX8) (N := 40) hx hb hts zi_X8_byCode_8 hown hK hP 0 rfl rfl 15 (by decide) (hts (.fieldLink RX8 20 "WaxTurnsModel" "\x72" "[I") (List.mem_cons_of_mem _ (List.mem_append_left _ (List.mem_of_getElem? (i := 0) rfl)))) (fun _ h9 => h9) rfl dX8_byCode_3 ?_
  refine lv_iconst (v := 0) hx hb dX8_byCode_6 zk_iconst_0 ?_
  refine va_iald hx hb hK hP 1 0 rfl rfl (by unfold vp_in; decide +kernel) dX8_byCode_7 ?_
  refine lv_topi (fun x7 ex7 => ?_)
  have bx7 : (2 : Int) ≤ x7.toInt ∧ x7.toInt ≤ 9 := by rw [ex7]; exact ai_rd bfa0_15.1 zq5 zq6 (by decide) (by decide) (by decide)
  refine lv_aload_n hx hb dX8_byCode_8 rfl (lv_at hl 0 rfl) ?_
  refine va_get (D := (dC, dI)) (ci := 8) (v := .ref a0_15) (C := RX8) (T := TX8) (N := 40) hx hb hts zi_X8_byCode_8 hown hK hP 0 rfl rfl 15 (by decide) (hts (.fieldLink RX8 20 "WaxTurnsModel" "\x72" "[I") (List.mem_cons_of_mem _ (List.mem_append_left _ (List.mem_of_getElem? (i := 0) rfl)))) (fun _ h9 => h9) rfl dX8_byCode_9 ?_
  refine lv_iconst (v := 0) hx hb dX8_byCode_12 zk_iconst_0 ?_
  refine va_iald hx hb hK hP 1 0 rfl rfl (by unfold vp_in; decide +kernel) dX8_byCode_13 ?_
  refine ax_ti x7 ex7.symm ?_
  refine lv_imul hx hb dX8_byCode_14 ?_
  refine lv_topi (fun x14 ex14 => ?_)
  have qx14 : x14.toInt = x7.toInt * x7.toInt ∧ (4 : Int) ≤ x14.toInt ∧ x14.toInt ≤ 81 := ai_mul ex14 ⟨bx7.1, bx7.2⟩ ⟨bx7.1, bx7.2⟩ (by decide) (by decide) zq21
  refine lv_idiv hx hb dX8_byCode_15 (ai_nz qx14.2.1 (by decide)) ?_
  refine lv_topi (fun x15 ex15 => ?_)
  have qx15 := ai_div ex15 ⟨ba1_l, ba1_u⟩ (Int.lt_of_lt_of_le zq178 qx14.2.1)
  refine lv_iload_n hx hb dX8_byCode_16 rfl (lv_at hl 1 rfl) ?_
  refine lv_aload_n hx hb dX8_byCode_17 rfl (lv_at hl 0 rfl) ?_
  refine va_get (D := (dC, dI)) (ci := 8) (v := .ref a0_15) (C := RX8) (T := TX8) (N := 40) hx hb hts zi_X8_byCode_8 hown hK hP 0 rfl rfl 15 (by decide) (hts (.fieldLink RX8 20 "WaxTurnsModel" "\x72" "[I") (List.mem_cons_of_mem _ (List.mem_append_left _ (List.mem_of_getElem? (i := 0) rfl)))) (fun _ h9 => h9) rfl dX8_byCode_18 ?_
  refine lv_iconst (v := 0) hx hb dX8_byCode_21 zk_iconst_0 ?_
  refine va_iald hx hb hK hP 1 0 rfl rfl (by unfold vp_in; decide +kernel) dX8_byCode_22 ?_
  refine ax_ti x7 ex7.symm ?_
  refine lv_idiv hx hb dX8_byCode_23 (ai_nz bx7.1 (by decide)) ?_
  refine lv_topi (fun x23 ex23 => ?_)
  have qx23 := ai_div ex23 ⟨ba1_l, ba1_u⟩ (Int.lt_of_lt_of_le zq100 bx7.1)
  refine lv_aload_n hx hb dX8_byCode_24 rfl (lv_at hl 0 rfl) ?_
  refine va_get (D := (dC, dI)) (ci := 8) (v := .ref a0_15) (C := RX8) (T := TX8) (N := 40) hx hb hts zi_X8_byCode_8 hown hK hP 0 rfl rfl 15 (by decide) (hts (.fieldLink RX8 20 "WaxTurnsModel" "\x72" "[I") (List.mem_cons_of_mem _ (List.mem_append_left _ (List.mem_of_getElem? (i := 0) rfl)))) (fun _ h9 => h9) rfl dX8_byCode_25 ?_
  refine lv_iconst (v := 0) hx hb dX8_byCode_28 zk_iconst_0 ?_
  refine va_iald hx hb hK hP 1 0 rfl rfl (by unfold vp_in; decide +kernel) dX8_byCode_29 ?_
  refine ax_ti x7 ex7.symm ?_
  refine lv_irem hx hb dX8_byCode_30 (ai_nz bx7.1 (by decide)) ?_
  refine lv_topi (fun x30 ex30 => ?_)
  have qx30 := ai_rem2 ex30 qx23.2.1 (Int.lt_of_lt_of_le zq100 bx7.1) bx7.2
  refine lv_iload_n hx hb dX8_byCode_31 rfl (lv_at hl 1 rfl) ?_
  refine lv_aload_n hx hb dX8_byCode_32 rfl (lv_at hl 0 rfl) ?_
  refine va_get (D := (dC, dI)) (ci := 8) (v := .ref a0_15) (C := RX8) (T := TX8) (N := 40) hx hb hts zi_X8_byCode_8 hown hK hP 0 rfl rfl 15 (by decide) (hts (.fieldLink RX8 20 "WaxTurnsModel" "\x72" "[I") (List.mem_cons_of_mem _ (List.mem_append_left _ (List.mem_of_getElem? (i := 0) rfl)))) (fun _ h9 => h9) rfl dX8_byCode_33 ?_
  refine lv_iconst (v := 0) hx hb dX8_byCode_36 zk_iconst_0 ?_
  refine va_iald hx hb hK hP 1 0 rfl rfl (by unfold vp_in; decide +kernel) dX8_byCode_37 ?_
  refine ax_ti x7 ex7.symm ?_
  refine lv_irem hx hb dX8_byCode_38 (ai_nz bx7.1 (by decide)) ?_
  refine lv_topi (fun x38 ex38 => ?_)
  have qx38 := ai_rem2 ex38 ba1_l (Int.lt_of_lt_of_le zq100 bx7.1) bx7.2
  refine lv_iload_n hx hb dX8_byCode_39 rfl (lv_at hl 2 rfl) ?_
  refine zc_cutc (wc := [(a0, .inr (8, [a0g_0, a0g_1, a0g_2, a0g_3, a0g_4, a0g_5, a0g_6, a0g_7, a0g_8, a0g_9, a0g_10, a0g_11, a0g_12, a0g_13, a0g_14, Value.ref a0_15, a0g_16, a0g_17, a0g_18, a0g_19, a0g_20, a0g_21, a0g_22, a0g_23, a0g_24, a0g_25, a0g_26, a0g_27, a0g_28, a0g_29, a0g_30, a0g_31, a0g_32, a0g_33, Value.ref a0_34, a0g_35, a0g_36, a0g_37, a0g_38, a0g_39])), (a0_34, .inl (ka0_34, 9, .inl (fa0_34))), (a0_15, .inl (ka0_15, 156, .inl (fa0_15)))]) hP hD hS hA [0, 2, 1] (by decide +kernel) rfl (fun hPc hDc hFc hCc => ?_)
  have hKc := hK.sub (tys' := [(ka0_34, .int), (ka0_15, .int)]) [1, 0] rfl
  refine va_calli (va_runV (As := [.int x15, .int x30, .int x38, .int a2]) (rest := []) ⟨hx, hb, hml, hown, hts⟩ (c_X8_turnBy l dC dI s.heap.size a0 x15 x30 x38 a2 a0g_0 a0g_1 a0g_2 a0g_3 a0g_4 a0g_5 a0g_6 a0g_7 a0g_8 a0g_9 a0g_10 a0g_11 a0g_12 a0g_13 a0g_14 a0g_16 a0g_17 a0g_18 a0g_19 a0g_20 a0g_21 a0g_22 a0g_23 a0g_24 a0g_25 a0g_26 a0g_27 a0g_28 a0g_29 a0g_30 a0g_31 a0g_32 a0g_33 a0g_35 a0g_36 a0g_37 a0g_38 a0g_39 a0_15 a0_34 ka0_34 fa0_34 ka0_15 fa0_15 qx15.2.1 (Int.le_trans qx15.2.2 zq179) qx30.2.1 qx30.2.2 qx38.2.1 qx38.2.2 ba2_l ba2_u bfa0_15) (cwV 4 hts gX8_byCode_X8_turnBy rfl rfl rfl zd_X8_turnBy ⟨Nat.le_of_ble_eq_true rfl, Nat.le_of_ble_eq_true rfl⟩) ⟨ax_blind (fun _ _ _ _ _ => trivial), zr_8 hKc hPc (q0 := 0) rfl, ax_pre hPc hKc hDc (fun _ _ => trivial)⟩ rfl rfl hl.1 rfl (lv_room (Nat.le_of_ble_eq_true rfl)) dX8_byCode_40 ⟨Nat.le_of_ble_eq_true rfl, Nat.le_of_ble_eq_true rfl⟩) hS (fun q _ h => hFc q h) hFc (fun r40 u t H locs ht hvm hw hB hz1 hk1 hS => zx_1 hB (fun v40nfa0_34 hB => zo hB ht (fun hP1 hK1 hD1 => ?_)))
  refine zc_backc (w := [(a0, .inr (8, [a0g_0, a0g_1, a0g_2, a0g_3, a0g_4, a0g_5, a0g_6, a0g_7, a0g_8, a0g_9, a0g_10, a0g_11, a0g_12, a0g_13, a0g_14, Value.ref a0_15, a0g_16, a0g_17, a0g_18, a0g_19, a0g_20, a0g_21, a0g_22, a0g_23, a0g_24, a0g_25, a0g_26, a0g_27, a0g_28, a0g_29, a0g_30, a0g_31, a0g_32, a0g_33, Value.ref a0_34, a0g_35, a0g_36, a0g_37, a0g_38, a0g_39])), (a0_15, .inl (ka0_15, 156, .inl (fa0_15))), (a0_34, .inl (ka0_34, 9, .inl (v40nfa0_34)))]) hP hD hCc hk1 hFc hP1 hD1 [.inr 0, .inr 2, .inr 1] (by decide +kernel) rfl (fun hP hD => ?_)
  rcases hw with hw
  · obtain ⟨⟨lr40, ur40⟩, mr40⟩ := hw
    exact W.iret (v := r40) hx hb hr (fun t ht hW => ⟨⟨r40, (), rfl, ⟨⟨lr40, ur40⟩, (fun p9 h1 h2 h3 => by have e7 : x7.toInt = (fa0_15 0).toInt := (by rw [ex7]; rfl); rw [← e7] at h2 h3; obtain ⟨e1, e2, e3⟩ := bc_ok bx7.1 bx7.2 h1 h2 h3; exact (mr40 (by rw [qx15.1, qx14.1]; exact e1) (by rw [qx30.1, qx23.1, qx38.1, e2, e3]) (by rw [← e7, qx38.1, e3]; exact h2)).trans (by rw [qx38.1, e3]))⟩, v40nfa0_34, by rw [ht]; exact hP, va_K.moved hW.alike hK, hD⟩, hS.F ht⟩) hS.2.2 dX8_byCode_43

set_option maxHeartbeats 4000000 in
set_option maxRecDepth 100000 in
theorem c_X8_numberOf (l : Launch) (dC : Nat → ClassId) (dI : Nat → Nat → Nat) (sz : Nat) (a0 : Nat) (a1 : Int32) (a0g_0 a0g_1 a0g_2 a0g_3 a0g_4 a0g_5 a0g_6 a0g_7 a0g_8 a0g_9 a0g_10 a0g_11 a0g_12 a0g_13 a0g_14 a0g_16 a0g_17 a0g_18 a0g_19 a0g_20 a0g_21 a0g_22 a0g_23 a0g_24 a0g_25 a0g_26 a0g_27 a0g_28 a0g_29 a0g_30 a0g_31 a0g_32 a0g_33 a0g_34 a0g_35 a0g_36 a0g_37 a0g_38 a0g_39 : Value) (a0_15 : Nat) (ka0_15 : ClassId) (fa0_15 : Nat → Int32) (ba1_l : (0 : Int) ≤ a1.toInt) (ba1_u : a1.toInt ≤ (728 : Int)) (bfa0_15 : ((∀ k : Nat, 0 ≤ k → k ≤ 0 → (2 : Int) ≤ (fa0_15 k).toInt ∧ (fa0_15 k).toInt ≤ 9) ∧ (∀ k : Nat, 1 ≤ k → k ≤ 1 → (1 : Int) ≤ (fa0_15 k).toInt ∧ (fa0_15 k).toInt ≤ 20) ∧ (∀ k : Nat, 2 ≤ k → k ≤ 2 → (0 : Int) ≤ (fa0_15 k).toInt ∧ (fa0_15 k).toInt ≤ 8) ∧ (∀ k : Nat, 3 ≤ k → k ≤ 3 → (0 : Int) ≤ (fa0_15 k).toInt ∧ (fa0_15 k).toInt ≤ 100) ∧ (∀ k : Nat, 4 ≤ k → k ≤ 4 → (0 : Int) ≤ (fa0_15 k).toInt ∧ (fa0_15 k).toInt ≤ 9) ∧ (∀ k : Nat, 5 ≤ k → k ≤ 5 → (0 : Int) ≤ (fa0_15 k).toInt ∧ (fa0_15 k).toInt ≤ 3) ∧ (∀ k : Nat, 6 ≤ k → k ≤ 6 → (0 : Int) ≤ (fa0_15 k).toInt ∧ (fa0_15 k).toInt ≤ 6) ∧ (∀ k : Nat, 7 ≤ k → k ≤ 9 → (0 : Int) ≤ (fa0_15 k).toInt ∧ (fa0_15 k).toInt ≤ 8) ∧ (∀ k : Nat, 12 ≤ k → k ≤ 29 → (0 : Int) ≤ (fa0_15 k).toInt ∧ (fa0_15 k).toInt ≤ 20) ∧ (∀ k : Nat, 30 ≤ k → k ≤ 35 → (0 : Int) ≤ (fa0_15 k).toInt ∧ (fa0_15 k).toInt ≤ 8) ∧ (∀ k : Nat, 36 ≤ k → k ≤ 47 → (0 : Int) ≤ (fa0_15 k).toInt ∧ (fa0_15 k).toInt ≤ 999))) : zm l yX8_numberOf wsX8_numberOf ({ frames := 0, cells := 0, slots := 0, locals := 0 }) [.ref a0, .int a1] dC dI sz [(a0, .inr (8, [a0g_0, a0g_1, a0g_2, a0g_3, a0g_4, a0g_5, a0g_6, a0g_7, a0g_8, a0g_9, a0g_10, a0g_11, a0g_12, a0g_13, a0g_14, Value.ref a0_15, a0g_16, a0g_17, a0g_18, a0g_19, a0g_20, a0g_21, a0g_22, a0g_23, a0g_24, a0g_25, a0g_26, a0g_27, a0g_28, a0g_29, a0g_30, a0g_31, a0g_32, a0g_33, a0g_34, a0g_35, a0g_36, a0g_37, a0g_38, a0g_39])), (a0_15, .inl (ka0_15, 156, .inl (fa0_15)))] [(ka0_15, .int)] (fun A _ => True) (fun A => va_Qi (fun (r : Int32) (_ : Unit) => (0 : Int) ≤ r.toInt ∧ r.toInt ≤ (72888 : Int)) (fun (_ : Unit) (t : State) => ax_B dC dI A [(a0, .inr (8, [a0g_0, a0g_1, a0g_2, a0g_3, a0g_4, a0g_5, a0g_6, a0g_7, a0g_8, a0g_9, a0g_10, a0g_11, a0g_12, a0g_13, a0g_14, Value.ref a0_15, a0g_16, a0g_17, a0g_18, a0g_19, a0g_20, a0g_21, a0g_22, a0g_23, a0g_24, a0g_25, a0g_26, a0g_27, a0g_28, a0g_29, a0g_30, a0g_31, a0g_32, a0g_33, a0g_34, a0g_35, a0g_36, a0g_37, a0g_38, a0g_39])), (a0_15, .inl (ka0_15, 156, .inl (fa0_15)))] [(ka0_15, .int)] t) A) := by
  refine zh (cc := cX8_numberOf) (maxL := 2) (ret := (some .int)) zn_RX8 rfl (Nat.le_of_ble_eq_true rfl) (fun p e s m below meth c A ls hx hb hml hr hts (hown : s.vm.findClass RX8 = some m.cls) hlocks hA hS hP hK hD hE (hl : lv_has ls 2 [(0, .ref a0), (1, .int a1)]) => ?_)
  refine lv_bipush (v := 100) hx hb dX8_numberOf_0 zk_bipush_100 ?_
  refine lv_iload_n hx hb dX8_numberOf_2 rfl (lv_at hl 1 rfl) ?_
  refine lv_aload_n hx hb dX8_numberOf_3 rfl (lv_at hl 0 rfl) ?_
  refine va_get (D := (dC, dI)) (ci := 8) (v := .ref a0_15) (C := RX8) (T := TX8) (N := 40) hx hb hts zi_X8_numberOf_8 hown hK hP 0 rfl rfl 15 (by decide) (hts (.fieldLink RX8 20 "WaxTurnsModel" "\x72" "[I") (List.mem_cons_of_mem _ (List.mem_append_left _ (List.mem_of_getElem? (i := 0) rfl)))) (fun _ h9 => h9) rfl dX8_numberOf_4 ?_
  refine lv_iconst (v := 0) hx hb dX8_numberOf_7 zk_iconst_0 ?_
  refine va_iald hx hb hK hP 1 0 rfl rfl (by unfold vp_in; decide +kernel) dX8_numberOf_8 ?_
  refine lv_topi (fun x8 ex8 => ?_)
  have bx8 : (2 : Int) ≤ x8.toInt ∧ x8.toInt ≤ 9 := by rw [ex8]; exact ai_rd bfa0_15.1 zq5 zq6 (by decide) (by decide) (by decide)
  refine lv_aload_n hx hb dX8_numberOf_9 rfl (lv_at hl 0 rfl) ?_
  refine va_get (D := (dC, dI)) (ci := 8) (v := .ref a0_15) (C := RX8) (T := TX8) (N := 40) hx hb hts zi_X8_numberOf_8 hown hK hP 0 rfl rfl 15 (by decide) (hts (.fieldLink RX8 20 "WaxTurnsModel" "\x72" "[I") (List.mem_cons_of_mem _ (List.mem_append_left _ (List.mem_of_getElem? (i := 0) rfl)))) (fun _ h9 => h9) rfl dX8_numberOf_10 ?_
  refine lv_iconst (v := 0) hx hb dX8_numberOf_13 zk_iconst_0 ?_
  refine va_iald hx hb hK hP 1 0 rfl rfl (by unfold vp_in; decide +kernel) dX8_numberOf_14 ?_
  refine ax_ti x8 ex8.symm ?_
  refine lv_imul hx hb dX8_numberOf_15 ?_
  refine lv_topi (fun x15 ex15 => ?_)
  have qx15 : x15.toInt = x8.toInt * x8.toInt ∧ (4 : Int) ≤ x15.toInt ∧ x15.toInt ≤ 81 := ai_mul ex15 ⟨bx8.1, bx8.2⟩ ⟨bx8.1, bx8.2⟩ (by decide) (by decide) zq21
  refine lv_idiv hx hb dX8_numberOf_16 (ai_nz qx15.2.1 (by decide)) ?_
  refine lv_topi (fun x16 ex16 => ?_)
  have qx16 := ai_div ex16 ⟨ba1_l, ba1_u⟩ (Int.lt_of_lt_of_le zq178 qx15.2.1)
  refine lv_imul hx hb dX8_numberOf_17 ?_
  refine lv_topi (fun x17 ex17 => ?_)
  have qx17 : x17.toInt = (100 : Int32).toInt * x16.toInt ∧ (0 : Int) ≤ x17.toInt ∧ x17.toInt ≤ 72800 := ai_mul ex17 ⟨zq24, zq32⟩ ⟨qx16.2.1, qx16.2.2⟩ (by decide) (by decide) zq180
  have wx17 : x17.toInt = 100 * x16.toInt := qx17.1
  refine lv_bipush (v := 10) hx hb dX8_numberOf_18 zk_bipush_10 ?_
  refine lv_iload_n hx hb dX8_numberOf_20 rfl (lv_at hl 1 rfl) ?_
  refine lv_aload_n hx hb dX8_numberOf_21 rfl (lv_at hl 0 rfl) ?_
  refine va_get (D := (dC, dI)) (ci := 8) (v := .ref a0_15) (C := RX8) (T := TX8) (N := 40) hx hb hts zi_X8_numberOf_8 hown hK hP 0 rfl rfl 15 (by decide) (hts (.fieldLink RX8 20 "WaxTurnsModel" "\x72" "[I") (List.mem_cons_of_mem _ (List.mem_append_left _ (List.mem_of_getElem? (i := 0) rfl)))) (fun _ h9 => h9) rfl dX8_numberOf_22 ?_
  refine lv_iconst (v := 0) hx hb dX8_numberOf_25 zk_iconst_0 ?_
  refine va_iald hx hb hK hP 1 0 rfl rfl (by unfold vp_in; decide +kernel) dX8_numberOf_26 ?_
  refine ax_ti x8 ex8.symm ?_
  refine lv_idiv hx hb dX8_numberOf_27 (ai_nz bx8.1 (by decide)) ?_
  refine lv_topi (fun x27 ex27 => ?_)
  have qx27 := ai_div ex27 ⟨ba1_l, ba1_u⟩ (Int.lt_of_lt_of_le zq100 bx8.1)
  refine lv_aload_n hx hb dX8_numberOf_28 rfl (lv_at hl 0 rfl) ?_
  refine va_get (D := (dC, dI)) (ci := 8) (v := .ref a0_15) (C := RX8) (T := TX8) (N := 40) hx hb hts zi_X8_numberOf_8 hown hK hP 0 rfl rfl 15 (by decide) (hts (.fieldLink RX8 20 "WaxTurnsModel" "\x72" "[I") (List.mem_cons_of_mem _ (List.mem_append_left _ (List.mem_of_getElem? (i := 0) rfl)))) (fun _ h9 => h9) rfl dX8_numberOf_29 ?_
  refine lv_iconst (v := 0) hx hb dX8_numberOf_32 zk_iconst_0 ?_
  refine va_iald hx hb hK hP 1 0 rfl rfl (by unfold vp_in; decide +kernel) dX8_numberOf_33 ?_
  refine ax_ti x8 ex8.symm ?_
  refine lv_irem hx hb dX8_numberOf_34 (ai_nz bx8.1 (by decide)) ?_
  refine lv_topi (fun x34 ex34 => ?_)
  have qx34 := ai_rem2 ex34 qx27.2.1 (Int.lt_of_lt_of_le zq100 bx8.1) bx8.2
  refine lv_imul hx hb dX8_numberOf_35 ?_
  refine lv_topi (fun x35 ex35 => ?_)
  have qx35 : x35.toInt = (10 : Int32).toInt * x34.toInt ∧ (0 : Int) ≤ x35.toInt ∧ x35.toInt ≤ 80 := ai_mul ex35 ⟨zq26, zq27⟩ ⟨qx34.2.1, qx34.2.2⟩ (by decide) (by decide) zq34
  have wx35 : x35.toInt = 10 * x34.toInt := qx35.1
  refine lv_iadd hx hb dX8_numberOf_36 ?_
  refine lv_topi (fun x36 ex36 => ?_)
  have qx36 : x36.toInt = x17.toInt + x35.toInt := ai_add ex36 ⟨qx17.2.1, qx17.2.2⟩ ⟨qx35.2.1, qx35.2.2⟩ (by decide) (by decide)
  have bx36 : (0 : Int) ≤ x36.toInt ∧ x36.toInt ≤ 72880 := ⟨by rw [qx36]; exact Int.add_le_add qx17.2.1 qx35.2.1, by rw [qx36]; exact Int.add_le_add qx17.2.2 qx35.2.2⟩
  refine lv_iload_n hx hb dX8_numberOf_37 rfl (lv_at hl 1 rfl) ?_
  refine lv_aload_n hx hb dX8_numberOf_38 rfl (lv_at hl 0 rfl) ?_
  refine va_get (D := (dC, dI)) (ci := 8) (v := .ref a0_15) (C := RX8) (T := TX8) (N := 40) hx hb hts zi_X8_numberOf_8 hown hK hP 0 rfl rfl 15 (by decide) (hts (.fieldLink RX8 20 "WaxTurnsModel" "\x72" "[I") (List.mem_cons_of_mem _ (List.mem_append_left _ (List.mem_of_getElem? (i := 0) rfl)))) (fun _ h9 => h9) rfl dX8_numberOf_39 ?_
  refine lv_iconst (v := 0) hx hb dX8_numberOf_42 zk_iconst_0 ?_
  refine va_iald hx hb hK hP 1 0 rfl rfl (by unfold vp_in; decide +kernel) dX8_numberOf_43 ?_
  refine ax_ti x8 ex8.symm ?_
  refine lv_irem hx hb dX8_numberOf_44 (ai_nz bx8.1 (by decide)) ?_
  refine lv_topi (fun x44 ex44 => ?_)
  have qx44 := ai_rem2 ex44 ba1_l (Int.lt_of_lt_of_le zq100 bx8.1) bx8.2
  refine lv_iadd hx hb dX8_numberOf_45 ?_
  refine lv_topi (fun x45 ex45 => ?_)
  have qx45 : x45.toInt = x36.toInt + x44.toInt := ai_add ex45 ⟨bx36.1, bx36.2⟩ ⟨qx44.2.1, qx44.2.2⟩ (by decide) (by decide)
  have bx45 : (0 : Int) ≤ x45.toInt ∧ x45.toInt ≤ 72888 := ⟨by rw [qx45]; exact Int.add_le_add bx36.1 qx44.2.1, by rw [qx45]; exact Int.add_le_add bx36.2 qx44.2.2⟩
  exact W.iret (v := x45) hx hb hr (fun t ht hW => ⟨⟨x45, (), rfl, ⟨bx45.1, bx45.2⟩, by rw [ht]; exact hP, va_K.moved hW.alike hK, hD⟩, hS.F ht⟩) hS.2.2 dX8_numberOf_46

set_option maxHeartbeats 4000000 in
set_option maxRecDepth 100000 in
theorem c_X8_doesFit (l : Launch) (dC : Nat → ClassId) (dI : Nat → Nat → Nat) (sz : Nat) (a0 : Nat) (a1 : Int32) (a0g_0 a0g_1 a0g_2 a0g_3 a0g_4 a0g_5 a0g_6 a0g_7 a0g_8 a0g_9 a0g_10 a0g_11 a0g_12 a0g_13 a0g_14 a0g_16 a0g_17 a0g_18 a0g_19 a0g_20 a0g_21 a0g_22 a0g_23 a0g_24 a0g_25 a0g_26 a0g_27 a0g_28 a0g_29 a0g_30 a0g_31 a0g_32 a0g_33 a0g_35 a0g_36 a0g_37 a0g_38 a0g_39 : Value) (a0_15 : Nat) (a0_34 : Nat) (ka0_15 : ClassId) (fa0_15 : Nat → Int32) (ka0_34 : ClassId) (fa0_34 : Nat → Int32) (ba1_l : (0 : Int) ≤ a1.toInt) (ba1_u : a1.toInt ≤ (728 : Int)) (bfa0_15 : ((∀ k : Nat, 0 ≤ k → k ≤ 0 → (2 : Int) ≤ (fa0_15 k).toInt ∧ (fa0_15 k).toInt ≤ 9) ∧ (∀ k : Nat, 1 ≤ k → k ≤ 1 → (1 : Int) ≤ (fa0_15 k).toInt ∧ (fa0_15 k).toInt ≤ 20) ∧ (∀ k : Nat, 2 ≤ k → k ≤ 2 → (0 : Int) ≤ (fa0_15 k).toInt ∧ (fa0_15 k).toInt ≤ 8) ∧ (∀ k : Nat, 3 ≤ k → k ≤ 3 → (0 : Int) ≤ (fa0_15 k).toInt ∧ (fa0_15 k).toInt ≤ 100) ∧ (∀ k : Nat, 4 ≤ k → k ≤ 4 → (0 : Int) ≤ (fa0_15 k).toInt ∧ (fa0_15 k).toInt ≤ 9) ∧ (∀ k : Nat, 5 ≤ k → k ≤ 5 → (0 : Int) ≤ (fa0_15 k).toInt ∧ (fa0_15 k).toInt ≤ 3) ∧ (∀ k : Nat, 6 ≤ k → k ≤ 6 → (0 : Int) ≤ (fa0_15 k).toInt ∧ (fa0_15 k).toInt ≤ 6) ∧ (∀ k : Nat, 7 ≤ k → k ≤ 9 → (0 : Int) ≤ (fa0_15 k).toInt ∧ (fa0_15 k).toInt ≤ 8) ∧ (∀ k : Nat, 12 ≤ k → k ≤ 29 → (0 : Int) ≤ (fa0_15 k).toInt ∧ (fa0_15 k).toInt ≤ 20) ∧ (∀ k : Nat, 30 ≤ k → k ≤ 35 → (0 : Int) ≤ (fa0_15 k).toInt ∧ (fa0_15 k).toInt ≤ 8) ∧ (∀ k : Nat, 36 ≤ k → k ≤ 47 → (0 : Int) ≤ (fa0_15 k).toInt ∧ (fa0_15 k).toInt ≤ 999))) : zm l yX8_doesFit wsX8_doesFit ({ frames := 2, cells := 0, slots := 0, locals := 50 }) [.ref a0, .int a1] dC dI sz [(a0, .inr (8, [a0g_0, a0g_1, a0g_2, a0g_3, a0g_4, a0g_5, a0g_6, a0g_7, a0g_8, a0g_9, a0g_10, a0g_11, a0g_12, a0g_13, a0g_14, Value.ref a0_15, a0g_16, a0g_17, a0g_18, a0g_19, a0g_20, a0g_21, a0g_22, a0g_23, a0g_24, a0g_25, a0g_26, a0g_27, a0g_28, a0g_29, a0g_30, a0g_31, a0g_32, a0g_33, Value.ref a0_34, a0g_35, a0g_36, a0g_37, a0g_38, a0g_39])), (a0_15, .inl (ka0_15, 156, .inl (fa0_15))), (a0_34, .inl (ka0_34, 9, .inl (fa0_34)))] [(ka0_15, .int), (ka0_34, .int)] (fun A _ => True) (fun A => va_Qi (fun (r : Int32) (_ : Unit) => (r = 1) ∨ (r = 0)) (fun (_ : Unit) (t : State) => ∃ nfa0_34 : Nat → Int32, ax_B dC dI A [(a0, .inr (8, [a0g_0, a0g_1, a0g_2, a0g_3, a0g_4, a0g_5, a0g_6, a0g_7, a0g_8, a0g_9, a0g_10, a0g_11, a0g_12, a0g_13, a0g_14, Value.ref a0_15, a0g_16, a0g_17, a0g_18, a0g_19, a0g_20, a0g_21, a0g_22, a0g_23, a0g_24, a0g_25, a0g_26, a0g_27, a0g_28, a0g_29, a0g_30, a0g_31, a0g_32, a0g_33, Value.ref a0_34, a0g_35, a0g_36, a0g_37, a0g_38, a0g_39])), (a0_15, .inl (ka0_15, 156, .inl (fa0_15))), (a0_34, .inl (ka0_34, 9, .inl (nfa0_34)))] [(ka0_15, .int), (ka0_34, .int)] t) A) := by
  refine zh (cc := cX8_doesFit) (maxL := 3) (ret := (some .boolean)) zn_RX8 rfl (Nat.le_of_ble_eq_true rfl) (fun p e s m below meth c A ls hx hb hml hr hts (hown : s.vm.findClass RX8 = some m.cls) hlocks hA hS hP hK hD hE (hl : lv_has ls 3 [(0, .ref a0), (1, .int a1)]) => ?_)
  refine ai_open (fun K hK0 => ?_)
  refine (hK0 _ _ _).mpr ?_
  refine lv_iconst (v := 0) hx hb dX8_doesFit_0 zk_iconst_0 ?_
  refine lv_istore_n (lv' := [(2, .int 0), (0, .ref a0), (1, .int a1)]) hx hb dX8_doesFit_1 rfl hl (by decide) rfl (fun ls hl => ?_)
  have J2 : ∀ (n : Nat) (j2l2 : Int32) (j2a0_34_a : Nat → Int32) (H : Heap) (locs : List Loc) (ls : Array Slot), (7 : Int) - j2l2.toInt ≤ (n : Int) → (0 : Int) ≤ j2l2.toInt → j2l2.toInt ≤ (6 : Int) → va_P (dC, dI) vwCl [(a0, .inr (8, [a0g_0, a0g_1, a0g_2, a0g_3, a0g_4, a0g_5, a0g_6, a0g_7, a0g_8, a0g_9, a0g_10, a0g_11, a0g_12, a0g_13, a0g_14, Value.ref a0_15, a0g_16, a0g_17, a0g_18, a0g_19, a0g_20, a0g_21, a0g_22, a0g_23, a0g_24, a0g_25, a0g_26, a0g_27, a0g_28, a0g_29, a0g_30, a0g_31, a0g_32, a0g_33, Value.ref a0_34, a0g_35, a0g_36, a0g_37, a0g_38, a0g_39])), (a0_15, .inl (ka0_15, 156, .inl (fa0_15))), (a0_34, .inl (ka0_34, 9, .inl (j2a0_34_a)))] H → va_D A [(a0, .inr (8, [a0g_0, a0g_1, a0g_2, a0g_3, a0g_4, a0g_5, a0g_6, a0g_7, a0g_8, a0g_9, a0g_10, a0g_11, a0g_12, a0g_13, a0g_14, Value.ref a0_15, a0g_16, a0g_17, a0g_18, a0g_19, a0g_20, a0g_21, a0g_22, a0g_23, a0g_24, a0g_25, a0g_26, a0g_27, a0g_28, a0g_29, a0g_30, a0g_31, a0g_32, a0g_33, Value.ref a0_34, a0g_35, a0g_36, a0g_37, a0g_38, a0g_39])), (a0_15, .inl (ka0_15, 156, .inl (fa0_15))), (a0_34, .inl (ka0_34, 9, .inl (j2a0_34_a)))] → va_S A s.heap H locs → lv_has ls 3 [(0, .ref a0), (1, .int a1), (2, .int j2l2)] → K H locs (F0 m 2 ls []) := by
    intro n
    induction n with
    | zero =>
      intro j2l2 j2a0_34_a H locs ls hm bj2l2_l bj2l2_u hP hD hS hl
      have h8 := ai_min j2l2
      have h9 := ai_max j2l2
      exact absurd hm (by omega)
    | succ n ih2 =>
      intro j2l2 j2a0_34_a H locs ls hm bj2l2_l bj2l2_u hP hD hS hl
      refine (hK0 _ _ _).mpr ?_
      have hm2 := hm
      refine lv_iload_n hx hb dX8_doesFit_2 rfl (lv_at hl 2 rfl) ?_
      refine lv_aload_n hx hb dX8_doesFit_3 rfl (lv_at hl 0 rfl) ?_
      refine va_get (D := (dC, dI)) (ci := 8) (v := .ref a0_15) (C := RX8) (T := TX8) (N := 40) hx hb hts zi_X8_doesFit_8 hown hK hP 0 rfl rfl 15 (by decide) (hts (.fieldLink RX8 20 "WaxTurnsModel" "\x72" "[I") (List.mem_cons_of_mem _ (List.mem_append_left _ (List.mem_of_getElem? (i := 0) rfl)))) (fun _ h9 => h9) rfl dX8_doesFit_4 ?_
      refine lv_bipush (v := 6) hx hb dX8_doesFit_7 zk_bipush_6 ?_
      refine va_iald hx hb hK hP 1 0 rfl rfl (by unfold vp_in; decide +kernel) dX8_doesFit_9 ?_
      refine lv_topi (fun x9 ex9 => ?_)
      have bx9 : (0 : Int) ≤ x9.toInt ∧ x9.toInt ≤ 6 := by rw [ex9]; exact ai_rd bfa0_15.2.2.2.2.2.2.1 zq15 zq16 (by decide) (by decide) (by decide)
      refine lv_icmp_ge (tgt := 60) hx hb dX8_doesFit_10 (by decide) (fun c10 => ?_) (fun c10 => ?_)
      · have gc10 := ai_le c10
        have u10t_x9 : x9.toInt ≤ (6 : Int) := bx9.2
        have l10t_j2l2 : (0 : Int) ≤ j2l2.toInt := bj2l2_l
        refine lv_iconst (v := 1) hx hb dX8_doesFit_60 zk_iconst_1 ?_
        exact W.zret (v := 1) hx hb hr rfl (fun t ht hW => ⟨⟨1, (), rfl, (Or.inl (rfl)), j2a0_34_a, by rw [ht]; exact hP, va_K.moved hW.alike hK, hD⟩, hS.F ht⟩) hS.2.2 dX8_doesFit_61
      · have gc10 := ai_nle c10
        have u10f_j2l2 : j2l2.toInt ≤ (5 : Int) := ai_lthi gc10 bx9.2
        have l10f_x9 : (1 : Int) ≤ x9.toInt := ai_ltlo gc10 bj2l2_l
        refine lv_aload_n hx hb dX8_doesFit_13 rfl (lv_at hl 0 rfl) ?_
        refine lv_iload_n hx hb dX8_doesFit_14 rfl (lv_at hl 1 rfl) ?_
        refine lv_aload_n hx hb dX8_doesFit_15 rfl (lv_at hl 0 rfl) ?_
        refine va_get (D := (dC, dI)) (ci := 8) (v := .ref a0_15) (C := RX8) (T := TX8) (N := 40) hx hb hts zi_X8_doesFit_8 hown hK hP 0 rfl rfl 15 (by decide) (hts (.fieldLink RX8 20 "WaxTurnsModel" "\x72" "[I") (List.mem_cons_of_mem _ (List.mem_append_left _ (List.mem_of_getElem? (i := 0) rfl)))) (fun _ h9 => h9) rfl dX8_doesFit_16 ?_
        refine lv_bipush (v := 36) hx hb dX8_doesFit_19 zk_bipush_36 ?_
        refine lv_iconst (v := 2) hx hb dX8_doesFit_21 zk_iconst_2 ?_
        refine lv_iload_n hx hb dX8_doesFit_22 rfl (lv_at hl 2 rfl) ?_
        refine lv_imul hx hb dX8_doesFit_23 ?_
        refine lv_topi (fun x23 ex23 => ?_)
        have qx23 : x23.toInt = (2 : Int32).toInt * j2l2.toInt ∧ (0 : Int) ≤ x23.toInt ∧ x23.toInt ≤ 10 := ai_mul ex23 ⟨zq12, zq13⟩ ⟨bj2l2_l, u10f_j2l2⟩ (by decide) (by decide) zq181
        have wx23 : x23.toInt = 2 * j2l2.toInt := qx23.1
        refine lv_iadd hx hb dX8_doesFit_24 ?_
        refine lv_topi (fun x24 ex24 => ?_)
        have qx24 : x24.toInt = (36 : Int32).toInt + x23.toInt := ai_add ex24 ⟨zq182, zq183⟩ ⟨qx23.2.1, qx23.2.2⟩ (by decide) (by decide)
        have bx24 : (36 : Int) ≤ x24.toInt ∧ x24.toInt ≤ 46 := ⟨by rw [qx24]; exact Int.add_le_add zq182 qx23.2.1, by rw [qx24]; exact Int.add_le_add zq183 qx23.2.2⟩
        have wx24 : x24.toInt = 36 + x23.toInt := qx24
        refine lv_iconst (v := 1) hx hb dX8_doesFit_25 zk_iconst_1 ?_
        refine lv_iadd hx hb dX8_doesFit_26 ?_
        refine lv_topi (fun x26 ex26 => ?_)
        have qx26 : x26.toInt = x24.toInt + (1 : Int32).toInt := ai_add ex26 ⟨bx24.1, bx24.2⟩ ⟨zq1, zq0⟩ (by decide) (by decide)
        have bx26 : (37 : Int) ≤ x26.toInt ∧ x26.toInt ≤ 47 := ⟨by rw [qx26]; exact Int.add_le_add bx24.1 zq1, by rw [qx26]; exact Int.add_le_add bx24.2 zq0⟩
        have wx26 : x26.toInt = x24.toInt + 1 := qx26
        refine va_iald hx hb hK hP 1 0 rfl rfl (ai_in bx26.1 bx26.2 (by decide) (by decide)) dX8_doesFit_27 ?_
        refine lv_topi (fun x27 ex27 => ?_)
        have bx27 : (0 : Int) ≤ x27.toInt ∧ x27.toInt ≤ 999 := by rw [ex27]; exact ai_rd bfa0_15.2.2.2.2.2.2.2.2.2.2 bx26.1 bx26.2 (by decide) (by decide) (by decide)
        refine lv_aload_n hx hb dX8_doesFit_28 rfl (lv_at hl 0 rfl) ?_
        refine va_get (D := (dC, dI)) (ci := 8) (v := .ref a0_15) (C := RX8) (T := TX8) (N := 40) hx hb hts zi_X8_doesFit_8 hown hK hP 0 rfl rfl 15 (by decide) (hts (.fieldLink RX8 20 "WaxTurnsModel" "\x72" "[I") (List.mem_cons_of_mem _ (List.mem_append_left _ (List.mem_of_getElem? (i := 0) rfl)))) (fun _ h9 => h9) rfl dX8_doesFit_29 ?_
        refine lv_iconst (v := 1) hx hb dX8_doesFit_32 zk_iconst_1 ?_
        refine va_iald hx hb hK hP 1 0 rfl rfl (by unfold vp_in; decide +kernel) dX8_doesFit_33 ?_
        refine lv_topi (fun x33 ex33 => ?_)
        have bx33 : (1 : Int) ≤ x33.toInt ∧ x33.toInt ≤ 20 := by rw [ex33]; exact ai_rd bfa0_15.2.1 zq1 zq0 (by decide) (by decide) (by decide)
        refine lv_idiv hx hb dX8_doesFit_34 (ai_nz bx33.1 (by decide)) ?_
        refine lv_topi (fun x34 ex34 => ?_)
        have qx34 := ai_div ex34 ⟨bx27.1, bx27.2⟩ (Int.lt_of_lt_of_le zq19 bx33.1)
        have hKc := hK.sub (tys' := [(ka0_15, .int), (ka0_34, .int)]) [0, 1] rfl
        refine va_calli (va_runV (As := [.int a1, .int x34]) (rest := []) ⟨hx, hb, hml, hown, hts⟩ (c_X8_byCode l dC dI H.size a0 a1 x34 a0g_0 a0g_1 a0g_2 a0g_3 a0g_4 a0g_5 a0g_6 a0g_7 a0g_8 a0g_9 a0g_10 a0g_11 a0g_12 a0g_13 a0g_14 a0g_16 a0g_17 a0g_18 a0g_19 a0g_20 a0g_21 a0g_22 a0g_23 a0g_24 a0g_25 a0g_26 a0g_27 a0g_28 a0g_29 a0g_30 a0g_31 a0g_32 a0g_33 a0g_35 a0g_36 a0g_37 a0g_38 a0g_39 a0_15 a0_34 ka0_15 fa0_15 ka0_34 j2a0_34_a ba1_l ba1_u qx34.2.1 qx34.2.2 bfa0_15) (cwV 2 hts gX8_doesFit_X8_byCode rfl rfl rfl zd_X8_byCode ⟨Nat.le_of_ble_eq_true rfl, Nat.le_of_ble_eq_true rfl⟩) ⟨ax_blind (fun _ _ _ _ _ => trivial), zr_8 hKc (zp_P3 hP) (q0 := 0) rfl, ax_pre (zp_P3 hP) hKc (zp_D3 hD) (fun _ _ => trivial)⟩ rfl rfl hl.1 rfl (lv_room (Nat.le_of_ble_eq_true rfl)) dX8_doesFit_35 ⟨Nat.le_of_ble_eq_true rfl, Nat.le_of_ble_eq_true rfl⟩) hS (fun q _ h => zp_F3 hD hS hA q h) (zp_F3 hD hS hA) (fun r35 u t H locs ht hvm hw hB hz1 hk1 hS1 => zx_1 hB (fun v35nfa0_34 hB => zo3 hB ht hP hD hk1 (zp_F3 hD hS hA) hS1 (fun hP hK1 hD hS => ?_)))
        rcases hw with hw
        · obtain ⟨⟨lr35, ur35⟩, mr35⟩ := hw
          refine lv_aload_n hx hb dX8_doesFit_38 rfl (lv_at hl 0 rfl) ?_
          refine va_get (D := (dC, dI)) (ci := 8) (v := .ref a0_15) (C := RX8) (T := TX8) (N := 40) hx hb hts zi_X8_doesFit_8 hown hK hP 0 rfl rfl 15 (by decide) (hts (.fieldLink RX8 20 "WaxTurnsModel" "\x72" "[I") (List.mem_cons_of_mem _ (List.mem_append_left _ (List.mem_of_getElem? (i := 0) rfl)))) (fun _ h9 => h9) rfl dX8_doesFit_39 ?_
          refine lv_bipush (v := 36) hx hb dX8_doesFit_42 zk_bipush_36 ?_
          refine lv_iconst (v := 2) hx hb dX8_doesFit_44 zk_iconst_2 ?_
          refine lv_iload_n hx hb dX8_doesFit_45 rfl (lv_at hl 2 rfl) ?_
          refine lv_imul hx hb dX8_doesFit_46 ?_
          refine ax_ti x23 ex23.symm ?_
          refine lv_iadd hx hb dX8_doesFit_47 ?_
          refine ax_ti x24 ex24.symm ?_
          refine va_iald hx hb hK hP 1 0 rfl rfl (ai_in bx24.1 bx24.2 (by decide) (by decide)) dX8_doesFit_48 ?_
          refine lv_topi (fun x48 ex48 => ?_)
          have bx48 : (0 : Int) ≤ x48.toInt ∧ x48.toInt ≤ 999 := by rw [ex48]; exact ai_rd bfa0_15.2.2.2.2.2.2.2.2.2.2 bx24.1 bx24.2 (by decide) (by decide) (by decide)
          refine lv_icmp_eq (tgt := 54) hx hb dX8_doesFit_49 (by decide) (fun c49 => ?_) (fun c49 => ?_)
          · have gc49 := ai_eq c49
            have u49t_r35 : r35.toInt ≤ (8 : Int) := ur35
            have l49t_r35 : (0 : Int) ≤ r35.toInt := lr35
            have u49t_x48 : x48.toInt ≤ (8 : Int) := Int.le_trans (Int.le_of_eq gc49.symm) ur35
            have l49t_x48 : (0 : Int) ≤ x48.toInt := bx48.1
            obtain ⟨x54, ex54⟩ : ∃ y : Int32, y = j2l2 + Int32.ofInt 1 := ⟨_, rfl⟩
            have qx54 : x54.toInt = j2l2.toInt + 1 := ai_inc ex54 (by decide) (by decide) u10f_j2l2 (by decide)
            have bx54 : (1 : Int) ≤ x54.toInt ∧ x54.toInt ≤ 6 := ⟨by rw [qx54]; exact Int.add_le_add bj2l2_l (Int.le_refl _), by rw [qx54]; exact Int.add_le_add u10f_j2l2 (Int.le_refl _)⟩
            refine lv_iinc (v := x54) (lv' := [(2, .int x54), (0, .ref a0), (1, .int a1)]) hx hb dX8_doesFit_54 hl (k := 2) rfl ex54.symm (by decide) rfl (fun ls hl => ?_)
            refine lv_goto (tgt := 2) hx hb dX8_doesFit_57 (by decide) ?_
            exact (hK0 _ _ _).mp (ih2 x54 v35nfa0_34 _ _ _ (by have h0 := qx54; omega) (Int.le_trans zq4 bx54.1) bx54.2 hP hD hS (lv_sub hl [1, 2, 0] rfl))
          · have gc49 := ai_ne c49
            refine lv_iconst (v := 0) hx hb dX8_doesFit_52 zk_iconst_0 ?_
            exact W.zret (v := 0) hx hb hr rfl (fun t ht hW => ⟨⟨0, (), rfl, (Or.inr (rfl)), v35nfa0_34, by rw [ht]; exact hP, va_K.moved hW.alike hK, hD⟩, hS.F ht⟩) hS.2.2 dX8_doesFit_53
  exact (hK0 _ _ _).mp (J2 7 0 fa0_34 _ _ _ (by have h1 : (0 : Int) ≤ (0 : Int32).toInt := zq5; have h2 : (0 : Int32).toInt ≤ (0 : Int) := zq6; omega) zq5 (Int.le_trans zq6 zq17) hP hD hS (lv_sub hl [1, 2, 0] rfl))

set_option maxHeartbeats 4000000 in
set_option maxRecDepth 100000 in
theorem c_X8_fits (l : Launch) (dC : Nat → ClassId) (dI : Nat → Nat → Nat) (sz : Nat) (a0 : Nat) (a0_0 : Int32) (a0g_1 a0g_2 a0g_3 a0g_4 a0g_5 a0g_6 a0g_7 a0g_8 a0g_9 a0g_10 a0g_12 a0g_13 a0g_16 a0g_17 a0g_18 a0g_19 a0g_20 a0g_21 a0g_22 a0g_23 a0g_24 a0g_25 a0g_26 a0g_27 a0g_28 a0g_29 a0g_30 a0g_31 a0g_32 a0g_33 a0g_35 a0g_36 a0g_37 a0g_38 a0g_39 : Value) (a0_11 : Int32) (a0_14 : Int32) (a0_15 : Nat) (a0_34 : Nat) (ka0_15 : ClassId) (fa0_15 : Nat → Int32) (ka0_34 : ClassId) (fa0_34 : Nat → Int32) (ba0_14_l : (1 : Int) ≤ a0_14.toInt) (ba0_14_u : a0_14.toInt ≤ (1 : Int)) (bfa0_15 : ((∀ k : Nat, 0 ≤ k → k ≤ 0 → (2 : Int) ≤ (fa0_15 k).toInt ∧ (fa0_15 k).toInt ≤ 9) ∧ (∀ k : Nat, 1 ≤ k → k ≤ 1 → (1 : Int) ≤ (fa0_15 k).toInt ∧ (fa0_15 k).toInt ≤ 20) ∧ (∀ k : Nat, 2 ≤ k → k ≤ 2 → (0 : Int) ≤ (fa0_15 k).toInt ∧ (fa0_15 k).toInt ≤ 8) ∧ (∀ k : Nat, 3 ≤ k → k ≤ 3 → (0 : Int) ≤ (fa0_15 k).toInt ∧ (fa0_15 k).toInt ≤ 100) ∧ (∀ k : Nat, 4 ≤ k → k ≤ 4 → (0 : Int) ≤ (fa0_15 k).toInt ∧ (fa0_15 k).toInt ≤ 9) ∧ (∀ k : Nat, 5 ≤ k → k ≤ 5 → (0 : Int) ≤ (fa0_15 k).toInt ∧ (fa0_15 k).toInt ≤ 3) ∧ (∀ k : Nat, 6 ≤ k → k ≤ 6 → (0 : Int) ≤ (fa0_15 k).toInt ∧ (fa0_15 k).toInt ≤ 6) ∧ (∀ k : Nat, 7 ≤ k → k ≤ 9 → (0 : Int) ≤ (fa0_15 k).toInt ∧ (fa0_15 k).toInt ≤ 8) ∧ (∀ k : Nat, 12 ≤ k → k ≤ 29 → (0 : Int) ≤ (fa0_15 k).toInt ∧ (fa0_15 k).toInt ≤ 20) ∧ (∀ k : Nat, 30 ≤ k → k ≤ 35 → (0 : Int) ≤ (fa0_15 k).toInt ∧ (fa0_15 k).toInt ≤ 8) ∧ (∀ k : Nat, 36 ≤ k → k ≤ 47 → (0 : Int) ≤ (fa0_15 k).toInt ∧ (fa0_15 k).toInt ≤ 999))) : zm l yX8_fits wsX8_fits ({ frames := 3, cells := 0, slots := 0, locals := 72 }) [.ref a0] dC dI sz [(a0, .inr (8, [Value.int a0_0, a0g_1, a0g_2, a0g_3, a0g_4, a0g_5, a0g_6, a0g_7, a0g_8, a0g_9, a0g_10, Value.int a0_11, a0g_12, a0g_13, Value.int a0_14, Value.ref a0_15, a0g_16, a0g_17, a0g_18, a0g_19, a0g_20, a0g_21, a0g_22, a0g_23, a0g_24, a0g_25, a0g_26, a0g_27, a0g_28, a0g_29, a0g_30, a0g_31, a0g_32, a0g_33, Value.ref a0_34, a0g_35, a0g_36, a0g_37, a0g_38, a0g_39])), (a0_15, .inl (ka0_15, 156, .inl (fa0_15))), (a0_34, .inl (ka0_34, 9, .inl (fa0_34)))] [(ka0_15, .int), (ka0_34, .int)] (fun A _ => True) (fun A => va_Qi (fun (r : Int32) (_ : Unit) => True) (fun (_ : Unit) (t : State) => ∃ na0_0 : Int32, ∃ na0_11 : Int32, ∃ nfa0_34 : Nat → Int32, ax_B dC dI A [(a0, .inr (8, [Value.int na0_0, a0g_1, a0g_2, a0g_3, a0g_4, a0g_5, a0g_6, a0g_7, a0g_8, a0g_9, a0g_10, Value.int na0_11, a0g_12, a0g_13, Value.int a0_14, Value.ref a0_15, a0g_16, a0g_17, a0g_18, a0g_19, a0g_20, a0g_21, a0g_22, a0g_23, a0g_24, a0g_25, a0g_26, a0g_27, a0g_28, a0g_29, a0g_30, a0g_31, a0g_32, a0g_33, Value.ref a0_34, a0g_35, a0g_36, a0g_37, a0g_38, a0g_39])), (a0_15, .inl (ka0_15, 156, .inl (fa0_15))), (a0_34, .inl (ka0_34, 9, .inl (nfa0_34)))] [(ka0_15, .int), (ka0_34, .int)] t) A) := by
  refine zh (cc := cX8_fits) (maxL := 3) (ret := (some .int)) zn_RX8 rfl (Nat.le_of_ble_eq_true rfl) (fun p e s m below meth c A ls hx hb hml hr hts (hown : s.vm.findClass RX8 = some m.cls) hlocks hA hS hP hK hD hE (hl : lv_has ls 3 [(0, .ref a0)]) => ?_)
  refine ai_open (fun K hK0 => ?_)
  refine (hK0 _ _ _).mpr ?_
  refine lv_aload_n hx hb dX8_fits_0 rfl (lv_at hl 0 rfl) ?_
  refine va_callv (va_runV (As := []) (rest := []) ⟨hx, hb, hml, hown, hts⟩ (c_X8_good l dC dI s.heap.size a0 a0_0 a0g_1 a0g_2 a0g_3 a0g_4 a0g_5 a0g_6 a0g_7 a0g_8 a0g_9 a0g_10 a0g_12 a0g_13 (Value.int a0_14) (Value.ref a0_15) a0g_16 a0g_17 a0g_18 a0g_19 a0g_20 a0g_21 a0g_22 a0g_23 a0g_24 a0g_25 a0g_26 a0g_27 a0g_28 a0g_29 a0g_30 a0g_31 a0g_32 a0g_33 (Value.ref a0_34) a0g_35 a0g_36 a0g_37 a0g_38 a0g_39 a0_11 ) (cwV 0 hts gX8_fits_X8_good rfl rfl rfl zd_X8_good ⟨Nat.le_of_ble_eq_true rfl, Nat.le_of_ble_eq_true rfl⟩) ⟨ax_blind (fun _ _ _ _ _ => trivial), zr_8 (zp_K hK) (zp_P1 hP) (q0 := 0) rfl, ax_pre (zp_P1 hP) (zp_K hK) (zp_D1 hD) (fun _ _ => trivial)⟩ rfl rfl hl.1 rfl (lv_room (Nat.le_of_ble_eq_true rfl)) dX8_fits_1 ⟨Nat.le_of_ble_eq_true rfl, Nat.le_of_ble_eq_true rfl⟩) hS (fun q _ h => zp_F1 hD hS hA q h) (zp_F1 hD hS hA) (fun u t H locs ht hvm hw hB hz1 hk1 hS1 => zx_2 hB (fun v1na0_0 v1na0_11 hB => zo1 hB ht hP hD hk1 (zp_F1 hD hS hA) hS1 (fun hP hK1 hD hS => ?_)))
  refine lv_aload_n hx hb dX8_fits_4 rfl (lv_at hl 0 rfl) ?_
  refine va_get (D := (dC, dI)) (ci := 8) (v := .int a0_14) (C := RX8) (T := TX8) (N := 40) hx hb hts zi_X8_fits_8 hown hK hP 0 rfl rfl 14 (by decide) (hts (.fieldLink RX8 173 "WaxTurnsModel" "hasGallery" "Z") (zm_X8_fits_r1 (List.mem_of_getElem? (i := 0) rfl))) (fun _ h9 => h9) rfl dX8_fits_5 ?_
  refine lv_if_ne (tgt := 17) hx hb dX8_fits_8 (by decide) (fun c8 => ?_) (fun c8 => ?_)
  · have gc8 := ai_ne c8
    refine lv_iconst (v := 0) hx hb dX8_fits_17 zk_iconst_0 ?_
    refine lv_istore_n (lv' := [(1, .int 0), (0, .ref a0)]) hx hb dX8_fits_18 rfl hl (by decide) rfl (fun ls hl => ?_)
    refine lv_iconst (v := 0) hx hb dX8_fits_19 zk_iconst_0 ?_
    refine lv_istore_n (lv' := [(2, .int 0), (1, .int 0), (0, .ref a0)]) hx hb dX8_fits_20 rfl hl (by decide) rfl (fun ls hl => ?_)
    have J21 : ∀ (n : Nat) (j21l2 : Int32) (j21l1 : Int32) (j21a0_34_a : Nat → Int32) (H : Heap) (locs : List Loc) (ls : Array Slot), (730 : Int) - j21l2.toInt ≤ (n : Int) → (0 : Int) ≤ j21l2.toInt → j21l2.toInt ≤ (729 : Int) → va_P (dC, dI) vwCl [(a0, .inr (8, [Value.int v1na0_0, a0g_1, a0g_2, a0g_3, a0g_4, a0g_5, a0g_6, a0g_7, a0g_8, a0g_9, a0g_10, Value.int v1na0_11, a0g_12, a0g_13, Value.int a0_14, Value.ref a0_15, a0g_16, a0g_17, a0g_18, a0g_19, a0g_20, a0g_21, a0g_22, a0g_23, a0g_24, a0g_25, a0g_26, a0g_27, a0g_28, a0g_29, a0g_30, a0g_31, a0g_32, a0g_33, Value.ref a0_34, a0g_35, a0g_36, a0g_37, a0g_38, a0g_39])), (a0_15, .inl (ka0_15, 156, .inl (fa0_15))), (a0_34, .inl (ka0_34, 9, .inl (j21a0_34_a)))] H → va_D A [(a0, .inr (8, [Value.int v1na0_0, a0g_1, a0g_2, a0g_3, a0g_4, a0g_5, a0g_6, a0g_7, a0g_8, a0g_9, a0g_10, Value.int v1na0_11, a0g_12, a0g_13, Value.int a0_14, Value.ref a0_15, a0g_16, a0g_17, a0g_18, a0g_19, a0g_20, a0g_21, a0g_22, a0g_23, a0g_24, a0g_25, a0g_26, a0g_27, a0g_28, a0g_29, a0g_30, a0g_31, a0g_32, a0g_33, Value.ref a0_34, a0g_35, a0g_36, a0g_37, a0g_38, a0g_39])), (a0_15, .inl (ka0_15, 156, .inl (fa0_15))), (a0_34, .inl (ka0_34, 9, .inl (j21a0_34_a)))] → va_S A s.heap H locs → lv_has ls 3 [(0, .ref a0), (1, .int j21l1), (2, .int j21l2)] → K H locs (F0 m 21 ls []) := by
      intro n
      induction n with
      | zero =>
        intro j21l2 j21l1 j21a0_34_a H locs ls hm bj21l2_l bj21l2_u hP hD hS hl
        have h8 := ai_min j21l2
        have h9 := ai_max j21l2
        exact absurd hm (by omega)
      | succ n ih21 =>
        intro j21l2 j21l1 j21a0_34_a H locs ls hm bj21l2_l bj21l2_u hP hD hS hl
        refine (hK0 _ _ _).mpr ?_
        have hm21 := hm
        refine lv_iload_n hx hb dX8_fits_21 rfl (lv_at hl 2 rfl) ?_
        refine lv_aload_n hx hb dX8_fits_22 rfl (lv_at hl 0 rfl) ?_
        have hKc := hK.sub (tys' := [(ka0_15, .int)]) [0] rfl
        refine va_calli (va_runV (As := []) (rest := [.int j21l2]) ⟨hx, hb, hml, hown, hts⟩ (c_X8_codes l dC dI H.size a0 (Value.int v1na0_0) a0g_1 a0g_2 a0g_3 a0g_4 a0g_5 a0g_6 a0g_7 a0g_8 a0g_9 a0g_10 (Value.int v1na0_11) a0g_12 a0g_13 (Value.int a0_14) a0g_16 a0g_17 a0g_18 a0g_19 a0g_20 a0g_21 a0g_22 a0g_23 a0g_24 a0g_25 a0g_26 a0g_27 a0g_28 a0g_29 a0g_30 a0g_31 a0g_32 a0g_33 (Value.ref a0_34) a0g_35 a0g_36 a0g_37 a0g_38 a0g_39 a0_15 ka0_15 fa0_15 bfa0_15) (cwV 0 hts gX8_fits_X8_codes rfl rfl rfl zd_X8_codes ⟨Nat.le_of_ble_eq_true rfl, Nat.le_of_ble_eq_true rfl⟩) ⟨ax_blind (fun _ _ _ _ _ => trivial), zr_8 hKc (zp_P2 hP) (q0 := 0) rfl, ax_pre (zp_P2 hP) hKc (zp_D2 hD) (fun _ _ => trivial)⟩ rfl rfl hl.1 rfl (lv_room (Nat.le_of_ble_eq_true rfl)) dX8_fits_23 ⟨Nat.le_of_ble_eq_true rfl, Nat.le_of_ble_eq_true rfl⟩) hS (fun q _ h => zp_F2 hD hS hA q h) (zp_F2 hD hS hA) (fun r23 u t H locs ht hvm hw hB hz1 hk1 hS1 => zo2 hB ht hP hD hk1 (zp_F2 hD hS hA) hS1 (fun hP hK1 hD hS => ?_))
        have hw : (8 : Int) ≤ r23.toInt ∧ r23.toInt ≤ (729 : Int) := hw
        obtain ⟨h23_0, h23_1⟩ := hw
        refine lv_icmp_ge (tgt := 51) hx hb dX8_fits_26 (by decide) (fun c26 => ?_) (fun c26 => ?_)
        · have gc26 := ai_le c26
          have u26t_r23 : r23.toInt ≤ (729 : Int) := h23_1
          have l26t_j21l2 : (8 : Int) ≤ j21l2.toInt := Int.le_trans h23_0 gc26
          refine lv_iload_n hx hb dX8_fits_51 rfl (lv_at hl 1 rfl) ?_
          exact W.iret (v := j21l1) hx hb hr (fun t ht hW => ⟨⟨j21l1, (), rfl, trivial, v1na0_0, v1na0_11, j21a0_34_a, by rw [ht]; exact hP, va_K.moved hW.alike hK, hD⟩, hS.F ht⟩) hS.2.2 dX8_fits_52
        · have gc26 := ai_nle c26
          have u26f_j21l2 : j21l2.toInt ≤ (728 : Int) := ai_lthi gc26 h23_1
          have l26f_r23 : (8 : Int) ≤ r23.toInt := h23_0
          refine lv_iload_n hx hb dX8_fits_29 rfl (lv_at hl 1 rfl) ?_
          refine lv_aload_n hx hb dX8_fits_30 rfl (lv_at hl 0 rfl) ?_
          refine lv_iload_n hx hb dX8_fits_31 rfl (lv_at hl 2 rfl) ?_
          have hKc := hK.sub (tys' := [(ka0_15, .int), (ka0_34, .int)]) [0, 1] rfl
          refine va_calli (va_runV (As := [.int j21l2]) (rest := [.int j21l1]) ⟨hx, hb, hml, hown, hts⟩ (c_X8_doesFit l dC dI H.size a0 j21l2 (Value.int v1na0_0) a0g_1 a0g_2 a0g_3 a0g_4 a0g_5 a0g_6 a0g_7 a0g_8 a0g_9 a0g_10 (Value.int v1na0_11) a0g_12 a0g_13 (Value.int a0_14) a0g_16 a0g_17 a0g_18 a0g_19 a0g_20 a0g_21 a0g_22 a0g_23 a0g_24 a0g_25 a0g_26 a0g_27 a0g_28 a0g_29 a0g_30 a0g_31 a0g_32 a0g_33 a0g_35 a0g_36 a0g_37 a0g_38 a0g_39 a0_15 a0_34 ka0_15 fa0_15 ka0_34 j21a0_34_a bj21l2_l u26f_j21l2 bfa0_15) (cwV 1 hts gX8_fits_X8_doesFit rfl rfl rfl zd_X8_doesFit ⟨Nat.le_of_ble_eq_true rfl, Nat.le_of_ble_eq_true rfl⟩) ⟨ax_blind (fun _ _ _ _ _ => trivial), zr_8 hKc (zp_P3 hP) (q0 := 0) rfl, ax_pre (zp_P3 hP) hKc (zp_D3 hD) (fun _ _ => trivial)⟩ rfl rfl hl.1 rfl (lv_room (Nat.le_of_ble_eq_true rfl)) dX8_fits_32 ⟨Nat.le_of_ble_eq_true rfl, Nat.le_of_ble_eq_true rfl⟩) hS (fun q _ h => zp_F3 hD hS hA q h) (zp_F3 hD hS hA) (fun r32 u t H locs ht hvm hw hB hz1 hk1 hS1 => zx_1 hB (fun v32nfa0_34 hB => zo3 hB ht hP hD hk1 (zp_F3 hD hS hA) hS1 (fun hP hK1 hD hS => ?_)))
          rcases hw with hw | hw
          · subst hw
            refine lv_if_eq (tgt := 42) hx hb dX8_fits_35 (by decide) (fun c35 => absurd c35 (by decide +kernel)) (fun _ => ?_)
            have J43 : ∀ (j43s0 : Int32) (H : Heap) (locs : List Loc) (ls : Array Slot), (0 : Int) ≤ j43s0.toInt → j43s0.toInt ≤ (1 : Int) → va_P (dC, dI) vwCl [(a0, .inr (8, [Value.int v1na0_0, a0g_1, a0g_2, a0g_3, a0g_4, a0g_5, a0g_6, a0g_7, a0g_8, a0g_9, a0g_10, Value.int v1na0_11, a0g_12, a0g_13, Value.int a0_14, Value.ref a0_15, a0g_16, a0g_17, a0g_18, a0g_19, a0g_20, a0g_21, a0g_22, a0g_23, a0g_24, a0g_25, a0g_26, a0g_27, a0g_28, a0g_29, a0g_30, a0g_31, a0g_32, a0g_33, Value.ref a0_34, a0g_35, a0g_36, a0g_37, a0g_38, a0g_39])), (a0_15, .inl (ka0_15, 156, .inl (fa0_15))), (a0_34, .inl (ka0_34, 9, .inl (v32nfa0_34)))] H → va_D A [(a0, .inr (8, [Value.int v1na0_0, a0g_1, a0g_2, a0g_3, a0g_4, a0g_5, a0g_6, a0g_7, a0g_8, a0g_9, a0g_10, Value.int v1na0_11, a0g_12, a0g_13, Value.int a0_14, Value.ref a0_15, a0g_16, a0g_17, a0g_18, a0g_19, a0g_20, a0g_21, a0g_22, a0g_23, a0g_24, a0g_25, a0g_26, a0g_27, a0g_28, a0g_29, a0g_30, a0g_31, a0g_32, a0g_33, Value.ref a0_34, a0g_35, a0g_36, a0g_37, a0g_38, a0g_39])), (a0_15, .inl (ka0_15, 156, .inl (fa0_15))), (a0_34, .inl (ka0_34, 9, .inl (v32nfa0_34)))] → va_S A s.heap H locs → lv_has ls 3 [(0, .ref a0), (2, .int j21l2)] → K H locs (F0 m 43 ls [.int j43s0, .int j21l1]) := by
              intro j43s0 H locs ls  bj43s0_l bj43s0_u hP hD hS hl
              refine (hK0 _ _ _).mpr ?_
              refine lv_iadd hx hb dX8_fits_43 ?_
              refine lv_topi (fun x43 ex43 => ?_)
              refine lv_istore_n (lv' := [(1, .int x43), (0, .ref a0), (2, .int j21l2)]) hx hb dX8_fits_44 rfl hl (by decide) rfl (fun ls hl => ?_)
              obtain ⟨x45, ex45⟩ : ∃ y : Int32, y = j21l2 + Int32.ofInt 1 := ⟨_, rfl⟩
              have qx45 : x45.toInt = j21l2.toInt + 1 := ai_inc ex45 (by decide) (by decide) u26f_j21l2 (by decide)
              have bx45 : (1 : Int) ≤ x45.toInt ∧ x45.toInt ≤ 729 := ⟨by rw [qx45]; exact Int.add_le_add bj21l2_l (Int.le_refl _), by rw [qx45]; exact Int.add_le_add u26f_j21l2 (Int.le_refl _)⟩
              refine lv_iinc (v := x45) (lv' := [(2, .int x45), (1, .int x43), (0, .ref a0)]) hx hb dX8_fits_45 hl (k := 2) rfl ex45.symm (by decide) rfl (fun ls hl => ?_)
              refine lv_goto (tgt := 21) hx hb dX8_fits_48 (by decide) ?_
              exact (hK0 _ _ _).mp (ih21 x45 x43 v32nfa0_34 _ _ _ (by have h0 := qx45; omega) (Int.le_trans zq4 bx45.1) bx45.2 hP hD hS (lv_sub hl [2, 1, 0] rfl))
            refine lv_iconst (v := 1) hx hb dX8_fits_38 zk_iconst_1 ?_
            refine lv_goto (tgt := 43) hx hb dX8_fits_39 (by decide) ?_
            exact (hK0 _ _ _).mp (J43 1 _ _ _  (Int.le_trans zq4 zq1) zq0 hP hD hS (lv_sub hl [0, 2] rfl))
          · subst hw
            refine lv_if_eq (tgt := 42) hx hb dX8_fits_35 (by decide) (fun _ => ?_) (fun c35 => absurd (by decide +kernel) c35)
            have J43 : ∀ (j43s0 : Int32) (H : Heap) (locs : List Loc) (ls : Array Slot), (0 : Int) ≤ j43s0.toInt → j43s0.toInt ≤ (1 : Int) → va_P (dC, dI) vwCl [(a0, .inr (8, [Value.int v1na0_0, a0g_1, a0g_2, a0g_3, a0g_4, a0g_5, a0g_6, a0g_7, a0g_8, a0g_9, a0g_10, Value.int v1na0_11, a0g_12, a0g_13, Value.int a0_14, Value.ref a0_15, a0g_16, a0g_17, a0g_18, a0g_19, a0g_20, a0g_21, a0g_22, a0g_23, a0g_24, a0g_25, a0g_26, a0g_27, a0g_28, a0g_29, a0g_30, a0g_31, a0g_32, a0g_33, Value.ref a0_34, a0g_35, a0g_36, a0g_37, a0g_38, a0g_39])), (a0_15, .inl (ka0_15, 156, .inl (fa0_15))), (a0_34, .inl (ka0_34, 9, .inl (v32nfa0_34)))] H → va_D A [(a0, .inr (8, [Value.int v1na0_0, a0g_1, a0g_2, a0g_3, a0g_4, a0g_5, a0g_6, a0g_7, a0g_8, a0g_9, a0g_10, Value.int v1na0_11, a0g_12, a0g_13, Value.int a0_14, Value.ref a0_15, a0g_16, a0g_17, a0g_18, a0g_19, a0g_20, a0g_21, a0g_22, a0g_23, a0g_24, a0g_25, a0g_26, a0g_27, a0g_28, a0g_29, a0g_30, a0g_31, a0g_32, a0g_33, Value.ref a0_34, a0g_35, a0g_36, a0g_37, a0g_38, a0g_39])), (a0_15, .inl (ka0_15, 156, .inl (fa0_15))), (a0_34, .inl (ka0_34, 9, .inl (v32nfa0_34)))] → va_S A s.heap H locs → lv_has ls 3 [(0, .ref a0), (2, .int j21l2)] → K H locs (F0 m 43 ls [.int j43s0, .int j21l1]) := by
              intro j43s0 H locs ls  bj43s0_l bj43s0_u hP hD hS hl
              refine (hK0 _ _ _).mpr ?_
              refine lv_iadd hx hb dX8_fits_43 ?_
              refine lv_topi (fun x43 ex43 => ?_)
              refine lv_istore_n (lv' := [(1, .int x43), (0, .ref a0), (2, .int j21l2)]) hx hb dX8_fits_44 rfl hl (by decide) rfl (fun ls hl => ?_)
              obtain ⟨x45, ex45⟩ : ∃ y : Int32, y = j21l2 + Int32.ofInt 1 := ⟨_, rfl⟩
              have qx45 : x45.toInt = j21l2.toInt + 1 := ai_inc ex45 (by decide) (by decide) u26f_j21l2 (by decide)
              have bx45 : (1 : Int) ≤ x45.toInt ∧ x45.toInt ≤ 729 := ⟨by rw [qx45]; exact Int.add_le_add bj21l2_l (Int.le_refl _), by rw [qx45]; exact Int.add_le_add u26f_j21l2 (Int.le_refl _)⟩
              refine lv_iinc (v := x45) (lv' := [(2, .int x45), (1, .int x43), (0, .ref a0)]) hx hb dX8_fits_45 hl (k := 2) rfl ex45.symm (by decide) rfl (fun ls hl => ?_)
              refine lv_goto (tgt := 21) hx hb dX8_fits_48 (by decide) ?_
              exact (hK0 _ _ _).mp (ih21 x45 x43 v32nfa0_34 _ _ _ (by have h0 := qx45; omega) (Int.le_trans zq4 bx45.1) bx45.2 hP hD hS (lv_sub hl [2, 1, 0] rfl))
            refine lv_iconst (v := 0) hx hb dX8_fits_42 zk_iconst_0 ?_
            exact (hK0 _ _ _).mp (J43 0 _ _ _  zq5 (Int.le_trans zq6 zq4) hP hD hS (lv_sub hl [0, 2] rfl))
    exact (hK0 _ _ _).mp (J21 730 0 0 fa0_34 _ _ _ (by have h1 : (0 : Int) ≤ (0 : Int32).toInt := zq5; have h2 : (0 : Int32).toInt ≤ (0 : Int) := zq6; omega) zq5 (Int.le_trans zq6 zq35) hP hD hS (lv_sub hl [2, 1, 0] rfl))
  · have gc8 := ai_eq c8
    have u8f_a0_14 : a0_14.toInt ≤ (0 : Int) := Int.le_trans (Int.le_of_eq gc8) zq6
    have l8f_a0_14 : (1 : Int) ≤ a0_14.toInt := ba0_14_l
    exact absurd (Int.le_trans l8f_a0_14 u8f_a0_14) (by decide)
end P250_00_safe
section P250_01_safe
set_option maxHeartbeats 4000000 in
set_option maxRecDepth 100000 in
theorem c_X8_fitAt (l : Launch) (dC : Nat → ClassId) (dI : Nat → Nat → Nat) (sz : Nat) (a0 : Nat) (a1 : Int32) (a0_0 : Int32) (a0g_1 a0g_2 a0g_3 a0g_4 a0g_5 a0g_6 a0g_7 a0g_8 a0g_9 a0g_10 a0g_12 a0g_13 a0g_16 a0g_17 a0g_18 a0g_19 a0g_20 a0g_21 a0g_22 a0g_23 a0g_24 a0g_25 a0g_26 a0g_27 a0g_28 a0g_29 a0g_30 a0g_31 a0g_32 a0g_33 a0g_35 a0g_36 a0g_37 a0g_38 a0g_39 : Value) (a0_11 : Int32) (a0_14 : Int32) (a0_15 : Nat) (a0_34 : Nat) (ka0_15 : ClassId) (fa0_15 : Nat → Int32) (ka0_34 : ClassId) (fa0_34 : Nat → Int32) (ba0_14_l : (1 : Int) ≤ a0_14.toInt) (ba0_14_u : a0_14.toInt ≤ (1 : Int)) (bfa0_15 : ((∀ k : Nat, 0 ≤ k → k ≤ 0 → (2 : Int) ≤ (fa0_15 k).toInt ∧ (fa0_15 k).toInt ≤ 9) ∧ (∀ k : Nat, 1 ≤ k → k ≤ 1 → (1 : Int) ≤ (fa0_15 k).toInt ∧ (fa0_15 k).toInt ≤ 20) ∧ (∀ k : Nat, 2 ≤ k → k ≤ 2 → (0 : Int) ≤ (fa0_15 k).toInt ∧ (fa0_15 k).toInt ≤ 8) ∧ (∀ k : Nat, 3 ≤ k → k ≤ 3 → (0 : Int) ≤ (fa0_15 k).toInt ∧ (fa0_15 k).toInt ≤ 100) ∧ (∀ k : Nat, 4 ≤ k → k ≤ 4 → (0 : Int) ≤ (fa0_15 k).toInt ∧ (fa0_15 k).toInt ≤ 9) ∧ (∀ k : Nat, 5 ≤ k → k ≤ 5 → (0 : Int) ≤ (fa0_15 k).toInt ∧ (fa0_15 k).toInt ≤ 3) ∧ (∀ k : Nat, 6 ≤ k → k ≤ 6 → (0 : Int) ≤ (fa0_15 k).toInt ∧ (fa0_15 k).toInt ≤ 6) ∧ (∀ k : Nat, 7 ≤ k → k ≤ 9 → (0 : Int) ≤ (fa0_15 k).toInt ∧ (fa0_15 k).toInt ≤ 8) ∧ (∀ k : Nat, 12 ≤ k → k ≤ 29 → (0 : Int) ≤ (fa0_15 k).toInt ∧ (fa0_15 k).toInt ≤ 20) ∧ (∀ k : Nat, 30 ≤ k → k ≤ 35 → (0 : Int) ≤ (fa0_15 k).toInt ∧ (fa0_15 k).toInt ≤ 8) ∧ (∀ k : Nat, 36 ≤ k → k ≤ 47 → (0 : Int) ≤ (fa0_15 k).toInt ∧ (fa0_15 k).toInt ≤ 999))) : zm l yX8_fitAt wsX8_fitAt ({ frames := 3, cells := 0, slots := 0, locals := 72 }) [.ref a0, .int a1] dC dI sz [(a0, .inr (8, [Value.int a0_0, a0g_1, a0g_2, a0g_3, a0g_4, a0g_5, a0g_6, a0g_7, a0g_8, a0g_9, a0g_10, Value.int a0_11, a0g_12, a0g_13, Value.int a0_14, Value.ref a0_15, a0g_16, a0g_17, a0g_18, a0g_19, a0g_20, a0g_21, a0g_22, a0g_23, a0g_24, a0g_25, a0g_26, a0g_27, a0g_28, a0g_29, a0g_30, a0g_31, a0g_32, a0g_33, Value.ref a0_34, a0g_35, a0g_36, a0g_37, a0g_38, a0g_39])), (a0_15, .inl (ka0_15, 156, .inl (fa0_15))), (a0_34, .inl (ka0_34, 9, .inl (fa0_34)))] [(ka0_15, .int), (ka0_34, .int)] (fun A _ => True) (fun A => va_Qi (fun (r : Int32) (_ : Unit) => (-1 : Int) ≤ r.toInt ∧ r.toInt ≤ (72888 : Int)) (fun (_ : Unit) (t : State) => ∃ na0_0 : Int32, ∃ na0_11 : Int32, ∃ nfa0_34 : Nat → Int32, ax_B dC dI A [(a0, .inr (8, [Value.int na0_0, a0g_1, a0g_2, a0g_3, a0g_4, a0g_5, a0g_6, a0g_7, a0g_8, a0g_9, a0g_10, Value.int na0_11, a0g_12, a0g_13, Value.int a0_14, Value.ref a0_15, a0g_16, a0g_17, a0g_18, a0g_19, a0g_20, a0g_21, a0g_22, a0g_23, a0g_24, a0g_25, a0g_26, a0g_27, a0g_28, a0g_29, a0g_30, a0g_31, a0g_32, a0g_33, Value.ref a0_34, a0g_35, a0g_36, a0g_37, a0g_38, a0g_39])), (a0_15, .inl (ka0_15, 156, .inl (fa0_15))), (a0_34, .inl (ka0_34, 9, .inl (nfa0_34)))] [(ka0_15, .int), (ka0_34, .int)] t) A) := by
  refine zh (cc := cX8_fitAt) (maxL := 4) (ret := (some .int)) zn_RX8 rfl (Nat.le_of_ble_eq_true rfl) (fun p e s m below meth c A ls hx hb hml hr hts (hown : s.vm.findClass RX8 = some m.cls) hlocks hA hS hP hK hD hE (hl : lv_has ls 4 [(0, .ref a0), (1, .int a1)]) => ?_)
  refine ai_open (fun K hK0 => ?_)
  refine (hK0 _ _ _).mpr ?_
  refine lv_aload_n hx hb dX8_fitAt_0 rfl (lv_at hl 0 rfl) ?_
  refine va_callv (va_runV (As := []) (rest := []) ⟨hx, hb, hml, hown, hts⟩ (c_X8_good l dC dI s.heap.size a0 a0_0 a0g_1 a0g_2 a0g_3 a0g_4 a0g_5 a0g_6 a0g_7 a0g_8 a0g_9 a0g_10 a0g_12 a0g_13 (Value.int a0_14) (Value.ref a0_15) a0g_16 a0g_17 a0g_18 a0g_19 a0g_20 a0g_21 a0g_22 a0g_23 a0g_24 a0g_25 a0g_26 a0g_27 a0g_28 a0g_29 a0g_30 a0g_31 a0g_32 a0g_33 (Value.ref a0_34) a0g_35 a0g_36 a0g_37 a0g_38 a0g_39 a0_11 ) (cwV 0 hts gX8_fitAt_X8_good rfl rfl rfl zd_X8_good ⟨Nat.le_of_ble_eq_true rfl, Nat.le_of_ble_eq_true rfl⟩) ⟨ax_blind (fun _ _ _ _ _ => trivial), zr_8 (zp_K hK) (zp_P1 hP) (q0 := 0) rfl, ax_pre (zp_P1 hP) (zp_K hK) (zp_D1 hD) (fun _ _ => trivial)⟩ rfl rfl hl.1 rfl (lv_room (Nat.le_of_ble_eq_true rfl)) dX8_fitAt_1 ⟨Nat.le_of_ble_eq_true rfl, Nat.le_of_ble_eq_true rfl⟩) hS (fun q _ h => zp_F1 hD hS hA q h) (zp_F1 hD hS hA) (fun u t H locs ht hvm hw hB hz1 hk1 hS1 => zx_2 hB (fun v1na0_0 v1na0_11 hB => zo1 hB ht hP hD hk1 (zp_F1 hD hS hA) hS1 (fun hP hK1 hD hS => ?_)))
  refine lv_aload_n hx hb dX8_fitAt_4 rfl (lv_at hl 0 rfl) ?_
  refine va_get (D := (dC, dI)) (ci := 8) (v := .int a0_14) (C := RX8) (T := TX8) (N := 40) hx hb hts zi_X8_fitAt_8 hown hK hP 0 rfl rfl 14 (by decide) (hts (.fieldLink RX8 173 "WaxTurnsModel" "hasGallery" "Z") (zm_X8_fitAt_r1 (List.mem_of_getElem? (i := 0) rfl))) (fun _ h9 => h9) rfl dX8_fitAt_5 ?_
  refine lv_if_ne (tgt := 17) hx hb dX8_fitAt_8 (by decide) (fun c8 => ?_) (fun c8 => ?_)
  · have gc8 := ai_ne c8
    refine lv_iconst (v := 0) hx hb dX8_fitAt_17 zk_iconst_0 ?_
    refine lv_istore_n (lv' := [(2, .int 0), (0, .ref a0), (1, .int a1)]) hx hb dX8_fitAt_18 rfl hl (by decide) rfl (fun ls hl => ?_)
    refine lv_iconst (v := 0) hx hb dX8_fitAt_19 zk_iconst_0 ?_
    refine lv_istore_n (lv' := [(3, .int 0), (2, .int 0), (0, .ref a0), (1, .int a1)]) hx hb dX8_fitAt_20 rfl hl (by decide) rfl (fun ls hl => ?_)
    have J21 : ∀ (n : Nat) (j21l3 : Int32) (j21l2 : Int32) (j21a0_34_a : Nat → Int32) (H : Heap) (locs : List Loc) (ls : Array Slot), (730 : Int) - j21l3.toInt ≤ (n : Int) → (0 : Int) ≤ j21l3.toInt → j21l3.toInt ≤ (729 : Int) → va_P (dC, dI) vwCl [(a0, .inr (8, [Value.int v1na0_0, a0g_1, a0g_2, a0g_3, a0g_4, a0g_5, a0g_6, a0g_7, a0g_8, a0g_9, a0g_10, Value.int v1na0_11, a0g_12, a0g_13, Value.int a0_14, Value.ref a0_15, a0g_16, a0g_17, a0g_18, a0g_19, a0g_20, a0g_21, a0g_22, a0g_23, a0g_24, a0g_25, a0g_26, a0g_27, a0g_28, a0g_29, a0g_30, a0g_31, a0g_32, a0g_33, Value.ref a0_34, a0g_35, a0g_36, a0g_37, a0g_38, a0g_39])), (a0_15, .inl (ka0_15, 156, .inl (fa0_15))), (a0_34, .inl (ka0_34, 9, .inl (j21a0_34_a)))] H → va_D A [(a0, .inr (8, [Value.int v1na0_0, a0g_1, a0g_2, a0g_3, a0g_4, a0g_5, a0g_6, a0g_7, a0g_8, a0g_9, a0g_10, Value.int v1na0_11, a0g_12, a0g_13, Value.int a0_14, Value.ref a0_15, a0g_16, a0g_17, a0g_18, a0g_19, a0g_20, a0g_21, a0g_22, a0g_23, a0g_24, a0g_25, a0g_26, a0g_27, a0g_28, a0g_29, a0g_30, a0g_31, a0g_32, a0g_33, Value.ref a0_34, a0g_35, a0g_36, a0g_37, a0g_38, a0g_39])), (a0_15, .inl (ka0_15, 156, .inl (fa0_15))), (a0_34, .inl (ka0_34, 9, .inl (j21a0_34_a)))] → va_S A s.heap H locs → lv_has ls 4 [(0, .ref a0), (1, .int a1), (2, .int j21l2), (3, .int j21l3)] → K H locs (F0 m 21 ls []) := by
      intro n
      induction n with
      | zero =>
        intro j21l3 j21l2 j21a0_34_a H locs ls hm bj21l3_l bj21l3_u hP hD hS hl
        have h8 := ai_min j21l3
        have h9 := ai_max j21l3
        exact absurd hm (by omega)
      | succ n ih21 =>
        intro j21l3 j21l2 j21a0_34_a H locs ls hm bj21l3_l bj21l3_u hP hD hS hl
        refine (hK0 _ _ _).mpr ?_
        have hm21 := hm
        refine lv_iload_n hx hb dX8_fitAt_21 rfl (lv_at hl 3 rfl) ?_
        refine lv_aload_n hx hb dX8_fitAt_22 rfl (lv_at hl 0 rfl) ?_
        have hKc := hK.sub (tys' := [(ka0_15, .int)]) [0] rfl
        refine va_calli (va_runV (As := []) (rest := [.int j21l3]) ⟨hx, hb, hml, hown, hts⟩ (c_X8_codes l dC dI H.size a0 (Value.int v1na0_0) a0g_1 a0g_2 a0g_3 a0g_4 a0g_5 a0g_6 a0g_7 a0g_8 a0g_9 a0g_10 (Value.int v1na0_11) a0g_12 a0g_13 (Value.int a0_14) a0g_16 a0g_17 a0g_18 a0g_19 a0g_20 a0g_21 a0g_22 a0g_23 a0g_24 a0g_25 a0g_26 a0g_27 a0g_28 a0g_29 a0g_30 a0g_31 a0g_32 a0g_33 (Value.ref a0_34) a0g_35 a0g_36 a0g_37 a0g_38 a0g_39 a0_15 ka0_15 fa0_15 bfa0_15) (cwV 0 hts gX8_fitAt_X8_codes rfl rfl rfl zd_X8_codes ⟨Nat.le_of_ble_eq_true rfl, Nat.le_of_ble_eq_true rfl⟩) ⟨ax_blind (fun _ _ _ _ _ => trivial), zr_8 hKc (zp_P2 hP) (q0 := 0) rfl, ax_pre (zp_P2 hP) hKc (zp_D2 hD) (fun _ _ => trivial)⟩ rfl rfl hl.1 rfl (lv_room (Nat.le_of_ble_eq_true rfl)) dX8_fitAt_23 ⟨Nat.le_of_ble_eq_true rfl, Nat.le_of_ble_eq_true rfl⟩) hS (fun q _ h => zp_F2 hD hS hA q h) (zp_F2 hD hS hA) (fun r23 u t H locs ht hvm hw hB hz1 hk1 hS1 => zo2 hB ht hP hD hk1 (zp_F2 hD hS hA) hS1 (fun hP hK1 hD hS => ?_))
        have hw : (8 : Int) ≤ r23.toInt ∧ r23.toInt ≤ (729 : Int) := hw
        obtain ⟨h23_0, h23_1⟩ := hw
        refine lv_icmp_ge (tgt := 60) hx hb dX8_fitAt_26 (by decide) (fun c26 => ?_) (fun c26 => ?_)
        · have gc26 := ai_le c26
          have u26t_r23 : r23.toInt ≤ (729 : Int) := h23_1
          have l26t_j21l3 : (8 : Int) ≤ j21l3.toInt := Int.le_trans h23_0 gc26
          refine lv_aload_n hx hb dX8_fitAt_60 rfl (lv_at hl 0 rfl) ?_
          refine lv_iconst (v := 1) hx hb dX8_fitAt_61 zk_iconst_1 ?_
          refine va_calli (va_runV (As := [.int 1]) (rest := []) ⟨hx, hb, hml, hown, hts⟩ (c_X8_no l dC dI H.size a0 1 (Value.int v1na0_0) a0g_1 a0g_2 a0g_3 a0g_4 a0g_5 a0g_6 a0g_7 a0g_8 a0g_9 a0g_10 a0g_12 a0g_13 (Value.int a0_14) (Value.ref a0_15) a0g_16 a0g_17 a0g_18 a0g_19 a0g_20 a0g_21 a0g_22 a0g_23 a0g_24 a0g_25 a0g_26 a0g_27 a0g_28 a0g_29 a0g_30 a0g_31 a0g_32 a0g_33 (Value.ref a0_34) a0g_35 a0g_36 a0g_37 a0g_38 a0g_39 v1na0_11 ) (cwV 1 hts gX8_fitAt_X8_no rfl rfl rfl zd_X8_no ⟨Nat.le_of_ble_eq_true rfl, Nat.le_of_ble_eq_true rfl⟩) ⟨ax_blind (fun _ _ _ _ _ => trivial), zr_8 (zp_K hK) (zp_P1 hP) (q0 := 0) rfl, ax_pre (zp_P1 hP) (zp_K hK) (zp_D1 hD) (fun _ _ => trivial)⟩ rfl rfl hl.1 rfl (lv_room (Nat.le_of_ble_eq_true rfl)) dX8_fitAt_62 ⟨Nat.le_of_ble_eq_true rfl, Nat.le_of_ble_eq_true rfl⟩) hS (fun q _ h => zp_F1 hD hS hA q h) (zp_F1 hD hS hA) (fun r62 u t H locs ht hvm hw hB hz1 hk1 hS1 => zx_1 hB (fun v62na0_11 hB => zo1 hB ht hP hD hk1 (zp_F1 hD hS hA) hS1 (fun hP hK1 hD hS => ?_)))
          have hw : r62 = (-1) := hw
          have hw := hw.symm
          subst hw
          exact W.iret (v := (-1)) hx hb hr (fun t ht hW => ⟨⟨(-1), (), rfl, ⟨zq70, (Int.le_trans zq71 zq184)⟩, v1na0_0, v62na0_11, j21a0_34_a, by rw [ht]; exact hP, va_K.moved hW.alike hK, hD⟩, hS.F ht⟩) hS.2.2 dX8_fitAt_65
        · have gc26 := ai_nle c26
          have u26f_j21l3 : j21l3.toInt ≤ (728 : Int) := ai_lthi gc26 h23_1
          have l26f_r23 : (8 : Int) ≤ r23.toInt := h23_0
          refine lv_aload_n hx hb dX8_fitAt_29 rfl (lv_at hl 0 rfl) ?_
          refine lv_iload_n hx hb dX8_fitAt_30 rfl (lv_at hl 3 rfl) ?_
          have hKc := hK.sub (tys' := [(ka0_15, .int), (ka0_34, .int)]) [0, 1] rfl
          refine va_calli (va_runV (As := [.int j21l3]) (rest := []) ⟨hx, hb, hml, hown, hts⟩ (c_X8_doesFit l dC dI H.size a0 j21l3 (Value.int v1na0_0) a0g_1 a0g_2 a0g_3 a0g_4 a0g_5 a0g_6 a0g_7 a0g_8 a0g_9 a0g_10 (Value.int v1na0_11) a0g_12 a0g_13 (Value.int a0_14) a0g_16 a0g_17 a0g_18 a0g_19 a0g_20 a0g_21 a0g_22 a0g_23 a0g_24 a0g_25 a0g_26 a0g_27 a0g_28 a0g_29 a0g_30 a0g_31 a0g_32 a0g_33 a0g_35 a0g_36 a0g_37 a0g_38 a0g_39 a0_15 a0_34 ka0_15 fa0_15 ka0_34 j21a0_34_a bj21l3_l u26f_j21l3 bfa0_15) (cwV 1 hts gX8_fitAt_X8_doesFit rfl rfl rfl zd_X8_doesFit ⟨Nat.le_of_ble_eq_true rfl, Nat.le_of_ble_eq_true rfl⟩) ⟨ax_blind (fun _ _ _ _ _ => trivial), zr_8 hKc (zp_P3 hP) (q0 := 0) rfl, ax_pre (zp_P3 hP) hKc (zp_D3 hD) (fun _ _ => trivial)⟩ rfl rfl hl.1 rfl (lv_room (Nat.le_of_ble_eq_true rfl)) dX8_fitAt_31 ⟨Nat.le_of_ble_eq_true rfl, Nat.le_of_ble_eq_true rfl⟩) hS (fun q _ h => zp_F3 hD hS hA q h) (zp_F3 hD hS hA) (fun r31 u t H locs ht hvm hw hB hz1 hk1 hS1 => zx_1 hB (fun v31nfa0_34 hB => zo3 hB ht hP hD hk1 (zp_F3 hD hS hA) hS1 (fun hP hK1 hD hS => ?_)))
          rcases hw with hw | hw
          · subst hw
            refine lv_if_ne (tgt := 40) hx hb dX8_fitAt_34 (by decide) (fun _ => ?_) (fun c34 => absurd c34 (by decide +kernel))
            have J54 : ∀ (j54l2 : Int32) (H : Heap) (locs : List Loc) (ls : Array Slot), va_P (dC, dI) vwCl [(a0, .inr (8, [Value.int v1na0_0, a0g_1, a0g_2, a0g_3, a0g_4, a0g_5, a0g_6, a0g_7, a0g_8, a0g_9, a0g_10, Value.int v1na0_11, a0g_12, a0g_13, Value.int a0_14, Value.ref a0_15, a0g_16, a0g_17, a0g_18, a0g_19, a0g_20, a0g_21, a0g_22, a0g_23, a0g_24, a0g_25, a0g_26, a0g_27, a0g_28, a0g_29, a0g_30, a0g_31, a0g_32, a0g_33, Value.ref a0_34, a0g_35, a0g_36, a0g_37, a0g_38, a0g_39])), (a0_15, .inl (ka0_15, 156, .inl (fa0_15))), (a0_34, .inl (ka0_34, 9, .inl (v31nfa0_34)))] H → va_D A [(a0, .inr (8, [Value.int v1na0_0, a0g_1, a0g_2, a0g_3, a0g_4, a0g_5, a0g_6, a0g_7, a0g_8, a0g_9, a0g_10, Value.int v1na0_11, a0g_12, a0g_13, Value.int a0_14, Value.ref a0_15, a0g_16, a0g_17, a0g_18, a0g_19, a0g_20, a0g_21, a0g_22, a0g_23, a0g_24, a0g_25, a0g_26, a0g_27, a0g_28, a0g_29, a0g_30, a0g_31, a0g_32, a0g_33, Value.ref a0_34, a0g_35, a0g_36, a0g_37, a0g_38, a0g_39])), (a0_15, .inl (ka0_15, 156, .inl (fa0_15))), (a0_34, .inl (ka0_34, 9, .inl (v31nfa0_34)))] → va_S A s.heap H locs → lv_has ls 4 [(0, .ref a0), (1, .int a1), (2, .int j54l2), (3, .int j21l3)] → K H locs (F0 m 54 ls []) := by
              intro j54l2 H locs ls   hP hD hS hl
              refine (hK0 _ _ _).mpr ?_
              obtain ⟨x54, ex54⟩ : ∃ y : Int32, y = j21l3 + Int32.ofInt 1 := ⟨_, rfl⟩
              have qx54 : x54.toInt = j21l3.toInt + 1 := ai_inc ex54 (by decide) (by decide) u26f_j21l3 (by decide)
              have bx54 : (1 : Int) ≤ x54.toInt ∧ x54.toInt ≤ 729 := ⟨by rw [qx54]; exact Int.add_le_add bj21l3_l (Int.le_refl _), by rw [qx54]; exact Int.add_le_add u26f_j21l3 (Int.le_refl _)⟩
              refine lv_iinc (v := x54) (lv' := [(3, .int x54), (0, .ref a0), (1, .int a1), (2, .int j54l2)]) hx hb dX8_fitAt_54 hl (k := 3) rfl ex54.symm (by decide) rfl (fun ls hl => ?_)
              refine lv_goto (tgt := 21) hx hb dX8_fitAt_57 (by decide) ?_
              exact (hK0 _ _ _).mp (ih21 x54 j54l2 v31nfa0_34 _ _ _ (by have h0 := qx54; omega) (Int.le_trans zq4 bx54.1) bx54.2 hP hD hS (lv_sub hl [1, 2, 3, 0] rfl))
            refine lv_iload_n hx hb dX8_fitAt_40 rfl (lv_at hl 2 rfl) ?_
            refine lv_iload_n hx hb dX8_fitAt_41 rfl (lv_at hl 1 rfl) ?_
            refine lv_icmp_ne (tgt := 51) hx hb dX8_fitAt_42 (by decide) (fun c42 => ?_) (fun c42 => ?_)
            · have gc42 := ai_ne c42
              obtain ⟨x51, ex51⟩ : ∃ y : Int32, y = j21l2 + Int32.ofInt 1 := ⟨_, rfl⟩
              refine lv_iinc (v := x51) (lv' := [(2, .int x51), (0, .ref a0), (1, .int a1), (3, .int j21l3)]) hx hb dX8_fitAt_51 hl (k := 2) rfl ex51.symm (by decide) rfl (fun ls hl => ?_)
              exact (hK0 _ _ _).mp (J54 x51 _ _ _   hP hD hS (lv_sub hl [1, 2, 0, 3] rfl))
            · have gc42 := ai_eq c42
              refine lv_aload_n hx hb dX8_fitAt_45 rfl (lv_at hl 0 rfl) ?_
              refine lv_iload_n hx hb dX8_fitAt_46 rfl (lv_at hl 3 rfl) ?_
              have hKc := hK.sub (tys' := [(ka0_15, .int)]) [0] rfl
              refine va_calli (va_runV (As := [.int j21l3]) (rest := []) ⟨hx, hb, hml, hown, hts⟩ (c_X8_numberOf l dC dI H.size a0 j21l3 (Value.int v1na0_0) a0g_1 a0g_2 a0g_3 a0g_4 a0g_5 a0g_6 a0g_7 a0g_8 a0g_9 a0g_10 (Value.int v1na0_11) a0g_12 a0g_13 (Value.int a0_14) a0g_16 a0g_17 a0g_18 a0g_19 a0g_20 a0g_21 a0g_22 a0g_23 a0g_24 a0g_25 a0g_26 a0g_27 a0g_28 a0g_29 a0g_30 a0g_31 a0g_32 a0g_33 (Value.ref a0_34) a0g_35 a0g_36 a0g_37 a0g_38 a0g_39 a0_15 ka0_15 fa0_15 bj21l3_l u26f_j21l3 bfa0_15) (cwV 1 hts gX8_fitAt_X8_numberOf rfl rfl rfl zd_X8_numberOf ⟨Nat.le_of_ble_eq_true rfl, Nat.le_of_ble_eq_true rfl⟩) ⟨ax_blind (fun _ _ _ _ _ => trivial), zr_8 hKc (zp_P2 hP) (q0 := 0) rfl, ax_pre (zp_P2 hP) hKc (zp_D2 hD) (fun _ _ => trivial)⟩ rfl rfl hl.1 rfl (lv_room (Nat.le_of_ble_eq_true rfl)) dX8_fitAt_47 ⟨Nat.le_of_ble_eq_true rfl, Nat.le_of_ble_eq_true rfl⟩) hS (fun q _ h => zp_F2 hD hS hA q h) (zp_F2 hD hS hA) (fun r47 u t H locs ht hvm hw hB hz1 hk1 hS1 => zo2 hB ht hP hD hk1 (zp_F2 hD hS hA) hS1 (fun hP hK1 hD hS => ?_))
              have hw : (0 : Int) ≤ r47.toInt ∧ r47.toInt ≤ (72888 : Int) := hw
              obtain ⟨h47_0, h47_1⟩ := hw
              exact W.iret (v := r47) hx hb hr (fun t ht hW => ⟨⟨r47, (), rfl, ⟨(Int.le_trans zq69 h47_0), h47_1⟩, v1na0_0, v1na0_11, v31nfa0_34, by rw [ht]; exact hP, va_K.moved hW.alike hK, hD⟩, hS.F ht⟩) hS.2.2 dX8_fitAt_50
          · subst hw
            refine lv_if_ne (tgt := 40) hx hb dX8_fitAt_34 (by decide) (fun c34 => absurd (by decide +kernel) c34) (fun _ => ?_)
            have J54 : ∀ (j54l2 : Int32) (H : Heap) (locs : List Loc) (ls : Array Slot), va_P (dC, dI) vwCl [(a0, .inr (8, [Value.int v1na0_0, a0g_1, a0g_2, a0g_3, a0g_4, a0g_5, a0g_6, a0g_7, a0g_8, a0g_9, a0g_10, Value.int v1na0_11, a0g_12, a0g_13, Value.int a0_14, Value.ref a0_15, a0g_16, a0g_17, a0g_18, a0g_19, a0g_20, a0g_21, a0g_22, a0g_23, a0g_24, a0g_25, a0g_26, a0g_27, a0g_28, a0g_29, a0g_30, a0g_31, a0g_32, a0g_33, Value.ref a0_34, a0g_35, a0g_36, a0g_37, a0g_38, a0g_39])), (a0_15, .inl (ka0_15, 156, .inl (fa0_15))), (a0_34, .inl (ka0_34, 9, .inl (v31nfa0_34)))] H → va_D A [(a0, .inr (8, [Value.int v1na0_0, a0g_1, a0g_2, a0g_3, a0g_4, a0g_5, a0g_6, a0g_7, a0g_8, a0g_9, a0g_10, Value.int v1na0_11, a0g_12, a0g_13, Value.int a0_14, Value.ref a0_15, a0g_16, a0g_17, a0g_18, a0g_19, a0g_20, a0g_21, a0g_22, a0g_23, a0g_24, a0g_25, a0g_26, a0g_27, a0g_28, a0g_29, a0g_30, a0g_31, a0g_32, a0g_33, Value.ref a0_34, a0g_35, a0g_36, a0g_37, a0g_38, a0g_39])), (a0_15, .inl (ka0_15, 156, .inl (fa0_15))), (a0_34, .inl (ka0_34, 9, .inl (v31nfa0_34)))] → va_S A s.heap H locs → lv_has ls 4 [(0, .ref a0), (1, .int a1), (2, .int j54l2), (3, .int j21l3)] → K H locs (F0 m 54 ls []) := by
              intro j54l2 H locs ls   hP hD hS hl
              refine (hK0 _ _ _).mpr ?_
              obtain ⟨x54, ex54⟩ : ∃ y : Int32, y = j21l3 + Int32.ofInt 1 := ⟨_, rfl⟩
              have qx54 : x54.toInt = j21l3.toInt + 1 := ai_inc ex54 (by decide) (by decide) u26f_j21l3 (by decide)
              have bx54 : (1 : Int) ≤ x54.toInt ∧ x54.toInt ≤ 729 := ⟨by rw [qx54]; exact Int.add_le_add bj21l3_l (Int.le_refl _), by rw [qx54]; exact Int.add_le_add u26f_j21l3 (Int.le_refl _)⟩
              refine lv_iinc (v := x54) (lv' := [(3, .int x54), (0, .ref a0), (1, .int a1), (2, .int j54l2)]) hx hb dX8_fitAt_54 hl (k := 3) rfl ex54.symm (by decide) rfl (fun ls hl => ?_)
              refine lv_goto (tgt := 21) hx hb dX8_fitAt_57 (by decide) ?_
              exact (hK0 _ _ _).mp (ih21 x54 j54l2 v31nfa0_34 _ _ _ (by have h0 := qx54; omega) (Int.le_trans zq4 bx54.1) bx54.2 hP hD hS (lv_sub hl [1, 2, 3, 0] rfl))
            refine lv_goto (tgt := 54) hx hb dX8_fitAt_37 (by decide) ?_
            exact (hK0 _ _ _).mp (J54 j21l2 _ _ _   hP hD hS (lv_sub hl [0, 1, 2, 3] rfl))
    exact (hK0 _ _ _).mp (J21 730 0 0 fa0_34 _ _ _ (by have h1 : (0 : Int) ≤ (0 : Int32).toInt := zq5; have h2 : (0 : Int32).toInt ≤ (0 : Int) := zq6; omega) zq5 (Int.le_trans zq6 zq35) hP hD hS (lv_sub hl [2, 3, 1, 0] rfl))
  · have gc8 := ai_eq c8
    have u8f_a0_14 : a0_14.toInt ≤ (0 : Int) := Int.le_trans (Int.le_of_eq gc8) zq6
    have l8f_a0_14 : (1 : Int) ≤ a0_14.toInt := ba0_14_l
    exact absurd (Int.le_trans l8f_a0_14 u8f_a0_14) (by decide)

set_option maxHeartbeats 4000000 in
set_option maxRecDepth 100000 in
theorem c_X8_layOften (l : Launch) (dC : Nat → ClassId) (dI : Nat → Nat → Nat) (sz : Nat) (a0 : Nat) (a1 : Int32) (a0g_0 a0g_1 a0g_2 a0g_3 a0g_4 a0g_5 a0g_6 a0g_7 a0g_8 a0g_9 a0g_10 a0g_11 a0g_12 a0g_13 a0g_14 a0g_16 a0g_17 a0g_18 a0g_19 a0g_20 a0g_21 a0g_22 a0g_23 a0g_24 a0g_25 a0g_26 a0g_27 a0g_28 a0g_29 a0g_30 a0g_31 a0g_32 a0g_33 a0g_36 a0g_37 a0g_38 a0g_39 : Value) (a0_15 : Nat) (a0_34 : Nat) (a0_35 : Nat) (ka0_35 : ClassId) (fa0_35 : Nat → Int32) (ka0_15 : ClassId) (fa0_15 : Nat → Int32) (ka0_34 : ClassId) (fa0_34 : Nat → Int32) (ba1_l : (0 : Int) ≤ a1.toInt) (ba1_u : a1.toInt ≤ (999 : Int)) (bfa0_15 : ((∀ k : Nat, 0 ≤ k → k ≤ 0 → (2 : Int) ≤ (fa0_15 k).toInt ∧ (fa0_15 k).toInt ≤ 9) ∧ (∀ k : Nat, 1 ≤ k → k ≤ 1 → (1 : Int) ≤ (fa0_15 k).toInt ∧ (fa0_15 k).toInt ≤ 20) ∧ (∀ k : Nat, 2 ≤ k → k ≤ 2 → (0 : Int) ≤ (fa0_15 k).toInt ∧ (fa0_15 k).toInt ≤ 8) ∧ (∀ k : Nat, 3 ≤ k → k ≤ 3 → (0 : Int) ≤ (fa0_15 k).toInt ∧ (fa0_15 k).toInt ≤ 100) ∧ (∀ k : Nat, 4 ≤ k → k ≤ 4 → (0 : Int) ≤ (fa0_15 k).toInt ∧ (fa0_15 k).toInt ≤ 9) ∧ (∀ k : Nat, 5 ≤ k → k ≤ 5 → (0 : Int) ≤ (fa0_15 k).toInt ∧ (fa0_15 k).toInt ≤ 3) ∧ (∀ k : Nat, 6 ≤ k → k ≤ 6 → (0 : Int) ≤ (fa0_15 k).toInt ∧ (fa0_15 k).toInt ≤ 6) ∧ (∀ k : Nat, 7 ≤ k → k ≤ 9 → (0 : Int) ≤ (fa0_15 k).toInt ∧ (fa0_15 k).toInt ≤ 8) ∧ (∀ k : Nat, 12 ≤ k → k ≤ 29 → (0 : Int) ≤ (fa0_15 k).toInt ∧ (fa0_15 k).toInt ≤ 20) ∧ (∀ k : Nat, 30 ≤ k → k ≤ 35 → (0 : Int) ≤ (fa0_15 k).toInt ∧ (fa0_15 k).toInt ≤ 8) ∧ (∀ k : Nat, 36 ≤ k → k ≤ 47 → (0 : Int) ≤ (fa0_15 k).toInt ∧ (fa0_15 k).toInt ≤ 999))) : zm l yX8_layOften wsX8_layOften ({ frames := 3, cells := 0, slots := 0, locals := 72 }) [.ref a0, .int a1] dC dI sz [(a0, .inr (8, [a0g_0, a0g_1, a0g_2, a0g_3, a0g_4, a0g_5, a0g_6, a0g_7, a0g_8, a0g_9, a0g_10, a0g_11, a0g_12, a0g_13, a0g_14, Value.ref a0_15, a0g_16, a0g_17, a0g_18, a0g_19, a0g_20, a0g_21, a0g_22, a0g_23, a0g_24, a0g_25, a0g_26, a0g_27, a0g_28, a0g_29, a0g_30, a0g_31, a0g_32, a0g_33, Value.ref a0_34, Value.ref a0_35, a0g_36, a0g_37, a0g_38, a0g_39])), (a0_35, .inl (ka0_35, 9, .inl (fa0_35))), (a0_15, .inl (ka0_15, 156, .inl (fa0_15))), (a0_34, .inl (ka0_34, 9, .inl (fa0_34)))] [(ka0_35, .int), (ka0_15, .int), (ka0_34, .int)] (fun A _ => True) (fun A => va_Qv (fun (_ : Unit) => True) (fun (_ : Unit) (t : State) => ∃ nfa0_35 : Nat → Int32, ∃ nfa0_34 : Nat → Int32, ax_B dC dI A [(a0, .inr (8, [a0g_0, a0g_1, a0g_2, a0g_3, a0g_4, a0g_5, a0g_6, a0g_7, a0g_8, a0g_9, a0g_10, a0g_11, a0g_12, a0g_13, a0g_14, Value.ref a0_15, a0g_16, a0g_17, a0g_18, a0g_19, a0g_20, a0g_21, a0g_22, a0g_23, a0g_24, a0g_25, a0g_26, a0g_27, a0g_28, a0g_29, a0g_30, a0g_31, a0g_32, a0g_33, Value.ref a0_34, Value.ref a0_35, a0g_36, a0g_37, a0g_38, a0g_39])), (a0_35, .inl (ka0_35, 9, .inl (nfa0_35))), (a0_15, .inl (ka0_15, 156, .inl (fa0_15))), (a0_34, .inl (ka0_34, 9, .inl (nfa0_34)))] [(ka0_35, .int), (ka0_15, .int), (ka0_34, .int)] t) A) := by
  refine zh (cc := cX8_layOften) (maxL := 3) (ret := none) zn_RX8 rfl (Nat.le_of_ble_eq_true rfl) (fun p e s m below meth c A ls hx hb hml hr hts (hown : s.vm.findClass RX8 = some m.cls) hlocks hA hS hP hK hD hE (hl : lv_has ls 3 [(0, .ref a0), (1, .int a1)]) => ?_)
  refine ai_open (fun K hK0 => ?_)
  refine (hK0 _ _ _).mpr ?_
  refine lv_iconst (v := 0) hx hb dX8_layOften_0 zk_iconst_0 ?_
  refine lv_istore_n (lv' := [(2, .int 0), (0, .ref a0), (1, .int a1)]) hx hb dX8_layOften_1 rfl hl (by decide) rfl (fun ls hl => ?_)
  have J2 : ∀ (n : Nat) (j2l2 : Int32) (j2a0_35_a : Nat → Int32) (H : Heap) (locs : List Loc) (ls : Array Slot), (10 : Int) - j2l2.toInt ≤ (n : Int) → (0 : Int) ≤ j2l2.toInt → j2l2.toInt ≤ (9 : Int) → va_P (dC, dI) vwCl [(a0, .inr (8, [a0g_0, a0g_1, a0g_2, a0g_3, a0g_4, a0g_5, a0g_6, a0g_7, a0g_8, a0g_9, a0g_10, a0g_11, a0g_12, a0g_13, a0g_14, Value.ref a0_15, a0g_16, a0g_17, a0g_18, a0g_19, a0g_20, a0g_21, a0g_22, a0g_23, a0g_24, a0g_25, a0g_26, a0g_27, a0g_28, a0g_29, a0g_30, a0g_31, a0g_32, a0g_33, Value.ref a0_34, Value.ref a0_35, a0g_36, a0g_37, a0g_38, a0g_39])), (a0_35, .inl (ka0_35, 9, .inl (j2a0_35_a))), (a0_15, .inl (ka0_15, 156, .inl (fa0_15))), (a0_34, .inl (ka0_34, 9, .inl (fa0_34)))] H → va_D A [(a0, .inr (8, [a0g_0, a0g_1, a0g_2, a0g_3, a0g_4, a0g_5, a0g_6, a0g_7, a0g_8, a0g_9, a0g_10, a0g_11, a0g_12, a0g_13, a0g_14, Value.ref a0_15, a0g_16, a0g_17, a0g_18, a0g_19, a0g_20, a0g_21, a0g_22, a0g_23, a0g_24, a0g_25, a0g_26, a0g_27, a0g_28, a0g_29, a0g_30, a0g_31, a0g_32, a0g_33, Value.ref a0_34, Value.ref a0_35, a0g_36, a0g_37, a0g_38, a0g_39])), (a0_35, .inl (ka0_35, 9, .inl (j2a0_35_a))), (a0_15, .inl (ka0_15, 156, .inl (fa0_15))), (a0_34, .inl (ka0_34, 9, .inl (fa0_34)))] → va_S A s.heap H locs → lv_has ls 3 [(0, .ref a0), (1, .int a1), (2, .int j2l2)] → K H locs (F0 m 2 ls []) := by
    intro n
    induction n with
    | zero =>
      intro j2l2 j2a0_35_a H locs ls hm bj2l2_l bj2l2_u hP hD hS hl
      have h8 := ai_min j2l2
      have h9 := ai_max j2l2
      exact absurd hm (by omega)
    | succ n ih2 =>
      intro j2l2 j2a0_35_a H locs ls hm bj2l2_l bj2l2_u hP hD hS hl
      refine (hK0 _ _ _).mpr ?_
      have hm2 := hm
      refine lv_iload_n hx hb dX8_layOften_2 rfl (lv_at hl 2 rfl) ?_
      refine lv_bipush (v := 9) hx hb dX8_layOften_3 zk_bipush_9 ?_
      refine lv_icmp_ge (tgt := 21) hx hb dX8_layOften_5 (by decide) (fun c5 => ?_) (fun c5 => ?_)
      · have gc5 := ai_le c5
        have l5t_j2l2 : (9 : Int) ≤ j2l2.toInt := Int.le_trans zq2 gc5
        refine lv_iconst (v := 0) hx hb dX8_layOften_21 zk_iconst_0 ?_
        refine lv_istore_n (lv' := [(2, .int 0), (0, .ref a0), (1, .int a1)]) hx hb dX8_layOften_22 rfl hl (by decide) rfl (fun ls hl => ?_)
        have J23 : ∀ (n : Nat) (j23l2 : Int32) (j23a0_35_a : Nat → Int32) (j23a0_34_a : Nat → Int32) (H : Heap) (locs : List Loc) (ls : Array Slot), (730 : Int) - j23l2.toInt ≤ (n : Int) → (0 : Int) ≤ j23l2.toInt → j23l2.toInt ≤ (729 : Int) → va_P (dC, dI) vwCl [(a0, .inr (8, [a0g_0, a0g_1, a0g_2, a0g_3, a0g_4, a0g_5, a0g_6, a0g_7, a0g_8, a0g_9, a0g_10, a0g_11, a0g_12, a0g_13, a0g_14, Value.ref a0_15, a0g_16, a0g_17, a0g_18, a0g_19, a0g_20, a0g_21, a0g_22, a0g_23, a0g_24, a0g_25, a0g_26, a0g_27, a0g_28, a0g_29, a0g_30, a0g_31, a0g_32, a0g_33, Value.ref a0_34, Value.ref a0_35, a0g_36, a0g_37, a0g_38, a0g_39])), (a0_35, .inl (ka0_35, 9, .inl (j23a0_35_a))), (a0_15, .inl (ka0_15, 156, .inl (fa0_15))), (a0_34, .inl (ka0_34, 9, .inl (j23a0_34_a)))] H → va_D A [(a0, .inr (8, [a0g_0, a0g_1, a0g_2, a0g_3, a0g_4, a0g_5, a0g_6, a0g_7, a0g_8, a0g_9, a0g_10, a0g_11, a0g_12, a0g_13, a0g_14, Value.ref a0_15, a0g_16, a0g_17, a0g_18, a0g_19, a0g_20, a0g_21, a0g_22, a0g_23, a0g_24, a0g_25, a0g_26, a0g_27, a0g_28, a0g_29, a0g_30, a0g_31, a0g_32, a0g_33, Value.ref a0_34, Value.ref a0_35, a0g_36, a0g_37, a0g_38, a0g_39])), (a0_35, .inl (ka0_35, 9, .inl (j23a0_35_a))), (a0_15, .inl (ka0_15, 156, .inl (fa0_15))), (a0_34, .inl (ka0_34, 9, .inl (j23a0_34_a)))] → va_S A s.heap H locs → lv_has ls 3 [(0, .ref a0), (1, .int a1), (2, .int j23l2)] → K H locs (F0 m 23 ls []) := by
          intro n
          induction n with
          | zero =>
            intro j23l2 j23a0_35_a j23a0_34_a H locs ls hm bj23l2_l bj23l2_u hP hD hS hl
            have h8 := ai_min j23l2
            have h9 := ai_max j23l2
            exact absurd hm (by omega)
          | succ n ih23 =>
            intro j23l2 j23a0_35_a j23a0_34_a H locs ls hm bj23l2_l bj23l2_u hP hD hS hl
            refine (hK0 _ _ _).mpr ?_
            have hm23 := hm
            refine lv_iload_n hx hb dX8_layOften_23 rfl (lv_at hl 2 rfl) ?_
            refine lv_aload_n hx hb dX8_layOften_24 rfl (lv_at hl 0 rfl) ?_
            refine zc_cutc (wc := [(a0, .inr (8, [a0g_0, a0g_1, a0g_2, a0g_3, a0g_4, a0g_5, a0g_6, a0g_7, a0g_8, a0g_9, a0g_10, a0g_11, a0g_12, a0g_13, a0g_14, Value.ref a0_15, a0g_16, a0g_17, a0g_18, a0g_19, a0g_20, a0g_21, a0g_22, a0g_23, a0g_24, a0g_25, a0g_26, a0g_27, a0g_28, a0g_29, a0g_30, a0g_31, a0g_32, a0g_33, Value.ref a0_34, Value.ref a0_35, a0g_36, a0g_37, a0g_38, a0g_39])), (a0_15, .inl (ka0_15, 156, .inl (fa0_15)))]) hP hD hS hA [0, 2] (by decide +kernel) rfl (fun hPc hDc hFc hCc => ?_)
            have hKc := hK.sub (tys' := [(ka0_15, .int)]) [1] rfl
            refine va_calli (va_runV (As := []) (rest := [.int j23l2]) ⟨hx, hb, hml, hown, hts⟩ (c_X8_codes l dC dI H.size a0 a0g_0 a0g_1 a0g_2 a0g_3 a0g_4 a0g_5 a0g_6 a0g_7 a0g_8 a0g_9 a0g_10 a0g_11 a0g_12 a0g_13 a0g_14 a0g_16 a0g_17 a0g_18 a0g_19 a0g_20 a0g_21 a0g_22 a0g_23 a0g_24 a0g_25 a0g_26 a0g_27 a0g_28 a0g_29 a0g_30 a0g_31 a0g_32 a0g_33 (Value.ref a0_34) (Value.ref a0_35) a0g_36 a0g_37 a0g_38 a0g_39 a0_15 ka0_15 fa0_15 bfa0_15) (cwV 0 hts gX8_layOften_X8_codes rfl rfl rfl zd_X8_codes ⟨Nat.le_of_ble_eq_true rfl, Nat.le_of_ble_eq_true rfl⟩) ⟨ax_blind (fun _ _ _ _ _ => trivial), zr_8 hKc hPc (q0 := 0) rfl, ax_pre hPc hKc hDc (fun _ _ => trivial)⟩ rfl rfl hl.1 rfl (lv_room (Nat.le_of_ble_eq_true rfl)) dX8_layOften_25 ⟨Nat.le_of_ble_eq_true rfl, Nat.le_of_ble_eq_true rfl⟩) hS (fun q _ h => hFc q h) hFc (fun r25 u t H locs ht hvm hw hB hz1 hk1 hS => zo hB ht (fun hP1 hK1 hD1 => ?_))
            refine zc_backc (w := [(a0, .inr (8, [a0g_0, a0g_1, a0g_2, a0g_3, a0g_4, a0g_5, a0g_6, a0g_7, a0g_8, a0g_9, a0g_10, a0g_11, a0g_12, a0g_13, a0g_14, Value.ref a0_15, a0g_16, a0g_17, a0g_18, a0g_19, a0g_20, a0g_21, a0g_22, a0g_23, a0g_24, a0g_25, a0g_26, a0g_27, a0g_28, a0g_29, a0g_30, a0g_31, a0g_32, a0g_33, Value.ref a0_34, Value.ref a0_35, a0g_36, a0g_37, a0g_38, a0g_39])), (a0_35, .inl (ka0_35, 9, .inl (j23a0_35_a))), (a0_15, .inl (ka0_15, 156, .inl (fa0_15))), (a0_34, .inl (ka0_34, 9, .inl (j23a0_34_a)))]) hP hD hCc hk1 hFc hP1 hD1 [.inr 0, .inl 1, .inr 1, .inl 3] (by decide +kernel) rfl (fun hP hD => ?_)
            have hw : (8 : Int) ≤ r25.toInt ∧ r25.toInt ≤ (729 : Int) := hw
            obtain ⟨h25_0, h25_1⟩ := hw
            refine lv_icmp_ge (tgt := 60) hx hb dX8_layOften_28 (by decide) (fun c28 => ?_) (fun c28 => ?_)
            · have gc28 := ai_le c28
              have u28t_r25 : r25.toInt ≤ (729 : Int) := h25_1
              have l28t_j23l2 : (8 : Int) ≤ j23l2.toInt := Int.le_trans h25_0 gc28
              exact W.vret hx hb hr (fun t ht hW => ⟨⟨(), rfl, trivial, j23a0_35_a, j23a0_34_a, by rw [ht]; exact hP, va_K.moved hW.alike hK, hD⟩, hS.F ht⟩) hS.2.2 dX8_layOften_60
            · have gc28 := ai_nle c28
              have u28f_j23l2 : j23l2.toInt ≤ (728 : Int) := ai_lthi gc28 h25_1
              have l28f_r25 : (8 : Int) ≤ r25.toInt := h25_0
              refine lv_aload_n hx hb dX8_layOften_31 rfl (lv_at hl 0 rfl) ?_
              refine lv_iload_n hx hb dX8_layOften_32 rfl (lv_at hl 2 rfl) ?_
              refine zc_cutc (wc := [(a0, .inr (8, [a0g_0, a0g_1, a0g_2, a0g_3, a0g_4, a0g_5, a0g_6, a0g_7, a0g_8, a0g_9, a0g_10, a0g_11, a0g_12, a0g_13, a0g_14, Value.ref a0_15, a0g_16, a0g_17, a0g_18, a0g_19, a0g_20, a0g_21, a0g_22, a0g_23, a0g_24, a0g_25, a0g_26, a0g_27, a0g_28, a0g_29, a0g_30, a0g_31, a0g_32, a0g_33, Value.ref a0_34, Value.ref a0_35, a0g_36, a0g_37, a0g_38, a0g_39])), (a0_15, .inl (ka0_15, 156, .inl (fa0_15))), (a0_34, .inl (ka0_34, 9, .inl (j23a0_34_a)))]) hP hD hS hA [0, 2, 3] (by decide +kernel) rfl (fun hPc hDc hFc hCc => ?_)
              have hKc := hK.sub (tys' := [(ka0_15, .int), (ka0_34, .int)]) [1, 2] rfl
              refine va_calli (va_runV (As := [.int j23l2]) (rest := []) ⟨hx, hb, hml, hown, hts⟩ (c_X8_doesFit l dC dI H.size a0 j23l2 a0g_0 a0g_1 a0g_2 a0g_3 a0g_4 a0g_5 a0g_6 a0g_7 a0g_8 a0g_9 a0g_10 a0g_11 a0g_12 a0g_13 a0g_14 a0g_16 a0g_17 a0g_18 a0g_19 a0g_20 a0g_21 a0g_22 a0g_23 a0g_24 a0g_25 a0g_26 a0g_27 a0g_28 a0g_29 a0g_30 a0g_31 a0g_32 a0g_33 (Value.ref a0_35) a0g_36 a0g_37 a0g_38 a0g_39 a0_15 a0_34 ka0_15 fa0_15 ka0_34 j23a0_34_a bj23l2_l u28f_j23l2 bfa0_15) (cwV 1 hts gX8_layOften_X8_doesFit rfl rfl rfl zd_X8_doesFit ⟨Nat.le_of_ble_eq_true rfl, Nat.le_of_ble_eq_true rfl⟩) ⟨ax_blind (fun _ _ _ _ _ => trivial), zr_8 hKc hPc (q0 := 0) rfl, ax_pre hPc hKc hDc (fun _ _ => trivial)⟩ rfl rfl hl.1 rfl (lv_room (Nat.le_of_ble_eq_true rfl)) dX8_layOften_33 ⟨Nat.le_of_ble_eq_true rfl, Nat.le_of_ble_eq_true rfl⟩) hS (fun q _ h => hFc q h) hFc (fun r33 u t H locs ht hvm hw hB hz1 hk1 hS => zx_1 hB (fun v33nfa0_34 hB => zo hB ht (fun hP1 hK1 hD1 => ?_)))
              refine zc_backc (w := [(a0, .inr (8, [a0g_0, a0g_1, a0g_2, a0g_3, a0g_4, a0g_5, a0g_6, a0g_7, a0g_8, a0g_9, a0g_10, a0g_11, a0g_12, a0g_13, a0g_14, Value.ref a0_15, a0g_16, a0g_17, a0g_18, a0g_19, a0g_20, a0g_21, a0g_22, a0g_23, a0g_24, a0g_25, a0g_26, a0g_27, a0g_28, a0g_29, a0g_30, a0g_31, a0g_32, a0g_33, Value.ref a0_34, Value.ref a0_35, a0g_36, a0g_37, a0g_38, a0g_39])), (a0_35, .inl (ka0_35, 9, .inl (j23a0_35_a))), (a0_15, .inl (ka0_15, 156, .inl (fa0_15))), (a0_34, .inl (ka0_34, 9, .inl (v33nfa0_34)))]) hP hD hCc hk1 hFc hP1 hD1 [.inr 0, .inl 1, .inr 1, .inr 2] (by decide +kernel) rfl (fun hP hD => ?_)
              rcases hw with hw | hw
              · subst hw
                refine lv_if_eq (tgt := 54) hx hb dX8_layOften_36 (by decide) (fun c36 => absurd c36 (by decide +kernel)) (fun _ => ?_)
                have J54 : ∀ (j54a0_35_a : Nat → Int32) (j54a0_34_a : Nat → Int32) (H : Heap) (locs : List Loc) (ls : Array Slot), va_P (dC, dI) vwCl [(a0, .inr (8, [a0g_0, a0g_1, a0g_2, a0g_3, a0g_4, a0g_5, a0g_6, a0g_7, a0g_8, a0g_9, a0g_10, a0g_11, a0g_12, a0g_13, a0g_14, Value.ref a0_15, a0g_16, a0g_17, a0g_18, a0g_19, a0g_20, a0g_21, a0g_22, a0g_23, a0g_24, a0g_25, a0g_26, a0g_27, a0g_28, a0g_29, a0g_30, a0g_31, a0g_32, a0g_33, Value.ref a0_34, Value.ref a0_35, a0g_36, a0g_37, a0g_38, a0g_39])), (a0_35, .inl (ka0_35, 9, .inl (j54a0_35_a))), (a0_15, .inl (ka0_15, 156, .inl (fa0_15))), (a0_34, .inl (ka0_34, 9, .inl (j54a0_34_a)))] H → va_D A [(a0, .inr (8, [a0g_0, a0g_1, a0g_2, a0g_3, a0g_4, a0g_5, a0g_6, a0g_7, a0g_8, a0g_9, a0g_10, a0g_11, a0g_12, a0g_13, a0g_14, Value.ref a0_15, a0g_16, a0g_17, a0g_18, a0g_19, a0g_20, a0g_21, a0g_22, a0g_23, a0g_24, a0g_25, a0g_26, a0g_27, a0g_28, a0g_29, a0g_30, a0g_31, a0g_32, a0g_33, Value.ref a0_34, Value.ref a0_35, a0g_36, a0g_37, a0g_38, a0g_39])), (a0_35, .inl (ka0_35, 9, .inl (j54a0_35_a))), (a0_15, .inl (ka0_15, 156, .inl (fa0_15))), (a0_34, .inl (ka0_34, 9, .inl (j54a0_34_a)))] → va_S A s.heap H locs → lv_has ls 3 [(0, .ref a0), (1, .int a1), (2, .int j23l2)] → K H locs (F0 m 54 ls []) := by
                  intro j54a0_35_a j54a0_34_a H locs ls   hP hD hS hl
                  refine (hK0 _ _ _).mpr ?_
                  obtain ⟨x54, ex54⟩ : ∃ y : Int32, y = j23l2 + Int32.ofInt 1 := ⟨_, rfl⟩
                  have qx54 : x54.toInt = j23l2.toInt + 1 := ai_inc ex54 (by decide) (by decide) u28f_j23l2 (by decide)
                  have bx54 : (1 : Int) ≤ x54.toInt ∧ x54.toInt ≤ 729 := ⟨by rw [qx54]; exact Int.add_le_add bj23l2_l (Int.le_refl _), by rw [qx54]; exact Int.add_le_add u28f_j23l2 (Int.le_refl _)⟩
                  refine lv_iinc (v := x54) (lv' := [(2, .int x54), (0, .ref a0), (1, .int a1)]) hx hb dX8_layOften_54 hl (k := 2) rfl ex54.symm (by decide) rfl (fun ls hl => ?_)
                  refine lv_goto (tgt := 23) hx hb dX8_layOften_57 (by decide) ?_
                  exact (hK0 _ _ _).mp (ih23 x54 j54a0_35_a j54a0_34_a _ _ _ (by have h0 := qx54; omega) (Int.le_trans zq4 bx54.1) bx54.2 hP hD hS (lv_sub hl [1, 2, 0] rfl))
                refine lv_aload_n hx hb dX8_layOften_39 rfl (lv_at hl 0 rfl) ?_
                refine va_get (D := (dC, dI)) (ci := 8) (v := .ref a0_35) (C := RX8) (T := TX8) (N := 40) hx hb hts zi_X8_layOften_8 hown hK hP 0 rfl rfl 35 (by decide) (hts (.fieldLink RX8 56 "WaxTurnsModel" "often" "[I") (List.mem_cons_of_mem _ (List.mem_append_left _ (List.mem_of_getElem? (i := 0) rfl)))) (fun _ h9 => h9) rfl dX8_layOften_40 ?_
                refine lv_aload_n hx hb dX8_layOften_43 rfl (lv_at hl 0 rfl) ?_
                refine lv_iload_n hx hb dX8_layOften_44 rfl (lv_at hl 2 rfl) ?_
                refine lv_iload_n hx hb dX8_layOften_45 rfl (lv_at hl 1 rfl) ?_
                refine zc_cutc (wc := [(a0, .inr (8, [a0g_0, a0g_1, a0g_2, a0g_3, a0g_4, a0g_5, a0g_6, a0g_7, a0g_8, a0g_9, a0g_10, a0g_11, a0g_12, a0g_13, a0g_14, Value.ref a0_15, a0g_16, a0g_17, a0g_18, a0g_19, a0g_20, a0g_21, a0g_22, a0g_23, a0g_24, a0g_25, a0g_26, a0g_27, a0g_28, a0g_29, a0g_30, a0g_31, a0g_32, a0g_33, Value.ref a0_34, Value.ref a0_35, a0g_36, a0g_37, a0g_38, a0g_39])), (a0_15, .inl (ka0_15, 156, .inl (fa0_15))), (a0_34, .inl (ka0_34, 9, .inl (v33nfa0_34)))]) hP hD hS hA [0, 2, 3] (by decide +kernel) rfl (fun hPc hDc hFc hCc => ?_)
                have hKc := hK.sub (tys' := [(ka0_15, .int), (ka0_34, .int)]) [1, 2] rfl
                refine va_calli (va_runV (As := [.int j23l2, .int a1]) (rest := [.ref a0_35]) ⟨hx, hb, hml, hown, hts⟩ (c_X8_byCode l dC dI H.size a0 j23l2 a1 a0g_0 a0g_1 a0g_2 a0g_3 a0g_4 a0g_5 a0g_6 a0g_7 a0g_8 a0g_9 a0g_10 a0g_11 a0g_12 a0g_13 a0g_14 a0g_16 a0g_17 a0g_18 a0g_19 a0g_20 a0g_21 a0g_22 a0g_23 a0g_24 a0g_25 a0g_26 a0g_27 a0g_28 a0g_29 a0g_30 a0g_31 a0g_32 a0g_33 (Value.ref a0_35) a0g_36 a0g_37 a0g_38 a0g_39 a0_15 a0_34 ka0_15 fa0_15 ka0_34 v33nfa0_34 bj23l2_l u28f_j23l2 ba1_l ba1_u bfa0_15) (cwV 2 hts gX8_layOften_X8_byCode rfl rfl rfl zd_X8_byCode ⟨Nat.le_of_ble_eq_true rfl, Nat.le_of_ble_eq_true rfl⟩) ⟨ax_blind (fun _ _ _ _ _ => trivial), zr_8 hKc hPc (q0 := 0) rfl, ax_pre hPc hKc hDc (fun _ _ => trivial)⟩ rfl rfl hl.1 rfl (lv_room (Nat.le_of_ble_eq_true rfl)) dX8_layOften_46 ⟨Nat.le_of_ble_eq_true rfl, Nat.le_of_ble_eq_true rfl⟩) hS (fun q _ h => hFc q h) hFc (fun r46 u t H locs ht hvm hw hB hz1 hk1 hS => zx_1 hB (fun v46nfa0_34 hB => zo hB ht (fun hP1 hK1 hD1 => ?_)))
                refine zc_backc (w := [(a0, .inr (8, [a0g_0, a0g_1, a0g_2, a0g_3, a0g_4, a0g_5, a0g_6, a0g_7, a0g_8, a0g_9, a0g_10, a0g_11, a0g_12, a0g_13, a0g_14, Value.ref a0_15, a0g_16, a0g_17, a0g_18, a0g_19, a0g_20, a0g_21, a0g_22, a0g_23, a0g_24, a0g_25, a0g_26, a0g_27, a0g_28, a0g_29, a0g_30, a0g_31, a0g_32, a0g_33, Value.ref a0_34, Value.ref a0_35, a0g_36, a0g_37, a0g_38, a0g_39])), (a0_35, .inl (ka0_35, 9, .inl (j23a0_35_a))), (a0_15, .inl (ka0_15, 156, .inl (fa0_15))), (a0_34, .inl (ka0_34, 9, .inl (v46nfa0_34)))]) hP hD hCc hk1 hFc hP1 hD1 [.inr 0, .inl 1, .inr 1, .inr 2] (by decide +kernel) rfl (fun hP hD => ?_)
                rcases hw with hw
                · obtain ⟨⟨lr46, ur46⟩, mr46⟩ := hw
                  refine lv_dup2_11 hx hb dX8_layOften_49 rfl rfl ?_
                  refine va_iald hx hb hK hP 1 0 rfl rfl (ai_in lr46 ur46 (by decide) (by decide)) dX8_layOften_50 ?_
                  refine lv_topi (fun x50 ex50 => ?_)
                  refine lv_iconst (v := 1) hx hb dX8_layOften_51 zk_iconst_1 ?_
                  refine lv_iadd hx hb dX8_layOften_52 ?_
                  refine lv_topi (fun x52 ex52 => ?_)
                  refine va_iast hx hb hK hP hD hS 1 0 rfl rfl (ai_in lr46 ur46 (by decide) (by decide)) dX8_layOften_53 (fun H locs hP hD hS => ?_)
                  obtain ⟨f53, ef53⟩ : ∃ g9 : Nat → Int32, g9 = upd j23a0_35_a (r46 : Int32).toNatClampNeg x52 := ⟨_, rfl⟩
                  refine zs_1 (y := (a0_35, .inl (ka0_35, 9, .inl (f53)))) hP hD (by rw [ef53]) (fun hP hD => ?_)
                  exact (hK0 _ _ _).mp (J54 f53 v46nfa0_34 _ _ _   hP hD hS (lv_sub hl [0, 1, 2] rfl))
              · subst hw
                refine lv_if_eq (tgt := 54) hx hb dX8_layOften_36 (by decide) (fun _ => ?_) (fun c36 => absurd (by decide +kernel) c36)
                have J54 : ∀ (j54a0_35_a : Nat → Int32) (j54a0_34_a : Nat → Int32) (H : Heap) (locs : List Loc) (ls : Array Slot), va_P (dC, dI) vwCl [(a0, .inr (8, [a0g_0, a0g_1, a0g_2, a0g_3, a0g_4, a0g_5, a0g_6, a0g_7, a0g_8, a0g_9, a0g_10, a0g_11, a0g_12, a0g_13, a0g_14, Value.ref a0_15, a0g_16, a0g_17, a0g_18, a0g_19, a0g_20, a0g_21, a0g_22, a0g_23, a0g_24, a0g_25, a0g_26, a0g_27, a0g_28, a0g_29, a0g_30, a0g_31, a0g_32, a0g_33, Value.ref a0_34, Value.ref a0_35, a0g_36, a0g_37, a0g_38, a0g_39])), (a0_35, .inl (ka0_35, 9, .inl (j54a0_35_a))), (a0_15, .inl (ka0_15, 156, .inl (fa0_15))), (a0_34, .inl (ka0_34, 9, .inl (j54a0_34_a)))] H → va_D A [(a0, .inr (8, [a0g_0, a0g_1, a0g_2, a0g_3, a0g_4, a0g_5, a0g_6, a0g_7, a0g_8, a0g_9, a0g_10, a0g_11, a0g_12, a0g_13, a0g_14, Value.ref a0_15, a0g_16, a0g_17, a0g_18, a0g_19, a0g_20, a0g_21, a0g_22, a0g_23, a0g_24, a0g_25, a0g_26, a0g_27, a0g_28, a0g_29, a0g_30, a0g_31, a0g_32, a0g_33, Value.ref a0_34, Value.ref a0_35, a0g_36, a0g_37, a0g_38, a0g_39])), (a0_35, .inl (ka0_35, 9, .inl (j54a0_35_a))), (a0_15, .inl (ka0_15, 156, .inl (fa0_15))), (a0_34, .inl (ka0_34, 9, .inl (j54a0_34_a)))] → va_S A s.heap H locs → lv_has ls 3 [(0, .ref a0), (1, .int a1), (2, .int j23l2)] → K H locs (F0 m 54 ls []) := by
                  intro j54a0_35_a j54a0_34_a H locs ls   hP hD hS hl
                  refine (hK0 _ _ _).mpr ?_
                  obtain ⟨x54, ex54⟩ : ∃ y : Int32, y = j23l2 + Int32.ofInt 1 := ⟨_, rfl⟩
                  have qx54 : x54.toInt = j23l2.toInt + 1 := ai_inc ex54 (by decide) (by decide) u28f_j23l2 (by decide)
                  have bx54 : (1 : Int) ≤ x54.toInt ∧ x54.toInt ≤ 729 := ⟨by rw [qx54]; exact Int.add_le_add bj23l2_l (Int.le_refl _), by rw [qx54]; exact Int.add_le_add u28f_j23l2 (Int.le_refl _)⟩
                  refine lv_iinc (v := x54) (lv' := [(2, .int x54), (0, .ref a0), (1, .int a1)]) hx hb dX8_layOften_54 hl (k := 2) rfl ex54.symm (by decide) rfl (fun ls hl => ?_)
                  refine lv_goto (tgt := 23) hx hb dX8_layOften_57 (by decide) ?_
                  exact (hK0 _ _ _).mp (ih23 x54 j54a0_35_a j54a0_34_a _ _ _ (by have h0 := qx54; omega) (Int.le_trans zq4 bx54.1) bx54.2 hP hD hS (lv_sub hl [1, 2, 0] rfl))
                exact (hK0 _ _ _).mp (J54 j23a0_35_a v33nfa0_34 _ _ _   hP hD hS (lv_sub hl [0, 1, 2] rfl))
        exact (hK0 _ _ _).mp (J23 730 0 j2a0_35_a fa0_34 _ _ _ (by have h1 : (0 : Int) ≤ (0 : Int32).toInt := zq5; have h2 : (0 : Int32).toInt ≤ (0 : Int) := zq6; omega) zq5 (Int.le_trans zq6 zq35) hP hD hS (lv_sub hl [1, 2, 0] rfl))
      · have gc5 := ai_nle c5
        have u5f_j2l2 : j2l2.toInt ≤ (8 : Int) := ai_lthi gc5 zq3
        refine lv_aload_n hx hb dX8_layOften_8 rfl (lv_at hl 0 rfl) ?_
        refine va_get (D := (dC, dI)) (ci := 8) (v := .ref a0_35) (C := RX8) (T := TX8) (N := 40) hx hb hts zi_X8_layOften_8 hown hK hP 0 rfl rfl 35 (by decide) (hts (.fieldLink RX8 56 "WaxTurnsModel" "often" "[I") (List.mem_cons_of_mem _ (List.mem_append_left _ (List.mem_of_getElem? (i := 0) rfl)))) (fun _ h9 => h9) rfl dX8_layOften_9 ?_
        refine lv_iload_n hx hb dX8_layOften_12 rfl (lv_at hl 2 rfl) ?_
        refine lv_iconst (v := 0) hx hb dX8_layOften_13 zk_iconst_0 ?_
        refine va_iast hx hb hK hP hD hS 1 0 rfl rfl (ai_in bj2l2_l u5f_j2l2 (by decide) (by decide)) dX8_layOften_14 (fun H locs hP hD hS => ?_)
        obtain ⟨f14, ef14⟩ : ∃ g9 : Nat → Int32, g9 = upd j2a0_35_a (j2l2 : Int32).toNatClampNeg (0 : Int32) := ⟨_, rfl⟩
        refine zs_1 (y := (a0_35, .inl (ka0_35, 9, .inl (f14)))) hP hD (by rw [ef14]) (fun hP hD => ?_)
        obtain ⟨x15, ex15⟩ : ∃ y : Int32, y = j2l2 + Int32.ofInt 1 := ⟨_, rfl⟩
        have qx15 : x15.toInt = j2l2.toInt + 1 := ai_inc ex15 (by decide) (by decide) u5f_j2l2 (by decide)
        have bx15 : (1 : Int) ≤ x15.toInt ∧ x15.toInt ≤ 9 := ⟨by rw [qx15]; exact Int.add_le_add bj2l2_l (Int.le_refl _), by rw [qx15]; exact Int.add_le_add u5f_j2l2 (Int.le_refl _)⟩
        refine lv_iinc (v := x15) (lv' := [(2, .int x15), (0, .ref a0), (1, .int a1)]) hx hb dX8_layOften_15 hl (k := 2) rfl ex15.symm (by decide) rfl (fun ls hl => ?_)
        refine lv_goto (tgt := 2) hx hb dX8_layOften_18 (by decide) ?_
        exact (hK0 _ _ _).mp (ih2 x15 f14 _ _ _ (by have h0 := qx15; omega) (Int.le_trans zq4 bx15.1) bx15.2 hP hD hS (lv_sub hl [1, 2, 0] rfl))
  exact (hK0 _ _ _).mp (J2 10 0 fa0_35 _ _ _ (by have h1 : (0 : Int) ≤ (0 : Int32).toInt := zq5; have h2 : (0 : Int32).toInt ≤ (0 : Int) := zq6; omega) zq5 (Int.le_trans zq6 zq7) hP hD hS (lv_sub hl [1, 2, 0] rfl))

set_option maxHeartbeats 4000000 in
set_option maxRecDepth 100000 in
theorem c_X8_could (l : Launch) (dC : Nat → ClassId) (dI : Nat → Nat → Nat) (sz : Nat) (a0 : Nat) (a1 : Int32) (a0_0 : Int32) (a0g_1 a0g_2 a0g_3 a0g_4 a0g_5 a0g_6 a0g_7 a0g_8 a0g_9 a0g_10 a0g_12 a0g_13 a0g_16 a0g_17 a0g_18 a0g_19 a0g_20 a0g_21 a0g_22 a0g_23 a0g_24 a0g_25 a0g_26 a0g_27 a0g_28 a0g_29 a0g_30 a0g_31 a0g_32 a0g_33 a0g_36 a0g_37 a0g_38 a0g_39 : Value) (a0_11 : Int32) (a0_14 : Int32) (a0_15 : Nat) (a0_34 : Nat) (a0_35 : Nat) (ka0_15 : ClassId) (fa0_15 : Nat → Int32) (ka0_35 : ClassId) (fa0_35 : Nat → Int32) (ka0_34 : ClassId) (fa0_34 : Nat → Int32) (ba0_14_l : (1 : Int) ≤ a0_14.toInt) (ba0_14_u : a0_14.toInt ≤ (1 : Int)) (bfa0_15 : ((∀ k : Nat, 0 ≤ k → k ≤ 0 → (2 : Int) ≤ (fa0_15 k).toInt ∧ (fa0_15 k).toInt ≤ 9) ∧ (∀ k : Nat, 1 ≤ k → k ≤ 1 → (1 : Int) ≤ (fa0_15 k).toInt ∧ (fa0_15 k).toInt ≤ 20) ∧ (∀ k : Nat, 2 ≤ k → k ≤ 2 → (0 : Int) ≤ (fa0_15 k).toInt ∧ (fa0_15 k).toInt ≤ 8) ∧ (∀ k : Nat, 3 ≤ k → k ≤ 3 → (0 : Int) ≤ (fa0_15 k).toInt ∧ (fa0_15 k).toInt ≤ 100) ∧ (∀ k : Nat, 4 ≤ k → k ≤ 4 → (0 : Int) ≤ (fa0_15 k).toInt ∧ (fa0_15 k).toInt ≤ 9) ∧ (∀ k : Nat, 5 ≤ k → k ≤ 5 → (0 : Int) ≤ (fa0_15 k).toInt ∧ (fa0_15 k).toInt ≤ 3) ∧ (∀ k : Nat, 6 ≤ k → k ≤ 6 → (0 : Int) ≤ (fa0_15 k).toInt ∧ (fa0_15 k).toInt ≤ 6) ∧ (∀ k : Nat, 7 ≤ k → k ≤ 9 → (0 : Int) ≤ (fa0_15 k).toInt ∧ (fa0_15 k).toInt ≤ 8) ∧ (∀ k : Nat, 12 ≤ k → k ≤ 29 → (0 : Int) ≤ (fa0_15 k).toInt ∧ (fa0_15 k).toInt ≤ 20) ∧ (∀ k : Nat, 30 ≤ k → k ≤ 35 → (0 : Int) ≤ (fa0_15 k).toInt ∧ (fa0_15 k).toInt ≤ 8) ∧ (∀ k : Nat, 36 ≤ k → k ≤ 47 → (0 : Int) ≤ (fa0_15 k).toInt ∧ (fa0_15 k).toInt ≤ 999))) : zm l yX8_could wsX8_could ({ frames := 4, cells := 0, slots := 0, locals := 94 }) [.ref a0, .int a1] dC dI sz [(a0, .inr (8, [Value.int a0_0, a0g_1, a0g_2, a0g_3, a0g_4, a0g_5, a0g_6, a0g_7, a0g_8, a0g_9, a0g_10, Value.int a0_11, a0g_12, a0g_13, Value.int a0_14, Value.ref a0_15, a0g_16, a0g_17, a0g_18, a0g_19, a0g_20, a0g_21, a0g_22, a0g_23, a0g_24, a0g_25, a0g_26, a0g_27, a0g_28, a0g_29, a0g_30, a0g_31, a0g_32, a0g_33, Value.ref a0_34, Value.ref a0_35, a0g_36, a0g_37, a0g_38, a0g_39])), (a0_15, .inl (ka0_15, 156, .inl (fa0_15))), (a0_35, .inl (ka0_35, 9, .inl (fa0_35))), (a0_34, .inl (ka0_34, 9, .inl (fa0_34)))] [(ka0_15, .int), (ka0_35, .int), (ka0_34, .int)] (fun A _ => True) (fun A => va_Qi (fun (r : Int32) (_ : Unit) => True) (fun (_ : Unit) (t : State) => ∃ na0_0 : Int32, ∃ na0_11 : Int32, ∃ nfa0_35 : Nat → Int32, ∃ nfa0_34 : Nat → Int32, ax_B dC dI A [(a0, .inr (8, [Value.int na0_0, a0g_1, a0g_2, a0g_3, a0g_4, a0g_5, a0g_6, a0g_7, a0g_8, a0g_9, a0g_10, Value.int na0_11, a0g_12, a0g_13, Value.int a0_14, Value.ref a0_15, a0g_16, a0g_17, a0g_18, a0g_19, a0g_20, a0g_21, a0g_22, a0g_23, a0g_24, a0g_25, a0g_26, a0g_27, a0g_28, a0g_29, a0g_30, a0g_31, a0g_32, a0g_33, Value.ref a0_34, Value.ref a0_35, a0g_36, a0g_37, a0g_38, a0g_39])), (a0_15, .inl (ka0_15, 156, .inl (fa0_15))), (a0_35, .inl (ka0_35, 9, .inl (nfa0_35))), (a0_34, .inl (ka0_34, 9, .inl (nfa0_34)))] [(ka0_15, .int), (ka0_35, .int), (ka0_34, .int)] t) A) := by
  refine zh (cc := cX8_could) (maxL := 5) (ret := (some .int)) zn_RX8 rfl (Nat.le_of_ble_eq_true rfl) (fun p e s m below meth c A ls hx hb hml hr hts (hown : s.vm.findClass RX8 = some m.cls) hlocks hA hS hP hK hD hE (hl : lv_has ls 5 [(0, .ref a0), (1, .int a1)]) => ?_)
  refine ai_open (fun K hK0 => ?_)
  refine (hK0 _ _ _).mpr ?_
  refine lv_aload_n hx hb dX8_could_0 rfl (lv_at hl 0 rfl) ?_
  refine va_callv (va_runV (As := []) (rest := []) ⟨hx, hb, hml, hown, hts⟩ (c_X8_good l dC dI s.heap.size a0 a0_0 a0g_1 a0g_2 a0g_3 a0g_4 a0g_5 a0g_6 a0g_7 a0g_8 a0g_9 a0g_10 a0g_12 a0g_13 (Value.int a0_14) (Value.ref a0_15) a0g_16 a0g_17 a0g_18 a0g_19 a0g_20 a0g_21 a0g_22 a0g_23 a0g_24 a0g_25 a0g_26 a0g_27 a0g_28 a0g_29 a0g_30 a0g_31 a0g_32 a0g_33 (Value.ref a0_34) (Value.ref a0_35) a0g_36 a0g_37 a0g_38 a0g_39 a0_11 ) (cwV 0 hts gX8_could_X8_good rfl rfl rfl zd_X8_good ⟨Nat.le_of_ble_eq_true rfl, Nat.le_of_ble_eq_true rfl⟩) ⟨ax_blind (fun _ _ _ _ _ => trivial), zr_8 (zp_K hK) (zp_P1 hP) (q0 := 0) rfl, ax_pre (zp_P1 hP) (zp_K hK) (zp_D1 hD) (fun _ _ => trivial)⟩ rfl rfl hl.1 rfl (lv_room (Nat.le_of_ble_eq_true rfl)) dX8_could_1 ⟨Nat.le_of_ble_eq_true rfl, Nat.le_of_ble_eq_true rfl⟩) hS (fun q _ h => zp_F1 hD hS hA q h) (zp_F1 hD hS hA) (fun u t H locs ht hvm hw hB hz1 hk1 hS1 => zx_2 hB (fun v1na0_0 v1na0_11 hB => zo1 hB ht hP hD hk1 (zp_F1 hD hS hA) hS1 (fun hP hK1 hD hS => ?_)))
  refine lv_aload_n hx hb dX8_could_4 rfl (lv_at hl 0 rfl) ?_
  refine lv_aload_n hx hb dX8_could_5 rfl (lv_at hl 0 rfl) ?_
  refine va_get (D := (dC, dI)) (ci := 8) (v := .int a0_14) (C := RX8) (T := TX8) (N := 40) hx hb hts zi_X8_could_8 hown hK hP 0 rfl rfl 14 (by decide) (hts (.fieldLink RX8 173 "WaxTurnsModel" "hasGallery" "Z") (zm_X8_could_r1 (List.mem_of_getElem? (i := 0) rfl))) (fun _ h9 => h9) rfl dX8_could_6 ?_
  refine lv_iload_n hx hb dX8_could_9 rfl (lv_at hl 1 rfl) ?_
  refine lv_iconst (v := 0) hx hb dX8_could_10 zk_iconst_0 ?_
  refine lv_sipush (v := 999) hx hb dX8_could_11 zk_sipush_999 ?_
  refine va_calli (va_runS (As := [.int a1, .int 0, .int 999]) (rest := [.int a0_14, .ref a0]) ⟨hx, hb, hml, hown, hts⟩ (c_X8_in l dC dI H.size a1 0 999 ) (va_cwS 3 hts gX8_could_X8_in rfl rfl rfl zd_X8_in.2 ⟨Nat.le_of_ble_eq_true rfl, Nat.le_of_ble_eq_true rfl⟩) ⟨ax_blind (fun _ _ _ _ _ => trivial), ax_pre (zp_P0 hP) (zp_K hK) (zp_D0 hD) (fun _ _ => trivial)⟩ rfl rfl hl.1 rfl (lv_room (Nat.le_of_ble_eq_true rfl)) dX8_could_14 ⟨Nat.le_of_ble_eq_true rfl, Nat.le_of_ble_eq_true rfl⟩) hS (fun q _ h => zp_F0 hD hS hA q h) (zp_F0 hD hS hA) (fun r14 u t H locs ht hvm hw hB hz1 hk1 hS1 => zo0 hB ht hP hD hk1 (zp_F0 hD hS hA) hS1 (fun hP hK1 hD hS => ?_))
  rcases hw with hw | hw
  · obtain ⟨hw, h14⟩ := hw
    subst hw
    have l14k0_a1 : (0 : Int) ≤ a1.toInt := Int.le_trans zq5 h14.1
    have u14k0_a1 : a1.toInt ≤ (999 : Int) := Int.le_trans h14.2 zq79
    refine va_calli (va_runV (As := [.int a0_14, .int 1]) (rest := []) ⟨hx, hb, hml, hown, hts⟩ (c_X8_whyB l dC dI H.size a0 a0_14 1 (Value.int v1na0_0) a0g_1 a0g_2 a0g_3 a0g_4 a0g_5 a0g_6 a0g_7 a0g_8 a0g_9 a0g_10 (Value.int v1na0_11) a0g_12 a0g_13 (Value.int a0_14) (Value.ref a0_15) a0g_16 a0g_17 a0g_18 a0g_19 a0g_20 a0g_21 a0g_22 a0g_23 a0g_24 a0g_25 a0g_26 a0g_27 a0g_28 a0g_29 a0g_30 a0g_31 a0g_32 a0g_33 (Value.ref a0_34) (Value.ref a0_35) a0g_36 a0g_37 a0g_38 a0g_39 (Int.le_trans zq4 ba0_14_l) ba0_14_u (Int.le_trans zq4 zq1) zq0) (cwV 2 hts gX8_could_X8_why rfl rfl rfl zd_X8_why ⟨Nat.le_of_ble_eq_true rfl, Nat.le_of_ble_eq_true rfl⟩) ⟨ax_blind (fun _ _ _ _ _ => trivial), zr_8 (zp_K hK) (zp_P1 hP) (q0 := 0) rfl, ax_pre (zp_P1 hP) (zp_K hK) (zp_D1 hD) (fun _ _ => trivial)⟩ rfl rfl hl.1 rfl (lv_room (Nat.le_of_ble_eq_true rfl)) dX8_could_17 ⟨Nat.le_of_ble_eq_true rfl, Nat.le_of_ble_eq_true rfl⟩) hS (fun q _ h => zp_F1 hD hS hA q h) (zp_F1 hD hS hA) (fun r17 u t H locs ht hvm hw hB hz1 hk1 hS1 => zo1 hB ht hP hD hk1 (zp_F1 hD hS hA) hS1 (fun hP hK1 hD hS => ?_))
    rcases hw with hw | hw | hw
    · obtain ⟨hw, h17_0, h17_1, h17_2, h17_3⟩ := hw
      subst hw
      have l17k0_a0_14 : (1 : Int) ≤ a0_14.toInt := ba0_14_l
      have u17k0_a0_14 : a0_14.toInt ≤ (1 : Int) := ba0_14_u
      exact absurd h17_3 (by decide)
    · obtain ⟨hw, h17_0, h17_1⟩ := hw
      subst hw
      have l17k1_a0_14 : (1 : Int) ≤ a0_14.toInt := ba0_14_l
      have u17k1_a0_14 : a0_14.toInt ≤ (0 : Int) := h17_1
      exact absurd (Int.le_trans l17k1_a0_14 u17k1_a0_14) (by decide)
    · obtain ⟨hw, h17_0, h17_1, h17_2, h17_3⟩ := hw
      subst hw
      have l17k2_a0_14 : (1 : Int) ≤ a0_14.toInt := ba0_14_l
      have u17k2_a0_14 : a0_14.toInt ≤ (1 : Int) := ba0_14_u
      refine lv_istore_n (lv' := [(2, .int 0), (0, .ref a0), (1, .int a1)]) hx hb dX8_could_20 rfl hl (by decide) rfl (fun ls hl => ?_)
      refine lv_iload_n hx hb dX8_could_21 rfl (lv_at hl 0 rfl) ?_
      refine lv_if_eq (tgt := 31) hx hb dX8_could_22 (by decide) (fun _ => ?_) (fun c22 => absurd (by decide +kernel) c22)
      refine lv_aload_n hx hb dX8_could_31 rfl (lv_at hl 1 rfl) ?_
      refine lv_iload_n hx hb dX8_could_32 rfl (lv_at hl 2 rfl) ?_
      refine lv_aload_n hx hb dX8_could_33 rfl (lv_at hl 1 rfl) ?_
      refine va_get (D := (dC, dI)) (ci := 8) (v := .ref a0_15) (C := RX8) (T := TX8) (N := 40) hx hb hts zi_X8_could_8 hown hK hP 0 rfl rfl 15 (by decide) (hts (.fieldLink RX8 20 "WaxTurnsModel" "\x72" "[I") (zm_X8_could_r1 (List.mem_of_getElem? (i := 1) rfl))) (fun _ h9 => h9) rfl dX8_could_34 ?_
      refine lv_iconst (v := 1) hx hb dX8_could_37 zk_iconst_1 ?_
      refine va_iald hx hb hK hP 1 0 rfl rfl (by unfold vp_in; decide +kernel) dX8_could_38 ?_
      refine lv_topi (fun x38 ex38 => ?_)
      have bx38 : (1 : Int) ≤ x38.toInt ∧ x38.toInt ≤ 20 := by rw [ex38]; exact ai_rd bfa0_15.2.1 zq1 zq0 (by decide) (by decide) (by decide)
      refine lv_idiv hx hb dX8_could_39 (ai_nz bx38.1 (by decide)) ?_
      refine lv_topi (fun x39 ex39 => ?_)
      have qx39 := ai_div ex39 ⟨l14k0_a1, u14k0_a1⟩ (Int.lt_of_lt_of_le zq19 bx38.1)
      refine zc_cutc (wc := [(a0, .inr (8, [Value.int v1na0_0, a0g_1, a0g_2, a0g_3, a0g_4, a0g_5, a0g_6, a0g_7, a0g_8, a0g_9, a0g_10, Value.int v1na0_11, a0g_12, a0g_13, Value.int a0_14, Value.ref a0_15, a0g_16, a0g_17, a0g_18, a0g_19, a0g_20, a0g_21, a0g_22, a0g_23, a0g_24, a0g_25, a0g_26, a0g_27, a0g_28, a0g_29, a0g_30, a0g_31, a0g_32, a0g_33, Value.ref a0_34, Value.ref a0_35, a0g_36, a0g_37, a0g_38, a0g_39])), (a0_35, .inl (ka0_35, 9, .inl (fa0_35))), (a0_15, .inl (ka0_15, 156, .inl (fa0_15))), (a0_34, .inl (ka0_34, 9, .inl (fa0_34)))]) hP hD hS hA [0, 2, 1, 3] (by decide +kernel) rfl (fun hPc hDc hFc hCc => ?_)
      have hKc := hK.sub (tys' := [(ka0_35, .int), (ka0_15, .int), (ka0_34, .int)]) [1, 0, 2] rfl
      refine va_callv (va_runV (As := [.int x39]) (rest := []) ⟨hx, hb, hml, hown, hts⟩ (c_X8_layOften l dC dI H.size a0 x39 (Value.int v1na0_0) a0g_1 a0g_2 a0g_3 a0g_4 a0g_5 a0g_6 a0g_7 a0g_8 a0g_9 a0g_10 (Value.int v1na0_11) a0g_12 a0g_13 (Value.int a0_14) a0g_16 a0g_17 a0g_18 a0g_19 a0g_20 a0g_21 a0g_22 a0g_23 a0g_24 a0g_25 a0g_26 a0g_27 a0g_28 a0g_29 a0g_30 a0g_31 a0g_32 a0g_33 a0g_36 a0g_37 a0g_38 a0g_39 a0_15 a0_34 a0_35 ka0_35 fa0_35 ka0_15 fa0_15 ka0_34 fa0_34 qx39.2.1 qx39.2.2 bfa0_15) (cwV 1 hts gX8_could_X8_layOften rfl rfl rfl zd_X8_layOften ⟨Nat.le_of_ble_eq_true rfl, Nat.le_of_ble_eq_true rfl⟩) ⟨ax_blind (fun _ _ _ _ _ => trivial), zr_8 hKc hPc (q0 := 0) rfl, ax_pre hPc hKc hDc (fun _ _ => trivial)⟩ rfl rfl hl.1 rfl (lv_room (Nat.le_of_ble_eq_true rfl)) dX8_could_40 ⟨Nat.le_of_ble_eq_true rfl, Nat.le_of_ble_eq_true rfl⟩) hS (fun q _ h => hFc q h) hFc (fun u t H locs ht hvm hw hB hz1 hk1 hS => zx_2 hB (fun v40nfa0_35 v40nfa0_34 hB => zo hB ht (fun hP1 hK1 hD1 => ?_)))
      refine zc_backc (w := [(a0, .inr (8, [Value.int v1na0_0, a0g_1, a0g_2, a0g_3, a0g_4, a0g_5, a0g_6, a0g_7, a0g_8, a0g_9, a0g_10, Value.int v1na0_11, a0g_12, a0g_13, Value.int a0_14, Value.ref a0_15, a0g_16, a0g_17, a0g_18, a0g_19, a0g_20, a0g_21, a0g_22, a0g_23, a0g_24, a0g_25, a0g_26, a0g_27, a0g_28, a0g_29, a0g_30, a0g_31, a0g_32, a0g_33, Value.ref a0_34, Value.ref a0_35, a0g_36, a0g_37, a0g_38, a0g_39])), (a0_15, .inl (ka0_15, 156, .inl (fa0_15))), (a0_35, .inl (ka0_35, 9, .inl (v40nfa0_35))), (a0_34, .inl (ka0_34, 9, .inl (v40nfa0_34)))]) hP hD hCc hk1 hFc hP1 hD1 [.inr 0, .inr 2, .inr 1, .inr 3] (by decide +kernel) rfl (fun hP hD => ?_)
      refine lv_iconst (v := 0) hx hb dX8_could_43 zk_iconst_0 ?_
      refine lv_istore_n (lv' := [(3, .int 0), (2, .int 0), (0, .ref a0), (1, .int a1)]) hx hb dX8_could_44 rfl hl (by decide) rfl (fun ls hl => ?_)
      refine lv_iconst (v := 0) hx hb dX8_could_45 zk_iconst_0 ?_
      refine lv_istore (lv' := [(4, .int 0), (3, .int 0), (2, .int 0), (0, .ref a0), (1, .int a1)]) hx hb dX8_could_46 hl (by decide) rfl (fun ls hl => ?_)
      have J48 : ∀ (n : Nat) (j48l4 : Int32) (j48l3 : Int32) (H : Heap) (locs : List Loc) (ls : Array Slot), (10 : Int) - j48l4.toInt ≤ (n : Int) → (0 : Int) ≤ j48l4.toInt → j48l4.toInt ≤ (9 : Int) → va_P (dC, dI) vwCl [(a0, .inr (8, [Value.int v1na0_0, a0g_1, a0g_2, a0g_3, a0g_4, a0g_5, a0g_6, a0g_7, a0g_8, a0g_9, a0g_10, Value.int v1na0_11, a0g_12, a0g_13, Value.int a0_14, Value.ref a0_15, a0g_16, a0g_17, a0g_18, a0g_19, a0g_20, a0g_21, a0g_22, a0g_23, a0g_24, a0g_25, a0g_26, a0g_27, a0g_28, a0g_29, a0g_30, a0g_31, a0g_32, a0g_33, Value.ref a0_34, Value.ref a0_35, a0g_36, a0g_37, a0g_38, a0g_39])), (a0_15, .inl (ka0_15, 156, .inl (fa0_15))), (a0_35, .inl (ka0_35, 9, .inl (v40nfa0_35))), (a0_34, .inl (ka0_34, 9, .inl (v40nfa0_34)))] H → va_D A [(a0, .inr (8, [Value.int v1na0_0, a0g_1, a0g_2, a0g_3, a0g_4, a0g_5, a0g_6, a0g_7, a0g_8, a0g_9, a0g_10, Value.int v1na0_11, a0g_12, a0g_13, Value.int a0_14, Value.ref a0_15, a0g_16, a0g_17, a0g_18, a0g_19, a0g_20, a0g_21, a0g_22, a0g_23, a0g_24, a0g_25, a0g_26, a0g_27, a0g_28, a0g_29, a0g_30, a0g_31, a0g_32, a0g_33, Value.ref a0_34, Value.ref a0_35, a0g_36, a0g_37, a0g_38, a0g_39])), (a0_15, .inl (ka0_15, 156, .inl (fa0_15))), (a0_35, .inl (ka0_35, 9, .inl (v40nfa0_35))), (a0_34, .inl (ka0_34, 9, .inl (v40nfa0_34)))] → va_S A s.heap H locs → lv_has ls 5 [(0, .ref a0), (3, .int j48l3), (4, .int j48l4)] → K H locs (F0 m 48 ls []) := by
        intro n
        induction n with
        | zero =>
          intro j48l4 j48l3 H locs ls hm bj48l4_l bj48l4_u hP hD hS hl
          have h8 := ai_min j48l4
          have h9 := ai_max j48l4
          exact absurd hm (by omega)
        | succ n ih48 =>
          intro j48l4 j48l3 H locs ls hm bj48l4_l bj48l4_u hP hD hS hl
          refine (hK0 _ _ _).mpr ?_
          have hm48 := hm
          refine lv_iload hx hb dX8_could_48 (lv_at hl 2 rfl) ?_
          refine lv_aload_n hx hb dX8_could_50 rfl (lv_at hl 0 rfl) ?_
          refine va_get (D := (dC, dI)) (ci := 8) (v := .ref a0_15) (C := RX8) (T := TX8) (N := 40) hx hb hts zi_X8_could_8 hown hK hP 0 rfl rfl 15 (by decide) (hts (.fieldLink RX8 20 "WaxTurnsModel" "\x72" "[I") (zm_X8_could_r1 (List.mem_of_getElem? (i := 1) rfl))) (fun _ h9 => h9) rfl dX8_could_51 ?_
          refine lv_iconst (v := 0) hx hb dX8_could_54 zk_iconst_0 ?_
          refine va_iald hx hb hK hP 1 0 rfl rfl (by unfold vp_in; decide +kernel) dX8_could_55 ?_
          refine lv_topi (fun x55 ex55 => ?_)
          have bx55 : (2 : Int) ≤ x55.toInt ∧ x55.toInt ≤ 9 := by rw [ex55]; exact ai_rd bfa0_15.1 zq5 zq6 (by decide) (by decide) (by decide)
          refine lv_icmp_ge (tgt := 86) hx hb dX8_could_56 (by decide) (fun c56 => ?_) (fun c56 => ?_)
          · have gc56 := ai_le c56
            have u56t_x55 : x55.toInt ≤ (9 : Int) := bx55.2
            have l56t_j48l4 : (2 : Int) ≤ j48l4.toInt := Int.le_trans bx55.1 gc56
            refine lv_iload_n hx hb dX8_could_86 rfl (lv_at hl 1 rfl) ?_
            exact W.iret (v := j48l3) hx hb hr (fun t ht hW => ⟨⟨j48l3, (), rfl, trivial, v1na0_0, v1na0_11, v40nfa0_35, v40nfa0_34, by rw [ht]; exact hP, va_K.moved hW.alike hK, hD⟩, hS.F ht⟩) hS.2.2 dX8_could_87
          · have gc56 := ai_nle c56
            have u56f_j48l4 : j48l4.toInt ≤ (8 : Int) := ai_lthi gc56 bx55.2
            have l56f_x55 : (2 : Int) ≤ x55.toInt := bx55.1
            refine lv_iload_n hx hb dX8_could_59 rfl (lv_at hl 1 rfl) ?_
            refine lv_aload_n hx hb dX8_could_60 rfl (lv_at hl 0 rfl) ?_
            refine va_get (D := (dC, dI)) (ci := 8) (v := .ref a0_35) (C := RX8) (T := TX8) (N := 40) hx hb hts zi_X8_could_8 hown hK hP 0 rfl rfl 35 (by decide) (hts (.fieldLink RX8 56 "WaxTurnsModel" "often" "[I") (zm_X8_could_r1 (List.mem_of_getElem? (i := 2) rfl))) (fun _ h9 => h9) rfl dX8_could_61 ?_
            refine lv_iload hx hb dX8_could_64 (lv_at hl 2 rfl) ?_
            refine va_iald hx hb hK hP 2 1 rfl rfl (ai_in bj48l4_l u56f_j48l4 (by decide) (by decide)) dX8_could_66 ?_
            refine lv_topi (fun x66 ex66 => ?_)
            have J78 : ∀ (j78s0 : Int32) (H : Heap) (locs : List Loc) (ls : Array Slot), (0 : Int) ≤ j78s0.toInt → j78s0.toInt ≤ (512 : Int) → va_P (dC, dI) vwCl [(a0, .inr (8, [Value.int v1na0_0, a0g_1, a0g_2, a0g_3, a0g_4, a0g_5, a0g_6, a0g_7, a0g_8, a0g_9, a0g_10, Value.int v1na0_11, a0g_12, a0g_13, Value.int a0_14, Value.ref a0_15, a0g_16, a0g_17, a0g_18, a0g_19, a0g_20, a0g_21, a0g_22, a0g_23, a0g_24, a0g_25, a0g_26, a0g_27, a0g_28, a0g_29, a0g_30, a0g_31, a0g_32, a0g_33, Value.ref a0_34, Value.ref a0_35, a0g_36, a0g_37, a0g_38, a0g_39])), (a0_15, .inl (ka0_15, 156, .inl (fa0_15))), (a0_35, .inl (ka0_35, 9, .inl (v40nfa0_35))), (a0_34, .inl (ka0_34, 9, .inl (v40nfa0_34)))] H → va_D A [(a0, .inr (8, [Value.int v1na0_0, a0g_1, a0g_2, a0g_3, a0g_4, a0g_5, a0g_6, a0g_7, a0g_8, a0g_9, a0g_10, Value.int v1na0_11, a0g_12, a0g_13, Value.int a0_14, Value.ref a0_15, a0g_16, a0g_17, a0g_18, a0g_19, a0g_20, a0g_21, a0g_22, a0g_23, a0g_24, a0g_25, a0g_26, a0g_27, a0g_28, a0g_29, a0g_30, a0g_31, a0g_32, a0g_33, Value.ref a0_34, Value.ref a0_35, a0g_36, a0g_37, a0g_38, a0g_39])), (a0_15, .inl (ka0_15, 156, .inl (fa0_15))), (a0_35, .inl (ka0_35, 9, .inl (v40nfa0_35))), (a0_34, .inl (ka0_34, 9, .inl (v40nfa0_34)))] → va_S A s.heap H locs → lv_has ls 5 [(0, .ref a0), (4, .int j48l4)] → K H locs (F0 m 78 ls [.int j78s0, .int j48l3]) := by
              intro j78s0 H locs ls  bj78s0_l bj78s0_u hP hD hS hl
              refine (hK0 _ _ _).mpr ?_
              refine lv_ior hx hb dX8_could_78 ?_
              refine lv_topi (fun x78 ex78 => ?_)
              refine lv_istore_n (lv' := [(3, .int x78), (0, .ref a0), (4, .int j48l4)]) hx hb dX8_could_79 rfl hl (by decide) rfl (fun ls hl => ?_)
              obtain ⟨x80, ex80⟩ : ∃ y : Int32, y = j48l4 + Int32.ofInt 1 := ⟨_, rfl⟩
              have qx80 : x80.toInt = j48l4.toInt + 1 := ai_inc ex80 (by decide) (by decide) u56f_j48l4 (by decide)
              have bx80 : (1 : Int) ≤ x80.toInt ∧ x80.toInt ≤ 9 := ⟨by rw [qx80]; exact Int.add_le_add bj48l4_l (Int.le_refl _), by rw [qx80]; exact Int.add_le_add u56f_j48l4 (Int.le_refl _)⟩
              refine lv_iinc (v := x80) (lv' := [(4, .int x80), (3, .int x78), (0, .ref a0)]) hx hb dX8_could_80 hl (k := 2) rfl ex80.symm (by decide) rfl (fun ls hl => ?_)
              refine lv_goto (tgt := 48) hx hb dX8_could_83 (by decide) ?_
              exact (hK0 _ _ _).mp (ih48 x80 x78 _ _ _ (by have h0 := qx80; omega) (Int.le_trans zq4 bx80.1) bx80.2 hP hD hS (lv_sub hl [2, 1, 0] rfl))
            refine lv_if_le (tgt := 77) hx hb dX8_could_67 (by decide) (fun c67 => ?_) (fun c67 => ?_)
            · have gc67 := ai_le c67
              have u67t_x66 : x66.toInt ≤ (0 : Int) := Int.le_trans gc67 zq6
              refine lv_iconst (v := 0) hx hb dX8_could_77 zk_iconst_0 ?_
              exact (hK0 _ _ _).mp (J78 0 _ _ _  zq5 (Int.le_trans zq6 zq185) hP hD hS (lv_sub hl [0, 2] rfl))
            · have gc67 := ai_nle c67
              have l67f_x66 : (1 : Int) ≤ x66.toInt := ai_ltlo gc67 zq5
              refine lv_iconst (v := 1) hx hb dX8_could_70 zk_iconst_1 ?_
              refine lv_iload hx hb dX8_could_71 (lv_at hl 2 rfl) ?_
              refine lv_ishl hx hb dX8_could_73 ?_
              refine lv_topi (fun x73 ex73 => ?_)
              have bx73 : (1 : Int) ≤ x73.toInt ∧ x73.toInt ≤ 512 := sh_1 ex73 bj48l4_l (Int.le_trans u56f_j48l4 zq22)
              refine lv_goto (tgt := 78) hx hb dX8_could_74 (by decide) ?_
              exact (hK0 _ _ _).mp (J78 x73 _ _ _  (Int.le_trans zq4 bx73.1) bx73.2 hP hD hS (lv_sub hl [0, 2] rfl))
      exact (hK0 _ _ _).mp (J48 10 0 0 _ _ _ (by have h1 : (0 : Int) ≤ (0 : Int32).toInt := zq5; have h2 : (0 : Int32).toInt ≤ (0 : Int) := zq6; omega) zq5 (Int.le_trans zq6 zq7) hP hD hS (lv_sub hl [3, 1, 0] rfl))
  · obtain ⟨hw, h14⟩ := hw
    subst hw
    refine va_calli (va_runV (As := [.int a0_14, .int 0]) (rest := []) ⟨hx, hb, hml, hown, hts⟩ (c_X8_whyB l dC dI H.size a0 a0_14 0 (Value.int v1na0_0) a0g_1 a0g_2 a0g_3 a0g_4 a0g_5 a0g_6 a0g_7 a0g_8 a0g_9 a0g_10 (Value.int v1na0_11) a0g_12 a0g_13 (Value.int a0_14) (Value.ref a0_15) a0g_16 a0g_17 a0g_18 a0g_19 a0g_20 a0g_21 a0g_22 a0g_23 a0g_24 a0g_25 a0g_26 a0g_27 a0g_28 a0g_29 a0g_30 a0g_31 a0g_32 a0g_33 (Value.ref a0_34) (Value.ref a0_35) a0g_36 a0g_37 a0g_38 a0g_39 (Int.le_trans zq4 ba0_14_l) ba0_14_u zq5 (Int.le_trans zq6 zq4)) (cwV 2 hts gX8_could_X8_why rfl rfl rfl zd_X8_why ⟨Nat.le_of_ble_eq_true rfl, Nat.le_of_ble_eq_true rfl⟩) ⟨ax_blind (fun _ _ _ _ _ => trivial), zr_8 (zp_K hK) (zp_P1 hP) (q0 := 0) rfl, ax_pre (zp_P1 hP) (zp_K hK) (zp_D1 hD) (fun _ _ => trivial)⟩ rfl rfl hl.1 rfl (lv_room (Nat.le_of_ble_eq_true rfl)) dX8_could_17 ⟨Nat.le_of_ble_eq_true rfl, Nat.le_of_ble_eq_true rfl⟩) hS (fun q _ h => zp_F1 hD hS hA q h) (zp_F1 hD hS hA) (fun r17 u t H locs ht hvm hw hB hz1 hk1 hS1 => zo1 hB ht hP hD hk1 (zp_F1 hD hS hA) hS1 (fun hP hK1 hD hS => ?_))
    rcases hw with hw | hw | hw
    · obtain ⟨hw, h17_0, h17_1, h17_2, h17_3⟩ := hw
      subst hw
      have l17k0_a0_14 : (1 : Int) ≤ a0_14.toInt := ba0_14_l
      have u17k0_a0_14 : a0_14.toInt ≤ (1 : Int) := ba0_14_u
      refine lv_istore_n (lv' := [(2, .int 2), (0, .ref a0), (1, .int a1)]) hx hb dX8_could_20 rfl hl (by decide) rfl (fun ls hl => ?_)
      refine lv_iload_n hx hb dX8_could_21 rfl (lv_at hl 0 rfl) ?_
      refine lv_if_eq (tgt := 31) hx hb dX8_could_22 (by decide) (fun c22 => absurd c22 (by decide +kernel)) (fun _ => ?_)
      refine lv_aload_n hx hb dX8_could_25 rfl (lv_at hl 1 rfl) ?_
      refine lv_iload_n hx hb dX8_could_26 rfl (lv_at hl 0 rfl) ?_
      refine va_calli (va_runV (As := [.int 2]) (rest := []) ⟨hx, hb, hml, hown, hts⟩ (c_X8_no l dC dI H.size a0 2 (Value.int v1na0_0) a0g_1 a0g_2 a0g_3 a0g_4 a0g_5 a0g_6 a0g_7 a0g_8 a0g_9 a0g_10 a0g_12 a0g_13 (Value.int a0_14) (Value.ref a0_15) a0g_16 a0g_17 a0g_18 a0g_19 a0g_20 a0g_21 a0g_22 a0g_23 a0g_24 a0g_25 a0g_26 a0g_27 a0g_28 a0g_29 a0g_30 a0g_31 a0g_32 a0g_33 (Value.ref a0_34) (Value.ref a0_35) a0g_36 a0g_37 a0g_38 a0g_39 v1na0_11 ) (cwV 1 hts gX8_could_X8_no rfl rfl rfl zd_X8_no ⟨Nat.le_of_ble_eq_true rfl, Nat.le_of_ble_eq_true rfl⟩) ⟨ax_blind (fun _ _ _ _ _ => trivial), zr_8 (zp_K hK) (zp_P1 hP) (q0 := 0) rfl, ax_pre (zp_P1 hP) (zp_K hK) (zp_D1 hD) (fun _ _ => trivial)⟩ rfl rfl hl.1 rfl (lv_room (Nat.le_of_ble_eq_true rfl)) dX8_could_27 ⟨Nat.le_of_ble_eq_true rfl, Nat.le_of_ble_eq_true rfl⟩) hS (fun q _ h => zp_F1 hD hS hA q h) (zp_F1 hD hS hA) (fun r27 u t H locs ht hvm hw hB hz1 hk1 hS1 => zx_1 hB (fun v27na0_11 hB => zo1 hB ht hP hD hk1 (zp_F1 hD hS hA) hS1 (fun hP hK1 hD hS => ?_)))
      have hw : r27 = (-1) := hw
      have hw := hw.symm
      subst hw
      exact W.iret (v := (-1)) hx hb hr (fun t ht hW => ⟨⟨(-1), (), rfl, trivial, v1na0_0, v27na0_11, fa0_35, fa0_34, by rw [ht]; exact hP, va_K.moved hW.alike hK, hD⟩, hS.F ht⟩) hS.2.2 dX8_could_30
    · obtain ⟨hw, h17_0, h17_1⟩ := hw
      subst hw
      have l17k1_a0_14 : (1 : Int) ≤ a0_14.toInt := ba0_14_l
      have u17k1_a0_14 : a0_14.toInt ≤ (0 : Int) := h17_1
      exact absurd (Int.le_trans l17k1_a0_14 u17k1_a0_14) (by decide)
    · obtain ⟨hw, h17_0, h17_1, h17_2, h17_3⟩ := hw
      subst hw
      have l17k2_a0_14 : (1 : Int) ≤ a0_14.toInt := ba0_14_l
      have u17k2_a0_14 : a0_14.toInt ≤ (1 : Int) := ba0_14_u
      exact absurd h17_2 (by decide)
end P250_01_safe
section P250_02_safe
set_option maxHeartbeats 4000000 in
set_option maxRecDepth 100000 in
theorem c_X8_aliveBy (l : Launch) (dC : Nat → ClassId) (dI : Nat → Nat → Nat) (sz : Nat) (a0 : Nat) (a1 : Int32) (a2 : Int32) (a0_0 : Int32) (a0g_1 a0g_2 a0g_3 a0g_4 a0g_5 a0g_6 a0g_7 a0g_8 a0g_9 a0g_10 a0g_12 a0g_13 a0g_16 a0g_17 a0g_18 a0g_19 a0g_20 a0g_21 a0g_22 a0g_23 a0g_24 a0g_25 a0g_26 a0g_27 a0g_28 a0g_29 a0g_30 a0g_31 a0g_32 a0g_33 a0g_36 a0g_37 a0g_38 a0g_39 : Value) (a0_11 : Int32) (a0_14 : Int32) (a0_15 : Nat) (a0_34 : Nat) (a0_35 : Nat) (ka0_15 : ClassId) (fa0_15 : Nat → Int32) (ka0_35 : ClassId) (fa0_35 : Nat → Int32) (ka0_34 : ClassId) (fa0_34 : Nat → Int32) (ba0_14_l : (1 : Int) ≤ a0_14.toInt) (ba0_14_u : a0_14.toInt ≤ (1 : Int)) (bfa0_15 : ((∀ k : Nat, 0 ≤ k → k ≤ 0 → (2 : Int) ≤ (fa0_15 k).toInt ∧ (fa0_15 k).toInt ≤ 9) ∧ (∀ k : Nat, 1 ≤ k → k ≤ 1 → (1 : Int) ≤ (fa0_15 k).toInt ∧ (fa0_15 k).toInt ≤ 20) ∧ (∀ k : Nat, 2 ≤ k → k ≤ 2 → (0 : Int) ≤ (fa0_15 k).toInt ∧ (fa0_15 k).toInt ≤ 8) ∧ (∀ k : Nat, 3 ≤ k → k ≤ 3 → (0 : Int) ≤ (fa0_15 k).toInt ∧ (fa0_15 k).toInt ≤ 100) ∧ (∀ k : Nat, 4 ≤ k → k ≤ 4 → (0 : Int) ≤ (fa0_15 k).toInt ∧ (fa0_15 k).toInt ≤ 9) ∧ (∀ k : Nat, 5 ≤ k → k ≤ 5 → (0 : Int) ≤ (fa0_15 k).toInt ∧ (fa0_15 k).toInt ≤ 3) ∧ (∀ k : Nat, 6 ≤ k → k ≤ 6 → (0 : Int) ≤ (fa0_15 k).toInt ∧ (fa0_15 k).toInt ≤ 6) ∧ (∀ k : Nat, 7 ≤ k → k ≤ 9 → (0 : Int) ≤ (fa0_15 k).toInt ∧ (fa0_15 k).toInt ≤ 8) ∧ (∀ k : Nat, 12 ≤ k → k ≤ 29 → (0 : Int) ≤ (fa0_15 k).toInt ∧ (fa0_15 k).toInt ≤ 20) ∧ (∀ k : Nat, 30 ≤ k → k ≤ 35 → (0 : Int) ≤ (fa0_15 k).toInt ∧ (fa0_15 k).toInt ≤ 8) ∧ (∀ k : Nat, 36 ≤ k → k ≤ 47 → (0 : Int) ≤ (fa0_15 k).toInt ∧ (fa0_15 k).toInt ≤ 999))) : zm l yX8_aliveBy wsX8_aliveBy ({ frames := 4, cells := 0, slots := 0, locals := 94 }) [.ref a0, .int a1, .int a2] dC dI sz [(a0, .inr (8, [Value.int a0_0, a0g_1, a0g_2, a0g_3, a0g_4, a0g_5, a0g_6, a0g_7, a0g_8, a0g_9, a0g_10, Value.int a0_11, a0g_12, a0g_13, Value.int a0_14, Value.ref a0_15, a0g_16, a0g_17, a0g_18, a0g_19, a0g_20, a0g_21, a0g_22, a0g_23, a0g_24, a0g_25, a0g_26, a0g_27, a0g_28, a0g_29, a0g_30, a0g_31, a0g_32, a0g_33, Value.ref a0_34, Value.ref a0_35, a0g_36, a0g_37, a0g_38, a0g_39])), (a0_15, .inl (ka0_15, 156, .inl (fa0_15))), (a0_35, .inl (ka0_35, 9, .inl (fa0_35))), (a0_34, .inl (ka0_34, 9, .inl (fa0_34)))] [(ka0_15, .int), (ka0_35, .int), (ka0_34, .int)] (fun A _ => True) (fun A => va_Qi (fun (r : Int32) (_ : Unit) => True) (fun (_ : Unit) (t : State) => ∃ na0_0 : Int32, ∃ na0_11 : Int32, ∃ nfa0_35 : Nat → Int32, ∃ nfa0_34 : Nat → Int32, ax_B dC dI A [(a0, .inr (8, [Value.int na0_0, a0g_1, a0g_2, a0g_3, a0g_4, a0g_5, a0g_6, a0g_7, a0g_8, a0g_9, a0g_10, Value.int na0_11, a0g_12, a0g_13, Value.int a0_14, Value.ref a0_15, a0g_16, a0g_17, a0g_18, a0g_19, a0g_20, a0g_21, a0g_22, a0g_23, a0g_24, a0g_25, a0g_26, a0g_27, a0g_28, a0g_29, a0g_30, a0g_31, a0g_32, a0g_33, Value.ref a0_34, Value.ref a0_35, a0g_36, a0g_37, a0g_38, a0g_39])), (a0_15, .inl (ka0_15, 156, .inl (fa0_15))), (a0_35, .inl (ka0_35, 9, .inl (nfa0_35))), (a0_34, .inl (ka0_34, 9, .inl (nfa0_34)))] [(ka0_15, .int), (ka0_35, .int), (ka0_34, .int)] t) A) := by
  refine zh (cc := cX8_aliveBy) (maxL := 4) (ret := (some .int)) zn_RX8 rfl (Nat.le_of_ble_eq_true rfl) (fun p e s m below meth c A ls hx hb hml hr hts (hown : s.vm.findClass RX8 = some m.cls) hlocks hA hS hP hK hD hE (hl : lv_has ls 4 [(0, .ref a0), (1, .int a1), (2, .int a2)]) => ?_)
  refine lv_aload_n hx hb dX8_aliveBy_0 rfl (lv_at hl 0 rfl) ?_
  refine va_callv (va_runV (As := []) (rest := []) ⟨hx, hb, hml, hown, hts⟩ (c_X8_good l dC dI s.heap.size a0 a0_0 a0g_1 a0g_2 a0g_3 a0g_4 a0g_5 a0g_6 a0g_7 a0g_8 a0g_9 a0g_10 a0g_12 a0g_13 (Value.int a0_14) (Value.ref a0_15) a0g_16 a0g_17 a0g_18 a0g_19 a0g_20 a0g_21 a0g_22 a0g_23 a0g_24 a0g_25 a0g_26 a0g_27 a0g_28 a0g_29 a0g_30 a0g_31 a0g_32 a0g_33 (Value.ref a0_34) (Value.ref a0_35) a0g_36 a0g_37 a0g_38 a0g_39 a0_11 ) (cwV 0 hts gX8_aliveBy_X8_good rfl rfl rfl zd_X8_good ⟨Nat.le_of_ble_eq_true rfl, Nat.le_of_ble_eq_true rfl⟩) ⟨ax_blind (fun _ _ _ _ _ => trivial), zr_8 (zp_K hK) (zp_P1 hP) (q0 := 0) rfl, ax_pre (zp_P1 hP) (zp_K hK) (zp_D1 hD) (fun _ _ => trivial)⟩ rfl rfl hl.1 rfl (lv_room (Nat.le_of_ble_eq_true rfl)) dX8_aliveBy_1 ⟨Nat.le_of_ble_eq_true rfl, Nat.le_of_ble_eq_true rfl⟩) hS (fun q _ h => zp_F1 hD hS hA q h) (zp_F1 hD hS hA) (fun u t H locs ht hvm hw hB hz1 hk1 hS1 => zx_2 hB (fun v1na0_0 v1na0_11 hB => zo1 hB ht hP hD hk1 (zp_F1 hD hS hA) hS1 (fun hP hK1 hD hS => ?_)))
  refine lv_aload_n hx hb dX8_aliveBy_4 rfl (lv_at hl 0 rfl) ?_
  refine lv_aload_n hx hb dX8_aliveBy_5 rfl (lv_at hl 0 rfl) ?_
  refine lv_iload_n hx hb dX8_aliveBy_6 rfl (lv_at hl 1 rfl) ?_
  have hKc := hK.sub (tys' := [(ka0_15, .int)]) [0] rfl
  refine va_calli (va_runV (As := [.int a1]) (rest := [.ref a0]) ⟨hx, hb, hml, hown, hts⟩ (c_X8_isFigure l dC dI H.size a0 a1 (Value.int v1na0_0) a0g_1 a0g_2 a0g_3 a0g_4 a0g_5 a0g_6 a0g_7 a0g_8 a0g_9 a0g_10 (Value.int v1na0_11) a0g_12 a0g_13 a0g_16 a0g_17 a0g_18 a0g_19 a0g_20 a0g_21 a0g_22 a0g_23 a0g_24 a0g_25 a0g_26 a0g_27 a0g_28 a0g_29 a0g_30 a0g_31 a0g_32 a0g_33 (Value.ref a0_34) (Value.ref a0_35) a0g_36 a0g_37 a0g_38 a0g_39 a0_14 a0_15 ka0_15 fa0_15 ba0_14_l ba0_14_u bfa0_15) (cwV 1 hts gX8_aliveBy_X8_isFigure rfl rfl rfl zd_X8_isFigure ⟨Nat.le_of_ble_eq_true rfl, Nat.le_of_ble_eq_true rfl⟩) ⟨ax_blind (fun _ _ _ _ _ => trivial), zr_8 hKc (zp_P2 hP) (q0 := 0) rfl, ax_pre (zp_P2 hP) hKc (zp_D2 hD) (fun _ _ => trivial)⟩ rfl rfl hl.1 rfl (lv_room (Nat.le_of_ble_eq_true rfl)) dX8_aliveBy_7 ⟨Nat.le_of_ble_eq_true rfl, Nat.le_of_ble_eq_true rfl⟩) hS (fun q _ h => zp_F2 hD hS hA q h) (zp_F2 hD hS hA) (fun r7 u t H locs ht hvm hw hB hz1 hk1 hS1 => zo2 hB ht hP hD hk1 (zp_F2 hD hS hA) hS1 (fun hP hK1 hD hS => ?_))
  rcases hw with hw | hw
  · obtain ⟨hw, h7_0, h7_1⟩ := hw
    subst hw
    have l7k0_a1 : (0 : Int) ≤ a1.toInt := h7_0
    have u7k0_a1 : a1.toInt ≤ (8 : Int) := h7_1
    refine lv_iload_n hx hb dX8_aliveBy_10 rfl (lv_at hl 2 rfl) ?_
    refine lv_iconst (v := 0) hx hb dX8_aliveBy_11 zk_iconst_0 ?_
    refine lv_sipush (v := 999) hx hb dX8_aliveBy_12 zk_sipush_999 ?_
    refine va_calli (va_runS (As := [.int a2, .int 0, .int 999]) (rest := [.int 1, .ref a0]) ⟨hx, hb, hml, hown, hts⟩ (c_X8_in l dC dI H.size a2 0 999 ) (va_cwS 3 hts gX8_aliveBy_X8_in rfl rfl rfl zd_X8_in.2 ⟨Nat.le_of_ble_eq_true rfl, Nat.le_of_ble_eq_true rfl⟩) ⟨ax_blind (fun _ _ _ _ _ => trivial), ax_pre (zp_P0 hP) (zp_K hK) (zp_D0 hD) (fun _ _ => trivial)⟩ rfl rfl hl.1 rfl (lv_room (Nat.le_of_ble_eq_true rfl)) dX8_aliveBy_15 ⟨Nat.le_of_ble_eq_true rfl, Nat.le_of_ble_eq_true rfl⟩) hS (fun q _ h => zp_F0 hD hS hA q h) (zp_F0 hD hS hA) (fun r15 u t H locs ht hvm hw hB hz1 hk1 hS1 => zo0 hB ht hP hD hk1 (zp_F0 hD hS hA) hS1 (fun hP hK1 hD hS => ?_))
    rcases hw with hw | hw
    · obtain ⟨hw, h15⟩ := hw
      subst hw
      have l15k0_a2 : (0 : Int) ≤ a2.toInt := Int.le_trans zq5 h15.1
      have u15k0_a2 : a2.toInt ≤ (999 : Int) := Int.le_trans h15.2 zq79
      refine va_calli (va_runV (As := [.int 1, .int 1]) (rest := []) ⟨hx, hb, hml, hown, hts⟩ (c_X8_whyB l dC dI H.size a0 1 1 (Value.int v1na0_0) a0g_1 a0g_2 a0g_3 a0g_4 a0g_5 a0g_6 a0g_7 a0g_8 a0g_9 a0g_10 (Value.int v1na0_11) a0g_12 a0g_13 (Value.int a0_14) (Value.ref a0_15) a0g_16 a0g_17 a0g_18 a0g_19 a0g_20 a0g_21 a0g_22 a0g_23 a0g_24 a0g_25 a0g_26 a0g_27 a0g_28 a0g_29 a0g_30 a0g_31 a0g_32 a0g_33 (Value.ref a0_34) (Value.ref a0_35) a0g_36 a0g_37 a0g_38 a0g_39 (Int.le_trans zq4 zq1) zq0 (Int.le_trans zq4 zq1) zq0) (cwV 2 hts gX8_aliveBy_X8_why rfl rfl rfl zd_X8_why ⟨Nat.le_of_ble_eq_true rfl, Nat.le_of_ble_eq_true rfl⟩) ⟨ax_blind (fun _ _ _ _ _ => trivial), zr_8 (zp_K hK) (zp_P1 hP) (q0 := 0) rfl, ax_pre (zp_P1 hP) (zp_K hK) (zp_D1 hD) (fun _ _ => trivial)⟩ rfl rfl hl.1 rfl (lv_room (Nat.le_of_ble_eq_true rfl)) dX8_aliveBy_18 ⟨Nat.le_of_ble_eq_true rfl, Nat.le_of_ble_eq_true rfl⟩) hS (fun q _ h => zp_F1 hD hS hA q h) (zp_F1 hD hS hA) (fun r18 u t H locs ht hvm hw hB hz1 hk1 hS1 => zo1 hB ht hP hD hk1 (zp_F1 hD hS hA) hS1 (fun hP hK1 hD hS => ?_))
      rcases hw with hw | hw | hw
      · obtain ⟨hw, h18_0, h18_1, h18_2, h18_3⟩ := hw
        subst hw
        exact absurd h18_3 (by decide)
      · obtain ⟨hw, h18_0, h18_1⟩ := hw
        subst hw
        exact absurd h18_1 (by decide)
      · obtain ⟨hw, h18_0, h18_1, h18_2, h18_3⟩ := hw
        subst hw
        refine lv_istore_n (lv' := [(3, .int 0), (0, .ref a0), (1, .int a1), (2, .int a2)]) hx hb dX8_aliveBy_21 rfl hl (by decide) rfl (fun ls hl => ?_)
        refine lv_iload_n hx hb dX8_aliveBy_22 rfl (lv_at hl 0 rfl) ?_
        refine lv_if_eq (tgt := 32) hx hb dX8_aliveBy_23 (by decide) (fun _ => ?_) (fun c23 => absurd (by decide +kernel) c23)
        refine lv_aload_n hx hb dX8_aliveBy_32 rfl (lv_at hl 1 rfl) ?_
        refine lv_iload_n hx hb dX8_aliveBy_33 rfl (lv_at hl 3 rfl) ?_
        refine lv_aload_n hx hb dX8_aliveBy_34 rfl (lv_at hl 1 rfl) ?_
        refine va_get (D := (dC, dI)) (ci := 8) (v := .ref a0_15) (C := RX8) (T := TX8) (N := 40) hx hb hts zi_X8_aliveBy_8 hown hK hP 0 rfl rfl 15 (by decide) (hts (.fieldLink RX8 20 "WaxTurnsModel" "\x72" "[I") (zm_X8_aliveBy_r1 (List.mem_of_getElem? (i := 0) rfl))) (fun _ h9 => h9) rfl dX8_aliveBy_35 ?_
        refine lv_iconst (v := 1) hx hb dX8_aliveBy_38 zk_iconst_1 ?_
        refine va_iald hx hb hK hP 1 0 rfl rfl (by unfold vp_in; decide +kernel) dX8_aliveBy_39 ?_
        refine lv_topi (fun x39 ex39 => ?_)
        have bx39 : (1 : Int) ≤ x39.toInt ∧ x39.toInt ≤ 20 := by rw [ex39]; exact ai_rd bfa0_15.2.1 zq1 zq0 (by decide) (by decide) (by decide)
        refine lv_idiv hx hb dX8_aliveBy_40 (ai_nz bx39.1 (by decide)) ?_
        refine lv_topi (fun x40 ex40 => ?_)
        have qx40 := ai_div ex40 ⟨l15k0_a2, u15k0_a2⟩ (Int.lt_of_lt_of_le zq19 bx39.1)
        refine zc_cutc (wc := [(a0, .inr (8, [Value.int v1na0_0, a0g_1, a0g_2, a0g_3, a0g_4, a0g_5, a0g_6, a0g_7, a0g_8, a0g_9, a0g_10, Value.int v1na0_11, a0g_12, a0g_13, Value.int a0_14, Value.ref a0_15, a0g_16, a0g_17, a0g_18, a0g_19, a0g_20, a0g_21, a0g_22, a0g_23, a0g_24, a0g_25, a0g_26, a0g_27, a0g_28, a0g_29, a0g_30, a0g_31, a0g_32, a0g_33, Value.ref a0_34, Value.ref a0_35, a0g_36, a0g_37, a0g_38, a0g_39])), (a0_35, .inl (ka0_35, 9, .inl (fa0_35))), (a0_15, .inl (ka0_15, 156, .inl (fa0_15))), (a0_34, .inl (ka0_34, 9, .inl (fa0_34)))]) hP hD hS hA [0, 2, 1, 3] (by decide +kernel) rfl (fun hPc hDc hFc hCc => ?_)
        have hKc := hK.sub (tys' := [(ka0_35, .int), (ka0_15, .int), (ka0_34, .int)]) [1, 0, 2] rfl
        refine va_callv (va_runV (As := [.int x40]) (rest := []) ⟨hx, hb, hml, hown, hts⟩ (c_X8_layOften l dC dI H.size a0 x40 (Value.int v1na0_0) a0g_1 a0g_2 a0g_3 a0g_4 a0g_5 a0g_6 a0g_7 a0g_8 a0g_9 a0g_10 (Value.int v1na0_11) a0g_12 a0g_13 (Value.int a0_14) a0g_16 a0g_17 a0g_18 a0g_19 a0g_20 a0g_21 a0g_22 a0g_23 a0g_24 a0g_25 a0g_26 a0g_27 a0g_28 a0g_29 a0g_30 a0g_31 a0g_32 a0g_33 a0g_36 a0g_37 a0g_38 a0g_39 a0_15 a0_34 a0_35 ka0_35 fa0_35 ka0_15 fa0_15 ka0_34 fa0_34 qx40.2.1 qx40.2.2 bfa0_15) (cwV 1 hts gX8_aliveBy_X8_layOften rfl rfl rfl zd_X8_layOften ⟨Nat.le_of_ble_eq_true rfl, Nat.le_of_ble_eq_true rfl⟩) ⟨ax_blind (fun _ _ _ _ _ => trivial), zr_8 hKc hPc (q0 := 0) rfl, ax_pre hPc hKc hDc (fun _ _ => trivial)⟩ rfl rfl hl.1 rfl (lv_room (Nat.le_of_ble_eq_true rfl)) dX8_aliveBy_41 ⟨Nat.le_of_ble_eq_true rfl, Nat.le_of_ble_eq_true rfl⟩) hS (fun q _ h => hFc q h) hFc (fun u t H locs ht hvm hw hB hz1 hk1 hS => zx_2 hB (fun v41nfa0_35 v41nfa0_34 hB => zo hB ht (fun hP1 hK1 hD1 => ?_)))
        refine zc_backc (w := [(a0, .inr (8, [Value.int v1na0_0, a0g_1, a0g_2, a0g_3, a0g_4, a0g_5, a0g_6, a0g_7, a0g_8, a0g_9, a0g_10, Value.int v1na0_11, a0g_12, a0g_13, Value.int a0_14, Value.ref a0_15, a0g_16, a0g_17, a0g_18, a0g_19, a0g_20, a0g_21, a0g_22, a0g_23, a0g_24, a0g_25, a0g_26, a0g_27, a0g_28, a0g_29, a0g_30, a0g_31, a0g_32, a0g_33, Value.ref a0_34, Value.ref a0_35, a0g_36, a0g_37, a0g_38, a0g_39])), (a0_15, .inl (ka0_15, 156, .inl (fa0_15))), (a0_35, .inl (ka0_35, 9, .inl (v41nfa0_35))), (a0_34, .inl (ka0_34, 9, .inl (v41nfa0_34)))]) hP hD hCc hk1 hFc hP1 hD1 [.inr 0, .inr 2, .inr 1, .inr 3] (by decide +kernel) rfl (fun hP hD => ?_)
        refine lv_aload_n hx hb dX8_aliveBy_44 rfl (lv_at hl 1 rfl) ?_
        refine va_get (D := (dC, dI)) (ci := 8) (v := .ref a0_35) (C := RX8) (T := TX8) (N := 40) hx hb hts zi_X8_aliveBy_8 hown hK hP 0 rfl rfl 35 (by decide) (hts (.fieldLink RX8 56 "WaxTurnsModel" "often" "[I") (zm_X8_aliveBy_r1 (List.mem_of_getElem? (i := 1) rfl))) (fun _ h9 => h9) rfl dX8_aliveBy_45 ?_
        refine lv_iload_n hx hb dX8_aliveBy_48 rfl (lv_at hl 2 rfl) ?_
        refine va_iald hx hb hK hP 2 1 rfl rfl (ai_in l7k0_a1 u7k0_a1 (by decide) (by decide)) dX8_aliveBy_49 ?_
        refine lv_topi (fun x49 ex49 => ?_)
        exact W.iret (v := x49) hx hb hr (fun t ht hW => ⟨⟨x49, (), rfl, trivial, v1na0_0, v1na0_11, v41nfa0_35, v41nfa0_34, by rw [ht]; exact hP, va_K.moved hW.alike hK, hD⟩, hS.F ht⟩) hS.2.2 dX8_aliveBy_50
    · obtain ⟨hw, h15⟩ := hw
      subst hw
      refine va_calli (va_runV (As := [.int 1, .int 0]) (rest := []) ⟨hx, hb, hml, hown, hts⟩ (c_X8_whyB l dC dI H.size a0 1 0 (Value.int v1na0_0) a0g_1 a0g_2 a0g_3 a0g_4 a0g_5 a0g_6 a0g_7 a0g_8 a0g_9 a0g_10 (Value.int v1na0_11) a0g_12 a0g_13 (Value.int a0_14) (Value.ref a0_15) a0g_16 a0g_17 a0g_18 a0g_19 a0g_20 a0g_21 a0g_22 a0g_23 a0g_24 a0g_25 a0g_26 a0g_27 a0g_28 a0g_29 a0g_30 a0g_31 a0g_32 a0g_33 (Value.ref a0_34) (Value.ref a0_35) a0g_36 a0g_37 a0g_38 a0g_39 (Int.le_trans zq4 zq1) zq0 zq5 (Int.le_trans zq6 zq4)) (cwV 2 hts gX8_aliveBy_X8_why rfl rfl rfl zd_X8_why ⟨Nat.le_of_ble_eq_true rfl, Nat.le_of_ble_eq_true rfl⟩) ⟨ax_blind (fun _ _ _ _ _ => trivial), zr_8 (zp_K hK) (zp_P1 hP) (q0 := 0) rfl, ax_pre (zp_P1 hP) (zp_K hK) (zp_D1 hD) (fun _ _ => trivial)⟩ rfl rfl hl.1 rfl (lv_room (Nat.le_of_ble_eq_true rfl)) dX8_aliveBy_18 ⟨Nat.le_of_ble_eq_true rfl, Nat.le_of_ble_eq_true rfl⟩) hS (fun q _ h => zp_F1 hD hS hA q h) (zp_F1 hD hS hA) (fun r18 u t H locs ht hvm hw hB hz1 hk1 hS1 => zo1 hB ht hP hD hk1 (zp_F1 hD hS hA) hS1 (fun hP hK1 hD hS => ?_))
      rcases hw with hw | hw | hw
      · obtain ⟨hw, h18_0, h18_1, h18_2, h18_3⟩ := hw
        subst hw
        refine lv_istore_n (lv' := [(3, .int 2), (0, .ref a0), (1, .int a1), (2, .int a2)]) hx hb dX8_aliveBy_21 rfl hl (by decide) rfl (fun ls hl => ?_)
        refine lv_iload_n hx hb dX8_aliveBy_22 rfl (lv_at hl 0 rfl) ?_
        refine lv_if_eq (tgt := 32) hx hb dX8_aliveBy_23 (by decide) (fun c23 => absurd c23 (by decide +kernel)) (fun _ => ?_)
        refine lv_aload_n hx hb dX8_aliveBy_26 rfl (lv_at hl 1 rfl) ?_
        refine lv_iload_n hx hb dX8_aliveBy_27 rfl (lv_at hl 0 rfl) ?_
        refine va_calli (va_runV (As := [.int 2]) (rest := []) ⟨hx, hb, hml, hown, hts⟩ (c_X8_no l dC dI H.size a0 2 (Value.int v1na0_0) a0g_1 a0g_2 a0g_3 a0g_4 a0g_5 a0g_6 a0g_7 a0g_8 a0g_9 a0g_10 a0g_12 a0g_13 (Value.int a0_14) (Value.ref a0_15) a0g_16 a0g_17 a0g_18 a0g_19 a0g_20 a0g_21 a0g_22 a0g_23 a0g_24 a0g_25 a0g_26 a0g_27 a0g_28 a0g_29 a0g_30 a0g_31 a0g_32 a0g_33 (Value.ref a0_34) (Value.ref a0_35) a0g_36 a0g_37 a0g_38 a0g_39 v1na0_11 ) (cwV 1 hts gX8_aliveBy_X8_no rfl rfl rfl zd_X8_no ⟨Nat.le_of_ble_eq_true rfl, Nat.le_of_ble_eq_true rfl⟩) ⟨ax_blind (fun _ _ _ _ _ => trivial), zr_8 (zp_K hK) (zp_P1 hP) (q0 := 0) rfl, ax_pre (zp_P1 hP) (zp_K hK) (zp_D1 hD) (fun _ _ => trivial)⟩ rfl rfl hl.1 rfl (lv_room (Nat.le_of_ble_eq_true rfl)) dX8_aliveBy_28 ⟨Nat.le_of_ble_eq_true rfl, Nat.le_of_ble_eq_true rfl⟩) hS (fun q _ h => zp_F1 hD hS hA q h) (zp_F1 hD hS hA) (fun r28 u t H locs ht hvm hw hB hz1 hk1 hS1 => zx_1 hB (fun v28na0_11 hB => zo1 hB ht hP hD hk1 (zp_F1 hD hS hA) hS1 (fun hP hK1 hD hS => ?_)))
        have hw : r28 = (-1) := hw
        have hw := hw.symm
        subst hw
        exact W.iret (v := (-1)) hx hb hr (fun t ht hW => ⟨⟨(-1), (), rfl, trivial, v1na0_0, v28na0_11, fa0_35, fa0_34, by rw [ht]; exact hP, va_K.moved hW.alike hK, hD⟩, hS.F ht⟩) hS.2.2 dX8_aliveBy_31
      · obtain ⟨hw, h18_0, h18_1⟩ := hw
        subst hw
        exact absurd h18_1 (by decide)
      · obtain ⟨hw, h18_0, h18_1, h18_2, h18_3⟩ := hw
        subst hw
        exact absurd h18_2 (by decide)
  · subst hw
    refine lv_iload_n hx hb dX8_aliveBy_10 rfl (lv_at hl 2 rfl) ?_
    refine lv_iconst (v := 0) hx hb dX8_aliveBy_11 zk_iconst_0 ?_
    refine lv_sipush (v := 999) hx hb dX8_aliveBy_12 zk_sipush_999 ?_
    refine va_calli (va_runS (As := [.int a2, .int 0, .int 999]) (rest := [.int 0, .ref a0]) ⟨hx, hb, hml, hown, hts⟩ (c_X8_in l dC dI H.size a2 0 999 ) (va_cwS 3 hts gX8_aliveBy_X8_in rfl rfl rfl zd_X8_in.2 ⟨Nat.le_of_ble_eq_true rfl, Nat.le_of_ble_eq_true rfl⟩) ⟨ax_blind (fun _ _ _ _ _ => trivial), ax_pre (zp_P0 hP) (zp_K hK) (zp_D0 hD) (fun _ _ => trivial)⟩ rfl rfl hl.1 rfl (lv_room (Nat.le_of_ble_eq_true rfl)) dX8_aliveBy_15 ⟨Nat.le_of_ble_eq_true rfl, Nat.le_of_ble_eq_true rfl⟩) hS (fun q _ h => zp_F0 hD hS hA q h) (zp_F0 hD hS hA) (fun r15 u t H locs ht hvm hw hB hz1 hk1 hS1 => zo0 hB ht hP hD hk1 (zp_F0 hD hS hA) hS1 (fun hP hK1 hD hS => ?_))
    rcases hw with hw | hw
    · obtain ⟨hw, h15⟩ := hw
      subst hw
      have l15k0_a2 : (0 : Int) ≤ a2.toInt := Int.le_trans zq5 h15.1
      have u15k0_a2 : a2.toInt ≤ (999 : Int) := Int.le_trans h15.2 zq79
      refine va_calli (va_runV (As := [.int 0, .int 1]) (rest := []) ⟨hx, hb, hml, hown, hts⟩ (c_X8_whyB l dC dI H.size a0 0 1 (Value.int v1na0_0) a0g_1 a0g_2 a0g_3 a0g_4 a0g_5 a0g_6 a0g_7 a0g_8 a0g_9 a0g_10 (Value.int v1na0_11) a0g_12 a0g_13 (Value.int a0_14) (Value.ref a0_15) a0g_16 a0g_17 a0g_18 a0g_19 a0g_20 a0g_21 a0g_22 a0g_23 a0g_24 a0g_25 a0g_26 a0g_27 a0g_28 a0g_29 a0g_30 a0g_31 a0g_32 a0g_33 (Value.ref a0_34) (Value.ref a0_35) a0g_36 a0g_37 a0g_38 a0g_39 zq5 (Int.le_trans zq6 zq4) (Int.le_trans zq4 zq1) zq0) (cwV 2 hts gX8_aliveBy_X8_why rfl rfl rfl zd_X8_why ⟨Nat.le_of_ble_eq_true rfl, Nat.le_of_ble_eq_true rfl⟩) ⟨ax_blind (fun _ _ _ _ _ => trivial), zr_8 (zp_K hK) (zp_P1 hP) (q0 := 0) rfl, ax_pre (zp_P1 hP) (zp_K hK) (zp_D1 hD) (fun _ _ => trivial)⟩ rfl rfl hl.1 rfl (lv_room (Nat.le_of_ble_eq_true rfl)) dX8_aliveBy_18 ⟨Nat.le_of_ble_eq_true rfl, Nat.le_of_ble_eq_true rfl⟩) hS (fun q _ h => zp_F1 hD hS hA q h) (zp_F1 hD hS hA) (fun r18 u t H locs ht hvm hw hB hz1 hk1 hS1 => zo1 hB ht hP hD hk1 (zp_F1 hD hS hA) hS1 (fun hP hK1 hD hS => ?_))
      rcases hw with hw | hw | hw
      · obtain ⟨hw, h18_0, h18_1, h18_2, h18_3⟩ := hw
        subst hw
        exact absurd h18_0 (by decide)
      · obtain ⟨hw, h18_0, h18_1⟩ := hw
        subst hw
        refine lv_istore_n (lv' := [(3, .int 1), (0, .ref a0), (1, .int a1), (2, .int a2)]) hx hb dX8_aliveBy_21 rfl hl (by decide) rfl (fun ls hl => ?_)
        refine lv_iload_n hx hb dX8_aliveBy_22 rfl (lv_at hl 0 rfl) ?_
        refine lv_if_eq (tgt := 32) hx hb dX8_aliveBy_23 (by decide) (fun c23 => absurd c23 (by decide +kernel)) (fun _ => ?_)
        refine lv_aload_n hx hb dX8_aliveBy_26 rfl (lv_at hl 1 rfl) ?_
        refine lv_iload_n hx hb dX8_aliveBy_27 rfl (lv_at hl 0 rfl) ?_
        refine va_calli (va_runV (As := [.int 1]) (rest := []) ⟨hx, hb, hml, hown, hts⟩ (c_X8_no l dC dI H.size a0 1 (Value.int v1na0_0) a0g_1 a0g_2 a0g_3 a0g_4 a0g_5 a0g_6 a0g_7 a0g_8 a0g_9 a0g_10 a0g_12 a0g_13 (Value.int a0_14) (Value.ref a0_15) a0g_16 a0g_17 a0g_18 a0g_19 a0g_20 a0g_21 a0g_22 a0g_23 a0g_24 a0g_25 a0g_26 a0g_27 a0g_28 a0g_29 a0g_30 a0g_31 a0g_32 a0g_33 (Value.ref a0_34) (Value.ref a0_35) a0g_36 a0g_37 a0g_38 a0g_39 v1na0_11 ) (cwV 1 hts gX8_aliveBy_X8_no rfl rfl rfl zd_X8_no ⟨Nat.le_of_ble_eq_true rfl, Nat.le_of_ble_eq_true rfl⟩) ⟨ax_blind (fun _ _ _ _ _ => trivial), zr_8 (zp_K hK) (zp_P1 hP) (q0 := 0) rfl, ax_pre (zp_P1 hP) (zp_K hK) (zp_D1 hD) (fun _ _ => trivial)⟩ rfl rfl hl.1 rfl (lv_room (Nat.le_of_ble_eq_true rfl)) dX8_aliveBy_28 ⟨Nat.le_of_ble_eq_true rfl, Nat.le_of_ble_eq_true rfl⟩) hS (fun q _ h => zp_F1 hD hS hA q h) (zp_F1 hD hS hA) (fun r28 u t H locs ht hvm hw hB hz1 hk1 hS1 => zx_1 hB (fun v28na0_11 hB => zo1 hB ht hP hD hk1 (zp_F1 hD hS hA) hS1 (fun hP hK1 hD hS => ?_)))
        have hw : r28 = (-1) := hw
        have hw := hw.symm
        subst hw
        exact W.iret (v := (-1)) hx hb hr (fun t ht hW => ⟨⟨(-1), (), rfl, trivial, v1na0_0, v28na0_11, fa0_35, fa0_34, by rw [ht]; exact hP, va_K.moved hW.alike hK, hD⟩, hS.F ht⟩) hS.2.2 dX8_aliveBy_31
      · obtain ⟨hw, h18_0, h18_1, h18_2, h18_3⟩ := hw
        subst hw
        exact absurd h18_0 (by decide)
    · obtain ⟨hw, h15⟩ := hw
      subst hw
      refine va_calli (va_runV (As := [.int 0, .int 0]) (rest := []) ⟨hx, hb, hml, hown, hts⟩ (c_X8_whyB l dC dI H.size a0 0 0 (Value.int v1na0_0) a0g_1 a0g_2 a0g_3 a0g_4 a0g_5 a0g_6 a0g_7 a0g_8 a0g_9 a0g_10 (Value.int v1na0_11) a0g_12 a0g_13 (Value.int a0_14) (Value.ref a0_15) a0g_16 a0g_17 a0g_18 a0g_19 a0g_20 a0g_21 a0g_22 a0g_23 a0g_24 a0g_25 a0g_26 a0g_27 a0g_28 a0g_29 a0g_30 a0g_31 a0g_32 a0g_33 (Value.ref a0_34) (Value.ref a0_35) a0g_36 a0g_37 a0g_38 a0g_39 zq5 (Int.le_trans zq6 zq4) zq5 (Int.le_trans zq6 zq4)) (cwV 2 hts gX8_aliveBy_X8_why rfl rfl rfl zd_X8_why ⟨Nat.le_of_ble_eq_true rfl, Nat.le_of_ble_eq_true rfl⟩) ⟨ax_blind (fun _ _ _ _ _ => trivial), zr_8 (zp_K hK) (zp_P1 hP) (q0 := 0) rfl, ax_pre (zp_P1 hP) (zp_K hK) (zp_D1 hD) (fun _ _ => trivial)⟩ rfl rfl hl.1 rfl (lv_room (Nat.le_of_ble_eq_true rfl)) dX8_aliveBy_18 ⟨Nat.le_of_ble_eq_true rfl, Nat.le_of_ble_eq_true rfl⟩) hS (fun q _ h => zp_F1 hD hS hA q h) (zp_F1 hD hS hA) (fun r18 u t H locs ht hvm hw hB hz1 hk1 hS1 => zo1 hB ht hP hD hk1 (zp_F1 hD hS hA) hS1 (fun hP hK1 hD hS => ?_))
      rcases hw with hw | hw | hw
      · obtain ⟨hw, h18_0, h18_1, h18_2, h18_3⟩ := hw
        subst hw
        exact absurd h18_0 (by decide)
      · obtain ⟨hw, h18_0, h18_1⟩ := hw
        subst hw
        refine lv_istore_n (lv' := [(3, .int 1), (0, .ref a0), (1, .int a1), (2, .int a2)]) hx hb dX8_aliveBy_21 rfl hl (by decide) rfl (fun ls hl => ?_)
        refine lv_iload_n hx hb dX8_aliveBy_22 rfl (lv_at hl 0 rfl) ?_
        refine lv_if_eq (tgt := 32) hx hb dX8_aliveBy_23 (by decide) (fun c23 => absurd c23 (by decide +kernel)) (fun _ => ?_)
        refine lv_aload_n hx hb dX8_aliveBy_26 rfl (lv_at hl 1 rfl) ?_
        refine lv_iload_n hx hb dX8_aliveBy_27 rfl (lv_at hl 0 rfl) ?_
        refine va_calli (va_runV (As := [.int 1]) (rest := []) ⟨hx, hb, hml, hown, hts⟩ (c_X8_no l dC dI H.size a0 1 (Value.int v1na0_0) a0g_1 a0g_2 a0g_3 a0g_4 a0g_5 a0g_6 a0g_7 a0g_8 a0g_9 a0g_10 a0g_12 a0g_13 (Value.int a0_14) (Value.ref a0_15) a0g_16 a0g_17 a0g_18 a0g_19 a0g_20 a0g_21 a0g_22 a0g_23 a0g_24 a0g_25 a0g_26 a0g_27 a0g_28 a0g_29 a0g_30 a0g_31 a0g_32 a0g_33 (Value.ref a0_34) (Value.ref a0_35) a0g_36 a0g_37 a0g_38 a0g_39 v1na0_11 ) (cwV 1 hts gX8_aliveBy_X8_no rfl rfl rfl zd_X8_no ⟨Nat.le_of_ble_eq_true rfl, Nat.le_of_ble_eq_true rfl⟩) ⟨ax_blind (fun _ _ _ _ _ => trivial), zr_8 (zp_K hK) (zp_P1 hP) (q0 := 0) rfl, ax_pre (zp_P1 hP) (zp_K hK) (zp_D1 hD) (fun _ _ => trivial)⟩ rfl rfl hl.1 rfl (lv_room (Nat.le_of_ble_eq_true rfl)) dX8_aliveBy_28 ⟨Nat.le_of_ble_eq_true rfl, Nat.le_of_ble_eq_true rfl⟩) hS (fun q _ h => zp_F1 hD hS hA q h) (zp_F1 hD hS hA) (fun r28 u t H locs ht hvm hw hB hz1 hk1 hS1 => zx_1 hB (fun v28na0_11 hB => zo1 hB ht hP hD hk1 (zp_F1 hD hS hA) hS1 (fun hP hK1 hD hS => ?_)))
        have hw : r28 = (-1) := hw
        have hw := hw.symm
        subst hw
        exact W.iret (v := (-1)) hx hb hr (fun t ht hW => ⟨⟨(-1), (), rfl, trivial, v1na0_0, v28na0_11, fa0_35, fa0_34, by rw [ht]; exact hP, va_K.moved hW.alike hK, hD⟩, hS.F ht⟩) hS.2.2 dX8_aliveBy_31
      · obtain ⟨hw, h18_0, h18_1, h18_2, h18_3⟩ := hw
        subst hw
        exact absurd h18_0 (by decide)

set_option maxHeartbeats 4000000 in
set_option maxRecDepth 100000 in
theorem c_X8_lookOf (l : Launch) (dC : Nat → ClassId) (dI : Nat → Nat → Nat) (sz : Nat) (a0 : Nat) (a0g_0 a0g_1 a0g_2 a0g_3 a0g_4 a0g_5 a0g_6 a0g_7 a0g_8 a0g_9 a0g_10 a0g_11 a0g_12 a0g_13 a0g_14 a0g_16 a0g_17 a0g_18 a0g_19 a0g_20 a0g_21 a0g_22 a0g_23 a0g_24 a0g_25 a0g_26 a0g_27 a0g_28 a0g_29 a0g_30 a0g_31 a0g_32 a0g_33 a0g_37 a0g_38 a0g_39 : Value) (a0_15 : Nat) (a0_34 : Nat) (a0_35 : Nat) (a0_36 : Int32) (ka0_15 : ClassId) (fa0_15 : Nat → Int32) (ka0_35 : ClassId) (fa0_35 : Nat → Int32) (ka0_34 : ClassId) (fa0_34 : Nat → Int32) (bfa0_15 : ((∀ k : Nat, 0 ≤ k → k ≤ 0 → (2 : Int) ≤ (fa0_15 k).toInt ∧ (fa0_15 k).toInt ≤ 9) ∧ (∀ k : Nat, 1 ≤ k → k ≤ 1 → (1 : Int) ≤ (fa0_15 k).toInt ∧ (fa0_15 k).toInt ≤ 20) ∧ (∀ k : Nat, 2 ≤ k → k ≤ 2 → (0 : Int) ≤ (fa0_15 k).toInt ∧ (fa0_15 k).toInt ≤ 8) ∧ (∀ k : Nat, 3 ≤ k → k ≤ 3 → (0 : Int) ≤ (fa0_15 k).toInt ∧ (fa0_15 k).toInt ≤ 100) ∧ (∀ k : Nat, 4 ≤ k → k ≤ 4 → (0 : Int) ≤ (fa0_15 k).toInt ∧ (fa0_15 k).toInt ≤ 9) ∧ (∀ k : Nat, 5 ≤ k → k ≤ 5 → (0 : Int) ≤ (fa0_15 k).toInt ∧ (fa0_15 k).toInt ≤ 3) ∧ (∀ k : Nat, 6 ≤ k → k ≤ 6 → (0 : Int) ≤ (fa0_15 k).toInt ∧ (fa0_15 k).toInt ≤ 6) ∧ (∀ k : Nat, 7 ≤ k → k ≤ 9 → (0 : Int) ≤ (fa0_15 k).toInt ∧ (fa0_15 k).toInt ≤ 8) ∧ (∀ k : Nat, 12 ≤ k → k ≤ 29 → (0 : Int) ≤ (fa0_15 k).toInt ∧ (fa0_15 k).toInt ≤ 20) ∧ (∀ k : Nat, 30 ≤ k → k ≤ 35 → (0 : Int) ≤ (fa0_15 k).toInt ∧ (fa0_15 k).toInt ≤ 8) ∧ (∀ k : Nat, 36 ≤ k → k ≤ 47 → (0 : Int) ≤ (fa0_15 k).toInt ∧ (fa0_15 k).toInt ≤ 999))) : zm l yX8_lookOf wsX8_lookOf ({ frames := 4, cells := 0, slots := 0, locals := 94 }) [.ref a0] dC dI sz [(a0, .inr (8, [a0g_0, a0g_1, a0g_2, a0g_3, a0g_4, a0g_5, a0g_6, a0g_7, a0g_8, a0g_9, a0g_10, a0g_11, a0g_12, a0g_13, a0g_14, Value.ref a0_15, a0g_16, a0g_17, a0g_18, a0g_19, a0g_20, a0g_21, a0g_22, a0g_23, a0g_24, a0g_25, a0g_26, a0g_27, a0g_28, a0g_29, a0g_30, a0g_31, a0g_32, a0g_33, Value.ref a0_34, Value.ref a0_35, Value.int a0_36, a0g_37, a0g_38, a0g_39])), (a0_15, .inl (ka0_15, 156, .inl (fa0_15))), (a0_35, .inl (ka0_35, 9, .inl (fa0_35))), (a0_34, .inl (ka0_34, 9, .inl (fa0_34)))] [(ka0_15, .int), (ka0_35, .int), (ka0_34, .int)] (fun A _ => True) (fun A => va_Qi (fun (r : Int32) (_ : Unit) => (-2 : Int) ≤ r.toInt ∧ r.toInt ≤ (99 : Int)) (fun (_ : Unit) (t : State) => ∃ na0_36 : Int32, ∃ nfa0_35 : Nat → Int32, ∃ nfa0_34 : Nat → Int32, ax_B dC dI A [(a0, .inr (8, [a0g_0, a0g_1, a0g_2, a0g_3, a0g_4, a0g_5, a0g_6, a0g_7, a0g_8, a0g_9, a0g_10, a0g_11, a0g_12, a0g_13, a0g_14, Value.ref a0_15, a0g_16, a0g_17, a0g_18, a0g_19, a0g_20, a0g_21, a0g_22, a0g_23, a0g_24, a0g_25, a0g_26, a0g_27, a0g_28, a0g_29, a0g_30, a0g_31, a0g_32, a0g_33, Value.ref a0_34, Value.ref a0_35, Value.int na0_36, a0g_37, a0g_38, a0g_39])), (a0_15, .inl (ka0_15, 156, .inl (fa0_15))), (a0_35, .inl (ka0_35, 9, .inl (nfa0_35))), (a0_34, .inl (ka0_34, 9, .inl (nfa0_34)))] [(ka0_15, .int), (ka0_35, .int), (ka0_34, .int)] t) A) := by
  refine zh (cc := cX8_lookOf) (maxL := 5) (ret := (some .int)) zn_RX8 rfl (Nat.le_of_ble_eq_true rfl) (fun p e s m below meth c A ls hx hb hml hr hts (hown : s.vm.findClass RX8 = some m.cls) hlocks hA hS hP hK hD hE (hl : lv_has ls 5 [(0, .ref a0)]) => ?_)
  refine ai_open (fun K hK0 => ?_)
  refine (hK0 _ _ _).mpr ?_
  refine lv_bipush (v := (-2)) hx hb dX8_lookOf_0 zk_bipush_n2 ?_
  refine lv_istore_n (lv' := [(1, .int (-2)), (0, .ref a0)]) hx hb dX8_lookOf_2 rfl hl (by decide) rfl (fun ls hl => ?_)
  refine lv_aload_n hx hb dX8_lookOf_3 rfl (lv_at hl 1 rfl) ?_
  refine lv_bipush (v := (-2)) hx hb dX8_lookOf_4 zk_bipush_n2 ?_
  refine va_put (D := (dC, dI)) (ci := 8) (v := .int (-2)) (ty := .int) (C := RX8) (T := TX8) (N := 40) hx hb hts zi_X8_lookOf_8 tyX8 tyX8_ok nmX8 hown hK hP hD hS 0 rfl rfl 36 (by decide) (hts (.fieldLink RX8 346 "WaxTurnsModel" "leastLeft" "I") (zm_X8_lookOf_r1 (List.mem_of_getElem? (i := 0) rfl))) (fun _ h9 => h9) rfl (tyX8_ok 36 (by decide)) rfl rfl (Nat.le_of_ble_eq_true rfl) dX8_lookOf_6 (fun H locs hP hD hS => ?_)
  refine zs_0 (y := (a0, .inr (8, [a0g_0, a0g_1, a0g_2, a0g_3, a0g_4, a0g_5, a0g_6, a0g_7, a0g_8, a0g_9, a0g_10, a0g_11, a0g_12, a0g_13, a0g_14, Value.ref a0_15, a0g_16, a0g_17, a0g_18, a0g_19, a0g_20, a0g_21, a0g_22, a0g_23, a0g_24, a0g_25, a0g_26, a0g_27, a0g_28, a0g_29, a0g_30, a0g_31, a0g_32, a0g_33, Value.ref a0_34, Value.ref a0_35, Value.int (-2), a0g_37, a0g_38, a0g_39]))) hP hD rfl (fun hP hD => ?_)
  refine lv_iconst (v := 0) hx hb dX8_lookOf_9 zk_iconst_0 ?_
  refine lv_istore_n (lv' := [(2, .int 0), (1, .int (-2)), (0, .ref a0)]) hx hb dX8_lookOf_10 rfl hl (by decide) rfl (fun ls hl => ?_)
  have J11 : ∀ (n : Nat) (j11l2 : Int32) (j11l1 : Int32) (j11a0_36 : Int32) (j11a0_35_a : Nat → Int32) (j11a0_34_a : Nat → Int32) (H : Heap) (locs : List Loc) (ls : Array Slot), (301 : Int) - j11l2.toInt ≤ (n : Int) → (0 : Int) ≤ j11l2.toInt → j11l2.toInt ≤ (300 : Int) → (-2 : Int) ≤ j11l1.toInt → j11l1.toInt ≤ (99 : Int) → va_P (dC, dI) vwCl [(a0, .inr (8, [a0g_0, a0g_1, a0g_2, a0g_3, a0g_4, a0g_5, a0g_6, a0g_7, a0g_8, a0g_9, a0g_10, a0g_11, a0g_12, a0g_13, a0g_14, Value.ref a0_15, a0g_16, a0g_17, a0g_18, a0g_19, a0g_20, a0g_21, a0g_22, a0g_23, a0g_24, a0g_25, a0g_26, a0g_27, a0g_28, a0g_29, a0g_30, a0g_31, a0g_32, a0g_33, Value.ref a0_34, Value.ref a0_35, Value.int j11a0_36, a0g_37, a0g_38, a0g_39])), (a0_15, .inl (ka0_15, 156, .inl (fa0_15))), (a0_35, .inl (ka0_35, 9, .inl (j11a0_35_a))), (a0_34, .inl (ka0_34, 9, .inl (j11a0_34_a)))] H → va_D A [(a0, .inr (8, [a0g_0, a0g_1, a0g_2, a0g_3, a0g_4, a0g_5, a0g_6, a0g_7, a0g_8, a0g_9, a0g_10, a0g_11, a0g_12, a0g_13, a0g_14, Value.ref a0_15, a0g_16, a0g_17, a0g_18, a0g_19, a0g_20, a0g_21, a0g_22, a0g_23, a0g_24, a0g_25, a0g_26, a0g_27, a0g_28, a0g_29, a0g_30, a0g_31, a0g_32, a0g_33, Value.ref a0_34, Value.ref a0_35, Value.int j11a0_36, a0g_37, a0g_38, a0g_39])), (a0_15, .inl (ka0_15, 156, .inl (fa0_15))), (a0_35, .inl (ka0_35, 9, .inl (j11a0_35_a))), (a0_34, .inl (ka0_34, 9, .inl (j11a0_34_a)))] → va_S A s.heap H locs → lv_has ls 5 [(0, .ref a0), (1, .int j11l1), (2, .int j11l2)] → K H locs (F0 m 11 ls []) := by
    intro n
    induction n with
    | zero =>
      intro j11l2 j11l1 j11a0_36 j11a0_35_a j11a0_34_a H locs ls hm bj11l2_l bj11l2_u bj11l1_l bj11l1_u hP hD hS hl
      have h8 := ai_min j11l2
      have h9 := ai_max j11l2
      exact absurd hm (by omega)
    | succ n ih11 =>
      intro j11l2 j11l1 j11a0_36 j11a0_35_a j11a0_34_a H locs ls hm bj11l2_l bj11l2_u bj11l1_l bj11l1_u hP hD hS hl
      refine (hK0 _ _ _).mpr ?_
      have hm11 := hm
      refine lv_iload_n hx hb dX8_lookOf_11 rfl (lv_at hl 2 rfl) ?_
      refine lv_bipush (v := 100) hx hb dX8_lookOf_12 zk_bipush_100 ?_
      refine lv_icmp_ge (tgt := 112) hx hb dX8_lookOf_14 (by decide) (fun c14 => ?_) (fun c14 => ?_)
      · have gc14 := ai_le c14
        have l14t_j11l2 : (100 : Int) ≤ j11l2.toInt := Int.le_trans zq24 gc14
        refine lv_iload_n hx hb dX8_lookOf_112 rfl (lv_at hl 1 rfl) ?_
        exact W.iret (v := j11l1) hx hb hr (fun t ht hW => ⟨⟨j11l1, (), rfl, ⟨bj11l1_l, bj11l1_u⟩, j11a0_36, j11a0_35_a, j11a0_34_a, by rw [ht]; exact hP, va_K.moved hW.alike hK, hD⟩, hS.F ht⟩) hS.2.2 dX8_lookOf_113
      · have gc14 := ai_nle c14
        have u14f_j11l2 : j11l2.toInt ≤ (99 : Int) := ai_lthi gc14 zq32
        refine lv_aload_n hx hb dX8_lookOf_17 rfl (lv_at hl 0 rfl) ?_
        refine lv_iload_n hx hb dX8_lookOf_18 rfl (lv_at hl 2 rfl) ?_
        refine lv_aload_n hx hb dX8_lookOf_19 rfl (lv_at hl 0 rfl) ?_
        refine va_get (D := (dC, dI)) (ci := 8) (v := .ref a0_15) (C := RX8) (T := TX8) (N := 40) hx hb hts zi_X8_lookOf_8 hown hK hP 0 rfl rfl 15 (by decide) (hts (.fieldLink RX8 20 "WaxTurnsModel" "\x72" "[I") (zm_X8_lookOf_r1 (List.mem_of_getElem? (i := 1) rfl))) (fun _ h9 => h9) rfl dX8_lookOf_20 ?_
        refine lv_iconst (v := 1) hx hb dX8_lookOf_23 zk_iconst_1 ?_
        refine va_iald hx hb hK hP 1 0 rfl rfl (by unfold vp_in; decide +kernel) dX8_lookOf_24 ?_
        refine lv_topi (fun x24 ex24 => ?_)
        have bx24 : (1 : Int) ≤ x24.toInt ∧ x24.toInt ≤ 20 := by rw [ex24]; exact ai_rd bfa0_15.2.1 zq1 zq0 (by decide) (by decide) (by decide)
        refine lv_idiv hx hb dX8_lookOf_25 (ai_nz bx24.1 (by decide)) ?_
        refine lv_topi (fun x25 ex25 => ?_)
        have qx25 := ai_div ex25 ⟨bj11l2_l, u14f_j11l2⟩ (Int.lt_of_lt_of_le zq19 bx24.1)
        refine zc_cutc (wc := [(a0, .inr (8, [a0g_0, a0g_1, a0g_2, a0g_3, a0g_4, a0g_5, a0g_6, a0g_7, a0g_8, a0g_9, a0g_10, a0g_11, a0g_12, a0g_13, a0g_14, Value.ref a0_15, a0g_16, a0g_17, a0g_18, a0g_19, a0g_20, a0g_21, a0g_22, a0g_23, a0g_24, a0g_25, a0g_26, a0g_27, a0g_28, a0g_29, a0g_30, a0g_31, a0g_32, a0g_33, Value.ref a0_34, Value.ref a0_35, Value.int j11a0_36, a0g_37, a0g_38, a0g_39])), (a0_35, .inl (ka0_35, 9, .inl (j11a0_35_a))), (a0_15, .inl (ka0_15, 156, .inl (fa0_15))), (a0_34, .inl (ka0_34, 9, .inl (j11a0_34_a)))]) hP hD hS hA [0, 2, 1, 3] (by decide +kernel) rfl (fun hPc hDc hFc hCc => ?_)
        have hKc := hK.sub (tys' := [(ka0_35, .int), (ka0_15, .int), (ka0_34, .int)]) [1, 0, 2] rfl
        refine va_callv (va_runV (As := [.int x25]) (rest := []) ⟨hx, hb, hml, hown, hts⟩ (c_X8_layOften l dC dI H.size a0 x25 a0g_0 a0g_1 a0g_2 a0g_3 a0g_4 a0g_5 a0g_6 a0g_7 a0g_8 a0g_9 a0g_10 a0g_11 a0g_12 a0g_13 a0g_14 a0g_16 a0g_17 a0g_18 a0g_19 a0g_20 a0g_21 a0g_22 a0g_23 a0g_24 a0g_25 a0g_26 a0g_27 a0g_28 a0g_29 a0g_30 a0g_31 a0g_32 a0g_33 (Value.int j11a0_36) a0g_37 a0g_38 a0g_39 a0_15 a0_34 a0_35 ka0_35 j11a0_35_a ka0_15 fa0_15 ka0_34 j11a0_34_a qx25.2.1 (Int.le_trans qx25.2.2 zq186) bfa0_15) (cwV 1 hts gX8_lookOf_X8_layOften rfl rfl rfl zd_X8_layOften ⟨Nat.le_of_ble_eq_true rfl, Nat.le_of_ble_eq_true rfl⟩) ⟨ax_blind (fun _ _ _ _ _ => trivial), zr_8 hKc hPc (q0 := 0) rfl, ax_pre hPc hKc hDc (fun _ _ => trivial)⟩ rfl rfl hl.1 rfl (lv_room (Nat.le_of_ble_eq_true rfl)) dX8_lookOf_26 ⟨Nat.le_of_ble_eq_true rfl, Nat.le_of_ble_eq_true rfl⟩) hS (fun q _ h => hFc q h) hFc (fun u t H locs ht hvm hw hB hz1 hk1 hS => zx_2 hB (fun v26nfa0_35 v26nfa0_34 hB => zo hB ht (fun hP1 hK1 hD1 => ?_)))
        refine zc_backc (w := [(a0, .inr (8, [a0g_0, a0g_1, a0g_2, a0g_3, a0g_4, a0g_5, a0g_6, a0g_7, a0g_8, a0g_9, a0g_10, a0g_11, a0g_12, a0g_13, a0g_14, Value.ref a0_15, a0g_16, a0g_17, a0g_18, a0g_19, a0g_20, a0g_21, a0g_22, a0g_23, a0g_24, a0g_25, a0g_26, a0g_27, a0g_28, a0g_29, a0g_30, a0g_31, a0g_32, a0g_33, Value.ref a0_34, Value.ref a0_35, Value.int j11a0_36, a0g_37, a0g_38, a0g_39])), (a0_15, .inl (ka0_15, 156, .inl (fa0_15))), (a0_35, .inl (ka0_35, 9, .inl (v26nfa0_35))), (a0_34, .inl (ka0_34, 9, .inl (v26nfa0_34)))]) hP hD hCc hk1 hFc hP1 hD1 [.inr 0, .inr 2, .inr 1, .inr 3] (by decide +kernel) rfl (fun hP hD => ?_)
        refine lv_iconst (v := 0) hx hb dX8_lookOf_29 zk_iconst_0 ?_
        refine lv_istore_n (lv' := [(3, .int 0), (0, .ref a0), (1, .int j11l1), (2, .int j11l2)]) hx hb dX8_lookOf_30 rfl hl (by decide) rfl (fun ls hl => ?_)
        refine lv_iconst (v := 0) hx hb dX8_lookOf_31 zk_iconst_0 ?_
        refine lv_istore (lv' := [(4, .int 0), (3, .int 0), (0, .ref a0), (1, .int j11l1), (2, .int j11l2)]) hx hb dX8_lookOf_32 hl (by decide) rfl (fun ls hl => ?_)
        have J34 : ∀ (n : Nat) (j34l4 : Int32) (j34l3 : Int32) (H : Heap) (locs : List Loc) (ls : Array Slot), (10 : Int) - j34l4.toInt ≤ (n : Int) → (0 : Int) ≤ j34l4.toInt → j34l4.toInt ≤ (9 : Int) → (0 : Int) ≤ j34l3.toInt → va_P (dC, dI) vwCl [(a0, .inr (8, [a0g_0, a0g_1, a0g_2, a0g_3, a0g_4, a0g_5, a0g_6, a0g_7, a0g_8, a0g_9, a0g_10, a0g_11, a0g_12, a0g_13, a0g_14, Value.ref a0_15, a0g_16, a0g_17, a0g_18, a0g_19, a0g_20, a0g_21, a0g_22, a0g_23, a0g_24, a0g_25, a0g_26, a0g_27, a0g_28, a0g_29, a0g_30, a0g_31, a0g_32, a0g_33, Value.ref a0_34, Value.ref a0_35, Value.int j11a0_36, a0g_37, a0g_38, a0g_39])), (a0_15, .inl (ka0_15, 156, .inl (fa0_15))), (a0_35, .inl (ka0_35, 9, .inl (v26nfa0_35))), (a0_34, .inl (ka0_34, 9, .inl (v26nfa0_34)))] H → va_D A [(a0, .inr (8, [a0g_0, a0g_1, a0g_2, a0g_3, a0g_4, a0g_5, a0g_6, a0g_7, a0g_8, a0g_9, a0g_10, a0g_11, a0g_12, a0g_13, a0g_14, Value.ref a0_15, a0g_16, a0g_17, a0g_18, a0g_19, a0g_20, a0g_21, a0g_22, a0g_23, a0g_24, a0g_25, a0g_26, a0g_27, a0g_28, a0g_29, a0g_30, a0g_31, a0g_32, a0g_33, Value.ref a0_34, Value.ref a0_35, Value.int j11a0_36, a0g_37, a0g_38, a0g_39])), (a0_15, .inl (ka0_15, 156, .inl (fa0_15))), (a0_35, .inl (ka0_35, 9, .inl (v26nfa0_35))), (a0_34, .inl (ka0_34, 9, .inl (v26nfa0_34)))] → va_S A s.heap H locs → lv_has ls 5 [(0, .ref a0), (1, .int j11l1), (2, .int j11l2), (3, .int j34l3), (4, .int j34l4)] → K H locs (F0 m 34 ls []) := by
          intro n
          induction n with
          | zero =>
            intro j34l4 j34l3 H locs ls hm bj34l4_l bj34l4_u bj34l3_l hP hD hS hl
            have h8 := ai_min j34l4
            have h9 := ai_max j34l4
            exact absurd hm (by omega)
          | succ n ih34 =>
            intro j34l4 j34l3 H locs ls hm bj34l4_l bj34l4_u bj34l3_l hP hD hS hl
            refine (hK0 _ _ _).mpr ?_
            have hm34 := hm
            refine lv_iload hx hb dX8_lookOf_34 (lv_at hl 4 rfl) ?_
            refine lv_aload_n hx hb dX8_lookOf_36 rfl (lv_at hl 0 rfl) ?_
            refine va_get (D := (dC, dI)) (ci := 8) (v := .ref a0_15) (C := RX8) (T := TX8) (N := 40) hx hb hts zi_X8_lookOf_8 hown hK hP 0 rfl rfl 15 (by decide) (hts (.fieldLink RX8 20 "WaxTurnsModel" "\x72" "[I") (zm_X8_lookOf_r1 (List.mem_of_getElem? (i := 1) rfl))) (fun _ h9 => h9) rfl dX8_lookOf_37 ?_
            refine lv_iconst (v := 0) hx hb dX8_lookOf_40 zk_iconst_0 ?_
            refine va_iald hx hb hK hP 1 0 rfl rfl (by unfold vp_in; decide +kernel) dX8_lookOf_41 ?_
            refine lv_topi (fun x41 ex41 => ?_)
            have bx41 : (2 : Int) ≤ x41.toInt ∧ x41.toInt ≤ 9 := by rw [ex41]; exact ai_rd bfa0_15.1 zq5 zq6 (by decide) (by decide) (by decide)
            refine lv_icmp_ge (tgt := 74) hx hb dX8_lookOf_42 (by decide) (fun c42 => ?_) (fun c42 => ?_)
            · have gc42 := ai_le c42
              have u42t_x41 : x41.toInt ≤ (9 : Int) := bx41.2
              have l42t_j34l4 : (2 : Int) ≤ j34l4.toInt := Int.le_trans bx41.1 gc42
              refine lv_iload_n hx hb dX8_lookOf_74 rfl (lv_at hl 3 rfl) ?_
              have J100 : ∀ (j100l1 : Int32) (j100a0_36 : Int32) (H : Heap) (locs : List Loc) (ls : Array Slot), (-2 : Int) ≤ j100l1.toInt → j100l1.toInt ≤ (99 : Int) → va_P (dC, dI) vwCl [(a0, .inr (8, [a0g_0, a0g_1, a0g_2, a0g_3, a0g_4, a0g_5, a0g_6, a0g_7, a0g_8, a0g_9, a0g_10, a0g_11, a0g_12, a0g_13, a0g_14, Value.ref a0_15, a0g_16, a0g_17, a0g_18, a0g_19, a0g_20, a0g_21, a0g_22, a0g_23, a0g_24, a0g_25, a0g_26, a0g_27, a0g_28, a0g_29, a0g_30, a0g_31, a0g_32, a0g_33, Value.ref a0_34, Value.ref a0_35, Value.int j100a0_36, a0g_37, a0g_38, a0g_39])), (a0_15, .inl (ka0_15, 156, .inl (fa0_15))), (a0_35, .inl (ka0_35, 9, .inl (v26nfa0_35))), (a0_34, .inl (ka0_34, 9, .inl (v26nfa0_34)))] H → va_D A [(a0, .inr (8, [a0g_0, a0g_1, a0g_2, a0g_3, a0g_4, a0g_5, a0g_6, a0g_7, a0g_8, a0g_9, a0g_10, a0g_11, a0g_12, a0g_13, a0g_14, Value.ref a0_15, a0g_16, a0g_17, a0g_18, a0g_19, a0g_20, a0g_21, a0g_22, a0g_23, a0g_24, a0g_25, a0g_26, a0g_27, a0g_28, a0g_29, a0g_30, a0g_31, a0g_32, a0g_33, Value.ref a0_34, Value.ref a0_35, Value.int j100a0_36, a0g_37, a0g_38, a0g_39])), (a0_15, .inl (ka0_15, 156, .inl (fa0_15))), (a0_35, .inl (ka0_35, 9, .inl (v26nfa0_35))), (a0_34, .inl (ka0_34, 9, .inl (v26nfa0_34)))] → va_S A s.heap H locs → lv_has ls 5 [(0, .ref a0), (1, .int j100l1), (2, .int j11l2)] → K H locs (F0 m 100 ls []) := by
                intro j100l1 j100a0_36 H locs ls  bj100l1_l bj100l1_u hP hD hS hl
                refine (hK0 _ _ _).mpr ?_
                refine lv_iload_n hx hb dX8_lookOf_100 rfl (lv_at hl 2 rfl) ?_
                refine lv_aload_n hx hb dX8_lookOf_101 rfl (lv_at hl 0 rfl) ?_
                refine va_get (D := (dC, dI)) (ci := 8) (v := .ref a0_15) (C := RX8) (T := TX8) (N := 40) hx hb hts zi_X8_lookOf_8 hown hK hP 0 rfl rfl 15 (by decide) (hts (.fieldLink RX8 20 "WaxTurnsModel" "\x72" "[I") (zm_X8_lookOf_r1 (List.mem_of_getElem? (i := 1) rfl))) (fun _ h9 => h9) rfl dX8_lookOf_102 ?_
                refine lv_iconst (v := 1) hx hb dX8_lookOf_105 zk_iconst_1 ?_
                refine va_iald hx hb hK hP 1 0 rfl rfl (by unfold vp_in; decide +kernel) dX8_lookOf_106 ?_
                refine lv_topi (fun x106 ex106 => ?_)
                have bx106 : (1 : Int) ≤ x106.toInt ∧ x106.toInt ≤ 20 := by rw [ex106]; exact ai_rd bfa0_15.2.1 zq1 zq0 (by decide) (by decide) (by decide)
                refine lv_iadd hx hb dX8_lookOf_107 ?_
                refine lv_topi (fun x107 ex107 => ?_)
                have qx107 : x107.toInt = j11l2.toInt + x106.toInt := ai_add ex107 ⟨bj11l2_l, u14f_j11l2⟩ ⟨bx106.1, bx106.2⟩ (by decide) (by decide)
                have bx107 : (1 : Int) ≤ x107.toInt ∧ x107.toInt ≤ 119 := ⟨by rw [qx107]; exact Int.add_le_add bj11l2_l bx106.1, by rw [qx107]; exact Int.add_le_add u14f_j11l2 bx106.2⟩
                refine lv_istore_n (lv' := [(2, .int x107), (0, .ref a0), (1, .int j100l1)]) hx hb dX8_lookOf_108 rfl hl (by decide) rfl (fun ls hl => ?_)
                refine lv_goto (tgt := 11) hx hb dX8_lookOf_109 (by decide) ?_
                exact (hK0 _ _ _).mp (ih11 x107 j100l1 j100a0_36 v26nfa0_35 v26nfa0_34 _ _ _ (by have h0 := qx107; omega) (Int.le_trans zq4 bx107.1) (Int.le_trans bx107.2 zq187) bj100l1_l bj100l1_u hP hD hS (lv_sub hl [1, 2, 0] rfl))
              refine lv_if_eq (tgt := 100) hx hb dX8_lookOf_75 (by decide) (fun c75 => ?_) (fun c75 => ?_)
              · have gc75 := ai_eq c75
                have u75t_j34l3 : j34l3.toInt ≤ (0 : Int) := Int.le_trans (Int.le_of_eq gc75) zq6
                have l75t_j34l3 : (0 : Int) ≤ j34l3.toInt := bj34l3_l
                exact (hK0 _ _ _).mp (J100 j11l1 j11a0_36 _ _ _  bj11l1_l bj11l1_u hP hD hS (lv_sub hl [0, 1, 2] rfl))
              · have gc75 := ai_ne c75
                have l75f_j34l3 : (1 : Int) ≤ j34l3.toInt := (by have h1 := bj34l3_l; have h2 : (0 : Int32).toInt = 0 := (by decide); rw [h2] at gc75; omega)
                refine lv_iload_n hx hb dX8_lookOf_78 rfl (lv_at hl 1 rfl) ?_
                have J93 : ∀ (H : Heap) (locs : List Loc) (ls : Array Slot), va_P (dC, dI) vwCl [(a0, .inr (8, [a0g_0, a0g_1, a0g_2, a0g_3, a0g_4, a0g_5, a0g_6, a0g_7, a0g_8, a0g_9, a0g_10, a0g_11, a0g_12, a0g_13, a0g_14, Value.ref a0_15, a0g_16, a0g_17, a0g_18, a0g_19, a0g_20, a0g_21, a0g_22, a0g_23, a0g_24, a0g_25, a0g_26, a0g_27, a0g_28, a0g_29, a0g_30, a0g_31, a0g_32, a0g_33, Value.ref a0_34, Value.ref a0_35, Value.int j11a0_36, a0g_37, a0g_38, a0g_39])), (a0_15, .inl (ka0_15, 156, .inl (fa0_15))), (a0_35, .inl (ka0_35, 9, .inl (v26nfa0_35))), (a0_34, .inl (ka0_34, 9, .inl (v26nfa0_34)))] H → va_D A [(a0, .inr (8, [a0g_0, a0g_1, a0g_2, a0g_3, a0g_4, a0g_5, a0g_6, a0g_7, a0g_8, a0g_9, a0g_10, a0g_11, a0g_12, a0g_13, a0g_14, Value.ref a0_15, a0g_16, a0g_17, a0g_18, a0g_19, a0g_20, a0g_21, a0g_22, a0g_23, a0g_24, a0g_25, a0g_26, a0g_27, a0g_28, a0g_29, a0g_30, a0g_31, a0g_32, a0g_33, Value.ref a0_34, Value.ref a0_35, Value.int j11a0_36, a0g_37, a0g_38, a0g_39])), (a0_15, .inl (ka0_15, 156, .inl (fa0_15))), (a0_35, .inl (ka0_35, 9, .inl (v26nfa0_35))), (a0_34, .inl (ka0_34, 9, .inl (v26nfa0_34)))] → va_S A s.heap H locs → lv_has ls 5 [(0, .ref a0), (2, .int j11l2), (3, .int j34l3)] → K H locs (F0 m 93 ls []) := by
                  intro  H locs ls   hP hD hS hl
                  refine (hK0 _ _ _).mpr ?_
                  refine lv_iload_n hx hb dX8_lookOf_93 rfl (lv_at hl 1 rfl) ?_
                  refine lv_istore_n (lv' := [(1, .int j11l2), (0, .ref a0), (2, .int j11l2), (3, .int j34l3)]) hx hb dX8_lookOf_94 rfl hl (by decide) rfl (fun ls hl => ?_)
                  refine lv_aload_n hx hb dX8_lookOf_95 rfl (lv_at hl 1 rfl) ?_
                  refine lv_iload_n hx hb dX8_lookOf_96 rfl (lv_at hl 3 rfl) ?_
                  refine va_put (D := (dC, dI)) (ci := 8) (v := .int j34l3) (ty := .int) (C := RX8) (T := TX8) (N := 40) hx hb hts zi_X8_lookOf_8 tyX8 tyX8_ok nmX8 hown hK hP hD hS 0 rfl rfl 36 (by decide) (hts (.fieldLink RX8 346 "WaxTurnsModel" "leastLeft" "I") (zm_X8_lookOf_r1 (List.mem_of_getElem? (i := 0) rfl))) (fun _ h9 => h9) rfl (tyX8_ok 36 (by decide)) rfl rfl (Nat.le_of_ble_eq_true rfl) dX8_lookOf_97 (fun H locs hP hD hS => ?_)
                  refine zs_0 (y := (a0, .inr (8, [a0g_0, a0g_1, a0g_2, a0g_3, a0g_4, a0g_5, a0g_6, a0g_7, a0g_8, a0g_9, a0g_10, a0g_11, a0g_12, a0g_13, a0g_14, Value.ref a0_15, a0g_16, a0g_17, a0g_18, a0g_19, a0g_20, a0g_21, a0g_22, a0g_23, a0g_24, a0g_25, a0g_26, a0g_27, a0g_28, a0g_29, a0g_30, a0g_31, a0g_32, a0g_33, Value.ref a0_34, Value.ref a0_35, Value.int j34l3, a0g_37, a0g_38, a0g_39]))) hP hD rfl (fun hP hD => ?_)
                  exact (hK0 _ _ _).mp (J100 j11l2 j34l3 _ _ _  (Int.le_trans zq75 bj11l2_l) u14f_j11l2 hP hD hS (lv_sub hl [1, 0, 2] rfl))
                refine lv_if_lt (tgt := 93) hx hb dX8_lookOf_79 (by decide) (fun c79 => ?_) (fun c79 => ?_)
                · have gc79 := ai_lt c79
                  have u79t_j11l1 : j11l1.toInt ≤ (-1 : Int) := ai_lthi gc79 zq6
                  exact (hK0 _ _ _).mp (J93  _ _ _   hP hD hS (lv_sub hl [0, 2, 3] rfl))
                · have gc79 := ai_nlt c79
                  have l79f_j11l1 : (0 : Int) ≤ j11l1.toInt := Int.le_trans zq5 gc79
                  refine lv_iload_n hx hb dX8_lookOf_82 rfl (lv_at hl 3 rfl) ?_
                  refine lv_aload_n hx hb dX8_lookOf_83 rfl (lv_at hl 0 rfl) ?_
                  refine va_get (D := (dC, dI)) (ci := 8) (v := .int j11a0_36) (C := RX8) (T := TX8) (N := 40) hx hb hts zi_X8_lookOf_8 hown hK hP 0 rfl rfl 36 (by decide) (hts (.fieldLink RX8 346 "WaxTurnsModel" "leastLeft" "I") (zm_X8_lookOf_r1 (List.mem_of_getElem? (i := 0) rfl))) (fun _ h9 => h9) rfl dX8_lookOf_84 ?_
                  refine lv_icmp_lt (tgt := 93) hx hb dX8_lookOf_87 (by decide) (fun c87 => ?_) (fun c87 => ?_)
                  · have gc87 := ai_lt c87
                    have u87t_j34l3 : j34l3.toInt ≤ (2147483646 : Int) := ai_lthi gc87 (ai_max j11a0_36)
                    have l87t_j11a0_36 : (2 : Int) ≤ j11a0_36.toInt := ai_ltlo gc87 l75f_j34l3
                    exact (hK0 _ _ _).mp (J93  _ _ _   hP hD hS (lv_sub hl [0, 2, 3] rfl))
                  · have gc87 := ai_nlt c87
                    refine lv_goto (tgt := 100) hx hb dX8_lookOf_90 (by decide) ?_
                    exact (hK0 _ _ _).mp (J100 j11l1 j11a0_36 _ _ _  (Int.le_trans zq75 l79f_j11l1) bj11l1_u hP hD hS (lv_sub hl [0, 1, 2] rfl))
            · have gc42 := ai_nle c42
              have u42f_j34l4 : j34l4.toInt ≤ (8 : Int) := ai_lthi gc42 bx41.2
              have l42f_x41 : (2 : Int) ≤ x41.toInt := bx41.1
              refine lv_aload_n hx hb dX8_lookOf_45 rfl (lv_at hl 0 rfl) ?_
              refine va_get (D := (dC, dI)) (ci := 8) (v := .ref a0_35) (C := RX8) (T := TX8) (N := 40) hx hb hts zi_X8_lookOf_8 hown hK hP 0 rfl rfl 35 (by decide) (hts (.fieldLink RX8 56 "WaxTurnsModel" "often" "[I") (zm_X8_lookOf_r1 (List.mem_of_getElem? (i := 2) rfl))) (fun _ h9 => h9) rfl dX8_lookOf_46 ?_
              refine lv_iload hx hb dX8_lookOf_49 (lv_at hl 4 rfl) ?_
              refine va_iald hx hb hK hP 2 1 rfl rfl (ai_in bj34l4_l u42f_j34l4 (by decide) (by decide)) dX8_lookOf_51 ?_
              refine lv_topi (fun x51 ex51 => ?_)
              refine lv_iload_n hx hb dX8_lookOf_52 rfl (lv_at hl 3 rfl) ?_
              have J67 : ∀ (j67s0 : Int32) (H : Heap) (locs : List Loc) (ls : Array Slot), (0 : Int) ≤ j67s0.toInt → va_P (dC, dI) vwCl [(a0, .inr (8, [a0g_0, a0g_1, a0g_2, a0g_3, a0g_4, a0g_5, a0g_6, a0g_7, a0g_8, a0g_9, a0g_10, a0g_11, a0g_12, a0g_13, a0g_14, Value.ref a0_15, a0g_16, a0g_17, a0g_18, a0g_19, a0g_20, a0g_21, a0g_22, a0g_23, a0g_24, a0g_25, a0g_26, a0g_27, a0g_28, a0g_29, a0g_30, a0g_31, a0g_32, a0g_33, Value.ref a0_34, Value.ref a0_35, Value.int j11a0_36, a0g_37, a0g_38, a0g_39])), (a0_15, .inl (ka0_15, 156, .inl (fa0_15))), (a0_35, .inl (ka0_35, 9, .inl (v26nfa0_35))), (a0_34, .inl (ka0_34, 9, .inl (v26nfa0_34)))] H → va_D A [(a0, .inr (8, [a0g_0, a0g_1, a0g_2, a0g_3, a0g_4, a0g_5, a0g_6, a0g_7, a0g_8, a0g_9, a0g_10, a0g_11, a0g_12, a0g_13, a0g_14, Value.ref a0_15, a0g_16, a0g_17, a0g_18, a0g_19, a0g_20, a0g_21, a0g_22, a0g_23, a0g_24, a0g_25, a0g_26, a0g_27, a0g_28, a0g_29, a0g_30, a0g_31, a0g_32, a0g_33, Value.ref a0_34, Value.ref a0_35, Value.int j11a0_36, a0g_37, a0g_38, a0g_39])), (a0_15, .inl (ka0_15, 156, .inl (fa0_15))), (a0_35, .inl (ka0_35, 9, .inl (v26nfa0_35))), (a0_34, .inl (ka0_34, 9, .inl (v26nfa0_34)))] → va_S A s.heap H locs → lv_has ls 5 [(0, .ref a0), (1, .int j11l1), (2, .int j11l2), (4, .int j34l4)] → K H locs (F0 m 67 ls [.int j67s0]) := by
                intro j67s0 H locs ls  bj67s0_l hP hD hS hl
                refine (hK0 _ _ _).mpr ?_
                refine lv_istore_n (lv' := [(3, .int j67s0), (0, .ref a0), (1, .int j11l1), (2, .int j11l2), (4, .int j34l4)]) hx hb dX8_lookOf_67 rfl hl (by decide) rfl (fun ls hl => ?_)
                obtain ⟨x68, ex68⟩ : ∃ y : Int32, y = j34l4 + Int32.ofInt 1 := ⟨_, rfl⟩
                have qx68 : x68.toInt = j34l4.toInt + 1 := ai_inc ex68 (by decide) (by decide) u42f_j34l4 (by decide)
                have bx68 : (1 : Int) ≤ x68.toInt ∧ x68.toInt ≤ 9 := ⟨by rw [qx68]; exact Int.add_le_add bj34l4_l (Int.le_refl _), by rw [qx68]; exact Int.add_le_add u42f_j34l4 (Int.le_refl _)⟩
                refine lv_iinc (v := x68) (lv' := [(4, .int x68), (3, .int j67s0), (0, .ref a0), (1, .int j11l1), (2, .int j11l2)]) hx hb dX8_lookOf_68 hl (k := 4) rfl ex68.symm (by decide) rfl (fun ls hl => ?_)
                refine lv_goto (tgt := 34) hx hb dX8_lookOf_71 (by decide) ?_
                exact (hK0 _ _ _).mp (ih34 x68 j67s0 _ _ _ (by have h0 := qx68; omega) (Int.le_trans zq4 bx68.1) bx68.2 bj67s0_l hP hD hS (lv_sub hl [2, 3, 4, 1, 0] rfl))
              refine lv_icmp_le (tgt := 66) hx hb dX8_lookOf_53 (by decide) (fun c53 => ?_) (fun c53 => ?_)
              · have gc53 := ai_le c53
                refine lv_iload_n hx hb dX8_lookOf_66 rfl (lv_at hl 3 rfl) ?_
                exact (hK0 _ _ _).mp (J67 j34l3 _ _ _  bj34l3_l hP hD hS (lv_sub hl [0, 1, 2, 4] rfl))
              · have gc53 := ai_nle c53
                have u53f_j34l3 : j34l3.toInt ≤ (2147483646 : Int) := ai_lthi gc53 (ai_max x51)
                have l53f_x51 : (1 : Int) ≤ x51.toInt := ai_ltlo gc53 bj34l3_l
                refine lv_aload_n hx hb dX8_lookOf_56 rfl (lv_at hl 0 rfl) ?_
                refine va_get (D := (dC, dI)) (ci := 8) (v := .ref a0_35) (C := RX8) (T := TX8) (N := 40) hx hb hts zi_X8_lookOf_8 hown hK hP 0 rfl rfl 35 (by decide) (hts (.fieldLink RX8 56 "WaxTurnsModel" "often" "[I") (zm_X8_lookOf_r1 (List.mem_of_getElem? (i := 2) rfl))) (fun _ h9 => h9) rfl dX8_lookOf_57 ?_
                refine lv_iload hx hb dX8_lookOf_60 (lv_at hl 4 rfl) ?_
                refine va_iald hx hb hK hP 2 1 rfl rfl (ai_in bj34l4_l u42f_j34l4 (by decide) (by decide)) dX8_lookOf_62 ?_
                refine ax_ti x51 ex51.symm ?_
                refine lv_goto (tgt := 67) hx hb dX8_lookOf_63 (by decide) ?_
                exact (hK0 _ _ _).mp (J67 x51 _ _ _  (Int.le_trans zq4 l53f_x51) hP hD hS (lv_sub hl [0, 1, 2, 4] rfl))
        exact (hK0 _ _ _).mp (J34 10 0 0 _ _ _ (by have h1 : (0 : Int) ≤ (0 : Int32).toInt := zq5; have h2 : (0 : Int32).toInt ≤ (0 : Int) := zq6; omega) zq5 (Int.le_trans zq6 zq7) zq5 hP hD hS (lv_sub hl [2, 3, 4, 1, 0] rfl))
  exact (hK0 _ _ _).mp (J11 301 0 (-2) (-2) fa0_35 fa0_34 _ _ _ (by have h1 : (0 : Int) ≤ (0 : Int32).toInt := zq5; have h2 : (0 : Int32).toInt ≤ (0 : Int) := zq6; omega) zq5 (Int.le_trans zq6 zq83) zq45 (Int.le_trans zq44 zq188) hP hD hS (lv_sub hl [2, 1, 0] rfl))

set_option maxHeartbeats 4000000 in
set_option maxRecDepth 100000 in
theorem c_X8_look (l : Launch) (dC : Nat → ClassId) (dI : Nat → Nat → Nat) (sz : Nat) (a0 : Nat) (a0_0 : Int32) (a0g_1 a0g_2 a0g_3 a0g_4 a0g_5 a0g_6 a0g_7 a0g_8 a0g_9 a0g_10 a0g_12 a0g_13 a0g_16 a0g_17 a0g_18 a0g_19 a0g_20 a0g_21 a0g_22 a0g_23 a0g_24 a0g_25 a0g_26 a0g_27 a0g_28 a0g_29 a0g_30 a0g_31 a0g_32 a0g_33 a0g_37 a0g_38 a0g_39 : Value) (a0_11 : Int32) (a0_14 : Int32) (a0_15 : Nat) (a0_34 : Nat) (a0_35 : Nat) (a0_36 : Int32) (ka0_15 : ClassId) (fa0_15 : Nat → Int32) (ka0_35 : ClassId) (fa0_35 : Nat → Int32) (ka0_34 : ClassId) (fa0_34 : Nat → Int32) (ba0_14_l : (1 : Int) ≤ a0_14.toInt) (ba0_14_u : a0_14.toInt ≤ (1 : Int)) (bfa0_15 : ((∀ k : Nat, 0 ≤ k → k ≤ 0 → (2 : Int) ≤ (fa0_15 k).toInt ∧ (fa0_15 k).toInt ≤ 9) ∧ (∀ k : Nat, 1 ≤ k → k ≤ 1 → (1 : Int) ≤ (fa0_15 k).toInt ∧ (fa0_15 k).toInt ≤ 20) ∧ (∀ k : Nat, 2 ≤ k → k ≤ 2 → (0 : Int) ≤ (fa0_15 k).toInt ∧ (fa0_15 k).toInt ≤ 8) ∧ (∀ k : Nat, 3 ≤ k → k ≤ 3 → (0 : Int) ≤ (fa0_15 k).toInt ∧ (fa0_15 k).toInt ≤ 100) ∧ (∀ k : Nat, 4 ≤ k → k ≤ 4 → (0 : Int) ≤ (fa0_15 k).toInt ∧ (fa0_15 k).toInt ≤ 9) ∧ (∀ k : Nat, 5 ≤ k → k ≤ 5 → (0 : Int) ≤ (fa0_15 k).toInt ∧ (fa0_15 k).toInt ≤ 3) ∧ (∀ k : Nat, 6 ≤ k → k ≤ 6 → (0 : Int) ≤ (fa0_15 k).toInt ∧ (fa0_15 k).toInt ≤ 6) ∧ (∀ k : Nat, 7 ≤ k → k ≤ 9 → (0 : Int) ≤ (fa0_15 k).toInt ∧ (fa0_15 k).toInt ≤ 8) ∧ (∀ k : Nat, 12 ≤ k → k ≤ 29 → (0 : Int) ≤ (fa0_15 k).toInt ∧ (fa0_15 k).toInt ≤ 20) ∧ (∀ k : Nat, 30 ≤ k → k ≤ 35 → (0 : Int) ≤ (fa0_15 k).toInt ∧ (fa0_15 k).toInt ≤ 8) ∧ (∀ k : Nat, 36 ≤ k → k ≤ 47 → (0 : Int) ≤ (fa0_15 k).toInt ∧ (fa0_15 k).toInt ≤ 999))) : zm l yX8_look wsX8_look ({ frames := 5, cells := 0, slots := 0, locals := 118 }) [.ref a0] dC dI sz [(a0, .inr (8, [Value.int a0_0, a0g_1, a0g_2, a0g_3, a0g_4, a0g_5, a0g_6, a0g_7, a0g_8, a0g_9, a0g_10, Value.int a0_11, a0g_12, a0g_13, Value.int a0_14, Value.ref a0_15, a0g_16, a0g_17, a0g_18, a0g_19, a0g_20, a0g_21, a0g_22, a0g_23, a0g_24, a0g_25, a0g_26, a0g_27, a0g_28, a0g_29, a0g_30, a0g_31, a0g_32, a0g_33, Value.ref a0_34, Value.ref a0_35, Value.int a0_36, a0g_37, a0g_38, a0g_39])), (a0_15, .inl (ka0_15, 156, .inl (fa0_15))), (a0_35, .inl (ka0_35, 9, .inl (fa0_35))), (a0_34, .inl (ka0_34, 9, .inl (fa0_34)))] [(ka0_15, .int), (ka0_35, .int), (ka0_34, .int)] (fun A _ => True) (fun A => va_Qi (fun (r : Int32) (_ : Unit) => (-2 : Int) ≤ r.toInt ∧ r.toInt ≤ (99 : Int)) (fun (_ : Unit) (t : State) => ∃ na0_0 : Int32, ∃ na0_11 : Int32, ∃ na0_36 : Int32, ∃ nfa0_35 : Nat → Int32, ∃ nfa0_34 : Nat → Int32, ax_B dC dI A [(a0, .inr (8, [Value.int na0_0, a0g_1, a0g_2, a0g_3, a0g_4, a0g_5, a0g_6, a0g_7, a0g_8, a0g_9, a0g_10, Value.int na0_11, a0g_12, a0g_13, Value.int a0_14, Value.ref a0_15, a0g_16, a0g_17, a0g_18, a0g_19, a0g_20, a0g_21, a0g_22, a0g_23, a0g_24, a0g_25, a0g_26, a0g_27, a0g_28, a0g_29, a0g_30, a0g_31, a0g_32, a0g_33, Value.ref a0_34, Value.ref a0_35, Value.int na0_36, a0g_37, a0g_38, a0g_39])), (a0_15, .inl (ka0_15, 156, .inl (fa0_15))), (a0_35, .inl (ka0_35, 9, .inl (nfa0_35))), (a0_34, .inl (ka0_34, 9, .inl (nfa0_34)))] [(ka0_15, .int), (ka0_35, .int), (ka0_34, .int)] t) A) := by
  refine zh (cc := cX8_look) (maxL := 1) (ret := (some .int)) zn_RX8 rfl (Nat.le_of_ble_eq_true rfl) (fun p e s m below meth c A ls hx hb hml hr hts (hown : s.vm.findClass RX8 = some m.cls) hlocks hA hS hP hK hD hE (hl : lv_has ls 1 [(0, .ref a0)]) => ?_)
  refine lv_aload_n hx hb dX8_look_0 rfl (lv_at hl 0 rfl) ?_
  refine va_callv (va_runV (As := []) (rest := []) ⟨hx, hb, hml, hown, hts⟩ (c_X8_good l dC dI s.heap.size a0 a0_0 a0g_1 a0g_2 a0g_3 a0g_4 a0g_5 a0g_6 a0g_7 a0g_8 a0g_9 a0g_10 a0g_12 a0g_13 (Value.int a0_14) (Value.ref a0_15) a0g_16 a0g_17 a0g_18 a0g_19 a0g_20 a0g_21 a0g_22 a0g_23 a0g_24 a0g_25 a0g_26 a0g_27 a0g_28 a0g_29 a0g_30 a0g_31 a0g_32 a0g_33 (Value.ref a0_34) (Value.ref a0_35) (Value.int a0_36) a0g_37 a0g_38 a0g_39 a0_11 ) (cwV 0 hts gX8_look_X8_good rfl rfl rfl zd_X8_good ⟨Nat.le_of_ble_eq_true rfl, Nat.le_of_ble_eq_true rfl⟩) ⟨ax_blind (fun _ _ _ _ _ => trivial), zr_8 (zp_K hK) (zp_P1 hP) (q0 := 0) rfl, ax_pre (zp_P1 hP) (zp_K hK) (zp_D1 hD) (fun _ _ => trivial)⟩ rfl rfl hl.1 rfl (lv_room (Nat.le_of_ble_eq_true rfl)) dX8_look_1 ⟨Nat.le_of_ble_eq_true rfl, Nat.le_of_ble_eq_true rfl⟩) hS (fun q _ h => zp_F1 hD hS hA q h) (zp_F1 hD hS hA) (fun u t H locs ht hvm hw hB hz1 hk1 hS1 => zx_2 hB (fun v1na0_0 v1na0_11 hB => zo1 hB ht hP hD hk1 (zp_F1 hD hS hA) hS1 (fun hP hK1 hD hS => ?_)))
  refine lv_aload_n hx hb dX8_look_4 rfl (lv_at hl 0 rfl) ?_
  refine va_get (D := (dC, dI)) (ci := 8) (v := .int a0_14) (C := RX8) (T := TX8) (N := 40) hx hb hts zi_X8_look_8 hown hK hP 0 rfl rfl 14 (by decide) (hts (.fieldLink RX8 173 "WaxTurnsModel" "hasGallery" "Z") (zm_X8_look_r1 (List.mem_of_getElem? (i := 0) rfl))) (fun _ h9 => h9) rfl dX8_look_5 ?_
  refine lv_if_eq (tgt := 18) hx hb dX8_look_8 (by decide) (fun c8 => ?_) (fun c8 => ?_)
  · have gc8 := ai_eq c8
    have u8t_a0_14 : a0_14.toInt ≤ (0 : Int) := Int.le_trans (Int.le_of_eq gc8) zq6
    have l8t_a0_14 : (1 : Int) ≤ a0_14.toInt := ba0_14_l
    exact absurd (Int.le_trans l8t_a0_14 u8t_a0_14) (by decide)
  · have gc8 := ai_ne c8
    refine lv_aload_n hx hb dX8_look_11 rfl (lv_at hl 0 rfl) ?_
    have hKc := hK.sub (tys' := [(ka0_15, .int), (ka0_35, .int), (ka0_34, .int)]) [0, 1, 2] rfl
    refine va_calli (va_runV (As := []) (rest := []) ⟨hx, hb, hml, hown, hts⟩ (c_X8_lookOf l dC dI H.size a0 (Value.int v1na0_0) a0g_1 a0g_2 a0g_3 a0g_4 a0g_5 a0g_6 a0g_7 a0g_8 a0g_9 a0g_10 (Value.int v1na0_11) a0g_12 a0g_13 (Value.int a0_14) a0g_16 a0g_17 a0g_18 a0g_19 a0g_20 a0g_21 a0g_22 a0g_23 a0g_24 a0g_25 a0g_26 a0g_27 a0g_28 a0g_29 a0g_30 a0g_31 a0g_32 a0g_33 a0g_37 a0g_38 a0g_39 a0_15 a0_34 a0_35 a0_36 ka0_15 fa0_15 ka0_35 fa0_35 ka0_34 fa0_34 bfa0_15) (cwV 0 hts gX8_look_X8_lookOf rfl rfl rfl zd_X8_lookOf ⟨Nat.le_of_ble_eq_true rfl, Nat.le_of_ble_eq_true rfl⟩) ⟨ax_blind (fun _ _ _ _ _ => trivial), zr_8 hKc (zp_P4 hP) (q0 := 0) rfl, ax_pre (zp_P4 hP) hKc (zp_D4 hD) (fun _ _ => trivial)⟩ rfl rfl hl.1 rfl (lv_room (Nat.le_of_ble_eq_true rfl)) dX8_look_12 ⟨Nat.le_of_ble_eq_true rfl, Nat.le_of_ble_eq_true rfl⟩) hS (fun q _ h => zp_F4 hD hS hA q h) (zp_F4 hD hS hA) (fun r12 u t H locs ht hvm hw hB hz1 hk1 hS1 => zx_3 hB (fun v12na0_36 v12nfa0_35 v12nfa0_34 hB => zo4 hB ht hP hD hk1 (zp_F4 hD hS hA) hS1 (fun hP hK1 hD hS => ?_)))
    have hw : (-2 : Int) ≤ r12.toInt ∧ r12.toInt ≤ (99 : Int) := hw
    obtain ⟨h12_0, h12_1⟩ := hw
    refine lv_goto (tgt := 23) hx hb dX8_look_15 (by decide) ?_
    exact W.iret (v := r12) hx hb hr (fun t ht hW => ⟨⟨r12, (), rfl, ⟨h12_0, h12_1⟩, v1na0_0, v1na0_11, v12na0_36, v12nfa0_35, v12nfa0_34, by rw [ht]; exact hP, va_K.moved hW.alike hK, hD⟩, hS.F ht⟩) hS.2.2 dX8_look_23
end P250_02_safe
section P250_03_safe
set_option maxHeartbeats 4000000 in
set_option maxRecDepth 100000 in
theorem c_X8_lookLeaves (l : Launch) (dC : Nat → ClassId) (dI : Nat → Nat → Nat) (sz : Nat) (a0 : Nat) (a0_0 : Int32) (a0g_1 a0g_2 a0g_3 a0g_4 a0g_5 a0g_6 a0g_7 a0g_8 a0g_9 a0g_10 a0g_12 a0g_13 a0g_16 a0g_17 a0g_18 a0g_19 a0g_20 a0g_21 a0g_22 a0g_23 a0g_24 a0g_25 a0g_26 a0g_27 a0g_28 a0g_29 a0g_30 a0g_31 a0g_32 a0g_33 a0g_37 a0g_38 a0g_39 : Value) (a0_11 : Int32) (a0_14 : Int32) (a0_15 : Nat) (a0_34 : Nat) (a0_35 : Nat) (a0_36 : Int32) (ka0_15 : ClassId) (fa0_15 : Nat → Int32) (ka0_35 : ClassId) (fa0_35 : Nat → Int32) (ka0_34 : ClassId) (fa0_34 : Nat → Int32) (ba0_14_l : (1 : Int) ≤ a0_14.toInt) (ba0_14_u : a0_14.toInt ≤ (1 : Int)) (bfa0_15 : ((∀ k : Nat, 0 ≤ k → k ≤ 0 → (2 : Int) ≤ (fa0_15 k).toInt ∧ (fa0_15 k).toInt ≤ 9) ∧ (∀ k : Nat, 1 ≤ k → k ≤ 1 → (1 : Int) ≤ (fa0_15 k).toInt ∧ (fa0_15 k).toInt ≤ 20) ∧ (∀ k : Nat, 2 ≤ k → k ≤ 2 → (0 : Int) ≤ (fa0_15 k).toInt ∧ (fa0_15 k).toInt ≤ 8) ∧ (∀ k : Nat, 3 ≤ k → k ≤ 3 → (0 : Int) ≤ (fa0_15 k).toInt ∧ (fa0_15 k).toInt ≤ 100) ∧ (∀ k : Nat, 4 ≤ k → k ≤ 4 → (0 : Int) ≤ (fa0_15 k).toInt ∧ (fa0_15 k).toInt ≤ 9) ∧ (∀ k : Nat, 5 ≤ k → k ≤ 5 → (0 : Int) ≤ (fa0_15 k).toInt ∧ (fa0_15 k).toInt ≤ 3) ∧ (∀ k : Nat, 6 ≤ k → k ≤ 6 → (0 : Int) ≤ (fa0_15 k).toInt ∧ (fa0_15 k).toInt ≤ 6) ∧ (∀ k : Nat, 7 ≤ k → k ≤ 9 → (0 : Int) ≤ (fa0_15 k).toInt ∧ (fa0_15 k).toInt ≤ 8) ∧ (∀ k : Nat, 12 ≤ k → k ≤ 29 → (0 : Int) ≤ (fa0_15 k).toInt ∧ (fa0_15 k).toInt ≤ 20) ∧ (∀ k : Nat, 30 ≤ k → k ≤ 35 → (0 : Int) ≤ (fa0_15 k).toInt ∧ (fa0_15 k).toInt ≤ 8) ∧ (∀ k : Nat, 36 ≤ k → k ≤ 47 → (0 : Int) ≤ (fa0_15 k).toInt ∧ (fa0_15 k).toInt ≤ 999))) : zm l yX8_lookLeaves wsX8_lookLeaves ({ frames := 5, cells := 0, slots := 0, locals := 118 }) [.ref a0] dC dI sz [(a0, .inr (8, [Value.int a0_0, a0g_1, a0g_2, a0g_3, a0g_4, a0g_5, a0g_6, a0g_7, a0g_8, a0g_9, a0g_10, Value.int a0_11, a0g_12, a0g_13, Value.int a0_14, Value.ref a0_15, a0g_16, a0g_17, a0g_18, a0g_19, a0g_20, a0g_21, a0g_22, a0g_23, a0g_24, a0g_25, a0g_26, a0g_27, a0g_28, a0g_29, a0g_30, a0g_31, a0g_32, a0g_33, Value.ref a0_34, Value.ref a0_35, Value.int a0_36, a0g_37, a0g_38, a0g_39])), (a0_15, .inl (ka0_15, 156, .inl (fa0_15))), (a0_35, .inl (ka0_35, 9, .inl (fa0_35))), (a0_34, .inl (ka0_34, 9, .inl (fa0_34)))] [(ka0_15, .int), (ka0_35, .int), (ka0_34, .int)] (fun A _ => True) (fun A => va_Qi (fun (r : Int32) (_ : Unit) => True) (fun (_ : Unit) (t : State) => ∃ na0_0 : Int32, ∃ na0_11 : Int32, ∃ na0_36 : Int32, ∃ nfa0_35 : Nat → Int32, ∃ nfa0_34 : Nat → Int32, ax_B dC dI A [(a0, .inr (8, [Value.int na0_0, a0g_1, a0g_2, a0g_3, a0g_4, a0g_5, a0g_6, a0g_7, a0g_8, a0g_9, a0g_10, Value.int na0_11, a0g_12, a0g_13, Value.int a0_14, Value.ref a0_15, a0g_16, a0g_17, a0g_18, a0g_19, a0g_20, a0g_21, a0g_22, a0g_23, a0g_24, a0g_25, a0g_26, a0g_27, a0g_28, a0g_29, a0g_30, a0g_31, a0g_32, a0g_33, Value.ref a0_34, Value.ref a0_35, Value.int na0_36, a0g_37, a0g_38, a0g_39])), (a0_15, .inl (ka0_15, 156, .inl (fa0_15))), (a0_35, .inl (ka0_35, 9, .inl (nfa0_35))), (a0_34, .inl (ka0_34, 9, .inl (nfa0_34)))] [(ka0_15, .int), (ka0_35, .int), (ka0_34, .int)] t) A) := by
  refine zh (cc := cX8_lookLeaves) (maxL := 1) (ret := (some .int)) zn_RX8 rfl (Nat.le_of_ble_eq_true rfl) (fun p e s m below meth c A ls hx hb hml hr hts (hown : s.vm.findClass RX8 = some m.cls) hlocks hA hS hP hK hD hE (hl : lv_has ls 1 [(0, .ref a0)]) => ?_)
  refine lv_aload_n hx hb dX8_lookLeaves_0 rfl (lv_at hl 0 rfl) ?_
  refine va_callv (va_runV (As := []) (rest := []) ⟨hx, hb, hml, hown, hts⟩ (c_X8_good l dC dI s.heap.size a0 a0_0 a0g_1 a0g_2 a0g_3 a0g_4 a0g_5 a0g_6 a0g_7 a0g_8 a0g_9 a0g_10 a0g_12 a0g_13 (Value.int a0_14) (Value.ref a0_15) a0g_16 a0g_17 a0g_18 a0g_19 a0g_20 a0g_21 a0g_22 a0g_23 a0g_24 a0g_25 a0g_26 a0g_27 a0g_28 a0g_29 a0g_30 a0g_31 a0g_32 a0g_33 (Value.ref a0_34) (Value.ref a0_35) (Value.int a0_36) a0g_37 a0g_38 a0g_39 a0_11 ) (cwV 0 hts gX8_lookLeaves_X8_good rfl rfl rfl zd_X8_good ⟨Nat.le_of_ble_eq_true rfl, Nat.le_of_ble_eq_true rfl⟩) ⟨ax_blind (fun _ _ _ _ _ => trivial), zr_8 (zp_K hK) (zp_P1 hP) (q0 := 0) rfl, ax_pre (zp_P1 hP) (zp_K hK) (zp_D1 hD) (fun _ _ => trivial)⟩ rfl rfl hl.1 rfl (lv_room (Nat.le_of_ble_eq_true rfl)) dX8_lookLeaves_1 ⟨Nat.le_of_ble_eq_true rfl, Nat.le_of_ble_eq_true rfl⟩) hS (fun q _ h => zp_F1 hD hS hA q h) (zp_F1 hD hS hA) (fun u t H locs ht hvm hw hB hz1 hk1 hS1 => zx_2 hB (fun v1na0_0 v1na0_11 hB => zo1 hB ht hP hD hk1 (zp_F1 hD hS hA) hS1 (fun hP hK1 hD hS => ?_)))
  refine lv_aload_n hx hb dX8_lookLeaves_4 rfl (lv_at hl 0 rfl) ?_
  refine va_get (D := (dC, dI)) (ci := 8) (v := .int a0_14) (C := RX8) (T := TX8) (N := 40) hx hb hts zi_X8_lookLeaves_8 hown hK hP 0 rfl rfl 14 (by decide) (hts (.fieldLink RX8 173 "WaxTurnsModel" "hasGallery" "Z") (zm_X8_lookLeaves_r1 (List.mem_of_getElem? (i := 0) rfl))) (fun _ h9 => h9) rfl dX8_lookLeaves_5 ?_
  refine lv_if_ne (tgt := 17) hx hb dX8_lookLeaves_8 (by decide) (fun c8 => ?_) (fun c8 => ?_)
  · have gc8 := ai_ne c8
    refine lv_aload_n hx hb dX8_lookLeaves_17 rfl (lv_at hl 0 rfl) ?_
    have hKc := hK.sub (tys' := [(ka0_15, .int), (ka0_35, .int), (ka0_34, .int)]) [0, 1, 2] rfl
    refine va_calli (va_runV (As := []) (rest := []) ⟨hx, hb, hml, hown, hts⟩ (c_X8_lookOf l dC dI H.size a0 (Value.int v1na0_0) a0g_1 a0g_2 a0g_3 a0g_4 a0g_5 a0g_6 a0g_7 a0g_8 a0g_9 a0g_10 (Value.int v1na0_11) a0g_12 a0g_13 (Value.int a0_14) a0g_16 a0g_17 a0g_18 a0g_19 a0g_20 a0g_21 a0g_22 a0g_23 a0g_24 a0g_25 a0g_26 a0g_27 a0g_28 a0g_29 a0g_30 a0g_31 a0g_32 a0g_33 a0g_37 a0g_38 a0g_39 a0_15 a0_34 a0_35 a0_36 ka0_15 fa0_15 ka0_35 fa0_35 ka0_34 fa0_34 bfa0_15) (cwV 0 hts gX8_lookLeaves_X8_lookOf rfl rfl rfl zd_X8_lookOf ⟨Nat.le_of_ble_eq_true rfl, Nat.le_of_ble_eq_true rfl⟩) ⟨ax_blind (fun _ _ _ _ _ => trivial), zr_8 hKc (zp_P4 hP) (q0 := 0) rfl, ax_pre (zp_P4 hP) hKc (zp_D4 hD) (fun _ _ => trivial)⟩ rfl rfl hl.1 rfl (lv_room (Nat.le_of_ble_eq_true rfl)) dX8_lookLeaves_18 ⟨Nat.le_of_ble_eq_true rfl, Nat.le_of_ble_eq_true rfl⟩) hS (fun q _ h => zp_F4 hD hS hA q h) (zp_F4 hD hS hA) (fun r18 u t H locs ht hvm hw hB hz1 hk1 hS1 => zx_3 hB (fun v18na0_36 v18nfa0_35 v18nfa0_34 hB => zo4 hB ht hP hD hk1 (zp_F4 hD hS hA) hS1 (fun hP hK1 hD hS => ?_)))
    have hw : (-2 : Int) ≤ r18.toInt ∧ r18.toInt ≤ (99 : Int) := hw
    obtain ⟨h18_0, h18_1⟩ := hw
    refine lv_pop hx hb dX8_lookLeaves_21 rfl ?_
    refine lv_aload_n hx hb dX8_lookLeaves_22 rfl (lv_at hl 0 rfl) ?_
    refine va_get (D := (dC, dI)) (ci := 8) (v := .int v18na0_36) (C := RX8) (T := TX8) (N := 40) hx hb hts zi_X8_lookLeaves_8 hown hK hP 0 rfl rfl 36 (by decide) (hts (.fieldLink RX8 346 "WaxTurnsModel" "leastLeft" "I") (zm_X8_lookLeaves_r1 (List.mem_of_getElem? (i := 1) rfl))) (fun _ h9 => h9) rfl dX8_lookLeaves_23 ?_
    exact W.iret (v := v18na0_36) hx hb hr (fun t ht hW => ⟨⟨v18na0_36, (), rfl, trivial, v1na0_0, v1na0_11, v18na0_36, v18nfa0_35, v18nfa0_34, by rw [ht]; exact hP, va_K.moved hW.alike hK, hD⟩, hS.F ht⟩) hS.2.2 dX8_lookLeaves_26
  · have gc8 := ai_eq c8
    have u8f_a0_14 : a0_14.toInt ≤ (0 : Int) := Int.le_trans (Int.le_of_eq gc8) zq6
    have l8f_a0_14 : (1 : Int) ≤ a0_14.toInt := ba0_14_l
    exact absurd (Int.le_trans l8f_a0_14 u8f_a0_14) (by decide)

set_option maxHeartbeats 4000000 in
set_option maxRecDepth 100000 in
theorem c_X8_judge (l : Launch) (dC : Nat → ClassId) (dI : Nat → Nat → Nat) (sz : Nat) (a0 : Nat) (a0_0 : Int32) (a0g_1 a0g_2 a0g_3 a0g_4 a0g_5 a0g_6 a0g_7 a0g_8 a0g_9 a0g_10 a0g_12 a0g_13 a0g_16 a0g_17 a0g_18 a0g_19 a0g_20 a0g_21 a0g_22 a0g_23 a0g_24 a0g_25 a0g_26 a0g_27 a0g_28 a0g_29 a0g_30 a0g_31 a0g_32 a0g_33 a0g_35 a0g_36 a0g_37 a0g_38 a0g_39 : Value) (a0_11 : Int32) (a0_14 : Int32) (a0_15 : Nat) (a0_34 : Nat) (ka0_15 : ClassId) (fa0_15 : Nat → Int32) (ka0_34 : ClassId) (fa0_34 : Nat → Int32) (ba0_14_l : (1 : Int) ≤ a0_14.toInt) (ba0_14_u : a0_14.toInt ≤ (1 : Int)) (bfa0_15 : ((∀ k : Nat, 0 ≤ k → k ≤ 0 → (2 : Int) ≤ (fa0_15 k).toInt ∧ (fa0_15 k).toInt ≤ 9) ∧ (∀ k : Nat, 1 ≤ k → k ≤ 1 → (1 : Int) ≤ (fa0_15 k).toInt ∧ (fa0_15 k).toInt ≤ 20) ∧ (∀ k : Nat, 2 ≤ k → k ≤ 2 → (0 : Int) ≤ (fa0_15 k).toInt ∧ (fa0_15 k).toInt ≤ 8) ∧ (∀ k : Nat, 3 ≤ k → k ≤ 3 → (0 : Int) ≤ (fa0_15 k).toInt ∧ (fa0_15 k).toInt ≤ 100) ∧ (∀ k : Nat, 4 ≤ k → k ≤ 4 → (0 : Int) ≤ (fa0_15 k).toInt ∧ (fa0_15 k).toInt ≤ 9) ∧ (∀ k : Nat, 5 ≤ k → k ≤ 5 → (0 : Int) ≤ (fa0_15 k).toInt ∧ (fa0_15 k).toInt ≤ 3) ∧ (∀ k : Nat, 6 ≤ k → k ≤ 6 → (0 : Int) ≤ (fa0_15 k).toInt ∧ (fa0_15 k).toInt ≤ 6) ∧ (∀ k : Nat, 7 ≤ k → k ≤ 9 → (0 : Int) ≤ (fa0_15 k).toInt ∧ (fa0_15 k).toInt ≤ 8) ∧ (∀ k : Nat, 12 ≤ k → k ≤ 29 → (0 : Int) ≤ (fa0_15 k).toInt ∧ (fa0_15 k).toInt ≤ 20) ∧ (∀ k : Nat, 30 ≤ k → k ≤ 35 → (0 : Int) ≤ (fa0_15 k).toInt ∧ (fa0_15 k).toInt ≤ 8) ∧ (∀ k : Nat, 36 ≤ k → k ≤ 47 → (0 : Int) ≤ (fa0_15 k).toInt ∧ (fa0_15 k).toInt ≤ 999))) : zm l yX8_judge wsX8_judge ({ frames := 1, cells := 0, slots := 0, locals := 28 }) [.ref a0] dC dI sz [(a0, .inr (8, [Value.int a0_0, a0g_1, a0g_2, a0g_3, a0g_4, a0g_5, a0g_6, a0g_7, a0g_8, a0g_9, a0g_10, Value.int a0_11, a0g_12, a0g_13, Value.int a0_14, Value.ref a0_15, a0g_16, a0g_17, a0g_18, a0g_19, a0g_20, a0g_21, a0g_22, a0g_23, a0g_24, a0g_25, a0g_26, a0g_27, a0g_28, a0g_29, a0g_30, a0g_31, a0g_32, a0g_33, Value.ref a0_34, a0g_35, a0g_36, a0g_37, a0g_38, a0g_39])), (a0_15, .inl (ka0_15, 156, .inl (fa0_15))), (a0_34, .inl (ka0_34, 9, .inl (fa0_34)))] [(ka0_15, .int), (ka0_34, .int)] (fun A _ => True) (fun A => va_Qi (fun (r : Int32) (_ : Unit) => (-2 : Int) ≤ r.toInt ∧ r.toInt ≤ (5 : Int)) (fun (_ : Unit) (t : State) => ∃ na0_0 : Int32, ∃ na0_11 : Int32, ∃ nfa0_34 : Nat → Int32, ax_B dC dI A [(a0, .inr (8, [Value.int na0_0, a0g_1, a0g_2, a0g_3, a0g_4, a0g_5, a0g_6, a0g_7, a0g_8, a0g_9, a0g_10, Value.int na0_11, a0g_12, a0g_13, Value.int a0_14, Value.ref a0_15, a0g_16, a0g_17, a0g_18, a0g_19, a0g_20, a0g_21, a0g_22, a0g_23, a0g_24, a0g_25, a0g_26, a0g_27, a0g_28, a0g_29, a0g_30, a0g_31, a0g_32, a0g_33, Value.ref a0_34, a0g_35, a0g_36, a0g_37, a0g_38, a0g_39])), (a0_15, .inl (ka0_15, 156, .inl (fa0_15))), (a0_34, .inl (ka0_34, 9, .inl (nfa0_34)))] [(ka0_15, .int), (ka0_34, .int)] t) A) := by
  refine zh (cc := cX8_judge) (maxL := 2) (ret := (some .int)) zn_RX8 rfl (Nat.le_of_ble_eq_true rfl) (fun p e s m below meth c A ls hx hb hml hr hts (hown : s.vm.findClass RX8 = some m.cls) hlocks hA hS hP hK hD hE (hl : lv_has ls 2 [(0, .ref a0)]) => ?_)
  refine ai_open (fun K hK0 => ?_)
  refine (hK0 _ _ _).mpr ?_
  refine lv_aload_n hx hb dX8_judge_0 rfl (lv_at hl 0 rfl) ?_
  refine va_callv (va_runV (As := []) (rest := []) ⟨hx, hb, hml, hown, hts⟩ (c_X8_good l dC dI s.heap.size a0 a0_0 a0g_1 a0g_2 a0g_3 a0g_4 a0g_5 a0g_6 a0g_7 a0g_8 a0g_9 a0g_10 a0g_12 a0g_13 (Value.int a0_14) (Value.ref a0_15) a0g_16 a0g_17 a0g_18 a0g_19 a0g_20 a0g_21 a0g_22 a0g_23 a0g_24 a0g_25 a0g_26 a0g_27 a0g_28 a0g_29 a0g_30 a0g_31 a0g_32 a0g_33 (Value.ref a0_34) a0g_35 a0g_36 a0g_37 a0g_38 a0g_39 a0_11 ) (cwV 0 hts gX8_judge_X8_good rfl rfl rfl zd_X8_good ⟨Nat.le_of_ble_eq_true rfl, Nat.le_of_ble_eq_true rfl⟩) ⟨ax_blind (fun _ _ _ _ _ => trivial), zr_8 (zp_K hK) (zp_P1 hP) (q0 := 0) rfl, ax_pre (zp_P1 hP) (zp_K hK) (zp_D1 hD) (fun _ _ => trivial)⟩ rfl rfl hl.1 rfl (lv_room (Nat.le_of_ble_eq_true rfl)) dX8_judge_1 ⟨Nat.le_of_ble_eq_true rfl, Nat.le_of_ble_eq_true rfl⟩) hS (fun q _ h => zp_F1 hD hS hA q h) (zp_F1 hD hS hA) (fun u t H locs ht hvm hw hB hz1 hk1 hS1 => zx_2 hB (fun v1na0_0 v1na0_11 hB => zo1 hB ht hP hD hk1 (zp_F1 hD hS hA) hS1 (fun hP hK1 hD hS => ?_)))
  refine lv_aload_n hx hb dX8_judge_4 rfl (lv_at hl 0 rfl) ?_
  refine va_get (D := (dC, dI)) (ci := 8) (v := .int a0_14) (C := RX8) (T := TX8) (N := 40) hx hb hts zi_X8_judge_8 hown hK hP 0 rfl rfl 14 (by decide) (hts (.fieldLink RX8 173 "WaxTurnsModel" "hasGallery" "Z") (List.mem_cons_of_mem _ (List.mem_append_left _ (List.mem_of_getElem? (i := 0) rfl)))) (fun _ h9 => h9) rfl dX8_judge_5 ?_
  refine lv_if_ne (tgt := 17) hx hb dX8_judge_8 (by decide) (fun c8 => ?_) (fun c8 => ?_)
  · have gc8 := ai_ne c8
    refine lv_iconst (v := 0) hx hb dX8_judge_17 zk_iconst_0 ?_
    refine lv_istore_n (lv' := [(1, .int 0), (0, .ref a0)]) hx hb dX8_judge_18 rfl hl (by decide) rfl (fun ls hl => ?_)
    have J19 : ∀ (n : Nat) (j19l1 : Int32) (j19a0_34_a : Nat → Int32) (H : Heap) (locs : List Loc) (ls : Array Slot), (7 : Int) - j19l1.toInt ≤ (n : Int) → (0 : Int) ≤ j19l1.toInt → j19l1.toInt ≤ (6 : Int) → va_P (dC, dI) vwCl [(a0, .inr (8, [Value.int v1na0_0, a0g_1, a0g_2, a0g_3, a0g_4, a0g_5, a0g_6, a0g_7, a0g_8, a0g_9, a0g_10, Value.int v1na0_11, a0g_12, a0g_13, Value.int a0_14, Value.ref a0_15, a0g_16, a0g_17, a0g_18, a0g_19, a0g_20, a0g_21, a0g_22, a0g_23, a0g_24, a0g_25, a0g_26, a0g_27, a0g_28, a0g_29, a0g_30, a0g_31, a0g_32, a0g_33, Value.ref a0_34, a0g_35, a0g_36, a0g_37, a0g_38, a0g_39])), (a0_15, .inl (ka0_15, 156, .inl (fa0_15))), (a0_34, .inl (ka0_34, 9, .inl (j19a0_34_a)))] H → va_D A [(a0, .inr (8, [Value.int v1na0_0, a0g_1, a0g_2, a0g_3, a0g_4, a0g_5, a0g_6, a0g_7, a0g_8, a0g_9, a0g_10, Value.int v1na0_11, a0g_12, a0g_13, Value.int a0_14, Value.ref a0_15, a0g_16, a0g_17, a0g_18, a0g_19, a0g_20, a0g_21, a0g_22, a0g_23, a0g_24, a0g_25, a0g_26, a0g_27, a0g_28, a0g_29, a0g_30, a0g_31, a0g_32, a0g_33, Value.ref a0_34, a0g_35, a0g_36, a0g_37, a0g_38, a0g_39])), (a0_15, .inl (ka0_15, 156, .inl (fa0_15))), (a0_34, .inl (ka0_34, 9, .inl (j19a0_34_a)))] → va_S A s.heap H locs → lv_has ls 2 [(0, .ref a0), (1, .int j19l1)] → K H locs (F0 m 19 ls []) := by
      intro n
      induction n with
      | zero =>
        intro j19l1 j19a0_34_a H locs ls hm bj19l1_l bj19l1_u hP hD hS hl
        have h8 := ai_min j19l1
        have h9 := ai_max j19l1
        exact absurd hm (by omega)
      | succ n ih19 =>
        intro j19l1 j19a0_34_a H locs ls hm bj19l1_l bj19l1_u hP hD hS hl
        refine (hK0 _ _ _).mpr ?_
        have hm19 := hm
        refine lv_iload_n hx hb dX8_judge_19 rfl (lv_at hl 1 rfl) ?_
        refine lv_aload_n hx hb dX8_judge_20 rfl (lv_at hl 0 rfl) ?_
        refine va_get (D := (dC, dI)) (ci := 8) (v := .ref a0_15) (C := RX8) (T := TX8) (N := 40) hx hb hts zi_X8_judge_8 hown hK hP 0 rfl rfl 15 (by decide) (hts (.fieldLink RX8 20 "WaxTurnsModel" "\x72" "[I") (List.mem_cons_of_mem _ (List.mem_append_left _ (List.mem_of_getElem? (i := 1) rfl)))) (fun _ h9 => h9) rfl dX8_judge_21 ?_
        refine lv_bipush (v := 6) hx hb dX8_judge_24 zk_bipush_6 ?_
        refine va_iald hx hb hK hP 1 0 rfl rfl (by unfold vp_in; decide +kernel) dX8_judge_26 ?_
        refine lv_topi (fun x26 ex26 => ?_)
        have bx26 : (0 : Int) ≤ x26.toInt ∧ x26.toInt ≤ 6 := by rw [ex26]; exact ai_rd bfa0_15.2.2.2.2.2.2.1 zq15 zq16 (by decide) (by decide) (by decide)
        refine lv_icmp_ge (tgt := 97) hx hb dX8_judge_27 (by decide) (fun c27 => ?_) (fun c27 => ?_)
        · have gc27 := ai_le c27
          have u27t_x26 : x26.toInt ≤ (6 : Int) := bx26.2
          have l27t_j19l1 : (0 : Int) ≤ j19l1.toInt := bj19l1_l
          refine lv_bipush (v := (-2)) hx hb dX8_judge_97 zk_bipush_n2 ?_
          exact W.iret (v := (-2)) hx hb hr (fun t ht hW => ⟨⟨(-2), (), rfl, ⟨zq45, (Int.le_trans zq44 zq98)⟩, v1na0_0, v1na0_11, j19a0_34_a, by rw [ht]; exact hP, va_K.moved hW.alike hK, hD⟩, hS.F ht⟩) hS.2.2 dX8_judge_99
        · have gc27 := ai_nle c27
          have u27f_j19l1 : j19l1.toInt ≤ (5 : Int) := ai_lthi gc27 bx26.2
          have l27f_x26 : (1 : Int) ≤ x26.toInt := ai_ltlo gc27 bj19l1_l
          refine lv_aload_n hx hb dX8_judge_30 rfl (lv_at hl 0 rfl) ?_
          refine lv_aload_n hx hb dX8_judge_31 rfl (lv_at hl 0 rfl) ?_
          refine va_get (D := (dC, dI)) (ci := 8) (v := .ref a0_15) (C := RX8) (T := TX8) (N := 40) hx hb hts zi_X8_judge_8 hown hK hP 0 rfl rfl 15 (by decide) (hts (.fieldLink RX8 20 "WaxTurnsModel" "\x72" "[I") (List.mem_cons_of_mem _ (List.mem_append_left _ (List.mem_of_getElem? (i := 1) rfl)))) (fun _ h9 => h9) rfl dX8_judge_32 ?_
          refine lv_bipush (v := 7) hx hb dX8_judge_35 zk_bipush_7 ?_
          refine va_iald hx hb hK hP 1 0 rfl rfl (by unfold vp_in; decide +kernel) dX8_judge_37 ?_
          refine lv_topi (fun x37 ex37 => ?_)
          have bx37 : (0 : Int) ≤ x37.toInt ∧ x37.toInt ≤ 8 := by rw [ex37]; exact ai_rd bfa0_15.2.2.2.2.2.2.2.1 zq114 zq115 (by decide) (by decide) (by decide)
          refine lv_aload_n hx hb dX8_judge_38 rfl (lv_at hl 0 rfl) ?_
          refine va_get (D := (dC, dI)) (ci := 8) (v := .ref a0_15) (C := RX8) (T := TX8) (N := 40) hx hb hts zi_X8_judge_8 hown hK hP 0 rfl rfl 15 (by decide) (hts (.fieldLink RX8 20 "WaxTurnsModel" "\x72" "[I") (List.mem_cons_of_mem _ (List.mem_append_left _ (List.mem_of_getElem? (i := 1) rfl)))) (fun _ h9 => h9) rfl dX8_judge_39 ?_
          refine lv_bipush (v := 8) hx hb dX8_judge_42 zk_bipush_8 ?_
          refine va_iald hx hb hK hP 1 0 rfl rfl (by unfold vp_in; decide +kernel) dX8_judge_44 ?_
          refine lv_topi (fun x44 ex44 => ?_)
          have bx44 : (0 : Int) ≤ x44.toInt ∧ x44.toInt ≤ 8 := by rw [ex44]; exact ai_rd bfa0_15.2.2.2.2.2.2.2.1 zq116 zq28 (by decide) (by decide) (by decide)
          refine lv_aload_n hx hb dX8_judge_45 rfl (lv_at hl 0 rfl) ?_
          refine va_get (D := (dC, dI)) (ci := 8) (v := .ref a0_15) (C := RX8) (T := TX8) (N := 40) hx hb hts zi_X8_judge_8 hown hK hP 0 rfl rfl 15 (by decide) (hts (.fieldLink RX8 20 "WaxTurnsModel" "\x72" "[I") (List.mem_cons_of_mem _ (List.mem_append_left _ (List.mem_of_getElem? (i := 1) rfl)))) (fun _ h9 => h9) rfl dX8_judge_46 ?_
          refine lv_bipush (v := 9) hx hb dX8_judge_49 zk_bipush_9 ?_
          refine va_iald hx hb hK hP 1 0 rfl rfl (by unfold vp_in; decide +kernel) dX8_judge_51 ?_
          refine lv_topi (fun x51 ex51 => ?_)
          have bx51 : (0 : Int) ≤ x51.toInt ∧ x51.toInt ≤ 8 := by rw [ex51]; exact ai_rd bfa0_15.2.2.2.2.2.2.2.1 zq2 zq3 (by decide) (by decide) (by decide)
          refine lv_aload_n hx hb dX8_judge_52 rfl (lv_at hl 0 rfl) ?_
          refine va_get (D := (dC, dI)) (ci := 8) (v := .ref a0_15) (C := RX8) (T := TX8) (N := 40) hx hb hts zi_X8_judge_8 hown hK hP 0 rfl rfl 15 (by decide) (hts (.fieldLink RX8 20 "WaxTurnsModel" "\x72" "[I") (List.mem_cons_of_mem _ (List.mem_append_left _ (List.mem_of_getElem? (i := 1) rfl)))) (fun _ h9 => h9) rfl dX8_judge_53 ?_
          refine lv_bipush (v := 36) hx hb dX8_judge_56 zk_bipush_36 ?_
          refine lv_iconst (v := 2) hx hb dX8_judge_58 zk_iconst_2 ?_
          refine lv_iload_n hx hb dX8_judge_59 rfl (lv_at hl 1 rfl) ?_
          refine lv_imul hx hb dX8_judge_60 ?_
          refine lv_topi (fun x60 ex60 => ?_)
          have qx60 : x60.toInt = (2 : Int32).toInt * j19l1.toInt ∧ (0 : Int) ≤ x60.toInt ∧ x60.toInt ≤ 10 := ai_mul ex60 ⟨zq12, zq13⟩ ⟨bj19l1_l, u27f_j19l1⟩ (by decide) (by decide) zq181
          have wx60 : x60.toInt = 2 * j19l1.toInt := qx60.1
          refine lv_iadd hx hb dX8_judge_61 ?_
          refine lv_topi (fun x61 ex61 => ?_)
          have qx61 : x61.toInt = (36 : Int32).toInt + x60.toInt := ai_add ex61 ⟨zq182, zq183⟩ ⟨qx60.2.1, qx60.2.2⟩ (by decide) (by decide)
          have bx61 : (36 : Int) ≤ x61.toInt ∧ x61.toInt ≤ 46 := ⟨by rw [qx61]; exact Int.add_le_add zq182 qx60.2.1, by rw [qx61]; exact Int.add_le_add zq183 qx60.2.2⟩
          have wx61 : x61.toInt = 36 + x60.toInt := qx61
          refine lv_iconst (v := 1) hx hb dX8_judge_62 zk_iconst_1 ?_
          refine lv_iadd hx hb dX8_judge_63 ?_
          refine lv_topi (fun x63 ex63 => ?_)
          have qx63 : x63.toInt = x61.toInt + (1 : Int32).toInt := ai_add ex63 ⟨bx61.1, bx61.2⟩ ⟨zq1, zq0⟩ (by decide) (by decide)
          have bx63 : (37 : Int) ≤ x63.toInt ∧ x63.toInt ≤ 47 := ⟨by rw [qx63]; exact Int.add_le_add bx61.1 zq1, by rw [qx63]; exact Int.add_le_add bx61.2 zq0⟩
          have wx63 : x63.toInt = x61.toInt + 1 := qx63
          refine va_iald hx hb hK hP 1 0 rfl rfl (ai_in bx63.1 bx63.2 (by decide) (by decide)) dX8_judge_64 ?_
          refine lv_topi (fun x64 ex64 => ?_)
          have bx64 : (0 : Int) ≤ x64.toInt ∧ x64.toInt ≤ 999 := by rw [ex64]; exact ai_rd bfa0_15.2.2.2.2.2.2.2.2.2.2 bx63.1 bx63.2 (by decide) (by decide) (by decide)
          refine lv_aload_n hx hb dX8_judge_65 rfl (lv_at hl 0 rfl) ?_
          refine va_get (D := (dC, dI)) (ci := 8) (v := .ref a0_15) (C := RX8) (T := TX8) (N := 40) hx hb hts zi_X8_judge_8 hown hK hP 0 rfl rfl 15 (by decide) (hts (.fieldLink RX8 20 "WaxTurnsModel" "\x72" "[I") (List.mem_cons_of_mem _ (List.mem_append_left _ (List.mem_of_getElem? (i := 1) rfl)))) (fun _ h9 => h9) rfl dX8_judge_66 ?_
          refine lv_iconst (v := 1) hx hb dX8_judge_69 zk_iconst_1 ?_
          refine va_iald hx hb hK hP 1 0 rfl rfl (by unfold vp_in; decide +kernel) dX8_judge_70 ?_
          refine lv_topi (fun x70 ex70 => ?_)
          have bx70 : (1 : Int) ≤ x70.toInt ∧ x70.toInt ≤ 20 := by rw [ex70]; exact ai_rd bfa0_15.2.1 zq1 zq0 (by decide) (by decide) (by decide)
          refine lv_idiv hx hb dX8_judge_71 (ai_nz bx70.1 (by decide)) ?_
          refine lv_topi (fun x71 ex71 => ?_)
          have qx71 := ai_div ex71 ⟨bx64.1, bx64.2⟩ (Int.lt_of_lt_of_le zq19 bx70.1)
          refine zc_cutc (wc := [(a0, .inr (8, [Value.int v1na0_0, a0g_1, a0g_2, a0g_3, a0g_4, a0g_5, a0g_6, a0g_7, a0g_8, a0g_9, a0g_10, Value.int v1na0_11, a0g_12, a0g_13, Value.int a0_14, Value.ref a0_15, a0g_16, a0g_17, a0g_18, a0g_19, a0g_20, a0g_21, a0g_22, a0g_23, a0g_24, a0g_25, a0g_26, a0g_27, a0g_28, a0g_29, a0g_30, a0g_31, a0g_32, a0g_33, Value.ref a0_34, a0g_35, a0g_36, a0g_37, a0g_38, a0g_39])), (a0_34, .inl (ka0_34, 9, .inl (j19a0_34_a))), (a0_15, .inl (ka0_15, 156, .inl (fa0_15)))]) hP hD hS hA [0, 2, 1] (by decide +kernel) rfl (fun hPc hDc hFc hCc => ?_)
          have hKc := hK.sub (tys' := [(ka0_34, .int), (ka0_15, .int)]) [1, 0] rfl
          refine va_calli (va_runV (As := [.int x37, .int x44, .int x51, .int x71]) (rest := []) ⟨hx, hb, hml, hown, hts⟩ (c_X8_turnBy l dC dI H.size a0 x37 x44 x51 x71 (Value.int v1na0_0) a0g_1 a0g_2 a0g_3 a0g_4 a0g_5 a0g_6 a0g_7 a0g_8 a0g_9 a0g_10 (Value.int v1na0_11) a0g_12 a0g_13 (Value.int a0_14) a0g_16 a0g_17 a0g_18 a0g_19 a0g_20 a0g_21 a0g_22 a0g_23 a0g_24 a0g_25 a0g_26 a0g_27 a0g_28 a0g_29 a0g_30 a0g_31 a0g_32 a0g_33 a0g_35 a0g_36 a0g_37 a0g_38 a0g_39 a0_15 a0_34 ka0_34 j19a0_34_a ka0_15 fa0_15 bx37.1 (Int.le_trans bx37.2 zq189) bx44.1 bx44.2 bx51.1 bx51.2 qx71.2.1 qx71.2.2 bfa0_15) (cwV 4 hts gX8_judge_X8_turnBy rfl rfl rfl zd_X8_turnBy ⟨Nat.le_of_ble_eq_true rfl, Nat.le_of_ble_eq_true rfl⟩) ⟨ax_blind (fun _ _ _ _ _ => trivial), zr_8 hKc hPc (q0 := 0) rfl, ax_pre hPc hKc hDc (fun _ _ => trivial)⟩ rfl rfl hl.1 rfl (lv_room (Nat.le_of_ble_eq_true rfl)) dX8_judge_72 ⟨Nat.le_of_ble_eq_true rfl, Nat.le_of_ble_eq_true rfl⟩) hS (fun q _ h => hFc q h) hFc (fun r72 u t H locs ht hvm hw hB hz1 hk1 hS => zx_1 hB (fun v72nfa0_34 hB => zo hB ht (fun hP1 hK1 hD1 => ?_)))
          refine zc_backc (w := [(a0, .inr (8, [Value.int v1na0_0, a0g_1, a0g_2, a0g_3, a0g_4, a0g_5, a0g_6, a0g_7, a0g_8, a0g_9, a0g_10, Value.int v1na0_11, a0g_12, a0g_13, Value.int a0_14, Value.ref a0_15, a0g_16, a0g_17, a0g_18, a0g_19, a0g_20, a0g_21, a0g_22, a0g_23, a0g_24, a0g_25, a0g_26, a0g_27, a0g_28, a0g_29, a0g_30, a0g_31, a0g_32, a0g_33, Value.ref a0_34, a0g_35, a0g_36, a0g_37, a0g_38, a0g_39])), (a0_15, .inl (ka0_15, 156, .inl (fa0_15))), (a0_34, .inl (ka0_34, 9, .inl (v72nfa0_34)))]) hP hD hCc hk1 hFc hP1 hD1 [.inr 0, .inr 2, .inr 1] (by decide +kernel) rfl (fun hP hD => ?_)
          rcases hw with hw
          · obtain ⟨⟨lr72, ur72⟩, mr72⟩ := hw
            refine lv_aload_n hx hb dX8_judge_75 rfl (lv_at hl 0 rfl) ?_
            refine va_get (D := (dC, dI)) (ci := 8) (v := .ref a0_15) (C := RX8) (T := TX8) (N := 40) hx hb hts zi_X8_judge_8 hown hK hP 0 rfl rfl 15 (by decide) (hts (.fieldLink RX8 20 "WaxTurnsModel" "\x72" "[I") (List.mem_cons_of_mem _ (List.mem_append_left _ (List.mem_of_getElem? (i := 1) rfl)))) (fun _ h9 => h9) rfl dX8_judge_76 ?_
            refine lv_bipush (v := 36) hx hb dX8_judge_79 zk_bipush_36 ?_
            refine lv_iconst (v := 2) hx hb dX8_judge_81 zk_iconst_2 ?_
            refine lv_iload_n hx hb dX8_judge_82 rfl (lv_at hl 1 rfl) ?_
            refine lv_imul hx hb dX8_judge_83 ?_
            refine ax_ti x60 ex60.symm ?_
            refine lv_iadd hx hb dX8_judge_84 ?_
            refine ax_ti x61 ex61.symm ?_
            refine va_iald hx hb hK hP 1 0 rfl rfl (ai_in bx61.1 bx61.2 (by decide) (by decide)) dX8_judge_85 ?_
            refine lv_topi (fun x85 ex85 => ?_)
            have bx85 : (0 : Int) ≤ x85.toInt ∧ x85.toInt ≤ 999 := by rw [ex85]; exact ai_rd bfa0_15.2.2.2.2.2.2.2.2.2.2 bx61.1 bx61.2 (by decide) (by decide) (by decide)
            refine lv_icmp_eq (tgt := 91) hx hb dX8_judge_86 (by decide) (fun c86 => ?_) (fun c86 => ?_)
            · have gc86 := ai_eq c86
              have u86t_r72 : r72.toInt ≤ (8 : Int) := ur72
              have l86t_r72 : (0 : Int) ≤ r72.toInt := lr72
              have u86t_x85 : x85.toInt ≤ (8 : Int) := Int.le_trans (Int.le_of_eq gc86.symm) ur72
              have l86t_x85 : (0 : Int) ≤ x85.toInt := bx85.1
              obtain ⟨x91, ex91⟩ : ∃ y : Int32, y = j19l1 + Int32.ofInt 1 := ⟨_, rfl⟩
              have qx91 : x91.toInt = j19l1.toInt + 1 := ai_inc ex91 (by decide) (by decide) u27f_j19l1 (by decide)
              have bx91 : (1 : Int) ≤ x91.toInt ∧ x91.toInt ≤ 6 := ⟨by rw [qx91]; exact Int.add_le_add bj19l1_l (Int.le_refl _), by rw [qx91]; exact Int.add_le_add u27f_j19l1 (Int.le_refl _)⟩
              refine lv_iinc (v := x91) (lv' := [(1, .int x91), (0, .ref a0)]) hx hb dX8_judge_91 hl (k := 1) rfl ex91.symm (by decide) rfl (fun ls hl => ?_)
              refine lv_goto (tgt := 19) hx hb dX8_judge_94 (by decide) ?_
              exact (hK0 _ _ _).mp (ih19 x91 v72nfa0_34 _ _ _ (by have h0 := qx91; omega) (Int.le_trans zq4 bx91.1) bx91.2 hP hD hS (lv_sub hl [1, 0] rfl))
            · have gc86 := ai_ne c86
              refine lv_iload_n hx hb dX8_judge_89 rfl (lv_at hl 1 rfl) ?_
              exact W.iret (v := j19l1) hx hb hr (fun t ht hW => ⟨⟨j19l1, (), rfl, ⟨(Int.le_trans zq75 bj19l1_l), u27f_j19l1⟩, v1na0_0, v1na0_11, v72nfa0_34, by rw [ht]; exact hP, va_K.moved hW.alike hK, hD⟩, hS.F ht⟩) hS.2.2 dX8_judge_90
    exact (hK0 _ _ _).mp (J19 7 0 fa0_34 _ _ _ (by have h1 : (0 : Int) ≤ (0 : Int32).toInt := zq5; have h2 : (0 : Int32).toInt ≤ (0 : Int) := zq6; omega) zq5 (Int.le_trans zq6 zq17) hP hD hS (lv_sub hl [1, 0] rfl))
  · have gc8 := ai_eq c8
    have u8f_a0_14 : a0_14.toInt ≤ (0 : Int) := Int.le_trans (Int.le_of_eq gc8) zq6
    have l8f_a0_14 : (1 : Int) ≤ a0_14.toInt := ba0_14_l
    exact absurd (Int.le_trans l8f_a0_14 u8f_a0_14) (by decide)

set_option maxHeartbeats 4000000 in
set_option maxRecDepth 100000 in
theorem c_X8_lawsLike (l : Launch) (dC : Nat → ClassId) (dI : Nat → Nat → Nat) (sz : Nat) (a0 : Nat) (a0_0 : Int32) (a0g_1 a0g_2 a0g_3 a0g_4 a0g_5 a0g_6 a0g_7 a0g_8 a0g_9 a0g_10 a0g_12 a0g_13 a0g_16 a0g_17 a0g_18 a0g_19 a0g_20 a0g_21 a0g_22 a0g_23 a0g_24 a0g_25 a0g_26 a0g_27 a0g_28 a0g_29 a0g_30 a0g_31 a0g_32 a0g_33 a0g_35 a0g_36 a0g_37 a0g_38 a0g_39 : Value) (a0_11 : Int32) (a0_14 : Int32) (a0_15 : Nat) (a0_34 : Nat) (ka0_15 : ClassId) (fa0_15 : Nat → Int32) (ka0_34 : ClassId) (fa0_34 : Nat → Int32) (ba0_14_l : (1 : Int) ≤ a0_14.toInt) (ba0_14_u : a0_14.toInt ≤ (1 : Int)) (bfa0_15 : ((∀ k : Nat, 0 ≤ k → k ≤ 0 → (2 : Int) ≤ (fa0_15 k).toInt ∧ (fa0_15 k).toInt ≤ 9) ∧ (∀ k : Nat, 1 ≤ k → k ≤ 1 → (1 : Int) ≤ (fa0_15 k).toInt ∧ (fa0_15 k).toInt ≤ 20) ∧ (∀ k : Nat, 2 ≤ k → k ≤ 2 → (0 : Int) ≤ (fa0_15 k).toInt ∧ (fa0_15 k).toInt ≤ 8) ∧ (∀ k : Nat, 3 ≤ k → k ≤ 3 → (0 : Int) ≤ (fa0_15 k).toInt ∧ (fa0_15 k).toInt ≤ 100) ∧ (∀ k : Nat, 4 ≤ k → k ≤ 4 → (0 : Int) ≤ (fa0_15 k).toInt ∧ (fa0_15 k).toInt ≤ 9) ∧ (∀ k : Nat, 5 ≤ k → k ≤ 5 → (0 : Int) ≤ (fa0_15 k).toInt ∧ (fa0_15 k).toInt ≤ 3) ∧ (∀ k : Nat, 6 ≤ k → k ≤ 6 → (0 : Int) ≤ (fa0_15 k).toInt ∧ (fa0_15 k).toInt ≤ 6) ∧ (∀ k : Nat, 7 ≤ k → k ≤ 9 → (0 : Int) ≤ (fa0_15 k).toInt ∧ (fa0_15 k).toInt ≤ 8) ∧ (∀ k : Nat, 12 ≤ k → k ≤ 29 → (0 : Int) ≤ (fa0_15 k).toInt ∧ (fa0_15 k).toInt ≤ 20) ∧ (∀ k : Nat, 30 ≤ k → k ≤ 35 → (0 : Int) ≤ (fa0_15 k).toInt ∧ (fa0_15 k).toInt ≤ 8) ∧ (∀ k : Nat, 36 ≤ k → k ≤ 47 → (0 : Int) ≤ (fa0_15 k).toInt ∧ (fa0_15 k).toInt ≤ 999))) : zm l yX8_lawsLike wsX8_lawsLike ({ frames := 2, cells := 0, slots := 0, locals := 50 }) [.ref a0] dC dI sz [(a0, .inr (8, [Value.int a0_0, a0g_1, a0g_2, a0g_3, a0g_4, a0g_5, a0g_6, a0g_7, a0g_8, a0g_9, a0g_10, Value.int a0_11, a0g_12, a0g_13, Value.int a0_14, Value.ref a0_15, a0g_16, a0g_17, a0g_18, a0g_19, a0g_20, a0g_21, a0g_22, a0g_23, a0g_24, a0g_25, a0g_26, a0g_27, a0g_28, a0g_29, a0g_30, a0g_31, a0g_32, a0g_33, Value.ref a0_34, a0g_35, a0g_36, a0g_37, a0g_38, a0g_39])), (a0_15, .inl (ka0_15, 156, .inl (fa0_15))), (a0_34, .inl (ka0_34, 9, .inl (fa0_34)))] [(ka0_15, .int), (ka0_34, .int)] (fun A _ => True) (fun A => va_Qi (fun (r : Int32) (_ : Unit) => True) (fun (_ : Unit) (t : State) => ∃ na0_0 : Int32, ∃ na0_11 : Int32, ∃ nfa0_34 : Nat → Int32, ax_B dC dI A [(a0, .inr (8, [Value.int na0_0, a0g_1, a0g_2, a0g_3, a0g_4, a0g_5, a0g_6, a0g_7, a0g_8, a0g_9, a0g_10, Value.int na0_11, a0g_12, a0g_13, Value.int a0_14, Value.ref a0_15, a0g_16, a0g_17, a0g_18, a0g_19, a0g_20, a0g_21, a0g_22, a0g_23, a0g_24, a0g_25, a0g_26, a0g_27, a0g_28, a0g_29, a0g_30, a0g_31, a0g_32, a0g_33, Value.ref a0_34, a0g_35, a0g_36, a0g_37, a0g_38, a0g_39])), (a0_15, .inl (ka0_15, 156, .inl (fa0_15))), (a0_34, .inl (ka0_34, 9, .inl (nfa0_34)))] [(ka0_15, .int), (ka0_34, .int)] t) A) := by
  refine zh (cc := cX8_lawsLike) (maxL := 5) (ret := (some .int)) zn_RX8 rfl (Nat.le_of_ble_eq_true rfl) (fun p e s m below meth c A ls hx hb hml hr hts (hown : s.vm.findClass RX8 = some m.cls) hlocks hA hS hP hK hD hE (hl : lv_has ls 5 [(0, .ref a0)]) => ?_)
  refine ai_open (fun K hK0 => ?_)
  refine (hK0 _ _ _).mpr ?_
  refine lv_aload_n hx hb dX8_lawsLike_0 rfl (lv_at hl 0 rfl) ?_
  refine va_callv (va_runV (As := []) (rest := []) ⟨hx, hb, hml, hown, hts⟩ (c_X8_good l dC dI s.heap.size a0 a0_0 a0g_1 a0g_2 a0g_3 a0g_4 a0g_5 a0g_6 a0g_7 a0g_8 a0g_9 a0g_10 a0g_12 a0g_13 (Value.int a0_14) (Value.ref a0_15) a0g_16 a0g_17 a0g_18 a0g_19 a0g_20 a0g_21 a0g_22 a0g_23 a0g_24 a0g_25 a0g_26 a0g_27 a0g_28 a0g_29 a0g_30 a0g_31 a0g_32 a0g_33 (Value.ref a0_34) a0g_35 a0g_36 a0g_37 a0g_38 a0g_39 a0_11 ) (cwV 0 hts gX8_lawsLike_X8_good rfl rfl rfl zd_X8_good ⟨Nat.le_of_ble_eq_true rfl, Nat.le_of_ble_eq_true rfl⟩) ⟨ax_blind (fun _ _ _ _ _ => trivial), zr_8 (zp_K hK) (zp_P1 hP) (q0 := 0) rfl, ax_pre (zp_P1 hP) (zp_K hK) (zp_D1 hD) (fun _ _ => trivial)⟩ rfl rfl hl.1 rfl (lv_room (Nat.le_of_ble_eq_true rfl)) dX8_lawsLike_1 ⟨Nat.le_of_ble_eq_true rfl, Nat.le_of_ble_eq_true rfl⟩) hS (fun q _ h => zp_F1 hD hS hA q h) (zp_F1 hD hS hA) (fun u t H locs ht hvm hw hB hz1 hk1 hS1 => zx_2 hB (fun v1na0_0 v1na0_11 hB => zo1 hB ht hP hD hk1 (zp_F1 hD hS hA) hS1 (fun hP hK1 hD hS => ?_)))
  refine lv_aload_n hx hb dX8_lawsLike_4 rfl (lv_at hl 0 rfl) ?_
  refine va_get (D := (dC, dI)) (ci := 8) (v := .int a0_14) (C := RX8) (T := TX8) (N := 40) hx hb hts zi_X8_lawsLike_8 hown hK hP 0 rfl rfl 14 (by decide) (hts (.fieldLink RX8 173 "WaxTurnsModel" "hasGallery" "Z") (zm_X8_lawsLike_r1 (List.mem_of_getElem? (i := 0) rfl))) (fun _ h9 => h9) rfl dX8_lawsLike_5 ?_
  refine lv_if_ne (tgt := 17) hx hb dX8_lawsLike_8 (by decide) (fun c8 => ?_) (fun c8 => ?_)
  · have gc8 := ai_ne c8
    refine lv_iconst (v := 0) hx hb dX8_lawsLike_17 zk_iconst_0 ?_
    refine lv_istore_n (lv' := [(1, .int 0), (0, .ref a0)]) hx hb dX8_lawsLike_18 rfl hl (by decide) rfl (fun ls hl => ?_)
    refine lv_iconst (v := 0) hx hb dX8_lawsLike_19 zk_iconst_0 ?_
    refine lv_istore_n (lv' := [(2, .int 0), (1, .int 0), (0, .ref a0)]) hx hb dX8_lawsLike_20 rfl hl (by decide) rfl (fun ls hl => ?_)
    have J21 : ∀ (n : Nat) (j21l2 : Int32) (j21l1 : Int32) (j21a0_34_a : Nat → Int32) (H : Heap) (locs : List Loc) (ls : Array Slot), (730 : Int) - j21l2.toInt ≤ (n : Int) → (0 : Int) ≤ j21l2.toInt → j21l2.toInt ≤ (729 : Int) → va_P (dC, dI) vwCl [(a0, .inr (8, [Value.int v1na0_0, a0g_1, a0g_2, a0g_3, a0g_4, a0g_5, a0g_6, a0g_7, a0g_8, a0g_9, a0g_10, Value.int v1na0_11, a0g_12, a0g_13, Value.int a0_14, Value.ref a0_15, a0g_16, a0g_17, a0g_18, a0g_19, a0g_20, a0g_21, a0g_22, a0g_23, a0g_24, a0g_25, a0g_26, a0g_27, a0g_28, a0g_29, a0g_30, a0g_31, a0g_32, a0g_33, Value.ref a0_34, a0g_35, a0g_36, a0g_37, a0g_38, a0g_39])), (a0_15, .inl (ka0_15, 156, .inl (fa0_15))), (a0_34, .inl (ka0_34, 9, .inl (j21a0_34_a)))] H → va_D A [(a0, .inr (8, [Value.int v1na0_0, a0g_1, a0g_2, a0g_3, a0g_4, a0g_5, a0g_6, a0g_7, a0g_8, a0g_9, a0g_10, Value.int v1na0_11, a0g_12, a0g_13, Value.int a0_14, Value.ref a0_15, a0g_16, a0g_17, a0g_18, a0g_19, a0g_20, a0g_21, a0g_22, a0g_23, a0g_24, a0g_25, a0g_26, a0g_27, a0g_28, a0g_29, a0g_30, a0g_31, a0g_32, a0g_33, Value.ref a0_34, a0g_35, a0g_36, a0g_37, a0g_38, a0g_39])), (a0_15, .inl (ka0_15, 156, .inl (fa0_15))), (a0_34, .inl (ka0_34, 9, .inl (j21a0_34_a)))] → va_S A s.heap H locs → lv_has ls 5 [(0, .ref a0), (1, .int j21l1), (2, .int j21l2)] → K H locs (F0 m 21 ls []) := by
      intro n
      induction n with
      | zero =>
        intro j21l2 j21l1 j21a0_34_a H locs ls hm bj21l2_l bj21l2_u hP hD hS hl
        have h8 := ai_min j21l2
        have h9 := ai_max j21l2
        exact absurd hm (by omega)
      | succ n ih21 =>
        intro j21l2 j21l1 j21a0_34_a H locs ls hm bj21l2_l bj21l2_u hP hD hS hl
        refine (hK0 _ _ _).mpr ?_
        have hm21 := hm
        refine lv_iload_n hx hb dX8_lawsLike_21 rfl (lv_at hl 2 rfl) ?_
        refine lv_aload_n hx hb dX8_lawsLike_22 rfl (lv_at hl 0 rfl) ?_
        have hKc := hK.sub (tys' := [(ka0_15, .int)]) [0] rfl
        refine va_calli (va_runV (As := []) (rest := [.int j21l2]) ⟨hx, hb, hml, hown, hts⟩ (c_X8_codes l dC dI H.size a0 (Value.int v1na0_0) a0g_1 a0g_2 a0g_3 a0g_4 a0g_5 a0g_6 a0g_7 a0g_8 a0g_9 a0g_10 (Value.int v1na0_11) a0g_12 a0g_13 (Value.int a0_14) a0g_16 a0g_17 a0g_18 a0g_19 a0g_20 a0g_21 a0g_22 a0g_23 a0g_24 a0g_25 a0g_26 a0g_27 a0g_28 a0g_29 a0g_30 a0g_31 a0g_32 a0g_33 (Value.ref a0_34) a0g_35 a0g_36 a0g_37 a0g_38 a0g_39 a0_15 ka0_15 fa0_15 bfa0_15) (cwV 0 hts gX8_lawsLike_X8_codes rfl rfl rfl zd_X8_codes ⟨Nat.le_of_ble_eq_true rfl, Nat.le_of_ble_eq_true rfl⟩) ⟨ax_blind (fun _ _ _ _ _ => trivial), zr_8 hKc (zp_P2 hP) (q0 := 0) rfl, ax_pre (zp_P2 hP) hKc (zp_D2 hD) (fun _ _ => trivial)⟩ rfl rfl hl.1 rfl (lv_room (Nat.le_of_ble_eq_true rfl)) dX8_lawsLike_23 ⟨Nat.le_of_ble_eq_true rfl, Nat.le_of_ble_eq_true rfl⟩) hS (fun q _ h => zp_F2 hD hS hA q h) (zp_F2 hD hS hA) (fun r23 u t H locs ht hvm hw hB hz1 hk1 hS1 => zo2 hB ht hP hD hk1 (zp_F2 hD hS hA) hS1 (fun hP hK1 hD hS => ?_))
        have hw : (8 : Int) ≤ r23.toInt ∧ r23.toInt ≤ (729 : Int) := hw
        obtain ⟨h23_0, h23_1⟩ := hw
        refine lv_icmp_ge (tgt := 112) hx hb dX8_lawsLike_26 (by decide) (fun c26 => ?_) (fun c26 => ?_)
        · have gc26 := ai_le c26
          have u26t_r23 : r23.toInt ≤ (729 : Int) := h23_1
          have l26t_j21l2 : (8 : Int) ≤ j21l2.toInt := Int.le_trans h23_0 gc26
          refine lv_iload_n hx hb dX8_lawsLike_112 rfl (lv_at hl 1 rfl) ?_
          exact W.iret (v := j21l1) hx hb hr (fun t ht hW => ⟨⟨j21l1, (), rfl, trivial, v1na0_0, v1na0_11, j21a0_34_a, by rw [ht]; exact hP, va_K.moved hW.alike hK, hD⟩, hS.F ht⟩) hS.2.2 dX8_lawsLike_113
        · have gc26 := ai_nle c26
          have u26f_j21l2 : j21l2.toInt ≤ (728 : Int) := ai_lthi gc26 h23_1
          have l26f_r23 : (8 : Int) ≤ r23.toInt := h23_0
          refine lv_iconst (v := 1) hx hb dX8_lawsLike_29 zk_iconst_1 ?_
          refine lv_istore_n (lv' := [(3, .int 1), (0, .ref a0), (1, .int j21l1), (2, .int j21l2)]) hx hb dX8_lawsLike_30 rfl hl (by decide) rfl (fun ls hl => ?_)
          refine lv_iconst (v := 0) hx hb dX8_lawsLike_31 zk_iconst_0 ?_
          refine lv_istore (lv' := [(4, .int 0), (3, .int 1), (0, .ref a0), (1, .int j21l1), (2, .int j21l2)]) hx hb dX8_lawsLike_32 hl (by decide) rfl (fun ls hl => ?_)
          have J34 : ∀ (n : Nat) (j34l4 : Int32) (j34l3 : Int32) (j34a0_34_a : Nat → Int32) (H : Heap) (locs : List Loc) (ls : Array Slot), (21 : Int) - j34l4.toInt ≤ (n : Int) → (0 : Int) ≤ j34l4.toInt → j34l4.toInt ≤ (20 : Int) → (0 : Int) ≤ j34l3.toInt → j34l3.toInt ≤ (1 : Int) → va_P (dC, dI) vwCl [(a0, .inr (8, [Value.int v1na0_0, a0g_1, a0g_2, a0g_3, a0g_4, a0g_5, a0g_6, a0g_7, a0g_8, a0g_9, a0g_10, Value.int v1na0_11, a0g_12, a0g_13, Value.int a0_14, Value.ref a0_15, a0g_16, a0g_17, a0g_18, a0g_19, a0g_20, a0g_21, a0g_22, a0g_23, a0g_24, a0g_25, a0g_26, a0g_27, a0g_28, a0g_29, a0g_30, a0g_31, a0g_32, a0g_33, Value.ref a0_34, a0g_35, a0g_36, a0g_37, a0g_38, a0g_39])), (a0_15, .inl (ka0_15, 156, .inl (fa0_15))), (a0_34, .inl (ka0_34, 9, .inl (j34a0_34_a)))] H → va_D A [(a0, .inr (8, [Value.int v1na0_0, a0g_1, a0g_2, a0g_3, a0g_4, a0g_5, a0g_6, a0g_7, a0g_8, a0g_9, a0g_10, Value.int v1na0_11, a0g_12, a0g_13, Value.int a0_14, Value.ref a0_15, a0g_16, a0g_17, a0g_18, a0g_19, a0g_20, a0g_21, a0g_22, a0g_23, a0g_24, a0g_25, a0g_26, a0g_27, a0g_28, a0g_29, a0g_30, a0g_31, a0g_32, a0g_33, Value.ref a0_34, a0g_35, a0g_36, a0g_37, a0g_38, a0g_39])), (a0_15, .inl (ka0_15, 156, .inl (fa0_15))), (a0_34, .inl (ka0_34, 9, .inl (j34a0_34_a)))] → va_S A s.heap H locs → lv_has ls 5 [(0, .ref a0), (1, .int j21l1), (2, .int j21l2), (3, .int j34l3), (4, .int j34l4)] → K H locs (F0 m 34 ls []) := by
            intro n
            induction n with
            | zero =>
              intro j34l4 j34l3 j34a0_34_a H locs ls hm bj34l4_l bj34l4_u bj34l3_l bj34l3_u hP hD hS hl
              have h8 := ai_min j34l4
              have h9 := ai_max j34l4
              exact absurd hm (by omega)
            | succ n ih34 =>
              intro j34l4 j34l3 j34a0_34_a H locs ls hm bj34l4_l bj34l4_u bj34l3_l bj34l3_u hP hD hS hl
              refine (hK0 _ _ _).mpr ?_
              have hm34 := hm
              refine lv_iload hx hb dX8_lawsLike_34 (lv_at hl 4 rfl) ?_
              refine lv_bipush (v := 20) hx hb dX8_lawsLike_36 zk_bipush_20 ?_
              have J94 : ∀ (H : Heap) (locs : List Loc) (ls : Array Slot), va_P (dC, dI) vwCl [(a0, .inr (8, [Value.int v1na0_0, a0g_1, a0g_2, a0g_3, a0g_4, a0g_5, a0g_6, a0g_7, a0g_8, a0g_9, a0g_10, Value.int v1na0_11, a0g_12, a0g_13, Value.int a0_14, Value.ref a0_15, a0g_16, a0g_17, a0g_18, a0g_19, a0g_20, a0g_21, a0g_22, a0g_23, a0g_24, a0g_25, a0g_26, a0g_27, a0g_28, a0g_29, a0g_30, a0g_31, a0g_32, a0g_33, Value.ref a0_34, a0g_35, a0g_36, a0g_37, a0g_38, a0g_39])), (a0_15, .inl (ka0_15, 156, .inl (fa0_15))), (a0_34, .inl (ka0_34, 9, .inl (j34a0_34_a)))] H → va_D A [(a0, .inr (8, [Value.int v1na0_0, a0g_1, a0g_2, a0g_3, a0g_4, a0g_5, a0g_6, a0g_7, a0g_8, a0g_9, a0g_10, Value.int v1na0_11, a0g_12, a0g_13, Value.int a0_14, Value.ref a0_15, a0g_16, a0g_17, a0g_18, a0g_19, a0g_20, a0g_21, a0g_22, a0g_23, a0g_24, a0g_25, a0g_26, a0g_27, a0g_28, a0g_29, a0g_30, a0g_31, a0g_32, a0g_33, Value.ref a0_34, a0g_35, a0g_36, a0g_37, a0g_38, a0g_39])), (a0_15, .inl (ka0_15, 156, .inl (fa0_15))), (a0_34, .inl (ka0_34, 9, .inl (j34a0_34_a)))] → va_S A s.heap H locs → lv_has ls 5 [(0, .ref a0), (1, .int j21l1), (2, .int j21l2), (3, .int j34l3)] → K H locs (F0 m 94 ls []) := by
                intro  H locs ls   hP hD hS hl
                refine (hK0 _ _ _).mpr ?_
                refine lv_iload_n hx hb dX8_lawsLike_94 rfl (lv_at hl 1 rfl) ?_
                refine lv_iload_n hx hb dX8_lawsLike_95 rfl (lv_at hl 3 rfl) ?_
                have J104 : ∀ (j104s0 : Int32) (H : Heap) (locs : List Loc) (ls : Array Slot), (0 : Int) ≤ j104s0.toInt → j104s0.toInt ≤ (1 : Int) → va_P (dC, dI) vwCl [(a0, .inr (8, [Value.int v1na0_0, a0g_1, a0g_2, a0g_3, a0g_4, a0g_5, a0g_6, a0g_7, a0g_8, a0g_9, a0g_10, Value.int v1na0_11, a0g_12, a0g_13, Value.int a0_14, Value.ref a0_15, a0g_16, a0g_17, a0g_18, a0g_19, a0g_20, a0g_21, a0g_22, a0g_23, a0g_24, a0g_25, a0g_26, a0g_27, a0g_28, a0g_29, a0g_30, a0g_31, a0g_32, a0g_33, Value.ref a0_34, a0g_35, a0g_36, a0g_37, a0g_38, a0g_39])), (a0_15, .inl (ka0_15, 156, .inl (fa0_15))), (a0_34, .inl (ka0_34, 9, .inl (j34a0_34_a)))] H → va_D A [(a0, .inr (8, [Value.int v1na0_0, a0g_1, a0g_2, a0g_3, a0g_4, a0g_5, a0g_6, a0g_7, a0g_8, a0g_9, a0g_10, Value.int v1na0_11, a0g_12, a0g_13, Value.int a0_14, Value.ref a0_15, a0g_16, a0g_17, a0g_18, a0g_19, a0g_20, a0g_21, a0g_22, a0g_23, a0g_24, a0g_25, a0g_26, a0g_27, a0g_28, a0g_29, a0g_30, a0g_31, a0g_32, a0g_33, Value.ref a0_34, a0g_35, a0g_36, a0g_37, a0g_38, a0g_39])), (a0_15, .inl (ka0_15, 156, .inl (fa0_15))), (a0_34, .inl (ka0_34, 9, .inl (j34a0_34_a)))] → va_S A s.heap H locs → lv_has ls 5 [(0, .ref a0), (2, .int j21l2)] → K H locs (F0 m 104 ls [.int j104s0, .int j21l1]) := by
                  intro j104s0 H locs ls  bj104s0_l bj104s0_u hP hD hS hl
                  refine (hK0 _ _ _).mpr ?_
                  refine lv_iadd hx hb dX8_lawsLike_104 ?_
                  refine lv_topi (fun x104 ex104 => ?_)
                  refine lv_istore_n (lv' := [(1, .int x104), (0, .ref a0), (2, .int j21l2)]) hx hb dX8_lawsLike_105 rfl hl (by decide) rfl (fun ls hl => ?_)
                  obtain ⟨x106, ex106⟩ : ∃ y : Int32, y = j21l2 + Int32.ofInt 1 := ⟨_, rfl⟩
                  have qx106 : x106.toInt = j21l2.toInt + 1 := ai_inc ex106 (by decide) (by decide) u26f_j21l2 (by decide)
                  have bx106 : (1 : Int) ≤ x106.toInt ∧ x106.toInt ≤ 729 := ⟨by rw [qx106]; exact Int.add_le_add bj21l2_l (Int.le_refl _), by rw [qx106]; exact Int.add_le_add u26f_j21l2 (Int.le_refl _)⟩
                  refine lv_iinc (v := x106) (lv' := [(2, .int x106), (1, .int x104), (0, .ref a0)]) hx hb dX8_lawsLike_106 hl (k := 2) rfl ex106.symm (by decide) rfl (fun ls hl => ?_)
                  refine lv_goto (tgt := 21) hx hb dX8_lawsLike_109 (by decide) ?_
                  exact (hK0 _ _ _).mp (ih21 x106 x104 j34a0_34_a _ _ _ (by have h0 := qx106; omega) (Int.le_trans zq4 bx106.1) bx106.2 hP hD hS (lv_sub hl [2, 1, 0] rfl))
                refine lv_if_eq (tgt := 103) hx hb dX8_lawsLike_96 (by decide) (fun c96 => ?_) (fun c96 => ?_)
                · have gc96 := ai_eq c96
                  have u96t_j34l3 : j34l3.toInt ≤ (0 : Int) := Int.le_trans (Int.le_of_eq gc96) zq6
                  have l96t_j34l3 : (0 : Int) ≤ j34l3.toInt := bj34l3_l
                  refine lv_iconst (v := 0) hx hb dX8_lawsLike_103 zk_iconst_0 ?_
                  exact (hK0 _ _ _).mp (J104 0 _ _ _  zq5 (Int.le_trans zq6 zq4) hP hD hS (lv_sub hl [0, 2] rfl))
                · have gc96 := ai_ne c96
                  have l96f_j34l3 : (1 : Int) ≤ j34l3.toInt := (by have h1 := bj34l3_l; have h2 : (0 : Int32).toInt = 0 := (by decide); rw [h2] at gc96; omega)
                  refine lv_iconst (v := 1) hx hb dX8_lawsLike_99 zk_iconst_1 ?_
                  refine lv_goto (tgt := 104) hx hb dX8_lawsLike_100 (by decide) ?_
                  exact (hK0 _ _ _).mp (J104 1 _ _ _  (Int.le_trans zq4 zq1) zq0 hP hD hS (lv_sub hl [0, 2] rfl))
              refine lv_icmp_ge (tgt := 94) hx hb dX8_lawsLike_38 (by decide) (fun c38 => ?_) (fun c38 => ?_)
              · have gc38 := ai_le c38
                have l38t_j34l4 : (20 : Int) ≤ j34l4.toInt := Int.le_trans zq153 gc38
                exact (hK0 _ _ _).mp (J94  _ _ _   hP hD hS (lv_sub hl [0, 1, 2, 3] rfl))
              · have gc38 := ai_nle c38
                have u38f_j34l4 : j34l4.toInt ≤ (19 : Int) := ai_lthi gc38 zq154
                refine lv_iload_n hx hb dX8_lawsLike_41 rfl (lv_at hl 3 rfl) ?_
                refine lv_if_eq (tgt := 94) hx hb dX8_lawsLike_42 (by decide) (fun c42 => ?_) (fun c42 => ?_)
                · have gc42 := ai_eq c42
                  have u42t_j34l3 : j34l3.toInt ≤ (0 : Int) := Int.le_trans (Int.le_of_eq gc42) zq6
                  have l42t_j34l3 : (0 : Int) ≤ j34l3.toInt := bj34l3_l
                  exact (hK0 _ _ _).mp (J94  _ _ _   hP hD hS (lv_sub hl [0, 1, 2, 3] rfl))
                · have gc42 := ai_ne c42
                  have l42f_j34l3 : (1 : Int) ≤ j34l3.toInt := (by have h1 := bj34l3_l; have h2 : (0 : Int32).toInt = 0 := (by decide); rw [h2] at gc42; omega)
                  refine lv_aload_n hx hb dX8_lawsLike_45 rfl (lv_at hl 0 rfl) ?_
                  refine lv_iload_n hx hb dX8_lawsLike_46 rfl (lv_at hl 2 rfl) ?_
                  refine lv_iload hx hb dX8_lawsLike_47 (lv_at hl 4 rfl) ?_
                  have hKc := hK.sub (tys' := [(ka0_15, .int), (ka0_34, .int)]) [0, 1] rfl
                  refine va_calli (va_runV (As := [.int j21l2, .int j34l4]) (rest := []) ⟨hx, hb, hml, hown, hts⟩ (c_X8_byCode l dC dI H.size a0 j21l2 j34l4 (Value.int v1na0_0) a0g_1 a0g_2 a0g_3 a0g_4 a0g_5 a0g_6 a0g_7 a0g_8 a0g_9 a0g_10 (Value.int v1na0_11) a0g_12 a0g_13 (Value.int a0_14) a0g_16 a0g_17 a0g_18 a0g_19 a0g_20 a0g_21 a0g_22 a0g_23 a0g_24 a0g_25 a0g_26 a0g_27 a0g_28 a0g_29 a0g_30 a0g_31 a0g_32 a0g_33 a0g_35 a0g_36 a0g_37 a0g_38 a0g_39 a0_15 a0_34 ka0_15 fa0_15 ka0_34 j34a0_34_a bj21l2_l u26f_j21l2 bj34l4_l (Int.le_trans u38f_j34l4 zq190) bfa0_15) (cwV 2 hts gX8_lawsLike_X8_byCode rfl rfl rfl zd_X8_byCode ⟨Nat.le_of_ble_eq_true rfl, Nat.le_of_ble_eq_true rfl⟩) ⟨ax_blind (fun _ _ _ _ _ => trivial), zr_8 hKc (zp_P3 hP) (q0 := 0) rfl, ax_pre (zp_P3 hP) hKc (zp_D3 hD) (fun _ _ => trivial)⟩ rfl rfl hl.1 rfl (lv_room (Nat.le_of_ble_eq_true rfl)) dX8_lawsLike_49 ⟨Nat.le_of_ble_eq_true rfl, Nat.le_of_ble_eq_true rfl⟩) hS (fun q _ h => zp_F3 hD hS hA q h) (zp_F3 hD hS hA) (fun r49 u t H locs ht hvm hw hB hz1 hk1 hS1 => zx_1 hB (fun v49nfa0_34 hB => zo3 hB ht hP hD hk1 (zp_F3 hD hS hA) hS1 (fun hP hK1 hD hS => ?_)))
                  rcases hw with hw
                  · obtain ⟨⟨lr49, ur49⟩, mr49⟩ := hw
                    refine lv_aload_n hx hb dX8_lawsLike_52 rfl (lv_at hl 0 rfl) ?_
                    refine lv_aload_n hx hb dX8_lawsLike_53 rfl (lv_at hl 0 rfl) ?_
                    refine va_get (D := (dC, dI)) (ci := 8) (v := .ref a0_15) (C := RX8) (T := TX8) (N := 40) hx hb hts zi_X8_lawsLike_8 hown hK hP 0 rfl rfl 15 (by decide) (hts (.fieldLink RX8 20 "WaxTurnsModel" "\x72" "[I") (zm_X8_lawsLike_r1 (List.mem_of_getElem? (i := 1) rfl))) (fun _ h9 => h9) rfl dX8_lawsLike_54 ?_
                    refine lv_bipush (v := 7) hx hb dX8_lawsLike_57 zk_bipush_7 ?_
                    refine va_iald hx hb hK hP 1 0 rfl rfl (by unfold vp_in; decide +kernel) dX8_lawsLike_59 ?_
                    refine lv_topi (fun x59 ex59 => ?_)
                    have bx59 : (0 : Int) ≤ x59.toInt ∧ x59.toInt ≤ 8 := by rw [ex59]; exact ai_rd bfa0_15.2.2.2.2.2.2.2.1 zq114 zq115 (by decide) (by decide) (by decide)
                    refine lv_aload_n hx hb dX8_lawsLike_60 rfl (lv_at hl 0 rfl) ?_
                    refine va_get (D := (dC, dI)) (ci := 8) (v := .ref a0_15) (C := RX8) (T := TX8) (N := 40) hx hb hts zi_X8_lawsLike_8 hown hK hP 0 rfl rfl 15 (by decide) (hts (.fieldLink RX8 20 "WaxTurnsModel" "\x72" "[I") (zm_X8_lawsLike_r1 (List.mem_of_getElem? (i := 1) rfl))) (fun _ h9 => h9) rfl dX8_lawsLike_61 ?_
                    refine lv_bipush (v := 8) hx hb dX8_lawsLike_64 zk_bipush_8 ?_
                    refine va_iald hx hb hK hP 1 0 rfl rfl (by unfold vp_in; decide +kernel) dX8_lawsLike_66 ?_
                    refine lv_topi (fun x66 ex66 => ?_)
                    have bx66 : (0 : Int) ≤ x66.toInt ∧ x66.toInt ≤ 8 := by rw [ex66]; exact ai_rd bfa0_15.2.2.2.2.2.2.2.1 zq116 zq28 (by decide) (by decide) (by decide)
                    refine lv_aload_n hx hb dX8_lawsLike_67 rfl (lv_at hl 0 rfl) ?_
                    refine va_get (D := (dC, dI)) (ci := 8) (v := .ref a0_15) (C := RX8) (T := TX8) (N := 40) hx hb hts zi_X8_lawsLike_8 hown hK hP 0 rfl rfl 15 (by decide) (hts (.fieldLink RX8 20 "WaxTurnsModel" "\x72" "[I") (zm_X8_lawsLike_r1 (List.mem_of_getElem? (i := 1) rfl))) (fun _ h9 => h9) rfl dX8_lawsLike_68 ?_
                    refine lv_bipush (v := 9) hx hb dX8_lawsLike_71 zk_bipush_9 ?_
                    refine va_iald hx hb hK hP 1 0 rfl rfl (by unfold vp_in; decide +kernel) dX8_lawsLike_73 ?_
                    refine lv_topi (fun x73 ex73 => ?_)
                    have bx73 : (0 : Int) ≤ x73.toInt ∧ x73.toInt ≤ 8 := by rw [ex73]; exact ai_rd bfa0_15.2.2.2.2.2.2.2.1 zq2 zq3 (by decide) (by decide) (by decide)
                    refine lv_iload hx hb dX8_lawsLike_74 (lv_at hl 4 rfl) ?_
                    refine zc_cutc (wc := [(a0, .inr (8, [Value.int v1na0_0, a0g_1, a0g_2, a0g_3, a0g_4, a0g_5, a0g_6, a0g_7, a0g_8, a0g_9, a0g_10, Value.int v1na0_11, a0g_12, a0g_13, Value.int a0_14, Value.ref a0_15, a0g_16, a0g_17, a0g_18, a0g_19, a0g_20, a0g_21, a0g_22, a0g_23, a0g_24, a0g_25, a0g_26, a0g_27, a0g_28, a0g_29, a0g_30, a0g_31, a0g_32, a0g_33, Value.ref a0_34, a0g_35, a0g_36, a0g_37, a0g_38, a0g_39])), (a0_34, .inl (ka0_34, 9, .inl (v49nfa0_34))), (a0_15, .inl (ka0_15, 156, .inl (fa0_15)))]) hP hD hS hA [0, 2, 1] (by decide +kernel) rfl (fun hPc hDc hFc hCc => ?_)
                    have hKc := hK.sub (tys' := [(ka0_34, .int), (ka0_15, .int)]) [1, 0] rfl
                    refine va_calli (va_runV (As := [.int x59, .int x66, .int x73, .int j34l4]) (rest := [.int r49]) ⟨hx, hb, hml, hown, hts⟩ (c_X8_turnBy l dC dI H.size a0 x59 x66 x73 j34l4 (Value.int v1na0_0) a0g_1 a0g_2 a0g_3 a0g_4 a0g_5 a0g_6 a0g_7 a0g_8 a0g_9 a0g_10 (Value.int v1na0_11) a0g_12 a0g_13 (Value.int a0_14) a0g_16 a0g_17 a0g_18 a0g_19 a0g_20 a0g_21 a0g_22 a0g_23 a0g_24 a0g_25 a0g_26 a0g_27 a0g_28 a0g_29 a0g_30 a0g_31 a0g_32 a0g_33 a0g_35 a0g_36 a0g_37 a0g_38 a0g_39 a0_15 a0_34 ka0_34 v49nfa0_34 ka0_15 fa0_15 bx59.1 (Int.le_trans bx59.2 zq189) bx66.1 bx66.2 bx73.1 bx73.2 bj34l4_l (Int.le_trans u38f_j34l4 zq190) bfa0_15) (cwV 4 hts gX8_lawsLike_X8_turnBy rfl rfl rfl zd_X8_turnBy ⟨Nat.le_of_ble_eq_true rfl, Nat.le_of_ble_eq_true rfl⟩) ⟨ax_blind (fun _ _ _ _ _ => trivial), zr_8 hKc hPc (q0 := 0) rfl, ax_pre hPc hKc hDc (fun _ _ => trivial)⟩ rfl rfl hl.1 rfl (lv_room (Nat.le_of_ble_eq_true rfl)) dX8_lawsLike_76 ⟨Nat.le_of_ble_eq_true rfl, Nat.le_of_ble_eq_true rfl⟩) hS (fun q _ h => hFc q h) hFc (fun r76 u t H locs ht hvm hw hB hz1 hk1 hS => zx_1 hB (fun v76nfa0_34 hB => zo hB ht (fun hP1 hK1 hD1 => ?_)))
                    refine zc_backc (w := [(a0, .inr (8, [Value.int v1na0_0, a0g_1, a0g_2, a0g_3, a0g_4, a0g_5, a0g_6, a0g_7, a0g_8, a0g_9, a0g_10, Value.int v1na0_11, a0g_12, a0g_13, Value.int a0_14, Value.ref a0_15, a0g_16, a0g_17, a0g_18, a0g_19, a0g_20, a0g_21, a0g_22, a0g_23, a0g_24, a0g_25, a0g_26, a0g_27, a0g_28, a0g_29, a0g_30, a0g_31, a0g_32, a0g_33, Value.ref a0_34, a0g_35, a0g_36, a0g_37, a0g_38, a0g_39])), (a0_15, .inl (ka0_15, 156, .inl (fa0_15))), (a0_34, .inl (ka0_34, 9, .inl (v76nfa0_34)))]) hP hD hCc hk1 hFc hP1 hD1 [.inr 0, .inr 2, .inr 1] (by decide +kernel) rfl (fun hP hD => ?_)
                    rcases hw with hw
                    · obtain ⟨⟨lr76, ur76⟩, mr76⟩ := hw
                      have J87 : ∀ (j87s0 : Int32) (H : Heap) (locs : List Loc) (ls : Array Slot), (0 : Int) ≤ j87s0.toInt → j87s0.toInt ≤ (1 : Int) → va_P (dC, dI) vwCl [(a0, .inr (8, [Value.int v1na0_0, a0g_1, a0g_2, a0g_3, a0g_4, a0g_5, a0g_6, a0g_7, a0g_8, a0g_9, a0g_10, Value.int v1na0_11, a0g_12, a0g_13, Value.int a0_14, Value.ref a0_15, a0g_16, a0g_17, a0g_18, a0g_19, a0g_20, a0g_21, a0g_22, a0g_23, a0g_24, a0g_25, a0g_26, a0g_27, a0g_28, a0g_29, a0g_30, a0g_31, a0g_32, a0g_33, Value.ref a0_34, a0g_35, a0g_36, a0g_37, a0g_38, a0g_39])), (a0_15, .inl (ka0_15, 156, .inl (fa0_15))), (a0_34, .inl (ka0_34, 9, .inl (v76nfa0_34)))] H → va_D A [(a0, .inr (8, [Value.int v1na0_0, a0g_1, a0g_2, a0g_3, a0g_4, a0g_5, a0g_6, a0g_7, a0g_8, a0g_9, a0g_10, Value.int v1na0_11, a0g_12, a0g_13, Value.int a0_14, Value.ref a0_15, a0g_16, a0g_17, a0g_18, a0g_19, a0g_20, a0g_21, a0g_22, a0g_23, a0g_24, a0g_25, a0g_26, a0g_27, a0g_28, a0g_29, a0g_30, a0g_31, a0g_32, a0g_33, Value.ref a0_34, a0g_35, a0g_36, a0g_37, a0g_38, a0g_39])), (a0_15, .inl (ka0_15, 156, .inl (fa0_15))), (a0_34, .inl (ka0_34, 9, .inl (v76nfa0_34)))] → va_S A s.heap H locs → lv_has ls 5 [(0, .ref a0), (1, .int j21l1), (2, .int j21l2), (4, .int j34l4)] → K H locs (F0 m 87 ls [.int j87s0]) := by
                        intro j87s0 H locs ls  bj87s0_l bj87s0_u hP hD hS hl
                        refine (hK0 _ _ _).mpr ?_
                        refine lv_istore_n (lv' := [(3, .int j87s0), (0, .ref a0), (1, .int j21l1), (2, .int j21l2), (4, .int j34l4)]) hx hb dX8_lawsLike_87 rfl hl (by decide) rfl (fun ls hl => ?_)
                        obtain ⟨x88, ex88⟩ : ∃ y : Int32, y = j34l4 + Int32.ofInt 1 := ⟨_, rfl⟩
                        have qx88 : x88.toInt = j34l4.toInt + 1 := ai_inc ex88 (by decide) (by decide) u38f_j34l4 (by decide)
                        have bx88 : (1 : Int) ≤ x88.toInt ∧ x88.toInt ≤ 20 := ⟨by rw [qx88]; exact Int.add_le_add bj34l4_l (Int.le_refl _), by rw [qx88]; exact Int.add_le_add u38f_j34l4 (Int.le_refl _)⟩
                        refine lv_iinc (v := x88) (lv' := [(4, .int x88), (3, .int j87s0), (0, .ref a0), (1, .int j21l1), (2, .int j21l2)]) hx hb dX8_lawsLike_88 hl (k := 4) rfl ex88.symm (by decide) rfl (fun ls hl => ?_)
                        refine lv_goto (tgt := 34) hx hb dX8_lawsLike_91 (by decide) ?_
                        exact (hK0 _ _ _).mp (ih34 x88 j87s0 v76nfa0_34 _ _ _ (by have h0 := qx88; omega) (Int.le_trans zq4 bx88.1) bx88.2 bj87s0_l bj87s0_u hP hD hS (lv_sub hl [2, 3, 4, 1, 0] rfl))
                      refine lv_icmp_ne (tgt := 86) hx hb dX8_lawsLike_79 (by decide) (fun c79 => ?_) (fun c79 => ?_)
                      · have gc79 := ai_ne c79
                        refine lv_iconst (v := 0) hx hb dX8_lawsLike_86 zk_iconst_0 ?_
                        exact (hK0 _ _ _).mp (J87 0 _ _ _  zq5 (Int.le_trans zq6 zq4) hP hD hS (lv_sub hl [0, 1, 2, 4] rfl))
                      · have gc79 := ai_eq c79
                        have u79f_r49 : r49.toInt ≤ (8 : Int) := ur49
                        have l79f_r49 : (0 : Int) ≤ r49.toInt := lr49
                        have u79f_r76 : r76.toInt ≤ (8 : Int) := ur76
                        have l79f_r76 : (0 : Int) ≤ r76.toInt := lr76
                        refine lv_iconst (v := 1) hx hb dX8_lawsLike_82 zk_iconst_1 ?_
                        refine lv_goto (tgt := 87) hx hb dX8_lawsLike_83 (by decide) ?_
                        exact (hK0 _ _ _).mp (J87 1 _ _ _  (Int.le_trans zq4 zq1) zq0 hP hD hS (lv_sub hl [0, 1, 2, 4] rfl))
          exact (hK0 _ _ _).mp (J34 21 0 1 j21a0_34_a _ _ _ (by have h1 : (0 : Int) ≤ (0 : Int32).toInt := zq5; have h2 : (0 : Int32).toInt ≤ (0 : Int) := zq6; omega) zq5 (Int.le_trans zq6 zq191) (Int.le_trans zq4 zq1) zq0 hP hD hS (lv_sub hl [2, 3, 4, 1, 0] rfl))
    exact (hK0 _ _ _).mp (J21 730 0 0 fa0_34 _ _ _ (by have h1 : (0 : Int) ≤ (0 : Int32).toInt := zq5; have h2 : (0 : Int32).toInt ≤ (0 : Int) := zq6; omega) zq5 (Int.le_trans zq6 zq35) hP hD hS (lv_sub hl [2, 1, 0] rfl))
  · have gc8 := ai_eq c8
    have u8f_a0_14 : a0_14.toInt ≤ (0 : Int) := Int.le_trans (Int.le_of_eq gc8) zq6
    have l8f_a0_14 : (1 : Int) ≤ a0_14.toInt := ba0_14_l
    exact absurd (Int.le_trans l8f_a0_14 u8f_a0_14) (by decide)

set_option maxHeartbeats 4000000 in
set_option maxRecDepth 100000 in
theorem c_X8_isFigureR (l : Launch) (dC : Nat → ClassId) (dI : Nat → Nat → Nat) (sz : Nat) (a0 : Nat) (a1 : Int32) (a0g_0 a0g_1 a0g_2 a0g_3 a0g_4 a0g_5 a0g_6 a0g_7 a0g_8 a0g_9 a0g_10 a0g_11 a0g_12 a0g_13 a0g_16 a0g_17 a0g_18 a0g_19 a0g_20 a0g_21 a0g_22 a0g_23 a0g_24 a0g_25 a0g_26 a0g_27 a0g_28 a0g_29 a0g_30 a0g_31 a0g_32 a0g_33 a0g_34 a0g_35 a0g_36 a0g_37 a0g_38 a0g_39 : Value) (a0_14 : Int32) (a0_15 : Nat) (ka0_15 : ClassId) (fa0_15 : Nat → Int32) (ba0_14_l : (1 : Int) ≤ a0_14.toInt) (ba0_14_u : a0_14.toInt ≤ (1 : Int)) (bfa0_15 : ((∀ k : Nat, 0 ≤ k → k ≤ 0 → (2 : Int) ≤ (fa0_15 k).toInt ∧ (fa0_15 k).toInt ≤ 9) ∧ (∀ k : Nat, 1 ≤ k → k ≤ 1 → (1 : Int) ≤ (fa0_15 k).toInt ∧ (fa0_15 k).toInt ≤ 20) ∧ (∀ k : Nat, 2 ≤ k → k ≤ 2 → (0 : Int) ≤ (fa0_15 k).toInt ∧ (fa0_15 k).toInt ≤ 8) ∧ (∀ k : Nat, 3 ≤ k → k ≤ 3 → (0 : Int) ≤ (fa0_15 k).toInt ∧ (fa0_15 k).toInt ≤ 100) ∧ (∀ k : Nat, 4 ≤ k → k ≤ 4 → (0 : Int) ≤ (fa0_15 k).toInt ∧ (fa0_15 k).toInt ≤ 9) ∧ (∀ k : Nat, 5 ≤ k → k ≤ 5 → (0 : Int) ≤ (fa0_15 k).toInt ∧ (fa0_15 k).toInt ≤ 3) ∧ (∀ k : Nat, 6 ≤ k → k ≤ 6 → (0 : Int) ≤ (fa0_15 k).toInt ∧ (fa0_15 k).toInt ≤ 6) ∧ (∀ k : Nat, 7 ≤ k → k ≤ 9 → (0 : Int) ≤ (fa0_15 k).toInt ∧ (fa0_15 k).toInt ≤ 8) ∧ (∀ k : Nat, 12 ≤ k → k ≤ 29 → (0 : Int) ≤ (fa0_15 k).toInt ∧ (fa0_15 k).toInt ≤ 20) ∧ (∀ k : Nat, 30 ≤ k → k ≤ 35 → (0 : Int) ≤ (fa0_15 k).toInt ∧ (fa0_15 k).toInt ≤ 8) ∧ (∀ k : Nat, 36 ≤ k → k ≤ 47 → (0 : Int) ≤ (fa0_15 k).toInt ∧ (fa0_15 k).toInt ≤ 999))) : zm l yX8_isFigure wsX8_isFigure ({ frames := 1, cells := 0, slots := 0, locals := 22 }) [.ref a0, .int a1] dC dI sz [(a0, .inr (8, [a0g_0, a0g_1, a0g_2, a0g_3, a0g_4, a0g_5, a0g_6, a0g_7, a0g_8, a0g_9, a0g_10, a0g_11, a0g_12, a0g_13, Value.int a0_14, Value.ref a0_15, a0g_16, a0g_17, a0g_18, a0g_19, a0g_20, a0g_21, a0g_22, a0g_23, a0g_24, a0g_25, a0g_26, a0g_27, a0g_28, a0g_29, a0g_30, a0g_31, a0g_32, a0g_33, a0g_34, a0g_35, a0g_36, a0g_37, a0g_38, a0g_39])), (a0_15, .inl (ka0_15, 156, .inl (fa0_15)))] [(ka0_15, .int)] (fun A _ => True) (fun A => va_Qi (fun (r : Int32) (_ : Unit) => (r = 1 ∧ (0 : Int) ≤ a1.toInt ∧ a1.toInt ≤ (8 : Int) ∧ a1.toInt < (fa0_15 0).toInt) ∨ r = 0) (fun (_ : Unit) (t : State) => ax_B dC dI A [(a0, .inr (8, [a0g_0, a0g_1, a0g_2, a0g_3, a0g_4, a0g_5, a0g_6, a0g_7, a0g_8, a0g_9, a0g_10, a0g_11, a0g_12, a0g_13, Value.int a0_14, Value.ref a0_15, a0g_16, a0g_17, a0g_18, a0g_19, a0g_20, a0g_21, a0g_22, a0g_23, a0g_24, a0g_25, a0g_26, a0g_27, a0g_28, a0g_29, a0g_30, a0g_31, a0g_32, a0g_33, a0g_34, a0g_35, a0g_36, a0g_37, a0g_38, a0g_39])), (a0_15, .inl (ka0_15, 156, .inl (fa0_15)))] [(ka0_15, .int)] t) A) := by
  refine zh (cc := cX8_isFigure) (maxL := 2) (ret := (some .boolean)) zn_RX8 rfl (Nat.le_of_ble_eq_true rfl) (fun p e s m below meth c A ls hx hb hml hr hts (hown : s.vm.findClass RX8 = some m.cls) hlocks hA hS hP hK hD hE (hl : lv_has ls 2 [(0, .ref a0), (1, .int a1)]) => ?_)
  refine lv_aload_n hx hb dX8_isFigure_0 rfl (lv_at hl 0 rfl) ?_
  refine va_get (D := (dC, dI)) (ci := 8) (v := .int a0_14) (C := RX8) (T := TX8) (N := 40) hx hb hts zi_X8_isFigure_8 hown hK hP 0 rfl rfl 14 (by decide) (hts (.fieldLink RX8 173 "WaxTurnsModel" "hasGallery" "Z") (List.mem_cons_of_mem _ (List.mem_append_left _ (List.mem_of_getElem? (i := 0) rfl)))) (fun _ h9 => h9) rfl dX8_isFigure_1 ?_
  refine lv_if_eq (tgt := 27) hx hb dX8_isFigure_4 (by decide) (fun c4 => ?_) (fun c4 => ?_)
  · have gc4 := ai_eq c4
    have u4t_a0_14 : a0_14.toInt ≤ (0 : Int) := Int.le_trans (Int.le_of_eq gc4) zq6
    have l4t_a0_14 : (1 : Int) ≤ a0_14.toInt := ba0_14_l
    exact absurd (Int.le_trans l4t_a0_14 u4t_a0_14) (by decide)
  · have gc4 := ai_ne c4
    refine lv_iload_n hx hb dX8_isFigure_7 rfl (lv_at hl 1 rfl) ?_
    refine lv_iconst (v := 0) hx hb dX8_isFigure_8 zk_iconst_0 ?_
    refine lv_aload_n hx hb dX8_isFigure_9 rfl (lv_at hl 0 rfl) ?_
    refine va_get (D := (dC, dI)) (ci := 8) (v := .ref a0_15) (C := RX8) (T := TX8) (N := 40) hx hb hts zi_X8_isFigure_8 hown hK hP 0 rfl rfl 15 (by decide) (hts (.fieldLink RX8 20 "WaxTurnsModel" "\x72" "[I") (List.mem_cons_of_mem _ (List.mem_append_left _ (List.mem_of_getElem? (i := 1) rfl)))) (fun _ h9 => h9) rfl dX8_isFigure_10 ?_
    refine lv_iconst (v := 0) hx hb dX8_isFigure_13 zk_iconst_0 ?_
    refine va_iald hx hb hK hP 1 0 rfl rfl (by unfold vp_in; decide +kernel) dX8_isFigure_14 ?_
    refine lv_topi (fun x14 ex14 => ?_)
    have bx14 : (2 : Int) ≤ x14.toInt ∧ x14.toInt ≤ 9 := by rw [ex14]; exact ai_rd bfa0_15.1 zq5 zq6 (by decide) (by decide) (by decide)
    refine lv_iconst (v := 1) hx hb dX8_isFigure_15 zk_iconst_1 ?_
    refine lv_isub hx hb dX8_isFigure_16 ?_
    refine lv_topi (fun x16 ex16 => ?_)
    have qx16 : x16.toInt = x14.toInt - (1 : Int32).toInt := ai_sub ex16 ⟨bx14.1, bx14.2⟩ ⟨zq1, zq0⟩ (by decide) (by decide)
    have bx16 : (1 : Int) ≤ x16.toInt ∧ x16.toInt ≤ 8 := ⟨by rw [qx16]; exact Int.sub_le_sub bx14.1 zq0, by rw [qx16]; exact Int.sub_le_sub bx14.2 zq1⟩
    have wx16 : x16.toInt = x14.toInt - 1 := qx16
    refine va_calli (va_runS (As := [.int a1, .int 0, .int x16]) (rest := []) ⟨hx, hb, hml, hown, hts⟩ (c_X8_in l dC dI s.heap.size a1 0 x16 ) (va_cwS 3 hts gX8_isFigure_X8_in rfl rfl rfl zd_X8_in.2 ⟨Nat.le_of_ble_eq_true rfl, Nat.le_of_ble_eq_true rfl⟩) ⟨ax_blind (fun _ _ _ _ _ => trivial), ax_pre (zp_P0 hP) (zp_K hK) (zp_D0 hD) (fun _ _ => trivial)⟩ rfl rfl hl.1 rfl (lv_room (Nat.le_of_ble_eq_true rfl)) dX8_isFigure_17 ⟨Nat.le_of_ble_eq_true rfl, Nat.le_of_ble_eq_true rfl⟩) hS (fun q _ h => zp_F0 hD hS hA q h) (zp_F0 hD hS hA) (fun r17 u t H locs ht hvm hw hB hz1 hk1 hS1 => zo0 hB ht hP hD hk1 (zp_F0 hD hS hA) hS1 (fun hP hK1 hD hS => ?_))
    rcases hw with hw | hw
    · obtain ⟨hw, h17⟩ := hw
      subst hw
      have l17k0_a1 : (0 : Int) ≤ a1.toInt := Int.le_trans zq5 h17.1
      have u17k0_a1 : a1.toInt ≤ (8 : Int) := Int.le_trans h17.2 bx16.2
      have l17k0_x16 : (1 : Int) ≤ x16.toInt := bx16.1
      refine lv_if_eq (tgt := 27) hx hb dX8_isFigure_20 (by decide) (fun c20 => absurd c20 (by decide +kernel)) (fun _ => ?_)
      refine lv_iconst (v := 1) hx hb dX8_isFigure_23 zk_iconst_1 ?_
      refine lv_goto (tgt := 28) hx hb dX8_isFigure_24 (by decide) ?_
      exact W.zret (v := 1) hx hb hr rfl (fun t ht hW => ⟨⟨1, (), rfl, (Or.inl ⟨rfl, l17k0_a1, u17k0_a1, (by have h1 := h17.2; have h2 : x14.toInt = (fa0_15 0).toInt := (by rw [ex14]; rfl); omega)⟩), by rw [ht]; exact hP, va_K.moved hW.alike hK, hD⟩, hS.F ht⟩) hS.2.2 dX8_isFigure_28
    · obtain ⟨hw, h17⟩ := hw
      subst hw
      refine lv_if_eq (tgt := 27) hx hb dX8_isFigure_20 (by decide) (fun _ => ?_) (fun c20 => absurd (by decide +kernel) c20)
      refine lv_iconst (v := 0) hx hb dX8_isFigure_27 zk_iconst_0 ?_
      exact W.zret (v := 0) hx hb hr rfl (fun t ht hW => ⟨⟨0, (), rfl, (Or.inr rfl), by rw [ht]; exact hP, va_K.moved hW.alike hK, hD⟩, hS.F ht⟩) hS.2.2 dX8_isFigure_28

set_option maxHeartbeats 4000000 in
set_option maxRecDepth 100000 in
theorem c_X8_lawFor (l : Launch) (dC : Nat → ClassId) (dI : Nat → Nat → Nat) (sz : Nat) (a0 : Nat) (a1 : Int32) (a2 : Int32) (a0_0 : Int32) (a0g_1 a0g_2 a0g_3 a0g_4 a0g_5 a0g_6 a0g_7 a0g_8 a0g_9 a0g_10 a0g_12 a0g_13 a0g_16 a0g_17 a0g_18 a0g_19 a0g_20 a0g_21 a0g_22 a0g_23 a0g_24 a0g_25 a0g_26 a0g_27 a0g_28 a0g_29 a0g_30 a0g_31 a0g_32 a0g_33 a0g_35 a0g_36 a0g_37 a0g_38 a0g_39 : Value) (a0_11 : Int32) (a0_14 : Int32) (a0_15 : Nat) (a0_34 : Nat) (ka0_15 : ClassId) (fa0_15 : Nat → Int32) (ka0_34 : ClassId) (fa0_34 : Nat → Int32) (ba0_14_l : (1 : Int) ≤ a0_14.toInt) (ba0_14_u : a0_14.toInt ≤ (1 : Int)) (bfa0_15 : ((∀ k : Nat, 0 ≤ k → k ≤ 0 → (2 : Int) ≤ (fa0_15 k).toInt ∧ (fa0_15 k).toInt ≤ 9) ∧ (∀ k : Nat, 1 ≤ k → k ≤ 1 → (1 : Int) ≤ (fa0_15 k).toInt ∧ (fa0_15 k).toInt ≤ 20) ∧ (∀ k : Nat, 2 ≤ k → k ≤ 2 → (0 : Int) ≤ (fa0_15 k).toInt ∧ (fa0_15 k).toInt ≤ 8) ∧ (∀ k : Nat, 3 ≤ k → k ≤ 3 → (0 : Int) ≤ (fa0_15 k).toInt ∧ (fa0_15 k).toInt ≤ 100) ∧ (∀ k : Nat, 4 ≤ k → k ≤ 4 → (0 : Int) ≤ (fa0_15 k).toInt ∧ (fa0_15 k).toInt ≤ 9) ∧ (∀ k : Nat, 5 ≤ k → k ≤ 5 → (0 : Int) ≤ (fa0_15 k).toInt ∧ (fa0_15 k).toInt ≤ 3) ∧ (∀ k : Nat, 6 ≤ k → k ≤ 6 → (0 : Int) ≤ (fa0_15 k).toInt ∧ (fa0_15 k).toInt ≤ 6) ∧ (∀ k : Nat, 7 ≤ k → k ≤ 9 → (0 : Int) ≤ (fa0_15 k).toInt ∧ (fa0_15 k).toInt ≤ 8) ∧ (∀ k : Nat, 12 ≤ k → k ≤ 29 → (0 : Int) ≤ (fa0_15 k).toInt ∧ (fa0_15 k).toInt ≤ 20) ∧ (∀ k : Nat, 30 ≤ k → k ≤ 35 → (0 : Int) ≤ (fa0_15 k).toInt ∧ (fa0_15 k).toInt ≤ 8) ∧ (∀ k : Nat, 36 ≤ k → k ≤ 47 → (0 : Int) ≤ (fa0_15 k).toInt ∧ (fa0_15 k).toInt ≤ 999))) : zm l yX8_lawFor wsX8_lawFor ({ frames := 2, cells := 0, slots := 0, locals := 50 }) [.ref a0, .int a1, .int a2] dC dI sz [(a0, .inr (8, [Value.int a0_0, a0g_1, a0g_2, a0g_3, a0g_4, a0g_5, a0g_6, a0g_7, a0g_8, a0g_9, a0g_10, Value.int a0_11, a0g_12, a0g_13, Value.int a0_14, Value.ref a0_15, a0g_16, a0g_17, a0g_18, a0g_19, a0g_20, a0g_21, a0g_22, a0g_23, a0g_24, a0g_25, a0g_26, a0g_27, a0g_28, a0g_29, a0g_30, a0g_31, a0g_32, a0g_33, Value.ref a0_34, a0g_35, a0g_36, a0g_37, a0g_38, a0g_39])), (a0_15, .inl (ka0_15, 156, .inl (fa0_15))), (a0_34, .inl (ka0_34, 9, .inl (fa0_34)))] [(ka0_15, .int), (ka0_34, .int)] (fun A _ => True) (fun A => va_Qi (fun (r : Int32) (_ : Unit) => (-1 : Int) ≤ r.toInt ∧ r.toInt ≤ (72888 : Int)) (fun (_ : Unit) (t : State) => ∃ na0_0 : Int32, ∃ na0_11 : Int32, ∃ nfa0_34 : Nat → Int32, ax_B dC dI A [(a0, .inr (8, [Value.int na0_0, a0g_1, a0g_2, a0g_3, a0g_4, a0g_5, a0g_6, a0g_7, a0g_8, a0g_9, a0g_10, Value.int na0_11, a0g_12, a0g_13, Value.int a0_14, Value.ref a0_15, a0g_16, a0g_17, a0g_18, a0g_19, a0g_20, a0g_21, a0g_22, a0g_23, a0g_24, a0g_25, a0g_26, a0g_27, a0g_28, a0g_29, a0g_30, a0g_31, a0g_32, a0g_33, Value.ref a0_34, a0g_35, a0g_36, a0g_37, a0g_38, a0g_39])), (a0_15, .inl (ka0_15, 156, .inl (fa0_15))), (a0_34, .inl (ka0_34, 9, .inl (nfa0_34)))] [(ka0_15, .int), (ka0_34, .int)] t) A) := by
  refine zh (cc := cX8_lawFor) (maxL := 5) (ret := (some .int)) zn_RX8 rfl (Nat.le_of_ble_eq_true rfl) (fun p e s m below meth c A ls hx hb hml hr hts (hown : s.vm.findClass RX8 = some m.cls) hlocks hA hS hP hK hD hE (hl : lv_has ls 5 [(0, .ref a0), (1, .int a1), (2, .int a2)]) => ?_)
  refine ai_open (fun K hK0 => ?_)
  refine (hK0 _ _ _).mpr ?_
  refine lv_aload_n hx hb dX8_lawFor_0 rfl (lv_at hl 0 rfl) ?_
  refine va_callv (va_runV (As := []) (rest := []) ⟨hx, hb, hml, hown, hts⟩ (c_X8_good l dC dI s.heap.size a0 a0_0 a0g_1 a0g_2 a0g_3 a0g_4 a0g_5 a0g_6 a0g_7 a0g_8 a0g_9 a0g_10 a0g_12 a0g_13 (Value.int a0_14) (Value.ref a0_15) a0g_16 a0g_17 a0g_18 a0g_19 a0g_20 a0g_21 a0g_22 a0g_23 a0g_24 a0g_25 a0g_26 a0g_27 a0g_28 a0g_29 a0g_30 a0g_31 a0g_32 a0g_33 (Value.ref a0_34) a0g_35 a0g_36 a0g_37 a0g_38 a0g_39 a0_11 ) (cwV 0 hts gX8_lawFor_X8_good rfl rfl rfl zd_X8_good ⟨Nat.le_of_ble_eq_true rfl, Nat.le_of_ble_eq_true rfl⟩) ⟨ax_blind (fun _ _ _ _ _ => trivial), zr_8 (zp_K hK) (zp_P1 hP) (q0 := 0) rfl, ax_pre (zp_P1 hP) (zp_K hK) (zp_D1 hD) (fun _ _ => trivial)⟩ rfl rfl hl.1 rfl (lv_room (Nat.le_of_ble_eq_true rfl)) dX8_lawFor_1 ⟨Nat.le_of_ble_eq_true rfl, Nat.le_of_ble_eq_true rfl⟩) hS (fun q _ h => zp_F1 hD hS hA q h) (zp_F1 hD hS hA) (fun u t H locs ht hvm hw hB hz1 hk1 hS1 => zx_2 hB (fun v1na0_0 v1na0_11 hB => zo1 hB ht hP hD hk1 (zp_F1 hD hS hA) hS1 (fun hP hK1 hD hS => ?_)))
  refine lv_aload_n hx hb dX8_lawFor_4 rfl (lv_at hl 0 rfl) ?_
  refine lv_aload_n hx hb dX8_lawFor_5 rfl (lv_at hl 0 rfl) ?_
  refine lv_iload_n hx hb dX8_lawFor_6 rfl (lv_at hl 1 rfl) ?_
  have hKc := hK.sub (tys' := [(ka0_15, .int)]) [0] rfl
  refine va_calli (va_runV (As := [.int a1]) (rest := [.ref a0]) ⟨hx, hb, hml, hown, hts⟩ (c_X8_isFigureR l dC dI H.size a0 a1 (Value.int v1na0_0) a0g_1 a0g_2 a0g_3 a0g_4 a0g_5 a0g_6 a0g_7 a0g_8 a0g_9 a0g_10 (Value.int v1na0_11) a0g_12 a0g_13 a0g_16 a0g_17 a0g_18 a0g_19 a0g_20 a0g_21 a0g_22 a0g_23 a0g_24 a0g_25 a0g_26 a0g_27 a0g_28 a0g_29 a0g_30 a0g_31 a0g_32 a0g_33 (Value.ref a0_34) a0g_35 a0g_36 a0g_37 a0g_38 a0g_39 a0_14 a0_15 ka0_15 fa0_15 ba0_14_l ba0_14_u bfa0_15) (cwV 1 hts gX8_lawFor_X8_isFigure rfl rfl rfl zd_X8_isFigure ⟨Nat.le_of_ble_eq_true rfl, Nat.le_of_ble_eq_true rfl⟩) ⟨ax_blind (fun _ _ _ _ _ => trivial), zr_8 hKc (zp_P2 hP) (q0 := 0) rfl, ax_pre (zp_P2 hP) hKc (zp_D2 hD) (fun _ _ => trivial)⟩ rfl rfl hl.1 rfl (lv_room (Nat.le_of_ble_eq_true rfl)) dX8_lawFor_7 ⟨Nat.le_of_ble_eq_true rfl, Nat.le_of_ble_eq_true rfl⟩) hS (fun q _ h => zp_F2 hD hS hA q h) (zp_F2 hD hS hA) (fun r7 u t H locs ht hvm hw hB hz1 hk1 hS1 => zo2 hB ht hP hD hk1 (zp_F2 hD hS hA) hS1 (fun hP hK1 hD hS => ?_))
  rcases hw with hw | hw
  · obtain ⟨hw, h7⟩ := hw
    subst hw
    have l7k0_a1 : (0 : Int) ≤ a1.toInt := h7.1
    have u7k0_a1 : a1.toInt ≤ (8 : Int) := h7.2.1
    refine lv_iload_n hx hb dX8_lawFor_10 rfl (lv_at hl 2 rfl) ?_
    refine lv_iconst (v := 0) hx hb dX8_lawFor_11 zk_iconst_0 ?_
    refine lv_bipush (v := 99) hx hb dX8_lawFor_12 zk_bipush_99 ?_
    refine va_calli (va_runS (As := [.int a2, .int 0, .int 99]) (rest := [.int 1, .ref a0]) ⟨hx, hb, hml, hown, hts⟩ (c_X8_in l dC dI H.size a2 0 99 ) (va_cwS 3 hts gX8_lawFor_X8_in rfl rfl rfl zd_X8_in.2 ⟨Nat.le_of_ble_eq_true rfl, Nat.le_of_ble_eq_true rfl⟩) ⟨ax_blind (fun _ _ _ _ _ => trivial), ax_pre (zp_P0 hP) (zp_K hK) (zp_D0 hD) (fun _ _ => trivial)⟩ rfl rfl hl.1 rfl (lv_room (Nat.le_of_ble_eq_true rfl)) dX8_lawFor_14 ⟨Nat.le_of_ble_eq_true rfl, Nat.le_of_ble_eq_true rfl⟩) hS (fun q _ h => zp_F0 hD hS hA q h) (zp_F0 hD hS hA) (fun r14 u t H locs ht hvm hw hB hz1 hk1 hS1 => zo0 hB ht hP hD hk1 (zp_F0 hD hS hA) hS1 (fun hP hK1 hD hS => ?_))
    rcases hw with hw | hw
    · obtain ⟨hw, h14⟩ := hw
      subst hw
      have l14k0_a2 : (0 : Int) ≤ a2.toInt := Int.le_trans zq5 h14.1
      have u14k0_a2 : a2.toInt ≤ (99 : Int) := Int.le_trans h14.2 zq43
      refine va_calli (va_runV (As := [.int 1, .int 1]) (rest := []) ⟨hx, hb, hml, hown, hts⟩ (c_X8_whyB l dC dI H.size a0 1 1 (Value.int v1na0_0) a0g_1 a0g_2 a0g_3 a0g_4 a0g_5 a0g_6 a0g_7 a0g_8 a0g_9 a0g_10 (Value.int v1na0_11) a0g_12 a0g_13 (Value.int a0_14) (Value.ref a0_15) a0g_16 a0g_17 a0g_18 a0g_19 a0g_20 a0g_21 a0g_22 a0g_23 a0g_24 a0g_25 a0g_26 a0g_27 a0g_28 a0g_29 a0g_30 a0g_31 a0g_32 a0g_33 (Value.ref a0_34) a0g_35 a0g_36 a0g_37 a0g_38 a0g_39 (Int.le_trans zq4 zq1) zq0 (Int.le_trans zq4 zq1) zq0) (cwV 2 hts gX8_lawFor_X8_why rfl rfl rfl zd_X8_why ⟨Nat.le_of_ble_eq_true rfl, Nat.le_of_ble_eq_true rfl⟩) ⟨ax_blind (fun _ _ _ _ _ => trivial), zr_8 (zp_K hK) (zp_P1 hP) (q0 := 0) rfl, ax_pre (zp_P1 hP) (zp_K hK) (zp_D1 hD) (fun _ _ => trivial)⟩ rfl rfl hl.1 rfl (lv_room (Nat.le_of_ble_eq_true rfl)) dX8_lawFor_17 ⟨Nat.le_of_ble_eq_true rfl, Nat.le_of_ble_eq_true rfl⟩) hS (fun q _ h => zp_F1 hD hS hA q h) (zp_F1 hD hS hA) (fun r17 u t H locs ht hvm hw hB hz1 hk1 hS1 => zo1 hB ht hP hD hk1 (zp_F1 hD hS hA) hS1 (fun hP hK1 hD hS => ?_))
      rcases hw with hw | hw | hw
      · obtain ⟨hw, h17_0, h17_1, h17_2, h17_3⟩ := hw
        subst hw
        exact absurd h17_3 (by decide)
      · obtain ⟨hw, h17_0, h17_1⟩ := hw
        subst hw
        exact absurd h17_1 (by decide)
      · obtain ⟨hw, h17_0, h17_1, h17_2, h17_3⟩ := hw
        subst hw
        refine lv_istore_n (lv' := [(3, .int 0), (0, .ref a0), (1, .int a1), (2, .int a2)]) hx hb dX8_lawFor_20 rfl hl (by decide) rfl (fun ls hl => ?_)
        refine lv_iload_n hx hb dX8_lawFor_21 rfl (lv_at hl 0 rfl) ?_
        refine lv_if_eq (tgt := 31) hx hb dX8_lawFor_22 (by decide) (fun _ => ?_) (fun c22 => absurd (by decide +kernel) c22)
        refine lv_iconst (v := 0) hx hb dX8_lawFor_31 zk_iconst_0 ?_
        refine lv_istore (lv' := [(4, .int 0), (3, .int 0), (0, .ref a0), (1, .int a1), (2, .int a2)]) hx hb dX8_lawFor_32 hl (by decide) rfl (fun ls hl => ?_)
        have J34 : ∀ (n : Nat) (j34l4 : Int32) (j34a0_34_a : Nat → Int32) (H : Heap) (locs : List Loc) (ls : Array Slot), (99 : Int) - j34l4.toInt ≤ (n : Int) → (0 : Int) ≤ j34l4.toInt → j34l4.toInt ≤ (98 : Int) → (j34l4.toInt ≤ a1.toInt * (fa0_15 0).toInt + a1.toInt) → va_P (dC, dI) vwCl [(a0, .inr (8, [Value.int v1na0_0, a0g_1, a0g_2, a0g_3, a0g_4, a0g_5, a0g_6, a0g_7, a0g_8, a0g_9, a0g_10, Value.int v1na0_11, a0g_12, a0g_13, Value.int a0_14, Value.ref a0_15, a0g_16, a0g_17, a0g_18, a0g_19, a0g_20, a0g_21, a0g_22, a0g_23, a0g_24, a0g_25, a0g_26, a0g_27, a0g_28, a0g_29, a0g_30, a0g_31, a0g_32, a0g_33, Value.ref a0_34, a0g_35, a0g_36, a0g_37, a0g_38, a0g_39])), (a0_15, .inl (ka0_15, 156, .inl (fa0_15))), (a0_34, .inl (ka0_34, 9, .inl (j34a0_34_a)))] H → va_D A [(a0, .inr (8, [Value.int v1na0_0, a0g_1, a0g_2, a0g_3, a0g_4, a0g_5, a0g_6, a0g_7, a0g_8, a0g_9, a0g_10, Value.int v1na0_11, a0g_12, a0g_13, Value.int a0_14, Value.ref a0_15, a0g_16, a0g_17, a0g_18, a0g_19, a0g_20, a0g_21, a0g_22, a0g_23, a0g_24, a0g_25, a0g_26, a0g_27, a0g_28, a0g_29, a0g_30, a0g_31, a0g_32, a0g_33, Value.ref a0_34, a0g_35, a0g_36, a0g_37, a0g_38, a0g_39])), (a0_15, .inl (ka0_15, 156, .inl (fa0_15))), (a0_34, .inl (ka0_34, 9, .inl (j34a0_34_a)))] → va_S A s.heap H locs → lv_has ls 5 [(0, .ref a0), (1, .int a1), (2, .int a2), (4, .int j34l4)] → K H locs (F0 m 34 ls []) := by
          intro n
          induction n with
          | zero =>
            intro j34l4 j34a0_34_a H locs ls hm bj34l4_l bj34l4_u lf34 hP hD hS hl
            have h8 := ai_min j34l4
            have h9 := ai_max j34l4
            exact absurd hm (by omega)
          | succ n ih34 =>
            intro j34l4 j34a0_34_a H locs ls hm bj34l4_l bj34l4_u lf34 hP hD hS hl
            refine (hK0 _ _ _).mpr ?_
            have hm34 := hm
            refine lv_aload_n hx hb dX8_lawFor_34 rfl (lv_at hl 0 rfl) ?_
            have u34z_j34l4 : j34l4.toInt ≤ (80 : Int) := lf_b lf34 l7k0_a1 u7k0_a1 (Int.le_trans (by decide) (bfa0_15.1 0 (Nat.le_refl 0) (Nat.le_refl 0)).1) (bfa0_15.1 0 (Nat.le_refl 0) (Nat.le_refl 0)).2
            refine lv_iload hx hb dX8_lawFor_35 (lv_at hl 3 rfl) ?_
            refine lv_iload_n hx hb dX8_lawFor_37 rfl (lv_at hl 2 rfl) ?_
            have hKc := hK.sub (tys' := [(ka0_15, .int), (ka0_34, .int)]) [0, 1] rfl
            refine va_calli (va_runV (As := [.int j34l4, .int a2]) (rest := []) ⟨hx, hb, hml, hown, hts⟩ (c_X8_byCode l dC dI H.size a0 j34l4 a2 (Value.int v1na0_0) a0g_1 a0g_2 a0g_3 a0g_4 a0g_5 a0g_6 a0g_7 a0g_8 a0g_9 a0g_10 (Value.int v1na0_11) a0g_12 a0g_13 (Value.int a0_14) a0g_16 a0g_17 a0g_18 a0g_19 a0g_20 a0g_21 a0g_22 a0g_23 a0g_24 a0g_25 a0g_26 a0g_27 a0g_28 a0g_29 a0g_30 a0g_31 a0g_32 a0g_33 a0g_35 a0g_36 a0g_37 a0g_38 a0g_39 a0_15 a0_34 ka0_15 fa0_15 ka0_34 j34a0_34_a bj34l4_l (Int.le_trans u34z_j34l4 zq192) l14k0_a2 (Int.le_trans u14k0_a2 zq186) bfa0_15) (cwV 2 hts gX8_lawFor_X8_byCode rfl rfl rfl zd_X8_byCode ⟨Nat.le_of_ble_eq_true rfl, Nat.le_of_ble_eq_true rfl⟩) ⟨ax_blind (fun _ _ _ _ _ => trivial), zr_8 hKc (zp_P3 hP) (q0 := 0) rfl, ax_pre (zp_P3 hP) hKc (zp_D3 hD) (fun _ _ => trivial)⟩ rfl rfl hl.1 rfl (lv_room (Nat.le_of_ble_eq_true rfl)) dX8_lawFor_38 ⟨Nat.le_of_ble_eq_true rfl, Nat.le_of_ble_eq_true rfl⟩) hS (fun q _ h => zp_F3 hD hS hA q h) (zp_F3 hD hS hA) (fun r38 u t H locs ht hvm hw hB hz1 hk1 hS1 => zx_1 hB (fun v38nfa0_34 hB => zo3 hB ht hP hD hk1 (zp_F3 hD hS hA) hS1 (fun hP hK1 hD hS => ?_)))
            rcases hw with hw
            · obtain ⟨⟨lr38, ur38⟩, mr38⟩ := hw
              refine lv_iload_n hx hb dX8_lawFor_41 rfl (lv_at hl 1 rfl) ?_
              refine lv_icmp_eq (tgt := 51) hx hb dX8_lawFor_42 (by decide) (fun c42 => ?_) (fun c42 => ?_)
              · have gc42 := ai_eq c42
                have u42t_r38 : r38.toInt ≤ (8 : Int) := ur38
                have l42t_r38 : (0 : Int) ≤ r38.toInt := lr38
                have u42t_a1 : a1.toInt ≤ (8 : Int) := u7k0_a1
                have l42t_a1 : (0 : Int) ≤ a1.toInt := l7k0_a1
                refine lv_aload_n hx hb dX8_lawFor_51 rfl (lv_at hl 0 rfl) ?_
                refine lv_iload hx hb dX8_lawFor_52 (lv_at hl 3 rfl) ?_
                have hKc := hK.sub (tys' := [(ka0_15, .int)]) [0] rfl
                refine va_calli (va_runV (As := [.int j34l4]) (rest := []) ⟨hx, hb, hml, hown, hts⟩ (c_X8_numberOf l dC dI H.size a0 j34l4 (Value.int v1na0_0) a0g_1 a0g_2 a0g_3 a0g_4 a0g_5 a0g_6 a0g_7 a0g_8 a0g_9 a0g_10 (Value.int v1na0_11) a0g_12 a0g_13 (Value.int a0_14) a0g_16 a0g_17 a0g_18 a0g_19 a0g_20 a0g_21 a0g_22 a0g_23 a0g_24 a0g_25 a0g_26 a0g_27 a0g_28 a0g_29 a0g_30 a0g_31 a0g_32 a0g_33 (Value.ref a0_34) a0g_35 a0g_36 a0g_37 a0g_38 a0g_39 a0_15 ka0_15 fa0_15 bj34l4_l (Int.le_trans u34z_j34l4 zq192) bfa0_15) (cwV 1 hts gX8_lawFor_X8_numberOf rfl rfl rfl zd_X8_numberOf ⟨Nat.le_of_ble_eq_true rfl, Nat.le_of_ble_eq_true rfl⟩) ⟨ax_blind (fun _ _ _ _ _ => trivial), zr_8 hKc (zp_P2 hP) (q0 := 0) rfl, ax_pre (zp_P2 hP) hKc (zp_D2 hD) (fun _ _ => trivial)⟩ rfl rfl hl.1 rfl (lv_room (Nat.le_of_ble_eq_true rfl)) dX8_lawFor_54 ⟨Nat.le_of_ble_eq_true rfl, Nat.le_of_ble_eq_true rfl⟩) hS (fun q _ h => zp_F2 hD hS hA q h) (zp_F2 hD hS hA) (fun r54 u t H locs ht hvm hw hB hz1 hk1 hS1 => zo2 hB ht hP hD hk1 (zp_F2 hD hS hA) hS1 (fun hP hK1 hD hS => ?_))
                have hw : (0 : Int) ≤ r54.toInt ∧ r54.toInt ≤ (72888 : Int) := hw
                obtain ⟨h54_0, h54_1⟩ := hw
                exact W.iret (v := r54) hx hb hr (fun t ht hW => ⟨⟨r54, (), rfl, ⟨(Int.le_trans zq69 h54_0), h54_1⟩, v1na0_0, v1na0_11, v38nfa0_34, by rw [ht]; exact hP, va_K.moved hW.alike hK, hD⟩, hS.F ht⟩) hS.2.2 dX8_lawFor_57
              · have gc42 := ai_ne c42
                obtain ⟨x45, ex45⟩ : ∃ y : Int32, y = j34l4 + Int32.ofInt 1 := ⟨_, rfl⟩
                have qx45 : x45.toInt = j34l4.toInt + 1 := ai_inc ex45 (by decide) (by decide) u34z_j34l4 (by decide)
                have bx45 : (1 : Int) ≤ x45.toInt ∧ x45.toInt ≤ 81 := ⟨by rw [qx45]; exact Int.add_le_add bj34l4_l (Int.le_refl _), by rw [qx45]; exact Int.add_le_add u34z_j34l4 (Int.le_refl _)⟩
                refine lv_iinc (v := x45) (lv' := [(4, .int x45), (0, .ref a0), (1, .int a1), (2, .int a2)]) hx hb dX8_lawFor_45 hl (k := 3) rfl ex45.symm (by decide) rfl (fun ls hl => ?_)
                refine lv_goto (tgt := 34) hx hb dX8_lawFor_48 (by decide) ?_
                exact (hK0 _ _ _).mp (ih34 x45 v38nfa0_34 _ _ _ (by have h0 := qx45; omega) (Int.le_trans zq4 bx45.1) (Int.le_trans bx45.2 zq193) (lf_s lf34 mr38 c42 l7k0_a1 h7.2.2 qx45) hP hD hS (lv_sub hl [1, 2, 3, 0] rfl))
        exact (hK0 _ _ _).mp (J34 99 0 fa0_34 _ _ _ (by have h1 : (0 : Int) ≤ (0 : Int32).toInt := zq5; have h2 : (0 : Int32).toInt ≤ (0 : Int) := zq6; omega) zq5 (Int.le_trans zq6 zq194) (lf_0 l7k0_a1 (Int.le_trans (by decide) (bfa0_15.1 0 (Nat.le_refl 0) (Nat.le_refl 0)).1)) hP hD hS (lv_sub hl [2, 3, 4, 0] rfl))
    · obtain ⟨hw, h14⟩ := hw
      subst hw
      refine va_calli (va_runV (As := [.int 1, .int 0]) (rest := []) ⟨hx, hb, hml, hown, hts⟩ (c_X8_whyB l dC dI H.size a0 1 0 (Value.int v1na0_0) a0g_1 a0g_2 a0g_3 a0g_4 a0g_5 a0g_6 a0g_7 a0g_8 a0g_9 a0g_10 (Value.int v1na0_11) a0g_12 a0g_13 (Value.int a0_14) (Value.ref a0_15) a0g_16 a0g_17 a0g_18 a0g_19 a0g_20 a0g_21 a0g_22 a0g_23 a0g_24 a0g_25 a0g_26 a0g_27 a0g_28 a0g_29 a0g_30 a0g_31 a0g_32 a0g_33 (Value.ref a0_34) a0g_35 a0g_36 a0g_37 a0g_38 a0g_39 (Int.le_trans zq4 zq1) zq0 zq5 (Int.le_trans zq6 zq4)) (cwV 2 hts gX8_lawFor_X8_why rfl rfl rfl zd_X8_why ⟨Nat.le_of_ble_eq_true rfl, Nat.le_of_ble_eq_true rfl⟩) ⟨ax_blind (fun _ _ _ _ _ => trivial), zr_8 (zp_K hK) (zp_P1 hP) (q0 := 0) rfl, ax_pre (zp_P1 hP) (zp_K hK) (zp_D1 hD) (fun _ _ => trivial)⟩ rfl rfl hl.1 rfl (lv_room (Nat.le_of_ble_eq_true rfl)) dX8_lawFor_17 ⟨Nat.le_of_ble_eq_true rfl, Nat.le_of_ble_eq_true rfl⟩) hS (fun q _ h => zp_F1 hD hS hA q h) (zp_F1 hD hS hA) (fun r17 u t H locs ht hvm hw hB hz1 hk1 hS1 => zo1 hB ht hP hD hk1 (zp_F1 hD hS hA) hS1 (fun hP hK1 hD hS => ?_))
      rcases hw with hw | hw | hw
      · obtain ⟨hw, h17_0, h17_1, h17_2, h17_3⟩ := hw
        subst hw
        refine lv_istore_n (lv' := [(3, .int 2), (0, .ref a0), (1, .int a1), (2, .int a2)]) hx hb dX8_lawFor_20 rfl hl (by decide) rfl (fun ls hl => ?_)
        refine lv_iload_n hx hb dX8_lawFor_21 rfl (lv_at hl 0 rfl) ?_
        refine lv_if_eq (tgt := 31) hx hb dX8_lawFor_22 (by decide) (fun c22 => absurd c22 (by decide +kernel)) (fun _ => ?_)
        refine lv_aload_n hx hb dX8_lawFor_25 rfl (lv_at hl 1 rfl) ?_
        refine lv_iload_n hx hb dX8_lawFor_26 rfl (lv_at hl 0 rfl) ?_
        refine va_calli (va_runV (As := [.int 2]) (rest := []) ⟨hx, hb, hml, hown, hts⟩ (c_X8_no l dC dI H.size a0 2 (Value.int v1na0_0) a0g_1 a0g_2 a0g_3 a0g_4 a0g_5 a0g_6 a0g_7 a0g_8 a0g_9 a0g_10 a0g_12 a0g_13 (Value.int a0_14) (Value.ref a0_15) a0g_16 a0g_17 a0g_18 a0g_19 a0g_20 a0g_21 a0g_22 a0g_23 a0g_24 a0g_25 a0g_26 a0g_27 a0g_28 a0g_29 a0g_30 a0g_31 a0g_32 a0g_33 (Value.ref a0_34) a0g_35 a0g_36 a0g_37 a0g_38 a0g_39 v1na0_11 ) (cwV 1 hts gX8_lawFor_X8_no rfl rfl rfl zd_X8_no ⟨Nat.le_of_ble_eq_true rfl, Nat.le_of_ble_eq_true rfl⟩) ⟨ax_blind (fun _ _ _ _ _ => trivial), zr_8 (zp_K hK) (zp_P1 hP) (q0 := 0) rfl, ax_pre (zp_P1 hP) (zp_K hK) (zp_D1 hD) (fun _ _ => trivial)⟩ rfl rfl hl.1 rfl (lv_room (Nat.le_of_ble_eq_true rfl)) dX8_lawFor_27 ⟨Nat.le_of_ble_eq_true rfl, Nat.le_of_ble_eq_true rfl⟩) hS (fun q _ h => zp_F1 hD hS hA q h) (zp_F1 hD hS hA) (fun r27 u t H locs ht hvm hw hB hz1 hk1 hS1 => zx_1 hB (fun v27na0_11 hB => zo1 hB ht hP hD hk1 (zp_F1 hD hS hA) hS1 (fun hP hK1 hD hS => ?_)))
        have hw : r27 = (-1) := hw
        have hw := hw.symm
        subst hw
        exact W.iret (v := (-1)) hx hb hr (fun t ht hW => ⟨⟨(-1), (), rfl, ⟨zq70, (Int.le_trans zq71 zq184)⟩, v1na0_0, v27na0_11, fa0_34, by rw [ht]; exact hP, va_K.moved hW.alike hK, hD⟩, hS.F ht⟩) hS.2.2 dX8_lawFor_30
      · obtain ⟨hw, h17_0, h17_1⟩ := hw
        subst hw
        exact absurd h17_1 (by decide)
      · obtain ⟨hw, h17_0, h17_1, h17_2, h17_3⟩ := hw
        subst hw
        exact absurd h17_2 (by decide)
  · subst hw
    refine lv_iload_n hx hb dX8_lawFor_10 rfl (lv_at hl 2 rfl) ?_
    refine lv_iconst (v := 0) hx hb dX8_lawFor_11 zk_iconst_0 ?_
    refine lv_bipush (v := 99) hx hb dX8_lawFor_12 zk_bipush_99 ?_
    refine va_calli (va_runS (As := [.int a2, .int 0, .int 99]) (rest := [.int 0, .ref a0]) ⟨hx, hb, hml, hown, hts⟩ (c_X8_in l dC dI H.size a2 0 99 ) (va_cwS 3 hts gX8_lawFor_X8_in rfl rfl rfl zd_X8_in.2 ⟨Nat.le_of_ble_eq_true rfl, Nat.le_of_ble_eq_true rfl⟩) ⟨ax_blind (fun _ _ _ _ _ => trivial), ax_pre (zp_P0 hP) (zp_K hK) (zp_D0 hD) (fun _ _ => trivial)⟩ rfl rfl hl.1 rfl (lv_room (Nat.le_of_ble_eq_true rfl)) dX8_lawFor_14 ⟨Nat.le_of_ble_eq_true rfl, Nat.le_of_ble_eq_true rfl⟩) hS (fun q _ h => zp_F0 hD hS hA q h) (zp_F0 hD hS hA) (fun r14 u t H locs ht hvm hw hB hz1 hk1 hS1 => zo0 hB ht hP hD hk1 (zp_F0 hD hS hA) hS1 (fun hP hK1 hD hS => ?_))
    rcases hw with hw | hw
    · obtain ⟨hw, h14⟩ := hw
      subst hw
      have l14k0_a2 : (0 : Int) ≤ a2.toInt := Int.le_trans zq5 h14.1
      have u14k0_a2 : a2.toInt ≤ (99 : Int) := Int.le_trans h14.2 zq43
      refine va_calli (va_runV (As := [.int 0, .int 1]) (rest := []) ⟨hx, hb, hml, hown, hts⟩ (c_X8_whyB l dC dI H.size a0 0 1 (Value.int v1na0_0) a0g_1 a0g_2 a0g_3 a0g_4 a0g_5 a0g_6 a0g_7 a0g_8 a0g_9 a0g_10 (Value.int v1na0_11) a0g_12 a0g_13 (Value.int a0_14) (Value.ref a0_15) a0g_16 a0g_17 a0g_18 a0g_19 a0g_20 a0g_21 a0g_22 a0g_23 a0g_24 a0g_25 a0g_26 a0g_27 a0g_28 a0g_29 a0g_30 a0g_31 a0g_32 a0g_33 (Value.ref a0_34) a0g_35 a0g_36 a0g_37 a0g_38 a0g_39 zq5 (Int.le_trans zq6 zq4) (Int.le_trans zq4 zq1) zq0) (cwV 2 hts gX8_lawFor_X8_why rfl rfl rfl zd_X8_why ⟨Nat.le_of_ble_eq_true rfl, Nat.le_of_ble_eq_true rfl⟩) ⟨ax_blind (fun _ _ _ _ _ => trivial), zr_8 (zp_K hK) (zp_P1 hP) (q0 := 0) rfl, ax_pre (zp_P1 hP) (zp_K hK) (zp_D1 hD) (fun _ _ => trivial)⟩ rfl rfl hl.1 rfl (lv_room (Nat.le_of_ble_eq_true rfl)) dX8_lawFor_17 ⟨Nat.le_of_ble_eq_true rfl, Nat.le_of_ble_eq_true rfl⟩) hS (fun q _ h => zp_F1 hD hS hA q h) (zp_F1 hD hS hA) (fun r17 u t H locs ht hvm hw hB hz1 hk1 hS1 => zo1 hB ht hP hD hk1 (zp_F1 hD hS hA) hS1 (fun hP hK1 hD hS => ?_))
      rcases hw with hw | hw | hw
      · obtain ⟨hw, h17_0, h17_1, h17_2, h17_3⟩ := hw
        subst hw
        exact absurd h17_0 (by decide)
      · obtain ⟨hw, h17_0, h17_1⟩ := hw
        subst hw
        refine lv_istore_n (lv' := [(3, .int 1), (0, .ref a0), (1, .int a1), (2, .int a2)]) hx hb dX8_lawFor_20 rfl hl (by decide) rfl (fun ls hl => ?_)
        refine lv_iload_n hx hb dX8_lawFor_21 rfl (lv_at hl 0 rfl) ?_
        refine lv_if_eq (tgt := 31) hx hb dX8_lawFor_22 (by decide) (fun c22 => absurd c22 (by decide +kernel)) (fun _ => ?_)
        refine lv_aload_n hx hb dX8_lawFor_25 rfl (lv_at hl 1 rfl) ?_
        refine lv_iload_n hx hb dX8_lawFor_26 rfl (lv_at hl 0 rfl) ?_
        refine va_calli (va_runV (As := [.int 1]) (rest := []) ⟨hx, hb, hml, hown, hts⟩ (c_X8_no l dC dI H.size a0 1 (Value.int v1na0_0) a0g_1 a0g_2 a0g_3 a0g_4 a0g_5 a0g_6 a0g_7 a0g_8 a0g_9 a0g_10 a0g_12 a0g_13 (Value.int a0_14) (Value.ref a0_15) a0g_16 a0g_17 a0g_18 a0g_19 a0g_20 a0g_21 a0g_22 a0g_23 a0g_24 a0g_25 a0g_26 a0g_27 a0g_28 a0g_29 a0g_30 a0g_31 a0g_32 a0g_33 (Value.ref a0_34) a0g_35 a0g_36 a0g_37 a0g_38 a0g_39 v1na0_11 ) (cwV 1 hts gX8_lawFor_X8_no rfl rfl rfl zd_X8_no ⟨Nat.le_of_ble_eq_true rfl, Nat.le_of_ble_eq_true rfl⟩) ⟨ax_blind (fun _ _ _ _ _ => trivial), zr_8 (zp_K hK) (zp_P1 hP) (q0 := 0) rfl, ax_pre (zp_P1 hP) (zp_K hK) (zp_D1 hD) (fun _ _ => trivial)⟩ rfl rfl hl.1 rfl (lv_room (Nat.le_of_ble_eq_true rfl)) dX8_lawFor_27 ⟨Nat.le_of_ble_eq_true rfl, Nat.le_of_ble_eq_true rfl⟩) hS (fun q _ h => zp_F1 hD hS hA q h) (zp_F1 hD hS hA) (fun r27 u t H locs ht hvm hw hB hz1 hk1 hS1 => zx_1 hB (fun v27na0_11 hB => zo1 hB ht hP hD hk1 (zp_F1 hD hS hA) hS1 (fun hP hK1 hD hS => ?_)))
        have hw : r27 = (-1) := hw
        have hw := hw.symm
        subst hw
        exact W.iret (v := (-1)) hx hb hr (fun t ht hW => ⟨⟨(-1), (), rfl, ⟨zq70, (Int.le_trans zq71 zq184)⟩, v1na0_0, v27na0_11, fa0_34, by rw [ht]; exact hP, va_K.moved hW.alike hK, hD⟩, hS.F ht⟩) hS.2.2 dX8_lawFor_30
      · obtain ⟨hw, h17_0, h17_1, h17_2, h17_3⟩ := hw
        subst hw
        exact absurd h17_0 (by decide)
    · obtain ⟨hw, h14⟩ := hw
      subst hw
      refine va_calli (va_runV (As := [.int 0, .int 0]) (rest := []) ⟨hx, hb, hml, hown, hts⟩ (c_X8_whyB l dC dI H.size a0 0 0 (Value.int v1na0_0) a0g_1 a0g_2 a0g_3 a0g_4 a0g_5 a0g_6 a0g_7 a0g_8 a0g_9 a0g_10 (Value.int v1na0_11) a0g_12 a0g_13 (Value.int a0_14) (Value.ref a0_15) a0g_16 a0g_17 a0g_18 a0g_19 a0g_20 a0g_21 a0g_22 a0g_23 a0g_24 a0g_25 a0g_26 a0g_27 a0g_28 a0g_29 a0g_30 a0g_31 a0g_32 a0g_33 (Value.ref a0_34) a0g_35 a0g_36 a0g_37 a0g_38 a0g_39 zq5 (Int.le_trans zq6 zq4) zq5 (Int.le_trans zq6 zq4)) (cwV 2 hts gX8_lawFor_X8_why rfl rfl rfl zd_X8_why ⟨Nat.le_of_ble_eq_true rfl, Nat.le_of_ble_eq_true rfl⟩) ⟨ax_blind (fun _ _ _ _ _ => trivial), zr_8 (zp_K hK) (zp_P1 hP) (q0 := 0) rfl, ax_pre (zp_P1 hP) (zp_K hK) (zp_D1 hD) (fun _ _ => trivial)⟩ rfl rfl hl.1 rfl (lv_room (Nat.le_of_ble_eq_true rfl)) dX8_lawFor_17 ⟨Nat.le_of_ble_eq_true rfl, Nat.le_of_ble_eq_true rfl⟩) hS (fun q _ h => zp_F1 hD hS hA q h) (zp_F1 hD hS hA) (fun r17 u t H locs ht hvm hw hB hz1 hk1 hS1 => zo1 hB ht hP hD hk1 (zp_F1 hD hS hA) hS1 (fun hP hK1 hD hS => ?_))
      rcases hw with hw | hw | hw
      · obtain ⟨hw, h17_0, h17_1, h17_2, h17_3⟩ := hw
        subst hw
        exact absurd h17_0 (by decide)
      · obtain ⟨hw, h17_0, h17_1⟩ := hw
        subst hw
        refine lv_istore_n (lv' := [(3, .int 1), (0, .ref a0), (1, .int a1), (2, .int a2)]) hx hb dX8_lawFor_20 rfl hl (by decide) rfl (fun ls hl => ?_)
        refine lv_iload_n hx hb dX8_lawFor_21 rfl (lv_at hl 0 rfl) ?_
        refine lv_if_eq (tgt := 31) hx hb dX8_lawFor_22 (by decide) (fun c22 => absurd c22 (by decide +kernel)) (fun _ => ?_)
        refine lv_aload_n hx hb dX8_lawFor_25 rfl (lv_at hl 1 rfl) ?_
        refine lv_iload_n hx hb dX8_lawFor_26 rfl (lv_at hl 0 rfl) ?_
        refine va_calli (va_runV (As := [.int 1]) (rest := []) ⟨hx, hb, hml, hown, hts⟩ (c_X8_no l dC dI H.size a0 1 (Value.int v1na0_0) a0g_1 a0g_2 a0g_3 a0g_4 a0g_5 a0g_6 a0g_7 a0g_8 a0g_9 a0g_10 a0g_12 a0g_13 (Value.int a0_14) (Value.ref a0_15) a0g_16 a0g_17 a0g_18 a0g_19 a0g_20 a0g_21 a0g_22 a0g_23 a0g_24 a0g_25 a0g_26 a0g_27 a0g_28 a0g_29 a0g_30 a0g_31 a0g_32 a0g_33 (Value.ref a0_34) a0g_35 a0g_36 a0g_37 a0g_38 a0g_39 v1na0_11 ) (cwV 1 hts gX8_lawFor_X8_no rfl rfl rfl zd_X8_no ⟨Nat.le_of_ble_eq_true rfl, Nat.le_of_ble_eq_true rfl⟩) ⟨ax_blind (fun _ _ _ _ _ => trivial), zr_8 (zp_K hK) (zp_P1 hP) (q0 := 0) rfl, ax_pre (zp_P1 hP) (zp_K hK) (zp_D1 hD) (fun _ _ => trivial)⟩ rfl rfl hl.1 rfl (lv_room (Nat.le_of_ble_eq_true rfl)) dX8_lawFor_27 ⟨Nat.le_of_ble_eq_true rfl, Nat.le_of_ble_eq_true rfl⟩) hS (fun q _ h => zp_F1 hD hS hA q h) (zp_F1 hD hS hA) (fun r27 u t H locs ht hvm hw hB hz1 hk1 hS1 => zx_1 hB (fun v27na0_11 hB => zo1 hB ht hP hD hk1 (zp_F1 hD hS hA) hS1 (fun hP hK1 hD hS => ?_)))
        have hw : r27 = (-1) := hw
        have hw := hw.symm
        subst hw
        exact W.iret (v := (-1)) hx hb hr (fun t ht hW => ⟨⟨(-1), (), rfl, ⟨zq70, (Int.le_trans zq71 zq184)⟩, v1na0_0, v27na0_11, fa0_34, by rw [ht]; exact hP, va_K.moved hW.alike hK, hD⟩, hS.F ht⟩) hS.2.2 dX8_lawFor_30
      · obtain ⟨hw, h17_0, h17_1, h17_2, h17_3⟩ := hw
        subst hw
        exact absurd h17_0 (by decide)
end P250_03_safe
section P260_00_safe
set_option maxHeartbeats 4000000 in
set_option maxRecDepth 100000 in
theorem c_X8_bestFromW (l : Launch) (dC : Nat → ClassId) (dI : Nat → Nat → Nat) (sz : Nat) (a0 : Nat) (a1 : Int32) (a2 : Int32) (a3 : Int32) (a0g_0 a0g_1 a0g_2 a0g_3 a0g_4 a0g_5 a0g_6 a0g_7 a0g_8 a0g_9 a0g_10 a0g_11 a0g_12 a0g_13 a0g_14 a0g_16 a0g_17 a0g_18 a0g_19 a0g_20 a0g_21 a0g_22 a0g_23 a0g_24 a0g_25 a0g_26 a0g_27 a0g_28 a0g_29 a0g_30 a0g_31 a0g_34 a0g_35 a0g_36 a0g_37 a0g_38 a0g_39 : Value) (a0_15 : Nat) (a0_32 : Nat) (a0_33 : Nat) (ka0_15 : ClassId) (fa0_15 : Nat → Int32) (ka0_33 : ClassId) (fa0_33 : Nat → Int32) (ka0_32 : ClassId) (fa0_32 : Nat → Int32) (ba1_l : (0 : Int) ≤ a1.toInt) (ba1_u : a1.toInt ≤ (59 : Int)) (ba2_l : (0 : Int) ≤ a2.toInt) (ba2_u : a2.toInt ≤ (8 : Int)) (ba3_l : (1 : Int) ≤ a3.toInt) (ba3_u : a3.toInt ≤ (1 : Int)) (bfa0_15 : ((∀ k : Nat, 0 ≤ k → k ≤ 0 → (2 : Int) ≤ (fa0_15 k).toInt ∧ (fa0_15 k).toInt ≤ 9) ∧ (∀ k : Nat, 1 ≤ k → k ≤ 1 → (1 : Int) ≤ (fa0_15 k).toInt ∧ (fa0_15 k).toInt ≤ 20) ∧ (∀ k : Nat, 2 ≤ k → k ≤ 2 → (0 : Int) ≤ (fa0_15 k).toInt ∧ (fa0_15 k).toInt ≤ 8) ∧ (∀ k : Nat, 3 ≤ k → k ≤ 3 → (0 : Int) ≤ (fa0_15 k).toInt ∧ (fa0_15 k).toInt ≤ 100) ∧ (∀ k : Nat, 4 ≤ k → k ≤ 4 → (0 : Int) ≤ (fa0_15 k).toInt ∧ (fa0_15 k).toInt ≤ 9) ∧ (∀ k : Nat, 5 ≤ k → k ≤ 5 → (0 : Int) ≤ (fa0_15 k).toInt ∧ (fa0_15 k).toInt ≤ 3) ∧ (∀ k : Nat, 6 ≤ k → k ≤ 6 → (0 : Int) ≤ (fa0_15 k).toInt ∧ (fa0_15 k).toInt ≤ 6) ∧ (∀ k : Nat, 7 ≤ k → k ≤ 9 → (0 : Int) ≤ (fa0_15 k).toInt ∧ (fa0_15 k).toInt ≤ 8) ∧ (∀ k : Nat, 12 ≤ k → k ≤ 29 → (0 : Int) ≤ (fa0_15 k).toInt ∧ (fa0_15 k).toInt ≤ 20) ∧ (∀ k : Nat, 30 ≤ k → k ≤ 35 → (0 : Int) ≤ (fa0_15 k).toInt ∧ (fa0_15 k).toInt ≤ 8) ∧ (∀ k : Nat, 36 ≤ k → k ≤ 47 → (0 : Int) ≤ (fa0_15 k).toInt ∧ (fa0_15 k).toInt ≤ 999))) : zm l yX8_bestFrom wsX8_bestFrom ({ frames := 1, cells := 0, slots := 0, locals := 22 }) [.ref a0, .int a1, .int a2, .int a3] dC dI sz [(a0, .inr (8, [a0g_0, a0g_1, a0g_2, a0g_3, a0g_4, a0g_5, a0g_6, a0g_7, a0g_8, a0g_9, a0g_10, a0g_11, a0g_12, a0g_13, a0g_14, Value.ref a0_15, a0g_16, a0g_17, a0g_18, a0g_19, a0g_20, a0g_21, a0g_22, a0g_23, a0g_24, a0g_25, a0g_26, a0g_27, a0g_28, a0g_29, a0g_30, a0g_31, Value.ref a0_32, Value.ref a0_33, a0g_34, a0g_35, a0g_36, a0g_37, a0g_38, a0g_39])), (a0_15, .inl (ka0_15, 156, .inl (fa0_15))), (a0_33, .inl (ka0_33, 620, .inl (fa0_33))), (a0_32, .inl (ka0_32, 61, .inl (fa0_32)))] [(ka0_15, .int), (ka0_33, .int), (ka0_32, .int)] (fun A _ => True) (fun A => va_Qi (fun (r : Int32) (_ : Unit) => (0 : Int) ≤ r.toInt ∧ r.toInt ≤ (8 : Int)) (fun (_ : Unit) (t : State) => ax_B dC dI A [(a0, .inr (8, [a0g_0, a0g_1, a0g_2, a0g_3, a0g_4, a0g_5, a0g_6, a0g_7, a0g_8, a0g_9, a0g_10, a0g_11, a0g_12, a0g_13, a0g_14, Value.ref a0_15, a0g_16, a0g_17, a0g_18, a0g_19, a0g_20, a0g_21, a0g_22, a0g_23, a0g_24, a0g_25, a0g_26, a0g_27, a0g_28, a0g_29, a0g_30, a0g_31, Value.ref a0_32, Value.ref a0_33, a0g_34, a0g_35, a0g_36, a0g_37, a0g_38, a0g_39])), (a0_15, .inl (ka0_15, 156, .inl (fa0_15))), (a0_33, .inl (ka0_33, 620, .inl (fa0_33))), (a0_32, .inl (ka0_32, 61, .inl (fa0_32)))] [(ka0_15, .int), (ka0_33, .int), (ka0_32, .int)] t) A) := by
  refine zh (cc := cX8_bestFrom) (maxL := 9) (ret := (some .int)) zn_RX8 rfl (Nat.le_of_ble_eq_true rfl) (fun p e s m below meth c A ls hx hb hml hr hts (hown : s.vm.findClass RX8 = some m.cls) hlocks hA hS hP hK hD hE (hl : lv_has ls 9 [(0, .ref a0), (1, .int a1), (2, .int a2), (3, .int a3)]) => ?_)
  refine ai_open (fun K hK0 => ?_)
  refine (hK0 _ _ _).mpr ?_
  refine lv_iconst (v := (-1)) hx hb dX8_bestFrom_0 zk_iconst_n1 ?_
  refine lv_istore (lv' := [(4, .int (-1)), (0, .ref a0), (1, .int a1), (2, .int a2), (3, .int a3)]) hx hb dX8_bestFrom_1 hl (by decide) rfl (fun ls hl => ?_)
  refine lv_iload_n hx hb dX8_bestFrom_3 rfl (lv_at hl 3 rfl) ?_
  refine lv_istore (lv' := [(5, .int a2), (4, .int (-1)), (0, .ref a0), (1, .int a1), (2, .int a2), (3, .int a3)]) hx hb dX8_bestFrom_4 hl (by decide) rfl (fun ls hl => ?_)
  refine lv_iconst (v := 0) hx hb dX8_bestFrom_6 zk_iconst_0 ?_
  refine lv_istore (lv' := [(6, .int 0), (5, .int a2), (4, .int (-1)), (0, .ref a0), (1, .int a1), (2, .int a2), (3, .int a3)]) hx hb dX8_bestFrom_7 hl (by decide) rfl (fun ls hl => ?_)
  have J9 : ∀ (n : Nat) (j9l6 : Int32) (j9l5 : Int32) (j9l4 : Int32) (H : Heap) (locs : List Loc) (ls : Array Slot), (4 : Int) - j9l6.toInt ≤ (n : Int) → (0 : Int) ≤ j9l6.toInt → j9l6.toInt ≤ (3 : Int) → (0 : Int) ≤ j9l5.toInt → j9l5.toInt ≤ (8 : Int) → (-1 : Int) ≤ j9l4.toInt → va_P (dC, dI) vwCl [(a0, .inr (8, [a0g_0, a0g_1, a0g_2, a0g_3, a0g_4, a0g_5, a0g_6, a0g_7, a0g_8, a0g_9, a0g_10, a0g_11, a0g_12, a0g_13, a0g_14, Value.ref a0_15, a0g_16, a0g_17, a0g_18, a0g_19, a0g_20, a0g_21, a0g_22, a0g_23, a0g_24, a0g_25, a0g_26, a0g_27, a0g_28, a0g_29, a0g_30, a0g_31, Value.ref a0_32, Value.ref a0_33, a0g_34, a0g_35, a0g_36, a0g_37, a0g_38, a0g_39])), (a0_15, .inl (ka0_15, 156, .inl (fa0_15))), (a0_33, .inl (ka0_33, 620, .inl (fa0_33))), (a0_32, .inl (ka0_32, 61, .inl (fa0_32)))] H → va_D A [(a0, .inr (8, [a0g_0, a0g_1, a0g_2, a0g_3, a0g_4, a0g_5, a0g_6, a0g_7, a0g_8, a0g_9, a0g_10, a0g_11, a0g_12, a0g_13, a0g_14, Value.ref a0_15, a0g_16, a0g_17, a0g_18, a0g_19, a0g_20, a0g_21, a0g_22, a0g_23, a0g_24, a0g_25, a0g_26, a0g_27, a0g_28, a0g_29, a0g_30, a0g_31, Value.ref a0_32, Value.ref a0_33, a0g_34, a0g_35, a0g_36, a0g_37, a0g_38, a0g_39])), (a0_15, .inl (ka0_15, 156, .inl (fa0_15))), (a0_33, .inl (ka0_33, 620, .inl (fa0_33))), (a0_32, .inl (ka0_32, 61, .inl (fa0_32)))] → va_S A s.heap H locs → lv_has ls 9 [(0, .ref a0), (1, .int a1), (2, .int a2), (3, .int a3), (4, .int j9l4), (5, .int j9l5), (6, .int j9l6)] → K H locs (F0 m 9 ls []) := by
    intro n
    induction n with
    | zero =>
      intro j9l6 j9l5 j9l4 H locs ls hm bj9l6_l bj9l6_u bj9l5_l bj9l5_u bj9l4_l hP hD hS hl
      have h8 := ai_min j9l6
      have h9 := ai_max j9l6
      exact absurd hm (by omega)
    | succ n ih9 =>
      intro j9l6 j9l5 j9l4 H locs ls hm bj9l6_l bj9l6_u bj9l5_l bj9l5_u bj9l4_l hP hD hS hl
      refine (hK0 _ _ _).mpr ?_
      have hm9 := hm
      refine lv_iload hx hb dX8_bestFrom_9 (lv_at hl 6 rfl) ?_
      refine lv_iconst (v := 3) hx hb dX8_bestFrom_11 zk_iconst_3 ?_
      refine lv_icmp_ge (tgt := 120) hx hb dX8_bestFrom_12 (by decide) (fun c12 => ?_) (fun c12 => ?_)
      · have gc12 := ai_le c12
        have l12t_j9l6 : (3 : Int) ≤ j9l6.toInt := Int.le_trans zq8 gc12
        refine lv_iload_n hx hb dX8_bestFrom_120 rfl (lv_at hl 3 rfl) ?_
        refine lv_if_eq (tgt := 129) hx hb dX8_bestFrom_121 (by decide) (fun c121 => ?_) (fun c121 => ?_)
        · have gc121 := ai_eq c121
          have u121t_a3 : a3.toInt ≤ (0 : Int) := Int.le_trans (Int.le_of_eq gc121) zq6
          have l121t_a3 : (1 : Int) ≤ a3.toInt := ba3_l
          exact absurd (Int.le_trans l121t_a3 u121t_a3) (by decide)
        · have gc121 := ai_ne c121
          refine lv_iload hx hb dX8_bestFrom_124 (lv_at hl 5 rfl) ?_
          refine lv_goto (tgt := 131) hx hb dX8_bestFrom_126 (by decide) ?_
          exact W.iret (v := j9l5) hx hb hr (fun t ht hW => ⟨⟨j9l5, (), rfl, ⟨bj9l5_l, bj9l5_u⟩, by rw [ht]; exact hP, va_K.moved hW.alike hK, hD⟩, hS.F ht⟩) hS.2.2 dX8_bestFrom_131
      · have gc12 := ai_nle c12
        have u12f_j9l6 : j9l6.toInt ≤ (2 : Int) := ai_lthi gc12 zq9
        refine lv_iload hx hb dX8_bestFrom_15 (lv_at hl 6 rfl) ?_
        have J39 : ∀ (j39s0 : Int32) (H : Heap) (locs : List Loc) (ls : Array Slot), (-1 : Int) ≤ j39s0.toInt → j39s0.toInt ≤ (9 : Int) → va_P (dC, dI) vwCl [(a0, .inr (8, [a0g_0, a0g_1, a0g_2, a0g_3, a0g_4, a0g_5, a0g_6, a0g_7, a0g_8, a0g_9, a0g_10, a0g_11, a0g_12, a0g_13, a0g_14, Value.ref a0_15, a0g_16, a0g_17, a0g_18, a0g_19, a0g_20, a0g_21, a0g_22, a0g_23, a0g_24, a0g_25, a0g_26, a0g_27, a0g_28, a0g_29, a0g_30, a0g_31, Value.ref a0_32, Value.ref a0_33, a0g_34, a0g_35, a0g_36, a0g_37, a0g_38, a0g_39])), (a0_15, .inl (ka0_15, 156, .inl (fa0_15))), (a0_33, .inl (ka0_33, 620, .inl (fa0_33))), (a0_32, .inl (ka0_32, 61, .inl (fa0_32)))] H → va_D A [(a0, .inr (8, [a0g_0, a0g_1, a0g_2, a0g_3, a0g_4, a0g_5, a0g_6, a0g_7, a0g_8, a0g_9, a0g_10, a0g_11, a0g_12, a0g_13, a0g_14, Value.ref a0_15, a0g_16, a0g_17, a0g_18, a0g_19, a0g_20, a0g_21, a0g_22, a0g_23, a0g_24, a0g_25, a0g_26, a0g_27, a0g_28, a0g_29, a0g_30, a0g_31, Value.ref a0_32, Value.ref a0_33, a0g_34, a0g_35, a0g_36, a0g_37, a0g_38, a0g_39])), (a0_15, .inl (ka0_15, 156, .inl (fa0_15))), (a0_33, .inl (ka0_33, 620, .inl (fa0_33))), (a0_32, .inl (ka0_32, 61, .inl (fa0_32)))] → va_S A s.heap H locs → lv_has ls 9 [(0, .ref a0), (1, .int a1), (2, .int a2), (3, .int a3), (4, .int j9l4), (5, .int j9l5), (6, .int j9l6)] → K H locs (F0 m 39 ls [.int j39s0]) := by
          intro j39s0 H locs ls  bj39s0_l bj39s0_u hP hD hS hl
          refine (hK0 _ _ _).mpr ?_
          refine lv_istore (lv' := [(7, .int j39s0), (0, .ref a0), (1, .int a1), (2, .int a2), (3, .int a3), (4, .int j9l4), (5, .int j9l5), (6, .int j9l6)]) hx hb dX8_bestFrom_39 hl (by decide) rfl (fun ls hl => ?_)
          refine lv_iload hx hb dX8_bestFrom_41 (lv_at hl 0 rfl) ?_
          refine lv_iconst (v := 0) hx hb dX8_bestFrom_43 zk_iconst_0 ?_
          refine lv_aload_n hx hb dX8_bestFrom_44 rfl (lv_at hl 1 rfl) ?_
          refine va_get (D := (dC, dI)) (ci := 8) (v := .ref a0_15) (C := RX8) (T := TX8) (N := 40) hx hb hts zi_X8_bestFrom_8 hown hK hP 0 rfl rfl 15 (by decide) (hts (.fieldLink RX8 20 "WaxTurnsModel" "\x72" "[I") (List.mem_cons_of_mem _ (List.mem_append_left _ (List.mem_of_getElem? (i := 0) rfl)))) (fun _ h9 => h9) rfl dX8_bestFrom_45 ?_
          refine lv_iconst (v := 0) hx hb dX8_bestFrom_48 zk_iconst_0 ?_
          refine va_iald hx hb hK hP 1 0 rfl rfl (by unfold vp_in; decide +kernel) dX8_bestFrom_49 ?_
          refine lv_topi (fun x49 ex49 => ?_)
          have bx49 : (2 : Int) ≤ x49.toInt ∧ x49.toInt ≤ 9 := by rw [ex49]; exact ai_rd bfa0_15.1 zq5 zq6 (by decide) (by decide) (by decide)
          refine lv_iconst (v := 1) hx hb dX8_bestFrom_50 zk_iconst_1 ?_
          refine lv_isub hx hb dX8_bestFrom_51 ?_
          refine lv_topi (fun x51 ex51 => ?_)
          have qx51 : x51.toInt = x49.toInt - (1 : Int32).toInt := ai_sub ex51 ⟨bx49.1, bx49.2⟩ ⟨zq1, zq0⟩ (by decide) (by decide)
          have bx51 : (1 : Int) ≤ x51.toInt ∧ x51.toInt ≤ 8 := ⟨by rw [qx51]; exact Int.sub_le_sub bx49.1 zq0, by rw [qx51]; exact Int.sub_le_sub bx49.2 zq1⟩
          have wx51 : x51.toInt = x49.toInt - 1 := qx51
          refine va_calli (va_runS (As := [.int j39s0, .int 0, .int x51]) (rest := []) ⟨hx, hb, hml, hown, hts⟩ (c_X8_in l dC dI H.size j39s0 0 x51 ) (va_cwS 3 hts gX8_bestFrom_X8_in rfl rfl rfl zd_X8_in.2 ⟨Nat.le_of_ble_eq_true rfl, Nat.le_of_ble_eq_true rfl⟩) ⟨ax_blind (fun _ _ _ _ _ => trivial), ax_pre (zp_P0 hP) (zp_K hK) (zp_D0 hD) (fun _ _ => trivial)⟩ rfl rfl hl.1 rfl (lv_room (Nat.le_of_ble_eq_true rfl)) dX8_bestFrom_52 ⟨Nat.le_of_ble_eq_true rfl, Nat.le_of_ble_eq_true rfl⟩) hS (fun q _ h => zp_F0 hD hS hA q h) (zp_F0 hD hS hA) (fun r52 u t H locs ht hvm hw hB hz1 hk1 hS1 => zo0 hB ht hP hD hk1 (zp_F0 hD hS hA) hS1 (fun hP hK1 hD hS => ?_))
          rcases hw with hw | hw
          · obtain ⟨hw, h52⟩ := hw
            subst hw
            have l52k0_j39s0 : (0 : Int) ≤ j39s0.toInt := Int.le_trans zq5 h52.1
            have u52k0_j39s0 : j39s0.toInt ≤ (8 : Int) := Int.le_trans h52.2 bx51.2
            have l52k0_x51 : (1 : Int) ≤ x51.toInt := bx51.1
            refine lv_if_ne (tgt := 61) hx hb dX8_bestFrom_55 (by decide) (fun _ => ?_) (fun c55 => absurd c55 (by decide +kernel))
            have J114 : ∀ (j114l4 : Int32) (j114l5 : Int32) (H : Heap) (locs : List Loc) (ls : Array Slot), (-1 : Int) ≤ j114l4.toInt → (0 : Int) ≤ j114l5.toInt → j114l5.toInt ≤ (8 : Int) → va_P (dC, dI) vwCl [(a0, .inr (8, [a0g_0, a0g_1, a0g_2, a0g_3, a0g_4, a0g_5, a0g_6, a0g_7, a0g_8, a0g_9, a0g_10, a0g_11, a0g_12, a0g_13, a0g_14, Value.ref a0_15, a0g_16, a0g_17, a0g_18, a0g_19, a0g_20, a0g_21, a0g_22, a0g_23, a0g_24, a0g_25, a0g_26, a0g_27, a0g_28, a0g_29, a0g_30, a0g_31, Value.ref a0_32, Value.ref a0_33, a0g_34, a0g_35, a0g_36, a0g_37, a0g_38, a0g_39])), (a0_15, .inl (ka0_15, 156, .inl (fa0_15))), (a0_33, .inl (ka0_33, 620, .inl (fa0_33))), (a0_32, .inl (ka0_32, 61, .inl (fa0_32)))] H → va_D A [(a0, .inr (8, [a0g_0, a0g_1, a0g_2, a0g_3, a0g_4, a0g_5, a0g_6, a0g_7, a0g_8, a0g_9, a0g_10, a0g_11, a0g_12, a0g_13, a0g_14, Value.ref a0_15, a0g_16, a0g_17, a0g_18, a0g_19, a0g_20, a0g_21, a0g_22, a0g_23, a0g_24, a0g_25, a0g_26, a0g_27, a0g_28, a0g_29, a0g_30, a0g_31, Value.ref a0_32, Value.ref a0_33, a0g_34, a0g_35, a0g_36, a0g_37, a0g_38, a0g_39])), (a0_15, .inl (ka0_15, 156, .inl (fa0_15))), (a0_33, .inl (ka0_33, 620, .inl (fa0_33))), (a0_32, .inl (ka0_32, 61, .inl (fa0_32)))] → va_S A s.heap H locs → lv_has ls 9 [(0, .ref a0), (1, .int a1), (2, .int a2), (3, .int a3), (4, .int j114l4), (5, .int j114l5), (6, .int j9l6)] → K H locs (F0 m 114 ls []) := by
              intro j114l4 j114l5 H locs ls  bj114l4_l bj114l5_l bj114l5_u hP hD hS hl
              refine (hK0 _ _ _).mpr ?_
              obtain ⟨x114, ex114⟩ : ∃ y : Int32, y = j9l6 + Int32.ofInt 1 := ⟨_, rfl⟩
              have qx114 : x114.toInt = j9l6.toInt + 1 := ai_inc ex114 (by decide) (by decide) u12f_j9l6 (by decide)
              have bx114 : (1 : Int) ≤ x114.toInt ∧ x114.toInt ≤ 3 := ⟨by rw [qx114]; exact Int.add_le_add bj9l6_l (Int.le_refl _), by rw [qx114]; exact Int.add_le_add u12f_j9l6 (Int.le_refl _)⟩
              refine lv_iinc (v := x114) (lv' := [(6, .int x114), (0, .ref a0), (1, .int a1), (2, .int a2), (3, .int a3), (4, .int j114l4), (5, .int j114l5)]) hx hb dX8_bestFrom_114 hl (k := 6) rfl ex114.symm (by decide) rfl (fun ls hl => ?_)
              refine lv_goto (tgt := 9) hx hb dX8_bestFrom_117 (by decide) ?_
              exact (hK0 _ _ _).mp (ih9 x114 j114l5 j114l4 _ _ _ (by have h0 := qx114; omega) (Int.le_trans zq4 bx114.1) bx114.2 bj114l5_l bj114l5_u bj114l4_l hP hD hS (lv_sub hl [1, 2, 3, 4, 5, 6, 0] rfl))
            refine lv_aload_n hx hb dX8_bestFrom_61 rfl (lv_at hl 1 rfl) ?_
            refine va_get (D := (dC, dI)) (ci := 8) (v := .ref a0_33) (C := RX8) (T := TX8) (N := 40) hx hb hts zi_X8_bestFrom_8 hown hK hP 0 rfl rfl 33 (by decide) (hts (.fieldLink RX8 50 "WaxTurnsModel" "with" "[I") (List.mem_cons_of_mem _ (List.mem_append_left _ (List.mem_of_getElem? (i := 1) rfl)))) (fun _ h9 => h9) rfl dX8_bestFrom_62 ?_
            refine lv_bipush (v := 10) hx hb dX8_bestFrom_65 zk_bipush_10 ?_
            refine lv_iload_n hx hb dX8_bestFrom_67 rfl (lv_at hl 2 rfl) ?_
            refine lv_iconst (v := 1) hx hb dX8_bestFrom_68 zk_iconst_1 ?_
            refine lv_iadd hx hb dX8_bestFrom_69 ?_
            refine lv_topi (fun x69 ex69 => ?_)
            have qx69 : x69.toInt = a1.toInt + (1 : Int32).toInt := ai_add ex69 ⟨ba1_l, ba1_u⟩ ⟨zq1, zq0⟩ (by decide) (by decide)
            have bx69 : (1 : Int) ≤ x69.toInt ∧ x69.toInt ≤ 60 := ⟨by rw [qx69]; exact Int.add_le_add ba1_l zq1, by rw [qx69]; exact Int.add_le_add ba1_u zq0⟩
            have wx69 : x69.toInt = a1.toInt + 1 := qx69
            refine lv_imul hx hb dX8_bestFrom_70 ?_
            refine lv_topi (fun x70 ex70 => ?_)
            have qx70 : x70.toInt = (10 : Int32).toInt * x69.toInt ∧ (10 : Int) ≤ x70.toInt ∧ x70.toInt ≤ 600 := ai_mul ex70 ⟨zq26, zq27⟩ ⟨bx69.1, bx69.2⟩ (by decide) (by decide) zq195
            have wx70 : x70.toInt = 10 * x69.toInt := qx70.1
            refine lv_iload hx hb dX8_bestFrom_71 (lv_at hl 0 rfl) ?_
            refine lv_iadd hx hb dX8_bestFrom_73 ?_
            refine lv_topi (fun x73 ex73 => ?_)
            have qx73 : x73.toInt = x70.toInt + j39s0.toInt := ai_add ex73 ⟨qx70.2.1, qx70.2.2⟩ ⟨l52k0_j39s0, u52k0_j39s0⟩ (by decide) (by decide)
            have bx73 : (10 : Int) ≤ x73.toInt ∧ x73.toInt ≤ 608 := ⟨by rw [qx73]; exact Int.add_le_add qx70.2.1 l52k0_j39s0, by rw [qx73]; exact Int.add_le_add qx70.2.2 u52k0_j39s0⟩
            refine va_iald hx hb hK hP 2 1 rfl rfl (ai_in bx73.1 bx73.2 (by decide) (by decide)) dX8_bestFrom_74 ?_
            refine lv_topi (fun x74 ex74 => ?_)
            refine lv_aload_n hx hb dX8_bestFrom_75 rfl (lv_at hl 1 rfl) ?_
            refine va_get (D := (dC, dI)) (ci := 8) (v := .ref a0_32) (C := RX8) (T := TX8) (N := 40) hx hb hts zi_X8_bestFrom_8 hown hK hP 0 rfl rfl 32 (by decide) (hts (.fieldLink RX8 47 "WaxTurnsModel" "liveAt" "[I") (List.mem_cons_of_mem _ (List.mem_append_left _ (List.mem_of_getElem? (i := 2) rfl)))) (fun _ h9 => h9) rfl dX8_bestFrom_76 ?_
            refine lv_iload_n hx hb dX8_bestFrom_79 rfl (lv_at hl 2 rfl) ?_
            refine lv_iconst (v := 1) hx hb dX8_bestFrom_80 zk_iconst_1 ?_
            refine lv_iadd hx hb dX8_bestFrom_81 ?_
            refine ax_ti x69 ex69.symm ?_
            refine va_iald hx hb hK hP 3 2 rfl rfl (ai_in bx69.1 bx69.2 (by decide) (by decide)) dX8_bestFrom_82 ?_
            refine lv_topi (fun x82 ex82 => ?_)
            refine lv_iload hx hb dX8_bestFrom_83 (lv_at hl 0 rfl) ?_
            have J93 : ∀ (j93s0 : Int32) (H : Heap) (locs : List Loc) (ls : Array Slot), (0 : Int) ≤ j93s0.toInt → j93s0.toInt ≤ (1 : Int) → va_P (dC, dI) vwCl [(a0, .inr (8, [a0g_0, a0g_1, a0g_2, a0g_3, a0g_4, a0g_5, a0g_6, a0g_7, a0g_8, a0g_9, a0g_10, a0g_11, a0g_12, a0g_13, a0g_14, Value.ref a0_15, a0g_16, a0g_17, a0g_18, a0g_19, a0g_20, a0g_21, a0g_22, a0g_23, a0g_24, a0g_25, a0g_26, a0g_27, a0g_28, a0g_29, a0g_30, a0g_31, Value.ref a0_32, Value.ref a0_33, a0g_34, a0g_35, a0g_36, a0g_37, a0g_38, a0g_39])), (a0_15, .inl (ka0_15, 156, .inl (fa0_15))), (a0_33, .inl (ka0_33, 620, .inl (fa0_33))), (a0_32, .inl (ka0_32, 61, .inl (fa0_32)))] H → va_D A [(a0, .inr (8, [a0g_0, a0g_1, a0g_2, a0g_3, a0g_4, a0g_5, a0g_6, a0g_7, a0g_8, a0g_9, a0g_10, a0g_11, a0g_12, a0g_13, a0g_14, Value.ref a0_15, a0g_16, a0g_17, a0g_18, a0g_19, a0g_20, a0g_21, a0g_22, a0g_23, a0g_24, a0g_25, a0g_26, a0g_27, a0g_28, a0g_29, a0g_30, a0g_31, Value.ref a0_32, Value.ref a0_33, a0g_34, a0g_35, a0g_36, a0g_37, a0g_38, a0g_39])), (a0_15, .inl (ka0_15, 156, .inl (fa0_15))), (a0_33, .inl (ka0_33, 620, .inl (fa0_33))), (a0_32, .inl (ka0_32, 61, .inl (fa0_32)))] → va_S A s.heap H locs → lv_has ls 9 [(0, .ref a0), (1, .int a1), (2, .int a2), (3, .int a3), (4, .int j9l4), (5, .int j9l5), (6, .int j9l6), (7, .int j39s0)] → K H locs (F0 m 93 ls [.int j93s0, .int x74]) := by
              intro j93s0 H locs ls  bj93s0_l bj93s0_u hP hD hS hl
              refine (hK0 _ _ _).mpr ?_
              refine lv_iadd hx hb dX8_bestFrom_93 ?_
              refine lv_topi (fun x93 ex93 => ?_)
              refine lv_istore (lv' := [(8, .int x93), (0, .ref a0), (1, .int a1), (2, .int a2), (3, .int a3), (4, .int j9l4), (5, .int j9l5), (6, .int j9l6), (7, .int j39s0)]) hx hb dX8_bestFrom_94 hl (by decide) rfl (fun ls hl => ?_)
              refine lv_iload hx hb dX8_bestFrom_96 (lv_at hl 0 rfl) ?_
              refine lv_iload hx hb dX8_bestFrom_98 (lv_at hl 5 rfl) ?_
              refine lv_icmp_gt (tgt := 106) hx hb dX8_bestFrom_100 (by decide) (fun c100 => ?_) (fun c100 => ?_)
              · have gc100 := ai_lt c100
                have u100t_j9l4 : j9l4.toInt ≤ (2147483646 : Int) := ai_lthi gc100 (ai_max x93)
                have l100t_x93 : (0 : Int) ≤ x93.toInt := ai_ltlo gc100 bj9l4_l
                refine lv_iload hx hb dX8_bestFrom_106 (lv_at hl 0 rfl) ?_
                refine lv_istore (lv' := [(4, .int x93), (8, .int x93), (0, .ref a0), (1, .int a1), (2, .int a2), (3, .int a3), (5, .int j9l5), (6, .int j9l6), (7, .int j39s0)]) hx hb dX8_bestFrom_108 hl (by decide) rfl (fun ls hl => ?_)
                refine lv_iload hx hb dX8_bestFrom_110 (lv_at hl 8 rfl) ?_
                refine lv_istore (lv' := [(5, .int j39s0), (4, .int x93), (8, .int x93), (0, .ref a0), (1, .int a1), (2, .int a2), (3, .int a3), (6, .int j9l6), (7, .int j39s0)]) hx hb dX8_bestFrom_112 hl (by decide) rfl (fun ls hl => ?_)
                exact (hK0 _ _ _).mp (J114 x93 j39s0 _ _ _  (Int.le_trans zq69 l100t_x93) l52k0_j39s0 u52k0_j39s0 hP hD hS (lv_sub hl [3, 4, 5, 6, 1, 0, 7] rfl))
              · have gc100 := ai_nlt c100
                refine lv_goto (tgt := 114) hx hb dX8_bestFrom_103 (by decide) ?_
                exact (hK0 _ _ _).mp (J114 j9l4 j9l5 _ _ _  bj9l4_l bj9l5_l bj9l5_u hP hD hS (lv_sub hl [1, 2, 3, 4, 5, 6, 7] rfl))
            refine lv_icmp_ne (tgt := 92) hx hb dX8_bestFrom_85 (by decide) (fun c85 => ?_) (fun c85 => ?_)
            · have gc85 := ai_ne c85
              refine lv_iconst (v := 0) hx hb dX8_bestFrom_92 zk_iconst_0 ?_
              exact (hK0 _ _ _).mp (J93 0 _ _ _  zq5 (Int.le_trans zq6 zq4) hP hD hS (lv_sub hl [1, 2, 3, 4, 5, 6, 7, 0] rfl))
            · have gc85 := ai_eq c85
              have u85f_x82 : x82.toInt ≤ (8 : Int) := Int.le_trans (Int.le_of_eq gc85) u52k0_j39s0
              have l85f_x82 : (0 : Int) ≤ x82.toInt := Int.le_trans l52k0_j39s0 (Int.le_of_eq gc85.symm)
              refine lv_iconst (v := 1) hx hb dX8_bestFrom_88 zk_iconst_1 ?_
              refine lv_goto (tgt := 93) hx hb dX8_bestFrom_89 (by decide) ?_
              exact (hK0 _ _ _).mp (J93 1 _ _ _  (Int.le_trans zq4 zq1) zq0 hP hD hS (lv_sub hl [1, 2, 3, 4, 5, 6, 7, 0] rfl))
          · obtain ⟨hw, h52⟩ := hw
            subst hw
            refine lv_if_ne (tgt := 61) hx hb dX8_bestFrom_55 (by decide) (fun c55 => absurd (by decide +kernel) c55) (fun _ => ?_)
            have J114 : ∀ (j114l4 : Int32) (j114l5 : Int32) (H : Heap) (locs : List Loc) (ls : Array Slot), (-1 : Int) ≤ j114l4.toInt → (0 : Int) ≤ j114l5.toInt → j114l5.toInt ≤ (8 : Int) → va_P (dC, dI) vwCl [(a0, .inr (8, [a0g_0, a0g_1, a0g_2, a0g_3, a0g_4, a0g_5, a0g_6, a0g_7, a0g_8, a0g_9, a0g_10, a0g_11, a0g_12, a0g_13, a0g_14, Value.ref a0_15, a0g_16, a0g_17, a0g_18, a0g_19, a0g_20, a0g_21, a0g_22, a0g_23, a0g_24, a0g_25, a0g_26, a0g_27, a0g_28, a0g_29, a0g_30, a0g_31, Value.ref a0_32, Value.ref a0_33, a0g_34, a0g_35, a0g_36, a0g_37, a0g_38, a0g_39])), (a0_15, .inl (ka0_15, 156, .inl (fa0_15))), (a0_33, .inl (ka0_33, 620, .inl (fa0_33))), (a0_32, .inl (ka0_32, 61, .inl (fa0_32)))] H → va_D A [(a0, .inr (8, [a0g_0, a0g_1, a0g_2, a0g_3, a0g_4, a0g_5, a0g_6, a0g_7, a0g_8, a0g_9, a0g_10, a0g_11, a0g_12, a0g_13, a0g_14, Value.ref a0_15, a0g_16, a0g_17, a0g_18, a0g_19, a0g_20, a0g_21, a0g_22, a0g_23, a0g_24, a0g_25, a0g_26, a0g_27, a0g_28, a0g_29, a0g_30, a0g_31, Value.ref a0_32, Value.ref a0_33, a0g_34, a0g_35, a0g_36, a0g_37, a0g_38, a0g_39])), (a0_15, .inl (ka0_15, 156, .inl (fa0_15))), (a0_33, .inl (ka0_33, 620, .inl (fa0_33))), (a0_32, .inl (ka0_32, 61, .inl (fa0_32)))] → va_S A s.heap H locs → lv_has ls 9 [(0, .ref a0), (1, .int a1), (2, .int a2), (3, .int a3), (4, .int j114l4), (5, .int j114l5), (6, .int j9l6)] → K H locs (F0 m 114 ls []) := by
              intro j114l4 j114l5 H locs ls  bj114l4_l bj114l5_l bj114l5_u hP hD hS hl
              refine (hK0 _ _ _).mpr ?_
              obtain ⟨x114, ex114⟩ : ∃ y : Int32, y = j9l6 + Int32.ofInt 1 := ⟨_, rfl⟩
              have qx114 : x114.toInt = j9l6.toInt + 1 := ai_inc ex114 (by decide) (by decide) u12f_j9l6 (by decide)
              have bx114 : (1 : Int) ≤ x114.toInt ∧ x114.toInt ≤ 3 := ⟨by rw [qx114]; exact Int.add_le_add bj9l6_l (Int.le_refl _), by rw [qx114]; exact Int.add_le_add u12f_j9l6 (Int.le_refl _)⟩
              refine lv_iinc (v := x114) (lv' := [(6, .int x114), (0, .ref a0), (1, .int a1), (2, .int a2), (3, .int a3), (4, .int j114l4), (5, .int j114l5)]) hx hb dX8_bestFrom_114 hl (k := 6) rfl ex114.symm (by decide) rfl (fun ls hl => ?_)
              refine lv_goto (tgt := 9) hx hb dX8_bestFrom_117 (by decide) ?_
              exact (hK0 _ _ _).mp (ih9 x114 j114l5 j114l4 _ _ _ (by have h0 := qx114; omega) (Int.le_trans zq4 bx114.1) bx114.2 bj114l5_l bj114l5_u bj114l4_l hP hD hS (lv_sub hl [1, 2, 3, 4, 5, 6, 0] rfl))
            refine lv_goto (tgt := 114) hx hb dX8_bestFrom_58 (by decide) ?_
            exact (hK0 _ _ _).mp (J114 j9l4 j9l5 _ _ _  bj9l4_l bj9l5_l bj9l5_u hP hD hS (lv_sub hl [1, 2, 3, 4, 5, 6, 7] rfl))
        refine lv_if_ne (tgt := 24) hx hb dX8_bestFrom_17 (by decide) (fun c17 => ?_) (fun c17 => ?_)
        · have gc17 := ai_ne c17
          have l17t_j9l6 : (1 : Int) ≤ j9l6.toInt := (by have h1 := bj9l6_l; have h2 : (0 : Int32).toInt = 0 := (by decide); rw [h2] at gc17; omega)
          refine lv_iload hx hb dX8_bestFrom_24 (lv_at hl 6 rfl) ?_
          refine lv_iconst (v := 1) hx hb dX8_bestFrom_26 zk_iconst_1 ?_
          refine lv_icmp_ne (tgt := 36) hx hb dX8_bestFrom_27 (by decide) (fun c27 => ?_) (fun c27 => ?_)
          · have gc27 := ai_ne c27
            have l27t_j9l6 : (2 : Int) ≤ j9l6.toInt := (by have h1 := l17t_j9l6; have h2 : (1 : Int32).toInt = 1 := (by decide); rw [h2] at gc27; omega)
            refine lv_iload_n hx hb dX8_bestFrom_36 rfl (lv_at hl 2 rfl) ?_
            refine lv_iconst (v := 1) hx hb dX8_bestFrom_37 zk_iconst_1 ?_
            refine lv_iadd hx hb dX8_bestFrom_38 ?_
            refine lv_topi (fun x38 ex38 => ?_)
            have qx38 : x38.toInt = a2.toInt + (1 : Int32).toInt := ai_add ex38 ⟨ba2_l, ba2_u⟩ ⟨zq1, zq0⟩ (by decide) (by decide)
            have bx38 : (1 : Int) ≤ x38.toInt ∧ x38.toInt ≤ 9 := ⟨by rw [qx38]; exact Int.add_le_add ba2_l zq1, by rw [qx38]; exact Int.add_le_add ba2_u zq0⟩
            have wx38 : x38.toInt = a2.toInt + 1 := qx38
            exact (hK0 _ _ _).mp (J39 x38 _ _ _  (Int.le_trans zq78 bx38.1) bx38.2 hP hD hS (lv_sub hl [0, 1, 2, 3, 4, 5, 6] rfl))
          · have gc27 := ai_eq c27
            have u27f_j9l6 : j9l6.toInt ≤ (1 : Int) := Int.le_trans (Int.le_of_eq gc27) zq0
            have l27f_j9l6 : (1 : Int) ≤ j9l6.toInt := l17t_j9l6
            refine lv_iload_n hx hb dX8_bestFrom_30 rfl (lv_at hl 2 rfl) ?_
            refine lv_iconst (v := 1) hx hb dX8_bestFrom_31 zk_iconst_1 ?_
            refine lv_isub hx hb dX8_bestFrom_32 ?_
            refine lv_topi (fun x32 ex32 => ?_)
            have qx32 : x32.toInt = a2.toInt - (1 : Int32).toInt := ai_sub ex32 ⟨ba2_l, ba2_u⟩ ⟨zq1, zq0⟩ (by decide) (by decide)
            have bx32 : (-1 : Int) ≤ x32.toInt ∧ x32.toInt ≤ 7 := ⟨by rw [qx32]; exact Int.sub_le_sub ba2_l zq0, by rw [qx32]; exact Int.sub_le_sub ba2_u zq1⟩
            have wx32 : x32.toInt = a2.toInt - 1 := qx32
            refine lv_goto (tgt := 39) hx hb dX8_bestFrom_33 (by decide) ?_
            exact (hK0 _ _ _).mp (J39 x32 _ _ _  bx32.1 (Int.le_trans bx32.2 zq196) hP hD hS (lv_sub hl [0, 1, 2, 3, 4, 5, 6] rfl))
        · have gc17 := ai_eq c17
          have u17f_j9l6 : j9l6.toInt ≤ (0 : Int) := Int.le_trans (Int.le_of_eq gc17) zq6
          have l17f_j9l6 : (0 : Int) ≤ j9l6.toInt := bj9l6_l
          refine lv_iload_n hx hb dX8_bestFrom_20 rfl (lv_at hl 2 rfl) ?_
          refine lv_goto (tgt := 39) hx hb dX8_bestFrom_21 (by decide) ?_
          exact (hK0 _ _ _).mp (J39 a2 _ _ _  (Int.le_trans zq69 ba2_l) (Int.le_trans ba2_u zq22) hP hD hS (lv_sub hl [0, 1, 2, 3, 4, 5, 6] rfl))
  exact (hK0 _ _ _).mp (J9 4 0 a2 (-1) _ _ _ (by have h1 : (0 : Int) ≤ (0 : Int32).toInt := zq5; have h2 : (0 : Int32).toInt ≤ (0 : Int) := zq6; omega) zq5 (Int.le_trans zq6 zq11) ba2_l ba2_u zq70 hP hD hS (lv_sub hl [3, 4, 5, 6, 2, 1, 0] rfl))

set_option maxHeartbeats 4000000 in
set_option maxRecDepth 100000 in
theorem c_X8_bestFromN (l : Launch) (dC : Nat → ClassId) (dI : Nat → Nat → Nat) (sz : Nat) (a0 : Nat) (a1 : Int32) (a2 : Int32) (a3 : Int32) (a0g_0 a0g_1 a0g_2 a0g_3 a0g_4 a0g_5 a0g_6 a0g_7 a0g_8 a0g_9 a0g_10 a0g_11 a0g_12 a0g_13 a0g_14 a0g_16 a0g_17 a0g_18 a0g_19 a0g_20 a0g_21 a0g_22 a0g_23 a0g_24 a0g_25 a0g_26 a0g_27 a0g_28 a0g_29 a0g_30 a0g_31 a0g_34 a0g_35 a0g_36 a0g_37 a0g_38 a0g_39 : Value) (a0_15 : Nat) (a0_32 : Nat) (a0_33 : Nat) (ka0_15 : ClassId) (fa0_15 : Nat → Int32) (ka0_33 : ClassId) (fa0_33 : Nat → Int32) (ka0_32 : ClassId) (fa0_32 : Nat → Int32) (ba1_l : (0 : Int) ≤ a1.toInt) (ba1_u : a1.toInt ≤ (59 : Int)) (ba2_l : (0 : Int) ≤ a2.toInt) (ba2_u : a2.toInt ≤ (8 : Int)) (ba3_l : (0 : Int) ≤ a3.toInt) (ba3_u : a3.toInt ≤ (0 : Int)) (bfa0_15 : ((∀ k : Nat, 0 ≤ k → k ≤ 0 → (2 : Int) ≤ (fa0_15 k).toInt ∧ (fa0_15 k).toInt ≤ 9) ∧ (∀ k : Nat, 1 ≤ k → k ≤ 1 → (1 : Int) ≤ (fa0_15 k).toInt ∧ (fa0_15 k).toInt ≤ 20) ∧ (∀ k : Nat, 2 ≤ k → k ≤ 2 → (0 : Int) ≤ (fa0_15 k).toInt ∧ (fa0_15 k).toInt ≤ 8) ∧ (∀ k : Nat, 3 ≤ k → k ≤ 3 → (0 : Int) ≤ (fa0_15 k).toInt ∧ (fa0_15 k).toInt ≤ 100) ∧ (∀ k : Nat, 4 ≤ k → k ≤ 4 → (0 : Int) ≤ (fa0_15 k).toInt ∧ (fa0_15 k).toInt ≤ 9) ∧ (∀ k : Nat, 5 ≤ k → k ≤ 5 → (0 : Int) ≤ (fa0_15 k).toInt ∧ (fa0_15 k).toInt ≤ 3) ∧ (∀ k : Nat, 6 ≤ k → k ≤ 6 → (0 : Int) ≤ (fa0_15 k).toInt ∧ (fa0_15 k).toInt ≤ 6) ∧ (∀ k : Nat, 7 ≤ k → k ≤ 9 → (0 : Int) ≤ (fa0_15 k).toInt ∧ (fa0_15 k).toInt ≤ 8) ∧ (∀ k : Nat, 12 ≤ k → k ≤ 29 → (0 : Int) ≤ (fa0_15 k).toInt ∧ (fa0_15 k).toInt ≤ 20) ∧ (∀ k : Nat, 30 ≤ k → k ≤ 35 → (0 : Int) ≤ (fa0_15 k).toInt ∧ (fa0_15 k).toInt ≤ 8) ∧ (∀ k : Nat, 36 ≤ k → k ≤ 47 → (0 : Int) ≤ (fa0_15 k).toInt ∧ (fa0_15 k).toInt ≤ 999))) : zm l yX8_bestFrom wsX8_bestFrom ({ frames := 1, cells := 0, slots := 0, locals := 22 }) [.ref a0, .int a1, .int a2, .int a3] dC dI sz [(a0, .inr (8, [a0g_0, a0g_1, a0g_2, a0g_3, a0g_4, a0g_5, a0g_6, a0g_7, a0g_8, a0g_9, a0g_10, a0g_11, a0g_12, a0g_13, a0g_14, Value.ref a0_15, a0g_16, a0g_17, a0g_18, a0g_19, a0g_20, a0g_21, a0g_22, a0g_23, a0g_24, a0g_25, a0g_26, a0g_27, a0g_28, a0g_29, a0g_30, a0g_31, Value.ref a0_32, Value.ref a0_33, a0g_34, a0g_35, a0g_36, a0g_37, a0g_38, a0g_39])), (a0_15, .inl (ka0_15, 156, .inl (fa0_15))), (a0_33, .inl (ka0_33, 620, .inl (fa0_33))), (a0_32, .inl (ka0_32, 61, .inl (fa0_32)))] [(ka0_15, .int), (ka0_33, .int), (ka0_32, .int)] (fun A _ => True) (fun A => va_Qi (fun (r : Int32) (_ : Unit) => (-1 : Int) ≤ r.toInt) (fun (_ : Unit) (t : State) => ax_B dC dI A [(a0, .inr (8, [a0g_0, a0g_1, a0g_2, a0g_3, a0g_4, a0g_5, a0g_6, a0g_7, a0g_8, a0g_9, a0g_10, a0g_11, a0g_12, a0g_13, a0g_14, Value.ref a0_15, a0g_16, a0g_17, a0g_18, a0g_19, a0g_20, a0g_21, a0g_22, a0g_23, a0g_24, a0g_25, a0g_26, a0g_27, a0g_28, a0g_29, a0g_30, a0g_31, Value.ref a0_32, Value.ref a0_33, a0g_34, a0g_35, a0g_36, a0g_37, a0g_38, a0g_39])), (a0_15, .inl (ka0_15, 156, .inl (fa0_15))), (a0_33, .inl (ka0_33, 620, .inl (fa0_33))), (a0_32, .inl (ka0_32, 61, .inl (fa0_32)))] [(ka0_15, .int), (ka0_33, .int), (ka0_32, .int)] t) A) := by
  refine zh (cc := cX8_bestFrom) (maxL := 9) (ret := (some .int)) zn_RX8 rfl (Nat.le_of_ble_eq_true rfl) (fun p e s m below meth c A ls hx hb hml hr hts (hown : s.vm.findClass RX8 = some m.cls) hlocks hA hS hP hK hD hE (hl : lv_has ls 9 [(0, .ref a0), (1, .int a1), (2, .int a2), (3, .int a3)]) => ?_)
  refine ai_open (fun K hK0 => ?_)
  refine (hK0 _ _ _).mpr ?_
  refine lv_iconst (v := (-1)) hx hb dX8_bestFrom_0 zk_iconst_n1 ?_
  refine lv_istore (lv' := [(4, .int (-1)), (0, .ref a0), (1, .int a1), (2, .int a2), (3, .int a3)]) hx hb dX8_bestFrom_1 hl (by decide) rfl (fun ls hl => ?_)
  refine lv_iload_n hx hb dX8_bestFrom_3 rfl (lv_at hl 3 rfl) ?_
  refine lv_istore (lv' := [(5, .int a2), (4, .int (-1)), (0, .ref a0), (1, .int a1), (2, .int a2), (3, .int a3)]) hx hb dX8_bestFrom_4 hl (by decide) rfl (fun ls hl => ?_)
  refine lv_iconst (v := 0) hx hb dX8_bestFrom_6 zk_iconst_0 ?_
  refine lv_istore (lv' := [(6, .int 0), (5, .int a2), (4, .int (-1)), (0, .ref a0), (1, .int a1), (2, .int a2), (3, .int a3)]) hx hb dX8_bestFrom_7 hl (by decide) rfl (fun ls hl => ?_)
  have J9 : ∀ (n : Nat) (j9l6 : Int32) (j9l5 : Int32) (j9l4 : Int32) (H : Heap) (locs : List Loc) (ls : Array Slot), (4 : Int) - j9l6.toInt ≤ (n : Int) → (0 : Int) ≤ j9l6.toInt → j9l6.toInt ≤ (3 : Int) → (0 : Int) ≤ j9l5.toInt → j9l5.toInt ≤ (8 : Int) → (-1 : Int) ≤ j9l4.toInt → va_P (dC, dI) vwCl [(a0, .inr (8, [a0g_0, a0g_1, a0g_2, a0g_3, a0g_4, a0g_5, a0g_6, a0g_7, a0g_8, a0g_9, a0g_10, a0g_11, a0g_12, a0g_13, a0g_14, Value.ref a0_15, a0g_16, a0g_17, a0g_18, a0g_19, a0g_20, a0g_21, a0g_22, a0g_23, a0g_24, a0g_25, a0g_26, a0g_27, a0g_28, a0g_29, a0g_30, a0g_31, Value.ref a0_32, Value.ref a0_33, a0g_34, a0g_35, a0g_36, a0g_37, a0g_38, a0g_39])), (a0_15, .inl (ka0_15, 156, .inl (fa0_15))), (a0_33, .inl (ka0_33, 620, .inl (fa0_33))), (a0_32, .inl (ka0_32, 61, .inl (fa0_32)))] H → va_D A [(a0, .inr (8, [a0g_0, a0g_1, a0g_2, a0g_3, a0g_4, a0g_5, a0g_6, a0g_7, a0g_8, a0g_9, a0g_10, a0g_11, a0g_12, a0g_13, a0g_14, Value.ref a0_15, a0g_16, a0g_17, a0g_18, a0g_19, a0g_20, a0g_21, a0g_22, a0g_23, a0g_24, a0g_25, a0g_26, a0g_27, a0g_28, a0g_29, a0g_30, a0g_31, Value.ref a0_32, Value.ref a0_33, a0g_34, a0g_35, a0g_36, a0g_37, a0g_38, a0g_39])), (a0_15, .inl (ka0_15, 156, .inl (fa0_15))), (a0_33, .inl (ka0_33, 620, .inl (fa0_33))), (a0_32, .inl (ka0_32, 61, .inl (fa0_32)))] → va_S A s.heap H locs → lv_has ls 9 [(0, .ref a0), (1, .int a1), (2, .int a2), (3, .int a3), (4, .int j9l4), (5, .int j9l5), (6, .int j9l6)] → K H locs (F0 m 9 ls []) := by
    intro n
    induction n with
    | zero =>
      intro j9l6 j9l5 j9l4 H locs ls hm bj9l6_l bj9l6_u bj9l5_l bj9l5_u bj9l4_l hP hD hS hl
      have h8 := ai_min j9l6
      have h9 := ai_max j9l6
      exact absurd hm (by omega)
    | succ n ih9 =>
      intro j9l6 j9l5 j9l4 H locs ls hm bj9l6_l bj9l6_u bj9l5_l bj9l5_u bj9l4_l hP hD hS hl
      refine (hK0 _ _ _).mpr ?_
      have hm9 := hm
      refine lv_iload hx hb dX8_bestFrom_9 (lv_at hl 6 rfl) ?_
      refine lv_iconst (v := 3) hx hb dX8_bestFrom_11 zk_iconst_3 ?_
      refine lv_icmp_ge (tgt := 120) hx hb dX8_bestFrom_12 (by decide) (fun c12 => ?_) (fun c12 => ?_)
      · have gc12 := ai_le c12
        have l12t_j9l6 : (3 : Int) ≤ j9l6.toInt := Int.le_trans zq8 gc12
        refine lv_iload_n hx hb dX8_bestFrom_120 rfl (lv_at hl 3 rfl) ?_
        refine lv_if_eq (tgt := 129) hx hb dX8_bestFrom_121 (by decide) (fun c121 => ?_) (fun c121 => ?_)
        · have gc121 := ai_eq c121
          have u121t_a3 : a3.toInt ≤ (0 : Int) := ba3_u
          have l121t_a3 : (0 : Int) ≤ a3.toInt := ba3_l
          refine lv_iload hx hb dX8_bestFrom_129 (lv_at hl 4 rfl) ?_
          exact W.iret (v := j9l4) hx hb hr (fun t ht hW => ⟨⟨j9l4, (), rfl, bj9l4_l, by rw [ht]; exact hP, va_K.moved hW.alike hK, hD⟩, hS.F ht⟩) hS.2.2 dX8_bestFrom_131
        · have gc121 := ai_ne c121
          have l121f_a3 : (1 : Int) ≤ a3.toInt := (by have h1 := ba3_l; have h2 : (0 : Int32).toInt = 0 := (by decide); rw [h2] at gc121; omega)
          have u121f_a3 : a3.toInt ≤ (-1 : Int) := (by have h1 := ba3_u; have h2 : (0 : Int32).toInt = 0 := (by decide); rw [h2] at gc121; omega)
          exact absurd (Int.le_trans l121f_a3 u121f_a3) (by decide)
      · have gc12 := ai_nle c12
        have u12f_j9l6 : j9l6.toInt ≤ (2 : Int) := ai_lthi gc12 zq9
        refine lv_iload hx hb dX8_bestFrom_15 (lv_at hl 6 rfl) ?_
        have J39 : ∀ (j39s0 : Int32) (H : Heap) (locs : List Loc) (ls : Array Slot), (-1 : Int) ≤ j39s0.toInt → j39s0.toInt ≤ (9 : Int) → va_P (dC, dI) vwCl [(a0, .inr (8, [a0g_0, a0g_1, a0g_2, a0g_3, a0g_4, a0g_5, a0g_6, a0g_7, a0g_8, a0g_9, a0g_10, a0g_11, a0g_12, a0g_13, a0g_14, Value.ref a0_15, a0g_16, a0g_17, a0g_18, a0g_19, a0g_20, a0g_21, a0g_22, a0g_23, a0g_24, a0g_25, a0g_26, a0g_27, a0g_28, a0g_29, a0g_30, a0g_31, Value.ref a0_32, Value.ref a0_33, a0g_34, a0g_35, a0g_36, a0g_37, a0g_38, a0g_39])), (a0_15, .inl (ka0_15, 156, .inl (fa0_15))), (a0_33, .inl (ka0_33, 620, .inl (fa0_33))), (a0_32, .inl (ka0_32, 61, .inl (fa0_32)))] H → va_D A [(a0, .inr (8, [a0g_0, a0g_1, a0g_2, a0g_3, a0g_4, a0g_5, a0g_6, a0g_7, a0g_8, a0g_9, a0g_10, a0g_11, a0g_12, a0g_13, a0g_14, Value.ref a0_15, a0g_16, a0g_17, a0g_18, a0g_19, a0g_20, a0g_21, a0g_22, a0g_23, a0g_24, a0g_25, a0g_26, a0g_27, a0g_28, a0g_29, a0g_30, a0g_31, Value.ref a0_32, Value.ref a0_33, a0g_34, a0g_35, a0g_36, a0g_37, a0g_38, a0g_39])), (a0_15, .inl (ka0_15, 156, .inl (fa0_15))), (a0_33, .inl (ka0_33, 620, .inl (fa0_33))), (a0_32, .inl (ka0_32, 61, .inl (fa0_32)))] → va_S A s.heap H locs → lv_has ls 9 [(0, .ref a0), (1, .int a1), (2, .int a2), (3, .int a3), (4, .int j9l4), (5, .int j9l5), (6, .int j9l6)] → K H locs (F0 m 39 ls [.int j39s0]) := by
          intro j39s0 H locs ls  bj39s0_l bj39s0_u hP hD hS hl
          refine (hK0 _ _ _).mpr ?_
          refine lv_istore (lv' := [(7, .int j39s0), (0, .ref a0), (1, .int a1), (2, .int a2), (3, .int a3), (4, .int j9l4), (5, .int j9l5), (6, .int j9l6)]) hx hb dX8_bestFrom_39 hl (by decide) rfl (fun ls hl => ?_)
          refine lv_iload hx hb dX8_bestFrom_41 (lv_at hl 0 rfl) ?_
          refine lv_iconst (v := 0) hx hb dX8_bestFrom_43 zk_iconst_0 ?_
          refine lv_aload_n hx hb dX8_bestFrom_44 rfl (lv_at hl 1 rfl) ?_
          refine va_get (D := (dC, dI)) (ci := 8) (v := .ref a0_15) (C := RX8) (T := TX8) (N := 40) hx hb hts zi_X8_bestFrom_8 hown hK hP 0 rfl rfl 15 (by decide) (hts (.fieldLink RX8 20 "WaxTurnsModel" "\x72" "[I") (List.mem_cons_of_mem _ (List.mem_append_left _ (List.mem_of_getElem? (i := 0) rfl)))) (fun _ h9 => h9) rfl dX8_bestFrom_45 ?_
          refine lv_iconst (v := 0) hx hb dX8_bestFrom_48 zk_iconst_0 ?_
          refine va_iald hx hb hK hP 1 0 rfl rfl (by unfold vp_in; decide +kernel) dX8_bestFrom_49 ?_
          refine lv_topi (fun x49 ex49 => ?_)
          have bx49 : (2 : Int) ≤ x49.toInt ∧ x49.toInt ≤ 9 := by rw [ex49]; exact ai_rd bfa0_15.1 zq5 zq6 (by decide) (by decide) (by decide)
          refine lv_iconst (v := 1) hx hb dX8_bestFrom_50 zk_iconst_1 ?_
          refine lv_isub hx hb dX8_bestFrom_51 ?_
          refine lv_topi (fun x51 ex51 => ?_)
          have qx51 : x51.toInt = x49.toInt - (1 : Int32).toInt := ai_sub ex51 ⟨bx49.1, bx49.2⟩ ⟨zq1, zq0⟩ (by decide) (by decide)
          have bx51 : (1 : Int) ≤ x51.toInt ∧ x51.toInt ≤ 8 := ⟨by rw [qx51]; exact Int.sub_le_sub bx49.1 zq0, by rw [qx51]; exact Int.sub_le_sub bx49.2 zq1⟩
          have wx51 : x51.toInt = x49.toInt - 1 := qx51
          refine va_calli (va_runS (As := [.int j39s0, .int 0, .int x51]) (rest := []) ⟨hx, hb, hml, hown, hts⟩ (c_X8_in l dC dI H.size j39s0 0 x51 ) (va_cwS 3 hts gX8_bestFrom_X8_in rfl rfl rfl zd_X8_in.2 ⟨Nat.le_of_ble_eq_true rfl, Nat.le_of_ble_eq_true rfl⟩) ⟨ax_blind (fun _ _ _ _ _ => trivial), ax_pre (zp_P0 hP) (zp_K hK) (zp_D0 hD) (fun _ _ => trivial)⟩ rfl rfl hl.1 rfl (lv_room (Nat.le_of_ble_eq_true rfl)) dX8_bestFrom_52 ⟨Nat.le_of_ble_eq_true rfl, Nat.le_of_ble_eq_true rfl⟩) hS (fun q _ h => zp_F0 hD hS hA q h) (zp_F0 hD hS hA) (fun r52 u t H locs ht hvm hw hB hz1 hk1 hS1 => zo0 hB ht hP hD hk1 (zp_F0 hD hS hA) hS1 (fun hP hK1 hD hS => ?_))
          rcases hw with hw | hw
          · obtain ⟨hw, h52⟩ := hw
            subst hw
            have l52k0_j39s0 : (0 : Int) ≤ j39s0.toInt := Int.le_trans zq5 h52.1
            have u52k0_j39s0 : j39s0.toInt ≤ (8 : Int) := Int.le_trans h52.2 bx51.2
            have l52k0_x51 : (1 : Int) ≤ x51.toInt := bx51.1
            refine lv_if_ne (tgt := 61) hx hb dX8_bestFrom_55 (by decide) (fun _ => ?_) (fun c55 => absurd c55 (by decide +kernel))
            have J114 : ∀ (j114l4 : Int32) (j114l5 : Int32) (H : Heap) (locs : List Loc) (ls : Array Slot), (-1 : Int) ≤ j114l4.toInt → (0 : Int) ≤ j114l5.toInt → j114l5.toInt ≤ (8 : Int) → va_P (dC, dI) vwCl [(a0, .inr (8, [a0g_0, a0g_1, a0g_2, a0g_3, a0g_4, a0g_5, a0g_6, a0g_7, a0g_8, a0g_9, a0g_10, a0g_11, a0g_12, a0g_13, a0g_14, Value.ref a0_15, a0g_16, a0g_17, a0g_18, a0g_19, a0g_20, a0g_21, a0g_22, a0g_23, a0g_24, a0g_25, a0g_26, a0g_27, a0g_28, a0g_29, a0g_30, a0g_31, Value.ref a0_32, Value.ref a0_33, a0g_34, a0g_35, a0g_36, a0g_37, a0g_38, a0g_39])), (a0_15, .inl (ka0_15, 156, .inl (fa0_15))), (a0_33, .inl (ka0_33, 620, .inl (fa0_33))), (a0_32, .inl (ka0_32, 61, .inl (fa0_32)))] H → va_D A [(a0, .inr (8, [a0g_0, a0g_1, a0g_2, a0g_3, a0g_4, a0g_5, a0g_6, a0g_7, a0g_8, a0g_9, a0g_10, a0g_11, a0g_12, a0g_13, a0g_14, Value.ref a0_15, a0g_16, a0g_17, a0g_18, a0g_19, a0g_20, a0g_21, a0g_22, a0g_23, a0g_24, a0g_25, a0g_26, a0g_27, a0g_28, a0g_29, a0g_30, a0g_31, Value.ref a0_32, Value.ref a0_33, a0g_34, a0g_35, a0g_36, a0g_37, a0g_38, a0g_39])), (a0_15, .inl (ka0_15, 156, .inl (fa0_15))), (a0_33, .inl (ka0_33, 620, .inl (fa0_33))), (a0_32, .inl (ka0_32, 61, .inl (fa0_32)))] → va_S A s.heap H locs → lv_has ls 9 [(0, .ref a0), (1, .int a1), (2, .int a2), (3, .int a3), (4, .int j114l4), (5, .int j114l5), (6, .int j9l6)] → K H locs (F0 m 114 ls []) := by
              intro j114l4 j114l5 H locs ls  bj114l4_l bj114l5_l bj114l5_u hP hD hS hl
              refine (hK0 _ _ _).mpr ?_
              obtain ⟨x114, ex114⟩ : ∃ y : Int32, y = j9l6 + Int32.ofInt 1 := ⟨_, rfl⟩
              have qx114 : x114.toInt = j9l6.toInt + 1 := ai_inc ex114 (by decide) (by decide) u12f_j9l6 (by decide)
              have bx114 : (1 : Int) ≤ x114.toInt ∧ x114.toInt ≤ 3 := ⟨by rw [qx114]; exact Int.add_le_add bj9l6_l (Int.le_refl _), by rw [qx114]; exact Int.add_le_add u12f_j9l6 (Int.le_refl _)⟩
              refine lv_iinc (v := x114) (lv' := [(6, .int x114), (0, .ref a0), (1, .int a1), (2, .int a2), (3, .int a3), (4, .int j114l4), (5, .int j114l5)]) hx hb dX8_bestFrom_114 hl (k := 6) rfl ex114.symm (by decide) rfl (fun ls hl => ?_)
              refine lv_goto (tgt := 9) hx hb dX8_bestFrom_117 (by decide) ?_
              exact (hK0 _ _ _).mp (ih9 x114 j114l5 j114l4 _ _ _ (by have h0 := qx114; omega) (Int.le_trans zq4 bx114.1) bx114.2 bj114l5_l bj114l5_u bj114l4_l hP hD hS (lv_sub hl [1, 2, 3, 4, 5, 6, 0] rfl))
            refine lv_aload_n hx hb dX8_bestFrom_61 rfl (lv_at hl 1 rfl) ?_
            refine va_get (D := (dC, dI)) (ci := 8) (v := .ref a0_33) (C := RX8) (T := TX8) (N := 40) hx hb hts zi_X8_bestFrom_8 hown hK hP 0 rfl rfl 33 (by decide) (hts (.fieldLink RX8 50 "WaxTurnsModel" "with" "[I") (List.mem_cons_of_mem _ (List.mem_append_left _ (List.mem_of_getElem? (i := 1) rfl)))) (fun _ h9 => h9) rfl dX8_bestFrom_62 ?_
            refine lv_bipush (v := 10) hx hb dX8_bestFrom_65 zk_bipush_10 ?_
            refine lv_iload_n hx hb dX8_bestFrom_67 rfl (lv_at hl 2 rfl) ?_
            refine lv_iconst (v := 1) hx hb dX8_bestFrom_68 zk_iconst_1 ?_
            refine lv_iadd hx hb dX8_bestFrom_69 ?_
            refine lv_topi (fun x69 ex69 => ?_)
            have qx69 : x69.toInt = a1.toInt + (1 : Int32).toInt := ai_add ex69 ⟨ba1_l, ba1_u⟩ ⟨zq1, zq0⟩ (by decide) (by decide)
            have bx69 : (1 : Int) ≤ x69.toInt ∧ x69.toInt ≤ 60 := ⟨by rw [qx69]; exact Int.add_le_add ba1_l zq1, by rw [qx69]; exact Int.add_le_add ba1_u zq0⟩
            have wx69 : x69.toInt = a1.toInt + 1 := qx69
            refine lv_imul hx hb dX8_bestFrom_70 ?_
            refine lv_topi (fun x70 ex70 => ?_)
            have qx70 : x70.toInt = (10 : Int32).toInt * x69.toInt ∧ (10 : Int) ≤ x70.toInt ∧ x70.toInt ≤ 600 := ai_mul ex70 ⟨zq26, zq27⟩ ⟨bx69.1, bx69.2⟩ (by decide) (by decide) zq195
            have wx70 : x70.toInt = 10 * x69.toInt := qx70.1
            refine lv_iload hx hb dX8_bestFrom_71 (lv_at hl 0 rfl) ?_
            refine lv_iadd hx hb dX8_bestFrom_73 ?_
            refine lv_topi (fun x73 ex73 => ?_)
            have qx73 : x73.toInt = x70.toInt + j39s0.toInt := ai_add ex73 ⟨qx70.2.1, qx70.2.2⟩ ⟨l52k0_j39s0, u52k0_j39s0⟩ (by decide) (by decide)
            have bx73 : (10 : Int) ≤ x73.toInt ∧ x73.toInt ≤ 608 := ⟨by rw [qx73]; exact Int.add_le_add qx70.2.1 l52k0_j39s0, by rw [qx73]; exact Int.add_le_add qx70.2.2 u52k0_j39s0⟩
            refine va_iald hx hb hK hP 2 1 rfl rfl (ai_in bx73.1 bx73.2 (by decide) (by decide)) dX8_bestFrom_74 ?_
            refine lv_topi (fun x74 ex74 => ?_)
            refine lv_aload_n hx hb dX8_bestFrom_75 rfl (lv_at hl 1 rfl) ?_
            refine va_get (D := (dC, dI)) (ci := 8) (v := .ref a0_32) (C := RX8) (T := TX8) (N := 40) hx hb hts zi_X8_bestFrom_8 hown hK hP 0 rfl rfl 32 (by decide) (hts (.fieldLink RX8 47 "WaxTurnsModel" "liveAt" "[I") (List.mem_cons_of_mem _ (List.mem_append_left _ (List.mem_of_getElem? (i := 2) rfl)))) (fun _ h9 => h9) rfl dX8_bestFrom_76 ?_
            refine lv_iload_n hx hb dX8_bestFrom_79 rfl (lv_at hl 2 rfl) ?_
            refine lv_iconst (v := 1) hx hb dX8_bestFrom_80 zk_iconst_1 ?_
            refine lv_iadd hx hb dX8_bestFrom_81 ?_
            refine ax_ti x69 ex69.symm ?_
            refine va_iald hx hb hK hP 3 2 rfl rfl (ai_in bx69.1 bx69.2 (by decide) (by decide)) dX8_bestFrom_82 ?_
            refine lv_topi (fun x82 ex82 => ?_)
            refine lv_iload hx hb dX8_bestFrom_83 (lv_at hl 0 rfl) ?_
            have J93 : ∀ (j93s0 : Int32) (H : Heap) (locs : List Loc) (ls : Array Slot), (0 : Int) ≤ j93s0.toInt → j93s0.toInt ≤ (1 : Int) → va_P (dC, dI) vwCl [(a0, .inr (8, [a0g_0, a0g_1, a0g_2, a0g_3, a0g_4, a0g_5, a0g_6, a0g_7, a0g_8, a0g_9, a0g_10, a0g_11, a0g_12, a0g_13, a0g_14, Value.ref a0_15, a0g_16, a0g_17, a0g_18, a0g_19, a0g_20, a0g_21, a0g_22, a0g_23, a0g_24, a0g_25, a0g_26, a0g_27, a0g_28, a0g_29, a0g_30, a0g_31, Value.ref a0_32, Value.ref a0_33, a0g_34, a0g_35, a0g_36, a0g_37, a0g_38, a0g_39])), (a0_15, .inl (ka0_15, 156, .inl (fa0_15))), (a0_33, .inl (ka0_33, 620, .inl (fa0_33))), (a0_32, .inl (ka0_32, 61, .inl (fa0_32)))] H → va_D A [(a0, .inr (8, [a0g_0, a0g_1, a0g_2, a0g_3, a0g_4, a0g_5, a0g_6, a0g_7, a0g_8, a0g_9, a0g_10, a0g_11, a0g_12, a0g_13, a0g_14, Value.ref a0_15, a0g_16, a0g_17, a0g_18, a0g_19, a0g_20, a0g_21, a0g_22, a0g_23, a0g_24, a0g_25, a0g_26, a0g_27, a0g_28, a0g_29, a0g_30, a0g_31, Value.ref a0_32, Value.ref a0_33, a0g_34, a0g_35, a0g_36, a0g_37, a0g_38, a0g_39])), (a0_15, .inl (ka0_15, 156, .inl (fa0_15))), (a0_33, .inl (ka0_33, 620, .inl (fa0_33))), (a0_32, .inl (ka0_32, 61, .inl (fa0_32)))] → va_S A s.heap H locs → lv_has ls 9 [(0, .ref a0), (1, .int a1), (2, .int a2), (3, .int a3), (4, .int j9l4), (5, .int j9l5), (6, .int j9l6), (7, .int j39s0)] → K H locs (F0 m 93 ls [.int j93s0, .int x74]) := by
              intro j93s0 H locs ls  bj93s0_l bj93s0_u hP hD hS hl
              refine (hK0 _ _ _).mpr ?_
              refine lv_iadd hx hb dX8_bestFrom_93 ?_
              refine lv_topi (fun x93 ex93 => ?_)
              refine lv_istore (lv' := [(8, .int x93), (0, .ref a0), (1, .int a1), (2, .int a2), (3, .int a3), (4, .int j9l4), (5, .int j9l5), (6, .int j9l6), (7, .int j39s0)]) hx hb dX8_bestFrom_94 hl (by decide) rfl (fun ls hl => ?_)
              refine lv_iload hx hb dX8_bestFrom_96 (lv_at hl 0 rfl) ?_
              refine lv_iload hx hb dX8_bestFrom_98 (lv_at hl 5 rfl) ?_
              refine lv_icmp_gt (tgt := 106) hx hb dX8_bestFrom_100 (by decide) (fun c100 => ?_) (fun c100 => ?_)
              · have gc100 := ai_lt c100
                have u100t_j9l4 : j9l4.toInt ≤ (2147483646 : Int) := ai_lthi gc100 (ai_max x93)
                have l100t_x93 : (0 : Int) ≤ x93.toInt := ai_ltlo gc100 bj9l4_l
                refine lv_iload hx hb dX8_bestFrom_106 (lv_at hl 0 rfl) ?_
                refine lv_istore (lv' := [(4, .int x93), (8, .int x93), (0, .ref a0), (1, .int a1), (2, .int a2), (3, .int a3), (5, .int j9l5), (6, .int j9l6), (7, .int j39s0)]) hx hb dX8_bestFrom_108 hl (by decide) rfl (fun ls hl => ?_)
                refine lv_iload hx hb dX8_bestFrom_110 (lv_at hl 8 rfl) ?_
                refine lv_istore (lv' := [(5, .int j39s0), (4, .int x93), (8, .int x93), (0, .ref a0), (1, .int a1), (2, .int a2), (3, .int a3), (6, .int j9l6), (7, .int j39s0)]) hx hb dX8_bestFrom_112 hl (by decide) rfl (fun ls hl => ?_)
                exact (hK0 _ _ _).mp (J114 x93 j39s0 _ _ _  (Int.le_trans zq69 l100t_x93) l52k0_j39s0 u52k0_j39s0 hP hD hS (lv_sub hl [3, 4, 5, 6, 1, 0, 7] rfl))
              · have gc100 := ai_nlt c100
                refine lv_goto (tgt := 114) hx hb dX8_bestFrom_103 (by decide) ?_
                exact (hK0 _ _ _).mp (J114 j9l4 j9l5 _ _ _  bj9l4_l bj9l5_l bj9l5_u hP hD hS (lv_sub hl [1, 2, 3, 4, 5, 6, 7] rfl))
            refine lv_icmp_ne (tgt := 92) hx hb dX8_bestFrom_85 (by decide) (fun c85 => ?_) (fun c85 => ?_)
            · have gc85 := ai_ne c85
              refine lv_iconst (v := 0) hx hb dX8_bestFrom_92 zk_iconst_0 ?_
              exact (hK0 _ _ _).mp (J93 0 _ _ _  zq5 (Int.le_trans zq6 zq4) hP hD hS (lv_sub hl [1, 2, 3, 4, 5, 6, 7, 0] rfl))
            · have gc85 := ai_eq c85
              have u85f_x82 : x82.toInt ≤ (8 : Int) := Int.le_trans (Int.le_of_eq gc85) u52k0_j39s0
              have l85f_x82 : (0 : Int) ≤ x82.toInt := Int.le_trans l52k0_j39s0 (Int.le_of_eq gc85.symm)
              refine lv_iconst (v := 1) hx hb dX8_bestFrom_88 zk_iconst_1 ?_
              refine lv_goto (tgt := 93) hx hb dX8_bestFrom_89 (by decide) ?_
              exact (hK0 _ _ _).mp (J93 1 _ _ _  (Int.le_trans zq4 zq1) zq0 hP hD hS (lv_sub hl [1, 2, 3, 4, 5, 6, 7, 0] rfl))
          · obtain ⟨hw, h52⟩ := hw
            subst hw
            refine lv_if_ne (tgt := 61) hx hb dX8_bestFrom_55 (by decide) (fun c55 => absurd (by decide +kernel) c55) (fun _ => ?_)
            have J114 : ∀ (j114l4 : Int32) (j114l5 : Int32) (H : Heap) (locs : List Loc) (ls : Array Slot), (-1 : Int) ≤ j114l4.toInt → (0 : Int) ≤ j114l5.toInt → j114l5.toInt ≤ (8 : Int) → va_P (dC, dI) vwCl [(a0, .inr (8, [a0g_0, a0g_1, a0g_2, a0g_3, a0g_4, a0g_5, a0g_6, a0g_7, a0g_8, a0g_9, a0g_10, a0g_11, a0g_12, a0g_13, a0g_14, Value.ref a0_15, a0g_16, a0g_17, a0g_18, a0g_19, a0g_20, a0g_21, a0g_22, a0g_23, a0g_24, a0g_25, a0g_26, a0g_27, a0g_28, a0g_29, a0g_30, a0g_31, Value.ref a0_32, Value.ref a0_33, a0g_34, a0g_35, a0g_36, a0g_37, a0g_38, a0g_39])), (a0_15, .inl (ka0_15, 156, .inl (fa0_15))), (a0_33, .inl (ka0_33, 620, .inl (fa0_33))), (a0_32, .inl (ka0_32, 61, .inl (fa0_32)))] H → va_D A [(a0, .inr (8, [a0g_0, a0g_1, a0g_2, a0g_3, a0g_4, a0g_5, a0g_6, a0g_7, a0g_8, a0g_9, a0g_10, a0g_11, a0g_12, a0g_13, a0g_14, Value.ref a0_15, a0g_16, a0g_17, a0g_18, a0g_19, a0g_20, a0g_21, a0g_22, a0g_23, a0g_24, a0g_25, a0g_26, a0g_27, a0g_28, a0g_29, a0g_30, a0g_31, Value.ref a0_32, Value.ref a0_33, a0g_34, a0g_35, a0g_36, a0g_37, a0g_38, a0g_39])), (a0_15, .inl (ka0_15, 156, .inl (fa0_15))), (a0_33, .inl (ka0_33, 620, .inl (fa0_33))), (a0_32, .inl (ka0_32, 61, .inl (fa0_32)))] → va_S A s.heap H locs → lv_has ls 9 [(0, .ref a0), (1, .int a1), (2, .int a2), (3, .int a3), (4, .int j114l4), (5, .int j114l5), (6, .int j9l6)] → K H locs (F0 m 114 ls []) := by
              intro j114l4 j114l5 H locs ls  bj114l4_l bj114l5_l bj114l5_u hP hD hS hl
              refine (hK0 _ _ _).mpr ?_
              obtain ⟨x114, ex114⟩ : ∃ y : Int32, y = j9l6 + Int32.ofInt 1 := ⟨_, rfl⟩
              have qx114 : x114.toInt = j9l6.toInt + 1 := ai_inc ex114 (by decide) (by decide) u12f_j9l6 (by decide)
              have bx114 : (1 : Int) ≤ x114.toInt ∧ x114.toInt ≤ 3 := ⟨by rw [qx114]; exact Int.add_le_add bj9l6_l (Int.le_refl _), by rw [qx114]; exact Int.add_le_add u12f_j9l6 (Int.le_refl _)⟩
              refine lv_iinc (v := x114) (lv' := [(6, .int x114), (0, .ref a0), (1, .int a1), (2, .int a2), (3, .int a3), (4, .int j114l4), (5, .int j114l5)]) hx hb dX8_bestFrom_114 hl (k := 6) rfl ex114.symm (by decide) rfl (fun ls hl => ?_)
              refine lv_goto (tgt := 9) hx hb dX8_bestFrom_117 (by decide) ?_
              exact (hK0 _ _ _).mp (ih9 x114 j114l5 j114l4 _ _ _ (by have h0 := qx114; omega) (Int.le_trans zq4 bx114.1) bx114.2 bj114l5_l bj114l5_u bj114l4_l hP hD hS (lv_sub hl [1, 2, 3, 4, 5, 6, 0] rfl))
            refine lv_goto (tgt := 114) hx hb dX8_bestFrom_58 (by decide) ?_
            exact (hK0 _ _ _).mp (J114 j9l4 j9l5 _ _ _  bj9l4_l bj9l5_l bj9l5_u hP hD hS (lv_sub hl [1, 2, 3, 4, 5, 6, 7] rfl))
        refine lv_if_ne (tgt := 24) hx hb dX8_bestFrom_17 (by decide) (fun c17 => ?_) (fun c17 => ?_)
        · have gc17 := ai_ne c17
          have l17t_j9l6 : (1 : Int) ≤ j9l6.toInt := (by have h1 := bj9l6_l; have h2 : (0 : Int32).toInt = 0 := (by decide); rw [h2] at gc17; omega)
          refine lv_iload hx hb dX8_bestFrom_24 (lv_at hl 6 rfl) ?_
          refine lv_iconst (v := 1) hx hb dX8_bestFrom_26 zk_iconst_1 ?_
          refine lv_icmp_ne (tgt := 36) hx hb dX8_bestFrom_27 (by decide) (fun c27 => ?_) (fun c27 => ?_)
          · have gc27 := ai_ne c27
            have l27t_j9l6 : (2 : Int) ≤ j9l6.toInt := (by have h1 := l17t_j9l6; have h2 : (1 : Int32).toInt = 1 := (by decide); rw [h2] at gc27; omega)
            refine lv_iload_n hx hb dX8_bestFrom_36 rfl (lv_at hl 2 rfl) ?_
            refine lv_iconst (v := 1) hx hb dX8_bestFrom_37 zk_iconst_1 ?_
            refine lv_iadd hx hb dX8_bestFrom_38 ?_
            refine lv_topi (fun x38 ex38 => ?_)
            have qx38 : x38.toInt = a2.toInt + (1 : Int32).toInt := ai_add ex38 ⟨ba2_l, ba2_u⟩ ⟨zq1, zq0⟩ (by decide) (by decide)
            have bx38 : (1 : Int) ≤ x38.toInt ∧ x38.toInt ≤ 9 := ⟨by rw [qx38]; exact Int.add_le_add ba2_l zq1, by rw [qx38]; exact Int.add_le_add ba2_u zq0⟩
            have wx38 : x38.toInt = a2.toInt + 1 := qx38
            exact (hK0 _ _ _).mp (J39 x38 _ _ _  (Int.le_trans zq78 bx38.1) bx38.2 hP hD hS (lv_sub hl [0, 1, 2, 3, 4, 5, 6] rfl))
          · have gc27 := ai_eq c27
            have u27f_j9l6 : j9l6.toInt ≤ (1 : Int) := Int.le_trans (Int.le_of_eq gc27) zq0
            have l27f_j9l6 : (1 : Int) ≤ j9l6.toInt := l17t_j9l6
            refine lv_iload_n hx hb dX8_bestFrom_30 rfl (lv_at hl 2 rfl) ?_
            refine lv_iconst (v := 1) hx hb dX8_bestFrom_31 zk_iconst_1 ?_
            refine lv_isub hx hb dX8_bestFrom_32 ?_
            refine lv_topi (fun x32 ex32 => ?_)
            have qx32 : x32.toInt = a2.toInt - (1 : Int32).toInt := ai_sub ex32 ⟨ba2_l, ba2_u⟩ ⟨zq1, zq0⟩ (by decide) (by decide)
            have bx32 : (-1 : Int) ≤ x32.toInt ∧ x32.toInt ≤ 7 := ⟨by rw [qx32]; exact Int.sub_le_sub ba2_l zq0, by rw [qx32]; exact Int.sub_le_sub ba2_u zq1⟩
            have wx32 : x32.toInt = a2.toInt - 1 := qx32
            refine lv_goto (tgt := 39) hx hb dX8_bestFrom_33 (by decide) ?_
            exact (hK0 _ _ _).mp (J39 x32 _ _ _  bx32.1 (Int.le_trans bx32.2 zq196) hP hD hS (lv_sub hl [0, 1, 2, 3, 4, 5, 6] rfl))
        · have gc17 := ai_eq c17
          have u17f_j9l6 : j9l6.toInt ≤ (0 : Int) := Int.le_trans (Int.le_of_eq gc17) zq6
          have l17f_j9l6 : (0 : Int) ≤ j9l6.toInt := bj9l6_l
          refine lv_iload_n hx hb dX8_bestFrom_20 rfl (lv_at hl 2 rfl) ?_
          refine lv_goto (tgt := 39) hx hb dX8_bestFrom_21 (by decide) ?_
          exact (hK0 _ _ _).mp (J39 a2 _ _ _  (Int.le_trans zq69 ba2_l) (Int.le_trans ba2_u zq22) hP hD hS (lv_sub hl [0, 1, 2, 3, 4, 5, 6] rfl))
  exact (hK0 _ _ _).mp (J9 4 0 a2 (-1) _ _ _ (by have h1 : (0 : Int) ≤ (0 : Int32).toInt := zq5; have h2 : (0 : Int32).toInt ≤ (0 : Int) := zq6; omega) zq5 (Int.le_trans zq6 zq11) ba2_l ba2_u zq70 hP hD hS (lv_sub hl [3, 4, 5, 6, 2, 1, 0] rfl))

set_option maxHeartbeats 4000000 in
set_option maxRecDepth 100000 in
theorem c_X8_layRoute (l : Launch) (dC : Nat → ClassId) (dI : Nat → Nat → Nat) (sz : Nat) (a0 : Nat) (a1 : Int32) (a0g_0 a0g_1 a0g_2 a0g_3 a0g_4 a0g_5 a0g_6 a0g_7 a0g_8 a0g_9 a0g_10 a0g_11 a0g_12 a0g_13 a0g_14 a0g_16 a0g_19 a0g_20 a0g_21 a0g_22 a0g_29 a0g_30 a0g_31 a0g_34 a0g_35 a0g_36 a0g_37 a0g_38 a0g_39 : Value) (a0_15 : Nat) (a0_17 : Nat) (a0_18 : Nat) (a0_23 : Nat) (a0_24 : Nat) (a0_25 : Int32) (a0_26 : Int32) (a0_27 : Int32) (a0_28 : Int32) (a0_32 : Nat) (a0_33 : Nat) (ka0_15 : ClassId) (fa0_15 : Nat → Int32) (ka0_23 : ClassId) (fa0_23 : Nat → Int32) (ka0_24 : ClassId) (fa0_24 : Nat → Int32) (ka0_17 : ClassId) (fa0_17 : Nat → Int32) (ka0_18 : ClassId) (fa0_18 : Nat → Int32) (ka0_32 : ClassId) (fa0_32 : Nat → Int32) (ka0_33 : ClassId) (fa0_33 : Nat → Int32) (ba1_l : (1 : Int) ≤ a1.toInt) (ba1_u : a1.toInt ≤ (60 : Int)) (bfa0_15 : ((∀ k : Nat, 0 ≤ k → k ≤ 0 → (2 : Int) ≤ (fa0_15 k).toInt ∧ (fa0_15 k).toInt ≤ 9) ∧ (∀ k : Nat, 1 ≤ k → k ≤ 1 → (1 : Int) ≤ (fa0_15 k).toInt ∧ (fa0_15 k).toInt ≤ 20) ∧ (∀ k : Nat, 2 ≤ k → k ≤ 2 → (0 : Int) ≤ (fa0_15 k).toInt ∧ (fa0_15 k).toInt ≤ 8) ∧ (∀ k : Nat, 3 ≤ k → k ≤ 3 → (0 : Int) ≤ (fa0_15 k).toInt ∧ (fa0_15 k).toInt ≤ 100) ∧ (∀ k : Nat, 4 ≤ k → k ≤ 4 → (0 : Int) ≤ (fa0_15 k).toInt ∧ (fa0_15 k).toInt ≤ 9) ∧ (∀ k : Nat, 5 ≤ k → k ≤ 5 → (0 : Int) ≤ (fa0_15 k).toInt ∧ (fa0_15 k).toInt ≤ 3) ∧ (∀ k : Nat, 6 ≤ k → k ≤ 6 → (0 : Int) ≤ (fa0_15 k).toInt ∧ (fa0_15 k).toInt ≤ 6) ∧ (∀ k : Nat, 7 ≤ k → k ≤ 9 → (0 : Int) ≤ (fa0_15 k).toInt ∧ (fa0_15 k).toInt ≤ 8) ∧ (∀ k : Nat, 12 ≤ k → k ≤ 29 → (0 : Int) ≤ (fa0_15 k).toInt ∧ (fa0_15 k).toInt ≤ 20) ∧ (∀ k : Nat, 30 ≤ k → k ≤ 35 → (0 : Int) ≤ (fa0_15 k).toInt ∧ (fa0_15 k).toInt ≤ 8) ∧ (∀ k : Nat, 36 ≤ k → k ≤ 47 → (0 : Int) ≤ (fa0_15 k).toInt ∧ (fa0_15 k).toInt ≤ 999))) (bfa0_23 : (∀ k, (0 : Int) ≤ (fa0_23 k).toInt ∧ (fa0_23 k).toInt ≤ 80)) (bfa0_24 : (∀ k, (0 : Int) ≤ (fa0_24 k).toInt ∧ (fa0_24 k).toInt ≤ 80)) (bfa0_17 : ((∀ k : Nat, 0 ≤ k → k ≤ 8 → (0 : Int) ≤ (fa0_17 k).toInt ∧ (fa0_17 k).toInt ≤ 8) ∧ (∀ k : Nat, 19 ≤ k → k ≤ 19 → (0 : Int) ≤ (fa0_17 k).toInt ∧ (fa0_17 k).toInt ≤ 8) ∧ (∀ k : Nat, 20 ≤ k → k ≤ 20 → (0 : Int) ≤ (fa0_17 k).toInt ∧ (fa0_17 k).toInt ≤ 19))) (bfa0_18 : ((∀ k : Nat, 0 ≤ k → k ≤ 8 → (0 : Int) ≤ (fa0_18 k).toInt ∧ (fa0_18 k).toInt ≤ 8) ∧ (∀ k : Nat, 19 ≤ k → k ≤ 19 → (0 : Int) ≤ (fa0_18 k).toInt ∧ (fa0_18 k).toInt ≤ 8) ∧ (∀ k : Nat, 20 ≤ k → k ≤ 20 → (0 : Int) ≤ (fa0_18 k).toInt ∧ (fa0_18 k).toInt ≤ 19))) (hkm : ∀ (j i0 i : Int32), (0 : Int) ≤ j.toInt → j.toInt ≤ 8 → i0.toInt = 12 + 2 * j.toInt → i.toInt = 13 + 2 * j.toInt → (fa0_15 i0.toNatClampNeg).toInt = (1 : Int32).toInt → (1 : Int) ≤ (fa0_15 i.toNatClampNeg).toInt) : zm l yX8_layRoute wsX8_layRoute ({ frames := 4, cells := 0, slots := 0, locals := 95 }) [.ref a0, .int a1] dC dI sz [(a0, .inr (8, [a0g_0, a0g_1, a0g_2, a0g_3, a0g_4, a0g_5, a0g_6, a0g_7, a0g_8, a0g_9, a0g_10, a0g_11, a0g_12, a0g_13, a0g_14, Value.ref a0_15, a0g_16, Value.ref a0_17, Value.ref a0_18, a0g_19, a0g_20, a0g_21, a0g_22, Value.ref a0_23, Value.ref a0_24, Value.int a0_25, Value.int a0_26, Value.int a0_27, Value.int a0_28, a0g_29, a0g_30, a0g_31, Value.ref a0_32, Value.ref a0_33, a0g_34, a0g_35, a0g_36, a0g_37, a0g_38, a0g_39])), (a0_15, .inl (ka0_15, 156, .inl (fa0_15))), (a0_23, .inl (ka0_23, 3, .inl (fa0_23))), (a0_24, .inl (ka0_24, 3, .inl (fa0_24))), (a0_17, .inl (ka0_17, 23, .inl (fa0_17))), (a0_18, .inl (ka0_18, 23, .inl (fa0_18))), (a0_32, .inl (ka0_32, 61, .inl (fa0_32))), (a0_33, .inl (ka0_33, 620, .inl (fa0_33)))] [(ka0_15, .int), (ka0_23, .int), (ka0_24, .int), (ka0_17, .int), (ka0_18, .int), (ka0_32, .int), (ka0_33, .int)] (fun A _ => True) (fun A => va_Qv (fun (_ : Unit) => True) (fun (_ : Unit) (t : State) => ∃ na0_25 : Int32, ∃ na0_26 : Int32, ∃ na0_27 : Int32, ∃ na0_28 : Int32, ∃ nfa0_23 : Nat → Int32, ∃ nfa0_24 : Nat → Int32, ∃ nfa0_18 : Nat → Int32, ∃ nfa0_32 : Nat → Int32, ∃ nfa0_33 : Nat → Int32, (∀ k, (0 : Int) ≤ (nfa0_23 k).toInt ∧ (nfa0_23 k).toInt ≤ 80) ∧ (∀ k, (0 : Int) ≤ (nfa0_24 k).toInt ∧ (nfa0_24 k).toInt ≤ 80) ∧ ((∀ k : Nat, 0 ≤ k → k ≤ 8 → (0 : Int) ≤ (nfa0_18 k).toInt ∧ (nfa0_18 k).toInt ≤ 8) ∧ (∀ k : Nat, 19 ≤ k → k ≤ 19 → (0 : Int) ≤ (nfa0_18 k).toInt ∧ (nfa0_18 k).toInt ≤ 8) ∧ (∀ k : Nat, 20 ≤ k → k ≤ 20 → (0 : Int) ≤ (nfa0_18 k).toInt ∧ (nfa0_18 k).toInt ≤ 19)) ∧ ax_B dC dI A [(a0, .inr (8, [a0g_0, a0g_1, a0g_2, a0g_3, a0g_4, a0g_5, a0g_6, a0g_7, a0g_8, a0g_9, a0g_10, a0g_11, a0g_12, a0g_13, a0g_14, Value.ref a0_15, a0g_16, Value.ref a0_17, Value.ref a0_18, a0g_19, a0g_20, a0g_21, a0g_22, Value.ref a0_23, Value.ref a0_24, Value.int na0_25, Value.int na0_26, Value.int na0_27, Value.int na0_28, a0g_29, a0g_30, a0g_31, Value.ref a0_32, Value.ref a0_33, a0g_34, a0g_35, a0g_36, a0g_37, a0g_38, a0g_39])), (a0_15, .inl (ka0_15, 156, .inl (fa0_15))), (a0_23, .inl (ka0_23, 3, .inl (nfa0_23))), (a0_24, .inl (ka0_24, 3, .inl (nfa0_24))), (a0_17, .inl (ka0_17, 23, .inl (fa0_17))), (a0_18, .inl (ka0_18, 23, .inl (nfa0_18))), (a0_32, .inl (ka0_32, 61, .inl (nfa0_32))), (a0_33, .inl (ka0_33, 620, .inl (nfa0_33)))] [(ka0_15, .int), (ka0_23, .int), (ka0_24, .int), (ka0_17, .int), (ka0_18, .int), (ka0_32, .int), (ka0_33, .int)] t) A) := by
  refine zh (cc := cX8_layRoute) (maxL := 4) (ret := none) zn_RX8 rfl (Nat.le_of_ble_eq_true rfl) (fun p e s m below meth c A ls hx hb hml hr hts (hown : s.vm.findClass RX8 = some m.cls) hlocks hA hS hP hK hD hE (hl : lv_has ls 4 [(0, .ref a0), (1, .int a1)]) => ?_)
  refine ai_open (fun K hK0 => ?_)
  refine (hK0 _ _ _).mpr ?_
  refine lv_aload_n hx hb dX8_layRoute_0 rfl (lv_at hl 0 rfl) ?_
  have hKc := hK.sub (tys' := [(ka0_15, .int), (ka0_23, .int), (ka0_24, .int), (ka0_17, .int), (ka0_18, .int)]) [0, 1, 2, 3, 4] rfl
  refine va_callv (va_runV (As := []) (rest := []) ⟨hx, hb, hml, hown, hts⟩ (c_X8_begin l dC dI s.heap.size a0 a0g_0 a0g_1 a0g_2 a0g_3 a0g_4 a0g_5 a0g_6 a0g_7 a0g_8 a0g_9 a0g_10 a0g_11 a0g_12 a0g_13 a0g_14 a0g_16 a0g_19 a0g_20 a0g_21 a0g_22 (Value.int a0_26) (Value.int a0_27) (Value.int a0_28) a0g_29 a0g_30 a0g_31 (Value.ref a0_32) (Value.ref a0_33) a0g_34 a0g_35 a0g_36 a0g_37 a0g_38 a0g_39 a0_15 a0_17 a0_18 a0_23 a0_24 a0_25 ka0_15 fa0_15 ka0_23 fa0_23 ka0_24 fa0_24 ka0_17 fa0_17 ka0_18 fa0_18 bfa0_15 bfa0_23 bfa0_24 bfa0_17 bfa0_18) (cwV 0 hts gX8_layRoute_X8_begin rfl rfl rfl zd_X8_begin ⟨Nat.le_of_ble_eq_true rfl, Nat.le_of_ble_eq_true rfl⟩) ⟨ax_blind (fun _ _ _ _ _ => trivial), zr_8 hKc (zp_P6 hP) (q0 := 0) rfl, ax_pre (zp_P6 hP) hKc (zp_D6 hD) (fun _ _ => trivial)⟩ rfl rfl hl.1 rfl (lv_room (Nat.le_of_ble_eq_true rfl)) dX8_layRoute_1 ⟨Nat.le_of_ble_eq_true rfl, Nat.le_of_ble_eq_true rfl⟩) hS (fun q _ h => zp_F6 hD hS hA q h) (zp_F6 hD hS hA) (fun u t H locs ht hvm hw hB hz1 hk1 hS1 => zx_4 hB (fun v1na0_25 v1nfa0_23 v1nfa0_24 v1nfa0_18 hB => zy_3 hB (fun bv1nfa0_23 bv1nfa0_24 bv1nfa0_18 hB => zo6 hB ht hP hD hk1 (zp_F6 hD hS hA) hS1 (fun hP hK1 hD hS => ?_))))
  refine lv_iconst (v := 1) hx hb dX8_layRoute_4 zk_iconst_1 ?_
  refine lv_istore_n (lv' := [(2, .int 1), (0, .ref a0), (1, .int a1)]) hx hb dX8_layRoute_5 rfl hl (by decide) rfl (fun ls hl => ?_)
  have J6 : ∀ (n : Nat) (j6l2 : Int32) (j6a0_26 : Int32) (j6a0_27 : Int32) (j6a0_28 : Int32) (j6a0_18_a : Nat → Int32) (j6a0_32_a : Nat → Int32) (H : Heap) (locs : List Loc) (ls : Array Slot), (81 : Int) - j6l2.toInt ≤ (n : Int) → (1 : Int) ≤ j6l2.toInt → j6l2.toInt ≤ (80 : Int) → ((∀ k : Nat, 0 ≤ k → k ≤ 8 → (0 : Int) ≤ (j6a0_18_a k).toInt ∧ (j6a0_18_a k).toInt ≤ 8) ∧ (∀ k : Nat, 19 ≤ k → k ≤ 19 → (0 : Int) ≤ (j6a0_18_a k).toInt ∧ (j6a0_18_a k).toInt ≤ 8) ∧ (∀ k : Nat, 20 ≤ k → k ≤ 20 → (0 : Int) ≤ (j6a0_18_a k).toInt ∧ (j6a0_18_a k).toInt ≤ 19)) → va_P (dC, dI) vwCl [(a0, .inr (8, [a0g_0, a0g_1, a0g_2, a0g_3, a0g_4, a0g_5, a0g_6, a0g_7, a0g_8, a0g_9, a0g_10, a0g_11, a0g_12, a0g_13, a0g_14, Value.ref a0_15, a0g_16, Value.ref a0_17, Value.ref a0_18, a0g_19, a0g_20, a0g_21, a0g_22, Value.ref a0_23, Value.ref a0_24, Value.int v1na0_25, Value.int j6a0_26, Value.int j6a0_27, Value.int j6a0_28, a0g_29, a0g_30, a0g_31, Value.ref a0_32, Value.ref a0_33, a0g_34, a0g_35, a0g_36, a0g_37, a0g_38, a0g_39])), (a0_15, .inl (ka0_15, 156, .inl (fa0_15))), (a0_23, .inl (ka0_23, 3, .inl (v1nfa0_23))), (a0_24, .inl (ka0_24, 3, .inl (v1nfa0_24))), (a0_17, .inl (ka0_17, 23, .inl (fa0_17))), (a0_18, .inl (ka0_18, 23, .inl (j6a0_18_a))), (a0_32, .inl (ka0_32, 61, .inl (j6a0_32_a))), (a0_33, .inl (ka0_33, 620, .inl (fa0_33)))] H → va_D A [(a0, .inr (8, [a0g_0, a0g_1, a0g_2, a0g_3, a0g_4, a0g_5, a0g_6, a0g_7, a0g_8, a0g_9, a0g_10, a0g_11, a0g_12, a0g_13, a0g_14, Value.ref a0_15, a0g_16, Value.ref a0_17, Value.ref a0_18, a0g_19, a0g_20, a0g_21, a0g_22, Value.ref a0_23, Value.ref a0_24, Value.int v1na0_25, Value.int j6a0_26, Value.int j6a0_27, Value.int j6a0_28, a0g_29, a0g_30, a0g_31, Value.ref a0_32, Value.ref a0_33, a0g_34, a0g_35, a0g_36, a0g_37, a0g_38, a0g_39])), (a0_15, .inl (ka0_15, 156, .inl (fa0_15))), (a0_23, .inl (ka0_23, 3, .inl (v1nfa0_23))), (a0_24, .inl (ka0_24, 3, .inl (v1nfa0_24))), (a0_17, .inl (ka0_17, 23, .inl (fa0_17))), (a0_18, .inl (ka0_18, 23, .inl (j6a0_18_a))), (a0_32, .inl (ka0_32, 61, .inl (j6a0_32_a))), (a0_33, .inl (ka0_33, 620, .inl (fa0_33)))] → va_S A s.heap H locs → lv_has ls 4 [(0, .ref a0), (1, .int a1), (2, .int j6l2)] → K H locs (F0 m 6 ls []) := by
    intro n
    induction n with
    | zero =>
      intro j6l2 j6a0_26 j6a0_27 j6a0_28 j6a0_18_a j6a0_32_a H locs ls hm bj6l2_l bj6l2_u bj6a0_18_a hP hD hS hl
      have h8 := ai_min j6l2
      have h9 := ai_max j6l2
      exact absurd hm (by omega)
    | succ n ih6 =>
      intro j6l2 j6a0_26 j6a0_27 j6a0_28 j6a0_18_a j6a0_32_a H locs ls hm bj6l2_l bj6l2_u bj6a0_18_a hP hD hS hl
      refine (hK0 _ _ _).mpr ?_
      have hm6 := hm
      refine lv_iload_n hx hb dX8_layRoute_6 rfl (lv_at hl 2 rfl) ?_
      refine lv_iload_n hx hb dX8_layRoute_7 rfl (lv_at hl 1 rfl) ?_
      refine lv_icmp_gt (tgt := 35) hx hb dX8_layRoute_8 (by decide) (fun c8 => ?_) (fun c8 => ?_)
      · have gc8 := ai_lt c8
        have u8t_a1 : a1.toInt ≤ (60 : Int) := ba1_u
        have l8t_j6l2 : (2 : Int) ≤ j6l2.toInt := ai_ltlo gc8 ba1_l
        refine lv_iconst (v := 0) hx hb dX8_layRoute_35 zk_iconst_0 ?_
        refine lv_istore_n (lv' := [(2, .int 0), (0, .ref a0), (1, .int a1)]) hx hb dX8_layRoute_36 rfl hl (by decide) rfl (fun ls hl => ?_)
        have J37 : ∀ (n : Nat) (j37l2 : Int32) (j37a0_33_a : Nat → Int32) (H : Heap) (locs : List Loc) (ls : Array Slot), (10 : Int) - j37l2.toInt ≤ (n : Int) → (0 : Int) ≤ j37l2.toInt → j37l2.toInt ≤ (9 : Int) → va_P (dC, dI) vwCl [(a0, .inr (8, [a0g_0, a0g_1, a0g_2, a0g_3, a0g_4, a0g_5, a0g_6, a0g_7, a0g_8, a0g_9, a0g_10, a0g_11, a0g_12, a0g_13, a0g_14, Value.ref a0_15, a0g_16, Value.ref a0_17, Value.ref a0_18, a0g_19, a0g_20, a0g_21, a0g_22, Value.ref a0_23, Value.ref a0_24, Value.int v1na0_25, Value.int j6a0_26, Value.int j6a0_27, Value.int j6a0_28, a0g_29, a0g_30, a0g_31, Value.ref a0_32, Value.ref a0_33, a0g_34, a0g_35, a0g_36, a0g_37, a0g_38, a0g_39])), (a0_15, .inl (ka0_15, 156, .inl (fa0_15))), (a0_23, .inl (ka0_23, 3, .inl (v1nfa0_23))), (a0_24, .inl (ka0_24, 3, .inl (v1nfa0_24))), (a0_17, .inl (ka0_17, 23, .inl (fa0_17))), (a0_18, .inl (ka0_18, 23, .inl (j6a0_18_a))), (a0_32, .inl (ka0_32, 61, .inl (j6a0_32_a))), (a0_33, .inl (ka0_33, 620, .inl (j37a0_33_a)))] H → va_D A [(a0, .inr (8, [a0g_0, a0g_1, a0g_2, a0g_3, a0g_4, a0g_5, a0g_6, a0g_7, a0g_8, a0g_9, a0g_10, a0g_11, a0g_12, a0g_13, a0g_14, Value.ref a0_15, a0g_16, Value.ref a0_17, Value.ref a0_18, a0g_19, a0g_20, a0g_21, a0g_22, Value.ref a0_23, Value.ref a0_24, Value.int v1na0_25, Value.int j6a0_26, Value.int j6a0_27, Value.int j6a0_28, a0g_29, a0g_30, a0g_31, Value.ref a0_32, Value.ref a0_33, a0g_34, a0g_35, a0g_36, a0g_37, a0g_38, a0g_39])), (a0_15, .inl (ka0_15, 156, .inl (fa0_15))), (a0_23, .inl (ka0_23, 3, .inl (v1nfa0_23))), (a0_24, .inl (ka0_24, 3, .inl (v1nfa0_24))), (a0_17, .inl (ka0_17, 23, .inl (fa0_17))), (a0_18, .inl (ka0_18, 23, .inl (j6a0_18_a))), (a0_32, .inl (ka0_32, 61, .inl (j6a0_32_a))), (a0_33, .inl (ka0_33, 620, .inl (j37a0_33_a)))] → va_S A s.heap H locs → lv_has ls 4 [(0, .ref a0), (1, .int a1), (2, .int j37l2)] → K H locs (F0 m 37 ls []) := by
          intro n
          induction n with
          | zero =>
            intro j37l2 j37a0_33_a H locs ls hm bj37l2_l bj37l2_u hP hD hS hl
            have h8 := ai_min j37l2
            have h9 := ai_max j37l2
            exact absurd hm (by omega)
          | succ n ih37 =>
            intro j37l2 j37a0_33_a H locs ls hm bj37l2_l bj37l2_u hP hD hS hl
            refine (hK0 _ _ _).mpr ?_
            have hm37 := hm
            refine lv_iload_n hx hb dX8_layRoute_37 rfl (lv_at hl 2 rfl) ?_
            refine lv_bipush (v := 9) hx hb dX8_layRoute_38 zk_bipush_9 ?_
            refine lv_icmp_ge (tgt := 61) hx hb dX8_layRoute_40 (by decide) (fun c40 => ?_) (fun c40 => ?_)
            · have gc40 := ai_le c40
              have l40t_j37l2 : (9 : Int) ≤ j37l2.toInt := Int.le_trans zq2 gc40
              refine lv_iload_n hx hb dX8_layRoute_61 rfl (lv_at hl 1 rfl) ?_
              refine lv_iconst (v := 1) hx hb dX8_layRoute_62 zk_iconst_1 ?_
              refine lv_isub hx hb dX8_layRoute_63 ?_
              refine lv_topi (fun x63 ex63 => ?_)
              have qx63 : x63.toInt = a1.toInt - (1 : Int32).toInt := ai_sub ex63 ⟨ba1_l, u8t_a1⟩ ⟨zq1, zq0⟩ (by decide) (by decide)
              have bx63 : (0 : Int) ≤ x63.toInt ∧ x63.toInt ≤ 59 := ⟨by rw [qx63]; exact Int.sub_le_sub ba1_l zq0, by rw [qx63]; exact Int.sub_le_sub u8t_a1 zq1⟩
              have wx63 : x63.toInt = a1.toInt - 1 := qx63
              refine lv_istore_n (lv' := [(2, .int x63), (0, .ref a0), (1, .int a1)]) hx hb dX8_layRoute_64 rfl hl (by decide) rfl (fun ls hl => ?_)
              have J65 : ∀ (n : Nat) (j65l2 : Int32) (j65a0_33_a : Nat → Int32) (H : Heap) (locs : List Loc) (ls : Array Slot), j65l2.toInt - (-2 : Int) ≤ (n : Int) → (-1 : Int) ≤ j65l2.toInt → j65l2.toInt ≤ (59 : Int) → va_P (dC, dI) vwCl [(a0, .inr (8, [a0g_0, a0g_1, a0g_2, a0g_3, a0g_4, a0g_5, a0g_6, a0g_7, a0g_8, a0g_9, a0g_10, a0g_11, a0g_12, a0g_13, a0g_14, Value.ref a0_15, a0g_16, Value.ref a0_17, Value.ref a0_18, a0g_19, a0g_20, a0g_21, a0g_22, Value.ref a0_23, Value.ref a0_24, Value.int v1na0_25, Value.int j6a0_26, Value.int j6a0_27, Value.int j6a0_28, a0g_29, a0g_30, a0g_31, Value.ref a0_32, Value.ref a0_33, a0g_34, a0g_35, a0g_36, a0g_37, a0g_38, a0g_39])), (a0_15, .inl (ka0_15, 156, .inl (fa0_15))), (a0_23, .inl (ka0_23, 3, .inl (v1nfa0_23))), (a0_24, .inl (ka0_24, 3, .inl (v1nfa0_24))), (a0_17, .inl (ka0_17, 23, .inl (fa0_17))), (a0_18, .inl (ka0_18, 23, .inl (j6a0_18_a))), (a0_32, .inl (ka0_32, 61, .inl (j6a0_32_a))), (a0_33, .inl (ka0_33, 620, .inl (j65a0_33_a)))] H → va_D A [(a0, .inr (8, [a0g_0, a0g_1, a0g_2, a0g_3, a0g_4, a0g_5, a0g_6, a0g_7, a0g_8, a0g_9, a0g_10, a0g_11, a0g_12, a0g_13, a0g_14, Value.ref a0_15, a0g_16, Value.ref a0_17, Value.ref a0_18, a0g_19, a0g_20, a0g_21, a0g_22, Value.ref a0_23, Value.ref a0_24, Value.int v1na0_25, Value.int j6a0_26, Value.int j6a0_27, Value.int j6a0_28, a0g_29, a0g_30, a0g_31, Value.ref a0_32, Value.ref a0_33, a0g_34, a0g_35, a0g_36, a0g_37, a0g_38, a0g_39])), (a0_15, .inl (ka0_15, 156, .inl (fa0_15))), (a0_23, .inl (ka0_23, 3, .inl (v1nfa0_23))), (a0_24, .inl (ka0_24, 3, .inl (v1nfa0_24))), (a0_17, .inl (ka0_17, 23, .inl (fa0_17))), (a0_18, .inl (ka0_18, 23, .inl (j6a0_18_a))), (a0_32, .inl (ka0_32, 61, .inl (j6a0_32_a))), (a0_33, .inl (ka0_33, 620, .inl (j65a0_33_a)))] → va_S A s.heap H locs → lv_has ls 4 [(0, .ref a0), (2, .int j65l2)] → K H locs (F0 m 65 ls []) := by
                intro n
                induction n with
                | zero =>
                  intro j65l2 j65a0_33_a H locs ls hm bj65l2_l bj65l2_u hP hD hS hl
                  have h8 := ai_min j65l2
                  have h9 := ai_max j65l2
                  exact absurd hm (by omega)
                | succ n ih65 =>
                  intro j65l2 j65a0_33_a H locs ls hm bj65l2_l bj65l2_u hP hD hS hl
                  refine (hK0 _ _ _).mpr ?_
                  have hm65 := hm
                  refine lv_iload_n hx hb dX8_layRoute_65 rfl (lv_at hl 1 rfl) ?_
                  refine lv_if_lt (tgt := 111) hx hb dX8_layRoute_66 (by decide) (fun c66 => ?_) (fun c66 => ?_)
                  · have gc66 := ai_lt c66
                    have u66t_j65l2 : j65l2.toInt ≤ (-1 : Int) := ai_lthi gc66 zq6
                    exact W.vret hx hb hr (fun t ht hW => ⟨⟨(), rfl, trivial, v1na0_25, j6a0_26, j6a0_27, j6a0_28, v1nfa0_23, v1nfa0_24, j6a0_18_a, j6a0_32_a, j65a0_33_a, bv1nfa0_23, bv1nfa0_24, bj6a0_18_a, by rw [ht]; exact hP, va_K.moved hW.alike hK, hD⟩, hS.F ht⟩) hS.2.2 dX8_layRoute_111
                  · have gc66 := ai_nlt c66
                    have l66f_j65l2 : (0 : Int) ≤ j65l2.toInt := Int.le_trans zq5 gc66
                    refine lv_iconst (v := 0) hx hb dX8_layRoute_69 zk_iconst_0 ?_
                    refine lv_istore_n (lv' := [(3, .int 0), (0, .ref a0), (2, .int j65l2)]) hx hb dX8_layRoute_70 rfl hl (by decide) rfl (fun ls hl => ?_)
                    have J71 : ∀ (n : Nat) (j71l3 : Int32) (j71a0_33_a : Nat → Int32) (H : Heap) (locs : List Loc) (ls : Array Slot), (10 : Int) - j71l3.toInt ≤ (n : Int) → (0 : Int) ≤ j71l3.toInt → j71l3.toInt ≤ (9 : Int) → va_P (dC, dI) vwCl [(a0, .inr (8, [a0g_0, a0g_1, a0g_2, a0g_3, a0g_4, a0g_5, a0g_6, a0g_7, a0g_8, a0g_9, a0g_10, a0g_11, a0g_12, a0g_13, a0g_14, Value.ref a0_15, a0g_16, Value.ref a0_17, Value.ref a0_18, a0g_19, a0g_20, a0g_21, a0g_22, Value.ref a0_23, Value.ref a0_24, Value.int v1na0_25, Value.int j6a0_26, Value.int j6a0_27, Value.int j6a0_28, a0g_29, a0g_30, a0g_31, Value.ref a0_32, Value.ref a0_33, a0g_34, a0g_35, a0g_36, a0g_37, a0g_38, a0g_39])), (a0_15, .inl (ka0_15, 156, .inl (fa0_15))), (a0_23, .inl (ka0_23, 3, .inl (v1nfa0_23))), (a0_24, .inl (ka0_24, 3, .inl (v1nfa0_24))), (a0_17, .inl (ka0_17, 23, .inl (fa0_17))), (a0_18, .inl (ka0_18, 23, .inl (j6a0_18_a))), (a0_32, .inl (ka0_32, 61, .inl (j6a0_32_a))), (a0_33, .inl (ka0_33, 620, .inl (j71a0_33_a)))] H → va_D A [(a0, .inr (8, [a0g_0, a0g_1, a0g_2, a0g_3, a0g_4, a0g_5, a0g_6, a0g_7, a0g_8, a0g_9, a0g_10, a0g_11, a0g_12, a0g_13, a0g_14, Value.ref a0_15, a0g_16, Value.ref a0_17, Value.ref a0_18, a0g_19, a0g_20, a0g_21, a0g_22, Value.ref a0_23, Value.ref a0_24, Value.int v1na0_25, Value.int j6a0_26, Value.int j6a0_27, Value.int j6a0_28, a0g_29, a0g_30, a0g_31, Value.ref a0_32, Value.ref a0_33, a0g_34, a0g_35, a0g_36, a0g_37, a0g_38, a0g_39])), (a0_15, .inl (ka0_15, 156, .inl (fa0_15))), (a0_23, .inl (ka0_23, 3, .inl (v1nfa0_23))), (a0_24, .inl (ka0_24, 3, .inl (v1nfa0_24))), (a0_17, .inl (ka0_17, 23, .inl (fa0_17))), (a0_18, .inl (ka0_18, 23, .inl (j6a0_18_a))), (a0_32, .inl (ka0_32, 61, .inl (j6a0_32_a))), (a0_33, .inl (ka0_33, 620, .inl (j71a0_33_a)))] → va_S A s.heap H locs → lv_has ls 4 [(0, .ref a0), (2, .int j65l2), (3, .int j71l3)] → K H locs (F0 m 71 ls []) := by
                      intro n
                      induction n with
                      | zero =>
                        intro j71l3 j71a0_33_a H locs ls hm bj71l3_l bj71l3_u hP hD hS hl
                        have h8 := ai_min j71l3
                        have h9 := ai_max j71l3
                        exact absurd hm (by omega)
                      | succ n ih71 =>
                        intro j71l3 j71a0_33_a H locs ls hm bj71l3_l bj71l3_u hP hD hS hl
                        refine (hK0 _ _ _).mpr ?_
                        have hm71 := hm
                        refine lv_iload_n hx hb dX8_layRoute_71 rfl (lv_at hl 2 rfl) ?_
                        refine lv_aload_n hx hb dX8_layRoute_72 rfl (lv_at hl 0 rfl) ?_
                        refine va_get (D := (dC, dI)) (ci := 8) (v := .ref a0_15) (C := RX8) (T := TX8) (N := 40) hx hb hts zi_X8_layRoute_8 hown hK hP 0 rfl rfl 15 (by decide) (hts (.fieldLink RX8 20 "WaxTurnsModel" "\x72" "[I") (zm_X8_layRoute_r1 (List.mem_of_getElem? (i := 4) rfl))) (fun _ h9 => h9) rfl dX8_layRoute_73 ?_
                        refine lv_iconst (v := 0) hx hb dX8_layRoute_76 zk_iconst_0 ?_
                        refine va_iald hx hb hK hP 1 0 rfl rfl (by unfold vp_in; decide +kernel) dX8_layRoute_77 ?_
                        refine lv_topi (fun x77 ex77 => ?_)
                        have bx77 : (2 : Int) ≤ x77.toInt ∧ x77.toInt ≤ 9 := by rw [ex77]; exact ai_rd bfa0_15.1 zq5 zq6 (by decide) (by decide) (by decide)
                        refine lv_icmp_ge (tgt := 105) hx hb dX8_layRoute_78 (by decide) (fun c78 => ?_) (fun c78 => ?_)
                        · have gc78 := ai_le c78
                          have u78t_x77 : x77.toInt ≤ (9 : Int) := bx77.2
                          have l78t_j71l3 : (2 : Int) ≤ j71l3.toInt := Int.le_trans bx77.1 gc78
                          obtain ⟨x105, ex105⟩ : ∃ y : Int32, y = j65l2 + Int32.ofInt (-1) := ⟨_, rfl⟩
                          have qx105 : x105.toInt = j65l2.toInt + -1 := ai_dec ex105 (by decide) (by decide) l66f_j65l2 (by decide)
                          have bx105 : (-1 : Int) ≤ x105.toInt ∧ x105.toInt ≤ 58 := ⟨by rw [qx105]; exact Int.add_le_add l66f_j65l2 (Int.le_refl _), by rw [qx105]; exact Int.add_le_add bj65l2_u (Int.le_refl _)⟩
                          refine lv_iinc (v := x105) (lv' := [(2, .int x105), (0, .ref a0), (3, .int j71l3)]) hx hb dX8_layRoute_105 hl (k := 1) rfl ex105.symm (by decide) rfl (fun ls hl => ?_)
                          refine lv_goto (tgt := 65) hx hb dX8_layRoute_108 (by decide) ?_
                          exact (hK0 _ _ _).mp (ih65 x105 j71a0_33_a _ _ _ (by have h0 := qx105; omega) bx105.1 (Int.le_trans bx105.2 zq197) hP hD hS (lv_sub hl [1, 0] rfl))
                        · have gc78 := ai_nle c78
                          have u78f_j71l3 : j71l3.toInt ≤ (8 : Int) := ai_lthi gc78 bx77.2
                          have l78f_x77 : (2 : Int) ≤ x77.toInt := bx77.1
                          refine lv_aload_n hx hb dX8_layRoute_81 rfl (lv_at hl 0 rfl) ?_
                          refine va_get (D := (dC, dI)) (ci := 8) (v := .ref a0_33) (C := RX8) (T := TX8) (N := 40) hx hb hts zi_X8_layRoute_8 hown hK hP 0 rfl rfl 33 (by decide) (hts (.fieldLink RX8 50 "WaxTurnsModel" "with" "[I") (zm_X8_layRoute_r1 (List.mem_of_getElem? (i := 3) rfl))) (fun _ h9 => h9) rfl dX8_layRoute_82 ?_
                          refine lv_bipush (v := 10) hx hb dX8_layRoute_85 zk_bipush_10 ?_
                          refine lv_iload_n hx hb dX8_layRoute_87 rfl (lv_at hl 1 rfl) ?_
                          refine lv_imul hx hb dX8_layRoute_88 ?_
                          refine lv_topi (fun x88 ex88 => ?_)
                          have qx88 : x88.toInt = (10 : Int32).toInt * j65l2.toInt ∧ (0 : Int) ≤ x88.toInt ∧ x88.toInt ≤ 590 := ai_mul ex88 ⟨zq26, zq27⟩ ⟨l66f_j65l2, bj65l2_u⟩ (by decide) (by decide) zq198
                          have wx88 : x88.toInt = 10 * j65l2.toInt := qx88.1
                          refine lv_iload_n hx hb dX8_layRoute_89 rfl (lv_at hl 2 rfl) ?_
                          refine lv_iadd hx hb dX8_layRoute_90 ?_
                          refine lv_topi (fun x90 ex90 => ?_)
                          have qx90 : x90.toInt = x88.toInt + j71l3.toInt := ai_add ex90 ⟨qx88.2.1, qx88.2.2⟩ ⟨bj71l3_l, u78f_j71l3⟩ (by decide) (by decide)
                          have bx90 : (0 : Int) ≤ x90.toInt ∧ x90.toInt ≤ 598 := ⟨by rw [qx90]; exact Int.add_le_add qx88.2.1 bj71l3_l, by rw [qx90]; exact Int.add_le_add qx88.2.2 u78f_j71l3⟩
                          refine lv_aload_n hx hb dX8_layRoute_91 rfl (lv_at hl 0 rfl) ?_
                          refine lv_iload_n hx hb dX8_layRoute_92 rfl (lv_at hl 1 rfl) ?_
                          refine lv_iload_n hx hb dX8_layRoute_93 rfl (lv_at hl 2 rfl) ?_
                          refine lv_iconst (v := 0) hx hb dX8_layRoute_94 zk_iconst_0 ?_
                          refine zc_cutc (wc := [(a0, .inr (8, [a0g_0, a0g_1, a0g_2, a0g_3, a0g_4, a0g_5, a0g_6, a0g_7, a0g_8, a0g_9, a0g_10, a0g_11, a0g_12, a0g_13, a0g_14, Value.ref a0_15, a0g_16, Value.ref a0_17, Value.ref a0_18, a0g_19, a0g_20, a0g_21, a0g_22, Value.ref a0_23, Value.ref a0_24, Value.int v1na0_25, Value.int j6a0_26, Value.int j6a0_27, Value.int j6a0_28, a0g_29, a0g_30, a0g_31, Value.ref a0_32, Value.ref a0_33, a0g_34, a0g_35, a0g_36, a0g_37, a0g_38, a0g_39])), (a0_15, .inl (ka0_15, 156, .inl (fa0_15))), (a0_33, .inl (ka0_33, 620, .inl (j71a0_33_a))), (a0_32, .inl (ka0_32, 61, .inl (j6a0_32_a)))]) hP hD hS hA [0, 1, 7, 6] (by decide +kernel) rfl (fun hPc hDc hFc hCc => ?_)
                          have hKc := hK.sub (tys' := [(ka0_15, .int), (ka0_33, .int), (ka0_32, .int)]) [0, 6, 5] rfl
                          refine va_calli (va_runV (As := [.int j65l2, .int j71l3, .int 0]) (rest := [.int x90, .ref a0_33]) ⟨hx, hb, hml, hown, hts⟩ (c_X8_bestFromN l dC dI H.size a0 j65l2 j71l3 0 a0g_0 a0g_1 a0g_2 a0g_3 a0g_4 a0g_5 a0g_6 a0g_7 a0g_8 a0g_9 a0g_10 a0g_11 a0g_12 a0g_13 a0g_14 a0g_16 (Value.ref a0_17) (Value.ref a0_18) a0g_19 a0g_20 a0g_21 a0g_22 (Value.ref a0_23) (Value.ref a0_24) (Value.int v1na0_25) (Value.int j6a0_26) (Value.int j6a0_27) (Value.int j6a0_28) a0g_29 a0g_30 a0g_31 a0g_34 a0g_35 a0g_36 a0g_37 a0g_38 a0g_39 a0_15 a0_32 a0_33 ka0_15 fa0_15 ka0_33 j71a0_33_a ka0_32 j6a0_32_a l66f_j65l2 bj65l2_u bj71l3_l u78f_j71l3 zq5 zq6 bfa0_15) (cwV 3 hts gX8_layRoute_X8_bestFrom rfl rfl rfl zd_X8_bestFrom ⟨Nat.le_of_ble_eq_true rfl, Nat.le_of_ble_eq_true rfl⟩) ⟨ax_blind (fun _ _ _ _ _ => trivial), zr_8 hKc hPc (q0 := 0) rfl, ax_pre hPc hKc hDc (fun _ _ => trivial)⟩ rfl rfl hl.1 rfl (lv_room (Nat.le_of_ble_eq_true rfl)) dX8_layRoute_95 ⟨Nat.le_of_ble_eq_true rfl, Nat.le_of_ble_eq_true rfl⟩) hS (fun q _ h => hFc q h) hFc (fun r95 u t H locs ht hvm hw hB hz1 hk1 hS => zo hB ht (fun hP1 hK1 hD1 => ?_))
                          refine zc_backc (w := [(a0, .inr (8, [a0g_0, a0g_1, a0g_2, a0g_3, a0g_4, a0g_5, a0g_6, a0g_7, a0g_8, a0g_9, a0g_10, a0g_11, a0g_12, a0g_13, a0g_14, Value.ref a0_15, a0g_16, Value.ref a0_17, Value.ref a0_18, a0g_19, a0g_20, a0g_21, a0g_22, Value.ref a0_23, Value.ref a0_24, Value.int v1na0_25, Value.int j6a0_26, Value.int j6a0_27, Value.int j6a0_28, a0g_29, a0g_30, a0g_31, Value.ref a0_32, Value.ref a0_33, a0g_34, a0g_35, a0g_36, a0g_37, a0g_38, a0g_39])), (a0_15, .inl (ka0_15, 156, .inl (fa0_15))), (a0_23, .inl (ka0_23, 3, .inl (v1nfa0_23))), (a0_24, .inl (ka0_24, 3, .inl (v1nfa0_24))), (a0_17, .inl (ka0_17, 23, .inl (fa0_17))), (a0_18, .inl (ka0_18, 23, .inl (j6a0_18_a))), (a0_32, .inl (ka0_32, 61, .inl (j6a0_32_a))), (a0_33, .inl (ka0_33, 620, .inl (j71a0_33_a)))]) hP hD hCc hk1 hFc hP1 hD1 [.inr 0, .inr 1, .inl 2, .inl 3, .inl 4, .inl 5, .inr 3, .inr 2] (by decide +kernel) rfl (fun hP hD => ?_)
                          have hw : (-1 : Int) ≤ r95.toInt := hw
                          obtain h95_0 := hw
                          refine va_iast hx hb hK hP hD hS 7 6 rfl rfl (ai_in bx90.1 bx90.2 (by decide) (by decide)) dX8_layRoute_98 (fun H locs hP hD hS => ?_)
                          obtain ⟨f98, ef98⟩ : ∃ g9 : Nat → Int32, g9 = upd j71a0_33_a (x90 : Int32).toNatClampNeg r95 := ⟨_, rfl⟩
                          refine zs_7 (y := (a0_33, .inl (ka0_33, 620, .inl (f98)))) hP hD (by rw [ef98]) (fun hP hD => ?_)
                          obtain ⟨x99, ex99⟩ : ∃ y : Int32, y = j71l3 + Int32.ofInt 1 := ⟨_, rfl⟩
                          have qx99 : x99.toInt = j71l3.toInt + 1 := ai_inc ex99 (by decide) (by decide) u78f_j71l3 (by decide)
                          have bx99 : (1 : Int) ≤ x99.toInt ∧ x99.toInt ≤ 9 := ⟨by rw [qx99]; exact Int.add_le_add bj71l3_l (Int.le_refl _), by rw [qx99]; exact Int.add_le_add u78f_j71l3 (Int.le_refl _)⟩
                          refine lv_iinc (v := x99) (lv' := [(3, .int x99), (0, .ref a0), (2, .int j65l2)]) hx hb dX8_layRoute_99 hl (k := 2) rfl ex99.symm (by decide) rfl (fun ls hl => ?_)
                          refine lv_goto (tgt := 71) hx hb dX8_layRoute_102 (by decide) ?_
                          exact (hK0 _ _ _).mp (ih71 x99 f98 _ _ _ (by have h0 := qx99; omega) (Int.le_trans zq4 bx99.1) bx99.2 hP hD hS (lv_sub hl [1, 2, 0] rfl))
                    exact (hK0 _ _ _).mp (J71 10 0 j65a0_33_a _ _ _ (by have h1 : (0 : Int) ≤ (0 : Int32).toInt := zq5; have h2 : (0 : Int32).toInt ≤ (0 : Int) := zq6; omega) zq5 (Int.le_trans zq6 zq7) hP hD hS (lv_sub hl [1, 2, 0] rfl))
              exact (hK0 _ _ _).mp (J65 61 x63 j37a0_33_a _ _ _ (by have h1 : (0 : Int) ≤ x63.toInt := bx63.1; have h2 : x63.toInt ≤ (59 : Int) := bx63.2; omega) (Int.le_trans zq69 bx63.1) bx63.2 hP hD hS (lv_sub hl [1, 0] rfl))
            · have gc40 := ai_nle c40
              have u40f_j37l2 : j37l2.toInt ≤ (8 : Int) := ai_lthi gc40 zq3
              refine lv_aload_n hx hb dX8_layRoute_43 rfl (lv_at hl 0 rfl) ?_
              refine va_get (D := (dC, dI)) (ci := 8) (v := .ref a0_33) (C := RX8) (T := TX8) (N := 40) hx hb hts zi_X8_layRoute_8 hown hK hP 0 rfl rfl 33 (by decide) (hts (.fieldLink RX8 50 "WaxTurnsModel" "with" "[I") (zm_X8_layRoute_r1 (List.mem_of_getElem? (i := 3) rfl))) (fun _ h9 => h9) rfl dX8_layRoute_44 ?_
              refine lv_bipush (v := 10) hx hb dX8_layRoute_47 zk_bipush_10 ?_
              refine lv_iload_n hx hb dX8_layRoute_49 rfl (lv_at hl 1 rfl) ?_
              refine lv_imul hx hb dX8_layRoute_50 ?_
              refine lv_topi (fun x50 ex50 => ?_)
              have qx50 : x50.toInt = (10 : Int32).toInt * a1.toInt ∧ (10 : Int) ≤ x50.toInt ∧ x50.toInt ≤ 600 := ai_mul ex50 ⟨zq26, zq27⟩ ⟨ba1_l, u8t_a1⟩ (by decide) (by decide) zq195
              have wx50 : x50.toInt = 10 * a1.toInt := qx50.1
              refine lv_iload_n hx hb dX8_layRoute_51 rfl (lv_at hl 2 rfl) ?_
              refine lv_iadd hx hb dX8_layRoute_52 ?_
              refine lv_topi (fun x52 ex52 => ?_)
              have qx52 : x52.toInt = x50.toInt + j37l2.toInt := ai_add ex52 ⟨qx50.2.1, qx50.2.2⟩ ⟨bj37l2_l, u40f_j37l2⟩ (by decide) (by decide)
              have bx52 : (10 : Int) ≤ x52.toInt ∧ x52.toInt ≤ 608 := ⟨by rw [qx52]; exact Int.add_le_add qx50.2.1 bj37l2_l, by rw [qx52]; exact Int.add_le_add qx50.2.2 u40f_j37l2⟩
              refine lv_iconst (v := 0) hx hb dX8_layRoute_53 zk_iconst_0 ?_
              refine va_iast hx hb hK hP hD hS 7 6 rfl rfl (ai_in bx52.1 bx52.2 (by decide) (by decide)) dX8_layRoute_54 (fun H locs hP hD hS => ?_)
              obtain ⟨f54, ef54⟩ : ∃ g9 : Nat → Int32, g9 = upd j37a0_33_a (x52 : Int32).toNatClampNeg (0 : Int32) := ⟨_, rfl⟩
              refine zs_7 (y := (a0_33, .inl (ka0_33, 620, .inl (f54)))) hP hD (by rw [ef54]) (fun hP hD => ?_)
              obtain ⟨x55, ex55⟩ : ∃ y : Int32, y = j37l2 + Int32.ofInt 1 := ⟨_, rfl⟩
              have qx55 : x55.toInt = j37l2.toInt + 1 := ai_inc ex55 (by decide) (by decide) u40f_j37l2 (by decide)
              have bx55 : (1 : Int) ≤ x55.toInt ∧ x55.toInt ≤ 9 := ⟨by rw [qx55]; exact Int.add_le_add bj37l2_l (Int.le_refl _), by rw [qx55]; exact Int.add_le_add u40f_j37l2 (Int.le_refl _)⟩
              refine lv_iinc (v := x55) (lv' := [(2, .int x55), (0, .ref a0), (1, .int a1)]) hx hb dX8_layRoute_55 hl (k := 2) rfl ex55.symm (by decide) rfl (fun ls hl => ?_)
              refine lv_goto (tgt := 37) hx hb dX8_layRoute_58 (by decide) ?_
              exact (hK0 _ _ _).mp (ih37 x55 f54 _ _ _ (by have h0 := qx55; omega) (Int.le_trans zq4 bx55.1) bx55.2 hP hD hS (lv_sub hl [1, 2, 0] rfl))
        exact (hK0 _ _ _).mp (J37 10 0 fa0_33 _ _ _ (by have h1 : (0 : Int) ≤ (0 : Int32).toInt := zq5; have h2 : (0 : Int32).toInt ≤ (0 : Int) := zq6; omega) zq5 (Int.le_trans zq6 zq7) hP hD hS (lv_sub hl [1, 2, 0] rfl))
      · have gc8 := ai_nlt c8
        have u8f_j6l2 : j6l2.toInt ≤ (60 : Int) := Int.le_trans gc8 ba1_u
        have l8f_a1 : (1 : Int) ≤ a1.toInt := ba1_l
        refine lv_aload_n hx hb dX8_layRoute_11 rfl (lv_at hl 0 rfl) ?_
        refine lv_aload_n hx hb dX8_layRoute_12 rfl (lv_at hl 0 rfl) ?_
        refine va_get (D := (dC, dI)) (ci := 8) (v := .ref a0_18) (C := RX8) (T := TX8) (N := 40) hx hb hts zi_X8_layRoute_8 hown hK hP 0 rfl rfl 18 (by decide) (hts (.fieldLink RX8 29 "WaxTurnsModel" "trial" "[I") (zm_X8_layRoute_r1 (List.mem_of_getElem? (i := 0) rfl))) (fun _ h9 => h9) rfl dX8_layRoute_13 ?_
        refine zc_cutc (wc := [(a0, .inr (8, [a0g_0, a0g_1, a0g_2, a0g_3, a0g_4, a0g_5, a0g_6, a0g_7, a0g_8, a0g_9, a0g_10, a0g_11, a0g_12, a0g_13, a0g_14, Value.ref a0_15, a0g_16, Value.ref a0_17, Value.ref a0_18, a0g_19, a0g_20, a0g_21, a0g_22, Value.ref a0_23, Value.ref a0_24, Value.int v1na0_25, Value.int j6a0_26, Value.int j6a0_27, Value.int j6a0_28, a0g_29, a0g_30, a0g_31, Value.ref a0_32, Value.ref a0_33, a0g_34, a0g_35, a0g_36, a0g_37, a0g_38, a0g_39])), (a0_18, .inl (ka0_18, 23, .inl (j6a0_18_a))), (a0_15, .inl (ka0_15, 156, .inl (fa0_15))), (a0_24, .inl (ka0_24, 3, .inl (v1nfa0_24))), (a0_23, .inl (ka0_23, 3, .inl (v1nfa0_23)))]) hP hD hS hA [0, 5, 1, 3, 2] (by decide +kernel) rfl (fun hPc hDc hFc hCc => ?_)
        have hKc := hK.sub (tys' := [(ka0_18, .int), (ka0_15, .int), (ka0_24, .int), (ka0_23, .int)]) [4, 0, 2, 1] rfl
        refine va_callv (va_runV (As := [.ref a0_18]) (rest := []) ⟨hx, hb, hml, hown, hts⟩ (c_X8_minuteOn l dC dI H.size a0 a0_18 a0g_0 a0g_1 a0g_2 a0g_3 a0g_4 a0g_5 a0g_6 a0g_7 a0g_8 a0g_9 a0g_10 a0g_11 a0g_12 a0g_13 a0g_14 a0g_16 (Value.ref a0_17) (Value.ref a0_18) a0g_19 a0g_20 a0g_21 a0g_22 a0g_29 a0g_30 a0g_31 (Value.ref a0_32) (Value.ref a0_33) a0g_34 a0g_35 a0g_36 a0g_37 a0g_38 a0g_39 a0_15 a0_23 a0_24 v1na0_25 j6a0_26 j6a0_27 j6a0_28 ka0_18 j6a0_18_a ka0_15 fa0_15 ka0_24 v1nfa0_24 ka0_23 v1nfa0_23 bj6a0_18_a bfa0_15 bv1nfa0_24 bv1nfa0_23 hkm) (cwV 1 hts gX8_layRoute_X8_minuteOn rfl rfl rfl zd_X8_minuteOn ⟨Nat.le_of_ble_eq_true rfl, Nat.le_of_ble_eq_true rfl⟩) ⟨ax_blind (fun _ _ _ _ _ => trivial), zr_8 hKc hPc (q0 := 0) rfl, ax_pre hPc hKc hDc (fun _ _ => trivial)⟩ rfl rfl hl.1 rfl (lv_room (Nat.le_of_ble_eq_true rfl)) dX8_layRoute_16 ⟨Nat.le_of_ble_eq_true rfl, Nat.le_of_ble_eq_true rfl⟩) hS (fun q _ h => hFc q h) hFc (fun u t H locs ht hvm hw hB hz1 hk1 hS => zx_4 hB (fun v16na0_26 v16na0_27 v16na0_28 v16nfa1 hB => zy_1 hB (fun bv16nfa1 hB => zo hB ht (fun hP1 hK1 hD1 => ?_))))
        refine zc_backc (w := [(a0, .inr (8, [a0g_0, a0g_1, a0g_2, a0g_3, a0g_4, a0g_5, a0g_6, a0g_7, a0g_8, a0g_9, a0g_10, a0g_11, a0g_12, a0g_13, a0g_14, Value.ref a0_15, a0g_16, Value.ref a0_17, Value.ref a0_18, a0g_19, a0g_20, a0g_21, a0g_22, Value.ref a0_23, Value.ref a0_24, Value.int v1na0_25, Value.int v16na0_26, Value.int v16na0_27, Value.int v16na0_28, a0g_29, a0g_30, a0g_31, Value.ref a0_32, Value.ref a0_33, a0g_34, a0g_35, a0g_36, a0g_37, a0g_38, a0g_39])), (a0_15, .inl (ka0_15, 156, .inl (fa0_15))), (a0_23, .inl (ka0_23, 3, .inl (v1nfa0_23))), (a0_24, .inl (ka0_24, 3, .inl (v1nfa0_24))), (a0_17, .inl (ka0_17, 23, .inl (fa0_17))), (a0_18, .inl (ka0_18, 23, .inl (v16nfa1))), (a0_32, .inl (ka0_32, 61, .inl (j6a0_32_a))), (a0_33, .inl (ka0_33, 620, .inl (fa0_33)))]) hP hD hCc hk1 hFc hP1 hD1 [.inr 0, .inr 2, .inr 4, .inr 3, .inl 4, .inr 1, .inl 6, .inl 7] (by decide +kernel) rfl (fun hP hD => ?_)
        refine lv_aload_n hx hb dX8_layRoute_19 rfl (lv_at hl 0 rfl) ?_
        refine va_get (D := (dC, dI)) (ci := 8) (v := .ref a0_32) (C := RX8) (T := TX8) (N := 40) hx hb hts zi_X8_layRoute_8 hown hK hP 0 rfl rfl 32 (by decide) (hts (.fieldLink RX8 47 "WaxTurnsModel" "liveAt" "[I") (zm_X8_layRoute_r1 (List.mem_of_getElem? (i := 1) rfl))) (fun _ h9 => h9) rfl dX8_layRoute_20 ?_
        refine lv_iload_n hx hb dX8_layRoute_23 rfl (lv_at hl 2 rfl) ?_
        refine lv_aload_n hx hb dX8_layRoute_24 rfl (lv_at hl 0 rfl) ?_
        refine va_get (D := (dC, dI)) (ci := 8) (v := .int v16na0_27) (C := RX8) (T := TX8) (N := 40) hx hb hts zi_X8_layRoute_8 hown hK hP 0 rfl rfl 27 (by decide) (hts (.fieldLink RX8 261 "WaxTurnsModel" "livedAt" "I") (zm_X8_layRoute_r1 (List.mem_of_getElem? (i := 2) rfl))) (fun _ h9 => h9) rfl dX8_layRoute_25 ?_
        refine va_iast hx hb hK hP hD hS 6 5 rfl rfl (ai_in bj6l2_l u8f_j6l2 (by decide) (by decide)) dX8_layRoute_28 (fun H locs hP hD hS => ?_)
        obtain ⟨f28, ef28⟩ : ∃ g9 : Nat → Int32, g9 = upd j6a0_32_a (j6l2 : Int32).toNatClampNeg v16na0_27 := ⟨_, rfl⟩
        refine zs_6 (y := (a0_32, .inl (ka0_32, 61, .inl (f28)))) hP hD (by rw [ef28]) (fun hP hD => ?_)
        obtain ⟨x29, ex29⟩ : ∃ y : Int32, y = j6l2 + Int32.ofInt 1 := ⟨_, rfl⟩
        have qx29 : x29.toInt = j6l2.toInt + 1 := ai_inc ex29 (by decide) (by decide) u8f_j6l2 (by decide)
        have bx29 : (2 : Int) ≤ x29.toInt ∧ x29.toInt ≤ 61 := ⟨by rw [qx29]; exact Int.add_le_add bj6l2_l (Int.le_refl _), by rw [qx29]; exact Int.add_le_add u8f_j6l2 (Int.le_refl _)⟩
        refine lv_iinc (v := x29) (lv' := [(2, .int x29), (0, .ref a0), (1, .int a1)]) hx hb dX8_layRoute_29 hl (k := 2) rfl ex29.symm (by decide) rfl (fun ls hl => ?_)
        refine lv_goto (tgt := 6) hx hb dX8_layRoute_32 (by decide) ?_
        exact (hK0 _ _ _).mp (ih6 x29 v16na0_26 v16na0_27 v16na0_28 v16nfa1 f28 _ _ _ (by have h0 := qx29; omega) (Int.le_trans zq54 bx29.1) (Int.le_trans bx29.2 zq61) bv16nfa1 hP hD hS (lv_sub hl [1, 2, 0] rfl))
  exact (hK0 _ _ _).mp (J6 80 1 a0_26 a0_27 a0_28 v1nfa0_18 fa0_32 _ _ _ (by have h1 : (1 : Int) ≤ (1 : Int32).toInt := zq1; have h2 : (1 : Int32).toInt ≤ (1 : Int) := zq0; omega) zq1 (Int.le_trans zq0 zq62) bv1nfa0_18 hP hD hS (lv_sub hl [1, 2, 0] rfl))
end P260_00_safe
