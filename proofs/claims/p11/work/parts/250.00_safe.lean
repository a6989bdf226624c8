set_option maxHeartbeats 4000000 in
set_option maxRecDepth 100000 in
theorem c_X8_turnBy (l : Launch) (dC : Nat → ClassId) (dI : Nat → Nat → Nat) (sz : Nat) (a0 : Nat) (a1 : Int32) (a2 : Int32) (a3 : Int32) (a4 : Int32) (a0g_0 a0g_1 a0g_2 a0g_3 a0g_4 a0g_5 a0g_6 a0g_7 a0g_8 a0g_9 a0g_10 a0g_11 a0g_12 a0g_13 a0g_14 a0g_16 a0g_17 a0g_18 a0g_19 a0g_20 a0g_21 a0g_22 a0g_23 a0g_24 a0g_25 a0g_26 a0g_27 a0g_28 a0g_29 a0g_30 a0g_31 a0g_32 a0g_33 a0g_35 a0g_36 a0g_37 a0g_38 a0g_39 : Value) (a0_15 : Nat) (a0_34 : Nat) (ka0_34 : ClassId) (fa0_34 : Nat → Int32) (ka0_15 : ClassId) (fa0_15 : Nat → Int32) (ba1_l : (0 : Int) ≤ a1.toInt) (ba1_u : a1.toInt ≤ (999 : Int)) (ba2_l : (0 : Int) ≤ a2.toInt) (ba2_u : a2.toInt ≤ (8 : Int)) (ba3_l : (0 : Int) ≤ a3.toInt) (ba3_u : a3.toInt ≤ (8 : Int)) (ba4_l : (0 : Int) ≤ a4.toInt) (ba4_u : a4.toInt ≤ (999 : Int)) (bfa0_15 : ((∀ k : Nat, 0 ≤ k → k ≤ 0 → (2 : Int) ≤ (fa0_15 k).toInt ∧ (fa0_15 k).toInt ≤ 9) ∧ (∀ k : Nat, 1 ≤ k → k ≤ 1 → (1 : Int) ≤ (fa0_15 k).toInt ∧ (fa0_15 k).toInt ≤ 20) ∧ (∀ k : Nat, 2 ≤ k → k ≤ 2 → (0 : Int) ≤ (fa0_15 k).toInt ∧ (fa0_15 k).toInt ≤ 8) ∧ (∀ k : Nat, 3 ≤ k → k ≤ 3 → (0 : Int) ≤ (fa0_15 k).toInt ∧ (fa0_15 k).toInt ≤ 100) ∧ (∀ k : Nat, 4 ≤ k → k ≤ 4 → (0 : Int) ≤ (fa0_15 k).toInt ∧ (fa0_15 k).toInt ≤ 9) ∧ (∀ k : Nat, 5 ≤ k → k ≤ 5 → (0 : Int) ≤ (fa0_15 k).toInt ∧ (fa0_15 k).toInt ≤ 3) ∧ (∀ k : Nat, 6 ≤ k → k ≤ 6 → (0 : Int) ≤ (fa0_15 k).toInt ∧ (fa0_15 k).toInt ≤ 6) ∧ (∀ k : Nat, 7 ≤ k → k ≤ 9 → (0 : Int) ≤ (fa0_15 k).toInt ∧ (fa0_15 k).toInt ≤ 8) ∧ (∀ k : Nat, 12 ≤ k → k ≤ 29 → (0 : Int) ≤ (fa0_15 k).toInt ∧ (fa0_15 k).toInt ≤ 20) ∧ (∀ k : Nat, 30 ≤ k → k ≤ 35 → (0 : Int) ≤ (fa0_15 k).toInt ∧ (fa0_15 k).toInt ≤ 8) ∧ (∀ k : Nat, 36 ≤ k → k ≤ 47 → (0 : Int) ≤ (fa0_15 k).toInt ∧ (fa0_15 k).toInt ≤ 999))) : Met l yX8_turnBy wsX8_turnBy ({ frames := 0, cells := 0, slots := 0, locals := 0 }) (va_Pc [.ref a0, .int a1, .int a2, .int a3, .int a4] (ax_C dC dI sz [(a0, .inr (8, [a0g_0, a0g_1, a0g_2, a0g_3, a0g_4, a0g_5, a0g_6, a0g_7, a0g_8, a0g_9, a0g_10, a0g_11, a0g_12, a0g_13, a0g_14, Value.ref a0_15, a0g_16, a0g_17, a0g_18, a0g_19, a0g_20, a0g_21, a0g_22, a0g_23, a0g_24, a0g_25, a0g_26, a0g_27, a0g_28, a0g_29, a0g_30, a0g_31, a0g_32, a0g_33, Value.ref a0_34, a0g_35, a0g_36, a0g_37, a0g_38, a0g_39])), (a0_34, .inl (ka0_34, 9, .inl (fa0_34))), (a0_15, .inl (ka0_15, 156, .inl (fa0_15)))] [(ka0_34, .int), (ka0_15, .int)] (fun _ => True))) (va_Qi (fun (r : Int32) (_ : Unit) => ((0 : Int) ≤ r.toInt ∧ r.toInt ≤ 8) ∧ (a1.toInt = 0 → a2.toInt = a3.toInt → a3.toInt < (fa0_15 0).toInt → r.toInt = a3.toInt)) (fun (_ : Unit) (t : State) => ∃ nfa0_34 : Nat → Int32, ax_B dC dI (va_A [(a0, .inr (8, [a0g_0, a0g_1, a0g_2, a0g_3, a0g_4, a0g_5, a0g_6, a0g_7, a0g_8, a0g_9, a0g_10, a0g_11, a0g_12, a0g_13, a0g_14, Value.ref a0_15, a0g_16, a0g_17, a0g_18, a0g_19, a0g_20, a0g_21, a0g_22, a0g_23, a0g_24, a0g_25, a0g_26, a0g_27, a0g_28, a0g_29, a0g_30, a0g_31, a0g_32, a0g_33, Value.ref a0_34, a0g_35, a0g_36, a0g_37, a0g_38, a0g_39])), (a0_34, .inl (ka0_34, 9, .inl (fa0_34))), (a0_15, .inl (ka0_15, 156, .inl (fa0_15)))] sz) [(a0, .inr (8, [a0g_0, a0g_1, a0g_2, a0g_3, a0g_4, a0g_5, a0g_6, a0g_7, a0g_8, a0g_9, a0g_10, a0g_11, a0g_12, a0g_13, a0g_14, Value.ref a0_15, a0g_16, a0g_17, a0g_18, a0g_19, a0g_20, a0g_21, a0g_22, a0g_23, a0g_24, a0g_25, a0g_26, a0g_27, a0g_28, a0g_29, a0g_30, a0g_31, a0g_32, a0g_33, Value.ref a0_34, a0g_35, a0g_36, a0g_37, a0g_38, a0g_39])), (a0_34, .inl (ka0_34, 9, .inl (nfa0_34))), (a0_15, .inl (ka0_15, 156, .inl (fa0_15)))] [(ka0_34, .int), (ka0_15, .int)] t) (va_A [(a0, .inr (8, [a0g_0, a0g_1, a0g_2, a0g_3, a0g_4, a0g_5, a0g_6, a0g_7, a0g_8, a0g_9, a0g_10, a0g_11, a0g_12, a0g_13, a0g_14, Value.ref a0_15, a0g_16, a0g_17, a0g_18, a0g_19, a0g_20, a0g_21, a0g_22, a0g_23, a0g_24, a0g_25, a0g_26, a0g_27, a0g_28, a0g_29, a0g_30, a0g_31, a0g_32, a0g_33, Value.ref a0_34, a0g_35, a0g_36, a0g_37, a0g_38, a0g_39])), (a0_34, .inl (ka0_34, 9, .inl (fa0_34))), (a0_15, .inl (ka0_15, 156, .inl (fa0_15)))] sz)) 0 0 (va_A [(a0, .inr (8, [a0g_0, a0g_1, a0g_2, a0g_3, a0g_4, a0g_5, a0g_6, a0g_7, a0g_8, a0g_9, a0g_10, a0g_11, a0g_12, a0g_13, a0g_14, Value.ref a0_15, a0g_16, a0g_17, a0g_18, a0g_19, a0g_20, a0g_21, a0g_22, a0g_23, a0g_24, a0g_25, a0g_26, a0g_27, a0g_28, a0g_29, a0g_30, a0g_31, a0g_32, a0g_33, Value.ref a0_34, a0g_35, a0g_36, a0g_37, a0g_38, a0g_39])), (a0_34, .inl (ka0_34, 9, .inl (fa0_34))), (a0_15, .inl (ka0_15, 156, .inl (fa0_15)))] sz) := by
  refine Met.ofW (cc := cX8_turnBy) (maxL := 9) (ret := (some .int)) (by decide) rfl ?_
  intro p e s m args below meth c s₁ B hml hv
  obtain ⟨rfl, hsz, hP, hK, hD0, hE⟩ := hv
  have hx := B.exec
  have hb := B.bytes
  have hr := B.returns
  have hts := atoms_spec (ws := wsX8_turnBy) B.pre
  have hown : s.vm.findClass RX8 = some m.cls := findClass_of_methodNamed B.named
  have hlocks := B.notSynchronized
  subst hsz
  have hD := hD0.self (sz := s.heap.size)
  generalize hAe : va_A [(a0, .inr (8, [a0g_0, a0g_1, a0g_2, a0g_3, a0g_4, a0g_5, a0g_6, a0g_7, a0g_8, a0g_9, a0g_10, a0g_11, a0g_12, a0g_13, a0g_14, Value.ref a0_15, a0g_16, a0g_17, a0g_18, a0g_19, a0g_20, a0g_21, a0g_22, a0g_23, a0g_24, a0g_25, a0g_26, a0g_27, a0g_28, a0g_29, a0g_30, a0g_31, a0g_32, a0g_33, Value.ref a0_34, a0g_35, a0g_36, a0g_37, a0g_38, a0g_39])), (a0_34, .inl (ka0_34, 9, .inl (fa0_34))), (a0_15, .inl (ka0_15, 156, .inl (fa0_15)))] s.heap.size = A at hD ⊢
  have hA : ∀ q : Nat, s.heap.size ≤ q → A q := fun q h => by rw [← hAe]; exact Or.inr h
  have hS : va_S A s.heap s.heap [] := va_S.rf
  have hP : va_P (dC, dI) vwCl [(a0, .inr (8, [a0g_0, a0g_1, a0g_2, a0g_3, a0g_4, a0g_5, a0g_6, a0g_7, a0g_8, a0g_9, a0g_10, a0g_11, a0g_12, a0g_13, a0g_14, Value.ref a0_15, a0g_16, a0g_17, a0g_18, a0g_19, a0g_20, a0g_21, a0g_22, a0g_23, a0g_24, a0g_25, a0g_26, a0g_27, a0g_28, a0g_29, a0g_30, a0g_31, a0g_32, a0g_33, Value.ref a0_34, a0g_35, a0g_36, a0g_37, a0g_38, a0g_39])), (a0_34, .inl (ka0_34, 9, .inl (fa0_34))), (a0_15, .inl (ka0_15, 156, .inl (fa0_15)))] s.heap := hP
  have hl := lv_entry ([.ref a0, .int a1, .int a2, .int a3, .int a4]) (n := 9) (Nat.le_of_ble_eq_true rfl)
  rw [lg_entry_eq]
  generalize (lg_sl ([.ref a0, .int a1, .int a2, .int a3, .int a4]) ++ List.replicate (9 - (lg_sl ([.ref a0, .int a1, .int a2, .int a3, .int a4])).length) Slot.unset).toArray = ls at hl ⊢
  have hl : lv_has ls 9 [(0, .ref a0), (1, .int a1), (2, .int a2), (3, .int a3), (4, .int a4)] := hl
  refine ai_open (fun K hK0 => ?_)
  refine (hK0 _ _ _).mpr ?_
  refine lv_iconst (v := 0) hx hb dX8_turnBy_0 zk_iconst_0 ?_
  refine lv_istore (lv' := [(5, .int 0), (0, .ref a0), (1, .int a1), (2, .int a2), (3, .int a3), (4, .int a4)]) hx hb dX8_turnBy_1 hl (by decide) rfl (fun ls hl => ?_)
  have J3 : ∀ (n : Nat) (j3l5 : Int32) (j3a0_34_a : Nat → Int32) (H : Heap) (locs : List Loc) (ls : Array Slot), (10 : Int) - j3l5.toInt ≤ (n : Int) → (0 : Int) ≤ j3l5.toInt → j3l5.toInt ≤ (9 : Int) → (∀ i : Nat, i < j3l5.toNatClampNeg → (j3a0_34_a i).toInt = -1) → va_P (dC, dI) vwCl [(a0, .inr (8, [a0g_0, a0g_1, a0g_2, a0g_3, a0g_4, a0g_5, a0g_6, a0g_7, a0g_8, a0g_9, a0g_10, a0g_11, a0g_12, a0g_13, a0g_14, Value.ref a0_15, a0g_16, a0g_17, a0g_18, a0g_19, a0g_20, a0g_21, a0g_22, a0g_23, a0g_24, a0g_25, a0g_26, a0g_27, a0g_28, a0g_29, a0g_30, a0g_31, a0g_32, a0g_33, Value.ref a0_34, a0g_35, a0g_36, a0g_37, a0g_38, a0g_39])), (a0_34, .inl (ka0_34, 9, .inl (j3a0_34_a))), (a0_15, .inl (ka0_15, 156, .inl (fa0_15)))] H → va_D A [(a0, .inr (8, [a0g_0, a0g_1, a0g_2, a0g_3, a0g_4, a0g_5, a0g_6, a0g_7, a0g_8, a0g_9, a0g_10, a0g_11, a0g_12, a0g_13, a0g_14, Value.ref a0_15, a0g_16, a0g_17, a0g_18, a0g_19, a0g_20, a0g_21, a0g_22, a0g_23, a0g_24, a0g_25, a0g_26, a0g_27, a0g_28, a0g_29, a0g_30, a0g_31, a0g_32, a0g_33, Value.ref a0_34, a0g_35, a0g_36, a0g_37, a0g_38, a0g_39])), (a0_34, .inl (ka0_34, 9, .inl (j3a0_34_a))), (a0_15, .inl (ka0_15, 156, .inl (fa0_15)))] → va_S A s.heap H locs → lv_has ls 9 [(0, .ref a0), (1, .int a1), (2, .int a2), (3, .int a3), (4, .int a4), (5, .int j3l5)] → K H locs (F0 m 3 ls []) := by
    intro n
    induction n with
    | zero =>
      intro j3l5 j3a0_34_a H locs ls hm bj3l5_l bj3l5_u mf3 hP hD hS hl
      have h8 := ai_min j3l5
      have h9 := ai_max j3l5
      exact absurd hm (by omega)
    | succ n ih3 =>
      intro j3l5 j3a0_34_a H locs ls hm bj3l5_l bj3l5_u mf3 hP hD hS hl
      refine (hK0 _ _ _).mpr ?_
      have hm3 := hm
      refine lv_iload hx hb dX8_turnBy_3 (lv_at hl 5 rfl) ?_
      refine lv_bipush (v := 9) hx hb dX8_turnBy_5 zk_bipush_9 ?_
      refine lv_icmp_ge (tgt := 24) hx hb dX8_turnBy_7 (by decide) (fun c7 => ?_) (fun c7 => ?_)
      · have gc7 := ai_le c7
        have l7t_j3l5 : (9 : Int) ≤ j3l5.toInt := Int.le_trans zq2 gc7
        refine lv_iload_n hx hb dX8_turnBy_24 rfl (lv_at hl 3 rfl) ?_
        refine lv_istore (lv' := [(5, .int a3), (0, .ref a0), (1, .int a1), (2, .int a2), (3, .int a3), (4, .int a4)]) hx hb dX8_turnBy_25 hl (by decide) rfl (fun ls hl => ?_)
        refine lv_iconst (v := 0) hx hb dX8_turnBy_27 zk_iconst_0 ?_
        refine lv_istore (lv' := [(6, .int 0), (5, .int a3), (0, .ref a0), (1, .int a1), (2, .int a2), (3, .int a3), (4, .int a4)]) hx hb dX8_turnBy_28 hl (by decide) rfl (fun ls hl => ?_)
        have J30 : ∀ (n : Nat) (j30l6 : Int32) (j30l5 : Int32) (j30a0_34_a : Nat → Int32) (H : Heap) (locs : List Loc) (ls : Array Slot), (1000 : Int) - j30l6.toInt ≤ (n : Int) → (0 : Int) ≤ j30l6.toInt → j30l6.toInt ≤ (999 : Int) → (0 : Int) ≤ j30l5.toInt → j30l5.toInt ≤ (8 : Int) → (tb_M j30a0_34_a j30l6.toInt) → ((a1.toInt = 0 → a2.toInt = a3.toInt → a3.toInt < (fa0_15 0).toInt → j30l5.toInt = a3.toInt)) → va_P (dC, dI) vwCl [(a0, .inr (8, [a0g_0, a0g_1, a0g_2, a0g_3, a0g_4, a0g_5, a0g_6, a0g_7, a0g_8, a0g_9, a0g_10, a0g_11, a0g_12, a0g_13, a0g_14, Value.ref a0_15, a0g_16, a0g_17, a0g_18, a0g_19, a0g_20, a0g_21, a0g_22, a0g_23, a0g_24, a0g_25, a0g_26, a0g_27, a0g_28, a0g_29, a0g_30, a0g_31, a0g_32, a0g_33, Value.ref a0_34, a0g_35, a0g_36, a0g_37, a0g_38, a0g_39])), (a0_34, .inl (ka0_34, 9, .inl (j30a0_34_a))), (a0_15, .inl (ka0_15, 156, .inl (fa0_15)))] H → va_D A [(a0, .inr (8, [a0g_0, a0g_1, a0g_2, a0g_3, a0g_4, a0g_5, a0g_6, a0g_7, a0g_8, a0g_9, a0g_10, a0g_11, a0g_12, a0g_13, a0g_14, Value.ref a0_15, a0g_16, a0g_17, a0g_18, a0g_19, a0g_20, a0g_21, a0g_22, a0g_23, a0g_24, a0g_25, a0g_26, a0g_27, a0g_28, a0g_29, a0g_30, a0g_31, a0g_32, a0g_33, Value.ref a0_34, a0g_35, a0g_36, a0g_37, a0g_38, a0g_39])), (a0_34, .inl (ka0_34, 9, .inl (j30a0_34_a))), (a0_15, .inl (ka0_15, 156, .inl (fa0_15)))] → va_S A s.heap H locs → lv_has ls 9 [(0, .ref a0), (1, .int a1), (2, .int a2), (4, .int a4), (5, .int j30l5), (6, .int j30l6)] → K H locs (F0 m 30 ls []) := by
          intro n
          induction n with
          | zero =>
            intro j30l6 j30l5 j30a0_34_a H locs ls hm bj30l6_l bj30l6_u bj30l5_l bj30l5_u tm30 tc30 hP hD hS hl
            have h8 := ai_min j30l6
            have h9 := ai_max j30l6
            exact absurd hm (by omega)
          | succ n ih30 =>
            intro j30l6 j30l5 j30a0_34_a H locs ls hm bj30l6_l bj30l6_u bj30l5_l bj30l5_u tm30 tc30 hP hD hS hl
            refine (hK0 _ _ _).mpr ?_
            have hm30 := hm
            refine lv_iload hx hb dX8_turnBy_30 (lv_at hl 5 rfl) ?_
            refine lv_iload hx hb dX8_turnBy_32 (lv_at hl 3 rfl) ?_
            have J77 : ∀ (H : Heap) (locs : List Loc) (ls : Array Slot), va_P (dC, dI) vwCl [(a0, .inr (8, [a0g_0, a0g_1, a0g_2, a0g_3, a0g_4, a0g_5, a0g_6, a0g_7, a0g_8, a0g_9, a0g_10, a0g_11, a0g_12, a0g_13, a0g_14, Value.ref a0_15, a0g_16, a0g_17, a0g_18, a0g_19, a0g_20, a0g_21, a0g_22, a0g_23, a0g_24, a0g_25, a0g_26, a0g_27, a0g_28, a0g_29, a0g_30, a0g_31, a0g_32, a0g_33, Value.ref a0_34, a0g_35, a0g_36, a0g_37, a0g_38, a0g_39])), (a0_34, .inl (ka0_34, 9, .inl (j30a0_34_a))), (a0_15, .inl (ka0_15, 156, .inl (fa0_15)))] H → va_D A [(a0, .inr (8, [a0g_0, a0g_1, a0g_2, a0g_3, a0g_4, a0g_5, a0g_6, a0g_7, a0g_8, a0g_9, a0g_10, a0g_11, a0g_12, a0g_13, a0g_14, Value.ref a0_15, a0g_16, a0g_17, a0g_18, a0g_19, a0g_20, a0g_21, a0g_22, a0g_23, a0g_24, a0g_25, a0g_26, a0g_27, a0g_28, a0g_29, a0g_30, a0g_31, a0g_32, a0g_33, Value.ref a0_34, a0g_35, a0g_36, a0g_37, a0g_38, a0g_39])), (a0_34, .inl (ka0_34, 9, .inl (j30a0_34_a))), (a0_15, .inl (ka0_15, 156, .inl (fa0_15)))] → va_S A s.heap H locs → lv_has ls 9 [(0, .ref a0), (1, .int a1), (2, .int a2), (4, .int a4), (5, .int j30l5), (6, .int j30l6)] → K H locs (F0 m 77 ls []) := by
              intro  H locs ls   hP hD hS hl
              refine (hK0 _ _ _).mpr ?_
              refine lv_iload hx hb dX8_turnBy_77 (lv_at hl 5 rfl) ?_
              refine lv_iload hx hb dX8_turnBy_79 (lv_at hl 3 rfl) ?_
              have J104 : ∀ (j104s0 : Int32) (H : Heap) (locs : List Loc) (ls : Array Slot), va_P (dC, dI) vwCl [(a0, .inr (8, [a0g_0, a0g_1, a0g_2, a0g_3, a0g_4, a0g_5, a0g_6, a0g_7, a0g_8, a0g_9, a0g_10, a0g_11, a0g_12, a0g_13, a0g_14, Value.ref a0_15, a0g_16, a0g_17, a0g_18, a0g_19, a0g_20, a0g_21, a0g_22, a0g_23, a0g_24, a0g_25, a0g_26, a0g_27, a0g_28, a0g_29, a0g_30, a0g_31, a0g_32, a0g_33, Value.ref a0_34, a0g_35, a0g_36, a0g_37, a0g_38, a0g_39])), (a0_34, .inl (ka0_34, 9, .inl (j30a0_34_a))), (a0_15, .inl (ka0_15, 156, .inl (fa0_15)))] H → va_D A [(a0, .inr (8, [a0g_0, a0g_1, a0g_2, a0g_3, a0g_4, a0g_5, a0g_6, a0g_7, a0g_8, a0g_9, a0g_10, a0g_11, a0g_12, a0g_13, a0g_14, Value.ref a0_15, a0g_16, a0g_17, a0g_18, a0g_19, a0g_20, a0g_21, a0g_22, a0g_23, a0g_24, a0g_25, a0g_26, a0g_27, a0g_28, a0g_29, a0g_30, a0g_31, a0g_32, a0g_33, Value.ref a0_34, a0g_35, a0g_36, a0g_37, a0g_38, a0g_39])), (a0_34, .inl (ka0_34, 9, .inl (j30a0_34_a))), (a0_15, .inl (ka0_15, 156, .inl (fa0_15)))] → va_S A s.heap H locs → lv_has ls 9 [(0, .ref a0), (1, .int a1), (2, .int a2), (5, .int j30l5)] → K H locs (F0 m 104 ls [.int j104s0]) := by
                intro j104s0 H locs ls   hP hD hS hl
                refine (hK0 _ _ _).mpr ?_
                refine lv_istore (lv' := [(7, .int j104s0), (0, .ref a0), (1, .int a1), (2, .int a2), (5, .int j30l5)]) hx hb dX8_turnBy_104 hl (by decide) rfl (fun ls hl => ?_)
                refine lv_iconst (v := 0) hx hb dX8_turnBy_106 zk_iconst_0 ?_
                refine lv_istore (lv' := [(8, .int 0), (7, .int j104s0), (0, .ref a0), (1, .int a1), (2, .int a2), (5, .int j30l5)]) hx hb dX8_turnBy_107 hl (by decide) rfl (fun ls hl => ?_)
                have J109 : ∀ (n : Nat) (j109l8 : Int32) (j109l5 : Int32) (H : Heap) (locs : List Loc) (ls : Array Slot), (2147483648 : Int) - j109l8.toInt ≤ (n : Int) → (0 : Int) ≤ j109l8.toInt → (0 : Int) ≤ j109l5.toInt → j109l5.toInt ≤ (8 : Int) → ((a1.toInt = 0 → a2.toInt = a3.toInt → a3.toInt < (fa0_15 0).toInt → j109l5.toInt = a3.toInt)) → va_P (dC, dI) vwCl [(a0, .inr (8, [a0g_0, a0g_1, a0g_2, a0g_3, a0g_4, a0g_5, a0g_6, a0g_7, a0g_8, a0g_9, a0g_10, a0g_11, a0g_12, a0g_13, a0g_14, Value.ref a0_15, a0g_16, a0g_17, a0g_18, a0g_19, a0g_20, a0g_21, a0g_22, a0g_23, a0g_24, a0g_25, a0g_26, a0g_27, a0g_28, a0g_29, a0g_30, a0g_31, a0g_32, a0g_33, Value.ref a0_34, a0g_35, a0g_36, a0g_37, a0g_38, a0g_39])), (a0_34, .inl (ka0_34, 9, .inl (j30a0_34_a))), (a0_15, .inl (ka0_15, 156, .inl (fa0_15)))] H → va_D A [(a0, .inr (8, [a0g_0, a0g_1, a0g_2, a0g_3, a0g_4, a0g_5, a0g_6, a0g_7, a0g_8, a0g_9, a0g_10, a0g_11, a0g_12, a0g_13, a0g_14, Value.ref a0_15, a0g_16, a0g_17, a0g_18, a0g_19, a0g_20, a0g_21, a0g_22, a0g_23, a0g_24, a0g_25, a0g_26, a0g_27, a0g_28, a0g_29, a0g_30, a0g_31, a0g_32, a0g_33, Value.ref a0_34, a0g_35, a0g_36, a0g_37, a0g_38, a0g_39])), (a0_34, .inl (ka0_34, 9, .inl (j30a0_34_a))), (a0_15, .inl (ka0_15, 156, .inl (fa0_15)))] → va_S A s.heap H locs → lv_has ls 9 [(0, .ref a0), (1, .int a1), (2, .int a2), (5, .int j109l5), (7, .int j104s0), (8, .int j109l8)] → K H locs (F0 m 109 ls []) := by
                  intro n
                  induction n with
                  | zero =>
                    intro j109l8 j109l5 H locs ls hm bj109l8_l bj109l5_l bj109l5_u td109 hP hD hS hl
                    have h8 := ai_min j109l8
                    have h9 := ai_max j109l8
                    exact absurd hm (by omega)
                  | succ n ih109 =>
                    intro j109l8 j109l5 H locs ls hm bj109l8_l bj109l5_l bj109l5_u td109 hP hD hS hl
                    refine (hK0 _ _ _).mpr ?_
                    have hm109 := hm
                    refine lv_iload hx hb dX8_turnBy_109 (lv_at hl 5 rfl) ?_
                    refine lv_iload hx hb dX8_turnBy_111 (lv_at hl 4 rfl) ?_
                    refine lv_icmp_ge (tgt := 137) hx hb dX8_turnBy_113 (by decide) (fun c113 => ?_) (fun c113 => ?_)
                    · have gc113 := ai_le c113
                      refine lv_iload hx hb dX8_turnBy_137 (lv_at hl 3 rfl) ?_
                      exact W.iret (v := j109l5) hx hb hr (fun t ht hW => ⟨⟨j109l5, (), rfl, ⟨⟨bj109l5_l, bj109l5_u⟩, td109⟩, j30a0_34_a, by rw [ht]; exact hP, va_K.moved hW.alike hK, hD⟩, hS.F ht⟩) hS.2.2 dX8_turnBy_139
                    · have gc113 := ai_nle c113
                      have u113f_j109l8 : j109l8.toInt ≤ (2147483646 : Int) := ai_lthi gc113 (ai_max j104s0)
                      have l113f_j104s0 : (1 : Int) ≤ j104s0.toInt := ai_ltlo gc113 bj109l8_l
                      refine lv_iload_n hx hb dX8_turnBy_116 rfl (lv_at hl 1 rfl) ?_
                      refine lv_iload hx hb dX8_turnBy_117 (lv_at hl 3 rfl) ?_
                      refine lv_imul hx hb dX8_turnBy_119 ?_
                      refine lv_topi (fun x119 ex119 => ?_)
                      have qx119 : x119.toInt = a1.toInt * j109l5.toInt ∧ (0 : Int) ≤ x119.toInt ∧ x119.toInt ≤ 7992 := ai_mul ex119 ⟨ba1_l, ba1_u⟩ ⟨bj109l5_l, bj109l5_u⟩ (by decide) (by decide) zq176
                      refine lv_iload_n hx hb dX8_turnBy_120 rfl (lv_at hl 2 rfl) ?_
                      refine lv_iadd hx hb dX8_turnBy_121 ?_
                      refine lv_topi (fun x121 ex121 => ?_)
                      have qx121 : x121.toInt = x119.toInt + a2.toInt := ai_add ex121 ⟨qx119.2.1, qx119.2.2⟩ ⟨ba2_l, ba2_u⟩ (by decide) (by decide)
                      have bx121 : (0 : Int) ≤ x121.toInt ∧ x121.toInt ≤ 8000 := ⟨by rw [qx121]; exact Int.add_le_add qx119.2.1 ba2_l, by rw [qx121]; exact Int.add_le_add qx119.2.2 ba2_u⟩
                      refine lv_aload_n hx hb dX8_turnBy_122 rfl (lv_at hl 0 rfl) ?_
                      refine va_get (D := (dC, dI)) (ci := 8) (v := .ref a0_15) (C := RX8) (T := TX8) (N := 40) hx hb hts zi_X8_turnBy_8 hown hK hP 0 rfl rfl 15 (by decide) (hts (.fieldLink RX8 20 "WaxTurnsModel" "\x72" "[I") (List.mem_cons_of_mem _ (List.mem_append_left _ (List.mem_of_getElem? (i := 1) rfl)))) (fun _ h9 => h9) rfl dX8_turnBy_123 ?_
                      refine lv_iconst (v := 0) hx hb dX8_turnBy_126 zk_iconst_0 ?_
                      refine va_iald hx hb hK hP 2 1 rfl rfl (by unfold vp_in; decide +kernel) dX8_turnBy_127 ?_
                      refine lv_topi (fun x127 ex127 => ?_)
                      have bx127 : (2 : Int) ≤ x127.toInt ∧ x127.toInt ≤ 9 := by rw [ex127]; exact ai_rd bfa0_15.1 zq5 zq6 (by decide) (by decide) (by decide)
                      refine lv_irem hx hb dX8_turnBy_128 (ai_nz bx127.1 (by decide)) ?_
                      refine lv_topi (fun x128 ex128 => ?_)
                      have qx128 := ai_rem2 ex128 bx121.1 (Int.lt_of_lt_of_le zq100 bx127.1) bx127.2
                      refine lv_istore (lv' := [(5, .int x128), (0, .ref a0), (1, .int a1), (2, .int a2), (7, .int j104s0), (8, .int j109l8)]) hx hb dX8_turnBy_129 hl (by decide) rfl (fun ls hl => ?_)
                      obtain ⟨x131, ex131⟩ : ∃ y : Int32, y = j109l8 + Int32.ofInt 1 := ⟨_, rfl⟩
                      have qx131 : x131.toInt = j109l8.toInt + 1 := ai_inc ex131 (by decide) (by decide) u113f_j109l8 (by decide)
                      have bx131 : (1 : Int) ≤ x131.toInt ∧ x131.toInt ≤ 2147483647 := ⟨by rw [qx131]; exact Int.add_le_add bj109l8_l (Int.le_refl _), by rw [qx131]; exact Int.add_le_add u113f_j109l8 (Int.le_refl _)⟩
                      refine lv_iinc (v := x131) (lv' := [(8, .int x131), (5, .int x128), (0, .ref a0), (1, .int a1), (2, .int a2), (7, .int j104s0)]) hx hb dX8_turnBy_131 hl (k := 5) rfl ex131.symm (by decide) rfl (fun ls hl => ?_)
                      refine lv_goto (tgt := 109) hx hb dX8_turnBy_134 (by decide) ?_
                      exact (hK0 _ _ _).mp (ih109 x131 x128 _ _ _ (by have h0 := qx131; omega) (Int.le_trans zq4 bx131.1) qx128.2.1 qx128.2.2 (fun h1 h2 h3 => (tb_c h1 qx119.1 qx121 qx128.1 (by omega) (by have h4 : x127.toInt = (fa0_15 0).toInt := (by rw [ex127]; rfl); omega)).trans h2) hP hD hS (lv_sub hl [2, 3, 4, 1, 5, 0] rfl))
                exact (hK0 _ _ _).mp (J109 2147483648 0 j30l5 _ _ _ (by have h1 : (0 : Int) ≤ (0 : Int32).toInt := zq5; have h2 : (0 : Int32).toInt ≤ (0 : Int) := zq6; omega) zq5 bj30l5_l bj30l5_u tc30 hP hD hS (lv_sub hl [2, 3, 4, 5, 1, 0] rfl))
              refine lv_icmp_ge (tgt := 103) hx hb dX8_turnBy_81 (by decide) (fun c81 => ?_) (fun c81 => ?_)
              · have gc81 := ai_le c81
                have u81t_a4 : a4.toInt ≤ (999 : Int) := ba4_u
                have l81t_j30l6 : (0 : Int) ≤ j30l6.toInt := bj30l6_l
                refine lv_iconst (v := 0) hx hb dX8_turnBy_103 zk_iconst_0 ?_
                exact (hK0 _ _ _).mp (J104 0 _ _ _   hP hD hS (lv_sub hl [0, 1, 2, 4] rfl))
              · have gc81 := ai_nle c81
                have u81f_j30l6 : j30l6.toInt ≤ (998 : Int) := ai_lthi gc81 ba4_u
                have l81f_a4 : (1 : Int) ≤ a4.toInt := ai_ltlo gc81 bj30l6_l
                refine lv_iload hx hb dX8_turnBy_84 (lv_at hl 3 rfl) ?_
                refine lv_iload hx hb dX8_turnBy_86 (lv_at hl 5 rfl) ?_
                refine lv_isub hx hb dX8_turnBy_88 ?_
                refine lv_topi (fun x88 ex88 => ?_)
                have qx88 : x88.toInt = a4.toInt - j30l6.toInt := ai_sub ex88 ⟨l81f_a4, ba4_u⟩ ⟨bj30l6_l, u81f_j30l6⟩ (by decide) (by decide)
                have bx88 : (-997 : Int) ≤ x88.toInt ∧ x88.toInt ≤ 999 := ⟨by rw [qx88]; exact Int.sub_le_sub l81f_a4 u81f_j30l6, by rw [qx88]; exact Int.sub_le_sub ba4_u bj30l6_l⟩
                refine lv_iload hx hb dX8_turnBy_89 (lv_at hl 5 rfl) ?_
                refine lv_aload_n hx hb dX8_turnBy_91 rfl (lv_at hl 0 rfl) ?_
                refine va_get (D := (dC, dI)) (ci := 8) (v := .ref a0_34) (C := RX8) (T := TX8) (N := 40) hx hb hts zi_X8_turnBy_8 hown hK hP 0 rfl rfl 34 (by decide) (hts (.fieldLink RX8 53 "WaxTurnsModel" "metAt" "[I") (List.mem_cons_of_mem _ (List.mem_append_left _ (List.mem_of_getElem? (i := 0) rfl)))) (fun _ h9 => h9) rfl dX8_turnBy_92 ?_
                refine lv_iload hx hb dX8_turnBy_95 (lv_at hl 4 rfl) ?_
                refine va_iald hx hb hK hP 1 0 rfl rfl (ai_in bj30l5_l bj30l5_u (by decide) (by decide)) dX8_turnBy_97 ?_
                refine lv_topi (fun x97 ex97 => ?_)
                have hr97 := tb_r tm30 ex97 bj30l5_l bj30l5_u
                have l97z_x97 : (-1 : Int) ≤ x97.toInt := hr97.1
                have u97z_x97 : x97.toInt ≤ (999 : Int) := by omega
                refine lv_isub hx hb dX8_turnBy_98 ?_
                refine lv_topi (fun x98 ex98 => ?_)
                have qx98 : x98.toInt = j30l6.toInt - x97.toInt := ai_sub ex98 ⟨bj30l6_l, u81f_j30l6⟩ ⟨l97z_x97, u97z_x97⟩ (by decide) (by decide)
                have bx98 : (-999 : Int) ≤ x98.toInt ∧ x98.toInt ≤ 999 := ⟨by rw [qx98]; exact Int.sub_le_sub bj30l6_l u97z_x97, by rw [qx98]; exact Int.sub_le_sub u81f_j30l6 l97z_x97⟩
                have l98z_x98 : (1 : Int) ≤ x98.toInt := by omega
                refine lv_irem hx hb dX8_turnBy_99 (ai_nz l98z_x98 (by decide)) ?_
                refine lv_topi (fun x99 ex99 => ?_)
                refine lv_goto (tgt := 104) hx hb dX8_turnBy_100 (by decide) ?_
                exact (hK0 _ _ _).mp (J104 x99 _ _ _   hP hD hS (lv_sub hl [0, 1, 2, 4] rfl))
            refine lv_icmp_ge (tgt := 77) hx hb dX8_turnBy_34 (by decide) (fun c34 => ?_) (fun c34 => ?_)
            · have gc34 := ai_le c34
              have u34t_a4 : a4.toInt ≤ (999 : Int) := ba4_u
              have l34t_j30l6 : (0 : Int) ≤ j30l6.toInt := bj30l6_l
              exact (hK0 _ _ _).mp (J77  _ _ _   hP hD hS (lv_sub hl [0, 1, 2, 3, 4, 5] rfl))
            · have gc34 := ai_nle c34
              have u34f_j30l6 : j30l6.toInt ≤ (998 : Int) := ai_lthi gc34 ba4_u
              have l34f_a4 : (1 : Int) ≤ a4.toInt := ai_ltlo gc34 bj30l6_l
              refine lv_aload_n hx hb dX8_turnBy_37 rfl (lv_at hl 0 rfl) ?_
              refine va_get (D := (dC, dI)) (ci := 8) (v := .ref a0_34) (C := RX8) (T := TX8) (N := 40) hx hb hts zi_X8_turnBy_8 hown hK hP 0 rfl rfl 34 (by decide) (hts (.fieldLink RX8 53 "WaxTurnsModel" "metAt" "[I") (List.mem_cons_of_mem _ (List.mem_append_left _ (List.mem_of_getElem? (i := 0) rfl)))) (fun _ h9 => h9) rfl dX8_turnBy_38 ?_
              refine lv_iload hx hb dX8_turnBy_41 (lv_at hl 4 rfl) ?_
              refine va_iald hx hb hK hP 1 0 rfl rfl (ai_in bj30l5_l bj30l5_u (by decide) (by decide)) dX8_turnBy_43 ?_
              refine lv_topi (fun x43 ex43 => ?_)
              refine lv_if_ge (tgt := 77) hx hb dX8_turnBy_44 (by decide) (fun c44 => ?_) (fun c44 => ?_)
              · have gc44 := ai_le c44
                have l44t_x43 : (0 : Int) ≤ x43.toInt := Int.le_trans zq5 gc44
                exact (hK0 _ _ _).mp (J77  _ _ _   hP hD hS (lv_sub hl [0, 1, 2, 3, 4, 5] rfl))
              · have gc44 := ai_nle c44
                have u44f_x43 : x43.toInt ≤ (-1 : Int) := ai_lthi gc44 zq6
                refine lv_aload_n hx hb dX8_turnBy_47 rfl (lv_at hl 0 rfl) ?_
                refine va_get (D := (dC, dI)) (ci := 8) (v := .ref a0_34) (C := RX8) (T := TX8) (N := 40) hx hb hts zi_X8_turnBy_8 hown hK hP 0 rfl rfl 34 (by decide) (hts (.fieldLink RX8 53 "WaxTurnsModel" "metAt" "[I") (List.mem_cons_of_mem _ (List.mem_append_left _ (List.mem_of_getElem? (i := 0) rfl)))) (fun _ h9 => h9) rfl dX8_turnBy_48 ?_
                refine lv_iload hx hb dX8_turnBy_51 (lv_at hl 4 rfl) ?_
                refine lv_iload hx hb dX8_turnBy_53 (lv_at hl 5 rfl) ?_
                refine va_iast hx hb hK hP hD hS 1 0 rfl rfl (ai_in bj30l5_l bj30l5_u (by decide) (by decide)) dX8_turnBy_55 (fun H locs hP hD hS => ?_)
                obtain ⟨f55, ef55⟩ : ∃ g9 : Nat → Int32, g9 = upd j30a0_34_a (j30l5 : Int32).toNatClampNeg j30l6 := ⟨_, rfl⟩
                rw [← ef55] at hP hD
                obtain ⟨hP, hD⟩ := zc_re (w := [(a0, .inr (8, [a0g_0, a0g_1, a0g_2, a0g_3, a0g_4, a0g_5, a0g_6, a0g_7, a0g_8, a0g_9, a0g_10, a0g_11, a0g_12, a0g_13, a0g_14, Value.ref a0_15, a0g_16, a0g_17, a0g_18, a0g_19, a0g_20, a0g_21, a0g_22, a0g_23, a0g_24, a0g_25, a0g_26, a0g_27, a0g_28, a0g_29, a0g_30, a0g_31, a0g_32, a0g_33, Value.ref a0_34, a0g_35, a0g_36, a0g_37, a0g_38, a0g_39])), (a0_34, .inl (ka0_34, 9, .inl (f55))), (a0_15, .inl (ka0_15, 156, .inl (fa0_15)))]) hP hD rfl
                refine lv_iload_n hx hb dX8_turnBy_56 rfl (lv_at hl 1 rfl) ?_
                refine lv_iload hx hb dX8_turnBy_57 (lv_at hl 4 rfl) ?_
                refine lv_imul hx hb dX8_turnBy_59 ?_
                refine lv_topi (fun x59 ex59 => ?_)
                have qx59 : x59.toInt = a1.toInt * j30l5.toInt ∧ (0 : Int) ≤ x59.toInt ∧ x59.toInt ≤ 7992 := ai_mul ex59 ⟨ba1_l, ba1_u⟩ ⟨bj30l5_l, bj30l5_u⟩ (by decide) (by decide) zq176
                refine lv_iload_n hx hb dX8_turnBy_60 rfl (lv_at hl 2 rfl) ?_
                refine lv_iadd hx hb dX8_turnBy_61 ?_
                refine lv_topi (fun x61 ex61 => ?_)
                have qx61 : x61.toInt = x59.toInt + a2.toInt := ai_add ex61 ⟨qx59.2.1, qx59.2.2⟩ ⟨ba2_l, ba2_u⟩ (by decide) (by decide)
                have bx61 : (0 : Int) ≤ x61.toInt ∧ x61.toInt ≤ 8000 := ⟨by rw [qx61]; exact Int.add_le_add qx59.2.1 ba2_l, by rw [qx61]; exact Int.add_le_add qx59.2.2 ba2_u⟩
                refine lv_aload_n hx hb dX8_turnBy_62 rfl (lv_at hl 0 rfl) ?_
                refine va_get (D := (dC, dI)) (ci := 8) (v := .ref a0_15) (C := RX8) (T := TX8) (N := 40) hx hb hts zi_X8_turnBy_8 hown hK hP 0 rfl rfl 15 (by decide) (hts (.fieldLink RX8 20 "WaxTurnsModel" "\x72" "[I") (List.mem_cons_of_mem _ (List.mem_append_left _ (List.mem_of_getElem? (i := 1) rfl)))) (fun _ h9 => h9) rfl dX8_turnBy_63 ?_
                refine lv_iconst (v := 0) hx hb dX8_turnBy_66 zk_iconst_0 ?_
                refine va_iald hx hb hK hP 2 1 rfl rfl (by unfold vp_in; decide +kernel) dX8_turnBy_67 ?_
                refine lv_topi (fun x67 ex67 => ?_)
                have bx67 : (2 : Int) ≤ x67.toInt ∧ x67.toInt ≤ 9 := by rw [ex67]; exact ai_rd bfa0_15.1 zq5 zq6 (by decide) (by decide) (by decide)
                refine lv_irem hx hb dX8_turnBy_68 (ai_nz bx67.1 (by decide)) ?_
                refine lv_topi (fun x68 ex68 => ?_)
                have qx68 := ai_rem2 ex68 bx61.1 (Int.lt_of_lt_of_le zq100 bx67.1) bx67.2
                refine lv_istore (lv' := [(5, .int x68), (0, .ref a0), (1, .int a1), (2, .int a2), (4, .int a4), (6, .int j30l6)]) hx hb dX8_turnBy_69 hl (by decide) rfl (fun ls hl => ?_)
                obtain ⟨x71, ex71⟩ : ∃ y : Int32, y = j30l6 + Int32.ofInt 1 := ⟨_, rfl⟩
                have qx71 : x71.toInt = j30l6.toInt + 1 := ai_inc ex71 (by decide) (by decide) u34f_j30l6 (by decide)
                have bx71 : (1 : Int) ≤ x71.toInt ∧ x71.toInt ≤ 999 := ⟨by rw [qx71]; exact Int.add_le_add bj30l6_l (Int.le_refl _), by rw [qx71]; exact Int.add_le_add u34f_j30l6 (Int.le_refl _)⟩
                refine lv_iinc (v := x71) (lv' := [(6, .int x71), (5, .int x68), (0, .ref a0), (1, .int a1), (2, .int a2), (4, .int a4)]) hx hb dX8_turnBy_71 hl (k := 5) rfl ex71.symm (by decide) rfl (fun ls hl => ?_)
                refine lv_goto (tgt := 30) hx hb dX8_turnBy_74 (by decide) ?_
                exact (hK0 _ _ _).mp (ih30 x71 x68 f55 _ _ _ (by have h0 := qx71; omega) (Int.le_trans zq4 bx71.1) bx71.2 qx68.2.1 qx68.2.2 (tb_s tm30 ef55 qx71 bj30l6_l) (fun h1 h2 h3 => (tb_c h1 qx59.1 qx61 qx68.1 (by omega) (by have h4 : x67.toInt = (fa0_15 0).toInt := (by rw [ex67]; rfl); omega)).trans h2) hP hD hS (lv_sub hl [2, 3, 4, 5, 1, 0] rfl))
        exact (hK0 _ _ _).mp (J30 1000 0 a3 j3a0_34_a _ _ _ (by have h1 : (0 : Int) ≤ (0 : Int32).toInt := zq5; have h2 : (0 : Int32).toInt ≤ (0 : Int) := zq6; omega) zq5 (Int.le_trans zq6 zq81) ba3_l ba3_u (tb_0 mf3 (by omega) (by decide)) (fun _ _ _ => rfl) hP hD hS (lv_sub hl [2, 3, 4, 6, 1, 0] rfl))
      · have gc7 := ai_nle c7
        have u7f_j3l5 : j3l5.toInt ≤ (8 : Int) := ai_lthi gc7 zq3
        refine lv_aload_n hx hb dX8_turnBy_10 rfl (lv_at hl 0 rfl) ?_
        refine va_get (D := (dC, dI)) (ci := 8) (v := .ref a0_34) (C := RX8) (T := TX8) (N := 40) hx hb hts zi_X8_turnBy_8 hown hK hP 0 rfl rfl 34 (by decide) (hts (.fieldLink RX8 53 "WaxTurnsModel" "metAt" "[I") (List.mem_cons_of_mem _ (List.mem_append_left _ (List.mem_of_getElem? (i := 0) rfl)))) (fun _ h9 => h9) rfl dX8_turnBy_11 ?_
        refine lv_iload hx hb dX8_turnBy_14 (lv_at hl 5 rfl) ?_
        refine lv_iconst (v := (-1)) hx hb dX8_turnBy_16 zk_iconst_n1 ?_
        refine va_iast hx hb hK hP hD hS 1 0 rfl rfl (ai_in bj3l5_l u7f_j3l5 (by decide) (by decide)) dX8_turnBy_17 (fun H locs hP hD hS => ?_)
        obtain ⟨f17, ef17⟩ : ∃ g9 : Nat → Int32, g9 = upd j3a0_34_a (j3l5 : Int32).toNatClampNeg ((-1) : Int32) := ⟨_, rfl⟩
        rw [← ef17] at hP hD
        obtain ⟨hP, hD⟩ := zc_re (w := [(a0, .inr (8, [a0g_0, a0g_1, a0g_2, a0g_3, a0g_4, a0g_5, a0g_6, a0g_7, a0g_8, a0g_9, a0g_10, a0g_11, a0g_12, a0g_13, a0g_14, Value.ref a0_15, a0g_16, a0g_17, a0g_18, a0g_19, a0g_20, a0g_21, a0g_22, a0g_23, a0g_24, a0g_25, a0g_26, a0g_27, a0g_28, a0g_29, a0g_30, a0g_31, a0g_32, a0g_33, Value.ref a0_34, a0g_35, a0g_36, a0g_37, a0g_38, a0g_39])), (a0_34, .inl (ka0_34, 9, .inl (f17))), (a0_15, .inl (ka0_15, 156, .inl (fa0_15)))]) hP hD rfl
        obtain ⟨x18, ex18⟩ : ∃ y : Int32, y = j3l5 + Int32.ofInt 1 := ⟨_, rfl⟩
        have qx18 : x18.toInt = j3l5.toInt + 1 := ai_inc ex18 (by decide) (by decide) u7f_j3l5 (by decide)
        have bx18 : (1 : Int) ≤ x18.toInt ∧ x18.toInt ≤ 9 := ⟨by rw [qx18]; exact Int.add_le_add bj3l5_l (Int.le_refl _), by rw [qx18]; exact Int.add_le_add u7f_j3l5 (Int.le_refl _)⟩
        refine lv_iinc (v := x18) (lv' := [(5, .int x18), (0, .ref a0), (1, .int a1), (2, .int a2), (3, .int a3), (4, .int a4)]) hx hb dX8_turnBy_18 hl (k := 5) rfl ex18.symm (by decide) rfl (fun ls hl => ?_)
        refine lv_goto (tgt := 3) hx hb dX8_turnBy_21 (by decide) ?_
        exact (hK0 _ _ _).mp (ih3 x18 f17 _ _ _ (by have h0 := qx18; omega) (Int.le_trans zq4 bx18.1) bx18.2 (tb_f mf3 ef17 (by decide) qx18 bj3l5_l) hP hD hS (lv_sub hl [1, 2, 3, 4, 5, 0] rfl))
  exact (hK0 _ _ _).mp (J3 10 0 fa0_34 _ _ _ (by have h1 : (0 : Int) ≤ (0 : Int32).toInt := zq5; have h2 : (0 : Int32).toInt ≤ (0 : Int) := zq6; omega) zq5 (Int.le_trans zq6 zq7) (tb_z (by decide)) hP hD hS (lv_sub hl [1, 2, 3, 4, 5, 0] rfl))

set_option maxHeartbeats 4000000 in
set_option maxRecDepth 100000 in
theorem c_X8_codes (l : Launch) (dC : Nat → ClassId) (dI : Nat → Nat → Nat) (sz : Nat) (a0 : Nat) (a0g_0 a0g_1 a0g_2 a0g_3 a0g_4 a0g_5 a0g_6 a0g_7 a0g_8 a0g_9 a0g_10 a0g_11 a0g_12 a0g_13 a0g_14 a0g_16 a0g_17 a0g_18 a0g_19 a0g_20 a0g_21 a0g_22 a0g_23 a0g_24 a0g_25 a0g_26 a0g_27 a0g_28 a0g_29 a0g_30 a0g_31 a0g_32 a0g_33 a0g_34 a0g_35 a0g_36 a0g_37 a0g_38 a0g_39 : Value) (a0_15 : Nat) (ka0_15 : ClassId) (fa0_15 : Nat → Int32) (bfa0_15 : ((∀ k : Nat, 0 ≤ k → k ≤ 0 → (2 : Int) ≤ (fa0_15 k).toInt ∧ (fa0_15 k).toInt ≤ 9) ∧ (∀ k : Nat, 1 ≤ k → k ≤ 1 → (1 : Int) ≤ (fa0_15 k).toInt ∧ (fa0_15 k).toInt ≤ 20) ∧ (∀ k : Nat, 2 ≤ k → k ≤ 2 → (0 : Int) ≤ (fa0_15 k).toInt ∧ (fa0_15 k).toInt ≤ 8) ∧ (∀ k : Nat, 3 ≤ k → k ≤ 3 → (0 : Int) ≤ (fa0_15 k).toInt ∧ (fa0_15 k).toInt ≤ 100) ∧ (∀ k : Nat, 4 ≤ k → k ≤ 4 → (0 : Int) ≤ (fa0_15 k).toInt ∧ (fa0_15 k).toInt ≤ 9) ∧ (∀ k : Nat, 5 ≤ k → k ≤ 5 → (0 : Int) ≤ (fa0_15 k).toInt ∧ (fa0_15 k).toInt ≤ 3) ∧ (∀ k : Nat, 6 ≤ k → k ≤ 6 → (0 : Int) ≤ (fa0_15 k).toInt ∧ (fa0_15 k).toInt ≤ 6) ∧ (∀ k : Nat, 7 ≤ k → k ≤ 9 → (0 : Int) ≤ (fa0_15 k).toInt ∧ (fa0_15 k).toInt ≤ 8) ∧ (∀ k : Nat, 12 ≤ k → k ≤ 29 → (0 : Int) ≤ (fa0_15 k).toInt ∧ (fa0_15 k).toInt ≤ 20) ∧ (∀ k : Nat, 30 ≤ k → k ≤ 35 → (0 : Int) ≤ (fa0_15 k).toInt ∧ (fa0_15 k).toInt ≤ 8) ∧ (∀ k : Nat, 36 ≤ k → k ≤ 47 → (0 : Int) ≤ (fa0_15 k).toInt ∧ (fa0_15 k).toInt ≤ 999))) : Met l yX8_codes wsX8_codes ({ frames := 0, cells := 0, slots := 0, locals := 0 }) (va_Pc [.ref a0] (ax_C dC dI sz [(a0, .inr (8, [a0g_0, a0g_1, a0g_2, a0g_3, a0g_4, a0g_5, a0g_6, a0g_7, a0g_8, a0g_9, a0g_10, a0g_11, a0g_12, a0g_13, a0g_14, Value.ref a0_15, a0g_16, a0g_17, a0g_18, a0g_19, a0g_20, a0g_21, a0g_22, a0g_23, a0g_24, a0g_25, a0g_26, a0g_27, a0g_28, a0g_29, a0g_30, a0g_31, a0g_32, a0g_33, a0g_34, a0g_35, a0g_36, a0g_37, a0g_38, a0g_39])), (a0_15, .inl (ka0_15, 156, .inl (fa0_15)))] [(ka0_15, .int)] (fun _ => True))) (va_Qi (fun (r : Int32) (_ : Unit) => (8 : Int) ≤ r.toInt ∧ r.toInt ≤ (729 : Int)) (fun (_ : Unit) (t : State) => ax_B dC dI (va_A [(a0, .inr (8, [a0g_0, a0g_1, a0g_2, a0g_3, a0g_4, a0g_5, a0g_6, a0g_7, a0g_8, a0g_9, a0g_10, a0g_11, a0g_12, a0g_13, a0g_14, Value.ref a0_15, a0g_16, a0g_17, a0g_18, a0g_19, a0g_20, a0g_21, a0g_22, a0g_23, a0g_24, a0g_25, a0g_26, a0g_27, a0g_28, a0g_29, a0g_30, a0g_31, a0g_32, a0g_33, a0g_34, a0g_35, a0g_36, a0g_37, a0g_38, a0g_39])), (a0_15, .inl (ka0_15, 156, .inl (fa0_15)))] sz) [(a0, .inr (8, [a0g_0, a0g_1, a0g_2, a0g_3, a0g_4, a0g_5, a0g_6, a0g_7, a0g_8, a0g_9, a0g_10, a0g_11, a0g_12, a0g_13, a0g_14, Value.ref a0_15, a0g_16, a0g_17, a0g_18, a0g_19, a0g_20, a0g_21, a0g_22, a0g_23, a0g_24, a0g_25, a0g_26, a0g_27, a0g_28, a0g_29, a0g_30, a0g_31, a0g_32, a0g_33, a0g_34, a0g_35, a0g_36, a0g_37, a0g_38, a0g_39])), (a0_15, .inl (ka0_15, 156, .inl (fa0_15)))] [(ka0_15, .int)] t) (va_A [(a0, .inr (8, [a0g_0, a0g_1, a0g_2, a0g_3, a0g_4, a0g_5, a0g_6, a0g_7, a0g_8, a0g_9, a0g_10, a0g_11, a0g_12, a0g_13, a0g_14, Value.ref a0_15, a0g_16, a0g_17, a0g_18, a0g_19, a0g_20, a0g_21, a0g_22, a0g_23, a0g_24, a0g_25, a0g_26, a0g_27, a0g_28, a0g_29, a0g_30, a0g_31, a0g_32, a0g_33, a0g_34, a0g_35, a0g_36, a0g_37, a0g_38, a0g_39])), (a0_15, .inl (ka0_15, 156, .inl (fa0_15)))] sz)) 0 0 (va_A [(a0, .inr (8, [a0g_0, a0g_1, a0g_2, a0g_3, a0g_4, a0g_5, a0g_6, a0g_7, a0g_8, a0g_9, a0g_10, a0g_11, a0g_12, a0g_13, a0g_14, Value.ref a0_15, a0g_16, a0g_17, a0g_18, a0g_19, a0g_20, a0g_21, a0g_22, a0g_23, a0g_24, a0g_25, a0g_26, a0g_27, a0g_28, a0g_29, a0g_30, a0g_31, a0g_32, a0g_33, a0g_34, a0g_35, a0g_36, a0g_37, a0g_38, a0g_39])), (a0_15, .inl (ka0_15, 156, .inl (fa0_15)))] sz) := by
  refine Met.ofW (cc := cX8_codes) (maxL := 1) (ret := (some .int)) (by decide) rfl ?_
  intro p e s m args below meth c s₁ B hml hv
  obtain ⟨rfl, hsz, hP, hK, hD0, hE⟩ := hv
  have hx := B.exec
  have hb := B.bytes
  have hr := B.returns
  have hts := atoms_spec (ws := wsX8_codes) B.pre
  have hown : s.vm.findClass RX8 = some m.cls := findClass_of_methodNamed B.named
  have hlocks := B.notSynchronized
  subst hsz
  have hD := hD0.self (sz := s.heap.size)
  generalize hAe : va_A [(a0, .inr (8, [a0g_0, a0g_1, a0g_2, a0g_3, a0g_4, a0g_5, a0g_6, a0g_7, a0g_8, a0g_9, a0g_10, a0g_11, a0g_12, a0g_13, a0g_14, Value.ref a0_15, a0g_16, a0g_17, a0g_18, a0g_19, a0g_20, a0g_21, a0g_22, a0g_23, a0g_24, a0g_25, a0g_26, a0g_27, a0g_28, a0g_29, a0g_30, a0g_31, a0g_32, a0g_33, a0g_34, a0g_35, a0g_36, a0g_37, a0g_38, a0g_39])), (a0_15, .inl (ka0_15, 156, .inl (fa0_15)))] s.heap.size = A at hD ⊢
  have hA : ∀ q : Nat, s.heap.size ≤ q → A q := fun q h => by rw [← hAe]; exact Or.inr h
  have hS : va_S A s.heap s.heap [] := va_S.rf
  have hP : va_P (dC, dI) vwCl [(a0, .inr (8, [a0g_0, a0g_1, a0g_2, a0g_3, a0g_4, a0g_5, a0g_6, a0g_7, a0g_8, a0g_9, a0g_10, a0g_11, a0g_12, a0g_13, a0g_14, Value.ref a0_15, a0g_16, a0g_17, a0g_18, a0g_19, a0g_20, a0g_21, a0g_22, a0g_23, a0g_24, a0g_25, a0g_26, a0g_27, a0g_28, a0g_29, a0g_30, a0g_31, a0g_32, a0g_33, a0g_34, a0g_35, a0g_36, a0g_37, a0g_38, a0g_39])), (a0_15, .inl (ka0_15, 156, .inl (fa0_15)))] s.heap := hP
  have hl := lv_entry ([.ref a0]) (n := 1) (Nat.le_of_ble_eq_true rfl)
  rw [lg_entry_eq]
  generalize (lg_sl ([.ref a0]) ++ List.replicate (1 - (lg_sl ([.ref a0])).length) Slot.unset).toArray = ls at hl ⊢
  have hl : lv_has ls 1 [(0, .ref a0)] := hl
  refine lv_aload_n hx hb dX8_codes_0 rfl (lv_at hl 0 rfl) ?_
  refine va_get (D := (dC, dI)) (ci := 8) (v := .ref a0_15) (C := RX8) (T := TX8) (N := 40) hx hb hts zi_X8_codes_8 hown hK hP 0 rfl rfl 15 (by decide) (hts (.fieldLink RX8 20 "WaxTurnsModel" "\x72" "[I") (List.mem_cons_of_mem _ (List.mem_append_left _ (List.mem_of_getElem? (i := 0) rfl)))) (fun _ h9 => h9) rfl dX8_codes_1 ?_
  refine lv_iconst (v := 0) hx hb dX8_codes_4 zk_iconst_0 ?_
  refine va_iald hx hb hK hP 1 0 rfl rfl (by unfold vp_in; decide +kernel) dX8_codes_5 ?_
  refine lv_topi (fun x5 ex5 => ?_)
  have bx5 : (2 : Int) ≤ x5.toInt ∧ x5.toInt ≤ 9 := by rw [ex5]; exact ai_rd bfa0_15.1 zq5 zq6 (by decide) (by decide) (by decide)
  refine lv_aload_n hx hb dX8_codes_6 rfl (lv_at hl 0 rfl) ?_
  refine va_get (D := (dC, dI)) (ci := 8) (v := .ref a0_15) (C := RX8) (T := TX8) (N := 40) hx hb hts zi_X8_codes_8 hown hK hP 0 rfl rfl 15 (by decide) (hts (.fieldLink RX8 20 "WaxTurnsModel" "\x72" "[I") (List.mem_cons_of_mem _ (List.mem_append_left _ (List.mem_of_getElem? (i := 0) rfl)))) (fun _ h9 => h9) rfl dX8_codes_7 ?_
  refine lv_iconst (v := 0) hx hb dX8_codes_10 zk_iconst_0 ?_
  refine va_iald hx hb hK hP 1 0 rfl rfl (by unfold vp_in; decide +kernel) dX8_codes_11 ?_
  refine ax_ti x5 ex5.symm ?_
  refine lv_imul hx hb dX8_codes_12 ?_
  refine lv_topi (fun x12 ex12 => ?_)
  have qx12 : x12.toInt = x5.toInt * x5.toInt ∧ (4 : Int) ≤ x12.toInt ∧ x12.toInt ≤ 81 := ai_mul ex12 ⟨bx5.1, bx5.2⟩ ⟨bx5.1, bx5.2⟩ (by decide) (by decide) zq21
  refine lv_aload_n hx hb dX8_codes_13 rfl (lv_at hl 0 rfl) ?_
  refine va_get (D := (dC, dI)) (ci := 8) (v := .ref a0_15) (C := RX8) (T := TX8) (N := 40) hx hb hts zi_X8_codes_8 hown hK hP 0 rfl rfl 15 (by decide) (hts (.fieldLink RX8 20 "WaxTurnsModel" "\x72" "[I") (List.mem_cons_of_mem _ (List.mem_append_left _ (List.mem_of_getElem? (i := 0) rfl)))) (fun _ h9 => h9) rfl dX8_codes_14 ?_
  refine lv_iconst (v := 0) hx hb dX8_codes_17 zk_iconst_0 ?_
  refine va_iald hx hb hK hP 1 0 rfl rfl (by unfold vp_in; decide +kernel) dX8_codes_18 ?_
  refine ax_ti x5 ex5.symm ?_
  refine lv_imul hx hb dX8_codes_19 ?_
  refine lv_topi (fun x19 ex19 => ?_)
  have qx19 : x19.toInt = x12.toInt * x5.toInt ∧ (8 : Int) ≤ x19.toInt ∧ x19.toInt ≤ 729 := ai_mul ex19 ⟨qx12.2.1, qx12.2.2⟩ ⟨bx5.1, bx5.2⟩ (by decide) (by decide) zq177
  exact W.iret (v := x19) hx hb hr (fun t ht hW => ⟨⟨x19, (), rfl, ⟨qx19.2.1, qx19.2.2⟩, by rw [ht]; exact hP, va_K.moved hW.alike hK, hD⟩, hS.F ht⟩) hS.2.2 dX8_codes_20

set_option maxHeartbeats 4000000 in
set_option maxRecDepth 100000 in
theorem c_X8_byCode (l : Launch) (dC : Nat → ClassId) (dI : Nat → Nat → Nat) (sz : Nat) (a0 : Nat) (a1 : Int32) (a2 : Int32) (a0g_0 a0g_1 a0g_2 a0g_3 a0g_4 a0g_5 a0g_6 a0g_7 a0g_8 a0g_9 a0g_10 a0g_11 a0g_12 a0g_13 a0g_14 a0g_16 a0g_17 a0g_18 a0g_19 a0g_20 a0g_21 a0g_22 a0g_23 a0g_24 a0g_25 a0g_26 a0g_27 a0g_28 a0g_29 a0g_30 a0g_31 a0g_32 a0g_33 a0g_35 a0g_36 a0g_37 a0g_38 a0g_39 : Value) (a0_15 : Nat) (a0_34 : Nat) (ka0_15 : ClassId) (fa0_15 : Nat → Int32) (ka0_34 : ClassId) (fa0_34 : Nat → Int32) (ba1_l : (0 : Int) ≤ a1.toInt) (ba1_u : a1.toInt ≤ (728 : Int)) (ba2_l : (0 : Int) ≤ a2.toInt) (ba2_u : a2.toInt ≤ (999 : Int)) (bfa0_15 : ((∀ k : Nat, 0 ≤ k → k ≤ 0 → (2 : Int) ≤ (fa0_15 k).toInt ∧ (fa0_15 k).toInt ≤ 9) ∧ (∀ k : Nat, 1 ≤ k → k ≤ 1 → (1 : Int) ≤ (fa0_15 k).toInt ∧ (fa0_15 k).toInt ≤ 20) ∧ (∀ k : Nat, 2 ≤ k → k ≤ 2 → (0 : Int) ≤ (fa0_15 k).toInt ∧ (fa0_15 k).toInt ≤ 8) ∧ (∀ k : Nat, 3 ≤ k → k ≤ 3 → (0 : Int) ≤ (fa0_15 k).toInt ∧ (fa0_15 k).toInt ≤ 100) ∧ (∀ k : Nat, 4 ≤ k → k ≤ 4 → (0 : Int) ≤ (fa0_15 k).toInt ∧ (fa0_15 k).toInt ≤ 9) ∧ (∀ k : Nat, 5 ≤ k → k ≤ 5 → (0 : Int) ≤ (fa0_15 k).toInt ∧ (fa0_15 k).toInt ≤ 3) ∧ (∀ k : Nat, 6 ≤ k → k ≤ 6 → (0 : Int) ≤ (fa0_15 k).toInt ∧ (fa0_15 k).toInt ≤ 6) ∧ (∀ k : Nat, 7 ≤ k → k ≤ 9 → (0 : Int) ≤ (fa0_15 k).toInt ∧ (fa0_15 k).toInt ≤ 8) ∧ (∀ k : Nat, 12 ≤ k → k ≤ 29 → (0 : Int) ≤ (fa0_15 k).toInt ∧ (fa0_15 k).toInt ≤ 20) ∧ (∀ k : Nat, 30 ≤ k → k ≤ 35 → (0 : Int) ≤ (fa0_15 k).toInt ∧ (fa0_15 k).toInt ≤ 8) ∧ (∀ k : Nat, 36 ≤ k → k ≤ 47 → (0 : Int) ≤ (fa0_15 k).toInt ∧ (fa0_15 k).toInt ≤ 999))) : Met l yX8_byCode wsX8_byCode ({ frames := 1, cells := 0, slots := 0, locals := 28 }) (va_Pc [.ref a0, .int a1, .int a2] (ax_C dC dI sz [(a0, .inr (8, [a0g_0, a0g_1, a0g_2, a0g_3, a0g_4, a0g_5, a0g_6, a0g_7, a0g_8, a0g_9, a0g_10, a0g_11, a0g_12, a0g_13, a0g_14, Value.ref a0_15, a0g_16, a0g_17, a0g_18, a0g_19, a0g_20, a0g_21, a0g_22, a0g_23, a0g_24, a0g_25, a0g_26, a0g_27, a0g_28, a0g_29, a0g_30, a0g_31, a0g_32, a0g_33, Value.ref a0_34, a0g_35, a0g_36, a0g_37, a0g_38, a0g_39])), (a0_15, .inl (ka0_15, 156, .inl (fa0_15))), (a0_34, .inl (ka0_34, 9, .inl (fa0_34)))] [(ka0_15, .int), (ka0_34, .int)] (fun _ => True))) (va_Qi (fun (r : Int32) (_ : Unit) => ((0 : Int) ≤ r.toInt ∧ r.toInt ≤ 8) ∧ (∀ p9 : Int, 0 ≤ p9 → p9 < (fa0_15 0).toInt → a1.toInt = p9 * (fa0_15 0).toInt + p9 → r.toInt = p9)) (fun (_ : Unit) (t : State) => ∃ nfa0_34 : Nat → Int32, ax_B dC dI (va_A [(a0, .inr (8, [a0g_0, a0g_1, a0g_2, a0g_3, a0g_4, a0g_5, a0g_6, a0g_7, a0g_8, a0g_9, a0g_10, a0g_11, a0g_12, a0g_13, a0g_14, Value.ref a0_15, a0g_16, a0g_17, a0g_18, a0g_19, a0g_20, a0g_21, a0g_22, a0g_23, a0g_24, a0g_25, a0g_26, a0g_27, a0g_28, a0g_29, a0g_30, a0g_31, a0g_32, a0g_33, Value.ref a0_34, a0g_35, a0g_36, a0g_37, a0g_38, a0g_39])), (a0_15, .inl (ka0_15, 156, .inl (fa0_15))), (a0_34, .inl (ka0_34, 9, .inl (fa0_34)))] sz) [(a0, .inr (8, [a0g_0, a0g_1, a0g_2, a0g_3, a0g_4, a0g_5, a0g_6, a0g_7, a0g_8, a0g_9, a0g_10, a0g_11, a0g_12, a0g_13, a0g_14, Value.ref a0_15, a0g_16, a0g_17, a0g_18, a0g_19, a0g_20, a0g_21, a0g_22, a0g_23, a0g_24, a0g_25, a0g_26, a0g_27, a0g_28, a0g_29, a0g_30, a0g_31, a0g_32, a0g_33, Value.ref a0_34, a0g_35, a0g_36, a0g_37, a0g_38, a0g_39])), (a0_15, .inl (ka0_15, 156, .inl (fa0_15))), (a0_34, .inl (ka0_34, 9, .inl (nfa0_34)))] [(ka0_15, .int), (ka0_34, .int)] t) (va_A [(a0, .inr (8, [a0g_0, a0g_1, a0g_2, a0g_3, a0g_4, a0g_5, a0g_6, a0g_7, a0g_8, a0g_9, a0g_10, a0g_11, a0g_12, a0g_13, a0g_14, Value.ref a0_15, a0g_16, a0g_17, a0g_18, a0g_19, a0g_20, a0g_21, a0g_22, a0g_23, a0g_24, a0g_25, a0g_26, a0g_27, a0g_28, a0g_29, a0g_30, a0g_31, a0g_32, a0g_33, Value.ref a0_34, a0g_35, a0g_36, a0g_37, a0g_38, a0g_39])), (a0_15, .inl (ka0_15, 156, .inl (fa0_15))), (a0_34, .inl (ka0_34, 9, .inl (fa0_34)))] sz)) 0 0 (va_A [(a0, .inr (8, [a0g_0, a0g_1, a0g_2, a0g_3, a0g_4, a0g_5, a0g_6, a0g_7, a0g_8, a0g_9, a0g_10, a0g_11, a0g_12, a0g_13, a0g_14, Value.ref a0_15, a0g_16, a0g_17, a0g_18, a0g_19, a0g_20, a0g_21, a0g_22, a0g_23, a0g_24, a0g_25, a0g_26, a0g_27, a0g_28, a0g_29, a0g_30, a0g_31, a0g_32, a0g_33, Value.ref a0_34, a0g_35, a0g_36, a0g_37, a0g_38, a0g_39])), (a0_15, .inl (ka0_15, 156, .inl (fa0_15))), (a0_34, .inl (ka0_34, 9, .inl (fa0_34)))] sz) := by
  refine Met.ofW (cc := cX8_byCode) (maxL := 3) (ret := (some .int)) (by decide) rfl ?_
  intro p e s m args below meth c s₁ B hml hv
  obtain ⟨rfl, hsz, hP, hK, hD0, hE⟩ := hv
  have hx := B.exec
  have hb := B.bytes
  have hr := B.returns
  have hts := atoms_spec (ws := wsX8_byCode) B.pre
  have hown : s.vm.findClass RX8 = some m.cls := findClass_of_methodNamed B.named
  have hlocks := B.notSynchronized
  subst hsz
  have hD := hD0.self (sz := s.heap.size)
  generalize hAe : va_A [(a0, .inr (8, [a0g_0, a0g_1, a0g_2, a0g_3, a0g_4, a0g_5, a0g_6, a0g_7, a0g_8, a0g_9, a0g_10, a0g_11, a0g_12, a0g_13, a0g_14, Value.ref a0_15, a0g_16, a0g_17, a0g_18, a0g_19, a0g_20, a0g_21, a0g_22, a0g_23, a0g_24, a0g_25, a0g_26, a0g_27, a0g_28, a0g_29, a0g_30, a0g_31, a0g_32, a0g_33, Value.ref a0_34, a0g_35, a0g_36, a0g_37, a0g_38, a0g_39])), (a0_15, .inl (ka0_15, 156, .inl (fa0_15))), (a0_34, .inl (ka0_34, 9, .inl (fa0_34)))] s.heap.size = A at hD ⊢
  have hA : ∀ q : Nat, s.heap.size ≤ q → A q := fun q h => by rw [← hAe]; exact Or.inr h
  have hS : va_S A s.heap s.heap [] := va_S.rf
  have hP : va_P (dC, dI) vwCl [(a0, .inr (8, [a0g_0, a0g_1, a0g_2, a0g_3, a0g_4, a0g_5, a0g_6, a0g_7, a0g_8, a0g_9, a0g_10, a0g_11, a0g_12, a0g_13, a0g_14, Value.ref a0_15, a0g_16, a0g_17, a0g_18, a0g_19, a0g_20, a0g_21, a0g_22, a0g_23, a0g_24, a0g_25, a0g_26, a0g_27, a0g_28, a0g_29, a0g_30, a0g_31, a0g_32, a0g_33, Value.ref a0_34, a0g_35, a0g_36, a0g_37, a0g_38, a0g_39])), (a0_15, .inl (ka0_15, 156, .inl (fa0_15))), (a0_34, .inl (ka0_34, 9, .inl (fa0_34)))] s.heap := hP
  have hl := lv_entry ([.ref a0, .int a1, .int a2]) (n := 3) (Nat.le_of_ble_eq_true rfl)
  rw [lg_entry_eq]
  generalize (lg_sl ([.ref a0, .int a1, .int a2]) ++ List.replicate (3 - (lg_sl ([.ref a0, .int a1, .int a2])).length) Slot.unset).toArray = ls at hl ⊢
  have hl : lv_has ls 3 [(0, .ref a0), (1, .int a1), (2, .int a2)] := hl
  refine lv_aload_n hx hb dX8_byCode_0 rfl (lv_at hl 0 rfl) ?_
  refine lv_iload_n hx hb dX8_byCode_1 rfl (lv_at hl 1 rfl) ?_
  refine lv_aload_n hx hb dX8_byCode_2 rfl (lv_at hl 0 rfl) ?_
  refine va_get (D := (dC, dI)) (ci := 8) (v := .ref a0_15) (C := RX8) (T := TX8) (N := 40) hx hb hts zi_X8_byCode_8 hown hK hP 0 rfl rfl 15 (by decide) (hts (.fieldLink RX8 20 "WaxTurnsModel" "\x72" "[I") (List.mem_cons_of_mem _ (List.mem_append_left _ (List.mem_of_getElem? (i := 0) rfl)))) (fun _ h9 => h9) rfl dX8_byCode_3 ?_
  refine lv_iconst (v := 0) hx hb dX8_byCode_6 zk_iconst_0 ?_
  refine va_iald hx hb hK hP 1 0 rfl rfl (by unfold vp_in; decide +kernel) dX8_byCode_7 ?_
  refine lv_topi (fun x7 ex7 => ?_)
  have bx7 : (2 : Int) ≤ x7.toInt ∧ x7.toInt ≤ 9 := by rw [ex7]; exact ai_rd bfa0_15.1 zq5 zq6 (by decide) (by decide) (by decide)
  refine lv_aload_n hx hb dX8_byCode_8 rfl (lv_at hl 0 rfl) ?_
  refine va_get (D := (dC, dI)) (ci := 8) (v := .ref a0_15) (C := RX8) (T := TX8) (N := 40) hx hb hts zi_X8_byCode_8 hown hK hP 0 rfl rfl 15 (by decide) (hts (.fieldLink RX8 20 "WaxTurnsModel" "\x72" "[I") (List.mem_cons_of_mem _ (List.mem_append_left _ (List.mem_of_getElem? (i := 0) rfl)))) (fun _ h9 => h9) rfl dX8_byCode_9 ?_
  refine lv_iconst (v := 0) hx hb dX8_byCode_12 zk_iconst_0 ?_
  refine va_iald hx hb hK hP 1 0 rfl rfl (by unfold vp_in; decide +kernel) dX8_byCode_13 ?_
  refine ax_ti x7 ex7.symm ?_
  refine lv_imul hx hb dX8_byCode_14 ?_
  refine lv_topi (fun x14 ex14 => ?_)
  have qx14 : x14.toInt = x7.toInt * x7.toInt ∧ (4 : Int) ≤ x14.toInt ∧ x14.toInt ≤ 81 := ai_mul ex14 ⟨bx7.1, bx7.2⟩ ⟨bx7.1, bx7.2⟩ (by decide) (by decide) zq21
  refine lv_idiv hx hb dX8_byCode_15 (ai_nz qx14.2.1 (by decide)) ?_
  refine lv_topi (fun x15 ex15 => ?_)
  have qx15 := ai_div ex15 ⟨ba1_l, ba1_u⟩ (Int.lt_of_lt_of_le zq178 qx14.2.1)
  refine lv_iload_n hx hb dX8_byCode_16 rfl (lv_at hl 1 rfl) ?_
  refine lv_aload_n hx hb dX8_byCode_17 rfl (lv_at hl 0 rfl) ?_
  refine va_get (D := (dC, dI)) (ci := 8) (v := .ref a0_15) (C := RX8) (T := TX8) (N := 40) hx hb hts zi_X8_byCode_8 hown hK hP 0 rfl rfl 15 (by decide) (hts (.fieldLink RX8 20 "WaxTurnsModel" "\x72" "[I") (List.mem_cons_of_mem _ (List.mem_append_left _ (List.mem_of_getElem? (i := 0) rfl)))) (fun _ h9 => h9) rfl dX8_byCode_18 ?_
  refine lv_iconst (v := 0) hx hb dX8_byCode_21 zk_iconst_0 ?_
  refine va_iald hx hb hK hP 1 0 rfl rfl (by unfold vp_in; decide +kernel) dX8_byCode_22 ?_
  refine ax_ti x7 ex7.symm ?_
  refine lv_idiv hx hb dX8_byCode_23 (ai_nz bx7.1 (by decide)) ?_
  refine lv_topi (fun x23 ex23 => ?_)
  have qx23 := ai_div ex23 ⟨ba1_l, ba1_u⟩ (Int.lt_of_lt_of_le zq100 bx7.1)
  refine lv_aload_n hx hb dX8_byCode_24 rfl (lv_at hl 0 rfl) ?_
  refine va_get (D := (dC, dI)) (ci := 8) (v := .ref a0_15) (C := RX8) (T := TX8) (N := 40) hx hb hts zi_X8_byCode_8 hown hK hP 0 rfl rfl 15 (by decide) (hts (.fieldLink RX8 20 "WaxTurnsModel" "\x72" "[I") (List.mem_cons_of_mem _ (List.mem_append_left _ (List.mem_of_getElem? (i := 0) rfl)))) (fun _ h9 => h9) rfl dX8_byCode_25 ?_
  refine lv_iconst (v := 0) hx hb dX8_byCode_28 zk_iconst_0 ?_
  refine va_iald hx hb hK hP 1 0 rfl rfl (by unfold vp_in; decide +kernel) dX8_byCode_29 ?_
  refine ax_ti x7 ex7.symm ?_
  refine lv_irem hx hb dX8_byCode_30 (ai_nz bx7.1 (by decide)) ?_
  refine lv_topi (fun x30 ex30 => ?_)
  have qx30 := ai_rem2 ex30 qx23.2.1 (Int.lt_of_lt_of_le zq100 bx7.1) bx7.2
  refine lv_iload_n hx hb dX8_byCode_31 rfl (lv_at hl 1 rfl) ?_
  refine lv_aload_n hx hb dX8_byCode_32 rfl (lv_at hl 0 rfl) ?_
  refine va_get (D := (dC, dI)) (ci := 8) (v := .ref a0_15) (C := RX8) (T := TX8) (N := 40) hx hb hts zi_X8_byCode_8 hown hK hP 0 rfl rfl 15 (by decide) (hts (.fieldLink RX8 20 "WaxTurnsModel" "\x72" "[I") (List.mem_cons_of_mem _ (List.mem_append_left _ (List.mem_of_getElem? (i := 0) rfl)))) (fun _ h9 => h9) rfl dX8_byCode_33 ?_
  refine lv_iconst (v := 0) hx hb dX8_byCode_36 zk_iconst_0 ?_
  refine va_iald hx hb hK hP 1 0 rfl rfl (by unfold vp_in; decide +kernel) dX8_byCode_37 ?_
  refine ax_ti x7 ex7.symm ?_
  refine lv_irem hx hb dX8_byCode_38 (ai_nz bx7.1 (by decide)) ?_
  refine lv_topi (fun x38 ex38 => ?_)
  have qx38 := ai_rem2 ex38 ba1_l (Int.lt_of_lt_of_le zq100 bx7.1) bx7.2
  refine lv_iload_n hx hb dX8_byCode_39 rfl (lv_at hl 2 rfl) ?_
  obtain ⟨hPc, hDc, hFc, hCc⟩ := zc_cut (wc := [(a0, .inr (8, [a0g_0, a0g_1, a0g_2, a0g_3, a0g_4, a0g_5, a0g_6, a0g_7, a0g_8, a0g_9, a0g_10, a0g_11, a0g_12, a0g_13, a0g_14, Value.ref a0_15, a0g_16, a0g_17, a0g_18, a0g_19, a0g_20, a0g_21, a0g_22, a0g_23, a0g_24, a0g_25, a0g_26, a0g_27, a0g_28, a0g_29, a0g_30, a0g_31, a0g_32, a0g_33, Value.ref a0_34, a0g_35, a0g_36, a0g_37, a0g_38, a0g_39])), (a0_34, .inl (ka0_34, 9, .inl (fa0_34))), (a0_15, .inl (ka0_15, 156, .inl (fa0_15)))]) hP hD hS hA [0, 2, 1] (by decide +kernel) rfl
  have hKc := hK.sub (tys' := [(ka0_34, .int), (ka0_15, .int)]) [1, 0] rfl
  refine va_calli (va_runV (As := [.int x15, .int x30, .int x38, .int a2]) (rest := []) ⟨hx, hb, hml, hown, hts⟩ (c_X8_turnBy l dC dI s.heap.size a0 x15 x30 x38 a2 a0g_0 a0g_1 a0g_2 a0g_3 a0g_4 a0g_5 a0g_6 a0g_7 a0g_8 a0g_9 a0g_10 a0g_11 a0g_12 a0g_13 a0g_14 a0g_16 a0g_17 a0g_18 a0g_19 a0g_20 a0g_21 a0g_22 a0g_23 a0g_24 a0g_25 a0g_26 a0g_27 a0g_28 a0g_29 a0g_30 a0g_31 a0g_32 a0g_33 a0g_35 a0g_36 a0g_37 a0g_38 a0g_39 a0_15 a0_34 ka0_34 fa0_34 ka0_15 fa0_15 qx15.2.1 (Int.le_trans qx15.2.2 zq179) qx30.2.1 qx30.2.2 qx38.2.1 qx38.2.2 ba2_l ba2_u bfa0_15) (cwV 4 hts gX8_byCode_X8_turnBy rfl rfl rfl zd_X8_turnBy ⟨Nat.le_of_ble_eq_true rfl, Nat.le_of_ble_eq_true rfl⟩) ⟨ax_blind (fun _ _ _ _ _ => trivial), zr_8 hKc hPc (q0 := 0) rfl, ax_pre hPc hKc hDc (fun _ _ => trivial)⟩ rfl rfl hl.1 rfl (lv_room (Nat.le_of_ble_eq_true rfl)) dX8_byCode_40 ⟨Nat.le_of_ble_eq_true rfl, Nat.le_of_ble_eq_true rfl⟩) hS (fun q _ h => hFc q h) hFc (fun r40 u t H locs ht hvm hw hB hz1 hk1 hS => ?_)
  obtain ⟨v40nfa0_34, hP1, hK1, hD1⟩ := hB
  rw [ht] at hP1
  obtain ⟨hP, hD⟩ := zc_back (w := [(a0, .inr (8, [a0g_0, a0g_1, a0g_2, a0g_3, a0g_4, a0g_5, a0g_6, a0g_7, a0g_8, a0g_9, a0g_10, a0g_11, a0g_12, a0g_13, a0g_14, Value.ref a0_15, a0g_16, a0g_17, a0g_18, a0g_19, a0g_20, a0g_21, a0g_22, a0g_23, a0g_24, a0g_25, a0g_26, a0g_27, a0g_28, a0g_29, a0g_30, a0g_31, a0g_32, a0g_33, Value.ref a0_34, a0g_35, a0g_36, a0g_37, a0g_38, a0g_39])), (a0_15, .inl (ka0_15, 156, .inl (fa0_15))), (a0_34, .inl (ka0_34, 9, .inl (v40nfa0_34)))]) hP hD hCc hk1 hFc hP1 hD1 [.inr 0, .inr 2, .inr 1] (by decide +kernel) rfl
  rcases hw with hw
  · obtain ⟨⟨lr40, ur40⟩, mr40⟩ := hw
    exact W.iret (v := r40) hx hb hr (fun t ht hW => ⟨⟨r40, (), rfl, ⟨⟨lr40, ur40⟩, (fun p9 h1 h2 h3 => by have e7 : x7.toInt = (fa0_15 0).toInt := (by rw [ex7]; rfl); rw [← e7] at h2 h3; obtain ⟨e1, e2, e3⟩ := bc_ok bx7.1 bx7.2 h1 h2 h3; exact (mr40 (by rw [qx15.1, qx14.1]; exact e1) (by rw [qx30.1, qx23.1, qx38.1, e2, e3]) (by rw [← e7, qx38.1, e3]; exact h2)).trans (by rw [qx38.1, e3]))⟩, v40nfa0_34, by rw [ht]; exact hP, va_K.moved hW.alike hK, hD⟩, hS.F ht⟩) hS.2.2 dX8_byCode_43

set_option maxHeartbeats 4000000 in
set_option maxRecDepth 100000 in
theorem c_X8_numberOf (l : Launch) (dC : Nat → ClassId) (dI : Nat → Nat → Nat) (sz : Nat) (a0 : Nat) (a1 : Int32) (a0g_0 a0g_1 a0g_2 a0g_3 a0g_4 a0g_5 a0g_6 a0g_7 a0g_8 a0g_9 a0g_10 a0g_11 a0g_12 a0g_13 a0g_14 a0g_16 a0g_17 a0g_18 a0g_19 a0g_20 a0g_21 a0g_22 a0g_23 a0g_24 a0g_25 a0g_26 a0g_27 a0g_28 a0g_29 a0g_30 a0g_31 a0g_32 a0g_33 a0g_34 a0g_35 a0g_36 a0g_37 a0g_38 a0g_39 : Value) (a0_15 : Nat) (ka0_15 : ClassId) (fa0_15 : Nat → Int32) (ba1_l : (0 : Int) ≤ a1.toInt) (ba1_u : a1.toInt ≤ (728 : Int)) (bfa0_15 : ((∀ k : Nat, 0 ≤ k → k ≤ 0 → (2 : Int) ≤ (fa0_15 k).toInt ∧ (fa0_15 k).toInt ≤ 9) ∧ (∀ k : Nat, 1 ≤ k → k ≤ 1 → (1 : Int) ≤ (fa0_15 k).toInt ∧ (fa0_15 k).toInt ≤ 20) ∧ (∀ k : Nat, 2 ≤ k → k ≤ 2 → (0 : Int) ≤ (fa0_15 k).toInt ∧ (fa0_15 k).toInt ≤ 8) ∧ (∀ k : Nat, 3 ≤ k → k ≤ 3 → (0 : Int) ≤ (fa0_15 k).toInt ∧ (fa0_15 k).toInt ≤ 100) ∧ (∀ k : Nat, 4 ≤ k → k ≤ 4 → (0 : Int) ≤ (fa0_15 k).toInt ∧ (fa0_15 k).toInt ≤ 9) ∧ (∀ k : Nat, 5 ≤ k → k ≤ 5 → (0 : Int) ≤ (fa0_15 k).toInt ∧ (fa0_15 k).toInt ≤ 3) ∧ (∀ k : Nat, 6 ≤ k → k ≤ 6 → (0 : Int) ≤ (fa0_15 k).toInt ∧ (fa0_15 k).toInt ≤ 6) ∧ (∀ k : Nat, 7 ≤ k → k ≤ 9 → (0 : Int) ≤ (fa0_15 k).toInt ∧ (fa0_15 k).toInt ≤ 8) ∧ (∀ k : Nat, 12 ≤ k → k ≤ 29 → (0 : Int) ≤ (fa0_15 k).toInt ∧ (fa0_15 k).toInt ≤ 20) ∧ (∀ k : Nat, 30 ≤ k → k ≤ 35 → (0 : Int) ≤ (fa0_15 k).toInt ∧ (fa0_15 k).toInt ≤ 8) ∧ (∀ k : Nat, 36 ≤ k → k ≤ 47 → (0 : Int) ≤ (fa0_15 k).toInt ∧ (fa0_15 k).toInt ≤ 999))) : Met l yX8_numberOf wsX8_numberOf ({ frames := 0, cells := 0, slots := 0, locals := 0 }) (va_Pc [.ref a0, .int a1] (ax_C dC dI sz [(a0, .inr (8, [a0g_0, a0g_1, a0g_2, a0g_3, a0g_4, a0g_5, a0g_6, a0g_7, a0g_8, a0g_9, a0g_10, a0g_11, a0g_12, a0g_13, a0g_14, Value.ref a0_15, a0g_16, a0g_17, a0g_18, a0g_19, a0g_20, a0g_21, a0g_22, a0g_23, a0g_24, a0g_25, a0g_26, a0g_27, a0g_28, a0g_29, a0g_30, a0g_31, a0g_32, a0g_33, a0g_34, a0g_35, a0g_36, a0g_37, a0g_38, a0g_39])), (a0_15, .inl (ka0_15, 156, .inl (fa0_15)))] [(ka0_15, .int)] (fun _ => True))) (va_Qi (fun (r : Int32) (_ : Unit) => (0 : Int) ≤ r.toInt ∧ r.toInt ≤ (72888 : Int)) (fun (_ : Unit) (t : State) => ax_B dC dI (va_A [(a0, .inr (8, [a0g_0, a0g_1, a0g_2, a0g_3, a0g_4, a0g_5, a0g_6, a0g_7, a0g_8, a0g_9, a0g_10, a0g_11, a0g_12, a0g_13, a0g_14, Value.ref a0_15, a0g_16, a0g_17, a0g_18, a0g_19, a0g_20, a0g_21, a0g_22, a0g_23, a0g_24, a0g_25, a0g_26, a0g_27, a0g_28, a0g_29, a0g_30, a0g_31, a0g_32, a0g_33, a0g_34, a0g_35, a0g_36, a0g_37, a0g_38, a0g_39])), (a0_15, .inl (ka0_15, 156, .inl (fa0_15)))] sz) [(a0, .inr (8, [a0g_0, a0g_1, a0g_2, a0g_3, a0g_4, a0g_5, a0g_6, a0g_7, a0g_8, a0g_9, a0g_10, a0g_11, a0g_12, a0g_13, a0g_14, Value.ref a0_15, a0g_16, a0g_17, a0g_18, a0g_19, a0g_20, a0g_21, a0g_22, a0g_23, a0g_24, a0g_25, a0g_26, a0g_27, a0g_28, a0g_29, a0g_30, a0g_31, a0g_32, a0g_33, a0g_34, a0g_35, a0g_36, a0g_37, a0g_38, a0g_39])), (a0_15, .inl (ka0_15, 156, .inl (fa0_15)))] [(ka0_15, .int)] t) (va_A [(a0, .inr (8, [a0g_0, a0g_1, a0g_2, a0g_3, a0g_4, a0g_5, a0g_6, a0g_7, a0g_8, a0g_9, a0g_10, a0g_11, a0g_12, a0g_13, a0g_14, Value.ref a0_15, a0g_16, a0g_17, a0g_18, a0g_19, a0g_20, a0g_21, a0g_22, a0g_23, a0g_24, a0g_25, a0g_26, a0g_27, a0g_28, a0g_29, a0g_30, a0g_31, a0g_32, a0g_33, a0g_34, a0g_35, a0g_36, a0g_37, a0g_38, a0g_39])), (a0_15, .inl (ka0_15, 156, .inl (fa0_15)))] sz)) 0 0 (va_A [(a0, .inr (8, [a0g_0, a0g_1, a0g_2, a0g_3, a0g_4, a0g_5, a0g_6, a0g_7, a0g_8, a0g_9, a0g_10, a0g_11, a0g_12, a0g_13, a0g_14, Value.ref a0_15, a0g_16, a0g_17, a0g_18, a0g_19, a0g_20, a0g_21, a0g_22, a0g_23, a0g_24, a0g_25, a0g_26, a0g_27, a0g_28, a0g_29, a0g_30, a0g_31, a0g_32, a0g_33, a0g_34, a0g_35, a0g_36, a0g_37, a0g_38, a0g_39])), (a0_15, .inl (ka0_15, 156, .inl (fa0_15)))] sz) := by
  refine Met.ofW (cc := cX8_numberOf) (maxL := 2) (ret := (some .int)) (by decide) rfl ?_
  intro p e s m args below meth c s₁ B hml hv
  obtain ⟨rfl, hsz, hP, hK, hD0, hE⟩ := hv
  have hx := B.exec
  have hb := B.bytes
  have hr := B.returns
  have hts := atoms_spec (ws := wsX8_numberOf) B.pre
  have hown : s.vm.findClass RX8 = some m.cls := findClass_of_methodNamed B.named
  have hlocks := B.notSynchronized
  subst hsz
  have hD := hD0.self (sz := s.heap.size)
  generalize hAe : va_A [(a0, .inr (8, [a0g_0, a0g_1, a0g_2, a0g_3, a0g_4, a0g_5, a0g_6, a0g_7, a0g_8, a0g_9, a0g_10, a0g_11, a0g_12, a0g_13, a0g_14, Value.ref a0_15, a0g_16, a0g_17, a0g_18, a0g_19, a0g_20, a0g_21, a0g_22, a0g_23, a0g_24, a0g_25, a0g_26, a0g_27, a0g_28, a0g_29, a0g_30, a0g_31, a0g_32, a0g_33, a0g_34, a0g_35, a0g_36, a0g_37, a0g_38, a0g_39])), (a0_15, .inl (ka0_15, 156, .inl (fa0_15)))] s.heap.size = A at hD ⊢
  have hA : ∀ q : Nat, s.heap.size ≤ q → A q := fun q h => by rw [← hAe]; exact Or.inr h
  have hS : va_S A s.heap s.heap [] := va_S.rf
  have hP : va_P (dC, dI) vwCl [(a0, .inr (8, [a0g_0, a0g_1, a0g_2, a0g_3, a0g_4, a0g_5, a0g_6, a0g_7, a0g_8, a0g_9, a0g_10, a0g_11, a0g_12, a0g_13, a0g_14, Value.ref a0_15, a0g_16, a0g_17, a0g_18, a0g_19, a0g_20, a0g_21, a0g_22, a0g_23, a0g_24, a0g_25, a0g_26, a0g_27, a0g_28, a0g_29, a0g_30, a0g_31, a0g_32, a0g_33, a0g_34, a0g_35, a0g_36, a0g_37, a0g_38, a0g_39])), (a0_15, .inl (ka0_15, 156, .inl (fa0_15)))] s.heap := hP
  have hl := lv_entry ([.ref a0, .int a1]) (n := 2) (Nat.le_of_ble_eq_true rfl)
  rw [lg_entry_eq]
  generalize (lg_sl ([.ref a0, .int a1]) ++ List.replicate (2 - (lg_sl ([.ref a0, .int a1])).length) Slot.unset).toArray = ls at hl ⊢
  have hl : lv_has ls 2 [(0, .ref a0), (1, .int a1)] := hl
  refine lv_bipush (v := 100) hx hb dX8_numberOf_0 zk_bipush_100 ?_
  refine lv_iload_n hx hb dX8_numberOf_2 rfl (lv_at hl 1 rfl) ?_
  refine lv_aload_n hx hb dX8_numberOf_3 rfl (lv_at hl 0 rfl) ?_
  refine va_get (D := (dC, dI)) (ci := 8) (v := .ref a0_15) (C := RX8) (T := TX8) (N := 40) hx hb hts zi_X8_numberOf_8 hown hK hP 0 rfl rfl 15 (by decide) (hts (.fieldLink RX8 20 "WaxTurnsModel" "\x72" "[I") (List.mem_cons_of_mem _ (List.mem_append_left _ (List.mem_of_getElem? (i := 0) rfl)))) (fun _ h9 => h9) rfl dX8_numberOf_4 ?_
  refine lv_iconst (v := 0) hx hb dX8_numberOf_7 zk_iconst_0 ?_
  refine va_iald hx hb hK hP 1 0 rfl rfl (by unfold vp_in; decide +kernel) dX8_numberOf_8 ?_
  refine lv_topi (fun x8 ex8 => ?_)
  have bx8 : (2 : Int) ≤ x8.toInt ∧ x8.toInt ≤ 9 := by rw [ex8]; exact ai_rd bfa0_15.1 zq5 zq6 (by decide) (by decide) (by decide)
  refine lv_aload_n hx hb dX8_numberOf_9 rfl (lv_at hl 0 rfl) ?_
  refine va_get (D := (dC, dI)) (ci := 8) (v := .ref a0_15) (C := RX8) (T := TX8) (N := 40) hx hb hts zi_X8_numberOf_8 hown hK hP 0 rfl rfl 15 (by decide) (hts (.fieldLink RX8 20 "WaxTurnsModel" "\x72" "[I") (List.mem_cons_of_mem _ (List.mem_append_left _ (List.mem_of_getElem? (i := 0) rfl)))) (fun _ h9 => h9) rfl dX8_numberOf_10 ?_
  refine lv_iconst (v := 0) hx hb dX8_numberOf_13 zk_iconst_0 ?_
  refine va_iald hx hb hK hP 1 0 rfl rfl (by unfold vp_in; decide +kernel) dX8_numberOf_14 ?_
  refine ax_ti x8 ex8.symm ?_
  refine lv_imul hx hb dX8_numberOf_15 ?_
  refine lv_topi (fun x15 ex15 => ?_)
  have qx15 : x15.toInt = x8.toInt * x8.toInt ∧ (4 : Int) ≤ x15.toInt ∧ x15.toInt ≤ 81 := ai_mul ex15 ⟨bx8.1, bx8.2⟩ ⟨bx8.1, bx8.2⟩ (by decide) (by decide) zq21
  refine lv_idiv hx hb dX8_numberOf_16 (ai_nz qx15.2.1 (by decide)) ?_
  refine lv_topi (fun x16 ex16 => ?_)
  have qx16 := ai_div ex16 ⟨ba1_l, ba1_u⟩ (Int.lt_of_lt_of_le zq178 qx15.2.1)
  refine lv_imul hx hb dX8_numberOf_17 ?_
  refine lv_topi (fun x17 ex17 => ?_)
  have qx17 : x17.toInt = (100 : Int32).toInt * x16.toInt ∧ (0 : Int) ≤ x17.toInt ∧ x17.toInt ≤ 72800 := ai_mul ex17 ⟨zq24, zq32⟩ ⟨qx16.2.1, qx16.2.2⟩ (by decide) (by decide) zq180
  have wx17 : x17.toInt = 100 * x16.toInt := qx17.1
  refine lv_bipush (v := 10) hx hb dX8_numberOf_18 zk_bipush_10 ?_
  refine lv_iload_n hx hb dX8_numberOf_20 rfl (lv_at hl 1 rfl) ?_
  refine lv_aload_n hx hb dX8_numberOf_21 rfl (lv_at hl 0 rfl) ?_
  refine va_get (D := (dC, dI)) (ci := 8) (v := .ref a0_15) (C := RX8) (T := TX8) (N := 40) hx hb hts zi_X8_numberOf_8 hown hK hP 0 rfl rfl 15 (by decide) (hts (.fieldLink RX8 20 "WaxTurnsModel" "\x72" "[I") (List.mem_cons_of_mem _ (List.mem_append_left _ (List.mem_of_getElem? (i := 0) rfl)))) (fun _ h9 => h9) rfl dX8_numberOf_22 ?_
  refine lv_iconst (v := 0) hx hb dX8_numberOf_25 zk_iconst_0 ?_
  refine va_iald hx hb hK hP 1 0 rfl rfl (by unfold vp_in; decide +kernel) dX8_numberOf_26 ?_
  refine ax_ti x8 ex8.symm ?_
  refine lv_idiv hx hb dX8_numberOf_27 (ai_nz bx8.1 (by decide)) ?_
  refine lv_topi (fun x27 ex27 => ?_)
  have qx27 := ai_div ex27 ⟨ba1_l, ba1_u⟩ (Int.lt_of_lt_of_le zq100 bx8.1)
  refine lv_aload_n hx hb dX8_numberOf_28 rfl (lv_at hl 0 rfl) ?_
  refine va_get (D := (dC, dI)) (ci := 8) (v := .ref a0_15) (C := RX8) (T := TX8) (N := 40) hx hb hts zi_X8_numberOf_8 hown hK hP 0 rfl rfl 15 (by decide) (hts (.fieldLink RX8 20 "WaxTurnsModel" "\x72" "[I") (List.mem_cons_of_mem _ (List.mem_append_left _ (List.mem_of_getElem? (i := 0) rfl)))) (fun _ h9 => h9) rfl dX8_numberOf_29 ?_
  refine lv_iconst (v := 0) hx hb dX8_numberOf_32 zk_iconst_0 ?_
  refine va_iald hx hb hK hP 1 0 rfl rfl (by unfold vp_in; decide +kernel) dX8_numberOf_33 ?_
  refine ax_ti x8 ex8.symm ?_
  refine lv_irem hx hb dX8_numberOf_34 (ai_nz bx8.1 (by decide)) ?_
  refine lv_topi (fun x34 ex34 => ?_)
  have qx34 := ai_rem2 ex34 qx27.2.1 (Int.lt_of_lt_of_le zq100 bx8.1) bx8.2
  refine lv_imul hx hb dX8_numberOf_35 ?_
  refine lv_topi (fun x35 ex35 => ?_)
  have qx35 : x35.toInt = (10 : Int32).toInt * x34.toInt ∧ (0 : Int) ≤ x35.toInt ∧ x35.toInt ≤ 80 := ai_mul ex35 ⟨zq26, zq27⟩ ⟨qx34.2.1, qx34.2.2⟩ (by decide) (by decide) zq34
  have wx35 : x35.toInt = 10 * x34.toInt := qx35.1
  refine lv_iadd hx hb dX8_numberOf_36 ?_
  refine lv_topi (fun x36 ex36 => ?_)
  have qx36 : x36.toInt = x17.toInt + x35.toInt := ai_add ex36 ⟨qx17.2.1, qx17.2.2⟩ ⟨qx35.2.1, qx35.2.2⟩ (by decide) (by decide)
  have bx36 : (0 : Int) ≤ x36.toInt ∧ x36.toInt ≤ 72880 := ⟨by rw [qx36]; exact Int.add_le_add qx17.2.1 qx35.2.1, by rw [qx36]; exact Int.add_le_add qx17.2.2 qx35.2.2⟩
  refine lv_iload_n hx hb dX8_numberOf_37 rfl (lv_at hl 1 rfl) ?_
  refine lv_aload_n hx hb dX8_numberOf_38 rfl (lv_at hl 0 rfl) ?_
  refine va_get (D := (dC, dI)) (ci := 8) (v := .ref a0_15) (C := RX8) (T := TX8) (N := 40) hx hb hts zi_X8_numberOf_8 hown hK hP 0 rfl rfl 15 (by decide) (hts (.fieldLink RX8 20 "WaxTurnsModel" "\x72" "[I") (List.mem_cons_of_mem _ (List.mem_append_left _ (List.mem_of_getElem? (i := 0) rfl)))) (fun _ h9 => h9) rfl dX8_numberOf_39 ?_
  refine lv_iconst (v := 0) hx hb dX8_numberOf_42 zk_iconst_0 ?_
  refine va_iald hx hb hK hP 1 0 rfl rfl (by unfold vp_in; decide +kernel) dX8_numberOf_43 ?_
  refine ax_ti x8 ex8.symm ?_
  refine lv_irem hx hb dX8_numberOf_44 (ai_nz bx8.1 (by decide)) ?_
  refine lv_topi (fun x44 ex44 => ?_)
  have qx44 := ai_rem2 ex44 ba1_l (Int.lt_of_lt_of_le zq100 bx8.1) bx8.2
  refine lv_iadd hx hb dX8_numberOf_45 ?_
  refine lv_topi (fun x45 ex45 => ?_)
  have qx45 : x45.toInt = x36.toInt + x44.toInt := ai_add ex45 ⟨bx36.1, bx36.2⟩ ⟨qx44.2.1, qx44.2.2⟩ (by decide) (by decide)
  have bx45 : (0 : Int) ≤ x45.toInt ∧ x45.toInt ≤ 72888 := ⟨by rw [qx45]; exact Int.add_le_add bx36.1 qx44.2.1, by rw [qx45]; exact Int.add_le_add bx36.2 qx44.2.2⟩
  exact W.iret (v := x45) hx hb hr (fun t ht hW => ⟨⟨x45, (), rfl, ⟨bx45.1, bx45.2⟩, by rw [ht]; exact hP, va_K.moved hW.alike hK, hD⟩, hS.F ht⟩) hS.2.2 dX8_numberOf_46

set_option maxHeartbeats 4000000 in
set_option maxRecDepth 100000 in
theorem c_X8_doesFit (l : Launch) (dC : Nat → ClassId) (dI : Nat → Nat → Nat) (sz : Nat) (a0 : Nat) (a1 : Int32) (a0g_0 a0g_1 a0g_2 a0g_3 a0g_4 a0g_5 a0g_6 a0g_7 a0g_8 a0g_9 a0g_10 a0g_11 a0g_12 a0g_13 a0g_14 a0g_16 a0g_17 a0g_18 a0g_19 a0g_20 a0g_21 a0g_22 a0g_23 a0g_24 a0g_25 a0g_26 a0g_27 a0g_28 a0g_29 a0g_30 a0g_31 a0g_32 a0g_33 a0g_35 a0g_36 a0g_37 a0g_38 a0g_39 : Value) (a0_15 : Nat) (a0_34 : Nat) (ka0_15 : ClassId) (fa0_15 : Nat → Int32) (ka0_34 : ClassId) (fa0_34 : Nat → Int32) (ba1_l : (0 : Int) ≤ a1.toInt) (ba1_u : a1.toInt ≤ (728 : Int)) (bfa0_15 : ((∀ k : Nat, 0 ≤ k → k ≤ 0 → (2 : Int) ≤ (fa0_15 k).toInt ∧ (fa0_15 k).toInt ≤ 9) ∧ (∀ k : Nat, 1 ≤ k → k ≤ 1 → (1 : Int) ≤ (fa0_15 k).toInt ∧ (fa0_15 k).toInt ≤ 20) ∧ (∀ k : Nat, 2 ≤ k → k ≤ 2 → (0 : Int) ≤ (fa0_15 k).toInt ∧ (fa0_15 k).toInt ≤ 8) ∧ (∀ k : Nat, 3 ≤ k → k ≤ 3 → (0 : Int) ≤ (fa0_15 k).toInt ∧ (fa0_15 k).toInt ≤ 100) ∧ (∀ k : Nat, 4 ≤ k → k ≤ 4 → (0 : Int) ≤ (fa0_15 k).toInt ∧ (fa0_15 k).toInt ≤ 9) ∧ (∀ k : Nat, 5 ≤ k → k ≤ 5 → (0 : Int) ≤ (fa0_15 k).toInt ∧ (fa0_15 k).toInt ≤ 3) ∧ (∀ k : Nat, 6 ≤ k → k ≤ 6 → (0 : Int) ≤ (fa0_15 k).toInt ∧ (fa0_15 k).toInt ≤ 6) ∧ (∀ k : Nat, 7 ≤ k → k ≤ 9 → (0 : Int) ≤ (fa0_15 k).toInt ∧ (fa0_15 k).toInt ≤ 8) ∧ (∀ k : Nat, 12 ≤ k → k ≤ 29 → (0 : Int) ≤ (fa0_15 k).toInt ∧ (fa0_15 k).toInt ≤ 20) ∧ (∀ k : Nat, 30 ≤ k → k ≤ 35 → (0 : Int) ≤ (fa0_15 k).toInt ∧ (fa0_15 k).toInt ≤ 8) ∧ (∀ k : Nat, 36 ≤ k → k ≤ 47 → (0 : Int) ≤ (fa0_15 k).toInt ∧ (fa0_15 k).toInt ≤ 999))) : Met l yX8_doesFit wsX8_doesFit ({ frames := 2, cells := 0, slots := 0, locals := 50 }) (va_Pc [.ref a0, .int a1] (ax_C dC dI sz [(a0, .inr (8, [a0g_0, a0g_1, a0g_2, a0g_3, a0g_4, a0g_5, a0g_6, a0g_7, a0g_8, a0g_9, a0g_10, a0g_11, a0g_12, a0g_13, a0g_14, Value.ref a0_15, a0g_16, a0g_17, a0g_18, a0g_19, a0g_20, a0g_21, a0g_22, a0g_23, a0g_24, a0g_25, a0g_26, a0g_27, a0g_28, a0g_29, a0g_30, a0g_31, a0g_32, a0g_33, Value.ref a0_34, a0g_35, a0g_36, a0g_37, a0g_38, a0g_39])), (a0_15, .inl (ka0_15, 156, .inl (fa0_15))), (a0_34, .inl (ka0_34, 9, .inl (fa0_34)))] [(ka0_15, .int), (ka0_34, .int)] (fun _ => True))) (va_Qi (fun (r : Int32) (_ : Unit) => (r = 1) ∨ (r = 0)) (fun (_ : Unit) (t : State) => ∃ nfa0_34 : Nat → Int32, ax_B dC dI (va_A [(a0, .inr (8, [a0g_0, a0g_1, a0g_2, a0g_3, a0g_4, a0g_5, a0g_6, a0g_7, a0g_8, a0g_9, a0g_10, a0g_11, a0g_12, a0g_13, a0g_14, Value.ref a0_15, a0g_16, a0g_17, a0g_18, a0g_19, a0g_20, a0g_21, a0g_22, a0g_23, a0g_24, a0g_25, a0g_26, a0g_27, a0g_28, a0g_29, a0g_30, a0g_31, a0g_32, a0g_33, Value.ref a0_34, a0g_35, a0g_36, a0g_37, a0g_38, a0g_39])), (a0_15, .inl (ka0_15, 156, .inl (fa0_15))), (a0_34, .inl (ka0_34, 9, .inl (fa0_34)))] sz) [(a0, .inr (8, [a0g_0, a0g_1, a0g_2, a0g_3, a0g_4, a0g_5, a0g_6, a0g_7, a0g_8, a0g_9, a0g_10, a0g_11, a0g_12, a0g_13, a0g_14, Value.ref a0_15, a0g_16, a0g_17, a0g_18, a0g_19, a0g_20, a0g_21, a0g_22, a0g_23, a0g_24, a0g_25, a0g_26, a0g_27, a0g_28, a0g_29, a0g_30, a0g_31, a0g_32, a0g_33, Value.ref a0_34, a0g_35, a0g_36, a0g_37, a0g_38, a0g_39])), (a0_15, .inl (ka0_15, 156, .inl (fa0_15))), (a0_34, .inl (ka0_34, 9, .inl (nfa0_34)))] [(ka0_15, .int), (ka0_34, .int)] t) (va_A [(a0, .inr (8, [a0g_0, a0g_1, a0g_2, a0g_3, a0g_4, a0g_5, a0g_6, a0g_7, a0g_8, a0g_9, a0g_10, a0g_11, a0g_12, a0g_13, a0g_14, Value.ref a0_15, a0g_16, a0g_17, a0g_18, a0g_19, a0g_20, a0g_21, a0g_22, a0g_23, a0g_24, a0g_25, a0g_26, a0g_27, a0g_28, a0g_29, a0g_30, a0g_31, a0g_32, a0g_33, Value.ref a0_34, a0g_35, a0g_36, a0g_37, a0g_38, a0g_39])), (a0_15, .inl (ka0_15, 156, .inl (fa0_15))), (a0_34, .inl (ka0_34, 9, .inl (fa0_34)))] sz)) 0 0 (va_A [(a0, .inr (8, [a0g_0, a0g_1, a0g_2, a0g_3, a0g_4, a0g_5, a0g_6, a0g_7, a0g_8, a0g_9, a0g_10, a0g_11, a0g_12, a0g_13, a0g_14, Value.ref a0_15, a0g_16, a0g_17, a0g_18, a0g_19, a0g_20, a0g_21, a0g_22, a0g_23, a0g_24, a0g_25, a0g_26, a0g_27, a0g_28, a0g_29, a0g_30, a0g_31, a0g_32, a0g_33, Value.ref a0_34, a0g_35, a0g_36, a0g_37, a0g_38, a0g_39])), (a0_15, .inl (ka0_15, 156, .inl (fa0_15))), (a0_34, .inl (ka0_34, 9, .inl (fa0_34)))] sz) := by
  refine Met.ofW (cc := cX8_doesFit) (maxL := 3) (ret := (some .boolean)) (by decide) rfl ?_
  intro p e s m args below meth c s₁ B hml hv
  obtain ⟨rfl, hsz, hP, hK, hD0, hE⟩ := hv
  have hx := B.exec
  have hb := B.bytes
  have hr := B.returns
  have hts := atoms_spec (ws := wsX8_doesFit) B.pre
  have hown : s.vm.findClass RX8 = some m.cls := findClass_of_methodNamed B.named
  have hlocks := B.notSynchronized
  subst hsz
  have hD := hD0.self (sz := s.heap.size)
  generalize hAe : va_A [(a0, .inr (8, [a0g_0, a0g_1, a0g_2, a0g_3, a0g_4, a0g_5, a0g_6, a0g_7, a0g_8, a0g_9, a0g_10, a0g_11, a0g_12, a0g_13, a0g_14, Value.ref a0_15, a0g_16, a0g_17, a0g_18, a0g_19, a0g_20, a0g_21, a0g_22, a0g_23, a0g_24, a0g_25, a0g_26, a0g_27, a0g_28, a0g_29, a0g_30, a0g_31, a0g_32, a0g_33, Value.ref a0_34, a0g_35, a0g_36, a0g_37, a0g_38, a0g_39])), (a0_15, .inl (ka0_15, 156, .inl (fa0_15))), (a0_34, .inl (ka0_34, 9, .inl (fa0_34)))] s.heap.size = A at hD ⊢
  have hA : ∀ q : Nat, s.heap.size ≤ q → A q := fun q h => by rw [← hAe]; exact Or.inr h
  have hS : va_S A s.heap s.heap [] := va_S.rf
  have hP : va_P (dC, dI) vwCl [(a0, .inr (8, [a0g_0, a0g_1, a0g_2, a0g_3, a0g_4, a0g_5, a0g_6, a0g_7, a0g_8, a0g_9, a0g_10, a0g_11, a0g_12, a0g_13, a0g_14, Value.ref a0_15, a0g_16, a0g_17, a0g_18, a0g_19, a0g_20, a0g_21, a0g_22, a0g_23, a0g_24, a0g_25, a0g_26, a0g_27, a0g_28, a0g_29, a0g_30, a0g_31, a0g_32, a0g_33, Value.ref a0_34, a0g_35, a0g_36, a0g_37, a0g_38, a0g_39])), (a0_15, .inl (ka0_15, 156, .inl (fa0_15))), (a0_34, .inl (ka0_34, 9, .inl (fa0_34)))] s.heap := hP
  have hl := lv_entry ([.ref a0, .int a1]) (n := 3) (Nat.le_of_ble_eq_true rfl)
  rw [lg_entry_eq]
  generalize (lg_sl ([.ref a0, .int a1]) ++ List.replicate (3 - (lg_sl ([.ref a0, .int a1])).length) Slot.unset).toArray = ls at hl ⊢
  have hl : lv_has ls 3 [(0, .ref a0), (1, .int a1)] := hl
  refine ai_open (fun K hK0 => ?_)
  refine (hK0 _ _ _).mpr ?_
  refine lv_iconst (v := 0) hx hb dX8_doesFit_0 zk_iconst_0 ?_
  refine lv_istore_n (lv' := [(2, .int 0), (0, .ref a0), (1, .int a1)]) hx hb dX8_doesFit_1 rfl hl (by decide) rfl (fun ls hl => ?_)
  have J2 : ∀ (n : Nat) (j2l2 : Int32) (j2a0_34_a : Nat → Int32) (H : Heap) (locs : List Loc) (ls : Array Slot), (7 : Int) - j2l2.toInt ≤ (n : Int) → (0 : Int) ≤ j2l2.toInt → j2l2.toInt ≤ (6 : Int) → va_P (dC, dI) vwCl [(a0, .inr (8, [a0g_0, a0g_1, a0g_2, a0g_3, a0g_4, a0g_5, a0g_6, a0g_7, a0g_8, a0g_9, a0g_10, a0g_11, a0g_12, a0g_13, a0g_14, Value.ref a0_15, a0g_16, a0g_17, a0g_18, a0g_19, a0g_20, a0g_21, a0g_22, a0g_23, a0g_24, a0g_25, a0g_26, a0g_27, a0g_28, a0g_29, a0g_30, a0g_31, a0g_32, a0g_33, Value.ref a0_34, a0g_35, a0g_36, a0g_37, a0g_38, a0g_39])), (a0_15, .inl (ka0_15, 156, .inl (fa0_15))), (a0_34, .inl (ka0_34, 9, .inl (j2a0_34_a)))] H → va_D A [(a0, .inr (8, [a0g_0, a0g_1, a0g_2, a0g_3, a0g_4, a0g_5, a0g_6, a0g_7, a0g_8, a0g_9, a0g_10, a0g_11, a0g_12, a0g_13, a0g_14, Value.ref a0_15, a0g_16, a0g_17, a0g_18, a0g_19, a0g_20, a0g_21, a0g_22, a0g_23, a0g_24, a0g_25, a0g_26, a0g_27, a0g_28, a0g_29, a0g_30, a0g_31, a0g_32, a0g_33, Value.ref a0_34, a0g_35, a0g_36, a0g_37, a0g_38, a0g_39])), (a0_15, .inl (ka0_15, 156, .inl (fa0_15))), (a0_34, .inl (ka0_34, 9, .inl (j2a0_34_a)))] → va_S A s.heap H locs → lv_has ls 3 [(0, .ref a0), (1, .int a1), (2, .int j2l2)] → K H locs (F0 m 2 ls []) := by
    intro n
    induction n with
    | zero =>
      intro j2l2 j2a0_34_a H locs ls hm bj2l2_l bj2l2_u hP hD hS hl
      have h8 := ai_min j2l2
      have h9 := ai_max j2l2
      exact absurd hm (by omega)
    | succ n ih2 =>
      intro j2l2 j2a0_34_a H locs ls hm bj2l2_l bj2l2_u hP hD hS hl
      refine (hK0 _ _ _).mpr ?_
      have hm2 := hm
      refine lv_iload_n hx hb dX8_doesFit_2 rfl (lv_at hl 2 rfl) ?_
      refine lv_aload_n hx hb dX8_doesFit_3 rfl (lv_at hl 0 rfl) ?_
      refine va_get (D := (dC, dI)) (ci := 8) (v := .ref a0_15) (C := RX8) (T := TX8) (N := 40) hx hb hts zi_X8_doesFit_8 hown hK hP 0 rfl rfl 15 (by decide) (hts (.fieldLink RX8 20 "WaxTurnsModel" "\x72" "[I") (List.mem_cons_of_mem _ (List.mem_append_left _ (List.mem_of_getElem? (i := 0) rfl)))) (fun _ h9 => h9) rfl dX8_doesFit_4 ?_
      refine lv_bipush (v := 6) hx hb dX8_doesFit_7 zk_bipush_6 ?_
      refine va_iald hx hb hK hP 1 0 rfl rfl (by unfold vp_in; decide +kernel) dX8_doesFit_9 ?_
      refine lv_topi (fun x9 ex9 => ?_)
      have bx9 : (0 : Int) ≤ x9.toInt ∧ x9.toInt ≤ 6 := by rw [ex9]; exact ai_rd bfa0_15.2.2.2.2.2.2.1 zq15 zq16 (by decide) (by decide) (by decide)
      refine lv_icmp_ge (tgt := 60) hx hb dX8_doesFit_10 (by decide) (fun c10 => ?_) (fun c10 => ?_)
      · have gc10 := ai_le c10
        have u10t_x9 : x9.toInt ≤ (6 : Int) := bx9.2
        have l10t_j2l2 : (0 : Int) ≤ j2l2.toInt := bj2l2_l
        refine lv_iconst (v := 1) hx hb dX8_doesFit_60 zk_iconst_1 ?_
        exact W.zret (v := 1) hx hb hr rfl (fun t ht hW => ⟨⟨1, (), rfl, (Or.inl (rfl)), j2a0_34_a, by rw [ht]; exact hP, va_K.moved hW.alike hK, hD⟩, hS.F ht⟩) hS.2.2 dX8_doesFit_61
      · have gc10 := ai_nle c10
        have u10f_j2l2 : j2l2.toInt ≤ (5 : Int) := ai_lthi gc10 bx9.2
        have l10f_x9 : (1 : Int) ≤ x9.toInt := ai_ltlo gc10 bj2l2_l
        refine lv_aload_n hx hb dX8_doesFit_13 rfl (lv_at hl 0 rfl) ?_
        refine lv_iload_n hx hb dX8_doesFit_14 rfl (lv_at hl 1 rfl) ?_
        refine lv_aload_n hx hb dX8_doesFit_15 rfl (lv_at hl 0 rfl) ?_
        refine va_get (D := (dC, dI)) (ci := 8) (v := .ref a0_15) (C := RX8) (T := TX8) (N := 40) hx hb hts zi_X8_doesFit_8 hown hK hP 0 rfl rfl 15 (by decide) (hts (.fieldLink RX8 20 "WaxTurnsModel" "\x72" "[I") (List.mem_cons_of_mem _ (List.mem_append_left _ (List.mem_of_getElem? (i := 0) rfl)))) (fun _ h9 => h9) rfl dX8_doesFit_16 ?_
        refine lv_bipush (v := 36) hx hb dX8_doesFit_19 zk_bipush_36 ?_
        refine lv_iconst (v := 2) hx hb dX8_doesFit_21 zk_iconst_2 ?_
        refine lv_iload_n hx hb dX8_doesFit_22 rfl (lv_at hl 2 rfl) ?_
        refine lv_imul hx hb dX8_doesFit_23 ?_
        refine lv_topi (fun x23 ex23 => ?_)
        have qx23 : x23.toInt = (2 : Int32).toInt * j2l2.toInt ∧ (0 : Int) ≤ x23.toInt ∧ x23.toInt ≤ 10 := ai_mul ex23 ⟨zq12, zq13⟩ ⟨bj2l2_l, u10f_j2l2⟩ (by decide) (by decide) zq181
        have wx23 : x23.toInt = 2 * j2l2.toInt := qx23.1
        refine lv_iadd hx hb dX8_doesFit_24 ?_
        refine lv_topi (fun x24 ex24 => ?_)
        have qx24 : x24.toInt = (36 : Int32).toInt + x23.toInt := ai_add ex24 ⟨zq182, zq183⟩ ⟨qx23.2.1, qx23.2.2⟩ (by decide) (by decide)
        have bx24 : (36 : Int) ≤ x24.toInt ∧ x24.toInt ≤ 46 := ⟨by rw [qx24]; exact Int.add_le_add zq182 qx23.2.1, by rw [qx24]; exact Int.add_le_add zq183 qx23.2.2⟩
        have wx24 : x24.toInt = 36 + x23.toInt := qx24
        refine lv_iconst (v := 1) hx hb dX8_doesFit_25 zk_iconst_1 ?_
        refine lv_iadd hx hb dX8_doesFit_26 ?_
        refine lv_topi (fun x26 ex26 => ?_)
        have qx26 : x26.toInt = x24.toInt + (1 : Int32).toInt := ai_add ex26 ⟨bx24.1, bx24.2⟩ ⟨zq1, zq0⟩ (by decide) (by decide)
        have bx26 : (37 : Int) ≤ x26.toInt ∧ x26.toInt ≤ 47 := ⟨by rw [qx26]; exact Int.add_le_add bx24.1 zq1, by rw [qx26]; exact Int.add_le_add bx24.2 zq0⟩
        have wx26 : x26.toInt = x24.toInt + 1 := qx26
        refine va_iald hx hb hK hP 1 0 rfl rfl (ai_in bx26.1 bx26.2 (by decide) (by decide)) dX8_doesFit_27 ?_
        refine lv_topi (fun x27 ex27 => ?_)
        have bx27 : (0 : Int) ≤ x27.toInt ∧ x27.toInt ≤ 999 := by rw [ex27]; exact ai_rd bfa0_15.2.2.2.2.2.2.2.2.2.2 bx26.1 bx26.2 (by decide) (by decide) (by decide)
        refine lv_aload_n hx hb dX8_doesFit_28 rfl (lv_at hl 0 rfl) ?_
        refine va_get (D := (dC, dI)) (ci := 8) (v := .ref a0_15) (C := RX8) (T := TX8) (N := 40) hx hb hts zi_X8_doesFit_8 hown hK hP 0 rfl rfl 15 (by decide) (hts (.fieldLink RX8 20 "WaxTurnsModel" "\x72" "[I") (List.mem_cons_of_mem _ (List.mem_append_left _ (List.mem_of_getElem? (i := 0) rfl)))) (fun _ h9 => h9) rfl dX8_doesFit_29 ?_
        refine lv_iconst (v := 1) hx hb dX8_doesFit_32 zk_iconst_1 ?_
        refine va_iald hx hb hK hP 1 0 rfl rfl (by unfold vp_in; decide +kernel) dX8_doesFit_33 ?_
        refine lv_topi (fun x33 ex33 => ?_)
        have bx33 : (1 : Int) ≤ x33.toInt ∧ x33.toInt ≤ 20 := by rw [ex33]; exact ai_rd bfa0_15.2.1 zq1 zq0 (by decide) (by decide) (by decide)
        refine lv_idiv hx hb dX8_doesFit_34 (ai_nz bx33.1 (by decide)) ?_
        refine lv_topi (fun x34 ex34 => ?_)
        have qx34 := ai_div ex34 ⟨bx27.1, bx27.2⟩ (Int.lt_of_lt_of_le zq19 bx33.1)
        obtain ⟨hPc, hDc, hFc, hCc⟩ := zc_cut (wc := [(a0, .inr (8, [a0g_0, a0g_1, a0g_2, a0g_3, a0g_4, a0g_5, a0g_6, a0g_7, a0g_8, a0g_9, a0g_10, a0g_11, a0g_12, a0g_13, a0g_14, Value.ref a0_15, a0g_16, a0g_17, a0g_18, a0g_19, a0g_20, a0g_21, a0g_22, a0g_23, a0g_24, a0g_25, a0g_26, a0g_27, a0g_28, a0g_29, a0g_30, a0g_31, a0g_32, a0g_33, Value.ref a0_34, a0g_35, a0g_36, a0g_37, a0g_38, a0g_39])), (a0_15, .inl (ka0_15, 156, .inl (fa0_15))), (a0_34, .inl (ka0_34, 9, .inl (j2a0_34_a)))]) hP hD hS hA [0, 1, 2] (by decide +kernel) rfl
        have hKc := hK.sub (tys' := [(ka0_15, .int), (ka0_34, .int)]) [0, 1] rfl
        refine va_calli (va_runV (As := [.int a1, .int x34]) (rest := []) ⟨hx, hb, hml, hown, hts⟩ (c_X8_byCode l dC dI H.size a0 a1 x34 a0g_0 a0g_1 a0g_2 a0g_3 a0g_4 a0g_5 a0g_6 a0g_7 a0g_8 a0g_9 a0g_10 a0g_11 a0g_12 a0g_13 a0g_14 a0g_16 a0g_17 a0g_18 a0g_19 a0g_20 a0g_21 a0g_22 a0g_23 a0g_24 a0g_25 a0g_26 a0g_27 a0g_28 a0g_29 a0g_30 a0g_31 a0g_32 a0g_33 a0g_35 a0g_36 a0g_37 a0g_38 a0g_39 a0_15 a0_34 ka0_15 fa0_15 ka0_34 j2a0_34_a ba1_l ba1_u qx34.2.1 qx34.2.2 bfa0_15) (cwV 2 hts gX8_doesFit_X8_byCode rfl rfl rfl zd_X8_byCode ⟨Nat.le_of_ble_eq_true rfl, Nat.le_of_ble_eq_true rfl⟩) ⟨ax_blind (fun _ _ _ _ _ => trivial), zr_8 hKc hPc (q0 := 0) rfl, ax_pre hPc hKc hDc (fun _ _ => trivial)⟩ rfl rfl hl.1 rfl (lv_room (Nat.le_of_ble_eq_true rfl)) dX8_doesFit_35 ⟨Nat.le_of_ble_eq_true rfl, Nat.le_of_ble_eq_true rfl⟩) hS (fun q _ h => hFc q h) hFc (fun r35 u t H locs ht hvm hw hB hz1 hk1 hS => ?_)
        obtain ⟨v35nfa0_34, hP1, hK1, hD1⟩ := hB
        rw [ht] at hP1
        obtain ⟨hP, hD⟩ := zc_back (w := [(a0, .inr (8, [a0g_0, a0g_1, a0g_2, a0g_3, a0g_4, a0g_5, a0g_6, a0g_7, a0g_8, a0g_9, a0g_10, a0g_11, a0g_12, a0g_13, a0g_14, Value.ref a0_15, a0g_16, a0g_17, a0g_18, a0g_19, a0g_20, a0g_21, a0g_22, a0g_23, a0g_24, a0g_25, a0g_26, a0g_27, a0g_28, a0g_29, a0g_30, a0g_31, a0g_32, a0g_33, Value.ref a0_34, a0g_35, a0g_36, a0g_37, a0g_38, a0g_39])), (a0_15, .inl (ka0_15, 156, .inl (fa0_15))), (a0_34, .inl (ka0_34, 9, .inl (v35nfa0_34)))]) hP hD hCc hk1 hFc hP1 hD1 [.inr 0, .inr 1, .inr 2] (by decide +kernel) rfl
        rcases hw with hw
        · obtain ⟨⟨lr35, ur35⟩, mr35⟩ := hw
          refine lv_aload_n hx hb dX8_doesFit_38 rfl (lv_at hl 0 rfl) ?_
          refine va_get (D := (dC, dI)) (ci := 8) (v := .ref a0_15) (C := RX8) (T := TX8) (N := 40) hx hb hts zi_X8_doesFit_8 hown hK hP 0 rfl rfl 15 (by decide) (hts (.fieldLink RX8 20 "WaxTurnsModel" "\x72" "[I") (List.mem_cons_of_mem _ (List.mem_append_left _ (List.mem_of_getElem? (i := 0) rfl)))) (fun _ h9 => h9) rfl dX8_doesFit_39 ?_
          refine lv_bipush (v := 36) hx hb dX8_doesFit_42 zk_bipush_36 ?_
          refine lv_iconst (v := 2) hx hb dX8_doesFit_44 zk_iconst_2 ?_
          refine lv_iload_n hx hb dX8_doesFit_45 rfl (lv_at hl 2 rfl) ?_
          refine lv_imul hx hb dX8_doesFit_46 ?_
          refine ax_ti x23 ex23.symm ?_
          refine lv_iadd hx hb dX8_doesFit_47 ?_
          refine ax_ti x24 ex24.symm ?_
          refine va_iald hx hb hK hP 1 0 rfl rfl (ai_in bx24.1 bx24.2 (by decide) (by decide)) dX8_doesFit_48 ?_
          refine lv_topi (fun x48 ex48 => ?_)
          have bx48 : (0 : Int) ≤ x48.toInt ∧ x48.toInt ≤ 999 := by rw [ex48]; exact ai_rd bfa0_15.2.2.2.2.2.2.2.2.2.2 bx24.1 bx24.2 (by decide) (by decide) (by decide)
          refine lv_icmp_eq (tgt := 54) hx hb dX8_doesFit_49 (by decide) (fun c49 => ?_) (fun c49 => ?_)
          · have gc49 := ai_eq c49
            have u49t_r35 : r35.toInt ≤ (8 : Int) := ur35
            have l49t_r35 : (0 : Int) ≤ r35.toInt := lr35
            have u49t_x48 : x48.toInt ≤ (8 : Int) := Int.le_trans (Int.le_of_eq gc49.symm) ur35
            have l49t_x48 : (0 : Int) ≤ x48.toInt := bx48.1
            obtain ⟨x54, ex54⟩ : ∃ y : Int32, y = j2l2 + Int32.ofInt 1 := ⟨_, rfl⟩
            have qx54 : x54.toInt = j2l2.toInt + 1 := ai_inc ex54 (by decide) (by decide) u10f_j2l2 (by decide)
            have bx54 : (1 : Int) ≤ x54.toInt ∧ x54.toInt ≤ 6 := ⟨by rw [qx54]; exact Int.add_le_add bj2l2_l (Int.le_refl _), by rw [qx54]; exact Int.add_le_add u10f_j2l2 (Int.le_refl _)⟩
            refine lv_iinc (v := x54) (lv' := [(2, .int x54), (0, .ref a0), (1, .int a1)]) hx hb dX8_doesFit_54 hl (k := 2) rfl ex54.symm (by decide) rfl (fun ls hl => ?_)
            refine lv_goto (tgt := 2) hx hb dX8_doesFit_57 (by decide) ?_
            exact (hK0 _ _ _).mp (ih2 x54 v35nfa0_34 _ _ _ (by have h0 := qx54; omega) (Int.le_trans zq4 bx54.1) bx54.2 hP hD hS (lv_sub hl [1, 2, 0] rfl))
          · have gc49 := ai_ne c49
            refine lv_iconst (v := 0) hx hb dX8_doesFit_52 zk_iconst_0 ?_
            exact W.zret (v := 0) hx hb hr rfl (fun t ht hW => ⟨⟨0, (), rfl, (Or.inr (rfl)), v35nfa0_34, by rw [ht]; exact hP, va_K.moved hW.alike hK, hD⟩, hS.F ht⟩) hS.2.2 dX8_doesFit_53
  exact (hK0 _ _ _).mp (J2 7 0 fa0_34 _ _ _ (by have h1 : (0 : Int) ≤ (0 : Int32).toInt := zq5; have h2 : (0 : Int32).toInt ≤ (0 : Int) := zq6; omega) zq5 (Int.le_trans zq6 zq17) hP hD hS (lv_sub hl [1, 2, 0] rfl))

set_option maxHeartbeats 4000000 in
set_option maxRecDepth 100000 in
theorem c_X8_fits (l : Launch) (dC : Nat → ClassId) (dI : Nat → Nat → Nat) (sz : Nat) (a0 : Nat) (a0_0 : Int32) (a0g_1 a0g_2 a0g_3 a0g_4 a0g_5 a0g_6 a0g_7 a0g_8 a0g_9 a0g_10 a0g_12 a0g_13 a0g_16 a0g_17 a0g_18 a0g_19 a0g_20 a0g_21 a0g_22 a0g_23 a0g_24 a0g_25 a0g_26 a0g_27 a0g_28 a0g_29 a0g_30 a0g_31 a0g_32 a0g_33 a0g_35 a0g_36 a0g_37 a0g_38 a0g_39 : Value) (a0_11 : Int32) (a0_14 : Int32) (a0_15 : Nat) (a0_34 : Nat) (ka0_15 : ClassId) (fa0_15 : Nat → Int32) (ka0_34 : ClassId) (fa0_34 : Nat → Int32) (ba0_14_l : (1 : Int) ≤ a0_14.toInt) (ba0_14_u : a0_14.toInt ≤ (1 : Int)) (bfa0_15 : ((∀ k : Nat, 0 ≤ k → k ≤ 0 → (2 : Int) ≤ (fa0_15 k).toInt ∧ (fa0_15 k).toInt ≤ 9) ∧ (∀ k : Nat, 1 ≤ k → k ≤ 1 → (1 : Int) ≤ (fa0_15 k).toInt ∧ (fa0_15 k).toInt ≤ 20) ∧ (∀ k : Nat, 2 ≤ k → k ≤ 2 → (0 : Int) ≤ (fa0_15 k).toInt ∧ (fa0_15 k).toInt ≤ 8) ∧ (∀ k : Nat, 3 ≤ k → k ≤ 3 → (0 : Int) ≤ (fa0_15 k).toInt ∧ (fa0_15 k).toInt ≤ 100) ∧ (∀ k : Nat, 4 ≤ k → k ≤ 4 → (0 : Int) ≤ (fa0_15 k).toInt ∧ (fa0_15 k).toInt ≤ 9) ∧ (∀ k : Nat, 5 ≤ k → k ≤ 5 → (0 : Int) ≤ (fa0_15 k).toInt ∧ (fa0_15 k).toInt ≤ 3) ∧ (∀ k : Nat, 6 ≤ k → k ≤ 6 → (0 : Int) ≤ (fa0_15 k).toInt ∧ (fa0_15 k).toInt ≤ 6) ∧ (∀ k : Nat, 7 ≤ k → k ≤ 9 → (0 : Int) ≤ (fa0_15 k).toInt ∧ (fa0_15 k).toInt ≤ 8) ∧ (∀ k : Nat, 12 ≤ k → k ≤ 29 → (0 : Int) ≤ (fa0_15 k).toInt ∧ (fa0_15 k).toInt ≤ 20) ∧ (∀ k : Nat, 30 ≤ k → k ≤ 35 → (0 : Int) ≤ (fa0_15 k).toInt ∧ (fa0_15 k).toInt ≤ 8) ∧ (∀ k : Nat, 36 ≤ k → k ≤ 47 → (0 : Int) ≤ (fa0_15 k).toInt ∧ (fa0_15 k).toInt ≤ 999))) : Met l yX8_fits wsX8_fits ({ frames := 3, cells := 0, slots := 0, locals := 72 }) (va_Pc [.ref a0] (ax_C dC dI sz [(a0, .inr (8, [Value.int a0_0, a0g_1, a0g_2, a0g_3, a0g_4, a0g_5, a0g_6, a0g_7, a0g_8, a0g_9, a0g_10, Value.int a0_11, a0g_12, a0g_13, Value.int a0_14, Value.ref a0_15, a0g_16, a0g_17, a0g_18, a0g_19, a0g_20, a0g_21, a0g_22, a0g_23, a0g_24, a0g_25, a0g_26, a0g_27, a0g_28, a0g_29, a0g_30, a0g_31, a0g_32, a0g_33, Value.ref a0_34, a0g_35, a0g_36, a0g_37, a0g_38, a0g_39])), (a0_15, .inl (ka0_15, 156, .inl (fa0_15))), (a0_34, .inl (ka0_34, 9, .inl (fa0_34)))] [(ka0_15, .int), (ka0_34, .int)] (fun _ => True))) (va_Qi (fun (r : Int32) (_ : Unit) => True) (fun (_ : Unit) (t : State) => ∃ na0_0 : Int32, ∃ na0_11 : Int32, ∃ nfa0_34 : Nat → Int32, ax_B dC dI (va_A [(a0, .inr (8, [Value.int a0_0, a0g_1, a0g_2, a0g_3, a0g_4, a0g_5, a0g_6, a0g_7, a0g_8, a0g_9, a0g_10, Value.int a0_11, a0g_12, a0g_13, Value.int a0_14, Value.ref a0_15, a0g_16, a0g_17, a0g_18, a0g_19, a0g_20, a0g_21, a0g_22, a0g_23, a0g_24, a0g_25, a0g_26, a0g_27, a0g_28, a0g_29, a0g_30, a0g_31, a0g_32, a0g_33, Value.ref a0_34, a0g_35, a0g_36, a0g_37, a0g_38, a0g_39])), (a0_15, .inl (ka0_15, 156, .inl (fa0_15))), (a0_34, .inl (ka0_34, 9, .inl (fa0_34)))] sz) [(a0, .inr (8, [Value.int na0_0, a0g_1, a0g_2, a0g_3, a0g_4, a0g_5, a0g_6, a0g_7, a0g_8, a0g_9, a0g_10, Value.int na0_11, a0g_12, a0g_13, Value.int a0_14, Value.ref a0_15, a0g_16, a0g_17, a0g_18, a0g_19, a0g_20, a0g_21, a0g_22, a0g_23, a0g_24, a0g_25, a0g_26, a0g_27, a0g_28, a0g_29, a0g_30, a0g_31, a0g_32, a0g_33, Value.ref a0_34, a0g_35, a0g_36, a0g_37, a0g_38, a0g_39])), (a0_15, .inl (ka0_15, 156, .inl (fa0_15))), (a0_34, .inl (ka0_34, 9, .inl (nfa0_34)))] [(ka0_15, .int), (ka0_34, .int)] t) (va_A [(a0, .inr (8, [Value.int a0_0, a0g_1, a0g_2, a0g_3, a0g_4, a0g_5, a0g_6, a0g_7, a0g_8, a0g_9, a0g_10, Value.int a0_11, a0g_12, a0g_13, Value.int a0_14, Value.ref a0_15, a0g_16, a0g_17, a0g_18, a0g_19, a0g_20, a0g_21, a0g_22, a0g_23, a0g_24, a0g_25, a0g_26, a0g_27, a0g_28, a0g_29, a0g_30, a0g_31, a0g_32, a0g_33, Value.ref a0_34, a0g_35, a0g_36, a0g_37, a0g_38, a0g_39])), (a0_15, .inl (ka0_15, 156, .inl (fa0_15))), (a0_34, .inl (ka0_34, 9, .inl (fa0_34)))] sz)) 0 0 (va_A [(a0, .inr (8, [Value.int a0_0, a0g_1, a0g_2, a0g_3, a0g_4, a0g_5, a0g_6, a0g_7, a0g_8, a0g_9, a0g_10, Value.int a0_11, a0g_12, a0g_13, Value.int a0_14, Value.ref a0_15, a0g_16, a0g_17, a0g_18, a0g_19, a0g_20, a0g_21, a0g_22, a0g_23, a0g_24, a0g_25, a0g_26, a0g_27, a0g_28, a0g_29, a0g_30, a0g_31, a0g_32, a0g_33, Value.ref a0_34, a0g_35, a0g_36, a0g_37, a0g_38, a0g_39])), (a0_15, .inl (ka0_15, 156, .inl (fa0_15))), (a0_34, .inl (ka0_34, 9, .inl (fa0_34)))] sz) := by
  refine Met.ofW (cc := cX8_fits) (maxL := 3) (ret := (some .int)) (by decide) rfl ?_
  intro p e s m args below meth c s₁ B hml hv
  obtain ⟨rfl, hsz, hP, hK, hD0, hE⟩ := hv
  have hx := B.exec
  have hb := B.bytes
  have hr := B.returns
  have hts := atoms_spec (ws := wsX8_fits) B.pre
  have hown : s.vm.findClass RX8 = some m.cls := findClass_of_methodNamed B.named
  have hlocks := B.notSynchronized
  subst hsz
  have hD := hD0.self (sz := s.heap.size)
  generalize hAe : va_A [(a0, .inr (8, [Value.int a0_0, a0g_1, a0g_2, a0g_3, a0g_4, a0g_5, a0g_6, a0g_7, a0g_8, a0g_9, a0g_10, Value.int a0_11, a0g_12, a0g_13, Value.int a0_14, Value.ref a0_15, a0g_16, a0g_17, a0g_18, a0g_19, a0g_20, a0g_21, a0g_22, a0g_23, a0g_24, a0g_25, a0g_26, a0g_27, a0g_28, a0g_29, a0g_30, a0g_31, a0g_32, a0g_33, Value.ref a0_34, a0g_35, a0g_36, a0g_37, a0g_38, a0g_39])), (a0_15, .inl (ka0_15, 156, .inl (fa0_15))), (a0_34, .inl (ka0_34, 9, .inl (fa0_34)))] s.heap.size = A at hD ⊢
  have hA : ∀ q : Nat, s.heap.size ≤ q → A q := fun q h => by rw [← hAe]; exact Or.inr h
  have hS : va_S A s.heap s.heap [] := va_S.rf
  have hP : va_P (dC, dI) vwCl [(a0, .inr (8, [Value.int a0_0, a0g_1, a0g_2, a0g_3, a0g_4, a0g_5, a0g_6, a0g_7, a0g_8, a0g_9, a0g_10, Value.int a0_11, a0g_12, a0g_13, Value.int a0_14, Value.ref a0_15, a0g_16, a0g_17, a0g_18, a0g_19, a0g_20, a0g_21, a0g_22, a0g_23, a0g_24, a0g_25, a0g_26, a0g_27, a0g_28, a0g_29, a0g_30, a0g_31, a0g_32, a0g_33, Value.ref a0_34, a0g_35, a0g_36, a0g_37, a0g_38, a0g_39])), (a0_15, .inl (ka0_15, 156, .inl (fa0_15))), (a0_34, .inl (ka0_34, 9, .inl (fa0_34)))] s.heap := hP
  have hl := lv_entry ([.ref a0]) (n := 3) (Nat.le_of_ble_eq_true rfl)
  rw [lg_entry_eq]
  generalize (lg_sl ([.ref a0]) ++ List.replicate (3 - (lg_sl ([.ref a0])).length) Slot.unset).toArray = ls at hl ⊢
  have hl : lv_has ls 3 [(0, .ref a0)] := hl
  refine ai_open (fun K hK0 => ?_)
  refine (hK0 _ _ _).mpr ?_
  refine lv_aload_n hx hb dX8_fits_0 rfl (lv_at hl 0 rfl) ?_
  obtain ⟨hPc, hDc, hFc, hCc⟩ := zc_cut (wc := [(a0, .inr (8, [Value.int a0_0, a0g_1, a0g_2, a0g_3, a0g_4, a0g_5, a0g_6, a0g_7, a0g_8, a0g_9, a0g_10, Value.int a0_11, a0g_12, a0g_13, Value.int a0_14, Value.ref a0_15, a0g_16, a0g_17, a0g_18, a0g_19, a0g_20, a0g_21, a0g_22, a0g_23, a0g_24, a0g_25, a0g_26, a0g_27, a0g_28, a0g_29, a0g_30, a0g_31, a0g_32, a0g_33, Value.ref a0_34, a0g_35, a0g_36, a0g_37, a0g_38, a0g_39]))]) hP hD hS hA [0] (by decide +kernel) rfl
  have hKc := hK.sub (tys' := []) [] rfl
  refine va_callv (va_runV (As := []) (rest := []) ⟨hx, hb, hml, hown, hts⟩ (c_X8_good l dC dI s.heap.size a0 a0_0 a0g_1 a0g_2 a0g_3 a0g_4 a0g_5 a0g_6 a0g_7 a0g_8 a0g_9 a0g_10 a0g_12 a0g_13 (Value.int a0_14) (Value.ref a0_15) a0g_16 a0g_17 a0g_18 a0g_19 a0g_20 a0g_21 a0g_22 a0g_23 a0g_24 a0g_25 a0g_26 a0g_27 a0g_28 a0g_29 a0g_30 a0g_31 a0g_32 a0g_33 (Value.ref a0_34) a0g_35 a0g_36 a0g_37 a0g_38 a0g_39 a0_11 ) (cwV 0 hts gX8_fits_X8_good rfl rfl rfl zd_X8_good ⟨Nat.le_of_ble_eq_true rfl, Nat.le_of_ble_eq_true rfl⟩) ⟨ax_blind (fun _ _ _ _ _ => trivial), zr_8 hKc hPc (q0 := 0) rfl, ax_pre hPc hKc hDc (fun _ _ => trivial)⟩ rfl rfl hl.1 rfl (lv_room (Nat.le_of_ble_eq_true rfl)) dX8_fits_1 ⟨Nat.le_of_ble_eq_true rfl, Nat.le_of_ble_eq_true rfl⟩) hS (fun q _ h => hFc q h) hFc (fun u t H locs ht hvm hw hB hz1 hk1 hS => ?_)
  obtain ⟨v1na0_0, v1na0_11, hP1, hK1, hD1⟩ := hB
  rw [ht] at hP1
  obtain ⟨hP, hD⟩ := zc_back (w := [(a0, .inr (8, [Value.int v1na0_0, a0g_1, a0g_2, a0g_3, a0g_4, a0g_5, a0g_6, a0g_7, a0g_8, a0g_9, a0g_10, Value.int v1na0_11, a0g_12, a0g_13, Value.int a0_14, Value.ref a0_15, a0g_16, a0g_17, a0g_18, a0g_19, a0g_20, a0g_21, a0g_22, a0g_23, a0g_24, a0g_25, a0g_26, a0g_27, a0g_28, a0g_29, a0g_30, a0g_31, a0g_32, a0g_33, Value.ref a0_34, a0g_35, a0g_36, a0g_37, a0g_38, a0g_39])), (a0_15, .inl (ka0_15, 156, .inl (fa0_15))), (a0_34, .inl (ka0_34, 9, .inl (fa0_34)))]) hP hD hCc hk1 hFc hP1 hD1 [.inr 0, .inl 1, .inl 2] (by decide +kernel) rfl
  refine lv_aload_n hx hb dX8_fits_4 rfl (lv_at hl 0 rfl) ?_
  refine va_get (D := (dC, dI)) (ci := 8) (v := .int a0_14) (C := RX8) (T := TX8) (N := 40) hx hb hts zi_X8_fits_8 hown hK hP 0 rfl rfl 14 (by decide) (hts (.fieldLink RX8 173 "WaxTurnsModel" "hasGallery" "Z") (zm_X8_fits_r1 (List.mem_of_getElem? (i := 0) rfl))) (fun _ h9 => h9) rfl dX8_fits_5 ?_
  refine lv_if_ne (tgt := 17) hx hb dX8_fits_8 (by decide) (fun c8 => ?_) (fun c8 => ?_)
  · have gc8 := ai_ne c8
    refine lv_iconst (v := 0) hx hb dX8_fits_17 zk_iconst_0 ?_
    refine lv_istore_n (lv' := [(1, .int 0), (0, .ref a0)]) hx hb dX8_fits_18 rfl hl (by decide) rfl (fun ls hl => ?_)
    refine lv_iconst (v := 0) hx hb dX8_fits_19 zk_iconst_0 ?_
    refine lv_istore_n (lv' := [(2, .int 0), (1, .int 0), (0, .ref a0)]) hx hb dX8_fits_20 rfl hl (by decide) rfl (fun ls hl => ?_)
    have J21 : ∀ (n : Nat) (j21l2 : Int32) (j21l1 : Int32) (j21a0_34_a : Nat → Int32) (H : Heap) (locs : List Loc) (ls : Array Slot), (730 : Int) - j21l2.toInt ≤ (n : Int) → (0 : Int) ≤ j21l2.toInt → j21l2.toInt ≤ (729 : Int) → va_P (dC, dI) vwCl [(a0, .inr (8, [Value.int v1na0_0, a0g_1, a0g_2, a0g_3, a0g_4, a0g_5, a0g_6, a0g_7, a0g_8, a0g_9, a0g_10, Value.int v1na0_11, a0g_12, a0g_13, Value.int a0_14, Value.ref a0_15, a0g_16, a0g_17, a0g_18, a0g_19, a0g_20, a0g_21, a0g_22, a0g_23, a0g_24, a0g_25, a0g_26, a0g_27, a0g_28, a0g_29, a0g_30, a0g_31, a0g_32, a0g_33, Value.ref a0_34, a0g_35, a0g_36, a0g_37, a0g_38, a0g_39])), (a0_15, .inl (ka0_15, 156, .inl (fa0_15))), (a0_34, .inl (ka0_34, 9, .inl (j21a0_34_a)))] H → va_D A [(a0, .inr (8, [Value.int v1na0_0, a0g_1, a0g_2, a0g_3, a0g_4, a0g_5, a0g_6, a0g_7, a0g_8, a0g_9, a0g_10, Value.int v1na0_11, a0g_12, a0g_13, Value.int a0_14, Value.ref a0_15, a0g_16, a0g_17, a0g_18, a0g_19, a0g_20, a0g_21, a0g_22, a0g_23, a0g_24, a0g_25, a0g_26, a0g_27, a0g_28, a0g_29, a0g_30, a0g_31, a0g_32, a0g_33, Value.ref a0_34, a0g_35, a0g_36, a0g_37, a0g_38, a0g_39])), (a0_15, .inl (ka0_15, 156, .inl (fa0_15))), (a0_34, .inl (ka0_34, 9, .inl (j21a0_34_a)))] → va_S A s.heap H locs → lv_has ls 3 [(0, .ref a0), (1, .int j21l1), (2, .int j21l2)] → K H locs (F0 m 21 ls []) := by
      intro n
      induction n with
      | zero =>
        intro j21l2 j21l1 j21a0_34_a H locs ls hm bj21l2_l bj21l2_u hP hD hS hl
        have h8 := ai_min j21l2
        have h9 := ai_max j21l2
        exact absurd hm (by omega)
      | succ n ih21 =>
        intro j21l2 j21l1 j21a0_34_a H locs ls hm bj21l2_l bj21l2_u hP hD hS hl
        refine (hK0 _ _ _).mpr ?_
        have hm21 := hm
        refine lv_iload_n hx hb dX8_fits_21 rfl (lv_at hl 2 rfl) ?_
        refine lv_aload_n hx hb dX8_fits_22 rfl (lv_at hl 0 rfl) ?_
        obtain ⟨hPc, hDc, hFc, hCc⟩ := zc_cut (wc := [(a0, .inr (8, [Value.int v1na0_0, a0g_1, a0g_2, a0g_3, a0g_4, a0g_5, a0g_6, a0g_7, a0g_8, a0g_9, a0g_10, Value.int v1na0_11, a0g_12, a0g_13, Value.int a0_14, Value.ref a0_15, a0g_16, a0g_17, a0g_18, a0g_19, a0g_20, a0g_21, a0g_22, a0g_23, a0g_24, a0g_25, a0g_26, a0g_27, a0g_28, a0g_29, a0g_30, a0g_31, a0g_32, a0g_33, Value.ref a0_34, a0g_35, a0g_36, a0g_37, a0g_38, a0g_39])), (a0_15, .inl (ka0_15, 156, .inl (fa0_15)))]) hP hD hS hA [0, 1] (by decide +kernel) rfl
        have hKc := hK.sub (tys' := [(ka0_15, .int)]) [0] rfl
        refine va_calli (va_runV (As := []) (rest := [.int j21l2]) ⟨hx, hb, hml, hown, hts⟩ (c_X8_codes l dC dI H.size a0 (Value.int v1na0_0) a0g_1 a0g_2 a0g_3 a0g_4 a0g_5 a0g_6 a0g_7 a0g_8 a0g_9 a0g_10 (Value.int v1na0_11) a0g_12 a0g_13 (Value.int a0_14) a0g_16 a0g_17 a0g_18 a0g_19 a0g_20 a0g_21 a0g_22 a0g_23 a0g_24 a0g_25 a0g_26 a0g_27 a0g_28 a0g_29 a0g_30 a0g_31 a0g_32 a0g_33 (Value.ref a0_34) a0g_35 a0g_36 a0g_37 a0g_38 a0g_39 a0_15 ka0_15 fa0_15 bfa0_15) (cwV 0 hts gX8_fits_X8_codes rfl rfl rfl zd_X8_codes ⟨Nat.le_of_ble_eq_true rfl, Nat.le_of_ble_eq_true rfl⟩) ⟨ax_blind (fun _ _ _ _ _ => trivial), zr_8 hKc hPc (q0 := 0) rfl, ax_pre hPc hKc hDc (fun _ _ => trivial)⟩ rfl rfl hl.1 rfl (lv_room (Nat.le_of_ble_eq_true rfl)) dX8_fits_23 ⟨Nat.le_of_ble_eq_true rfl, Nat.le_of_ble_eq_true rfl⟩) hS (fun q _ h => hFc q h) hFc (fun r23 u t H locs ht hvm hw hB hz1 hk1 hS => ?_)
        obtain ⟨hP1, hK1, hD1⟩ := hB
        rw [ht] at hP1
        obtain ⟨hP, hD⟩ := zc_back (w := [(a0, .inr (8, [Value.int v1na0_0, a0g_1, a0g_2, a0g_3, a0g_4, a0g_5, a0g_6, a0g_7, a0g_8, a0g_9, a0g_10, Value.int v1na0_11, a0g_12, a0g_13, Value.int a0_14, Value.ref a0_15, a0g_16, a0g_17, a0g_18, a0g_19, a0g_20, a0g_21, a0g_22, a0g_23, a0g_24, a0g_25, a0g_26, a0g_27, a0g_28, a0g_29, a0g_30, a0g_31, a0g_32, a0g_33, Value.ref a0_34, a0g_35, a0g_36, a0g_37, a0g_38, a0g_39])), (a0_15, .inl (ka0_15, 156, .inl (fa0_15))), (a0_34, .inl (ka0_34, 9, .inl (j21a0_34_a)))]) hP hD hCc hk1 hFc hP1 hD1 [.inr 0, .inr 1, .inl 2] (by decide +kernel) rfl
        have hw : (8 : Int) ≤ r23.toInt ∧ r23.toInt ≤ (729 : Int) := hw
        obtain ⟨h23_0, h23_1⟩ := hw
        refine lv_icmp_ge (tgt := 51) hx hb dX8_fits_26 (by decide) (fun c26 => ?_) (fun c26 => ?_)
        · have gc26 := ai_le c26
          have u26t_r23 : r23.toInt ≤ (729 : Int) := h23_1
          have l26t_j21l2 : (8 : Int) ≤ j21l2.toInt := Int.le_trans h23_0 gc26
          refine lv_iload_n hx hb dX8_fits_51 rfl (lv_at hl 1 rfl) ?_
          exact W.iret (v := j21l1) hx hb hr (fun t ht hW => ⟨⟨j21l1, (), rfl, trivial, v1na0_0, v1na0_11, j21a0_34_a, by rw [ht]; exact hP, va_K.moved hW.alike hK, hD⟩, hS.F ht⟩) hS.2.2 dX8_fits_52
        · have gc26 := ai_nle c26
          have u26f_j21l2 : j21l2.toInt ≤ (728 : Int) := ai_lthi gc26 h23_1
          have l26f_r23 : (8 : Int) ≤ r23.toInt := h23_0
          refine lv_iload_n hx hb dX8_fits_29 rfl (lv_at hl 1 rfl) ?_
          refine lv_aload_n hx hb dX8_fits_30 rfl (lv_at hl 0 rfl) ?_
          refine lv_iload_n hx hb dX8_fits_31 rfl (lv_at hl 2 rfl) ?_
          obtain ⟨hPc, hDc, hFc, hCc⟩ := zc_cut (wc := [(a0, .inr (8, [Value.int v1na0_0, a0g_1, a0g_2, a0g_3, a0g_4, a0g_5, a0g_6, a0g_7, a0g_8, a0g_9, a0g_10, Value.int v1na0_11, a0g_12, a0g_13, Value.int a0_14, Value.ref a0_15, a0g_16, a0g_17, a0g_18, a0g_19, a0g_20, a0g_21, a0g_22, a0g_23, a0g_24, a0g_25, a0g_26, a0g_27, a0g_28, a0g_29, a0g_30, a0g_31, a0g_32, a0g_33, Value.ref a0_34, a0g_35, a0g_36, a0g_37, a0g_38, a0g_39])), (a0_15, .inl (ka0_15, 156, .inl (fa0_15))), (a0_34, .inl (ka0_34, 9, .inl (j21a0_34_a)))]) hP hD hS hA [0, 1, 2] (by decide +kernel) rfl
          have hKc := hK.sub (tys' := [(ka0_15, .int), (ka0_34, .int)]) [0, 1] rfl
          refine va_calli (va_runV (As := [.int j21l2]) (rest := [.int j21l1]) ⟨hx, hb, hml, hown, hts⟩ (c_X8_doesFit l dC dI H.size a0 j21l2 (Value.int v1na0_0) a0g_1 a0g_2 a0g_3 a0g_4 a0g_5 a0g_6 a0g_7 a0g_8 a0g_9 a0g_10 (Value.int v1na0_11) a0g_12 a0g_13 (Value.int a0_14) a0g_16 a0g_17 a0g_18 a0g_19 a0g_20 a0g_21 a0g_22 a0g_23 a0g_24 a0g_25 a0g_26 a0g_27 a0g_28 a0g_29 a0g_30 a0g_31 a0g_32 a0g_33 a0g_35 a0g_36 a0g_37 a0g_38 a0g_39 a0_15 a0_34 ka0_15 fa0_15 ka0_34 j21a0_34_a bj21l2_l u26f_j21l2 bfa0_15) (cwV 1 hts gX8_fits_X8_doesFit rfl rfl rfl zd_X8_doesFit ⟨Nat.le_of_ble_eq_true rfl, Nat.le_of_ble_eq_true rfl⟩) ⟨ax_blind (fun _ _ _ _ _ => trivial), zr_8 hKc hPc (q0 := 0) rfl, ax_pre hPc hKc hDc (fun _ _ => trivial)⟩ rfl rfl hl.1 rfl (lv_room (Nat.le_of_ble_eq_true rfl)) dX8_fits_32 ⟨Nat.le_of_ble_eq_true rfl, Nat.le_of_ble_eq_true rfl⟩) hS (fun q _ h => hFc q h) hFc (fun r32 u t H locs ht hvm hw hB hz1 hk1 hS => ?_)
          obtain ⟨v32nfa0_34, hP1, hK1, hD1⟩ := hB
          rw [ht] at hP1
          obtain ⟨hP, hD⟩ := zc_back (w := [(a0, .inr (8, [Value.int v1na0_0, a0g_1, a0g_2, a0g_3, a0g_4, a0g_5, a0g_6, a0g_7, a0g_8, a0g_9, a0g_10, Value.int v1na0_11, a0g_12, a0g_13, Value.int a0_14, Value.ref a0_15, a0g_16, a0g_17, a0g_18, a0g_19, a0g_20, a0g_21, a0g_22, a0g_23, a0g_24, a0g_25, a0g_26, a0g_27, a0g_28, a0g_29, a0g_30, a0g_31, a0g_32, a0g_33, Value.ref a0_34, a0g_35, a0g_36, a0g_37, a0g_38, a0g_39])), (a0_15, .inl (ka0_15, 156, .inl (fa0_15))), (a0_34, .inl (ka0_34, 9, .inl (v32nfa0_34)))]) hP hD hCc hk1 hFc hP1 hD1 [.inr 0, .inr 1, .inr 2] (by decide +kernel) rfl
          rcases hw with hw | hw
          · subst hw
            refine lv_if_eq (tgt := 42) hx hb dX8_fits_35 (by decide) (fun c35 => absurd c35 (by decide +kernel)) (fun _ => ?_)
            have J43 : ∀ (j43s0 : Int32) (H : Heap) (locs : List Loc) (ls : Array Slot), (0 : Int) ≤ j43s0.toInt → j43s0.toInt ≤ (1 : Int) → va_P (dC, dI) vwCl [(a0, .inr (8, [Value.int v1na0_0, a0g_1, a0g_2, a0g_3, a0g_4, a0g_5, a0g_6, a0g_7, a0g_8, a0g_9, a0g_10, Value.int v1na0_11, a0g_12, a0g_13, Value.int a0_14, Value.ref a0_15, a0g_16, a0g_17, a0g_18, a0g_19, a0g_20, a0g_21, a0g_22, a0g_23, a0g_24, a0g_25, a0g_26, a0g_27, a0g_28, a0g_29, a0g_30, a0g_31, a0g_32, a0g_33, Value.ref a0_34, a0g_35, a0g_36, a0g_37, a0g_38, a0g_39])), (a0_15, .inl (ka0_15, 156, .inl (fa0_15))), (a0_34, .inl (ka0_34, 9, .inl (v32nfa0_34)))] H → va_D A [(a0, .inr (8, [Value.int v1na0_0, a0g_1, a0g_2, a0g_3, a0g_4, a0g_5, a0g_6, a0g_7, a0g_8, a0g_9, a0g_10, Value.int v1na0_11, a0g_12, a0g_13, Value.int a0_14, Value.ref a0_15, a0g_16, a0g_17, a0g_18, a0g_19, a0g_20, a0g_21, a0g_22, a0g_23, a0g_24, a0g_25, a0g_26, a0g_27, a0g_28, a0g_29, a0g_30, a0g_31, a0g_32, a0g_33, Value.ref a0_34, a0g_35, a0g_36, a0g_37, a0g_38, a0g_39])), (a0_15, .inl (ka0_15, 156, .inl (fa0_15))), (a0_34, .inl (ka0_34, 9, .inl (v32nfa0_34)))] → va_S A s.heap H locs → lv_has ls 3 [(0, .ref a0), (2, .int j21l2)] → K H locs (F0 m 43 ls [.int j43s0, .int j21l1]) := by
              intro j43s0 H locs ls  bj43s0_l bj43s0_u hP hD hS hl
              refine (hK0 _ _ _).mpr ?_
              refine lv_iadd hx hb dX8_fits_43 ?_
              refine lv_topi (fun x43 ex43 => ?_)
              refine lv_istore_n (lv' := [(1, .int x43), (0, .ref a0), (2, .int j21l2)]) hx hb dX8_fits_44 rfl hl (by decide) rfl (fun ls hl => ?_)
              obtain ⟨x45, ex45⟩ : ∃ y : Int32, y = j21l2 + Int32.ofInt 1 := ⟨_, rfl⟩
              have qx45 : x45.toInt = j21l2.toInt + 1 := ai_inc ex45 (by decide) (by decide) u26f_j21l2 (by decide)
              have bx45 : (1 : Int) ≤ x45.toInt ∧ x45.toInt ≤ 729 := ⟨by rw [qx45]; exact Int.add_le_add bj21l2_l (Int.le_refl _), by rw [qx45]; exact Int.add_le_add u26f_j21l2 (Int.le_refl _)⟩
              refine lv_iinc (v := x45) (lv' := [(2, .int x45), (1, .int x43), (0, .ref a0)]) hx hb dX8_fits_45 hl (k := 2) rfl ex45.symm (by decide) rfl (fun ls hl => ?_)
              refine lv_goto (tgt := 21) hx hb dX8_fits_48 (by decide) ?_
              exact (hK0 _ _ _).mp (ih21 x45 x43 v32nfa0_34 _ _ _ (by have h0 := qx45; omega) (Int.le_trans zq4 bx45.1) bx45.2 hP hD hS (lv_sub hl [2, 1, 0] rfl))
            refine lv_iconst (v := 1) hx hb dX8_fits_38 zk_iconst_1 ?_
            refine lv_goto (tgt := 43) hx hb dX8_fits_39 (by decide) ?_
            exact (hK0 _ _ _).mp (J43 1 _ _ _  (Int.le_trans zq4 zq1) zq0 hP hD hS (lv_sub hl [0, 2] rfl))
          · subst hw
            refine lv_if_eq (tgt := 42) hx hb dX8_fits_35 (by decide) (fun _ => ?_) (fun c35 => absurd (by decide +kernel) c35)
            have J43 : ∀ (j43s0 : Int32) (H : Heap) (locs : List Loc) (ls : Array Slot), (0 : Int) ≤ j43s0.toInt → j43s0.toInt ≤ (1 : Int) → va_P (dC, dI) vwCl [(a0, .inr (8, [Value.int v1na0_0, a0g_1, a0g_2, a0g_3, a0g_4, a0g_5, a0g_6, a0g_7, a0g_8, a0g_9, a0g_10, Value.int v1na0_11, a0g_12, a0g_13, Value.int a0_14, Value.ref a0_15, a0g_16, a0g_17, a0g_18, a0g_19, a0g_20, a0g_21, a0g_22, a0g_23, a0g_24, a0g_25, a0g_26, a0g_27, a0g_28, a0g_29, a0g_30, a0g_31, a0g_32, a0g_33, Value.ref a0_34, a0g_35, a0g_36, a0g_37, a0g_38, a0g_39])), (a0_15, .inl (ka0_15, 156, .inl (fa0_15))), (a0_34, .inl (ka0_34, 9, .inl (v32nfa0_34)))] H → va_D A [(a0, .inr (8, [Value.int v1na0_0, a0g_1, a0g_2, a0g_3, a0g_4, a0g_5, a0g_6, a0g_7, a0g_8, a0g_9, a0g_10, Value.int v1na0_11, a0g_12, a0g_13, Value.int a0_14, Value.ref a0_15, a0g_16, a0g_17, a0g_18, a0g_19, a0g_20, a0g_21, a0g_22, a0g_23, a0g_24, a0g_25, a0g_26, a0g_27, a0g_28, a0g_29, a0g_30, a0g_31, a0g_32, a0g_33, Value.ref a0_34, a0g_35, a0g_36, a0g_37, a0g_38, a0g_39])), (a0_15, .inl (ka0_15, 156, .inl (fa0_15))), (a0_34, .inl (ka0_34, 9, .inl (v32nfa0_34)))] → va_S A s.heap H locs → lv_has ls 3 [(0, .ref a0), (2, .int j21l2)] → K H locs (F0 m 43 ls [.int j43s0, .int j21l1]) := by
              intro j43s0 H locs ls  bj43s0_l bj43s0_u hP hD hS hl
              refine (hK0 _ _ _).mpr ?_
              refine lv_iadd hx hb dX8_fits_43 ?_
              refine lv_topi (fun x43 ex43 => ?_)
              refine lv_istore_n (lv' := [(1, .int x43), (0, .ref a0), (2, .int j21l2)]) hx hb dX8_fits_44 rfl hl (by decide) rfl (fun ls hl => ?_)
              obtain ⟨x45, ex45⟩ : ∃ y : Int32, y = j21l2 + Int32.ofInt 1 := ⟨_, rfl⟩
              have qx45 : x45.toInt = j21l2.toInt + 1 := ai_inc ex45 (by decide) (by decide) u26f_j21l2 (by decide)
              have bx45 : (1 : Int) ≤ x45.toInt ∧ x45.toInt ≤ 729 := ⟨by rw [qx45]; exact Int.add_le_add bj21l2_l (Int.le_refl _), by rw [qx45]; exact Int.add_le_add u26f_j21l2 (Int.le_refl _)⟩
              refine lv_iinc (v := x45) (lv' := [(2, .int x45), (1, .int x43), (0, .ref a0)]) hx hb dX8_fits_45 hl (k := 2) rfl ex45.symm (by decide) rfl (fun ls hl => ?_)
              refine lv_goto (tgt := 21) hx hb dX8_fits_48 (by decide) ?_
              exact (hK0 _ _ _).mp (ih21 x45 x43 v32nfa0_34 _ _ _ (by have h0 := qx45; omega) (Int.le_trans zq4 bx45.1) bx45.2 hP hD hS (lv_sub hl [2, 1, 0] rfl))
            refine lv_iconst (v := 0) hx hb dX8_fits_42 zk_iconst_0 ?_
            exact (hK0 _ _ _).mp (J43 0 _ _ _  zq5 (Int.le_trans zq6 zq4) hP hD hS (lv_sub hl [0, 2] rfl))
    exact (hK0 _ _ _).mp (J21 730 0 0 fa0_34 _ _ _ (by have h1 : (0 : Int) ≤ (0 : Int32).toInt := zq5; have h2 : (0 : Int32).toInt ≤ (0 : Int) := zq6; omega) zq5 (Int.le_trans zq6 zq35) hP hD hS (lv_sub hl [2, 1, 0] rfl))
  · have gc8 := ai_eq c8
    have u8f_a0_14 : a0_14.toInt ≤ (0 : Int) := Int.le_trans (Int.le_of_eq gc8) zq6
    have l8f_a0_14 : (1 : Int) ≤ a0_14.toInt := ba0_14_l
    exact absurd (Int.le_trans l8f_a0_14 u8f_a0_14) (by decide)
