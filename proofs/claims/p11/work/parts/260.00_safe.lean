set_option maxHeartbeats 4000000 in
set_option maxRecDepth 100000 in
theorem c_X8_bestFromW (l : Launch) (dC : Nat → ClassId) (dI : Nat → Nat → Nat) (sz : Nat) (a0 : Nat) (a1 : Int32) (a2 : Int32) (a3 : Int32) (a0g_0 a0g_1 a0g_2 a0g_3 a0g_4 a0g_5 a0g_6 a0g_7 a0g_8 a0g_9 a0g_10 a0g_11 a0g_12 a0g_13 a0g_14 a0g_16 a0g_17 a0g_18 a0g_19 a0g_20 a0g_21 a0g_22 a0g_23 a0g_24 a0g_25 a0g_26 a0g_27 a0g_28 a0g_29 a0g_30 a0g_31 a0g_34 a0g_35 a0g_36 a0g_37 a0g_38 a0g_39 : Value) (a0_15 : Nat) (a0_32 : Nat) (a0_33 : Nat) (ka0_15 : ClassId) (fa0_15 : Nat → Int32) (ka0_33 : ClassId) (fa0_33 : Nat → Int32) (ka0_32 : ClassId) (fa0_32 : Nat → Int32) (ba1_l : (0 : Int) ≤ a1.toInt) (ba1_u : a1.toInt ≤ (59 : Int)) (ba2_l : (0 : Int) ≤ a2.toInt) (ba2_u : a2.toInt ≤ (8 : Int)) (ba3_l : (1 : Int) ≤ a3.toInt) (ba3_u : a3.toInt ≤ (1 : Int)) (bfa0_15 : ((∀ k : Nat, 0 ≤ k → k ≤ 0 → (2 : Int) ≤ (fa0_15 k).toInt ∧ (fa0_15 k).toInt ≤ 9) ∧ (∀ k : Nat, 1 ≤ k → k ≤ 1 → (1 : Int) ≤ (fa0_15 k).toInt ∧ (fa0_15 k).toInt ≤ 20) ∧ (∀ k : Nat, 2 ≤ k → k ≤ 2 → (0 : Int) ≤ (fa0_15 k).toInt ∧ (fa0_15 k).toInt ≤ 8) ∧ (∀ k : Nat, 3 ≤ k → k ≤ 3 → (0 : Int) ≤ (fa0_15 k).toInt ∧ (fa0_15 k).toInt ≤ 100) ∧ (∀ k : Nat, 4 ≤ k → k ≤ 4 → (0 : Int) ≤ (fa0_15 k).toInt ∧ (fa0_15 k).toInt ≤ 9) ∧ (∀ k : Nat, 5 ≤ k → k ≤ 5 → (0 : Int) ≤ (fa0_15 k).toInt ∧ (fa0_15 k).toInt ≤ 3) ∧ (∀ k : Nat, 6 ≤ k → k ≤ 6 → (0 : Int) ≤ (fa0_15 k).toInt ∧ (fa0_15 k).toInt ≤ 6) ∧ (∀ k : Nat, 7 ≤ k → k ≤ 9 → (0 : Int) ≤ (fa0_15 k).toInt ∧ (fa0_15 k).toInt ≤ 8) ∧ (∀ k : Nat, 12 ≤ k → k ≤ 29 → (0 : Int) ≤ (fa0_15 k).toInt ∧ (fa0_15 k).toInt ≤ 20) ∧ (∀ k : Nat, 30 ≤ k → k ≤ 35 → (0 : Int) ≤ (fa0_15 k).toInt ∧ (fa0_15 k).toInt ≤ 8) ∧ (∀ k : Nat, 36 ≤ k → k ≤ 47 → (0 : Int) ≤ (fa0_15 k).toInt ∧ (fa0_15 k).toInt ≤ 999))) : Met l yX8_bestFrom wsX8_bestFrom ({ frames := 1, cells := 0, slots := 0, locals := 22 }) (va_Pc [.ref a0, .int a1, .int a2, .int a3] (ax_C dC dI sz [(a0, .inr (8, [a0g_0, a0g_1, a0g_2, a0g_3, a0g_4, a0g_5, a0g_6, a0g_7, a0g_8, a0g_9, a0g_10, a0g_11, a0g_12, a0g_13, a0g_14, Value.ref a0_15, a0g_16, a0g_17, a0g_18, a0g_19, a0g_20, a0g_21, a0g_22, a0g_23, a0g_24, a0g_25, a0g_26, a0g_27, a0g_28, a0g_29, a0g_30, a0g_31, Value.ref a0_32, Value.ref a0_33, a0g_34, a0g_35, a0g_36, a0g_37, a0g_38, a0g_39])), (a0_15, .inl (ka0_15, 156, .inl (fa0_15))), (a0_33, .inl (ka0_33, 620, .inl (fa0_33))), (a0_32, .inl (ka0_32, 61, .inl (fa0_32)))] [(ka0_15, .int), (ka0_33, .int), (ka0_32, .int)] (fun _ => True))) (va_Qi (fun (r : Int32) (_ : Unit) => (0 : Int) ≤ r.toInt ∧ r.toInt ≤ (8 : Int)) (fun (_ : Unit) (t : State) => ax_B dC dI (va_A [(a0, .inr (8, [a0g_0, a0g_1, a0g_2, a0g_3, a0g_4, a0g_5, a0g_6, a0g_7, a0g_8, a0g_9, a0g_10, a0g_11, a0g_12, a0g_13, a0g_14, Value.ref a0_15, a0g_16, a0g_17, a0g_18, a0g_19, a0g_20, a0g_21, a0g_22, a0g_23, a0g_24, a0g_25, a0g_26, a0g_27, a0g_28, a0g_29, a0g_30, a0g_31, Value.ref a0_32, Value.ref a0_33, a0g_34, a0g_35, a0g_36, a0g_37, a0g_38, a0g_39])), (a0_15, .inl (ka0_15, 156, .inl (fa0_15))), (a0_33, .inl (ka0_33, 620, .inl (fa0_33))), (a0_32, .inl (ka0_32, 61, .inl (fa0_32)))] sz) [(a0, .inr (8, [a0g_0, a0g_1, a0g_2, a0g_3, a0g_4, a0g_5, a0g_6, a0g_7, a0g_8, a0g_9, a0g_10, a0g_11, a0g_12, a0g_13, a0g_14, Value.ref a0_15, a0g_16, a0g_17, a0g_18, a0g_19, a0g_20, a0g_21, a0g_22, a0g_23, a0g_24, a0g_25, a0g_26, a0g_27, a0g_28, a0g_29, a0g_30, a0g_31, Value.ref a0_32, Value.ref a0_33, a0g_34, a0g_35, a0g_36, a0g_37, a0g_38, a0g_39])), (a0_15, .inl (ka0_15, 156, .inl (fa0_15))), (a0_33, .inl (ka0_33, 620, .inl (fa0_33))), (a0_32, .inl (ka0_32, 61, .inl (fa0_32)))] [(ka0_15, .int), (ka0_33, .int), (ka0_32, .int)] t) (va_A [(a0, .inr (8, [a0g_0, a0g_1, a0g_2, a0g_3, a0g_4, a0g_5, a0g_6, a0g_7, a0g_8, a0g_9, a0g_10, a0g_11, a0g_12, a0g_13, a0g_14, Value.ref a0_15, a0g_16, a0g_17, a0g_18, a0g_19, a0g_20, a0g_21, a0g_22, a0g_23, a0g_24, a0g_25, a0g_26, a0g_27, a0g_28, a0g_29, a0g_30, a0g_31, Value.ref a0_32, Value.ref a0_33, a0g_34, a0g_35, a0g_36, a0g_37, a0g_38, a0g_39])), (a0_15, .inl (ka0_15, 156, .inl (fa0_15))), (a0_33, .inl (ka0_33, 620, .inl (fa0_33))), (a0_32, .inl (ka0_32, 61, .inl (fa0_32)))] sz)) 0 0 (va_A [(a0, .inr (8, [a0g_0, a0g_1, a0g_2, a0g_3, a0g_4, a0g_5, a0g_6, a0g_7, a0g_8, a0g_9, a0g_10, a0g_11, a0g_12, a0g_13, a0g_14, Value.ref a0_15, a0g_16, a0g_17, a0g_18, a0g_19, a0g_20, a0g_21, a0g_22, a0g_23, a0g_24, a0g_25, a0g_26, a0g_27, a0g_28, a0g_29, a0g_30, a0g_31, Value.ref a0_32, Value.ref a0_33, a0g_34, a0g_35, a0g_36, a0g_37, a0g_38, a0g_39])), (a0_15, .inl (ka0_15, 156, .inl (fa0_15))), (a0_33, .inl (ka0_33, 620, .inl (fa0_33))), (a0_32, .inl (ka0_32, 61, .inl (fa0_32)))] sz) := by
  refine Met.ofW (cc := cX8_bestFrom) (maxL := 9) (ret := (some .int)) (by decide) rfl ?_
  intro p e s m args below meth c s₁ B hml hv
  obtain ⟨rfl, hsz, hP, hK, hD0, hE⟩ := hv
  have hx := B.exec
  have hb := B.bytes
  have hr := B.returns
  have hts := atoms_spec (ws := wsX8_bestFrom) B.pre
  have hown : s.vm.findClass RX8 = some m.cls := findClass_of_methodNamed B.named
  have hlocks := B.notSynchronized
  subst hsz
  have hD := hD0.self (sz := s.heap.size)
  generalize hAe : va_A [(a0, .inr (8, [a0g_0, a0g_1, a0g_2, a0g_3, a0g_4, a0g_5, a0g_6, a0g_7, a0g_8, a0g_9, a0g_10, a0g_11, a0g_12, a0g_13, a0g_14, Value.ref a0_15, a0g_16, a0g_17, a0g_18, a0g_19, a0g_20, a0g_21, a0g_22, a0g_23, a0g_24, a0g_25, a0g_26, a0g_27, a0g_28, a0g_29, a0g_30, a0g_31, Value.ref a0_32, Value.ref a0_33, a0g_34, a0g_35, a0g_36, a0g_37, a0g_38, a0g_39])), (a0_15, .inl (ka0_15, 156, .inl (fa0_15))), (a0_33, .inl (ka0_33, 620, .inl (fa0_33))), (a0_32, .inl (ka0_32, 61, .inl (fa0_32)))] s.heap.size = A at hD ⊢
  have hA : ∀ q : Nat, s.heap.size ≤ q → A q := fun q h => by rw [← hAe]; exact Or.inr h
  have hS : va_S A s.heap s.heap [] := va_S.rf
  have hP : va_P (dC, dI) vwCl [(a0, .inr (8, [a0g_0, a0g_1, a0g_2, a0g_3, a0g_4, a0g_5, a0g_6, a0g_7, a0g_8, a0g_9, a0g_10, a0g_11, a0g_12, a0g_13, a0g_14, Value.ref a0_15, a0g_16, a0g_17, a0g_18, a0g_19, a0g_20, a0g_21, a0g_22, a0g_23, a0g_24, a0g_25, a0g_26, a0g_27, a0g_28, a0g_29, a0g_30, a0g_31, Value.ref a0_32, Value.ref a0_33, a0g_34, a0g_35, a0g_36, a0g_37, a0g_38, a0g_39])), (a0_15, .inl (ka0_15, 156, .inl (fa0_15))), (a0_33, .inl (ka0_33, 620, .inl (fa0_33))), (a0_32, .inl (ka0_32, 61, .inl (fa0_32)))] s.heap := hP
  have hl := lv_entry ([.ref a0, .int a1, .int a2, .int a3]) (n := 9) (Nat.le_of_ble_eq_true rfl)
  rw [lg_entry_eq]
  generalize (lg_sl ([.ref a0, .int a1, .int a2, .int a3]) ++ List.replicate (9 - (lg_sl ([.ref a0, .int a1, .int a2, .int a3])).length) Slot.unset).toArray = ls at hl ⊢
  have hl : lv_has ls 9 [(0, .ref a0), (1, .int a1), (2, .int a2), (3, .int a3)] := hl
  refine ai_open (fun K hK0 => ?_)
  refine (hK0 _ _ _).mpr ?_
  refine lv_iconst (v := (-1)) hx hb dX8_bestFrom_0 zk_iconst_n1 ?_
  refine lv_istore (lv' := [(4, .int (-1)), (0, .ref a0), (1, .int a1), (2, .int a2), (3, .int a3)]) hx hb dX8_bestFrom_1 hl (by decide) rfl (fun ls hl => ?_)
  refine lv_iload_n hx hb dX8_bestFrom_3 rfl (lv_at hl 3 rfl) ?_
  refine lv_istore (lv' := [(5, .int a2), (4, .int (-1)), (0, .ref a0), (1, .int a1), (2, .int a2), (3, .int a3)]) hx hb dX8_bestFrom_4 hl (by decide) rfl (fun ls hl => ?_)
  refine lv_iconst (v := 0) hx hb dX8_bestFrom_6 zk_iconst_0 ?_
  refine lv_istore (lv' := [(6, .int 0), (5, .int a2), (4, .int (-1)), (0, .ref a0), (1, .int a1), (2, .int a2), (3, .int a3)]) hx hb dX8_bestFrom_7 hl (by decide) rfl (fun ls hl => ?_)
  have J9 : ∀ (n : Nat) (j9l6 : Int32) (j9l5 : Int32) (j9l4 : Int32) (H : Heap) (locs : List Loc) (ls : Array Slot), (4 : Int) - j9l6.toInt ≤ (n : Int) → (0 : Int) ≤ j9l6.toInt → j9l6.toInt ≤ (3 : Int) → (0 : Int) ≤ j9l5.toInt → j9l5.toInt ≤ (8 : Int) → (-1 : Int) ≤ j9l4.toInt → va_P (dC, dI) vwCl [(a0, .inr (8, [a0g_0, a0g_1, a0g_2, a0g_3, a0g_4, a0g_5, a0g_6, a0g_7, a0g_8, a0g_9, a0g_10, a0g_11, a0g_12, a0g_13, a0g_14, Value.ref a0_15, a0g_16, a0g_17, a0g_18, a0g_19, a0g_20, a0g_21, a0g_22, a0g_23, a0g_24, a0g_25, a0g_26, a0g_27, a0g_28, a0g_29, a0g_30, a0g_31, Value.ref a0_32, Value.ref a0_33, a0g_34, a0g_35, a0g_36, a0g_37, a0g_38, a0g_39])), (a0_15, .inl (ka0_15, 156, .inl (fa0_15))), (a0_33, .inl (ka0_33, 620, .inl (fa0_33))), (a0_32, .inl (ka0_32, 61, .inl (fa0_32)))] H → va_D A [(a0, .inr (8, [a0g_0, a0g_1, a0g_2, a0g_3, a0g_4, a0g_5, a0g_6, a0g_7, a0g_8, a0g_9, a0g_10, a0g_11, a0g_12, a0g_13, a0g_14, Value.ref a0_15, a0g_16, a0g_17, a0g_18, a0g_19, a0g_20, a0g_21, a0g_22, a0g_23, a0g_24, a0g_25, a0g_26, a0g_27, a0g_28, a0g_29, a0g_30, a0g_31, Value.ref a0_32, Value.ref a0_33, a0g_34, a0g_35, a0g_36, a0g_37, a0g_38, a0g_39])), (a0_15, .inl (ka0_15, 156, .inl (fa0_15))), (a0_33, .inl (ka0_33, 620, .inl (fa0_33))), (a0_32, .inl (ka0_32, 61, .inl (fa0_32)))] → va_S A s.heap H locs → lv_has ls 9 [(0, .ref a0), (1, .int a1), (2, .int a2), (3, .int a3), (4, .int j9l4), (5, .int j9l5), (6, .int j9l6)] → K H locs (F0 m 9 ls []) := by
    intro n
    induction n with
    | zero =>
      intro j9l6 j9l5 j9l4 H locs ls hm bj9l6_l bj9l6_u bj9l5_l bj9l5_u bj9l4_l hP hD hS hl
      have h8 := ai_min j9l6
      have h9 := ai_max j9l6
      exact absurd hm (by omega)
    | succ n ih9 =>
      intro j9l6 j9l5 j9l4 H locs ls hm bj9l6_l bj9l6_u bj9l5_l bj9l5_u bj9l4_l hP hD hS hl
      refine (hK0 _ _ _).mpr ?_
      have hm9 := hm
      refine lv_iload hx hb dX8_bestFrom_9 (lv_at hl 6 rfl) ?_
      refine lv_iconst (v := 3) hx hb dX8_bestFrom_11 zk_iconst_3 ?_
      refine lv_icmp_ge (tgt := 120) hx hb dX8_bestFrom_12 (by decide) (fun c12 => ?_) (fun c12 => ?_)
      · have gc12 := ai_le c12
        have l12t_j9l6 : (3 : Int) ≤ j9l6.toInt := Int.le_trans zq8 gc12
        refine lv_iload_n hx hb dX8_bestFrom_120 rfl (lv_at hl 3 rfl) ?_
        refine lv_if_eq (tgt := 129) hx hb dX8_bestFrom_121 (by decide) (fun c121 => ?_) (fun c121 => ?_)
        · have gc121 := ai_eq c121
          have u121t_a3 : a3.toInt ≤ (0 : Int) := Int.le_trans (Int.le_of_eq gc121) zq6
          have l121t_a3 : (1 : Int) ≤ a3.toInt := ba3_l
          exact absurd (Int.le_trans l121t_a3 u121t_a3) (by decide)
        · have gc121 := ai_ne c121
          refine lv_iload hx hb dX8_bestFrom_124 (lv_at hl 5 rfl) ?_
          refine lv_goto (tgt := 131) hx hb dX8_bestFrom_126 (by decide) ?_
          exact W.iret (v := j9l5) hx hb hr (fun t ht hW => ⟨⟨j9l5, (), rfl, ⟨bj9l5_l, bj9l5_u⟩, by rw [ht]; exact hP, va_K.moved hW.alike hK, hD⟩, hS.F ht⟩) hS.2.2 dX8_bestFrom_131
      · have gc12 := ai_nle c12
        have u12f_j9l6 : j9l6.toInt ≤ (2 : Int) := ai_lthi gc12 zq9
        refine lv_iload hx hb dX8_bestFrom_15 (lv_at hl 6 rfl) ?_
        have J39 : ∀ (j39s0 : Int32) (H : Heap) (locs : List Loc) (ls : Array Slot), (-1 : Int) ≤ j39s0.toInt → j39s0.toInt ≤ (9 : Int) → va_P (dC, dI) vwCl [(a0, .inr (8, [a0g_0, a0g_1, a0g_2, a0g_3, a0g_4, a0g_5, a0g_6, a0g_7, a0g_8, a0g_9, a0g_10, a0g_11, a0g_12, a0g_13, a0g_14, Value.ref a0_15, a0g_16, a0g_17, a0g_18, a0g_19, a0g_20, a0g_21, a0g_22, a0g_23, a0g_24, a0g_25, a0g_26, a0g_27, a0g_28, a0g_29, a0g_30, a0g_31, Value.ref a0_32, Value.ref a0_33, a0g_34, a0g_35, a0g_36, a0g_37, a0g_38, a0g_39])), (a0_15, .inl (ka0_15, 156, .inl (fa0_15))), (a0_33, .inl (ka0_33, 620, .inl (fa0_33))), (a0_32, .inl (ka0_32, 61, .inl (fa0_32)))] H → va_D A [(a0, .inr (8, [a0g_0, a0g_1, a0g_2, a0g_3, a0g_4, a0g_5, a0g_6, a0g_7, a0g_8, a0g_9, a0g_10, a0g_11, a0g_12, a0g_13, a0g_14, Value.ref a0_15, a0g_16, a0g_17, a0g_18, a0g_19, a0g_20, a0g_21, a0g_22, a0g_23, a0g_24, a0g_25, a0g_26, a0g_27, a0g_28, a0g_29, a0g_30, a0g_31, Value.ref a0_32, Value.ref a0_33, a0g_34, a0g_35, a0g_36, a0g_37, a0g_38, a0g_39])), (a0_15, .inl (ka0_15, 156, .inl (fa0_15))), (a0_33, .inl (ka0_33, 620, .inl (fa0_33))), (a0_32, .inl (ka0_32, 61, .inl (fa0_32)))] → va_S A s.heap H locs → lv_has ls 9 [(0, .ref a0), (1, .int a1), (2, .int a2), (3, .int a3), (4, .int j9l4), (5, .int j9l5), (6, .int j9l6)] → K H locs (F0 m 39 ls [.int j39s0]) := by
          intro j39s0 H locs ls  bj39s0_l bj39s0_u hP hD hS hl
          refine (hK0 _ _ _).mpr ?_
          refine lv_istore (lv' := [(7, .int j39s0), (0, .ref a0), (1, .int a1), (2, .int a2), (3, .int a3), (4, .int j9l4), (5, .int j9l5), (6, .int j9l6)]) hx hb dX8_bestFrom_39 hl (by decide) rfl (fun ls hl => ?_)
          refine lv_iload hx hb dX8_bestFrom_41 (lv_at hl 0 rfl) ?_
          refine lv_iconst (v := 0) hx hb dX8_bestFrom_43 zk_iconst_0 ?_
          refine lv_aload_n hx hb dX8_bestFrom_44 rfl (lv_at hl 1 rfl) ?_
          refine va_get (D := (dC, dI)) (ci := 8) (v := .ref a0_15) (C := RX8) (T := TX8) (N := 40) hx hb hts zi_X8_bestFrom_8 hown hK hP 0 rfl rfl 15 (by decide) (hts (.fieldLink RX8 20 "WaxTurnsModel" "\x72" "[I") (List.mem_cons_of_mem _ (List.mem_append_left _ (List.mem_of_getElem? (i := 0) rfl)))) (fun _ h9 => h9) rfl dX8_bestFrom_45 ?_
          refine lv_iconst (v := 0) hx hb dX8_bestFrom_48 zk_iconst_0 ?_
          refine va_iald hx hb hK hP 1 0 rfl rfl (by unfold vp_in; decide +kernel) dX8_bestFrom_49 ?_
          refine lv_topi (fun x49 ex49 => ?_)
          have bx49 : (2 : Int) ≤ x49.toInt ∧ x49.toInt ≤ 9 := by rw [ex49]; exact ai_rd bfa0_15.1 zq5 zq6 (by decide) (by decide) (by decide)
          refine lv_iconst (v := 1) hx hb dX8_bestFrom_50 zk_iconst_1 ?_
          refine lv_isub hx hb dX8_bestFrom_51 ?_
          refine lv_topi (fun x51 ex51 => ?_)
          have qx51 : x51.toInt = x49.toInt - (1 : Int32).toInt := ai_sub ex51 ⟨bx49.1, bx49.2⟩ ⟨zq1, zq0⟩ (by decide) (by decide)
          have bx51 : (1 : Int) ≤ x51.toInt ∧ x51.toInt ≤ 8 := ⟨by rw [qx51]; exact Int.sub_le_sub bx49.1 zq0, by rw [qx51]; exact Int.sub_le_sub bx49.2 zq1⟩
          have wx51 : x51.toInt = x49.toInt - 1 := qx51
          obtain ⟨hPc, hDc, hFc, hCc⟩ := zc_cut (wc := []) hP hD hS hA [] (by decide +kernel) rfl
          have hKc := hK.sub (tys' := []) [] rfl
          refine va_calli (va_runS (As := [.int j39s0, .int 0, .int x51]) (rest := []) ⟨hx, hb, hml, hown, hts⟩ (c_X8_in l dC dI H.size j39s0 0 x51 ) (va_cwS 3 hts gX8_bestFrom_X8_in rfl rfl rfl zd_X8_in.2 ⟨Nat.le_of_ble_eq_true rfl, Nat.le_of_ble_eq_true rfl⟩) ⟨ax_blind (fun _ _ _ _ _ => trivial), ax_pre hPc hKc hDc (fun _ _ => trivial)⟩ rfl rfl hl.1 rfl (lv_room (Nat.le_of_ble_eq_true rfl)) dX8_bestFrom_52 ⟨Nat.le_of_ble_eq_true rfl, Nat.le_of_ble_eq_true rfl⟩) hS (fun q _ h => hFc q h) hFc (fun r52 u t H locs ht hvm hw hB hz1 hk1 hS => ?_)
          obtain ⟨hP1, hK1, hD1⟩ := hB
          rw [ht] at hP1
          obtain ⟨hP, hD⟩ := zc_back (w := [(a0, .inr (8, [a0g_0, a0g_1, a0g_2, a0g_3, a0g_4, a0g_5, a0g_6, a0g_7, a0g_8, a0g_9, a0g_10, a0g_11, a0g_12, a0g_13, a0g_14, Value.ref a0_15, a0g_16, a0g_17, a0g_18, a0g_19, a0g_20, a0g_21, a0g_22, a0g_23, a0g_24, a0g_25, a0g_26, a0g_27, a0g_28, a0g_29, a0g_30, a0g_31, Value.ref a0_32, Value.ref a0_33, a0g_34, a0g_35, a0g_36, a0g_37, a0g_38, a0g_39])), (a0_15, .inl (ka0_15, 156, .inl (fa0_15))), (a0_33, .inl (ka0_33, 620, .inl (fa0_33))), (a0_32, .inl (ka0_32, 61, .inl (fa0_32)))]) hP hD hCc hk1 hFc hP1 hD1 [.inl 0, .inl 1, .inl 2, .inl 3] (by decide +kernel) rfl
          rcases hw with hw | hw
          · obtain ⟨hw, h52⟩ := hw
            subst hw
            have l52k0_j39s0 : (0 : Int) ≤ j39s0.toInt := Int.le_trans zq5 h52.1
            have u52k0_j39s0 : j39s0.toInt ≤ (8 : Int) := Int.le_trans h52.2 bx51.2
            have l52k0_x51 : (1 : Int) ≤ x51.toInt := bx51.1
            refine lv_if_ne (tgt := 61) hx hb dX8_bestFrom_55 (by decide) (fun _ => ?_) (fun c55 => absurd c55 (by decide +kernel))
            have J114 : ∀ (j114l4 : Int32) (j114l5 : Int32) (H : Heap) (locs : List Loc) (ls : Array Slot), (-1 : Int) ≤ j114l4.toInt → (0 : Int) ≤ j114l5.toInt → j114l5.toInt ≤ (8 : Int) → va_P (dC, dI) vwCl [(a0, .inr (8, [a0g_0, a0g_1, a0g_2, a0g_3, a0g_4, a0g_5, a0g_6, a0g_7, a0g_8, a0g_9, a0g_10, a0g_11, a0g_12, a0g_13, a0g_14, Value.ref a0_15, a0g_16, a0g_17, a0g_18, a0g_19, a0g_20, a0g_21, a0g_22, a0g_23, a0g_24, a0g_25, a0g_26, a0g_27, a0g_28, a0g_29, a0g_30, a0g_31, Value.ref a0_32, Value.ref a0_33, a0g_34, a0g_35, a0g_36, a0g_37, a0g_38, a0g_39])), (a0_15, .inl (ka0_15, 156, .inl (fa0_15))), (a0_33, .inl (ka0_33, 620, .inl (fa0_33))), (a0_32, .inl (ka0_32, 61, .inl (fa0_32)))] H → va_D A [(a0, .inr (8, [a0g_0, a0g_1, a0g_2, a0g_3, a0g_4, a0g_5, a0g_6, a0g_7, a0g_8, a0g_9, a0g_10, a0g_11, a0g_12, a0g_13, a0g_14, Value.ref a0_15, a0g_16, a0g_17, a0g_18, a0g_19, a0g_20, a0g_21, a0g_22, a0g_23, a0g_24, a0g_25, a0g_26, a0g_27, a0g_28, a0g_29, a0g_30, a0g_31, Value.ref a0_32, Value.ref a0_33, a0g_34, a0g_35, a0g_36, a0g_37, a0g_38, a0g_39])), (a0_15, .inl (ka0_15, 156, .inl (fa0_15))), (a0_33, .inl (ka0_33, 620, .inl (fa0_33))), (a0_32, .inl (ka0_32, 61, .inl (fa0_32)))] → va_S A s.heap H locs → lv_has ls 9 [(0, .ref a0), (1, .int a1), (2, .int a2), (3, .int a3), (4, .int j114l4), (5, .int j114l5), (6, .int j9l6)] → K H locs (F0 m 114 ls []) := by
              intro j114l4 j114l5 H locs ls  bj114l4_l bj114l5_l bj114l5_u hP hD hS hl
              refine (hK0 _ _ _).mpr ?_
              obtain ⟨x114, ex114⟩ : ∃ y : Int32, y = j9l6 + Int32.ofInt 1 := ⟨_, rfl⟩
              have qx114 : x114.toInt = j9l6.toInt + 1 := ai_inc ex114 (by decide) (by decide) u12f_j9l6 (by decide)
              have bx114 : (1 : Int) ≤ x114.toInt ∧ x114.toInt ≤ 3 := ⟨by rw [qx114]; exact Int.add_le_add bj9l6_l (Int.le_refl _), by rw [qx114]; exact Int.add_le_add u12f_j9l6 (Int.le_refl _)⟩
              refine lv_iinc (v := x114) (lv' := [(6, .int x114), (0, .ref a0), (1, .int a1), (2, .int a2), (3, .int a3), (4, .int j114l4), (5, .int j114l5)]) hx hb dX8_bestFrom_114 hl (k := 6) rfl ex114.symm (by decide) rfl (fun ls hl => ?_)
              refine lv_goto (tgt := 9) hx hb dX8_bestFrom_117 (by decide) ?_
              exact (hK0 _ _ _).mp (ih9 x114 j114l5 j114l4 _ _ _ (by have h0 := qx114; omega) (Int.le_trans zq4 bx114.1) bx114.2 bj114l5_l bj114l5_u bj114l4_l hP hD hS (lv_sub hl [1, 2, 3, 4, 5, 6, 0] rfl))
            refine lv_aload_n hx hb dX8_bestFrom_61 rfl (lv_at hl 1 rfl) ?_
            refine va_get (D := (dC, dI)) (ci := 8) (v := .ref a0_33) (C := RX8) (T := TX8) (N := 40) hx hb hts zi_X8_bestFrom_8 hown hK hP 0 rfl rfl 33 (by decide) (hts (.fieldLink RX8 50 "WaxTurnsModel" "with" "[I") (List.mem_cons_of_mem _ (List.mem_append_left _ (List.mem_of_getElem? (i := 1) rfl)))) (fun _ h9 => h9) rfl dX8_bestFrom_62 ?_
            refine lv_bipush (v := 10) hx hb dX8_bestFrom_65 zk_bipush_10 ?_
            refine lv_iload_n hx hb dX8_bestFrom_67 rfl (lv_at hl 2 rfl) ?_
            refine lv_iconst (v := 1) hx hb dX8_bestFrom_68 zk_iconst_1 ?_
            refine lv_iadd hx hb dX8_bestFrom_69 ?_
            refine lv_topi (fun x69 ex69 => ?_)
            have qx69 : x69.toInt = a1.toInt + (1 : Int32).toInt := ai_add ex69 ⟨ba1_l, ba1_u⟩ ⟨zq1, zq0⟩ (by decide) (by decide)
            have bx69 : (1 : Int) ≤ x69.toInt ∧ x69.toInt ≤ 60 := ⟨by rw [qx69]; exact Int.add_le_add ba1_l zq1, by rw [qx69]; exact Int.add_le_add ba1_u zq0⟩
            have wx69 : x69.toInt = a1.toInt + 1 := qx69
            refine lv_imul hx hb dX8_bestFrom_70 ?_
            refine lv_topi (fun x70 ex70 => ?_)
            have qx70 : x70.toInt = (10 : Int32).toInt * x69.toInt ∧ (10 : Int) ≤ x70.toInt ∧ x70.toInt ≤ 600 := ai_mul ex70 ⟨zq26, zq27⟩ ⟨bx69.1, bx69.2⟩ (by decide) (by decide) zq195
            have wx70 : x70.toInt = 10 * x69.toInt := qx70.1
            refine lv_iload hx hb dX8_bestFrom_71 (lv_at hl 0 rfl) ?_
            refine lv_iadd hx hb dX8_bestFrom_73 ?_
            refine lv_topi (fun x73 ex73 => ?_)
            have qx73 : x73.toInt = x70.toInt + j39s0.toInt := ai_add ex73 ⟨qx70.2.1, qx70.2.2⟩ ⟨l52k0_j39s0, u52k0_j39s0⟩ (by decide) (by decide)
            have bx73 : (10 : Int) ≤ x73.toInt ∧ x73.toInt ≤ 608 := ⟨by rw [qx73]; exact Int.add_le_add qx70.2.1 l52k0_j39s0, by rw [qx73]; exact Int.add_le_add qx70.2.2 u52k0_j39s0⟩
            refine va_iald hx hb hK hP 2 1 rfl rfl (ai_in bx73.1 bx73.2 (by decide) (by decide)) dX8_bestFrom_74 ?_
            refine lv_topi (fun x74 ex74 => ?_)
            refine lv_aload_n hx hb dX8_bestFrom_75 rfl (lv_at hl 1 rfl) ?_
            refine va_get (D := (dC, dI)) (ci := 8) (v := .ref a0_32) (C := RX8) (T := TX8) (N := 40) hx hb hts zi_X8_bestFrom_8 hown hK hP 0 rfl rfl 32 (by decide) (hts (.fieldLink RX8 47 "WaxTurnsModel" "liveAt" "[I") (List.mem_cons_of_mem _ (List.mem_append_left _ (List.mem_of_getElem? (i := 2) rfl)))) (fun _ h9 => h9) rfl dX8_bestFrom_76 ?_
            refine lv_iload_n hx hb dX8_bestFrom_79 rfl (lv_at hl 2 rfl) ?_
            refine lv_iconst (v := 1) hx hb dX8_bestFrom_80 zk_iconst_1 ?_
            refine lv_iadd hx hb dX8_bestFrom_81 ?_
            refine ax_ti x69 ex69.symm ?_
            refine va_iald hx hb hK hP 3 2 rfl rfl (ai_in bx69.1 bx69.2 (by decide) (by decide)) dX8_bestFrom_82 ?_
            refine lv_topi (fun x82 ex82 => ?_)
            refine lv_iload hx hb dX8_bestFrom_83 (lv_at hl 0 rfl) ?_
            have J93 : ∀ (j93s0 : Int32) (H : Heap) (locs : List Loc) (ls : Array Slot), (0 : Int) ≤ j93s0.toInt → j93s0.toInt ≤ (1 : Int) → va_P (dC, dI) vwCl [(a0, .inr (8, [a0g_0, a0g_1, a0g_2, a0g_3, a0g_4, a0g_5, a0g_6, a0g_7, a0g_8, a0g_9, a0g_10, a0g_11, a0g_12, a0g_13, a0g_14, Value.ref a0_15, a0g_16, a0g_17, a0g_18, a0g_19, a0g_20, a0g_21, a0g_22, a0g_23, a0g_24, a0g_25, a0g_26, a0g_27, a0g_28, a0g_29, a0g_30, a0g_31, Value.ref a0_32, Value.ref a0_33, a0g_34, a0g_35, a0g_36, a0g_37, a0g_38, a0g_39])), (a0_15, .inl (ka0_15, 156, .inl (fa0_15))), (a0_33, .inl (ka0_33, 620, .inl (fa0_33))), (a0_32, .inl (ka0_32, 61, .inl (fa0_32)))] H → va_D A [(a0, .inr (8, [a0g_0, a0g_1, a0g_2, a0g_3, a0g_4, a0g_5, a0g_6, a0g_7, a0g_8, a0g_9, a0g_10, a0g_11, a0g_12, a0g_13, a0g_14, Value.ref a0_15, a0g_16, a0g_17, a0g_18, a0g_19, a0g_20, a0g_21, a0g_22, a0g_23, a0g_24, a0g_25, a0g_26, a0g_27, a0g_28, a0g_29, a0g_30, a0g_31, Value.ref a0_32, Value.ref a0_33, a0g_34, a0g_35, a0g_36, a0g_37, a0g_38, a0g_39])), (a0_15, .inl (ka0_15, 156, .inl (fa0_15))), (a0_33, .inl (ka0_33, 620, .inl (fa0_33))), (a0_32, .inl (ka0_32, 61, .inl (fa0_32)))] → va_S A s.heap H locs → lv_has ls 9 [(0, .ref a0), (1, .int a1), (2, .int a2), (3, .int a3), (4, .int j9l4), (5, .int j9l5), (6, .int j9l6), (7, .int j39s0)] → K H locs (F0 m 93 ls [.int j93s0, .int x74]) := by
              intro j93s0 H locs ls  bj93s0_l bj93s0_u hP hD hS hl
              refine (hK0 _ _ _).mpr ?_
              refine lv_iadd hx hb dX8_bestFrom_93 ?_
              refine lv_topi (fun x93 ex93 => ?_)
              refine lv_istore (lv' := [(8, .int x93), (0, .ref a0), (1, .int a1), (2, .int a2), (3, .int a3), (4, .int j9l4), (5, .int j9l5), (6, .int j9l6), (7, .int j39s0)]) hx hb dX8_bestFrom_94 hl (by decide) rfl (fun ls hl => ?_)
              refine lv_iload hx hb dX8_bestFrom_96 (lv_at hl 0 rfl) ?_
              refine lv_iload hx hb dX8_bestFrom_98 (lv_at hl 5 rfl) ?_
              refine lv_icmp_gt (tgt := 106) hx hb dX8_bestFrom_100 (by decide) (fun c100 => ?_) (fun c100 => ?_)
              · have gc100 := ai_lt c100
                have u100t_j9l4 : j9l4.toInt ≤ (2147483646 : Int) := ai_lthi gc100 (ai_max x93)
                have l100t_x93 : (0 : Int) ≤ x93.toInt := ai_ltlo gc100 bj9l4_l
                refine lv_iload hx hb dX8_bestFrom_106 (lv_at hl 0 rfl) ?_
                refine lv_istore (lv' := [(4, .int x93), (8, .int x93), (0, .ref a0), (1, .int a1), (2, .int a2), (3, .int a3), (5, .int j9l5), (6, .int j9l6), (7, .int j39s0)]) hx hb dX8_bestFrom_108 hl (by decide) rfl (fun ls hl => ?_)
                refine lv_iload hx hb dX8_bestFrom_110 (lv_at hl 8 rfl) ?_
                refine lv_istore (lv' := [(5, .int j39s0), (4, .int x93), (8, .int x93), (0, .ref a0), (1, .int a1), (2, .int a2), (3, .int a3), (6, .int j9l6), (7, .int j39s0)]) hx hb dX8_bestFrom_112 hl (by decide) rfl (fun ls hl => ?_)
                exact (hK0 _ _ _).mp (J114 x93 j39s0 _ _ _  (Int.le_trans zq69 l100t_x93) l52k0_j39s0 u52k0_j39s0 hP hD hS (lv_sub hl [3, 4, 5, 6, 1, 0, 7] rfl))
              · have gc100 := ai_nlt c100
                refine lv_goto (tgt := 114) hx hb dX8_bestFrom_103 (by decide) ?_
                exact (hK0 _ _ _).mp (J114 j9l4 j9l5 _ _ _  bj9l4_l bj9l5_l bj9l5_u hP hD hS (lv_sub hl [1, 2, 3, 4, 5, 6, 7] rfl))
            refine lv_icmp_ne (tgt := 92) hx hb dX8_bestFrom_85 (by decide) (fun c85 => ?_) (fun c85 => ?_)
            · have gc85 := ai_ne c85
              refine lv_iconst (v := 0) hx hb dX8_bestFrom_92 zk_iconst_0 ?_
              exact (hK0 _ _ _).mp (J93 0 _ _ _  zq5 (Int.le_trans zq6 zq4) hP hD hS (lv_sub hl [1, 2, 3, 4, 5, 6, 7, 0] rfl))
            · have gc85 := ai_eq c85
              have u85f_x82 : x82.toInt ≤ (8 : Int) := Int.le_trans (Int.le_of_eq gc85) u52k0_j39s0
              have l85f_x82 : (0 : Int) ≤ x82.toInt := Int.le_trans l52k0_j39s0 (Int.le_of_eq gc85.symm)
              refine lv_iconst (v := 1) hx hb dX8_bestFrom_88 zk_iconst_1 ?_
              refine lv_goto (tgt := 93) hx hb dX8_bestFrom_89 (by decide) ?_
              exact (hK0 _ _ _).mp (J93 1 _ _ _  (Int.le_trans zq4 zq1) zq0 hP hD hS (lv_sub hl [1, 2, 3, 4, 5, 6, 7, 0] rfl))
          · obtain ⟨hw, h52⟩ := hw
            subst hw
            refine lv_if_ne (tgt := 61) hx hb dX8_bestFrom_55 (by decide) (fun c55 => absurd (by decide +kernel) c55) (fun _ => ?_)
            have J114 : ∀ (j114l4 : Int32) (j114l5 : Int32) (H : Heap) (locs : List Loc) (ls : Array Slot), (-1 : Int) ≤ j114l4.toInt → (0 : Int) ≤ j114l5.toInt → j114l5.toInt ≤ (8 : Int) → va_P (dC, dI) vwCl [(a0, .inr (8, [a0g_0, a0g_1, a0g_2, a0g_3, a0g_4, a0g_5, a0g_6, a0g_7, a0g_8, a0g_9, a0g_10, a0g_11, a0g_12, a0g_13, a0g_14, Value.ref a0_15, a0g_16, a0g_17, a0g_18, a0g_19, a0g_20, a0g_21, a0g_22, a0g_23, a0g_24, a0g_25, a0g_26, a0g_27, a0g_28, a0g_29, a0g_30, a0g_31, Value.ref a0_32, Value.ref a0_33, a0g_34, a0g_35, a0g_36, a0g_37, a0g_38, a0g_39])), (a0_15, .inl (ka0_15, 156, .inl (fa0_15))), (a0_33, .inl (ka0_33, 620, .inl (fa0_33))), (a0_32, .inl (ka0_32, 61, .inl (fa0_32)))] H → va_D A [(a0, .inr (8, [a0g_0, a0g_1, a0g_2, a0g_3, a0g_4, a0g_5, a0g_6, a0g_7, a0g_8, a0g_9, a0g_10, a0g_11, a0g_12, a0g_13, a0g_14, Value.ref a0_15, a0g_16, a0g_17, a0g_18, a0g_19, a0g_20, a0g_21, a0g_22, a0g_23, a0g_24, a0g_25, a0g_26, a0g_27, a0g_28, a0g_29, a0g_30, a0g_31, Value.ref a0_32, Value.ref a0_33, a0g_34, a0g_35, a0g_36, a0g_37, a0g_38, a0g_39])), (a0_15, .inl (ka0_15, 156, .inl (fa0_15))), (a0_33, .inl (ka0_33, 620, .inl (fa0_33))), (a0_32, .inl (ka0_32, 61, .inl (fa0_32)))] → va_S A s.heap H locs → lv_has ls 9 [(0, .ref a0), (1, .int a1), (2, .int a2), (3, .int a3), (4, .int j114l4), (5, .int j114l5), (6, .int j9l6)] → K H locs (F0 m 114 ls []) := by
              intro j114l4 j114l5 H locs ls  bj114l4_l bj114l5_l bj114l5_u hP hD hS hl
              refine (hK0 _ _ _).mpr ?_
              obtain ⟨x114, ex114⟩ : ∃ y : Int32, y = j9l6 + Int32.ofInt 1 := ⟨_, rfl⟩
              have qx114 : x114.toInt = j9l6.toInt + 1 := ai_inc ex114 (by decide) (by decide) u12f_j9l6 (by decide)
              have bx114 : (1 : Int) ≤ x114.toInt ∧ x114.toInt ≤ 3 := ⟨by rw [qx114]; exact Int.add_le_add bj9l6_l (Int.le_refl _), by rw [qx114]; exact Int.add_le_add u12f_j9l6 (Int.le_refl _)⟩
              refine lv_iinc (v := x114) (lv' := [(6, .int x114), (0, .ref a0), (1, .int a1), (2, .int a2), (3, .int a3), (4, .int j114l4), (5, .int j114l5)]) hx hb dX8_bestFrom_114 hl (k := 6) rfl ex114.symm (by decide) rfl (fun ls hl => ?_)
              refine lv_goto (tgt := 9) hx hb dX8_bestFrom_117 (by decide) ?_
              exact (hK0 _ _ _).mp (ih9 x114 j114l5 j114l4 _ _ _ (by have h0 := qx114; omega) (Int.le_trans zq4 bx114.1) bx114.2 bj114l5_l bj114l5_u bj114l4_l hP hD hS (lv_sub hl [1, 2, 3, 4, 5, 6, 0] rfl))
            refine lv_goto (tgt := 114) hx hb dX8_bestFrom_58 (by decide) ?_
            exact (hK0 _ _ _).mp (J114 j9l4 j9l5 _ _ _  bj9l4_l bj9l5_l bj9l5_u hP hD hS (lv_sub hl [1, 2, 3, 4, 5, 6, 7] rfl))
        refine lv_if_ne (tgt := 24) hx hb dX8_bestFrom_17 (by decide) (fun c17 => ?_) (fun c17 => ?_)
        · have gc17 := ai_ne c17
          have l17t_j9l6 : (1 : Int) ≤ j9l6.toInt := (by have h1 := bj9l6_l; have h2 : (0 : Int32).toInt = 0 := (by decide); rw [h2] at gc17; omega)
          refine lv_iload hx hb dX8_bestFrom_24 (lv_at hl 6 rfl) ?_
          refine lv_iconst (v := 1) hx hb dX8_bestFrom_26 zk_iconst_1 ?_
          refine lv_icmp_ne (tgt := 36) hx hb dX8_bestFrom_27 (by decide) (fun c27 => ?_) (fun c27 => ?_)
          · have gc27 := ai_ne c27
            have l27t_j9l6 : (2 : Int) ≤ j9l6.toInt := (by have h1 := l17t_j9l6; have h2 : (1 : Int32).toInt = 1 := (by decide); rw [h2] at gc27; omega)
            refine lv_iload_n hx hb dX8_bestFrom_36 rfl (lv_at hl 2 rfl) ?_
            refine lv_iconst (v := 1) hx hb dX8_bestFrom_37 zk_iconst_1 ?_
            refine lv_iadd hx hb dX8_bestFrom_38 ?_
            refine lv_topi (fun x38 ex38 => ?_)
            have qx38 : x38.toInt = a2.toInt + (1 : Int32).toInt := ai_add ex38 ⟨ba2_l, ba2_u⟩ ⟨zq1, zq0⟩ (by decide) (by decide)
            have bx38 : (1 : Int) ≤ x38.toInt ∧ x38.toInt ≤ 9 := ⟨by rw [qx38]; exact Int.add_le_add ba2_l zq1, by rw [qx38]; exact Int.add_le_add ba2_u zq0⟩
            have wx38 : x38.toInt = a2.toInt + 1 := qx38
            exact (hK0 _ _ _).mp (J39 x38 _ _ _  (Int.le_trans zq78 bx38.1) bx38.2 hP hD hS (lv_sub hl [0, 1, 2, 3, 4, 5, 6] rfl))
          · have gc27 := ai_eq c27
            have u27f_j9l6 : j9l6.toInt ≤ (1 : Int) := Int.le_trans (Int.le_of_eq gc27) zq0
            have l27f_j9l6 : (1 : Int) ≤ j9l6.toInt := l17t_j9l6
            refine lv_iload_n hx hb dX8_bestFrom_30 rfl (lv_at hl 2 rfl) ?_
            refine lv_iconst (v := 1) hx hb dX8_bestFrom_31 zk_iconst_1 ?_
            refine lv_isub hx hb dX8_bestFrom_32 ?_
            refine lv_topi (fun x32 ex32 => ?_)
            have qx32 : x32.toInt = a2.toInt - (1 : Int32).toInt := ai_sub ex32 ⟨ba2_l, ba2_u⟩ ⟨zq1, zq0⟩ (by decide) (by decide)
            have bx32 : (-1 : Int) ≤ x32.toInt ∧ x32.toInt ≤ 7 := ⟨by rw [qx32]; exact Int.sub_le_sub ba2_l zq0, by rw [qx32]; exact Int.sub_le_sub ba2_u zq1⟩
            have wx32 : x32.toInt = a2.toInt - 1 := qx32
            refine lv_goto (tgt := 39) hx hb dX8_bestFrom_33 (by decide) ?_
            exact (hK0 _ _ _).mp (J39 x32 _ _ _  bx32.1 (Int.le_trans bx32.2 zq196) hP hD hS (lv_sub hl [0, 1, 2, 3, 4, 5, 6] rfl))
        · have gc17 := ai_eq c17
          have u17f_j9l6 : j9l6.toInt ≤ (0 : Int) := Int.le_trans (Int.le_of_eq gc17) zq6
          have l17f_j9l6 : (0 : Int) ≤ j9l6.toInt := bj9l6_l
          refine lv_iload_n hx hb dX8_bestFrom_20 rfl (lv_at hl 2 rfl) ?_
          refine lv_goto (tgt := 39) hx hb dX8_bestFrom_21 (by decide) ?_
          exact (hK0 _ _ _).mp (J39 a2 _ _ _  (Int.le_trans zq69 ba2_l) (Int.le_trans ba2_u zq22) hP hD hS (lv_sub hl [0, 1, 2, 3, 4, 5, 6] rfl))
  exact (hK0 _ _ _).mp (J9 4 0 a2 (-1) _ _ _ (by have h1 : (0 : Int) ≤ (0 : Int32).toInt := zq5; have h2 : (0 : Int32).toInt ≤ (0 : Int) := zq6; omega) zq5 (Int.le_trans zq6 zq11) ba2_l ba2_u zq70 hP hD hS (lv_sub hl [3, 4, 5, 6, 2, 1, 0] rfl))

set_option maxHeartbeats 4000000 in
set_option maxRecDepth 100000 in
theorem c_X8_bestFromN (l : Launch) (dC : Nat → ClassId) (dI : Nat → Nat → Nat) (sz : Nat) (a0 : Nat) (a1 : Int32) (a2 : Int32) (a3 : Int32) (a0g_0 a0g_1 a0g_2 a0g_3 a0g_4 a0g_5 a0g_6 a0g_7 a0g_8 a0g_9 a0g_10 a0g_11 a0g_12 a0g_13 a0g_14 a0g_16 a0g_17 a0g_18 a0g_19 a0g_20 a0g_21 a0g_22 a0g_23 a0g_24 a0g_25 a0g_26 a0g_27 a0g_28 a0g_29 a0g_30 a0g_31 a0g_34 a0g_35 a0g_36 a0g_37 a0g_38 a0g_39 : Value) (a0_15 : Nat) (a0_32 : Nat) (a0_33 : Nat) (ka0_15 : ClassId) (fa0_15 : Nat → Int32) (ka0_33 : ClassId) (fa0_33 : Nat → Int32) (ka0_32 : ClassId) (fa0_32 : Nat → Int32) (ba1_l : (0 : Int) ≤ a1.toInt) (ba1_u : a1.toInt ≤ (59 : Int)) (ba2_l : (0 : Int) ≤ a2.toInt) (ba2_u : a2.toInt ≤ (8 : Int)) (ba3_l : (0 : Int) ≤ a3.toInt) (ba3_u : a3.toInt ≤ (0 : Int)) (bfa0_15 : ((∀ k : Nat, 0 ≤ k → k ≤ 0 → (2 : Int) ≤ (fa0_15 k).toInt ∧ (fa0_15 k).toInt ≤ 9) ∧ (∀ k : Nat, 1 ≤ k → k ≤ 1 → (1 : Int) ≤ (fa0_15 k).toInt ∧ (fa0_15 k).toInt ≤ 20) ∧ (∀ k : Nat, 2 ≤ k → k ≤ 2 → (0 : Int) ≤ (fa0_15 k).toInt ∧ (fa0_15 k).toInt ≤ 8) ∧ (∀ k : Nat, 3 ≤ k → k ≤ 3 → (0 : Int) ≤ (fa0_15 k).toInt ∧ (fa0_15 k).toInt ≤ 100) ∧ (∀ k : Nat, 4 ≤ k → k ≤ 4 → (0 : Int) ≤ (fa0_15 k).toInt ∧ (fa0_15 k).toInt ≤ 9) ∧ (∀ k : Nat, 5 ≤ k → k ≤ 5 → (0 : Int) ≤ (fa0_15 k).toInt ∧ (fa0_15 k).toInt ≤ 3) ∧ (∀ k : Nat, 6 ≤ k → k ≤ 6 → (0 : Int) ≤ (fa0_15 k).toInt ∧ (fa0_15 k).toInt ≤ 6) ∧ (∀ k : Nat, 7 ≤ k → k ≤ 9 → (0 : Int) ≤ (fa0_15 k).toInt ∧ (fa0_15 k).toInt ≤ 8) ∧ (∀ k : Nat, 12 ≤ k → k ≤ 29 → (0 : Int) ≤ (fa0_15 k).toInt ∧ (fa0_15 k).toInt ≤ 20) ∧ (∀ k : Nat, 30 ≤ k → k ≤ 35 → (0 : Int) ≤ (fa0_15 k).toInt ∧ (fa0_15 k).toInt ≤ 8) ∧ (∀ k : Nat, 36 ≤ k → k ≤ 47 → (0 : Int) ≤ (fa0_15 k).toInt ∧ (fa0_15 k).toInt ≤ 999))) : Met l yX8_bestFrom wsX8_bestFrom ({ frames := 1, cells := 0, slots := 0, locals := 22 }) (va_Pc [.ref a0, .int a1, .int a2, .int a3] (ax_C dC dI sz [(a0, .inr (8, [a0g_0, a0g_1, a0g_2, a0g_3, a0g_4, a0g_5, a0g_6, a0g_7, a0g_8, a0g_9, a0g_10, a0g_11, a0g_12, a0g_13, a0g_14, Value.ref a0_15, a0g_16, a0g_17, a0g_18, a0g_19, a0g_20, a0g_21, a0g_22, a0g_23, a0g_24, a0g_25, a0g_26, a0g_27, a0g_28, a0g_29, a0g_30, a0g_31, Value.ref a0_32, Value.ref a0_33, a0g_34, a0g_35, a0g_36, a0g_37, a0g_38, a0g_39])), (a0_15, .inl (ka0_15, 156, .inl (fa0_15))), (a0_33, .inl (ka0_33, 620, .inl (fa0_33))), (a0_32, .inl (ka0_32, 61, .inl (fa0_32)))] [(ka0_15, .int), (ka0_33, .int), (ka0_32, .int)] (fun _ => True))) (va_Qi (fun (r : Int32) (_ : Unit) => (-1 : Int) ≤ r.toInt) (fun (_ : Unit) (t : State) => ax_B dC dI (va_A [(a0, .inr (8, [a0g_0, a0g_1, a0g_2, a0g_3, a0g_4, a0g_5, a0g_6, a0g_7, a0g_8, a0g_9, a0g_10, a0g_11, a0g_12, a0g_13, a0g_14, Value.ref a0_15, a0g_16, a0g_17, a0g_18, a0g_19, a0g_20, a0g_21, a0g_22, a0g_23, a0g_24, a0g_25, a0g_26, a0g_27, a0g_28, a0g_29, a0g_30, a0g_31, Value.ref a0_32, Value.ref a0_33, a0g_34, a0g_35, a0g_36, a0g_37, a0g_38, a0g_39])), (a0_15, .inl (ka0_15, 156, .inl (fa0_15))), (a0_33, .inl (ka0_33, 620, .inl (fa0_33))), (a0_32, .inl (ka0_32, 61, .inl (fa0_32)))] sz) [(a0, .inr (8, [a0g_0, a0g_1, a0g_2, a0g_3, a0g_4, a0g_5, a0g_6, a0g_7, a0g_8, a0g_9, a0g_10, a0g_11, a0g_12, a0g_13, a0g_14, Value.ref a0_15, a0g_16, a0g_17, a0g_18, a0g_19, a0g_20, a0g_21, a0g_22, a0g_23, a0g_24, a0g_25, a0g_26, a0g_27, a0g_28, a0g_29, a0g_30, a0g_31, Value.ref a0_32, Value.ref a0_33, a0g_34, a0g_35, a0g_36, a0g_37, a0g_38, a0g_39])), (a0_15, .inl (ka0_15, 156, .inl (fa0_15))), (a0_33, .inl (ka0_33, 620, .inl (fa0_33))), (a0_32, .inl (ka0_32, 61, .inl (fa0_32)))] [(ka0_15, .int), (ka0_33, .int), (ka0_32, .int)] t) (va_A [(a0, .inr (8, [a0g_0, a0g_1, a0g_2, a0g_3, a0g_4, a0g_5, a0g_6, a0g_7, a0g_8, a0g_9, a0g_10, a0g_11, a0g_12, a0g_13, a0g_14, Value.ref a0_15, a0g_16, a0g_17, a0g_18, a0g_19, a0g_20, a0g_21, a0g_22, a0g_23, a0g_24, a0g_25, a0g_26, a0g_27, a0g_28, a0g_29, a0g_30, a0g_31, Value.ref a0_32, Value.ref a0_33, a0g_34, a0g_35, a0g_36, a0g_37, a0g_38, a0g_39])), (a0_15, .inl (ka0_15, 156, .inl (fa0_15))), (a0_33, .inl (ka0_33, 620, .inl (fa0_33))), (a0_32, .inl (ka0_32, 61, .inl (fa0_32)))] sz)) 0 0 (va_A [(a0, .inr (8, [a0g_0, a0g_1, a0g_2, a0g_3, a0g_4, a0g_5, a0g_6, a0g_7, a0g_8, a0g_9, a0g_10, a0g_11, a0g_12, a0g_13, a0g_14, Value.ref a0_15, a0g_16, a0g_17, a0g_18, a0g_19, a0g_20, a0g_21, a0g_22, a0g_23, a0g_24, a0g_25, a0g_26, a0g_27, a0g_28, a0g_29, a0g_30, a0g_31, Value.ref a0_32, Value.ref a0_33, a0g_34, a0g_35, a0g_36, a0g_37, a0g_38, a0g_39])), (a0_15, .inl (ka0_15, 156, .inl (fa0_15))), (a0_33, .inl (ka0_33, 620, .inl (fa0_33))), (a0_32, .inl (ka0_32, 61, .inl (fa0_32)))] sz) := by
  refine Met.ofW (cc := cX8_bestFrom) (maxL := 9) (ret := (some .int)) (by decide) rfl ?_
  intro p e s m args below meth c s₁ B hml hv
  obtain ⟨rfl, hsz, hP, hK, hD0, hE⟩ := hv
  have hx := B.exec
  have hb := B.bytes
  have hr := B.returns
  have hts := atoms_spec (ws := wsX8_bestFrom) B.pre
  have hown : s.vm.findClass RX8 = some m.cls := findClass_of_methodNamed B.named
  have hlocks := B.notSynchronized
  subst hsz
  have hD := hD0.self (sz := s.heap.size)
  generalize hAe : va_A [(a0, .inr (8, [a0g_0, a0g_1, a0g_2, a0g_3, a0g_4, a0g_5, a0g_6, a0g_7, a0g_8, a0g_9, a0g_10, a0g_11, a0g_12, a0g_13, a0g_14, Value.ref a0_15, a0g_16, a0g_17, a0g_18, a0g_19, a0g_20, a0g_21, a0g_22, a0g_23, a0g_24, a0g_25, a0g_26, a0g_27, a0g_28, a0g_29, a0g_30, a0g_31, Value.ref a0_32, Value.ref a0_33, a0g_34, a0g_35, a0g_36, a0g_37, a0g_38, a0g_39])), (a0_15, .inl (ka0_15, 156, .inl (fa0_15))), (a0_33, .inl (ka0_33, 620, .inl (fa0_33))), (a0_32, .inl (ka0_32, 61, .inl (fa0_32)))] s.heap.size = A at hD ⊢
  have hA : ∀ q : Nat, s.heap.size ≤ q → A q := fun q h => by rw [← hAe]; exact Or.inr h
  have hS : va_S A s.heap s.heap [] := va_S.rf
  have hP : va_P (dC, dI) vwCl [(a0, .inr (8, [a0g_0, a0g_1, a0g_2, a0g_3, a0g_4, a0g_5, a0g_6, a0g_7, a0g_8, a0g_9, a0g_10, a0g_11, a0g_12, a0g_13, a0g_14, Value.ref a0_15, a0g_16, a0g_17, a0g_18, a0g_19, a0g_20, a0g_21, a0g_22, a0g_23, a0g_24, a0g_25, a0g_26, a0g_27, a0g_28, a0g_29, a0g_30, a0g_31, Value.ref a0_32, Value.ref a0_33, a0g_34, a0g_35, a0g_36, a0g_37, a0g_38, a0g_39])), (a0_15, .inl (ka0_15, 156, .inl (fa0_15))), (a0_33, .inl (ka0_33, 620, .inl (fa0_33))), (a0_32, .inl (ka0_32, 61, .inl (fa0_32)))] s.heap := hP
  have hl := lv_entry ([.ref a0, .int a1, .int a2, .int a3]) (n := 9) (Nat.le_of_ble_eq_true rfl)
  rw [lg_entry_eq]
  generalize (lg_sl ([.ref a0, .int a1, .int a2, .int a3]) ++ List.replicate (9 - (lg_sl ([.ref a0, .int a1, .int a2, .int a3])).length) Slot.unset).toArray = ls at hl ⊢
  have hl : lv_has ls 9 [(0, .ref a0), (1, .int a1), (2, .int a2), (3, .int a3)] := hl
  refine ai_open (fun K hK0 => ?_)
  refine (hK0 _ _ _).mpr ?_
  refine lv_iconst (v := (-1)) hx hb dX8_bestFrom_0 zk_iconst_n1 ?_
  refine lv_istore (lv' := [(4, .int (-1)), (0, .ref a0), (1, .int a1), (2, .int a2), (3, .int a3)]) hx hb dX8_bestFrom_1 hl (by decide) rfl (fun ls hl => ?_)
  refine lv_iload_n hx hb dX8_bestFrom_3 rfl (lv_at hl 3 rfl) ?_
  refine lv_istore (lv' := [(5, .int a2), (4, .int (-1)), (0, .ref a0), (1, .int a1), (2, .int a2), (3, .int a3)]) hx hb dX8_bestFrom_4 hl (by decide) rfl (fun ls hl => ?_)
  refine lv_iconst (v := 0) hx hb dX8_bestFrom_6 zk_iconst_0 ?_
  refine lv_istore (lv' := [(6, .int 0), (5, .int a2), (4, .int (-1)), (0, .ref a0), (1, .int a1), (2, .int a2), (3, .int a3)]) hx hb dX8_bestFrom_7 hl (by decide) rfl (fun ls hl => ?_)
  have J9 : ∀ (n : Nat) (j9l6 : Int32) (j9l5 : Int32) (j9l4 : Int32) (H : Heap) (locs : List Loc) (ls : Array Slot), (4 : Int) - j9l6.toInt ≤ (n : Int) → (0 : Int) ≤ j9l6.toInt → j9l6.toInt ≤ (3 : Int) → (0 : Int) ≤ j9l5.toInt → j9l5.toInt ≤ (8 : Int) → (-1 : Int) ≤ j9l4.toInt → va_P (dC, dI) vwCl [(a0, .inr (8, [a0g_0, a0g_1, a0g_2, a0g_3, a0g_4, a0g_5, a0g_6, a0g_7, a0g_8, a0g_9, a0g_10, a0g_11, a0g_12, a0g_13, a0g_14, Value.ref a0_15, a0g_16, a0g_17, a0g_18, a0g_19, a0g_20, a0g_21, a0g_22, a0g_23, a0g_24, a0g_25, a0g_26, a0g_27, a0g_28, a0g_29, a0g_30, a0g_31, Value.ref a0_32, Value.ref a0_33, a0g_34, a0g_35, a0g_36, a0g_37, a0g_38, a0g_39])), (a0_15, .inl (ka0_15, 156, .inl (fa0_15))), (a0_33, .inl (ka0_33, 620, .inl (fa0_33))), (a0_32, .inl (ka0_32, 61, .inl (fa0_32)))] H → va_D A [(a0, .inr (8, [a0g_0, a0g_1, a0g_2, a0g_3, a0g_4, a0g_5, a0g_6, a0g_7, a0g_8, a0g_9, a0g_10, a0g_11, a0g_12, a0g_13, a0g_14, Value.ref a0_15, a0g_16, a0g_17, a0g_18, a0g_19, a0g_20, a0g_21, a0g_22, a0g_23, a0g_24, a0g_25, a0g_26, a0g_27, a0g_28, a0g_29, a0g_30, a0g_31, Value.ref a0_32, Value.ref a0_33, a0g_34, a0g_35, a0g_36, a0g_37, a0g_38, a0g_39])), (a0_15, .inl (ka0_15, 156, .inl (fa0_15))), (a0_33, .inl (ka0_33, 620, .inl (fa0_33))), (a0_32, .inl (ka0_32, 61, .inl (fa0_32)))] → va_S A s.heap H locs → lv_has ls 9 [(0, .ref a0), (1, .int a1), (2, .int a2), (3, .int a3), (4, .int j9l4), (5, .int j9l5), (6, .int j9l6)] → K H locs (F0 m 9 ls []) := by
    intro n
    induction n with
    | zero =>
      intro j9l6 j9l5 j9l4 H locs ls hm bj9l6_l bj9l6_u bj9l5_l bj9l5_u bj9l4_l hP hD hS hl
      have h8 := ai_min j9l6
      have h9 := ai_max j9l6
      exact absurd hm (by omega)
    | succ n ih9 =>
      intro j9l6 j9l5 j9l4 H locs ls hm bj9l6_l bj9l6_u bj9l5_l bj9l5_u bj9l4_l hP hD hS hl
      refine (hK0 _ _ _).mpr ?_
      have hm9 := hm
      refine lv_iload hx hb dX8_bestFrom_9 (lv_at hl 6 rfl) ?_
      refine lv_iconst (v := 3) hx hb dX8_bestFrom_11 zk_iconst_3 ?_
      refine lv_icmp_ge (tgt := 120) hx hb dX8_bestFrom_12 (by decide) (fun c12 => ?_) (fun c12 => ?_)
      · have gc12 := ai_le c12
        have l12t_j9l6 : (3 : Int) ≤ j9l6.toInt := Int.le_trans zq8 gc12
        refine lv_iload_n hx hb dX8_bestFrom_120 rfl (lv_at hl 3 rfl) ?_
        refine lv_if_eq (tgt := 129) hx hb dX8_bestFrom_121 (by decide) (fun c121 => ?_) (fun c121 => ?_)
        · have gc121 := ai_eq c121
          have u121t_a3 : a3.toInt ≤ (0 : Int) := ba3_u
          have l121t_a3 : (0 : Int) ≤ a3.toInt := ba3_l
          refine lv_iload hx hb dX8_bestFrom_129 (lv_at hl 4 rfl) ?_
          exact W.iret (v := j9l4) hx hb hr (fun t ht hW => ⟨⟨j9l4, (), rfl, bj9l4_l, by rw [ht]; exact hP, va_K.moved hW.alike hK, hD⟩, hS.F ht⟩) hS.2.2 dX8_bestFrom_131
        · have gc121 := ai_ne c121
          have l121f_a3 : (1 : Int) ≤ a3.toInt := (by have h1 := ba3_l; have h2 : (0 : Int32).toInt = 0 := (by decide); rw [h2] at gc121; omega)
          have u121f_a3 : a3.toInt ≤ (-1 : Int) := (by have h1 := ba3_u; have h2 : (0 : Int32).toInt = 0 := (by decide); rw [h2] at gc121; omega)
          exact absurd (Int.le_trans l121f_a3 u121f_a3) (by decide)
      · have gc12 := ai_nle c12
        have u12f_j9l6 : j9l6.toInt ≤ (2 : Int) := ai_lthi gc12 zq9
        refine lv_iload hx hb dX8_bestFrom_15 (lv_at hl 6 rfl) ?_
        have J39 : ∀ (j39s0 : Int32) (H : Heap) (locs : List Loc) (ls : Array Slot), (-1 : Int) ≤ j39s0.toInt → j39s0.toInt ≤ (9 : Int) → va_P (dC, dI) vwCl [(a0, .inr (8, [a0g_0, a0g_1, a0g_2, a0g_3, a0g_4, a0g_5, a0g_6, a0g_7, a0g_8, a0g_9, a0g_10, a0g_11, a0g_12, a0g_13, a0g_14, Value.ref a0_15, a0g_16, a0g_17, a0g_18, a0g_19, a0g_20, a0g_21, a0g_22, a0g_23, a0g_24, a0g_25, a0g_26, a0g_27, a0g_28, a0g_29, a0g_30, a0g_31, Value.ref a0_32, Value.ref a0_33, a0g_34, a0g_35, a0g_36, a0g_37, a0g_38, a0g_39])), (a0_15, .inl (ka0_15, 156, .inl (fa0_15))), (a0_33, .inl (ka0_33, 620, .inl (fa0_33))), (a0_32, .inl (ka0_32, 61, .inl (fa0_32)))] H → va_D A [(a0, .inr (8, [a0g_0, a0g_1, a0g_2, a0g_3, a0g_4, a0g_5, a0g_6, a0g_7, a0g_8, a0g_9, a0g_10, a0g_11, a0g_12, a0g_13, a0g_14, Value.ref a0_15, a0g_16, a0g_17, a0g_18, a0g_19, a0g_20, a0g_21, a0g_22, a0g_23, a0g_24, a0g_25, a0g_26, a0g_27, a0g_28, a0g_29, a0g_30, a0g_31, Value.ref a0_32, Value.ref a0_33, a0g_34, a0g_35, a0g_36, a0g_37, a0g_38, a0g_39])), (a0_15, .inl (ka0_15, 156, .inl (fa0_15))), (a0_33, .inl (ka0_33, 620, .inl (fa0_33))), (a0_32, .inl (ka0_32, 61, .inl (fa0_32)))] → va_S A s.heap H locs → lv_has ls 9 [(0, .ref a0), (1, .int a1), (2, .int a2), (3, .int a3), (4, .int j9l4), (5, .int j9l5), (6, .int j9l6)] → K H locs (F0 m 39 ls [.int j39s0]) := by
          intro j39s0 H locs ls  bj39s0_l bj39s0_u hP hD hS hl
          refine (hK0 _ _ _).mpr ?_
          refine lv_istore (lv' := [(7, .int j39s0), (0, .ref a0), (1, .int a1), (2, .int a2), (3, .int a3), (4, .int j9l4), (5, .int j9l5), (6, .int j9l6)]) hx hb dX8_bestFrom_39 hl (by decide) rfl (fun ls hl => ?_)
          refine lv_iload hx hb dX8_bestFrom_41 (lv_at hl 0 rfl) ?_
          refine lv_iconst (v := 0) hx hb dX8_bestFrom_43 zk_iconst_0 ?_
          refine lv_aload_n hx hb dX8_bestFrom_44 rfl (lv_at hl 1 rfl) ?_
          refine va_get (D := (dC, dI)) (ci := 8) (v := .ref a0_15) (C := RX8) (T := TX8) (N := 40) hx hb hts zi_X8_bestFrom_8 hown hK hP 0 rfl rfl 15 (by decide) (hts (.fieldLink RX8 20 "WaxTurnsModel" "\x72" "[I") (List.mem_cons_of_mem _ (List.mem_append_left _ (List.mem_of_getElem? (i := 0) rfl)))) (fun _ h9 => h9) rfl dX8_bestFrom_45 ?_
          refine lv_iconst (v := 0) hx hb dX8_bestFrom_48 zk_iconst_0 ?_
          refine va_iald hx hb hK hP 1 0 rfl rfl (by unfold vp_in; decide +kernel) dX8_bestFrom_49 ?_
          refine lv_topi (fun x49 ex49 => ?_)
          have bx49 : (2 : Int) ≤ x49.toInt ∧ x49.toInt ≤ 9 := by rw [ex49]; exact ai_rd bfa0_15.1 zq5 zq6 (by decide) (by decide) (by decide)
          refine lv_iconst (v := 1) hx hb dX8_bestFrom_50 zk_iconst_1 ?_
          refine lv_isub hx hb dX8_bestFrom_51 ?_
          refine lv_topi (fun x51 ex51 => ?_)
          have qx51 : x51.toInt = x49.toInt - (1 : Int32).toInt := ai_sub ex51 ⟨bx49.1, bx49.2⟩ ⟨zq1, zq0⟩ (by decide) (by decide)
          have bx51 : (1 : Int) ≤ x51.toInt ∧ x51.toInt ≤ 8 := ⟨by rw [qx51]; exact Int.sub_le_sub bx49.1 zq0, by rw [qx51]; exact Int.sub_le_sub bx49.2 zq1⟩
          have wx51 : x51.toInt = x49.toInt - 1 := qx51
          obtain ⟨hPc, hDc, hFc, hCc⟩ := zc_cut (wc := []) hP hD hS hA [] (by decide +kernel) rfl
          have hKc := hK.sub (tys' := []) [] rfl
          refine va_calli (va_runS (As := [.int j39s0, .int 0, .int x51]) (rest := []) ⟨hx, hb, hml, hown, hts⟩ (c_X8_in l dC dI H.size j39s0 0 x51 ) (va_cwS 3 hts gX8_bestFrom_X8_in rfl rfl rfl zd_X8_in.2 ⟨Nat.le_of_ble_eq_true rfl, Nat.le_of_ble_eq_true rfl⟩) ⟨ax_blind (fun _ _ _ _ _ => trivial), ax_pre hPc hKc hDc (fun _ _ => trivial)⟩ rfl rfl hl.1 rfl (lv_room (Nat.le_of_ble_eq_true rfl)) dX8_bestFrom_52 ⟨Nat.le_of_ble_eq_true rfl, Nat.le_of_ble_eq_true rfl⟩) hS (fun q _ h => hFc q h) hFc (fun r52 u t H locs ht hvm hw hB hz1 hk1 hS => ?_)
          obtain ⟨hP1, hK1, hD1⟩ := hB
          rw [ht] at hP1
          obtain ⟨hP, hD⟩ := zc_back (w := [(a0, .inr (8, [a0g_0, a0g_1, a0g_2, a0g_3, a0g_4, a0g_5, a0g_6, a0g_7, a0g_8, a0g_9, a0g_10, a0g_11, a0g_12, a0g_13, a0g_14, Value.ref a0_15, a0g_16, a0g_17, a0g_18, a0g_19, a0g_20, a0g_21, a0g_22, a0g_23, a0g_24, a0g_25, a0g_26, a0g_27, a0g_28, a0g_29, a0g_30, a0g_31, Value.ref a0_32, Value.ref a0_33, a0g_34, a0g_35, a0g_36, a0g_37, a0g_38, a0g_39])), (a0_15, .inl (ka0_15, 156, .inl (fa0_15))), (a0_33, .inl (ka0_33, 620, .inl (fa0_33))), (a0_32, .inl (ka0_32, 61, .inl (fa0_32)))]) hP hD hCc hk1 hFc hP1 hD1 [.inl 0, .inl 1, .inl 2, .inl 3] (by decide +kernel) rfl
          rcases hw with hw | hw
          · obtain ⟨hw, h52⟩ := hw
            subst hw
            have l52k0_j39s0 : (0 : Int) ≤ j39s0.toInt := Int.le_trans zq5 h52.1
            have u52k0_j39s0 : j39s0.toInt ≤ (8 : Int) := Int.le_trans h52.2 bx51.2
            have l52k0_x51 : (1 : Int) ≤ x51.toInt := bx51.1
            refine lv_if_ne (tgt := 61) hx hb dX8_bestFrom_55 (by decide) (fun _ => ?_) (fun c55 => absurd c55 (by decide +kernel))
            have J114 : ∀ (j114l4 : Int32) (j114l5 : Int32) (H : Heap) (locs : List Loc) (ls : Array Slot), (-1 : Int) ≤ j114l4.toInt → (0 : Int) ≤ j114l5.toInt → j114l5.toInt ≤ (8 : Int) → va_P (dC, dI) vwCl [(a0, .inr (8, [a0g_0, a0g_1, a0g_2, a0g_3, a0g_4, a0g_5, a0g_6, a0g_7, a0g_8, a0g_9, a0g_10, a0g_11, a0g_12, a0g_13, a0g_14, Value.ref a0_15, a0g_16, a0g_17, a0g_18, a0g_19, a0g_20, a0g_21, a0g_22, a0g_23, a0g_24, a0g_25, a0g_26, a0g_27, a0g_28, a0g_29, a0g_30, a0g_31, Value.ref a0_32, Value.ref a0_33, a0g_34, a0g_35, a0g_36, a0g_37, a0g_38, a0g_39])), (a0_15, .inl (ka0_15, 156, .inl (fa0_15))), (a0_33, .inl (ka0_33, 620, .inl (fa0_33))), (a0_32, .inl (ka0_32, 61, .inl (fa0_32)))] H → va_D A [(a0, .inr (8, [a0g_0, a0g_1, a0g_2, a0g_3, a0g_4, a0g_5, a0g_6, a0g_7, a0g_8, a0g_9, a0g_10, a0g_11, a0g_12, a0g_13, a0g_14, Value.ref a0_15, a0g_16, a0g_17, a0g_18, a0g_19, a0g_20, a0g_21, a0g_22, a0g_23, a0g_24, a0g_25, a0g_26, a0g_27, a0g_28, a0g_29, a0g_30, a0g_31, Value.ref a0_32, Value.ref a0_33, a0g_34, a0g_35, a0g_36, a0g_37, a0g_38, a0g_39])), (a0_15, .inl (ka0_15, 156, .inl (fa0_15))), (a0_33, .inl (ka0_33, 620, .inl (fa0_33))), (a0_32, .inl (ka0_32, 61, .inl (fa0_32)))] → va_S A s.heap H locs → lv_has ls 9 [(0, .ref a0), (1, .int a1), (2, .int a2), (3, .int a3), (4, .int j114l4), (5, .int j114l5), (6, .int j9l6)] → K H locs (F0 m 114 ls []) := by
              intro j114l4 j114l5 H locs ls  bj114l4_l bj114l5_l bj114l5_u hP hD hS hl
              refine (hK0 _ _ _).mpr ?_
              obtain ⟨x114, ex114⟩ : ∃ y : Int32, y = j9l6 + Int32.ofInt 1 := ⟨_, rfl⟩
              have qx114 : x114.toInt = j9l6.toInt + 1 := ai_inc ex114 (by decide) (by decide) u12f_j9l6 (by decide)
              have bx114 : (1 : Int) ≤ x114.toInt ∧ x114.toInt ≤ 3 := ⟨by rw [qx114]; exact Int.add_le_add bj9l6_l (Int.le_refl _), by rw [qx114]; exact Int.add_le_add u12f_j9l6 (Int.le_refl _)⟩
              refine lv_iinc (v := x114) (lv' := [(6, .int x114), (0, .ref a0), (1, .int a1), (2, .int a2), (3, .int a3), (4, .int j114l4), (5, .int j114l5)]) hx hb dX8_bestFrom_114 hl (k := 6) rfl ex114.symm (by decide) rfl (fun ls hl => ?_)
              refine lv_goto (tgt := 9) hx hb dX8_bestFrom_117 (by decide) ?_
              exact (hK0 _ _ _).mp (ih9 x114 j114l5 j114l4 _ _ _ (by have h0 := qx114; omega) (Int.le_trans zq4 bx114.1) bx114.2 bj114l5_l bj114l5_u bj114l4_l hP hD hS (lv_sub hl [1, 2, 3, 4, 5, 6, 0] rfl))
            refine lv_aload_n hx hb dX8_bestFrom_61 rfl (lv_at hl 1 rfl) ?_
            refine va_get (D := (dC, dI)) (ci := 8) (v := .ref a0_33) (C := RX8) (T := TX8) (N := 40) hx hb hts zi_X8_bestFrom_8 hown hK hP 0 rfl rfl 33 (by decide) (hts (.fieldLink RX8 50 "WaxTurnsModel" "with" "[I") (List.mem_cons_of_mem _ (List.mem_append_left _ (List.mem_of_getElem? (i := 1) rfl)))) (fun _ h9 => h9) rfl dX8_bestFrom_62 ?_
            refine lv_bipush (v := 10) hx hb dX8_bestFrom_65 zk_bipush_10 ?_
            refine lv_iload_n hx hb dX8_bestFrom_67 rfl (lv_at hl 2 rfl) ?_
            refine lv_iconst (v := 1) hx hb dX8_bestFrom_68 zk_iconst_1 ?_
            refine lv_iadd hx hb dX8_bestFrom_69 ?_
            refine lv_topi (fun x69 ex69 => ?_)
            have qx69 : x69.toInt = a1.toInt + (1 : Int32).toInt := ai_add ex69 ⟨ba1_l, ba1_u⟩ ⟨zq1, zq0⟩ (by decide) (by decide)
            have bx69 : (1 : Int) ≤ x69.toInt ∧ x69.toInt ≤ 60 := ⟨by rw [qx69]; exact Int.add_le_add ba1_l zq1, by rw [qx69]; exact Int.add_le_add ba1_u zq0⟩
            have wx69 : x69.toInt = a1.toInt + 1 := qx69
            refine lv_imul hx hb dX8_bestFrom_70 ?_
            refine lv_topi (fun x70 ex70 => ?_)
            have qx70 : x70.toInt = (10 : Int32).toInt * x69.toInt ∧ (10 : Int) ≤ x70.toInt ∧ x70.toInt ≤ 600 := ai_mul ex70 ⟨zq26, zq27⟩ ⟨bx69.1, bx69.2⟩ (by decide) (by decide) zq195
            have wx70 : x70.toInt = 10 * x69.toInt := qx70.1
            refine lv_iload hx hb dX8_bestFrom_71 (lv_at hl 0 rfl) ?_
            refine lv_iadd hx hb dX8_bestFrom_73 ?_
            refine lv_topi (fun x73 ex73 => ?_)
            have qx73 : x73.toInt = x70.toInt + j39s0.toInt := ai_add ex73 ⟨qx70.2.1, qx70.2.2⟩ ⟨l52k0_j39s0, u52k0_j39s0⟩ (by decide) (by decide)
            have bx73 : (10 : Int) ≤ x73.toInt ∧ x73.toInt ≤ 608 := ⟨by rw [qx73]; exact Int.add_le_add qx70.2.1 l52k0_j39s0, by rw [qx73]; exact Int.add_le_add qx70.2.2 u52k0_j39s0⟩
            refine va_iald hx hb hK hP 2 1 rfl rfl (ai_in bx73.1 bx73.2 (by decide) (by decide)) dX8_bestFrom_74 ?_
            refine lv_topi (fun x74 ex74 => ?_)
            refine lv_aload_n hx hb dX8_bestFrom_75 rfl (lv_at hl 1 rfl) ?_
            refine va_get (D := (dC, dI)) (ci := 8) (v := .ref a0_32) (C := RX8) (T := TX8) (N := 40) hx hb hts zi_X8_bestFrom_8 hown hK hP 0 rfl rfl 32 (by decide) (hts (.fieldLink RX8 47 "WaxTurnsModel" "liveAt" "[I") (List.mem_cons_of_mem _ (List.mem_append_left _ (List.mem_of_getElem? (i := 2) rfl)))) (fun _ h9 => h9) rfl dX8_bestFrom_76 ?_
            refine lv_iload_n hx hb dX8_bestFrom_79 rfl (lv_at hl 2 rfl) ?_
            refine lv_iconst (v := 1) hx hb dX8_bestFrom_80 zk_iconst_1 ?_
            refine lv_iadd hx hb dX8_bestFrom_81 ?_
            refine ax_ti x69 ex69.symm ?_
            refine va_iald hx hb hK hP 3 2 rfl rfl (ai_in bx69.1 bx69.2 (by decide) (by decide)) dX8_bestFrom_82 ?_
            refine lv_topi (fun x82 ex82 => ?_)
            refine lv_iload hx hb dX8_bestFrom_83 (lv_at hl 0 rfl) ?_
            have J93 : ∀ (j93s0 : Int32) (H : Heap) (locs : List Loc) (ls : Array Slot), (0 : Int) ≤ j93s0.toInt → j93s0.toInt ≤ (1 : Int) → va_P (dC, dI) vwCl [(a0, .inr (8, [a0g_0, a0g_1, a0g_2, a0g_3, a0g_4, a0g_5, a0g_6, a0g_7, a0g_8, a0g_9, a0g_10, a0g_11, a0g_12, a0g_13, a0g_14, Value.ref a0_15, a0g_16, a0g_17, a0g_18, a0g_19, a0g_20, a0g_21, a0g_22, a0g_23, a0g_24, a0g_25, a0g_26, a0g_27, a0g_28, a0g_29, a0g_30, a0g_31, Value.ref a0_32, Value.ref a0_33, a0g_34, a0g_35, a0g_36, a0g_37, a0g_38, a0g_39])), (a0_15, .inl (ka0_15, 156, .inl (fa0_15))), (a0_33, .inl (ka0_33, 620, .inl (fa0_33))), (a0_32, .inl (ka0_32, 61, .inl (fa0_32)))] H → va_D A [(a0, .inr (8, [a0g_0, a0g_1, a0g_2, a0g_3, a0g_4, a0g_5, a0g_6, a0g_7, a0g_8, a0g_9, a0g_10, a0g_11, a0g_12, a0g_13, a0g_14, Value.ref a0_15, a0g_16, a0g_17, a0g_18, a0g_19, a0g_20, a0g_21, a0g_22, a0g_23, a0g_24, a0g_25, a0g_26, a0g_27, a0g_28, a0g_29, a0g_30, a0g_31, Value.ref a0_32, Value.ref a0_33, a0g_34, a0g_35, a0g_36, a0g_37, a0g_38, a0g_39])), (a0_15, .inl (ka0_15, 156, .inl (fa0_15))), (a0_33, .inl (ka0_33, 620, .inl (fa0_33))), (a0_32, .inl (ka0_32, 61, .inl (fa0_32)))] → va_S A s.heap H locs → lv_has ls 9 [(0, .ref a0), (1, .int a1), (2, .int a2), (3, .int a3), (4, .int j9l4), (5, .int j9l5), (6, .int j9l6), (7, .int j39s0)] → K H locs (F0 m 93 ls [.int j93s0, .int x74]) := by
              intro j93s0 H locs ls  bj93s0_l bj93s0_u hP hD hS hl
              refine (hK0 _ _ _).mpr ?_
              refine lv_iadd hx hb dX8_bestFrom_93 ?_
              refine lv_topi (fun x93 ex93 => ?_)
              refine lv_istore (lv' := [(8, .int x93), (0, .ref a0), (1, .int a1), (2, .int a2), (3, .int a3), (4, .int j9l4), (5, .int j9l5), (6, .int j9l6), (7, .int j39s0)]) hx hb dX8_bestFrom_94 hl (by decide) rfl (fun ls hl => ?_)
              refine lv_iload hx hb dX8_bestFrom_96 (lv_at hl 0 rfl) ?_
              refine lv_iload hx hb dX8_bestFrom_98 (lv_at hl 5 rfl) ?_
              refine lv_icmp_gt (tgt := 106) hx hb dX8_bestFrom_100 (by decide) (fun c100 => ?_) (fun c100 => ?_)
              · have gc100 := ai_lt c100
                have u100t_j9l4 : j9l4.toInt ≤ (2147483646 : Int) := ai_lthi gc100 (ai_max x93)
                have l100t_x93 : (0 : Int) ≤ x93.toInt := ai_ltlo gc100 bj9l4_l
                refine lv_iload hx hb dX8_bestFrom_106 (lv_at hl 0 rfl) ?_
                refine lv_istore (lv' := [(4, .int x93), (8, .int x93), (0, .ref a0), (1, .int a1), (2, .int a2), (3, .int a3), (5, .int j9l5), (6, .int j9l6), (7, .int j39s0)]) hx hb dX8_bestFrom_108 hl (by decide) rfl (fun ls hl => ?_)
                refine lv_iload hx hb dX8_bestFrom_110 (lv_at hl 8 rfl) ?_
                refine lv_istore (lv' := [(5, .int j39s0), (4, .int x93), (8, .int x93), (0, .ref a0), (1, .int a1), (2, .int a2), (3, .int a3), (6, .int j9l6), (7, .int j39s0)]) hx hb dX8_bestFrom_112 hl (by decide) rfl (fun ls hl => ?_)
                exact (hK0 _ _ _).mp (J114 x93 j39s0 _ _ _  (Int.le_trans zq69 l100t_x93) l52k0_j39s0 u52k0_j39s0 hP hD hS (lv_sub hl [3, 4, 5, 6, 1, 0, 7] rfl))
              · have gc100 := ai_nlt c100
                refine lv_goto (tgt := 114) hx hb dX8_bestFrom_103 (by decide) ?_
                exact (hK0 _ _ _).mp (J114 j9l4 j9l5 _ _ _  bj9l4_l bj9l5_l bj9l5_u hP hD hS (lv_sub hl [1, 2, 3, 4, 5, 6, 7] rfl))
            refine lv_icmp_ne (tgt := 92) hx hb dX8_bestFrom_85 (by decide) (fun c85 => ?_) (fun c85 => ?_)
            · have gc85 := ai_ne c85
              refine lv_iconst (v := 0) hx hb dX8_bestFrom_92 zk_iconst_0 ?_
              exact (hK0 _ _ _).mp (J93 0 _ _ _  zq5 (Int.le_trans zq6 zq4) hP hD hS (lv_sub hl [1, 2, 3, 4, 5, 6, 7, 0] rfl))
            · have gc85 := ai_eq c85
              have u85f_x82 : x82.toInt ≤ (8 : Int) := Int.le_trans (Int.le_of_eq gc85) u52k0_j39s0
              have l85f_x82 : (0 : Int) ≤ x82.toInt := Int.le_trans l52k0_j39s0 (Int.le_of_eq gc85.symm)
              refine lv_iconst (v := 1) hx hb dX8_bestFrom_88 zk_iconst_1 ?_
              refine lv_goto (tgt := 93) hx hb dX8_bestFrom_89 (by decide) ?_
              exact (hK0 _ _ _).mp (J93 1 _ _ _  (Int.le_trans zq4 zq1) zq0 hP hD hS (lv_sub hl [1, 2, 3, 4, 5, 6, 7, 0] rfl))
          · obtain ⟨hw, h52⟩ := hw
            subst hw
            refine lv_if_ne (tgt := 61) hx hb dX8_bestFrom_55 (by decide) (fun c55 => absurd (by decide +kernel) c55) (fun _ => ?_)
            have J114 : ∀ (j114l4 : Int32) (j114l5 : Int32) (H : Heap) (locs : List Loc) (ls : Array Slot), (-1 : Int) ≤ j114l4.toInt → (0 : Int) ≤ j114l5.toInt → j114l5.toInt ≤ (8 : Int) → va_P (dC, dI) vwCl [(a0, .inr (8, [a0g_0, a0g_1, a0g_2, a0g_3, a0g_4, a0g_5, a0g_6, a0g_7, a0g_8, a0g_9, a0g_10, a0g_11, a0g_12, a0g_13, a0g_14, Value.ref a0_15, a0g_16, a0g_17, a0g_18, a0g_19, a0g_20, a0g_21, a0g_22, a0g_23, a0g_24, a0g_25, a0g_26, a0g_27, a0g_28, a0g_29, a0g_30, a0g_31, Value.ref a0_32, Value.ref a0_33, a0g_34, a0g_35, a0g_36, a0g_37, a0g_38, a0g_39])), (a0_15, .inl (ka0_15, 156, .inl (fa0_15))), (a0_33, .inl (ka0_33, 620, .inl (fa0_33))), (a0_32, .inl (ka0_32, 61, .inl (fa0_32)))] H → va_D A [(a0, .inr (8, [a0g_0, a0g_1, a0g_2, a0g_3, a0g_4, a0g_5, a0g_6, a0g_7, a0g_8, a0g_9, a0g_10, a0g_11, a0g_12, a0g_13, a0g_14, Value.ref a0_15, a0g_16, a0g_17, a0g_18, a0g_19, a0g_20, a0g_21, a0g_22, a0g_23, a0g_24, a0g_25, a0g_26, a0g_27, a0g_28, a0g_29, a0g_30, a0g_31, Value.ref a0_32, Value.ref a0_33, a0g_34, a0g_35, a0g_36, a0g_37, a0g_38, a0g_39])), (a0_15, .inl (ka0_15, 156, .inl (fa0_15))), (a0_33, .inl (ka0_33, 620, .inl (fa0_33))), (a0_32, .inl (ka0_32, 61, .inl (fa0_32)))] → va_S A s.heap H locs → lv_has ls 9 [(0, .ref a0), (1, .int a1), (2, .int a2), (3, .int a3), (4, .int j114l4), (5, .int j114l5), (6, .int j9l6)] → K H locs (F0 m 114 ls []) := by
              intro j114l4 j114l5 H locs ls  bj114l4_l bj114l5_l bj114l5_u hP hD hS hl
              refine (hK0 _ _ _).mpr ?_
              obtain ⟨x114, ex114⟩ : ∃ y : Int32, y = j9l6 + Int32.ofInt 1 := ⟨_, rfl⟩
              have qx114 : x114.toInt = j9l6.toInt + 1 := ai_inc ex114 (by decide) (by decide) u12f_j9l6 (by decide)
              have bx114 : (1 : Int) ≤ x114.toInt ∧ x114.toInt ≤ 3 := ⟨by rw [qx114]; exact Int.add_le_add bj9l6_l (Int.le_refl _), by rw [qx114]; exact Int.add_le_add u12f_j9l6 (Int.le_refl _)⟩
              refine lv_iinc (v := x114) (lv' := [(6, .int x114), (0, .ref a0), (1, .int a1), (2, .int a2), (3, .int a3), (4, .int j114l4), (5, .int j114l5)]) hx hb dX8_bestFrom_114 hl (k := 6) rfl ex114.symm (by decide) rfl (fun ls hl => ?_)
              refine lv_goto (tgt := 9) hx hb dX8_bestFrom_117 (by decide) ?_
              exact (hK0 _ _ _).mp (ih9 x114 j114l5 j114l4 _ _ _ (by have h0 := qx114; omega) (Int.le_trans zq4 bx114.1) bx114.2 bj114l5_l bj114l5_u bj114l4_l hP hD hS (lv_sub hl [1, 2, 3, 4, 5, 6, 0] rfl))
            refine lv_goto (tgt := 114) hx hb dX8_bestFrom_58 (by decide) ?_
            exact (hK0 _ _ _).mp (J114 j9l4 j9l5 _ _ _  bj9l4_l bj9l5_l bj9l5_u hP hD hS (lv_sub hl [1, 2, 3, 4, 5, 6, 7] rfl))
        refine lv_if_ne (tgt := 24) hx hb dX8_bestFrom_17 (by decide) (fun c17 => ?_) (fun c17 => ?_)
        · have gc17 := ai_ne c17
          have l17t_j9l6 : (1 : Int) ≤ j9l6.toInt := (by have h1 := bj9l6_l; have h2 : (0 : Int32).toInt = 0 := (by decide); rw [h2] at gc17; omega)
          refine lv_iload hx hb dX8_bestFrom_24 (lv_at hl 6 rfl) ?_
          refine lv_iconst (v := 1) hx hb dX8_bestFrom_26 zk_iconst_1 ?_
          refine lv_icmp_ne (tgt := 36) hx hb dX8_bestFrom_27 (by decide) (fun c27 => ?_) (fun c27 => ?_)
          · have gc27 := ai_ne c27
            have l27t_j9l6 : (2 : Int) ≤ j9l6.toInt := (by have h1 := l17t_j9l6; have h2 : (1 : Int32).toInt = 1 := (by decide); rw [h2] at gc27; omega)
            refine lv_iload_n hx hb dX8_bestFrom_36 rfl (lv_at hl 2 rfl) ?_
            refine lv_iconst (v := 1) hx hb dX8_bestFrom_37 zk_iconst_1 ?_
            refine lv_iadd hx hb dX8_bestFrom_38 ?_
            refine lv_topi (fun x38 ex38 => ?_)
            have qx38 : x38.toInt = a2.toInt + (1 : Int32).toInt := ai_add ex38 ⟨ba2_l, ba2_u⟩ ⟨zq1, zq0⟩ (by decide) (by decide)
            have bx38 : (1 : Int) ≤ x38.toInt ∧ x38.toInt ≤ 9 := ⟨by rw [qx38]; exact Int.add_le_add ba2_l zq1, by rw [qx38]; exact Int.add_le_add ba2_u zq0⟩
            have wx38 : x38.toInt = a2.toInt + 1 := qx38
            exact (hK0 _ _ _).mp (J39 x38 _ _ _  (Int.le_trans zq78 bx38.1) bx38.2 hP hD hS (lv_sub hl [0, 1, 2, 3, 4, 5, 6] rfl))
          · have gc27 := ai_eq c27
            have u27f_j9l6 : j9l6.toInt ≤ (1 : Int) := Int.le_trans (Int.le_of_eq gc27) zq0
            have l27f_j9l6 : (1 : Int) ≤ j9l6.toInt := l17t_j9l6
            refine lv_iload_n hx hb dX8_bestFrom_30 rfl (lv_at hl 2 rfl) ?_
            refine lv_iconst (v := 1) hx hb dX8_bestFrom_31 zk_iconst_1 ?_
            refine lv_isub hx hb dX8_bestFrom_32 ?_
            refine lv_topi (fun x32 ex32 => ?_)
            have qx32 : x32.toInt = a2.toInt - (1 : Int32).toInt := ai_sub ex32 ⟨ba2_l, ba2_u⟩ ⟨zq1, zq0⟩ (by decide) (by decide)
            have bx32 : (-1 : Int) ≤ x32.toInt ∧ x32.toInt ≤ 7 := ⟨by rw [qx32]; exact Int.sub_le_sub ba2_l zq0, by rw [qx32]; exact Int.sub_le_sub ba2_u zq1⟩
            have wx32 : x32.toInt = a2.toInt - 1 := qx32
            refine lv_goto (tgt := 39) hx hb dX8_bestFrom_33 (by decide) ?_
            exact (hK0 _ _ _).mp (J39 x32 _ _ _  bx32.1 (Int.le_trans bx32.2 zq196) hP hD hS (lv_sub hl [0, 1, 2, 3, 4, 5, 6] rfl))
        · have gc17 := ai_eq c17
          have u17f_j9l6 : j9l6.toInt ≤ (0 : Int) := Int.le_trans (Int.le_of_eq gc17) zq6
          have l17f_j9l6 : (0 : Int) ≤ j9l6.toInt := bj9l6_l
          refine lv_iload_n hx hb dX8_bestFrom_20 rfl (lv_at hl 2 rfl) ?_
          refine lv_goto (tgt := 39) hx hb dX8_bestFrom_21 (by decide) ?_
          exact (hK0 _ _ _).mp (J39 a2 _ _ _  (Int.le_trans zq69 ba2_l) (Int.le_trans ba2_u zq22) hP hD hS (lv_sub hl [0, 1, 2, 3, 4, 5, 6] rfl))
  exact (hK0 _ _ _).mp (J9 4 0 a2 (-1) _ _ _ (by have h1 : (0 : Int) ≤ (0 : Int32).toInt := zq5; have h2 : (0 : Int32).toInt ≤ (0 : Int) := zq6; omega) zq5 (Int.le_trans zq6 zq11) ba2_l ba2_u zq70 hP hD hS (lv_sub hl [3, 4, 5, 6, 2, 1, 0] rfl))

set_option maxHeartbeats 4000000 in
set_option maxRecDepth 100000 in
theorem c_X8_layRoute (l : Launch) (dC : Nat → ClassId) (dI : Nat → Nat → Nat) (sz : Nat) (a0 : Nat) (a1 : Int32) (a0g_0 a0g_1 a0g_2 a0g_3 a0g_4 a0g_5 a0g_6 a0g_7 a0g_8 a0g_9 a0g_10 a0g_11 a0g_12 a0g_13 a0g_14 a0g_16 a0g_19 a0g_20 a0g_21 a0g_22 a0g_29 a0g_30 a0g_31 a0g_34 a0g_35 a0g_36 a0g_37 a0g_38 a0g_39 : Value) (a0_15 : Nat) (a0_17 : Nat) (a0_18 : Nat) (a0_23 : Nat) (a0_24 : Nat) (a0_25 : Int32) (a0_26 : Int32) (a0_27 : Int32) (a0_28 : Int32) (a0_32 : Nat) (a0_33 : Nat) (ka0_15 : ClassId) (fa0_15 : Nat → Int32) (ka0_23 : ClassId) (fa0_23 : Nat → Int32) (ka0_24 : ClassId) (fa0_24 : Nat → Int32) (ka0_17 : ClassId) (fa0_17 : Nat → Int32) (ka0_18 : ClassId) (fa0_18 : Nat → Int32) (ka0_32 : ClassId) (fa0_32 : Nat → Int32) (ka0_33 : ClassId) (fa0_33 : Nat → Int32) (ba1_l : (1 : Int) ≤ a1.toInt) (ba1_u : a1.toInt ≤ (60 : Int)) (bfa0_15 : ((∀ k : Nat, 0 ≤ k → k ≤ 0 → (2 : Int) ≤ (fa0_15 k).toInt ∧ (fa0_15 k).toInt ≤ 9) ∧ (∀ k : Nat, 1 ≤ k → k ≤ 1 → (1 : Int) ≤ (fa0_15 k).toInt ∧ (fa0_15 k).toInt ≤ 20) ∧ (∀ k : Nat, 2 ≤ k → k ≤ 2 → (0 : Int) ≤ (fa0_15 k).toInt ∧ (fa0_15 k).toInt ≤ 8) ∧ (∀ k : Nat, 3 ≤ k → k ≤ 3 → (0 : Int) ≤ (fa0_15 k).toInt ∧ (fa0_15 k).toInt ≤ 100) ∧ (∀ k : Nat, 4 ≤ k → k ≤ 4 → (0 : Int) ≤ (fa0_15 k).toInt ∧ (fa0_15 k).toInt ≤ 9) ∧ (∀ k : Nat, 5 ≤ k → k ≤ 5 → (0 : Int) ≤ (fa0_15 k).toInt ∧ (fa0_15 k).toInt ≤ 3) ∧ (∀ k : Nat, 6 ≤ k → k ≤ 6 → (0 : Int) ≤ (fa0_15 k).toInt ∧ (fa0_15 k).toInt ≤ 6) ∧ (∀ k : Nat, 7 ≤ k → k ≤ 9 → (0 : Int) ≤ (fa0_15 k).toInt ∧ (fa0_15 k).toInt ≤ 8) ∧ (∀ k : Nat, 12 ≤ k → k ≤ 29 → (0 : Int) ≤ (fa0_15 k).toInt ∧ (fa0_15 k).toInt ≤ 20) ∧ (∀ k : Nat, 30 ≤ k → k ≤ 35 → (0 : Int) ≤ (fa0_15 k).toInt ∧ (fa0_15 k).toInt ≤ 8) ∧ (∀ k : Nat, 36 ≤ k → k ≤ 47 → (0 : Int) ≤ (fa0_15 k).toInt ∧ (fa0_15 k).toInt ≤ 999))) (bfa0_23 : (∀ k, (0 : Int) ≤ (fa0_23 k).toInt ∧ (fa0_23 k).toInt ≤ 80)) (bfa0_24 : (∀ k, (0 : Int) ≤ (fa0_24 k).toInt ∧ (fa0_24 k).toInt ≤ 80)) (bfa0_17 : ((∀ k : Nat, 0 ≤ k → k ≤ 8 → (0 : Int) ≤ (fa0_17 k).toInt ∧ (fa0_17 k).toInt ≤ 8) ∧ (∀ k : Nat, 19 ≤ k → k ≤ 19 → (0 : Int) ≤ (fa0_17 k).toInt ∧ (fa0_17 k).toInt ≤ 8) ∧ (∀ k : Nat, 20 ≤ k → k ≤ 20 → (0 : Int) ≤ (fa0_17 k).toInt ∧ (fa0_17 k).toInt ≤ 19))) (bfa0_18 : ((∀ k : Nat, 0 ≤ k → k ≤ 8 → (0 : Int) ≤ (fa0_18 k).toInt ∧ (fa0_18 k).toInt ≤ 8) ∧ (∀ k : Nat, 19 ≤ k → k ≤ 19 → (0 : Int) ≤ (fa0_18 k).toInt ∧ (fa0_18 k).toInt ≤ 8) ∧ (∀ k : Nat, 20 ≤ k → k ≤ 20 → (0 : Int) ≤ (fa0_18 k).toInt ∧ (fa0_18 k).toInt ≤ 19))) (hkm : ∀ (j i0 i : Int32), (0 : Int) ≤ j.toInt → j.toInt ≤ 8 → i0.toInt = 12 + 2 * j.toInt → i.toInt = 13 + 2 * j.toInt → (fa0_15 i0.toNatClampNeg).toInt = (1 : Int32).toInt → (1 : Int) ≤ (fa0_15 i.toNatClampNeg).toInt) : Met l yX8_layRoute wsX8_layRoute ({ frames := 4, cells := 0, slots := 0, locals := 95 }) (va_Pc [.ref a0, .int a1] (ax_C dC dI sz [(a0, .inr (8, [a0g_0, a0g_1, a0g_2, a0g_3, a0g_4, a0g_5, a0g_6, a0g_7, a0g_8, a0g_9, a0g_10, a0g_11, a0g_12, a0g_13, a0g_14, Value.ref a0_15, a0g_16, Value.ref a0_17, Value.ref a0_18, a0g_19, a0g_20, a0g_21, a0g_22, Value.ref a0_23, Value.ref a0_24, Value.int a0_25, Value.int a0_26, Value.int a0_27, Value.int a0_28, a0g_29, a0g_30, a0g_31, Value.ref a0_32, Value.ref a0_33, a0g_34, a0g_35, a0g_36, a0g_37, a0g_38, a0g_39])), (a0_15, .inl (ka0_15, 156, .inl (fa0_15))), (a0_23, .inl (ka0_23, 3, .inl (fa0_23))), (a0_24, .inl (ka0_24, 3, .inl (fa0_24))), (a0_17, .inl (ka0_17, 23, .inl (fa0_17))), (a0_18, .inl (ka0_18, 23, .inl (fa0_18))), (a0_32, .inl (ka0_32, 61, .inl (fa0_32))), (a0_33, .inl (ka0_33, 620, .inl (fa0_33)))] [(ka0_15, .int), (ka0_23, .int), (ka0_24, .int), (ka0_17, .int), (ka0_18, .int), (ka0_32, .int), (ka0_33, .int)] (fun _ => True))) (va_Qv (fun (_ : Unit) => True) (fun (_ : Unit) (t : State) => ∃ na0_25 : Int32, ∃ na0_26 : Int32, ∃ na0_27 : Int32, ∃ na0_28 : Int32, ∃ nfa0_23 : Nat → Int32, ∃ nfa0_24 : Nat → Int32, ∃ nfa0_18 : Nat → Int32, ∃ nfa0_32 : Nat → Int32, ∃ nfa0_33 : Nat → Int32, (∀ k, (0 : Int) ≤ (nfa0_23 k).toInt ∧ (nfa0_23 k).toInt ≤ 80) ∧ (∀ k, (0 : Int) ≤ (nfa0_24 k).toInt ∧ (nfa0_24 k).toInt ≤ 80) ∧ ((∀ k : Nat, 0 ≤ k → k ≤ 8 → (0 : Int) ≤ (nfa0_18 k).toInt ∧ (nfa0_18 k).toInt ≤ 8) ∧ (∀ k : Nat, 19 ≤ k → k ≤ 19 → (0 : Int) ≤ (nfa0_18 k).toInt ∧ (nfa0_18 k).toInt ≤ 8) ∧ (∀ k : Nat, 20 ≤ k → k ≤ 20 → (0 : Int) ≤ (nfa0_18 k).toInt ∧ (nfa0_18 k).toInt ≤ 19)) ∧ ax_B dC dI (va_A [(a0, .inr (8, [a0g_0, a0g_1, a0g_2, a0g_3, a0g_4, a0g_5, a0g_6, a0g_7, a0g_8, a0g_9, a0g_10, a0g_11, a0g_12, a0g_13, a0g_14, Value.ref a0_15, a0g_16, Value.ref a0_17, Value.ref a0_18, a0g_19, a0g_20, a0g_21, a0g_22, Value.ref a0_23, Value.ref a0_24, Value.int a0_25, Value.int a0_26, Value.int a0_27, Value.int a0_28, a0g_29, a0g_30, a0g_31, Value.ref a0_32, Value.ref a0_33, a0g_34, a0g_35, a0g_36, a0g_37, a0g_38, a0g_39])), (a0_15, .inl (ka0_15, 156, .inl (fa0_15))), (a0_23, .inl (ka0_23, 3, .inl (fa0_23))), (a0_24, .inl (ka0_24, 3, .inl (fa0_24))), (a0_17, .inl (ka0_17, 23, .inl (fa0_17))), (a0_18, .inl (ka0_18, 23, .inl (fa0_18))), (a0_32, .inl (ka0_32, 61, .inl (fa0_32))), (a0_33, .inl (ka0_33, 620, .inl (fa0_33)))] sz) [(a0, .inr (8, [a0g_0, a0g_1, a0g_2, a0g_3, a0g_4, a0g_5, a0g_6, a0g_7, a0g_8, a0g_9, a0g_10, a0g_11, a0g_12, a0g_13, a0g_14, Value.ref a0_15, a0g_16, Value.ref a0_17, Value.ref a0_18, a0g_19, a0g_20, a0g_21, a0g_22, Value.ref a0_23, Value.ref a0_24, Value.int na0_25, Value.int na0_26, Value.int na0_27, Value.int na0_28, a0g_29, a0g_30, a0g_31, Value.ref a0_32, Value.ref a0_33, a0g_34, a0g_35, a0g_36, a0g_37, a0g_38, a0g_39])), (a0_15, .inl (ka0_15, 156, .inl (fa0_15))), (a0_23, .inl (ka0_23, 3, .inl (nfa0_23))), (a0_24, .inl (ka0_24, 3, .inl (nfa0_24))), (a0_17, .inl (ka0_17, 23, .inl (fa0_17))), (a0_18, .inl (ka0_18, 23, .inl (nfa0_18))), (a0_32, .inl (ka0_32, 61, .inl (nfa0_32))), (a0_33, .inl (ka0_33, 620, .inl (nfa0_33)))] [(ka0_15, .int), (ka0_23, .int), (ka0_24, .int), (ka0_17, .int), (ka0_18, .int), (ka0_32, .int), (ka0_33, .int)] t) (va_A [(a0, .inr (8, [a0g_0, a0g_1, a0g_2, a0g_3, a0g_4, a0g_5, a0g_6, a0g_7, a0g_8, a0g_9, a0g_10, a0g_11, a0g_12, a0g_13, a0g_14, Value.ref a0_15, a0g_16, Value.ref a0_17, Value.ref a0_18, a0g_19, a0g_20, a0g_21, a0g_22, Value.ref a0_23, Value.ref a0_24, Value.int a0_25, Value.int a0_26, Value.int a0_27, Value.int a0_28, a0g_29, a0g_30, a0g_31, Value.ref a0_32, Value.ref a0_33, a0g_34, a0g_35, a0g_36, a0g_37, a0g_38, a0g_39])), (a0_15, .inl (ka0_15, 156, .inl (fa0_15))), (a0_23, .inl (ka0_23, 3, .inl (fa0_23))), (a0_24, .inl (ka0_24, 3, .inl (fa0_24))), (a0_17, .inl (ka0_17, 23, .inl (fa0_17))), (a0_18, .inl (ka0_18, 23, .inl (fa0_18))), (a0_32, .inl (ka0_32, 61, .inl (fa0_32))), (a0_33, .inl (ka0_33, 620, .inl (fa0_33)))] sz)) 0 0 (va_A [(a0, .inr (8, [a0g_0, a0g_1, a0g_2, a0g_3, a0g_4, a0g_5, a0g_6, a0g_7, a0g_8, a0g_9, a0g_10, a0g_11, a0g_12, a0g_13, a0g_14, Value.ref a0_15, a0g_16, Value.ref a0_17, Value.ref a0_18, a0g_19, a0g_20, a0g_21, a0g_22, Value.ref a0_23, Value.ref a0_24, Value.int a0_25, Value.int a0_26, Value.int a0_27, Value.int a0_28, a0g_29, a0g_30, a0g_31, Value.ref a0_32, Value.ref a0_33, a0g_34, a0g_35, a0g_36, a0g_37, a0g_38, a0g_39])), (a0_15, .inl (ka0_15, 156, .inl (fa0_15))), (a0_23, .inl (ka0_23, 3, .inl (fa0_23))), (a0_24, .inl (ka0_24, 3, .inl (fa0_24))), (a0_17, .inl (ka0_17, 23, .inl (fa0_17))), (a0_18, .inl (ka0_18, 23, .inl (fa0_18))), (a0_32, .inl (ka0_32, 61, .inl (fa0_32))), (a0_33, .inl (ka0_33, 620, .inl (fa0_33)))] sz) := by
  refine Met.ofW (cc := cX8_layRoute) (maxL := 4) (ret := none) (by decide) rfl ?_
  intro p e s m args below meth c s₁ B hml hv
  obtain ⟨rfl, hsz, hP, hK, hD0, hE⟩ := hv
  have hx := B.exec
  have hb := B.bytes
  have hr := B.returns
  have hts := atoms_spec (ws := wsX8_layRoute) B.pre
  have hown : s.vm.findClass RX8 = some m.cls := findClass_of_methodNamed B.named
  have hlocks := B.notSynchronized
  subst hsz
  have hD := hD0.self (sz := s.heap.size)
  generalize hAe : va_A [(a0, .inr (8, [a0g_0, a0g_1, a0g_2, a0g_3, a0g_4, a0g_5, a0g_6, a0g_7, a0g_8, a0g_9, a0g_10, a0g_11, a0g_12, a0g_13, a0g_14, Value.ref a0_15, a0g_16, Value.ref a0_17, Value.ref a0_18, a0g_19, a0g_20, a0g_21, a0g_22, Value.ref a0_23, Value.ref a0_24, Value.int a0_25, Value.int a0_26, Value.int a0_27, Value.int a0_28, a0g_29, a0g_30, a0g_31, Value.ref a0_32, Value.ref a0_33, a0g_34, a0g_35, a0g_36, a0g_37, a0g_38, a0g_39])), (a0_15, .inl (ka0_15, 156, .inl (fa0_15))), (a0_23, .inl (ka0_23, 3, .inl (fa0_23))), (a0_24, .inl (ka0_24, 3, .inl (fa0_24))), (a0_17, .inl (ka0_17, 23, .inl (fa0_17))), (a0_18, .inl (ka0_18, 23, .inl (fa0_18))), (a0_32, .inl (ka0_32, 61, .inl (fa0_32))), (a0_33, .inl (ka0_33, 620, .inl (fa0_33)))] s.heap.size = A at hD ⊢
  have hA : ∀ q : Nat, s.heap.size ≤ q → A q := fun q h => by rw [← hAe]; exact Or.inr h
  have hS : va_S A s.heap s.heap [] := va_S.rf
  have hP : va_P (dC, dI) vwCl [(a0, .inr (8, [a0g_0, a0g_1, a0g_2, a0g_3, a0g_4, a0g_5, a0g_6, a0g_7, a0g_8, a0g_9, a0g_10, a0g_11, a0g_12, a0g_13, a0g_14, Value.ref a0_15, a0g_16, Value.ref a0_17, Value.ref a0_18, a0g_19, a0g_20, a0g_21, a0g_22, Value.ref a0_23, Value.ref a0_24, Value.int a0_25, Value.int a0_26, Value.int a0_27, Value.int a0_28, a0g_29, a0g_30, a0g_31, Value.ref a0_32, Value.ref a0_33, a0g_34, a0g_35, a0g_36, a0g_37, a0g_38, a0g_39])), (a0_15, .inl (ka0_15, 156, .inl (fa0_15))), (a0_23, .inl (ka0_23, 3, .inl (fa0_23))), (a0_24, .inl (ka0_24, 3, .inl (fa0_24))), (a0_17, .inl (ka0_17, 23, .inl (fa0_17))), (a0_18, .inl (ka0_18, 23, .inl (fa0_18))), (a0_32, .inl (ka0_32, 61, .inl (fa0_32))), (a0_33, .inl (ka0_33, 620, .inl (fa0_33)))] s.heap := hP
  have hl := lv_entry ([.ref a0, .int a1]) (n := 4) (Nat.le_of_ble_eq_true rfl)
  rw [lg_entry_eq]
  generalize (lg_sl ([.ref a0, .int a1]) ++ List.replicate (4 - (lg_sl ([.ref a0, .int a1])).length) Slot.unset).toArray = ls at hl ⊢
  have hl : lv_has ls 4 [(0, .ref a0), (1, .int a1)] := hl
  refine ai_open (fun K hK0 => ?_)
  refine (hK0 _ _ _).mpr ?_
  refine lv_aload_n hx hb dX8_layRoute_0 rfl (lv_at hl 0 rfl) ?_
  obtain ⟨hPc, hDc, hFc, hCc⟩ := zc_cut (wc := [(a0, .inr (8, [a0g_0, a0g_1, a0g_2, a0g_3, a0g_4, a0g_5, a0g_6, a0g_7, a0g_8, a0g_9, a0g_10, a0g_11, a0g_12, a0g_13, a0g_14, Value.ref a0_15, a0g_16, Value.ref a0_17, Value.ref a0_18, a0g_19, a0g_20, a0g_21, a0g_22, Value.ref a0_23, Value.ref a0_24, Value.int a0_25, Value.int a0_26, Value.int a0_27, Value.int a0_28, a0g_29, a0g_30, a0g_31, Value.ref a0_32, Value.ref a0_33, a0g_34, a0g_35, a0g_36, a0g_37, a0g_38, a0g_39])), (a0_15, .inl (ka0_15, 156, .inl (fa0_15))), (a0_23, .inl (ka0_23, 3, .inl (fa0_23))), (a0_24, .inl (ka0_24, 3, .inl (fa0_24))), (a0_17, .inl (ka0_17, 23, .inl (fa0_17))), (a0_18, .inl (ka0_18, 23, .inl (fa0_18)))]) hP hD hS hA [0, 1, 2, 3, 4, 5] (by decide +kernel) rfl
  have hKc := hK.sub (tys' := [(ka0_15, .int), (ka0_23, .int), (ka0_24, .int), (ka0_17, .int), (ka0_18, .int)]) [0, 1, 2, 3, 4] rfl
  refine va_callv (va_runV (As := []) (rest := []) ⟨hx, hb, hml, hown, hts⟩ (c_X8_begin l dC dI s.heap.size a0 a0g_0 a0g_1 a0g_2 a0g_3 a0g_4 a0g_5 a0g_6 a0g_7 a0g_8 a0g_9 a0g_10 a0g_11 a0g_12 a0g_13 a0g_14 a0g_16 a0g_19 a0g_20 a0g_21 a0g_22 (Value.int a0_26) (Value.int a0_27) (Value.int a0_28) a0g_29 a0g_30 a0g_31 (Value.ref a0_32) (Value.ref a0_33) a0g_34 a0g_35 a0g_36 a0g_37 a0g_38 a0g_39 a0_15 a0_17 a0_18 a0_23 a0_24 a0_25 ka0_15 fa0_15 ka0_23 fa0_23 ka0_24 fa0_24 ka0_17 fa0_17 ka0_18 fa0_18 bfa0_15 bfa0_23 bfa0_24 bfa0_17 bfa0_18) (cwV 0 hts gX8_layRoute_X8_begin rfl rfl rfl zd_X8_begin ⟨Nat.le_of_ble_eq_true rfl, Nat.le_of_ble_eq_true rfl⟩) ⟨ax_blind (fun _ _ _ _ _ => trivial), zr_8 hKc hPc (q0 := 0) rfl, ax_pre hPc hKc hDc (fun _ _ => trivial)⟩ rfl rfl hl.1 rfl (lv_room (Nat.le_of_ble_eq_true rfl)) dX8_layRoute_1 ⟨Nat.le_of_ble_eq_true rfl, Nat.le_of_ble_eq_true rfl⟩) hS (fun q _ h => hFc q h) hFc (fun u t H locs ht hvm hw hB hz1 hk1 hS => ?_)
  obtain ⟨v1na0_25, v1nfa0_23, v1nfa0_24, v1nfa0_18, bv1nfa0_23, bv1nfa0_24, bv1nfa0_18, hP1, hK1, hD1⟩ := hB
  rw [ht] at hP1
  obtain ⟨hP, hD⟩ := zc_back (w := [(a0, .inr (8, [a0g_0, a0g_1, a0g_2, a0g_3, a0g_4, a0g_5, a0g_6, a0g_7, a0g_8, a0g_9, a0g_10, a0g_11, a0g_12, a0g_13, a0g_14, Value.ref a0_15, a0g_16, Value.ref a0_17, Value.ref a0_18, a0g_19, a0g_20, a0g_21, a0g_22, Value.ref a0_23, Value.ref a0_24, Value.int v1na0_25, Value.int a0_26, Value.int a0_27, Value.int a0_28, a0g_29, a0g_30, a0g_31, Value.ref a0_32, Value.ref a0_33, a0g_34, a0g_35, a0g_36, a0g_37, a0g_38, a0g_39])), (a0_15, .inl (ka0_15, 156, .inl (fa0_15))), (a0_23, .inl (ka0_23, 3, .inl (v1nfa0_23))), (a0_24, .inl (ka0_24, 3, .inl (v1nfa0_24))), (a0_17, .inl (ka0_17, 23, .inl (fa0_17))), (a0_18, .inl (ka0_18, 23, .inl (v1nfa0_18))), (a0_32, .inl (ka0_32, 61, .inl (fa0_32))), (a0_33, .inl (ka0_33, 620, .inl (fa0_33)))]) hP hD hCc hk1 hFc hP1 hD1 [.inr 0, .inr 1, .inr 2, .inr 3, .inr 4, .inr 5, .inl 6, .inl 7] (by decide +kernel) rfl
  refine lv_iconst (v := 1) hx hb dX8_layRoute_4 zk_iconst_1 ?_
  refine lv_istore_n (lv' := [(2, .int 1), (0, .ref a0), (1, .int a1)]) hx hb dX8_layRoute_5 rfl hl (by decide) rfl (fun ls hl => ?_)
  have J6 : ∀ (n : Nat) (j6l2 : Int32) (j6a0_26 : Int32) (j6a0_27 : Int32) (j6a0_28 : Int32) (j6a0_18_a : Nat → Int32) (j6a0_32_a : Nat → Int32) (H : Heap) (locs : List Loc) (ls : Array Slot), (81 : Int) - j6l2.toInt ≤ (n : Int) → (1 : Int) ≤ j6l2.toInt → j6l2.toInt ≤ (80 : Int) → ((∀ k : Nat, 0 ≤ k → k ≤ 8 → (0 : Int) ≤ (j6a0_18_a k).toInt ∧ (j6a0_18_a k).toInt ≤ 8) ∧ (∀ k : Nat, 19 ≤ k → k ≤ 19 → (0 : Int) ≤ (j6a0_18_a k).toInt ∧ (j6a0_18_a k).toInt ≤ 8) ∧ (∀ k : Nat, 20 ≤ k → k ≤ 20 → (0 : Int) ≤ (j6a0_18_a k).toInt ∧ (j6a0_18_a k).toInt ≤ 19)) → va_P (dC, dI) vwCl [(a0, .inr (8, [a0g_0, a0g_1, a0g_2, a0g_3, a0g_4, a0g_5, a0g_6, a0g_7, a0g_8, a0g_9, a0g_10, a0g_11, a0g_12, a0g_13, a0g_14, Value.ref a0_15, a0g_16, Value.ref a0_17, Value.ref a0_18, a0g_19, a0g_20, a0g_21, a0g_22, Value.ref a0_23, Value.ref a0_24, Value.int v1na0_25, Value.int j6a0_26, Value.int j6a0_27, Value.int j6a0_28, a0g_29, a0g_30, a0g_31, Value.ref a0_32, Value.ref a0_33, a0g_34, a0g_35, a0g_36, a0g_37, a0g_38, a0g_39])), (a0_15, .inl (ka0_15, 156, .inl (fa0_15))), (a0_23, .inl (ka0_23, 3, .inl (v1nfa0_23))), (a0_24, .inl (ka0_24, 3, .inl (v1nfa0_24))), (a0_17, .inl (ka0_17, 23, .inl (fa0_17))), (a0_18, .inl (ka0_18, 23, .inl (j6a0_18_a))), (a0_32, .inl (ka0_32, 61, .inl (j6a0_32_a))), (a0_33, .inl (ka0_33, 620, .inl (fa0_33)))] H → va_D A [(a0, .inr (8, [a0g_0, a0g_1, a0g_2, a0g_3, a0g_4, a0g_5, a0g_6, a0g_7, a0g_8, a0g_9, a0g_10, a0g_11, a0g_12, a0g_13, a0g_14, Value.ref a0_15, a0g_16, Value.ref a0_17, Value.ref a0_18, a0g_19, a0g_20, a0g_21, a0g_22, Value.ref a0_23, Value.ref a0_24, Value.int v1na0_25, Value.int j6a0_26, Value.int j6a0_27, Value.int j6a0_28, a0g_29, a0g_30, a0g_31, Value.ref a0_32, Value.ref a0_33, a0g_34, a0g_35, a0g_36, a0g_37, a0g_38, a0g_39])), (a0_15, .inl (ka0_15, 156, .inl (fa0_15))), (a0_23, .inl (ka0_23, 3, .inl (v1nfa0_23))), (a0_24, .inl (ka0_24, 3, .inl (v1nfa0_24))), (a0_17, .inl (ka0_17, 23, .inl (fa0_17))), (a0_18, .inl (ka0_18, 23, .inl (j6a0_18_a))), (a0_32, .inl (ka0_32, 61, .inl (j6a0_32_a))), (a0_33, .inl (ka0_33, 620, .inl (fa0_33)))] → va_S A s.heap H locs → lv_has ls 4 [(0, .ref a0), (1, .int a1), (2, .int j6l2)] → K H locs (F0 m 6 ls []) := by
    intro n
    induction n with
    | zero =>
      intro j6l2 j6a0_26 j6a0_27 j6a0_28 j6a0_18_a j6a0_32_a H locs ls hm bj6l2_l bj6l2_u bj6a0_18_a hP hD hS hl
      have h8 := ai_min j6l2
      have h9 := ai_max j6l2
      exact absurd hm (by omega)
    | succ n ih6 =>
      intro j6l2 j6a0_26 j6a0_27 j6a0_28 j6a0_18_a j6a0_32_a H locs ls hm bj6l2_l bj6l2_u bj6a0_18_a hP hD hS hl
      refine (hK0 _ _ _).mpr ?_
      have hm6 := hm
      refine lv_iload_n hx hb dX8_layRoute_6 rfl (lv_at hl 2 rfl) ?_
      refine lv_iload_n hx hb dX8_layRoute_7 rfl (lv_at hl 1 rfl) ?_
      refine lv_icmp_gt (tgt := 35) hx hb dX8_layRoute_8 (by decide) (fun c8 => ?_) (fun c8 => ?_)
      · have gc8 := ai_lt c8
        have u8t_a1 : a1.toInt ≤ (60 : Int) := ba1_u
        have l8t_j6l2 : (2 : Int) ≤ j6l2.toInt := ai_ltlo gc8 ba1_l
        refine lv_iconst (v := 0) hx hb dX8_layRoute_35 zk_iconst_0 ?_
        refine lv_istore_n (lv' := [(2, .int 0), (0, .ref a0), (1, .int a1)]) hx hb dX8_layRoute_36 rfl hl (by decide) rfl (fun ls hl => ?_)
        have J37 : ∀ (n : Nat) (j37l2 : Int32) (j37a0_33_a : Nat → Int32) (H : Heap) (locs : List Loc) (ls : Array Slot), (10 : Int) - j37l2.toInt ≤ (n : Int) → (0 : Int) ≤ j37l2.toInt → j37l2.toInt ≤ (9 : Int) → va_P (dC, dI) vwCl [(a0, .inr (8, [a0g_0, a0g_1, a0g_2, a0g_3, a0g_4, a0g_5, a0g_6, a0g_7, a0g_8, a0g_9, a0g_10, a0g_11, a0g_12, a0g_13, a0g_14, Value.ref a0_15, a0g_16, Value.ref a0_17, Value.ref a0_18, a0g_19, a0g_20, a0g_21, a0g_22, Value.ref a0_23, Value.ref a0_24, Value.int v1na0_25, Value.int j6a0_26, Value.int j6a0_27, Value.int j6a0_28, a0g_29, a0g_30, a0g_31, Value.ref a0_32, Value.ref a0_33, a0g_34, a0g_35, a0g_36, a0g_37, a0g_38, a0g_39])), (a0_15, .inl (ka0_15, 156, .inl (fa0_15))), (a0_23, .inl (ka0_23, 3, .inl (v1nfa0_23))), (a0_24, .inl (ka0_24, 3, .inl (v1nfa0_24))), (a0_17, .inl (ka0_17, 23, .inl (fa0_17))), (a0_18, .inl (ka0_18, 23, .inl (j6a0_18_a))), (a0_32, .inl (ka0_32, 61, .inl (j6a0_32_a))), (a0_33, .inl (ka0_33, 620, .inl (j37a0_33_a)))] H → va_D A [(a0, .inr (8, [a0g_0, a0g_1, a0g_2, a0g_3, a0g_4, a0g_5, a0g_6, a0g_7, a0g_8, a0g_9, a0g_10, a0g_11, a0g_12, a0g_13, a0g_14, Value.ref a0_15, a0g_16, Value.ref a0_17, Value.ref a0_18, a0g_19, a0g_20, a0g_21, a0g_22, Value.ref a0_23, Value.ref a0_24, Value.int v1na0_25, Value.int j6a0_26, Value.int j6a0_27, Value.int j6a0_28, a0g_29, a0g_30, a0g_31, Value.ref a0_32, Value.ref a0_33, a0g_34, a0g_35, a0g_36, a0g_37, a0g_38, a0g_39])), (a0_15, .inl (ka0_15, 156, .inl (fa0_15))), (a0_23, .inl (ka0_23, 3, .inl (v1nfa0_23))), (a0_24, .inl (ka0_24, 3, .inl (v1nfa0_24))), (a0_17, .inl (ka0_17, 23, .inl (fa0_17))), (a0_18, .inl (ka0_18, 23, .inl (j6a0_18_a))), (a0_32, .inl (ka0_32, 61, .inl (j6a0_32_a))), (a0_33, .inl (ka0_33, 620, .inl (j37a0_33_a)))] → va_S A s.heap H locs → lv_has ls 4 [(0, .ref a0), (1, .int a1), (2, .int j37l2)] → K H locs (F0 m 37 ls []) := by
          intro n
          induction n with
          | zero =>
            intro j37l2 j37a0_33_a H locs ls hm bj37l2_l bj37l2_u hP hD hS hl
            have h8 := ai_min j37l2
            have h9 := ai_max j37l2
            exact absurd hm (by omega)
          | succ n ih37 =>
            intro j37l2 j37a0_33_a H locs ls hm bj37l2_l bj37l2_u hP hD hS hl
            refine (hK0 _ _ _).mpr ?_
            have hm37 := hm
            refine lv_iload_n hx hb dX8_layRoute_37 rfl (lv_at hl 2 rfl) ?_
            refine lv_bipush (v := 9) hx hb dX8_layRoute_38 zk_bipush_9 ?_
            refine lv_icmp_ge (tgt := 61) hx hb dX8_layRoute_40 (by decide) (fun c40 => ?_) (fun c40 => ?_)
            · have gc40 := ai_le c40
              have l40t_j37l2 : (9 : Int) ≤ j37l2.toInt := Int.le_trans zq2 gc40
              refine lv_iload_n hx hb dX8_layRoute_61 rfl (lv_at hl 1 rfl) ?_
              refine lv_iconst (v := 1) hx hb dX8_layRoute_62 zk_iconst_1 ?_
              refine lv_isub hx hb dX8_layRoute_63 ?_
              refine lv_topi (fun x63 ex63 => ?_)
              have qx63 : x63.toInt = a1.toInt - (1 : Int32).toInt := ai_sub ex63 ⟨ba1_l, u8t_a1⟩ ⟨zq1, zq0⟩ (by decide) (by decide)
              have bx63 : (0 : Int) ≤ x63.toInt ∧ x63.toInt ≤ 59 := ⟨by rw [qx63]; exact Int.sub_le_sub ba1_l zq0, by rw [qx63]; exact Int.sub_le_sub u8t_a1 zq1⟩
              have wx63 : x63.toInt = a1.toInt - 1 := qx63
              refine lv_istore_n (lv' := [(2, .int x63), (0, .ref a0), (1, .int a1)]) hx hb dX8_layRoute_64 rfl hl (by decide) rfl (fun ls hl => ?_)
              have J65 : ∀ (n : Nat) (j65l2 : Int32) (j65a0_33_a : Nat → Int32) (H : Heap) (locs : List Loc) (ls : Array Slot), j65l2.toInt - (-2 : Int) ≤ (n : Int) → (-1 : Int) ≤ j65l2.toInt → j65l2.toInt ≤ (59 : Int) → va_P (dC, dI) vwCl [(a0, .inr (8, [a0g_0, a0g_1, a0g_2, a0g_3, a0g_4, a0g_5, a0g_6, a0g_7, a0g_8, a0g_9, a0g_10, a0g_11, a0g_12, a0g_13, a0g_14, Value.ref a0_15, a0g_16, Value.ref a0_17, Value.ref a0_18, a0g_19, a0g_20, a0g_21, a0g_22, Value.ref a0_23, Value.ref a0_24, Value.int v1na0_25, Value.int j6a0_26, Value.int j6a0_27, Value.int j6a0_28, a0g_29, a0g_30, a0g_31, Value.ref a0_32, Value.ref a0_33, a0g_34, a0g_35, a0g_36, a0g_37, a0g_38, a0g_39])), (a0_15, .inl (ka0_15, 156, .inl (fa0_15))), (a0_23, .inl (ka0_23, 3, .inl (v1nfa0_23))), (a0_24, .inl (ka0_24, 3, .inl (v1nfa0_24))), (a0_17, .inl (ka0_17, 23, .inl (fa0_17))), (a0_18, .inl (ka0_18, 23, .inl (j6a0_18_a))), (a0_32, .inl (ka0_32, 61, .inl (j6a0_32_a))), (a0_33, .inl (ka0_33, 620, .inl (j65a0_33_a)))] H → va_D A [(a0, .inr (8, [a0g_0, a0g_1, a0g_2, a0g_3, a0g_4, a0g_5, a0g_6, a0g_7, a0g_8, a0g_9, a0g_10, a0g_11, a0g_12, a0g_13, a0g_14, Value.ref a0_15, a0g_16, Value.ref a0_17, Value.ref a0_18, a0g_19, a0g_20, a0g_21, a0g_22, Value.ref a0_23, Value.ref a0_24, Value.int v1na0_25, Value.int j6a0_26, Value.int j6a0_27, Value.int j6a0_28, a0g_29, a0g_30, a0g_31, Value.ref a0_32, Value.ref a0_33, a0g_34, a0g_35, a0g_36, a0g_37, a0g_38, a0g_39])), (a0_15, .inl (ka0_15, 156, .inl (fa0_15))), (a0_23, .inl (ka0_23, 3, .inl (v1nfa0_23))), (a0_24, .inl (ka0_24, 3, .inl (v1nfa0_24))), (a0_17, .inl (ka0_17, 23, .inl (fa0_17))), (a0_18, .inl (ka0_18, 23, .inl (j6a0_18_a))), (a0_32, .inl (ka0_32, 61, .inl (j6a0_32_a))), (a0_33, .inl (ka0_33, 620, .inl (j65a0_33_a)))] → va_S A s.heap H locs → lv_has ls 4 [(0, .ref a0), (2, .int j65l2)] → K H locs (F0 m 65 ls []) := by
                intro n
                induction n with
                | zero =>
                  intro j65l2 j65a0_33_a H locs ls hm bj65l2_l bj65l2_u hP hD hS hl
                  have h8 := ai_min j65l2
                  have h9 := ai_max j65l2
                  exact absurd hm (by omega)
                | succ n ih65 =>
                  intro j65l2 j65a0_33_a H locs ls hm bj65l2_l bj65l2_u hP hD hS hl
                  refine (hK0 _ _ _).mpr ?_
                  have hm65 := hm
                  refine lv_iload_n hx hb dX8_layRoute_65 rfl (lv_at hl 1 rfl) ?_
                  refine lv_if_lt (tgt := 111) hx hb dX8_layRoute_66 (by decide) (fun c66 => ?_) (fun c66 => ?_)
                  · have gc66 := ai_lt c66
                    have u66t_j65l2 : j65l2.toInt ≤ (-1 : Int) := ai_lthi gc66 zq6
                    exact W.vret hx hb hr (fun t ht hW => ⟨⟨(), rfl, trivial, v1na0_25, j6a0_26, j6a0_27, j6a0_28, v1nfa0_23, v1nfa0_24, j6a0_18_a, j6a0_32_a, j65a0_33_a, bv1nfa0_23, bv1nfa0_24, bj6a0_18_a, by rw [ht]; exact hP, va_K.moved hW.alike hK, hD⟩, hS.F ht⟩) hS.2.2 dX8_layRoute_111
                  · have gc66 := ai_nlt c66
                    have l66f_j65l2 : (0 : Int) ≤ j65l2.toInt := Int.le_trans zq5 gc66
                    refine lv_iconst (v := 0) hx hb dX8_layRoute_69 zk_iconst_0 ?_
                    refine lv_istore_n (lv' := [(3, .int 0), (0, .ref a0), (2, .int j65l2)]) hx hb dX8_layRoute_70 rfl hl (by decide) rfl (fun ls hl => ?_)
                    have J71 : ∀ (n : Nat) (j71l3 : Int32) (j71a0_33_a : Nat → Int32) (H : Heap) (locs : List Loc) (ls : Array Slot), (10 : Int) - j71l3.toInt ≤ (n : Int) → (0 : Int) ≤ j71l3.toInt → j71l3.toInt ≤ (9 : Int) → va_P (dC, dI) vwCl [(a0, .inr (8, [a0g_0, a0g_1, a0g_2, a0g_3, a0g_4, a0g_5, a0g_6, a0g_7, a0g_8, a0g_9, a0g_10, a0g_11, a0g_12, a0g_13, a0g_14, Value.ref a0_15, a0g_16, Value.ref a0_17, Value.ref a0_18, a0g_19, a0g_20, a0g_21, a0g_22, Value.ref a0_23, Value.ref a0_24, Value.int v1na0_25, Value.int j6a0_26, Value.int j6a0_27, Value.int j6a0_28, a0g_29, a0g_30, a0g_31, Value.ref a0_32, Value.ref a0_33, a0g_34, a0g_35, a0g_36, a0g_37, a0g_38, a0g_39])), (a0_15, .inl (ka0_15, 156, .inl (fa0_15))), (a0_23, .inl (ka0_23, 3, .inl (v1nfa0_23))), (a0_24, .inl (ka0_24, 3, .inl (v1nfa0_24))), (a0_17, .inl (ka0_17, 23, .inl (fa0_17))), (a0_18, .inl (ka0_18, 23, .inl (j6a0_18_a))), (a0_32, .inl (ka0_32, 61, .inl (j6a0_32_a))), (a0_33, .inl (ka0_33, 620, .inl (j71a0_33_a)))] H → va_D A [(a0, .inr (8, [a0g_0, a0g_1, a0g_2, a0g_3, a0g_4, a0g_5, a0g_6, a0g_7, a0g_8, a0g_9, a0g_10, a0g_11, a0g_12, a0g_13, a0g_14, Value.ref a0_15, a0g_16, Value.ref a0_17, Value.ref a0_18, a0g_19, a0g_20, a0g_21, a0g_22, Value.ref a0_23, Value.ref a0_24, Value.int v1na0_25, Value.int j6a0_26, Value.int j6a0_27, Value.int j6a0_28, a0g_29, a0g_30, a0g_31, Value.ref a0_32, Value.ref a0_33, a0g_34, a0g_35, a0g_36, a0g_37, a0g_38, a0g_39])), (a0_15, .inl (ka0_15, 156, .inl (fa0_15))), (a0_23, .inl (ka0_23, 3, .inl (v1nfa0_23))), (a0_24, .inl (ka0_24, 3, .inl (v1nfa0_24))), (a0_17, .inl (ka0_17, 23, .inl (fa0_17))), (a0_18, .inl (ka0_18, 23, .inl (j6a0_18_a))), (a0_32, .inl (ka0_32, 61, .inl (j6a0_32_a))), (a0_33, .inl (ka0_33, 620, .inl (j71a0_33_a)))] → va_S A s.heap H locs → lv_has ls 4 [(0, .ref a0), (2, .int j65l2), (3, .int j71l3)] → K H locs (F0 m 71 ls []) := by
                      intro n
                      induction n with
                      | zero =>
                        intro j71l3 j71a0_33_a H locs ls hm bj71l3_l bj71l3_u hP hD hS hl
                        have h8 := ai_min j71l3
                        have h9 := ai_max j71l3
                        exact absurd hm (by omega)
                      | succ n ih71 =>
                        intro j71l3 j71a0_33_a H locs ls hm bj71l3_l bj71l3_u hP hD hS hl
                        refine (hK0 _ _ _).mpr ?_
                        have hm71 := hm
                        refine lv_iload_n hx hb dX8_layRoute_71 rfl (lv_at hl 2 rfl) ?_
                        refine lv_aload_n hx hb dX8_layRoute_72 rfl (lv_at hl 0 rfl) ?_
                        refine va_get (D := (dC, dI)) (ci := 8) (v := .ref a0_15) (C := RX8) (T := TX8) (N := 40) hx hb hts zi_X8_layRoute_8 hown hK hP 0 rfl rfl 15 (by decide) (hts (.fieldLink RX8 20 "WaxTurnsModel" "\x72" "[I") (zm_X8_layRoute_r1 (List.mem_of_getElem? (i := 4) rfl))) (fun _ h9 => h9) rfl dX8_layRoute_73 ?_
                        refine lv_iconst (v := 0) hx hb dX8_layRoute_76 zk_iconst_0 ?_
                        refine va_iald hx hb hK hP 1 0 rfl rfl (by unfold vp_in; decide +kernel) dX8_layRoute_77 ?_
                        refine lv_topi (fun x77 ex77 => ?_)
                        have bx77 : (2 : Int) ≤ x77.toInt ∧ x77.toInt ≤ 9 := by rw [ex77]; exact ai_rd bfa0_15.1 zq5 zq6 (by decide) (by decide) (by decide)
                        refine lv_icmp_ge (tgt := 105) hx hb dX8_layRoute_78 (by decide) (fun c78 => ?_) (fun c78 => ?_)
                        · have gc78 := ai_le c78
                          have u78t_x77 : x77.toInt ≤ (9 : Int) := bx77.2
                          have l78t_j71l3 : (2 : Int) ≤ j71l3.toInt := Int.le_trans bx77.1 gc78
                          obtain ⟨x105, ex105⟩ : ∃ y : Int32, y = j65l2 + Int32.ofInt (-1) := ⟨_, rfl⟩
                          have qx105 : x105.toInt = j65l2.toInt + -1 := ai_dec ex105 (by decide) (by decide) l66f_j65l2 (by decide)
                          have bx105 : (-1 : Int) ≤ x105.toInt ∧ x105.toInt ≤ 58 := ⟨by rw [qx105]; exact Int.add_le_add l66f_j65l2 (Int.le_refl _), by rw [qx105]; exact Int.add_le_add bj65l2_u (Int.le_refl _)⟩
                          refine lv_iinc (v := x105) (lv' := [(2, .int x105), (0, .ref a0), (3, .int j71l3)]) hx hb dX8_layRoute_105 hl (k := 1) rfl ex105.symm (by decide) rfl (fun ls hl => ?_)
                          refine lv_goto (tgt := 65) hx hb dX8_layRoute_108 (by decide) ?_
                          exact (hK0 _ _ _).mp (ih65 x105 j71a0_33_a _ _ _ (by have h0 := qx105; omega) bx105.1 (Int.le_trans bx105.2 zq197) hP hD hS (lv_sub hl [1, 0] rfl))
                        · have gc78 := ai_nle c78
                          have u78f_j71l3 : j71l3.toInt ≤ (8 : Int) := ai_lthi gc78 bx77.2
                          have l78f_x77 : (2 : Int) ≤ x77.toInt := bx77.1
                          refine lv_aload_n hx hb dX8_layRoute_81 rfl (lv_at hl 0 rfl) ?_
                          refine va_get (D := (dC, dI)) (ci := 8) (v := .ref a0_33) (C := RX8) (T := TX8) (N := 40) hx hb hts zi_X8_layRoute_8 hown hK hP 0 rfl rfl 33 (by decide) (hts (.fieldLink RX8 50 "WaxTurnsModel" "with" "[I") (zm_X8_layRoute_r1 (List.mem_of_getElem? (i := 3) rfl))) (fun _ h9 => h9) rfl dX8_layRoute_82 ?_
                          refine lv_bipush (v := 10) hx hb dX8_layRoute_85 zk_bipush_10 ?_
                          refine lv_iload_n hx hb dX8_layRoute_87 rfl (lv_at hl 1 rfl) ?_
                          refine lv_imul hx hb dX8_layRoute_88 ?_
                          refine lv_topi (fun x88 ex88 => ?_)
                          have qx88 : x88.toInt = (10 : Int32).toInt * j65l2.toInt ∧ (0 : Int) ≤ x88.toInt ∧ x88.toInt ≤ 590 := ai_mul ex88 ⟨zq26, zq27⟩ ⟨l66f_j65l2, bj65l2_u⟩ (by decide) (by decide) zq198
                          have wx88 : x88.toInt = 10 * j65l2.toInt := qx88.1
                          refine lv_iload_n hx hb dX8_layRoute_89 rfl (lv_at hl 2 rfl) ?_
                          refine lv_iadd hx hb dX8_layRoute_90 ?_
                          refine lv_topi (fun x90 ex90 => ?_)
                          have qx90 : x90.toInt = x88.toInt + j71l3.toInt := ai_add ex90 ⟨qx88.2.1, qx88.2.2⟩ ⟨bj71l3_l, u78f_j71l3⟩ (by decide) (by decide)
                          have bx90 : (0 : Int) ≤ x90.toInt ∧ x90.toInt ≤ 598 := ⟨by rw [qx90]; exact Int.add_le_add qx88.2.1 bj71l3_l, by rw [qx90]; exact Int.add_le_add qx88.2.2 u78f_j71l3⟩
                          refine lv_aload_n hx hb dX8_layRoute_91 rfl (lv_at hl 0 rfl) ?_
                          refine lv_iload_n hx hb dX8_layRoute_92 rfl (lv_at hl 1 rfl) ?_
                          refine lv_iload_n hx hb dX8_layRoute_93 rfl (lv_at hl 2 rfl) ?_
                          refine lv_iconst (v := 0) hx hb dX8_layRoute_94 zk_iconst_0 ?_
                          obtain ⟨hPc, hDc, hFc, hCc⟩ := zc_cut (wc := [(a0, .inr (8, [a0g_0, a0g_1, a0g_2, a0g_3, a0g_4, a0g_5, a0g_6, a0g_7, a0g_8, a0g_9, a0g_10, a0g_11, a0g_12, a0g_13, a0g_14, Value.ref a0_15, a0g_16, Value.ref a0_17, Value.ref a0_18, a0g_19, a0g_20, a0g_21, a0g_22, Value.ref a0_23, Value.ref a0_24, Value.int v1na0_25, Value.int j6a0_26, Value.int j6a0_27, Value.int j6a0_28, a0g_29, a0g_30, a0g_31, Value.ref a0_32, Value.ref a0_33, a0g_34, a0g_35, a0g_36, a0g_37, a0g_38, a0g_39])), (a0_15, .inl (ka0_15, 156, .inl (fa0_15))), (a0_33, .inl (ka0_33, 620, .inl (j71a0_33_a))), (a0_32, .inl (ka0_32, 61, .inl (j6a0_32_a)))]) hP hD hS hA [0, 1, 7, 6] (by decide +kernel) rfl
                          have hKc := hK.sub (tys' := [(ka0_15, .int), (ka0_33, .int), (ka0_32, .int)]) [0, 6, 5] rfl
                          refine va_calli (va_runV (As := [.int j65l2, .int j71l3, .int 0]) (rest := [.int x90, .ref a0_33]) ⟨hx, hb, hml, hown, hts⟩ (c_X8_bestFromN l dC dI H.size a0 j65l2 j71l3 0 a0g_0 a0g_1 a0g_2 a0g_3 a0g_4 a0g_5 a0g_6 a0g_7 a0g_8 a0g_9 a0g_10 a0g_11 a0g_12 a0g_13 a0g_14 a0g_16 (Value.ref a0_17) (Value.ref a0_18) a0g_19 a0g_20 a0g_21 a0g_22 (Value.ref a0_23) (Value.ref a0_24) (Value.int v1na0_25) (Value.int j6a0_26) (Value.int j6a0_27) (Value.int j6a0_28) a0g_29 a0g_30 a0g_31 a0g_34 a0g_35 a0g_36 a0g_37 a0g_38 a0g_39 a0_15 a0_32 a0_33 ka0_15 fa0_15 ka0_33 j71a0_33_a ka0_32 j6a0_32_a l66f_j65l2 bj65l2_u bj71l3_l u78f_j71l3 zq5 zq6 bfa0_15) (cwV 3 hts gX8_layRoute_X8_bestFrom rfl rfl rfl zd_X8_bestFrom ⟨Nat.le_of_ble_eq_true rfl, Nat.le_of_ble_eq_true rfl⟩) ⟨ax_blind (fun _ _ _ _ _ => trivial), zr_8 hKc hPc (q0 := 0) rfl, ax_pre hPc hKc hDc (fun _ _ => trivial)⟩ rfl rfl hl.1 rfl (lv_room (Nat.le_of_ble_eq_true rfl)) dX8_layRoute_95 ⟨Nat.le_of_ble_eq_true rfl, Nat.le_of_ble_eq_true rfl⟩) hS (fun q _ h => hFc q h) hFc (fun r95 u t H locs ht hvm hw hB hz1 hk1 hS => ?_)
                          obtain ⟨hP1, hK1, hD1⟩ := hB
                          rw [ht] at hP1
                          obtain ⟨hP, hD⟩ := zc_back (w := [(a0, .inr (8, [a0g_0, a0g_1, a0g_2, a0g_3, a0g_4, a0g_5, a0g_6, a0g_7, a0g_8, a0g_9, a0g_10, a0g_11, a0g_12, a0g_13, a0g_14, Value.ref a0_15, a0g_16, Value.ref a0_17, Value.ref a0_18, a0g_19, a0g_20, a0g_21, a0g_22, Value.ref a0_23, Value.ref a0_24, Value.int v1na0_25, Value.int j6a0_26, Value.int j6a0_27, Value.int j6a0_28, a0g_29, a0g_30, a0g_31, Value.ref a0_32, Value.ref a0_33, a0g_34, a0g_35, a0g_36, a0g_37, a0g_38, a0g_39])), (a0_15, .inl (ka0_15, 156, .inl (fa0_15))), (a0_23, .inl (ka0_23, 3, .inl (v1nfa0_23))), (a0_24, .inl (ka0_24, 3, .inl (v1nfa0_24))), (a0_17, .inl (ka0_17, 23, .inl (fa0_17))), (a0_18, .inl (ka0_18, 23, .inl (j6a0_18_a))), (a0_32, .inl (ka0_32, 61, .inl (j6a0_32_a))), (a0_33, .inl (ka0_33, 620, .inl (j71a0_33_a)))]) hP hD hCc hk1 hFc hP1 hD1 [.inr 0, .inr 1, .inl 2, .inl 3, .inl 4, .inl 5, .inr 3, .inr 2] (by decide +kernel) rfl
                          have hw : (-1 : Int) ≤ r95.toInt := hw
                          obtain h95_0 := hw
                          refine va_iast hx hb hK hP hD hS 7 6 rfl rfl (ai_in bx90.1 bx90.2 (by decide) (by decide)) dX8_layRoute_98 (fun H locs hP hD hS => ?_)
                          obtain ⟨f98, ef98⟩ : ∃ g9 : Nat → Int32, g9 = upd j71a0_33_a (x90 : Int32).toNatClampNeg r95 := ⟨_, rfl⟩
                          rw [← ef98] at hP hD
                          obtain ⟨hP, hD⟩ := zc_re (w := [(a0, .inr (8, [a0g_0, a0g_1, a0g_2, a0g_3, a0g_4, a0g_5, a0g_6, a0g_7, a0g_8, a0g_9, a0g_10, a0g_11, a0g_12, a0g_13, a0g_14, Value.ref a0_15, a0g_16, Value.ref a0_17, Value.ref a0_18, a0g_19, a0g_20, a0g_21, a0g_22, Value.ref a0_23, Value.ref a0_24, Value.int v1na0_25, Value.int j6a0_26, Value.int j6a0_27, Value.int j6a0_28, a0g_29, a0g_30, a0g_31, Value.ref a0_32, Value.ref a0_33, a0g_34, a0g_35, a0g_36, a0g_37, a0g_38, a0g_39])), (a0_15, .inl (ka0_15, 156, .inl (fa0_15))), (a0_23, .inl (ka0_23, 3, .inl (v1nfa0_23))), (a0_24, .inl (ka0_24, 3, .inl (v1nfa0_24))), (a0_17, .inl (ka0_17, 23, .inl (fa0_17))), (a0_18, .inl (ka0_18, 23, .inl (j6a0_18_a))), (a0_32, .inl (ka0_32, 61, .inl (j6a0_32_a))), (a0_33, .inl (ka0_33, 620, .inl (f98)))]) hP hD rfl
                          obtain ⟨x99, ex99⟩ : ∃ y : Int32, y = j71l3 + Int32.ofInt 1 := ⟨_, rfl⟩
                          have qx99 : x99.toInt = j71l3.toInt + 1 := ai_inc ex99 (by decide) (by decide) u78f_j71l3 (by decide)
                          have bx99 : (1 : Int) ≤ x99.toInt ∧ x99.toInt ≤ 9 := ⟨by rw [qx99]; exact Int.add_le_add bj71l3_l (Int.le_refl _), by rw [qx99]; exact Int.add_le_add u78f_j71l3 (Int.le_refl _)⟩
                          refine lv_iinc (v := x99) (lv' := [(3, .int x99), (0, .ref a0), (2, .int j65l2)]) hx hb dX8_layRoute_99 hl (k := 2) rfl ex99.symm (by decide) rfl (fun ls hl => ?_)
                          refine lv_goto (tgt := 71) hx hb dX8_layRoute_102 (by decide) ?_
                          exact (hK0 _ _ _).mp (ih71 x99 f98 _ _ _ (by have h0 := qx99; omega) (Int.le_trans zq4 bx99.1) bx99.2 hP hD hS (lv_sub hl [1, 2, 0] rfl))
                    exact (hK0 _ _ _).mp (J71 10 0 j65a0_33_a _ _ _ (by have h1 : (0 : Int) ≤ (0 : Int32).toInt := zq5; have h2 : (0 : Int32).toInt ≤ (0 : Int) := zq6; omega) zq5 (Int.le_trans zq6 zq7) hP hD hS (lv_sub hl [1, 2, 0] rfl))
              exact (hK0 _ _ _).mp (J65 61 x63 j37a0_33_a _ _ _ (by have h1 : (0 : Int) ≤ x63.toInt := bx63.1; have h2 : x63.toInt ≤ (59 : Int) := bx63.2; omega) (Int.le_trans zq69 bx63.1) bx63.2 hP hD hS (lv_sub hl [1, 0] rfl))
            · have gc40 := ai_nle c40
              have u40f_j37l2 : j37l2.toInt ≤ (8 : Int) := ai_lthi gc40 zq3
              refine lv_aload_n hx hb dX8_layRoute_43 rfl (lv_at hl 0 rfl) ?_
              refine va_get (D := (dC, dI)) (ci := 8) (v := .ref a0_33) (C := RX8) (T := TX8) (N := 40) hx hb hts zi_X8_layRoute_8 hown hK hP 0 rfl rfl 33 (by decide) (hts (.fieldLink RX8 50 "WaxTurnsModel" "with" "[I") (zm_X8_layRoute_r1 (List.mem_of_getElem? (i := 3) rfl))) (fun _ h9 => h9) rfl dX8_layRoute_44 ?_
              refine lv_bipush (v := 10) hx hb dX8_layRoute_47 zk_bipush_10 ?_
              refine lv_iload_n hx hb dX8_layRoute_49 rfl (lv_at hl 1 rfl) ?_
              refine lv_imul hx hb dX8_layRoute_50 ?_
              refine lv_topi (fun x50 ex50 => ?_)
              have qx50 : x50.toInt = (10 : Int32).toInt * a1.toInt ∧ (10 : Int) ≤ x50.toInt ∧ x50.toInt ≤ 600 := ai_mul ex50 ⟨zq26, zq27⟩ ⟨ba1_l, u8t_a1⟩ (by decide) (by decide) zq195
              have wx50 : x50.toInt = 10 * a1.toInt := qx50.1
              refine lv_iload_n hx hb dX8_layRoute_51 rfl (lv_at hl 2 rfl) ?_
              refine lv_iadd hx hb dX8_layRoute_52 ?_
              refine lv_topi (fun x52 ex52 => ?_)
              have qx52 : x52.toInt = x50.toInt + j37l2.toInt := ai_add ex52 ⟨qx50.2.1, qx50.2.2⟩ ⟨bj37l2_l, u40f_j37l2⟩ (by decide) (by decide)
              have bx52 : (10 : Int) ≤ x52.toInt ∧ x52.toInt ≤ 608 := ⟨by rw [qx52]; exact Int.add_le_add qx50.2.1 bj37l2_l, by rw [qx52]; exact Int.add_le_add qx50.2.2 u40f_j37l2⟩
              refine lv_iconst (v := 0) hx hb dX8_layRoute_53 zk_iconst_0 ?_
              refine va_iast hx hb hK hP hD hS 7 6 rfl rfl (ai_in bx52.1 bx52.2 (by decide) (by decide)) dX8_layRoute_54 (fun H locs hP hD hS => ?_)
              obtain ⟨f54, ef54⟩ : ∃ g9 : Nat → Int32, g9 = upd j37a0_33_a (x52 : Int32).toNatClampNeg (0 : Int32) := ⟨_, rfl⟩
              rw [← ef54] at hP hD
              obtain ⟨hP, hD⟩ := zc_re (w := [(a0, .inr (8, [a0g_0, a0g_1, a0g_2, a0g_3, a0g_4, a0g_5, a0g_6, a0g_7, a0g_8, a0g_9, a0g_10, a0g_11, a0g_12, a0g_13, a0g_14, Value.ref a0_15, a0g_16, Value.ref a0_17, Value.ref a0_18, a0g_19, a0g_20, a0g_21, a0g_22, Value.ref a0_23, Value.ref a0_24, Value.int v1na0_25, Value.int j6a0_26, Value.int j6a0_27, Value.int j6a0_28, a0g_29, a0g_30, a0g_31, Value.ref a0_32, Value.ref a0_33, a0g_34, a0g_35, a0g_36, a0g_37, a0g_38, a0g_39])), (a0_15, .inl (ka0_15, 156, .inl (fa0_15))), (a0_23, .inl (ka0_23, 3, .inl (v1nfa0_23))), (a0_24, .inl (ka0_24, 3, .inl (v1nfa0_24))), (a0_17, .inl (ka0_17, 23, .inl (fa0_17))), (a0_18, .inl (ka0_18, 23, .inl (j6a0_18_a))), (a0_32, .inl (ka0_32, 61, .inl (j6a0_32_a))), (a0_33, .inl (ka0_33, 620, .inl (f54)))]) hP hD rfl
              obtain ⟨x55, ex55⟩ : ∃ y : Int32, y = j37l2 + Int32.ofInt 1 := ⟨_, rfl⟩
              have qx55 : x55.toInt = j37l2.toInt + 1 := ai_inc ex55 (by decide) (by decide) u40f_j37l2 (by decide)
              have bx55 : (1 : Int) ≤ x55.toInt ∧ x55.toInt ≤ 9 := ⟨by rw [qx55]; exact Int.add_le_add bj37l2_l (Int.le_refl _), by rw [qx55]; exact Int.add_le_add u40f_j37l2 (Int.le_refl _)⟩
              refine lv_iinc (v := x55) (lv' := [(2, .int x55), (0, .ref a0), (1, .int a1)]) hx hb dX8_layRoute_55 hl (k := 2) rfl ex55.symm (by decide) rfl (fun ls hl => ?_)
              refine lv_goto (tgt := 37) hx hb dX8_layRoute_58 (by decide) ?_
              exact (hK0 _ _ _).mp (ih37 x55 f54 _ _ _ (by have h0 := qx55; omega) (Int.le_trans zq4 bx55.1) bx55.2 hP hD hS (lv_sub hl [1, 2, 0] rfl))
        exact (hK0 _ _ _).mp (J37 10 0 fa0_33 _ _ _ (by have h1 : (0 : Int) ≤ (0 : Int32).toInt := zq5; have h2 : (0 : Int32).toInt ≤ (0 : Int) := zq6; omega) zq5 (Int.le_trans zq6 zq7) hP hD hS (lv_sub hl [1, 2, 0] rfl))
      · have gc8 := ai_nlt c8
        have u8f_j6l2 : j6l2.toInt ≤ (60 : Int) := Int.le_trans gc8 ba1_u
        have l8f_a1 : (1 : Int) ≤ a1.toInt := ba1_l
        refine lv_aload_n hx hb dX8_layRoute_11 rfl (lv_at hl 0 rfl) ?_
        refine lv_aload_n hx hb dX8_layRoute_12 rfl (lv_at hl 0 rfl) ?_
        refine va_get (D := (dC, dI)) (ci := 8) (v := .ref a0_18) (C := RX8) (T := TX8) (N := 40) hx hb hts zi_X8_layRoute_8 hown hK hP 0 rfl rfl 18 (by decide) (hts (.fieldLink RX8 29 "WaxTurnsModel" "trial" "[I") (zm_X8_layRoute_r1 (List.mem_of_getElem? (i := 0) rfl))) (fun _ h9 => h9) rfl dX8_layRoute_13 ?_
        obtain ⟨hPc, hDc, hFc, hCc⟩ := zc_cut (wc := [(a0, .inr (8, [a0g_0, a0g_1, a0g_2, a0g_3, a0g_4, a0g_5, a0g_6, a0g_7, a0g_8, a0g_9, a0g_10, a0g_11, a0g_12, a0g_13, a0g_14, Value.ref a0_15, a0g_16, Value.ref a0_17, Value.ref a0_18, a0g_19, a0g_20, a0g_21, a0g_22, Value.ref a0_23, Value.ref a0_24, Value.int v1na0_25, Value.int j6a0_26, Value.int j6a0_27, Value.int j6a0_28, a0g_29, a0g_30, a0g_31, Value.ref a0_32, Value.ref a0_33, a0g_34, a0g_35, a0g_36, a0g_37, a0g_38, a0g_39])), (a0_18, .inl (ka0_18, 23, .inl (j6a0_18_a))), (a0_15, .inl (ka0_15, 156, .inl (fa0_15))), (a0_24, .inl (ka0_24, 3, .inl (v1nfa0_24))), (a0_23, .inl (ka0_23, 3, .inl (v1nfa0_23)))]) hP hD hS hA [0, 5, 1, 3, 2] (by decide +kernel) rfl
        have hKc := hK.sub (tys' := [(ka0_18, .int), (ka0_15, .int), (ka0_24, .int), (ka0_23, .int)]) [4, 0, 2, 1] rfl
        refine va_callv (va_runV (As := [.ref a0_18]) (rest := []) ⟨hx, hb, hml, hown, hts⟩ (c_X8_minuteOn l dC dI H.size a0 a0_18 a0g_0 a0g_1 a0g_2 a0g_3 a0g_4 a0g_5 a0g_6 a0g_7 a0g_8 a0g_9 a0g_10 a0g_11 a0g_12 a0g_13 a0g_14 a0g_16 (Value.ref a0_17) (Value.ref a0_18) a0g_19 a0g_20 a0g_21 a0g_22 a0g_29 a0g_30 a0g_31 (Value.ref a0_32) (Value.ref a0_33) a0g_34 a0g_35 a0g_36 a0g_37 a0g_38 a0g_39 a0_15 a0_23 a0_24 v1na0_25 j6a0_26 j6a0_27 j6a0_28 ka0_18 j6a0_18_a ka0_15 fa0_15 ka0_24 v1nfa0_24 ka0_23 v1nfa0_23 bj6a0_18_a bfa0_15 bv1nfa0_24 bv1nfa0_23 hkm) (cwV 1 hts gX8_layRoute_X8_minuteOn rfl rfl rfl zd_X8_minuteOn ⟨Nat.le_of_ble_eq_true rfl, Nat.le_of_ble_eq_true rfl⟩) ⟨ax_blind (fun _ _ _ _ _ => trivial), zr_8 hKc hPc (q0 := 0) rfl, ax_pre hPc hKc hDc (fun _ _ => trivial)⟩ rfl rfl hl.1 rfl (lv_room (Nat.le_of_ble_eq_true rfl)) dX8_layRoute_16 ⟨Nat.le_of_ble_eq_true rfl, Nat.le_of_ble_eq_true rfl⟩) hS (fun q _ h => hFc q h) hFc (fun u t H locs ht hvm hw hB hz1 hk1 hS => ?_)
        obtain ⟨v16na0_26, v16na0_27, v16na0_28, v16nfa1, bv16nfa1, hP1, hK1, hD1⟩ := hB
        rw [ht] at hP1
        obtain ⟨hP, hD⟩ := zc_back (w := [(a0, .inr (8, [a0g_0, a0g_1, a0g_2, a0g_3, a0g_4, a0g_5, a0g_6, a0g_7, a0g_8, a0g_9, a0g_10, a0g_11, a0g_12, a0g_13, a0g_14, Value.ref a0_15, a0g_16, Value.ref a0_17, Value.ref a0_18, a0g_19, a0g_20, a0g_21, a0g_22, Value.ref a0_23, Value.ref a0_24, Value.int v1na0_25, Value.int v16na0_26, Value.int v16na0_27, Value.int v16na0_28, a0g_29, a0g_30, a0g_31, Value.ref a0_32, Value.ref a0_33, a0g_34, a0g_35, a0g_36, a0g_37, a0g_38, a0g_39])), (a0_15, .inl (ka0_15, 156, .inl (fa0_15))), (a0_23, .inl (ka0_23, 3, .inl (v1nfa0_23))), (a0_24, .inl (ka0_24, 3, .inl (v1nfa0_24))), (a0_17, .inl (ka0_17, 23, .inl (fa0_17))), (a0_18, .inl (ka0_18, 23, .inl (v16nfa1))), (a0_32, .inl (ka0_32, 61, .inl (j6a0_32_a))), (a0_33, .inl (ka0_33, 620, .inl (fa0_33)))]) hP hD hCc hk1 hFc hP1 hD1 [.inr 0, .inr 2, .inr 4, .inr 3, .inl 4, .inr 1, .inl 6, .inl 7] (by decide +kernel) rfl
        refine lv_aload_n hx hb dX8_layRoute_19 rfl (lv_at hl 0 rfl) ?_
        refine va_get (D := (dC, dI)) (ci := 8) (v := .ref a0_32) (C := RX8) (T := TX8) (N := 40) hx hb hts zi_X8_layRoute_8 hown hK hP 0 rfl rfl 32 (by decide) (hts (.fieldLink RX8 47 "WaxTurnsModel" "liveAt" "[I") (zm_X8_layRoute_r1 (List.mem_of_getElem? (i := 1) rfl))) (fun _ h9 => h9) rfl dX8_layRoute_20 ?_
        refine lv_iload_n hx hb dX8_layRoute_23 rfl (lv_at hl 2 rfl) ?_
        refine lv_aload_n hx hb dX8_layRoute_24 rfl (lv_at hl 0 rfl) ?_
        refine va_get (D := (dC, dI)) (ci := 8) (v := .int v16na0_27) (C := RX8) (T := TX8) (N := 40) hx hb hts zi_X8_layRoute_8 hown hK hP 0 rfl rfl 27 (by decide) (hts (.fieldLink RX8 261 "WaxTurnsModel" "livedAt" "I") (zm_X8_layRoute_r1 (List.mem_of_getElem? (i := 2) rfl))) (fun _ h9 => h9) rfl dX8_layRoute_25 ?_
        refine va_iast hx hb hK hP hD hS 6 5 rfl rfl (ai_in bj6l2_l u8f_j6l2 (by decide) (by decide)) dX8_layRoute_28 (fun H locs hP hD hS => ?_)
        obtain ⟨f28, ef28⟩ : ∃ g9 : Nat → Int32, g9 = upd j6a0_32_a (j6l2 : Int32).toNatClampNeg v16na0_27 := ⟨_, rfl⟩
        rw [← ef28] at hP hD
        obtain ⟨hP, hD⟩ := zc_re (w := [(a0, .inr (8, [a0g_0, a0g_1, a0g_2, a0g_3, a0g_4, a0g_5, a0g_6, a0g_7, a0g_8, a0g_9, a0g_10, a0g_11, a0g_12, a0g_13, a0g_14, Value.ref a0_15, a0g_16, Value.ref a0_17, Value.ref a0_18, a0g_19, a0g_20, a0g_21, a0g_22, Value.ref a0_23, Value.ref a0_24, Value.int v1na0_25, Value.int v16na0_26, Value.int v16na0_27, Value.int v16na0_28, a0g_29, a0g_30, a0g_31, Value.ref a0_32, Value.ref a0_33, a0g_34, a0g_35, a0g_36, a0g_37, a0g_38, a0g_39])), (a0_15, .inl (ka0_15, 156, .inl (fa0_15))), (a0_23, .inl (ka0_23, 3, .inl (v1nfa0_23))), (a0_24, .inl (ka0_24, 3, .inl (v1nfa0_24))), (a0_17, .inl (ka0_17, 23, .inl (fa0_17))), (a0_18, .inl (ka0_18, 23, .inl (v16nfa1))), (a0_32, .inl (ka0_32, 61, .inl (f28))), (a0_33, .inl (ka0_33, 620, .inl (fa0_33)))]) hP hD rfl
        obtain ⟨x29, ex29⟩ : ∃ y : Int32, y = j6l2 + Int32.ofInt 1 := ⟨_, rfl⟩
        have qx29 : x29.toInt = j6l2.toInt + 1 := ai_inc ex29 (by decide) (by decide) u8f_j6l2 (by decide)
        have bx29 : (2 : Int) ≤ x29.toInt ∧ x29.toInt ≤ 61 := ⟨by rw [qx29]; exact Int.add_le_add bj6l2_l (Int.le_refl _), by rw [qx29]; exact Int.add_le_add u8f_j6l2 (Int.le_refl _)⟩
        refine lv_iinc (v := x29) (lv' := [(2, .int x29), (0, .ref a0), (1, .int a1)]) hx hb dX8_layRoute_29 hl (k := 2) rfl ex29.symm (by decide) rfl (fun ls hl => ?_)
        refine lv_goto (tgt := 6) hx hb dX8_layRoute_32 (by decide) ?_
        exact (hK0 _ _ _).mp (ih6 x29 v16na0_26 v16na0_27 v16na0_28 v16nfa1 f28 _ _ _ (by have h0 := qx29; omega) (Int.le_trans zq54 bx29.1) (Int.le_trans bx29.2 zq61) bv16nfa1 hP hD hS (lv_sub hl [1, 2, 0] rfl))
  exact (hK0 _ _ _).mp (J6 80 1 a0_26 a0_27 a0_28 v1nfa0_18 fa0_32 _ _ _ (by have h1 : (1 : Int) ≤ (1 : Int32).toInt := zq1; have h2 : (1 : Int32).toInt ≤ (1 : Int) := zq0; omega) zq1 (Int.le_trans zq0 zq62) bv1nfa0_18 hP hD hS (lv_sub hl [1, 2, 0] rfl))
