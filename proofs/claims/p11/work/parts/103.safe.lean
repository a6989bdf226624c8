set_option maxHeartbeats 4000000 in
set_option maxRecDepth 100000 in
theorem c_X2_forget (l : Launch) (dC : Nat → ClassId) (dI : Nat → Nat → Nat) (sz : Nat) (a0 : Nat) (a0g_0 a0g_1 a0g_2 a0g_3 a0g_4 : Value) (a0_5 : Int32) (a0_6 : Int32) (ba0_5_l : (0 : Int) ≤ a0_5.toInt) (ba0_5_u : a0_5.toInt ≤ (1 : Int)) (ba0_6_l : (0 : Int) ≤ a0_6.toInt) (ba0_6_u : a0_6.toInt ≤ (1 : Int)) : Met l yX2_forget wsX2_forget ({ frames := 0, cells := 0, slots := 0, locals := 0 }) (va_Pc [.ref a0] (ax_C dC dI sz [(a0, .inr (2, [a0g_0, a0g_1, a0g_2, a0g_3, a0g_4, .int a0_5, .int a0_6]))] [] (fun _ => True))) (va_Qv (fun (_ : Unit) => True) (fun (_ : Unit) (t : State) => ∃ na0_5 : Int32, ∃ na0_6 : Int32, ((0 : Int) ≤ na0_5.toInt ∧ na0_5.toInt ≤ 1) ∧ ((0 : Int) ≤ na0_6.toInt ∧ na0_6.toInt ≤ 1) ∧ ax_B dC dI (va_A [(a0, .inr (2, [a0g_0, a0g_1, a0g_2, a0g_3, a0g_4, .int a0_5, .int a0_6]))] sz) [(a0, .inr (2, [a0g_0, a0g_1, a0g_2, a0g_3, a0g_4, .int na0_5, .int na0_6]))] [] t) (va_A [(a0, .inr (2, [a0g_0, a0g_1, a0g_2, a0g_3, a0g_4, .int a0_5, .int a0_6]))] sz)) 0 0 (va_A [(a0, .inr (2, [a0g_0, a0g_1, a0g_2, a0g_3, a0g_4, .int a0_5, .int a0_6]))] sz) := by
  refine Met.ofW (cc := cX2_forget) (maxL := 1) (ret := none) (by decide) rfl ?_
  intro p e s m args below meth c s₁ B hml hv
  obtain ⟨rfl, hsz, hP, hK, hD0, hE⟩ := hv
  have hx := B.exec
  have hb := B.bytes
  have hr := B.returns
  have hts := atoms_spec (ws := wsX2_forget) B.pre
  have hown : s.vm.findClass RX2 = some m.cls := findClass_of_methodNamed B.named
  have hlocks := B.notSynchronized
  subst hsz
  have hD := hD0.self (sz := s.heap.size)
  generalize hAe : va_A [(a0, .inr (2, [a0g_0, a0g_1, a0g_2, a0g_3, a0g_4, .int a0_5, .int a0_6]))] s.heap.size = A at hD ⊢
  have hA : ∀ q : Nat, s.heap.size ≤ q → A q := fun q h => by rw [← hAe]; exact Or.inr h
  have hS : va_S A s.heap s.heap [] := va_S.rf
  have hP : va_P (dC, dI) vwCl [(a0, .inr (2, [a0g_0, a0g_1, a0g_2, a0g_3, a0g_4, .int a0_5, .int a0_6]))] s.heap := hP
  have hl := lv_entry ([.ref a0]) (n := 1) (Nat.le_of_ble_eq_true rfl)
  rw [lg_entry_eq]
  generalize (lg_sl ([.ref a0]) ++ List.replicate (1 - (lg_sl ([.ref a0])).length) Slot.unset).toArray = ls at hl ⊢
  have hl : lv_has ls 1 [(0, .ref a0)] := hl
  refine lv_aload_n hx hb dX2_forget_0 rfl (lv_at hl 0 rfl) ?_
  refine lv_iconst (v := 0) hx hb dX2_forget_1 zk_iconst_0 ?_
  refine va_put (D := (dC, dI)) (ci := 2) (v := .int 0) (ty := .boolean) (C := RX2) (T := TX2) (N := 7) hx hb hts zi_X2_forget_2 tyX2 tyX2_ok nmX2 hown hK hP hD hS 0 rfl rfl 5 (by decide) (hts (.fieldLink RX2 18 "WaxTurns$Laws" "listed" "Z") (List.mem_cons_of_mem _ (List.mem_append_left _ (List.mem_of_getElem? (i := 0) rfl)))) (fun _ h9 => h9) rfl (tyX2_ok 5 (by decide)) rfl rfl (Nat.le_of_ble_eq_true rfl) dX2_forget_2 (fun H locs hP hD hS => ?_)
  obtain ⟨hP, hD⟩ := zc_re (w := [(a0, .inr (2, [a0g_0, a0g_1, a0g_2, a0g_3, a0g_4, .int 0, .int a0_6]))]) hP hD rfl
  refine lv_aload_n hx hb dX2_forget_5 rfl (lv_at hl 0 rfl) ?_
  refine lv_iconst (v := 0) hx hb dX2_forget_6 zk_iconst_0 ?_
  refine va_put (D := (dC, dI)) (ci := 2) (v := .int 0) (ty := .boolean) (C := RX2) (T := TX2) (N := 7) hx hb hts zi_X2_forget_2 tyX2 tyX2_ok nmX2 hown hK hP hD hS 0 rfl rfl 6 (by decide) (hts (.fieldLink RX2 22 "WaxTurns$Laws" "looked" "Z") (List.mem_cons_of_mem _ (List.mem_append_left _ (List.mem_of_getElem? (i := 1) rfl)))) (fun _ h9 => h9) rfl (tyX2_ok 6 (by decide)) rfl rfl (Nat.le_of_ble_eq_true rfl) dX2_forget_7 (fun H locs hP hD hS => ?_)
  obtain ⟨hP, hD⟩ := zc_re (w := [(a0, .inr (2, [a0g_0, a0g_1, a0g_2, a0g_3, a0g_4, .int 0, .int 0]))]) hP hD rfl
  exact W.vret hx hb hr (fun t ht hW => ⟨⟨(), rfl, trivial, 0, 0, ⟨zq5, Int.le_trans zq6 (by decide)⟩, ⟨zq5, Int.le_trans zq6 (by decide)⟩, by rw [ht]; exact hP, va_K.moved hW.alike hK, hD⟩, hS.F ht⟩) hS.2.2 dX2_forget_10

set_option maxHeartbeats 4000000 in
set_option maxRecDepth 100000 in
theorem c_X2_addIfFit (l : Launch) (dC : Nat → ClassId) (dI : Nat → Nat → Nat) (sz : Nat) (a0 : Nat) (a1 : Nat) (a2 : Int32) (a0_0 : Int32) (a0g_1 a0g_2 a0g_4 a0g_5 a0g_6 : Value) (a0_3 : Nat) (a1_0 : Int32) (a1_1 : Int32) (a1g_2 a1g_3 a1g_4 a1g_5 a1g_6 a1g_7 a1g_8 a1g_10 a1g_11 a1g_14 : Value) (a1_9 : Int32) (a1_12 : Nat) (a1_13 : Nat) (ka0_3 : ClassId) (fa0_3 : Nat → Int32) (ka1_13 : ClassId) (fa1_13 : Nat → Int32) (ka1_12 : ClassId) (fa1_12 : Nat → Int32) (ba2_l : (0 : Int) ≤ a2.toInt) (ba2_u : a2.toInt ≤ (888 : Int)) (ba0_0_l : (0 : Int) ≤ a0_0.toInt) (ba0_0_u : a0_0.toInt ≤ (729 : Int)) (ba1_0_l : (0 : Int) ≤ a1_0.toInt) (ba1_0_u : a1_0.toInt ≤ (9 : Int)) (ba1_9_l : (0 : Int) ≤ a1_9.toInt) (ba1_9_u : a1_9.toInt ≤ (6 : Int)) (bfa0_3 : (∀ k, (0 : Int) ≤ (fa0_3 k).toInt ∧ (fa0_3 k).toInt ≤ 888 ∧ (fa0_3 k).toInt % 10 ≤ 8)) (bfa1_13 : (∀ k, (0 : Int) ≤ (fa1_13 k).toInt ∧ (fa1_13 k).toInt ≤ 999)) (m_a2 : a2.toInt % 10 ≤ 8) : Met l yX2_addIfFit wsX2_addIfFit ({ frames := 2, cells := 0, slots := 0, locals := 51 }) (va_Pc [.ref a0, .ref a1, .int a2] (ax_C dC dI sz [(a0, .inr (2, [.int a0_0, a0g_1, a0g_2, .ref a0_3, a0g_4, a0g_5, a0g_6])), (a1, .inr (0, [.int a1_0, .int a1_1, a1g_2, a1g_3, a1g_4, a1g_5, a1g_6, a1g_7, a1g_8, .int a1_9, a1g_10, a1g_11, .ref a1_12, .ref a1_13, a1g_14])), (a0_3, .inl (ka0_3, 729, .inl (fa0_3))), (a1_13, .inl (ka1_13, 6, .inl (fa1_13))), (a1_12, .inl (ka1_12, 6, .inl (fa1_12)))] [(ka0_3, .int), (ka1_13, .int), (ka1_12, .int)] (fun U => va_Nw (.methodLinkNest RX0 72 yX7_laterTurn RX7) U))) (va_Qv (fun (_ : Unit) => True) (fun (_ : Unit) (t : State) => ∃ na0_0 : Int32, ∃ nfa0_3 : Nat → Int32, ((0 : Int) ≤ na0_0.toInt ∧ na0_0.toInt ≤ 729) ∧ (∀ k, (0 : Int) ≤ (nfa0_3 k).toInt ∧ (nfa0_3 k).toInt ≤ 888 ∧ (nfa0_3 k).toInt % 10 ≤ 8) ∧ ax_B dC dI (va_A [(a0, .inr (2, [.int a0_0, a0g_1, a0g_2, .ref a0_3, a0g_4, a0g_5, a0g_6])), (a1, .inr (0, [.int a1_0, .int a1_1, a1g_2, a1g_3, a1g_4, a1g_5, a1g_6, a1g_7, a1g_8, .int a1_9, a1g_10, a1g_11, .ref a1_12, .ref a1_13, a1g_14])), (a0_3, .inl (ka0_3, 729, .inl (fa0_3))), (a1_13, .inl (ka1_13, 6, .inl (fa1_13))), (a1_12, .inl (ka1_12, 6, .inl (fa1_12)))] sz) [(a0, .inr (2, [.int na0_0, a0g_1, a0g_2, .ref a0_3, a0g_4, a0g_5, a0g_6])), (a1, .inr (0, [.int a1_0, .int a1_1, a1g_2, a1g_3, a1g_4, a1g_5, a1g_6, a1g_7, a1g_8, .int a1_9, a1g_10, a1g_11, .ref a1_12, .ref a1_13, a1g_14])), (a0_3, .inl (ka0_3, 729, .inl (nfa0_3))), (a1_13, .inl (ka1_13, 6, .inl (fa1_13))), (a1_12, .inl (ka1_12, 6, .inl (fa1_12)))] [(ka0_3, .int), (ka1_13, .int), (ka1_12, .int)] t) (va_A [(a0, .inr (2, [.int a0_0, a0g_1, a0g_2, .ref a0_3, a0g_4, a0g_5, a0g_6])), (a1, .inr (0, [.int a1_0, .int a1_1, a1g_2, a1g_3, a1g_4, a1g_5, a1g_6, a1g_7, a1g_8, .int a1_9, a1g_10, a1g_11, .ref a1_12, .ref a1_13, a1g_14])), (a0_3, .inl (ka0_3, 729, .inl (fa0_3))), (a1_13, .inl (ka1_13, 6, .inl (fa1_13))), (a1_12, .inl (ka1_12, 6, .inl (fa1_12)))] sz)) 0 0 (va_A [(a0, .inr (2, [.int a0_0, a0g_1, a0g_2, .ref a0_3, a0g_4, a0g_5, a0g_6])), (a1, .inr (0, [.int a1_0, .int a1_1, a1g_2, a1g_3, a1g_4, a1g_5, a1g_6, a1g_7, a1g_8, .int a1_9, a1g_10, a1g_11, .ref a1_12, .ref a1_13, a1g_14])), (a0_3, .inl (ka0_3, 729, .inl (fa0_3))), (a1_13, .inl (ka1_13, 6, .inl (fa1_13))), (a1_12, .inl (ka1_12, 6, .inl (fa1_12)))] sz) := by
  refine Met.ofW (cc := cX2_addIfFit) (maxL := 4) (ret := none) (by decide) rfl ?_
  intro p e s m args below meth c s₁ B hml hv
  obtain ⟨rfl, hsz, hP, hK, hD0, hE⟩ := hv
  have hx := B.exec
  have hb := B.bytes
  have hr := B.returns
  have hts := atoms_spec (ws := wsX2_addIfFit) B.pre
  have hown : s.vm.findClass RX2 = some m.cls := findClass_of_methodNamed B.named
  have hlocks := B.notSynchronized
  subst hsz
  have hD := hD0.self (sz := s.heap.size)
  generalize hAe : va_A [(a0, .inr (2, [.int a0_0, a0g_1, a0g_2, .ref a0_3, a0g_4, a0g_5, a0g_6])), (a1, .inr (0, [.int a1_0, .int a1_1, a1g_2, a1g_3, a1g_4, a1g_5, a1g_6, a1g_7, a1g_8, .int a1_9, a1g_10, a1g_11, .ref a1_12, .ref a1_13, a1g_14])), (a0_3, .inl (ka0_3, 729, .inl (fa0_3))), (a1_13, .inl (ka1_13, 6, .inl (fa1_13))), (a1_12, .inl (ka1_12, 6, .inl (fa1_12)))] s.heap.size = A at hD ⊢
  have hA : ∀ q : Nat, s.heap.size ≤ q → A q := fun q h => by rw [← hAe]; exact Or.inr h
  have hS : va_S A s.heap s.heap [] := va_S.rf
  have hP : va_P (dC, dI) vwCl [(a0, .inr (2, [.int a0_0, a0g_1, a0g_2, .ref a0_3, a0g_4, a0g_5, a0g_6])), (a1, .inr (0, [.int a1_0, .int a1_1, a1g_2, a1g_3, a1g_4, a1g_5, a1g_6, a1g_7, a1g_8, .int a1_9, a1g_10, a1g_11, .ref a1_12, .ref a1_13, a1g_14])), (a0_3, .inl (ka0_3, 729, .inl (fa0_3))), (a1_13, .inl (ka1_13, 6, .inl (fa1_13))), (a1_12, .inl (ka1_12, 6, .inl (fa1_12)))] s.heap := hP
  have hE0 := hE
  have hl := lv_entry ([.ref a0, .ref a1, .int a2]) (n := 4) (Nat.le_of_ble_eq_true rfl)
  rw [lg_entry_eq]
  generalize (lg_sl ([.ref a0, .ref a1, .int a2]) ++ List.replicate (4 - (lg_sl ([.ref a0, .ref a1, .int a2])).length) Slot.unset).toArray = ls at hl ⊢
  have hl : lv_has ls 4 [(0, .ref a0), (1, .ref a1), (2, .int a2)] := hl
  refine ai_open (fun K hK0 => ?_)
  refine (hK0 _ _ _).mpr ?_
  refine lv_iconst (v := 0) hx hb dX2_addIfFit_0 zk_iconst_0 ?_
  refine lv_istore_n (lv' := [(3, .int 0), (0, .ref a0), (1, .ref a1), (2, .int a2)]) hx hb dX2_addIfFit_1 rfl hl (by decide) rfl (fun ls hl => ?_)
  have J2 : ∀ (n : Nat) (j2l3 : Int32) (H : Heap) (locs : List Loc) (ls : Array Slot), (7 : Int) - j2l3.toInt ≤ (n : Int) → (0 : Int) ≤ j2l3.toInt → j2l3.toInt ≤ (6 : Int) → va_P (dC, dI) vwCl [(a0, .inr (2, [.int a0_0, a0g_1, a0g_2, .ref a0_3, a0g_4, a0g_5, a0g_6])), (a1, .inr (0, [.int a1_0, .int a1_1, a1g_2, a1g_3, a1g_4, a1g_5, a1g_6, a1g_7, a1g_8, .int a1_9, a1g_10, a1g_11, .ref a1_12, .ref a1_13, a1g_14])), (a0_3, .inl (ka0_3, 729, .inl (fa0_3))), (a1_13, .inl (ka1_13, 6, .inl (fa1_13))), (a1_12, .inl (ka1_12, 6, .inl (fa1_12)))] H → va_D A [(a0, .inr (2, [.int a0_0, a0g_1, a0g_2, .ref a0_3, a0g_4, a0g_5, a0g_6])), (a1, .inr (0, [.int a1_0, .int a1_1, a1g_2, a1g_3, a1g_4, a1g_5, a1g_6, a1g_7, a1g_8, .int a1_9, a1g_10, a1g_11, .ref a1_12, .ref a1_13, a1g_14])), (a0_3, .inl (ka0_3, 729, .inl (fa0_3))), (a1_13, .inl (ka1_13, 6, .inl (fa1_13))), (a1_12, .inl (ka1_12, 6, .inl (fa1_12)))] → va_S A s.heap H locs → lv_has ls 4 [(0, .ref a0), (1, .ref a1), (2, .int a2), (3, .int j2l3)] → K H locs (F0 m 2 ls []) := by
    intro n
    induction n with
    | zero =>
      intro j2l3 H locs ls hm bj2l3_l bj2l3_u hP hD hS hl
      have h8 := ai_min j2l3
      have h9 := ai_max j2l3
      exact absurd hm (by omega)
    | succ n ih2 =>
      intro j2l3 H locs ls hm bj2l3_l bj2l3_u hP hD hS hl
      refine (hK0 _ _ _).mpr ?_
      have hm2 := hm
      refine lv_iload_n hx hb dX2_addIfFit_2 rfl (lv_at hl 3 rfl) ?_
      refine lv_aload_n hx hb dX2_addIfFit_3 rfl (lv_at hl 1 rfl) ?_
      refine va_get (D := (dC, dI)) (ci := 0) (v := .int a1_9) (C := RX0) (T := TX0) (N := 15) hx hb hts zi_X2_addIfFit_0 hown hK hP 1 rfl rfl 9 (by decide) (hts (.fieldLink RX2 38 "WaxTurns$Hall" "seenCount" "I") (List.mem_cons_of_mem _ (List.mem_append_left _ (List.mem_append_left _ (List.mem_of_getElem? (i := 0) rfl))))) (fun _ h9 => h9) rfl dX2_addIfFit_4 ?_
      refine lv_icmp_ge (tgt := 37) hx hb dX2_addIfFit_7 (by decide) (fun c7 => ?_) (fun c7 => ?_)
      · have gc7 := ai_le c7
        have u7t_a1_9 : a1_9.toInt ≤ (6 : Int) := ba1_9_u
        have l7t_j2l3 : (0 : Int) ≤ j2l3.toInt := bj2l3_l
        refine lv_aload_n hx hb dX2_addIfFit_37 rfl (lv_at hl 0 rfl) ?_
        refine va_get (D := (dC, dI)) (ci := 2) (v := .int a0_0) (C := RX2) (T := TX2) (N := 7) hx hb hts zi_X2_addIfFit_2 hown hK hP 0 rfl rfl 0 (by decide) (hts (.fieldLink RX2 25 "WaxTurns$Laws" "fitCount" "I") (List.mem_cons_of_mem _ (List.mem_append_left _ (List.mem_append_left _ (List.mem_of_getElem? (i := 3) rfl))))) (fun _ h9 => h9) rfl dX2_addIfFit_38 ?_
        refine lv_sipush (v := 729) hx hb dX2_addIfFit_41 zk_sipush_729 ?_
        refine lv_icmp_ge (tgt := 67) hx hb dX2_addIfFit_44 (by decide) (fun c44 => ?_) (fun c44 => ?_)
        · have gc44 := ai_le c44
          have l44t_a0_0 : (729 : Int) ≤ a0_0.toInt := Int.le_trans zq29 gc44
          exact W.vret hx hb hr (fun t ht hW => ⟨⟨(), rfl, trivial, a0_0, fa0_3, ⟨Int.le_trans (by decide) l44t_a0_0, ba0_0_u⟩, bfa0_3, by rw [ht]; exact hP, va_K.moved hW.alike hK, hD⟩, hS.F ht⟩) hS.2.2 dX2_addIfFit_67
        · have gc44 := ai_nle c44
          have u44f_a0_0 : a0_0.toInt ≤ (728 : Int) := ai_lthi gc44 zq30
          refine lv_aload_n hx hb dX2_addIfFit_47 rfl (lv_at hl 0 rfl) ?_
          refine va_get (D := (dC, dI)) (ci := 2) (v := .ref a0_3) (C := RX2) (T := TX2) (N := 7) hx hb hts zi_X2_addIfFit_2 hown hK hP 0 rfl rfl 3 (by decide) (hts (.fieldLink RX2 9 "WaxTurns$Laws" "fitting" "[I") (List.mem_cons_of_mem _ (List.mem_append_left _ (List.mem_append_left _ (List.mem_of_getElem? (i := 4) rfl))))) (fun _ h9 => h9) rfl dX2_addIfFit_48 ?_
          refine lv_aload_n hx hb dX2_addIfFit_51 rfl (lv_at hl 0 rfl) ?_
          refine va_get (D := (dC, dI)) (ci := 2) (v := .int a0_0) (C := RX2) (T := TX2) (N := 7) hx hb hts zi_X2_addIfFit_2 hown hK hP 0 rfl rfl 0 (by decide) (hts (.fieldLink RX2 25 "WaxTurns$Laws" "fitCount" "I") (List.mem_cons_of_mem _ (List.mem_append_left _ (List.mem_append_left _ (List.mem_of_getElem? (i := 3) rfl))))) (fun _ h9 => h9) rfl dX2_addIfFit_52 ?_
          refine lv_iload_n hx hb dX2_addIfFit_55 rfl (lv_at hl 2 rfl) ?_
          refine va_iast hx hb hK hP hD hS 2 0 rfl rfl (ai_in ba0_0_l u44f_a0_0 (by decide) (by decide)) dX2_addIfFit_56 (fun H locs hP hD hS => ?_)
          obtain ⟨f56, bf56, hP, hD⟩ : ∃ f56 : Nat → Int32, (∀ k, (0 : Int) ≤ (f56 k).toInt ∧ (f56 k).toInt ≤ 888 ∧ (f56 k).toInt % 10 ≤ 8) ∧ va_P (dC, dI) vwCl [(a0, .inr (2, [.int a0_0, a0g_1, a0g_2, .ref a0_3, a0g_4, a0g_5, a0g_6])), (a1, .inr (0, [.int a1_0, .int a1_1, a1g_2, a1g_3, a1g_4, a1g_5, a1g_6, a1g_7, a1g_8, .int a1_9, a1g_10, a1g_11, .ref a1_12, .ref a1_13, a1g_14])), (a0_3, .inl (ka0_3, 729, .inl (f56))), (a1_13, .inl (ka1_13, 6, .inl (fa1_13))), (a1_12, .inl (ka1_12, 6, .inl (fa1_12)))] H ∧ va_D A [(a0, .inr (2, [.int a0_0, a0g_1, a0g_2, .ref a0_3, a0g_4, a0g_5, a0g_6])), (a1, .inr (0, [.int a1_0, .int a1_1, a1g_2, a1g_3, a1g_4, a1g_5, a1g_6, a1g_7, a1g_8, .int a1_9, a1g_10, a1g_11, .ref a1_12, .ref a1_13, a1g_14])), (a0_3, .inl (ka0_3, 729, .inl (f56))), (a1_13, .inl (ka1_13, 6, .inl (fa1_13))), (a1_12, .inl (ka1_12, 6, .inl (fa1_12)))] := ⟨_, ai_updm bfa0_3 _ ⟨ba2_l, ba2_u, m_a2⟩, hP, hD⟩
          refine lv_aload_n hx hb dX2_addIfFit_57 rfl (lv_at hl 0 rfl) ?_
          refine lv_dup hx hb dX2_addIfFit_58 rfl ?_
          refine va_get (D := (dC, dI)) (ci := 2) (v := .int a0_0) (C := RX2) (T := TX2) (N := 7) hx hb hts zi_X2_addIfFit_2 hown hK hP 0 rfl rfl 0 (by decide) (hts (.fieldLink RX2 25 "WaxTurns$Laws" "fitCount" "I") (List.mem_cons_of_mem _ (List.mem_append_left _ (List.mem_append_left _ (List.mem_of_getElem? (i := 3) rfl))))) (fun _ h9 => h9) rfl dX2_addIfFit_59 ?_
          refine lv_iconst (v := 1) hx hb dX2_addIfFit_62 zk_iconst_1 ?_
          refine lv_iadd hx hb dX2_addIfFit_63 ?_
          refine lv_topi (fun x63 ex63 => ?_)
          have qx63 : x63.toInt = a0_0.toInt + (1 : Int32).toInt := ai_add ex63 ⟨ba0_0_l, u44f_a0_0⟩ ⟨zq1, zq0⟩ (by decide) (by decide)
          have bx63 : (1 : Int) ≤ x63.toInt ∧ x63.toInt ≤ 729 := ⟨by rw [qx63]; exact Int.add_le_add ba0_0_l zq1, by rw [qx63]; exact Int.add_le_add u44f_a0_0 zq0⟩
          have wx63 : x63.toInt = a0_0.toInt + 1 := qx63
          refine va_put (D := (dC, dI)) (ci := 2) (v := .int x63) (ty := .int) (C := RX2) (T := TX2) (N := 7) hx hb hts zi_X2_addIfFit_2 tyX2 tyX2_ok nmX2 hown hK hP hD hS 0 rfl rfl 0 (by decide) (hts (.fieldLink RX2 25 "WaxTurns$Laws" "fitCount" "I") (List.mem_cons_of_mem _ (List.mem_append_left _ (List.mem_append_left _ (List.mem_of_getElem? (i := 3) rfl))))) (fun _ h9 => h9) rfl (tyX2_ok 0 (by decide)) rfl rfl (Nat.le_of_ble_eq_true rfl) dX2_addIfFit_64 (fun H locs hP hD hS => ?_)
          obtain ⟨hP, hD⟩ := zc_re (w := [(a0, .inr (2, [.int x63, a0g_1, a0g_2, .ref a0_3, a0g_4, a0g_5, a0g_6])), (a1, .inr (0, [.int a1_0, .int a1_1, a1g_2, a1g_3, a1g_4, a1g_5, a1g_6, a1g_7, a1g_8, .int a1_9, a1g_10, a1g_11, .ref a1_12, .ref a1_13, a1g_14])), (a0_3, .inl (ka0_3, 729, .inl (f56))), (a1_13, .inl (ka1_13, 6, .inl (fa1_13))), (a1_12, .inl (ka1_12, 6, .inl (fa1_12)))]) hP hD rfl
          exact W.vret hx hb hr (fun t ht hW => ⟨⟨(), rfl, trivial, x63, f56, ⟨Int.le_trans (by decide) bx63.1, bx63.2⟩, bf56, by rw [ht]; exact hP, va_K.moved hW.alike hK, hD⟩, hS.F ht⟩) hS.2.2 dX2_addIfFit_67
      · have gc7 := ai_nle c7
        have u7f_j2l3 : j2l3.toInt ≤ (5 : Int) := ai_lthi gc7 ba1_9_u
        have l7f_a1_9 : (1 : Int) ≤ a1_9.toInt := ai_ltlo gc7 bj2l3_l
        refine lv_aload_n hx hb dX2_addIfFit_10 rfl (lv_at hl 1 rfl) ?_
        refine lv_iload_n hx hb dX2_addIfFit_11 rfl (lv_at hl 2 rfl) ?_
        refine lv_aload_n hx hb dX2_addIfFit_12 rfl (lv_at hl 1 rfl) ?_
        refine va_get (D := (dC, dI)) (ci := 0) (v := .ref a1_13) (C := RX0) (T := TX0) (N := 15) hx hb hts zi_X2_addIfFit_0 hown hK hP 1 rfl rfl 13 (by decide) (hts (.fieldLink RX2 41 "WaxTurns$Hall" "seenMinutes" "[I") (List.mem_cons_of_mem _ (List.mem_append_left _ (List.mem_append_left _ (List.mem_of_getElem? (i := 1) rfl))))) (fun _ h9 => h9) rfl dX2_addIfFit_13 ?_
        refine lv_iload_n hx hb dX2_addIfFit_16 rfl (lv_at hl 3 rfl) ?_
        refine va_iald hx hb hK hP 3 1 rfl rfl (ai_in bj2l3_l u7f_j2l3 (by decide) (by decide)) dX2_addIfFit_17 ?_
        refine lv_topi (fun x17 ex17 => ?_)
        have bx17 : (0 : Int) ≤ x17.toInt ∧ x17.toInt ≤ 999 := by rw [ex17]; exact bfa1_13 _
        obtain ⟨hPc, hDc, hFc, hCc⟩ := zc_cut (wc := [(a1, .inr (0, [.int a1_0, .int a1_1, a1g_2, a1g_3, a1g_4, a1g_5, a1g_6, a1g_7, a1g_8, .int a1_9, a1g_10, a1g_11, .ref a1_12, .ref a1_13, a1g_14]))]) hP hD hS hA [1] (by decide +kernel) rfl
        have hKc := hK.sub (tys' := []) [] rfl
        refine va_calli (va_runV (As := [.int a2, .int x17]) (rest := []) ⟨hx, hb, hml, hown, hts⟩ (c_X0_aliveByLaw l dC dI H.size a1 a2 x17 a1_0 a1_1 a1g_2 a1g_3 a1g_4 a1g_5 a1g_6 a1g_7 a1g_8 (.int a1_9) a1g_10 a1g_11 (.ref a1_12) (.ref a1_13) a1g_14 ba2_l (Int.le_trans ba2_u zq31) bx17.1 bx17.2 ba1_0_l ba1_0_u) (cwV 2 hts gX2_addIfFit_X0_aliveByLaw rfl rfl rfl zd_X0_aliveByLaw ⟨Nat.le_of_ble_eq_true rfl, Nat.le_of_ble_eq_true rfl⟩) ⟨ax_blind (fun _ _ _ _ hq => va_Nw.same rfl rfl (hq)), zr_0 hKc hPc (q0 := 0) rfl, ax_pre hPc hKc hDc (fun _ hW => va_Nw.warmM hW hE0)⟩ rfl rfl hl.1 rfl (lv_room (Nat.le_of_ble_eq_true rfl)) dX2_addIfFit_18 ⟨Nat.le_of_ble_eq_true rfl, Nat.le_of_ble_eq_true rfl⟩) hS (fun q _ h => hFc q h) hFc (fun r18 u t H locs ht hvm hw hB hz1 hk1 hS => ?_)
        obtain ⟨hP1, hK1, hD1⟩ := hB
        rw [ht] at hP1
        obtain ⟨hP, hD⟩ := zc_back (w := [(a0, .inr (2, [.int a0_0, a0g_1, a0g_2, .ref a0_3, a0g_4, a0g_5, a0g_6])), (a1, .inr (0, [.int a1_0, .int a1_1, a1g_2, a1g_3, a1g_4, a1g_5, a1g_6, a1g_7, a1g_8, .int a1_9, a1g_10, a1g_11, .ref a1_12, .ref a1_13, a1g_14])), (a0_3, .inl (ka0_3, 729, .inl (fa0_3))), (a1_13, .inl (ka1_13, 6, .inl (fa1_13))), (a1_12, .inl (ka1_12, 6, .inl (fa1_12)))]) hP hD hCc hk1 hFc hP1 hD1 [.inl 0, .inr 0, .inl 2, .inl 3, .inl 4] (by decide +kernel) rfl
        have hw : (0 : Int) ≤ r18.toInt ∧ r18.toInt ≤ (9 : Int) := hw
        obtain ⟨h18_0, h18_1⟩ := hw
        refine lv_aload_n hx hb dX2_addIfFit_21 rfl (lv_at hl 1 rfl) ?_
        refine va_get (D := (dC, dI)) (ci := 0) (v := .ref a1_12) (C := RX0) (T := TX0) (N := 15) hx hb hts zi_X2_addIfFit_0 hown hK hP 1 rfl rfl 12 (by decide) (hts (.fieldLink RX2 48 "WaxTurns$Hall" "seenFigures" "[I") (List.mem_cons_of_mem _ (List.mem_append_left _ (List.mem_append_left _ (List.mem_of_getElem? (i := 2) rfl))))) (fun _ h9 => h9) rfl dX2_addIfFit_22 ?_
        refine lv_iload_n hx hb dX2_addIfFit_25 rfl (lv_at hl 3 rfl) ?_
        refine va_iald hx hb hK hP 4 2 rfl rfl (ai_in bj2l3_l u7f_j2l3 (by decide) (by decide)) dX2_addIfFit_26 ?_
        refine lv_topi (fun x26 ex26 => ?_)
        refine lv_icmp_eq (tgt := 31) hx hb dX2_addIfFit_27 (by decide) (fun c27 => ?_) (fun c27 => ?_)
        · have gc27 := ai_eq c27
          have u27t_x26 : x26.toInt ≤ (9 : Int) := Int.le_trans (Int.le_of_eq gc27.symm) h18_1
          have l27t_x26 : (0 : Int) ≤ x26.toInt := Int.le_trans h18_0 (Int.le_of_eq gc27)
          obtain ⟨x31, ex31⟩ : ∃ y : Int32, y = j2l3 + Int32.ofInt 1 := ⟨_, rfl⟩
          have qx31 : x31.toInt = j2l3.toInt + 1 := ai_inc ex31 (by decide) (by decide) u7f_j2l3 (by decide)
          have bx31 : (1 : Int) ≤ x31.toInt ∧ x31.toInt ≤ 6 := ⟨by rw [qx31]; exact Int.add_le_add bj2l3_l (Int.le_refl _), by rw [qx31]; exact Int.add_le_add u7f_j2l3 (Int.le_refl _)⟩
          refine lv_iinc (v := x31) (lv' := [(3, .int x31), (0, .ref a0), (1, .ref a1), (2, .int a2)]) hx hb dX2_addIfFit_31 hl (k := 3) rfl ex31.symm (by decide) rfl (fun ls hl => ?_)
          refine lv_goto (tgt := 2) hx hb dX2_addIfFit_34 (by decide) ?_
          exact (hK0 _ _ _).mp (ih2 x31 _ _ _ (by have h0 := qx31; omega) (Int.le_trans zq4 bx31.1) bx31.2 hP hD hS (lv_sub hl [1, 2, 3, 0] rfl))
        · have gc27 := ai_ne c27
          exact W.vret hx hb hr (fun t ht hW => ⟨⟨(), rfl, trivial, a0_0, fa0_3, ⟨ba0_0_l, ba0_0_u⟩, bfa0_3, by rw [ht]; exact hP, va_K.moved hW.alike hK, hD⟩, hS.F ht⟩) hS.2.2 dX2_addIfFit_30
  exact (hK0 _ _ _).mp (J2 7 0 _ _ _ (by have h1 : (0 : Int) ≤ (0 : Int32).toInt := zq5; have h2 : (0 : Int32).toInt ≤ (0 : Int) := zq6; omega) zq5 (Int.le_trans zq6 zq17) hP hD hS (lv_sub hl [1, 2, 3, 0] rfl))

set_option maxHeartbeats 4000000 in
set_option maxRecDepth 100000 in
theorem c_X2_list (l : Launch) (dC : Nat → ClassId) (dI : Nat → Nat → Nat) (sz : Nat) (a0 : Nat) (a1 : Nat) (a0_0 : Int32) (a0g_1 a0g_2 a0g_4 a0g_6 : Value) (a0_3 : Nat) (a0_5 : Int32) (a1_0 : Int32) (a1_1 : Int32) (a1g_2 a1g_3 a1g_4 a1g_5 a1g_6 a1g_7 a1g_8 a1g_10 a1g_11 a1g_14 : Value) (a1_9 : Int32) (a1_12 : Nat) (a1_13 : Nat) (ka0_3 : ClassId) (fa0_3 : Nat → Int32) (ka1_13 : ClassId) (fa1_13 : Nat → Int32) (ka1_12 : ClassId) (fa1_12 : Nat → Int32) (ba0_0_l : (0 : Int) ≤ a0_0.toInt) (ba0_0_u : a0_0.toInt ≤ (729 : Int)) (ba0_5_l : (0 : Int) ≤ a0_5.toInt) (ba0_5_u : a0_5.toInt ≤ (1 : Int)) (ba1_0_l : (0 : Int) ≤ a1_0.toInt) (ba1_0_u : a1_0.toInt ≤ (9 : Int)) (ba1_9_l : (0 : Int) ≤ a1_9.toInt) (ba1_9_u : a1_9.toInt ≤ (6 : Int)) (bfa0_3 : (∀ k, (0 : Int) ≤ (fa0_3 k).toInt ∧ (fa0_3 k).toInt ≤ 888 ∧ (fa0_3 k).toInt % 10 ≤ 8)) (bfa1_13 : (∀ k, (0 : Int) ≤ (fa1_13 k).toInt ∧ (fa1_13 k).toInt ≤ 999)) : Met l yX2_list wsX2_list ({ frames := 3, cells := 0, slots := 0, locals := 74 }) (va_Pc [.ref a0, .ref a1] (ax_C dC dI sz [(a0, .inr (2, [.int a0_0, a0g_1, a0g_2, .ref a0_3, a0g_4, .int a0_5, a0g_6])), (a1, .inr (0, [.int a1_0, .int a1_1, a1g_2, a1g_3, a1g_4, a1g_5, a1g_6, a1g_7, a1g_8, .int a1_9, a1g_10, a1g_11, .ref a1_12, .ref a1_13, a1g_14])), (a0_3, .inl (ka0_3, 729, .inl (fa0_3))), (a1_13, .inl (ka1_13, 6, .inl (fa1_13))), (a1_12, .inl (ka1_12, 6, .inl (fa1_12)))] [(ka0_3, .int), (ka1_13, .int), (ka1_12, .int)] (fun U => va_Nw (.methodLinkNest RX0 72 yX7_laterTurn RX7) U))) (va_Qv (fun (_ : Unit) => True) (fun (_ : Unit) (t : State) => ∃ na0_0 : Int32, ∃ na0_5 : Int32, ∃ nfa0_3 : Nat → Int32, ((0 : Int) ≤ na0_0.toInt ∧ na0_0.toInt ≤ 729) ∧ ((0 : Int) ≤ na0_5.toInt ∧ na0_5.toInt ≤ 1) ∧ (∀ k, (0 : Int) ≤ (nfa0_3 k).toInt ∧ (nfa0_3 k).toInt ≤ 888 ∧ (nfa0_3 k).toInt % 10 ≤ 8) ∧ ax_B dC dI (va_A [(a0, .inr (2, [.int a0_0, a0g_1, a0g_2, .ref a0_3, a0g_4, .int a0_5, a0g_6])), (a1, .inr (0, [.int a1_0, .int a1_1, a1g_2, a1g_3, a1g_4, a1g_5, a1g_6, a1g_7, a1g_8, .int a1_9, a1g_10, a1g_11, .ref a1_12, .ref a1_13, a1g_14])), (a0_3, .inl (ka0_3, 729, .inl (fa0_3))), (a1_13, .inl (ka1_13, 6, .inl (fa1_13))), (a1_12, .inl (ka1_12, 6, .inl (fa1_12)))] sz) [(a0, .inr (2, [.int na0_0, a0g_1, a0g_2, .ref a0_3, a0g_4, .int na0_5, a0g_6])), (a1, .inr (0, [.int a1_0, .int a1_1, a1g_2, a1g_3, a1g_4, a1g_5, a1g_6, a1g_7, a1g_8, .int a1_9, a1g_10, a1g_11, .ref a1_12, .ref a1_13, a1g_14])), (a0_3, .inl (ka0_3, 729, .inl (nfa0_3))), (a1_13, .inl (ka1_13, 6, .inl (fa1_13))), (a1_12, .inl (ka1_12, 6, .inl (fa1_12)))] [(ka0_3, .int), (ka1_13, .int), (ka1_12, .int)] t) (va_A [(a0, .inr (2, [.int a0_0, a0g_1, a0g_2, .ref a0_3, a0g_4, .int a0_5, a0g_6])), (a1, .inr (0, [.int a1_0, .int a1_1, a1g_2, a1g_3, a1g_4, a1g_5, a1g_6, a1g_7, a1g_8, .int a1_9, a1g_10, a1g_11, .ref a1_12, .ref a1_13, a1g_14])), (a0_3, .inl (ka0_3, 729, .inl (fa0_3))), (a1_13, .inl (ka1_13, 6, .inl (fa1_13))), (a1_12, .inl (ka1_12, 6, .inl (fa1_12)))] sz)) 0 0 (va_A [(a0, .inr (2, [.int a0_0, a0g_1, a0g_2, .ref a0_3, a0g_4, .int a0_5, a0g_6])), (a1, .inr (0, [.int a1_0, .int a1_1, a1g_2, a1g_3, a1g_4, a1g_5, a1g_6, a1g_7, a1g_8, .int a1_9, a1g_10, a1g_11, .ref a1_12, .ref a1_13, a1g_14])), (a0_3, .inl (ka0_3, 729, .inl (fa0_3))), (a1_13, .inl (ka1_13, 6, .inl (fa1_13))), (a1_12, .inl (ka1_12, 6, .inl (fa1_12)))] sz) := by
  refine Met.ofW (cc := cX2_list) (maxL := 5) (ret := none) (by decide) rfl ?_
  intro p e s m args below meth c s₁ B hml hv
  obtain ⟨rfl, hsz, hP, hK, hD0, hE⟩ := hv
  have hx := B.exec
  have hb := B.bytes
  have hr := B.returns
  have hts := atoms_spec (ws := wsX2_list) B.pre
  have hown : s.vm.findClass RX2 = some m.cls := findClass_of_methodNamed B.named
  have hlocks := B.notSynchronized
  subst hsz
  have hD := hD0.self (sz := s.heap.size)
  generalize hAe : va_A [(a0, .inr (2, [.int a0_0, a0g_1, a0g_2, .ref a0_3, a0g_4, .int a0_5, a0g_6])), (a1, .inr (0, [.int a1_0, .int a1_1, a1g_2, a1g_3, a1g_4, a1g_5, a1g_6, a1g_7, a1g_8, .int a1_9, a1g_10, a1g_11, .ref a1_12, .ref a1_13, a1g_14])), (a0_3, .inl (ka0_3, 729, .inl (fa0_3))), (a1_13, .inl (ka1_13, 6, .inl (fa1_13))), (a1_12, .inl (ka1_12, 6, .inl (fa1_12)))] s.heap.size = A at hD ⊢
  have hA : ∀ q : Nat, s.heap.size ≤ q → A q := fun q h => by rw [← hAe]; exact Or.inr h
  have hS : va_S A s.heap s.heap [] := va_S.rf
  have hP : va_P (dC, dI) vwCl [(a0, .inr (2, [.int a0_0, a0g_1, a0g_2, .ref a0_3, a0g_4, .int a0_5, a0g_6])), (a1, .inr (0, [.int a1_0, .int a1_1, a1g_2, a1g_3, a1g_4, a1g_5, a1g_6, a1g_7, a1g_8, .int a1_9, a1g_10, a1g_11, .ref a1_12, .ref a1_13, a1g_14])), (a0_3, .inl (ka0_3, 729, .inl (fa0_3))), (a1_13, .inl (ka1_13, 6, .inl (fa1_13))), (a1_12, .inl (ka1_12, 6, .inl (fa1_12)))] s.heap := hP
  have hE0 := hE
  have hl := lv_entry ([.ref a0, .ref a1]) (n := 5) (Nat.le_of_ble_eq_true rfl)
  rw [lg_entry_eq]
  generalize (lg_sl ([.ref a0, .ref a1]) ++ List.replicate (5 - (lg_sl ([.ref a0, .ref a1])).length) Slot.unset).toArray = ls at hl ⊢
  have hl : lv_has ls 5 [(0, .ref a0), (1, .ref a1)] := hl
  refine ai_open (fun K hK0 => ?_)
  refine (hK0 _ _ _).mpr ?_
  refine lv_aload_n hx hb dX2_list_0 rfl (lv_at hl 0 rfl) ?_
  refine va_get (D := (dC, dI)) (ci := 2) (v := .int a0_5) (C := RX2) (T := TX2) (N := 7) hx hb hts zi_X2_list_2 hown hK hP 0 rfl rfl 5 (by decide) (hts (.fieldLink RX2 18 "WaxTurns$Laws" "listed" "Z") (List.mem_cons_of_mem _ (List.mem_append_left _ (List.mem_append_left _ (List.mem_of_getElem? (i := 0) rfl))))) (fun _ h9 => h9) rfl dX2_list_1 ?_
  refine lv_if_eq (tgt := 8) hx hb dX2_list_4 (by decide) (fun c4 => ?_) (fun c4 => ?_)
  · have gc4 := ai_eq c4
    have u4t_a0_5 : a0_5.toInt ≤ (0 : Int) := Int.le_trans (Int.le_of_eq gc4) zq6
    have l4t_a0_5 : (0 : Int) ≤ a0_5.toInt := ba0_5_l
    refine lv_aload_n hx hb dX2_list_8 rfl (lv_at hl 0 rfl) ?_
    refine lv_iconst (v := 1) hx hb dX2_list_9 zk_iconst_1 ?_
    refine va_put (D := (dC, dI)) (ci := 2) (v := .int 1) (ty := .boolean) (C := RX2) (T := TX2) (N := 7) hx hb hts zi_X2_list_2 tyX2 tyX2_ok nmX2 hown hK hP hD hS 0 rfl rfl 5 (by decide) (hts (.fieldLink RX2 18 "WaxTurns$Laws" "listed" "Z") (List.mem_cons_of_mem _ (List.mem_append_left _ (List.mem_append_left _ (List.mem_of_getElem? (i := 0) rfl))))) (fun _ h9 => h9) rfl (tyX2_ok 5 (by decide)) rfl rfl (Nat.le_of_ble_eq_true rfl) dX2_list_10 (fun H locs hP hD hS => ?_)
    obtain ⟨hP, hD⟩ := zc_re (w := [(a0, .inr (2, [.int a0_0, a0g_1, a0g_2, .ref a0_3, a0g_4, .int 1, a0g_6])), (a1, .inr (0, [.int a1_0, .int a1_1, a1g_2, a1g_3, a1g_4, a1g_5, a1g_6, a1g_7, a1g_8, .int a1_9, a1g_10, a1g_11, .ref a1_12, .ref a1_13, a1g_14])), (a0_3, .inl (ka0_3, 729, .inl (fa0_3))), (a1_13, .inl (ka1_13, 6, .inl (fa1_13))), (a1_12, .inl (ka1_12, 6, .inl (fa1_12)))]) hP hD rfl
    refine lv_aload_n hx hb dX2_list_13 rfl (lv_at hl 0 rfl) ?_
    refine lv_iconst (v := 0) hx hb dX2_list_14 zk_iconst_0 ?_
    refine va_put (D := (dC, dI)) (ci := 2) (v := .int 0) (ty := .int) (C := RX2) (T := TX2) (N := 7) hx hb hts zi_X2_list_2 tyX2 tyX2_ok nmX2 hown hK hP hD hS 0 rfl rfl 0 (by decide) (hts (.fieldLink RX2 25 "WaxTurns$Laws" "fitCount" "I") (List.mem_cons_of_mem _ (List.mem_append_left _ (List.mem_append_left _ (List.mem_of_getElem? (i := 1) rfl))))) (fun _ h9 => h9) rfl (tyX2_ok 0 (by decide)) rfl rfl (Nat.le_of_ble_eq_true rfl) dX2_list_15 (fun H locs hP hD hS => ?_)
    obtain ⟨hP, hD⟩ := zc_re (w := [(a0, .inr (2, [.int 0, a0g_1, a0g_2, .ref a0_3, a0g_4, .int 1, a0g_6])), (a1, .inr (0, [.int a1_0, .int a1_1, a1g_2, a1g_3, a1g_4, a1g_5, a1g_6, a1g_7, a1g_8, .int a1_9, a1g_10, a1g_11, .ref a1_12, .ref a1_13, a1g_14])), (a0_3, .inl (ka0_3, 729, .inl (fa0_3))), (a1_13, .inl (ka1_13, 6, .inl (fa1_13))), (a1_12, .inl (ka1_12, 6, .inl (fa1_12)))]) hP hD rfl
    refine lv_iconst (v := 0) hx hb dX2_list_18 zk_iconst_0 ?_
    refine lv_istore_n (lv' := [(2, .int 0), (0, .ref a0), (1, .ref a1)]) hx hb dX2_list_19 rfl hl (by decide) rfl (fun ls hl => ?_)
    have J20 : ∀ (n : Nat) (j20l2 : Int32) (j20a0_0 : Int32) (j20a0_3_a : Nat → Int32) (H : Heap) (locs : List Loc) (ls : Array Slot), (10 : Int) - j20l2.toInt ≤ (n : Int) → (0 : Int) ≤ j20l2.toInt → j20l2.toInt ≤ (9 : Int) → (0 : Int) ≤ j20a0_0.toInt → j20a0_0.toInt ≤ (729 : Int) → (∀ k, (0 : Int) ≤ (j20a0_3_a k).toInt ∧ (j20a0_3_a k).toInt ≤ 888 ∧ (j20a0_3_a k).toInt % 10 ≤ 8) → va_P (dC, dI) vwCl [(a0, .inr (2, [.int j20a0_0, a0g_1, a0g_2, .ref a0_3, a0g_4, .int 1, a0g_6])), (a1, .inr (0, [.int a1_0, .int a1_1, a1g_2, a1g_3, a1g_4, a1g_5, a1g_6, a1g_7, a1g_8, .int a1_9, a1g_10, a1g_11, .ref a1_12, .ref a1_13, a1g_14])), (a0_3, .inl (ka0_3, 729, .inl (j20a0_3_a))), (a1_13, .inl (ka1_13, 6, .inl (fa1_13))), (a1_12, .inl (ka1_12, 6, .inl (fa1_12)))] H → va_D A [(a0, .inr (2, [.int j20a0_0, a0g_1, a0g_2, .ref a0_3, a0g_4, .int 1, a0g_6])), (a1, .inr (0, [.int a1_0, .int a1_1, a1g_2, a1g_3, a1g_4, a1g_5, a1g_6, a1g_7, a1g_8, .int a1_9, a1g_10, a1g_11, .ref a1_12, .ref a1_13, a1g_14])), (a0_3, .inl (ka0_3, 729, .inl (j20a0_3_a))), (a1_13, .inl (ka1_13, 6, .inl (fa1_13))), (a1_12, .inl (ka1_12, 6, .inl (fa1_12)))] → va_S A s.heap H locs → lv_has ls 5 [(0, .ref a0), (1, .ref a1), (2, .int j20l2)] → K H locs (F0 m 20 ls []) := by
      intro n
      induction n with
      | zero =>
        intro j20l2 j20a0_0 j20a0_3_a H locs ls hm bj20l2_l bj20l2_u bj20a0_0_l bj20a0_0_u bj20a0_3_a hP hD hS hl
        have h8 := ai_min j20l2
        have h9 := ai_max j20l2
        exact absurd hm (by omega)
      | succ n ih20 =>
        intro j20l2 j20a0_0 j20a0_3_a H locs ls hm bj20l2_l bj20l2_u bj20a0_0_l bj20a0_0_u bj20a0_3_a hP hD hS hl
        refine (hK0 _ _ _).mpr ?_
        have hm20 := hm
        refine lv_iload_n hx hb dX2_list_20 rfl (lv_at hl 2 rfl) ?_
        refine lv_aload_n hx hb dX2_list_21 rfl (lv_at hl 1 rfl) ?_
        refine va_get (D := (dC, dI)) (ci := 0) (v := .int a1_0) (C := RX0) (T := TX0) (N := 15) hx hb hts zi_X2_list_0 hown hK hP 1 rfl rfl 0 (by decide) (hts (.fieldLink RX2 29 "WaxTurns$Hall" "figures" "I") (List.mem_cons_of_mem _ (List.mem_append_left _ (List.mem_append_left _ (List.mem_of_getElem? (i := 2) rfl))))) (fun _ h9 => h9) rfl dX2_list_22 ?_
        refine lv_icmp_ge (tgt := 85) hx hb dX2_list_25 (by decide) (fun c25 => ?_) (fun c25 => ?_)
        · have gc25 := ai_le c25
          have u25t_a1_0 : a1_0.toInt ≤ (9 : Int) := ba1_0_u
          have l25t_j20l2 : (0 : Int) ≤ j20l2.toInt := bj20l2_l
          exact W.vret hx hb hr (fun t ht hW => ⟨⟨(), rfl, trivial, j20a0_0, 1, j20a0_3_a, ⟨bj20a0_0_l, bj20a0_0_u⟩, ⟨Int.le_trans (by decide) zq1, zq0⟩, bj20a0_3_a, by rw [ht]; exact hP, va_K.moved hW.alike hK, hD⟩, hS.F ht⟩) hS.2.2 dX2_list_85
        · have gc25 := ai_nle c25
          have u25f_j20l2 : j20l2.toInt ≤ (8 : Int) := ai_lthi gc25 ba1_0_u
          have l25f_a1_0 : (1 : Int) ≤ a1_0.toInt := ai_ltlo gc25 bj20l2_l
          refine lv_iconst (v := 0) hx hb dX2_list_28 zk_iconst_0 ?_
          refine lv_istore_n (lv' := [(3, .int 0), (0, .ref a0), (1, .ref a1), (2, .int j20l2)]) hx hb dX2_list_29 rfl hl (by decide) rfl (fun ls hl => ?_)
          have J30 : ∀ (n : Nat) (j30l3 : Int32) (j30a0_0 : Int32) (j30a0_3_a : Nat → Int32) (H : Heap) (locs : List Loc) (ls : Array Slot), (10 : Int) - j30l3.toInt ≤ (n : Int) → (0 : Int) ≤ j30l3.toInt → j30l3.toInt ≤ (9 : Int) → (0 : Int) ≤ j30a0_0.toInt → j30a0_0.toInt ≤ (729 : Int) → (∀ k, (0 : Int) ≤ (j30a0_3_a k).toInt ∧ (j30a0_3_a k).toInt ≤ 888 ∧ (j30a0_3_a k).toInt % 10 ≤ 8) → va_P (dC, dI) vwCl [(a0, .inr (2, [.int j30a0_0, a0g_1, a0g_2, .ref a0_3, a0g_4, .int 1, a0g_6])), (a1, .inr (0, [.int a1_0, .int a1_1, a1g_2, a1g_3, a1g_4, a1g_5, a1g_6, a1g_7, a1g_8, .int a1_9, a1g_10, a1g_11, .ref a1_12, .ref a1_13, a1g_14])), (a0_3, .inl (ka0_3, 729, .inl (j30a0_3_a))), (a1_13, .inl (ka1_13, 6, .inl (fa1_13))), (a1_12, .inl (ka1_12, 6, .inl (fa1_12)))] H → va_D A [(a0, .inr (2, [.int j30a0_0, a0g_1, a0g_2, .ref a0_3, a0g_4, .int 1, a0g_6])), (a1, .inr (0, [.int a1_0, .int a1_1, a1g_2, a1g_3, a1g_4, a1g_5, a1g_6, a1g_7, a1g_8, .int a1_9, a1g_10, a1g_11, .ref a1_12, .ref a1_13, a1g_14])), (a0_3, .inl (ka0_3, 729, .inl (j30a0_3_a))), (a1_13, .inl (ka1_13, 6, .inl (fa1_13))), (a1_12, .inl (ka1_12, 6, .inl (fa1_12)))] → va_S A s.heap H locs → lv_has ls 5 [(0, .ref a0), (1, .ref a1), (2, .int j20l2), (3, .int j30l3)] → K H locs (F0 m 30 ls []) := by
            intro n
            induction n with
            | zero =>
              intro j30l3 j30a0_0 j30a0_3_a H locs ls hm bj30l3_l bj30l3_u bj30a0_0_l bj30a0_0_u bj30a0_3_a hP hD hS hl
              have h8 := ai_min j30l3
              have h9 := ai_max j30l3
              exact absurd hm (by omega)
            | succ n ih30 =>
              intro j30l3 j30a0_0 j30a0_3_a H locs ls hm bj30l3_l bj30l3_u bj30a0_0_l bj30a0_0_u bj30a0_3_a hP hD hS hl
              refine (hK0 _ _ _).mpr ?_
              have hm30 := hm
              refine lv_iload_n hx hb dX2_list_30 rfl (lv_at hl 3 rfl) ?_
              refine lv_aload_n hx hb dX2_list_31 rfl (lv_at hl 1 rfl) ?_
              refine va_get (D := (dC, dI)) (ci := 0) (v := .int a1_0) (C := RX0) (T := TX0) (N := 15) hx hb hts zi_X2_list_0 hown hK hP 1 rfl rfl 0 (by decide) (hts (.fieldLink RX2 29 "WaxTurns$Hall" "figures" "I") (List.mem_cons_of_mem _ (List.mem_append_left _ (List.mem_append_left _ (List.mem_of_getElem? (i := 2) rfl))))) (fun _ h9 => h9) rfl dX2_list_32 ?_
              refine lv_icmp_ge (tgt := 79) hx hb dX2_list_35 (by decide) (fun c35 => ?_) (fun c35 => ?_)
              · have gc35 := ai_le c35
                have u35t_a1_0 : a1_0.toInt ≤ (9 : Int) := ba1_0_u
                have l35t_j30l3 : (1 : Int) ≤ j30l3.toInt := Int.le_trans l25f_a1_0 gc35
                obtain ⟨x79, ex79⟩ : ∃ y : Int32, y = j20l2 + Int32.ofInt 1 := ⟨_, rfl⟩
                have qx79 : x79.toInt = j20l2.toInt + 1 := ai_inc ex79 (by decide) (by decide) u25f_j20l2 (by decide)
                have bx79 : (1 : Int) ≤ x79.toInt ∧ x79.toInt ≤ 9 := ⟨by rw [qx79]; exact Int.add_le_add bj20l2_l (Int.le_refl _), by rw [qx79]; exact Int.add_le_add u25f_j20l2 (Int.le_refl _)⟩
                refine lv_iinc (v := x79) (lv' := [(2, .int x79), (0, .ref a0), (1, .ref a1), (3, .int j30l3)]) hx hb dX2_list_79 hl (k := 2) rfl ex79.symm (by decide) rfl (fun ls hl => ?_)
                refine lv_goto (tgt := 20) hx hb dX2_list_82 (by decide) ?_
                exact (hK0 _ _ _).mp (ih20 x79 j30a0_0 j30a0_3_a _ _ _ (by have h0 := qx79; omega) (Int.le_trans zq4 bx79.1) bx79.2 bj30a0_0_l bj30a0_0_u bj30a0_3_a hP hD hS (lv_sub hl [1, 2, 0] rfl))
              · have gc35 := ai_nle c35
                have u35f_j30l3 : j30l3.toInt ≤ (8 : Int) := ai_lthi gc35 ba1_0_u
                have l35f_a1_0 : (1 : Int) ≤ a1_0.toInt := l25f_a1_0
                refine lv_iconst (v := 0) hx hb dX2_list_38 zk_iconst_0 ?_
                refine lv_istore (lv' := [(4, .int 0), (0, .ref a0), (1, .ref a1), (2, .int j20l2), (3, .int j30l3)]) hx hb dX2_list_39 hl (by decide) rfl (fun ls hl => ?_)
                have J41 : ∀ (n : Nat) (j41l4 : Int32) (j41a0_0 : Int32) (j41a0_3_a : Nat → Int32) (H : Heap) (locs : List Loc) (ls : Array Slot), (10 : Int) - j41l4.toInt ≤ (n : Int) → (0 : Int) ≤ j41l4.toInt → j41l4.toInt ≤ (9 : Int) → (0 : Int) ≤ j41a0_0.toInt → j41a0_0.toInt ≤ (729 : Int) → (∀ k, (0 : Int) ≤ (j41a0_3_a k).toInt ∧ (j41a0_3_a k).toInt ≤ 888 ∧ (j41a0_3_a k).toInt % 10 ≤ 8) → va_P (dC, dI) vwCl [(a0, .inr (2, [.int j41a0_0, a0g_1, a0g_2, .ref a0_3, a0g_4, .int 1, a0g_6])), (a1, .inr (0, [.int a1_0, .int a1_1, a1g_2, a1g_3, a1g_4, a1g_5, a1g_6, a1g_7, a1g_8, .int a1_9, a1g_10, a1g_11, .ref a1_12, .ref a1_13, a1g_14])), (a0_3, .inl (ka0_3, 729, .inl (j41a0_3_a))), (a1_13, .inl (ka1_13, 6, .inl (fa1_13))), (a1_12, .inl (ka1_12, 6, .inl (fa1_12)))] H → va_D A [(a0, .inr (2, [.int j41a0_0, a0g_1, a0g_2, .ref a0_3, a0g_4, .int 1, a0g_6])), (a1, .inr (0, [.int a1_0, .int a1_1, a1g_2, a1g_3, a1g_4, a1g_5, a1g_6, a1g_7, a1g_8, .int a1_9, a1g_10, a1g_11, .ref a1_12, .ref a1_13, a1g_14])), (a0_3, .inl (ka0_3, 729, .inl (j41a0_3_a))), (a1_13, .inl (ka1_13, 6, .inl (fa1_13))), (a1_12, .inl (ka1_12, 6, .inl (fa1_12)))] → va_S A s.heap H locs → lv_has ls 5 [(0, .ref a0), (1, .ref a1), (2, .int j20l2), (3, .int j30l3), (4, .int j41l4)] → K H locs (F0 m 41 ls []) := by
                  intro n
                  induction n with
                  | zero =>
                    intro j41l4 j41a0_0 j41a0_3_a H locs ls hm bj41l4_l bj41l4_u bj41a0_0_l bj41a0_0_u bj41a0_3_a hP hD hS hl
                    have h8 := ai_min j41l4
                    have h9 := ai_max j41l4
                    exact absurd hm (by omega)
                  | succ n ih41 =>
                    intro j41l4 j41a0_0 j41a0_3_a H locs ls hm bj41l4_l bj41l4_u bj41a0_0_l bj41a0_0_u bj41a0_3_a hP hD hS hl
                    refine (hK0 _ _ _).mpr ?_
                    have hm41 := hm
                    refine lv_iload hx hb dX2_list_41 (lv_at hl 4 rfl) ?_
                    refine lv_aload_n hx hb dX2_list_43 rfl (lv_at hl 1 rfl) ?_
                    refine va_get (D := (dC, dI)) (ci := 0) (v := .int a1_0) (C := RX0) (T := TX0) (N := 15) hx hb hts zi_X2_list_0 hown hK hP 1 rfl rfl 0 (by decide) (hts (.fieldLink RX2 29 "WaxTurns$Hall" "figures" "I") (List.mem_cons_of_mem _ (List.mem_append_left _ (List.mem_append_left _ (List.mem_of_getElem? (i := 2) rfl))))) (fun _ h9 => h9) rfl dX2_list_44 ?_
                    refine lv_icmp_ge (tgt := 73) hx hb dX2_list_47 (by decide) (fun c47 => ?_) (fun c47 => ?_)
                    · have gc47 := ai_le c47
                      have u47t_a1_0 : a1_0.toInt ≤ (9 : Int) := ba1_0_u
                      have l47t_j41l4 : (1 : Int) ≤ j41l4.toInt := Int.le_trans l35f_a1_0 gc47
                      obtain ⟨x73, ex73⟩ : ∃ y : Int32, y = j30l3 + Int32.ofInt 1 := ⟨_, rfl⟩
                      have qx73 : x73.toInt = j30l3.toInt + 1 := ai_inc ex73 (by decide) (by decide) u35f_j30l3 (by decide)
                      have bx73 : (1 : Int) ≤ x73.toInt ∧ x73.toInt ≤ 9 := ⟨by rw [qx73]; exact Int.add_le_add bj30l3_l (Int.le_refl _), by rw [qx73]; exact Int.add_le_add u35f_j30l3 (Int.le_refl _)⟩
                      refine lv_iinc (v := x73) (lv' := [(3, .int x73), (0, .ref a0), (1, .ref a1), (2, .int j20l2), (4, .int j41l4)]) hx hb dX2_list_73 hl (k := 3) rfl ex73.symm (by decide) rfl (fun ls hl => ?_)
                      refine lv_goto (tgt := 30) hx hb dX2_list_76 (by decide) ?_
                      exact (hK0 _ _ _).mp (ih30 x73 j41a0_0 j41a0_3_a _ _ _ (by have h0 := qx73; omega) (Int.le_trans zq4 bx73.1) bx73.2 bj41a0_0_l bj41a0_0_u bj41a0_3_a hP hD hS (lv_sub hl [1, 2, 3, 0] rfl))
                    · have gc47 := ai_nle c47
                      have u47f_j41l4 : j41l4.toInt ≤ (8 : Int) := ai_lthi gc47 ba1_0_u
                      have l47f_a1_0 : (1 : Int) ≤ a1_0.toInt := l35f_a1_0
                      refine lv_aload_n hx hb dX2_list_50 rfl (lv_at hl 0 rfl) ?_
                      refine lv_aload_n hx hb dX2_list_51 rfl (lv_at hl 1 rfl) ?_
                      refine lv_bipush (v := 100) hx hb dX2_list_52 zk_bipush_100 ?_
                      refine lv_iload_n hx hb dX2_list_54 rfl (lv_at hl 2 rfl) ?_
                      refine lv_imul hx hb dX2_list_55 ?_
                      refine lv_topi (fun x55 ex55 => ?_)
                      have qx55 : x55.toInt = (100 : Int32).toInt * j20l2.toInt ∧ (0 : Int) ≤ x55.toInt ∧ x55.toInt ≤ 800 := ai_mul ex55 ⟨zq24, zq32⟩ ⟨bj20l2_l, u25f_j20l2⟩ (by decide) (by decide) zq33
                      have wx55 : x55.toInt = 100 * j20l2.toInt := qx55.1
                      refine lv_bipush (v := 10) hx hb dX2_list_56 zk_bipush_10 ?_
                      refine lv_iload_n hx hb dX2_list_58 rfl (lv_at hl 3 rfl) ?_
                      refine lv_imul hx hb dX2_list_59 ?_
                      refine lv_topi (fun x59 ex59 => ?_)
                      have qx59 : x59.toInt = (10 : Int32).toInt * j30l3.toInt ∧ (0 : Int) ≤ x59.toInt ∧ x59.toInt ≤ 80 := ai_mul ex59 ⟨zq26, zq27⟩ ⟨bj30l3_l, u35f_j30l3⟩ (by decide) (by decide) zq34
                      have wx59 : x59.toInt = 10 * j30l3.toInt := qx59.1
                      refine lv_iadd hx hb dX2_list_60 ?_
                      refine lv_topi (fun x60 ex60 => ?_)
                      have qx60 : x60.toInt = x55.toInt + x59.toInt := ai_add ex60 ⟨qx55.2.1, qx55.2.2⟩ ⟨qx59.2.1, qx59.2.2⟩ (by decide) (by decide)
                      have bx60 : (0 : Int) ≤ x60.toInt ∧ x60.toInt ≤ 880 := ⟨by rw [qx60]; exact Int.add_le_add qx55.2.1 qx59.2.1, by rw [qx60]; exact Int.add_le_add qx55.2.2 qx59.2.2⟩
                      refine lv_iload hx hb dX2_list_61 (lv_at hl 4 rfl) ?_
                      refine lv_iadd hx hb dX2_list_63 ?_
                      refine lv_topi (fun x63 ex63 => ?_)
                      have qx63 : x63.toInt = x60.toInt + j41l4.toInt := ai_add ex63 ⟨bx60.1, bx60.2⟩ ⟨bj41l4_l, u47f_j41l4⟩ (by decide) (by decide)
                      have bx63 : (0 : Int) ≤ x63.toInt ∧ x63.toInt ≤ 888 := ⟨by rw [qx63]; exact Int.add_le_add bx60.1 bj41l4_l, by rw [qx63]; exact Int.add_le_add bx60.2 u47f_j41l4⟩
                      obtain ⟨hPc, hDc, hFc, hCc⟩ := zc_cut (wc := [(a0, .inr (2, [.int j41a0_0, a0g_1, a0g_2, .ref a0_3, a0g_4, .int 1, a0g_6])), (a1, .inr (0, [.int a1_0, .int a1_1, a1g_2, a1g_3, a1g_4, a1g_5, a1g_6, a1g_7, a1g_8, .int a1_9, a1g_10, a1g_11, .ref a1_12, .ref a1_13, a1g_14])), (a0_3, .inl (ka0_3, 729, .inl (j41a0_3_a))), (a1_13, .inl (ka1_13, 6, .inl (fa1_13))), (a1_12, .inl (ka1_12, 6, .inl (fa1_12)))]) hP hD hS hA [0, 1, 2, 3, 4] (by decide +kernel) rfl
                      have hKc := hK.sub (tys' := [(ka0_3, .int), (ka1_13, .int), (ka1_12, .int)]) [0, 1, 2] rfl
                      refine va_callv (va_runV (As := [.ref a1, .int x63]) (rest := []) ⟨hx, hb, hml, hown, hts⟩ (c_X2_addIfFit l dC dI H.size a0 a1 x63 j41a0_0 a0g_1 a0g_2 a0g_4 (.int 1) a0g_6 a0_3 a1_0 a1_1 a1g_2 a1g_3 a1g_4 a1g_5 a1g_6 a1g_7 a1g_8 a1g_10 a1g_11 a1g_14 a1_9 a1_12 a1_13 ka0_3 j41a0_3_a ka1_13 fa1_13 ka1_12 fa1_12 bx63.1 bx63.2 bj41a0_0_l bj41a0_0_u (Int.le_trans zq4 l47f_a1_0) ba1_0_u ba1_9_l ba1_9_u bj41a0_3_a bfa1_13 (by omega)) (cwV 2 hts gX2_list_X2_addIfFit rfl rfl rfl zd_X2_addIfFit ⟨Nat.le_of_ble_eq_true rfl, Nat.le_of_ble_eq_true rfl⟩) ⟨ax_blind (fun _ _ _ _ hq => va_Nw.same rfl rfl (hq)), zr_2 hKc hPc (q0 := 0) rfl, ax_pre hPc hKc hDc (fun _ hW => va_Nw.warmM hW hE0)⟩ rfl rfl hl.1 rfl (lv_room (Nat.le_of_ble_eq_true rfl)) dX2_list_64 ⟨Nat.le_of_ble_eq_true rfl, Nat.le_of_ble_eq_true rfl⟩) hS (fun q _ h => hFc q h) hFc (fun u t H locs ht hvm hw hB hz1 hk1 hS => ?_)
                      obtain ⟨v64na0_0, v64nfa0_3, bv64na0_0, bv64nfa0_3, hP1, hK1, hD1⟩ := hB
                      rw [ht] at hP1
                      obtain ⟨hP, hD⟩ := zc_back (w := [(a0, .inr (2, [.int v64na0_0, a0g_1, a0g_2, .ref a0_3, a0g_4, .int 1, a0g_6])), (a1, .inr (0, [.int a1_0, .int a1_1, a1g_2, a1g_3, a1g_4, a1g_5, a1g_6, a1g_7, a1g_8, .int a1_9, a1g_10, a1g_11, .ref a1_12, .ref a1_13, a1g_14])), (a0_3, .inl (ka0_3, 729, .inl (v64nfa0_3))), (a1_13, .inl (ka1_13, 6, .inl (fa1_13))), (a1_12, .inl (ka1_12, 6, .inl (fa1_12)))]) hP hD hCc hk1 hFc hP1 hD1 [.inr 0, .inr 1, .inr 2, .inr 3, .inr 4] (by decide +kernel) rfl
                      obtain ⟨x67, ex67⟩ : ∃ y : Int32, y = j41l4 + Int32.ofInt 1 := ⟨_, rfl⟩
                      have qx67 : x67.toInt = j41l4.toInt + 1 := ai_inc ex67 (by decide) (by decide) u47f_j41l4 (by decide)
                      have bx67 : (1 : Int) ≤ x67.toInt ∧ x67.toInt ≤ 9 := ⟨by rw [qx67]; exact Int.add_le_add bj41l4_l (Int.le_refl _), by rw [qx67]; exact Int.add_le_add u47f_j41l4 (Int.le_refl _)⟩
                      refine lv_iinc (v := x67) (lv' := [(4, .int x67), (0, .ref a0), (1, .ref a1), (2, .int j20l2), (3, .int j30l3)]) hx hb dX2_list_67 hl (k := 4) rfl ex67.symm (by decide) rfl (fun ls hl => ?_)
                      refine lv_goto (tgt := 41) hx hb dX2_list_70 (by decide) ?_
                      exact (hK0 _ _ _).mp (ih41 x67 v64na0_0 v64nfa0_3 _ _ _ (by have h0 := qx67; omega) (Int.le_trans zq4 bx67.1) bx67.2 bv64na0_0.1 bv64na0_0.2 bv64nfa0_3 hP hD hS (lv_sub hl [1, 2, 3, 4, 0] rfl))
                exact (hK0 _ _ _).mp (J41 10 0 j30a0_0 j30a0_3_a _ _ _ (by have h1 : (0 : Int) ≤ (0 : Int32).toInt := zq5; have h2 : (0 : Int32).toInt ≤ (0 : Int) := zq6; omega) zq5 (Int.le_trans zq6 zq7) bj30a0_0_l bj30a0_0_u bj30a0_3_a hP hD hS (lv_sub hl [1, 2, 3, 4, 0] rfl))
          exact (hK0 _ _ _).mp (J30 10 0 j20a0_0 j20a0_3_a _ _ _ (by have h1 : (0 : Int) ≤ (0 : Int32).toInt := zq5; have h2 : (0 : Int32).toInt ≤ (0 : Int) := zq6; omega) zq5 (Int.le_trans zq6 zq7) bj20a0_0_l bj20a0_0_u bj20a0_3_a hP hD hS (lv_sub hl [1, 2, 3, 0] rfl))
    exact (hK0 _ _ _).mp (J20 10 0 0 fa0_3 _ _ _ (by have h1 : (0 : Int) ≤ (0 : Int32).toInt := zq5; have h2 : (0 : Int32).toInt ≤ (0 : Int) := zq6; omega) zq5 (Int.le_trans zq6 zq7) zq5 (Int.le_trans zq6 zq35) bfa0_3 hP hD hS (lv_sub hl [1, 2, 0] rfl))
  · have gc4 := ai_ne c4
    have l4f_a0_5 : (1 : Int) ≤ a0_5.toInt := (by have h1 := ba0_5_l; have h2 : (0 : Int32).toInt = 0 := (by decide); rw [h2] at gc4; omega)
    exact W.vret hx hb hr (fun t ht hW => ⟨⟨(), rfl, trivial, a0_0, a0_5, fa0_3, ⟨ba0_0_l, ba0_0_u⟩, ⟨Int.le_trans (by decide) l4f_a0_5, ba0_5_u⟩, bfa0_3, by rw [ht]; exact hP, va_K.moved hW.alike hK, hD⟩, hS.F ht⟩) hS.2.2 dX2_list_7

set_option maxHeartbeats 4000000 in
set_option maxRecDepth 100000 in
theorem c_X2_mostOf (l : Launch) (dC : Nat → ClassId) (dI : Nat → Nat → Nat) (sz : Nat) (a0 : Nat) (a1 : Int32) (a0g_0 a0g_1 a0g_2 a0g_3 a0g_5 a0g_6 : Value) (a0_4 : Nat) (ka0_4 : ClassId) (fa0_4 : Nat → Int32) (ba1_l : (0 : Int) ≤ a1.toInt) (ba1_u : a1.toInt ≤ (99 : Int)) : Met l yX2_mostOf wsX2_mostOf ({ frames := 1, cells := 0, slots := 0, locals := 24 }) (va_Pc [.ref a0, .int a1] (ax_C dC dI sz [(a0, .inr (2, [a0g_0, a0g_1, a0g_2, a0g_3, .ref a0_4, a0g_5, a0g_6])), (a0_4, .inl (ka0_4, 900, .inl (fa0_4)))] [(ka0_4, .int)] (fun _ => True))) (va_Qi (fun (r : Int32) (_ : Unit) => True) (fun (_ : Unit) (t : State) => ax_B dC dI (va_A [(a0, .inr (2, [a0g_0, a0g_1, a0g_2, a0g_3, .ref a0_4, a0g_5, a0g_6])), (a0_4, .inl (ka0_4, 900, .inl (fa0_4)))] sz) [(a0, .inr (2, [a0g_0, a0g_1, a0g_2, a0g_3, .ref a0_4, a0g_5, a0g_6])), (a0_4, .inl (ka0_4, 900, .inl (fa0_4)))] [(ka0_4, .int)] t) (va_A [(a0, .inr (2, [a0g_0, a0g_1, a0g_2, a0g_3, .ref a0_4, a0g_5, a0g_6])), (a0_4, .inl (ka0_4, 900, .inl (fa0_4)))] sz)) 0 0 (va_A [(a0, .inr (2, [a0g_0, a0g_1, a0g_2, a0g_3, .ref a0_4, a0g_5, a0g_6])), (a0_4, .inl (ka0_4, 900, .inl (fa0_4)))] sz) := by
  refine Met.ofW (cc := cX2_mostOf) (maxL := 4) (ret := (some .int)) (by decide) rfl ?_
  intro p e s m args below meth c s₁ B hml hv
  obtain ⟨rfl, hsz, hP, hK, hD0, hE⟩ := hv
  have hx := B.exec
  have hb := B.bytes
  have hr := B.returns
  have hts := atoms_spec (ws := wsX2_mostOf) B.pre
  have hown : s.vm.findClass RX2 = some m.cls := findClass_of_methodNamed B.named
  have hlocks := B.notSynchronized
  subst hsz
  have hD := hD0.self (sz := s.heap.size)
  generalize hAe : va_A [(a0, .inr (2, [a0g_0, a0g_1, a0g_2, a0g_3, .ref a0_4, a0g_5, a0g_6])), (a0_4, .inl (ka0_4, 900, .inl (fa0_4)))] s.heap.size = A at hD ⊢
  have hA : ∀ q : Nat, s.heap.size ≤ q → A q := fun q h => by rw [← hAe]; exact Or.inr h
  have hS : va_S A s.heap s.heap [] := va_S.rf
  have hP : va_P (dC, dI) vwCl [(a0, .inr (2, [a0g_0, a0g_1, a0g_2, a0g_3, .ref a0_4, a0g_5, a0g_6])), (a0_4, .inl (ka0_4, 900, .inl (fa0_4)))] s.heap := hP
  have hl := lv_entry ([.ref a0, .int a1]) (n := 4) (Nat.le_of_ble_eq_true rfl)
  rw [lg_entry_eq]
  generalize (lg_sl ([.ref a0, .int a1]) ++ List.replicate (4 - (lg_sl ([.ref a0, .int a1])).length) Slot.unset).toArray = ls at hl ⊢
  have hl : lv_has ls 4 [(0, .ref a0), (1, .int a1)] := hl
  refine ai_open (fun K hK0 => ?_)
  refine (hK0 _ _ _).mpr ?_
  refine lv_iconst (v := 0) hx hb dX2_mostOf_0 zk_iconst_0 ?_
  refine lv_istore_n (lv' := [(2, .int 0), (0, .ref a0), (1, .int a1)]) hx hb dX2_mostOf_1 rfl hl (by decide) rfl (fun ls hl => ?_)
  refine lv_iconst (v := 0) hx hb dX2_mostOf_2 zk_iconst_0 ?_
  refine lv_istore_n (lv' := [(3, .int 0), (2, .int 0), (0, .ref a0), (1, .int a1)]) hx hb dX2_mostOf_3 rfl hl (by decide) rfl (fun ls hl => ?_)
  have J4 : ∀ (n : Nat) (j4l3 : Int32) (j4l2 : Int32) (H : Heap) (locs : List Loc) (ls : Array Slot), (10 : Int) - j4l3.toInt ≤ (n : Int) → (0 : Int) ≤ j4l3.toInt → j4l3.toInt ≤ (9 : Int) → va_P (dC, dI) vwCl [(a0, .inr (2, [a0g_0, a0g_1, a0g_2, a0g_3, .ref a0_4, a0g_5, a0g_6])), (a0_4, .inl (ka0_4, 900, .inl (fa0_4)))] H → va_D A [(a0, .inr (2, [a0g_0, a0g_1, a0g_2, a0g_3, .ref a0_4, a0g_5, a0g_6])), (a0_4, .inl (ka0_4, 900, .inl (fa0_4)))] → va_S A s.heap H locs → lv_has ls 4 [(0, .ref a0), (1, .int a1), (2, .int j4l2), (3, .int j4l3)] → K H locs (F0 m 4 ls []) := by
    intro n
    induction n with
    | zero =>
      intro j4l3 j4l2 H locs ls hm bj4l3_l bj4l3_u hP hD hS hl
      have h8 := ai_min j4l3
      have h9 := ai_max j4l3
      exact absurd hm (by omega)
    | succ n ih4 =>
      intro j4l3 j4l2 H locs ls hm bj4l3_l bj4l3_u hP hD hS hl
      refine (hK0 _ _ _).mpr ?_
      have hm4 := hm
      refine lv_iload_n hx hb dX2_mostOf_4 rfl (lv_at hl 3 rfl) ?_
      refine lv_bipush (v := 9) hx hb dX2_mostOf_5 zk_bipush_9 ?_
      refine lv_icmp_ge (tgt := 32) hx hb dX2_mostOf_7 (by decide) (fun c7 => ?_) (fun c7 => ?_)
      · have gc7 := ai_le c7
        have l7t_j4l3 : (9 : Int) ≤ j4l3.toInt := Int.le_trans zq2 gc7
        refine lv_iload_n hx hb dX2_mostOf_32 rfl (lv_at hl 2 rfl) ?_
        exact W.iret (v := j4l2) hx hb hr (fun t ht hW => ⟨⟨j4l2, (), rfl, trivial, by rw [ht]; exact hP, va_K.moved hW.alike hK, hD⟩, hS.F ht⟩) hS.2.2 dX2_mostOf_33
      · have gc7 := ai_nle c7
        have u7f_j4l3 : j4l3.toInt ≤ (8 : Int) := ai_lthi gc7 zq3
        refine lv_iload_n hx hb dX2_mostOf_10 rfl (lv_at hl 2 rfl) ?_
        refine lv_aload_n hx hb dX2_mostOf_11 rfl (lv_at hl 0 rfl) ?_
        refine va_get (D := (dC, dI)) (ci := 2) (v := .ref a0_4) (C := RX2) (T := TX2) (N := 7) hx hb hts zi_X2_mostOf_2 hown hK hP 0 rfl rfl 4 (by decide) (hts (.fieldLink RX2 15 "WaxTurns$Laws" "tallies" "[I") (List.mem_cons_of_mem _ (List.mem_append_left _ (List.mem_of_getElem? (i := 0) rfl)))) (fun _ h9 => h9) rfl dX2_mostOf_12 ?_
        refine lv_iload_n hx hb dX2_mostOf_15 rfl (lv_at hl 1 rfl) ?_
        refine lv_bipush (v := 9) hx hb dX2_mostOf_16 zk_bipush_9 ?_
        refine lv_imul hx hb dX2_mostOf_18 ?_
        refine lv_topi (fun x18 ex18 => ?_)
        have qx18 : x18.toInt = a1.toInt * (9 : Int32).toInt ∧ (0 : Int) ≤ x18.toInt ∧ x18.toInt ≤ 891 := ai_mul ex18 ⟨ba1_l, ba1_u⟩ ⟨zq2, zq3⟩ (by decide) (by decide) zq36
        have wx18 : x18.toInt = a1.toInt * 9 := qx18.1
        refine lv_iload_n hx hb dX2_mostOf_19 rfl (lv_at hl 3 rfl) ?_
        refine lv_iadd hx hb dX2_mostOf_20 ?_
        refine lv_topi (fun x20 ex20 => ?_)
        have qx20 : x20.toInt = x18.toInt + j4l3.toInt := ai_add ex20 ⟨qx18.2.1, qx18.2.2⟩ ⟨bj4l3_l, u7f_j4l3⟩ (by decide) (by decide)
        have bx20 : (0 : Int) ≤ x20.toInt ∧ x20.toInt ≤ 899 := ⟨by rw [qx20]; exact Int.add_le_add qx18.2.1 bj4l3_l, by rw [qx20]; exact Int.add_le_add qx18.2.2 u7f_j4l3⟩
        refine va_iald hx hb hK hP 1 0 rfl rfl (ai_in bx20.1 bx20.2 (by decide) (by decide)) dX2_mostOf_21 ?_
        refine lv_topi (fun x21 ex21 => ?_)
        refine va_mmax hx hb (by rw [hml]; exact hl.1.symm) hown (hts (.methodLink RX2 72 Lib.Math.max.name) (List.mem_cons_of_mem _ (List.mem_append_left _ (List.mem_of_getElem? (i := 1) rfl)))) (hts (.static Lib.Math.max.name) (List.mem_cons_of_mem _ (List.mem_append_left _ (List.mem_of_getElem? (i := 2) rfl)))) (hts (.initialized "java/lang/Math") (List.mem_cons_of_mem _ (List.mem_append_left _ (List.mem_of_getElem? (i := 3) rfl)))) (hts _ mxX2_mostOf) (Nat.le_of_ble_eq_true rfl) (Nat.le_of_ble_eq_true rfl) (Nat.le_of_ble_eq_true rfl) (Nat.le_of_ble_eq_true rfl) dX2_mostOf_22 ?_
        refine lv_topi (fun x22 ex22 => ?_)
        refine lv_istore_n (lv' := [(2, .int x22), (0, .ref a0), (1, .int a1), (3, .int j4l3)]) hx hb dX2_mostOf_25 rfl hl (by decide) rfl (fun ls hl => ?_)
        obtain ⟨x26, ex26⟩ : ∃ y : Int32, y = j4l3 + Int32.ofInt 1 := ⟨_, rfl⟩
        have qx26 : x26.toInt = j4l3.toInt + 1 := ai_inc ex26 (by decide) (by decide) u7f_j4l3 (by decide)
        have bx26 : (1 : Int) ≤ x26.toInt ∧ x26.toInt ≤ 9 := ⟨by rw [qx26]; exact Int.add_le_add bj4l3_l (Int.le_refl _), by rw [qx26]; exact Int.add_le_add u7f_j4l3 (Int.le_refl _)⟩
        refine lv_iinc (v := x26) (lv' := [(3, .int x26), (2, .int x22), (0, .ref a0), (1, .int a1)]) hx hb dX2_mostOf_26 hl (k := 3) rfl ex26.symm (by decide) rfl (fun ls hl => ?_)
        refine lv_goto (tgt := 4) hx hb dX2_mostOf_29 (by decide) ?_
        exact (hK0 _ _ _).mp (ih4 x26 x22 _ _ _ (by have h0 := qx26; omega) (Int.le_trans zq4 bx26.1) bx26.2 hP hD hS (lv_sub hl [2, 3, 1, 0] rfl))
  exact (hK0 _ _ _).mp (J4 10 0 0 _ _ _ (by have h1 : (0 : Int) ≤ (0 : Int32).toInt := zq5; have h2 : (0 : Int32).toInt ≤ (0 : Int) := zq6; omega) zq5 (Int.le_trans zq6 zq7) hP hD hS (lv_sub hl [2, 3, 1, 0] rfl))

set_option maxHeartbeats 4000000 in
set_option maxRecDepth 100000 in
theorem c_X2_tally (l : Launch) (dC : Nat → ClassId) (dI : Nat → Nat → Nat) (sz : Nat) (a0 : Nat) (a1 : Int32) (a2 : Int32) (a0_0 : Int32) (a0g_1 a0g_2 a0g_5 a0g_6 : Value) (a0_3 : Nat) (a0_4 : Nat) (ka0_4 : ClassId) (fa0_4 : Nat → Int32) (ka0_3 : ClassId) (fa0_3 : Nat → Int32) (ba1_l : (0 : Int) ≤ a1.toInt) (ba1_u : a1.toInt ≤ (9 : Int)) (ba0_0_l : (0 : Int) ≤ a0_0.toInt) (ba0_0_u : a0_0.toInt ≤ (729 : Int)) (bfa0_3 : (∀ k, (0 : Int) ≤ (fa0_3 k).toInt ∧ (fa0_3 k).toInt ≤ 888 ∧ (fa0_3 k).toInt % 10 ≤ 8)) : Met l yX2_tally wsX2_tally ({ frames := 0, cells := 0, slots := 0, locals := 0 }) (va_Pc [.ref a0, .int a1, .int a2] (ax_C dC dI sz [(a0, .inr (2, [.int a0_0, a0g_1, a0g_2, .ref a0_3, .ref a0_4, a0g_5, a0g_6])), (a0_4, .inl (ka0_4, 900, .inl (fa0_4))), (a0_3, .inl (ka0_3, 729, .inl (fa0_3)))] [(ka0_4, .int), (ka0_3, .int)] (fun _ => True))) (va_Qv (fun (_ : Unit) => True) (fun (_ : Unit) (t : State) => ∃ nfa0_4 : Nat → Int32, ax_B dC dI (va_A [(a0, .inr (2, [.int a0_0, a0g_1, a0g_2, .ref a0_3, .ref a0_4, a0g_5, a0g_6])), (a0_4, .inl (ka0_4, 900, .inl (fa0_4))), (a0_3, .inl (ka0_3, 729, .inl (fa0_3)))] sz) [(a0, .inr (2, [.int a0_0, a0g_1, a0g_2, .ref a0_3, .ref a0_4, a0g_5, a0g_6])), (a0_4, .inl (ka0_4, 900, .inl (nfa0_4))), (a0_3, .inl (ka0_3, 729, .inl (fa0_3)))] [(ka0_4, .int), (ka0_3, .int)] t) (va_A [(a0, .inr (2, [.int a0_0, a0g_1, a0g_2, .ref a0_3, .ref a0_4, a0g_5, a0g_6])), (a0_4, .inl (ka0_4, 900, .inl (fa0_4))), (a0_3, .inl (ka0_3, 729, .inl (fa0_3)))] sz)) 0 0 (va_A [(a0, .inr (2, [.int a0_0, a0g_1, a0g_2, .ref a0_3, .ref a0_4, a0g_5, a0g_6])), (a0_4, .inl (ka0_4, 900, .inl (fa0_4))), (a0_3, .inl (ka0_3, 729, .inl (fa0_3)))] sz) := by
  refine Met.ofW (cc := cX2_tally) (maxL := 8) (ret := none) (by decide) rfl ?_
  intro p e s m args below meth c s₁ B hml hv
  obtain ⟨rfl, hsz, hP, hK, hD0, hE⟩ := hv
  have hx := B.exec
  have hb := B.bytes
  have hr := B.returns
  have hts := atoms_spec (ws := wsX2_tally) B.pre
  have hown : s.vm.findClass RX2 = some m.cls := findClass_of_methodNamed B.named
  have hlocks := B.notSynchronized
  subst hsz
  have hD := hD0.self (sz := s.heap.size)
  generalize hAe : va_A [(a0, .inr (2, [.int a0_0, a0g_1, a0g_2, .ref a0_3, .ref a0_4, a0g_5, a0g_6])), (a0_4, .inl (ka0_4, 900, .inl (fa0_4))), (a0_3, .inl (ka0_3, 729, .inl (fa0_3)))] s.heap.size = A at hD ⊢
  have hA : ∀ q : Nat, s.heap.size ≤ q → A q := fun q h => by rw [← hAe]; exact Or.inr h
  have hS : va_S A s.heap s.heap [] := va_S.rf
  have hP : va_P (dC, dI) vwCl [(a0, .inr (2, [.int a0_0, a0g_1, a0g_2, .ref a0_3, .ref a0_4, a0g_5, a0g_6])), (a0_4, .inl (ka0_4, 900, .inl (fa0_4))), (a0_3, .inl (ka0_3, 729, .inl (fa0_3)))] s.heap := hP
  have hl := lv_entry ([.ref a0, .int a1, .int a2]) (n := 8) (Nat.le_of_ble_eq_true rfl)
  rw [lg_entry_eq]
  generalize (lg_sl ([.ref a0, .int a1, .int a2]) ++ List.replicate (8 - (lg_sl ([.ref a0, .int a1, .int a2])).length) Slot.unset).toArray = ls at hl ⊢
  have hl : lv_has ls 8 [(0, .ref a0), (1, .int a1), (2, .int a2)] := hl
  refine ai_open (fun K hK0 => ?_)
  refine (hK0 _ _ _).mpr ?_
  refine lv_iconst (v := 0) hx hb dX2_tally_0 zk_iconst_0 ?_
  refine lv_istore_n (lv' := [(3, .int 0), (0, .ref a0), (1, .int a1), (2, .int a2)]) hx hb dX2_tally_1 rfl hl (by decide) rfl (fun ls hl => ?_)
  have J2 : ∀ (n : Nat) (j2l3 : Int32) (j2a0_4_a : Nat → Int32) (H : Heap) (locs : List Loc) (ls : Array Slot), (901 : Int) - j2l3.toInt ≤ (n : Int) → (0 : Int) ≤ j2l3.toInt → j2l3.toInt ≤ (900 : Int) → va_P (dC, dI) vwCl [(a0, .inr (2, [.int a0_0, a0g_1, a0g_2, .ref a0_3, .ref a0_4, a0g_5, a0g_6])), (a0_4, .inl (ka0_4, 900, .inl (j2a0_4_a))), (a0_3, .inl (ka0_3, 729, .inl (fa0_3)))] H → va_D A [(a0, .inr (2, [.int a0_0, a0g_1, a0g_2, .ref a0_3, .ref a0_4, a0g_5, a0g_6])), (a0_4, .inl (ka0_4, 900, .inl (j2a0_4_a))), (a0_3, .inl (ka0_3, 729, .inl (fa0_3)))] → va_S A s.heap H locs → lv_has ls 8 [(0, .ref a0), (1, .int a1), (2, .int a2), (3, .int j2l3)] → K H locs (F0 m 2 ls []) := by
    intro n
    induction n with
    | zero =>
      intro j2l3 j2a0_4_a H locs ls hm bj2l3_l bj2l3_u hP hD hS hl
      have h8 := ai_min j2l3
      have h9 := ai_max j2l3
      exact absurd hm (by omega)
    | succ n ih2 =>
      intro j2l3 j2a0_4_a H locs ls hm bj2l3_l bj2l3_u hP hD hS hl
      refine (hK0 _ _ _).mpr ?_
      have hm2 := hm
      refine lv_iload_n hx hb dX2_tally_2 rfl (lv_at hl 3 rfl) ?_
      refine lv_aload_n hx hb dX2_tally_3 rfl (lv_at hl 0 rfl) ?_
      refine va_get (D := (dC, dI)) (ci := 2) (v := .ref a0_4) (C := RX2) (T := TX2) (N := 7) hx hb hts zi_X2_tally_2 hown hK hP 0 rfl rfl 4 (by decide) (hts (.fieldLink RX2 15 "WaxTurns$Laws" "tallies" "[I") (List.mem_cons_of_mem _ (List.mem_append_left _ (List.mem_of_getElem? (i := 0) rfl)))) (fun _ h9 => h9) rfl dX2_tally_4 ?_
      refine va_alen hx hb hK hP 1 0 rfl rfl (v := 900) rfl dX2_tally_7 ?_
      refine lv_icmp_ge (tgt := 24) hx hb dX2_tally_8 (by decide) (fun c8 => ?_) (fun c8 => ?_)
      · have gc8 := ai_le c8
        have l8t_j2l3 : (900 : Int) ≤ j2l3.toInt := Int.le_trans zq37 gc8
        refine lv_iload_n hx hb dX2_tally_24 rfl (lv_at hl 1 rfl) ?_
        refine lv_if_le (tgt := 34) hx hb dX2_tally_25 (by decide) (fun c25 => ?_) (fun c25 => ?_)
        · have gc25 := ai_le c25
          have u25t_a1 : a1.toInt ≤ (0 : Int) := Int.le_trans gc25 zq6
          exact W.vret hx hb hr (fun t ht hW => ⟨⟨(), rfl, trivial, j2a0_4_a, by rw [ht]; exact hP, va_K.moved hW.alike hK, hD⟩, hS.F ht⟩) hS.2.2 dX2_tally_34
        · have gc25 := ai_nle c25
          have l25f_a1 : (1 : Int) ≤ a1.toInt := ai_ltlo gc25 zq5
          refine lv_iload_n hx hb dX2_tally_28 rfl (lv_at hl 2 rfl) ?_
          refine lv_bipush (v := 100) hx hb dX2_tally_29 zk_bipush_100 ?_
          refine lv_icmp_le (tgt := 35) hx hb dX2_tally_31 (by decide) (fun c31 => ?_) (fun c31 => ?_)
          · have gc31 := ai_le c31
            have u31t_a2 : a2.toInt ≤ (100 : Int) := Int.le_trans gc31 zq32
            refine lv_iconst (v := 0) hx hb dX2_tally_35 zk_iconst_0 ?_
            refine lv_istore_n (lv' := [(3, .int 0), (0, .ref a0), (1, .int a1), (2, .int a2)]) hx hb dX2_tally_36 rfl hl (by decide) rfl (fun ls hl => ?_)
            have J37 : ∀ (n : Nat) (j37l3 : Int32) (j37a0_4_a : Nat → Int32) (H : Heap) (locs : List Loc) (ls : Array Slot), (730 : Int) - j37l3.toInt ≤ (n : Int) → (0 : Int) ≤ j37l3.toInt → j37l3.toInt ≤ (729 : Int) → va_P (dC, dI) vwCl [(a0, .inr (2, [.int a0_0, a0g_1, a0g_2, .ref a0_3, .ref a0_4, a0g_5, a0g_6])), (a0_4, .inl (ka0_4, 900, .inl (j37a0_4_a))), (a0_3, .inl (ka0_3, 729, .inl (fa0_3)))] H → va_D A [(a0, .inr (2, [.int a0_0, a0g_1, a0g_2, .ref a0_3, .ref a0_4, a0g_5, a0g_6])), (a0_4, .inl (ka0_4, 900, .inl (j37a0_4_a))), (a0_3, .inl (ka0_3, 729, .inl (fa0_3)))] → va_S A s.heap H locs → lv_has ls 8 [(0, .ref a0), (1, .int a1), (2, .int a2), (3, .int j37l3)] → K H locs (F0 m 37 ls []) := by
              intro n
              induction n with
              | zero =>
                intro j37l3 j37a0_4_a H locs ls hm bj37l3_l bj37l3_u hP hD hS hl
                have h8 := ai_min j37l3
                have h9 := ai_max j37l3
                exact absurd hm (by omega)
              | succ n ih37 =>
                intro j37l3 j37a0_4_a H locs ls hm bj37l3_l bj37l3_u hP hD hS hl
                refine (hK0 _ _ _).mpr ?_
                have hm37 := hm
                refine lv_iload_n hx hb dX2_tally_37 rfl (lv_at hl 3 rfl) ?_
                refine lv_aload_n hx hb dX2_tally_38 rfl (lv_at hl 0 rfl) ?_
                refine va_get (D := (dC, dI)) (ci := 2) (v := .int a0_0) (C := RX2) (T := TX2) (N := 7) hx hb hts zi_X2_tally_2 hown hK hP 0 rfl rfl 0 (by decide) (hts (.fieldLink RX2 25 "WaxTurns$Laws" "fitCount" "I") (List.mem_cons_of_mem _ (List.mem_append_left _ (List.mem_of_getElem? (i := 1) rfl)))) (fun _ h9 => h9) rfl dX2_tally_39 ?_
                refine lv_icmp_ge (tgt := 131) hx hb dX2_tally_42 (by decide) (fun c42 => ?_) (fun c42 => ?_)
                · have gc42 := ai_le c42
                  have u42t_a0_0 : a0_0.toInt ≤ (729 : Int) := ba0_0_u
                  have l42t_j37l3 : (0 : Int) ≤ j37l3.toInt := bj37l3_l
                  exact W.vret hx hb hr (fun t ht hW => ⟨⟨(), rfl, trivial, j37a0_4_a, by rw [ht]; exact hP, va_K.moved hW.alike hK, hD⟩, hS.F ht⟩) hS.2.2 dX2_tally_131
                · have gc42 := ai_nle c42
                  have u42f_j37l3 : j37l3.toInt ≤ (728 : Int) := ai_lthi gc42 ba0_0_u
                  have l42f_a0_0 : (1 : Int) ≤ a0_0.toInt := ai_ltlo gc42 bj37l3_l
                  refine lv_aload_n hx hb dX2_tally_45 rfl (lv_at hl 0 rfl) ?_
                  refine va_get (D := (dC, dI)) (ci := 2) (v := .ref a0_3) (C := RX2) (T := TX2) (N := 7) hx hb hts zi_X2_tally_2 hown hK hP 0 rfl rfl 3 (by decide) (hts (.fieldLink RX2 9 "WaxTurns$Laws" "fitting" "[I") (List.mem_cons_of_mem _ (List.mem_append_left _ (List.mem_of_getElem? (i := 2) rfl)))) (fun _ h9 => h9) rfl dX2_tally_46 ?_
                  refine lv_iload_n hx hb dX2_tally_49 rfl (lv_at hl 3 rfl) ?_
                  refine va_iald hx hb hK hP 2 1 rfl rfl (ai_in bj37l3_l u42f_j37l3 (by decide) (by decide)) dX2_tally_50 ?_
                  refine lv_topi (fun x50 ex50 => ?_)
                  have bx50 : (0 : Int) ≤ x50.toInt ∧ x50.toInt ≤ 888 ∧ x50.toInt % 10 ≤ 8 := by rw [ex50]; exact bfa0_3 _
                  refine lv_bipush (v := 100) hx hb dX2_tally_51 zk_bipush_100 ?_
                  refine lv_idiv hx hb dX2_tally_53 (by decide +kernel) ?_
                  refine lv_topi (fun x53 ex53 => ?_)
                  have qx53 := ai_div ex53 ⟨bx50.1, bx50.2.1⟩ (Int.lt_of_lt_of_le zq23 zq24)
                  have u53z_x53 : x53.toInt ≤ (8 : Int) := (by have h1 := qx53.1; have h2 := bx50.2.1; have h3 : (100 : Int32).toInt = 100 := (by decide); rw [h3] at h1; omega)
                  refine lv_istore (lv' := [(4, .int x53), (0, .ref a0), (1, .int a1), (2, .int a2), (3, .int j37l3)]) hx hb dX2_tally_54 hl (by decide) rfl (fun ls hl => ?_)
                  refine lv_aload_n hx hb dX2_tally_56 rfl (lv_at hl 1 rfl) ?_
                  refine va_get (D := (dC, dI)) (ci := 2) (v := .ref a0_3) (C := RX2) (T := TX2) (N := 7) hx hb hts zi_X2_tally_2 hown hK hP 0 rfl rfl 3 (by decide) (hts (.fieldLink RX2 9 "WaxTurns$Laws" "fitting" "[I") (List.mem_cons_of_mem _ (List.mem_append_left _ (List.mem_of_getElem? (i := 2) rfl)))) (fun _ h9 => h9) rfl dX2_tally_57 ?_
                  refine lv_iload_n hx hb dX2_tally_60 rfl (lv_at hl 4 rfl) ?_
                  refine va_iald hx hb hK hP 2 1 rfl rfl (ai_in bj37l3_l u42f_j37l3 (by decide) (by decide)) dX2_tally_61 ?_
                  refine ax_ti x50 ex50.symm ?_
                  refine lv_bipush (v := 10) hx hb dX2_tally_62 zk_bipush_10 ?_
                  refine lv_idiv hx hb dX2_tally_64 (by decide +kernel) ?_
                  refine lv_topi (fun x64 ex64 => ?_)
                  have qx64 := ai_div ex64 ⟨bx50.1, bx50.2.1⟩ (Int.lt_of_lt_of_le zq25 zq26)
                  have u64z_x64 : x64.toInt ≤ (88 : Int) := (by have h1 := qx64.1; have h2 := bx50.2.1; have h3 : (10 : Int32).toInt = 10 := (by decide); rw [h3] at h1; omega)
                  refine lv_bipush (v := 10) hx hb dX2_tally_65 zk_bipush_10 ?_
                  refine lv_irem hx hb dX2_tally_67 (by decide +kernel) ?_
                  refine lv_topi (fun x67 ex67 => ?_)
                  have qx67 := ai_rem2 ex67 qx64.2.1 (Int.lt_of_lt_of_le zq25 zq26) zq27
                  have wx67 : x67.toInt = x64.toInt % 10 := qx67.1
                  refine lv_istore (lv' := [(5, .int x67), (4, .int x53), (0, .ref a0), (1, .int a1), (2, .int a2), (3, .int j37l3)]) hx hb dX2_tally_68 hl (by decide) rfl (fun ls hl => ?_)
                  refine lv_aload_n hx hb dX2_tally_70 rfl (lv_at hl 2 rfl) ?_
                  refine va_get (D := (dC, dI)) (ci := 2) (v := .ref a0_3) (C := RX2) (T := TX2) (N := 7) hx hb hts zi_X2_tally_2 hown hK hP 0 rfl rfl 3 (by decide) (hts (.fieldLink RX2 9 "WaxTurns$Laws" "fitting" "[I") (List.mem_cons_of_mem _ (List.mem_append_left _ (List.mem_of_getElem? (i := 2) rfl)))) (fun _ h9 => h9) rfl dX2_tally_71 ?_
                  refine lv_iload_n hx hb dX2_tally_74 rfl (lv_at hl 5 rfl) ?_
                  refine va_iald hx hb hK hP 2 1 rfl rfl (ai_in bj37l3_l u42f_j37l3 (by decide) (by decide)) dX2_tally_75 ?_
                  refine ax_ti x50 ex50.symm ?_
                  refine lv_bipush (v := 10) hx hb dX2_tally_76 zk_bipush_10 ?_
                  refine lv_irem hx hb dX2_tally_78 (by decide +kernel) ?_
                  refine lv_topi (fun x78 ex78 => ?_)
                  have qx78 := ai_rem2 ex78 bx50.1 (Int.lt_of_lt_of_le zq25 zq26) zq27
                  have wx78 : x78.toInt = x50.toInt % 10 := qx78.1
                  have u78z_x78 : x78.toInt ≤ (8 : Int) := by rw [wx78]; exact bx50.2.2
                  refine lv_istore (lv' := [(6, .int x78), (5, .int x67), (4, .int x53), (0, .ref a0), (1, .int a1), (2, .int a2), (3, .int j37l3)]) hx hb dX2_tally_79 hl (by decide) rfl (fun ls hl => ?_)
                  refine lv_iconst (v := 0) hx hb dX2_tally_81 zk_iconst_0 ?_
                  refine lv_istore (lv' := [(7, .int 0), (6, .int x78), (5, .int x67), (4, .int x53), (0, .ref a0), (1, .int a1), (2, .int a2), (3, .int j37l3)]) hx hb dX2_tally_82 hl (by decide) rfl (fun ls hl => ?_)
                  have J84 : ∀ (n : Nat) (j84l7 : Int32) (j84l6 : Int32) (j84a0_4_a : Nat → Int32) (H : Heap) (locs : List Loc) (ls : Array Slot), (101 : Int) - j84l7.toInt ≤ (n : Int) → (0 : Int) ≤ j84l7.toInt → j84l7.toInt ≤ (100 : Int) → (0 : Int) ≤ j84l6.toInt → j84l6.toInt ≤ (8 : Int) → va_P (dC, dI) vwCl [(a0, .inr (2, [.int a0_0, a0g_1, a0g_2, .ref a0_3, .ref a0_4, a0g_5, a0g_6])), (a0_4, .inl (ka0_4, 900, .inl (j84a0_4_a))), (a0_3, .inl (ka0_3, 729, .inl (fa0_3)))] H → va_D A [(a0, .inr (2, [.int a0_0, a0g_1, a0g_2, .ref a0_3, .ref a0_4, a0g_5, a0g_6])), (a0_4, .inl (ka0_4, 900, .inl (j84a0_4_a))), (a0_3, .inl (ka0_3, 729, .inl (fa0_3)))] → va_S A s.heap H locs → lv_has ls 8 [(0, .ref a0), (1, .int a1), (2, .int a2), (3, .int j37l3), (4, .int x53), (5, .int x67), (6, .int j84l6), (7, .int j84l7)] → K H locs (F0 m 84 ls []) := by
                    intro n
                    induction n with
                    | zero =>
                      intro j84l7 j84l6 j84a0_4_a H locs ls hm bj84l7_l bj84l7_u bj84l6_l bj84l6_u hP hD hS hl
                      have h8 := ai_min j84l7
                      have h9 := ai_max j84l7
                      exact absurd hm (by omega)
                    | succ n ih84 =>
                      intro j84l7 j84l6 j84a0_4_a H locs ls hm bj84l7_l bj84l7_u bj84l6_l bj84l6_u hP hD hS hl
                      refine (hK0 _ _ _).mpr ?_
                      have hm84 := hm
                      refine lv_iload hx hb dX2_tally_84 (lv_at hl 7 rfl) ?_
                      refine lv_iload_n hx hb dX2_tally_86 rfl (lv_at hl 2 rfl) ?_
                      refine lv_icmp_ge (tgt := 125) hx hb dX2_tally_87 (by decide) (fun c87 => ?_) (fun c87 => ?_)
                      · have gc87 := ai_le c87
                        have u87t_a2 : a2.toInt ≤ (100 : Int) := u31t_a2
                        obtain ⟨x125, ex125⟩ : ∃ y : Int32, y = j37l3 + Int32.ofInt 1 := ⟨_, rfl⟩
                        have qx125 : x125.toInt = j37l3.toInt + 1 := ai_inc ex125 (by decide) (by decide) u42f_j37l3 (by decide)
                        have bx125 : (1 : Int) ≤ x125.toInt ∧ x125.toInt ≤ 729 := ⟨by rw [qx125]; exact Int.add_le_add bj37l3_l (Int.le_refl _), by rw [qx125]; exact Int.add_le_add u42f_j37l3 (Int.le_refl _)⟩
                        refine lv_iinc (v := x125) (lv' := [(3, .int x125), (0, .ref a0), (1, .int a1), (2, .int a2), (4, .int x53), (5, .int x67), (6, .int j84l6), (7, .int j84l7)]) hx hb dX2_tally_125 hl (k := 3) rfl ex125.symm (by decide) rfl (fun ls hl => ?_)
                        refine lv_goto (tgt := 37) hx hb dX2_tally_128 (by decide) ?_
                        exact (hK0 _ _ _).mp (ih37 x125 j84a0_4_a _ _ _ (by have h0 := qx125; omega) (Int.le_trans zq4 bx125.1) bx125.2 hP hD hS (lv_sub hl [1, 2, 3, 0] rfl))
                      · have gc87 := ai_nle c87
                        have u87f_j84l7 : j84l7.toInt ≤ (99 : Int) := ai_lthi gc87 u31t_a2
                        have l87f_a2 : (1 : Int) ≤ a2.toInt := ai_ltlo gc87 bj84l7_l
                        refine lv_aload_n hx hb dX2_tally_90 rfl (lv_at hl 0 rfl) ?_
                        refine va_get (D := (dC, dI)) (ci := 2) (v := .ref a0_4) (C := RX2) (T := TX2) (N := 7) hx hb hts zi_X2_tally_2 hown hK hP 0 rfl rfl 4 (by decide) (hts (.fieldLink RX2 15 "WaxTurns$Laws" "tallies" "[I") (List.mem_cons_of_mem _ (List.mem_append_left _ (List.mem_of_getElem? (i := 0) rfl)))) (fun _ h9 => h9) rfl dX2_tally_91 ?_
                        refine lv_iload hx hb dX2_tally_94 (lv_at hl 7 rfl) ?_
                        refine lv_bipush (v := 9) hx hb dX2_tally_96 zk_bipush_9 ?_
                        refine lv_imul hx hb dX2_tally_98 ?_
                        refine lv_topi (fun x98 ex98 => ?_)
                        have qx98 : x98.toInt = j84l7.toInt * (9 : Int32).toInt ∧ (0 : Int) ≤ x98.toInt ∧ x98.toInt ≤ 891 := ai_mul ex98 ⟨bj84l7_l, u87f_j84l7⟩ ⟨zq2, zq3⟩ (by decide) (by decide) zq36
                        have wx98 : x98.toInt = j84l7.toInt * 9 := qx98.1
                        refine lv_iload hx hb dX2_tally_99 (lv_at hl 6 rfl) ?_
                        refine lv_iadd hx hb dX2_tally_101 ?_
                        refine lv_topi (fun x101 ex101 => ?_)
                        have qx101 : x101.toInt = x98.toInt + j84l6.toInt := ai_add ex101 ⟨qx98.2.1, qx98.2.2⟩ ⟨bj84l6_l, bj84l6_u⟩ (by decide) (by decide)
                        have bx101 : (0 : Int) ≤ x101.toInt ∧ x101.toInt ≤ 899 := ⟨by rw [qx101]; exact Int.add_le_add qx98.2.1 bj84l6_l, by rw [qx101]; exact Int.add_le_add qx98.2.2 bj84l6_u⟩
                        refine lv_dup2_11 hx hb dX2_tally_102 rfl rfl ?_
                        refine va_iald hx hb hK hP 1 0 rfl rfl (ai_in bx101.1 bx101.2 (by decide) (by decide)) dX2_tally_103 ?_
                        refine lv_topi (fun x103 ex103 => ?_)
                        refine lv_iconst (v := 1) hx hb dX2_tally_104 zk_iconst_1 ?_
                        refine lv_iadd hx hb dX2_tally_105 ?_
                        refine lv_topi (fun x105 ex105 => ?_)
                        refine va_iast hx hb hK hP hD hS 1 0 rfl rfl (ai_in bx101.1 bx101.2 (by decide) (by decide)) dX2_tally_106 (fun H locs hP hD hS => ?_)
                        obtain ⟨f106, hP, hD⟩ : ∃ f106 : Nat → Int32, va_P (dC, dI) vwCl [(a0, .inr (2, [.int a0_0, a0g_1, a0g_2, .ref a0_3, .ref a0_4, a0g_5, a0g_6])), (a0_4, .inl (ka0_4, 900, .inl (f106))), (a0_3, .inl (ka0_3, 729, .inl (fa0_3)))] H ∧ va_D A [(a0, .inr (2, [.int a0_0, a0g_1, a0g_2, .ref a0_3, .ref a0_4, a0g_5, a0g_6])), (a0_4, .inl (ka0_4, 900, .inl (f106))), (a0_3, .inl (ka0_3, 729, .inl (fa0_3)))] := ⟨_, hP, hD⟩
                        refine lv_iload hx hb dX2_tally_107 (lv_at hl 6 rfl) ?_
                        refine lv_iload hx hb dX2_tally_109 (lv_at hl 4 rfl) ?_
                        refine lv_imul hx hb dX2_tally_111 ?_
                        refine lv_topi (fun x111 ex111 => ?_)
                        have qx111 : x111.toInt = j84l6.toInt * x53.toInt ∧ (0 : Int) ≤ x111.toInt ∧ x111.toInt ≤ 64 := ai_mul ex111 ⟨bj84l6_l, bj84l6_u⟩ ⟨qx53.2.1, u53z_x53⟩ (by decide) (by decide) zq18
                        refine lv_iload hx hb dX2_tally_112 (lv_at hl 5 rfl) ?_
                        refine lv_iadd hx hb dX2_tally_114 ?_
                        refine lv_topi (fun x114 ex114 => ?_)
                        have qx114 : x114.toInt = x111.toInt + x67.toInt := ai_add ex114 ⟨qx111.2.1, qx111.2.2⟩ ⟨qx67.2.1, qx67.2.2⟩ (by decide) (by decide)
                        have bx114 : (0 : Int) ≤ x114.toInt ∧ x114.toInt ≤ 73 := ⟨by rw [qx114]; exact Int.add_le_add qx111.2.1 qx67.2.1, by rw [qx114]; exact Int.add_le_add qx111.2.2 qx67.2.2⟩
                        refine lv_iload_n hx hb dX2_tally_115 rfl (lv_at hl 1 rfl) ?_
                        refine lv_irem hx hb dX2_tally_116 (ai_nz l25f_a1 (by decide)) ?_
                        refine lv_topi (fun x116 ex116 => ?_)
                        have qx116 := ai_rem2 ex116 bx114.1 (Int.lt_of_lt_of_le zq19 l25f_a1) ba1_u
                        refine lv_istore (lv' := [(6, .int x116), (0, .ref a0), (1, .int a1), (2, .int a2), (3, .int j37l3), (4, .int x53), (5, .int x67), (7, .int j84l7)]) hx hb dX2_tally_117 hl (by decide) rfl (fun ls hl => ?_)
                        obtain ⟨x119, ex119⟩ : ∃ y : Int32, y = j84l7 + Int32.ofInt 1 := ⟨_, rfl⟩
                        have qx119 : x119.toInt = j84l7.toInt + 1 := ai_inc ex119 (by decide) (by decide) u87f_j84l7 (by decide)
                        have bx119 : (1 : Int) ≤ x119.toInt ∧ x119.toInt ≤ 100 := ⟨by rw [qx119]; exact Int.add_le_add bj84l7_l (Int.le_refl _), by rw [qx119]; exact Int.add_le_add u87f_j84l7 (Int.le_refl _)⟩
                        refine lv_iinc (v := x119) (lv' := [(7, .int x119), (6, .int x116), (0, .ref a0), (1, .int a1), (2, .int a2), (3, .int j37l3), (4, .int x53), (5, .int x67)]) hx hb dX2_tally_119 hl (k := 7) rfl ex119.symm (by decide) rfl (fun ls hl => ?_)
                        refine lv_goto (tgt := 84) hx hb dX2_tally_122 (by decide) ?_
                        exact (hK0 _ _ _).mp (ih84 x119 x116 f106 _ _ _ (by have h0 := qx119; omega) (Int.le_trans zq4 bx119.1) bx119.2 qx116.2.1 qx116.2.2 hP hD hS (lv_sub hl [2, 3, 4, 5, 6, 7, 1, 0] rfl))
                  exact (hK0 _ _ _).mp (J84 101 0 x78 j37a0_4_a _ _ _ (by have h1 : (0 : Int) ≤ (0 : Int32).toInt := zq5; have h2 : (0 : Int32).toInt ≤ (0 : Int) := zq6; omega) zq5 (Int.le_trans zq6 zq38) qx78.2.1 u78z_x78 hP hD hS (lv_sub hl [4, 5, 6, 7, 3, 2, 1, 0] rfl))
            exact (hK0 _ _ _).mp (J37 730 0 j2a0_4_a _ _ _ (by have h1 : (0 : Int) ≤ (0 : Int32).toInt := zq5; have h2 : (0 : Int32).toInt ≤ (0 : Int) := zq6; omega) zq5 (Int.le_trans zq6 zq35) hP hD hS (lv_sub hl [1, 2, 3, 0] rfl))
          · have gc31 := ai_nle c31
            have l31f_a2 : (101 : Int) ≤ a2.toInt := ai_ltlo gc31 zq24
            exact W.vret hx hb hr (fun t ht hW => ⟨⟨(), rfl, trivial, j2a0_4_a, by rw [ht]; exact hP, va_K.moved hW.alike hK, hD⟩, hS.F ht⟩) hS.2.2 dX2_tally_34
      · have gc8 := ai_nle c8
        have u8f_j2l3 : j2l3.toInt ≤ (899 : Int) := ai_lthi gc8 zq39
        refine lv_aload_n hx hb dX2_tally_11 rfl (lv_at hl 0 rfl) ?_
        refine va_get (D := (dC, dI)) (ci := 2) (v := .ref a0_4) (C := RX2) (T := TX2) (N := 7) hx hb hts zi_X2_tally_2 hown hK hP 0 rfl rfl 4 (by decide) (hts (.fieldLink RX2 15 "WaxTurns$Laws" "tallies" "[I") (List.mem_cons_of_mem _ (List.mem_append_left _ (List.mem_of_getElem? (i := 0) rfl)))) (fun _ h9 => h9) rfl dX2_tally_12 ?_
        refine lv_iload_n hx hb dX2_tally_15 rfl (lv_at hl 3 rfl) ?_
        refine lv_iconst (v := 0) hx hb dX2_tally_16 zk_iconst_0 ?_
        refine va_iast hx hb hK hP hD hS 1 0 rfl rfl (ai_in bj2l3_l u8f_j2l3 (by decide) (by decide)) dX2_tally_17 (fun H locs hP hD hS => ?_)
        obtain ⟨f17, hP, hD⟩ : ∃ f17 : Nat → Int32, va_P (dC, dI) vwCl [(a0, .inr (2, [.int a0_0, a0g_1, a0g_2, .ref a0_3, .ref a0_4, a0g_5, a0g_6])), (a0_4, .inl (ka0_4, 900, .inl (f17))), (a0_3, .inl (ka0_3, 729, .inl (fa0_3)))] H ∧ va_D A [(a0, .inr (2, [.int a0_0, a0g_1, a0g_2, .ref a0_3, .ref a0_4, a0g_5, a0g_6])), (a0_4, .inl (ka0_4, 900, .inl (f17))), (a0_3, .inl (ka0_3, 729, .inl (fa0_3)))] := ⟨_, hP, hD⟩
        obtain ⟨x18, ex18⟩ : ∃ y : Int32, y = j2l3 + Int32.ofInt 1 := ⟨_, rfl⟩
        have qx18 : x18.toInt = j2l3.toInt + 1 := ai_inc ex18 (by decide) (by decide) u8f_j2l3 (by decide)
        have bx18 : (1 : Int) ≤ x18.toInt ∧ x18.toInt ≤ 900 := ⟨by rw [qx18]; exact Int.add_le_add bj2l3_l (Int.le_refl _), by rw [qx18]; exact Int.add_le_add u8f_j2l3 (Int.le_refl _)⟩
        refine lv_iinc (v := x18) (lv' := [(3, .int x18), (0, .ref a0), (1, .int a1), (2, .int a2)]) hx hb dX2_tally_18 hl (k := 3) rfl ex18.symm (by decide) rfl (fun ls hl => ?_)
        refine lv_goto (tgt := 2) hx hb dX2_tally_21 (by decide) ?_
        exact (hK0 _ _ _).mp (ih2 x18 f17 _ _ _ (by have h0 := qx18; omega) (Int.le_trans zq4 bx18.1) bx18.2 hP hD hS (lv_sub hl [1, 2, 3, 0] rfl))
  exact (hK0 _ _ _).mp (J2 901 0 fa0_4 _ _ _ (by have h1 : (0 : Int) ≤ (0 : Int32).toInt := zq5; have h2 : (0 : Int32).toInt ≤ (0 : Int) := zq6; omega) zq5 (Int.le_trans zq6 zq40) hP hD hS (lv_sub hl [1, 2, 3, 0] rfl))

set_option maxHeartbeats 4000000 in
set_option maxRecDepth 100000 in
theorem c_X2_chooseLook (l : Launch) (dC : Nat → ClassId) (dI : Nat → Nat → Nat) (sz : Nat) (a0 : Nat) (a1 : Nat) (a0_0 : Int32) (a0_1 : Int32) (a0_2 : Int32) (a0_3 : Nat) (a0_4 : Nat) (a0_5 : Int32) (a0_6 : Int32) (a1_0 : Int32) (a1_1 : Int32) (a1g_2 a1g_3 a1g_4 a1g_5 a1g_6 a1g_7 a1g_8 a1g_10 a1g_11 a1g_14 : Value) (a1_9 : Int32) (a1_12 : Nat) (a1_13 : Nat) (ka0_3 : ClassId) (fa0_3 : Nat → Int32) (ka1_13 : ClassId) (fa1_13 : Nat → Int32) (ka1_12 : ClassId) (fa1_12 : Nat → Int32) (ka0_4 : ClassId) (fa0_4 : Nat → Int32) (ba0_0_l : (0 : Int) ≤ a0_0.toInt) (ba0_0_u : a0_0.toInt ≤ (729 : Int)) (ba0_5_l : (0 : Int) ≤ a0_5.toInt) (ba0_5_u : a0_5.toInt ≤ (1 : Int)) (ba0_6_l : (0 : Int) ≤ a0_6.toInt) (ba0_6_u : a0_6.toInt ≤ (1 : Int)) (ba1_0_l : (0 : Int) ≤ a1_0.toInt) (ba1_0_u : a1_0.toInt ≤ (9 : Int)) (ba1_9_l : (0 : Int) ≤ a1_9.toInt) (ba1_9_u : a1_9.toInt ≤ (6 : Int)) (bfa0_3 : (∀ k, (0 : Int) ≤ (fa0_3 k).toInt ∧ (fa0_3 k).toInt ≤ 888 ∧ (fa0_3 k).toInt % 10 ≤ 8)) (bfa1_13 : (∀ k, (0 : Int) ≤ (fa1_13 k).toInt ∧ (fa1_13 k).toInt ≤ 999)) : Met l yX2_chooseLook wsX2_chooseLook ({ frames := 4, cells := 0, slots := 0, locals := 98 }) (va_Pc [.ref a0, .ref a1] (ax_C dC dI sz [(a0, .inr (2, [.int a0_0, .int a0_1, .int a0_2, .ref a0_3, .ref a0_4, .int a0_5, .int a0_6])), (a1, .inr (0, [.int a1_0, .int a1_1, a1g_2, a1g_3, a1g_4, a1g_5, a1g_6, a1g_7, a1g_8, .int a1_9, a1g_10, a1g_11, .ref a1_12, .ref a1_13, a1g_14])), (a0_3, .inl (ka0_3, 729, .inl (fa0_3))), (a1_13, .inl (ka1_13, 6, .inl (fa1_13))), (a1_12, .inl (ka1_12, 6, .inl (fa1_12))), (a0_4, .inl (ka0_4, 900, .inl (fa0_4)))] [(ka0_3, .int), (ka1_13, .int), (ka1_12, .int), (ka0_4, .int)] (fun U => va_Nw (.methodLinkNest RX0 72 yX7_laterTurn RX7) U))) (va_Qv (fun (_ : Unit) => True) (fun (_ : Unit) (t : State) => ∃ na0_0 : Int32, ∃ na0_1 : Int32, ∃ na0_2 : Int32, ∃ na0_5 : Int32, ∃ na0_6 : Int32, ∃ nfa0_3 : Nat → Int32, ∃ nfa0_4 : Nat → Int32, ((0 : Int) ≤ na0_0.toInt ∧ na0_0.toInt ≤ 729) ∧ ((0 : Int) ≤ na0_5.toInt ∧ na0_5.toInt ≤ 1) ∧ ((0 : Int) ≤ na0_6.toInt ∧ na0_6.toInt ≤ 1) ∧ (∀ k, (0 : Int) ≤ (nfa0_3 k).toInt ∧ (nfa0_3 k).toInt ≤ 888 ∧ (nfa0_3 k).toInt % 10 ≤ 8) ∧ ax_B dC dI (va_A [(a0, .inr (2, [.int a0_0, .int a0_1, .int a0_2, .ref a0_3, .ref a0_4, .int a0_5, .int a0_6])), (a1, .inr (0, [.int a1_0, .int a1_1, a1g_2, a1g_3, a1g_4, a1g_5, a1g_6, a1g_7, a1g_8, .int a1_9, a1g_10, a1g_11, .ref a1_12, .ref a1_13, a1g_14])), (a0_3, .inl (ka0_3, 729, .inl (fa0_3))), (a1_13, .inl (ka1_13, 6, .inl (fa1_13))), (a1_12, .inl (ka1_12, 6, .inl (fa1_12))), (a0_4, .inl (ka0_4, 900, .inl (fa0_4)))] sz) [(a0, .inr (2, [.int na0_0, .int na0_1, .int na0_2, .ref a0_3, .ref a0_4, .int na0_5, .int na0_6])), (a1, .inr (0, [.int a1_0, .int a1_1, a1g_2, a1g_3, a1g_4, a1g_5, a1g_6, a1g_7, a1g_8, .int a1_9, a1g_10, a1g_11, .ref a1_12, .ref a1_13, a1g_14])), (a0_3, .inl (ka0_3, 729, .inl (nfa0_3))), (a1_13, .inl (ka1_13, 6, .inl (fa1_13))), (a1_12, .inl (ka1_12, 6, .inl (fa1_12))), (a0_4, .inl (ka0_4, 900, .inl (nfa0_4)))] [(ka0_3, .int), (ka1_13, .int), (ka1_12, .int), (ka0_4, .int)] t) (va_A [(a0, .inr (2, [.int a0_0, .int a0_1, .int a0_2, .ref a0_3, .ref a0_4, .int a0_5, .int a0_6])), (a1, .inr (0, [.int a1_0, .int a1_1, a1g_2, a1g_3, a1g_4, a1g_5, a1g_6, a1g_7, a1g_8, .int a1_9, a1g_10, a1g_11, .ref a1_12, .ref a1_13, a1g_14])), (a0_3, .inl (ka0_3, 729, .inl (fa0_3))), (a1_13, .inl (ka1_13, 6, .inl (fa1_13))), (a1_12, .inl (ka1_12, 6, .inl (fa1_12))), (a0_4, .inl (ka0_4, 900, .inl (fa0_4)))] sz)) 0 0 (va_A [(a0, .inr (2, [.int a0_0, .int a0_1, .int a0_2, .ref a0_3, .ref a0_4, .int a0_5, .int a0_6])), (a1, .inr (0, [.int a1_0, .int a1_1, a1g_2, a1g_3, a1g_4, a1g_5, a1g_6, a1g_7, a1g_8, .int a1_9, a1g_10, a1g_11, .ref a1_12, .ref a1_13, a1g_14])), (a0_3, .inl (ka0_3, 729, .inl (fa0_3))), (a1_13, .inl (ka1_13, 6, .inl (fa1_13))), (a1_12, .inl (ka1_12, 6, .inl (fa1_12))), (a0_4, .inl (ka0_4, 900, .inl (fa0_4)))] sz) := by
  refine Met.ofW (cc := cX2_chooseLook) (maxL := 5) (ret := none) (by decide) rfl ?_
  intro p e s m args below meth c s₁ B hml hv
  obtain ⟨rfl, hsz, hP, hK, hD0, hE⟩ := hv
  have hx := B.exec
  have hb := B.bytes
  have hr := B.returns
  have hts := atoms_spec (ws := wsX2_chooseLook) B.pre
  have hown : s.vm.findClass RX2 = some m.cls := findClass_of_methodNamed B.named
  have hlocks := B.notSynchronized
  subst hsz
  have hD := hD0.self (sz := s.heap.size)
  generalize hAe : va_A [(a0, .inr (2, [.int a0_0, .int a0_1, .int a0_2, .ref a0_3, .ref a0_4, .int a0_5, .int a0_6])), (a1, .inr (0, [.int a1_0, .int a1_1, a1g_2, a1g_3, a1g_4, a1g_5, a1g_6, a1g_7, a1g_8, .int a1_9, a1g_10, a1g_11, .ref a1_12, .ref a1_13, a1g_14])), (a0_3, .inl (ka0_3, 729, .inl (fa0_3))), (a1_13, .inl (ka1_13, 6, .inl (fa1_13))), (a1_12, .inl (ka1_12, 6, .inl (fa1_12))), (a0_4, .inl (ka0_4, 900, .inl (fa0_4)))] s.heap.size = A at hD ⊢
  have hA : ∀ q : Nat, s.heap.size ≤ q → A q := fun q h => by rw [← hAe]; exact Or.inr h
  have hS : va_S A s.heap s.heap [] := va_S.rf
  have hP : va_P (dC, dI) vwCl [(a0, .inr (2, [.int a0_0, .int a0_1, .int a0_2, .ref a0_3, .ref a0_4, .int a0_5, .int a0_6])), (a1, .inr (0, [.int a1_0, .int a1_1, a1g_2, a1g_3, a1g_4, a1g_5, a1g_6, a1g_7, a1g_8, .int a1_9, a1g_10, a1g_11, .ref a1_12, .ref a1_13, a1g_14])), (a0_3, .inl (ka0_3, 729, .inl (fa0_3))), (a1_13, .inl (ka1_13, 6, .inl (fa1_13))), (a1_12, .inl (ka1_12, 6, .inl (fa1_12))), (a0_4, .inl (ka0_4, 900, .inl (fa0_4)))] s.heap := hP
  have hE0 := hE
  have hl := lv_entry ([.ref a0, .ref a1]) (n := 5) (Nat.le_of_ble_eq_true rfl)
  rw [lg_entry_eq]
  generalize (lg_sl ([.ref a0, .ref a1]) ++ List.replicate (5 - (lg_sl ([.ref a0, .ref a1])).length) Slot.unset).toArray = ls at hl ⊢
  have hl : lv_has ls 5 [(0, .ref a0), (1, .ref a1)] := hl
  refine ai_open (fun K hK0 => ?_)
  refine (hK0 _ _ _).mpr ?_
  refine lv_aload_n hx hb dX2_chooseLook_0 rfl (lv_at hl 0 rfl) ?_
  refine va_get (D := (dC, dI)) (ci := 2) (v := .int a0_6) (C := RX2) (T := TX2) (N := 7) hx hb hts zi_X2_chooseLook_2 hown hK hP 0 rfl rfl 6 (by decide) (hts (.fieldLink RX2 22 "WaxTurns$Laws" "looked" "Z") (zm_X2_chooseLook_r1 (List.mem_of_getElem? (i := 0) rfl))) (fun _ h9 => h9) rfl dX2_chooseLook_1 ?_
  refine lv_if_eq (tgt := 8) hx hb dX2_chooseLook_4 (by decide) (fun c4 => ?_) (fun c4 => ?_)
  · have gc4 := ai_eq c4
    have u4t_a0_6 : a0_6.toInt ≤ (0 : Int) := Int.le_trans (Int.le_of_eq gc4) zq6
    have l4t_a0_6 : (0 : Int) ≤ a0_6.toInt := ba0_6_l
    refine lv_aload_n hx hb dX2_chooseLook_8 rfl (lv_at hl 0 rfl) ?_
    refine lv_aload_n hx hb dX2_chooseLook_9 rfl (lv_at hl 1 rfl) ?_
    obtain ⟨hPc, hDc, hFc, hCc⟩ := zc_cut (wc := [(a0, .inr (2, [.int a0_0, .int a0_1, .int a0_2, .ref a0_3, .ref a0_4, .int a0_5, .int a0_6])), (a1, .inr (0, [.int a1_0, .int a1_1, a1g_2, a1g_3, a1g_4, a1g_5, a1g_6, a1g_7, a1g_8, .int a1_9, a1g_10, a1g_11, .ref a1_12, .ref a1_13, a1g_14])), (a0_3, .inl (ka0_3, 729, .inl (fa0_3))), (a1_13, .inl (ka1_13, 6, .inl (fa1_13))), (a1_12, .inl (ka1_12, 6, .inl (fa1_12)))]) hP hD hS hA [0, 1, 2, 3, 4] (by decide +kernel) rfl
    have hKc := hK.sub (tys' := [(ka0_3, .int), (ka1_13, .int), (ka1_12, .int)]) [0, 1, 2] rfl
    refine va_callv (va_runV (As := [.ref a1]) (rest := []) ⟨hx, hb, hml, hown, hts⟩ (c_X2_list l dC dI s.heap.size a0 a1 a0_0 (.int a0_1) (.int a0_2) (.ref a0_4) (.int a0_6) a0_3 a0_5 a1_0 a1_1 a1g_2 a1g_3 a1g_4 a1g_5 a1g_6 a1g_7 a1g_8 a1g_10 a1g_11 a1g_14 a1_9 a1_12 a1_13 ka0_3 fa0_3 ka1_13 fa1_13 ka1_12 fa1_12 ba0_0_l ba0_0_u ba0_5_l ba0_5_u ba1_0_l ba1_0_u ba1_9_l ba1_9_u bfa0_3 bfa1_13) (cwV 1 hts gX2_chooseLook_X2_list rfl rfl rfl zd_X2_list ⟨Nat.le_of_ble_eq_true rfl, Nat.le_of_ble_eq_true rfl⟩) ⟨ax_blind (fun _ _ _ _ hq => va_Nw.same rfl rfl (hq)), zr_2 hKc hPc (q0 := 0) rfl, ax_pre hPc hKc hDc (fun _ hW => va_Nw.warmM hW hE0)⟩ rfl rfl hl.1 rfl (lv_room (Nat.le_of_ble_eq_true rfl)) dX2_chooseLook_10 ⟨Nat.le_of_ble_eq_true rfl, Nat.le_of_ble_eq_true rfl⟩) hS (fun q _ h => hFc q h) hFc (fun u t H locs ht hvm hw hB hz1 hk1 hS => ?_)
    obtain ⟨v10na0_0, v10na0_5, v10nfa0_3, bv10na0_0, bv10na0_5, bv10nfa0_3, hP1, hK1, hD1⟩ := hB
    rw [ht] at hP1
    obtain ⟨hP, hD⟩ := zc_back (w := [(a0, .inr (2, [.int v10na0_0, .int a0_1, .int a0_2, .ref a0_3, .ref a0_4, .int v10na0_5, .int a0_6])), (a1, .inr (0, [.int a1_0, .int a1_1, a1g_2, a1g_3, a1g_4, a1g_5, a1g_6, a1g_7, a1g_8, .int a1_9, a1g_10, a1g_11, .ref a1_12, .ref a1_13, a1g_14])), (a0_3, .inl (ka0_3, 729, .inl (v10nfa0_3))), (a1_13, .inl (ka1_13, 6, .inl (fa1_13))), (a1_12, .inl (ka1_12, 6, .inl (fa1_12))), (a0_4, .inl (ka0_4, 900, .inl (fa0_4)))]) hP hD hCc hk1 hFc hP1 hD1 [.inr 0, .inr 1, .inr 2, .inr 3, .inr 4, .inl 5] (by decide +kernel) rfl
    refine lv_aload_n hx hb dX2_chooseLook_13 rfl (lv_at hl 0 rfl) ?_
    refine lv_iconst (v := 1) hx hb dX2_chooseLook_14 zk_iconst_1 ?_
    refine va_put (D := (dC, dI)) (ci := 2) (v := .int 1) (ty := .boolean) (C := RX2) (T := TX2) (N := 7) hx hb hts zi_X2_chooseLook_2 tyX2 tyX2_ok nmX2 hown hK hP hD hS 0 rfl rfl 6 (by decide) (hts (.fieldLink RX2 22 "WaxTurns$Laws" "looked" "Z") (zm_X2_chooseLook_r1 (List.mem_of_getElem? (i := 0) rfl))) (fun _ h9 => h9) rfl (tyX2_ok 6 (by decide)) rfl rfl (Nat.le_of_ble_eq_true rfl) dX2_chooseLook_15 (fun H locs hP hD hS => ?_)
    obtain ⟨hP, hD⟩ := zc_re (w := [(a0, .inr (2, [.int v10na0_0, .int a0_1, .int a0_2, .ref a0_3, .ref a0_4, .int v10na0_5, .int 1])), (a1, .inr (0, [.int a1_0, .int a1_1, a1g_2, a1g_3, a1g_4, a1g_5, a1g_6, a1g_7, a1g_8, .int a1_9, a1g_10, a1g_11, .ref a1_12, .ref a1_13, a1g_14])), (a0_3, .inl (ka0_3, 729, .inl (v10nfa0_3))), (a1_13, .inl (ka1_13, 6, .inl (fa1_13))), (a1_12, .inl (ka1_12, 6, .inl (fa1_12))), (a0_4, .inl (ka0_4, 900, .inl (fa0_4)))]) hP hD rfl
    refine lv_aload_n hx hb dX2_chooseLook_18 rfl (lv_at hl 0 rfl) ?_
    refine lv_bipush (v := (-2)) hx hb dX2_chooseLook_19 zk_bipush_n2 ?_
    refine va_put (D := (dC, dI)) (ci := 2) (v := .int (-2)) (ty := .int) (C := RX2) (T := TX2) (N := 7) hx hb hts zi_X2_chooseLook_2 tyX2 tyX2_ok nmX2 hown hK hP hD hS 0 rfl rfl 1 (by decide) (hts (.fieldLink RX2 55 "WaxTurns$Laws" "lookMinute" "I") (zm_X2_chooseLook_r1 (List.mem_of_getElem? (i := 1) rfl))) (fun _ h9 => h9) rfl (tyX2_ok 1 (by decide)) rfl rfl (Nat.le_of_ble_eq_true rfl) dX2_chooseLook_21 (fun H locs hP hD hS => ?_)
    obtain ⟨hP, hD⟩ := zc_re (w := [(a0, .inr (2, [.int v10na0_0, .int (-2), .int a0_2, .ref a0_3, .ref a0_4, .int v10na0_5, .int 1])), (a1, .inr (0, [.int a1_0, .int a1_1, a1g_2, a1g_3, a1g_4, a1g_5, a1g_6, a1g_7, a1g_8, .int a1_9, a1g_10, a1g_11, .ref a1_12, .ref a1_13, a1g_14])), (a0_3, .inl (ka0_3, 729, .inl (v10nfa0_3))), (a1_13, .inl (ka1_13, 6, .inl (fa1_13))), (a1_12, .inl (ka1_12, 6, .inl (fa1_12))), (a0_4, .inl (ka0_4, 900, .inl (fa0_4)))]) hP hD rfl
    refine lv_aload_n hx hb dX2_chooseLook_24 rfl (lv_at hl 0 rfl) ?_
    refine lv_bipush (v := (-2)) hx hb dX2_chooseLook_25 zk_bipush_n2 ?_
    refine va_put (D := (dC, dI)) (ci := 2) (v := .int (-2)) (ty := .int) (C := RX2) (T := TX2) (N := 7) hx hb hts zi_X2_chooseLook_2 tyX2 tyX2_ok nmX2 hown hK hP hD hS 0 rfl rfl 2 (by decide) (hts (.fieldLink RX2 58 "WaxTurns$Laws" "lookMost" "I") (zm_X2_chooseLook_r1 (List.mem_of_getElem? (i := 2) rfl))) (fun _ h9 => h9) rfl (tyX2_ok 2 (by decide)) rfl rfl (Nat.le_of_ble_eq_true rfl) dX2_chooseLook_27 (fun H locs hP hD hS => ?_)
    obtain ⟨hP, hD⟩ := zc_re (w := [(a0, .inr (2, [.int v10na0_0, .int (-2), .int (-2), .ref a0_3, .ref a0_4, .int v10na0_5, .int 1])), (a1, .inr (0, [.int a1_0, .int a1_1, a1g_2, a1g_3, a1g_4, a1g_5, a1g_6, a1g_7, a1g_8, .int a1_9, a1g_10, a1g_11, .ref a1_12, .ref a1_13, a1g_14])), (a0_3, .inl (ka0_3, 729, .inl (v10nfa0_3))), (a1_13, .inl (ka1_13, 6, .inl (fa1_13))), (a1_12, .inl (ka1_12, 6, .inl (fa1_12))), (a0_4, .inl (ka0_4, 900, .inl (fa0_4)))]) hP hD rfl
    refine lv_aload_n hx hb dX2_chooseLook_30 rfl (lv_at hl 0 rfl) ?_
    refine va_get (D := (dC, dI)) (ci := 2) (v := .int v10na0_0) (C := RX2) (T := TX2) (N := 7) hx hb hts zi_X2_chooseLook_2 hown hK hP 0 rfl rfl 0 (by decide) (hts (.fieldLink RX2 25 "WaxTurns$Laws" "fitCount" "I") (zm_X2_chooseLook_r1 (List.mem_of_getElem? (i := 3) rfl))) (fun _ h9 => h9) rfl dX2_chooseLook_31 ?_
    refine lv_if_eq (tgt := 44) hx hb dX2_chooseLook_34 (by decide) (fun c34 => ?_) (fun c34 => ?_)
    · have gc34 := ai_eq c34
      have u34t_v10na0_0 : v10na0_0.toInt ≤ (0 : Int) := Int.le_trans (Int.le_of_eq gc34) zq6
      have l34t_v10na0_0 : (0 : Int) ≤ v10na0_0.toInt := bv10na0_0.1
      exact W.vret hx hb hr (fun t ht hW => ⟨⟨(), rfl, trivial, v10na0_0, (-2), (-2), v10na0_5, 1, v10nfa0_3, fa0_4, ⟨l34t_v10na0_0, Int.le_trans u34t_v10na0_0 (by decide)⟩, ⟨bv10na0_5.1, bv10na0_5.2⟩, ⟨Int.le_trans (by decide) zq1, zq0⟩, bv10nfa0_3, by rw [ht]; exact hP, va_K.moved hW.alike hK, hD⟩, hS.F ht⟩) hS.2.2 dX2_chooseLook_44
    · have gc34 := ai_ne c34
      have l34f_v10na0_0 : (1 : Int) ≤ v10na0_0.toInt := (by have h1 := bv10na0_0.1; have h2 : (0 : Int32).toInt = 0 := (by decide); rw [h2] at gc34; omega)
      refine lv_aload_n hx hb dX2_chooseLook_37 rfl (lv_at hl 1 rfl) ?_
      refine va_get (D := (dC, dI)) (ci := 0) (v := .int a1_1) (C := RX0) (T := TX0) (N := 15) hx hb hts zi_X2_chooseLook_0 hown hK hP 1 rfl rfl 1 (by decide) (hts (.fieldLink RX2 61 "WaxTurns$Hall" "span" "I") (zm_X2_chooseLook_r1 (List.mem_of_getElem? (i := 4) rfl))) (fun _ h9 => h9) rfl dX2_chooseLook_38 ?_
      refine lv_if_gt (tgt := 45) hx hb dX2_chooseLook_41 (by decide) (fun c41 => ?_) (fun c41 => ?_)
      · have gc41 := ai_lt c41
        have l41t_a1_1 : (1 : Int) ≤ a1_1.toInt := ai_ltlo gc41 zq5
        refine lv_bipush (v := 99) hx hb dX2_chooseLook_45 zk_bipush_99 ?_
        refine lv_aload_n hx hb dX2_chooseLook_47 rfl (lv_at hl 1 rfl) ?_
        refine va_get (D := (dC, dI)) (ci := 0) (v := .int a1_1) (C := RX0) (T := TX0) (N := 15) hx hb hts zi_X2_chooseLook_0 hown hK hP 1 rfl rfl 1 (by decide) (hts (.fieldLink RX2 61 "WaxTurns$Hall" "span" "I") (zm_X2_chooseLook_r1 (List.mem_of_getElem? (i := 4) rfl))) (fun _ h9 => h9) rfl dX2_chooseLook_48 ?_
        refine lv_idiv hx hb dX2_chooseLook_51 (ai_nz l41t_a1_1 (by decide)) ?_
        refine lv_topi (fun x51 ex51 => ?_)
        have qx51 := ai_div ex51 ⟨(Int.le_trans zq41 zq42), zq43⟩ (Int.lt_of_lt_of_le zq19 l41t_a1_1)
        refine lv_iconst (v := 1) hx hb dX2_chooseLook_52 zk_iconst_1 ?_
        refine lv_iadd hx hb dX2_chooseLook_53 ?_
        refine lv_topi (fun x53 ex53 => ?_)
        have qx53 : x53.toInt = x51.toInt + (1 : Int32).toInt := ai_add ex53 ⟨qx51.2.1, qx51.2.2⟩ ⟨zq1, zq0⟩ (by decide) (by decide)
        have bx53 : (1 : Int) ≤ x53.toInt ∧ x53.toInt ≤ 100 := ⟨by rw [qx53]; exact Int.add_le_add qx51.2.1 zq1, by rw [qx53]; exact Int.add_le_add qx51.2.2 zq0⟩
        have wx53 : x53.toInt = x51.toInt + 1 := qx53
        refine lv_istore_n (lv' := [(2, .int x53), (0, .ref a0), (1, .ref a1)]) hx hb dX2_chooseLook_54 rfl hl (by decide) rfl (fun ls hl => ?_)
        refine lv_aload_n hx hb dX2_chooseLook_55 rfl (lv_at hl 1 rfl) ?_
        refine lv_aload_n hx hb dX2_chooseLook_56 rfl (lv_at hl 2 rfl) ?_
        refine va_get (D := (dC, dI)) (ci := 0) (v := .int a1_0) (C := RX0) (T := TX0) (N := 15) hx hb hts zi_X2_chooseLook_0 hown hK hP 1 rfl rfl 0 (by decide) (hts (.fieldLink RX2 29 "WaxTurns$Hall" "figures" "I") (zm_X2_chooseLook_r1 (List.mem_of_getElem? (i := 5) rfl))) (fun _ h9 => h9) rfl dX2_chooseLook_57 ?_
        refine lv_iload_n hx hb dX2_chooseLook_60 rfl (lv_at hl 0 rfl) ?_
        obtain ⟨hPc, hDc, hFc, hCc⟩ := zc_cut (wc := [(a0, .inr (2, [.int v10na0_0, .int (-2), .int (-2), .ref a0_3, .ref a0_4, .int v10na0_5, .int 1])), (a0_4, .inl (ka0_4, 900, .inl (fa0_4))), (a0_3, .inl (ka0_3, 729, .inl (v10nfa0_3)))]) hP hD hS hA [0, 5, 2] (by decide +kernel) rfl
        have hKc := hK.sub (tys' := [(ka0_4, .int), (ka0_3, .int)]) [3, 0] rfl
        refine va_callv (va_runV (As := [.int a1_0, .int x53]) (rest := []) ⟨hx, hb, hml, hown, hts⟩ (c_X2_tally l dC dI H.size a0 a1_0 x53 v10na0_0 (.int (-2)) (.int (-2)) (.int v10na0_5) (.int 1) a0_3 a0_4 ka0_4 fa0_4 ka0_3 v10nfa0_3 ba1_0_l ba1_0_u (Int.le_trans zq4 l34f_v10na0_0) bv10na0_0.2 bv10nfa0_3) (cwV 2 hts gX2_chooseLook_X2_tally rfl rfl rfl zd_X2_tally ⟨Nat.le_of_ble_eq_true rfl, Nat.le_of_ble_eq_true rfl⟩) ⟨ax_blind (fun _ _ _ _ _ => trivial), zr_2 hKc hPc (q0 := 0) rfl, ax_pre hPc hKc hDc (fun _ _ => trivial)⟩ rfl rfl hl.1 rfl (lv_room (Nat.le_of_ble_eq_true rfl)) dX2_chooseLook_61 ⟨Nat.le_of_ble_eq_true rfl, Nat.le_of_ble_eq_true rfl⟩) hS (fun q _ h => hFc q h) hFc (fun u t H locs ht hvm hw hB hz1 hk1 hS => ?_)
        obtain ⟨v61nfa0_4, hP1, hK1, hD1⟩ := hB
        rw [ht] at hP1
        obtain ⟨hP, hD⟩ := zc_back (w := [(a0, .inr (2, [.int v10na0_0, .int (-2), .int (-2), .ref a0_3, .ref a0_4, .int v10na0_5, .int 1])), (a1, .inr (0, [.int a1_0, .int a1_1, a1g_2, a1g_3, a1g_4, a1g_5, a1g_6, a1g_7, a1g_8, .int a1_9, a1g_10, a1g_11, .ref a1_12, .ref a1_13, a1g_14])), (a0_3, .inl (ka0_3, 729, .inl (v10nfa0_3))), (a1_13, .inl (ka1_13, 6, .inl (fa1_13))), (a1_12, .inl (ka1_12, 6, .inl (fa1_12))), (a0_4, .inl (ka0_4, 900, .inl (v61nfa0_4)))]) hP hD hCc hk1 hFc hP1 hD1 [.inr 0, .inl 1, .inr 2, .inl 3, .inl 4, .inr 1] (by decide +kernel) rfl
        refine lv_iconst (v := 0) hx hb dX2_chooseLook_64 zk_iconst_0 ?_
        refine lv_istore_n (lv' := [(3, .int 0), (2, .int x53), (0, .ref a0), (1, .ref a1)]) hx hb dX2_chooseLook_65 rfl hl (by decide) rfl (fun ls hl => ?_)
        have J66 : ∀ (n : Nat) (j66l3 : Int32) (j66a0_1 : Int32) (j66a0_2 : Int32) (H : Heap) (locs : List Loc) (ls : Array Slot), (101 : Int) - j66l3.toInt ≤ (n : Int) → (0 : Int) ≤ j66l3.toInt → j66l3.toInt ≤ (100 : Int) → va_P (dC, dI) vwCl [(a0, .inr (2, [.int v10na0_0, .int j66a0_1, .int j66a0_2, .ref a0_3, .ref a0_4, .int v10na0_5, .int 1])), (a1, .inr (0, [.int a1_0, .int a1_1, a1g_2, a1g_3, a1g_4, a1g_5, a1g_6, a1g_7, a1g_8, .int a1_9, a1g_10, a1g_11, .ref a1_12, .ref a1_13, a1g_14])), (a0_3, .inl (ka0_3, 729, .inl (v10nfa0_3))), (a1_13, .inl (ka1_13, 6, .inl (fa1_13))), (a1_12, .inl (ka1_12, 6, .inl (fa1_12))), (a0_4, .inl (ka0_4, 900, .inl (v61nfa0_4)))] H → va_D A [(a0, .inr (2, [.int v10na0_0, .int j66a0_1, .int j66a0_2, .ref a0_3, .ref a0_4, .int v10na0_5, .int 1])), (a1, .inr (0, [.int a1_0, .int a1_1, a1g_2, a1g_3, a1g_4, a1g_5, a1g_6, a1g_7, a1g_8, .int a1_9, a1g_10, a1g_11, .ref a1_12, .ref a1_13, a1g_14])), (a0_3, .inl (ka0_3, 729, .inl (v10nfa0_3))), (a1_13, .inl (ka1_13, 6, .inl (fa1_13))), (a1_12, .inl (ka1_12, 6, .inl (fa1_12))), (a0_4, .inl (ka0_4, 900, .inl (v61nfa0_4)))] → va_S A s.heap H locs → lv_has ls 5 [(0, .ref a0), (1, .ref a1), (2, .int x53), (3, .int j66l3)] → K H locs (F0 m 66 ls []) := by
          intro n
          induction n with
          | zero =>
            intro j66l3 j66a0_1 j66a0_2 H locs ls hm bj66l3_l bj66l3_u hP hD hS hl
            have h8 := ai_min j66l3
            have h9 := ai_max j66l3
            exact absurd hm (by omega)
          | succ n ih66 =>
            intro j66l3 j66a0_1 j66a0_2 H locs ls hm bj66l3_l bj66l3_u hP hD hS hl
            refine (hK0 _ _ _).mpr ?_
            have hm66 := hm
            refine lv_iload_n hx hb dX2_chooseLook_66 rfl (lv_at hl 3 rfl) ?_
            refine lv_iload_n hx hb dX2_chooseLook_67 rfl (lv_at hl 2 rfl) ?_
            refine lv_icmp_ge (tgt := 118) hx hb dX2_chooseLook_68 (by decide) (fun c68 => ?_) (fun c68 => ?_)
            · have gc68 := ai_le c68
              have u68t_x53 : x53.toInt ≤ (100 : Int) := bx53.2
              have l68t_j66l3 : (1 : Int) ≤ j66l3.toInt := Int.le_trans bx53.1 gc68
              exact W.vret hx hb hr (fun t ht hW => ⟨⟨(), rfl, trivial, v10na0_0, j66a0_1, j66a0_2, v10na0_5, 1, v10nfa0_3, v61nfa0_4, ⟨Int.le_trans (by decide) l34f_v10na0_0, bv10na0_0.2⟩, ⟨bv10na0_5.1, bv10na0_5.2⟩, ⟨Int.le_trans (by decide) zq1, zq0⟩, bv10nfa0_3, by rw [ht]; exact hP, va_K.moved hW.alike hK, hD⟩, hS.F ht⟩) hS.2.2 dX2_chooseLook_118
            · have gc68 := ai_nle c68
              have u68f_j66l3 : j66l3.toInt ≤ (99 : Int) := ai_lthi gc68 bx53.2
              have l68f_x53 : (1 : Int) ≤ x53.toInt := bx53.1
              refine lv_aload_n hx hb dX2_chooseLook_71 rfl (lv_at hl 0 rfl) ?_
              refine lv_iload_n hx hb dX2_chooseLook_72 rfl (lv_at hl 3 rfl) ?_
              obtain ⟨hPc, hDc, hFc, hCc⟩ := zc_cut (wc := [(a0, .inr (2, [.int v10na0_0, .int j66a0_1, .int j66a0_2, .ref a0_3, .ref a0_4, .int v10na0_5, .int 1])), (a0_4, .inl (ka0_4, 900, .inl (v61nfa0_4)))]) hP hD hS hA [0, 5] (by decide +kernel) rfl
              have hKc := hK.sub (tys' := [(ka0_4, .int)]) [3] rfl
              refine va_calli (va_runV (As := [.int j66l3]) (rest := []) ⟨hx, hb, hml, hown, hts⟩ (c_X2_mostOf l dC dI H.size a0 j66l3 (.int v10na0_0) (.int j66a0_1) (.int j66a0_2) (.ref a0_3) (.int v10na0_5) (.int 1) a0_4 ka0_4 v61nfa0_4 bj66l3_l u68f_j66l3) (cwV 1 hts gX2_chooseLook_X2_mostOf rfl rfl rfl zd_X2_mostOf ⟨Nat.le_of_ble_eq_true rfl, Nat.le_of_ble_eq_true rfl⟩) ⟨ax_blind (fun _ _ _ _ _ => trivial), zr_2 hKc hPc (q0 := 0) rfl, ax_pre hPc hKc hDc (fun _ _ => trivial)⟩ rfl rfl hl.1 rfl (lv_room (Nat.le_of_ble_eq_true rfl)) dX2_chooseLook_73 ⟨Nat.le_of_ble_eq_true rfl, Nat.le_of_ble_eq_true rfl⟩) hS (fun q _ h => hFc q h) hFc (fun r73 u t H locs ht hvm hw hB hz1 hk1 hS => ?_)
              obtain ⟨hP1, hK1, hD1⟩ := hB
              rw [ht] at hP1
              obtain ⟨hP, hD⟩ := zc_back (w := [(a0, .inr (2, [.int v10na0_0, .int j66a0_1, .int j66a0_2, .ref a0_3, .ref a0_4, .int v10na0_5, .int 1])), (a1, .inr (0, [.int a1_0, .int a1_1, a1g_2, a1g_3, a1g_4, a1g_5, a1g_6, a1g_7, a1g_8, .int a1_9, a1g_10, a1g_11, .ref a1_12, .ref a1_13, a1g_14])), (a0_3, .inl (ka0_3, 729, .inl (v10nfa0_3))), (a1_13, .inl (ka1_13, 6, .inl (fa1_13))), (a1_12, .inl (ka1_12, 6, .inl (fa1_12))), (a0_4, .inl (ka0_4, 900, .inl (v61nfa0_4)))]) hP hD hCc hk1 hFc hP1 hD1 [.inr 0, .inl 1, .inl 2, .inl 3, .inl 4, .inr 1] (by decide +kernel) rfl
              refine lv_istore (lv' := [(4, .int r73), (0, .ref a0), (1, .ref a1), (2, .int x53), (3, .int j66l3)]) hx hb dX2_chooseLook_76 hl (by decide) rfl (fun ls hl => ?_)
              refine lv_aload_n hx hb dX2_chooseLook_78 rfl (lv_at hl 1 rfl) ?_
              refine va_get (D := (dC, dI)) (ci := 2) (v := .int j66a0_2) (C := RX2) (T := TX2) (N := 7) hx hb hts zi_X2_chooseLook_2 hown hK hP 0 rfl rfl 2 (by decide) (hts (.fieldLink RX2 58 "WaxTurns$Laws" "lookMost" "I") (zm_X2_chooseLook_r1 (List.mem_of_getElem? (i := 2) rfl))) (fun _ h9 => h9) rfl dX2_chooseLook_79 ?_
              refine lv_bipush (v := (-2)) hx hb dX2_chooseLook_82 zk_bipush_n2 ?_
              have J112 : ∀ (j112a0_1 : Int32) (j112a0_2 : Int32) (H : Heap) (locs : List Loc) (ls : Array Slot), va_P (dC, dI) vwCl [(a0, .inr (2, [.int v10na0_0, .int j112a0_1, .int j112a0_2, .ref a0_3, .ref a0_4, .int v10na0_5, .int 1])), (a1, .inr (0, [.int a1_0, .int a1_1, a1g_2, a1g_3, a1g_4, a1g_5, a1g_6, a1g_7, a1g_8, .int a1_9, a1g_10, a1g_11, .ref a1_12, .ref a1_13, a1g_14])), (a0_3, .inl (ka0_3, 729, .inl (v10nfa0_3))), (a1_13, .inl (ka1_13, 6, .inl (fa1_13))), (a1_12, .inl (ka1_12, 6, .inl (fa1_12))), (a0_4, .inl (ka0_4, 900, .inl (v61nfa0_4)))] H → va_D A [(a0, .inr (2, [.int v10na0_0, .int j112a0_1, .int j112a0_2, .ref a0_3, .ref a0_4, .int v10na0_5, .int 1])), (a1, .inr (0, [.int a1_0, .int a1_1, a1g_2, a1g_3, a1g_4, a1g_5, a1g_6, a1g_7, a1g_8, .int a1_9, a1g_10, a1g_11, .ref a1_12, .ref a1_13, a1g_14])), (a0_3, .inl (ka0_3, 729, .inl (v10nfa0_3))), (a1_13, .inl (ka1_13, 6, .inl (fa1_13))), (a1_12, .inl (ka1_12, 6, .inl (fa1_12))), (a0_4, .inl (ka0_4, 900, .inl (v61nfa0_4)))] → va_S A s.heap H locs → lv_has ls 5 [(0, .ref a0), (1, .ref a1), (2, .int x53), (3, .int j66l3)] → K H locs (F0 m 112 ls []) := by
                intro j112a0_1 j112a0_2 H locs ls   hP hD hS hl
                refine (hK0 _ _ _).mpr ?_
                obtain ⟨x112, ex112⟩ : ∃ y : Int32, y = j66l3 + Int32.ofInt 1 := ⟨_, rfl⟩
                have qx112 : x112.toInt = j66l3.toInt + 1 := ai_inc ex112 (by decide) (by decide) u68f_j66l3 (by decide)
                have bx112 : (1 : Int) ≤ x112.toInt ∧ x112.toInt ≤ 100 := ⟨by rw [qx112]; exact Int.add_le_add bj66l3_l (Int.le_refl _), by rw [qx112]; exact Int.add_le_add u68f_j66l3 (Int.le_refl _)⟩
                refine lv_iinc (v := x112) (lv' := [(3, .int x112), (0, .ref a0), (1, .ref a1), (2, .int x53)]) hx hb dX2_chooseLook_112 hl (k := 3) rfl ex112.symm (by decide) rfl (fun ls hl => ?_)
                refine lv_goto (tgt := 66) hx hb dX2_chooseLook_115 (by decide) ?_
                exact (hK0 _ _ _).mp (ih66 x112 j112a0_1 j112a0_2 _ _ _ (by have h0 := qx112; omega) (Int.le_trans zq4 bx112.1) bx112.2 hP hD hS (lv_sub hl [1, 2, 3, 0] rfl))
              have J96 : ∀ (H : Heap) (locs : List Loc) (ls : Array Slot), va_P (dC, dI) vwCl [(a0, .inr (2, [.int v10na0_0, .int j66a0_1, .int j66a0_2, .ref a0_3, .ref a0_4, .int v10na0_5, .int 1])), (a1, .inr (0, [.int a1_0, .int a1_1, a1g_2, a1g_3, a1g_4, a1g_5, a1g_6, a1g_7, a1g_8, .int a1_9, a1g_10, a1g_11, .ref a1_12, .ref a1_13, a1g_14])), (a0_3, .inl (ka0_3, 729, .inl (v10nfa0_3))), (a1_13, .inl (ka1_13, 6, .inl (fa1_13))), (a1_12, .inl (ka1_12, 6, .inl (fa1_12))), (a0_4, .inl (ka0_4, 900, .inl (v61nfa0_4)))] H → va_D A [(a0, .inr (2, [.int v10na0_0, .int j66a0_1, .int j66a0_2, .ref a0_3, .ref a0_4, .int v10na0_5, .int 1])), (a1, .inr (0, [.int a1_0, .int a1_1, a1g_2, a1g_3, a1g_4, a1g_5, a1g_6, a1g_7, a1g_8, .int a1_9, a1g_10, a1g_11, .ref a1_12, .ref a1_13, a1g_14])), (a0_3, .inl (ka0_3, 729, .inl (v10nfa0_3))), (a1_13, .inl (ka1_13, 6, .inl (fa1_13))), (a1_12, .inl (ka1_12, 6, .inl (fa1_12))), (a0_4, .inl (ka0_4, 900, .inl (v61nfa0_4)))] → va_S A s.heap H locs → lv_has ls 5 [(0, .ref a0), (1, .ref a1), (2, .int x53), (3, .int j66l3), (4, .int r73)] → K H locs (F0 m 96 ls []) := by
                intro  H locs ls   hP hD hS hl
                refine (hK0 _ _ _).mpr ?_
                refine lv_aload_n hx hb dX2_chooseLook_96 rfl (lv_at hl 0 rfl) ?_
                refine lv_iload hx hb dX2_chooseLook_97 (lv_at hl 4 rfl) ?_
                refine va_put (D := (dC, dI)) (ci := 2) (v := .int r73) (ty := .int) (C := RX2) (T := TX2) (N := 7) hx hb hts zi_X2_chooseLook_2 tyX2 tyX2_ok nmX2 hown hK hP hD hS 0 rfl rfl 2 (by decide) (hts (.fieldLink RX2 58 "WaxTurns$Laws" "lookMost" "I") (zm_X2_chooseLook_r1 (List.mem_of_getElem? (i := 2) rfl))) (fun _ h9 => h9) rfl (tyX2_ok 2 (by decide)) rfl rfl (Nat.le_of_ble_eq_true rfl) dX2_chooseLook_99 (fun H locs hP hD hS => ?_)
                obtain ⟨hP, hD⟩ := zc_re (w := [(a0, .inr (2, [.int v10na0_0, .int j66a0_1, .int r73, .ref a0_3, .ref a0_4, .int v10na0_5, .int 1])), (a1, .inr (0, [.int a1_0, .int a1_1, a1g_2, a1g_3, a1g_4, a1g_5, a1g_6, a1g_7, a1g_8, .int a1_9, a1g_10, a1g_11, .ref a1_12, .ref a1_13, a1g_14])), (a0_3, .inl (ka0_3, 729, .inl (v10nfa0_3))), (a1_13, .inl (ka1_13, 6, .inl (fa1_13))), (a1_12, .inl (ka1_12, 6, .inl (fa1_12))), (a0_4, .inl (ka0_4, 900, .inl (v61nfa0_4)))]) hP hD rfl
                refine lv_aload_n hx hb dX2_chooseLook_102 rfl (lv_at hl 0 rfl) ?_
                refine lv_iload_n hx hb dX2_chooseLook_103 rfl (lv_at hl 3 rfl) ?_
                refine lv_aload_n hx hb dX2_chooseLook_104 rfl (lv_at hl 1 rfl) ?_
                refine va_get (D := (dC, dI)) (ci := 0) (v := .int a1_1) (C := RX0) (T := TX0) (N := 15) hx hb hts zi_X2_chooseLook_0 hown hK hP 1 rfl rfl 1 (by decide) (hts (.fieldLink RX2 61 "WaxTurns$Hall" "span" "I") (zm_X2_chooseLook_r1 (List.mem_of_getElem? (i := 4) rfl))) (fun _ h9 => h9) rfl dX2_chooseLook_105 ?_
                refine lv_imul hx hb dX2_chooseLook_108 ?_
                refine lv_topi (fun x108 ex108 => ?_)
                refine va_put (D := (dC, dI)) (ci := 2) (v := .int x108) (ty := .int) (C := RX2) (T := TX2) (N := 7) hx hb hts zi_X2_chooseLook_2 tyX2 tyX2_ok nmX2 hown hK hP hD hS 0 rfl rfl 1 (by decide) (hts (.fieldLink RX2 55 "WaxTurns$Laws" "lookMinute" "I") (zm_X2_chooseLook_r1 (List.mem_of_getElem? (i := 1) rfl))) (fun _ h9 => h9) rfl (tyX2_ok 1 (by decide)) rfl rfl (Nat.le_of_ble_eq_true rfl) dX2_chooseLook_109 (fun H locs hP hD hS => ?_)
                obtain ⟨hP, hD⟩ := zc_re (w := [(a0, .inr (2, [.int v10na0_0, .int x108, .int r73, .ref a0_3, .ref a0_4, .int v10na0_5, .int 1])), (a1, .inr (0, [.int a1_0, .int a1_1, a1g_2, a1g_3, a1g_4, a1g_5, a1g_6, a1g_7, a1g_8, .int a1_9, a1g_10, a1g_11, .ref a1_12, .ref a1_13, a1g_14])), (a0_3, .inl (ka0_3, 729, .inl (v10nfa0_3))), (a1_13, .inl (ka1_13, 6, .inl (fa1_13))), (a1_12, .inl (ka1_12, 6, .inl (fa1_12))), (a0_4, .inl (ka0_4, 900, .inl (v61nfa0_4)))]) hP hD rfl
                exact (hK0 _ _ _).mp (J112 x108 r73 _ _ _   hP hD hS (lv_sub hl [0, 1, 2, 3] rfl))
              refine lv_icmp_eq (tgt := 96) hx hb dX2_chooseLook_84 (by decide) (fun c84 => ?_) (fun c84 => ?_)
              · have gc84 := ai_eq c84
                have u84t_j66a0_2 : j66a0_2.toInt ≤ (-2 : Int) := Int.le_trans (Int.le_of_eq gc84) zq44
                have l84t_j66a0_2 : (-2 : Int) ≤ j66a0_2.toInt := Int.le_trans zq45 (Int.le_of_eq gc84.symm)
                exact (hK0 _ _ _).mp (J96  _ _ _   hP hD hS (lv_sub hl [1, 2, 3, 4, 0] rfl))
              · have gc84 := ai_ne c84
                refine lv_iload hx hb dX2_chooseLook_87 (lv_at hl 0 rfl) ?_
                refine lv_aload_n hx hb dX2_chooseLook_89 rfl (lv_at hl 1 rfl) ?_
                refine va_get (D := (dC, dI)) (ci := 2) (v := .int j66a0_2) (C := RX2) (T := TX2) (N := 7) hx hb hts zi_X2_chooseLook_2 hown hK hP 0 rfl rfl 2 (by decide) (hts (.fieldLink RX2 58 "WaxTurns$Laws" "lookMost" "I") (zm_X2_chooseLook_r1 (List.mem_of_getElem? (i := 2) rfl))) (fun _ h9 => h9) rfl dX2_chooseLook_90 ?_
                refine lv_icmp_ge (tgt := 112) hx hb dX2_chooseLook_93 (by decide) (fun c93 => ?_) (fun c93 => ?_)
                · have gc93 := ai_le c93
                  exact (hK0 _ _ _).mp (J112 j66a0_1 j66a0_2 _ _ _   hP hD hS (lv_sub hl [1, 2, 3, 4] rfl))
                · have gc93 := ai_nle c93
                  have u93f_r73 : r73.toInt ≤ (2147483646 : Int) := ai_lthi gc93 (ai_max j66a0_2)
                  have l93f_j66a0_2 : (-2147483647 : Int) ≤ j66a0_2.toInt := ai_ltlo gc93 (ai_min r73)
                  exact (hK0 _ _ _).mp (J96  _ _ _   hP hD hS (lv_sub hl [1, 2, 3, 4, 0] rfl))
        exact (hK0 _ _ _).mp (J66 101 0 (-2) (-2) _ _ _ (by have h1 : (0 : Int) ≤ (0 : Int32).toInt := zq5; have h2 : (0 : Int32).toInt ≤ (0 : Int) := zq6; omega) zq5 (Int.le_trans zq6 zq38) hP hD hS (lv_sub hl [2, 3, 1, 0] rfl))
      · have gc41 := ai_nlt c41
        have u41f_a1_1 : a1_1.toInt ≤ (0 : Int) := Int.le_trans gc41 zq6
        exact W.vret hx hb hr (fun t ht hW => ⟨⟨(), rfl, trivial, v10na0_0, (-2), (-2), v10na0_5, 1, v10nfa0_3, fa0_4, ⟨Int.le_trans (by decide) l34f_v10na0_0, bv10na0_0.2⟩, ⟨bv10na0_5.1, bv10na0_5.2⟩, ⟨Int.le_trans (by decide) zq1, zq0⟩, bv10nfa0_3, by rw [ht]; exact hP, va_K.moved hW.alike hK, hD⟩, hS.F ht⟩) hS.2.2 dX2_chooseLook_44
  · have gc4 := ai_ne c4
    have l4f_a0_6 : (1 : Int) ≤ a0_6.toInt := (by have h1 := ba0_6_l; have h2 : (0 : Int32).toInt = 0 := (by decide); rw [h2] at gc4; omega)
    exact W.vret hx hb hr (fun t ht hW => ⟨⟨(), rfl, trivial, a0_0, a0_1, a0_2, a0_5, a0_6, fa0_3, fa0_4, ⟨ba0_0_l, ba0_0_u⟩, ⟨ba0_5_l, ba0_5_u⟩, ⟨Int.le_trans (by decide) l4f_a0_6, ba0_6_u⟩, bfa0_3, by rw [ht]; exact hP, va_K.moved hW.alike hK, hD⟩, hS.F ht⟩) hS.2.2 dX2_chooseLook_7
