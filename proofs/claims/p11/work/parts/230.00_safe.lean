set_option maxHeartbeats 4000000 in
set_option maxRecDepth 100000 in
theorem c_X8_copy_23_23 (l : Launch) (dC : Nat → ClassId) (dI : Nat → Nat → Nat) (sz : Nat) (a1 : Nat) (a2 : Int32) (a3 : Nat) (a4 : Int32) (a5 : Int32) (ka1 : ClassId) (fa1 : Nat → Int32) (ka3 : ClassId) (fa3 : Nat → Int32) (ba2_l : (0 : Int) ≤ a2.toInt) (ba2_u : a2.toInt ≤ (0 : Int)) (ba4_l : (0 : Int) ≤ a4.toInt) (ba4_u : a4.toInt ≤ (0 : Int)) (ba5_l : (23 : Int) ≤ a5.toInt) (ba5_u : a5.toInt ≤ (23 : Int)) : Met l yX8_copy wsX8_copy ({ frames := 0, cells := 0, slots := 0, locals := 0 }) (va_Pc [.ref a1, .int a2, .ref a3, .int a4, .int a5] (ax_C dC dI sz [(a1, .inl (ka1, 23, .inl (fa1))), (a3, .inl (ka3, 23, .inl (fa3)))] [(ka1, .int), (ka3, .int)] (fun _ => True))) (va_Qv (fun (_ : Unit) => True) (fun (_ : Unit) (t : State) => ∃ nfa3 : Nat → Int32, nfa3 = va_cpy fa1 fa3 a2.toNatClampNeg a4.toNatClampNeg 23 ∧ ax_B dC dI (va_A [(a1, .inl (ka1, 23, .inl (fa1))), (a3, .inl (ka3, 23, .inl (fa3)))] sz) [(a1, .inl (ka1, 23, .inl (fa1))), (a3, .inl (ka3, 23, .inl (nfa3)))] [(ka1, .int), (ka3, .int)] t) (va_A [(a1, .inl (ka1, 23, .inl (fa1))), (a3, .inl (ka3, 23, .inl (fa3)))] sz)) 0 0 (va_A [(a1, .inl (ka1, 23, .inl (fa1))), (a3, .inl (ka3, 23, .inl (fa3)))] sz) := by
  refine Met.ofW (cc := cX8_copy) (maxL := 6) (ret := none) (by decide) rfl ?_
  intro p e s m args below meth c s₁ B hml hv
  obtain ⟨rfl, hsz, hP, hK, hD0, hE⟩ := hv
  have hx := B.exec
  have hb := B.bytes
  have hr := B.returns
  have hts := atoms_spec (ws := wsX8_copy) B.pre
  have hown : s.vm.findClass RX8 = some m.cls := findClass_of_methodNamed B.named
  have hlocks := B.notSynchronized
  subst hsz
  have hD := hD0.self (sz := s.heap.size)
  generalize hAe : va_A [(a1, .inl (ka1, 23, .inl (fa1))), (a3, .inl (ka3, 23, .inl (fa3)))] s.heap.size = A at hD ⊢
  have hA : ∀ q : Nat, s.heap.size ≤ q → A q := fun q h => by rw [← hAe]; exact Or.inr h
  have hS : va_S A s.heap s.heap [] := va_S.rf
  have hP : va_P (dC, dI) vwCl [(a1, .inl (ka1, 23, .inl (fa1))), (a3, .inl (ka3, 23, .inl (fa3)))] s.heap := hP
  have hl := lv_entry ([.ref a1, .int a2, .ref a3, .int a4, .int a5]) (n := 6) (Nat.le_of_ble_eq_true rfl)
  rw [lg_entry_eq]
  generalize (lg_sl ([.ref a1, .int a2, .ref a3, .int a4, .int a5]) ++ List.replicate (6 - (lg_sl ([.ref a1, .int a2, .ref a3, .int a4, .int a5])).length) Slot.unset).toArray = ls at hl ⊢
  have hl : lv_has ls 6 [(0, .ref a1), (1, .int a2), (2, .ref a3), (3, .int a4), (4, .int a5)] := hl
  refine ai_open (fun K hK0 => ?_)
  refine (hK0 _ _ _).mpr ?_
  refine lv_iconst (v := 0) hx hb dX8_copy_0 zk_iconst_0 ?_
  refine lv_istore (lv' := [(5, .int 0), (0, .ref a1), (1, .int a2), (2, .ref a3), (3, .int a4), (4, .int a5)]) hx hb dX8_copy_1 hl (by decide) rfl (fun ls hl => ?_)
  have J3 : ∀ (n : Nat) (j3l5 : Int32) (j3a3_a : Nat → Int32) (H : Heap) (locs : List Loc) (ls : Array Slot), (24 : Int) - j3l5.toInt ≤ (n : Int) → (0 : Int) ≤ j3l5.toInt → j3l5.toInt ≤ (23 : Int) → (j3a3_a = va_cpy fa1 fa3 a2.toNatClampNeg a4.toNatClampNeg j3l5.toNatClampNeg) → va_P (dC, dI) vwCl [(a1, .inl (ka1, 23, .inl (fa1))), (a3, .inl (ka3, 23, .inl (j3a3_a)))] H → va_D A [(a1, .inl (ka1, 23, .inl (fa1))), (a3, .inl (ka3, 23, .inl (j3a3_a)))] → va_S A s.heap H locs → lv_has ls 6 [(0, .ref a1), (1, .int a2), (2, .ref a3), (3, .int a4), (4, .int a5), (5, .int j3l5)] → K H locs (F0 m 3 ls []) := by
    intro n
    induction n with
    | zero =>
      intro j3l5 j3a3_a H locs ls hm bj3l5_l bj3l5_u cpy3 hP hD hS hl
      have h8 := ai_min j3l5
      have h9 := ai_max j3l5
      exact absurd hm (by omega)
    | succ n ih3 =>
      intro j3l5 j3a3_a H locs ls hm bj3l5_l bj3l5_u cpy3 hP hD hS hl
      refine (hK0 _ _ _).mpr ?_
      have hm3 := hm
      refine lv_iload hx hb dX8_copy_3 (lv_at hl 5 rfl) ?_
      refine lv_iload hx hb dX8_copy_5 (lv_at hl 4 rfl) ?_
      refine lv_icmp_ge (tgt := 28) hx hb dX8_copy_7 (by decide) (fun c7 => ?_) (fun c7 => ?_)
      · have gc7 := ai_le c7
        have u7t_a5 : a5.toInt ≤ (23 : Int) := ba5_u
        have l7t_j3l5 : (23 : Int) ≤ j3l5.toInt := Int.le_trans ba5_l gc7
        exact W.vret hx hb hr (fun t ht hW => ⟨⟨(), rfl, trivial, j3a3_a, (cpy3.trans (congrArg (va_cpy fa1 fa3 a2.toNatClampNeg a4.toNatClampNeg) (cp_e (n := 23) (by omega)))), by rw [ht]; exact hP, va_K.moved hW.alike hK, hD⟩, hS.F ht⟩) hS.2.2 dX8_copy_28
      · have gc7 := ai_nle c7
        have u7f_j3l5 : j3l5.toInt ≤ (22 : Int) := ai_lthi gc7 ba5_u
        have l7f_a5 : (23 : Int) ≤ a5.toInt := ba5_l
        refine lv_aload_n hx hb dX8_copy_10 rfl (lv_at hl 2 rfl) ?_
        refine lv_iload_n hx hb dX8_copy_11 rfl (lv_at hl 3 rfl) ?_
        refine lv_iload hx hb dX8_copy_12 (lv_at hl 5 rfl) ?_
        refine lv_iadd hx hb dX8_copy_14 ?_
        refine lv_topi (fun x14 ex14 => ?_)
        have qx14 : x14.toInt = a4.toInt + j3l5.toInt := ai_add ex14 ⟨ba4_l, ba4_u⟩ ⟨bj3l5_l, u7f_j3l5⟩ (by decide) (by decide)
        have bx14 : (0 : Int) ≤ x14.toInt ∧ x14.toInt ≤ 22 := ⟨by rw [qx14]; exact Int.add_le_add ba4_l bj3l5_l, by rw [qx14]; exact Int.add_le_add ba4_u u7f_j3l5⟩
        refine lv_aload_n hx hb dX8_copy_15 rfl (lv_at hl 0 rfl) ?_
        refine lv_iload_n hx hb dX8_copy_16 rfl (lv_at hl 1 rfl) ?_
        refine lv_iload hx hb dX8_copy_17 (lv_at hl 5 rfl) ?_
        refine lv_iadd hx hb dX8_copy_19 ?_
        refine lv_topi (fun x19 ex19 => ?_)
        have qx19 : x19.toInt = a2.toInt + j3l5.toInt := ai_add ex19 ⟨ba2_l, ba2_u⟩ ⟨bj3l5_l, u7f_j3l5⟩ (by decide) (by decide)
        have bx19 : (0 : Int) ≤ x19.toInt ∧ x19.toInt ≤ 22 := ⟨by rw [qx19]; exact Int.add_le_add ba2_l bj3l5_l, by rw [qx19]; exact Int.add_le_add ba2_u u7f_j3l5⟩
        refine va_iald hx hb hK hP 0 0 rfl rfl (ai_in bx19.1 bx19.2 (by decide) (by decide)) dX8_copy_20 ?_
        refine lv_topi (fun x20 ex20 => ?_)
        refine va_iast hx hb hK hP hD hS 1 1 rfl rfl (ai_in bx14.1 bx14.2 (by decide) (by decide)) dX8_copy_21 (fun H locs hP hD hS => ?_)
        obtain ⟨f21, ef21, hP, hD⟩ : ∃ g9 : Nat → Int32, g9 = upd j3a3_a (x14 : Int32).toNatClampNeg x20 ∧ va_P (dC, dI) vwCl [(a1, .inl (ka1, 23, .inl (fa1))), (a3, .inl (ka3, 23, .inl (g9)))] H ∧ va_D A [(a1, .inl (ka1, 23, .inl (fa1))), (a3, .inl (ka3, 23, .inl (g9)))] := ⟨_, rfl, hP, hD⟩
        obtain ⟨x22, ex22⟩ : ∃ y : Int32, y = j3l5 + Int32.ofInt 1 := ⟨_, rfl⟩
        have qx22 : x22.toInt = j3l5.toInt + 1 := ai_inc ex22 (by decide) (by decide) u7f_j3l5 (by decide)
        have bx22 : (1 : Int) ≤ x22.toInt ∧ x22.toInt ≤ 23 := ⟨by rw [qx22]; exact Int.add_le_add bj3l5_l (Int.le_refl _), by rw [qx22]; exact Int.add_le_add u7f_j3l5 (Int.le_refl _)⟩
        refine lv_iinc (v := x22) (lv' := [(5, .int x22), (0, .ref a1), (1, .int a2), (2, .ref a3), (3, .int a4), (4, .int a5)]) hx hb dX8_copy_22 hl (k := 5) rfl ex22.symm (by decide) rfl (fun ls hl => ?_)
        refine lv_goto (tgt := 3) hx hb dX8_copy_25 (by decide) ?_
        exact (hK0 _ _ _).mp (ih3 x22 f21 _ _ _ (by have h0 := qx22; omega) (Int.le_trans zq4 bx22.1) bx22.2 (cp_s cpy3 ef21 ex20 (cp_i qx14 ba4_l bj3l5_l) (cp_i qx19 ba2_l bj3l5_l) (cp_k qx22 bj3l5_l)) hP hD hS (lv_sub hl [1, 2, 3, 4, 5, 0] rfl))
  exact (hK0 _ _ _).mp (J3 24 0 fa3 _ _ _ (by have h1 : (0 : Int) ≤ (0 : Int32).toInt := zq5; have h2 : (0 : Int32).toInt ≤ (0 : Int) := zq6; omega) zq5 (Int.le_trans zq6 zq164) (cp_0 (by decide)) hP hD hS (lv_sub hl [1, 2, 3, 4, 5, 0] rfl))

set_option maxHeartbeats 4000000 in
set_option maxRecDepth 100000 in
theorem c_X8_copy_23_368 (l : Launch) (dC : Nat → ClassId) (dI : Nat → Nat → Nat) (sz : Nat) (a1 : Nat) (a2 : Int32) (a3 : Nat) (a4 : Int32) (a5 : Int32) (ka1 : ClassId) (fa1 : Nat → Int32) (ka3 : ClassId) (fa3 : Nat → Int32) (ba2_l : (0 : Int) ≤ a2.toInt) (ba2_u : a2.toInt ≤ (0 : Int)) (ba4_l : (0 : Int) ≤ a4.toInt) (ba4_u : a4.toInt ≤ (345 : Int)) (ba5_l : (23 : Int) ≤ a5.toInt) (ba5_u : a5.toInt ≤ (23 : Int)) : Met l yX8_copy wsX8_copy ({ frames := 0, cells := 0, slots := 0, locals := 0 }) (va_Pc [.ref a1, .int a2, .ref a3, .int a4, .int a5] (ax_C dC dI sz [(a1, .inl (ka1, 23, .inl (fa1))), (a3, .inl (ka3, 368, .inl (fa3)))] [(ka1, .int), (ka3, .int)] (fun _ => True))) (va_Qv (fun (_ : Unit) => True) (fun (_ : Unit) (t : State) => ∃ nfa3 : Nat → Int32, nfa3 = va_cpy fa1 fa3 a2.toNatClampNeg a4.toNatClampNeg 23 ∧ ax_B dC dI (va_A [(a1, .inl (ka1, 23, .inl (fa1))), (a3, .inl (ka3, 368, .inl (fa3)))] sz) [(a1, .inl (ka1, 23, .inl (fa1))), (a3, .inl (ka3, 368, .inl (nfa3)))] [(ka1, .int), (ka3, .int)] t) (va_A [(a1, .inl (ka1, 23, .inl (fa1))), (a3, .inl (ka3, 368, .inl (fa3)))] sz)) 0 0 (va_A [(a1, .inl (ka1, 23, .inl (fa1))), (a3, .inl (ka3, 368, .inl (fa3)))] sz) := by
  refine Met.ofW (cc := cX8_copy) (maxL := 6) (ret := none) (by decide) rfl ?_
  intro p e s m args below meth c s₁ B hml hv
  obtain ⟨rfl, hsz, hP, hK, hD0, hE⟩ := hv
  have hx := B.exec
  have hb := B.bytes
  have hr := B.returns
  have hts := atoms_spec (ws := wsX8_copy) B.pre
  have hown : s.vm.findClass RX8 = some m.cls := findClass_of_methodNamed B.named
  have hlocks := B.notSynchronized
  subst hsz
  have hD := hD0.self (sz := s.heap.size)
  generalize hAe : va_A [(a1, .inl (ka1, 23, .inl (fa1))), (a3, .inl (ka3, 368, .inl (fa3)))] s.heap.size = A at hD ⊢
  have hA : ∀ q : Nat, s.heap.size ≤ q → A q := fun q h => by rw [← hAe]; exact Or.inr h
  have hS : va_S A s.heap s.heap [] := va_S.rf
  have hP : va_P (dC, dI) vwCl [(a1, .inl (ka1, 23, .inl (fa1))), (a3, .inl (ka3, 368, .inl (fa3)))] s.heap := hP
  have hl := lv_entry ([.ref a1, .int a2, .ref a3, .int a4, .int a5]) (n := 6) (Nat.le_of_ble_eq_true rfl)
  rw [lg_entry_eq]
  generalize (lg_sl ([.ref a1, .int a2, .ref a3, .int a4, .int a5]) ++ List.replicate (6 - (lg_sl ([.ref a1, .int a2, .ref a3, .int a4, .int a5])).length) Slot.unset).toArray = ls at hl ⊢
  have hl : lv_has ls 6 [(0, .ref a1), (1, .int a2), (2, .ref a3), (3, .int a4), (4, .int a5)] := hl
  refine ai_open (fun K hK0 => ?_)
  refine (hK0 _ _ _).mpr ?_
  refine lv_iconst (v := 0) hx hb dX8_copy_0 zk_iconst_0 ?_
  refine lv_istore (lv' := [(5, .int 0), (0, .ref a1), (1, .int a2), (2, .ref a3), (3, .int a4), (4, .int a5)]) hx hb dX8_copy_1 hl (by decide) rfl (fun ls hl => ?_)
  have J3 : ∀ (n : Nat) (j3l5 : Int32) (j3a3_a : Nat → Int32) (H : Heap) (locs : List Loc) (ls : Array Slot), (24 : Int) - j3l5.toInt ≤ (n : Int) → (0 : Int) ≤ j3l5.toInt → j3l5.toInt ≤ (23 : Int) → (j3a3_a = va_cpy fa1 fa3 a2.toNatClampNeg a4.toNatClampNeg j3l5.toNatClampNeg) → va_P (dC, dI) vwCl [(a1, .inl (ka1, 23, .inl (fa1))), (a3, .inl (ka3, 368, .inl (j3a3_a)))] H → va_D A [(a1, .inl (ka1, 23, .inl (fa1))), (a3, .inl (ka3, 368, .inl (j3a3_a)))] → va_S A s.heap H locs → lv_has ls 6 [(0, .ref a1), (1, .int a2), (2, .ref a3), (3, .int a4), (4, .int a5), (5, .int j3l5)] → K H locs (F0 m 3 ls []) := by
    intro n
    induction n with
    | zero =>
      intro j3l5 j3a3_a H locs ls hm bj3l5_l bj3l5_u cpy3 hP hD hS hl
      have h8 := ai_min j3l5
      have h9 := ai_max j3l5
      exact absurd hm (by omega)
    | succ n ih3 =>
      intro j3l5 j3a3_a H locs ls hm bj3l5_l bj3l5_u cpy3 hP hD hS hl
      refine (hK0 _ _ _).mpr ?_
      have hm3 := hm
      refine lv_iload hx hb dX8_copy_3 (lv_at hl 5 rfl) ?_
      refine lv_iload hx hb dX8_copy_5 (lv_at hl 4 rfl) ?_
      refine lv_icmp_ge (tgt := 28) hx hb dX8_copy_7 (by decide) (fun c7 => ?_) (fun c7 => ?_)
      · have gc7 := ai_le c7
        have u7t_a5 : a5.toInt ≤ (23 : Int) := ba5_u
        have l7t_j3l5 : (23 : Int) ≤ j3l5.toInt := Int.le_trans ba5_l gc7
        exact W.vret hx hb hr (fun t ht hW => ⟨⟨(), rfl, trivial, j3a3_a, (cpy3.trans (congrArg (va_cpy fa1 fa3 a2.toNatClampNeg a4.toNatClampNeg) (cp_e (n := 23) (by omega)))), by rw [ht]; exact hP, va_K.moved hW.alike hK, hD⟩, hS.F ht⟩) hS.2.2 dX8_copy_28
      · have gc7 := ai_nle c7
        have u7f_j3l5 : j3l5.toInt ≤ (22 : Int) := ai_lthi gc7 ba5_u
        have l7f_a5 : (23 : Int) ≤ a5.toInt := ba5_l
        refine lv_aload_n hx hb dX8_copy_10 rfl (lv_at hl 2 rfl) ?_
        refine lv_iload_n hx hb dX8_copy_11 rfl (lv_at hl 3 rfl) ?_
        refine lv_iload hx hb dX8_copy_12 (lv_at hl 5 rfl) ?_
        refine lv_iadd hx hb dX8_copy_14 ?_
        refine lv_topi (fun x14 ex14 => ?_)
        have qx14 : x14.toInt = a4.toInt + j3l5.toInt := ai_add ex14 ⟨ba4_l, ba4_u⟩ ⟨bj3l5_l, u7f_j3l5⟩ (by decide) (by decide)
        have bx14 : (0 : Int) ≤ x14.toInt ∧ x14.toInt ≤ 367 := ⟨by rw [qx14]; exact Int.add_le_add ba4_l bj3l5_l, by rw [qx14]; exact Int.add_le_add ba4_u u7f_j3l5⟩
        refine lv_aload_n hx hb dX8_copy_15 rfl (lv_at hl 0 rfl) ?_
        refine lv_iload_n hx hb dX8_copy_16 rfl (lv_at hl 1 rfl) ?_
        refine lv_iload hx hb dX8_copy_17 (lv_at hl 5 rfl) ?_
        refine lv_iadd hx hb dX8_copy_19 ?_
        refine lv_topi (fun x19 ex19 => ?_)
        have qx19 : x19.toInt = a2.toInt + j3l5.toInt := ai_add ex19 ⟨ba2_l, ba2_u⟩ ⟨bj3l5_l, u7f_j3l5⟩ (by decide) (by decide)
        have bx19 : (0 : Int) ≤ x19.toInt ∧ x19.toInt ≤ 22 := ⟨by rw [qx19]; exact Int.add_le_add ba2_l bj3l5_l, by rw [qx19]; exact Int.add_le_add ba2_u u7f_j3l5⟩
        refine va_iald hx hb hK hP 0 0 rfl rfl (ai_in bx19.1 bx19.2 (by decide) (by decide)) dX8_copy_20 ?_
        refine lv_topi (fun x20 ex20 => ?_)
        refine va_iast hx hb hK hP hD hS 1 1 rfl rfl (ai_in bx14.1 bx14.2 (by decide) (by decide)) dX8_copy_21 (fun H locs hP hD hS => ?_)
        obtain ⟨f21, ef21, hP, hD⟩ : ∃ g9 : Nat → Int32, g9 = upd j3a3_a (x14 : Int32).toNatClampNeg x20 ∧ va_P (dC, dI) vwCl [(a1, .inl (ka1, 23, .inl (fa1))), (a3, .inl (ka3, 368, .inl (g9)))] H ∧ va_D A [(a1, .inl (ka1, 23, .inl (fa1))), (a3, .inl (ka3, 368, .inl (g9)))] := ⟨_, rfl, hP, hD⟩
        obtain ⟨x22, ex22⟩ : ∃ y : Int32, y = j3l5 + Int32.ofInt 1 := ⟨_, rfl⟩
        have qx22 : x22.toInt = j3l5.toInt + 1 := ai_inc ex22 (by decide) (by decide) u7f_j3l5 (by decide)
        have bx22 : (1 : Int) ≤ x22.toInt ∧ x22.toInt ≤ 23 := ⟨by rw [qx22]; exact Int.add_le_add bj3l5_l (Int.le_refl _), by rw [qx22]; exact Int.add_le_add u7f_j3l5 (Int.le_refl _)⟩
        refine lv_iinc (v := x22) (lv' := [(5, .int x22), (0, .ref a1), (1, .int a2), (2, .ref a3), (3, .int a4), (4, .int a5)]) hx hb dX8_copy_22 hl (k := 5) rfl ex22.symm (by decide) rfl (fun ls hl => ?_)
        refine lv_goto (tgt := 3) hx hb dX8_copy_25 (by decide) ?_
        exact (hK0 _ _ _).mp (ih3 x22 f21 _ _ _ (by have h0 := qx22; omega) (Int.le_trans zq4 bx22.1) bx22.2 (cp_s cpy3 ef21 ex20 (cp_i qx14 ba4_l bj3l5_l) (cp_i qx19 ba2_l bj3l5_l) (cp_k qx22 bj3l5_l)) hP hD hS (lv_sub hl [1, 2, 3, 4, 5, 0] rfl))
  exact (hK0 _ _ _).mp (J3 24 0 fa3 _ _ _ (by have h1 : (0 : Int) ≤ (0 : Int32).toInt := zq5; have h2 : (0 : Int32).toInt ≤ (0 : Int) := zq6; omega) zq5 (Int.le_trans zq6 zq164) (cp_0 (by decide)) hP hD hS (lv_sub hl [1, 2, 3, 4, 5, 0] rfl))

set_option maxHeartbeats 4000000 in
set_option maxRecDepth 100000 in
theorem c_X8_copy_368_23 (l : Launch) (dC : Nat → ClassId) (dI : Nat → Nat → Nat) (sz : Nat) (a1 : Nat) (a2 : Int32) (a3 : Nat) (a4 : Int32) (a5 : Int32) (ka1 : ClassId) (fa1 : Nat → Int32) (ka3 : ClassId) (fa3 : Nat → Int32) (ba2_l : (0 : Int) ≤ a2.toInt) (ba2_u : a2.toInt ≤ (345 : Int)) (ba4_l : (0 : Int) ≤ a4.toInt) (ba4_u : a4.toInt ≤ (0 : Int)) (ba5_l : (23 : Int) ≤ a5.toInt) (ba5_u : a5.toInt ≤ (23 : Int)) : Met l yX8_copy wsX8_copy ({ frames := 0, cells := 0, slots := 0, locals := 0 }) (va_Pc [.ref a1, .int a2, .ref a3, .int a4, .int a5] (ax_C dC dI sz [(a1, .inl (ka1, 368, .inl (fa1))), (a3, .inl (ka3, 23, .inl (fa3)))] [(ka1, .int), (ka3, .int)] (fun _ => True))) (va_Qv (fun (_ : Unit) => True) (fun (_ : Unit) (t : State) => ∃ nfa3 : Nat → Int32, nfa3 = va_cpy fa1 fa3 a2.toNatClampNeg a4.toNatClampNeg 23 ∧ ax_B dC dI (va_A [(a1, .inl (ka1, 368, .inl (fa1))), (a3, .inl (ka3, 23, .inl (fa3)))] sz) [(a1, .inl (ka1, 368, .inl (fa1))), (a3, .inl (ka3, 23, .inl (nfa3)))] [(ka1, .int), (ka3, .int)] t) (va_A [(a1, .inl (ka1, 368, .inl (fa1))), (a3, .inl (ka3, 23, .inl (fa3)))] sz)) 0 0 (va_A [(a1, .inl (ka1, 368, .inl (fa1))), (a3, .inl (ka3, 23, .inl (fa3)))] sz) := by
  refine Met.ofW (cc := cX8_copy) (maxL := 6) (ret := none) (by decide) rfl ?_
  intro p e s m args below meth c s₁ B hml hv
  obtain ⟨rfl, hsz, hP, hK, hD0, hE⟩ := hv
  have hx := B.exec
  have hb := B.bytes
  have hr := B.returns
  have hts := atoms_spec (ws := wsX8_copy) B.pre
  have hown : s.vm.findClass RX8 = some m.cls := findClass_of_methodNamed B.named
  have hlocks := B.notSynchronized
  subst hsz
  have hD := hD0.self (sz := s.heap.size)
  generalize hAe : va_A [(a1, .inl (ka1, 368, .inl (fa1))), (a3, .inl (ka3, 23, .inl (fa3)))] s.heap.size = A at hD ⊢
  have hA : ∀ q : Nat, s.heap.size ≤ q → A q := fun q h => by rw [← hAe]; exact Or.inr h
  have hS : va_S A s.heap s.heap [] := va_S.rf
  have hP : va_P (dC, dI) vwCl [(a1, .inl (ka1, 368, .inl (fa1))), (a3, .inl (ka3, 23, .inl (fa3)))] s.heap := hP
  have hl := lv_entry ([.ref a1, .int a2, .ref a3, .int a4, .int a5]) (n := 6) (Nat.le_of_ble_eq_true rfl)
  rw [lg_entry_eq]
  generalize (lg_sl ([.ref a1, .int a2, .ref a3, .int a4, .int a5]) ++ List.replicate (6 - (lg_sl ([.ref a1, .int a2, .ref a3, .int a4, .int a5])).length) Slot.unset).toArray = ls at hl ⊢
  have hl : lv_has ls 6 [(0, .ref a1), (1, .int a2), (2, .ref a3), (3, .int a4), (4, .int a5)] := hl
  refine ai_open (fun K hK0 => ?_)
  refine (hK0 _ _ _).mpr ?_
  refine lv_iconst (v := 0) hx hb dX8_copy_0 zk_iconst_0 ?_
  refine lv_istore (lv' := [(5, .int 0), (0, .ref a1), (1, .int a2), (2, .ref a3), (3, .int a4), (4, .int a5)]) hx hb dX8_copy_1 hl (by decide) rfl (fun ls hl => ?_)
  have J3 : ∀ (n : Nat) (j3l5 : Int32) (j3a3_a : Nat → Int32) (H : Heap) (locs : List Loc) (ls : Array Slot), (24 : Int) - j3l5.toInt ≤ (n : Int) → (0 : Int) ≤ j3l5.toInt → j3l5.toInt ≤ (23 : Int) → (j3a3_a = va_cpy fa1 fa3 a2.toNatClampNeg a4.toNatClampNeg j3l5.toNatClampNeg) → va_P (dC, dI) vwCl [(a1, .inl (ka1, 368, .inl (fa1))), (a3, .inl (ka3, 23, .inl (j3a3_a)))] H → va_D A [(a1, .inl (ka1, 368, .inl (fa1))), (a3, .inl (ka3, 23, .inl (j3a3_a)))] → va_S A s.heap H locs → lv_has ls 6 [(0, .ref a1), (1, .int a2), (2, .ref a3), (3, .int a4), (4, .int a5), (5, .int j3l5)] → K H locs (F0 m 3 ls []) := by
    intro n
    induction n with
    | zero =>
      intro j3l5 j3a3_a H locs ls hm bj3l5_l bj3l5_u cpy3 hP hD hS hl
      have h8 := ai_min j3l5
      have h9 := ai_max j3l5
      exact absurd hm (by omega)
    | succ n ih3 =>
      intro j3l5 j3a3_a H locs ls hm bj3l5_l bj3l5_u cpy3 hP hD hS hl
      refine (hK0 _ _ _).mpr ?_
      have hm3 := hm
      refine lv_iload hx hb dX8_copy_3 (lv_at hl 5 rfl) ?_
      refine lv_iload hx hb dX8_copy_5 (lv_at hl 4 rfl) ?_
      refine lv_icmp_ge (tgt := 28) hx hb dX8_copy_7 (by decide) (fun c7 => ?_) (fun c7 => ?_)
      · have gc7 := ai_le c7
        have u7t_a5 : a5.toInt ≤ (23 : Int) := ba5_u
        have l7t_j3l5 : (23 : Int) ≤ j3l5.toInt := Int.le_trans ba5_l gc7
        exact W.vret hx hb hr (fun t ht hW => ⟨⟨(), rfl, trivial, j3a3_a, (cpy3.trans (congrArg (va_cpy fa1 fa3 a2.toNatClampNeg a4.toNatClampNeg) (cp_e (n := 23) (by omega)))), by rw [ht]; exact hP, va_K.moved hW.alike hK, hD⟩, hS.F ht⟩) hS.2.2 dX8_copy_28
      · have gc7 := ai_nle c7
        have u7f_j3l5 : j3l5.toInt ≤ (22 : Int) := ai_lthi gc7 ba5_u
        have l7f_a5 : (23 : Int) ≤ a5.toInt := ba5_l
        refine lv_aload_n hx hb dX8_copy_10 rfl (lv_at hl 2 rfl) ?_
        refine lv_iload_n hx hb dX8_copy_11 rfl (lv_at hl 3 rfl) ?_
        refine lv_iload hx hb dX8_copy_12 (lv_at hl 5 rfl) ?_
        refine lv_iadd hx hb dX8_copy_14 ?_
        refine lv_topi (fun x14 ex14 => ?_)
        have qx14 : x14.toInt = a4.toInt + j3l5.toInt := ai_add ex14 ⟨ba4_l, ba4_u⟩ ⟨bj3l5_l, u7f_j3l5⟩ (by decide) (by decide)
        have bx14 : (0 : Int) ≤ x14.toInt ∧ x14.toInt ≤ 22 := ⟨by rw [qx14]; exact Int.add_le_add ba4_l bj3l5_l, by rw [qx14]; exact Int.add_le_add ba4_u u7f_j3l5⟩
        refine lv_aload_n hx hb dX8_copy_15 rfl (lv_at hl 0 rfl) ?_
        refine lv_iload_n hx hb dX8_copy_16 rfl (lv_at hl 1 rfl) ?_
        refine lv_iload hx hb dX8_copy_17 (lv_at hl 5 rfl) ?_
        refine lv_iadd hx hb dX8_copy_19 ?_
        refine lv_topi (fun x19 ex19 => ?_)
        have qx19 : x19.toInt = a2.toInt + j3l5.toInt := ai_add ex19 ⟨ba2_l, ba2_u⟩ ⟨bj3l5_l, u7f_j3l5⟩ (by decide) (by decide)
        have bx19 : (0 : Int) ≤ x19.toInt ∧ x19.toInt ≤ 367 := ⟨by rw [qx19]; exact Int.add_le_add ba2_l bj3l5_l, by rw [qx19]; exact Int.add_le_add ba2_u u7f_j3l5⟩
        refine va_iald hx hb hK hP 0 0 rfl rfl (ai_in bx19.1 bx19.2 (by decide) (by decide)) dX8_copy_20 ?_
        refine lv_topi (fun x20 ex20 => ?_)
        refine va_iast hx hb hK hP hD hS 1 1 rfl rfl (ai_in bx14.1 bx14.2 (by decide) (by decide)) dX8_copy_21 (fun H locs hP hD hS => ?_)
        obtain ⟨f21, ef21, hP, hD⟩ : ∃ g9 : Nat → Int32, g9 = upd j3a3_a (x14 : Int32).toNatClampNeg x20 ∧ va_P (dC, dI) vwCl [(a1, .inl (ka1, 368, .inl (fa1))), (a3, .inl (ka3, 23, .inl (g9)))] H ∧ va_D A [(a1, .inl (ka1, 368, .inl (fa1))), (a3, .inl (ka3, 23, .inl (g9)))] := ⟨_, rfl, hP, hD⟩
        obtain ⟨x22, ex22⟩ : ∃ y : Int32, y = j3l5 + Int32.ofInt 1 := ⟨_, rfl⟩
        have qx22 : x22.toInt = j3l5.toInt + 1 := ai_inc ex22 (by decide) (by decide) u7f_j3l5 (by decide)
        have bx22 : (1 : Int) ≤ x22.toInt ∧ x22.toInt ≤ 23 := ⟨by rw [qx22]; exact Int.add_le_add bj3l5_l (Int.le_refl _), by rw [qx22]; exact Int.add_le_add u7f_j3l5 (Int.le_refl _)⟩
        refine lv_iinc (v := x22) (lv' := [(5, .int x22), (0, .ref a1), (1, .int a2), (2, .ref a3), (3, .int a4), (4, .int a5)]) hx hb dX8_copy_22 hl (k := 5) rfl ex22.symm (by decide) rfl (fun ls hl => ?_)
        refine lv_goto (tgt := 3) hx hb dX8_copy_25 (by decide) ?_
        exact (hK0 _ _ _).mp (ih3 x22 f21 _ _ _ (by have h0 := qx22; omega) (Int.le_trans zq4 bx22.1) bx22.2 (cp_s cpy3 ef21 ex20 (cp_i qx14 ba4_l bj3l5_l) (cp_i qx19 ba2_l bj3l5_l) (cp_k qx22 bj3l5_l)) hP hD hS (lv_sub hl [1, 2, 3, 4, 5, 0] rfl))
  exact (hK0 _ _ _).mp (J3 24 0 fa3 _ _ _ (by have h1 : (0 : Int) ≤ (0 : Int32).toInt := zq5; have h2 : (0 : Int32).toInt ≤ (0 : Int) := zq6; omega) zq5 (Int.le_trans zq6 zq164) (cp_0 (by decide)) hP hD hS (lv_sub hl [1, 2, 3, 4, 5, 0] rfl))

set_option maxHeartbeats 4000000 in
set_option maxRecDepth 100000 in
theorem c_X8_copy_23_69 (l : Launch) (dC : Nat → ClassId) (dI : Nat → Nat → Nat) (sz : Nat) (a1 : Nat) (a2 : Int32) (a3 : Nat) (a4 : Int32) (a5 : Int32) (ka1 : ClassId) (fa1 : Nat → Int32) (ka3 : ClassId) (fa3 : Nat → Int32) (ba2_l : (0 : Int) ≤ a2.toInt) (ba2_u : a2.toInt ≤ (0 : Int)) (ba4_l : (0 : Int) ≤ a4.toInt) (ba4_u : a4.toInt ≤ (46 : Int)) (ba5_l : (23 : Int) ≤ a5.toInt) (ba5_u : a5.toInt ≤ (23 : Int)) : Met l yX8_copy wsX8_copy ({ frames := 0, cells := 0, slots := 0, locals := 0 }) (va_Pc [.ref a1, .int a2, .ref a3, .int a4, .int a5] (ax_C dC dI sz [(a1, .inl (ka1, 23, .inl (fa1))), (a3, .inl (ka3, 69, .inl (fa3)))] [(ka1, .int), (ka3, .int)] (fun _ => True))) (va_Qv (fun (_ : Unit) => True) (fun (_ : Unit) (t : State) => ∃ nfa3 : Nat → Int32, nfa3 = va_cpy fa1 fa3 a2.toNatClampNeg a4.toNatClampNeg 23 ∧ ax_B dC dI (va_A [(a1, .inl (ka1, 23, .inl (fa1))), (a3, .inl (ka3, 69, .inl (fa3)))] sz) [(a1, .inl (ka1, 23, .inl (fa1))), (a3, .inl (ka3, 69, .inl (nfa3)))] [(ka1, .int), (ka3, .int)] t) (va_A [(a1, .inl (ka1, 23, .inl (fa1))), (a3, .inl (ka3, 69, .inl (fa3)))] sz)) 0 0 (va_A [(a1, .inl (ka1, 23, .inl (fa1))), (a3, .inl (ka3, 69, .inl (fa3)))] sz) := by
  refine Met.ofW (cc := cX8_copy) (maxL := 6) (ret := none) (by decide) rfl ?_
  intro p e s m args below meth c s₁ B hml hv
  obtain ⟨rfl, hsz, hP, hK, hD0, hE⟩ := hv
  have hx := B.exec
  have hb := B.bytes
  have hr := B.returns
  have hts := atoms_spec (ws := wsX8_copy) B.pre
  have hown : s.vm.findClass RX8 = some m.cls := findClass_of_methodNamed B.named
  have hlocks := B.notSynchronized
  subst hsz
  have hD := hD0.self (sz := s.heap.size)
  generalize hAe : va_A [(a1, .inl (ka1, 23, .inl (fa1))), (a3, .inl (ka3, 69, .inl (fa3)))] s.heap.size = A at hD ⊢
  have hA : ∀ q : Nat, s.heap.size ≤ q → A q := fun q h => by rw [← hAe]; exact Or.inr h
  have hS : va_S A s.heap s.heap [] := va_S.rf
  have hP : va_P (dC, dI) vwCl [(a1, .inl (ka1, 23, .inl (fa1))), (a3, .inl (ka3, 69, .inl (fa3)))] s.heap := hP
  have hl := lv_entry ([.ref a1, .int a2, .ref a3, .int a4, .int a5]) (n := 6) (Nat.le_of_ble_eq_true rfl)
  rw [lg_entry_eq]
  generalize (lg_sl ([.ref a1, .int a2, .ref a3, .int a4, .int a5]) ++ List.replicate (6 - (lg_sl ([.ref a1, .int a2, .ref a3, .int a4, .int a5])).length) Slot.unset).toArray = ls at hl ⊢
  have hl : lv_has ls 6 [(0, .ref a1), (1, .int a2), (2, .ref a3), (3, .int a4), (4, .int a5)] := hl
  refine ai_open (fun K hK0 => ?_)
  refine (hK0 _ _ _).mpr ?_
  refine lv_iconst (v := 0) hx hb dX8_copy_0 zk_iconst_0 ?_
  refine lv_istore (lv' := [(5, .int 0), (0, .ref a1), (1, .int a2), (2, .ref a3), (3, .int a4), (4, .int a5)]) hx hb dX8_copy_1 hl (by decide) rfl (fun ls hl => ?_)
  have J3 : ∀ (n : Nat) (j3l5 : Int32) (j3a3_a : Nat → Int32) (H : Heap) (locs : List Loc) (ls : Array Slot), (24 : Int) - j3l5.toInt ≤ (n : Int) → (0 : Int) ≤ j3l5.toInt → j3l5.toInt ≤ (23 : Int) → (j3a3_a = va_cpy fa1 fa3 a2.toNatClampNeg a4.toNatClampNeg j3l5.toNatClampNeg) → va_P (dC, dI) vwCl [(a1, .inl (ka1, 23, .inl (fa1))), (a3, .inl (ka3, 69, .inl (j3a3_a)))] H → va_D A [(a1, .inl (ka1, 23, .inl (fa1))), (a3, .inl (ka3, 69, .inl (j3a3_a)))] → va_S A s.heap H locs → lv_has ls 6 [(0, .ref a1), (1, .int a2), (2, .ref a3), (3, .int a4), (4, .int a5), (5, .int j3l5)] → K H locs (F0 m 3 ls []) := by
    intro n
    induction n with
    | zero =>
      intro j3l5 j3a3_a H locs ls hm bj3l5_l bj3l5_u cpy3 hP hD hS hl
      have h8 := ai_min j3l5
      have h9 := ai_max j3l5
      exact absurd hm (by omega)
    | succ n ih3 =>
      intro j3l5 j3a3_a H locs ls hm bj3l5_l bj3l5_u cpy3 hP hD hS hl
      refine (hK0 _ _ _).mpr ?_
      have hm3 := hm
      refine lv_iload hx hb dX8_copy_3 (lv_at hl 5 rfl) ?_
      refine lv_iload hx hb dX8_copy_5 (lv_at hl 4 rfl) ?_
      refine lv_icmp_ge (tgt := 28) hx hb dX8_copy_7 (by decide) (fun c7 => ?_) (fun c7 => ?_)
      · have gc7 := ai_le c7
        have u7t_a5 : a5.toInt ≤ (23 : Int) := ba5_u
        have l7t_j3l5 : (23 : Int) ≤ j3l5.toInt := Int.le_trans ba5_l gc7
        exact W.vret hx hb hr (fun t ht hW => ⟨⟨(), rfl, trivial, j3a3_a, (cpy3.trans (congrArg (va_cpy fa1 fa3 a2.toNatClampNeg a4.toNatClampNeg) (cp_e (n := 23) (by omega)))), by rw [ht]; exact hP, va_K.moved hW.alike hK, hD⟩, hS.F ht⟩) hS.2.2 dX8_copy_28
      · have gc7 := ai_nle c7
        have u7f_j3l5 : j3l5.toInt ≤ (22 : Int) := ai_lthi gc7 ba5_u
        have l7f_a5 : (23 : Int) ≤ a5.toInt := ba5_l
        refine lv_aload_n hx hb dX8_copy_10 rfl (lv_at hl 2 rfl) ?_
        refine lv_iload_n hx hb dX8_copy_11 rfl (lv_at hl 3 rfl) ?_
        refine lv_iload hx hb dX8_copy_12 (lv_at hl 5 rfl) ?_
        refine lv_iadd hx hb dX8_copy_14 ?_
        refine lv_topi (fun x14 ex14 => ?_)
        have qx14 : x14.toInt = a4.toInt + j3l5.toInt := ai_add ex14 ⟨ba4_l, ba4_u⟩ ⟨bj3l5_l, u7f_j3l5⟩ (by decide) (by decide)
        have bx14 : (0 : Int) ≤ x14.toInt ∧ x14.toInt ≤ 68 := ⟨by rw [qx14]; exact Int.add_le_add ba4_l bj3l5_l, by rw [qx14]; exact Int.add_le_add ba4_u u7f_j3l5⟩
        refine lv_aload_n hx hb dX8_copy_15 rfl (lv_at hl 0 rfl) ?_
        refine lv_iload_n hx hb dX8_copy_16 rfl (lv_at hl 1 rfl) ?_
        refine lv_iload hx hb dX8_copy_17 (lv_at hl 5 rfl) ?_
        refine lv_iadd hx hb dX8_copy_19 ?_
        refine lv_topi (fun x19 ex19 => ?_)
        have qx19 : x19.toInt = a2.toInt + j3l5.toInt := ai_add ex19 ⟨ba2_l, ba2_u⟩ ⟨bj3l5_l, u7f_j3l5⟩ (by decide) (by decide)
        have bx19 : (0 : Int) ≤ x19.toInt ∧ x19.toInt ≤ 22 := ⟨by rw [qx19]; exact Int.add_le_add ba2_l bj3l5_l, by rw [qx19]; exact Int.add_le_add ba2_u u7f_j3l5⟩
        refine va_iald hx hb hK hP 0 0 rfl rfl (ai_in bx19.1 bx19.2 (by decide) (by decide)) dX8_copy_20 ?_
        refine lv_topi (fun x20 ex20 => ?_)
        refine va_iast hx hb hK hP hD hS 1 1 rfl rfl (ai_in bx14.1 bx14.2 (by decide) (by decide)) dX8_copy_21 (fun H locs hP hD hS => ?_)
        obtain ⟨f21, ef21, hP, hD⟩ : ∃ g9 : Nat → Int32, g9 = upd j3a3_a (x14 : Int32).toNatClampNeg x20 ∧ va_P (dC, dI) vwCl [(a1, .inl (ka1, 23, .inl (fa1))), (a3, .inl (ka3, 69, .inl (g9)))] H ∧ va_D A [(a1, .inl (ka1, 23, .inl (fa1))), (a3, .inl (ka3, 69, .inl (g9)))] := ⟨_, rfl, hP, hD⟩
        obtain ⟨x22, ex22⟩ : ∃ y : Int32, y = j3l5 + Int32.ofInt 1 := ⟨_, rfl⟩
        have qx22 : x22.toInt = j3l5.toInt + 1 := ai_inc ex22 (by decide) (by decide) u7f_j3l5 (by decide)
        have bx22 : (1 : Int) ≤ x22.toInt ∧ x22.toInt ≤ 23 := ⟨by rw [qx22]; exact Int.add_le_add bj3l5_l (Int.le_refl _), by rw [qx22]; exact Int.add_le_add u7f_j3l5 (Int.le_refl _)⟩
        refine lv_iinc (v := x22) (lv' := [(5, .int x22), (0, .ref a1), (1, .int a2), (2, .ref a3), (3, .int a4), (4, .int a5)]) hx hb dX8_copy_22 hl (k := 5) rfl ex22.symm (by decide) rfl (fun ls hl => ?_)
        refine lv_goto (tgt := 3) hx hb dX8_copy_25 (by decide) ?_
        exact (hK0 _ _ _).mp (ih3 x22 f21 _ _ _ (by have h0 := qx22; omega) (Int.le_trans zq4 bx22.1) bx22.2 (cp_s cpy3 ef21 ex20 (cp_i qx14 ba4_l bj3l5_l) (cp_i qx19 ba2_l bj3l5_l) (cp_k qx22 bj3l5_l)) hP hD hS (lv_sub hl [1, 2, 3, 4, 5, 0] rfl))
  exact (hK0 _ _ _).mp (J3 24 0 fa3 _ _ _ (by have h1 : (0 : Int) ≤ (0 : Int32).toInt := zq5; have h2 : (0 : Int32).toInt ≤ (0 : Int) := zq6; omega) zq5 (Int.le_trans zq6 zq164) (cp_0 (by decide)) hP hD hS (lv_sub hl [1, 2, 3, 4, 5, 0] rfl))

set_option maxHeartbeats 4000000 in
set_option maxRecDepth 100000 in
theorem c_X8_copy_69_23 (l : Launch) (dC : Nat → ClassId) (dI : Nat → Nat → Nat) (sz : Nat) (a1 : Nat) (a2 : Int32) (a3 : Nat) (a4 : Int32) (a5 : Int32) (ka1 : ClassId) (fa1 : Nat → Int32) (ka3 : ClassId) (fa3 : Nat → Int32) (ba2_l : (0 : Int) ≤ a2.toInt) (ba2_u : a2.toInt ≤ (46 : Int)) (ba4_l : (0 : Int) ≤ a4.toInt) (ba4_u : a4.toInt ≤ (0 : Int)) (ba5_l : (23 : Int) ≤ a5.toInt) (ba5_u : a5.toInt ≤ (23 : Int)) : Met l yX8_copy wsX8_copy ({ frames := 0, cells := 0, slots := 0, locals := 0 }) (va_Pc [.ref a1, .int a2, .ref a3, .int a4, .int a5] (ax_C dC dI sz [(a1, .inl (ka1, 69, .inl (fa1))), (a3, .inl (ka3, 23, .inl (fa3)))] [(ka1, .int), (ka3, .int)] (fun _ => True))) (va_Qv (fun (_ : Unit) => True) (fun (_ : Unit) (t : State) => ∃ nfa3 : Nat → Int32, nfa3 = va_cpy fa1 fa3 a2.toNatClampNeg a4.toNatClampNeg 23 ∧ ax_B dC dI (va_A [(a1, .inl (ka1, 69, .inl (fa1))), (a3, .inl (ka3, 23, .inl (fa3)))] sz) [(a1, .inl (ka1, 69, .inl (fa1))), (a3, .inl (ka3, 23, .inl (nfa3)))] [(ka1, .int), (ka3, .int)] t) (va_A [(a1, .inl (ka1, 69, .inl (fa1))), (a3, .inl (ka3, 23, .inl (fa3)))] sz)) 0 0 (va_A [(a1, .inl (ka1, 69, .inl (fa1))), (a3, .inl (ka3, 23, .inl (fa3)))] sz) := by
  refine Met.ofW (cc := cX8_copy) (maxL := 6) (ret := none) (by decide) rfl ?_
  intro p e s m args below meth c s₁ B hml hv
  obtain ⟨rfl, hsz, hP, hK, hD0, hE⟩ := hv
  have hx := B.exec
  have hb := B.bytes
  have hr := B.returns
  have hts := atoms_spec (ws := wsX8_copy) B.pre
  have hown : s.vm.findClass RX8 = some m.cls := findClass_of_methodNamed B.named
  have hlocks := B.notSynchronized
  subst hsz
  have hD := hD0.self (sz := s.heap.size)
  generalize hAe : va_A [(a1, .inl (ka1, 69, .inl (fa1))), (a3, .inl (ka3, 23, .inl (fa3)))] s.heap.size = A at hD ⊢
  have hA : ∀ q : Nat, s.heap.size ≤ q → A q := fun q h => by rw [← hAe]; exact Or.inr h
  have hS : va_S A s.heap s.heap [] := va_S.rf
  have hP : va_P (dC, dI) vwCl [(a1, .inl (ka1, 69, .inl (fa1))), (a3, .inl (ka3, 23, .inl (fa3)))] s.heap := hP
  have hl := lv_entry ([.ref a1, .int a2, .ref a3, .int a4, .int a5]) (n := 6) (Nat.le_of_ble_eq_true rfl)
  rw [lg_entry_eq]
  generalize (lg_sl ([.ref a1, .int a2, .ref a3, .int a4, .int a5]) ++ List.replicate (6 - (lg_sl ([.ref a1, .int a2, .ref a3, .int a4, .int a5])).length) Slot.unset).toArray = ls at hl ⊢
  have hl : lv_has ls 6 [(0, .ref a1), (1, .int a2), (2, .ref a3), (3, .int a4), (4, .int a5)] := hl
  refine ai_open (fun K hK0 => ?_)
  refine (hK0 _ _ _).mpr ?_
  refine lv_iconst (v := 0) hx hb dX8_copy_0 zk_iconst_0 ?_
  refine lv_istore (lv' := [(5, .int 0), (0, .ref a1), (1, .int a2), (2, .ref a3), (3, .int a4), (4, .int a5)]) hx hb dX8_copy_1 hl (by decide) rfl (fun ls hl => ?_)
  have J3 : ∀ (n : Nat) (j3l5 : Int32) (j3a3_a : Nat → Int32) (H : Heap) (locs : List Loc) (ls : Array Slot), (24 : Int) - j3l5.toInt ≤ (n : Int) → (0 : Int) ≤ j3l5.toInt → j3l5.toInt ≤ (23 : Int) → (j3a3_a = va_cpy fa1 fa3 a2.toNatClampNeg a4.toNatClampNeg j3l5.toNatClampNeg) → va_P (dC, dI) vwCl [(a1, .inl (ka1, 69, .inl (fa1))), (a3, .inl (ka3, 23, .inl (j3a3_a)))] H → va_D A [(a1, .inl (ka1, 69, .inl (fa1))), (a3, .inl (ka3, 23, .inl (j3a3_a)))] → va_S A s.heap H locs → lv_has ls 6 [(0, .ref a1), (1, .int a2), (2, .ref a3), (3, .int a4), (4, .int a5), (5, .int j3l5)] → K H locs (F0 m 3 ls []) := by
    intro n
    induction n with
    | zero =>
      intro j3l5 j3a3_a H locs ls hm bj3l5_l bj3l5_u cpy3 hP hD hS hl
      have h8 := ai_min j3l5
      have h9 := ai_max j3l5
      exact absurd hm (by omega)
    | succ n ih3 =>
      intro j3l5 j3a3_a H locs ls hm bj3l5_l bj3l5_u cpy3 hP hD hS hl
      refine (hK0 _ _ _).mpr ?_
      have hm3 := hm
      refine lv_iload hx hb dX8_copy_3 (lv_at hl 5 rfl) ?_
      refine lv_iload hx hb dX8_copy_5 (lv_at hl 4 rfl) ?_
      refine lv_icmp_ge (tgt := 28) hx hb dX8_copy_7 (by decide) (fun c7 => ?_) (fun c7 => ?_)
      · have gc7 := ai_le c7
        have u7t_a5 : a5.toInt ≤ (23 : Int) := ba5_u
        have l7t_j3l5 : (23 : Int) ≤ j3l5.toInt := Int.le_trans ba5_l gc7
        exact W.vret hx hb hr (fun t ht hW => ⟨⟨(), rfl, trivial, j3a3_a, (cpy3.trans (congrArg (va_cpy fa1 fa3 a2.toNatClampNeg a4.toNatClampNeg) (cp_e (n := 23) (by omega)))), by rw [ht]; exact hP, va_K.moved hW.alike hK, hD⟩, hS.F ht⟩) hS.2.2 dX8_copy_28
      · have gc7 := ai_nle c7
        have u7f_j3l5 : j3l5.toInt ≤ (22 : Int) := ai_lthi gc7 ba5_u
        have l7f_a5 : (23 : Int) ≤ a5.toInt := ba5_l
        refine lv_aload_n hx hb dX8_copy_10 rfl (lv_at hl 2 rfl) ?_
        refine lv_iload_n hx hb dX8_copy_11 rfl (lv_at hl 3 rfl) ?_
        refine lv_iload hx hb dX8_copy_12 (lv_at hl 5 rfl) ?_
        refine lv_iadd hx hb dX8_copy_14 ?_
        refine lv_topi (fun x14 ex14 => ?_)
        have qx14 : x14.toInt = a4.toInt + j3l5.toInt := ai_add ex14 ⟨ba4_l, ba4_u⟩ ⟨bj3l5_l, u7f_j3l5⟩ (by decide) (by decide)
        have bx14 : (0 : Int) ≤ x14.toInt ∧ x14.toInt ≤ 22 := ⟨by rw [qx14]; exact Int.add_le_add ba4_l bj3l5_l, by rw [qx14]; exact Int.add_le_add ba4_u u7f_j3l5⟩
        refine lv_aload_n hx hb dX8_copy_15 rfl (lv_at hl 0 rfl) ?_
        refine lv_iload_n hx hb dX8_copy_16 rfl (lv_at hl 1 rfl) ?_
        refine lv_iload hx hb dX8_copy_17 (lv_at hl 5 rfl) ?_
        refine lv_iadd hx hb dX8_copy_19 ?_
        refine lv_topi (fun x19 ex19 => ?_)
        have qx19 : x19.toInt = a2.toInt + j3l5.toInt := ai_add ex19 ⟨ba2_l, ba2_u⟩ ⟨bj3l5_l, u7f_j3l5⟩ (by decide) (by decide)
        have bx19 : (0 : Int) ≤ x19.toInt ∧ x19.toInt ≤ 68 := ⟨by rw [qx19]; exact Int.add_le_add ba2_l bj3l5_l, by rw [qx19]; exact Int.add_le_add ba2_u u7f_j3l5⟩
        refine va_iald hx hb hK hP 0 0 rfl rfl (ai_in bx19.1 bx19.2 (by decide) (by decide)) dX8_copy_20 ?_
        refine lv_topi (fun x20 ex20 => ?_)
        refine va_iast hx hb hK hP hD hS 1 1 rfl rfl (ai_in bx14.1 bx14.2 (by decide) (by decide)) dX8_copy_21 (fun H locs hP hD hS => ?_)
        obtain ⟨f21, ef21, hP, hD⟩ : ∃ g9 : Nat → Int32, g9 = upd j3a3_a (x14 : Int32).toNatClampNeg x20 ∧ va_P (dC, dI) vwCl [(a1, .inl (ka1, 69, .inl (fa1))), (a3, .inl (ka3, 23, .inl (g9)))] H ∧ va_D A [(a1, .inl (ka1, 69, .inl (fa1))), (a3, .inl (ka3, 23, .inl (g9)))] := ⟨_, rfl, hP, hD⟩
        obtain ⟨x22, ex22⟩ : ∃ y : Int32, y = j3l5 + Int32.ofInt 1 := ⟨_, rfl⟩
        have qx22 : x22.toInt = j3l5.toInt + 1 := ai_inc ex22 (by decide) (by decide) u7f_j3l5 (by decide)
        have bx22 : (1 : Int) ≤ x22.toInt ∧ x22.toInt ≤ 23 := ⟨by rw [qx22]; exact Int.add_le_add bj3l5_l (Int.le_refl _), by rw [qx22]; exact Int.add_le_add u7f_j3l5 (Int.le_refl _)⟩
        refine lv_iinc (v := x22) (lv' := [(5, .int x22), (0, .ref a1), (1, .int a2), (2, .ref a3), (3, .int a4), (4, .int a5)]) hx hb dX8_copy_22 hl (k := 5) rfl ex22.symm (by decide) rfl (fun ls hl => ?_)
        refine lv_goto (tgt := 3) hx hb dX8_copy_25 (by decide) ?_
        exact (hK0 _ _ _).mp (ih3 x22 f21 _ _ _ (by have h0 := qx22; omega) (Int.le_trans zq4 bx22.1) bx22.2 (cp_s cpy3 ef21 ex20 (cp_i qx14 ba4_l bj3l5_l) (cp_i qx19 ba2_l bj3l5_l) (cp_k qx22 bj3l5_l)) hP hD hS (lv_sub hl [1, 2, 3, 4, 5, 0] rfl))
  exact (hK0 _ _ _).mp (J3 24 0 fa3 _ _ _ (by have h1 : (0 : Int) ≤ (0 : Int32).toInt := zq5; have h2 : (0 : Int32).toInt ≤ (0 : Int) := zq6; omega) zq5 (Int.le_trans zq6 zq164) (cp_0 (by decide)) hP hD hS (lv_sub hl [1, 2, 3, 4, 5, 0] rfl))

set_option maxHeartbeats 4000000 in
set_option maxRecDepth 100000 in
theorem c_X8_copy_156_156 (l : Launch) (dC : Nat → ClassId) (dI : Nat → Nat → Nat) (sz : Nat) (a1 : Nat) (a2 : Int32) (a3 : Nat) (a4 : Int32) (a5 : Int32) (ka1 : ClassId) (fa1 : Nat → Int32) (ka3 : ClassId) (fa3 : Nat → Int32) (ba2_l : (0 : Int) ≤ a2.toInt) (ba2_u : a2.toInt ≤ (0 : Int)) (ba4_l : (0 : Int) ≤ a4.toInt) (ba4_u : a4.toInt ≤ (0 : Int)) (ba5_l : (156 : Int) ≤ a5.toInt) (ba5_u : a5.toInt ≤ (156 : Int)) : Met l yX8_copy wsX8_copy ({ frames := 0, cells := 0, slots := 0, locals := 0 }) (va_Pc [.ref a1, .int a2, .ref a3, .int a4, .int a5] (ax_C dC dI sz [(a1, .inl (ka1, 156, .inl (fa1))), (a3, .inl (ka3, 156, .inl (fa3)))] [(ka1, .int), (ka3, .int)] (fun _ => True))) (va_Qv (fun (_ : Unit) => True) (fun (_ : Unit) (t : State) => ∃ nfa3 : Nat → Int32, nfa3 = va_cpy fa1 fa3 a2.toNatClampNeg a4.toNatClampNeg 156 ∧ ax_B dC dI (va_A [(a1, .inl (ka1, 156, .inl (fa1))), (a3, .inl (ka3, 156, .inl (fa3)))] sz) [(a1, .inl (ka1, 156, .inl (fa1))), (a3, .inl (ka3, 156, .inl (nfa3)))] [(ka1, .int), (ka3, .int)] t) (va_A [(a1, .inl (ka1, 156, .inl (fa1))), (a3, .inl (ka3, 156, .inl (fa3)))] sz)) 0 0 (va_A [(a1, .inl (ka1, 156, .inl (fa1))), (a3, .inl (ka3, 156, .inl (fa3)))] sz) := by
  refine Met.ofW (cc := cX8_copy) (maxL := 6) (ret := none) (by decide) rfl ?_
  intro p e s m args below meth c s₁ B hml hv
  obtain ⟨rfl, hsz, hP, hK, hD0, hE⟩ := hv
  have hx := B.exec
  have hb := B.bytes
  have hr := B.returns
  have hts := atoms_spec (ws := wsX8_copy) B.pre
  have hown : s.vm.findClass RX8 = some m.cls := findClass_of_methodNamed B.named
  have hlocks := B.notSynchronized
  subst hsz
  have hD := hD0.self (sz := s.heap.size)
  generalize hAe : va_A [(a1, .inl (ka1, 156, .inl (fa1))), (a3, .inl (ka3, 156, .inl (fa3)))] s.heap.size = A at hD ⊢
  have hA : ∀ q : Nat, s.heap.size ≤ q → A q := fun q h => by rw [← hAe]; exact Or.inr h
  have hS : va_S A s.heap s.heap [] := va_S.rf
  have hP : va_P (dC, dI) vwCl [(a1, .inl (ka1, 156, .inl (fa1))), (a3, .inl (ka3, 156, .inl (fa3)))] s.heap := hP
  have hl := lv_entry ([.ref a1, .int a2, .ref a3, .int a4, .int a5]) (n := 6) (Nat.le_of_ble_eq_true rfl)
  rw [lg_entry_eq]
  generalize (lg_sl ([.ref a1, .int a2, .ref a3, .int a4, .int a5]) ++ List.replicate (6 - (lg_sl ([.ref a1, .int a2, .ref a3, .int a4, .int a5])).length) Slot.unset).toArray = ls at hl ⊢
  have hl : lv_has ls 6 [(0, .ref a1), (1, .int a2), (2, .ref a3), (3, .int a4), (4, .int a5)] := hl
  refine ai_open (fun K hK0 => ?_)
  refine (hK0 _ _ _).mpr ?_
  refine lv_iconst (v := 0) hx hb dX8_copy_0 zk_iconst_0 ?_
  refine lv_istore (lv' := [(5, .int 0), (0, .ref a1), (1, .int a2), (2, .ref a3), (3, .int a4), (4, .int a5)]) hx hb dX8_copy_1 hl (by decide) rfl (fun ls hl => ?_)
  have J3 : ∀ (n : Nat) (j3l5 : Int32) (j3a3_a : Nat → Int32) (H : Heap) (locs : List Loc) (ls : Array Slot), (157 : Int) - j3l5.toInt ≤ (n : Int) → (0 : Int) ≤ j3l5.toInt → j3l5.toInt ≤ (156 : Int) → (j3a3_a = va_cpy fa1 fa3 a2.toNatClampNeg a4.toNatClampNeg j3l5.toNatClampNeg) → va_P (dC, dI) vwCl [(a1, .inl (ka1, 156, .inl (fa1))), (a3, .inl (ka3, 156, .inl (j3a3_a)))] H → va_D A [(a1, .inl (ka1, 156, .inl (fa1))), (a3, .inl (ka3, 156, .inl (j3a3_a)))] → va_S A s.heap H locs → lv_has ls 6 [(0, .ref a1), (1, .int a2), (2, .ref a3), (3, .int a4), (4, .int a5), (5, .int j3l5)] → K H locs (F0 m 3 ls []) := by
    intro n
    induction n with
    | zero =>
      intro j3l5 j3a3_a H locs ls hm bj3l5_l bj3l5_u cpy3 hP hD hS hl
      have h8 := ai_min j3l5
      have h9 := ai_max j3l5
      exact absurd hm (by omega)
    | succ n ih3 =>
      intro j3l5 j3a3_a H locs ls hm bj3l5_l bj3l5_u cpy3 hP hD hS hl
      refine (hK0 _ _ _).mpr ?_
      have hm3 := hm
      refine lv_iload hx hb dX8_copy_3 (lv_at hl 5 rfl) ?_
      refine lv_iload hx hb dX8_copy_5 (lv_at hl 4 rfl) ?_
      refine lv_icmp_ge (tgt := 28) hx hb dX8_copy_7 (by decide) (fun c7 => ?_) (fun c7 => ?_)
      · have gc7 := ai_le c7
        have u7t_a5 : a5.toInt ≤ (156 : Int) := ba5_u
        have l7t_j3l5 : (156 : Int) ≤ j3l5.toInt := Int.le_trans ba5_l gc7
        exact W.vret hx hb hr (fun t ht hW => ⟨⟨(), rfl, trivial, j3a3_a, (cpy3.trans (congrArg (va_cpy fa1 fa3 a2.toNatClampNeg a4.toNatClampNeg) (cp_e (n := 156) (by omega)))), by rw [ht]; exact hP, va_K.moved hW.alike hK, hD⟩, hS.F ht⟩) hS.2.2 dX8_copy_28
      · have gc7 := ai_nle c7
        have u7f_j3l5 : j3l5.toInt ≤ (155 : Int) := ai_lthi gc7 ba5_u
        have l7f_a5 : (156 : Int) ≤ a5.toInt := ba5_l
        refine lv_aload_n hx hb dX8_copy_10 rfl (lv_at hl 2 rfl) ?_
        refine lv_iload_n hx hb dX8_copy_11 rfl (lv_at hl 3 rfl) ?_
        refine lv_iload hx hb dX8_copy_12 (lv_at hl 5 rfl) ?_
        refine lv_iadd hx hb dX8_copy_14 ?_
        refine lv_topi (fun x14 ex14 => ?_)
        have qx14 : x14.toInt = a4.toInt + j3l5.toInt := ai_add ex14 ⟨ba4_l, ba4_u⟩ ⟨bj3l5_l, u7f_j3l5⟩ (by decide) (by decide)
        have bx14 : (0 : Int) ≤ x14.toInt ∧ x14.toInt ≤ 155 := ⟨by rw [qx14]; exact Int.add_le_add ba4_l bj3l5_l, by rw [qx14]; exact Int.add_le_add ba4_u u7f_j3l5⟩
        refine lv_aload_n hx hb dX8_copy_15 rfl (lv_at hl 0 rfl) ?_
        refine lv_iload_n hx hb dX8_copy_16 rfl (lv_at hl 1 rfl) ?_
        refine lv_iload hx hb dX8_copy_17 (lv_at hl 5 rfl) ?_
        refine lv_iadd hx hb dX8_copy_19 ?_
        refine lv_topi (fun x19 ex19 => ?_)
        have qx19 : x19.toInt = a2.toInt + j3l5.toInt := ai_add ex19 ⟨ba2_l, ba2_u⟩ ⟨bj3l5_l, u7f_j3l5⟩ (by decide) (by decide)
        have bx19 : (0 : Int) ≤ x19.toInt ∧ x19.toInt ≤ 155 := ⟨by rw [qx19]; exact Int.add_le_add ba2_l bj3l5_l, by rw [qx19]; exact Int.add_le_add ba2_u u7f_j3l5⟩
        refine va_iald hx hb hK hP 0 0 rfl rfl (ai_in bx19.1 bx19.2 (by decide) (by decide)) dX8_copy_20 ?_
        refine lv_topi (fun x20 ex20 => ?_)
        refine va_iast hx hb hK hP hD hS 1 1 rfl rfl (ai_in bx14.1 bx14.2 (by decide) (by decide)) dX8_copy_21 (fun H locs hP hD hS => ?_)
        obtain ⟨f21, ef21, hP, hD⟩ : ∃ g9 : Nat → Int32, g9 = upd j3a3_a (x14 : Int32).toNatClampNeg x20 ∧ va_P (dC, dI) vwCl [(a1, .inl (ka1, 156, .inl (fa1))), (a3, .inl (ka3, 156, .inl (g9)))] H ∧ va_D A [(a1, .inl (ka1, 156, .inl (fa1))), (a3, .inl (ka3, 156, .inl (g9)))] := ⟨_, rfl, hP, hD⟩
        obtain ⟨x22, ex22⟩ : ∃ y : Int32, y = j3l5 + Int32.ofInt 1 := ⟨_, rfl⟩
        have qx22 : x22.toInt = j3l5.toInt + 1 := ai_inc ex22 (by decide) (by decide) u7f_j3l5 (by decide)
        have bx22 : (1 : Int) ≤ x22.toInt ∧ x22.toInt ≤ 156 := ⟨by rw [qx22]; exact Int.add_le_add bj3l5_l (Int.le_refl _), by rw [qx22]; exact Int.add_le_add u7f_j3l5 (Int.le_refl _)⟩
        refine lv_iinc (v := x22) (lv' := [(5, .int x22), (0, .ref a1), (1, .int a2), (2, .ref a3), (3, .int a4), (4, .int a5)]) hx hb dX8_copy_22 hl (k := 5) rfl ex22.symm (by decide) rfl (fun ls hl => ?_)
        refine lv_goto (tgt := 3) hx hb dX8_copy_25 (by decide) ?_
        exact (hK0 _ _ _).mp (ih3 x22 f21 _ _ _ (by have h0 := qx22; omega) (Int.le_trans zq4 bx22.1) bx22.2 (cp_s cpy3 ef21 ex20 (cp_i qx14 ba4_l bj3l5_l) (cp_i qx19 ba2_l bj3l5_l) (cp_k qx22 bj3l5_l)) hP hD hS (lv_sub hl [1, 2, 3, 4, 5, 0] rfl))
  exact (hK0 _ _ _).mp (J3 157 0 fa3 _ _ _ (by have h1 : (0 : Int) ≤ (0 : Int32).toInt := zq5; have h2 : (0 : Int32).toInt ≤ (0 : Int) := zq6; omega) zq5 (Int.le_trans zq6 zq167) (cp_0 (by decide)) hP hD hS (lv_sub hl [1, 2, 3, 4, 5, 0] rfl))
