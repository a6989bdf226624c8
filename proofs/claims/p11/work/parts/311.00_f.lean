set_option maxHeartbeats 4000000 in
set_option maxRecDepth 100000 in
theorem f_X7_within (l : Launch) (dC : Nat → ClassId) (dI : Nat → Nat → Nat) (sz : Nat) (a1 : Int32) (a2 : Int32) (a3 : Int32)  : Met l yX7_within wsX7_within ({ frames := 0, cells := 0, slots := 0, locals := 0 }) (va_Pc [.int a1, .int a2, .int a3] (ax_C dC dI sz [] [] (fun _ => True))) (va_Qi (fun (r : Int32) (_ : Unit) => ((r = 1 ∧ a2.toInt ≤ a1.toInt ∧ a1.toInt ≤ a3.toInt) ∨ (r = 0 ∧ (a1.toInt < a2.toInt ∨ a3.toInt < a1.toInt))) ∧ r.toInt = Ff_X7_within a1.toInt a2.toInt a3.toInt) (fun (_ : Unit) (t : State) => ax_B dC dI (va_A [] sz) [] [] t) (va_A [] sz)) 0 0 (va_A [] sz) := by
  refine Met.ofW (cc := cX7_within) (maxL := 3) (ret := (some .boolean)) (by decide) rfl ?_
  intro p e s m args below meth c s₁ B hml hv
  obtain ⟨rfl, hsz, hP, hK, hD0, hE⟩ := hv
  have hx := B.exec
  have hb := B.bytes
  have hr := B.returns
  have hts := atoms_spec (ws := wsX7_within) B.pre
  have hown : s.vm.findClass RX7 = some m.cls := findClass_of_methodNamed B.named
  have hlocks := B.notSynchronized
  subst hsz
  have hD := hD0.self (sz := s.heap.size)
  generalize hAe : va_A [] s.heap.size = A at hD ⊢
  have hA : ∀ q : Nat, s.heap.size ≤ q → A q := fun q h => by rw [← hAe]; exact Or.inr h
  have hS : va_S A s.heap s.heap [] := va_S.rf
  have hP : va_P (dC, dI) vwCl [] s.heap := hP
  have hl := lv_entry ([.int a1, .int a2, .int a3]) (n := 3) (Nat.le_of_ble_eq_true rfl)
  rw [lg_entry_eq]
  generalize (lg_sl ([.int a1, .int a2, .int a3]) ++ List.replicate (3 - (lg_sl ([.int a1, .int a2, .int a3])).length) Slot.unset).toArray = ls at hl ⊢
  have hl : lv_has ls 3 [(0, .int a1), (1, .int a2), (2, .int a3)] := hl
  generalize hFX : Ff_X7_within a1.toInt a2.toInt a3.toInt = FX at ⊢
  have hF0 := hFX.symm.trans (Ff_X7_within.eq_1 a1.toInt a2.toInt a3.toInt)
  refine lv_iload_n hx hb dX7_within_0 rfl (lv_at hl 0 rfl) ?_
  refine lv_iload_n hx hb dX7_within_1 rfl (lv_at hl 1 rfl) ?_
  refine lv_icmp_lt (tgt := 14) hx hb dX7_within_2 (by decide) (fun c2 => ?_) (fun c2 => ?_)
  · have gc2 := ai_lt c2
    have u2t_a1 : a1.toInt ≤ (2147483646 : Int) := ai_lthi gc2 (ai_max a2)
    have l2t_a2 : (-2147483647 : Int) ≤ a2.toInt := ai_ltlo gc2 (ai_min a1)
    have hF0 := hF0.trans (if_pos (show a1.toInt < a2.toInt from gc2))
    refine lv_iconst (v := 0) hx hb dX7_within_14 zk_iconst_0 ?_
    have hFe : FX = 0 := hF0
    exact W.zret (v := 0) hx hb hr rfl (fun t ht hW => ⟨⟨0, (), rfl, ⟨(Or.inr ⟨rfl, Or.inl gc2⟩), hFe.symm⟩, by rw [ht]; exact hP, va_K.moved hW.alike hK, hD⟩, hS.F ht⟩) hS.2.2 dX7_within_15
  · have gc2 := ai_nlt c2
    have hF0 := hF0.trans (if_neg (show ¬ (a1.toInt < a2.toInt) from Int.not_lt.mpr gc2))
    refine lv_iload_n hx hb dX7_within_5 rfl (lv_at hl 0 rfl) ?_
    refine lv_iload_n hx hb dX7_within_6 rfl (lv_at hl 2 rfl) ?_
    refine lv_icmp_gt (tgt := 14) hx hb dX7_within_7 (by decide) (fun c7 => ?_) (fun c7 => ?_)
    · have gc7 := ai_lt c7
      have u7t_a3 : a3.toInt ≤ (2147483646 : Int) := ai_lthi gc7 (ai_max a1)
      have l7t_a1 : (-2147483647 : Int) ≤ a1.toInt := ai_ltlo gc7 (ai_min a3)
      have hF0 := hF0.trans (if_pos (show a3.toInt < a1.toInt from gc7))
      refine lv_iconst (v := 0) hx hb dX7_within_14 zk_iconst_0 ?_
      have hFe : FX = 0 := hF0
      exact W.zret (v := 0) hx hb hr rfl (fun t ht hW => ⟨⟨0, (), rfl, ⟨(Or.inr ⟨rfl, Or.inr gc7⟩), hFe.symm⟩, by rw [ht]; exact hP, va_K.moved hW.alike hK, hD⟩, hS.F ht⟩) hS.2.2 dX7_within_15
    · have gc7 := ai_nlt c7
      have hF0 := hF0.trans (if_neg (show ¬ (a3.toInt < a1.toInt) from Int.not_lt.mpr gc7))
      refine lv_iconst (v := 1) hx hb dX7_within_10 zk_iconst_1 ?_
      refine lv_goto (tgt := 15) hx hb dX7_within_11 (by decide) ?_
      have hFe : FX = 1 := hF0
      exact W.zret (v := 1) hx hb hr rfl (fun t ht hW => ⟨⟨1, (), rfl, ⟨(Or.inl ⟨rfl, gc2, gc7⟩), hFe.symm⟩, by rw [ht]; exact hP, va_K.moved hW.alike hK, hD⟩, hS.F ht⟩) hS.2.2 dX7_within_15

set_option maxHeartbeats 4000000 in
set_option maxRecDepth 100000 in
theorem f_X7_hasBit (l : Launch) (dC : Nat → ClassId) (dI : Nat → Nat → Nat) (sz : Nat) (a1 : Int32) (a2 : Int32)  : Met l yX7_hasBit wsX7_hasBit ({ frames := 0, cells := 0, slots := 0, locals := 0 }) (va_Pc [.int a1, .int a2] (ax_C dC dI sz [] [] (fun _ => True))) (va_Qi (fun (r : Int32) (_ : Unit) => ((r = 1) ∨ (r = 0)) ∧ r.toInt = Ff_X7_hasBit a1.toInt a2.toInt) (fun (_ : Unit) (t : State) => ax_B dC dI (va_A [] sz) [] [] t) (va_A [] sz)) 0 0 (va_A [] sz) := by
  refine Met.ofW (cc := cX7_hasBit) (maxL := 2) (ret := (some .boolean)) (by decide) rfl ?_
  intro p e s m args below meth c s₁ B hml hv
  obtain ⟨rfl, hsz, hP, hK, hD0, hE⟩ := hv
  have hx := B.exec
  have hb := B.bytes
  have hr := B.returns
  have hts := atoms_spec (ws := wsX7_hasBit) B.pre
  have hown : s.vm.findClass RX7 = some m.cls := findClass_of_methodNamed B.named
  have hlocks := B.notSynchronized
  subst hsz
  have hD := hD0.self (sz := s.heap.size)
  generalize hAe : va_A [] s.heap.size = A at hD ⊢
  have hA : ∀ q : Nat, s.heap.size ≤ q → A q := fun q h => by rw [← hAe]; exact Or.inr h
  have hS : va_S A s.heap s.heap [] := va_S.rf
  have hP : va_P (dC, dI) vwCl [] s.heap := hP
  have hl := lv_entry ([.int a1, .int a2]) (n := 2) (Nat.le_of_ble_eq_true rfl)
  rw [lg_entry_eq]
  generalize (lg_sl ([.int a1, .int a2]) ++ List.replicate (2 - (lg_sl ([.int a1, .int a2])).length) Slot.unset).toArray = ls at hl ⊢
  have hl : lv_has ls 2 [(0, .int a1), (1, .int a2)] := hl
  generalize hFX : Ff_X7_hasBit a1.toInt a2.toInt = FX at ⊢
  have hF0 := hFX.symm.trans (Ff_X7_hasBit.eq_1 a1.toInt a2.toInt)
  refine lv_iload_n hx hb dX7_hasBit_0 rfl (lv_at hl 0 rfl) ?_
  refine lv_iload_n hx hb dX7_hasBit_1 rfl (lv_at hl 1 rfl) ?_
  refine lv_ishr hx hb dX7_hasBit_2 ?_
  refine lv_topi (fun x2 ex2 => ?_)
  have fqx2 := fl_shr_eq ex2
  have hF0 := hF0.trans (fl_lt_eq (show x2.toInt = fl_shr a1.toInt a2.toInt from fqx2))
  refine lv_iconst (v := 1) hx hb dX7_hasBit_3 zk_iconst_1 ?_
  refine lv_iand hx hb dX7_hasBit_4 ?_
  refine lv_topi (fun x4 ex4 => ?_)
  have fqx4 := fl_and_eq ex4
  have hF0 := hF0.trans (fl_lt_eq (show x4.toInt = fl_and x2.toInt 1 from fqx4))
  refine lv_iconst (v := 1) hx hb dX7_hasBit_5 zk_iconst_1 ?_
  refine lv_icmp_ne (tgt := 13) hx hb dX7_hasBit_6 (by decide) (fun c6 => ?_) (fun c6 => ?_)
  · have gc6 := ai_ne c6
    have hF0 := hF0.trans (if_neg (show ¬ (x4.toInt = 1) from  gc6))
    refine lv_iconst (v := 0) hx hb dX7_hasBit_13 zk_iconst_0 ?_
    have hFe : FX = 0 := hF0
    exact W.zret (v := 0) hx hb hr rfl (fun t ht hW => ⟨⟨0, (), rfl, ⟨(Or.inr (rfl)), hFe.symm⟩, by rw [ht]; exact hP, va_K.moved hW.alike hK, hD⟩, hS.F ht⟩) hS.2.2 dX7_hasBit_14
  · have gc6 := ai_eq c6
    have u6f_x4 : x4.toInt ≤ (1 : Int) := Int.le_trans (Int.le_of_eq gc6) zq0
    have l6f_x4 : (1 : Int) ≤ x4.toInt := Int.le_trans zq1 (Int.le_of_eq gc6.symm)
    have hF0 := hF0.trans (if_pos (show x4.toInt = 1 from gc6))
    refine lv_iconst (v := 1) hx hb dX7_hasBit_9 zk_iconst_1 ?_
    refine lv_goto (tgt := 14) hx hb dX7_hasBit_10 (by decide) ?_
    have hFe : FX = 1 := hF0
    exact W.zret (v := 1) hx hb hr rfl (fun t ht hW => ⟨⟨1, (), rfl, ⟨(Or.inl (rfl)), hFe.symm⟩, by rw [ht]; exact hP, va_K.moved hW.alike hK, hD⟩, hS.F ht⟩) hS.2.2 dX7_hasBit_14

set_option maxHeartbeats 4000000 in
set_option maxRecDepth 100000 in
theorem f_J6_bitCount_0f7a4 (l : Launch) (dC : Nat → ClassId) (dI : Nat → Nat → Nat) (sz : Nat) (a1 : Int32)  : Met l yJ6_bitCount_0f7a4 wsJ6_bitCount_0f7a4 ({ frames := 0, cells := 0, slots := 0, locals := 0 }) (va_Pc [.int a1] (ax_C dC dI sz [] [] (fun _ => True))) (va_Qi (fun (r : Int32) (_ : Unit) => (True) ∧ r.toInt = Ff_J6_bitCount_0f7a4 a1.toInt) (fun (_ : Unit) (t : State) => ax_B dC dI (va_A [] sz) [] [] t) (va_A [] sz)) 0 0 (va_A [] sz) := by
  refine Met.ofW (cc := cJ6_bitCount_0f7a4) (maxL := 1) (ret := (some .int)) (by decide) rfl ?_
  intro p e s m args below meth c s₁ B hml hv
  obtain ⟨rfl, hsz, hP, hK, hD0, hE⟩ := hv
  have hx := B.exec
  have hb := B.bytes
  have hr := B.returns
  have hts := atoms_spec (ws := wsJ6_bitCount_0f7a4) B.pre
  have hown : s.vm.findClass RJ6 = some m.cls := findClass_of_methodNamed B.named
  have hlocks := B.notSynchronized
  subst hsz
  have hD := hD0.self (sz := s.heap.size)
  generalize hAe : va_A [] s.heap.size = A at hD ⊢
  have hA : ∀ q : Nat, s.heap.size ≤ q → A q := fun q h => by rw [← hAe]; exact Or.inr h
  have hS : va_S A s.heap s.heap [] := va_S.rf
  have hP : va_P (dC, dI) vwCl [] s.heap := hP
  have hl := lv_entry ([.int a1]) (n := 1) (Nat.le_of_ble_eq_true rfl)
  rw [lg_entry_eq]
  generalize (lg_sl ([.int a1]) ++ List.replicate (1 - (lg_sl ([.int a1])).length) Slot.unset).toArray = ls at hl ⊢
  have hl : lv_has ls 1 [(0, .int a1)] := hl
  generalize hFX : Ff_J6_bitCount_0f7a4 a1.toInt = FX at ⊢
  have hF0 := hFX.symm.trans (Ff_J6_bitCount_0f7a4.eq_1 a1.toInt)
  refine lv_iload_n hx hb dJ6_bitCount_0f7a4_0 rfl (lv_at hl 0 rfl) ?_
  refine lv_iload_n hx hb dJ6_bitCount_0f7a4_1 rfl (lv_at hl 0 rfl) ?_
  refine lv_iconst (v := 1) hx hb dJ6_bitCount_0f7a4_2 zk_iconst_1 ?_
  refine lv_iushr hx hb dJ6_bitCount_0f7a4_3 rfl ?_
  refine lv_topi (fun x3 ex3 => ?_)
  have fqx3 := fl_ushr_eq ex3
  have hF0 := hF0.trans (fl_lt_eq (show x3.toInt = fl_ushr a1.toInt 1 from fqx3))
  refine lv_ldcw (v := 1431655765) hx hb hown (hts (.constant RJ6 265 (1431655765)) (List.mem_cons_of_mem _ (List.mem_of_getElem? (i := 0) rfl))) dJ6_bitCount_0f7a4_4 ?_
  refine lv_iand hx hb dJ6_bitCount_0f7a4_7 ?_
  refine lv_topi (fun x7 ex7 => ?_)
  have fqx7 := fl_and_eq ex7
  have hF0 := hF0.trans (fl_lt_eq (show x7.toInt = fl_and x3.toInt 1431655765 from fqx7))
  refine lv_isub hx hb dJ6_bitCount_0f7a4_8 ?_
  refine lv_topi (fun x8 ex8 => ?_)
  have fqx8 := fl_isub_eq ex8
  have hF0 := hF0.trans (fl_lt_eq (show x8.toInt = fl_isub a1.toInt x7.toInt from fqx8))
  refine lv_istore_n (lv' := [(0, .int x8)]) hx hb dJ6_bitCount_0f7a4_9 rfl hl (by decide) rfl (fun ls hl => ?_)
  refine lv_iload_n hx hb dJ6_bitCount_0f7a4_10 rfl (lv_at hl 0 rfl) ?_
  refine lv_ldcw (v := 858993459) hx hb hown (hts (.constant RJ6 266 (858993459)) (List.mem_cons_of_mem _ (List.mem_of_getElem? (i := 1) rfl))) dJ6_bitCount_0f7a4_11 ?_
  refine lv_iand hx hb dJ6_bitCount_0f7a4_14 ?_
  refine lv_topi (fun x14 ex14 => ?_)
  have fqx14 := fl_and_eq ex14
  have hF0 := hF0.trans (fl_lt_eq (show x14.toInt = fl_and x8.toInt 858993459 from fqx14))
  refine lv_iload_n hx hb dJ6_bitCount_0f7a4_15 rfl (lv_at hl 0 rfl) ?_
  refine lv_iconst (v := 2) hx hb dJ6_bitCount_0f7a4_16 zk_iconst_2 ?_
  refine lv_iushr hx hb dJ6_bitCount_0f7a4_17 rfl ?_
  refine lv_topi (fun x17 ex17 => ?_)
  have fqx17 := fl_ushr_eq ex17
  have hF0 := hF0.trans (fl_lt_eq (show x17.toInt = fl_ushr x8.toInt 2 from fqx17))
  refine lv_ldcw (v := 858993459) hx hb hown (hts (.constant RJ6 266 (858993459)) (List.mem_cons_of_mem _ (List.mem_of_getElem? (i := 1) rfl))) dJ6_bitCount_0f7a4_18 ?_
  refine lv_iand hx hb dJ6_bitCount_0f7a4_21 ?_
  refine lv_topi (fun x21 ex21 => ?_)
  have fqx21 := fl_and_eq ex21
  have hF0 := hF0.trans (fl_lt_eq (show x21.toInt = fl_and x17.toInt 858993459 from fqx21))
  refine lv_iadd hx hb dJ6_bitCount_0f7a4_22 ?_
  refine lv_topi (fun x22 ex22 => ?_)
  have fqx22 := fl_iadd_eq ex22
  have hF0 := hF0.trans (fl_lt_eq (show x22.toInt = fl_iadd x14.toInt x21.toInt from fqx22))
  refine lv_istore_n (lv' := [(0, .int x22)]) hx hb dJ6_bitCount_0f7a4_23 rfl hl (by decide) rfl (fun ls hl => ?_)
  refine lv_iload_n hx hb dJ6_bitCount_0f7a4_24 rfl (lv_at hl 0 rfl) ?_
  refine lv_iload_n hx hb dJ6_bitCount_0f7a4_25 rfl (lv_at hl 0 rfl) ?_
  refine lv_iconst (v := 4) hx hb dJ6_bitCount_0f7a4_26 zk_iconst_4 ?_
  refine lv_iushr hx hb dJ6_bitCount_0f7a4_27 rfl ?_
  refine lv_topi (fun x27 ex27 => ?_)
  have fqx27 := fl_ushr_eq ex27
  have hF0 := hF0.trans (fl_lt_eq (show x27.toInt = fl_ushr x22.toInt 4 from fqx27))
  refine lv_iadd hx hb dJ6_bitCount_0f7a4_28 ?_
  refine lv_topi (fun x28 ex28 => ?_)
  have fqx28 := fl_iadd_eq ex28
  have hF0 := hF0.trans (fl_lt_eq (show x28.toInt = fl_iadd x22.toInt x27.toInt from fqx28))
  refine lv_ldcw (v := 252645135) hx hb hown (hts (.constant RJ6 267 (252645135)) (List.mem_cons_of_mem _ (List.mem_of_getElem? (i := 2) rfl))) dJ6_bitCount_0f7a4_29 ?_
  refine lv_iand hx hb dJ6_bitCount_0f7a4_32 ?_
  refine lv_topi (fun x32 ex32 => ?_)
  have fqx32 := fl_and_eq ex32
  have hF0 := hF0.trans (fl_lt_eq (show x32.toInt = fl_and x28.toInt 252645135 from fqx32))
  refine lv_istore_n (lv' := [(0, .int x32)]) hx hb dJ6_bitCount_0f7a4_33 rfl hl (by decide) rfl (fun ls hl => ?_)
  refine lv_iload_n hx hb dJ6_bitCount_0f7a4_34 rfl (lv_at hl 0 rfl) ?_
  refine lv_iload_n hx hb dJ6_bitCount_0f7a4_35 rfl (lv_at hl 0 rfl) ?_
  refine lv_bipush (v := 8) hx hb dJ6_bitCount_0f7a4_36 zk_bipush_8 ?_
  refine lv_iushr hx hb dJ6_bitCount_0f7a4_38 rfl ?_
  refine lv_topi (fun x38 ex38 => ?_)
  have fqx38 := fl_ushr_eq ex38
  have hF0 := hF0.trans (fl_lt_eq (show x38.toInt = fl_ushr x32.toInt 8 from fqx38))
  refine lv_iadd hx hb dJ6_bitCount_0f7a4_39 ?_
  refine lv_topi (fun x39 ex39 => ?_)
  have fqx39 := fl_iadd_eq ex39
  have hF0 := hF0.trans (fl_lt_eq (show x39.toInt = fl_iadd x32.toInt x38.toInt from fqx39))
  refine lv_istore_n (lv' := [(0, .int x39)]) hx hb dJ6_bitCount_0f7a4_40 rfl hl (by decide) rfl (fun ls hl => ?_)
  refine lv_iload_n hx hb dJ6_bitCount_0f7a4_41 rfl (lv_at hl 0 rfl) ?_
  refine lv_iload_n hx hb dJ6_bitCount_0f7a4_42 rfl (lv_at hl 0 rfl) ?_
  refine lv_bipush (v := 16) hx hb dJ6_bitCount_0f7a4_43 zk_bipush_16 ?_
  refine lv_iushr hx hb dJ6_bitCount_0f7a4_45 rfl ?_
  refine lv_topi (fun x45 ex45 => ?_)
  have fqx45 := fl_ushr_eq ex45
  have hF0 := hF0.trans (fl_lt_eq (show x45.toInt = fl_ushr x39.toInt 16 from fqx45))
  refine lv_iadd hx hb dJ6_bitCount_0f7a4_46 ?_
  refine lv_topi (fun x46 ex46 => ?_)
  have fqx46 := fl_iadd_eq ex46
  have hF0 := hF0.trans (fl_lt_eq (show x46.toInt = fl_iadd x39.toInt x45.toInt from fqx46))
  refine lv_istore_n (lv' := [(0, .int x46)]) hx hb dJ6_bitCount_0f7a4_47 rfl hl (by decide) rfl (fun ls hl => ?_)
  refine lv_iload_n hx hb dJ6_bitCount_0f7a4_48 rfl (lv_at hl 0 rfl) ?_
  refine lv_bipush (v := 63) hx hb dJ6_bitCount_0f7a4_49 zk_bipush_63 ?_
  refine lv_iand hx hb dJ6_bitCount_0f7a4_51 ?_
  refine lv_topi (fun x51 ex51 => ?_)
  have fqx51 := fl_and_eq ex51
  have hF0 := hF0.trans (fl_lt_eq (show x51.toInt = fl_and x46.toInt 63 from fqx51))
  have hFe : FX = x51.toInt := hF0
  exact W.iret (v := x51) hx hb hr (fun t ht hW => ⟨⟨x51, (), rfl, ⟨trivial, hFe.symm⟩, by rw [ht]; exact hP, va_K.moved hW.alike hK, hD⟩, hS.F ht⟩) hS.2.2 dJ6_bitCount_0f7a4_52

set_option maxHeartbeats 4000000 in
set_option maxRecDepth 100000 in
theorem f_X6_add (l : Launch) (dC : Nat → ClassId) (dI : Nat → Nat → Nat) (sz : Nat) (a0 : Nat) (a1 : Int32) (a2 : Int32) (a0_0 : Int32) (a0g_1 : Value) (a0_2 : Nat) (a0_3 : Nat) (ka0_2 : ClassId) (fa0_2 : Nat → Int32) (ka0_3 : ClassId) (fa0_3 : Nat → Int32) (ba1_l : (0 : Int) ≤ a1.toInt) (ba1_u : a1.toInt ≤ (8 : Int)) (ba2_l : (0 : Int) ≤ a2.toInt) (ba2_u : a2.toInt ≤ (8 : Int)) (ba0_0_l : (0 : Int) ≤ a0_0.toInt) (ba0_0_u : a0_0.toInt ≤ (3 : Int)) (bfa0_2 : (∀ k, (0 : Int) ≤ (fa0_2 k).toInt ∧ (fa0_2 k).toInt ≤ 80)) (bfa0_3 : (∀ k, (0 : Int) ≤ (fa0_3 k).toInt ∧ (fa0_3 k).toInt ≤ 80)) : Met l yX6_add wsX6_add ({ frames := 0, cells := 0, slots := 0, locals := 0 }) (va_Pc [.ref a0, .int a1, .int a2] (ax_C dC dI sz [(a0, .inr (6, [.int a0_0, a0g_1, .ref a0_2, .ref a0_3])), (a0_2, .inl (ka0_2, 3, .inl (fa0_2))), (a0_3, .inl (ka0_3, 3, .inl (fa0_3)))] [(ka0_2, .int), (ka0_3, .int)] (fun _ => True))) (va_Qv (fun (_ : Unit) => True) (fun (_ : Unit) (t : State) => ∃ na0_0 : Int32, ∃ nfa0_2 : Nat → Int32, ∃ nfa0_3 : Nat → Int32, ((0 : Int) ≤ na0_0.toInt ∧ na0_0.toInt ≤ 3) ∧ (∀ k, (0 : Int) ≤ (nfa0_2 k).toInt ∧ (nfa0_2 k).toInt ≤ 80) ∧ (∀ k, (0 : Int) ≤ (nfa0_3 k).toInt ∧ (nfa0_3 k).toInt ≤ 80) ∧ (Ff_X6_add a1.toInt a2.toInt a0_0.toInt (fl_A fa0_2) (fl_A fa0_3) = (na0_0.toInt, (fl_A nfa0_2), (fl_A nfa0_3))) ∧ ax_B dC dI (va_A [(a0, .inr (6, [.int a0_0, a0g_1, .ref a0_2, .ref a0_3])), (a0_2, .inl (ka0_2, 3, .inl (fa0_2))), (a0_3, .inl (ka0_3, 3, .inl (fa0_3)))] sz) [(a0, .inr (6, [.int na0_0, a0g_1, .ref a0_2, .ref a0_3])), (a0_2, .inl (ka0_2, 3, .inl (nfa0_2))), (a0_3, .inl (ka0_3, 3, .inl (nfa0_3)))] [(ka0_2, .int), (ka0_3, .int)] t) (va_A [(a0, .inr (6, [.int a0_0, a0g_1, .ref a0_2, .ref a0_3])), (a0_2, .inl (ka0_2, 3, .inl (fa0_2))), (a0_3, .inl (ka0_3, 3, .inl (fa0_3)))] sz)) 0 0 (va_A [(a0, .inr (6, [.int a0_0, a0g_1, .ref a0_2, .ref a0_3])), (a0_2, .inl (ka0_2, 3, .inl (fa0_2))), (a0_3, .inl (ka0_3, 3, .inl (fa0_3)))] sz) := by
  refine Met.ofW (cc := cX6_add) (maxL := 3) (ret := none) (by decide) rfl ?_
  intro p e s m args below meth c s₁ B hml hv
  obtain ⟨rfl, hsz, hP, hK, hD0, hE⟩ := hv
  have hx := B.exec
  have hb := B.bytes
  have hr := B.returns
  have hts := atoms_spec (ws := wsX6_add) B.pre
  have hown : s.vm.findClass RX6 = some m.cls := findClass_of_methodNamed B.named
  have hlocks := B.notSynchronized
  subst hsz
  have hD := hD0.self (sz := s.heap.size)
  generalize hAe : va_A [(a0, .inr (6, [.int a0_0, a0g_1, .ref a0_2, .ref a0_3])), (a0_2, .inl (ka0_2, 3, .inl (fa0_2))), (a0_3, .inl (ka0_3, 3, .inl (fa0_3)))] s.heap.size = A at hD ⊢
  have hA : ∀ q : Nat, s.heap.size ≤ q → A q := fun q h => by rw [← hAe]; exact Or.inr h
  have hS : va_S A s.heap s.heap [] := va_S.rf
  have hP : va_P (dC, dI) vwCl [(a0, .inr (6, [.int a0_0, a0g_1, .ref a0_2, .ref a0_3])), (a0_2, .inl (ka0_2, 3, .inl (fa0_2))), (a0_3, .inl (ka0_3, 3, .inl (fa0_3)))] s.heap := hP
  have hl := lv_entry ([.ref a0, .int a1, .int a2]) (n := 3) (Nat.le_of_ble_eq_true rfl)
  rw [lg_entry_eq]
  generalize (lg_sl ([.ref a0, .int a1, .int a2]) ++ List.replicate (3 - (lg_sl ([.ref a0, .int a1, .int a2])).length) Slot.unset).toArray = ls at hl ⊢
  have hl : lv_has ls 3 [(0, .ref a0), (1, .int a1), (2, .int a2)] := hl
  generalize hFX : Ff_X6_add a1.toInt a2.toInt a0_0.toInt (fl_A fa0_2) (fl_A fa0_3) = FX at ⊢
  have hF0 := hFX.symm.trans (Ff_X6_add.eq_1 a1.toInt a2.toInt a0_0.toInt (fl_A fa0_2) (fl_A fa0_3))
  refine lv_aload_n hx hb dX6_add_0 rfl (lv_at hl 0 rfl) ?_
  refine va_get (D := (dC, dI)) (ci := 6) (v := .int a0_0) (C := RX6) (T := TX6) (N := 4) hx hb hts zi_X6_add_6 hown hK hP 0 rfl rfl 0 (by decide) (hts (.fieldLink RX6 18 "WaxTurns$Watchers" "count" "I") (List.mem_cons_of_mem _ (List.mem_append_left _ (List.mem_of_getElem? (i := 0) rfl)))) (fun _ h9 => h9) rfl dX6_add_1 ?_
  refine lv_iconst (v := 3) hx hb dX6_add_4 zk_iconst_3 ?_
  refine lv_icmp_ge (tgt := 38) hx hb dX6_add_5 (by decide) (fun c5 => ?_) (fun c5 => ?_)
  · have gc5 := ai_le c5
    have l5t_a0_0 : (3 : Int) ≤ a0_0.toInt := Int.le_trans zq8 gc5
    have hF0 := hF0.trans (if_pos (show 3 ≤ a0_0.toInt from gc5))
    have hFe : FX = (a0_0.toInt, (fl_A fa0_2), (fl_A fa0_3)) := hF0
    exact W.vret hx hb hr (fun t ht hW => ⟨⟨(), rfl, trivial, a0_0, fa0_2, fa0_3, ⟨Int.le_trans (by decide) l5t_a0_0, ba0_0_u⟩, bfa0_2, bfa0_3, hFe, by rw [ht]; exact hP, va_K.moved hW.alike hK, hD⟩, hS.F ht⟩) hS.2.2 dX6_add_38
  · have gc5 := ai_nle c5
    have u5f_a0_0 : a0_0.toInt ≤ (2 : Int) := ai_lthi gc5 zq9
    have hF0 := hF0.trans (if_neg (show ¬ (3 ≤ a0_0.toInt) from Int.not_le.mpr gc5))
    refine lv_aload_n hx hb dX6_add_8 rfl (lv_at hl 0 rfl) ?_
    refine va_get (D := (dC, dI)) (ci := 6) (v := .ref a0_2) (C := RX6) (T := TX6) (N := 4) hx hb hts zi_X6_add_6 hown hK hP 0 rfl rfl 2 (by decide) (hts (.fieldLink RX6 9 "WaxTurns$Watchers" "from" "[I") (List.mem_cons_of_mem _ (List.mem_append_left _ (List.mem_of_getElem? (i := 1) rfl)))) (fun _ h9 => h9) rfl dX6_add_9 ?_
    refine lv_aload_n hx hb dX6_add_12 rfl (lv_at hl 0 rfl) ?_
    refine va_get (D := (dC, dI)) (ci := 6) (v := .int a0_0) (C := RX6) (T := TX6) (N := 4) hx hb hts zi_X6_add_6 hown hK hP 0 rfl rfl 0 (by decide) (hts (.fieldLink RX6 18 "WaxTurns$Watchers" "count" "I") (List.mem_cons_of_mem _ (List.mem_append_left _ (List.mem_of_getElem? (i := 0) rfl)))) (fun _ h9 => h9) rfl dX6_add_13 ?_
    refine lv_iload_n hx hb dX6_add_16 rfl (lv_at hl 1 rfl) ?_
    refine va_iast hx hb hK hP hD hS 1 0 rfl rfl (ai_in ba0_0_l u5f_a0_0 (by decide) (by decide)) dX6_add_17 (fun H locs hP hD hS => ?_)
    obtain ⟨f17, ef17⟩ : ∃ g9 : Nat → Int32, g9 = upd fa0_2 (a0_0 : Int32).toNatClampNeg a1 := ⟨_, rfl⟩
    rw [← ef17] at hP hD
    obtain ⟨hP, hD⟩ := zc_re (w := [(a0, .inr (6, [.int a0_0, a0g_1, .ref a0_2, .ref a0_3])), (a0_2, .inl (ka0_2, 3, .inl (f17))), (a0_3, .inl (ka0_3, 3, .inl (fa0_3)))]) hP hD rfl
    have bf17 : (∀ k, (0 : Int) ≤ (f17 k).toInt ∧ (f17 k).toInt ≤ 80) := by rw [ef17]; exact ai_upd bfa0_2 _ ⟨ba1_l, (Int.le_trans ba1_u zq10)⟩
    have fqf17 := fl_up_eq ef17
    have hF0 := hF0.trans (fl_lt_eq (show (fl_A f17) = fl_up (fl_A fa0_2) (a0_0.toInt.toNat) a1.toInt from fqf17))
    refine lv_aload_n hx hb dX6_add_18 rfl (lv_at hl 0 rfl) ?_
    refine va_get (D := (dC, dI)) (ci := 6) (v := .ref a0_3) (C := RX6) (T := TX6) (N := 4) hx hb hts zi_X6_add_6 hown hK hP 0 rfl rfl 3 (by decide) (hts (.fieldLink RX6 15 "WaxTurns$Watchers" "to" "[I") (List.mem_cons_of_mem _ (List.mem_append_left _ (List.mem_of_getElem? (i := 2) rfl)))) (fun _ h9 => h9) rfl dX6_add_19 ?_
    refine lv_aload_n hx hb dX6_add_22 rfl (lv_at hl 0 rfl) ?_
    refine va_get (D := (dC, dI)) (ci := 6) (v := .int a0_0) (C := RX6) (T := TX6) (N := 4) hx hb hts zi_X6_add_6 hown hK hP 0 rfl rfl 0 (by decide) (hts (.fieldLink RX6 18 "WaxTurns$Watchers" "count" "I") (List.mem_cons_of_mem _ (List.mem_append_left _ (List.mem_of_getElem? (i := 0) rfl)))) (fun _ h9 => h9) rfl dX6_add_23 ?_
    refine lv_iload_n hx hb dX6_add_26 rfl (lv_at hl 2 rfl) ?_
    refine va_iast hx hb hK hP hD hS 2 1 rfl rfl (ai_in ba0_0_l u5f_a0_0 (by decide) (by decide)) dX6_add_27 (fun H locs hP hD hS => ?_)
    obtain ⟨f27, ef27⟩ : ∃ g9 : Nat → Int32, g9 = upd fa0_3 (a0_0 : Int32).toNatClampNeg a2 := ⟨_, rfl⟩
    rw [← ef27] at hP hD
    obtain ⟨hP, hD⟩ := zc_re (w := [(a0, .inr (6, [.int a0_0, a0g_1, .ref a0_2, .ref a0_3])), (a0_2, .inl (ka0_2, 3, .inl (f17))), (a0_3, .inl (ka0_3, 3, .inl (f27)))]) hP hD rfl
    have bf27 : (∀ k, (0 : Int) ≤ (f27 k).toInt ∧ (f27 k).toInt ≤ 80) := by rw [ef27]; exact ai_upd bfa0_3 _ ⟨ba2_l, (Int.le_trans ba2_u zq10)⟩
    have fqf27 := fl_up_eq ef27
    have hF0 := hF0.trans (fl_lt_eq (show (fl_A f27) = fl_up (fl_A fa0_3) (a0_0.toInt.toNat) a2.toInt from fqf27))
    refine lv_aload_n hx hb dX6_add_28 rfl (lv_at hl 0 rfl) ?_
    refine lv_dup hx hb dX6_add_29 rfl ?_
    refine va_get (D := (dC, dI)) (ci := 6) (v := .int a0_0) (C := RX6) (T := TX6) (N := 4) hx hb hts zi_X6_add_6 hown hK hP 0 rfl rfl 0 (by decide) (hts (.fieldLink RX6 18 "WaxTurns$Watchers" "count" "I") (List.mem_cons_of_mem _ (List.mem_append_left _ (List.mem_of_getElem? (i := 0) rfl)))) (fun _ h9 => h9) rfl dX6_add_30 ?_
    refine lv_iconst (v := 1) hx hb dX6_add_33 zk_iconst_1 ?_
    refine lv_iadd hx hb dX6_add_34 ?_
    refine lv_topi (fun x34 ex34 => ?_)
    have qx34 : x34.toInt = a0_0.toInt + (1 : Int32).toInt := ai_add ex34 ⟨ba0_0_l, u5f_a0_0⟩ ⟨zq1, zq0⟩ (by decide) (by decide)
    have bx34 : (1 : Int) ≤ x34.toInt ∧ x34.toInt ≤ 3 := ⟨by rw [qx34]; exact Int.add_le_add ba0_0_l zq1, by rw [qx34]; exact Int.add_le_add u5f_a0_0 zq0⟩
    have wx34 : x34.toInt = a0_0.toInt + 1 := qx34
    have hF0 := hF0.trans (fl_lt_eq (show x34.toInt = a0_0.toInt + 1 from qx34))
    refine va_put (D := (dC, dI)) (ci := 6) (v := .int x34) (ty := .int) (C := RX6) (T := TX6) (N := 4) hx hb hts zi_X6_add_6 tyX6 tyX6_ok nmX6 hown hK hP hD hS 0 rfl rfl 0 (by decide) (hts (.fieldLink RX6 18 "WaxTurns$Watchers" "count" "I") (List.mem_cons_of_mem _ (List.mem_append_left _ (List.mem_of_getElem? (i := 0) rfl)))) (fun _ h9 => h9) rfl (tyX6_ok 0 (by decide)) rfl rfl (Nat.le_of_ble_eq_true rfl) dX6_add_35 (fun H locs hP hD hS => ?_)
    obtain ⟨hP, hD⟩ := zc_re (w := [(a0, .inr (6, [.int x34, a0g_1, .ref a0_2, .ref a0_3])), (a0_2, .inl (ka0_2, 3, .inl (f17))), (a0_3, .inl (ka0_3, 3, .inl (f27)))]) hP hD rfl
    have hFe : FX = (x34.toInt, (fl_A f17), (fl_A f27)) := hF0
    exact W.vret hx hb hr (fun t ht hW => ⟨⟨(), rfl, trivial, x34, f17, f27, ⟨Int.le_trans (by decide) bx34.1, bx34.2⟩, bf17, bf27, hFe, by rw [ht]; exact hP, va_K.moved hW.alike hK, hD⟩, hS.F ht⟩) hS.2.2 dX6_add_38

set_option maxHeartbeats 4000000 in
set_option maxRecDepth 100000 in
theorem f_X0_clear (l : Launch) (dC : Nat → ClassId) (dI : Nat → Nat → Nat) (sz : Nat) (a0 : Nat) (a0_0 : Int32) (a0g_1 a0g_2 a0g_3 a0g_5 a0g_6 a0g_7 a0g_12 a0g_13 : Value) (a0_4 : Int32) (a0_8 : Int32) (a0_9 : Int32) (a0_10 : Nat) (a0_11 : Nat) (a0_14 : Nat) (a0_14_0 : Int32) (a0_14g_1 a0_14g_2 a0_14g_3 : Value) (ka0_10 : ClassId) (fa0_10 : Nat → Int32) (ka0_11 : ClassId) (fa0_11 : Nat → Int32) (ba0_0_l : (0 : Int) ≤ a0_0.toInt) (ba0_0_u : a0_0.toInt ≤ (9 : Int)) (ba0_4_l : (0 : Int) ≤ a0_4.toInt) (ba0_4_u : a0_4.toInt ≤ (1 : Int)) (ba0_9_l : (0 : Int) ≤ a0_9.toInt) (ba0_9_u : a0_9.toInt ≤ (6 : Int)) (ba0_14_0_l : (0 : Int) ≤ a0_14_0.toInt) (ba0_14_0_u : a0_14_0.toInt ≤ (3 : Int)) : Met l yX0_clear wsX0_clear ({ frames := 0, cells := 0, slots := 0, locals := 0 }) (va_Pc [.ref a0] (ax_C dC dI sz [(a0, .inr (0, [.int a0_0, a0g_1, a0g_2, a0g_3, .int a0_4, a0g_5, a0g_6, a0g_7, .int a0_8, .int a0_9, .ref a0_10, .ref a0_11, a0g_12, a0g_13, .ref a0_14])), (a0_14, .inr (6, [.int a0_14_0, a0_14g_1, a0_14g_2, a0_14g_3])), (a0_10, .inl (ka0_10, 9, .inl (fa0_10))), (a0_11, .inl (ka0_11, 9, .inl (fa0_11)))] [(ka0_10, .int), (ka0_11, .int)] (fun _ => True))) (va_Qv (fun (_ : Unit) => True) (fun (_ : Unit) (t : State) => ∃ na0_0 : Int32, ∃ na0_4 : Int32, ∃ na0_8 : Int32, ∃ na0_9 : Int32, ∃ na0_14_0 : Int32, ∃ nfa0_10 : Nat → Int32, ∃ nfa0_11 : Nat → Int32, ((0 : Int) ≤ na0_0.toInt ∧ na0_0.toInt ≤ 9) ∧ ((0 : Int) ≤ na0_4.toInt ∧ na0_4.toInt ≤ 1) ∧ ((0 : Int) ≤ na0_9.toInt ∧ na0_9.toInt ≤ 6) ∧ ((0 : Int) ≤ na0_14_0.toInt ∧ na0_14_0.toInt ≤ 3) ∧ (Ff_X0_clear (fl_A fa0_10) (fl_A fa0_11) = (na0_0.toInt, na0_4.toInt, na0_8.toInt, na0_9.toInt, na0_14_0.toInt, (fl_A nfa0_10), (fl_A nfa0_11))) ∧ ax_B dC dI (va_A [(a0, .inr (0, [.int a0_0, a0g_1, a0g_2, a0g_3, .int a0_4, a0g_5, a0g_6, a0g_7, .int a0_8, .int a0_9, .ref a0_10, .ref a0_11, a0g_12, a0g_13, .ref a0_14])), (a0_14, .inr (6, [.int a0_14_0, a0_14g_1, a0_14g_2, a0_14g_3])), (a0_10, .inl (ka0_10, 9, .inl (fa0_10))), (a0_11, .inl (ka0_11, 9, .inl (fa0_11)))] sz) [(a0, .inr (0, [.int na0_0, a0g_1, a0g_2, a0g_3, .int na0_4, a0g_5, a0g_6, a0g_7, .int na0_8, .int na0_9, .ref a0_10, .ref a0_11, a0g_12, a0g_13, .ref a0_14])), (a0_14, .inr (6, [.int na0_14_0, a0_14g_1, a0_14g_2, a0_14g_3])), (a0_10, .inl (ka0_10, 9, .inl (nfa0_10))), (a0_11, .inl (ka0_11, 9, .inl (nfa0_11)))] [(ka0_10, .int), (ka0_11, .int)] t) (va_A [(a0, .inr (0, [.int a0_0, a0g_1, a0g_2, a0g_3, .int a0_4, a0g_5, a0g_6, a0g_7, .int a0_8, .int a0_9, .ref a0_10, .ref a0_11, a0g_12, a0g_13, .ref a0_14])), (a0_14, .inr (6, [.int a0_14_0, a0_14g_1, a0_14g_2, a0_14g_3])), (a0_10, .inl (ka0_10, 9, .inl (fa0_10))), (a0_11, .inl (ka0_11, 9, .inl (fa0_11)))] sz)) 0 0 (va_A [(a0, .inr (0, [.int a0_0, a0g_1, a0g_2, a0g_3, .int a0_4, a0g_5, a0g_6, a0g_7, .int a0_8, .int a0_9, .ref a0_10, .ref a0_11, a0g_12, a0g_13, .ref a0_14])), (a0_14, .inr (6, [.int a0_14_0, a0_14g_1, a0_14g_2, a0_14g_3])), (a0_10, .inl (ka0_10, 9, .inl (fa0_10))), (a0_11, .inl (ka0_11, 9, .inl (fa0_11)))] sz) := by
  refine Met.ofW (cc := cX0_clear) (maxL := 2) (ret := none) (by decide) rfl ?_
  intro p e s m args below meth c s₁ B hml hv
  obtain ⟨rfl, hsz, hP, hK, hD0, hE⟩ := hv
  have hx := B.exec
  have hb := B.bytes
  have hr := B.returns
  have hts := atoms_spec (ws := wsX0_clear) B.pre
  have hown : s.vm.findClass RX0 = some m.cls := findClass_of_methodNamed B.named
  have hlocks := B.notSynchronized
  subst hsz
  have hD := hD0.self (sz := s.heap.size)
  generalize hAe : va_A [(a0, .inr (0, [.int a0_0, a0g_1, a0g_2, a0g_3, .int a0_4, a0g_5, a0g_6, a0g_7, .int a0_8, .int a0_9, .ref a0_10, .ref a0_11, a0g_12, a0g_13, .ref a0_14])), (a0_14, .inr (6, [.int a0_14_0, a0_14g_1, a0_14g_2, a0_14g_3])), (a0_10, .inl (ka0_10, 9, .inl (fa0_10))), (a0_11, .inl (ka0_11, 9, .inl (fa0_11)))] s.heap.size = A at hD ⊢
  have hA : ∀ q : Nat, s.heap.size ≤ q → A q := fun q h => by rw [← hAe]; exact Or.inr h
  have hS : va_S A s.heap s.heap [] := va_S.rf
  have hP : va_P (dC, dI) vwCl [(a0, .inr (0, [.int a0_0, a0g_1, a0g_2, a0g_3, .int a0_4, a0g_5, a0g_6, a0g_7, .int a0_8, .int a0_9, .ref a0_10, .ref a0_11, a0g_12, a0g_13, .ref a0_14])), (a0_14, .inr (6, [.int a0_14_0, a0_14g_1, a0_14g_2, a0_14g_3])), (a0_10, .inl (ka0_10, 9, .inl (fa0_10))), (a0_11, .inl (ka0_11, 9, .inl (fa0_11)))] s.heap := hP
  have hl := lv_entry ([.ref a0]) (n := 2) (Nat.le_of_ble_eq_true rfl)
  rw [lg_entry_eq]
  generalize (lg_sl ([.ref a0]) ++ List.replicate (2 - (lg_sl ([.ref a0])).length) Slot.unset).toArray = ls at hl ⊢
  have hl : lv_has ls 2 [(0, .ref a0)] := hl
  generalize hFX : Ff_X0_clear (fl_A fa0_10) (fl_A fa0_11) = FX at ⊢
  have hF0 := hFX.symm.trans (Ff_X0_clear.eq_1 (fl_A fa0_10) (fl_A fa0_11))
  refine ai_open (fun K hK0 => ?_)
  refine (hK0 _ _ _).mpr ?_
  refine lv_aload_n hx hb dX0_clear_0 rfl (lv_at hl 0 rfl) ?_
  refine lv_iconst (v := 0) hx hb dX0_clear_1 zk_iconst_0 ?_
  refine va_put (D := (dC, dI)) (ci := 0) (v := .int 0) (ty := .int) (C := RX0) (T := TX0) (N := 15) hx hb hts zi_X0_clear_0 tyX0 tyX0_ok nmX0 hown hK hP hD hS 0 rfl rfl 0 (by decide) (hts (.fieldLink RX0 31 "WaxTurns$Hall" "figures" "I") (List.mem_cons_of_mem _ (List.mem_append_left _ (List.mem_append_left _ (List.mem_of_getElem? (i := 0) rfl))))) (fun _ h9 => h9) rfl (tyX0_ok 0 (by decide)) rfl rfl (Nat.le_of_ble_eq_true rfl) dX0_clear_2 (fun H locs hP hD hS => ?_)
  obtain ⟨hP, hD⟩ := zc_re (w := [(a0, .inr (0, [.int 0, a0g_1, a0g_2, a0g_3, .int a0_4, a0g_5, a0g_6, a0g_7, .int a0_8, .int a0_9, .ref a0_10, .ref a0_11, a0g_12, a0g_13, .ref a0_14])), (a0_14, .inr (6, [.int a0_14_0, a0_14g_1, a0_14g_2, a0_14g_3])), (a0_10, .inl (ka0_10, 9, .inl (fa0_10))), (a0_11, .inl (ka0_11, 9, .inl (fa0_11)))]) hP hD rfl
  refine lv_aload_n hx hb dX0_clear_5 rfl (lv_at hl 0 rfl) ?_
  refine lv_iconst (v := 0) hx hb dX0_clear_6 zk_iconst_0 ?_
  refine va_put (D := (dC, dI)) (ci := 0) (v := .int 0) (ty := .boolean) (C := RX0) (T := TX0) (N := 15) hx hb hts zi_X0_clear_0 tyX0 tyX0_ok nmX0 hown hK hP hD hS 0 rfl rfl 4 (by decide) (hts (.fieldLink RX0 35 "WaxTurns$Hall" "lawTold" "Z") (List.mem_cons_of_mem _ (List.mem_append_left _ (List.mem_append_left _ (List.mem_of_getElem? (i := 1) rfl))))) (fun _ h9 => h9) rfl (tyX0_ok 4 (by decide)) rfl rfl (Nat.le_of_ble_eq_true rfl) dX0_clear_7 (fun H locs hP hD hS => ?_)
  obtain ⟨hP, hD⟩ := zc_re (w := [(a0, .inr (0, [.int 0, a0g_1, a0g_2, a0g_3, .int 0, a0g_5, a0g_6, a0g_7, .int a0_8, .int a0_9, .ref a0_10, .ref a0_11, a0g_12, a0g_13, .ref a0_14])), (a0_14, .inr (6, [.int a0_14_0, a0_14g_1, a0_14g_2, a0_14g_3])), (a0_10, .inl (ka0_10, 9, .inl (fa0_10))), (a0_11, .inl (ka0_11, 9, .inl (fa0_11)))]) hP hD rfl
  refine lv_aload_n hx hb dX0_clear_10 rfl (lv_at hl 0 rfl) ?_
  refine lv_iconst (v := 0) hx hb dX0_clear_11 zk_iconst_0 ?_
  refine va_put (D := (dC, dI)) (ci := 0) (v := .int 0) (ty := .int) (C := RX0) (T := TX0) (N := 15) hx hb hts zi_X0_clear_0 tyX0 tyX0_ok nmX0 hown hK hP hD hS 0 rfl rfl 8 (by decide) (hts (.fieldLink RX0 39 "WaxTurns$Hall" "toldBits" "I") (List.mem_cons_of_mem _ (List.mem_append_left _ (List.mem_append_left _ (List.mem_of_getElem? (i := 2) rfl))))) (fun _ h9 => h9) rfl (tyX0_ok 8 (by decide)) rfl rfl (Nat.le_of_ble_eq_true rfl) dX0_clear_12 (fun H locs hP hD hS => ?_)
  obtain ⟨hP, hD⟩ := zc_re (w := [(a0, .inr (0, [.int 0, a0g_1, a0g_2, a0g_3, .int 0, a0g_5, a0g_6, a0g_7, .int 0, .int a0_9, .ref a0_10, .ref a0_11, a0g_12, a0g_13, .ref a0_14])), (a0_14, .inr (6, [.int a0_14_0, a0_14g_1, a0_14g_2, a0_14g_3])), (a0_10, .inl (ka0_10, 9, .inl (fa0_10))), (a0_11, .inl (ka0_11, 9, .inl (fa0_11)))]) hP hD rfl
  refine lv_aload_n hx hb dX0_clear_15 rfl (lv_at hl 0 rfl) ?_
  refine lv_iconst (v := 0) hx hb dX0_clear_16 zk_iconst_0 ?_
  refine va_put (D := (dC, dI)) (ci := 0) (v := .int 0) (ty := .int) (C := RX0) (T := TX0) (N := 15) hx hb hts zi_X0_clear_0 tyX0 tyX0_ok nmX0 hown hK hP hD hS 0 rfl rfl 9 (by decide) (hts (.fieldLink RX0 42 "WaxTurns$Hall" "seenCount" "I") (List.mem_cons_of_mem _ (List.mem_append_left _ (List.mem_append_left _ (List.mem_of_getElem? (i := 3) rfl))))) (fun _ h9 => h9) rfl (tyX0_ok 9 (by decide)) rfl rfl (Nat.le_of_ble_eq_true rfl) dX0_clear_17 (fun H locs hP hD hS => ?_)
  obtain ⟨hP, hD⟩ := zc_re (w := [(a0, .inr (0, [.int 0, a0g_1, a0g_2, a0g_3, .int 0, a0g_5, a0g_6, a0g_7, .int 0, .int 0, .ref a0_10, .ref a0_11, a0g_12, a0g_13, .ref a0_14])), (a0_14, .inr (6, [.int a0_14_0, a0_14g_1, a0_14g_2, a0_14g_3])), (a0_10, .inl (ka0_10, 9, .inl (fa0_10))), (a0_11, .inl (ka0_11, 9, .inl (fa0_11)))]) hP hD rfl
  refine lv_aload_n hx hb dX0_clear_20 rfl (lv_at hl 0 rfl) ?_
  refine va_get (D := (dC, dI)) (ci := 0) (v := .ref a0_14) (C := RX0) (T := TX0) (N := 15) hx hb hts zi_X0_clear_0 hown hK hP 0 rfl rfl 14 (by decide) (hts (.fieldLink RX0 27 "WaxTurns$Hall" "watchers" "LWaxTurns$Watchers;") (List.mem_cons_of_mem _ (List.mem_append_left _ (List.mem_append_left _ (List.mem_of_getElem? (i := 4) rfl))))) (fun _ h9 => h9) rfl dX0_clear_21 ?_
  refine lv_iconst (v := 0) hx hb dX0_clear_24 zk_iconst_0 ?_
  refine va_put (D := (dC, dI)) (ci := 6) (v := .int 0) (ty := .int) (C := RX6) (T := TX6) (N := 4) hx hb hts zi_X0_clear_6 tyX6 tyX6_ok nmX6 hown hK hP hD hS 1 rfl rfl 0 (by decide) (hts (.fieldLink RX0 45 "WaxTurns$Watchers" "count" "I") (List.mem_cons_of_mem _ (List.mem_append_left _ (List.mem_append_left _ (List.mem_of_getElem? (i := 5) rfl))))) (fun _ h9 => h9) rfl (tyX6_ok 0 (by decide)) rfl rfl (Nat.le_of_ble_eq_true rfl) dX0_clear_25 (fun H locs hP hD hS => ?_)
  obtain ⟨hP, hD⟩ := zc_re (w := [(a0, .inr (0, [.int 0, a0g_1, a0g_2, a0g_3, .int 0, a0g_5, a0g_6, a0g_7, .int 0, .int 0, .ref a0_10, .ref a0_11, a0g_12, a0g_13, .ref a0_14])), (a0_14, .inr (6, [.int 0, a0_14g_1, a0_14g_2, a0_14g_3])), (a0_10, .inl (ka0_10, 9, .inl (fa0_10))), (a0_11, .inl (ka0_11, 9, .inl (fa0_11)))]) hP hD rfl
  refine lv_iconst (v := 0) hx hb dX0_clear_28 zk_iconst_0 ?_
  refine lv_istore_n (lv' := [(1, .int 0), (0, .ref a0)]) hx hb dX0_clear_29 rfl hl (by decide) rfl (fun ls hl => ?_)
  have J30 : ∀ (n : Nat) (j30l1 : Int32) (j30a0_10_a : Nat → Int32) (j30a0_11_a : Nat → Int32) (H : Heap) (locs : List Loc) (ls : Array Slot), (10 : Int) - j30l1.toInt ≤ (n : Int) → (0 : Int) ≤ j30l1.toInt → j30l1.toInt ≤ (9 : Int) → (FX = fl_wh (fun t9 => Sf_X0_clear_30_1  t9.1 t9.2.1 t9.2.2) (0, 0, 0, 0, 0, (fun _ => 0), (fun _ => 0)) n (j30l1.toInt, (fl_A j30a0_10_a), (fl_A j30a0_11_a))) → va_P (dC, dI) vwCl [(a0, .inr (0, [.int 0, a0g_1, a0g_2, a0g_3, .int 0, a0g_5, a0g_6, a0g_7, .int 0, .int 0, .ref a0_10, .ref a0_11, a0g_12, a0g_13, .ref a0_14])), (a0_14, .inr (6, [.int 0, a0_14g_1, a0_14g_2, a0_14g_3])), (a0_10, .inl (ka0_10, 9, .inl (j30a0_10_a))), (a0_11, .inl (ka0_11, 9, .inl (j30a0_11_a)))] H → va_D A [(a0, .inr (0, [.int 0, a0g_1, a0g_2, a0g_3, .int 0, a0g_5, a0g_6, a0g_7, .int 0, .int 0, .ref a0_10, .ref a0_11, a0g_12, a0g_13, .ref a0_14])), (a0_14, .inr (6, [.int 0, a0_14g_1, a0_14g_2, a0_14g_3])), (a0_10, .inl (ka0_10, 9, .inl (j30a0_10_a))), (a0_11, .inl (ka0_11, 9, .inl (j30a0_11_a)))] → va_S A s.heap H locs → lv_has ls 2 [(0, .ref a0), (1, .int j30l1)] → K H locs (F0 m 30 ls []) := by
    intro n
    induction n with
    | zero =>
      intro j30l1 j30a0_10_a j30a0_11_a H locs ls hm bj30l1_l bj30l1_u hF0 hP hD hS hl
      have h8 := ai_min j30l1
      have h9 := ai_max j30l1
      exact absurd hm (by omega)
    | succ n ih30 =>
      intro j30l1 j30a0_10_a j30a0_11_a H locs ls hm bj30l1_l bj30l1_u hF0 hP hD hS hl
      refine (hK0 _ _ _).mpr ?_
      have hm30 := hm
      obtain ⟨SX30, hSX30⟩ : ∃ q9, Sf_X0_clear_30_1  j30l1.toInt (fl_A j30a0_10_a) (fl_A j30a0_11_a) = q9 := ⟨_, rfl⟩
      have hF1 := hSX30.symm.trans (Sf_X0_clear_30_1.eq_1  j30l1.toInt (fl_A j30a0_10_a) (fl_A j30a0_11_a))
      refine lv_iload_n hx hb dX0_clear_30 rfl (lv_at hl 1 rfl) ?_
      refine lv_bipush (v := 9) hx hb dX0_clear_31 zk_bipush_9 ?_
      refine lv_icmp_ge (tgt := 56) hx hb dX0_clear_33 (by decide) (fun c33 => ?_) (fun c33 => ?_)
      · have gc33 := ai_le c33
        have l33t_j30l1 : (9 : Int) ≤ j30l1.toInt := Int.le_trans zq2 gc33
        have hF1 := hF1.trans (if_pos (show 9 ≤ j30l1.toInt from gc33))
        have hF0 := hF0.trans (fl_wh_r (hSX30.trans hF1))
        have hFe : FX = (0, 0, 0, 0, 0, (fl_A j30a0_10_a), (fl_A j30a0_11_a)) := hF0
        exact W.vret hx hb hr (fun t ht hW => ⟨⟨(), rfl, trivial, 0, 0, 0, 0, 0, j30a0_10_a, j30a0_11_a, ⟨zq5, Int.le_trans zq6 (by decide)⟩, ⟨zq5, Int.le_trans zq6 (by decide)⟩, ⟨zq5, Int.le_trans zq6 (by decide)⟩, ⟨zq5, Int.le_trans zq6 (by decide)⟩, hFe, by rw [ht]; exact hP, va_K.moved hW.alike hK, hD⟩, hS.F ht⟩) hS.2.2 dX0_clear_56
      · have gc33 := ai_nle c33
        have u33f_j30l1 : j30l1.toInt ≤ (8 : Int) := ai_lthi gc33 zq3
        have hF1 := hF1.trans (if_neg (show ¬ (9 ≤ j30l1.toInt) from Int.not_le.mpr gc33))
        refine lv_aload_n hx hb dX0_clear_36 rfl (lv_at hl 0 rfl) ?_
        refine va_get (D := (dC, dI)) (ci := 0) (v := .ref a0_10) (C := RX0) (T := TX0) (N := 15) hx hb hts zi_X0_clear_0 hown hK hP 0 rfl rfl 10 (by decide) (hts (.fieldLink RX0 9 "WaxTurns$Hall" "kinds" "[I") (List.mem_cons_of_mem _ (List.mem_append_left _ (List.mem_append_left _ (List.mem_of_getElem? (i := 6) rfl))))) (fun _ h9 => h9) rfl dX0_clear_37 ?_
        refine lv_iload_n hx hb dX0_clear_40 rfl (lv_at hl 1 rfl) ?_
        refine lv_iconst (v := 0) hx hb dX0_clear_41 zk_iconst_0 ?_
        refine va_iast hx hb hK hP hD hS 2 0 rfl rfl (ai_in bj30l1_l u33f_j30l1 (by decide) (by decide)) dX0_clear_42 (fun H locs hP hD hS => ?_)
        obtain ⟨f42, ef42⟩ : ∃ g9 : Nat → Int32, g9 = upd j30a0_10_a (j30l1 : Int32).toNatClampNeg (0 : Int32) := ⟨_, rfl⟩
        rw [← ef42] at hP hD
        obtain ⟨hP, hD⟩ := zc_re (w := [(a0, .inr (0, [.int 0, a0g_1, a0g_2, a0g_3, .int 0, a0g_5, a0g_6, a0g_7, .int 0, .int 0, .ref a0_10, .ref a0_11, a0g_12, a0g_13, .ref a0_14])), (a0_14, .inr (6, [.int 0, a0_14g_1, a0_14g_2, a0_14g_3])), (a0_10, .inl (ka0_10, 9, .inl (f42))), (a0_11, .inl (ka0_11, 9, .inl (j30a0_11_a)))]) hP hD rfl
        have fqf42 := fl_up_eq ef42
        have hF1 := hF1.trans (fl_lt_eq (show (fl_A f42) = fl_up (fl_A j30a0_10_a) (j30l1.toInt.toNat) 0 from fqf42))
        refine lv_aload_n hx hb dX0_clear_43 rfl (lv_at hl 0 rfl) ?_
        refine va_get (D := (dC, dI)) (ci := 0) (v := .ref a0_11) (C := RX0) (T := TX0) (N := 15) hx hb hts zi_X0_clear_0 hown hK hP 0 rfl rfl 11 (by decide) (hts (.fieldLink RX0 15 "WaxTurns$Hall" "measures" "[I") (List.mem_cons_of_mem _ (List.mem_append_left _ (List.mem_append_left _ (List.mem_of_getElem? (i := 7) rfl))))) (fun _ h9 => h9) rfl dX0_clear_44 ?_
        refine lv_iload_n hx hb dX0_clear_47 rfl (lv_at hl 1 rfl) ?_
        refine lv_iconst (v := 0) hx hb dX0_clear_48 zk_iconst_0 ?_
        refine va_iast hx hb hK hP hD hS 3 1 rfl rfl (ai_in bj30l1_l u33f_j30l1 (by decide) (by decide)) dX0_clear_49 (fun H locs hP hD hS => ?_)
        obtain ⟨f49, ef49⟩ : ∃ g9 : Nat → Int32, g9 = upd j30a0_11_a (j30l1 : Int32).toNatClampNeg (0 : Int32) := ⟨_, rfl⟩
        rw [← ef49] at hP hD
        obtain ⟨hP, hD⟩ := zc_re (w := [(a0, .inr (0, [.int 0, a0g_1, a0g_2, a0g_3, .int 0, a0g_5, a0g_6, a0g_7, .int 0, .int 0, .ref a0_10, .ref a0_11, a0g_12, a0g_13, .ref a0_14])), (a0_14, .inr (6, [.int 0, a0_14g_1, a0_14g_2, a0_14g_3])), (a0_10, .inl (ka0_10, 9, .inl (f42))), (a0_11, .inl (ka0_11, 9, .inl (f49)))]) hP hD rfl
        have fqf49 := fl_up_eq ef49
        have hF1 := hF1.trans (fl_lt_eq (show (fl_A f49) = fl_up (fl_A j30a0_11_a) (j30l1.toInt.toNat) 0 from fqf49))
        obtain ⟨x50, ex50⟩ : ∃ y : Int32, y = j30l1 + Int32.ofInt 1 := ⟨_, rfl⟩
        have qx50 : x50.toInt = j30l1.toInt + 1 := ai_inc ex50 (by decide) (by decide) u33f_j30l1 (by decide)
        have bx50 : (1 : Int) ≤ x50.toInt ∧ x50.toInt ≤ 9 := ⟨by rw [qx50]; exact Int.add_le_add bj30l1_l (Int.le_refl _), by rw [qx50]; exact Int.add_le_add u33f_j30l1 (Int.le_refl _)⟩
        refine lv_iinc (v := x50) (lv' := [(1, .int x50), (0, .ref a0)]) hx hb dX0_clear_50 hl (k := 1) rfl ex50.symm (by decide) rfl (fun ls hl => ?_)
        have hF1 := hF1.trans (fl_lt_eq (show x50.toInt = j30l1.toInt + 1 from qx50))
        refine lv_goto (tgt := 30) hx hb dX0_clear_53 (by decide) ?_
        exact (hK0 _ _ _).mp (ih30 x50 f42 f49 _ _ _ (by have h0 := qx50; omega) (Int.le_trans zq4 bx50.1) bx50.2 (hF0.trans (fl_wh_l (hSX30.trans hF1))) hP hD hS (lv_sub hl [1, 0] rfl))
  exact (hK0 _ _ _).mp (J30 10 0 fa0_10 fa0_11 _ _ _ (by have h1 : (0 : Int) ≤ (0 : Int32).toInt := zq5; have h2 : (0 : Int32).toInt ≤ (0 : Int) := zq6; omega) zq5 (Int.le_trans zq6 zq7) (by rw [show (0 : Int32).toInt = 0 from by decide]; exact hF0) hP hD hS (lv_sub hl [1, 0] rfl))

set_option maxHeartbeats 4000000 in
set_option maxRecDepth 100000 in
theorem f_X0_addFigure (l : Launch) (dC : Nat → ClassId) (dI : Nat → Nat → Nat) (sz : Nat) (a0 : Nat) (a1 : Int32) (a2 : Int32) (a3 : Int32) (a0g_0 a0g_1 a0g_2 a0g_3 a0g_4 a0g_5 a0g_6 a0g_7 a0g_9 a0g_12 a0g_13 a0g_14 : Value) (a0_8 : Int32) (a0_10 : Nat) (a0_11 : Nat) (ka0_10 : ClassId) (fa0_10 : Nat → Int32) (ka0_11 : ClassId) (fa0_11 : Nat → Int32)  : Met l yX0_addFigure wsX0_addFigure ({ frames := 0, cells := 0, slots := 0, locals := 0 }) (va_Pc [.ref a0, .int a1, .int a2, .int a3] (ax_C dC dI sz [(a0, .inr (0, [a0g_0, a0g_1, a0g_2, a0g_3, a0g_4, a0g_5, a0g_6, a0g_7, .int a0_8, a0g_9, .ref a0_10, .ref a0_11, a0g_12, a0g_13, a0g_14])), (a0_10, .inl (ka0_10, 9, .inl (fa0_10))), (a0_11, .inl (ka0_11, 9, .inl (fa0_11)))] [(ka0_10, .int), (ka0_11, .int)] (fun _ => True))) (va_Qv (fun (_ : Unit) => True) (fun (_ : Unit) (t : State) => ∃ na0_8 : Int32, ∃ nfa0_10 : Nat → Int32, ∃ nfa0_11 : Nat → Int32, (Ff_X0_addFigure a1.toInt a2.toInt a3.toInt a0_8.toInt (fl_A fa0_10) (fl_A fa0_11) = (na0_8.toInt, (fl_A nfa0_10), (fl_A nfa0_11))) ∧ ax_B dC dI (va_A [(a0, .inr (0, [a0g_0, a0g_1, a0g_2, a0g_3, a0g_4, a0g_5, a0g_6, a0g_7, .int a0_8, a0g_9, .ref a0_10, .ref a0_11, a0g_12, a0g_13, a0g_14])), (a0_10, .inl (ka0_10, 9, .inl (fa0_10))), (a0_11, .inl (ka0_11, 9, .inl (fa0_11)))] sz) [(a0, .inr (0, [a0g_0, a0g_1, a0g_2, a0g_3, a0g_4, a0g_5, a0g_6, a0g_7, .int na0_8, a0g_9, .ref a0_10, .ref a0_11, a0g_12, a0g_13, a0g_14])), (a0_10, .inl (ka0_10, 9, .inl (nfa0_10))), (a0_11, .inl (ka0_11, 9, .inl (nfa0_11)))] [(ka0_10, .int), (ka0_11, .int)] t) (va_A [(a0, .inr (0, [a0g_0, a0g_1, a0g_2, a0g_3, a0g_4, a0g_5, a0g_6, a0g_7, .int a0_8, a0g_9, .ref a0_10, .ref a0_11, a0g_12, a0g_13, a0g_14])), (a0_10, .inl (ka0_10, 9, .inl (fa0_10))), (a0_11, .inl (ka0_11, 9, .inl (fa0_11)))] sz)) 0 0 (va_A [(a0, .inr (0, [a0g_0, a0g_1, a0g_2, a0g_3, a0g_4, a0g_5, a0g_6, a0g_7, .int a0_8, a0g_9, .ref a0_10, .ref a0_11, a0g_12, a0g_13, a0g_14])), (a0_10, .inl (ka0_10, 9, .inl (fa0_10))), (a0_11, .inl (ka0_11, 9, .inl (fa0_11)))] sz) := by
  refine Met.ofW (cc := cX0_addFigure) (maxL := 4) (ret := none) (by decide) rfl ?_
  intro p e s m args below meth c s₁ B hml hv
  obtain ⟨rfl, hsz, hP, hK, hD0, hE⟩ := hv
  have hx := B.exec
  have hb := B.bytes
  have hr := B.returns
  have hts := atoms_spec (ws := wsX0_addFigure) B.pre
  have hown : s.vm.findClass RX0 = some m.cls := findClass_of_methodNamed B.named
  have hlocks := B.notSynchronized
  subst hsz
  have hD := hD0.self (sz := s.heap.size)
  generalize hAe : va_A [(a0, .inr (0, [a0g_0, a0g_1, a0g_2, a0g_3, a0g_4, a0g_5, a0g_6, a0g_7, .int a0_8, a0g_9, .ref a0_10, .ref a0_11, a0g_12, a0g_13, a0g_14])), (a0_10, .inl (ka0_10, 9, .inl (fa0_10))), (a0_11, .inl (ka0_11, 9, .inl (fa0_11)))] s.heap.size = A at hD ⊢
  have hA : ∀ q : Nat, s.heap.size ≤ q → A q := fun q h => by rw [← hAe]; exact Or.inr h
  have hS : va_S A s.heap s.heap [] := va_S.rf
  have hP : va_P (dC, dI) vwCl [(a0, .inr (0, [a0g_0, a0g_1, a0g_2, a0g_3, a0g_4, a0g_5, a0g_6, a0g_7, .int a0_8, a0g_9, .ref a0_10, .ref a0_11, a0g_12, a0g_13, a0g_14])), (a0_10, .inl (ka0_10, 9, .inl (fa0_10))), (a0_11, .inl (ka0_11, 9, .inl (fa0_11)))] s.heap := hP
  have hl := lv_entry ([.ref a0, .int a1, .int a2, .int a3]) (n := 4) (Nat.le_of_ble_eq_true rfl)
  rw [lg_entry_eq]
  generalize (lg_sl ([.ref a0, .int a1, .int a2, .int a3]) ++ List.replicate (4 - (lg_sl ([.ref a0, .int a1, .int a2, .int a3])).length) Slot.unset).toArray = ls at hl ⊢
  have hl : lv_has ls 4 [(0, .ref a0), (1, .int a1), (2, .int a2), (3, .int a3)] := hl
  generalize hFX : Ff_X0_addFigure a1.toInt a2.toInt a3.toInt a0_8.toInt (fl_A fa0_10) (fl_A fa0_11) = FX at ⊢
  have hF0 := hFX.symm.trans (Ff_X0_addFigure.eq_1 a1.toInt a2.toInt a3.toInt a0_8.toInt (fl_A fa0_10) (fl_A fa0_11))
  refine lv_iload_n hx hb dX0_addFigure_0 rfl (lv_at hl 1 rfl) ?_
  refine lv_if_lt (tgt := 36) hx hb dX0_addFigure_1 (by decide) (fun c1 => ?_) (fun c1 => ?_)
  · have gc1 := ai_lt c1
    have u1t_a1 : a1.toInt ≤ (-1 : Int) := ai_lthi gc1 zq6
    have hF0 := hF0.trans (if_pos (show a1.toInt < 0 from gc1))
    have hFe : FX = (a0_8.toInt, (fl_A fa0_10), (fl_A fa0_11)) := hF0
    exact W.vret hx hb hr (fun t ht hW => ⟨⟨(), rfl, trivial, a0_8, fa0_10, fa0_11, hFe, by rw [ht]; exact hP, va_K.moved hW.alike hK, hD⟩, hS.F ht⟩) hS.2.2 dX0_addFigure_36
  · have gc1 := ai_nlt c1
    have l1f_a1 : (0 : Int) ≤ a1.toInt := Int.le_trans zq5 gc1
    have hF0 := hF0.trans (if_neg (show ¬ (a1.toInt < 0) from Int.not_lt.mpr gc1))
    refine lv_iload_n hx hb dX0_addFigure_4 rfl (lv_at hl 1 rfl) ?_
    refine lv_bipush (v := 9) hx hb dX0_addFigure_5 zk_bipush_9 ?_
    refine lv_icmp_ge (tgt := 36) hx hb dX0_addFigure_7 (by decide) (fun c7 => ?_) (fun c7 => ?_)
    · have gc7 := ai_le c7
      have l7t_a1 : (9 : Int) ≤ a1.toInt := Int.le_trans zq2 gc7
      have hF0 := hF0.trans (if_pos (show 9 ≤ a1.toInt from gc7))
      have hFe : FX = (a0_8.toInt, (fl_A fa0_10), (fl_A fa0_11)) := hF0
      exact W.vret hx hb hr (fun t ht hW => ⟨⟨(), rfl, trivial, a0_8, fa0_10, fa0_11, hFe, by rw [ht]; exact hP, va_K.moved hW.alike hK, hD⟩, hS.F ht⟩) hS.2.2 dX0_addFigure_36
    · have gc7 := ai_nle c7
      have u7f_a1 : a1.toInt ≤ (8 : Int) := ai_lthi gc7 zq3
      have hF0 := hF0.trans (if_neg (show ¬ (9 ≤ a1.toInt) from Int.not_le.mpr gc7))
      refine lv_aload_n hx hb dX0_addFigure_10 rfl (lv_at hl 0 rfl) ?_
      refine lv_dup hx hb dX0_addFigure_11 rfl ?_
      refine va_get (D := (dC, dI)) (ci := 0) (v := .int a0_8) (C := RX0) (T := TX0) (N := 15) hx hb hts zi_X0_addFigure_0 hown hK hP 0 rfl rfl 8 (by decide) (hts (.fieldLink RX0 39 "WaxTurns$Hall" "toldBits" "I") (List.mem_cons_of_mem _ (List.mem_append_left _ (List.mem_of_getElem? (i := 0) rfl)))) (fun _ h9 => h9) rfl dX0_addFigure_12 ?_
      refine lv_iconst (v := 1) hx hb dX0_addFigure_15 zk_iconst_1 ?_
      refine lv_iload_n hx hb dX0_addFigure_16 rfl (lv_at hl 1 rfl) ?_
      refine lv_ishl hx hb dX0_addFigure_17 ?_
      refine lv_topi (fun x17 ex17 => ?_)
      have bx17 : (1 : Int) ≤ x17.toInt ∧ x17.toInt ≤ 512 := sh_1 ex17 l1f_a1 (Int.le_trans u7f_a1 zq22)
      have fqx17 := fl_shl_eq ex17
      have hF0 := hF0.trans (fl_lt_eq (show x17.toInt = fl_shl 1 a1.toInt from fqx17))
      refine lv_ior hx hb dX0_addFigure_18 ?_
      refine lv_topi (fun x18 ex18 => ?_)
      have fqx18 := fl_or_eq ex18
      have hF0 := hF0.trans (fl_lt_eq (show x18.toInt = fl_or a0_8.toInt x17.toInt from fqx18))
      refine va_put (D := (dC, dI)) (ci := 0) (v := .int x18) (ty := .int) (C := RX0) (T := TX0) (N := 15) hx hb hts zi_X0_addFigure_0 tyX0 tyX0_ok nmX0 hown hK hP hD hS 0 rfl rfl 8 (by decide) (hts (.fieldLink RX0 39 "WaxTurns$Hall" "toldBits" "I") (List.mem_cons_of_mem _ (List.mem_append_left _ (List.mem_of_getElem? (i := 0) rfl)))) (fun _ h9 => h9) rfl (tyX0_ok 8 (by decide)) rfl rfl (Nat.le_of_ble_eq_true rfl) dX0_addFigure_19 (fun H locs hP hD hS => ?_)
      obtain ⟨hP, hD⟩ := zc_re (w := [(a0, .inr (0, [a0g_0, a0g_1, a0g_2, a0g_3, a0g_4, a0g_5, a0g_6, a0g_7, .int x18, a0g_9, .ref a0_10, .ref a0_11, a0g_12, a0g_13, a0g_14])), (a0_10, .inl (ka0_10, 9, .inl (fa0_10))), (a0_11, .inl (ka0_11, 9, .inl (fa0_11)))]) hP hD rfl
      refine lv_aload_n hx hb dX0_addFigure_22 rfl (lv_at hl 0 rfl) ?_
      refine va_get (D := (dC, dI)) (ci := 0) (v := .ref a0_10) (C := RX0) (T := TX0) (N := 15) hx hb hts zi_X0_addFigure_0 hown hK hP 0 rfl rfl 10 (by decide) (hts (.fieldLink RX0 9 "WaxTurns$Hall" "kinds" "[I") (List.mem_cons_of_mem _ (List.mem_append_left _ (List.mem_of_getElem? (i := 1) rfl)))) (fun _ h9 => h9) rfl dX0_addFigure_23 ?_
      refine lv_iload_n hx hb dX0_addFigure_26 rfl (lv_at hl 1 rfl) ?_
      refine lv_iload_n hx hb dX0_addFigure_27 rfl (lv_at hl 2 rfl) ?_
      refine va_iast hx hb hK hP hD hS 1 0 rfl rfl (ai_in l1f_a1 u7f_a1 (by decide) (by decide)) dX0_addFigure_28 (fun H locs hP hD hS => ?_)
      obtain ⟨f28, ef28⟩ : ∃ g9 : Nat → Int32, g9 = upd fa0_10 (a1 : Int32).toNatClampNeg a2 := ⟨_, rfl⟩
      rw [← ef28] at hP hD
      obtain ⟨hP, hD⟩ := zc_re (w := [(a0, .inr (0, [a0g_0, a0g_1, a0g_2, a0g_3, a0g_4, a0g_5, a0g_6, a0g_7, .int x18, a0g_9, .ref a0_10, .ref a0_11, a0g_12, a0g_13, a0g_14])), (a0_10, .inl (ka0_10, 9, .inl (f28))), (a0_11, .inl (ka0_11, 9, .inl (fa0_11)))]) hP hD rfl
      have fqf28 := fl_up_eq ef28
      have hF0 := hF0.trans (fl_lt_eq (show (fl_A f28) = fl_up (fl_A fa0_10) (a1.toInt.toNat) a2.toInt from fqf28))
      refine lv_aload_n hx hb dX0_addFigure_29 rfl (lv_at hl 0 rfl) ?_
      refine va_get (D := (dC, dI)) (ci := 0) (v := .ref a0_11) (C := RX0) (T := TX0) (N := 15) hx hb hts zi_X0_addFigure_0 hown hK hP 0 rfl rfl 11 (by decide) (hts (.fieldLink RX0 15 "WaxTurns$Hall" "measures" "[I") (List.mem_cons_of_mem _ (List.mem_append_left _ (List.mem_of_getElem? (i := 2) rfl)))) (fun _ h9 => h9) rfl dX0_addFigure_30 ?_
      refine lv_iload_n hx hb dX0_addFigure_33 rfl (lv_at hl 1 rfl) ?_
      refine lv_iload_n hx hb dX0_addFigure_34 rfl (lv_at hl 3 rfl) ?_
      refine va_iast hx hb hK hP hD hS 2 1 rfl rfl (ai_in l1f_a1 u7f_a1 (by decide) (by decide)) dX0_addFigure_35 (fun H locs hP hD hS => ?_)
      obtain ⟨f35, ef35⟩ : ∃ g9 : Nat → Int32, g9 = upd fa0_11 (a1 : Int32).toNatClampNeg a3 := ⟨_, rfl⟩
      rw [← ef35] at hP hD
      obtain ⟨hP, hD⟩ := zc_re (w := [(a0, .inr (0, [a0g_0, a0g_1, a0g_2, a0g_3, a0g_4, a0g_5, a0g_6, a0g_7, .int x18, a0g_9, .ref a0_10, .ref a0_11, a0g_12, a0g_13, a0g_14])), (a0_10, .inl (ka0_10, 9, .inl (f28))), (a0_11, .inl (ka0_11, 9, .inl (f35)))]) hP hD rfl
      have fqf35 := fl_up_eq ef35
      have hF0 := hF0.trans (fl_lt_eq (show (fl_A f35) = fl_up (fl_A fa0_11) (a1.toInt.toNat) a3.toInt from fqf35))
      have hFe : FX = (x18.toInt, (fl_A f28), (fl_A f35)) := hF0
      exact W.vret hx hb hr (fun t ht hW => ⟨⟨(), rfl, trivial, x18, f28, f35, hFe, by rw [ht]; exact hP, va_K.moved hW.alike hK, hD⟩, hS.F ht⟩) hS.2.2 dX0_addFigure_36

set_option maxHeartbeats 4000000 in
set_option maxRecDepth 100000 in
theorem f_X0_addSeen (l : Launch) (dC : Nat → ClassId) (dI : Nat → Nat → Nat) (sz : Nat) (a0 : Nat) (a1 : Int32) (a2 : Int32) (a0g_0 a0g_1 a0g_2 a0g_3 a0g_4 a0g_5 a0g_6 a0g_7 a0g_8 a0g_10 a0g_11 a0g_14 : Value) (a0_9 : Int32) (a0_12 : Nat) (a0_13 : Nat) (ka0_12 : ClassId) (fa0_12 : Nat → Int32) (ka0_13 : ClassId) (fa0_13 : Nat → Int32) (ba2_l : (0 : Int) ≤ a2.toInt) (ba2_u : a2.toInt ≤ (999 : Int)) (ba0_9_l : (0 : Int) ≤ a0_9.toInt) (ba0_9_u : a0_9.toInt ≤ (6 : Int)) (bfa0_13 : (∀ k, (0 : Int) ≤ (fa0_13 k).toInt ∧ (fa0_13 k).toInt ≤ 999)) : Met l yX0_addSeen wsX0_addSeen ({ frames := 0, cells := 0, slots := 0, locals := 0 }) (va_Pc [.ref a0, .int a1, .int a2] (ax_C dC dI sz [(a0, .inr (0, [a0g_0, a0g_1, a0g_2, a0g_3, a0g_4, a0g_5, a0g_6, a0g_7, a0g_8, .int a0_9, a0g_10, a0g_11, .ref a0_12, .ref a0_13, a0g_14])), (a0_12, .inl (ka0_12, 6, .inl (fa0_12))), (a0_13, .inl (ka0_13, 6, .inl (fa0_13)))] [(ka0_12, .int), (ka0_13, .int)] (fun _ => True))) (va_Qv (fun (_ : Unit) => True) (fun (_ : Unit) (t : State) => ∃ na0_9 : Int32, ∃ nfa0_12 : Nat → Int32, ∃ nfa0_13 : Nat → Int32, ((0 : Int) ≤ na0_9.toInt ∧ na0_9.toInt ≤ 6) ∧ (∀ k, (0 : Int) ≤ (nfa0_13 k).toInt ∧ (nfa0_13 k).toInt ≤ 999) ∧ (Ff_X0_addSeen a1.toInt a2.toInt a0_9.toInt (fl_A fa0_12) (fl_A fa0_13) = (na0_9.toInt, (fl_A nfa0_12), (fl_A nfa0_13))) ∧ ax_B dC dI (va_A [(a0, .inr (0, [a0g_0, a0g_1, a0g_2, a0g_3, a0g_4, a0g_5, a0g_6, a0g_7, a0g_8, .int a0_9, a0g_10, a0g_11, .ref a0_12, .ref a0_13, a0g_14])), (a0_12, .inl (ka0_12, 6, .inl (fa0_12))), (a0_13, .inl (ka0_13, 6, .inl (fa0_13)))] sz) [(a0, .inr (0, [a0g_0, a0g_1, a0g_2, a0g_3, a0g_4, a0g_5, a0g_6, a0g_7, a0g_8, .int na0_9, a0g_10, a0g_11, .ref a0_12, .ref a0_13, a0g_14])), (a0_12, .inl (ka0_12, 6, .inl (nfa0_12))), (a0_13, .inl (ka0_13, 6, .inl (nfa0_13)))] [(ka0_12, .int), (ka0_13, .int)] t) (va_A [(a0, .inr (0, [a0g_0, a0g_1, a0g_2, a0g_3, a0g_4, a0g_5, a0g_6, a0g_7, a0g_8, .int a0_9, a0g_10, a0g_11, .ref a0_12, .ref a0_13, a0g_14])), (a0_12, .inl (ka0_12, 6, .inl (fa0_12))), (a0_13, .inl (ka0_13, 6, .inl (fa0_13)))] sz)) 0 0 (va_A [(a0, .inr (0, [a0g_0, a0g_1, a0g_2, a0g_3, a0g_4, a0g_5, a0g_6, a0g_7, a0g_8, .int a0_9, a0g_10, a0g_11, .ref a0_12, .ref a0_13, a0g_14])), (a0_12, .inl (ka0_12, 6, .inl (fa0_12))), (a0_13, .inl (ka0_13, 6, .inl (fa0_13)))] sz) := by
  refine Met.ofW (cc := cX0_addSeen) (maxL := 3) (ret := none) (by decide) rfl ?_
  intro p e s m args below meth c s₁ B hml hv
  obtain ⟨rfl, hsz, hP, hK, hD0, hE⟩ := hv
  have hx := B.exec
  have hb := B.bytes
  have hr := B.returns
  have hts := atoms_spec (ws := wsX0_addSeen) B.pre
  have hown : s.vm.findClass RX0 = some m.cls := findClass_of_methodNamed B.named
  have hlocks := B.notSynchronized
  subst hsz
  have hD := hD0.self (sz := s.heap.size)
  generalize hAe : va_A [(a0, .inr (0, [a0g_0, a0g_1, a0g_2, a0g_3, a0g_4, a0g_5, a0g_6, a0g_7, a0g_8, .int a0_9, a0g_10, a0g_11, .ref a0_12, .ref a0_13, a0g_14])), (a0_12, .inl (ka0_12, 6, .inl (fa0_12))), (a0_13, .inl (ka0_13, 6, .inl (fa0_13)))] s.heap.size = A at hD ⊢
  have hA : ∀ q : Nat, s.heap.size ≤ q → A q := fun q h => by rw [← hAe]; exact Or.inr h
  have hS : va_S A s.heap s.heap [] := va_S.rf
  have hP : va_P (dC, dI) vwCl [(a0, .inr (0, [a0g_0, a0g_1, a0g_2, a0g_3, a0g_4, a0g_5, a0g_6, a0g_7, a0g_8, .int a0_9, a0g_10, a0g_11, .ref a0_12, .ref a0_13, a0g_14])), (a0_12, .inl (ka0_12, 6, .inl (fa0_12))), (a0_13, .inl (ka0_13, 6, .inl (fa0_13)))] s.heap := hP
  have hl := lv_entry ([.ref a0, .int a1, .int a2]) (n := 3) (Nat.le_of_ble_eq_true rfl)
  rw [lg_entry_eq]
  generalize (lg_sl ([.ref a0, .int a1, .int a2]) ++ List.replicate (3 - (lg_sl ([.ref a0, .int a1, .int a2])).length) Slot.unset).toArray = ls at hl ⊢
  have hl : lv_has ls 3 [(0, .ref a0), (1, .int a1), (2, .int a2)] := hl
  generalize hFX : Ff_X0_addSeen a1.toInt a2.toInt a0_9.toInt (fl_A fa0_12) (fl_A fa0_13) = FX at ⊢
  have hF0 := hFX.symm.trans (Ff_X0_addSeen.eq_1 a1.toInt a2.toInt a0_9.toInt (fl_A fa0_12) (fl_A fa0_13))
  refine lv_aload_n hx hb dX0_addSeen_0 rfl (lv_at hl 0 rfl) ?_
  refine va_get (D := (dC, dI)) (ci := 0) (v := .int a0_9) (C := RX0) (T := TX0) (N := 15) hx hb hts zi_X0_addSeen_0 hown hK hP 0 rfl rfl 9 (by decide) (hts (.fieldLink RX0 42 "WaxTurns$Hall" "seenCount" "I") (List.mem_cons_of_mem _ (List.mem_append_left _ (List.mem_of_getElem? (i := 0) rfl)))) (fun _ h9 => h9) rfl dX0_addSeen_1 ?_
  refine lv_bipush (v := 6) hx hb dX0_addSeen_4 zk_bipush_6 ?_
  refine lv_icmp_ge (tgt := 39) hx hb dX0_addSeen_6 (by decide) (fun c6 => ?_) (fun c6 => ?_)
  · have gc6 := ai_le c6
    have l6t_a0_9 : (6 : Int) ≤ a0_9.toInt := Int.le_trans zq15 gc6
    have hF0 := hF0.trans (if_pos (show 6 ≤ a0_9.toInt from gc6))
    have hFe : FX = (a0_9.toInt, (fl_A fa0_12), (fl_A fa0_13)) := hF0
    exact W.vret hx hb hr (fun t ht hW => ⟨⟨(), rfl, trivial, a0_9, fa0_12, fa0_13, ⟨Int.le_trans (by decide) l6t_a0_9, ba0_9_u⟩, bfa0_13, hFe, by rw [ht]; exact hP, va_K.moved hW.alike hK, hD⟩, hS.F ht⟩) hS.2.2 dX0_addSeen_39
  · have gc6 := ai_nle c6
    have u6f_a0_9 : a0_9.toInt ≤ (5 : Int) := ai_lthi gc6 zq16
    have hF0 := hF0.trans (if_neg (show ¬ (6 ≤ a0_9.toInt) from Int.not_le.mpr gc6))
    refine lv_aload_n hx hb dX0_addSeen_9 rfl (lv_at hl 0 rfl) ?_
    refine va_get (D := (dC, dI)) (ci := 0) (v := .ref a0_12) (C := RX0) (T := TX0) (N := 15) hx hb hts zi_X0_addSeen_0 hown hK hP 0 rfl rfl 12 (by decide) (hts (.fieldLink RX0 18 "WaxTurns$Hall" "seenFigures" "[I") (List.mem_cons_of_mem _ (List.mem_append_left _ (List.mem_of_getElem? (i := 1) rfl)))) (fun _ h9 => h9) rfl dX0_addSeen_10 ?_
    refine lv_aload_n hx hb dX0_addSeen_13 rfl (lv_at hl 0 rfl) ?_
    refine va_get (D := (dC, dI)) (ci := 0) (v := .int a0_9) (C := RX0) (T := TX0) (N := 15) hx hb hts zi_X0_addSeen_0 hown hK hP 0 rfl rfl 9 (by decide) (hts (.fieldLink RX0 42 "WaxTurns$Hall" "seenCount" "I") (List.mem_cons_of_mem _ (List.mem_append_left _ (List.mem_of_getElem? (i := 0) rfl)))) (fun _ h9 => h9) rfl dX0_addSeen_14 ?_
    refine lv_iload_n hx hb dX0_addSeen_17 rfl (lv_at hl 1 rfl) ?_
    refine va_iast hx hb hK hP hD hS 1 0 rfl rfl (ai_in ba0_9_l u6f_a0_9 (by decide) (by decide)) dX0_addSeen_18 (fun H locs hP hD hS => ?_)
    obtain ⟨f18, ef18⟩ : ∃ g9 : Nat → Int32, g9 = upd fa0_12 (a0_9 : Int32).toNatClampNeg a1 := ⟨_, rfl⟩
    rw [← ef18] at hP hD
    obtain ⟨hP, hD⟩ := zc_re (w := [(a0, .inr (0, [a0g_0, a0g_1, a0g_2, a0g_3, a0g_4, a0g_5, a0g_6, a0g_7, a0g_8, .int a0_9, a0g_10, a0g_11, .ref a0_12, .ref a0_13, a0g_14])), (a0_12, .inl (ka0_12, 6, .inl (f18))), (a0_13, .inl (ka0_13, 6, .inl (fa0_13)))]) hP hD rfl
    have fqf18 := fl_up_eq ef18
    have hF0 := hF0.trans (fl_lt_eq (show (fl_A f18) = fl_up (fl_A fa0_12) (a0_9.toInt.toNat) a1.toInt from fqf18))
    refine lv_aload_n hx hb dX0_addSeen_19 rfl (lv_at hl 0 rfl) ?_
    refine va_get (D := (dC, dI)) (ci := 0) (v := .ref a0_13) (C := RX0) (T := TX0) (N := 15) hx hb hts zi_X0_addSeen_0 hown hK hP 0 rfl rfl 13 (by decide) (hts (.fieldLink RX0 21 "WaxTurns$Hall" "seenMinutes" "[I") (List.mem_cons_of_mem _ (List.mem_append_left _ (List.mem_of_getElem? (i := 2) rfl)))) (fun _ h9 => h9) rfl dX0_addSeen_20 ?_
    refine lv_aload_n hx hb dX0_addSeen_23 rfl (lv_at hl 0 rfl) ?_
    refine va_get (D := (dC, dI)) (ci := 0) (v := .int a0_9) (C := RX0) (T := TX0) (N := 15) hx hb hts zi_X0_addSeen_0 hown hK hP 0 rfl rfl 9 (by decide) (hts (.fieldLink RX0 42 "WaxTurns$Hall" "seenCount" "I") (List.mem_cons_of_mem _ (List.mem_append_left _ (List.mem_of_getElem? (i := 0) rfl)))) (fun _ h9 => h9) rfl dX0_addSeen_24 ?_
    refine lv_iload_n hx hb dX0_addSeen_27 rfl (lv_at hl 2 rfl) ?_
    refine va_iast hx hb hK hP hD hS 2 1 rfl rfl (ai_in ba0_9_l u6f_a0_9 (by decide) (by decide)) dX0_addSeen_28 (fun H locs hP hD hS => ?_)
    obtain ⟨f28, ef28⟩ : ∃ g9 : Nat → Int32, g9 = upd fa0_13 (a0_9 : Int32).toNatClampNeg a2 := ⟨_, rfl⟩
    rw [← ef28] at hP hD
    obtain ⟨hP, hD⟩ := zc_re (w := [(a0, .inr (0, [a0g_0, a0g_1, a0g_2, a0g_3, a0g_4, a0g_5, a0g_6, a0g_7, a0g_8, .int a0_9, a0g_10, a0g_11, .ref a0_12, .ref a0_13, a0g_14])), (a0_12, .inl (ka0_12, 6, .inl (f18))), (a0_13, .inl (ka0_13, 6, .inl (f28)))]) hP hD rfl
    have bf28 : (∀ k, (0 : Int) ≤ (f28 k).toInt ∧ (f28 k).toInt ≤ 999) := by rw [ef28]; exact ai_upd bfa0_13 _ ⟨ba2_l, ba2_u⟩
    have fqf28 := fl_up_eq ef28
    have hF0 := hF0.trans (fl_lt_eq (show (fl_A f28) = fl_up (fl_A fa0_13) (a0_9.toInt.toNat) a2.toInt from fqf28))
    refine lv_aload_n hx hb dX0_addSeen_29 rfl (lv_at hl 0 rfl) ?_
    refine lv_dup hx hb dX0_addSeen_30 rfl ?_
    refine va_get (D := (dC, dI)) (ci := 0) (v := .int a0_9) (C := RX0) (T := TX0) (N := 15) hx hb hts zi_X0_addSeen_0 hown hK hP 0 rfl rfl 9 (by decide) (hts (.fieldLink RX0 42 "WaxTurns$Hall" "seenCount" "I") (List.mem_cons_of_mem _ (List.mem_append_left _ (List.mem_of_getElem? (i := 0) rfl)))) (fun _ h9 => h9) rfl dX0_addSeen_31 ?_
    refine lv_iconst (v := 1) hx hb dX0_addSeen_34 zk_iconst_1 ?_
    refine lv_iadd hx hb dX0_addSeen_35 ?_
    refine lv_topi (fun x35 ex35 => ?_)
    have qx35 : x35.toInt = a0_9.toInt + (1 : Int32).toInt := ai_add ex35 ⟨ba0_9_l, u6f_a0_9⟩ ⟨zq1, zq0⟩ (by decide) (by decide)
    have bx35 : (1 : Int) ≤ x35.toInt ∧ x35.toInt ≤ 6 := ⟨by rw [qx35]; exact Int.add_le_add ba0_9_l zq1, by rw [qx35]; exact Int.add_le_add u6f_a0_9 zq0⟩
    have wx35 : x35.toInt = a0_9.toInt + 1 := qx35
    have hF0 := hF0.trans (fl_lt_eq (show x35.toInt = a0_9.toInt + 1 from qx35))
    refine va_put (D := (dC, dI)) (ci := 0) (v := .int x35) (ty := .int) (C := RX0) (T := TX0) (N := 15) hx hb hts zi_X0_addSeen_0 tyX0 tyX0_ok nmX0 hown hK hP hD hS 0 rfl rfl 9 (by decide) (hts (.fieldLink RX0 42 "WaxTurns$Hall" "seenCount" "I") (List.mem_cons_of_mem _ (List.mem_append_left _ (List.mem_of_getElem? (i := 0) rfl)))) (fun _ h9 => h9) rfl (tyX0_ok 9 (by decide)) rfl rfl (Nat.le_of_ble_eq_true rfl) dX0_addSeen_36 (fun H locs hP hD hS => ?_)
    obtain ⟨hP, hD⟩ := zc_re (w := [(a0, .inr (0, [a0g_0, a0g_1, a0g_2, a0g_3, a0g_4, a0g_5, a0g_6, a0g_7, a0g_8, .int x35, a0g_10, a0g_11, .ref a0_12, .ref a0_13, a0g_14])), (a0_12, .inl (ka0_12, 6, .inl (f18))), (a0_13, .inl (ka0_13, 6, .inl (f28)))]) hP hD rfl
    have hFe : FX = (x35.toInt, (fl_A f18), (fl_A f28)) := hF0
    exact W.vret hx hb hr (fun t ht hW => ⟨⟨(), rfl, trivial, x35, f18, f28, ⟨Int.le_trans (by decide) bx35.1, bx35.2⟩, bf28, hFe, by rw [ht]; exact hP, va_K.moved hW.alike hK, hD⟩, hS.F ht⟩) hS.2.2 dX0_addSeen_39

set_option maxHeartbeats 4000000 in
set_option maxRecDepth 100000 in
theorem f_X0_isSeenMinute (l : Launch) (dC : Nat → ClassId) (dI : Nat → Nat → Nat) (sz : Nat) (a0 : Nat) (a1 : Int32) (a0g_0 a0g_1 a0g_2 a0g_3 a0g_4 a0g_5 a0g_6 a0g_7 a0g_8 a0g_10 a0g_11 a0g_12 a0g_14 : Value) (a0_9 : Int32) (a0_13 : Nat) (ka0_13 : ClassId) (fa0_13 : Nat → Int32) (ba0_9_l : (0 : Int) ≤ a0_9.toInt) (ba0_9_u : a0_9.toInt ≤ (6 : Int)) (bfa0_13 : (∀ k, (0 : Int) ≤ (fa0_13 k).toInt ∧ (fa0_13 k).toInt ≤ 999)) : Met l yX0_isSeenMinute wsX0_isSeenMinute ({ frames := 0, cells := 0, slots := 0, locals := 0 }) (va_Pc [.ref a0, .int a1] (ax_C dC dI sz [(a0, .inr (0, [a0g_0, a0g_1, a0g_2, a0g_3, a0g_4, a0g_5, a0g_6, a0g_7, a0g_8, .int a0_9, a0g_10, a0g_11, a0g_12, .ref a0_13, a0g_14])), (a0_13, .inl (ka0_13, 6, .inl (fa0_13)))] [(ka0_13, .int)] (fun _ => True))) (va_Qi (fun (r : Int32) (_ : Unit) => ((r = 1 ∧ (0 : Int) ≤ a1.toInt ∧ a1.toInt ≤ (999 : Int) ∧ (1 : Int) ≤ a0_9.toInt ∧ a0_9.toInt ≤ (6 : Int)) ∨ (r = 0)) ∧ r.toInt = Ff_X0_isSeenMinute a1.toInt a0_9.toInt (fl_A fa0_13)) (fun (_ : Unit) (t : State) => ax_B dC dI (va_A [(a0, .inr (0, [a0g_0, a0g_1, a0g_2, a0g_3, a0g_4, a0g_5, a0g_6, a0g_7, a0g_8, .int a0_9, a0g_10, a0g_11, a0g_12, .ref a0_13, a0g_14])), (a0_13, .inl (ka0_13, 6, .inl (fa0_13)))] sz) [(a0, .inr (0, [a0g_0, a0g_1, a0g_2, a0g_3, a0g_4, a0g_5, a0g_6, a0g_7, a0g_8, .int a0_9, a0g_10, a0g_11, a0g_12, .ref a0_13, a0g_14])), (a0_13, .inl (ka0_13, 6, .inl (fa0_13)))] [(ka0_13, .int)] t) (va_A [(a0, .inr (0, [a0g_0, a0g_1, a0g_2, a0g_3, a0g_4, a0g_5, a0g_6, a0g_7, a0g_8, .int a0_9, a0g_10, a0g_11, a0g_12, .ref a0_13, a0g_14])), (a0_13, .inl (ka0_13, 6, .inl (fa0_13)))] sz)) 0 0 (va_A [(a0, .inr (0, [a0g_0, a0g_1, a0g_2, a0g_3, a0g_4, a0g_5, a0g_6, a0g_7, a0g_8, .int a0_9, a0g_10, a0g_11, a0g_12, .ref a0_13, a0g_14])), (a0_13, .inl (ka0_13, 6, .inl (fa0_13)))] sz) := by
  refine Met.ofW (cc := cX0_isSeenMinute) (maxL := 3) (ret := (some .boolean)) (by decide) rfl ?_
  intro p e s m args below meth c s₁ B hml hv
  obtain ⟨rfl, hsz, hP, hK, hD0, hE⟩ := hv
  have hx := B.exec
  have hb := B.bytes
  have hr := B.returns
  have hts := atoms_spec (ws := wsX0_isSeenMinute) B.pre
  have hown : s.vm.findClass RX0 = some m.cls := findClass_of_methodNamed B.named
  have hlocks := B.notSynchronized
  subst hsz
  have hD := hD0.self (sz := s.heap.size)
  generalize hAe : va_A [(a0, .inr (0, [a0g_0, a0g_1, a0g_2, a0g_3, a0g_4, a0g_5, a0g_6, a0g_7, a0g_8, .int a0_9, a0g_10, a0g_11, a0g_12, .ref a0_13, a0g_14])), (a0_13, .inl (ka0_13, 6, .inl (fa0_13)))] s.heap.size = A at hD ⊢
  have hA : ∀ q : Nat, s.heap.size ≤ q → A q := fun q h => by rw [← hAe]; exact Or.inr h
  have hS : va_S A s.heap s.heap [] := va_S.rf
  have hP : va_P (dC, dI) vwCl [(a0, .inr (0, [a0g_0, a0g_1, a0g_2, a0g_3, a0g_4, a0g_5, a0g_6, a0g_7, a0g_8, .int a0_9, a0g_10, a0g_11, a0g_12, .ref a0_13, a0g_14])), (a0_13, .inl (ka0_13, 6, .inl (fa0_13)))] s.heap := hP
  have hl := lv_entry ([.ref a0, .int a1]) (n := 3) (Nat.le_of_ble_eq_true rfl)
  rw [lg_entry_eq]
  generalize (lg_sl ([.ref a0, .int a1]) ++ List.replicate (3 - (lg_sl ([.ref a0, .int a1])).length) Slot.unset).toArray = ls at hl ⊢
  have hl : lv_has ls 3 [(0, .ref a0), (1, .int a1)] := hl
  generalize hFX : Ff_X0_isSeenMinute a1.toInt a0_9.toInt (fl_A fa0_13) = FX at ⊢
  have hF0 := hFX.symm.trans (Ff_X0_isSeenMinute.eq_1 a1.toInt a0_9.toInt (fl_A fa0_13))
  refine ai_open (fun K hK0 => ?_)
  refine (hK0 _ _ _).mpr ?_
  refine lv_iconst (v := 0) hx hb dX0_isSeenMinute_0 zk_iconst_0 ?_
  refine lv_istore_n (lv' := [(2, .int 0), (0, .ref a0), (1, .int a1)]) hx hb dX0_isSeenMinute_1 rfl hl (by decide) rfl (fun ls hl => ?_)
  have J2 : ∀ (n : Nat) (j2l2 : Int32) (H : Heap) (locs : List Loc) (ls : Array Slot), (7 : Int) - j2l2.toInt ≤ (n : Int) → (0 : Int) ≤ j2l2.toInt → j2l2.toInt ≤ (6 : Int) → (FX = fl_wh (Sf_X0_isSeenMinute_2_1 a1.toInt a0_9.toInt (fl_A fa0_13)) 0 n j2l2.toInt) → va_P (dC, dI) vwCl [(a0, .inr (0, [a0g_0, a0g_1, a0g_2, a0g_3, a0g_4, a0g_5, a0g_6, a0g_7, a0g_8, .int a0_9, a0g_10, a0g_11, a0g_12, .ref a0_13, a0g_14])), (a0_13, .inl (ka0_13, 6, .inl (fa0_13)))] H → va_D A [(a0, .inr (0, [a0g_0, a0g_1, a0g_2, a0g_3, a0g_4, a0g_5, a0g_6, a0g_7, a0g_8, .int a0_9, a0g_10, a0g_11, a0g_12, .ref a0_13, a0g_14])), (a0_13, .inl (ka0_13, 6, .inl (fa0_13)))] → va_S A s.heap H locs → lv_has ls 3 [(0, .ref a0), (1, .int a1), (2, .int j2l2)] → K H locs (F0 m 2 ls []) := by
    intro n
    induction n with
    | zero =>
      intro j2l2 H locs ls hm bj2l2_l bj2l2_u hF0 hP hD hS hl
      have h8 := ai_min j2l2
      have h9 := ai_max j2l2
      exact absurd hm (by omega)
    | succ n ih2 =>
      intro j2l2 H locs ls hm bj2l2_l bj2l2_u hF0 hP hD hS hl
      refine (hK0 _ _ _).mpr ?_
      have hm2 := hm
      obtain ⟨SX2, hSX2⟩ : ∃ q9, Sf_X0_isSeenMinute_2_1 a1.toInt a0_9.toInt (fl_A fa0_13) j2l2.toInt = q9 := ⟨_, rfl⟩
      have hF1 := hSX2.symm.trans (Sf_X0_isSeenMinute_2_1.eq_1 a1.toInt a0_9.toInt (fl_A fa0_13) j2l2.toInt)
      refine lv_iload_n hx hb dX0_isSeenMinute_2 rfl (lv_at hl 2 rfl) ?_
      refine lv_aload_n hx hb dX0_isSeenMinute_3 rfl (lv_at hl 0 rfl) ?_
      refine va_get (D := (dC, dI)) (ci := 0) (v := .int a0_9) (C := RX0) (T := TX0) (N := 15) hx hb hts zi_X0_isSeenMinute_0 hown hK hP 0 rfl rfl 9 (by decide) (hts (.fieldLink RX0 42 "WaxTurns$Hall" "seenCount" "I") (List.mem_cons_of_mem _ (List.mem_append_left _ (List.mem_of_getElem? (i := 0) rfl)))) (fun _ h9 => h9) rfl dX0_isSeenMinute_4 ?_
      refine lv_icmp_ge (tgt := 28) hx hb dX0_isSeenMinute_7 (by decide) (fun c7 => ?_) (fun c7 => ?_)
      · have gc7 := ai_le c7
        have u7t_a0_9 : a0_9.toInt ≤ (6 : Int) := ba0_9_u
        have l7t_j2l2 : (0 : Int) ≤ j2l2.toInt := bj2l2_l
        have hF1 := hF1.trans (if_pos (show a0_9.toInt ≤ j2l2.toInt from gc7))
        have hF0 := hF0.trans (fl_wh_r (hSX2.trans hF1))
        refine lv_iconst (v := 0) hx hb dX0_isSeenMinute_28 zk_iconst_0 ?_
        have hFe : FX = 0 := hF0
        exact W.zret (v := 0) hx hb hr rfl (fun t ht hW => ⟨⟨0, (), rfl, ⟨(Or.inr (rfl)), hFe.symm⟩, by rw [ht]; exact hP, va_K.moved hW.alike hK, hD⟩, hS.F ht⟩) hS.2.2 dX0_isSeenMinute_29
      · have gc7 := ai_nle c7
        have u7f_j2l2 : j2l2.toInt ≤ (5 : Int) := ai_lthi gc7 ba0_9_u
        have l7f_a0_9 : (1 : Int) ≤ a0_9.toInt := ai_ltlo gc7 bj2l2_l
        have hF1 := hF1.trans (if_neg (show ¬ (a0_9.toInt ≤ j2l2.toInt) from Int.not_le.mpr gc7))
        refine lv_aload_n hx hb dX0_isSeenMinute_10 rfl (lv_at hl 0 rfl) ?_
        refine va_get (D := (dC, dI)) (ci := 0) (v := .ref a0_13) (C := RX0) (T := TX0) (N := 15) hx hb hts zi_X0_isSeenMinute_0 hown hK hP 0 rfl rfl 13 (by decide) (hts (.fieldLink RX0 21 "WaxTurns$Hall" "seenMinutes" "[I") (List.mem_cons_of_mem _ (List.mem_append_left _ (List.mem_of_getElem? (i := 1) rfl)))) (fun _ h9 => h9) rfl dX0_isSeenMinute_11 ?_
        refine lv_iload_n hx hb dX0_isSeenMinute_14 rfl (lv_at hl 2 rfl) ?_
        refine va_iald hx hb hK hP 1 0 rfl rfl (ai_in bj2l2_l u7f_j2l2 (by decide) (by decide)) dX0_isSeenMinute_15 ?_
        refine lv_topi (fun x15 ex15 => ?_)
        have bx15 : (0 : Int) ≤ x15.toInt ∧ x15.toInt ≤ 999 := by rw [ex15]; exact bfa0_13 _
        have fqx15 := congrArg Int32.toInt ex15
        have hF1 := hF1.trans (fl_lt_eq (show x15.toInt = (fl_A fa0_13) (j2l2.toInt.toNat) from fqx15))
        refine lv_iload_n hx hb dX0_isSeenMinute_16 rfl (lv_at hl 1 rfl) ?_
        refine lv_icmp_ne (tgt := 22) hx hb dX0_isSeenMinute_17 (by decide) (fun c17 => ?_) (fun c17 => ?_)
        · have gc17 := ai_ne c17
          have hF1 := hF1.trans (if_neg (show ¬ (x15.toInt = a1.toInt) from  gc17))
          obtain ⟨x22, ex22⟩ : ∃ y : Int32, y = j2l2 + Int32.ofInt 1 := ⟨_, rfl⟩
          have qx22 : x22.toInt = j2l2.toInt + 1 := ai_inc ex22 (by decide) (by decide) u7f_j2l2 (by decide)
          have bx22 : (1 : Int) ≤ x22.toInt ∧ x22.toInt ≤ 6 := ⟨by rw [qx22]; exact Int.add_le_add bj2l2_l (Int.le_refl _), by rw [qx22]; exact Int.add_le_add u7f_j2l2 (Int.le_refl _)⟩
          refine lv_iinc (v := x22) (lv' := [(2, .int x22), (0, .ref a0), (1, .int a1)]) hx hb dX0_isSeenMinute_22 hl (k := 2) rfl ex22.symm (by decide) rfl (fun ls hl => ?_)
          have hF1 := hF1.trans (fl_lt_eq (show x22.toInt = j2l2.toInt + 1 from qx22))
          refine lv_goto (tgt := 2) hx hb dX0_isSeenMinute_25 (by decide) ?_
          exact (hK0 _ _ _).mp (ih2 x22 _ _ _ (by have h0 := qx22; omega) (Int.le_trans zq4 bx22.1) bx22.2 (hF0.trans (fl_wh_l (hSX2.trans hF1))) hP hD hS (lv_sub hl [1, 2, 0] rfl))
        · have gc17 := ai_eq c17
          have u17f_a1 : a1.toInt ≤ (999 : Int) := Int.le_trans (Int.le_of_eq gc17.symm) bx15.2
          have l17f_a1 : (0 : Int) ≤ a1.toInt := Int.le_trans bx15.1 (Int.le_of_eq gc17)
          have hF1 := hF1.trans (if_pos (show x15.toInt = a1.toInt from gc17))
          have hF0 := hF0.trans (fl_wh_r (hSX2.trans hF1))
          refine lv_iconst (v := 1) hx hb dX0_isSeenMinute_20 zk_iconst_1 ?_
          have hFe : FX = 1 := hF0
          exact W.zret (v := 1) hx hb hr rfl (fun t ht hW => ⟨⟨1, (), rfl, ⟨(Or.inl ⟨rfl, l17f_a1, u17f_a1, l7f_a0_9, ba0_9_u⟩), hFe.symm⟩, by rw [ht]; exact hP, va_K.moved hW.alike hK, hD⟩, hS.F ht⟩) hS.2.2 dX0_isSeenMinute_21
  exact (hK0 _ _ _).mp (J2 7 0 _ _ _ (by have h1 : (0 : Int) ≤ (0 : Int32).toInt := zq5; have h2 : (0 : Int32).toInt ≤ (0 : Int) := zq6; omega) zq5 (Int.le_trans zq6 zq17) (by rw [show (0 : Int32).toInt = 0 from by decide]; exact hF0) hP hD hS (lv_sub hl [1, 2, 0] rfl))

set_option maxHeartbeats 4000000 in
set_option maxRecDepth 100000 in
theorem f_X3_fails (l : Launch) (dC : Nat → ClassId) (dI : Nat → Nat → Nat) (sz : Nat) (a0 : Nat) (a1 : Int32) (a0g_0 a0g_3 a0g_4 a0g_5 a0g_6 a0g_7 a0g_9 a0g_10 a0g_11 a0g_12 a0g_13 : Value) (a0_1 : Int32) (a0_2 : Int32) (a0_8 : Int32) (ba0_8_l : (0 : Int) ≤ a0_8.toInt) (ba0_8_u : a0_8.toInt ≤ (900 : Int)) : Met l yX3_fails wsX3_fails ({ frames := 0, cells := 0, slots := 0, locals := 0 }) (va_Pc [.ref a0, .int a1] (ax_C dC dI sz [(a0, .inr (3, [a0g_0, .int a0_1, .int a0_2, a0g_3, a0g_4, a0g_5, a0g_6, a0g_7, .int a0_8, a0g_9, a0g_10, a0g_11, a0g_12, a0g_13]))] [] (fun _ => True))) (va_Qi (fun (r : Int32) (_ : Unit) => (r = 0) ∧ r.toInt = (Ff_X3_fails a1.toInt a0_8.toInt).1) (fun (_ : Unit) (t : State) => ∃ na0_1 : Int32, ∃ na0_2 : Int32, ((Ff_X3_fails a1.toInt a0_8.toInt).2 = (na0_1.toInt, na0_2.toInt)) ∧ ax_B dC dI (va_A [(a0, .inr (3, [a0g_0, .int a0_1, .int a0_2, a0g_3, a0g_4, a0g_5, a0g_6, a0g_7, .int a0_8, a0g_9, a0g_10, a0g_11, a0g_12, a0g_13]))] sz) [(a0, .inr (3, [a0g_0, .int na0_1, .int na0_2, a0g_3, a0g_4, a0g_5, a0g_6, a0g_7, .int a0_8, a0g_9, a0g_10, a0g_11, a0g_12, a0g_13]))] [] t) (va_A [(a0, .inr (3, [a0g_0, .int a0_1, .int a0_2, a0g_3, a0g_4, a0g_5, a0g_6, a0g_7, .int a0_8, a0g_9, a0g_10, a0g_11, a0g_12, a0g_13]))] sz)) 0 0 (va_A [(a0, .inr (3, [a0g_0, .int a0_1, .int a0_2, a0g_3, a0g_4, a0g_5, a0g_6, a0g_7, .int a0_8, a0g_9, a0g_10, a0g_11, a0g_12, a0g_13]))] sz) := by
  refine Met.ofW (cc := cX3_fails) (maxL := 2) (ret := (some .boolean)) (by decide) rfl ?_
  intro p e s m args below meth c s₁ B hml hv
  obtain ⟨rfl, hsz, hP, hK, hD0, hE⟩ := hv
  have hx := B.exec
  have hb := B.bytes
  have hr := B.returns
  have hts := atoms_spec (ws := wsX3_fails) B.pre
  have hown : s.vm.findClass RX3 = some m.cls := findClass_of_methodNamed B.named
  have hlocks := B.notSynchronized
  subst hsz
  have hD := hD0.self (sz := s.heap.size)
  generalize hAe : va_A [(a0, .inr (3, [a0g_0, .int a0_1, .int a0_2, a0g_3, a0g_4, a0g_5, a0g_6, a0g_7, .int a0_8, a0g_9, a0g_10, a0g_11, a0g_12, a0g_13]))] s.heap.size = A at hD ⊢
  have hA : ∀ q : Nat, s.heap.size ≤ q → A q := fun q h => by rw [← hAe]; exact Or.inr h
  have hS : va_S A s.heap s.heap [] := va_S.rf
  have hP : va_P (dC, dI) vwCl [(a0, .inr (3, [a0g_0, .int a0_1, .int a0_2, a0g_3, a0g_4, a0g_5, a0g_6, a0g_7, .int a0_8, a0g_9, a0g_10, a0g_11, a0g_12, a0g_13]))] s.heap := hP
  have hl := lv_entry ([.ref a0, .int a1]) (n := 2) (Nat.le_of_ble_eq_true rfl)
  rw [lg_entry_eq]
  generalize (lg_sl ([.ref a0, .int a1]) ++ List.replicate (2 - (lg_sl ([.ref a0, .int a1])).length) Slot.unset).toArray = ls at hl ⊢
  have hl : lv_has ls 2 [(0, .ref a0), (1, .int a1)] := hl
  generalize hFX : Ff_X3_fails a1.toInt a0_8.toInt = FX at ⊢
  have hF0 := hFX.symm.trans (Ff_X3_fails.eq_1 a1.toInt a0_8.toInt)
  refine lv_aload_n hx hb dX3_fails_0 rfl (lv_at hl 0 rfl) ?_
  refine lv_iload_n hx hb dX3_fails_1 rfl (lv_at hl 1 rfl) ?_
  refine va_put (D := (dC, dI)) (ci := 3) (v := .int a1) (ty := .int) (C := RX3) (T := TX3) (N := 14) hx hb hts zi_X3_fails_3 tyX3 tyX3_ok nmX3 hown hK hP hD hS 0 rfl rfl 1 (by decide) (hts (.fieldLink RX3 45 "WaxTurns$Reade\x72" "faultNumbe\x72" "I") (List.mem_cons_of_mem _ (List.mem_append_left _ (List.mem_of_getElem? (i := 0) rfl)))) (fun _ h9 => h9) rfl (tyX3_ok 1 (by decide)) rfl rfl (Nat.le_of_ble_eq_true rfl) dX3_fails_2 (fun H locs hP hD hS => ?_)
  obtain ⟨hP, hD⟩ := zc_re (w := [(a0, .inr (3, [a0g_0, .int a1, .int a0_2, a0g_3, a0g_4, a0g_5, a0g_6, a0g_7, .int a0_8, a0g_9, a0g_10, a0g_11, a0g_12, a0g_13]))]) hP hD rfl
  refine lv_aload_n hx hb dX3_fails_5 rfl (lv_at hl 0 rfl) ?_
  refine lv_aload_n hx hb dX3_fails_6 rfl (lv_at hl 0 rfl) ?_
  refine va_get (D := (dC, dI)) (ci := 3) (v := .int a0_8) (C := RX3) (T := TX3) (N := 14) hx hb hts zi_X3_fails_3 hown hK hP 0 rfl rfl 8 (by decide) (hts (.fieldLink RX3 72 "WaxTurns$Reade\x72" "start" "I") (List.mem_cons_of_mem _ (List.mem_append_left _ (List.mem_of_getElem? (i := 1) rfl)))) (fun _ h9 => h9) rfl dX3_fails_7 ?_
  refine va_put (D := (dC, dI)) (ci := 3) (v := .int a0_8) (ty := .int) (C := RX3) (T := TX3) (N := 14) hx hb hts zi_X3_fails_3 tyX3 tyX3_ok nmX3 hown hK hP hD hS 0 rfl rfl 2 (by decide) (hts (.fieldLink RX3 48 "WaxTurns$Reade\x72" "faultPlace" "I") (List.mem_cons_of_mem _ (List.mem_append_left _ (List.mem_of_getElem? (i := 2) rfl)))) (fun _ h9 => h9) rfl (tyX3_ok 2 (by decide)) rfl rfl (Nat.le_of_ble_eq_true rfl) dX3_fails_10 (fun H locs hP hD hS => ?_)
  obtain ⟨hP, hD⟩ := zc_re (w := [(a0, .inr (3, [a0g_0, .int a1, .int a0_8, a0g_3, a0g_4, a0g_5, a0g_6, a0g_7, .int a0_8, a0g_9, a0g_10, a0g_11, a0g_12, a0g_13]))]) hP hD rfl
  refine lv_iconst (v := 0) hx hb dX3_fails_13 zk_iconst_0 ?_
  have hFe : FX = (0, a1.toInt, a0_8.toInt) := hF0
  exact W.zret (v := 0) hx hb hr rfl (fun t ht hW => ⟨⟨0, (), rfl, ⟨rfl, (congrArg Prod.fst hFe).symm⟩, a1, a0_8, (congrArg Prod.snd hFe), by rw [ht]; exact hP, va_K.moved hW.alike hK, hD⟩, hS.F ht⟩) hS.2.2 dX3_fails_14

set_option maxHeartbeats 4000000 in
set_option maxRecDepth 100000 in
theorem f_X3_scanWord (l : Launch) (dC : Nat → ClassId) (dI : Nat → Nat → Nat) (sz : Nat) (a0 : Nat) (a0g_0 a0g_1 a0g_2 a0g_4 a0g_5 a0g_6 a0g_12 a0g_13 : Value) (a0_3 : Nat) (a0_7 : Int32) (a0_8 : Int32) (a0_9 : Int32) (a0_10 : Int32) (a0_11 : Int64) (ka0_3 : ClassId) (fa0_3 : Nat → Int32) (ba0_7_l : (0 : Int) ≤ a0_7.toInt) (ba0_7_u : a0_7.toInt ≤ (900 : Int)) (ba0_8_l : (0 : Int) ≤ a0_8.toInt) (ba0_8_u : a0_8.toInt ≤ (900 : Int)) (ba0_9_l : (0 : Int) ≤ a0_9.toInt) (ba0_9_u : a0_9.toInt ≤ (900 : Int)) (ba0_10_l : (0 : Int) ≤ a0_10.toInt) (ba0_10_u : a0_10.toInt ≤ (4 : Int)) : Met l yX3_scanWord wsX3_scanWord ({ frames := 0, cells := 0, slots := 0, locals := 0 }) (va_Pc [.ref a0] (ax_C dC dI sz [(a0, .inr (3, [a0g_0, a0g_1, a0g_2, .ref a0_3, a0g_4, a0g_5, a0g_6, .int a0_7, .int a0_8, .int a0_9, .int a0_10, .long a0_11, a0g_12, a0g_13])), (a0_3, .inl (ka0_3, 900, .inl (fa0_3)))] [(ka0_3, .byte)] (fun _ => True))) (va_Qv (fun (_ : Unit) => True) (fun (_ : Unit) (t : State) => ∃ na0_9 : Int32, ∃ na0_10 : Int32, ∃ na0_11 : Int64, ((0 : Int) ≤ na0_9.toInt ∧ na0_9.toInt ≤ 900) ∧ ((0 : Int) ≤ na0_10.toInt ∧ na0_10.toInt ≤ 4) ∧ (Ff_X3_scanWord a0_7.toInt a0_8.toInt a0_9.toInt (fl_A fa0_3) = (na0_9.toInt, na0_10.toInt, na0_11.toInt)) ∧ ax_B dC dI (va_A [(a0, .inr (3, [a0g_0, a0g_1, a0g_2, .ref a0_3, a0g_4, a0g_5, a0g_6, .int a0_7, .int a0_8, .int a0_9, .int a0_10, .long a0_11, a0g_12, a0g_13])), (a0_3, .inl (ka0_3, 900, .inl (fa0_3)))] sz) [(a0, .inr (3, [a0g_0, a0g_1, a0g_2, .ref a0_3, a0g_4, a0g_5, a0g_6, .int a0_7, .int a0_8, .int na0_9, .int na0_10, .long na0_11, a0g_12, a0g_13])), (a0_3, .inl (ka0_3, 900, .inl (fa0_3)))] [(ka0_3, .byte)] t) (va_A [(a0, .inr (3, [a0g_0, a0g_1, a0g_2, .ref a0_3, a0g_4, a0g_5, a0g_6, .int a0_7, .int a0_8, .int a0_9, .int a0_10, .long a0_11, a0g_12, a0g_13])), (a0_3, .inl (ka0_3, 900, .inl (fa0_3)))] sz)) 0 0 (va_A [(a0, .inr (3, [a0g_0, a0g_1, a0g_2, .ref a0_3, a0g_4, a0g_5, a0g_6, .int a0_7, .int a0_8, .int a0_9, .int a0_10, .long a0_11, a0g_12, a0g_13])), (a0_3, .inl (ka0_3, 900, .inl (fa0_3)))] sz) := by
  refine Met.ofW (cc := cX3_scanWord) (maxL := 1) (ret := none) (by decide) rfl ?_
  intro p e s m args below meth c s₁ B hml hv
  obtain ⟨rfl, hsz, hP, hK, hD0, hE⟩ := hv
  have hx := B.exec
  have hb := B.bytes
  have hr := B.returns
  have hts := atoms_spec (ws := wsX3_scanWord) B.pre
  have hown : s.vm.findClass RX3 = some m.cls := findClass_of_methodNamed B.named
  have hlocks := B.notSynchronized
  subst hsz
  have hD := hD0.self (sz := s.heap.size)
  generalize hAe : va_A [(a0, .inr (3, [a0g_0, a0g_1, a0g_2, .ref a0_3, a0g_4, a0g_5, a0g_6, .int a0_7, .int a0_8, .int a0_9, .int a0_10, .long a0_11, a0g_12, a0g_13])), (a0_3, .inl (ka0_3, 900, .inl (fa0_3)))] s.heap.size = A at hD ⊢
  have hA : ∀ q : Nat, s.heap.size ≤ q → A q := fun q h => by rw [← hAe]; exact Or.inr h
  have hS : va_S A s.heap s.heap [] := va_S.rf
  have hP : va_P (dC, dI) vwCl [(a0, .inr (3, [a0g_0, a0g_1, a0g_2, .ref a0_3, a0g_4, a0g_5, a0g_6, .int a0_7, .int a0_8, .int a0_9, .int a0_10, .long a0_11, a0g_12, a0g_13])), (a0_3, .inl (ka0_3, 900, .inl (fa0_3)))] s.heap := hP
  have hl := lv_entry ([.ref a0]) (n := 1) (Nat.le_of_ble_eq_true rfl)
  rw [lg_entry_eq]
  generalize (lg_sl ([.ref a0]) ++ List.replicate (1 - (lg_sl ([.ref a0])).length) Slot.unset).toArray = ls at hl ⊢
  have hl : lv_has ls 1 [(0, .ref a0)] := hl
  generalize hFX : Ff_X3_scanWord a0_7.toInt a0_8.toInt a0_9.toInt (fl_A fa0_3) = FX at ⊢
  have hF0 := hFX.symm.trans (Ff_X3_scanWord.eq_1 a0_7.toInt a0_8.toInt a0_9.toInt (fl_A fa0_3))
  refine ai_open (fun K hK0 => ?_)
  refine (hK0 _ _ _).mpr ?_
  refine lv_aload_n hx hb dX3_scanWord_0 rfl (lv_at hl 0 rfl) ?_
  refine lv_lconst (v := 0) hx hb dX3_scanWord_1 (by decide) ?_
  refine va_put (D := (dC, dI)) (ci := 3) (v := .long 0) (ty := .long) (C := RX3) (T := TX3) (N := 14) hx hb hts zi_X3_scanWord_3 tyX3 tyX3_ok nmX3 hown hK hP hD hS 0 rfl rfl 11 (by decide) (hts (.fieldLink RX3 81 "WaxTurns$Reade\x72" "word" "J") (List.mem_cons_of_mem _ (List.mem_append_left _ (List.mem_of_getElem? (i := 0) rfl)))) (fun _ h9 => h9) rfl (tyX3_ok 11 (by decide)) rfl rfl (Nat.le_of_ble_eq_true rfl) dX3_scanWord_2 (fun H locs hP hD hS => ?_)
  obtain ⟨hP, hD⟩ := zc_re (w := [(a0, .inr (3, [a0g_0, a0g_1, a0g_2, .ref a0_3, a0g_4, a0g_5, a0g_6, .int a0_7, .int a0_8, .int a0_9, .int a0_10, .long 0, a0g_12, a0g_13])), (a0_3, .inl (ka0_3, 900, .inl (fa0_3)))]) hP hD rfl
  have J5 : ∀ (n : Nat) (j5a0_9 : Int32) (j5a0_11 : Int64) (H : Heap) (locs : List Loc) (ls : Array Slot), (901 : Int) - j5a0_9.toInt ≤ (n : Int) → (0 : Int) ≤ j5a0_9.toInt → j5a0_9.toInt ≤ (900 : Int) → (FX = fl_wh (fun t9 => Sf_X3_scanWord_5_1 a0_7.toInt a0_8.toInt (fl_A fa0_3) t9.1 t9.2) (0, 0, 0) n (j5a0_9.toInt, j5a0_11.toInt)) → va_P (dC, dI) vwCl [(a0, .inr (3, [a0g_0, a0g_1, a0g_2, .ref a0_3, a0g_4, a0g_5, a0g_6, .int a0_7, .int a0_8, .int j5a0_9, .int a0_10, .long j5a0_11, a0g_12, a0g_13])), (a0_3, .inl (ka0_3, 900, .inl (fa0_3)))] H → va_D A [(a0, .inr (3, [a0g_0, a0g_1, a0g_2, .ref a0_3, a0g_4, a0g_5, a0g_6, .int a0_7, .int a0_8, .int j5a0_9, .int a0_10, .long j5a0_11, a0g_12, a0g_13])), (a0_3, .inl (ka0_3, 900, .inl (fa0_3)))] → va_S A s.heap H locs → lv_has ls 1 [(0, .ref a0)] → K H locs (F0 m 5 ls []) := by
    intro n
    induction n with
    | zero =>
      intro j5a0_9 j5a0_11 H locs ls hm bj5a0_9_l bj5a0_9_u hF0 hP hD hS hl
      have h8 := ai_min j5a0_9
      have h9 := ai_max j5a0_9
      exact absurd hm (by omega)
    | succ n ih5 =>
      intro j5a0_9 j5a0_11 H locs ls hm bj5a0_9_l bj5a0_9_u hF0 hP hD hS hl
      refine (hK0 _ _ _).mpr ?_
      have hm5 := hm
      obtain ⟨SX5, hSX5⟩ : ∃ q9, Sf_X3_scanWord_5_1 a0_7.toInt a0_8.toInt (fl_A fa0_3) j5a0_9.toInt j5a0_11.toInt = q9 := ⟨_, rfl⟩
      have hF1 := hSX5.symm.trans (Sf_X3_scanWord_5_1.eq_1 a0_7.toInt a0_8.toInt (fl_A fa0_3) j5a0_9.toInt j5a0_11.toInt)
      refine lv_aload_n hx hb dX3_scanWord_5 rfl (lv_at hl 0 rfl) ?_
      refine va_get (D := (dC, dI)) (ci := 3) (v := .int j5a0_9) (C := RX3) (T := TX3) (N := 14) hx hb hts zi_X3_scanWord_3 hown hK hP 0 rfl rfl 9 (by decide) (hts (.fieldLink RX3 51 "WaxTurns$Reade\x72" "behind" "I") (List.mem_cons_of_mem _ (List.mem_append_left _ (List.mem_of_getElem? (i := 1) rfl)))) (fun _ h9 => h9) rfl dX3_scanWord_6 ?_
      refine lv_aload_n hx hb dX3_scanWord_9 rfl (lv_at hl 0 rfl) ?_
      refine va_get (D := (dC, dI)) (ci := 3) (v := .int a0_7) (C := RX3) (T := TX3) (N := 14) hx hb hts zi_X3_scanWord_3 hown hK hP 0 rfl rfl 7 (by decide) (hts (.fieldLink RX3 36 "WaxTurns$Reade\x72" "end" "I") (List.mem_cons_of_mem _ (List.mem_append_left _ (List.mem_of_getElem? (i := 2) rfl)))) (fun _ h9 => h9) rfl dX3_scanWord_10 ?_
      have J79 : ∀ (H : Heap) (locs : List Loc) (ls : Array Slot), (FX = Gf_X3_scanWord_79_1 a0_8.toInt j5a0_9.toInt j5a0_11.toInt) → va_P (dC, dI) vwCl [(a0, .inr (3, [a0g_0, a0g_1, a0g_2, .ref a0_3, a0g_4, a0g_5, a0g_6, .int a0_7, .int a0_8, .int j5a0_9, .int a0_10, .long j5a0_11, a0g_12, a0g_13])), (a0_3, .inl (ka0_3, 900, .inl (fa0_3)))] H → va_D A [(a0, .inr (3, [a0g_0, a0g_1, a0g_2, .ref a0_3, a0g_4, a0g_5, a0g_6, .int a0_7, .int a0_8, .int j5a0_9, .int a0_10, .long j5a0_11, a0g_12, a0g_13])), (a0_3, .inl (ka0_3, 900, .inl (fa0_3)))] → va_S A s.heap H locs → lv_has ls 1 [(0, .ref a0)] → K H locs (F0 m 79 ls []) := by
        intro  H locs ls  hF0 hP hD hS hl
        refine (hK0 _ _ _).mpr ?_
        have hF0 := hF0.trans (Gf_X3_scanWord_79_1.eq_1 a0_8.toInt j5a0_9.toInt j5a0_11.toInt)
        refine lv_aload_n hx hb dX3_scanWord_79 rfl (lv_at hl 0 rfl) ?_
        refine lv_aload_n hx hb dX3_scanWord_80 rfl (lv_at hl 0 rfl) ?_
        refine va_get (D := (dC, dI)) (ci := 3) (v := .int j5a0_9) (C := RX3) (T := TX3) (N := 14) hx hb hts zi_X3_scanWord_3 hown hK hP 0 rfl rfl 9 (by decide) (hts (.fieldLink RX3 51 "WaxTurns$Reade\x72" "behind" "I") (List.mem_cons_of_mem _ (List.mem_append_left _ (List.mem_of_getElem? (i := 1) rfl)))) (fun _ h9 => h9) rfl dX3_scanWord_81 ?_
        refine lv_aload_n hx hb dX3_scanWord_84 rfl (lv_at hl 0 rfl) ?_
        refine va_get (D := (dC, dI)) (ci := 3) (v := .int a0_8) (C := RX3) (T := TX3) (N := 14) hx hb hts zi_X3_scanWord_3 hown hK hP 0 rfl rfl 8 (by decide) (hts (.fieldLink RX3 72 "WaxTurns$Reade\x72" "start" "I") (List.mem_cons_of_mem _ (List.mem_append_left _ (List.mem_of_getElem? (i := 4) rfl)))) (fun _ h9 => h9) rfl dX3_scanWord_85 ?_
        refine lv_isub hx hb dX3_scanWord_88 ?_
        refine lv_topi (fun x88 ex88 => ?_)
        have qx88 : x88.toInt = j5a0_9.toInt - a0_8.toInt := ai_sub ex88 ⟨bj5a0_9_l, bj5a0_9_u⟩ ⟨ba0_8_l, ba0_8_u⟩ (by decide) (by decide)
        have bx88 : (-900 : Int) ≤ x88.toInt ∧ x88.toInt ≤ 900 := ⟨by rw [qx88]; exact Int.sub_le_sub bj5a0_9_l ba0_8_u, by rw [qx88]; exact Int.sub_le_sub bj5a0_9_u ba0_8_l⟩
        have hF0 := hF0.trans (fl_lt_eq (show x88.toInt = j5a0_9.toInt - a0_8.toInt from qx88))
        refine lv_bipush (v := 8) hx hb dX3_scanWord_89 zk_bipush_8 ?_
        have J99 : ∀ (j99s0 : Int32) (H : Heap) (locs : List Loc) (ls : Array Slot), (1 : Int) ≤ j99s0.toInt → j99s0.toInt ≤ (4 : Int) → (FX = Gf_X3_scanWord_99_1 j5a0_9.toInt j5a0_11.toInt j99s0.toInt) → va_P (dC, dI) vwCl [(a0, .inr (3, [a0g_0, a0g_1, a0g_2, .ref a0_3, a0g_4, a0g_5, a0g_6, .int a0_7, .int a0_8, .int j5a0_9, .int a0_10, .long j5a0_11, a0g_12, a0g_13])), (a0_3, .inl (ka0_3, 900, .inl (fa0_3)))] H → va_D A [(a0, .inr (3, [a0g_0, a0g_1, a0g_2, .ref a0_3, a0g_4, a0g_5, a0g_6, .int a0_7, .int a0_8, .int j5a0_9, .int a0_10, .long j5a0_11, a0g_12, a0g_13])), (a0_3, .inl (ka0_3, 900, .inl (fa0_3)))] → va_S A s.heap H locs → lv_has ls 1 [] → K H locs (F0 m 99 ls [.int j99s0, .ref a0]) := by
          intro j99s0 H locs ls  bj99s0_l bj99s0_u hF0 hP hD hS hl
          refine (hK0 _ _ _).mpr ?_
          have hF0 := hF0.trans (Gf_X3_scanWord_99_1.eq_1 j5a0_9.toInt j5a0_11.toInt j99s0.toInt)
          refine va_put (D := (dC, dI)) (ci := 3) (v := .int j99s0) (ty := .int) (C := RX3) (T := TX3) (N := 14) hx hb hts zi_X3_scanWord_3 tyX3 tyX3_ok nmX3 hown hK hP hD hS 0 rfl rfl 10 (by decide) (hts (.fieldLink RX3 61 "WaxTurns$Reade\x72" "token" "I") (List.mem_cons_of_mem _ (List.mem_append_left _ (List.mem_of_getElem? (i := 5) rfl)))) (fun _ h9 => h9) rfl (tyX3_ok 10 (by decide)) rfl rfl (Nat.le_of_ble_eq_true rfl) dX3_scanWord_99 (fun H locs hP hD hS => ?_)
          obtain ⟨hP, hD⟩ := zc_re (w := [(a0, .inr (3, [a0g_0, a0g_1, a0g_2, .ref a0_3, a0g_4, a0g_5, a0g_6, .int a0_7, .int a0_8, .int j5a0_9, .int j99s0, .long j5a0_11, a0g_12, a0g_13])), (a0_3, .inl (ka0_3, 900, .inl (fa0_3)))]) hP hD rfl
          have hFe : FX = (j5a0_9.toInt, j99s0.toInt, j5a0_11.toInt) := hF0
          exact W.vret hx hb hr (fun t ht hW => ⟨⟨(), rfl, trivial, j5a0_9, j99s0, j5a0_11, ⟨bj5a0_9_l, bj5a0_9_u⟩, ⟨Int.le_trans (by decide) bj99s0_l, bj99s0_u⟩, hFe, by rw [ht]; exact hP, va_K.moved hW.alike hK, hD⟩, hS.F ht⟩) hS.2.2 dX3_scanWord_102
        refine lv_icmp_gt (tgt := 98) hx hb dX3_scanWord_91 (by decide) (fun c91 => ?_) (fun c91 => ?_)
        · have gc91 := ai_lt c91
          have l91t_x88 : (9 : Int) ≤ x88.toInt := ai_ltlo gc91 zq116
          have hF0 := hF0.trans (if_pos (show 8 < x88.toInt from gc91))
          refine lv_iconst (v := 4) hx hb dX3_scanWord_98 zk_iconst_4 ?_
          exact (hK0 _ _ _).mp (J99 4 _ _ _  (Int.le_trans zq135 zq68) zq67 (by rw [show (4 : Int32).toInt = 4 from by decide]; exact hF0) hP hD hS (lv_sub hl [] rfl))
        · have gc91 := ai_nlt c91
          have u91f_x88 : x88.toInt ≤ (8 : Int) := Int.le_trans gc91 zq28
          have hF0 := hF0.trans (if_neg (show ¬ (8 < x88.toInt) from Int.not_lt.mpr gc91))
          refine lv_iconst (v := 1) hx hb dX3_scanWord_94 zk_iconst_1 ?_
          refine lv_goto (tgt := 99) hx hb dX3_scanWord_95 (by decide) ?_
          exact (hK0 _ _ _).mp (J99 1 _ _ _  zq1 (Int.le_trans zq0 zq135) (by rw [show (1 : Int32).toInt = 1 from by decide]; exact hF0) hP hD hS (lv_sub hl [] rfl))
      refine lv_icmp_ge (tgt := 79) hx hb dX3_scanWord_13 (by decide) (fun c13 => ?_) (fun c13 => ?_)
      · have gc13 := ai_le c13
        have u13t_a0_7 : a0_7.toInt ≤ (900 : Int) := ba0_7_u
        have l13t_j5a0_9 : (0 : Int) ≤ j5a0_9.toInt := bj5a0_9_l
        have hF1 := hF1.trans (if_pos (show a0_7.toInt ≤ j5a0_9.toInt from gc13))
        have hF0 := hF0.trans (fl_wh_r (hSX5.trans hF1))
        exact (hK0 _ _ _).mp (J79  _ _ _   hF0 hP hD hS (lv_sub hl [0] rfl))
      · have gc13 := ai_nle c13
        have u13f_j5a0_9 : j5a0_9.toInt ≤ (899 : Int) := ai_lthi gc13 ba0_7_u
        have l13f_a0_7 : (1 : Int) ≤ a0_7.toInt := ai_ltlo gc13 bj5a0_9_l
        have hF1 := hF1.trans (if_neg (show ¬ (a0_7.toInt ≤ j5a0_9.toInt) from Int.not_le.mpr gc13))
        refine lv_aload_n hx hb dX3_scanWord_16 rfl (lv_at hl 0 rfl) ?_
        refine va_get (D := (dC, dI)) (ci := 3) (v := .ref a0_3) (C := RX3) (T := TX3) (N := 14) hx hb hts zi_X3_scanWord_3 hown hK hP 0 rfl rfl 3 (by decide) (hts (.fieldLink RX3 9 "WaxTurns$Reade\x72" "tape" "[B") (List.mem_cons_of_mem _ (List.mem_append_left _ (List.mem_of_getElem? (i := 3) rfl)))) (fun _ h9 => h9) rfl dX3_scanWord_17 ?_
        refine lv_aload_n hx hb dX3_scanWord_20 rfl (lv_at hl 0 rfl) ?_
        refine va_get (D := (dC, dI)) (ci := 3) (v := .int j5a0_9) (C := RX3) (T := TX3) (N := 14) hx hb hts zi_X3_scanWord_3 hown hK hP 0 rfl rfl 9 (by decide) (hts (.fieldLink RX3 51 "WaxTurns$Reade\x72" "behind" "I") (List.mem_cons_of_mem _ (List.mem_append_left _ (List.mem_of_getElem? (i := 1) rfl)))) (fun _ h9 => h9) rfl dX3_scanWord_21 ?_
        refine va_bald hx hb hK hP 1 0 rfl rfl (ai_in bj5a0_9_l u13f_j5a0_9 (by decide) (by decide)) dX3_scanWord_24 ?_
        refine lv_topi (fun x24 ex24 => ?_)
        have fqx24 := congrArg Int32.toInt ex24
        have hF1 := hF1.trans (fl_lt_eq (show x24.toInt = (fl_A fa0_3) (j5a0_9.toInt.toNat) from fqx24))
        refine lv_bipush (v := 97) hx hb dX3_scanWord_25 zk_bipush_97 ?_
        refine lv_icmp_lt (tgt := 79) hx hb dX3_scanWord_27 (by decide) (fun c27 => ?_) (fun c27 => ?_)
        · have gc27 := ai_lt c27
          have u27t_x24 : x24.toInt ≤ (96 : Int) := ai_lthi gc27 zq136
          have hF1 := hF1.trans (if_pos (show x24.toInt < 97 from gc27))
          have hF0 := hF0.trans (fl_wh_r (hSX5.trans hF1))
          exact (hK0 _ _ _).mp (J79  _ _ _   hF0 hP hD hS (lv_sub hl [0] rfl))
        · have gc27 := ai_nlt c27
          have l27f_x24 : (97 : Int) ≤ x24.toInt := Int.le_trans zq137 gc27
          have hF1 := hF1.trans (if_neg (show ¬ (x24.toInt < 97) from Int.not_lt.mpr gc27))
          refine lv_aload_n hx hb dX3_scanWord_30 rfl (lv_at hl 0 rfl) ?_
          refine va_get (D := (dC, dI)) (ci := 3) (v := .ref a0_3) (C := RX3) (T := TX3) (N := 14) hx hb hts zi_X3_scanWord_3 hown hK hP 0 rfl rfl 3 (by decide) (hts (.fieldLink RX3 9 "WaxTurns$Reade\x72" "tape" "[B") (List.mem_cons_of_mem _ (List.mem_append_left _ (List.mem_of_getElem? (i := 3) rfl)))) (fun _ h9 => h9) rfl dX3_scanWord_31 ?_
          refine lv_aload_n hx hb dX3_scanWord_34 rfl (lv_at hl 0 rfl) ?_
          refine va_get (D := (dC, dI)) (ci := 3) (v := .int j5a0_9) (C := RX3) (T := TX3) (N := 14) hx hb hts zi_X3_scanWord_3 hown hK hP 0 rfl rfl 9 (by decide) (hts (.fieldLink RX3 51 "WaxTurns$Reade\x72" "behind" "I") (List.mem_cons_of_mem _ (List.mem_append_left _ (List.mem_of_getElem? (i := 1) rfl)))) (fun _ h9 => h9) rfl dX3_scanWord_35 ?_
          refine va_bald hx hb hK hP 1 0 rfl rfl (ai_in bj5a0_9_l u13f_j5a0_9 (by decide) (by decide)) dX3_scanWord_38 ?_
          refine ax_ti x24 ex24.symm ?_
          refine lv_bipush (v := 122) hx hb dX3_scanWord_39 zk_bipush_122 ?_
          refine lv_icmp_gt (tgt := 79) hx hb dX3_scanWord_41 (by decide) (fun c41 => ?_) (fun c41 => ?_)
          · have gc41 := ai_lt c41
            have l41t_x24 : (123 : Int) ≤ x24.toInt := ai_ltlo gc41 zq138
            have hF1 := hF1.trans (if_pos (show 122 < x24.toInt from gc41))
            have hF0 := hF0.trans (fl_wh_r (hSX5.trans hF1))
            exact (hK0 _ _ _).mp (J79  _ _ _   hF0 hP hD hS (lv_sub hl [0] rfl))
          · have gc41 := ai_nlt c41
            have u41f_x24 : x24.toInt ≤ (122 : Int) := Int.le_trans gc41 zq139
            have hF1 := hF1.trans (if_neg (show ¬ (122 < x24.toInt) from Int.not_lt.mpr gc41))
            refine lv_aload_n hx hb dX3_scanWord_44 rfl (lv_at hl 0 rfl) ?_
            refine lv_aload_n hx hb dX3_scanWord_45 rfl (lv_at hl 0 rfl) ?_
            refine va_get (D := (dC, dI)) (ci := 3) (v := .long j5a0_11) (C := RX3) (T := TX3) (N := 14) hx hb hts zi_X3_scanWord_3 hown hK hP 0 rfl rfl 11 (by decide) (hts (.fieldLink RX3 81 "WaxTurns$Reade\x72" "word" "J") (List.mem_cons_of_mem _ (List.mem_append_left _ (List.mem_of_getElem? (i := 0) rfl)))) (fun _ h9 => h9) rfl dX3_scanWord_46 ?_
            refine lv_bipush (v := 8) hx hb dX3_scanWord_49 zk_bipush_8 ?_
            refine lv_lshl hx hb dX3_scanWord_51 rfl ?_
            refine lv_topl (fun x51 ex51 => ?_)
            have fqx51 := fl_lshl_eq ex51
            have hF1 := hF1.trans (fl_lt_eq (show x51.toInt = fl_lshl j5a0_11.toInt 8 from fqx51))
            refine lv_aload_n hx hb dX3_scanWord_52 rfl (lv_at hl 0 rfl) ?_
            refine va_get (D := (dC, dI)) (ci := 3) (v := .ref a0_3) (C := RX3) (T := TX3) (N := 14) hx hb hts zi_X3_scanWord_3 hown hK hP 0 rfl rfl 3 (by decide) (hts (.fieldLink RX3 9 "WaxTurns$Reade\x72" "tape" "[B") (List.mem_cons_of_mem _ (List.mem_append_left _ (List.mem_of_getElem? (i := 3) rfl)))) (fun _ h9 => h9) rfl dX3_scanWord_53 ?_
            refine lv_aload_n hx hb dX3_scanWord_56 rfl (lv_at hl 0 rfl) ?_
            refine va_get (D := (dC, dI)) (ci := 3) (v := .int j5a0_9) (C := RX3) (T := TX3) (N := 14) hx hb hts zi_X3_scanWord_3 hown hK hP 0 rfl rfl 9 (by decide) (hts (.fieldLink RX3 51 "WaxTurns$Reade\x72" "behind" "I") (List.mem_cons_of_mem _ (List.mem_append_left _ (List.mem_of_getElem? (i := 1) rfl)))) (fun _ h9 => h9) rfl dX3_scanWord_57 ?_
            refine va_bald hx hb hK hP 1 0 rfl rfl (ai_in bj5a0_9_l u13f_j5a0_9 (by decide) (by decide)) dX3_scanWord_60 ?_
            refine ax_ti x24 ex24.symm ?_
            obtain ⟨x61, ex61⟩ : ∃ y : Int64, y = (x24 : Int32).toInt64 := ⟨_, rfl⟩
            refine lv_i2l (v := x61) hx hb dX3_scanWord_61 ex61.symm ?_
            have fqx61 := fl_i2l_eq ex61
            have hF1 := hF1.trans (fl_lt_eq (show x61.toInt = x24.toInt from fqx61))
            refine lv_lor hx hb dX3_scanWord_62 ?_
            refine lv_topl (fun x62 ex62 => ?_)
            have fqx62 := fl_lor_eq ex62
            have hF1 := hF1.trans (fl_lt_eq (show x62.toInt = fl_lor x51.toInt x61.toInt from fqx62))
            refine va_put (D := (dC, dI)) (ci := 3) (v := .long x62) (ty := .long) (C := RX3) (T := TX3) (N := 14) hx hb hts zi_X3_scanWord_3 tyX3 tyX3_ok nmX3 hown hK hP hD hS 0 rfl rfl 11 (by decide) (hts (.fieldLink RX3 81 "WaxTurns$Reade\x72" "word" "J") (List.mem_cons_of_mem _ (List.mem_append_left _ (List.mem_of_getElem? (i := 0) rfl)))) (fun _ h9 => h9) rfl (tyX3_ok 11 (by decide)) rfl rfl (Nat.le_of_ble_eq_true rfl) dX3_scanWord_63 (fun H locs hP hD hS => ?_)
            obtain ⟨hP, hD⟩ := zc_re (w := [(a0, .inr (3, [a0g_0, a0g_1, a0g_2, .ref a0_3, a0g_4, a0g_5, a0g_6, .int a0_7, .int a0_8, .int j5a0_9, .int a0_10, .long x62, a0g_12, a0g_13])), (a0_3, .inl (ka0_3, 900, .inl (fa0_3)))]) hP hD rfl
            refine lv_aload_n hx hb dX3_scanWord_66 rfl (lv_at hl 0 rfl) ?_
            refine lv_dup hx hb dX3_scanWord_67 rfl ?_
            refine va_get (D := (dC, dI)) (ci := 3) (v := .int j5a0_9) (C := RX3) (T := TX3) (N := 14) hx hb hts zi_X3_scanWord_3 hown hK hP 0 rfl rfl 9 (by decide) (hts (.fieldLink RX3 51 "WaxTurns$Reade\x72" "behind" "I") (List.mem_cons_of_mem _ (List.mem_append_left _ (List.mem_of_getElem? (i := 1) rfl)))) (fun _ h9 => h9) rfl dX3_scanWord_68 ?_
            refine lv_iconst (v := 1) hx hb dX3_scanWord_71 zk_iconst_1 ?_
            refine lv_iadd hx hb dX3_scanWord_72 ?_
            refine lv_topi (fun x72 ex72 => ?_)
            have qx72 : x72.toInt = j5a0_9.toInt + (1 : Int32).toInt := ai_add ex72 ⟨bj5a0_9_l, u13f_j5a0_9⟩ ⟨zq1, zq0⟩ (by decide) (by decide)
            have bx72 : (1 : Int) ≤ x72.toInt ∧ x72.toInt ≤ 900 := ⟨by rw [qx72]; exact Int.add_le_add bj5a0_9_l zq1, by rw [qx72]; exact Int.add_le_add u13f_j5a0_9 zq0⟩
            have wx72 : x72.toInt = j5a0_9.toInt + 1 := qx72
            have hF1 := hF1.trans (fl_lt_eq (show x72.toInt = j5a0_9.toInt + 1 from qx72))
            refine va_put (D := (dC, dI)) (ci := 3) (v := .int x72) (ty := .int) (C := RX3) (T := TX3) (N := 14) hx hb hts zi_X3_scanWord_3 tyX3 tyX3_ok nmX3 hown hK hP hD hS 0 rfl rfl 9 (by decide) (hts (.fieldLink RX3 51 "WaxTurns$Reade\x72" "behind" "I") (List.mem_cons_of_mem _ (List.mem_append_left _ (List.mem_of_getElem? (i := 1) rfl)))) (fun _ h9 => h9) rfl (tyX3_ok 9 (by decide)) rfl rfl (Nat.le_of_ble_eq_true rfl) dX3_scanWord_73 (fun H locs hP hD hS => ?_)
            obtain ⟨hP, hD⟩ := zc_re (w := [(a0, .inr (3, [a0g_0, a0g_1, a0g_2, .ref a0_3, a0g_4, a0g_5, a0g_6, .int a0_7, .int a0_8, .int x72, .int a0_10, .long x62, a0g_12, a0g_13])), (a0_3, .inl (ka0_3, 900, .inl (fa0_3)))]) hP hD rfl
            refine lv_goto (tgt := 5) hx hb dX3_scanWord_76 (by decide) ?_
            exact (hK0 _ _ _).mp (ih5 x72 x62 _ _ _ (by have h0 := qx72; omega) (Int.le_trans zq4 bx72.1) bx72.2 (hF0.trans (fl_wh_l (hSX5.trans hF1))) hP hD hS (lv_sub hl [0] rfl))
  exact (hK0 _ _ _).mp (J5 901 a0_9 0 _ _ _ (by have h1 : (0 : Int) ≤ a0_9.toInt := ba0_9_l; have h2 : a0_9.toInt ≤ (900 : Int) := ba0_9_u; omega) ba0_9_l ba0_9_u (by rw [show (0 : Int64).toInt = 0 from by decide]; exact hF0) hP hD hS (lv_sub hl [0] rfl))

set_option maxHeartbeats 4000000 in
set_option maxRecDepth 100000 in
theorem f_X3_scanWhole (l : Launch) (dC : Nat → ClassId) (dI : Nat → Nat → Nat) (sz : Nat) (a0 : Nat) (a0g_0 a0g_1 a0g_2 a0g_4 a0g_5 a0g_6 a0g_11 a0g_13 : Value) (a0_3 : Nat) (a0_7 : Int32) (a0_8 : Int32) (a0_9 : Int32) (a0_10 : Int32) (a0_12 : Int32) (ka0_3 : ClassId) (fa0_3 : Nat → Int32) (ba0_7_l : (0 : Int) ≤ a0_7.toInt) (ba0_7_u : a0_7.toInt ≤ (900 : Int)) (ba0_8_l : (0 : Int) ≤ a0_8.toInt) (ba0_8_u : a0_8.toInt ≤ (900 : Int)) (ba0_9_l : (0 : Int) ≤ a0_9.toInt) (ba0_9_u : a0_9.toInt ≤ (900 : Int)) (ba0_10_l : (0 : Int) ≤ a0_10.toInt) (ba0_10_u : a0_10.toInt ≤ (4 : Int)) : Met l yX3_scanWhole wsX3_scanWhole ({ frames := 0, cells := 0, slots := 0, locals := 0 }) (va_Pc [.ref a0] (ax_C dC dI sz [(a0, .inr (3, [a0g_0, a0g_1, a0g_2, .ref a0_3, a0g_4, a0g_5, a0g_6, .int a0_7, .int a0_8, .int a0_9, .int a0_10, a0g_11, .int a0_12, a0g_13])), (a0_3, .inl (ka0_3, 900, .inl (fa0_3)))] [(ka0_3, .byte)] (fun _ => True))) (va_Qv (fun (_ : Unit) => True) (fun (_ : Unit) (t : State) => ∃ na0_9 : Int32, ∃ na0_10 : Int32, ∃ na0_12 : Int32, ((0 : Int) ≤ na0_9.toInt ∧ na0_9.toInt ≤ 900) ∧ ((0 : Int) ≤ na0_10.toInt ∧ na0_10.toInt ≤ 4) ∧ (Ff_X3_scanWhole a0_7.toInt a0_8.toInt a0_9.toInt (fl_A fa0_3) = (na0_9.toInt, na0_10.toInt, na0_12.toInt)) ∧ ax_B dC dI (va_A [(a0, .inr (3, [a0g_0, a0g_1, a0g_2, .ref a0_3, a0g_4, a0g_5, a0g_6, .int a0_7, .int a0_8, .int a0_9, .int a0_10, a0g_11, .int a0_12, a0g_13])), (a0_3, .inl (ka0_3, 900, .inl (fa0_3)))] sz) [(a0, .inr (3, [a0g_0, a0g_1, a0g_2, .ref a0_3, a0g_4, a0g_5, a0g_6, .int a0_7, .int a0_8, .int na0_9, .int na0_10, a0g_11, .int na0_12, a0g_13])), (a0_3, .inl (ka0_3, 900, .inl (fa0_3)))] [(ka0_3, .byte)] t) (va_A [(a0, .inr (3, [a0g_0, a0g_1, a0g_2, .ref a0_3, a0g_4, a0g_5, a0g_6, .int a0_7, .int a0_8, .int a0_9, .int a0_10, a0g_11, .int a0_12, a0g_13])), (a0_3, .inl (ka0_3, 900, .inl (fa0_3)))] sz)) 0 0 (va_A [(a0, .inr (3, [a0g_0, a0g_1, a0g_2, .ref a0_3, a0g_4, a0g_5, a0g_6, .int a0_7, .int a0_8, .int a0_9, .int a0_10, a0g_11, .int a0_12, a0g_13])), (a0_3, .inl (ka0_3, 900, .inl (fa0_3)))] sz) := by
  refine Met.ofW (cc := cX3_scanWhole) (maxL := 1) (ret := none) (by decide) rfl ?_
  intro p e s m args below meth c s₁ B hml hv
  obtain ⟨rfl, hsz, hP, hK, hD0, hE⟩ := hv
  have hx := B.exec
  have hb := B.bytes
  have hr := B.returns
  have hts := atoms_spec (ws := wsX3_scanWhole) B.pre
  have hown : s.vm.findClass RX3 = some m.cls := findClass_of_methodNamed B.named
  have hlocks := B.notSynchronized
  subst hsz
  have hD := hD0.self (sz := s.heap.size)
  generalize hAe : va_A [(a0, .inr (3, [a0g_0, a0g_1, a0g_2, .ref a0_3, a0g_4, a0g_5, a0g_6, .int a0_7, .int a0_8, .int a0_9, .int a0_10, a0g_11, .int a0_12, a0g_13])), (a0_3, .inl (ka0_3, 900, .inl (fa0_3)))] s.heap.size = A at hD ⊢
  have hA : ∀ q : Nat, s.heap.size ≤ q → A q := fun q h => by rw [← hAe]; exact Or.inr h
  have hS : va_S A s.heap s.heap [] := va_S.rf
  have hP : va_P (dC, dI) vwCl [(a0, .inr (3, [a0g_0, a0g_1, a0g_2, .ref a0_3, a0g_4, a0g_5, a0g_6, .int a0_7, .int a0_8, .int a0_9, .int a0_10, a0g_11, .int a0_12, a0g_13])), (a0_3, .inl (ka0_3, 900, .inl (fa0_3)))] s.heap := hP
  have hl := lv_entry ([.ref a0]) (n := 1) (Nat.le_of_ble_eq_true rfl)
  rw [lg_entry_eq]
  generalize (lg_sl ([.ref a0]) ++ List.replicate (1 - (lg_sl ([.ref a0])).length) Slot.unset).toArray = ls at hl ⊢
  have hl : lv_has ls 1 [(0, .ref a0)] := hl
  generalize hFX : Ff_X3_scanWhole a0_7.toInt a0_8.toInt a0_9.toInt (fl_A fa0_3) = FX at ⊢
  have hF0 := hFX.symm.trans (Ff_X3_scanWhole.eq_1 a0_7.toInt a0_8.toInt a0_9.toInt (fl_A fa0_3))
  refine ai_open (fun K hK0 => ?_)
  refine (hK0 _ _ _).mpr ?_
  refine lv_aload_n hx hb dX3_scanWhole_0 rfl (lv_at hl 0 rfl) ?_
  refine lv_iconst (v := 0) hx hb dX3_scanWhole_1 zk_iconst_0 ?_
  refine va_put (D := (dC, dI)) (ci := 3) (v := .int 0) (ty := .int) (C := RX3) (T := TX3) (N := 14) hx hb hts zi_X3_scanWhole_3 tyX3 tyX3_ok nmX3 hown hK hP hD hS 0 rfl rfl 12 (by decide) (hts (.fieldLink RX3 85 "WaxTurns$Reade\x72" "whole" "I") (List.mem_cons_of_mem _ (List.mem_append_left _ (List.mem_of_getElem? (i := 0) rfl)))) (fun _ h9 => h9) rfl (tyX3_ok 12 (by decide)) rfl rfl (Nat.le_of_ble_eq_true rfl) dX3_scanWhole_2 (fun H locs hP hD hS => ?_)
  obtain ⟨hP, hD⟩ := zc_re (w := [(a0, .inr (3, [a0g_0, a0g_1, a0g_2, .ref a0_3, a0g_4, a0g_5, a0g_6, .int a0_7, .int a0_8, .int a0_9, .int a0_10, a0g_11, .int 0, a0g_13])), (a0_3, .inl (ka0_3, 900, .inl (fa0_3)))]) hP hD rfl
  have J5 : ∀ (n : Nat) (j5a0_9 : Int32) (j5a0_12 : Int32) (H : Heap) (locs : List Loc) (ls : Array Slot), (901 : Int) - j5a0_9.toInt ≤ (n : Int) → (0 : Int) ≤ j5a0_9.toInt → j5a0_9.toInt ≤ (900 : Int) → (FX = fl_wh (fun t9 => Sf_X3_scanWhole_5_1 a0_7.toInt a0_8.toInt (fl_A fa0_3) t9.1 t9.2) (0, 0, 0) n (j5a0_9.toInt, j5a0_12.toInt)) → va_P (dC, dI) vwCl [(a0, .inr (3, [a0g_0, a0g_1, a0g_2, .ref a0_3, a0g_4, a0g_5, a0g_6, .int a0_7, .int a0_8, .int j5a0_9, .int a0_10, a0g_11, .int j5a0_12, a0g_13])), (a0_3, .inl (ka0_3, 900, .inl (fa0_3)))] H → va_D A [(a0, .inr (3, [a0g_0, a0g_1, a0g_2, .ref a0_3, a0g_4, a0g_5, a0g_6, .int a0_7, .int a0_8, .int j5a0_9, .int a0_10, a0g_11, .int j5a0_12, a0g_13])), (a0_3, .inl (ka0_3, 900, .inl (fa0_3)))] → va_S A s.heap H locs → lv_has ls 1 [(0, .ref a0)] → K H locs (F0 m 5 ls []) := by
    intro n
    induction n with
    | zero =>
      intro j5a0_9 j5a0_12 H locs ls hm bj5a0_9_l bj5a0_9_u hF0 hP hD hS hl
      have h8 := ai_min j5a0_9
      have h9 := ai_max j5a0_9
      exact absurd hm (by omega)
    | succ n ih5 =>
      intro j5a0_9 j5a0_12 H locs ls hm bj5a0_9_l bj5a0_9_u hF0 hP hD hS hl
      refine (hK0 _ _ _).mpr ?_
      have hm5 := hm
      obtain ⟨SX5, hSX5⟩ : ∃ q9, Sf_X3_scanWhole_5_1 a0_7.toInt a0_8.toInt (fl_A fa0_3) j5a0_9.toInt j5a0_12.toInt = q9 := ⟨_, rfl⟩
      have hF1 := hSX5.symm.trans (Sf_X3_scanWhole_5_1.eq_1 a0_7.toInt a0_8.toInt (fl_A fa0_3) j5a0_9.toInt j5a0_12.toInt)
      refine lv_aload_n hx hb dX3_scanWhole_5 rfl (lv_at hl 0 rfl) ?_
      refine va_get (D := (dC, dI)) (ci := 3) (v := .int j5a0_9) (C := RX3) (T := TX3) (N := 14) hx hb hts zi_X3_scanWhole_3 hown hK hP 0 rfl rfl 9 (by decide) (hts (.fieldLink RX3 51 "WaxTurns$Reade\x72" "behind" "I") (List.mem_cons_of_mem _ (List.mem_append_left _ (List.mem_of_getElem? (i := 1) rfl)))) (fun _ h9 => h9) rfl dX3_scanWhole_6 ?_
      refine lv_aload_n hx hb dX3_scanWhole_9 rfl (lv_at hl 0 rfl) ?_
      refine va_get (D := (dC, dI)) (ci := 3) (v := .int a0_7) (C := RX3) (T := TX3) (N := 14) hx hb hts zi_X3_scanWhole_3 hown hK hP 0 rfl rfl 7 (by decide) (hts (.fieldLink RX3 36 "WaxTurns$Reade\x72" "end" "I") (List.mem_cons_of_mem _ (List.mem_append_left _ (List.mem_of_getElem? (i := 2) rfl)))) (fun _ h9 => h9) rfl dX3_scanWhole_10 ?_
      have J81 : ∀ (H : Heap) (locs : List Loc) (ls : Array Slot), (FX = Gf_X3_scanWhole_81_1 a0_8.toInt j5a0_9.toInt j5a0_12.toInt) → va_P (dC, dI) vwCl [(a0, .inr (3, [a0g_0, a0g_1, a0g_2, .ref a0_3, a0g_4, a0g_5, a0g_6, .int a0_7, .int a0_8, .int j5a0_9, .int a0_10, a0g_11, .int j5a0_12, a0g_13])), (a0_3, .inl (ka0_3, 900, .inl (fa0_3)))] H → va_D A [(a0, .inr (3, [a0g_0, a0g_1, a0g_2, .ref a0_3, a0g_4, a0g_5, a0g_6, .int a0_7, .int a0_8, .int j5a0_9, .int a0_10, a0g_11, .int j5a0_12, a0g_13])), (a0_3, .inl (ka0_3, 900, .inl (fa0_3)))] → va_S A s.heap H locs → lv_has ls 1 [(0, .ref a0)] → K H locs (F0 m 81 ls []) := by
        intro  H locs ls  hF0 hP hD hS hl
        refine (hK0 _ _ _).mpr ?_
        have hF0 := hF0.trans (Gf_X3_scanWhole_81_1.eq_1 a0_8.toInt j5a0_9.toInt j5a0_12.toInt)
        refine lv_aload_n hx hb dX3_scanWhole_81 rfl (lv_at hl 0 rfl) ?_
        refine lv_aload_n hx hb dX3_scanWhole_82 rfl (lv_at hl 0 rfl) ?_
        refine va_get (D := (dC, dI)) (ci := 3) (v := .int j5a0_9) (C := RX3) (T := TX3) (N := 14) hx hb hts zi_X3_scanWhole_3 hown hK hP 0 rfl rfl 9 (by decide) (hts (.fieldLink RX3 51 "WaxTurns$Reade\x72" "behind" "I") (List.mem_cons_of_mem _ (List.mem_append_left _ (List.mem_of_getElem? (i := 1) rfl)))) (fun _ h9 => h9) rfl dX3_scanWhole_83 ?_
        refine lv_aload_n hx hb dX3_scanWhole_86 rfl (lv_at hl 0 rfl) ?_
        refine va_get (D := (dC, dI)) (ci := 3) (v := .int a0_8) (C := RX3) (T := TX3) (N := 14) hx hb hts zi_X3_scanWhole_3 hown hK hP 0 rfl rfl 8 (by decide) (hts (.fieldLink RX3 72 "WaxTurns$Reade\x72" "start" "I") (List.mem_cons_of_mem _ (List.mem_append_left _ (List.mem_of_getElem? (i := 4) rfl)))) (fun _ h9 => h9) rfl dX3_scanWhole_87 ?_
        refine lv_isub hx hb dX3_scanWhole_90 ?_
        refine lv_topi (fun x90 ex90 => ?_)
        have qx90 : x90.toInt = j5a0_9.toInt - a0_8.toInt := ai_sub ex90 ⟨bj5a0_9_l, bj5a0_9_u⟩ ⟨ba0_8_l, ba0_8_u⟩ (by decide) (by decide)
        have bx90 : (-900 : Int) ≤ x90.toInt ∧ x90.toInt ≤ 900 := ⟨by rw [qx90]; exact Int.sub_le_sub bj5a0_9_l ba0_8_u, by rw [qx90]; exact Int.sub_le_sub bj5a0_9_u ba0_8_l⟩
        have hF0 := hF0.trans (fl_lt_eq (show x90.toInt = j5a0_9.toInt - a0_8.toInt from qx90))
        refine lv_iconst (v := 3) hx hb dX3_scanWhole_91 zk_iconst_3 ?_
        have J100 : ∀ (j100s0 : Int32) (H : Heap) (locs : List Loc) (ls : Array Slot), (2 : Int) ≤ j100s0.toInt → j100s0.toInt ≤ (4 : Int) → (FX = Gf_X3_scanWhole_100_1 j5a0_9.toInt j5a0_12.toInt j100s0.toInt) → va_P (dC, dI) vwCl [(a0, .inr (3, [a0g_0, a0g_1, a0g_2, .ref a0_3, a0g_4, a0g_5, a0g_6, .int a0_7, .int a0_8, .int j5a0_9, .int a0_10, a0g_11, .int j5a0_12, a0g_13])), (a0_3, .inl (ka0_3, 900, .inl (fa0_3)))] H → va_D A [(a0, .inr (3, [a0g_0, a0g_1, a0g_2, .ref a0_3, a0g_4, a0g_5, a0g_6, .int a0_7, .int a0_8, .int j5a0_9, .int a0_10, a0g_11, .int j5a0_12, a0g_13])), (a0_3, .inl (ka0_3, 900, .inl (fa0_3)))] → va_S A s.heap H locs → lv_has ls 1 [] → K H locs (F0 m 100 ls [.int j100s0, .ref a0]) := by
          intro j100s0 H locs ls  bj100s0_l bj100s0_u hF0 hP hD hS hl
          refine (hK0 _ _ _).mpr ?_
          have hF0 := hF0.trans (Gf_X3_scanWhole_100_1.eq_1 j5a0_9.toInt j5a0_12.toInt j100s0.toInt)
          refine va_put (D := (dC, dI)) (ci := 3) (v := .int j100s0) (ty := .int) (C := RX3) (T := TX3) (N := 14) hx hb hts zi_X3_scanWhole_3 tyX3 tyX3_ok nmX3 hown hK hP hD hS 0 rfl rfl 10 (by decide) (hts (.fieldLink RX3 61 "WaxTurns$Reade\x72" "token" "I") (List.mem_cons_of_mem _ (List.mem_append_left _ (List.mem_of_getElem? (i := 5) rfl)))) (fun _ h9 => h9) rfl (tyX3_ok 10 (by decide)) rfl rfl (Nat.le_of_ble_eq_true rfl) dX3_scanWhole_100 (fun H locs hP hD hS => ?_)
          obtain ⟨hP, hD⟩ := zc_re (w := [(a0, .inr (3, [a0g_0, a0g_1, a0g_2, .ref a0_3, a0g_4, a0g_5, a0g_6, .int a0_7, .int a0_8, .int j5a0_9, .int j100s0, a0g_11, .int j5a0_12, a0g_13])), (a0_3, .inl (ka0_3, 900, .inl (fa0_3)))]) hP hD rfl
          have hFe : FX = (j5a0_9.toInt, j100s0.toInt, j5a0_12.toInt) := hF0
          exact W.vret hx hb hr (fun t ht hW => ⟨⟨(), rfl, trivial, j5a0_9, j100s0, j5a0_12, ⟨bj5a0_9_l, bj5a0_9_u⟩, ⟨Int.le_trans (by decide) bj100s0_l, bj100s0_u⟩, hFe, by rw [ht]; exact hP, va_K.moved hW.alike hK, hD⟩, hS.F ht⟩) hS.2.2 dX3_scanWhole_103
        refine lv_icmp_gt (tgt := 99) hx hb dX3_scanWhole_92 (by decide) (fun c92 => ?_) (fun c92 => ?_)
        · have gc92 := ai_lt c92
          have l92t_x90 : (4 : Int) ≤ x90.toInt := ai_ltlo gc92 zq8
          have hF0 := hF0.trans (if_pos (show 3 < x90.toInt from gc92))
          refine lv_iconst (v := 4) hx hb dX3_scanWhole_99 zk_iconst_4 ?_
          exact (hK0 _ _ _).mp (J100 4 _ _ _  (Int.le_trans zq140 zq68) zq67 (by rw [show (4 : Int32).toInt = 4 from by decide]; exact hF0) hP hD hS (lv_sub hl [] rfl))
        · have gc92 := ai_nlt c92
          have u92f_x90 : x90.toInt ≤ (3 : Int) := Int.le_trans gc92 zq9
          have hF0 := hF0.trans (if_neg (show ¬ (3 < x90.toInt) from Int.not_lt.mpr gc92))
          refine lv_iconst (v := 2) hx hb dX3_scanWhole_95 zk_iconst_2 ?_
          refine lv_goto (tgt := 100) hx hb dX3_scanWhole_96 (by decide) ?_
          exact (hK0 _ _ _).mp (J100 2 _ _ _  zq12 (Int.le_trans zq13 zq140) (by rw [show (2 : Int32).toInt = 2 from by decide]; exact hF0) hP hD hS (lv_sub hl [] rfl))
      refine lv_icmp_ge (tgt := 81) hx hb dX3_scanWhole_13 (by decide) (fun c13 => ?_) (fun c13 => ?_)
      · have gc13 := ai_le c13
        have u13t_a0_7 : a0_7.toInt ≤ (900 : Int) := ba0_7_u
        have l13t_j5a0_9 : (0 : Int) ≤ j5a0_9.toInt := bj5a0_9_l
        have hF1 := hF1.trans (if_pos (show a0_7.toInt ≤ j5a0_9.toInt from gc13))
        have hF0 := hF0.trans (fl_wh_r (hSX5.trans hF1))
        exact (hK0 _ _ _).mp (J81  _ _ _   hF0 hP hD hS (lv_sub hl [0] rfl))
      · have gc13 := ai_nle c13
        have u13f_j5a0_9 : j5a0_9.toInt ≤ (899 : Int) := ai_lthi gc13 ba0_7_u
        have l13f_a0_7 : (1 : Int) ≤ a0_7.toInt := ai_ltlo gc13 bj5a0_9_l
        have hF1 := hF1.trans (if_neg (show ¬ (a0_7.toInt ≤ j5a0_9.toInt) from Int.not_le.mpr gc13))
        refine lv_aload_n hx hb dX3_scanWhole_16 rfl (lv_at hl 0 rfl) ?_
        refine va_get (D := (dC, dI)) (ci := 3) (v := .ref a0_3) (C := RX3) (T := TX3) (N := 14) hx hb hts zi_X3_scanWhole_3 hown hK hP 0 rfl rfl 3 (by decide) (hts (.fieldLink RX3 9 "WaxTurns$Reade\x72" "tape" "[B") (List.mem_cons_of_mem _ (List.mem_append_left _ (List.mem_of_getElem? (i := 3) rfl)))) (fun _ h9 => h9) rfl dX3_scanWhole_17 ?_
        refine lv_aload_n hx hb dX3_scanWhole_20 rfl (lv_at hl 0 rfl) ?_
        refine va_get (D := (dC, dI)) (ci := 3) (v := .int j5a0_9) (C := RX3) (T := TX3) (N := 14) hx hb hts zi_X3_scanWhole_3 hown hK hP 0 rfl rfl 9 (by decide) (hts (.fieldLink RX3 51 "WaxTurns$Reade\x72" "behind" "I") (List.mem_cons_of_mem _ (List.mem_append_left _ (List.mem_of_getElem? (i := 1) rfl)))) (fun _ h9 => h9) rfl dX3_scanWhole_21 ?_
        refine va_bald hx hb hK hP 1 0 rfl rfl (ai_in bj5a0_9_l u13f_j5a0_9 (by decide) (by decide)) dX3_scanWhole_24 ?_
        refine lv_topi (fun x24 ex24 => ?_)
        have fqx24 := congrArg Int32.toInt ex24
        have hF1 := hF1.trans (fl_lt_eq (show x24.toInt = (fl_A fa0_3) (j5a0_9.toInt.toNat) from fqx24))
        refine lv_bipush (v := 48) hx hb dX3_scanWhole_25 zk_bipush_48 ?_
        refine lv_icmp_lt (tgt := 81) hx hb dX3_scanWhole_27 (by decide) (fun c27 => ?_) (fun c27 => ?_)
        · have gc27 := ai_lt c27
          have u27t_x24 : x24.toInt ≤ (47 : Int) := ai_lthi gc27 zq141
          have hF1 := hF1.trans (if_pos (show x24.toInt < 48 from gc27))
          have hF0 := hF0.trans (fl_wh_r (hSX5.trans hF1))
          exact (hK0 _ _ _).mp (J81  _ _ _   hF0 hP hD hS (lv_sub hl [0] rfl))
        · have gc27 := ai_nlt c27
          have l27f_x24 : (48 : Int) ≤ x24.toInt := Int.le_trans zq142 gc27
          have hF1 := hF1.trans (if_neg (show ¬ (x24.toInt < 48) from Int.not_lt.mpr gc27))
          refine lv_aload_n hx hb dX3_scanWhole_30 rfl (lv_at hl 0 rfl) ?_
          refine va_get (D := (dC, dI)) (ci := 3) (v := .ref a0_3) (C := RX3) (T := TX3) (N := 14) hx hb hts zi_X3_scanWhole_3 hown hK hP 0 rfl rfl 3 (by decide) (hts (.fieldLink RX3 9 "WaxTurns$Reade\x72" "tape" "[B") (List.mem_cons_of_mem _ (List.mem_append_left _ (List.mem_of_getElem? (i := 3) rfl)))) (fun _ h9 => h9) rfl dX3_scanWhole_31 ?_
          refine lv_aload_n hx hb dX3_scanWhole_34 rfl (lv_at hl 0 rfl) ?_
          refine va_get (D := (dC, dI)) (ci := 3) (v := .int j5a0_9) (C := RX3) (T := TX3) (N := 14) hx hb hts zi_X3_scanWhole_3 hown hK hP 0 rfl rfl 9 (by decide) (hts (.fieldLink RX3 51 "WaxTurns$Reade\x72" "behind" "I") (List.mem_cons_of_mem _ (List.mem_append_left _ (List.mem_of_getElem? (i := 1) rfl)))) (fun _ h9 => h9) rfl dX3_scanWhole_35 ?_
          refine va_bald hx hb hK hP 1 0 rfl rfl (ai_in bj5a0_9_l u13f_j5a0_9 (by decide) (by decide)) dX3_scanWhole_38 ?_
          refine ax_ti x24 ex24.symm ?_
          refine lv_bipush (v := 57) hx hb dX3_scanWhole_39 zk_bipush_57 ?_
          refine lv_icmp_gt (tgt := 81) hx hb dX3_scanWhole_41 (by decide) (fun c41 => ?_) (fun c41 => ?_)
          · have gc41 := ai_lt c41
            have l41t_x24 : (58 : Int) ≤ x24.toInt := ai_ltlo gc41 zq143
            have hF1 := hF1.trans (if_pos (show 57 < x24.toInt from gc41))
            have hF0 := hF0.trans (fl_wh_r (hSX5.trans hF1))
            exact (hK0 _ _ _).mp (J81  _ _ _   hF0 hP hD hS (lv_sub hl [0] rfl))
          · have gc41 := ai_nlt c41
            have u41f_x24 : x24.toInt ≤ (57 : Int) := Int.le_trans gc41 zq144
            have hF1 := hF1.trans (if_neg (show ¬ (57 < x24.toInt) from Int.not_lt.mpr gc41))
            refine lv_aload_n hx hb dX3_scanWhole_44 rfl (lv_at hl 0 rfl) ?_
            refine lv_bipush (v := 10) hx hb dX3_scanWhole_45 zk_bipush_10 ?_
            refine lv_aload_n hx hb dX3_scanWhole_47 rfl (lv_at hl 0 rfl) ?_
            refine va_get (D := (dC, dI)) (ci := 3) (v := .int j5a0_12) (C := RX3) (T := TX3) (N := 14) hx hb hts zi_X3_scanWhole_3 hown hK hP 0 rfl rfl 12 (by decide) (hts (.fieldLink RX3 85 "WaxTurns$Reade\x72" "whole" "I") (List.mem_cons_of_mem _ (List.mem_append_left _ (List.mem_of_getElem? (i := 0) rfl)))) (fun _ h9 => h9) rfl dX3_scanWhole_48 ?_
            refine lv_imul hx hb dX3_scanWhole_51 ?_
            refine lv_topi (fun x51 ex51 => ?_)
            have fqx51 := fl_imul_eq ex51
            have hF1 := hF1.trans (fl_lt_eq (show x51.toInt = fl_imul 10 j5a0_12.toInt from fqx51))
            refine lv_aload_n hx hb dX3_scanWhole_52 rfl (lv_at hl 0 rfl) ?_
            refine va_get (D := (dC, dI)) (ci := 3) (v := .ref a0_3) (C := RX3) (T := TX3) (N := 14) hx hb hts zi_X3_scanWhole_3 hown hK hP 0 rfl rfl 3 (by decide) (hts (.fieldLink RX3 9 "WaxTurns$Reade\x72" "tape" "[B") (List.mem_cons_of_mem _ (List.mem_append_left _ (List.mem_of_getElem? (i := 3) rfl)))) (fun _ h9 => h9) rfl dX3_scanWhole_53 ?_
            refine lv_aload_n hx hb dX3_scanWhole_56 rfl (lv_at hl 0 rfl) ?_
            refine va_get (D := (dC, dI)) (ci := 3) (v := .int j5a0_9) (C := RX3) (T := TX3) (N := 14) hx hb hts zi_X3_scanWhole_3 hown hK hP 0 rfl rfl 9 (by decide) (hts (.fieldLink RX3 51 "WaxTurns$Reade\x72" "behind" "I") (List.mem_cons_of_mem _ (List.mem_append_left _ (List.mem_of_getElem? (i := 1) rfl)))) (fun _ h9 => h9) rfl dX3_scanWhole_57 ?_
            refine va_bald hx hb hK hP 1 0 rfl rfl (ai_in bj5a0_9_l u13f_j5a0_9 (by decide) (by decide)) dX3_scanWhole_60 ?_
            refine ax_ti x24 ex24.symm ?_
            refine lv_iadd hx hb dX3_scanWhole_61 ?_
            refine lv_topi (fun x61 ex61 => ?_)
            have fqx61 := fl_iadd_eq ex61
            have hF1 := hF1.trans (fl_lt_eq (show x61.toInt = fl_iadd x51.toInt x24.toInt from fqx61))
            refine lv_bipush (v := 48) hx hb dX3_scanWhole_62 zk_bipush_48 ?_
            refine lv_isub hx hb dX3_scanWhole_64 ?_
            refine lv_topi (fun x64 ex64 => ?_)
            have fqx64 := fl_isub_eq ex64
            have hF1 := hF1.trans (fl_lt_eq (show x64.toInt = fl_isub x61.toInt 48 from fqx64))
            refine va_put (D := (dC, dI)) (ci := 3) (v := .int x64) (ty := .int) (C := RX3) (T := TX3) (N := 14) hx hb hts zi_X3_scanWhole_3 tyX3 tyX3_ok nmX3 hown hK hP hD hS 0 rfl rfl 12 (by decide) (hts (.fieldLink RX3 85 "WaxTurns$Reade\x72" "whole" "I") (List.mem_cons_of_mem _ (List.mem_append_left _ (List.mem_of_getElem? (i := 0) rfl)))) (fun _ h9 => h9) rfl (tyX3_ok 12 (by decide)) rfl rfl (Nat.le_of_ble_eq_true rfl) dX3_scanWhole_65 (fun H locs hP hD hS => ?_)
            obtain ⟨hP, hD⟩ := zc_re (w := [(a0, .inr (3, [a0g_0, a0g_1, a0g_2, .ref a0_3, a0g_4, a0g_5, a0g_6, .int a0_7, .int a0_8, .int j5a0_9, .int a0_10, a0g_11, .int x64, a0g_13])), (a0_3, .inl (ka0_3, 900, .inl (fa0_3)))]) hP hD rfl
            refine lv_aload_n hx hb dX3_scanWhole_68 rfl (lv_at hl 0 rfl) ?_
            refine lv_dup hx hb dX3_scanWhole_69 rfl ?_
            refine va_get (D := (dC, dI)) (ci := 3) (v := .int j5a0_9) (C := RX3) (T := TX3) (N := 14) hx hb hts zi_X3_scanWhole_3 hown hK hP 0 rfl rfl 9 (by decide) (hts (.fieldLink RX3 51 "WaxTurns$Reade\x72" "behind" "I") (List.mem_cons_of_mem _ (List.mem_append_left _ (List.mem_of_getElem? (i := 1) rfl)))) (fun _ h9 => h9) rfl dX3_scanWhole_70 ?_
            refine lv_iconst (v := 1) hx hb dX3_scanWhole_73 zk_iconst_1 ?_
            refine lv_iadd hx hb dX3_scanWhole_74 ?_
            refine lv_topi (fun x74 ex74 => ?_)
            have qx74 : x74.toInt = j5a0_9.toInt + (1 : Int32).toInt := ai_add ex74 ⟨bj5a0_9_l, u13f_j5a0_9⟩ ⟨zq1, zq0⟩ (by decide) (by decide)
            have bx74 : (1 : Int) ≤ x74.toInt ∧ x74.toInt ≤ 900 := ⟨by rw [qx74]; exact Int.add_le_add bj5a0_9_l zq1, by rw [qx74]; exact Int.add_le_add u13f_j5a0_9 zq0⟩
            have wx74 : x74.toInt = j5a0_9.toInt + 1 := qx74
            have hF1 := hF1.trans (fl_lt_eq (show x74.toInt = j5a0_9.toInt + 1 from qx74))
            refine va_put (D := (dC, dI)) (ci := 3) (v := .int x74) (ty := .int) (C := RX3) (T := TX3) (N := 14) hx hb hts zi_X3_scanWhole_3 tyX3 tyX3_ok nmX3 hown hK hP hD hS 0 rfl rfl 9 (by decide) (hts (.fieldLink RX3 51 "WaxTurns$Reade\x72" "behind" "I") (List.mem_cons_of_mem _ (List.mem_append_left _ (List.mem_of_getElem? (i := 1) rfl)))) (fun _ h9 => h9) rfl (tyX3_ok 9 (by decide)) rfl rfl (Nat.le_of_ble_eq_true rfl) dX3_scanWhole_75 (fun H locs hP hD hS => ?_)
            obtain ⟨hP, hD⟩ := zc_re (w := [(a0, .inr (3, [a0g_0, a0g_1, a0g_2, .ref a0_3, a0g_4, a0g_5, a0g_6, .int a0_7, .int a0_8, .int x74, .int a0_10, a0g_11, .int x64, a0g_13])), (a0_3, .inl (ka0_3, 900, .inl (fa0_3)))]) hP hD rfl
            refine lv_goto (tgt := 5) hx hb dX3_scanWhole_78 (by decide) ?_
            exact (hK0 _ _ _).mp (ih5 x74 x64 _ _ _ (by have h0 := qx74; omega) (Int.le_trans zq4 bx74.1) bx74.2 (hF0.trans (fl_wh_l (hSX5.trans hF1))) hP hD hS (lv_sub hl [0] rfl))
  exact (hK0 _ _ _).mp (J5 901 a0_9 0 _ _ _ (by have h1 : (0 : Int) ≤ a0_9.toInt := ba0_9_l; have h2 : a0_9.toInt ≤ (900 : Int) := ba0_9_u; omega) ba0_9_l ba0_9_u (by rw [show (0 : Int32).toInt = 0 from by decide]; exact hF0) hP hD hS (lv_sub hl [0] rfl))
