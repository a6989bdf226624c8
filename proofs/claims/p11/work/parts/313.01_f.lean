set_option maxHeartbeats 4000000 in
set_option maxRecDepth 100000 in
theorem f_X3_appendX (l : Launch) (dC : Nat → ClassId) (dI : Nat → Nat → Nat) (sz : Nat) (a0 : Nat) (a1 : Int32) (a0_0 : Int32) (a0g_1 a0g_2 a0g_4 a0g_5 a0g_6 a0g_7 a0g_8 a0g_9 a0g_10 a0g_11 a0g_12 a0g_13 : Value) (a0_3 : Nat) (ka0_3 : ClassId) (fa0_3 : Nat → Int32) (ba0_0_l : (0 : Int) ≤ a0_0.toInt) (ba0_0_u : a0_0.toInt ≤ (896 : Int)) : Met l yX3_append wsX3_append ({ frames := 0, cells := 0, slots := 0, locals := 0 }) (va_Pc [.ref a0, .int a1] (ax_C dC dI sz [(a0, .inr (3, [.int a0_0, a0g_1, a0g_2, .ref a0_3, a0g_4, a0g_5, a0g_6, a0g_7, a0g_8, a0g_9, a0g_10, a0g_11, a0g_12, a0g_13])), (a0_3, .inl (ka0_3, 900, .inl (fa0_3)))] [(ka0_3, .byte)] (fun _ => True))) (va_Qv (fun (_ : Unit) => True) (fun (_ : Unit) (t : State) => ∃ na0_0 : Int32, ∃ nfa0_3 : Nat → Int32, ((0 : Int) ≤ na0_0.toInt ∧ na0_0.toInt ≤ 900) ∧ na0_0.toInt = a0_0.toInt + 4 ∧ (Ff_X3_appendX a1.toInt a0_0.toInt (fl_A fa0_3) = (na0_0.toInt, (fl_A nfa0_3))) ∧ ax_B dC dI (va_A [(a0, .inr (3, [.int a0_0, a0g_1, a0g_2, .ref a0_3, a0g_4, a0g_5, a0g_6, a0g_7, a0g_8, a0g_9, a0g_10, a0g_11, a0g_12, a0g_13])), (a0_3, .inl (ka0_3, 900, .inl (fa0_3)))] sz) [(a0, .inr (3, [.int na0_0, a0g_1, a0g_2, .ref a0_3, a0g_4, a0g_5, a0g_6, a0g_7, a0g_8, a0g_9, a0g_10, a0g_11, a0g_12, a0g_13])), (a0_3, .inl (ka0_3, 900, .inl (nfa0_3)))] [(ka0_3, .byte)] t) (va_A [(a0, .inr (3, [.int a0_0, a0g_1, a0g_2, .ref a0_3, a0g_4, a0g_5, a0g_6, a0g_7, a0g_8, a0g_9, a0g_10, a0g_11, a0g_12, a0g_13])), (a0_3, .inl (ka0_3, 900, .inl (fa0_3)))] sz)) 0 0 (va_A [(a0, .inr (3, [.int a0_0, a0g_1, a0g_2, .ref a0_3, a0g_4, a0g_5, a0g_6, a0g_7, a0g_8, a0g_9, a0g_10, a0g_11, a0g_12, a0g_13])), (a0_3, .inl (ka0_3, 900, .inl (fa0_3)))] sz) := by
  refine Met.ofW (cc := cX3_append) (maxL := 3) (ret := none) (by decide) rfl ?_
  intro p e s m args below meth c s₁ B hml hv
  obtain ⟨rfl, hsz, hP, hK, hD0, hE⟩ := hv
  have hx := B.exec
  have hb := B.bytes
  have hr := B.returns
  have hts := atoms_spec (ws := wsX3_append) B.pre
  have hown : s.vm.findClass RX3 = some m.cls := findClass_of_methodNamed B.named
  have hlocks := B.notSynchronized
  subst hsz
  have hD := hD0.self (sz := s.heap.size)
  generalize hAe : va_A [(a0, .inr (3, [.int a0_0, a0g_1, a0g_2, .ref a0_3, a0g_4, a0g_5, a0g_6, a0g_7, a0g_8, a0g_9, a0g_10, a0g_11, a0g_12, a0g_13])), (a0_3, .inl (ka0_3, 900, .inl (fa0_3)))] s.heap.size = A at hD ⊢
  have hA : ∀ q : Nat, s.heap.size ≤ q → A q := fun q h => by rw [← hAe]; exact Or.inr h
  have hS : va_S A s.heap s.heap [] := va_S.rf
  have hP : va_P (dC, dI) vwCl [(a0, .inr (3, [.int a0_0, a0g_1, a0g_2, .ref a0_3, a0g_4, a0g_5, a0g_6, a0g_7, a0g_8, a0g_9, a0g_10, a0g_11, a0g_12, a0g_13])), (a0_3, .inl (ka0_3, 900, .inl (fa0_3)))] s.heap := hP
  have hl := lv_entry ([.ref a0, .int a1]) (n := 3) (Nat.le_of_ble_eq_true rfl)
  rw [lg_entry_eq]
  generalize (lg_sl ([.ref a0, .int a1]) ++ List.replicate (3 - (lg_sl ([.ref a0, .int a1])).length) Slot.unset).toArray = ls at hl ⊢
  have hl : lv_has ls 3 [(0, .ref a0), (1, .int a1)] := hl
  generalize hFX : Ff_X3_appendX a1.toInt a0_0.toInt (fl_A fa0_3) = FX at ⊢
  have hF0 := hFX.symm.trans (Ff_X3_appendX.eq_1 a1.toInt a0_0.toInt (fl_A fa0_3))
  refine lv_bipush (v := 24) hx hb dX3_append_0 zk_bipush_24 ?_
  refine lv_istore_n (lv' := [(2, .int 24), (0, .ref a0), (1, .int a1)]) hx hb dX3_append_2 rfl hl (by decide) rfl (fun ls hl => ?_)
  refine lv_iload_n hx hb dX3_append_3 rfl (lv_at hl 0 rfl) ?_
  refine lv_if_lt (tgt := 46) hx hb dX3_append_4 (by decide) (fun c4 => absurd c4 (by decide +kernel)) (fun _ => ?_)
  refine lv_aload_n hx hb dX3_append_7 rfl (lv_at hl 1 rfl) ?_
  refine va_get (D := (dC, dI)) (ci := 3) (v := .int a0_0) (C := RX3) (T := TX3) (N := 14) hx hb hts zi_X3_append_3 hown hK hP 0 rfl rfl 0 (by decide) (hts (.fieldLink RX3 26 "WaxTurns$Reade\x72" "tapeSize" "I") (List.mem_cons_of_mem _ (List.mem_append_left _ (List.mem_of_getElem? (i := 0) rfl)))) (fun _ h9 => h9) rfl dX3_append_8 ?_
  refine lv_sipush (v := 900) hx hb dX3_append_11 zk_sipush_900 ?_
  refine lv_icmp_ge (tgt := 46) hx hb dX3_append_14 (by decide) (fun c14 => ?_) (fun c14 => ?_)
  · have gc14 := ai_le c14
    have l14t_a0_0 : (900 : Int) ≤ a0_0.toInt := Int.le_trans zq37 gc14
    exact absurd (Int.le_trans l14t_a0_0 ba0_0_u) (by decide)
  · have gc14 := ai_nle c14
    have u14f_a0_0 : a0_0.toInt ≤ (896 : Int) := ba0_0_u
    have hF0 := hF0.trans (if_neg (show ¬ (900 ≤ a0_0.toInt) from Int.not_le.mpr gc14))
    refine lv_aload_n hx hb dX3_append_17 rfl (lv_at hl 1 rfl) ?_
    refine va_get (D := (dC, dI)) (ci := 3) (v := .ref a0_3) (C := RX3) (T := TX3) (N := 14) hx hb hts zi_X3_append_3 hown hK hP 0 rfl rfl 3 (by decide) (hts (.fieldLink RX3 9 "WaxTurns$Reade\x72" "tape" "[B") (List.mem_cons_of_mem _ (List.mem_append_left _ (List.mem_of_getElem? (i := 1) rfl)))) (fun _ h9 => h9) rfl dX3_append_18 ?_
    refine lv_aload_n hx hb dX3_append_21 rfl (lv_at hl 1 rfl) ?_
    refine va_get (D := (dC, dI)) (ci := 3) (v := .int a0_0) (C := RX3) (T := TX3) (N := 14) hx hb hts zi_X3_append_3 hown hK hP 0 rfl rfl 0 (by decide) (hts (.fieldLink RX3 26 "WaxTurns$Reade\x72" "tapeSize" "I") (List.mem_cons_of_mem _ (List.mem_append_left _ (List.mem_of_getElem? (i := 0) rfl)))) (fun _ h9 => h9) rfl dX3_append_22 ?_
    refine lv_iload_n hx hb dX3_append_25 rfl (lv_at hl 2 rfl) ?_
    refine lv_iload_n hx hb dX3_append_26 rfl (lv_at hl 0 rfl) ?_
    refine lv_ishr hx hb dX3_append_27 ?_
    refine lv_topi (fun x27 ex27 => ?_)
    have fqx27 := fl_shr_eq ex27
    have hF0 := hF0.trans (fl_lt_eq (show x27.toInt = fl_shr a1.toInt 24 from fqx27))
    obtain ⟨x28, ex28⟩ : ∃ y : Int32, y = (x27).toInt8.toInt32 := ⟨_, rfl⟩
    refine lv_i2b (v := x28) hx hb dX3_append_28 ex28.symm ?_
    have fqx28 := fl_i2b_eq ex28
    have hF0 := hF0.trans (fl_lt_eq (show x28.toInt = fl_i2b x27.toInt from fqx28))
    refine va_bast hx hb hK hP hD hS 1 0 rfl rfl (ai_in ba0_0_l u14f_a0_0 (by decide) (by decide)) dX3_append_29 (fun H locs hP hD hS => ?_)
    obtain ⟨f29, ef29⟩ : ∃ g9 : Nat → Int32, g9 = upd fa0_3 (a0_0 : Int32).toNatClampNeg (vp_nar .byte x28) := ⟨_, rfl⟩
    rw [← ef29] at hP hD
    obtain ⟨hP, hD⟩ := zc_re (w := [(a0, .inr (3, [.int a0_0, a0g_1, a0g_2, .ref a0_3, a0g_4, a0g_5, a0g_6, a0g_7, a0g_8, a0g_9, a0g_10, a0g_11, a0g_12, a0g_13])), (a0_3, .inl (ka0_3, 900, .inl (f29)))]) hP hD rfl
    have fqf29 := fl_upB_eq ef29
    have hF0 := hF0.trans (fl_lt_eq (show (fl_A f29) = fl_upB (fl_A fa0_3) (a0_0.toInt.toNat) x28.toInt from fqf29))
    refine lv_aload_n hx hb dX3_append_30 rfl (lv_at hl 1 rfl) ?_
    refine lv_dup hx hb dX3_append_31 rfl ?_
    refine va_get (D := (dC, dI)) (ci := 3) (v := .int a0_0) (C := RX3) (T := TX3) (N := 14) hx hb hts zi_X3_append_3 hown hK hP 0 rfl rfl 0 (by decide) (hts (.fieldLink RX3 26 "WaxTurns$Reade\x72" "tapeSize" "I") (List.mem_cons_of_mem _ (List.mem_append_left _ (List.mem_of_getElem? (i := 0) rfl)))) (fun _ h9 => h9) rfl dX3_append_32 ?_
    refine lv_iconst (v := 1) hx hb dX3_append_35 zk_iconst_1 ?_
    refine lv_iadd hx hb dX3_append_36 ?_
    refine lv_topi (fun x36 ex36 => ?_)
    have qx36 : x36.toInt = a0_0.toInt + (1 : Int32).toInt := ai_add ex36 ⟨ba0_0_l, u14f_a0_0⟩ ⟨zq1, zq0⟩ (by decide) (by decide)
    have bx36 : (1 : Int) ≤ x36.toInt ∧ x36.toInt ≤ 897 := ⟨by rw [qx36]; exact Int.add_le_add ba0_0_l zq1, by rw [qx36]; exact Int.add_le_add u14f_a0_0 zq0⟩
    have wx36 : x36.toInt = a0_0.toInt + 1 := qx36
    have hF0 := hF0.trans (fl_lt_eq (show x36.toInt = a0_0.toInt + 1 from qx36))
    refine va_put (D := (dC, dI)) (ci := 3) (v := .int x36) (ty := .int) (C := RX3) (T := TX3) (N := 14) hx hb hts zi_X3_append_3 tyX3 tyX3_ok nmX3 hown hK hP hD hS 0 rfl rfl 0 (by decide) (hts (.fieldLink RX3 26 "WaxTurns$Reade\x72" "tapeSize" "I") (List.mem_cons_of_mem _ (List.mem_append_left _ (List.mem_of_getElem? (i := 0) rfl)))) (fun _ h9 => h9) rfl (tyX3_ok 0 (by decide)) rfl rfl (Nat.le_of_ble_eq_true rfl) dX3_append_37 (fun H locs hP hD hS => ?_)
    obtain ⟨hP, hD⟩ := zc_re (w := [(a0, .inr (3, [.int x36, a0g_1, a0g_2, .ref a0_3, a0g_4, a0g_5, a0g_6, a0g_7, a0g_8, a0g_9, a0g_10, a0g_11, a0g_12, a0g_13])), (a0_3, .inl (ka0_3, 900, .inl (f29)))]) hP hD rfl
    refine lv_iinc (v := 16) (lv' := [(2, .int 16), (0, .ref a0), (1, .int a1)]) hx hb dX3_append_40 hl (k := 0) rfl (by decide +kernel) (by decide) rfl (fun ls hl => ?_)
    refine lv_goto (tgt := 3) hx hb dX3_append_43 (by decide) ?_
    refine lv_iload_n hx hb dX3_append_3 rfl (lv_at hl 0 rfl) ?_
    refine lv_if_lt (tgt := 46) hx hb dX3_append_4 (by decide) (fun c4 => absurd c4 (by decide +kernel)) (fun _ => ?_)
    refine lv_aload_n hx hb dX3_append_7 rfl (lv_at hl 1 rfl) ?_
    refine va_get (D := (dC, dI)) (ci := 3) (v := .int x36) (C := RX3) (T := TX3) (N := 14) hx hb hts zi_X3_append_3 hown hK hP 0 rfl rfl 0 (by decide) (hts (.fieldLink RX3 26 "WaxTurns$Reade\x72" "tapeSize" "I") (List.mem_cons_of_mem _ (List.mem_append_left _ (List.mem_of_getElem? (i := 0) rfl)))) (fun _ h9 => h9) rfl dX3_append_8 ?_
    refine lv_sipush (v := 900) hx hb dX3_append_11 zk_sipush_900 ?_
    refine lv_icmp_ge (tgt := 46) hx hb dX3_append_14 (by decide) (fun c14 => ?_) (fun c14 => ?_)
    · have gc14 := ai_le c14
      have l14t_x36 : (900 : Int) ≤ x36.toInt := Int.le_trans zq37 gc14
      have l14t_a0_0 : (899 : Int) ≤ a0_0.toInt := by have h1 := wx36; have h2 := l14t_x36; omega
      exact absurd (Int.le_trans l14t_x36 bx36.2) (by decide)
    · have gc14 := ai_nle c14
      have u14f_x36 : x36.toInt ≤ (897 : Int) := bx36.2
      have hF0 := hF0.trans (if_neg (show ¬ (900 ≤ x36.toInt) from Int.not_le.mpr gc14))
      refine lv_aload_n hx hb dX3_append_17 rfl (lv_at hl 1 rfl) ?_
      refine va_get (D := (dC, dI)) (ci := 3) (v := .ref a0_3) (C := RX3) (T := TX3) (N := 14) hx hb hts zi_X3_append_3 hown hK hP 0 rfl rfl 3 (by decide) (hts (.fieldLink RX3 9 "WaxTurns$Reade\x72" "tape" "[B") (List.mem_cons_of_mem _ (List.mem_append_left _ (List.mem_of_getElem? (i := 1) rfl)))) (fun _ h9 => h9) rfl dX3_append_18 ?_
      refine lv_aload_n hx hb dX3_append_21 rfl (lv_at hl 1 rfl) ?_
      refine va_get (D := (dC, dI)) (ci := 3) (v := .int x36) (C := RX3) (T := TX3) (N := 14) hx hb hts zi_X3_append_3 hown hK hP 0 rfl rfl 0 (by decide) (hts (.fieldLink RX3 26 "WaxTurns$Reade\x72" "tapeSize" "I") (List.mem_cons_of_mem _ (List.mem_append_left _ (List.mem_of_getElem? (i := 0) rfl)))) (fun _ h9 => h9) rfl dX3_append_22 ?_
      refine lv_iload_n hx hb dX3_append_25 rfl (lv_at hl 2 rfl) ?_
      refine lv_iload_n hx hb dX3_append_26 rfl (lv_at hl 0 rfl) ?_
      refine lv_ishr hx hb dX3_append_27 ?_
      refine lv_topi (fun x27v2 ex27v2 => ?_)
      have fqx27v2 := fl_shr_eq ex27v2
      have hF0 := hF0.trans (fl_lt_eq (show x27v2.toInt = fl_shr a1.toInt 16 from fqx27v2))
      obtain ⟨x28v2, ex28v2⟩ : ∃ y : Int32, y = (x27v2).toInt8.toInt32 := ⟨_, rfl⟩
      refine lv_i2b (v := x28v2) hx hb dX3_append_28 ex28v2.symm ?_
      have fqx28v2 := fl_i2b_eq ex28v2
      have hF0 := hF0.trans (fl_lt_eq (show x28v2.toInt = fl_i2b x27v2.toInt from fqx28v2))
      refine va_bast hx hb hK hP hD hS 1 0 rfl rfl (ai_in bx36.1 u14f_x36 (by decide) (by decide)) dX3_append_29 (fun H locs hP hD hS => ?_)
      obtain ⟨f29v2, ef29v2⟩ : ∃ g9 : Nat → Int32, g9 = upd f29 (x36 : Int32).toNatClampNeg (vp_nar .byte x28v2) := ⟨_, rfl⟩
      rw [← ef29v2] at hP hD
      obtain ⟨hP, hD⟩ := zc_re (w := [(a0, .inr (3, [.int x36, a0g_1, a0g_2, .ref a0_3, a0g_4, a0g_5, a0g_6, a0g_7, a0g_8, a0g_9, a0g_10, a0g_11, a0g_12, a0g_13])), (a0_3, .inl (ka0_3, 900, .inl (f29v2)))]) hP hD rfl
      have fqf29v2 := fl_upB_eq ef29v2
      have hF0 := hF0.trans (fl_lt_eq (show (fl_A f29v2) = fl_upB (fl_A f29) (x36.toInt.toNat) x28v2.toInt from fqf29v2))
      refine lv_aload_n hx hb dX3_append_30 rfl (lv_at hl 1 rfl) ?_
      refine lv_dup hx hb dX3_append_31 rfl ?_
      refine va_get (D := (dC, dI)) (ci := 3) (v := .int x36) (C := RX3) (T := TX3) (N := 14) hx hb hts zi_X3_append_3 hown hK hP 0 rfl rfl 0 (by decide) (hts (.fieldLink RX3 26 "WaxTurns$Reade\x72" "tapeSize" "I") (List.mem_cons_of_mem _ (List.mem_append_left _ (List.mem_of_getElem? (i := 0) rfl)))) (fun _ h9 => h9) rfl dX3_append_32 ?_
      refine lv_iconst (v := 1) hx hb dX3_append_35 zk_iconst_1 ?_
      refine lv_iadd hx hb dX3_append_36 ?_
      refine lv_topi (fun x36v2 ex36v2 => ?_)
      have qx36v2 : x36v2.toInt = x36.toInt + (1 : Int32).toInt := ai_add ex36v2 ⟨bx36.1, u14f_x36⟩ ⟨zq1, zq0⟩ (by decide) (by decide)
      have bx36v2 : (2 : Int) ≤ x36v2.toInt ∧ x36v2.toInt ≤ 898 := ⟨by rw [qx36v2]; exact Int.add_le_add bx36.1 zq1, by rw [qx36v2]; exact Int.add_le_add u14f_x36 zq0⟩
      have wx36v2 : x36v2.toInt = x36.toInt + 1 := qx36v2
      have hF0 := hF0.trans (fl_lt_eq (show x36v2.toInt = x36.toInt + 1 from qx36v2))
      refine va_put (D := (dC, dI)) (ci := 3) (v := .int x36v2) (ty := .int) (C := RX3) (T := TX3) (N := 14) hx hb hts zi_X3_append_3 tyX3 tyX3_ok nmX3 hown hK hP hD hS 0 rfl rfl 0 (by decide) (hts (.fieldLink RX3 26 "WaxTurns$Reade\x72" "tapeSize" "I") (List.mem_cons_of_mem _ (List.mem_append_left _ (List.mem_of_getElem? (i := 0) rfl)))) (fun _ h9 => h9) rfl (tyX3_ok 0 (by decide)) rfl rfl (Nat.le_of_ble_eq_true rfl) dX3_append_37 (fun H locs hP hD hS => ?_)
      obtain ⟨hP, hD⟩ := zc_re (w := [(a0, .inr (3, [.int x36v2, a0g_1, a0g_2, .ref a0_3, a0g_4, a0g_5, a0g_6, a0g_7, a0g_8, a0g_9, a0g_10, a0g_11, a0g_12, a0g_13])), (a0_3, .inl (ka0_3, 900, .inl (f29v2)))]) hP hD rfl
      refine lv_iinc (v := 8) (lv' := [(2, .int 8), (0, .ref a0), (1, .int a1)]) hx hb dX3_append_40 hl (k := 0) rfl (by decide +kernel) (by decide) rfl (fun ls hl => ?_)
      refine lv_goto (tgt := 3) hx hb dX3_append_43 (by decide) ?_
      refine lv_iload_n hx hb dX3_append_3 rfl (lv_at hl 0 rfl) ?_
      refine lv_if_lt (tgt := 46) hx hb dX3_append_4 (by decide) (fun c4 => absurd c4 (by decide +kernel)) (fun _ => ?_)
      refine lv_aload_n hx hb dX3_append_7 rfl (lv_at hl 1 rfl) ?_
      refine va_get (D := (dC, dI)) (ci := 3) (v := .int x36v2) (C := RX3) (T := TX3) (N := 14) hx hb hts zi_X3_append_3 hown hK hP 0 rfl rfl 0 (by decide) (hts (.fieldLink RX3 26 "WaxTurns$Reade\x72" "tapeSize" "I") (List.mem_cons_of_mem _ (List.mem_append_left _ (List.mem_of_getElem? (i := 0) rfl)))) (fun _ h9 => h9) rfl dX3_append_8 ?_
      refine lv_sipush (v := 900) hx hb dX3_append_11 zk_sipush_900 ?_
      refine lv_icmp_ge (tgt := 46) hx hb dX3_append_14 (by decide) (fun c14 => ?_) (fun c14 => ?_)
      · have gc14 := ai_le c14
        have l14t_x36v2 : (900 : Int) ≤ x36v2.toInt := Int.le_trans zq37 gc14
        have l14t_x36 : (899 : Int) ≤ x36.toInt := by have h1 := wx36v2; have h2 := l14t_x36v2; omega
        have l14t_a0_0 : (898 : Int) ≤ a0_0.toInt := by have h1 := wx36; have h2 := l14t_x36; omega
        exact absurd (Int.le_trans l14t_x36v2 bx36v2.2) (by decide)
      · have gc14 := ai_nle c14
        have u14f_x36v2 : x36v2.toInt ≤ (898 : Int) := bx36v2.2
        have hF0 := hF0.trans (if_neg (show ¬ (900 ≤ x36v2.toInt) from Int.not_le.mpr gc14))
        refine lv_aload_n hx hb dX3_append_17 rfl (lv_at hl 1 rfl) ?_
        refine va_get (D := (dC, dI)) (ci := 3) (v := .ref a0_3) (C := RX3) (T := TX3) (N := 14) hx hb hts zi_X3_append_3 hown hK hP 0 rfl rfl 3 (by decide) (hts (.fieldLink RX3 9 "WaxTurns$Reade\x72" "tape" "[B") (List.mem_cons_of_mem _ (List.mem_append_left _ (List.mem_of_getElem? (i := 1) rfl)))) (fun _ h9 => h9) rfl dX3_append_18 ?_
        refine lv_aload_n hx hb dX3_append_21 rfl (lv_at hl 1 rfl) ?_
        refine va_get (D := (dC, dI)) (ci := 3) (v := .int x36v2) (C := RX3) (T := TX3) (N := 14) hx hb hts zi_X3_append_3 hown hK hP 0 rfl rfl 0 (by decide) (hts (.fieldLink RX3 26 "WaxTurns$Reade\x72" "tapeSize" "I") (List.mem_cons_of_mem _ (List.mem_append_left _ (List.mem_of_getElem? (i := 0) rfl)))) (fun _ h9 => h9) rfl dX3_append_22 ?_
        refine lv_iload_n hx hb dX3_append_25 rfl (lv_at hl 2 rfl) ?_
        refine lv_iload_n hx hb dX3_append_26 rfl (lv_at hl 0 rfl) ?_
        refine lv_ishr hx hb dX3_append_27 ?_
        refine lv_topi (fun x27v3 ex27v3 => ?_)
        have fqx27v3 := fl_shr_eq ex27v3
        have hF0 := hF0.trans (fl_lt_eq (show x27v3.toInt = fl_shr a1.toInt 8 from fqx27v3))
        obtain ⟨x28v3, ex28v3⟩ : ∃ y : Int32, y = (x27v3).toInt8.toInt32 := ⟨_, rfl⟩
        refine lv_i2b (v := x28v3) hx hb dX3_append_28 ex28v3.symm ?_
        have fqx28v3 := fl_i2b_eq ex28v3
        have hF0 := hF0.trans (fl_lt_eq (show x28v3.toInt = fl_i2b x27v3.toInt from fqx28v3))
        refine va_bast hx hb hK hP hD hS 1 0 rfl rfl (ai_in bx36v2.1 u14f_x36v2 (by decide) (by decide)) dX3_append_29 (fun H locs hP hD hS => ?_)
        obtain ⟨f29v3, ef29v3⟩ : ∃ g9 : Nat → Int32, g9 = upd f29v2 (x36v2 : Int32).toNatClampNeg (vp_nar .byte x28v3) := ⟨_, rfl⟩
        rw [← ef29v3] at hP hD
        obtain ⟨hP, hD⟩ := zc_re (w := [(a0, .inr (3, [.int x36v2, a0g_1, a0g_2, .ref a0_3, a0g_4, a0g_5, a0g_6, a0g_7, a0g_8, a0g_9, a0g_10, a0g_11, a0g_12, a0g_13])), (a0_3, .inl (ka0_3, 900, .inl (f29v3)))]) hP hD rfl
        have fqf29v3 := fl_upB_eq ef29v3
        have hF0 := hF0.trans (fl_lt_eq (show (fl_A f29v3) = fl_upB (fl_A f29v2) (x36v2.toInt.toNat) x28v3.toInt from fqf29v3))
        refine lv_aload_n hx hb dX3_append_30 rfl (lv_at hl 1 rfl) ?_
        refine lv_dup hx hb dX3_append_31 rfl ?_
        refine va_get (D := (dC, dI)) (ci := 3) (v := .int x36v2) (C := RX3) (T := TX3) (N := 14) hx hb hts zi_X3_append_3 hown hK hP 0 rfl rfl 0 (by decide) (hts (.fieldLink RX3 26 "WaxTurns$Reade\x72" "tapeSize" "I") (List.mem_cons_of_mem _ (List.mem_append_left _ (List.mem_of_getElem? (i := 0) rfl)))) (fun _ h9 => h9) rfl dX3_append_32 ?_
        refine lv_iconst (v := 1) hx hb dX3_append_35 zk_iconst_1 ?_
        refine lv_iadd hx hb dX3_append_36 ?_
        refine lv_topi (fun x36v3 ex36v3 => ?_)
        have qx36v3 : x36v3.toInt = x36v2.toInt + (1 : Int32).toInt := ai_add ex36v3 ⟨bx36v2.1, u14f_x36v2⟩ ⟨zq1, zq0⟩ (by decide) (by decide)
        have bx36v3 : (3 : Int) ≤ x36v3.toInt ∧ x36v3.toInt ≤ 899 := ⟨by rw [qx36v3]; exact Int.add_le_add bx36v2.1 zq1, by rw [qx36v3]; exact Int.add_le_add u14f_x36v2 zq0⟩
        have wx36v3 : x36v3.toInt = x36v2.toInt + 1 := qx36v3
        have hF0 := hF0.trans (fl_lt_eq (show x36v3.toInt = x36v2.toInt + 1 from qx36v3))
        refine va_put (D := (dC, dI)) (ci := 3) (v := .int x36v3) (ty := .int) (C := RX3) (T := TX3) (N := 14) hx hb hts zi_X3_append_3 tyX3 tyX3_ok nmX3 hown hK hP hD hS 0 rfl rfl 0 (by decide) (hts (.fieldLink RX3 26 "WaxTurns$Reade\x72" "tapeSize" "I") (List.mem_cons_of_mem _ (List.mem_append_left _ (List.mem_of_getElem? (i := 0) rfl)))) (fun _ h9 => h9) rfl (tyX3_ok 0 (by decide)) rfl rfl (Nat.le_of_ble_eq_true rfl) dX3_append_37 (fun H locs hP hD hS => ?_)
        obtain ⟨hP, hD⟩ := zc_re (w := [(a0, .inr (3, [.int x36v3, a0g_1, a0g_2, .ref a0_3, a0g_4, a0g_5, a0g_6, a0g_7, a0g_8, a0g_9, a0g_10, a0g_11, a0g_12, a0g_13])), (a0_3, .inl (ka0_3, 900, .inl (f29v3)))]) hP hD rfl
        refine lv_iinc (v := 0) (lv' := [(2, .int 0), (0, .ref a0), (1, .int a1)]) hx hb dX3_append_40 hl (k := 0) rfl (by decide +kernel) (by decide) rfl (fun ls hl => ?_)
        refine lv_goto (tgt := 3) hx hb dX3_append_43 (by decide) ?_
        refine lv_iload_n hx hb dX3_append_3 rfl (lv_at hl 0 rfl) ?_
        refine lv_if_lt (tgt := 46) hx hb dX3_append_4 (by decide) (fun c4 => absurd c4 (by decide +kernel)) (fun _ => ?_)
        refine lv_aload_n hx hb dX3_append_7 rfl (lv_at hl 1 rfl) ?_
        refine va_get (D := (dC, dI)) (ci := 3) (v := .int x36v3) (C := RX3) (T := TX3) (N := 14) hx hb hts zi_X3_append_3 hown hK hP 0 rfl rfl 0 (by decide) (hts (.fieldLink RX3 26 "WaxTurns$Reade\x72" "tapeSize" "I") (List.mem_cons_of_mem _ (List.mem_append_left _ (List.mem_of_getElem? (i := 0) rfl)))) (fun _ h9 => h9) rfl dX3_append_8 ?_
        refine lv_sipush (v := 900) hx hb dX3_append_11 zk_sipush_900 ?_
        refine lv_icmp_ge (tgt := 46) hx hb dX3_append_14 (by decide) (fun c14 => ?_) (fun c14 => ?_)
        · have gc14 := ai_le c14
          have l14t_x36v3 : (900 : Int) ≤ x36v3.toInt := Int.le_trans zq37 gc14
          have l14t_x36v2 : (899 : Int) ≤ x36v2.toInt := by have h1 := wx36v3; have h2 := l14t_x36v3; omega
          have l14t_x36 : (898 : Int) ≤ x36.toInt := by have h1 := wx36v2; have h2 := l14t_x36v2; omega
          have l14t_a0_0 : (897 : Int) ≤ a0_0.toInt := by have h1 := wx36; have h2 := l14t_x36; omega
          exact absurd (Int.le_trans l14t_x36v3 bx36v3.2) (by decide)
        · have gc14 := ai_nle c14
          have u14f_x36v3 : x36v3.toInt ≤ (899 : Int) := bx36v3.2
          have hF0 := hF0.trans (if_neg (show ¬ (900 ≤ x36v3.toInt) from Int.not_le.mpr gc14))
          refine lv_aload_n hx hb dX3_append_17 rfl (lv_at hl 1 rfl) ?_
          refine va_get (D := (dC, dI)) (ci := 3) (v := .ref a0_3) (C := RX3) (T := TX3) (N := 14) hx hb hts zi_X3_append_3 hown hK hP 0 rfl rfl 3 (by decide) (hts (.fieldLink RX3 9 "WaxTurns$Reade\x72" "tape" "[B") (List.mem_cons_of_mem _ (List.mem_append_left _ (List.mem_of_getElem? (i := 1) rfl)))) (fun _ h9 => h9) rfl dX3_append_18 ?_
          refine lv_aload_n hx hb dX3_append_21 rfl (lv_at hl 1 rfl) ?_
          refine va_get (D := (dC, dI)) (ci := 3) (v := .int x36v3) (C := RX3) (T := TX3) (N := 14) hx hb hts zi_X3_append_3 hown hK hP 0 rfl rfl 0 (by decide) (hts (.fieldLink RX3 26 "WaxTurns$Reade\x72" "tapeSize" "I") (List.mem_cons_of_mem _ (List.mem_append_left _ (List.mem_of_getElem? (i := 0) rfl)))) (fun _ h9 => h9) rfl dX3_append_22 ?_
          refine lv_iload_n hx hb dX3_append_25 rfl (lv_at hl 2 rfl) ?_
          refine lv_iload_n hx hb dX3_append_26 rfl (lv_at hl 0 rfl) ?_
          refine lv_ishr hx hb dX3_append_27 ?_
          refine lv_topi (fun x27v4 ex27v4 => ?_)
          have fqx27v4 := fl_shr_eq ex27v4
          have hF0 := hF0.trans (fl_lt_eq (show x27v4.toInt = fl_shr a1.toInt 0 from fqx27v4))
          obtain ⟨x28v4, ex28v4⟩ : ∃ y : Int32, y = (x27v4).toInt8.toInt32 := ⟨_, rfl⟩
          refine lv_i2b (v := x28v4) hx hb dX3_append_28 ex28v4.symm ?_
          have fqx28v4 := fl_i2b_eq ex28v4
          have hF0 := hF0.trans (fl_lt_eq (show x28v4.toInt = fl_i2b x27v4.toInt from fqx28v4))
          refine va_bast hx hb hK hP hD hS 1 0 rfl rfl (ai_in bx36v3.1 u14f_x36v3 (by decide) (by decide)) dX3_append_29 (fun H locs hP hD hS => ?_)
          obtain ⟨f29v4, ef29v4⟩ : ∃ g9 : Nat → Int32, g9 = upd f29v3 (x36v3 : Int32).toNatClampNeg (vp_nar .byte x28v4) := ⟨_, rfl⟩
          rw [← ef29v4] at hP hD
          obtain ⟨hP, hD⟩ := zc_re (w := [(a0, .inr (3, [.int x36v3, a0g_1, a0g_2, .ref a0_3, a0g_4, a0g_5, a0g_6, a0g_7, a0g_8, a0g_9, a0g_10, a0g_11, a0g_12, a0g_13])), (a0_3, .inl (ka0_3, 900, .inl (f29v4)))]) hP hD rfl
          have fqf29v4 := fl_upB_eq ef29v4
          have hF0 := hF0.trans (fl_lt_eq (show (fl_A f29v4) = fl_upB (fl_A f29v3) (x36v3.toInt.toNat) x28v4.toInt from fqf29v4))
          refine lv_aload_n hx hb dX3_append_30 rfl (lv_at hl 1 rfl) ?_
          refine lv_dup hx hb dX3_append_31 rfl ?_
          refine va_get (D := (dC, dI)) (ci := 3) (v := .int x36v3) (C := RX3) (T := TX3) (N := 14) hx hb hts zi_X3_append_3 hown hK hP 0 rfl rfl 0 (by decide) (hts (.fieldLink RX3 26 "WaxTurns$Reade\x72" "tapeSize" "I") (List.mem_cons_of_mem _ (List.mem_append_left _ (List.mem_of_getElem? (i := 0) rfl)))) (fun _ h9 => h9) rfl dX3_append_32 ?_
          refine lv_iconst (v := 1) hx hb dX3_append_35 zk_iconst_1 ?_
          refine lv_iadd hx hb dX3_append_36 ?_
          refine lv_topi (fun x36v4 ex36v4 => ?_)
          have qx36v4 : x36v4.toInt = x36v3.toInt + (1 : Int32).toInt := ai_add ex36v4 ⟨bx36v3.1, u14f_x36v3⟩ ⟨zq1, zq0⟩ (by decide) (by decide)
          have bx36v4 : (4 : Int) ≤ x36v4.toInt ∧ x36v4.toInt ≤ 900 := ⟨by rw [qx36v4]; exact Int.add_le_add bx36v3.1 zq1, by rw [qx36v4]; exact Int.add_le_add u14f_x36v3 zq0⟩
          have wx36v4 : x36v4.toInt = x36v3.toInt + 1 := qx36v4
          have hF0 := hF0.trans (fl_lt_eq (show x36v4.toInt = x36v3.toInt + 1 from qx36v4))
          refine va_put (D := (dC, dI)) (ci := 3) (v := .int x36v4) (ty := .int) (C := RX3) (T := TX3) (N := 14) hx hb hts zi_X3_append_3 tyX3 tyX3_ok nmX3 hown hK hP hD hS 0 rfl rfl 0 (by decide) (hts (.fieldLink RX3 26 "WaxTurns$Reade\x72" "tapeSize" "I") (List.mem_cons_of_mem _ (List.mem_append_left _ (List.mem_of_getElem? (i := 0) rfl)))) (fun _ h9 => h9) rfl (tyX3_ok 0 (by decide)) rfl rfl (Nat.le_of_ble_eq_true rfl) dX3_append_37 (fun H locs hP hD hS => ?_)
          obtain ⟨hP, hD⟩ := zc_re (w := [(a0, .inr (3, [.int x36v4, a0g_1, a0g_2, .ref a0_3, a0g_4, a0g_5, a0g_6, a0g_7, a0g_8, a0g_9, a0g_10, a0g_11, a0g_12, a0g_13])), (a0_3, .inl (ka0_3, 900, .inl (f29v4)))]) hP hD rfl
          refine lv_iinc (v := (-8)) (lv' := [(2, .int (-8)), (0, .ref a0), (1, .int a1)]) hx hb dX3_append_40 hl (k := 0) rfl (by decide +kernel) (by decide) rfl (fun ls hl => ?_)
          refine lv_goto (tgt := 3) hx hb dX3_append_43 (by decide) ?_
          refine lv_iload_n hx hb dX3_append_3 rfl (lv_at hl 0 rfl) ?_
          refine lv_if_lt (tgt := 46) hx hb dX3_append_4 (by decide) (fun _ => ?_) (fun c4 => absurd (by decide +kernel) c4)
          have hFe : FX = (x36v4.toInt, (fl_A f29v4)) := hF0
          exact W.vret hx hb hr (fun t ht hW => ⟨⟨(), rfl, trivial, x36v4, f29v4, ⟨Int.le_trans (by decide) bx36v4.1, bx36v4.2⟩, (by omega), hFe, by rw [ht]; exact hP, va_K.moved hW.alike hK, hD⟩, hS.F ht⟩) hS.2.2 dX3_append_46

set_option maxHeartbeats 4000000 in
set_option maxRecDepth 100000 in
theorem f_X7_feed (l : Launch) (dC : Nat → ClassId) (dI : Nat → Nat → Nat) (sz : Nat) (a0 : Nat) (a1 : Int32) (a2 : Int32) (a3 : Int32) (a4 : Int32) (a5 : Int32) (a0_0 : Nat) (a0g_1 a0g_2 a0g_3 a0g_4 a0g_5 a0g_6 a0g_7 a0g_8 a0g_9 a0g_10 : Value) (a0_0_0 : Int32) (a0_0g_1 a0_0g_2 a0_0g_4 a0_0g_5 a0_0g_6 a0_0g_7 a0_0g_8 a0_0g_9 a0_0g_10 a0_0g_11 a0_0g_12 a0_0g_13 : Value) (a0_0_3 : Nat) (ka0_0_3 : ClassId) (fa0_0_3 : Nat → Int32) (ba0_0_0_l : (0 : Int) ≤ a0_0_0.toInt) (ba0_0_0_u : a0_0_0.toInt ≤ (900 : Int)) : Met l yX7_feed wsX7_feed ({ frames := 1, cells := 0, slots := 0, locals := 22 }) (va_Pc [.ref a0, .int a1, .int a2, .int a3, .int a4, .int a5] (ax_C dC dI sz [(a0, .inr (7, [.ref a0_0, a0g_1, a0g_2, a0g_3, a0g_4, a0g_5, a0g_6, a0g_7, a0g_8, a0g_9, a0g_10])), (a0_0, .inr (3, [.int a0_0_0, a0_0g_1, a0_0g_2, .ref a0_0_3, a0_0g_4, a0_0g_5, a0_0g_6, a0_0g_7, a0_0g_8, a0_0g_9, a0_0g_10, a0_0g_11, a0_0g_12, a0_0g_13])), (a0_0_3, .inl (ka0_0_3, 900, .inl (fa0_0_3)))] [(ka0_0_3, .byte)] (fun _ => True))) (va_Qi (fun (r : Int32) (_ : Unit) => ((r = (-1) ∧ (880 : Int) < a0_0_0.toInt) ∨ (r.toInt = a0_0_0.toInt + 20 ∧ a0_0_0.toInt ≤ (880 : Int))) ∧ r.toInt = (Ff_X7_feed a1.toInt a2.toInt a3.toInt a4.toInt a5.toInt a0_0_0.toInt (fl_A fa0_0_3)).1) (fun (_ : Unit) (t : State) => ∃ na0_0_0 : Int32, ∃ nfa0_0_3 : Nat → Int32, ((0 : Int) ≤ na0_0_0.toInt ∧ na0_0_0.toInt ≤ 900) ∧ ((a0_0_0.toInt ≤ (880 : Int) → na0_0_0.toInt = a0_0_0.toInt + 20) ∧ ((880 : Int) < a0_0_0.toInt → na0_0_0.toInt = a0_0_0.toInt)) ∧ ((Ff_X7_feed a1.toInt a2.toInt a3.toInt a4.toInt a5.toInt a0_0_0.toInt (fl_A fa0_0_3)).2 = (na0_0_0.toInt, (fl_A nfa0_0_3))) ∧ ax_B dC dI (va_A [(a0, .inr (7, [.ref a0_0, a0g_1, a0g_2, a0g_3, a0g_4, a0g_5, a0g_6, a0g_7, a0g_8, a0g_9, a0g_10])), (a0_0, .inr (3, [.int a0_0_0, a0_0g_1, a0_0g_2, .ref a0_0_3, a0_0g_4, a0_0g_5, a0_0g_6, a0_0g_7, a0_0g_8, a0_0g_9, a0_0g_10, a0_0g_11, a0_0g_12, a0_0g_13])), (a0_0_3, .inl (ka0_0_3, 900, .inl (fa0_0_3)))] sz) [(a0, .inr (7, [.ref a0_0, a0g_1, a0g_2, a0g_3, a0g_4, a0g_5, a0g_6, a0g_7, a0g_8, a0g_9, a0g_10])), (a0_0, .inr (3, [.int na0_0_0, a0_0g_1, a0_0g_2, .ref a0_0_3, a0_0g_4, a0_0g_5, a0_0g_6, a0_0g_7, a0_0g_8, a0_0g_9, a0_0g_10, a0_0g_11, a0_0g_12, a0_0g_13])), (a0_0_3, .inl (ka0_0_3, 900, .inl (nfa0_0_3)))] [(ka0_0_3, .byte)] t) (va_A [(a0, .inr (7, [.ref a0_0, a0g_1, a0g_2, a0g_3, a0g_4, a0g_5, a0g_6, a0g_7, a0g_8, a0g_9, a0g_10])), (a0_0, .inr (3, [.int a0_0_0, a0_0g_1, a0_0g_2, .ref a0_0_3, a0_0g_4, a0_0g_5, a0_0g_6, a0_0g_7, a0_0g_8, a0_0g_9, a0_0g_10, a0_0g_11, a0_0g_12, a0_0g_13])), (a0_0_3, .inl (ka0_0_3, 900, .inl (fa0_0_3)))] sz)) 0 0 (va_A [(a0, .inr (7, [.ref a0_0, a0g_1, a0g_2, a0g_3, a0g_4, a0g_5, a0g_6, a0g_7, a0g_8, a0g_9, a0g_10])), (a0_0, .inr (3, [.int a0_0_0, a0_0g_1, a0_0g_2, .ref a0_0_3, a0_0g_4, a0_0g_5, a0_0g_6, a0_0g_7, a0_0g_8, a0_0g_9, a0_0g_10, a0_0g_11, a0_0g_12, a0_0g_13])), (a0_0_3, .inl (ka0_0_3, 900, .inl (fa0_0_3)))] sz) := by
  refine Met.ofW (cc := cX7_feed) (maxL := 6) (ret := (some .int)) (by decide) rfl ?_
  intro p e s m args below meth c s₁ B hml hv
  obtain ⟨rfl, hsz, hP, hK, hD0, hE⟩ := hv
  have hx := B.exec
  have hb := B.bytes
  have hr := B.returns
  have hts := atoms_spec (ws := wsX7_feed) B.pre
  have hown : s.vm.findClass RX7 = some m.cls := findClass_of_methodNamed B.named
  have hlocks := B.notSynchronized
  subst hsz
  have hD := hD0.self (sz := s.heap.size)
  generalize hAe : va_A [(a0, .inr (7, [.ref a0_0, a0g_1, a0g_2, a0g_3, a0g_4, a0g_5, a0g_6, a0g_7, a0g_8, a0g_9, a0g_10])), (a0_0, .inr (3, [.int a0_0_0, a0_0g_1, a0_0g_2, .ref a0_0_3, a0_0g_4, a0_0g_5, a0_0g_6, a0_0g_7, a0_0g_8, a0_0g_9, a0_0g_10, a0_0g_11, a0_0g_12, a0_0g_13])), (a0_0_3, .inl (ka0_0_3, 900, .inl (fa0_0_3)))] s.heap.size = A at hD ⊢
  have hA : ∀ q : Nat, s.heap.size ≤ q → A q := fun q h => by rw [← hAe]; exact Or.inr h
  have hS : va_S A s.heap s.heap [] := va_S.rf
  have hP : va_P (dC, dI) vwCl [(a0, .inr (7, [.ref a0_0, a0g_1, a0g_2, a0g_3, a0g_4, a0g_5, a0g_6, a0g_7, a0g_8, a0g_9, a0g_10])), (a0_0, .inr (3, [.int a0_0_0, a0_0g_1, a0_0g_2, .ref a0_0_3, a0_0g_4, a0_0g_5, a0_0g_6, a0_0g_7, a0_0g_8, a0_0g_9, a0_0g_10, a0_0g_11, a0_0g_12, a0_0g_13])), (a0_0_3, .inl (ka0_0_3, 900, .inl (fa0_0_3)))] s.heap := hP
  have hl := lv_entry ([.ref a0, .int a1, .int a2, .int a3, .int a4, .int a5]) (n := 6) (Nat.le_of_ble_eq_true rfl)
  rw [lg_entry_eq]
  generalize (lg_sl ([.ref a0, .int a1, .int a2, .int a3, .int a4, .int a5]) ++ List.replicate (6 - (lg_sl ([.ref a0, .int a1, .int a2, .int a3, .int a4, .int a5])).length) Slot.unset).toArray = ls at hl ⊢
  have hl : lv_has ls 6 [(0, .ref a0), (1, .int a1), (2, .int a2), (3, .int a3), (4, .int a4), (5, .int a5)] := hl
  generalize hFX : Ff_X7_feed a1.toInt a2.toInt a3.toInt a4.toInt a5.toInt a0_0_0.toInt (fl_A fa0_0_3) = FX at ⊢
  have hF0 := hFX.symm.trans (Ff_X7_feed.eq_1 a1.toInt a2.toInt a3.toInt a4.toInt a5.toInt a0_0_0.toInt (fl_A fa0_0_3))
  refine lv_aload_n hx hb dX7_feed_0 rfl (lv_at hl 0 rfl) ?_
  refine va_get (D := (dC, dI)) (ci := 7) (v := .ref a0_0) (C := RX7) (T := TX7) (N := 11) hx hb hts zi_X7_feed_7 hown hK hP 0 rfl rfl 0 (by decide) (hts (.fieldLink RX7 12 "WaxTurns" "reade\x72" "LWaxTurns$Reader;") (List.mem_cons_of_mem _ (List.mem_append_left _ (List.mem_append_left _ (List.mem_of_getElem? (i := 0) rfl))))) (fun _ h9 => h9) rfl dX7_feed_1 ?_
  refine va_get (D := (dC, dI)) (ci := 3) (v := .int a0_0_0) (C := RX3) (T := TX3) (N := 14) hx hb hts zi_X7_feed_3 hown hK hP 1 rfl rfl 0 (by decide) (hts (.fieldLink RX7 71 "WaxTurns$Reade\x72" "tapeSize" "I") (List.mem_cons_of_mem _ (List.mem_append_left _ (List.mem_append_left _ (List.mem_of_getElem? (i := 1) rfl))))) (fun _ h9 => h9) rfl dX7_feed_4 ?_
  refine lv_bipush (v := 20) hx hb dX7_feed_7 zk_bipush_20 ?_
  refine lv_iadd hx hb dX7_feed_9 ?_
  refine lv_topi (fun x9 ex9 => ?_)
  have qx9 : x9.toInt = a0_0_0.toInt + (20 : Int32).toInt := ai_add ex9 ⟨ba0_0_0_l, ba0_0_0_u⟩ ⟨zq153, zq154⟩ (by decide) (by decide)
  have bx9 : (20 : Int) ≤ x9.toInt ∧ x9.toInt ≤ 920 := ⟨by rw [qx9]; exact Int.add_le_add ba0_0_0_l zq153, by rw [qx9]; exact Int.add_le_add ba0_0_0_u zq154⟩
  have wx9 : x9.toInt = a0_0_0.toInt + 20 := qx9
  have hF0 := hF0.trans (fl_lt_eq (show x9.toInt = a0_0_0.toInt + 20 from qx9))
  refine lv_sipush (v := 900) hx hb dX7_feed_10 zk_sipush_900 ?_
  refine lv_icmp_le (tgt := 18) hx hb dX7_feed_13 (by decide) (fun c13 => ?_) (fun c13 => ?_)
  · have gc13 := ai_le c13
    have u13t_x9 : x9.toInt ≤ (900 : Int) := Int.le_trans gc13 zq39
    have u13t_a0_0_0 : a0_0_0.toInt ≤ (880 : Int) := by have h1 := wx9; have h2 := u13t_x9; omega
    have hF0 := hF0.trans (if_pos (show x9.toInt ≤ 900 from gc13))
    refine lv_aload_n hx hb dX7_feed_18 rfl (lv_at hl 0 rfl) ?_
    refine va_get (D := (dC, dI)) (ci := 7) (v := .ref a0_0) (C := RX7) (T := TX7) (N := 11) hx hb hts zi_X7_feed_7 hown hK hP 0 rfl rfl 0 (by decide) (hts (.fieldLink RX7 12 "WaxTurns" "reade\x72" "LWaxTurns$Reader;") (List.mem_cons_of_mem _ (List.mem_append_left _ (List.mem_append_left _ (List.mem_of_getElem? (i := 0) rfl))))) (fun _ h9 => h9) rfl dX7_feed_19 ?_
    refine lv_iload_n hx hb dX7_feed_22 rfl (lv_at hl 1 rfl) ?_
    obtain ⟨hPc, hDc, hFc, hCc⟩ := zc_cut (wc := [(a0_0, .inr (3, [.int a0_0_0, a0_0g_1, a0_0g_2, .ref a0_0_3, a0_0g_4, a0_0g_5, a0_0g_6, a0_0g_7, a0_0g_8, a0_0g_9, a0_0g_10, a0_0g_11, a0_0g_12, a0_0g_13])), (a0_0_3, .inl (ka0_0_3, 900, .inl (fa0_0_3)))]) hP hD hS hA [1, 2] (by decide +kernel) rfl
    have hKc := hK.sub (tys' := [(ka0_0_3, .byte)]) [0] rfl
    refine va_callv (va_runV (As := [.int a1]) (rest := []) ⟨hx, hb, hml, hown, hts⟩ (f_X3_appendX l dC dI s.heap.size a0_0 a1 a0_0_0 a0_0g_1 a0_0g_2 a0_0g_4 a0_0g_5 a0_0g_6 a0_0g_7 a0_0g_8 a0_0g_9 a0_0g_10 a0_0g_11 a0_0g_12 a0_0g_13 a0_0_3 ka0_0_3 fa0_0_3 ba0_0_0_l (Int.le_trans u13t_a0_0_0 zq243)) (cwV 1 hts gX7_feed_X3_append rfl rfl rfl zd_X3_append ⟨Nat.le_of_ble_eq_true rfl, Nat.le_of_ble_eq_true rfl⟩) ⟨ax_blind (fun _ _ _ _ _ => trivial), zr_3 hKc hPc (q0 := 0) rfl, ax_pre hPc hKc hDc (fun _ _ => trivial)⟩ rfl rfl hl.1 rfl (lv_room (Nat.le_of_ble_eq_true rfl)) dX7_feed_23 ⟨Nat.le_of_ble_eq_true rfl, Nat.le_of_ble_eq_true rfl⟩) hS (fun q _ h => hFc q h) hFc (fun u t H locs ht hvm hw hB hz1 hk1 hS => ?_)
    obtain ⟨v23na0_0, v23nfa0_3, bv23na0_0, hraw23_0, hraw23_1, hP1, hK1, hD1⟩ := hB
    rw [ht] at hP1
    obtain ⟨hP, hD⟩ := zc_back (w := [(a0, .inr (7, [.ref a0_0, a0g_1, a0g_2, a0g_3, a0g_4, a0g_5, a0g_6, a0g_7, a0g_8, a0g_9, a0g_10])), (a0_0, .inr (3, [.int v23na0_0, a0_0g_1, a0_0g_2, .ref a0_0_3, a0_0g_4, a0_0g_5, a0_0g_6, a0_0g_7, a0_0g_8, a0_0g_9, a0_0g_10, a0_0g_11, a0_0g_12, a0_0g_13])), (a0_0_3, .inl (ka0_0_3, 900, .inl (v23nfa0_3)))]) hP hD hCc hk1 hFc hP1 hD1 [.inl 0, .inr 0, .inr 1] (by decide +kernel) rfl
    have hc23 : Ff_X3_appendX a1.toInt a0_0_0.toInt (fl_A fa0_0_3) = (v23na0_0.toInt, (fl_A v23nfa0_3)) := hraw23_1
    have hF0 := hF0.trans (fl_c2_eq hc23)
    have l23z_v23na0_0 : (4 : Int) ≤ v23na0_0.toInt := by have h1 := hraw23_0; have h2 : (0 : Int) ≤ a0_0_0.toInt := ba0_0_0_l; omega
    have u23z_v23na0_0 : v23na0_0.toInt ≤ (884 : Int) := by have h1 := hraw23_0; have h2 : a0_0_0.toInt ≤ (880 : Int) := u13t_a0_0_0; omega
    refine lv_aload_n hx hb dX7_feed_26 rfl (lv_at hl 0 rfl) ?_
    refine va_get (D := (dC, dI)) (ci := 7) (v := .ref a0_0) (C := RX7) (T := TX7) (N := 11) hx hb hts zi_X7_feed_7 hown hK hP 0 rfl rfl 0 (by decide) (hts (.fieldLink RX7 12 "WaxTurns" "reade\x72" "LWaxTurns$Reader;") (List.mem_cons_of_mem _ (List.mem_append_left _ (List.mem_append_left _ (List.mem_of_getElem? (i := 0) rfl))))) (fun _ h9 => h9) rfl dX7_feed_27 ?_
    refine lv_iload_n hx hb dX7_feed_30 rfl (lv_at hl 2 rfl) ?_
    obtain ⟨hPc, hDc, hFc, hCc⟩ := zc_cut (wc := [(a0_0, .inr (3, [.int v23na0_0, a0_0g_1, a0_0g_2, .ref a0_0_3, a0_0g_4, a0_0g_5, a0_0g_6, a0_0g_7, a0_0g_8, a0_0g_9, a0_0g_10, a0_0g_11, a0_0g_12, a0_0g_13])), (a0_0_3, .inl (ka0_0_3, 900, .inl (v23nfa0_3)))]) hP hD hS hA [1, 2] (by decide +kernel) rfl
    have hKc := hK.sub (tys' := [(ka0_0_3, .byte)]) [0] rfl
    refine va_callv (va_runV (As := [.int a2]) (rest := []) ⟨hx, hb, hml, hown, hts⟩ (f_X3_appendX l dC dI H.size a0_0 a2 v23na0_0 a0_0g_1 a0_0g_2 a0_0g_4 a0_0g_5 a0_0g_6 a0_0g_7 a0_0g_8 a0_0g_9 a0_0g_10 a0_0g_11 a0_0g_12 a0_0g_13 a0_0_3 ka0_0_3 v23nfa0_3 (Int.le_trans zq101 l23z_v23na0_0) (Int.le_trans u23z_v23na0_0 zq244)) (cwV 1 hts gX7_feed_X3_append rfl rfl rfl zd_X3_append ⟨Nat.le_of_ble_eq_true rfl, Nat.le_of_ble_eq_true rfl⟩) ⟨ax_blind (fun _ _ _ _ _ => trivial), zr_3 hKc hPc (q0 := 0) rfl, ax_pre hPc hKc hDc (fun _ _ => trivial)⟩ rfl rfl hl.1 rfl (lv_room (Nat.le_of_ble_eq_true rfl)) dX7_feed_31 ⟨Nat.le_of_ble_eq_true rfl, Nat.le_of_ble_eq_true rfl⟩) hS (fun q _ h => hFc q h) hFc (fun u t H locs ht hvm hw hB hz1 hk1 hS => ?_)
    obtain ⟨v31na0_0, v31nfa0_3, bv31na0_0, hraw31_0, hraw31_1, hP1, hK1, hD1⟩ := hB
    rw [ht] at hP1
    obtain ⟨hP, hD⟩ := zc_back (w := [(a0, .inr (7, [.ref a0_0, a0g_1, a0g_2, a0g_3, a0g_4, a0g_5, a0g_6, a0g_7, a0g_8, a0g_9, a0g_10])), (a0_0, .inr (3, [.int v31na0_0, a0_0g_1, a0_0g_2, .ref a0_0_3, a0_0g_4, a0_0g_5, a0_0g_6, a0_0g_7, a0_0g_8, a0_0g_9, a0_0g_10, a0_0g_11, a0_0g_12, a0_0g_13])), (a0_0_3, .inl (ka0_0_3, 900, .inl (v31nfa0_3)))]) hP hD hCc hk1 hFc hP1 hD1 [.inl 0, .inr 0, .inr 1] (by decide +kernel) rfl
    have hc31 : Ff_X3_appendX a2.toInt v23na0_0.toInt (fl_A v23nfa0_3) = (v31na0_0.toInt, (fl_A v31nfa0_3)) := hraw31_1
    have hF0 := hF0.trans (fl_c2_eq hc31)
    have l31z_v31na0_0 : (8 : Int) ≤ v31na0_0.toInt := by have h1 := hraw31_0; have h2 : (4 : Int) ≤ v23na0_0.toInt := l23z_v23na0_0; omega
    have u31z_v31na0_0 : v31na0_0.toInt ≤ (888 : Int) := by have h1 := hraw31_0; have h2 : v23na0_0.toInt ≤ (884 : Int) := u23z_v23na0_0; omega
    refine lv_aload_n hx hb dX7_feed_34 rfl (lv_at hl 0 rfl) ?_
    refine va_get (D := (dC, dI)) (ci := 7) (v := .ref a0_0) (C := RX7) (T := TX7) (N := 11) hx hb hts zi_X7_feed_7 hown hK hP 0 rfl rfl 0 (by decide) (hts (.fieldLink RX7 12 "WaxTurns" "reade\x72" "LWaxTurns$Reader;") (List.mem_cons_of_mem _ (List.mem_append_left _ (List.mem_append_left _ (List.mem_of_getElem? (i := 0) rfl))))) (fun _ h9 => h9) rfl dX7_feed_35 ?_
    refine lv_iload_n hx hb dX7_feed_38 rfl (lv_at hl 3 rfl) ?_
    obtain ⟨hPc, hDc, hFc, hCc⟩ := zc_cut (wc := [(a0_0, .inr (3, [.int v31na0_0, a0_0g_1, a0_0g_2, .ref a0_0_3, a0_0g_4, a0_0g_5, a0_0g_6, a0_0g_7, a0_0g_8, a0_0g_9, a0_0g_10, a0_0g_11, a0_0g_12, a0_0g_13])), (a0_0_3, .inl (ka0_0_3, 900, .inl (v31nfa0_3)))]) hP hD hS hA [1, 2] (by decide +kernel) rfl
    have hKc := hK.sub (tys' := [(ka0_0_3, .byte)]) [0] rfl
    refine va_callv (va_runV (As := [.int a3]) (rest := []) ⟨hx, hb, hml, hown, hts⟩ (f_X3_appendX l dC dI H.size a0_0 a3 v31na0_0 a0_0g_1 a0_0g_2 a0_0g_4 a0_0g_5 a0_0g_6 a0_0g_7 a0_0g_8 a0_0g_9 a0_0g_10 a0_0g_11 a0_0g_12 a0_0g_13 a0_0_3 ka0_0_3 v31nfa0_3 (Int.le_trans zq20 l31z_v31na0_0) (Int.le_trans u31z_v31na0_0 zq245)) (cwV 1 hts gX7_feed_X3_append rfl rfl rfl zd_X3_append ⟨Nat.le_of_ble_eq_true rfl, Nat.le_of_ble_eq_true rfl⟩) ⟨ax_blind (fun _ _ _ _ _ => trivial), zr_3 hKc hPc (q0 := 0) rfl, ax_pre hPc hKc hDc (fun _ _ => trivial)⟩ rfl rfl hl.1 rfl (lv_room (Nat.le_of_ble_eq_true rfl)) dX7_feed_39 ⟨Nat.le_of_ble_eq_true rfl, Nat.le_of_ble_eq_true rfl⟩) hS (fun q _ h => hFc q h) hFc (fun u t H locs ht hvm hw hB hz1 hk1 hS => ?_)
    obtain ⟨v39na0_0, v39nfa0_3, bv39na0_0, hraw39_0, hraw39_1, hP1, hK1, hD1⟩ := hB
    rw [ht] at hP1
    obtain ⟨hP, hD⟩ := zc_back (w := [(a0, .inr (7, [.ref a0_0, a0g_1, a0g_2, a0g_3, a0g_4, a0g_5, a0g_6, a0g_7, a0g_8, a0g_9, a0g_10])), (a0_0, .inr (3, [.int v39na0_0, a0_0g_1, a0_0g_2, .ref a0_0_3, a0_0g_4, a0_0g_5, a0_0g_6, a0_0g_7, a0_0g_8, a0_0g_9, a0_0g_10, a0_0g_11, a0_0g_12, a0_0g_13])), (a0_0_3, .inl (ka0_0_3, 900, .inl (v39nfa0_3)))]) hP hD hCc hk1 hFc hP1 hD1 [.inl 0, .inr 0, .inr 1] (by decide +kernel) rfl
    have hc39 : Ff_X3_appendX a3.toInt v31na0_0.toInt (fl_A v31nfa0_3) = (v39na0_0.toInt, (fl_A v39nfa0_3)) := hraw39_1
    have hF0 := hF0.trans (fl_c2_eq hc39)
    have l39z_v39na0_0 : (12 : Int) ≤ v39na0_0.toInt := by have h1 := hraw39_0; have h2 : (8 : Int) ≤ v31na0_0.toInt := l31z_v31na0_0; omega
    have u39z_v39na0_0 : v39na0_0.toInt ≤ (892 : Int) := by have h1 := hraw39_0; have h2 : v31na0_0.toInt ≤ (888 : Int) := u31z_v31na0_0; omega
    refine lv_aload_n hx hb dX7_feed_42 rfl (lv_at hl 0 rfl) ?_
    refine va_get (D := (dC, dI)) (ci := 7) (v := .ref a0_0) (C := RX7) (T := TX7) (N := 11) hx hb hts zi_X7_feed_7 hown hK hP 0 rfl rfl 0 (by decide) (hts (.fieldLink RX7 12 "WaxTurns" "reade\x72" "LWaxTurns$Reader;") (List.mem_cons_of_mem _ (List.mem_append_left _ (List.mem_append_left _ (List.mem_of_getElem? (i := 0) rfl))))) (fun _ h9 => h9) rfl dX7_feed_43 ?_
    refine lv_iload hx hb dX7_feed_46 (lv_at hl 4 rfl) ?_
    obtain ⟨hPc, hDc, hFc, hCc⟩ := zc_cut (wc := [(a0_0, .inr (3, [.int v39na0_0, a0_0g_1, a0_0g_2, .ref a0_0_3, a0_0g_4, a0_0g_5, a0_0g_6, a0_0g_7, a0_0g_8, a0_0g_9, a0_0g_10, a0_0g_11, a0_0g_12, a0_0g_13])), (a0_0_3, .inl (ka0_0_3, 900, .inl (v39nfa0_3)))]) hP hD hS hA [1, 2] (by decide +kernel) rfl
    have hKc := hK.sub (tys' := [(ka0_0_3, .byte)]) [0] rfl
    refine va_callv (va_runV (As := [.int a4]) (rest := []) ⟨hx, hb, hml, hown, hts⟩ (f_X3_appendX l dC dI H.size a0_0 a4 v39na0_0 a0_0g_1 a0_0g_2 a0_0g_4 a0_0g_5 a0_0g_6 a0_0g_7 a0_0g_8 a0_0g_9 a0_0g_10 a0_0g_11 a0_0g_12 a0_0g_13 a0_0_3 ka0_0_3 v39nfa0_3 (Int.le_trans zq169 l39z_v39na0_0) (Int.le_trans u39z_v39na0_0 zq246)) (cwV 1 hts gX7_feed_X3_append rfl rfl rfl zd_X3_append ⟨Nat.le_of_ble_eq_true rfl, Nat.le_of_ble_eq_true rfl⟩) ⟨ax_blind (fun _ _ _ _ _ => trivial), zr_3 hKc hPc (q0 := 0) rfl, ax_pre hPc hKc hDc (fun _ _ => trivial)⟩ rfl rfl hl.1 rfl (lv_room (Nat.le_of_ble_eq_true rfl)) dX7_feed_48 ⟨Nat.le_of_ble_eq_true rfl, Nat.le_of_ble_eq_true rfl⟩) hS (fun q _ h => hFc q h) hFc (fun u t H locs ht hvm hw hB hz1 hk1 hS => ?_)
    obtain ⟨v48na0_0, v48nfa0_3, bv48na0_0, hraw48_0, hraw48_1, hP1, hK1, hD1⟩ := hB
    rw [ht] at hP1
    obtain ⟨hP, hD⟩ := zc_back (w := [(a0, .inr (7, [.ref a0_0, a0g_1, a0g_2, a0g_3, a0g_4, a0g_5, a0g_6, a0g_7, a0g_8, a0g_9, a0g_10])), (a0_0, .inr (3, [.int v48na0_0, a0_0g_1, a0_0g_2, .ref a0_0_3, a0_0g_4, a0_0g_5, a0_0g_6, a0_0g_7, a0_0g_8, a0_0g_9, a0_0g_10, a0_0g_11, a0_0g_12, a0_0g_13])), (a0_0_3, .inl (ka0_0_3, 900, .inl (v48nfa0_3)))]) hP hD hCc hk1 hFc hP1 hD1 [.inl 0, .inr 0, .inr 1] (by decide +kernel) rfl
    have hc48 : Ff_X3_appendX a4.toInt v39na0_0.toInt (fl_A v39nfa0_3) = (v48na0_0.toInt, (fl_A v48nfa0_3)) := hraw48_1
    have hF0 := hF0.trans (fl_c2_eq hc48)
    have l48z_v48na0_0 : (16 : Int) ≤ v48na0_0.toInt := by have h1 := hraw48_0; have h2 : (12 : Int) ≤ v39na0_0.toInt := l39z_v39na0_0; omega
    have u48z_v48na0_0 : v48na0_0.toInt ≤ (896 : Int) := by have h1 := hraw48_0; have h2 : v39na0_0.toInt ≤ (892 : Int) := u39z_v39na0_0; omega
    refine lv_aload_n hx hb dX7_feed_51 rfl (lv_at hl 0 rfl) ?_
    refine va_get (D := (dC, dI)) (ci := 7) (v := .ref a0_0) (C := RX7) (T := TX7) (N := 11) hx hb hts zi_X7_feed_7 hown hK hP 0 rfl rfl 0 (by decide) (hts (.fieldLink RX7 12 "WaxTurns" "reade\x72" "LWaxTurns$Reader;") (List.mem_cons_of_mem _ (List.mem_append_left _ (List.mem_append_left _ (List.mem_of_getElem? (i := 0) rfl))))) (fun _ h9 => h9) rfl dX7_feed_52 ?_
    refine lv_iload hx hb dX7_feed_55 (lv_at hl 5 rfl) ?_
    obtain ⟨hPc, hDc, hFc, hCc⟩ := zc_cut (wc := [(a0_0, .inr (3, [.int v48na0_0, a0_0g_1, a0_0g_2, .ref a0_0_3, a0_0g_4, a0_0g_5, a0_0g_6, a0_0g_7, a0_0g_8, a0_0g_9, a0_0g_10, a0_0g_11, a0_0g_12, a0_0g_13])), (a0_0_3, .inl (ka0_0_3, 900, .inl (v48nfa0_3)))]) hP hD hS hA [1, 2] (by decide +kernel) rfl
    have hKc := hK.sub (tys' := [(ka0_0_3, .byte)]) [0] rfl
    refine va_callv (va_runV (As := [.int a5]) (rest := []) ⟨hx, hb, hml, hown, hts⟩ (f_X3_appendX l dC dI H.size a0_0 a5 v48na0_0 a0_0g_1 a0_0g_2 a0_0g_4 a0_0g_5 a0_0g_6 a0_0g_7 a0_0g_8 a0_0g_9 a0_0g_10 a0_0g_11 a0_0g_12 a0_0g_13 a0_0_3 ka0_0_3 v48nfa0_3 (Int.le_trans zq218 l48z_v48na0_0) u48z_v48na0_0) (cwV 1 hts gX7_feed_X3_append rfl rfl rfl zd_X3_append ⟨Nat.le_of_ble_eq_true rfl, Nat.le_of_ble_eq_true rfl⟩) ⟨ax_blind (fun _ _ _ _ _ => trivial), zr_3 hKc hPc (q0 := 0) rfl, ax_pre hPc hKc hDc (fun _ _ => trivial)⟩ rfl rfl hl.1 rfl (lv_room (Nat.le_of_ble_eq_true rfl)) dX7_feed_57 ⟨Nat.le_of_ble_eq_true rfl, Nat.le_of_ble_eq_true rfl⟩) hS (fun q _ h => hFc q h) hFc (fun u t H locs ht hvm hw hB hz1 hk1 hS => ?_)
    obtain ⟨v57na0_0, v57nfa0_3, bv57na0_0, hraw57_0, hraw57_1, hP1, hK1, hD1⟩ := hB
    rw [ht] at hP1
    obtain ⟨hP, hD⟩ := zc_back (w := [(a0, .inr (7, [.ref a0_0, a0g_1, a0g_2, a0g_3, a0g_4, a0g_5, a0g_6, a0g_7, a0g_8, a0g_9, a0g_10])), (a0_0, .inr (3, [.int v57na0_0, a0_0g_1, a0_0g_2, .ref a0_0_3, a0_0g_4, a0_0g_5, a0_0g_6, a0_0g_7, a0_0g_8, a0_0g_9, a0_0g_10, a0_0g_11, a0_0g_12, a0_0g_13])), (a0_0_3, .inl (ka0_0_3, 900, .inl (v57nfa0_3)))]) hP hD hCc hk1 hFc hP1 hD1 [.inl 0, .inr 0, .inr 1] (by decide +kernel) rfl
    have hc57 : Ff_X3_appendX a5.toInt v48na0_0.toInt (fl_A v48nfa0_3) = (v57na0_0.toInt, (fl_A v57nfa0_3)) := hraw57_1
    have hF0 := hF0.trans (fl_c2_eq hc57)
    have l57z_v57na0_0 : (20 : Int) ≤ v57na0_0.toInt := by have h1 := hraw57_0; have h2 : (16 : Int) ≤ v48na0_0.toInt := l48z_v48na0_0; omega
    have u57z_v57na0_0 : v57na0_0.toInt ≤ (900 : Int) := bv57na0_0.2
    refine lv_aload_n hx hb dX7_feed_60 rfl (lv_at hl 0 rfl) ?_
    refine va_get (D := (dC, dI)) (ci := 7) (v := .ref a0_0) (C := RX7) (T := TX7) (N := 11) hx hb hts zi_X7_feed_7 hown hK hP 0 rfl rfl 0 (by decide) (hts (.fieldLink RX7 12 "WaxTurns" "reade\x72" "LWaxTurns$Reader;") (List.mem_cons_of_mem _ (List.mem_append_left _ (List.mem_append_left _ (List.mem_of_getElem? (i := 0) rfl))))) (fun _ h9 => h9) rfl dX7_feed_61 ?_
    refine va_get (D := (dC, dI)) (ci := 3) (v := .int v57na0_0) (C := RX3) (T := TX3) (N := 14) hx hb hts zi_X7_feed_3 hown hK hP 1 rfl rfl 0 (by decide) (hts (.fieldLink RX7 71 "WaxTurns$Reade\x72" "tapeSize" "I") (List.mem_cons_of_mem _ (List.mem_append_left _ (List.mem_append_left _ (List.mem_of_getElem? (i := 1) rfl))))) (fun _ h9 => h9) rfl dX7_feed_64 ?_
    have hFe : FX = (v57na0_0.toInt, v57na0_0.toInt, (fl_A v57nfa0_3)) := hF0
    exact W.iret (v := v57na0_0) hx hb hr (fun t ht hW => ⟨⟨v57na0_0, (), rfl, ⟨(Or.inr ⟨by omega, by omega⟩), (congrArg Prod.fst hFe).symm⟩, v57na0_0, v57nfa0_3, ⟨Int.le_trans (by decide) l57z_v57na0_0, u57z_v57na0_0⟩, (by constructor <;> intro h9 <;> omega), (congrArg Prod.snd hFe), by rw [ht]; exact hP, va_K.moved hW.alike hK, hD⟩, hS.F ht⟩) hS.2.2 dX7_feed_67
  · have gc13 := ai_nle c13
    have l13f_x9 : (901 : Int) ≤ x9.toInt := ai_ltlo gc13 zq37
    have l13f_a0_0_0 : (881 : Int) ≤ a0_0_0.toInt := by have h1 := wx9; have h2 := l13f_x9; omega
    have hF0 := hF0.trans (if_neg (show ¬ (x9.toInt ≤ 900) from Int.not_le.mpr gc13))
    refine lv_iconst (v := (-1)) hx hb dX7_feed_16 zk_iconst_n1 ?_
    have hFe : FX = ((-1), a0_0_0.toInt, (fl_A fa0_0_3)) := hF0
    exact W.iret (v := (-1)) hx hb hr (fun t ht hW => ⟨⟨(-1), (), rfl, ⟨(Or.inl ⟨rfl, by omega⟩), (congrArg Prod.fst hFe).symm⟩, a0_0_0, fa0_0_3, ⟨Int.le_trans (by decide) l13f_a0_0_0, ba0_0_0_u⟩, (by constructor <;> intro h9 <;> omega), (congrArg Prod.snd hFe), by rw [ht]; exact hP, va_K.moved hW.alike hK, hD⟩, hS.F ht⟩) hS.2.2 dX7_feed_17

set_option maxHeartbeats 4000000 in
set_option maxRecDepth 100000 in
theorem f_X8_feed (l : Launch) (dC : Nat → ClassId) (dI : Nat → Nat → Nat) (sz : Nat) (a0 : Nat) (a1 : Int32) (a2 : Int32) (a3 : Int32) (a4 : Int32) (a5 : Int32) (a0_0 : Int32) (a0_1 : Nat) (a0_2 : Int32) (a0g_3 a0g_4 a0g_5 a0g_6 a0g_7 a0g_8 a0g_9 a0g_10 a0g_11 a0g_12 a0g_13 a0g_14 a0g_15 a0g_16 a0g_17 a0g_18 a0g_19 a0g_20 a0g_21 a0g_22 a0g_23 a0g_24 a0g_25 a0g_26 a0g_27 a0g_28 a0g_29 a0g_30 a0g_31 a0g_32 a0g_33 a0g_34 a0g_35 a0g_36 a0g_37 a0g_38 a0g_39 : Value) (ka0_1 : ClassId) (fa0_1 : Nat → Int32) (ba0_2_l : (0 : Int) ≤ a0_2.toInt) (ba0_2_u : a0_2.toInt ≤ (900 : Int)) : Met l yX8_feed wsX8_feed ({ frames := 0, cells := 0, slots := 0, locals := 0 }) (va_Pc [.ref a0, .int a1, .int a2, .int a3, .int a4, .int a5] (ax_C dC dI sz [(a0, .inr (8, [Value.int a0_0, Value.ref a0_1, Value.int a0_2, a0g_3, a0g_4, a0g_5, a0g_6, a0g_7, a0g_8, a0g_9, a0g_10, a0g_11, a0g_12, a0g_13, a0g_14, a0g_15, a0g_16, a0g_17, a0g_18, a0g_19, a0g_20, a0g_21, a0g_22, a0g_23, a0g_24, a0g_25, a0g_26, a0g_27, a0g_28, a0g_29, a0g_30, a0g_31, a0g_32, a0g_33, a0g_34, a0g_35, a0g_36, a0g_37, a0g_38, a0g_39])), (a0_1, .inl (ka0_1, 900, .inl (fa0_1)))] [(ka0_1, .int)] (fun _ => True))) (va_Qi (fun (r : Int32) (_ : Unit) => ((r = (-1) ∧ (880 : Int) < a0_2.toInt) ∨ (r.toInt = a0_2.toInt + 20 ∧ a0_2.toInt ≤ (880 : Int))) ∧ r.toInt = (Ff_X8_feed a1.toInt a2.toInt a3.toInt a4.toInt a5.toInt a0_2.toInt (fl_A fa0_1)).1) (fun (_ : Unit) (t : State) => ∃ na0_0 : Int32, ∃ na0_2 : Int32, ∃ nfa0_1 : Nat → Int32, ((0 : Int) ≤ na0_2.toInt ∧ na0_2.toInt ≤ 900) ∧ ((a0_2.toInt ≤ (880 : Int) → na0_2.toInt = a0_2.toInt + 20) ∧ ((880 : Int) < a0_2.toInt → na0_2.toInt = a0_2.toInt)) ∧ ((Ff_X8_feed a1.toInt a2.toInt a3.toInt a4.toInt a5.toInt a0_2.toInt (fl_A fa0_1)).2 = (na0_0.toInt, na0_2.toInt, (fl_A nfa0_1))) ∧ ax_B dC dI (va_A [(a0, .inr (8, [Value.int a0_0, Value.ref a0_1, Value.int a0_2, a0g_3, a0g_4, a0g_5, a0g_6, a0g_7, a0g_8, a0g_9, a0g_10, a0g_11, a0g_12, a0g_13, a0g_14, a0g_15, a0g_16, a0g_17, a0g_18, a0g_19, a0g_20, a0g_21, a0g_22, a0g_23, a0g_24, a0g_25, a0g_26, a0g_27, a0g_28, a0g_29, a0g_30, a0g_31, a0g_32, a0g_33, a0g_34, a0g_35, a0g_36, a0g_37, a0g_38, a0g_39])), (a0_1, .inl (ka0_1, 900, .inl (fa0_1)))] sz) [(a0, .inr (8, [Value.int na0_0, Value.ref a0_1, Value.int na0_2, a0g_3, a0g_4, a0g_5, a0g_6, a0g_7, a0g_8, a0g_9, a0g_10, a0g_11, a0g_12, a0g_13, a0g_14, a0g_15, a0g_16, a0g_17, a0g_18, a0g_19, a0g_20, a0g_21, a0g_22, a0g_23, a0g_24, a0g_25, a0g_26, a0g_27, a0g_28, a0g_29, a0g_30, a0g_31, a0g_32, a0g_33, a0g_34, a0g_35, a0g_36, a0g_37, a0g_38, a0g_39])), (a0_1, .inl (ka0_1, 900, .inl (nfa0_1)))] [(ka0_1, .int)] t) (va_A [(a0, .inr (8, [Value.int a0_0, Value.ref a0_1, Value.int a0_2, a0g_3, a0g_4, a0g_5, a0g_6, a0g_7, a0g_8, a0g_9, a0g_10, a0g_11, a0g_12, a0g_13, a0g_14, a0g_15, a0g_16, a0g_17, a0g_18, a0g_19, a0g_20, a0g_21, a0g_22, a0g_23, a0g_24, a0g_25, a0g_26, a0g_27, a0g_28, a0g_29, a0g_30, a0g_31, a0g_32, a0g_33, a0g_34, a0g_35, a0g_36, a0g_37, a0g_38, a0g_39])), (a0_1, .inl (ka0_1, 900, .inl (fa0_1)))] sz)) 0 0 (va_A [(a0, .inr (8, [Value.int a0_0, Value.ref a0_1, Value.int a0_2, a0g_3, a0g_4, a0g_5, a0g_6, a0g_7, a0g_8, a0g_9, a0g_10, a0g_11, a0g_12, a0g_13, a0g_14, a0g_15, a0g_16, a0g_17, a0g_18, a0g_19, a0g_20, a0g_21, a0g_22, a0g_23, a0g_24, a0g_25, a0g_26, a0g_27, a0g_28, a0g_29, a0g_30, a0g_31, a0g_32, a0g_33, a0g_34, a0g_35, a0g_36, a0g_37, a0g_38, a0g_39])), (a0_1, .inl (ka0_1, 900, .inl (fa0_1)))] sz) := by
  refine Met.ofW (cc := cX8_feed) (maxL := 8) (ret := (some .int)) (by decide) rfl ?_
  intro p e s m args below meth c s₁ B hml hv
  obtain ⟨rfl, hsz, hP, hK, hD0, hE⟩ := hv
  have hx := B.exec
  have hb := B.bytes
  have hr := B.returns
  have hts := atoms_spec (ws := wsX8_feed) B.pre
  have hown : s.vm.findClass RX8 = some m.cls := findClass_of_methodNamed B.named
  have hlocks := B.notSynchronized
  subst hsz
  have hD := hD0.self (sz := s.heap.size)
  generalize hAe : va_A [(a0, .inr (8, [Value.int a0_0, Value.ref a0_1, Value.int a0_2, a0g_3, a0g_4, a0g_5, a0g_6, a0g_7, a0g_8, a0g_9, a0g_10, a0g_11, a0g_12, a0g_13, a0g_14, a0g_15, a0g_16, a0g_17, a0g_18, a0g_19, a0g_20, a0g_21, a0g_22, a0g_23, a0g_24, a0g_25, a0g_26, a0g_27, a0g_28, a0g_29, a0g_30, a0g_31, a0g_32, a0g_33, a0g_34, a0g_35, a0g_36, a0g_37, a0g_38, a0g_39])), (a0_1, .inl (ka0_1, 900, .inl (fa0_1)))] s.heap.size = A at hD ⊢
  have hA : ∀ q : Nat, s.heap.size ≤ q → A q := fun q h => by rw [← hAe]; exact Or.inr h
  have hS : va_S A s.heap s.heap [] := va_S.rf
  have hP : va_P (dC, dI) vwCl [(a0, .inr (8, [Value.int a0_0, Value.ref a0_1, Value.int a0_2, a0g_3, a0g_4, a0g_5, a0g_6, a0g_7, a0g_8, a0g_9, a0g_10, a0g_11, a0g_12, a0g_13, a0g_14, a0g_15, a0g_16, a0g_17, a0g_18, a0g_19, a0g_20, a0g_21, a0g_22, a0g_23, a0g_24, a0g_25, a0g_26, a0g_27, a0g_28, a0g_29, a0g_30, a0g_31, a0g_32, a0g_33, a0g_34, a0g_35, a0g_36, a0g_37, a0g_38, a0g_39])), (a0_1, .inl (ka0_1, 900, .inl (fa0_1)))] s.heap := hP
  have hl := lv_entry ([.ref a0, .int a1, .int a2, .int a3, .int a4, .int a5]) (n := 8) (Nat.le_of_ble_eq_true rfl)
  rw [lg_entry_eq]
  generalize (lg_sl ([.ref a0, .int a1, .int a2, .int a3, .int a4, .int a5]) ++ List.replicate (8 - (lg_sl ([.ref a0, .int a1, .int a2, .int a3, .int a4, .int a5])).length) Slot.unset).toArray = ls at hl ⊢
  have hl : lv_has ls 8 [(0, .ref a0), (1, .int a1), (2, .int a2), (3, .int a3), (4, .int a4), (5, .int a5)] := hl
  generalize hFX : Ff_X8_feed a1.toInt a2.toInt a3.toInt a4.toInt a5.toInt a0_2.toInt (fl_A fa0_1) = FX at ⊢
  have hF0 := hFX.symm.trans (Ff_X8_feed.eq_1 a1.toInt a2.toInt a3.toInt a4.toInt a5.toInt a0_2.toInt (fl_A fa0_1))
  refine ai_open (fun K hK0 => ?_)
  refine (hK0 _ _ _).mpr ?_
  refine lv_aload_n hx hb dX8_feed_0 rfl (lv_at hl 0 rfl) ?_
  refine lv_iconst (v := 0) hx hb dX8_feed_1 zk_iconst_0 ?_
  refine va_put (D := (dC, dI)) (ci := 8) (v := .int 0) (ty := .int) (C := RX8) (T := TX8) (N := 40) hx hb hts zi_X8_feed_8 tyX8 tyX8_ok nmX8 hown hK hP hD hS 0 rfl rfl 0 (by decide) (hts (.fieldLink RX8 59 "WaxTurnsModel" "thrown" "I") (List.mem_cons_of_mem _ (List.mem_append_left _ (List.mem_of_getElem? (i := 0) rfl)))) (fun _ h9 => h9) rfl (tyX8_ok 0 (by decide)) rfl rfl (Nat.le_of_ble_eq_true rfl) dX8_feed_2 (fun H locs hP hD hS => ?_)
  obtain ⟨hP, hD⟩ := zc_re (w := [(a0, .inr (8, [Value.int 0, Value.ref a0_1, Value.int a0_2, a0g_3, a0g_4, a0g_5, a0g_6, a0g_7, a0g_8, a0g_9, a0g_10, a0g_11, a0g_12, a0g_13, a0g_14, a0g_15, a0g_16, a0g_17, a0g_18, a0g_19, a0g_20, a0g_21, a0g_22, a0g_23, a0g_24, a0g_25, a0g_26, a0g_27, a0g_28, a0g_29, a0g_30, a0g_31, a0g_32, a0g_33, a0g_34, a0g_35, a0g_36, a0g_37, a0g_38, a0g_39])), (a0_1, .inl (ka0_1, 900, .inl (fa0_1)))]) hP hD rfl
  refine lv_aload_n hx hb dX8_feed_5 rfl (lv_at hl 0 rfl) ?_
  refine va_get (D := (dC, dI)) (ci := 8) (v := .int a0_2) (C := RX8) (T := TX8) (N := 40) hx hb hts zi_X8_feed_8 hown hK hP 0 rfl rfl 2 (by decide) (hts (.fieldLink RX8 65 "WaxTurnsModel" "taped" "I") (List.mem_cons_of_mem _ (List.mem_append_left _ (List.mem_of_getElem? (i := 1) rfl)))) (fun _ h9 => h9) rfl dX8_feed_6 ?_
  refine lv_bipush (v := 20) hx hb dX8_feed_9 zk_bipush_20 ?_
  refine lv_iadd hx hb dX8_feed_11 ?_
  refine lv_topi (fun x11 ex11 => ?_)
  have qx11 : x11.toInt = a0_2.toInt + (20 : Int32).toInt := ai_add ex11 ⟨ba0_2_l, ba0_2_u⟩ ⟨zq153, zq154⟩ (by decide) (by decide)
  have bx11 : (20 : Int) ≤ x11.toInt ∧ x11.toInt ≤ 920 := ⟨by rw [qx11]; exact Int.add_le_add ba0_2_l zq153, by rw [qx11]; exact Int.add_le_add ba0_2_u zq154⟩
  have wx11 : x11.toInt = a0_2.toInt + 20 := qx11
  have hF0 := hF0.trans (fl_lt_eq (show x11.toInt = a0_2.toInt + 20 from qx11))
  refine lv_sipush (v := 900) hx hb dX8_feed_12 zk_sipush_900 ?_
  refine lv_icmp_le (tgt := 20) hx hb dX8_feed_15 (by decide) (fun c15 => ?_) (fun c15 => ?_)
  · have gc15 := ai_le c15
    have u15t_x11 : x11.toInt ≤ (900 : Int) := Int.le_trans gc15 zq39
    have u15t_a0_2 : a0_2.toInt ≤ (880 : Int) := by have h1 := wx11; have h2 := u15t_x11; omega
    have hF0 := hF0.trans (if_pos (show x11.toInt ≤ 900 from gc15))
    refine lv_iconst (v := 0) hx hb dX8_feed_20 zk_iconst_0 ?_
    refine lv_istore (lv' := [(6, .int 0), (0, .ref a0), (1, .int a1), (2, .int a2), (3, .int a3), (4, .int a4), (5, .int a5)]) hx hb dX8_feed_21 hl (by decide) rfl (fun ls hl => ?_)
    have J23 : ∀ (n : Nat) (j23l6 : Int32) (j23a0_2 : Int32) (j23a0_1_a : Nat → Int32) (H : Heap) (locs : List Loc) (ls : Array Slot), (21 : Int) - j23l6.toInt ≤ (n : Int) → (0 : Int) ≤ j23l6.toInt → j23l6.toInt ≤ (20 : Int) → (0 : Int) ≤ j23a0_2.toInt → j23a0_2.toInt ≤ (900 : Int) → (j23a0_2.toInt = a0_2.toInt + j23l6.toInt) → (FX = fl_wh (fun t9 => Sf_X8_feed_23_1 a1.toInt a2.toInt a3.toInt a4.toInt a5.toInt t9.1 t9.2.1 t9.2.2) (0, 0, 0, (fun _ => 0)) n (j23l6.toInt, j23a0_2.toInt, (fl_A j23a0_1_a))) → va_P (dC, dI) vwCl [(a0, .inr (8, [Value.int 0, Value.ref a0_1, Value.int j23a0_2, a0g_3, a0g_4, a0g_5, a0g_6, a0g_7, a0g_8, a0g_9, a0g_10, a0g_11, a0g_12, a0g_13, a0g_14, a0g_15, a0g_16, a0g_17, a0g_18, a0g_19, a0g_20, a0g_21, a0g_22, a0g_23, a0g_24, a0g_25, a0g_26, a0g_27, a0g_28, a0g_29, a0g_30, a0g_31, a0g_32, a0g_33, a0g_34, a0g_35, a0g_36, a0g_37, a0g_38, a0g_39])), (a0_1, .inl (ka0_1, 900, .inl (j23a0_1_a)))] H → va_D A [(a0, .inr (8, [Value.int 0, Value.ref a0_1, Value.int j23a0_2, a0g_3, a0g_4, a0g_5, a0g_6, a0g_7, a0g_8, a0g_9, a0g_10, a0g_11, a0g_12, a0g_13, a0g_14, a0g_15, a0g_16, a0g_17, a0g_18, a0g_19, a0g_20, a0g_21, a0g_22, a0g_23, a0g_24, a0g_25, a0g_26, a0g_27, a0g_28, a0g_29, a0g_30, a0g_31, a0g_32, a0g_33, a0g_34, a0g_35, a0g_36, a0g_37, a0g_38, a0g_39])), (a0_1, .inl (ka0_1, 900, .inl (j23a0_1_a)))] → va_S A s.heap H locs → lv_has ls 8 [(0, .ref a0), (1, .int a1), (2, .int a2), (3, .int a3), (4, .int a4), (5, .int a5), (6, .int j23l6)] → K H locs (F0 m 23 ls []) := by
      intro n
      induction n with
      | zero =>
        intro j23l6 j23a0_2 j23a0_1_a H locs ls hm bj23l6_l bj23l6_u bj23a0_2_l bj23a0_2_u fd23 hF0 hP hD hS hl
        have h8 := ai_min j23l6
        have h9 := ai_max j23l6
        exact absurd hm (by omega)
      | succ n ih23 =>
        intro j23l6 j23a0_2 j23a0_1_a H locs ls hm bj23l6_l bj23l6_u bj23a0_2_l bj23a0_2_u fd23 hF0 hP hD hS hl
        refine (hK0 _ _ _).mpr ?_
        have hm23 := hm
        obtain ⟨SX23, hSX23⟩ : ∃ q9, Sf_X8_feed_23_1 a1.toInt a2.toInt a3.toInt a4.toInt a5.toInt j23l6.toInt j23a0_2.toInt (fl_A j23a0_1_a) = q9 := ⟨_, rfl⟩
        have hF1 := hSX23.symm.trans (Sf_X8_feed_23_1.eq_1 a1.toInt a2.toInt a3.toInt a4.toInt a5.toInt j23l6.toInt j23a0_2.toInt (fl_A j23a0_1_a))
        refine lv_iload hx hb dX8_feed_23 (lv_at hl 6 rfl) ?_
        refine lv_bipush (v := 20) hx hb dX8_feed_25 zk_bipush_20 ?_
        refine lv_icmp_ge (tgt := 120) hx hb dX8_feed_27 (by decide) (fun c27 => ?_) (fun c27 => ?_)
        · have gc27 := ai_le c27
          have l27t_j23l6 : (20 : Int) ≤ j23l6.toInt := Int.le_trans zq153 gc27
          have hF1 := hF1.trans (if_pos (show 20 ≤ j23l6.toInt from gc27))
          have hF0 := hF0.trans (fl_wh_r (hSX23.trans hF1))
          refine lv_aload_n hx hb dX8_feed_120 rfl (lv_at hl 0 rfl) ?_
          refine va_get (D := (dC, dI)) (ci := 8) (v := .int j23a0_2) (C := RX8) (T := TX8) (N := 40) hx hb hts zi_X8_feed_8 hown hK hP 0 rfl rfl 2 (by decide) (hts (.fieldLink RX8 65 "WaxTurnsModel" "taped" "I") (List.mem_cons_of_mem _ (List.mem_append_left _ (List.mem_of_getElem? (i := 1) rfl)))) (fun _ h9 => h9) rfl dX8_feed_121 ?_
          have hFe : FX = (j23a0_2.toInt, 0, j23a0_2.toInt, (fl_A j23a0_1_a)) := hF0
          exact W.iret (v := j23a0_2) hx hb hr (fun t ht hW => ⟨⟨j23a0_2, (), rfl, ⟨(Or.inr ⟨by omega, by omega⟩), (congrArg Prod.fst hFe).symm⟩, 0, j23a0_2, j23a0_1_a, ⟨bj23a0_2_l, bj23a0_2_u⟩, (by constructor <;> intro h9 <;> omega), (congrArg Prod.snd hFe), by rw [ht]; exact hP, va_K.moved hW.alike hK, hD⟩, hS.F ht⟩) hS.2.2 dX8_feed_124
        · have gc27 := ai_nle c27
          have u27f_j23l6 : j23l6.toInt ≤ (19 : Int) := ai_lthi gc27 zq154
          have hF1 := hF1.trans (if_neg (show ¬ (20 ≤ j23l6.toInt) from Int.not_le.mpr gc27))
          refine lv_iload hx hb dX8_feed_30 (lv_at hl 6 rfl) ?_
          refine lv_iconst (v := 4) hx hb dX8_feed_32 zk_iconst_4 ?_
          refine lv_icmp_ge (tgt := 40) hx hb dX8_feed_33 (by decide) (fun c33 => ?_) (fun c33 => ?_)
          · have gc33 := ai_le c33
            have l33t_j23l6 : (4 : Int) ≤ j23l6.toInt := Int.le_trans zq68 gc33
            have hF1 := hF1.trans (if_pos (show 4 ≤ j23l6.toInt from gc33))
            refine lv_iload hx hb dX8_feed_40 (lv_at hl 6 rfl) ?_
            refine lv_bipush (v := 8) hx hb dX8_feed_42 zk_bipush_8 ?_
            refine lv_icmp_ge (tgt := 51) hx hb dX8_feed_44 (by decide) (fun c44 => ?_) (fun c44 => ?_)
            · have gc44 := ai_le c44
              have l44t_j23l6 : (8 : Int) ≤ j23l6.toInt := Int.le_trans zq116 gc44
              have hF1 := hF1.trans (if_pos (show 8 ≤ j23l6.toInt from gc44))
              refine lv_iload hx hb dX8_feed_51 (lv_at hl 6 rfl) ?_
              refine lv_bipush (v := 12) hx hb dX8_feed_53 zk_bipush_12 ?_
              refine lv_icmp_ge (tgt := 62) hx hb dX8_feed_55 (by decide) (fun c55 => ?_) (fun c55 => ?_)
              · have gc55 := ai_le c55
                have l55t_j23l6 : (12 : Int) ≤ j23l6.toInt := Int.le_trans zq119 gc55
                have hF1 := hF1.trans (if_pos (show 12 ≤ j23l6.toInt from gc55))
                refine lv_iload hx hb dX8_feed_62 (lv_at hl 6 rfl) ?_
                refine lv_bipush (v := 16) hx hb dX8_feed_64 zk_bipush_16 ?_
                refine lv_icmp_ge (tgt := 74) hx hb dX8_feed_66 (by decide) (fun c66 => ?_) (fun c66 => ?_)
                · have gc66 := ai_le c66
                  have l66t_j23l6 : (16 : Int) ≤ j23l6.toInt := Int.le_trans zq110 gc66
                  have hF1 := hF1.trans (if_pos (show 16 ≤ j23l6.toInt from gc66))
                  refine lv_iload hx hb dX8_feed_74 (lv_at hl 5 rfl) ?_
                  refine lv_istore (lv' := [(7, .int a5), (0, .ref a0), (1, .int a1), (2, .int a2), (3, .int a3), (4, .int a4), (5, .int a5), (6, .int j23l6)]) hx hb dX8_feed_76 hl (by decide) rfl (fun ls hl => ?_)
                  refine lv_aload_n hx hb dX8_feed_78 rfl (lv_at hl 1 rfl) ?_
                  refine va_get (D := (dC, dI)) (ci := 8) (v := .ref a0_1) (C := RX8) (T := TX8) (N := 40) hx hb hts zi_X8_feed_8 hown hK hP 0 rfl rfl 1 (by decide) (hts (.fieldLink RX8 7 "WaxTurnsModel" "tape" "[I") (List.mem_cons_of_mem _ (List.mem_append_left _ (List.mem_of_getElem? (i := 2) rfl)))) (fun _ h9 => h9) rfl dX8_feed_79 ?_
                  refine lv_aload_n hx hb dX8_feed_82 rfl (lv_at hl 1 rfl) ?_
                  refine va_get (D := (dC, dI)) (ci := 8) (v := .int j23a0_2) (C := RX8) (T := TX8) (N := 40) hx hb hts zi_X8_feed_8 hown hK hP 0 rfl rfl 2 (by decide) (hts (.fieldLink RX8 65 "WaxTurnsModel" "taped" "I") (List.mem_cons_of_mem _ (List.mem_append_left _ (List.mem_of_getElem? (i := 1) rfl)))) (fun _ h9 => h9) rfl dX8_feed_83 ?_
                  have u83z_j23a0_2 : j23a0_2.toInt ≤ (899 : Int) := by omega
                  refine lv_iload hx hb dX8_feed_86 (lv_at hl 0 rfl) ?_
                  refine lv_bipush (v := 24) hx hb dX8_feed_88 zk_bipush_24 ?_
                  refine lv_bipush (v := 8) hx hb dX8_feed_90 zk_bipush_8 ?_
                  refine lv_iload hx hb dX8_feed_92 (lv_at hl 7 rfl) ?_
                  refine lv_iconst (v := 4) hx hb dX8_feed_94 zk_iconst_4 ?_
                  refine lv_irem hx hb dX8_feed_95 (by decide +kernel) ?_
                  refine lv_topi (fun x95 ex95 => ?_)
                  have qx95 := ai_rem2 ex95 (Int.le_trans zq218 l66t_j23l6) (Int.lt_of_lt_of_le zq178 zq68) zq67
                  have wx95 : x95.toInt = j23l6.toInt % 4 := qx95.1
                  have hF1 := hF1.trans (fl_lt_eq (show x95.toInt = j23l6.toInt % 4 from qx95.1))
                  refine lv_imul hx hb dX8_feed_96 ?_
                  refine lv_topi (fun x96 ex96 => ?_)
                  have qx96 : x96.toInt = (8 : Int32).toInt * x95.toInt ∧ (0 : Int) ≤ x96.toInt ∧ x96.toInt ≤ 24 := ai_mul ex96 ⟨zq116, zq28⟩ ⟨qx95.2.1, qx95.2.2⟩ (by decide) (by decide) zq219
                  have wx96 : x96.toInt = 8 * x95.toInt := qx96.1
                  have hF1 := hF1.trans (fl_lt_eq (show x96.toInt = 8 * x95.toInt from qx96.1))
                  refine lv_isub hx hb dX8_feed_97 ?_
                  refine lv_topi (fun x97 ex97 => ?_)
                  have qx97 : x97.toInt = (24 : Int32).toInt - x96.toInt := ai_sub ex97 ⟨zq132, zq133⟩ ⟨qx96.2.1, qx96.2.2⟩ (by decide) (by decide)
                  have bx97 : (0 : Int) ≤ x97.toInt ∧ x97.toInt ≤ 24 := ⟨by rw [qx97]; exact Int.sub_le_sub zq132 qx96.2.2, by rw [qx97]; exact Int.sub_le_sub zq133 qx96.2.1⟩
                  have hF1 := hF1.trans (fl_lt_eq (show x97.toInt = 24 - x96.toInt from qx97))
                  refine lv_ishr hx hb dX8_feed_98 ?_
                  refine lv_topi (fun x98 ex98 => ?_)
                  have fqx98 := fl_shr_eq ex98
                  have hF1 := hF1.trans (fl_lt_eq (show x98.toInt = fl_shr a5.toInt x97.toInt from fqx98))
                  refine lv_sipush (v := 255) hx hb dX8_feed_99 zk_sipush_255 ?_
                  refine lv_iand hx hb dX8_feed_102 ?_
                  refine lv_topi (fun x102 ex102 => ?_)
                  have fqx102 := fl_and_eq ex102
                  have hF1 := hF1.trans (fl_lt_eq (show x102.toInt = fl_and x98.toInt 255 from fqx102))
                  refine va_iast hx hb hK hP hD hS 1 0 rfl rfl (ai_in bj23a0_2_l u83z_j23a0_2 (by decide) (by decide)) dX8_feed_103 (fun H locs hP hD hS => ?_)
                  obtain ⟨f103, ef103⟩ : ∃ g9 : Nat → Int32, g9 = upd j23a0_1_a (j23a0_2 : Int32).toNatClampNeg x102 := ⟨_, rfl⟩
                  rw [← ef103] at hP hD
                  obtain ⟨hP, hD⟩ := zc_re (w := [(a0, .inr (8, [Value.int 0, Value.ref a0_1, Value.int j23a0_2, a0g_3, a0g_4, a0g_5, a0g_6, a0g_7, a0g_8, a0g_9, a0g_10, a0g_11, a0g_12, a0g_13, a0g_14, a0g_15, a0g_16, a0g_17, a0g_18, a0g_19, a0g_20, a0g_21, a0g_22, a0g_23, a0g_24, a0g_25, a0g_26, a0g_27, a0g_28, a0g_29, a0g_30, a0g_31, a0g_32, a0g_33, a0g_34, a0g_35, a0g_36, a0g_37, a0g_38, a0g_39])), (a0_1, .inl (ka0_1, 900, .inl (f103)))]) hP hD rfl
                  have fqf103 := fl_up_eq ef103
                  have hF1 := hF1.trans (fl_lt_eq (show (fl_A f103) = fl_up (fl_A j23a0_1_a) (j23a0_2.toInt.toNat) x102.toInt from fqf103))
                  refine lv_aload_n hx hb dX8_feed_104 rfl (lv_at hl 1 rfl) ?_
                  refine lv_dup hx hb dX8_feed_105 rfl ?_
                  refine va_get (D := (dC, dI)) (ci := 8) (v := .int j23a0_2) (C := RX8) (T := TX8) (N := 40) hx hb hts zi_X8_feed_8 hown hK hP 0 rfl rfl 2 (by decide) (hts (.fieldLink RX8 65 "WaxTurnsModel" "taped" "I") (List.mem_cons_of_mem _ (List.mem_append_left _ (List.mem_of_getElem? (i := 1) rfl)))) (fun _ h9 => h9) rfl dX8_feed_106 ?_
                  refine lv_iconst (v := 1) hx hb dX8_feed_109 zk_iconst_1 ?_
                  refine lv_iadd hx hb dX8_feed_110 ?_
                  refine lv_topi (fun x110 ex110 => ?_)
                  have qx110 : x110.toInt = j23a0_2.toInt + (1 : Int32).toInt := ai_add ex110 ⟨bj23a0_2_l, u83z_j23a0_2⟩ ⟨zq1, zq0⟩ (by decide) (by decide)
                  have bx110 : (1 : Int) ≤ x110.toInt ∧ x110.toInt ≤ 900 := ⟨by rw [qx110]; exact Int.add_le_add bj23a0_2_l zq1, by rw [qx110]; exact Int.add_le_add u83z_j23a0_2 zq0⟩
                  have wx110 : x110.toInt = j23a0_2.toInt + 1 := qx110
                  have hF1 := hF1.trans (fl_lt_eq (show x110.toInt = j23a0_2.toInt + 1 from qx110))
                  refine va_put (D := (dC, dI)) (ci := 8) (v := .int x110) (ty := .int) (C := RX8) (T := TX8) (N := 40) hx hb hts zi_X8_feed_8 tyX8 tyX8_ok nmX8 hown hK hP hD hS 0 rfl rfl 2 (by decide) (hts (.fieldLink RX8 65 "WaxTurnsModel" "taped" "I") (List.mem_cons_of_mem _ (List.mem_append_left _ (List.mem_of_getElem? (i := 1) rfl)))) (fun _ h9 => h9) rfl (tyX8_ok 2 (by decide)) rfl rfl (Nat.le_of_ble_eq_true rfl) dX8_feed_111 (fun H locs hP hD hS => ?_)
                  obtain ⟨hP, hD⟩ := zc_re (w := [(a0, .inr (8, [Value.int 0, Value.ref a0_1, Value.int x110, a0g_3, a0g_4, a0g_5, a0g_6, a0g_7, a0g_8, a0g_9, a0g_10, a0g_11, a0g_12, a0g_13, a0g_14, a0g_15, a0g_16, a0g_17, a0g_18, a0g_19, a0g_20, a0g_21, a0g_22, a0g_23, a0g_24, a0g_25, a0g_26, a0g_27, a0g_28, a0g_29, a0g_30, a0g_31, a0g_32, a0g_33, a0g_34, a0g_35, a0g_36, a0g_37, a0g_38, a0g_39])), (a0_1, .inl (ka0_1, 900, .inl (f103)))]) hP hD rfl
                  obtain ⟨x114, ex114⟩ : ∃ y : Int32, y = j23l6 + Int32.ofInt 1 := ⟨_, rfl⟩
                  have qx114 : x114.toInt = j23l6.toInt + 1 := ai_inc ex114 (by decide) (by decide) u27f_j23l6 (by decide)
                  have bx114 : (17 : Int) ≤ x114.toInt ∧ x114.toInt ≤ 20 := ⟨by rw [qx114]; exact Int.add_le_add l66t_j23l6 (Int.le_refl _), by rw [qx114]; exact Int.add_le_add u27f_j23l6 (Int.le_refl _)⟩
                  refine lv_iinc (v := x114) (lv' := [(6, .int x114), (7, .int a5), (0, .ref a0), (1, .int a1), (2, .int a2), (3, .int a3), (4, .int a4), (5, .int a5)]) hx hb dX8_feed_114 hl (k := 7) rfl ex114.symm (by decide) rfl (fun ls hl => ?_)
                  have hF1 := hF1.trans (fl_lt_eq (show x114.toInt = j23l6.toInt + 1 from qx114))
                  refine lv_goto (tgt := 23) hx hb dX8_feed_117 (by decide) ?_
                  exact (hK0 _ _ _).mp (ih23 x114 x110 f103 _ _ _ (by have h0 := qx114; omega) (Int.le_trans zq220 bx114.1) bx114.2 (Int.le_trans zq4 bx110.1) bx110.2 (by omega) (hF0.trans (fl_wh_l (hSX23.trans hF1))) hP hD hS (lv_sub hl [2, 3, 4, 5, 6, 7, 0] rfl))
                · have gc66 := ai_nle c66
                  have u66f_j23l6 : j23l6.toInt ≤ (15 : Int) := ai_lthi gc66 zq111
                  have hF1 := hF1.trans (if_neg (show ¬ (16 ≤ j23l6.toInt) from Int.not_le.mpr gc66))
                  refine lv_iload hx hb dX8_feed_69 (lv_at hl 4 rfl) ?_
                  refine lv_goto (tgt := 76) hx hb dX8_feed_71 (by decide) ?_
                  refine lv_istore (lv' := [(7, .int a4), (0, .ref a0), (1, .int a1), (2, .int a2), (3, .int a3), (4, .int a4), (5, .int a5), (6, .int j23l6)]) hx hb dX8_feed_76 hl (by decide) rfl (fun ls hl => ?_)
                  refine lv_aload_n hx hb dX8_feed_78 rfl (lv_at hl 1 rfl) ?_
                  refine va_get (D := (dC, dI)) (ci := 8) (v := .ref a0_1) (C := RX8) (T := TX8) (N := 40) hx hb hts zi_X8_feed_8 hown hK hP 0 rfl rfl 1 (by decide) (hts (.fieldLink RX8 7 "WaxTurnsModel" "tape" "[I") (List.mem_cons_of_mem _ (List.mem_append_left _ (List.mem_of_getElem? (i := 2) rfl)))) (fun _ h9 => h9) rfl dX8_feed_79 ?_
                  refine lv_aload_n hx hb dX8_feed_82 rfl (lv_at hl 1 rfl) ?_
                  refine va_get (D := (dC, dI)) (ci := 8) (v := .int j23a0_2) (C := RX8) (T := TX8) (N := 40) hx hb hts zi_X8_feed_8 hown hK hP 0 rfl rfl 2 (by decide) (hts (.fieldLink RX8 65 "WaxTurnsModel" "taped" "I") (List.mem_cons_of_mem _ (List.mem_append_left _ (List.mem_of_getElem? (i := 1) rfl)))) (fun _ h9 => h9) rfl dX8_feed_83 ?_
                  have u83z_j23a0_2 : j23a0_2.toInt ≤ (899 : Int) := by omega
                  refine lv_iload hx hb dX8_feed_86 (lv_at hl 0 rfl) ?_
                  refine lv_bipush (v := 24) hx hb dX8_feed_88 zk_bipush_24 ?_
                  refine lv_bipush (v := 8) hx hb dX8_feed_90 zk_bipush_8 ?_
                  refine lv_iload hx hb dX8_feed_92 (lv_at hl 7 rfl) ?_
                  refine lv_iconst (v := 4) hx hb dX8_feed_94 zk_iconst_4 ?_
                  refine lv_irem hx hb dX8_feed_95 (by decide +kernel) ?_
                  refine lv_topi (fun x95 ex95 => ?_)
                  have qx95 := ai_rem2 ex95 (Int.le_trans zq169 l55t_j23l6) (Int.lt_of_lt_of_le zq178 zq68) zq67
                  have wx95 : x95.toInt = j23l6.toInt % 4 := qx95.1
                  have hF1 := hF1.trans (fl_lt_eq (show x95.toInt = j23l6.toInt % 4 from qx95.1))
                  refine lv_imul hx hb dX8_feed_96 ?_
                  refine lv_topi (fun x96 ex96 => ?_)
                  have qx96 : x96.toInt = (8 : Int32).toInt * x95.toInt ∧ (0 : Int) ≤ x96.toInt ∧ x96.toInt ≤ 24 := ai_mul ex96 ⟨zq116, zq28⟩ ⟨qx95.2.1, qx95.2.2⟩ (by decide) (by decide) zq219
                  have wx96 : x96.toInt = 8 * x95.toInt := qx96.1
                  have hF1 := hF1.trans (fl_lt_eq (show x96.toInt = 8 * x95.toInt from qx96.1))
                  refine lv_isub hx hb dX8_feed_97 ?_
                  refine lv_topi (fun x97 ex97 => ?_)
                  have qx97 : x97.toInt = (24 : Int32).toInt - x96.toInt := ai_sub ex97 ⟨zq132, zq133⟩ ⟨qx96.2.1, qx96.2.2⟩ (by decide) (by decide)
                  have bx97 : (0 : Int) ≤ x97.toInt ∧ x97.toInt ≤ 24 := ⟨by rw [qx97]; exact Int.sub_le_sub zq132 qx96.2.2, by rw [qx97]; exact Int.sub_le_sub zq133 qx96.2.1⟩
                  have hF1 := hF1.trans (fl_lt_eq (show x97.toInt = 24 - x96.toInt from qx97))
                  refine lv_ishr hx hb dX8_feed_98 ?_
                  refine lv_topi (fun x98 ex98 => ?_)
                  have fqx98 := fl_shr_eq ex98
                  have hF1 := hF1.trans (fl_lt_eq (show x98.toInt = fl_shr a4.toInt x97.toInt from fqx98))
                  refine lv_sipush (v := 255) hx hb dX8_feed_99 zk_sipush_255 ?_
                  refine lv_iand hx hb dX8_feed_102 ?_
                  refine lv_topi (fun x102 ex102 => ?_)
                  have fqx102 := fl_and_eq ex102
                  have hF1 := hF1.trans (fl_lt_eq (show x102.toInt = fl_and x98.toInt 255 from fqx102))
                  refine va_iast hx hb hK hP hD hS 1 0 rfl rfl (ai_in bj23a0_2_l u83z_j23a0_2 (by decide) (by decide)) dX8_feed_103 (fun H locs hP hD hS => ?_)
                  obtain ⟨f103, ef103⟩ : ∃ g9 : Nat → Int32, g9 = upd j23a0_1_a (j23a0_2 : Int32).toNatClampNeg x102 := ⟨_, rfl⟩
                  rw [← ef103] at hP hD
                  obtain ⟨hP, hD⟩ := zc_re (w := [(a0, .inr (8, [Value.int 0, Value.ref a0_1, Value.int j23a0_2, a0g_3, a0g_4, a0g_5, a0g_6, a0g_7, a0g_8, a0g_9, a0g_10, a0g_11, a0g_12, a0g_13, a0g_14, a0g_15, a0g_16, a0g_17, a0g_18, a0g_19, a0g_20, a0g_21, a0g_22, a0g_23, a0g_24, a0g_25, a0g_26, a0g_27, a0g_28, a0g_29, a0g_30, a0g_31, a0g_32, a0g_33, a0g_34, a0g_35, a0g_36, a0g_37, a0g_38, a0g_39])), (a0_1, .inl (ka0_1, 900, .inl (f103)))]) hP hD rfl
                  have fqf103 := fl_up_eq ef103
                  have hF1 := hF1.trans (fl_lt_eq (show (fl_A f103) = fl_up (fl_A j23a0_1_a) (j23a0_2.toInt.toNat) x102.toInt from fqf103))
                  refine lv_aload_n hx hb dX8_feed_104 rfl (lv_at hl 1 rfl) ?_
                  refine lv_dup hx hb dX8_feed_105 rfl ?_
                  refine va_get (D := (dC, dI)) (ci := 8) (v := .int j23a0_2) (C := RX8) (T := TX8) (N := 40) hx hb hts zi_X8_feed_8 hown hK hP 0 rfl rfl 2 (by decide) (hts (.fieldLink RX8 65 "WaxTurnsModel" "taped" "I") (List.mem_cons_of_mem _ (List.mem_append_left _ (List.mem_of_getElem? (i := 1) rfl)))) (fun _ h9 => h9) rfl dX8_feed_106 ?_
                  refine lv_iconst (v := 1) hx hb dX8_feed_109 zk_iconst_1 ?_
                  refine lv_iadd hx hb dX8_feed_110 ?_
                  refine lv_topi (fun x110 ex110 => ?_)
                  have qx110 : x110.toInt = j23a0_2.toInt + (1 : Int32).toInt := ai_add ex110 ⟨bj23a0_2_l, u83z_j23a0_2⟩ ⟨zq1, zq0⟩ (by decide) (by decide)
                  have bx110 : (1 : Int) ≤ x110.toInt ∧ x110.toInt ≤ 900 := ⟨by rw [qx110]; exact Int.add_le_add bj23a0_2_l zq1, by rw [qx110]; exact Int.add_le_add u83z_j23a0_2 zq0⟩
                  have wx110 : x110.toInt = j23a0_2.toInt + 1 := qx110
                  have hF1 := hF1.trans (fl_lt_eq (show x110.toInt = j23a0_2.toInt + 1 from qx110))
                  refine va_put (D := (dC, dI)) (ci := 8) (v := .int x110) (ty := .int) (C := RX8) (T := TX8) (N := 40) hx hb hts zi_X8_feed_8 tyX8 tyX8_ok nmX8 hown hK hP hD hS 0 rfl rfl 2 (by decide) (hts (.fieldLink RX8 65 "WaxTurnsModel" "taped" "I") (List.mem_cons_of_mem _ (List.mem_append_left _ (List.mem_of_getElem? (i := 1) rfl)))) (fun _ h9 => h9) rfl (tyX8_ok 2 (by decide)) rfl rfl (Nat.le_of_ble_eq_true rfl) dX8_feed_111 (fun H locs hP hD hS => ?_)
                  obtain ⟨hP, hD⟩ := zc_re (w := [(a0, .inr (8, [Value.int 0, Value.ref a0_1, Value.int x110, a0g_3, a0g_4, a0g_5, a0g_6, a0g_7, a0g_8, a0g_9, a0g_10, a0g_11, a0g_12, a0g_13, a0g_14, a0g_15, a0g_16, a0g_17, a0g_18, a0g_19, a0g_20, a0g_21, a0g_22, a0g_23, a0g_24, a0g_25, a0g_26, a0g_27, a0g_28, a0g_29, a0g_30, a0g_31, a0g_32, a0g_33, a0g_34, a0g_35, a0g_36, a0g_37, a0g_38, a0g_39])), (a0_1, .inl (ka0_1, 900, .inl (f103)))]) hP hD rfl
                  obtain ⟨x114, ex114⟩ : ∃ y : Int32, y = j23l6 + Int32.ofInt 1 := ⟨_, rfl⟩
                  have qx114 : x114.toInt = j23l6.toInt + 1 := ai_inc ex114 (by decide) (by decide) u66f_j23l6 (by decide)
                  have bx114 : (13 : Int) ≤ x114.toInt ∧ x114.toInt ≤ 16 := ⟨by rw [qx114]; exact Int.add_le_add l55t_j23l6 (Int.le_refl _), by rw [qx114]; exact Int.add_le_add u66f_j23l6 (Int.le_refl _)⟩
                  refine lv_iinc (v := x114) (lv' := [(6, .int x114), (7, .int a4), (0, .ref a0), (1, .int a1), (2, .int a2), (3, .int a3), (4, .int a4), (5, .int a5)]) hx hb dX8_feed_114 hl (k := 7) rfl ex114.symm (by decide) rfl (fun ls hl => ?_)
                  have hF1 := hF1.trans (fl_lt_eq (show x114.toInt = j23l6.toInt + 1 from qx114))
                  refine lv_goto (tgt := 23) hx hb dX8_feed_117 (by decide) ?_
                  exact (hK0 _ _ _).mp (ih23 x114 x110 f103 _ _ _ (by have h0 := qx114; omega) (Int.le_trans zq221 bx114.1) (Int.le_trans bx114.2 zq222) (Int.le_trans zq4 bx110.1) bx110.2 (by omega) (hF0.trans (fl_wh_l (hSX23.trans hF1))) hP hD hS (lv_sub hl [2, 3, 4, 5, 6, 7, 0] rfl))
              · have gc55 := ai_nle c55
                have u55f_j23l6 : j23l6.toInt ≤ (11 : Int) := ai_lthi gc55 zq120
                have hF1 := hF1.trans (if_neg (show ¬ (12 ≤ j23l6.toInt) from Int.not_le.mpr gc55))
                refine lv_iload_n hx hb dX8_feed_58 rfl (lv_at hl 3 rfl) ?_
                refine lv_goto (tgt := 76) hx hb dX8_feed_59 (by decide) ?_
                refine lv_istore (lv' := [(7, .int a3), (0, .ref a0), (1, .int a1), (2, .int a2), (3, .int a3), (4, .int a4), (5, .int a5), (6, .int j23l6)]) hx hb dX8_feed_76 hl (by decide) rfl (fun ls hl => ?_)
                refine lv_aload_n hx hb dX8_feed_78 rfl (lv_at hl 1 rfl) ?_
                refine va_get (D := (dC, dI)) (ci := 8) (v := .ref a0_1) (C := RX8) (T := TX8) (N := 40) hx hb hts zi_X8_feed_8 hown hK hP 0 rfl rfl 1 (by decide) (hts (.fieldLink RX8 7 "WaxTurnsModel" "tape" "[I") (List.mem_cons_of_mem _ (List.mem_append_left _ (List.mem_of_getElem? (i := 2) rfl)))) (fun _ h9 => h9) rfl dX8_feed_79 ?_
                refine lv_aload_n hx hb dX8_feed_82 rfl (lv_at hl 1 rfl) ?_
                refine va_get (D := (dC, dI)) (ci := 8) (v := .int j23a0_2) (C := RX8) (T := TX8) (N := 40) hx hb hts zi_X8_feed_8 hown hK hP 0 rfl rfl 2 (by decide) (hts (.fieldLink RX8 65 "WaxTurnsModel" "taped" "I") (List.mem_cons_of_mem _ (List.mem_append_left _ (List.mem_of_getElem? (i := 1) rfl)))) (fun _ h9 => h9) rfl dX8_feed_83 ?_
                have u83z_j23a0_2 : j23a0_2.toInt ≤ (899 : Int) := by omega
                refine lv_iload hx hb dX8_feed_86 (lv_at hl 0 rfl) ?_
                refine lv_bipush (v := 24) hx hb dX8_feed_88 zk_bipush_24 ?_
                refine lv_bipush (v := 8) hx hb dX8_feed_90 zk_bipush_8 ?_
                refine lv_iload hx hb dX8_feed_92 (lv_at hl 7 rfl) ?_
                refine lv_iconst (v := 4) hx hb dX8_feed_94 zk_iconst_4 ?_
                refine lv_irem hx hb dX8_feed_95 (by decide +kernel) ?_
                refine lv_topi (fun x95 ex95 => ?_)
                have qx95 := ai_rem2 ex95 (Int.le_trans zq20 l44t_j23l6) (Int.lt_of_lt_of_le zq178 zq68) zq67
                have wx95 : x95.toInt = j23l6.toInt % 4 := qx95.1
                have hF1 := hF1.trans (fl_lt_eq (show x95.toInt = j23l6.toInt % 4 from qx95.1))
                refine lv_imul hx hb dX8_feed_96 ?_
                refine lv_topi (fun x96 ex96 => ?_)
                have qx96 : x96.toInt = (8 : Int32).toInt * x95.toInt ∧ (0 : Int) ≤ x96.toInt ∧ x96.toInt ≤ 24 := ai_mul ex96 ⟨zq116, zq28⟩ ⟨qx95.2.1, qx95.2.2⟩ (by decide) (by decide) zq219
                have wx96 : x96.toInt = 8 * x95.toInt := qx96.1
                have hF1 := hF1.trans (fl_lt_eq (show x96.toInt = 8 * x95.toInt from qx96.1))
                refine lv_isub hx hb dX8_feed_97 ?_
                refine lv_topi (fun x97 ex97 => ?_)
                have qx97 : x97.toInt = (24 : Int32).toInt - x96.toInt := ai_sub ex97 ⟨zq132, zq133⟩ ⟨qx96.2.1, qx96.2.2⟩ (by decide) (by decide)
                have bx97 : (0 : Int) ≤ x97.toInt ∧ x97.toInt ≤ 24 := ⟨by rw [qx97]; exact Int.sub_le_sub zq132 qx96.2.2, by rw [qx97]; exact Int.sub_le_sub zq133 qx96.2.1⟩
                have hF1 := hF1.trans (fl_lt_eq (show x97.toInt = 24 - x96.toInt from qx97))
                refine lv_ishr hx hb dX8_feed_98 ?_
                refine lv_topi (fun x98 ex98 => ?_)
                have fqx98 := fl_shr_eq ex98
                have hF1 := hF1.trans (fl_lt_eq (show x98.toInt = fl_shr a3.toInt x97.toInt from fqx98))
                refine lv_sipush (v := 255) hx hb dX8_feed_99 zk_sipush_255 ?_
                refine lv_iand hx hb dX8_feed_102 ?_
                refine lv_topi (fun x102 ex102 => ?_)
                have fqx102 := fl_and_eq ex102
                have hF1 := hF1.trans (fl_lt_eq (show x102.toInt = fl_and x98.toInt 255 from fqx102))
                refine va_iast hx hb hK hP hD hS 1 0 rfl rfl (ai_in bj23a0_2_l u83z_j23a0_2 (by decide) (by decide)) dX8_feed_103 (fun H locs hP hD hS => ?_)
                obtain ⟨f103, ef103⟩ : ∃ g9 : Nat → Int32, g9 = upd j23a0_1_a (j23a0_2 : Int32).toNatClampNeg x102 := ⟨_, rfl⟩
                rw [← ef103] at hP hD
                obtain ⟨hP, hD⟩ := zc_re (w := [(a0, .inr (8, [Value.int 0, Value.ref a0_1, Value.int j23a0_2, a0g_3, a0g_4, a0g_5, a0g_6, a0g_7, a0g_8, a0g_9, a0g_10, a0g_11, a0g_12, a0g_13, a0g_14, a0g_15, a0g_16, a0g_17, a0g_18, a0g_19, a0g_20, a0g_21, a0g_22, a0g_23, a0g_24, a0g_25, a0g_26, a0g_27, a0g_28, a0g_29, a0g_30, a0g_31, a0g_32, a0g_33, a0g_34, a0g_35, a0g_36, a0g_37, a0g_38, a0g_39])), (a0_1, .inl (ka0_1, 900, .inl (f103)))]) hP hD rfl
                have fqf103 := fl_up_eq ef103
                have hF1 := hF1.trans (fl_lt_eq (show (fl_A f103) = fl_up (fl_A j23a0_1_a) (j23a0_2.toInt.toNat) x102.toInt from fqf103))
                refine lv_aload_n hx hb dX8_feed_104 rfl (lv_at hl 1 rfl) ?_
                refine lv_dup hx hb dX8_feed_105 rfl ?_
                refine va_get (D := (dC, dI)) (ci := 8) (v := .int j23a0_2) (C := RX8) (T := TX8) (N := 40) hx hb hts zi_X8_feed_8 hown hK hP 0 rfl rfl 2 (by decide) (hts (.fieldLink RX8 65 "WaxTurnsModel" "taped" "I") (List.mem_cons_of_mem _ (List.mem_append_left _ (List.mem_of_getElem? (i := 1) rfl)))) (fun _ h9 => h9) rfl dX8_feed_106 ?_
                refine lv_iconst (v := 1) hx hb dX8_feed_109 zk_iconst_1 ?_
                refine lv_iadd hx hb dX8_feed_110 ?_
                refine lv_topi (fun x110 ex110 => ?_)
                have qx110 : x110.toInt = j23a0_2.toInt + (1 : Int32).toInt := ai_add ex110 ⟨bj23a0_2_l, u83z_j23a0_2⟩ ⟨zq1, zq0⟩ (by decide) (by decide)
                have bx110 : (1 : Int) ≤ x110.toInt ∧ x110.toInt ≤ 900 := ⟨by rw [qx110]; exact Int.add_le_add bj23a0_2_l zq1, by rw [qx110]; exact Int.add_le_add u83z_j23a0_2 zq0⟩
                have wx110 : x110.toInt = j23a0_2.toInt + 1 := qx110
                have hF1 := hF1.trans (fl_lt_eq (show x110.toInt = j23a0_2.toInt + 1 from qx110))
                refine va_put (D := (dC, dI)) (ci := 8) (v := .int x110) (ty := .int) (C := RX8) (T := TX8) (N := 40) hx hb hts zi_X8_feed_8 tyX8 tyX8_ok nmX8 hown hK hP hD hS 0 rfl rfl 2 (by decide) (hts (.fieldLink RX8 65 "WaxTurnsModel" "taped" "I") (List.mem_cons_of_mem _ (List.mem_append_left _ (List.mem_of_getElem? (i := 1) rfl)))) (fun _ h9 => h9) rfl (tyX8_ok 2 (by decide)) rfl rfl (Nat.le_of_ble_eq_true rfl) dX8_feed_111 (fun H locs hP hD hS => ?_)
                obtain ⟨hP, hD⟩ := zc_re (w := [(a0, .inr (8, [Value.int 0, Value.ref a0_1, Value.int x110, a0g_3, a0g_4, a0g_5, a0g_6, a0g_7, a0g_8, a0g_9, a0g_10, a0g_11, a0g_12, a0g_13, a0g_14, a0g_15, a0g_16, a0g_17, a0g_18, a0g_19, a0g_20, a0g_21, a0g_22, a0g_23, a0g_24, a0g_25, a0g_26, a0g_27, a0g_28, a0g_29, a0g_30, a0g_31, a0g_32, a0g_33, a0g_34, a0g_35, a0g_36, a0g_37, a0g_38, a0g_39])), (a0_1, .inl (ka0_1, 900, .inl (f103)))]) hP hD rfl
                obtain ⟨x114, ex114⟩ : ∃ y : Int32, y = j23l6 + Int32.ofInt 1 := ⟨_, rfl⟩
                have qx114 : x114.toInt = j23l6.toInt + 1 := ai_inc ex114 (by decide) (by decide) u55f_j23l6 (by decide)
                have bx114 : (9 : Int) ≤ x114.toInt ∧ x114.toInt ≤ 12 := ⟨by rw [qx114]; exact Int.add_le_add l44t_j23l6 (Int.le_refl _), by rw [qx114]; exact Int.add_le_add u55f_j23l6 (Int.le_refl _)⟩
                refine lv_iinc (v := x114) (lv' := [(6, .int x114), (7, .int a3), (0, .ref a0), (1, .int a1), (2, .int a2), (3, .int a3), (4, .int a4), (5, .int a5)]) hx hb dX8_feed_114 hl (k := 7) rfl ex114.symm (by decide) rfl (fun ls hl => ?_)
                have hF1 := hF1.trans (fl_lt_eq (show x114.toInt = j23l6.toInt + 1 from qx114))
                refine lv_goto (tgt := 23) hx hb dX8_feed_117 (by decide) ?_
                exact (hK0 _ _ _).mp (ih23 x114 x110 f103 _ _ _ (by have h0 := qx114; omega) (Int.le_trans zq7 bx114.1) (Int.le_trans bx114.2 zq223) (Int.le_trans zq4 bx110.1) bx110.2 (by omega) (hF0.trans (fl_wh_l (hSX23.trans hF1))) hP hD hS (lv_sub hl [2, 3, 4, 5, 6, 7, 0] rfl))
            · have gc44 := ai_nle c44
              have u44f_j23l6 : j23l6.toInt ≤ (7 : Int) := ai_lthi gc44 zq28
              have hF1 := hF1.trans (if_neg (show ¬ (8 ≤ j23l6.toInt) from Int.not_le.mpr gc44))
              refine lv_iload_n hx hb dX8_feed_47 rfl (lv_at hl 2 rfl) ?_
              refine lv_goto (tgt := 76) hx hb dX8_feed_48 (by decide) ?_
              refine lv_istore (lv' := [(7, .int a2), (0, .ref a0), (1, .int a1), (2, .int a2), (3, .int a3), (4, .int a4), (5, .int a5), (6, .int j23l6)]) hx hb dX8_feed_76 hl (by decide) rfl (fun ls hl => ?_)
              refine lv_aload_n hx hb dX8_feed_78 rfl (lv_at hl 1 rfl) ?_
              refine va_get (D := (dC, dI)) (ci := 8) (v := .ref a0_1) (C := RX8) (T := TX8) (N := 40) hx hb hts zi_X8_feed_8 hown hK hP 0 rfl rfl 1 (by decide) (hts (.fieldLink RX8 7 "WaxTurnsModel" "tape" "[I") (List.mem_cons_of_mem _ (List.mem_append_left _ (List.mem_of_getElem? (i := 2) rfl)))) (fun _ h9 => h9) rfl dX8_feed_79 ?_
              refine lv_aload_n hx hb dX8_feed_82 rfl (lv_at hl 1 rfl) ?_
              refine va_get (D := (dC, dI)) (ci := 8) (v := .int j23a0_2) (C := RX8) (T := TX8) (N := 40) hx hb hts zi_X8_feed_8 hown hK hP 0 rfl rfl 2 (by decide) (hts (.fieldLink RX8 65 "WaxTurnsModel" "taped" "I") (List.mem_cons_of_mem _ (List.mem_append_left _ (List.mem_of_getElem? (i := 1) rfl)))) (fun _ h9 => h9) rfl dX8_feed_83 ?_
              have u83z_j23a0_2 : j23a0_2.toInt ≤ (899 : Int) := by omega
              refine lv_iload hx hb dX8_feed_86 (lv_at hl 0 rfl) ?_
              refine lv_bipush (v := 24) hx hb dX8_feed_88 zk_bipush_24 ?_
              refine lv_bipush (v := 8) hx hb dX8_feed_90 zk_bipush_8 ?_
              refine lv_iload hx hb dX8_feed_92 (lv_at hl 7 rfl) ?_
              refine lv_iconst (v := 4) hx hb dX8_feed_94 zk_iconst_4 ?_
              refine lv_irem hx hb dX8_feed_95 (by decide +kernel) ?_
              refine lv_topi (fun x95 ex95 => ?_)
              have qx95 := ai_rem2 ex95 (Int.le_trans zq101 l33t_j23l6) (Int.lt_of_lt_of_le zq178 zq68) zq67
              have wx95 : x95.toInt = j23l6.toInt % 4 := qx95.1
              have hF1 := hF1.trans (fl_lt_eq (show x95.toInt = j23l6.toInt % 4 from qx95.1))
              refine lv_imul hx hb dX8_feed_96 ?_
              refine lv_topi (fun x96 ex96 => ?_)
              have qx96 : x96.toInt = (8 : Int32).toInt * x95.toInt ∧ (0 : Int) ≤ x96.toInt ∧ x96.toInt ≤ 24 := ai_mul ex96 ⟨zq116, zq28⟩ ⟨qx95.2.1, qx95.2.2⟩ (by decide) (by decide) zq219
              have wx96 : x96.toInt = 8 * x95.toInt := qx96.1
              have hF1 := hF1.trans (fl_lt_eq (show x96.toInt = 8 * x95.toInt from qx96.1))
              refine lv_isub hx hb dX8_feed_97 ?_
              refine lv_topi (fun x97 ex97 => ?_)
              have qx97 : x97.toInt = (24 : Int32).toInt - x96.toInt := ai_sub ex97 ⟨zq132, zq133⟩ ⟨qx96.2.1, qx96.2.2⟩ (by decide) (by decide)
              have bx97 : (0 : Int) ≤ x97.toInt ∧ x97.toInt ≤ 24 := ⟨by rw [qx97]; exact Int.sub_le_sub zq132 qx96.2.2, by rw [qx97]; exact Int.sub_le_sub zq133 qx96.2.1⟩
              have hF1 := hF1.trans (fl_lt_eq (show x97.toInt = 24 - x96.toInt from qx97))
              refine lv_ishr hx hb dX8_feed_98 ?_
              refine lv_topi (fun x98 ex98 => ?_)
              have fqx98 := fl_shr_eq ex98
              have hF1 := hF1.trans (fl_lt_eq (show x98.toInt = fl_shr a2.toInt x97.toInt from fqx98))
              refine lv_sipush (v := 255) hx hb dX8_feed_99 zk_sipush_255 ?_
              refine lv_iand hx hb dX8_feed_102 ?_
              refine lv_topi (fun x102 ex102 => ?_)
              have fqx102 := fl_and_eq ex102
              have hF1 := hF1.trans (fl_lt_eq (show x102.toInt = fl_and x98.toInt 255 from fqx102))
              refine va_iast hx hb hK hP hD hS 1 0 rfl rfl (ai_in bj23a0_2_l u83z_j23a0_2 (by decide) (by decide)) dX8_feed_103 (fun H locs hP hD hS => ?_)
              obtain ⟨f103, ef103⟩ : ∃ g9 : Nat → Int32, g9 = upd j23a0_1_a (j23a0_2 : Int32).toNatClampNeg x102 := ⟨_, rfl⟩
              rw [← ef103] at hP hD
              obtain ⟨hP, hD⟩ := zc_re (w := [(a0, .inr (8, [Value.int 0, Value.ref a0_1, Value.int j23a0_2, a0g_3, a0g_4, a0g_5, a0g_6, a0g_7, a0g_8, a0g_9, a0g_10, a0g_11, a0g_12, a0g_13, a0g_14, a0g_15, a0g_16, a0g_17, a0g_18, a0g_19, a0g_20, a0g_21, a0g_22, a0g_23, a0g_24, a0g_25, a0g_26, a0g_27, a0g_28, a0g_29, a0g_30, a0g_31, a0g_32, a0g_33, a0g_34, a0g_35, a0g_36, a0g_37, a0g_38, a0g_39])), (a0_1, .inl (ka0_1, 900, .inl (f103)))]) hP hD rfl
              have fqf103 := fl_up_eq ef103
              have hF1 := hF1.trans (fl_lt_eq (show (fl_A f103) = fl_up (fl_A j23a0_1_a) (j23a0_2.toInt.toNat) x102.toInt from fqf103))
              refine lv_aload_n hx hb dX8_feed_104 rfl (lv_at hl 1 rfl) ?_
              refine lv_dup hx hb dX8_feed_105 rfl ?_
              refine va_get (D := (dC, dI)) (ci := 8) (v := .int j23a0_2) (C := RX8) (T := TX8) (N := 40) hx hb hts zi_X8_feed_8 hown hK hP 0 rfl rfl 2 (by decide) (hts (.fieldLink RX8 65 "WaxTurnsModel" "taped" "I") (List.mem_cons_of_mem _ (List.mem_append_left _ (List.mem_of_getElem? (i := 1) rfl)))) (fun _ h9 => h9) rfl dX8_feed_106 ?_
              refine lv_iconst (v := 1) hx hb dX8_feed_109 zk_iconst_1 ?_
              refine lv_iadd hx hb dX8_feed_110 ?_
              refine lv_topi (fun x110 ex110 => ?_)
              have qx110 : x110.toInt = j23a0_2.toInt + (1 : Int32).toInt := ai_add ex110 ⟨bj23a0_2_l, u83z_j23a0_2⟩ ⟨zq1, zq0⟩ (by decide) (by decide)
              have bx110 : (1 : Int) ≤ x110.toInt ∧ x110.toInt ≤ 900 := ⟨by rw [qx110]; exact Int.add_le_add bj23a0_2_l zq1, by rw [qx110]; exact Int.add_le_add u83z_j23a0_2 zq0⟩
              have wx110 : x110.toInt = j23a0_2.toInt + 1 := qx110
              have hF1 := hF1.trans (fl_lt_eq (show x110.toInt = j23a0_2.toInt + 1 from qx110))
              refine va_put (D := (dC, dI)) (ci := 8) (v := .int x110) (ty := .int) (C := RX8) (T := TX8) (N := 40) hx hb hts zi_X8_feed_8 tyX8 tyX8_ok nmX8 hown hK hP hD hS 0 rfl rfl 2 (by decide) (hts (.fieldLink RX8 65 "WaxTurnsModel" "taped" "I") (List.mem_cons_of_mem _ (List.mem_append_left _ (List.mem_of_getElem? (i := 1) rfl)))) (fun _ h9 => h9) rfl (tyX8_ok 2 (by decide)) rfl rfl (Nat.le_of_ble_eq_true rfl) dX8_feed_111 (fun H locs hP hD hS => ?_)
              obtain ⟨hP, hD⟩ := zc_re (w := [(a0, .inr (8, [Value.int 0, Value.ref a0_1, Value.int x110, a0g_3, a0g_4, a0g_5, a0g_6, a0g_7, a0g_8, a0g_9, a0g_10, a0g_11, a0g_12, a0g_13, a0g_14, a0g_15, a0g_16, a0g_17, a0g_18, a0g_19, a0g_20, a0g_21, a0g_22, a0g_23, a0g_24, a0g_25, a0g_26, a0g_27, a0g_28, a0g_29, a0g_30, a0g_31, a0g_32, a0g_33, a0g_34, a0g_35, a0g_36, a0g_37, a0g_38, a0g_39])), (a0_1, .inl (ka0_1, 900, .inl (f103)))]) hP hD rfl
              obtain ⟨x114, ex114⟩ : ∃ y : Int32, y = j23l6 + Int32.ofInt 1 := ⟨_, rfl⟩
              have qx114 : x114.toInt = j23l6.toInt + 1 := ai_inc ex114 (by decide) (by decide) u44f_j23l6 (by decide)
              have bx114 : (5 : Int) ≤ x114.toInt ∧ x114.toInt ≤ 8 := ⟨by rw [qx114]; exact Int.add_le_add l33t_j23l6 (Int.le_refl _), by rw [qx114]; exact Int.add_le_add u44f_j23l6 (Int.le_refl _)⟩
              refine lv_iinc (v := x114) (lv' := [(6, .int x114), (7, .int a2), (0, .ref a0), (1, .int a1), (2, .int a2), (3, .int a3), (4, .int a4), (5, .int a5)]) hx hb dX8_feed_114 hl (k := 7) rfl ex114.symm (by decide) rfl (fun ls hl => ?_)
              have hF1 := hF1.trans (fl_lt_eq (show x114.toInt = j23l6.toInt + 1 from qx114))
              refine lv_goto (tgt := 23) hx hb dX8_feed_117 (by decide) ?_
              exact (hK0 _ _ _).mp (ih23 x114 x110 f103 _ _ _ (by have h0 := qx114; omega) (Int.le_trans zq224 bx114.1) (Int.le_trans bx114.2 zq225) (Int.le_trans zq4 bx110.1) bx110.2 (by omega) (hF0.trans (fl_wh_l (hSX23.trans hF1))) hP hD hS (lv_sub hl [2, 3, 4, 5, 6, 7, 0] rfl))
          · have gc33 := ai_nle c33
            have u33f_j23l6 : j23l6.toInt ≤ (3 : Int) := ai_lthi gc33 zq67
            have hF1 := hF1.trans (if_neg (show ¬ (4 ≤ j23l6.toInt) from Int.not_le.mpr gc33))
            refine lv_iload_n hx hb dX8_feed_36 rfl (lv_at hl 1 rfl) ?_
            refine lv_goto (tgt := 76) hx hb dX8_feed_37 (by decide) ?_
            refine lv_istore (lv' := [(7, .int a1), (0, .ref a0), (1, .int a1), (2, .int a2), (3, .int a3), (4, .int a4), (5, .int a5), (6, .int j23l6)]) hx hb dX8_feed_76 hl (by decide) rfl (fun ls hl => ?_)
            refine lv_aload_n hx hb dX8_feed_78 rfl (lv_at hl 1 rfl) ?_
            refine va_get (D := (dC, dI)) (ci := 8) (v := .ref a0_1) (C := RX8) (T := TX8) (N := 40) hx hb hts zi_X8_feed_8 hown hK hP 0 rfl rfl 1 (by decide) (hts (.fieldLink RX8 7 "WaxTurnsModel" "tape" "[I") (List.mem_cons_of_mem _ (List.mem_append_left _ (List.mem_of_getElem? (i := 2) rfl)))) (fun _ h9 => h9) rfl dX8_feed_79 ?_
            refine lv_aload_n hx hb dX8_feed_82 rfl (lv_at hl 1 rfl) ?_
            refine va_get (D := (dC, dI)) (ci := 8) (v := .int j23a0_2) (C := RX8) (T := TX8) (N := 40) hx hb hts zi_X8_feed_8 hown hK hP 0 rfl rfl 2 (by decide) (hts (.fieldLink RX8 65 "WaxTurnsModel" "taped" "I") (List.mem_cons_of_mem _ (List.mem_append_left _ (List.mem_of_getElem? (i := 1) rfl)))) (fun _ h9 => h9) rfl dX8_feed_83 ?_
            have u83z_j23a0_2 : j23a0_2.toInt ≤ (899 : Int) := by omega
            refine lv_iload hx hb dX8_feed_86 (lv_at hl 0 rfl) ?_
            refine lv_bipush (v := 24) hx hb dX8_feed_88 zk_bipush_24 ?_
            refine lv_bipush (v := 8) hx hb dX8_feed_90 zk_bipush_8 ?_
            refine lv_iload hx hb dX8_feed_92 (lv_at hl 7 rfl) ?_
            refine lv_iconst (v := 4) hx hb dX8_feed_94 zk_iconst_4 ?_
            refine lv_irem hx hb dX8_feed_95 (by decide +kernel) ?_
            refine lv_topi (fun x95 ex95 => ?_)
            have qx95 := ai_rem2 ex95 bj23l6_l (Int.lt_of_lt_of_le zq178 zq68) zq67
            have wx95 : x95.toInt = j23l6.toInt % 4 := qx95.1
            have hF1 := hF1.trans (fl_lt_eq (show x95.toInt = j23l6.toInt % 4 from qx95.1))
            refine lv_imul hx hb dX8_feed_96 ?_
            refine lv_topi (fun x96 ex96 => ?_)
            have qx96 : x96.toInt = (8 : Int32).toInt * x95.toInt ∧ (0 : Int) ≤ x96.toInt ∧ x96.toInt ≤ 24 := ai_mul ex96 ⟨zq116, zq28⟩ ⟨qx95.2.1, qx95.2.2⟩ (by decide) (by decide) zq219
            have wx96 : x96.toInt = 8 * x95.toInt := qx96.1
            have hF1 := hF1.trans (fl_lt_eq (show x96.toInt = 8 * x95.toInt from qx96.1))
            refine lv_isub hx hb dX8_feed_97 ?_
            refine lv_topi (fun x97 ex97 => ?_)
            have qx97 : x97.toInt = (24 : Int32).toInt - x96.toInt := ai_sub ex97 ⟨zq132, zq133⟩ ⟨qx96.2.1, qx96.2.2⟩ (by decide) (by decide)
            have bx97 : (0 : Int) ≤ x97.toInt ∧ x97.toInt ≤ 24 := ⟨by rw [qx97]; exact Int.sub_le_sub zq132 qx96.2.2, by rw [qx97]; exact Int.sub_le_sub zq133 qx96.2.1⟩
            have hF1 := hF1.trans (fl_lt_eq (show x97.toInt = 24 - x96.toInt from qx97))
            refine lv_ishr hx hb dX8_feed_98 ?_
            refine lv_topi (fun x98 ex98 => ?_)
            have fqx98 := fl_shr_eq ex98
            have hF1 := hF1.trans (fl_lt_eq (show x98.toInt = fl_shr a1.toInt x97.toInt from fqx98))
            refine lv_sipush (v := 255) hx hb dX8_feed_99 zk_sipush_255 ?_
            refine lv_iand hx hb dX8_feed_102 ?_
            refine lv_topi (fun x102 ex102 => ?_)
            have fqx102 := fl_and_eq ex102
            have hF1 := hF1.trans (fl_lt_eq (show x102.toInt = fl_and x98.toInt 255 from fqx102))
            refine va_iast hx hb hK hP hD hS 1 0 rfl rfl (ai_in bj23a0_2_l u83z_j23a0_2 (by decide) (by decide)) dX8_feed_103 (fun H locs hP hD hS => ?_)
            obtain ⟨f103, ef103⟩ : ∃ g9 : Nat → Int32, g9 = upd j23a0_1_a (j23a0_2 : Int32).toNatClampNeg x102 := ⟨_, rfl⟩
            rw [← ef103] at hP hD
            obtain ⟨hP, hD⟩ := zc_re (w := [(a0, .inr (8, [Value.int 0, Value.ref a0_1, Value.int j23a0_2, a0g_3, a0g_4, a0g_5, a0g_6, a0g_7, a0g_8, a0g_9, a0g_10, a0g_11, a0g_12, a0g_13, a0g_14, a0g_15, a0g_16, a0g_17, a0g_18, a0g_19, a0g_20, a0g_21, a0g_22, a0g_23, a0g_24, a0g_25, a0g_26, a0g_27, a0g_28, a0g_29, a0g_30, a0g_31, a0g_32, a0g_33, a0g_34, a0g_35, a0g_36, a0g_37, a0g_38, a0g_39])), (a0_1, .inl (ka0_1, 900, .inl (f103)))]) hP hD rfl
            have fqf103 := fl_up_eq ef103
            have hF1 := hF1.trans (fl_lt_eq (show (fl_A f103) = fl_up (fl_A j23a0_1_a) (j23a0_2.toInt.toNat) x102.toInt from fqf103))
            refine lv_aload_n hx hb dX8_feed_104 rfl (lv_at hl 1 rfl) ?_
            refine lv_dup hx hb dX8_feed_105 rfl ?_
            refine va_get (D := (dC, dI)) (ci := 8) (v := .int j23a0_2) (C := RX8) (T := TX8) (N := 40) hx hb hts zi_X8_feed_8 hown hK hP 0 rfl rfl 2 (by decide) (hts (.fieldLink RX8 65 "WaxTurnsModel" "taped" "I") (List.mem_cons_of_mem _ (List.mem_append_left _ (List.mem_of_getElem? (i := 1) rfl)))) (fun _ h9 => h9) rfl dX8_feed_106 ?_
            refine lv_iconst (v := 1) hx hb dX8_feed_109 zk_iconst_1 ?_
            refine lv_iadd hx hb dX8_feed_110 ?_
            refine lv_topi (fun x110 ex110 => ?_)
            have qx110 : x110.toInt = j23a0_2.toInt + (1 : Int32).toInt := ai_add ex110 ⟨bj23a0_2_l, u83z_j23a0_2⟩ ⟨zq1, zq0⟩ (by decide) (by decide)
            have bx110 : (1 : Int) ≤ x110.toInt ∧ x110.toInt ≤ 900 := ⟨by rw [qx110]; exact Int.add_le_add bj23a0_2_l zq1, by rw [qx110]; exact Int.add_le_add u83z_j23a0_2 zq0⟩
            have wx110 : x110.toInt = j23a0_2.toInt + 1 := qx110
            have hF1 := hF1.trans (fl_lt_eq (show x110.toInt = j23a0_2.toInt + 1 from qx110))
            refine va_put (D := (dC, dI)) (ci := 8) (v := .int x110) (ty := .int) (C := RX8) (T := TX8) (N := 40) hx hb hts zi_X8_feed_8 tyX8 tyX8_ok nmX8 hown hK hP hD hS 0 rfl rfl 2 (by decide) (hts (.fieldLink RX8 65 "WaxTurnsModel" "taped" "I") (List.mem_cons_of_mem _ (List.mem_append_left _ (List.mem_of_getElem? (i := 1) rfl)))) (fun _ h9 => h9) rfl (tyX8_ok 2 (by decide)) rfl rfl (Nat.le_of_ble_eq_true rfl) dX8_feed_111 (fun H locs hP hD hS => ?_)
            obtain ⟨hP, hD⟩ := zc_re (w := [(a0, .inr (8, [Value.int 0, Value.ref a0_1, Value.int x110, a0g_3, a0g_4, a0g_5, a0g_6, a0g_7, a0g_8, a0g_9, a0g_10, a0g_11, a0g_12, a0g_13, a0g_14, a0g_15, a0g_16, a0g_17, a0g_18, a0g_19, a0g_20, a0g_21, a0g_22, a0g_23, a0g_24, a0g_25, a0g_26, a0g_27, a0g_28, a0g_29, a0g_30, a0g_31, a0g_32, a0g_33, a0g_34, a0g_35, a0g_36, a0g_37, a0g_38, a0g_39])), (a0_1, .inl (ka0_1, 900, .inl (f103)))]) hP hD rfl
            obtain ⟨x114, ex114⟩ : ∃ y : Int32, y = j23l6 + Int32.ofInt 1 := ⟨_, rfl⟩
            have qx114 : x114.toInt = j23l6.toInt + 1 := ai_inc ex114 (by decide) (by decide) u33f_j23l6 (by decide)
            have bx114 : (1 : Int) ≤ x114.toInt ∧ x114.toInt ≤ 4 := ⟨by rw [qx114]; exact Int.add_le_add bj23l6_l (Int.le_refl _), by rw [qx114]; exact Int.add_le_add u33f_j23l6 (Int.le_refl _)⟩
            refine lv_iinc (v := x114) (lv' := [(6, .int x114), (7, .int a1), (0, .ref a0), (1, .int a1), (2, .int a2), (3, .int a3), (4, .int a4), (5, .int a5)]) hx hb dX8_feed_114 hl (k := 7) rfl ex114.symm (by decide) rfl (fun ls hl => ?_)
            have hF1 := hF1.trans (fl_lt_eq (show x114.toInt = j23l6.toInt + 1 from qx114))
            refine lv_goto (tgt := 23) hx hb dX8_feed_117 (by decide) ?_
            exact (hK0 _ _ _).mp (ih23 x114 x110 f103 _ _ _ (by have h0 := qx114; omega) (Int.le_trans zq4 bx114.1) (Int.le_trans bx114.2 zq226) (Int.le_trans zq4 bx110.1) bx110.2 (by omega) (hF0.trans (fl_wh_l (hSX23.trans hF1))) hP hD hS (lv_sub hl [2, 3, 4, 5, 6, 7, 0] rfl))
    exact (hK0 _ _ _).mp (J23 21 0 a0_2 fa0_1 _ _ _ (by have h1 : (0 : Int) ≤ (0 : Int32).toInt := zq5; have h2 : (0 : Int32).toInt ≤ (0 : Int) := zq6; omega) zq5 (Int.le_trans zq6 zq191) ba0_2_l (Int.le_trans u15t_a0_2 zq227) (by have h1 : (0 : Int32).toInt = 0 := (by decide); omega) (by rw [show (0 : Int32).toInt = 0 from by decide]; exact hF0) hP hD hS (lv_sub hl [1, 2, 3, 4, 5, 6, 0] rfl))
  · have gc15 := ai_nle c15
    have l15f_x11 : (901 : Int) ≤ x11.toInt := ai_ltlo gc15 zq37
    have l15f_a0_2 : (881 : Int) ≤ a0_2.toInt := by have h1 := wx11; have h2 := l15f_x11; omega
    have hF0 := hF0.trans (if_neg (show ¬ (x11.toInt ≤ 900) from Int.not_le.mpr gc15))
    refine lv_iconst (v := (-1)) hx hb dX8_feed_18 zk_iconst_n1 ?_
    have hFe : FX = ((-1), 0, a0_2.toInt, (fl_A fa0_1)) := hF0
    exact W.iret (v := (-1)) hx hb hr (fun t ht hW => ⟨⟨(-1), (), rfl, ⟨(Or.inl ⟨rfl, by omega⟩), (congrArg Prod.fst hFe).symm⟩, 0, a0_2, fa0_1, ⟨Int.le_trans (by decide) l15f_a0_2, ba0_2_u⟩, (by constructor <;> intro h9 <;> omega), (congrArg Prod.snd hFe), by rw [ht]; exact hP, va_K.moved hW.alike hK, hD⟩, hS.F ht⟩) hS.2.2 dX8_feed_19
