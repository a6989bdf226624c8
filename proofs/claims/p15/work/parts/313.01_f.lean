section P313_01_f
set_option maxHeartbeats 4000000 in
set_option maxRecDepth 100000 in
theorem f_X3_appendX (l : Launch) (dC : Nat → ClassId) (dI : Nat → Nat → Nat) (sz : Nat) (a0 : Nat) (a1 : Int32) (a0_0 : Int32) (a0g_1 a0g_2 a0g_4 a0g_5 a0g_6 a0g_7 a0g_8 a0g_9 a0g_10 a0g_11 a0g_12 a0g_13 : Value) (a0_3 : Nat) (ka0_3 : ClassId) (fa0_3 : Nat → Int32) (ba0_0_l : (0 : Int) ≤ a0_0.toInt) (ba0_0_u : a0_0.toInt ≤ (896 : Int)) : zm l yX3_append wsX3_append ({ frames := 0, cells := 0, slots := 0, locals := 0 }) [.ref a0, .int a1] dC dI sz [(a0, .inr (3, [.int a0_0, a0g_1, a0g_2, .ref a0_3, a0g_4, a0g_5, a0g_6, a0g_7, a0g_8, a0g_9, a0g_10, a0g_11, a0g_12, a0g_13])), (a0_3, .inl (ka0_3, 900, .inl (fa0_3)))] [(ka0_3, .byte)] (fun A _ => True) (fun A => va_Qv (fun (_ : Unit) => True) (fun (_ : Unit) (t : State) => ∃ na0_0 : Int32, ∃ nfa0_3 : Nat → Int32, ((0 : Int) ≤ na0_0.toInt ∧ na0_0.toInt ≤ 900) ∧ na0_0.toInt = a0_0.toInt + 4 ∧ (Ff_X3_appendX a1.toInt a0_0.toInt (fl_A fa0_3) = (na0_0.toInt, (fl_A nfa0_3))) ∧ ax_B dC dI A [(a0, .inr (3, [.int na0_0, a0g_1, a0g_2, .ref a0_3, a0g_4, a0g_5, a0g_6, a0g_7, a0g_8, a0g_9, a0g_10, a0g_11, a0g_12, a0g_13])), (a0_3, .inl (ka0_3, 900, .inl (nfa0_3)))] [(ka0_3, .byte)] t) A) := by
  refine zh (cc := cX3_append) (maxL := 3) (ret := none) zn_RX3 rfl (Nat.le_of_ble_eq_true rfl) (fun p e s m below meth c A ls hx hb hml hr hts (hown : s.vm.findClass RX3 = some m.cls) hlocks hA hS hP hK hD hE (hl : lv_has ls 3 [(0, .ref a0), (1, .int a1)]) => ?_)
  generalize hFX : Ff_X3_appendX a1.toInt a0_0.toInt (fl_A fa0_3) = FX at ⊢
  have hF0 := hFX.symm.trans (Ff_X3_appendX.eq_1 a1.toInt a0_0.toInt (fl_A fa0_3))
  refine lv_bipush (v := 24) hx hb dX3_append_0 zk_bipush_24 ?_
  refine lv_istore_n (lv' := [(2, .int 24), (0, .ref a0), (1, .int a1)]) hx hb dX3_append_2 rfl hl (by decide) rfl (fun ls hl => ?_)
  refine lv_iload_n hx hb dX3_append_3 rfl (lv_at hl 0 rfl) ?_
  refine lv_if_lt (tgt := 46) hx hb dX3_append_4 (by decide) (fun c4 => absurd c4 (by decide +kernel)) (fun _ => ?_)
  refine lv_aload_n hx hb dX3_append_7 rfl (lv_at hl 1 rfl) ?_
  refine va_get (D := (dC, dI)) (ci := 3) (v := .int a0_0) (C := RX3) (T := TX3) (N := 14) hx hb hts zi_X3_append_3 hown hK hP 0 rfl rfl 0 (by decide) (hts (.fieldLink RX3 26 "WaxTurns$Reade\x72" "tapeSize" "I") (List.mem_cons_of_mem _ (List.mem_append_left _ (List.mem_of_getElem? (i := 0) rfl)))) (fun _ h9 => h9) rfl dX3_append_8 ?_
  refine lv_sipush (v := 900) hx hb dX3_append_11 zk_sipush_900 ?_
  refine lv_icmp_ge (tgt := 46) hx hb dX3_append_14 (by decide) (fun c14 => ?_) (fun c14 => ?_)
  · have gc14 := ai_le c14
    have l14t_a0_0 : (900 : Int) ≤ a0_0.toInt := Int.le_trans zq37 gc14
    exact absurd (Int.le_trans l14t_a0_0 ba0_0_u) (by decide)
  · have gc14 := ai_nle c14
    have u14f_a0_0 : a0_0.toInt ≤ (896 : Int) := ba0_0_u
    have hF0 := hF0.trans (if_neg (show ¬ (900 ≤ a0_0.toInt) from Int.not_le.mpr gc14))
    refine lv_aload_n hx hb dX3_append_17 rfl (lv_at hl 1 rfl) ?_
    refine va_get (D := (dC, dI)) (ci := 3) (v := .ref a0_3) (C := RX3) (T := TX3) (N := 14) hx hb hts zi_X3_append_3 hown hK hP 0 rfl rfl 3 (by decide) (hts (.fieldLink RX3 9 "WaxTurns$Reade\x72" "tape" "[B") (List.mem_cons_of_mem _ (List.mem_append_left _ (List.mem_of_getElem? (i := 1) rfl)))) (fun _ h9 => h9) rfl dX3_append_18 ?_
    refine lv_aload_n hx hb dX3_append_21 rfl (lv_at hl 1 rfl) ?_
    refine va_get (D := (dC, dI)) (ci := 3) (v := .int a0_0) (C := RX3) (T := TX3) (N := 14) hx hb hts zi_X3_append_3 hown hK hP 0 rfl rfl 0 (by decide) (hts (.fieldLink RX3 26 "WaxTurns$Reade\x72" "tapeSize" "I") (List.mem_cons_of_mem _ (List.mem_append_left _ (List.mem_of_getElem? (i := 0) rfl)))) (fun _ h9 => h9) rfl dX3_append_22 ?_
    refine lv_iload_n hx hb dX3_append_25 rfl (lv_at hl 2 rfl) ?_
    refine lv_iload_n hx hb dX3_append_26 rfl (lv_at hl 0 rfl) ?_
    refine lv_ishr hx hb dX3_append_27 ?_
    refine lv_topi (fun x27 ex27 => ?_)
    have fqx27 := fl_shr_eq ex27
    have hF0 := hF0.trans (fl_lt_eq (show x27.toInt = fl_shr a1.toInt 24 from fqx27))
    obtain ⟨x28, ex28⟩ : ∃ y : Int32, y = (x27).toInt8.toInt32 := ⟨_, rfl⟩
    refine lv_i2b (v := x28) hx hb dX3_append_28 ex28.symm ?_
    have fqx28 := fl_i2b_eq ex28
    have hF0 := hF0.trans (fl_lt_eq (show x28.toInt = fl_i2b x27.toInt from fqx28))
    refine va_bast hx hb hK hP hD hS 1 0 rfl rfl (ai_in ba0_0_l u14f_a0_0 (by decide) (by decide)) dX3_append_29 (fun H locs hP hD hS => ?_)
    obtain ⟨f29, ef29⟩ : ∃ g9 : Nat → Int32, g9 = upd fa0_3 (a0_0 : Int32).toNatClampNeg (vp_nar .byte x28) := ⟨_, rfl⟩
    refine zs_1 (y := (a0_3, .inl (ka0_3, 900, .inl (f29)))) hP hD (by rw [ef29]) (fun hP hD => ?_)
    have fqf29 := fl_upB_eq ef29
    have hF0 := hF0.trans (fl_lt_eq (show (fl_A f29) = fl_upB (fl_A fa0_3) (a0_0.toInt.toNat) x28.toInt from fqf29))
    refine lv_aload_n hx hb dX3_append_30 rfl (lv_at hl 1 rfl) ?_
    refine lv_dup hx hb dX3_append_31 rfl ?_
    refine va_get (D := (dC, dI)) (ci := 3) (v := .int a0_0) (C := RX3) (T := TX3) (N := 14) hx hb hts zi_X3_append_3 hown hK hP 0 rfl rfl 0 (by decide) (hts (.fieldLink RX3 26 "WaxTurns$Reade\x72" "tapeSize" "I") (List.mem_cons_of_mem _ (List.mem_append_left _ (List.mem_of_getElem? (i := 0) rfl)))) (fun _ h9 => h9) rfl dX3_append_32 ?_
    refine lv_iconst (v := 1) hx hb dX3_append_35 zk_iconst_1 ?_
    refine lv_iadd hx hb dX3_append_36 ?_
    refine lv_topi (fun x36 ex36 => ?_)
    have qx36 : x36.toInt = a0_0.toInt + (1 : Int32).toInt := ai_add ex36 ⟨ba0_0_l, u14f_a0_0⟩ ⟨zq1, zq0⟩ (by decide) (by decide)
    have bx36 : (1 : Int) ≤ x36.toInt ∧ x36.toInt ≤ 897 := ⟨by rw [qx36]; exact Int.add_le_add ba0_0_l zq1, by rw [qx36]; exact Int.add_le_add u14f_a0_0 zq0⟩
    have wx36 : x36.toInt = a0_0.toInt + 1 := qx36
    have hF0 := hF0.trans (fl_lt_eq (show x36.toInt = a0_0.toInt + 1 from qx36))
    refine va_put (D := (dC, dI)) (ci := 3) (v := .int x36) (ty := .int) (C := RX3) (T := TX3) (N := 14) hx hb hts zi_X3_append_3 tyX3 tyX3_ok nmX3 hown hK hP hD hS 0 rfl rfl 0 (by decide) (hts (.fieldLink RX3 26 "WaxTurns$Reade\x72" "tapeSize" "I") (List.mem_cons_of_mem _ (List.mem_append_left _ (List.mem_of_getElem? (i := 0) rfl)))) (fun _ h9 => h9) rfl (tyX3_ok 0 (by decide)) rfl rfl (Nat.le_of_ble_eq_true rfl) dX3_append_37 (fun H locs hP hD hS => ?_)
    refine zs_0 (y := (a0, .inr (3, [.int x36, a0g_1, a0g_2, .ref a0_3, a0g_4, a0g_5, a0g_6, a0g_7, a0g_8, a0g_9, a0g_10, a0g_11, a0g_12, a0g_13]))) hP hD rfl (fun hP hD => ?_)
    refine lv_iinc (v := 16) (lv' := [(2, .int 16), (0, .ref a0), (1, .int a1)]) hx hb dX3_append_40 hl (k := 0) rfl (by decide +kernel) (by decide) rfl (fun ls hl => ?_)
    refine lv_goto (tgt := 3) hx hb dX3_append_43 (by decide) ?_
    refine lv_iload_n hx hb dX3_append_3 rfl (lv_at hl 0 rfl) ?_
    refine lv_if_lt (tgt := 46) hx hb dX3_append_4 (by decide) (fun c4 => absurd c4 (by decide +kernel)) (fun _ => ?_)
    refine lv_aload_n hx hb dX3_append_7 rfl (lv_at hl 1 rfl) ?_
    refine va_get (D := (dC, dI)) (ci := 3) (v := .int x36) (C := RX3) (T := TX3) (N := 14) hx hb hts zi_X3_append_3 hown hK hP 0 rfl rfl 0 (by decide) (hts (.fieldLink RX3 26 "WaxTurns$Reade\x72" "tapeSize" "I") (List.mem_cons_of_mem _ (List.mem_append_left _ (List.mem_of_getElem? (i := 0) rfl)))) (fun _ h9 => h9) rfl dX3_append_8 ?_
    refine lv_sipush (v := 900) hx hb dX3_append_11 zk_sipush_900 ?_
    refine lv_icmp_ge (tgt := 46) hx hb dX3_append_14 (by decide) (fun c14 => ?_) (fun c14 => ?_)
    · have gc14 := ai_le c14
      have l14t_x36 : (900 : Int) ≤ x36.toInt := Int.le_trans zq37 gc14
      have l14t_a0_0 : (899 : Int) ≤ a0_0.toInt := by have h1 := wx36; have h2 := l14t_x36; omega
      exact absurd (Int.le_trans l14t_x36 bx36.2) (by decide)
    · have gc14 := ai_nle c14
      have u14f_x36 : x36.toInt ≤ (897 : Int) := bx36.2
      have hF0 := hF0.trans (if_neg (show ¬ (900 ≤ x36.toInt) from Int.not_le.mpr gc14))
      refine lv_aload_n hx hb dX3_append_17 rfl (lv_at hl 1 rfl) ?_
      refine va_get (D := (dC, dI)) (ci := 3) (v := .ref a0_3) (C := RX3) (T := TX3) (N := 14) hx hb hts zi_X3_append_3 hown hK hP 0 rfl rfl 3 (by decide) (hts (.fieldLink RX3 9 "WaxTurns$Reade\x72" "tape" "[B") (List.mem_cons_of_mem _ (List.mem_append_left _ (List.mem_of_getElem? (i := 1) rfl)))) (fun _ h9 => h9) rfl dX3_append_18 ?_
      refine lv_aload_n hx hb dX3_append_21 rfl (lv_at hl 1 rfl) ?_
      refine va_get (D := (dC, dI)) (ci := 3) (v := .int x36) (C := RX3) (T := TX3) (N := 14) hx hb hts zi_X3_append_3 hown hK hP 0 rfl rfl 0 (by decide) (hts (.fieldLink RX3 26 "WaxTurns$Reade\x72" "tapeSize" "I") (List.mem_cons_of_mem _ (List.mem_append_left _ (List.mem_of_getElem? (i := 0) rfl)))) (fun _ h9 => h9) rfl dX3_append_22 ?_
      refine lv_iload_n hx hb dX3_append_25 rfl (lv_at hl 2 rfl) ?_
      refine lv_iload_n hx hb dX3_append_26 rfl (lv_at hl 0 rfl) ?_
      refine lv_ishr hx hb dX3_append_27 ?_
      refine lv_topi (fun x27v2 ex27v2 => ?_)
      have fqx27v2 := fl_shr_eq ex27v2
      have hF0 := hF0.trans (fl_lt_eq (show x27v2.toInt = fl_shr a1.toInt 16 from fqx27v2))
      obtain ⟨x28v2, ex28v2⟩ : ∃ y : Int32, y = (x27v2).toInt8.toInt32 := ⟨_, rfl⟩
      refine lv_i2b (v := x28v2) hx hb dX3_append_28 ex28v2.symm ?_
      have fqx28v2 := fl_i2b_eq ex28v2
      have hF0 := hF0.trans (fl_lt_eq (show x28v2.toInt = fl_i2b x27v2.toInt from fqx28v2))
      refine va_bast hx hb hK hP hD hS 1 0 rfl rfl (ai_in bx36.1 u14f_x36 (by decide) (by decide)) dX3_append_29 (fun H locs hP hD hS => ?_)
      obtain ⟨f29v2, ef29v2⟩ : ∃ g9 : Nat → Int32, g9 = upd f29 (x36 : Int32).toNatClampNeg (vp_nar .byte x28v2) := ⟨_, rfl⟩
      refine zs_1 (y := (a0_3, .inl (ka0_3, 900, .inl (f29v2)))) hP hD (by rw [ef29v2]) (fun hP hD => ?_)
      have fqf29v2 := fl_upB_eq ef29v2
      have hF0 := hF0.trans (fl_lt_eq (show (fl_A f29v2) = fl_upB (fl_A f29) (x36.toInt.toNat) x28v2.toInt from fqf29v2))
      refine lv_aload_n hx hb dX3_append_30 rfl (lv_at hl 1 rfl) ?_
      refine lv_dup hx hb dX3_append_31 rfl ?_
      refine va_get (D := (dC, dI)) (ci := 3) (v := .int x36) (C := RX3) (T := TX3) (N := 14) hx hb hts zi_X3_append_3 hown hK hP 0 rfl rfl 0 (by decide) (hts (.fieldLink RX3 26 "WaxTurns$Reade\x72" "tapeSize" "I") (List.mem_cons_of_mem _ (List.mem_append_left _ (List.mem_of_getElem? (i := 0) rfl)))) (fun _ h9 => h9) rfl dX3_append_32 ?_
      refine lv_iconst (v := 1) hx hb dX3_append_35 zk_iconst_1 ?_
      refine lv_iadd hx hb dX3_append_36 ?_
      refine lv_topi (fun x36v2 ex36v2 => ?_)
      have qx36v2 : x36v2.toInt = x36.toInt + (1 : Int32).toInt := ai_add ex36v2 ⟨bx36.1, u14f_x36⟩ ⟨zq1, zq0⟩ (by decide) (by decide)
      have bx36v2 : (2 : Int) ≤ x36v2.toInt ∧ x36v2.toInt ≤ 898 := ⟨by rw [qx36v2]; exact Int.add_le_add bx36.1 zq1, by rw [qx36v2]; exact Int.add_le_add u14f_x36 zq0⟩
      have wx36v2 : x36v2.toInt = x36.toInt + 1 := qx36v2
      have hF0 := hF0.trans (fl_lt_eq (show x36v2.toInt = x36.toInt + 1 from qx36v2))
      refine va_put (D := (dC, dI)) (ci := 3) (v := .int x36v2) (ty := .int) (C := RX3) (T := TX3) (N := 14) hx hb hts zi_X3_append_3 tyX3 tyX3_ok nmX3 hown hK hP hD hS 0 rfl rfl 0 (by decide) (hts (.fieldLink RX3 26 "WaxTurns$Reade\x72" "tapeSize" "I") (List.mem_cons_of_mem _ (List.mem_append_left _ (List.mem_of_getElem? (i := 0) rfl)))) (fun _ h9 => h9) rfl (tyX3_ok 0 (by decide)) rfl rfl (Nat.le_of_ble_eq_true rfl) dX3_append_37 (fun H locs hP hD hS => ?_)
      refine zs_0 (y := (a0, .inr (3, [.int x36v2, a0g_1, a0g_2, .ref a0_3, a0g_4, a0g_5, a0g_6, a0g_7, a0g_8, a0g_9, a0g_10, a0g_11, a0g_12, a0g_13]))) hP hD rfl (fun hP hD => ?_)
      refine lv_iinc (v := 8) (lv' := [(2, .int 8), (0, .ref a0), (1, .int a1)]) hx hb dX3_append_40 hl (k := 0) rfl (by decide +kernel) (by decide) rfl (fun ls hl => ?_)
      refine lv_goto (tgt := 3) hx hb dX3_append_43 (by decide) ?_
      refine lv_iload_n hx hb dX3_append_3 rfl (lv_at hl 0 rfl) ?_
      refine lv_if_lt (tgt := 46) hx hb dX3_append_4 (by decide) (fun c4 => absurd c4 (by decide +kernel)) (fun _ => ?_)
      refine lv_aload_n hx hb dX3_append_7 rfl (lv_at hl 1 rfl) ?_
      refine va_get (D := (dC, dI)) (ci := 3) (v := .int x36v2) (C := RX3) (T := TX3) (N := 14) hx hb hts zi_X3_append_3 hown hK hP 0 rfl rfl 0 (by decide) (hts (.fieldLink RX3 26 "WaxTurns$Reade\x72" "tapeSize" "I") (List.mem_cons_of_mem _ (List.mem_append_left _ (List.mem_of_getElem? (i := 0) rfl)))) (fun _ h9 => h9) rfl dX3_append_8 ?_
      refine lv_sipush (v := 900) hx hb dX3_append_11 zk_sipush_900 ?_
      refine lv_icmp_ge (tgt := 46) hx hb dX3_append_14 (by decide) (fun c14 => ?_) (fun c14 => ?_)
      · have gc14 := ai_le c14
        have l14t_x36v2 : (900 : Int) ≤ x36v2.toInt := Int.le_trans zq37 gc14
        have l14t_x36 : (899 : Int) ≤ x36.toInt := by have h1 := wx36v2; have h2 := l14t_x36v2; omega
        have l14t_a0_0 : (898 : Int) ≤ a0_0.toInt := by have h1 := wx36; have h2 := l14t_x36; omega
        exact absurd (Int.le_trans l14t_x36v2 bx36v2.2) (by decide)
      · have gc14 := ai_nle c14
        have u14f_x36v2 : x36v2.toInt ≤ (898 : Int) := bx36v2.2
        have hF0 := hF0.trans (if_neg (show ¬ (900 ≤ x36v2.toInt) from Int.not_le.mpr gc14))
        refine lv_aload_n hx hb dX3_append_17 rfl (lv_at hl 1 rfl) ?_
        refine va_get (D := (dC, dI)) (ci := 3) (v := .ref a0_3) (C := RX3) (T := TX3) (N := 14) hx hb hts zi_X3_append_3 hown hK hP 0 rfl rfl 3 (by decide) (hts (.fieldLink RX3 9 "WaxTurns$Reade\x72" "tape" "[B") (List.mem_cons_of_mem _ (List.mem_append_left _ (List.mem_of_getElem? (i := 1) rfl)))) (fun _ h9 => h9) rfl dX3_append_18 ?_
        refine lv_aload_n hx hb dX3_append_21 rfl (lv_at hl 1 rfl) ?_
        refine va_get (D := (dC, dI)) (ci := 3) (v := .int x36v2) (C := RX3) (T := TX3) (N := 14) hx hb hts zi_X3_append_3 hown hK hP 0 rfl rfl 0 (by decide) (hts (.fieldLink RX3 26 "WaxTurns$Reade\x72" "tapeSize" "I") (List.mem_cons_of_mem _ (List.mem_append_left _ (List.mem_of_getElem? (i := 0) rfl)))) (fun _ h9 => h9) rfl dX3_append_22 ?_
        refine lv_iload_n hx hb dX3_append_25 rfl (lv_at hl 2 rfl) ?_
        refine lv_iload_n hx hb dX3_append_26 rfl (lv_at hl 0 rfl) ?_
        refine lv_ishr hx hb dX3_append_27 ?_
        refine lv_topi (fun x27v3 ex27v3 => ?_)
        have fqx27v3 := fl_shr_eq ex27v3
        have hF0 := hF0.trans (fl_lt_eq (show x27v3.toInt = fl_shr a1.toInt 8 from fqx27v3))
        obtain ⟨x28v3, ex28v3⟩ : ∃ y : Int32, y = (x27v3).toInt8.toInt32 := ⟨_, rfl⟩
        refine lv_i2b (v := x28v3) hx hb dX3_append_28 ex28v3.symm ?_
        have fqx28v3 := fl_i2b_eq ex28v3
        have hF0 := hF0.trans (fl_lt_eq (show x28v3.toInt = fl_i2b x27v3.toInt from fqx28v3))
        refine va_bast hx hb hK hP hD hS 1 0 rfl rfl (ai_in bx36v2.1 u14f_x36v2 (by decide) (by decide)) dX3_append_29 (fun H locs hP hD hS => ?_)
        obtain ⟨f29v3, ef29v3⟩ : ∃ g9 : Nat → Int32, g9 = upd f29v2 (x36v2 : Int32).toNatClampNeg (vp_nar .byte x28v3) := ⟨_, rfl⟩
        refine zs_1 (y := (a0_3, .inl (ka0_3, 900, .inl (f29v3)))) hP hD (by rw [ef29v3]) (fun hP hD => ?_)
        have fqf29v3 := fl_upB_eq ef29v3
        have hF0 := hF0.trans (fl_lt_eq (show (fl_A f29v3) = fl_upB (fl_A f29v2) (x36v2.toInt.toNat) x28v3.toInt from fqf29v3))
        refine lv_aload_n hx hb dX3_append_30 rfl (lv_at hl 1 rfl) ?_
        refine lv_dup hx hb dX3_append_31 rfl ?_
        refine va_get (D := (dC, dI)) (ci := 3) (v := .int x36v2) (C := RX3) (T := TX3) (N := 14) hx hb hts zi_X3_append_3 hown hK hP 0 rfl rfl 0 (by decide) (hts (.fieldLink RX3 26 "WaxTurns$Reade\x72" "tapeSize" "I") (List.mem_cons_of_mem _ (List.mem_append_left _ (List.mem_of_getElem? (i := 0) rfl)))) (fun _ h9 => h9) rfl dX3_append_32 ?_
        refine lv_iconst (v := 1) hx hb dX3_append_35 zk_iconst_1 ?_
        refine lv_iadd hx hb dX3_append_36 ?_
        refine lv_topi (fun x36v3 ex36v3 => ?_)
        have qx36v3 : x36v3.toInt = x36v2.toInt + (1 : Int32).toInt := ai_add ex36v3 ⟨bx36v2.1, u14f_x36v2⟩ ⟨zq1, zq0⟩ (by decide) (by decide)
        have bx36v3 : (3 : Int) ≤ x36v3.toInt ∧ x36v3.toInt ≤ 899 := ⟨by rw [qx36v3]; exact Int.add_le_add bx36v2.1 zq1, by rw [qx36v3]; exact Int.add_le_add u14f_x36v2 zq0⟩
        have wx36v3 : x36v3.toInt = x36v2.toInt + 1 := qx36v3
        have hF0 := hF0.trans (fl_lt_eq (show x36v3.toInt = x36v2.toInt + 1 from qx36v3))
        refine va_put (D := (dC, dI)) (ci := 3) (v := .int x36v3) (ty := .int) (C := RX3) (T := TX3) (N := 14) hx hb hts zi_X3_append_3 tyX3 tyX3_ok nmX3 hown hK hP hD hS 0 rfl rfl 0 (by decide) (hts (.fieldLink RX3 26 "WaxTurns$Reade\x72" "tapeSize" "I") (List.mem_cons_of_mem _ (List.mem_append_left _ (List.mem_of_getElem? (i := 0) rfl)))) (fun _ h9 => h9) rfl (tyX3_ok 0 (by decide)) rfl rfl (Nat.le_of_ble_eq_true rfl) dX3_append_37 (fun H locs hP hD hS => ?_)
        refine zs_0 (y := (a0, .inr (3, [.int x36v3, a0g_1, a0g_2, .ref a0_3, a0g_4, a0g_5, a0g_6, a0g_7, a0g_8, a0g_9, a0g_10, a0g_11, a0g_12, a0g_13]))) hP hD rfl (fun hP hD => ?_)
        refine lv_iinc (v := 0) (lv' := [(2, .int 0), (0, .ref a0), (1, .int a1)]) hx hb dX3_append_40 hl (k := 0) rfl (by decide +kernel) (by decide) rfl (fun ls hl => ?_)
        refine lv_goto (tgt := 3) hx hb dX3_append_43 (by decide) ?_
        refine lv_iload_n hx hb dX3_append_3 rfl (lv_at hl 0 rfl) ?_
        refine lv_if_lt (tgt := 46) hx hb dX3_append_4 (by decide) (fun c4 => absurd c4 (by decide +kernel)) (fun _ => ?_)
        refine lv_aload_n hx hb dX3_append_7 rfl (lv_at hl 1 rfl) ?_
        refine va_get (D := (dC, dI)) (ci := 3) (v := .int x36v3) (C := RX3) (T := TX3) (N := 14) hx hb hts zi_X3_append_3 hown hK hP 0 rfl rfl 0 (by decide) (hts (.fieldLink RX3 26 "WaxTurns$Reade\x72" "tapeSize" "I") (List.mem_cons_of_mem _ (List.mem_append_left _ (List.mem_of_getElem? (i := 0) rfl)))) (fun _ h9 => h9) rfl dX3_append_8 ?_
        refine lv_sipush (v := 900) hx hb dX3_append_11 zk_sipush_900 ?_
        refine lv_icmp_ge (tgt := 46) hx hb dX3_append_14 (by decide) (fun c14 => ?_) (fun c14 => ?_)
        · have gc14 := ai_le c14
          have l14t_x36v3 : (900 : Int) ≤ x36v3.toInt := Int.le_trans zq37 gc14
          have l14t_x36v2 : (899 : Int) ≤ x36v2.toInt := by have h1 := wx36v3; have h2 := l14t_x36v3; omega
          have l14t_x36 : (898 : Int) ≤ x36.toInt := by have h1 := wx36v2; have h2 := l14t_x36v2; omega
          have l14t_a0_0 : (897 : Int) ≤ a0_0.toInt := by have h1 := wx36; have h2 := l14t_x36; omega
          exact absurd (Int.le_trans l14t_x36v3 bx36v3.2) (by decide)
        · have gc14 := ai_nle c14
          have u14f_x36v3 : x36v3.toInt ≤ (899 : Int) := bx36v3.2
          have hF0 := hF0.trans (if_neg (show ¬ (900 ≤ x36v3.toInt) from Int.not_le.mpr gc14))
          refine lv_aload_n hx hb dX3_append_17 rfl (lv_at hl 1 rfl) ?_
          refine va_get (D := (dC, dI)) (ci := 3) (v := .ref a0_3) (C := RX3) (T := TX3) (N := 14) hx hb hts zi_X3_append_3 hown hK hP 0 rfl rfl 3 (by decide) (hts (.fieldLink RX3 9 "WaxTurns$Reade\x72" "tape" "[B") (List.mem_cons_of_mem _ (List.mem_append_left _ (List.mem_of_getElem? (i := 1) rfl)))) (fun _ h9 => h9) rfl dX3_append_18 ?_
          refine lv_aload_n hx hb dX3_append_21 rfl (lv_at hl 1 rfl) ?_
          refine va_get (D := (dC, dI)) (ci := 3) (v := .int x36v3) (C := RX3) (T := TX3) (N := 14) hx hb hts zi_X3_append_3 hown hK hP 0 rfl rfl 0 (by decide) (hts (.fieldLink RX3 26 "WaxTurns$Reade\x72" "tapeSize" "I") (List.mem_cons_of_mem _ (List.mem_append_left _ (List.mem_of_getElem? (i := 0) rfl)))) (fun _ h9 => h9) rfl dX3_append_22 ?_
          refine lv_iload_n hx hb dX3_append_25 rfl (lv_at hl 2 rfl) ?_
          refine lv_iload_n hx hb dX3_append_26 rfl (lv_at hl 0 rfl) ?_
          refine lv_ishr hx hb dX3_append_27 ?_
          refine lv_topi (fun x27v4 ex27v4 => ?_)
          have fqx27v4 := fl_shr_eq ex27v4
          have hF0 := hF0.trans (fl_lt_eq (show x27v4.toInt = fl_shr a1.toInt 0 from fqx27v4))
          obtain ⟨x28v4, ex28v4⟩ : ∃ y : Int32, y = (x27v4).toInt8.toInt32 := ⟨_, rfl⟩
          refine lv_i2b (v := x28v4) hx hb dX3_append_28 ex28v4.symm ?_
          have fqx28v4 := fl_i2b_eq ex28v4
          have hF0 := hF0.trans (fl_lt_eq (show x28v4.toInt = fl_i2b x27v4.toInt from fqx28v4))
          refine va_bast hx hb hK hP hD hS 1 0 rfl rfl (ai_in bx36v3.1 u14f_x36v3 (by decide) (by decide)) dX3_append_29 (fun H locs hP hD hS => ?_)
          obtain ⟨f29v4, ef29v4⟩ : ∃ g9 : Nat → Int32, g9 = upd f29v3 (x36v3 : Int32).toNatClampNeg (vp_nar .byte x28v4) := ⟨_, rfl⟩
          refine zs_1 (y := (a0_3, .inl (ka0_3, 900, .inl (f29v4)))) hP hD (by rw [ef29v4]) (fun hP hD => ?_)
          have fqf29v4 := fl_upB_eq ef29v4
          have hF0 := hF0.trans (fl_lt_eq (show (fl_A f29v4) = fl_upB (fl_A f29v3) (x36v3.toInt.toNat) x28v4.toInt from fqf29v4))
          refine lv_aload_n hx hb dX3_append_30 rfl (lv_at hl 1 rfl) ?_
          refine lv_dup hx hb dX3_append_31 rfl ?_
          refine va_get (D := (dC, dI)) (ci := 3) (v := .int x36v3) (C := RX3) (T := TX3) (N := 14) hx hb hts zi_X3_append_3 hown hK hP 0 rfl rfl 0 (by decide) (hts (.fieldLink RX3 26 "WaxTurns$Reade\x72" "tapeSize" "I") (List.mem_cons_of_mem _ (List.mem_append_left _ (List.mem_of_getElem? (i := 0) rfl)))) (fun _ h9 => h9) rfl dX3_append_32 ?_
          refine lv_iconst (v := 1) hx hb dX3_append_35 zk_iconst_1 ?_
          refine lv_iadd hx hb dX3_append_36 ?_
          refine lv_topi (fun x36v4 ex36v4 => ?_)
          have qx36v4 : x36v4.toInt = x36v3.toInt + (1 : Int32).toInt := ai_add ex36v4 ⟨bx36v3.1, u14f_x36v3⟩ ⟨zq1, zq0⟩ (by decide) (by decide)
          have bx36v4 : (4 : Int) ≤ x36v4.toInt ∧ x36v4.toInt ≤ 900 := ⟨by rw [qx36v4]; exact Int.add_le_add bx36v3.1 zq1, by rw [qx36v4]; exact Int.add_le_add u14f_x36v3 zq0⟩
          have wx36v4 : x36v4.toInt = x36v3.toInt + 1 := qx36v4
          have hF0 := hF0.trans (fl_lt_eq (show x36v4.toInt = x36v3.toInt + 1 from qx36v4))
          refine va_put (D := (dC, dI)) (ci := 3) (v := .int x36v4) (ty := .int) (C := RX3) (T := TX3) (N := 14) hx hb hts zi_X3_append_3 tyX3 tyX3_ok nmX3 hown hK hP hD hS 0 rfl rfl 0 (by decide) (hts (.fieldLink RX3 26 "WaxTurns$Reade\x72" "tapeSize" "I") (List.mem_cons_of_mem _ (List.mem_append_left _ (List.mem_of_getElem? (i := 0) rfl)))) (fun _ h9 => h9) rfl (tyX3_ok 0 (by decide)) rfl rfl (Nat.le_of_ble_eq_true rfl) dX3_append_37 (fun H locs hP hD hS => ?_)
          refine zs_0 (y := (a0, .inr (3, [.int x36v4, a0g_1, a0g_2, .ref a0_3, a0g_4, a0g_5, a0g_6, a0g_7, a0g_8, a0g_9, a0g_10, a0g_11, a0g_12, a0g_13]))) hP hD rfl (fun hP hD => ?_)
          refine lv_iinc (v := (-8)) (lv' := [(2, .int (-8)), (0, .ref a0), (1, .int a1)]) hx hb dX3_append_40 hl (k := 0) rfl (by decide +kernel) (by decide) rfl (fun ls hl => ?_)
          refine lv_goto (tgt := 3) hx hb dX3_append_43 (by decide) ?_
          refine lv_iload_n hx hb dX3_append_3 rfl (lv_at hl 0 rfl) ?_
          refine lv_if_lt (tgt := 46) hx hb dX3_append_4 (by decide) (fun _ => ?_) (fun c4 => absurd (by decide +kernel) c4)
          have hFe : FX = (x36v4.toInt, (fl_A f29v4)) := hF0
          exact W.vret hx hb hr (fun t ht hW => ⟨⟨(), rfl, trivial, x36v4, f29v4, ⟨Int.le_trans (by decide) bx36v4.1, bx36v4.2⟩, (by omega), hFe, by rw [ht]; exact hP, va_K.moved hW.alike hK, hD⟩, hS.F ht⟩) hS.2.2 dX3_append_46

set_option maxHeartbeats 4000000 in
set_option maxRecDepth 100000 in
theorem f_X7_feed (l : Launch) (dC : Nat → ClassId) (dI : Nat → Nat → Nat) (sz : Nat) (a0 : Nat) (a1 : Int32) (a2 : Int32) (a3 : Int32) (a4 : Int32) (a5 : Int32) (a0_0 : Nat) (a0g_1 a0g_2 a0g_3 a0g_4 a0g_5 a0g_6 a0g_7 a0g_8 a0g_9 a0g_10 : Value) (a0_0_0 : Int32) (a0_0g_1 a0_0g_2 a0_0g_4 a0_0g_5 a0_0g_6 a0_0g_7 a0_0g_8 a0_0g_9 a0_0g_10 a0_0g_11 a0_0g_12 a0_0g_13 : Value) (a0_0_3 : Nat) (ka0_0_3 : ClassId) (fa0_0_3 : Nat → Int32) (ba0_0_0_l : (0 : Int) ≤ a0_0_0.toInt) (ba0_0_0_u : a0_0_0.toInt ≤ (900 : Int)) : zm l yX7_feed wsX7_feed ({ frames := 1, cells := 0, slots := 0, locals := 22 }) [.ref a0, .int a1, .int a2, .int a3, .int a4, .int a5] dC dI sz [(a0, .inr (7, [.ref a0_0, a0g_1, a0g_2, a0g_3, a0g_4, a0g_5, a0g_6, a0g_7, a0g_8, a0g_9, a0g_10])), (a0_0, .inr (3, [.int a0_0_0, a0_0g_1, a0_0g_2, .ref a0_0_3, a0_0g_4, a0_0g_5, a0_0g_6, a0_0g_7, a0_0g_8, a0_0g_9, a0_0g_10, a0_0g_11, a0_0g_12, a0_0g_13])), (a0_0_3, .inl (ka0_0_3, 900, .inl (fa0_0_3)))] [(ka0_0_3, .byte)] (fun A _ => True) (fun A => va_Qi (fun (r : Int32) (_ : Unit) => ((r = (-1) ∧ (880 : Int) < a0_0_0.toInt) ∨ (r.toInt = a0_0_0.toInt + 20 ∧ a0_0_0.toInt ≤ (880 : Int))) ∧ r.toInt = (Ff_X7_feed a1.toInt a2.toInt a3.toInt a4.toInt a5.toInt a0_0_0.toInt (fl_A fa0_0_3)).1) (fun (_ : Unit) (t : State) => ∃ na0_0_0 : Int32, ∃ nfa0_0_3 : Nat → Int32, ((0 : Int) ≤ na0_0_0.toInt ∧ na0_0_0.toInt ≤ 900) ∧ ((a0_0_0.toInt ≤ (880 : Int) → na0_0_0.toInt = a0_0_0.toInt + 20) ∧ ((880 : Int) < a0_0_0.toInt → na0_0_0.toInt = a0_0_0.toInt)) ∧ ((Ff_X7_feed a1.toInt a2.toInt a3.toInt a4.toInt a5.toInt a0_0_0.toInt (fl_A fa0_0_3)).2 = (na0_0_0.toInt, (fl_A nfa0_0_3))) ∧ ax_B dC dI A [(a0, .inr (7, [.ref a0_0, a0g_1, a0g_2, a0g_3, a0g_4, a0g_5, a0g_6, a0g_7, a0g_8, a0g_9, a0g_10])), (a0_0, .inr (3, [.int na0_0_0, a0_0g_1, a0_0g_2, .ref a0_0_3, a0_0g_4, a0_0g_5, a0_0g_6, a0_0g_7, a0_0g_8, a0_0g_9, a0_0g_10, a0_0g_11, a0_0g_12, a0_0g_13])), (a0_0_3, .inl (ka0_0_3, 900, .inl (nfa0_0_3)))] [(ka0_0_3, .byte)] t) A) := by
  refine zh (cc := cX7_feed) (maxL := 6) (ret := (some .int)) zn_RX7 rfl (Nat.le_of_ble_eq_true rfl) (fun p e s m below meth c A ls hx hb hml hr hts (hown : s.vm.findClass RX7 = some m.cls) hlocks hA hS hP hK hD hE (hl : lv_has ls 6 [(0, .ref a0), (1, .int a1), (2, .int a2), (3, .int a3), (4, .int a4), (5, .int a5)]) => ?_)
  generalize hFX : Ff_X7_feed a1.toInt a2.toInt a3.toInt a4.toInt a5.toInt a0_0_0.toInt (fl_A fa0_0_3) = FX at ⊢
  have hF0 := hFX.symm.trans (Ff_X7_feed.eq_1 a1.toInt a2.toInt a3.toInt a4.toInt a5.toInt a0_0_0.toInt (fl_A fa0_0_3))
  refine lv_aload_n hx hb dX7_feed_0 rfl (lv_at hl 0 rfl) ?_
  refine va_get (D := (dC, dI)) (ci := 7) (v := .ref a0_0) (C := RX7) (T := TX7) (N := 11) hx hb hts zi_X7_feed_7 hown hK hP 0 rfl rfl 0 (by decide) (hts (.fieldLink RX7 12 "WaxTurns" "reade\x72" "LWaxTurns$Reader;") (List.mem_cons_of_mem _ (List.mem_append_left _ (List.mem_append_left _ (List.mem_of_getElem? (i := 0) rfl))))) (fun _ h9 => h9) rfl dX7_feed_1 ?_
  refine va_get (D := (dC, dI)) (ci := 3) (v := .int a0_0_0) (C := RX3) (T := TX3) (N := 14) hx hb hts zi_X7_feed_3 hown hK hP 1 rfl rfl 0 (by decide) (hts (.fieldLink RX7 71 "WaxTurns$Reade\x72" "tapeSize" "I") (List.mem_cons_of_mem _ (List.mem_append_left _ (List.mem_append_left _ (List.mem_of_getElem? (i := 1) rfl))))) (fun _ h9 => h9) rfl dX7_feed_4 ?_
  refine lv_bipush (v := 20) hx hb dX7_feed_7 zk_bipush_20 ?_
  refine lv_iadd hx hb dX7_feed_9 ?_
  refine lv_topi (fun x9 ex9 => ?_)
  have qx9 : x9.toInt = a0_0_0.toInt + (20 : Int32).toInt := ai_add ex9 ⟨ba0_0_0_l, ba0_0_0_u⟩ ⟨zq153, zq154⟩ (by decide) (by decide)
  have bx9 : (20 : Int) ≤ x9.toInt ∧ x9.toInt ≤ 920 := ⟨by rw [qx9]; exact Int.add_le_add ba0_0_0_l zq153, by rw [qx9]; exact Int.add_le_add ba0_0_0_u zq154⟩
  have wx9 : x9.toInt = a0_0_0.toInt + 20 := qx9
  have hF0 := hF0.trans (fl_lt_eq (show x9.toInt = a0_0_0.toInt + 20 from qx9))
  refine lv_sipush (v := 900) hx hb dX7_feed_10 zk_sipush_900 ?_
  refine lv_icmp_le (tgt := 18) hx hb dX7_feed_13 (by decide) (fun c13 => ?_) (fun c13 => ?_)
  · have gc13 := ai_le c13
    have u13t_x9 : x9.toInt ≤ (900 : Int) := Int.le_trans gc13 zq39
    have u13t_a0_0_0 : a0_0_0.toInt ≤ (880 : Int) := by have h1 := wx9; have h2 := u13t_x9; omega
    have hF0 := hF0.trans (if_pos (show x9.toInt ≤ 900 from gc13))
    refine lv_aload_n hx hb dX7_feed_18 rfl (lv_at hl 0 rfl) ?_
    refine va_get (D := (dC, dI)) (ci := 7) (v := .ref a0_0) (C := RX7) (T := TX7) (N := 11) hx hb hts zi_X7_feed_7 hown hK hP 0 rfl rfl 0 (by decide) (hts (.fieldLink RX7 12 "WaxTurns" "reade\x72" "LWaxTurns$Reader;") (List.mem_cons_of_mem _ (List.mem_append_left _ (List.mem_append_left _ (List.mem_of_getElem? (i := 0) rfl))))) (fun _ h9 => h9) rfl dX7_feed_19 ?_
    refine lv_iload_n hx hb dX7_feed_22 rfl (lv_at hl 1 rfl) ?_
    refine zc_cutc (wc := [(a0_0, .inr (3, [.int a0_0_0, a0_0g_1, a0_0g_2, .ref a0_0_3, a0_0g_4, a0_0g_5, a0_0g_6, a0_0g_7, a0_0g_8, a0_0g_9, a0_0g_10, a0_0g_11, a0_0g_12, a0_0g_13])), (a0_0_3, .inl (ka0_0_3, 900, .inl (fa0_0_3)))]) hP hD hS hA [1, 2] (by decide +kernel) rfl (fun hPc hDc hFc hCc => ?_)
    have hKc := hK.sub (tys' := [(ka0_0_3, .byte)]) [0] rfl
    refine va_callv (va_runV (As := [.int a1]) (rest := []) ⟨hx, hb, hml, hown, hts⟩ (f_X3_appendX l dC dI s.heap.size a0_0 a1 a0_0_0 a0_0g_1 a0_0g_2 a0_0g_4 a0_0g_5 a0_0g_6 a0_0g_7 a0_0g_8 a0_0g_9 a0_0g_10 a0_0g_11 a0_0g_12 a0_0g_13 a0_0_3 ka0_0_3 fa0_0_3 ba0_0_0_l (Int.le_trans u13t_a0_0_0 zq243)) (cwV 1 hts gX7_feed_X3_append rfl rfl rfl zd_X3_append ⟨Nat.le_of_ble_eq_true rfl, Nat.le_of_ble_eq_true rfl⟩) ⟨ax_blind (fun _ _ _ _ _ => trivial), zr_3 hKc hPc (q0 := 0) rfl, ax_pre hPc hKc hDc (fun _ _ => trivial)⟩ rfl rfl hl.1 rfl (lv_room (Nat.le_of_ble_eq_true rfl)) dX7_feed_23 ⟨Nat.le_of_ble_eq_true rfl, Nat.le_of_ble_eq_true rfl⟩) hS (fun q _ h => hFc q h) hFc (fun u t H locs ht hvm hw => zx_2 (fun v23na0_0 v23nfa0_3 => zy_3 (fun bv23na0_0 hraw23_0 hraw23_1 hB hz1 hk1 hS1 => zo hB ht hS1 (fun hP1 hK1 hD1 hS => ?_))))
    refine zc_backc (w := [(a0, .inr (7, [.ref a0_0, a0g_1, a0g_2, a0g_3, a0g_4, a0g_5, a0g_6, a0g_7, a0g_8, a0g_9, a0g_10])), (a0_0, .inr (3, [.int v23na0_0, a0_0g_1, a0_0g_2, .ref a0_0_3, a0_0g_4, a0_0g_5, a0_0g_6, a0_0g_7, a0_0g_8, a0_0g_9, a0_0g_10, a0_0g_11, a0_0g_12, a0_0g_13])), (a0_0_3, .inl (ka0_0_3, 900, .inl (v23nfa0_3)))]) hP hD hCc hk1 hFc hP1 hD1 [.inl 0, .inr 0, .inr 1] (by decide +kernel) rfl (fun hP hD => ?_)
    have hc23 : Ff_X3_appendX a1.toInt a0_0_0.toInt (fl_A fa0_0_3) = (v23na0_0.toInt, (fl_A v23nfa0_3)) := hraw23_1
    have hF0 := hF0.trans (fl_c2_eq hc23)
    have l23z_v23na0_0 : (4 : Int) ≤ v23na0_0.toInt := by have h1 := hraw23_0; have h2 : (0 : Int) ≤ a0_0_0.toInt := ba0_0_0_l; omega
    have u23z_v23na0_0 : v23na0_0.toInt ≤ (884 : Int) := by have h1 := hraw23_0; have h2 : a0_0_0.toInt ≤ (880 : Int) := u13t_a0_0_0; omega
    refine lv_aload_n hx hb dX7_feed_26 rfl (lv_at hl 0 rfl) ?_
    refine va_get (D := (dC, dI)) (ci := 7) (v := .ref a0_0) (C := RX7) (T := TX7) (N := 11) hx hb hts zi_X7_feed_7 hown hK hP 0 rfl rfl 0 (by decide) (hts (.fieldLink RX7 12 "WaxTurns" "reade\x72" "LWaxTurns$Reader;") (List.mem_cons_of_mem _ (List.mem_append_left _ (List.mem_append_left _ (List.mem_of_getElem? (i := 0) rfl))))) (fun _ h9 => h9) rfl dX7_feed_27 ?_
    refine lv_iload_n hx hb dX7_feed_30 rfl (lv_at hl 2 rfl) ?_
    refine zc_cutc (wc := [(a0_0, .inr (3, [.int v23na0_0, a0_0g_1, a0_0g_2, .ref a0_0_3, a0_0g_4, a0_0g_5, a0_0g_6, a0_0g_7, a0_0g_8, a0_0g_9, a0_0g_10, a0_0g_11, a0_0g_12, a0_0g_13])), (a0_0_3, .inl (ka0_0_3, 900, .inl (v23nfa0_3)))]) hP hD hS hA [1, 2] (by decide +kernel) rfl (fun hPc hDc hFc hCc => ?_)
    have hKc := hK.sub (tys' := [(ka0_0_3, .byte)]) [0] rfl
    refine va_callv (va_runV (As := [.int a2]) (rest := []) ⟨hx, hb, hml, hown, hts⟩ (f_X3_appendX l dC dI H.size a0_0 a2 v23na0_0 a0_0g_1 a0_0g_2 a0_0g_4 a0_0g_5 a0_0g_6 a0_0g_7 a0_0g_8 a0_0g_9 a0_0g_10 a0_0g_11 a0_0g_12 a0_0g_13 a0_0_3 ka0_0_3 v23nfa0_3 (Int.le_trans zq101 l23z_v23na0_0) (Int.le_trans u23z_v23na0_0 zq244)) (cwV 1 hts gX7_feed_X3_append rfl rfl rfl zd_X3_append ⟨Nat.le_of_ble_eq_true rfl, Nat.le_of_ble_eq_true rfl⟩) ⟨ax_blind (fun _ _ _ _ _ => trivial), zr_3 hKc hPc (q0 := 0) rfl, ax_pre hPc hKc hDc (fun _ _ => trivial)⟩ rfl rfl hl.1 rfl (lv_room (Nat.le_of_ble_eq_true rfl)) dX7_feed_31 ⟨Nat.le_of_ble_eq_true rfl, Nat.le_of_ble_eq_true rfl⟩) hS (fun q _ h => hFc q h) hFc (fun u t H locs ht hvm hw => zx_2 (fun v31na0_0 v31nfa0_3 => zy_3 (fun bv31na0_0 hraw31_0 hraw31_1 hB hz1 hk1 hS1 => zo hB ht hS1 (fun hP1 hK1 hD1 hS => ?_))))
    refine zc_backc (w := [(a0, .inr (7, [.ref a0_0, a0g_1, a0g_2, a0g_3, a0g_4, a0g_5, a0g_6, a0g_7, a0g_8, a0g_9, a0g_10])), (a0_0, .inr (3, [.int v31na0_0, a0_0g_1, a0_0g_2, .ref a0_0_3, a0_0g_4, a0_0g_5, a0_0g_6, a0_0g_7, a0_0g_8, a0_0g_9, a0_0g_10, a0_0g_11, a0_0g_12, a0_0g_13])), (a0_0_3, .inl (ka0_0_3, 900, .inl (v31nfa0_3)))]) hP hD hCc hk1 hFc hP1 hD1 [.inl 0, .inr 0, .inr 1] (by decide +kernel) rfl (fun hP hD => ?_)
    have hc31 : Ff_X3_appendX a2.toInt v23na0_0.toInt (fl_A v23nfa0_3) = (v31na0_0.toInt, (fl_A v31nfa0_3)) := hraw31_1
    have hF0 := hF0.trans (fl_c2_eq hc31)
    have l31z_v31na0_0 : (8 : Int) ≤ v31na0_0.toInt := by have h1 := hraw31_0; have h2 : (4 : Int) ≤ v23na0_0.toInt := l23z_v23na0_0; omega
    have u31z_v31na0_0 : v31na0_0.toInt ≤ (888 : Int) := by have h1 := hraw31_0; have h2 : v23na0_0.toInt ≤ (884 : Int) := u23z_v23na0_0; omega
    refine lv_aload_n hx hb dX7_feed_34 rfl (lv_at hl 0 rfl) ?_
    refine va_get (D := (dC, dI)) (ci := 7) (v := .ref a0_0) (C := RX7) (T := TX7) (N := 11) hx hb hts zi_X7_feed_7 hown hK hP 0 rfl rfl 0 (by decide) (hts (.fieldLink RX7 12 "WaxTurns" "reade\x72" "LWaxTurns$Reader;") (List.mem_cons_of_mem _ (List.mem_append_left _ (List.mem_append_left _ (List.mem_of_getElem? (i := 0) rfl))))) (fun _ h9 => h9) rfl dX7_feed_35 ?_
    refine lv_iload_n hx hb dX7_feed_38 rfl (lv_at hl 3 rfl) ?_
    refine zc_cutc (wc := [(a0_0, .inr (3, [.int v31na0_0, a0_0g_1, a0_0g_2, .ref a0_0_3, a0_0g_4, a0_0g_5, a0_0g_6, a0_0g_7, a0_0g_8, a0_0g_9, a0_0g_10, a0_0g_11, a0_0g_12, a0_0g_13])), (a0_0_3, .inl (ka0_0_3, 900, .inl (v31nfa0_3)))]) hP hD hS hA [1, 2] (by decide +kernel) rfl (fun hPc hDc hFc hCc => ?_)
    have hKc := hK.sub (tys' := [(ka0_0_3, .byte)]) [0] rfl
    refine va_callv (va_runV (As := [.int a3]) (rest := []) ⟨hx, hb, hml, hown, hts⟩ (f_X3_appendX l dC dI H.size a0_0 a3 v31na0_0 a0_0g_1 a0_0g_2 a0_0g_4 a0_0g_5 a0_0g_6 a0_0g_7 a0_0g_8 a0_0g_9 a0_0g_10 a0_0g_11 a0_0g_12 a0_0g_13 a0_0_3 ka0_0_3 v31nfa0_3 (Int.le_trans zq20 l31z_v31na0_0) (Int.le_trans u31z_v31na0_0 zq245)) (cwV 1 hts gX7_feed_X3_append rfl rfl rfl zd_X3_append ⟨Nat.le_of_ble_eq_true rfl, Nat.le_of_ble_eq_true rfl⟩) ⟨ax_blind (fun _ _ _ _ _ => trivial), zr_3 hKc hPc (q0 := 0) rfl, ax_pre hPc hKc hDc (fun _ _ => trivial)⟩ rfl rfl hl.1 rfl (lv_room (Nat.le_of_ble_eq_true rfl)) dX7_feed_39 ⟨Nat.le_of_ble_eq_true rfl, Nat.le_of_ble_eq_true rfl⟩) hS (fun q _ h => hFc q h) hFc (fun u t H locs ht hvm hw => zx_2 (fun v39na0_0 v39nfa0_3 => zy_3 (fun bv39na0_0 hraw39_0 hraw39_1 hB hz1 hk1 hS1 => zo hB ht hS1 (fun hP1 hK1 hD1 hS => ?_))))
    refine zc_backc (w := [(a0, .inr (7, [.ref a0_0, a0g_1, a0g_2, a0g_3, a0g_4, a0g_5, a0g_6, a0g_7, a0g_8, a0g_9, a0g_10])), (a0_0, .inr (3, [.int v39na0_0, a0_0g_1, a0_0g_2, .ref a0_0_3, a0_0g_4, a0_0g_5, a0_0g_6, a0_0g_7, a0_0g_8, a0_0g_9, a0_0g_10, a0_0g_11, a0_0g_12, a0_0g_13])), (a0_0_3, .inl (ka0_0_3, 900, .inl (v39nfa0_3)))]) hP hD hCc hk1 hFc hP1 hD1 [.inl 0, .inr 0, .inr 1] (by decide +kernel) rfl (fun hP hD => ?_)
    have hc39 : Ff_X3_appendX a3.toInt v31na0_0.toInt (fl_A v31nfa0_3) = (v39na0_0.toInt, (fl_A v39nfa0_3)) := hraw39_1
    have hF0 := hF0.trans (fl_c2_eq hc39)
    have l39z_v39na0_0 : (12 : Int) ≤ v39na0_0.toInt := by have h1 := hraw39_0; have h2 : (8 : Int) ≤ v31na0_0.toInt := l31z_v31na0_0; omega
    have u39z_v39na0_0 : v39na0_0.toInt ≤ (892 : Int) := by have h1 := hraw39_0; have h2 : v31na0_0.toInt ≤ (888 : Int) := u31z_v31na0_0; omega
    refine lv_aload_n hx hb dX7_feed_42 rfl (lv_at hl 0 rfl) ?_
    refine va_get (D := (dC, dI)) (ci := 7) (v := .ref a0_0) (C := RX7) (T := TX7) (N := 11) hx hb hts zi_X7_feed_7 hown hK hP 0 rfl rfl 0 (by decide) (hts (.fieldLink RX7 12 "WaxTurns" "reade\x72" "LWaxTurns$Reader;") (List.mem_cons_of_mem _ (List.mem_append_left _ (List.mem_append_left _ (List.mem_of_getElem? (i := 0) rfl))))) (fun _ h9 => h9) rfl dX7_feed_43 ?_
    refine lv_iload hx hb dX7_feed_46 (lv_at hl 4 rfl) ?_
    refine zc_cutc (wc := [(a0_0, .inr (3, [.int v39na0_0, a0_0g_1, a0_0g_2, .ref a0_0_3, a0_0g_4, a0_0g_5, a0_0g_6, a0_0g_7, a0_0g_8, a0_0g_9, a0_0g_10, a0_0g_11, a0_0g_12, a0_0g_13])), (a0_0_3, .inl (ka0_0_3, 900, .inl (v39nfa0_3)))]) hP hD hS hA [1, 2] (by decide +kernel) rfl (fun hPc hDc hFc hCc => ?_)
    have hKc := hK.sub (tys' := [(ka0_0_3, .byte)]) [0] rfl
    refine va_callv (va_runV (As := [.int a4]) (rest := []) ⟨hx, hb, hml, hown, hts⟩ (f_X3_appendX l dC dI H.size a0_0 a4 v39na0_0 a0_0g_1 a0_0g_2 a0_0g_4 a0_0g_5 a0_0g_6 a0_0g_7 a0_0g_8 a0_0g_9 a0_0g_10 a0_0g_11 a0_0g_12 a0_0g_13 a0_0_3 ka0_0_3 v39nfa0_3 (Int.le_trans zq169 l39z_v39na0_0) (Int.le_trans u39z_v39na0_0 zq246)) (cwV 1 hts gX7_feed_X3_append rfl rfl rfl zd_X3_append ⟨Nat.le_of_ble_eq_true rfl, Nat.le_of_ble_eq_true rfl⟩) ⟨ax_blind (fun _ _ _ _ _ => trivial), zr_3 hKc hPc (q0 := 0) rfl, ax_pre hPc hKc hDc (fun _ _ => trivial)⟩ rfl rfl hl.1 rfl (lv_room (Nat.le_of_ble_eq_true rfl)) dX7_feed_48 ⟨Nat.le_of_ble_eq_true rfl, Nat.le_of_ble_eq_true rfl⟩) hS (fun q _ h => hFc q h) hFc (fun u t H locs ht hvm hw => zx_2 (fun v48na0_0 v48nfa0_3 => zy_3 (fun bv48na0_0 hraw48_0 hraw48_1 hB hz1 hk1 hS1 => zo hB ht hS1 (fun hP1 hK1 hD1 hS => ?_))))
    refine zc_backc (w := [(a0, .inr (7, [.ref a0_0, a0g_1, a0g_2, a0g_3, a0g_4, a0g_5, a0g_6, a0g_7, a0g_8, a0g_9, a0g_10])), (a0_0, .inr (3, [.int v48na0_0, a0_0g_1, a0_0g_2, .ref a0_0_3, a0_0g_4, a0_0g_5, a0_0g_6, a0_0g_7, a0_0g_8, a0_0g_9, a0_0g_10, a0_0g_11, a0_0g_12, a0_0g_13])), (a0_0_3, .inl (ka0_0_3, 900, .inl (v48nfa0_3)))]) hP hD hCc hk1 hFc hP1 hD1 [.inl 0, .inr 0, .inr 1] (by decide +kernel) rfl (fun hP hD => ?_)
    have hc48 : Ff_X3_appendX a4.toInt v39na0_0.toInt (fl_A v39nfa0_3) = (v48na0_0.toInt, (fl_A v48nfa0_3)) := hraw48_1
    have hF0 := hF0.trans (fl_c2_eq hc48)
    have l48z_v48na0_0 : (16 : Int) ≤ v48na0_0.toInt := by have h1 := hraw48_0; have h2 : (12 : Int) ≤ v39na0_0.toInt := l39z_v39na0_0; omega
    have u48z_v48na0_0 : v48na0_0.toInt ≤ (896 : Int) := by have h1 := hraw48_0; have h2 : v39na0_0.toInt ≤ (892 : Int) := u39z_v39na0_0; omega
    refine lv_aload_n hx hb dX7_feed_51 rfl (lv_at hl 0 rfl) ?_
    refine va_get (D := (dC, dI)) (ci := 7) (v := .ref a0_0) (C := RX7) (T := TX7) (N := 11) hx hb hts zi_X7_feed_7 hown hK hP 0 rfl rfl 0 (by decide) (hts (.fieldLink RX7 12 "WaxTurns" "reade\x72" "LWaxTurns$Reader;") (List.mem_cons_of_mem _ (List.mem_append_left _ (List.mem_append_left _ (List.mem_of_getElem? (i := 0) rfl))))) (fun _ h9 => h9) rfl dX7_feed_52 ?_
    refine lv_iload hx hb dX7_feed_55 (lv_at hl 5 rfl) ?_
    refine zc_cutc (wc := [(a0_0, .inr (3, [.int v48na0_0, a0_0g_1, a0_0g_2, .ref a0_0_3, a0_0g_4, a0_0g_5, a0_0g_6, a0_0g_7, a0_0g_8, a0_0g_9, a0_0g_10, a0_0g_11, a0_0g_12, a0_0g_13])), (a0_0_3, .inl (ka0_0_3, 900, .inl (v48nfa0_3)))]) hP hD hS hA [1, 2] (by decide +kernel) rfl (fun hPc hDc hFc hCc => ?_)
    have hKc := hK.sub (tys' := [(ka0_0_3, .byte)]) [0] rfl
    refine va_callv (va_runV (As := [.int a5]) (rest := []) ⟨hx, hb, hml, hown, hts⟩ (f_X3_appendX l dC dI H.size a0_0 a5 v48na0_0 a0_0g_1 a0_0g_2 a0_0g_4 a0_0g_5 a0_0g_6 a0_0g_7 a0_0g_8 a0_0g_9 a0_0g_10 a0_0g_11 a0_0g_12 a0_0g_13 a0_0_3 ka0_0_3 v48nfa0_3 (Int.le_trans zq218 l48z_v48na0_0) u48z_v48na0_0) (cwV 1 hts gX7_feed_X3_append rfl rfl rfl zd_X3_append ⟨Nat.le_of_ble_eq_true rfl, Nat.le_of_ble_eq_true rfl⟩) ⟨ax_blind (fun _ _ _ _ _ => trivial), zr_3 hKc hPc (q0 := 0) rfl, ax_pre hPc hKc hDc (fun _ _ => trivial)⟩ rfl rfl hl.1 rfl (lv_room (Nat.le_of_ble_eq_true rfl)) dX7_feed_57 ⟨Nat.le_of_ble_eq_true rfl, Nat.le_of_ble_eq_true rfl⟩) hS (fun q _ h => hFc q h) hFc (fun u t H locs ht hvm hw => zx_2 (fun v57na0_0 v57nfa0_3 => zy_3 (fun bv57na0_0 hraw57_0 hraw57_1 hB hz1 hk1 hS1 => zo hB ht hS1 (fun hP1 hK1 hD1 hS => ?_))))
    refine zc_backc (w := [(a0, .inr (7, [.ref a0_0, a0g_1, a0g_2, a0g_3, a0g_4, a0g_5, a0g_6, a0g_7, a0g_8, a0g_9, a0g_10])), (a0_0, .inr (3, [.int v57na0_0, a0_0g_1, a0_0g_2, .ref a0_0_3, a0_0g_4, a0_0g_5, a0_0g_6, a0_0g_7, a0_0g_8, a0_0g_9, a0_0g_10, a0_0g_11, a0_0g_12, a0_0g_13])), (a0_0_3, .inl (ka0_0_3, 900, .inl (v57nfa0_3)))]) hP hD hCc hk1 hFc hP1 hD1 [.inl 0, .inr 0, .inr 1] (by decide +kernel) rfl (fun hP hD => ?_)
    have hc57 : Ff_X3_appendX a5.toInt v48na0_0.toInt (fl_A v48nfa0_3) = (v57na0_0.toInt, (fl_A v57nfa0_3)) := hraw57_1
    have hF0 := hF0.trans (fl_c2_eq hc57)
    have l57z_v57na0_0 : (20 : Int) ≤ v57na0_0.toInt := by have h1 := hraw57_0; have h2 : (16 : Int) ≤ v48na0_0.toInt := l48z_v48na0_0; omega
    have u57z_v57na0_0 : v57na0_0.toInt ≤ (900 : Int) := bv57na0_0.2
    refine lv_aload_n hx hb dX7_feed_60 rfl (lv_at hl 0 rfl) ?_
    refine va_get (D := (dC, dI)) (ci := 7) (v := .ref a0_0) (C := RX7) (T := TX7) (N := 11) hx hb hts zi_X7_feed_7 hown hK hP 0 rfl rfl 0 (by decide) (hts (.fieldLink RX7 12 "WaxTurns" "reade\x72" "LWaxTurns$Reader;") (List.mem_cons_of_mem _ (List.mem_append_left _ (List.mem_append_left _ (List.mem_of_getElem? (i := 0) rfl))))) (fun _ h9 => h9) rfl dX7_feed_61 ?_
    refine va_get (D := (dC, dI)) (ci := 3) (v := .int v57na0_0) (C := RX3) (T := TX3) (N := 14) hx hb hts zi_X7_feed_3 hown hK hP 1 rfl rfl 0 (by decide) (hts (.fieldLink RX7 71 "WaxTurns$Reade\x72" "tapeSize" "I") (List.mem_cons_of_mem _ (List.mem_append_left _ (List.mem_append_left _ (List.mem_of_getElem? (i := 1) rfl))))) (fun _ h9 => h9) rfl dX7_feed_64 ?_
    have hFe : FX = (v57na0_0.toInt, v57na0_0.toInt, (fl_A v57nfa0_3)) := hF0
    exact W.iret (v := v57na0_0) hx hb hr (fun t ht hW => ⟨⟨v57na0_0, (), rfl, ⟨(Or.inr ⟨by omega, by omega⟩), (congrArg Prod.fst hFe).symm⟩, v57na0_0, v57nfa0_3, ⟨Int.le_trans (by decide) l57z_v57na0_0, u57z_v57na0_0⟩, (by constructor <;> intro h9 <;> omega), (congrArg Prod.snd hFe), by rw [ht]; exact hP, va_K.moved hW.alike hK, hD⟩, hS.F ht⟩) hS.2.2 dX7_feed_67
  · have gc13 := ai_nle c13
    have l13f_x9 : (901 : Int) ≤ x9.toInt := ai_ltlo gc13 zq37
    have l13f_a0_0_0 : (881 : Int) ≤ a0_0_0.toInt := by have h1 := wx9; have h2 := l13f_x9; omega
    have hF0 := hF0.trans (if_neg (show ¬ (x9.toInt ≤ 900) from Int.not_le.mpr gc13))
    refine lv_iconst (v := (-1)) hx hb dX7_feed_16 zk_iconst_n1 ?_
    have hFe : FX = ((-1), a0_0_0.toInt, (fl_A fa0_0_3)) := hF0
    exact W.iret (v := (-1)) hx hb hr (fun t ht hW => ⟨⟨(-1), (), rfl, ⟨(Or.inl ⟨rfl, by omega⟩), (congrArg Prod.fst hFe).symm⟩, a0_0_0, fa0_0_3, ⟨Int.le_trans (by decide) l13f_a0_0_0, ba0_0_0_u⟩, (by constructor <;> intro h9 <;> omega), (congrArg Prod.snd hFe), by rw [ht]; exact hP, va_K.moved hW.alike hK, hD⟩, hS.F ht⟩) hS.2.2 dX7_feed_17

set_option maxHeartbeats 4000000 in
set_option maxRecDepth 100000 in
theorem f_X8_feed (l : Launch) (dC : Nat → ClassId) (dI : Nat → Nat → Nat) (sz : Nat) (a0 : Nat) (a1 : Int32) (a2 : Int32) (a3 : Int32) (a4 : Int32) (a5 : Int32) (a0_0 : Int32) (a0_1 : Nat) (a0_2 : Int32) (a0g_3 a0g_4 a0g_5 a0g_6 a0g_7 a0g_8 a0g_9 a0g_10 a0g_11 a0g_12 a0g_13 a0g_14 a0g_15 a0g_16 a0g_17 a0g_18 a0g_19 a0g_20 a0g_21 a0g_22 a0g_23 a0g_24 a0g_25 a0g_26 a0g_27 a0g_28 a0g_29 a0g_30 a0g_31 a0g_32 a0g_33 a0g_34 a0g_35 a0g_36 a0g_37 a0g_38 a0g_39 : Value) (ka0_1 : ClassId) (fa0_1 : Nat → Int32) (ba0_2_l : (0 : Int) ≤ a0_2.toInt) (ba0_2_u : a0_2.toInt ≤ (900 : Int)) : zm l yX8_feed wsX8_feed ({ frames := 0, cells := 0, slots := 0, locals := 0 }) [.ref a0, .int a1, .int a2, .int a3, .int a4, .int a5] dC dI sz [(a0, .inr (8, [Value.int a0_0, Value.ref a0_1, Value.int a0_2, a0g_3, a0g_4, a0g_5, a0g_6, a0g_7, a0g_8, a0g_9, a0g_10, a0g_11, a0g_12, a0g_13, a0g_14, a0g_15, a0g_16, a0g_17, a0g_18, a0g_19, a0g_20, a0g_21, a0g_22, a0g_23, a0g_24, a0g_25, a0g_26, a0g_27, a0g_28, a0g_29, a0g_30, a0g_31, a0g_32, a0g_33, a0g_34, a0g_35, a0g_36, a0g_37, a0g_38, a0g_39])), (a0_1, .inl (ka0_1, 900, .inl (fa0_1)))] [(ka0_1, .int)] (fun A _ => True) (fun A => va_Qi (fun (r : Int32) (_ : Unit) => ((r = (-1) ∧ (880 : Int) < a0_2.toInt) ∨ (r.toInt = a0_2.toInt + 20 ∧ a0_2.toInt ≤ (880 : Int))) ∧ r.toInt = (Ff_X8_feed a1.toInt a2.toInt a3.toInt a4.toInt a5.toInt a0_2.toInt (fl_A fa0_1)).1) (fun (_ : Unit) (t : State) => ∃ na0_0 : Int32, ∃ na0_2 : Int32, ∃ nfa0_1 : Nat → Int32, ((0 : Int) ≤ na0_2.toInt ∧ na0_2.toInt ≤ 900) ∧ ((a0_2.toInt ≤ (880 : Int) → na0_2.toInt = a0_2.toInt + 20) ∧ ((880 : Int) < a0_2.toInt → na0_2.toInt = a0_2.toInt)) ∧ ((Ff_X8_feed a1.toInt a2.toInt a3.toInt a4.toInt a5.toInt a0_2.toInt (fl_A fa0_1)).2 = (na0_0.toInt, na0_2.toInt, (fl_A nfa0_1))) ∧ ax_B dC dI A [(a0, .inr (8, [Value.int na0_0, Value.ref a0_1, Value.int na0_2, a0g_3, a0g_4, a0g_5, a0g_6, a0g_7, a0g_8, a0g_9, a0g_10, a0g_11, a0g_12, a0g_13, a0g_14, a0g_15, a0g_16, a0g_17, a0g_18, a0g_19, a0g_20, a0g_21, a0g_22, a0g_23, a0g_24, a0g_25, a0g_26, a0g_27, a0g_28, a0g_29, a0g_30, a0g_31, a0g_32, a0g_33, a0g_34, a0g_35, a0g_36, a0g_37, a0g_38, a0g_39])), (a0_1, .inl (ka0_1, 900, .inl (nfa0_1)))] [(ka0_1, .int)] t) A) := by
  refine zh (cc := cX8_feed) (maxL := 8) (ret := (some .int)) zn_RX8 rfl (Nat.le_of_ble_eq_true rfl) (fun p e s m below meth c A ls hx hb hml hr hts (hown : s.vm.findClass RX8 = some m.cls) hlocks hA hS hP hK hD hE (hl : lv_has ls 8 [(0, .ref a0), (1, .int a1), (2, .int a2), (3, .int a3), (4, .int a4), (5, .int a5)]) => ?_)
  generalize hFX : Ff_X8_feed a1.toInt a2.toInt a3.toInt a4.toInt a5.toInt a0_2.toInt (fl_A fa0_1) = FX at ⊢
  have hF0 := hFX.symm.trans (Ff_X8_feed.eq_1 a1.toInt a2.toInt a3.toInt a4.toInt a5.toInt a0_2.toInt (fl_A fa0_1))
  refine ai_open (fun K hK0 => ?_)
  refine (hK0 _ _ _).mpr ?_
  refine lv_aload_n hx hb dX8_feed_0 rfl (lv_at hl 0 rfl) ?_
  refine lv_iconst (v := 0) hx hb dX8_feed_1 zk_iconst_0 ?_
  refine va_put (D := (dC, dI)) (ci := 8) (v := .int 0) (ty := .int) (C := RX8) (T := TX8) (N := 40) hx hb hts zi_X8_feed_8 tyX8 tyX8_ok nmX8 hown hK hP hD hS 0 rfl rfl 0 (by decide) (hts (.fieldLink RX8 59 "WaxTurnsModel" "thrown" "I") (List.mem_cons_of_mem _ (List.mem_append_left _ (List.mem_of_getElem? (i := 0) rfl)))) (fun _ h9 => h9) rfl (tyX8_ok 0 (by decide)) rfl rfl (Nat.le_of_ble_eq_true rfl) dX8_feed_2 (fun H locs hP hD hS => ?_)
  refine zs_0 (y := (a0, .inr (8, [Value.int 0, Value.ref a0_1, Value.int a0_2, a0g_3, a0g_4, a0g_5, a0g_6, a0g_7, a0g_8, a0g_9, a0g_10, a0g_11, a0g_12, a0g_13, a0g_14, a0g_15, a0g_16, a0g_17, a0g_18, a0g_19, a0g_20, a0g_21, a0g_22, a0g_23, a0g_24, a0g_25, a0g_26, a0g_27, a0g_28, a0g_29, a0g_30, a0g_31, a0g_32, a0g_33, a0g_34, a0g_35, a0g_36, a0g_37, a0g_38, a0g_39]))) hP hD rfl (fun hP hD => ?_)
  refine lv_aload_n hx hb dX8_feed_5 rfl (lv_at hl 0 rfl) ?_
  refine va_get (D := (dC, dI)) (ci := 8) (v := .int a0_2) (C := RX8) (T := TX8) (N := 40) hx hb hts zi_X8_feed_8 hown hK hP 0 rfl rfl 2 (by decide) (hts (.fieldLink RX8 65 "WaxTurnsModel" "taped" "I") (List.mem_cons_of_mem _ (List.mem_append_left _ (List.mem_of_getElem? (i := 1) rfl)))) (fun _ h9 => h9) rfl dX8_feed_6 ?_
  refine lv_bipush (v := 20) hx hb dX8_feed_9 zk_bipush_20 ?_
  refine lv_iadd hx hb dX8_feed_11 ?_
  refine lv_topi (fun x11 ex11 => ?_)
  have qx11 : x11.toInt = a0_2.toInt + (20 : Int32).toInt := ai_add ex11 ⟨ba0_2_l, ba0_2_u⟩ ⟨zq153, zq154⟩ (by decide) (by decide)
  have bx11 : (20 : Int) ≤ x11.toInt ∧ x11.toInt ≤ 920 := ⟨by rw [qx11]; exact Int.add_le_add ba0_2_l zq153, by rw [qx11]; exact Int.add_le_add ba0_2_u zq154⟩
  have wx11 : x11.toInt = a0_2.toInt + 20 := qx11
  have hF0 := hF0.trans (fl_lt_eq (show x11.toInt = a0_2.toInt + 20 from qx11))
  refine lv_sipush (v := 900) hx hb dX8_feed_12 zk_sipush_900 ?_
  refine lv_icmp_le (tgt := 20) hx hb dX8_feed_15 (by decide) (fun c15 => ?_) (fun c15 => ?_)
  · have gc15 := ai_le c15
    have u15t_x11 : x11.toInt ≤ (900 : Int) := Int.le_trans gc15 zq39
    have u15t_a0_2 : a0_2.toInt ≤ (880 : Int) := by have h1 := wx11; have h2 := u15t_x11; omega
    have hF0 := hF0.trans (if_pos (show x11.toInt ≤ 900 from gc15))
    refine lv_iconst (v := 0) hx hb dX8_feed_20 zk_iconst_0 ?_
    refine lv_istore (lv' := [(6, .int 0), (0, .ref a0), (1, .int a1), (2, .int a2), (3, .int a3), (4, .int a4), (5, .int a5)]) hx hb dX8_feed_21 hl (by decide) rfl (fun ls hl => ?_)
    have J23 : ∀ (n : Nat) (j23l6 : Int32) (j23a0_2 : Int32) (j23a0_1_a : Nat → Int32) (H : Heap) (locs : List Loc) (ls : Array Slot), (21 : Int) - j23l6.toInt ≤ (n : Int) → (0 : Int) ≤ j23l6.toInt → j23l6.toInt ≤ (20 : Int) → (0 : Int) ≤ j23a0_2.toInt → j23a0_2.toInt ≤ (900 : Int) → (j23a0_2.toInt = a0_2.toInt + j23l6.toInt) → (FX = fl_wh (fun t9 => Sf_X8_feed_23_1 a1.toInt a2.toInt a3.toInt a4.toInt a5.toInt t9.1 t9.2.1 t9.2.2) (0, 0, 0, (fun _ => 0)) n (j23l6.toInt, j23a0_2.toInt, (fl_A j23a0_1_a))) → va_P (dC, dI) vwCl [(a0, .inr (8, [Value.int 0, Value.ref a0_1, Value.int j23a0_2, a0g_3, a0g_4, a0g_5, a0g_6, a0g_7, a0g_8, a0g_9, a0g_10, a0g_11, a0g_12, a0g_13, a0g_14, a0g_15, a0g_16, a0g_17, a0g_18, a0g_19, a0g_20, a0g_21, a0g_22, a0g_23, a0g_24, a0g_25, a0g_26, a0g_27, a0g_28, a0g_29, a0g_30, a0g_31, a0g_32, a0g_33, a0g_34, a0g_35, a0g_36, a0g_37, a0g_38, a0g_39])), (a0_1, .inl (ka0_1, 900, .inl (j23a0_1_a)))] H → va_D A [(a0, .inr (8, [Value.int 0, Value.ref a0_1, Value.int j23a0_2, a0g_3, a0g_4, a0g_5, a0g_6, a0g_7, a0g_8, a0g_9, a0g_10, a0g_11, a0g_12, a0g_13, a0g_14, a0g_15, a0g_16, a0g_17, a0g_18, a0g_19, a0g_20, a0g_21, a0g_22, a0g_23, a0g_24, a0g_25, a0g_26, a0g_27, a0g_28, a0g_29, a0g_30, a0g_31, a0g_32, a0g_33, a0g_34, a0g_35, a0g_36, a0g_37, a0g_38, a0g_39])), (a0_1, .inl (ka0_1, 900, .inl (j23a0_1_a)))] → va_S A s.heap H locs → lv_has ls 8 [(0, .ref a0), (1, .int a1), (2, .int a2), (3, .int a3), (4, .int a4), (5, .int a5), (6, .int j23l6)] → K H locs (F0 m 23 ls []) := by
      intro n
      induction n with
      | zero =>
        intro j23l6 j23a0_2 j23a0_1_a H locs ls hm bj23l6_l bj23l6_u bj23a0_2_l bj23a0_2_u fd23 hF0 hP hD hS hl
        first | exact zg_0 hm bj23l6_u (by decide) | (have h8 := ai_min j23l6; have h9 := ai_max j23l6; exact absurd hm (by omega))
      | succ n ih23 =>
        intro j23l6 j23a0_2 j23a0_1_a H locs ls hm bj23l6_l bj23l6_u bj23a0_2_l bj23a0_2_u fd23 hF0 hP hD hS hl
        refine (hK0 _ _ _).mpr ?_
        have hm23 := hm
        obtain ⟨SX23, hSX23⟩ : ∃ q9, Sf_X8_feed_23_1 a1.toInt a2.toInt a3.toInt a4.toInt a5.toInt j23l6.toInt j23a0_2.toInt (fl_A j23a0_1_a) = q9 := ⟨_, rfl⟩
        have hF1 := hSX23.symm.trans (Sf_X8_feed_23_1.eq_1 a1.toInt a2.toInt a3.toInt a4.toInt a5.toInt j23l6.toInt j23a0_2.toInt (fl_A j23a0_1_a))
        refine lv_iload hx hb dX8_feed_23 (lv_at hl 6 rfl) ?_
        refine lv_bipush (v := 20) hx hb dX8_feed_25 zk_bipush_20 ?_
        refine lv_icmp_ge (tgt := 120) hx hb dX8_feed_27 (by decide) (fun c27 => ?_) (fun c27 => ?_)
        · have gc27 := ai_le c27
          have l27t_j23l6 : (20 : Int) ≤ j23l6.toInt := Int.le_trans zq153 gc27
          have hF1 := hF1.trans (if_pos (show 20 ≤ j23l6.toInt from gc27))
          have hF0 := hF0.trans (fl_wh_r (hSX23.trans hF1))
          refine lv_aload_n hx hb dX8_feed_120 rfl (lv_at hl 0 rfl) ?_
          refine va_get (D := (dC, dI)) (ci := 8) (v := .int j23a0_2) (C := RX8) (T := TX8) (N := 40) hx hb hts zi_X8_feed_8 hown hK hP 0 rfl rfl 2 (by decide) (hts (.fieldLink RX8 65 "WaxTurnsModel" "taped" "I") (List.mem_cons_of_mem _ (List.mem_append_left _ (List.mem_of_getElem? (i := 1) rfl)))) (fun _ h9 => h9) rfl dX8_feed_121 ?_
          have hFe : FX = (j23a0_2.toInt, 0, j23a0_2.toInt, (fl_A j23a0_1_a)) := hF0
          exact W.iret (v := j23a0_2) hx hb hr (fun t ht hW => ⟨⟨j23a0_2, (), rfl, ⟨(Or.inr ⟨by omega, by omega⟩), (congrArg Prod.fst hFe).symm⟩, 0, j23a0_2, j23a0_1_a, ⟨bj23a0_2_l, bj23a0_2_u⟩, (by constructor <;> intro h9 <;> omega), (congrArg Prod.snd hFe), by rw [ht]; exact hP, va_K.moved hW.alike hK, hD⟩, hS.F ht⟩) hS.2.2 dX8_feed_124
        · have gc27 := ai_nle c27
          have u27f_j23l6 : j23l6.toInt ≤ (19 : Int) := ai_lthi gc27 zq154
          have hF1 := hF1.trans (if_neg (show ¬ (20 ≤ j23l6.toInt) from Int.not_le.mpr gc27))
          refine lv_iload hx hb dX8_feed_30 (lv_at hl 6 rfl) ?_
          refine lv_iconst (v := 4) hx hb dX8_feed_32 zk_iconst_4 ?_
          refine lv_icmp_ge (tgt := 40) hx hb dX8_feed_33 (by decide) (fun c33 => ?_) (fun c33 => ?_)
          · have gc33 := ai_le c33
            have l33t_j23l6 : (4 : Int) ≤ j23l6.toInt := Int.le_trans zq68 gc33
            have hF1 := hF1.trans (if_pos (show 4 ≤ j23l6.toInt from gc33))
            refine lv_iload hx hb dX8_feed_40 (lv_at hl 6 rfl) ?_
            refine lv_bipush (v := 8) hx hb dX8_feed_42 zk_bipush_8 ?_
            refine lv_icmp_ge (tgt := 51) hx hb dX8_feed_44 (by decide) (fun c44 => ?_) (fun c44 => ?_)
            · have gc44 := ai_le c44
              have l44t_j23l6 : (8 : Int) ≤ j23l6.toInt := Int.le_trans zq116 gc44
              have hF1 := hF1.trans (if_pos (show 8 ≤ j23l6.toInt from gc44))
              refine lv_iload hx hb dX8_feed_51 (lv_at hl 6 rfl) ?_
              refine lv_bipush (v := 12) hx hb dX8_feed_53 zk_bipush_12 ?_
              refine lv_icmp_ge (tgt := 62) hx hb dX8_feed_55 (by decide) (fun c55 => ?_) (fun c55 => ?_)
              · have gc55 := ai_le c55
                have l55t_j23l6 : (12 : Int) ≤ j23l6.toInt := Int.le_trans zq119 gc55
                have hF1 := hF1.trans (if_pos (show 12 ≤ j23l6.toInt from gc55))
                refine lv_iload hx hb dX8_feed_62 (lv_at hl 6 rfl) ?_
                refine lv_bipush (v := 16) hx hb dX8_feed_64 zk_bipush_16 ?_
                refine lv_icmp_ge (tgt := 74) hx hb dX8_feed_66 (by decide) (fun c66 => ?_) (fun c66 => ?_)
                · have gc66 := ai_le c66
                  have l66t_j23l6 : (16 : Int) ≤ j23l6.toInt := Int.le_trans zq110 gc66
                  have hF1 := hF1.trans (if_pos (show 16 ≤ j23l6.toInt from gc66))
                  refine lv_iload hx hb dX8_feed_74 (lv_at hl 5 rfl) ?_
                  refine lv_istore (lv' := [(7, .int a5), (0, .ref a0), (1, .int a1), (2, .int a2), (3, .int a3), (4, .int a4), (5, .int a5), (6, .int j23l6)]) hx hb dX8_feed_76 hl (by decide) rfl (fun ls hl => ?_)
                  refine lv_aload_n hx hb dX8_feed_78 rfl (lv_at hl 1 rfl) ?_
                  refine va_get (D := (dC, dI)) (ci := 8) (v := .ref a0_1) (C := RX8) (T := TX8) (N := 40) hx hb hts zi_X8_feed_8 hown hK hP 0 rfl rfl 1 (by decide) (hts (.fieldLink RX8 7 "WaxTurnsModel" "tape" "[I") (List.mem_cons_of_mem _ (List.mem_append_left _ (List.mem_of_getElem? (i := 2) rfl)))) (fun _ h9 => h9) rfl dX8_feed_79 ?_
                  refine lv_aload_n hx hb dX8_feed_82 rfl (lv_at hl 1 rfl) ?_
                  refine va_get (D := (dC, dI)) (ci := 8) (v := .int j23a0_2) (C := RX8) (T := TX8) (N := 40) hx hb hts zi_X8_feed_8 hown hK hP 0 rfl rfl 2 (by decide) (hts (.fieldLink RX8 65 "WaxTurnsModel" "taped" "I") (List.mem_cons_of_mem _ (List.mem_append_left _ (List.mem_of_getElem? (i := 1) rfl)))) (fun _ h9 => h9) rfl dX8_feed_83 ?_
                  have u83z_j23a0_2 : j23a0_2.toInt ≤ (899 : Int) := by omega
                  refine lv_iload hx hb dX8_feed_86 (lv_at hl 0 rfl) ?_
                  refine lv_bipush (v := 24) hx hb dX8_feed_88 zk_bipush_24 ?_
                  refine lv_bipush (v := 8) hx hb dX8_feed_90 zk_bipush_8 ?_
                  refine lv_iload hx hb dX8_feed_92 (lv_at hl 7 rfl) ?_
                  refine lv_iconst (v := 4) hx hb dX8_feed_94 zk_iconst_4 ?_
                  refine lv_irem hx hb dX8_feed_95 (by decide +kernel) ?_
                  refine lv_topi (fun x95 ex95 => ?_)
                  have qx95 := ai_rem2 ex95 (Int.le_trans zq218 l66t_j23l6) (Int.lt_of_lt_of_le zq178 zq68) zq67
                  have wx95 : x95.toInt = j23l6.toInt % 4 := qx95.1
                  have hF1 := hF1.trans (fl_lt_eq (show x95.toInt = j23l6.toInt % 4 from qx95.1))
                  refine lv_imul hx hb dX8_feed_96 ?_
                  refine lv_topi (fun x96 ex96 => ?_)
                  have qx96 : x96.toInt = (8 : Int32).toInt * x95.toInt ∧ (0 : Int) ≤ x96.toInt ∧ x96.toInt ≤ 24 := ai_mul ex96 ⟨zq116, zq28⟩ ⟨qx95.2.1, qx95.2.2⟩ (by decide) (by decide) zq219
                  have wx96 : x96.toInt = 8 * x95.toInt := qx96.1
                  have hF1 := hF1.trans (fl_lt_eq (show x96.toInt = 8 * x95.toInt from qx96.1))
                  refine lv_isub hx hb dX8_feed_97 ?_
                  refine lv_topi (fun x97 ex97 => ?_)
                  have qx97 : x97.toInt = (24 : Int32).toInt - x96.toInt := ai_sub ex97 ⟨zq132, zq133⟩ ⟨qx96.2.1, qx96.2.2⟩ (by decide) (by decide)
                  have bx97 : (0 : Int) ≤ x97.toInt ∧ x97.toInt ≤ 24 := ⟨by rw [qx97]; exact Int.sub_le_sub zq132 qx96.2.2, by rw [qx97]; exact Int.sub_le_sub zq133 qx96.2.1⟩
                  have hF1 := hF1.trans (fl_lt_eq (show x97.toInt = 24 - x96.toInt from qx97))
                  refine lv_ishr hx hb dX8_feed_98 ?_
                  refine lv_topi (fun x98 ex98 => ?_)
                  have fqx98 := fl_shr_eq ex98
                  have hF1 := hF1.trans (fl_lt_eq (show x98.toInt = fl_shr a5.toInt x97.toInt from fqx98))
                  refine lv_sipush (v := 255) hx hb dX8_feed_99 zk_sipush_255 ?_
                  refine lv_iand hx hb dX8_feed_102 ?_
                  refine lv_topi (fun x102 ex102 => ?_)
                  have fqx102 := fl_and_eq ex102
                  have hF1 := hF1.trans (fl_lt_eq (show x102.toInt = fl_and x98.toInt 255 from fqx102))
                  refine va_iast hx hb hK hP hD hS 1 0 rfl rfl (ai_in bj23a0_2_l u83z_j23a0_2 (by decide) (by decide)) dX8_feed_103 (fun H locs hP hD hS => ?_)
                  obtain ⟨f103, ef103⟩ : ∃ g9 : Nat → Int32, g9 = upd j23a0_1_a (j23a0_2 : Int32).toNatClampNeg x102 := ⟨_, rfl⟩
                  refine zs_1 (y := (a0_1, .inl (ka0_1, 900, .inl (f103)))) hP hD (by rw [ef103]) (fun hP hD => ?_)
                  have fqf103 := fl_up_eq ef103
                  have hF1 := hF1.trans (fl_lt_eq (show (fl_A f103) = fl_up (fl_A j23a0_1_a) (j23a0_2.toInt.toNat) x102.toInt from fqf103))
                  refine lv_aload_n hx hb dX8_feed_104 rfl (lv_at hl 1 rfl) ?_
                  refine lv_dup hx hb dX8_feed_105 rfl ?_
                  refine va_get (D := (dC, dI)) (ci := 8) (v := .int j23a0_2) (C := RX8) (T := TX8) (N := 40) hx hb hts zi_X8_feed_8 hown hK hP 0 rfl rfl 2 (by decide) (hts (.fieldLink RX8 65 "WaxTurnsModel" "taped" "I") (List.mem_cons_of_mem _ (List.mem_append_left _ (List.mem_of_getElem? (i := 1) rfl)))) (fun _ h9 => h9) rfl dX8_feed_106 ?_
                  refine lv_iconst (v := 1) hx hb dX8_feed_109 zk_iconst_1 ?_
                  refine lv_iadd hx hb dX8_feed_110 ?_
                  refine lv_topi (fun x110 ex110 => ?_)
                  have qx110 : x110.toInt = j23a0_2.toInt + (1 : Int32).toInt := ai_add ex110 ⟨bj23a0_2_l, u83z_j23a0_2⟩ ⟨zq1, zq0⟩ (by decide) (by decide)
                  have bx110 : (1 : Int) ≤ x110.toInt ∧ x110.toInt ≤ 900 := ⟨by rw [qx110]; exact Int.add_le_add bj23a0_2_l zq1, by rw [qx110]; exact Int.add_le_add u83z_j23a0_2 zq0⟩
                  have wx110 : x110.toInt = j23a0_2.toInt + 1 := qx110
                  have hF1 := hF1.trans (fl_lt_eq (show x110.toInt = j23a0_2.toInt + 1 from qx110))
                  refine va_put (D := (dC, dI)) (ci := 8) (v := .int x110) (ty := .int) (C := RX8) (T := TX8) (N := 40) hx hb hts zi_X8_feed_8 tyX8 tyX8_ok nmX8 hown hK hP hD hS 0 rfl rfl 2 (by decide) (hts (.fieldLink RX8 65 "WaxTurnsModel" "taped" "I") (List.mem_cons_of_mem _ (List.mem_append_left _ (List.mem_of_getElem? (i := 1) rfl)))) (fun _ h9 => h9) rfl (tyX8_ok 2 (by decide)) rfl rfl (Nat.le_of_ble_eq_true rfl) dX8_feed_111 (fun H locs hP hD hS => ?_)
                  refine zs_0 (y := (a0, .inr (8, [Value.int 0, Value.ref a0_1, Value.int x110, a0g_3, a0g_4, a0g_5, a0g_6, a0g_7, a0g_8, a0g_9, a0g_10, a0g_11, a0g_12, a0g_13, a0g_14, a0g_15, a0g_16, a0g_17, a0g_18, a0g_19, a0g_20, a0g_21, a0g_22, a0g_23, a0g_24, a0g_25, a0g_26, a0g_27, a0g_28, a0g_29, a0g_30, a0g_31, a0g_32, a0g_33, a0g_34, a0g_35, a0g_36, a0g_37, a0g_38, a0g_39]))) hP hD rfl (fun hP hD => ?_)
                  obtain ⟨x114, ex114⟩ : ∃ y : Int32, y = j23l6 + Int32.ofInt 1 := ⟨_, rfl⟩
                  have qx114 : x114.toInt = j23l6.toInt + 1 := ai_inc ex114 (by decide) (by decide) u27f_j23l6 (by decide)
                  have bx114 : (17 : Int) ≤ x114.toInt ∧ x114.toInt ≤ 20 := ⟨by rw [qx114]; exact Int.add_le_add l66t_j23l6 (Int.le_refl _), by rw [qx114]; exact Int.add_le_add u27f_j23l6 (Int.le_refl _)⟩
                  refine lv_iinc (v := x114) (lv' := [(6, .int x114), (7, .int a5), (0, .ref a0), (1, .int a1), (2, .int a2), (3, .int a3), (4, .int a4), (5, .int a5)]) hx hb dX8_feed_114 hl (k := 7) rfl ex114.symm (by decide) rfl (fun ls hl => ?_)
                  have hF1 := hF1.trans (fl_lt_eq (show x114.toInt = j23l6.toInt + 1 from qx114))
                  refine lv_goto (tgt := 23) hx hb dX8_feed_117 (by decide) ?_
                  exact (hK0 _ _ _).mp (ih23 x114 x110 f103 _ _ _ (by first | exact zg_s hm23 qx114 | (have h0 := qx114; omega)) (Int.le_trans zq220 bx114.1) bx114.2 (Int.le_trans zq4 bx110.1) bx110.2 (by omega) (hF0.trans (fl_wh_l (hSX23.trans hF1))) hP hD hS (lv_sub hl [2, 3, 4, 5, 6, 7, 0] rfl))
                · have gc66 := ai_nle c66
                  have u66f_j23l6 : j23l6.toInt ≤ (15 : Int) := ai_lthi gc66 zq111
                  have hF1 := hF1.trans (if_neg (show ¬ (16 ≤ j23l6.toInt) from Int.not_le.mpr gc66))
                  refine lv_iload hx hb dX8_feed_69 (lv_at hl 4 rfl) ?_
                  refine lv_goto (tgt := 76) hx hb dX8_feed_71 (by decide) ?_
                  refine lv_istore (lv' := [(7, .int a4), (0, .ref a0), (1, .int a1), (2, .int a2), (3, .int a3), (4, .int a4), (5, .int a5), (6, .int j23l6)]) hx hb dX8_feed_76 hl (by decide) rfl (fun ls hl => ?_)
                  refine lv_aload_n hx hb dX8_feed_78 rfl (lv_at hl 1 rfl) ?_
                  refine va_get (D := (dC, dI)) (ci := 8) (v := .ref a0_1) (C := RX8) (T := TX8) (N := 40) hx hb hts zi_X8_feed_8 hown hK hP 0 rfl rfl 1 (by decide) (hts (.fieldLink RX8 7 "WaxTurnsModel" "tape" "[I") (List.mem_cons_of_mem _ (List.mem_append_left _ (List.mem_of_getElem? (i := 2) rfl)))) (fun _ h9 => h9) rfl dX8_feed_79 ?_
                  refine lv_aload_n hx hb dX8_feed_82 rfl (lv_at hl 1 rfl) ?_
                  refine va_get (D := (dC, dI)) (ci := 8) (v := .int j23a0_2) (C := RX8) (T := TX8) (N := 40) hx hb hts zi_X8_feed_8 hown hK hP 0 rfl rfl 2 (by decide) (hts (.fieldLink RX8 65 "WaxTurnsModel" "taped" "I") (List.mem_cons_of_mem _ (List.mem_append_left _ (List.mem_of_getElem? (i := 1) rfl)))) (fun _ h9 => h9) rfl dX8_feed_83 ?_
                  have u83z_j23a0_2 : j23a0_2.toInt ≤ (899 : Int) := by omega
                  refine lv_iload hx hb dX8_feed_86 (lv_at hl 0 rfl) ?_
                  refine lv_bipush (v := 24) hx hb dX8_feed_88 zk_bipush_24 ?_
                  refine lv_bipush (v := 8) hx hb dX8_feed_90 zk_bipush_8 ?_
                  refine lv_iload hx hb dX8_feed_92 (lv_at hl 7 rfl) ?_
                  refine lv_iconst (v := 4) hx hb dX8_feed_94 zk_iconst_4 ?_
                  refine lv_irem hx hb dX8_feed_95 (by decide +kernel) ?_
                  refine lv_topi (fun x95 ex95 => ?_)
                  have qx95 := ai_rem2 ex95 (Int.le_trans zq169 l55t_j23l6) (Int.lt_of_lt_of_le zq178 zq68) zq67
                  have wx95 : x95.toInt = j23l6.toInt % 4 := qx95.1
                  have hF1 := hF1.trans (fl_lt_eq (show x95.toInt = j23l6.toInt % 4 from qx95.1))
                  refine lv_imul hx hb dX8_feed_96 ?_
                  refine lv_topi (fun x96 ex96 => ?_)
                  have qx96 : x96.toInt = (8 : Int32).toInt * x95.toInt ∧ (0 : Int) ≤ x96.toInt ∧ x96.toInt ≤ 24 := ai_mul ex96 ⟨zq116, zq28⟩ ⟨qx95.2.1, qx95.2.2⟩ (by decide) (by decide) zq219
                  have wx96 : x96.toInt = 8 * x95.toInt := qx96.1
                  have hF1 := hF1.trans (fl_lt_eq (show x96.toInt = 8 * x95.toInt from qx96.1))
                  refine lv_isub hx hb dX8_feed_97 ?_
                  refine lv_topi (fun x97 ex97 => ?_)
                  have qx97 : x97.toInt = (24 : Int32).toInt - x96.toInt := ai_sub ex97 ⟨zq132, zq133⟩ ⟨qx96.2.1, qx96.2.2⟩ (by decide) (by decide)
                  have bx97 : (0 : Int) ≤ x97.toInt ∧ x97.toInt ≤ 24 := ⟨by rw [qx97]; exact Int.sub_le_sub zq132 qx96.2.2, by rw [qx97]; exact Int.sub_le_sub zq133 qx96.2.1⟩
                  have hF1 := hF1.trans (fl_lt_eq (show x97.toInt = 24 - x96.toInt from qx97))
                  refine lv_ishr hx hb dX8_feed_98 ?_
                  refine lv_topi (fun x98 ex98 => ?_)
                  have fqx98 := fl_shr_eq ex98
                  have hF1 := hF1.trans (fl_lt_eq (show x98.toInt = fl_shr a4.toInt x97.toInt from fqx98))
                  refine lv_sipush (v := 255) hx hb dX8_feed_99 zk_sipush_255 ?_
                  refine lv_iand hx hb dX8_feed_102 ?_
                  refine lv_topi (fun x102 ex102 => ?_)
                  have fqx102 := fl_and_eq ex102
                  have hF1 := hF1.trans (fl_lt_eq (show x102.toInt = fl_and x98.toInt 255 from fqx102))
                  refine va_iast hx hb hK hP hD hS 1 0 rfl rfl (ai_in bj23a0_2_l u83z_j23a0_2 (by decide) (by decide)) dX8_feed_103 (fun H locs hP hD hS => ?_)
                  obtain ⟨f103, ef103⟩ : ∃ g9 : Nat → Int32, g9 = upd j23a0_1_a (j23a0_2 : Int32).toNatClampNeg x102 := ⟨_, rfl⟩
                  refine zs_1 (y := (a0_1, .inl (ka0_1, 900, .inl (f103)))) hP hD (by rw [ef103]) (fun hP hD => ?_)
                  have fqf103 := fl_up_eq ef103
                  have hF1 := hF1.trans (fl_lt_eq (show (fl_A f103) = fl_up (fl_A j23a0_1_a) (j23a0_2.toInt.toNat) x102.toInt from fqf103))
                  refine lv_aload_n hx hb dX8_feed_104 rfl (lv_at hl 1 rfl) ?_
                  refine lv_dup hx hb dX8_feed_105 rfl ?_
                  refine va_get (D := (dC, dI)) (ci := 8) (v := .int j23a0_2) (C := RX8) (T := TX8) (N := 40) hx hb hts zi_X8_feed_8 hown hK hP 0 rfl rfl 2 (by decide) (hts (.fieldLink RX8 65 "WaxTurnsModel" "taped" "I") (List.mem_cons_of_mem _ (List.mem_append_left _ (List.mem_of_getElem? (i := 1) rfl)))) (fun _ h9 => h9) rfl dX8_feed_106 ?_
                  refine lv_iconst (v := 1) hx hb dX8_feed_109 zk_iconst_1 ?_
                  refine lv_iadd hx hb dX8_feed_110 ?_
                  refine lv_topi (fun x110 ex110 => ?_)
                  have qx110 : x110.toInt = j23a0_2.toInt + (1 : Int32).toInt := ai_add ex110 ⟨bj23a0_2_l, u83z_j23a0_2⟩ ⟨zq1, zq0⟩ (by decide) (by decide)
                  have bx110 : (1 : Int) ≤ x110.toInt ∧ x110.toInt ≤ 900 := ⟨by rw [qx110]; exact Int.add_le_add bj23a0_2_l zq1, by rw [qx110]; exact Int.add_le_add u83z_j23a0_2 zq0⟩
                  have wx110 : x110.toInt = j23a0_2.toInt + 1 := qx110
                  have hF1 := hF1.trans (fl_lt_eq (show x110.toInt = j23a0_2.toInt + 1 from qx110))
                  refine va_put (D := (dC, dI)) (ci := 8) (v := .int x110) (ty := .int) (C := RX8) (T := TX8) (N := 40) hx hb hts zi_X8_feed_8 tyX8 tyX8_ok nmX8 hown hK hP hD hS 0 rfl rfl 2 (by decide) (hts (.fieldLink RX8 65 "WaxTurnsModel" "taped" "I") (List.mem_cons_of_mem _ (List.mem_append_left _ (List.mem_of_getElem? (i := 1) rfl)))) (fun _ h9 => h9) rfl (tyX8_ok 2 (by decide)) rfl rfl (Nat.le_of_ble_eq_true rfl) dX8_feed_111 (fun H locs hP hD hS => ?_)
                  refine zs_0 (y := (a0, .inr (8, [Value.int 0, Value.ref a0_1, Value.int x110, a0g_3, a0g_4, a0g_5, a0g_6, a0g_7, a0g_8, a0g_9, a0g_10, a0g_11, a0g_12, a0g_13, a0g_14, a0g_15, a0g_16, a0g_17, a0g_18, a0g_19, a0g_20, a0g_21, a0g_22, a0g_23, a0g_24, a0g_25, a0g_26, a0g_27, a0g_28, a0g_29, a0g_30, a0g_31, a0g_32, a0g_33, a0g_34, a0g_35, a0g_36, a0g_37, a0g_38, a0g_39]))) hP hD rfl (fun hP hD => ?_)
                  obtain ⟨x114, ex114⟩ : ∃ y : Int32, y = j23l6 + Int32.ofInt 1 := ⟨_, rfl⟩
                  have qx114 : x114.toInt = j23l6.toInt + 1 := ai_inc ex114 (by decide) (by decide) u66f_j23l6 (by decide)
                  have bx114 : (13 : Int) ≤ x114.toInt ∧ x114.toInt ≤ 16 := ⟨by rw [qx114]; exact Int.add_le_add l55t_j23l6 (Int.le_refl _), by rw [qx114]; exact Int.add_le_add u66f_j23l6 (Int.le_refl _)⟩
                  refine lv_iinc (v := x114) (lv' := [(6, .int x114), (7, .int a4), (0, .ref a0), (1, .int a1), (2, .int a2), (3, .int a3), (4, .int a4), (5, .int a5)]) hx hb dX8_feed_114 hl (k := 7) rfl ex114.symm (by decide) rfl (fun ls hl => ?_)
                  have hF1 := hF1.trans (fl_lt_eq (show x114.toInt = j23l6.toInt + 1 from qx114))
                  refine lv_goto (tgt := 23) hx hb dX8_feed_117 (by decide) ?_
                  exact (hK0 _ _ _).mp (ih23 x114 x110 f103 _ _ _ (by first | exact zg_s hm23 qx114 | (have h0 := qx114; omega)) (Int.le_trans zq221 bx114.1) (Int.le_trans bx114.2 zq222) (Int.le_trans zq4 bx110.1) bx110.2 (by omega) (hF0.trans (fl_wh_l (hSX23.trans hF1))) hP hD hS (lv_sub hl [2, 3, 4, 5, 6, 7, 0] rfl))
              · have gc55 := ai_nle c55
                have u55f_j23l6 : j23l6.toInt ≤ (11 : Int) := ai_lthi gc55 zq120
                have hF1 := hF1.trans (if_neg (show ¬ (12 ≤ j23l6.toInt) from Int.not_le.mpr gc55))
                refine lv_iload_n hx hb dX8_feed_58 rfl (lv_at hl 3 rfl) ?_
                refine lv_goto (tgt := 76) hx hb dX8_feed_59 (by decide) ?_
                refine lv_istore (lv' := [(7, .int a3), (0, .ref a0), (1, .int a1), (2, .int a2), (3, .int a3), (4, .int a4), (5, .int a5), (6, .int j23l6)]) hx hb dX8_feed_76 hl (by decide) rfl (fun ls hl => ?_)
                refine lv_aload_n hx hb dX8_feed_78 rfl (lv_at hl 1 rfl) ?_
                refine va_get (D := (dC, dI)) (ci := 8) (v := .ref a0_1) (C := RX8) (T := TX8) (N := 40) hx hb hts zi_X8_feed_8 hown hK hP 0 rfl rfl 1 (by decide) (hts (.fieldLink RX8 7 "WaxTurnsModel" "tape" "[I") (List.mem_cons_of_mem _ (List.mem_append_left _ (List.mem_of_getElem? (i := 2) rfl)))) (fun _ h9 => h9) rfl dX8_feed_79 ?_
                refine lv_aload_n hx hb dX8_feed_82 rfl (lv_at hl 1 rfl) ?_
                refine va_get (D := (dC, dI)) (ci := 8) (v := .int j23a0_2) (C := RX8) (T := TX8) (N := 40) hx hb hts zi_X8_feed_8 hown hK hP 0 rfl rfl 2 (by decide) (hts (.fieldLink RX8 65 "WaxTurnsModel" "taped" "I") (List.mem_cons_of_mem _ (List.mem_append_left _ (List.mem_of_getElem? (i := 1) rfl)))) (fun _ h9 => h9) rfl dX8_feed_83 ?_
                have u83z_j23a0_2 : j23a0_2.toInt ≤ (899 : Int) := by omega
                refine lv_iload hx hb dX8_feed_86 (lv_at hl 0 rfl) ?_
                refine lv_bipush (v := 24) hx hb dX8_feed_88 zk_bipush_24 ?_
                refine lv_bipush (v := 8) hx hb dX8_feed_90 zk_bipush_8 ?_
                refine lv_iload hx hb dX8_feed_92 (lv_at hl 7 rfl) ?_
                refine lv_iconst (v := 4) hx hb dX8_feed_94 zk_iconst_4 ?_
                refine lv_irem hx hb dX8_feed_95 (by decide +kernel) ?_
                refine lv_topi (fun x95 ex95 => ?_)
                have qx95 := ai_rem2 ex95 (Int.le_trans zq20 l44t_j23l6) (Int.lt_of_lt_of_le zq178 zq68) zq67
                have wx95 : x95.toInt = j23l6.toInt % 4 := qx95.1
                have hF1 := hF1.trans (fl_lt_eq (show x95.toInt = j23l6.toInt % 4 from qx95.1))
                refine lv_imul hx hb dX8_feed_96 ?_
                refine lv_topi (fun x96 ex96 => ?_)
                have qx96 : x96.toInt = (8 : Int32).toInt * x95.toInt ∧ (0 : Int) ≤ x96.toInt ∧ x96.toInt ≤ 24 := ai_mul ex96 ⟨zq116, zq28⟩ ⟨qx95.2.1, qx95.2.2⟩ (by decide) (by decide) zq219
                have wx96 : x96.toInt = 8 * x95.toInt := qx96.1
                have hF1 := hF1.trans (fl_lt_eq (show x96.toInt = 8 * x95.toInt from qx96.1))
                refine lv_isub hx hb dX8_feed_97 ?_
                refine lv_topi (fun x97 ex97 => ?_)
                have qx97 : x97.toInt = (24 : Int32).toInt - x96.toInt := ai_sub ex97 ⟨zq132, zq133⟩ ⟨qx96.2.1, qx96.2.2⟩ (by decide) (by decide)
                have bx97 : (0 : Int) ≤ x97.toInt ∧ x97.toInt ≤ 24 := ⟨by rw [qx97]; exact Int.sub_le_sub zq132 qx96.2.2, by rw [qx97]; exact Int.sub_le_sub zq133 qx96.2.1⟩
                have hF1 := hF1.trans (fl_lt_eq (show x97.toInt = 24 - x96.toInt from qx97))
                refine lv_ishr hx hb dX8_feed_98 ?_
                refine lv_topi (fun x98 ex98 => ?_)
                have fqx98 := fl_shr_eq ex98
                have hF1 := hF1.trans (fl_lt_eq (show x98.toInt = fl_shr a3.toInt x97.toInt from fqx98))
                refine lv_sipush (v := 255) hx hb dX8_feed_99 zk_sipush_255 ?_
                refine lv_iand hx hb dX8_feed_102 ?_
                refine lv_topi (fun x102 ex102 => ?_)
                have fqx102 := fl_and_eq ex102
                have hF1 := hF1.trans (fl_lt_eq (show x102.toInt = fl_and x98.toInt 255 from fqx102))
                refine va_iast hx hb hK hP hD hS 1 0 rfl rfl (ai_in bj23a0_2_l u83z_j23a0_2 (by decide) (by decide)) dX8_feed_103 (fun H locs hP hD hS => ?_)
                obtain ⟨f103, ef103⟩ : ∃ g9 : Nat → Int32, g9 = upd j23a0_1_a (j23a0_2 : Int32).toNatClampNeg x102 := ⟨_, rfl⟩
                refine zs_1 (y := (a0_1, .inl (ka0_1, 900, .inl (f103)))) hP hD (by rw [ef103]) (fun hP hD => ?_)
                have fqf103 := fl_up_eq ef103
                have hF1 := hF1.trans (fl_lt_eq (show (fl_A f103) = fl_up (fl_A j23a0_1_a) (j23a0_2.toInt.toNat) x102.toInt from fqf103))
                refine lv_aload_n hx hb dX8_feed_104 rfl (lv_at hl 1 rfl) ?_
                refine lv_dup hx hb dX8_feed_105 rfl ?_
                refine va_get (D := (dC, dI)) (ci := 8) (v := .int j23a0_2) (C := RX8) (T := TX8) (N := 40) hx hb hts zi_X8_feed_8 hown hK hP 0 rfl rfl 2 (by decide) (hts (.fieldLink RX8 65 "WaxTurnsModel" "taped" "I") (List.mem_cons_of_mem _ (List.mem_append_left _ (List.mem_of_getElem? (i := 1) rfl)))) (fun _ h9 => h9) rfl dX8_feed_106 ?_
                refine lv_iconst (v := 1) hx hb dX8_feed_109 zk_iconst_1 ?_
                refine lv_iadd hx hb dX8_feed_110 ?_
                refine lv_topi (fun x110 ex110 => ?_)
                have qx110 : x110.toInt = j23a0_2.toInt + (1 : Int32).toInt := ai_add ex110 ⟨bj23a0_2_l, u83z_j23a0_2⟩ ⟨zq1, zq0⟩ (by decide) (by decide)
                have bx110 : (1 : Int) ≤ x110.toInt ∧ x110.toInt ≤ 900 := ⟨by rw [qx110]; exact Int.add_le_add bj23a0_2_l zq1, by rw [qx110]; exact Int.add_le_add u83z_j23a0_2 zq0⟩
                have wx110 : x110.toInt = j23a0_2.toInt + 1 := qx110
                have hF1 := hF1.trans (fl_lt_eq (show x110.toInt = j23a0_2.toInt + 1 from qx110))
                refine va_put (D := (dC, dI)) (ci := 8) (v := .int x110) (ty := .int) (C := RX8) (T := TX8) (N := 40) hx hb hts zi_X8_feed_8 tyX8 tyX8_ok nmX8 hown hK hP hD hS 0 rfl rfl 2 (by decide) (hts (.fieldLink RX8 65 "WaxTurnsModel" "taped" "I") (List.mem_cons_of_mem _ (List.mem_append_left _ (List.mem_of_getElem? (i := 1) rfl)))) (fun _ h9 => h9) rfl (tyX8_ok 2 (by decide)) rfl rfl (Nat.le_of_ble_eq_true rfl) dX8_feed_111 (fun H locs hP hD hS => ?_)
                refine zs_0 (y := (a0, .inr (8, [Value.int 0, Value.ref a0_1, Value.int x110, a0g_3, a0g_4, a0g_5, a0g_6, a0g_7, a0g_8, a0g_9, a0g_10, a0g_11, a0g_12, a0g_13, a0g_14, a0g_15, a0g_16, a0g_17, a0g_18, a0g_19, a0g_20, a0g_21, a0g_22, a0g_23, a0g_24, a0g_25, a0g_26, a0g_27, a0g_28, a0g_29, a0g_30, a0g_31, a0g_32, a0g_33, a0g_34, a0g_35, a0g_36, a0g_37, a0g_38, a0g_39]))) hP hD rfl (fun hP hD => ?_)
                obtain ⟨x114, ex114⟩ : ∃ y : Int32, y = j23l6 + Int32.ofInt 1 := ⟨_, rfl⟩
                have qx114 : x114.toInt = j23l6.toInt + 1 := ai_inc ex114 (by decide) (by decide) u55f_j23l6 (by decide)
                have bx114 : (9 : Int) ≤ x114.toInt ∧ x114.toInt ≤ 12 := ⟨by rw [qx114]; exact Int.add_le_add l44t_j23l6 (Int.le_refl _), by rw [qx114]; exact Int.add_le_add u55f_j23l6 (Int.le_refl _)⟩
                refine lv_iinc (v := x114) (lv' := [(6, .int x114), (7, .int a3), (0, .ref a0), (1, .int a1), (2, .int a2), (3, .int a3), (4, .int a4), (5, .int a5)]) hx hb dX8_feed_114 hl (k := 7) rfl ex114.symm (by decide) rfl (fun ls hl => ?_)
                have hF1 := hF1.trans (fl_lt_eq (show x114.toInt = j23l6.toInt + 1 from qx114))
                refine lv_goto (tgt := 23) hx hb dX8_feed_117 (by decide) ?_
                exact (hK0 _ _ _).mp (ih23 x114 x110 f103 _ _ _ (by first | exact zg_s hm23 qx114 | (have h0 := qx114; omega)) (Int.le_trans zq7 bx114.1) (Int.le_trans bx114.2 zq223) (Int.le_trans zq4 bx110.1) bx110.2 (by omega) (hF0.trans (fl_wh_l (hSX23.trans hF1))) hP hD hS (lv_sub hl [2, 3, 4, 5, 6, 7, 0] rfl))
            · have gc44 := ai_nle c44
              have u44f_j23l6 : j23l6.toInt ≤ (7 : Int) := ai_lthi gc44 zq28
              have hF1 := hF1.trans (if_neg (show ¬ (8 ≤ j23l6.toInt) from Int.not_le.mpr gc44))
              refine lv_iload_n hx hb dX8_feed_47 rfl (lv_at hl 2 rfl) ?_
              refine lv_goto (tgt := 76) hx hb dX8_feed_48 (by decide) ?_
              refine lv_istore (lv' := [(7, .int a2), (0, .ref a0), (1, .int a1), (2, .int a2), (3, .int a3), (4, .int a4), (5, .int a5), (6, .int j23l6)]) hx hb dX8_feed_76 hl (by decide) rfl (fun ls hl => ?_)
              refine lv_aload_n hx hb dX8_feed_78 rfl (lv_at hl 1 rfl) ?_
              refine va_get (D := (dC, dI)) (ci := 8) (v := .ref a0_1) (C := RX8) (T := TX8) (N := 40) hx hb hts zi_X8_feed_8 hown hK hP 0 rfl rfl 1 (by decide) (hts (.fieldLink RX8 7 "WaxTurnsModel" "tape" "[I") (List.mem_cons_of_mem _ (List.mem_append_left _ (List.mem_of_getElem? (i := 2) rfl)))) (fun _ h9 => h9) rfl dX8_feed_79 ?_
              refine lv_aload_n hx hb dX8_feed_82 rfl (lv_at hl 1 rfl) ?_
              refine va_get (D := (dC, dI)) (ci := 8) (v := .int j23a0_2) (C := RX8) (T := TX8) (N := 40) hx hb hts zi_X8_feed_8 hown hK hP 0 rfl rfl 2 (by decide) (hts (.fieldLink RX8 65 "WaxTurnsModel" "taped" "I") (List.mem_cons_of_mem _ (List.mem_append_left _ (List.mem_of_getElem? (i := 1) rfl)))) (fun _ h9 => h9) rfl dX8_feed_83 ?_
              have u83z_j23a0_2 : j23a0_2.toInt ≤ (899 : Int) := by omega
              refine lv_iload hx hb dX8_feed_86 (lv_at hl 0 rfl) ?_
              refine lv_bipush (v := 24) hx hb dX8_feed_88 zk_bipush_24 ?_
              refine lv_bipush (v := 8) hx hb dX8_feed_90 zk_bipush_8 ?_
              refine lv_iload hx hb dX8_feed_92 (lv_at hl 7 rfl) ?_
              refine lv_iconst (v := 4) hx hb dX8_feed_94 zk_iconst_4 ?_
              refine lv_irem hx hb dX8_feed_95 (by decide +kernel) ?_
              refine lv_topi (fun x95 ex95 => ?_)
              have qx95 := ai_rem2 ex95 (Int.le_trans zq101 l33t_j23l6) (Int.lt_of_lt_of_le zq178 zq68) zq67
              have wx95 : x95.toInt = j23l6.toInt % 4 := qx95.1
              have hF1 := hF1.trans (fl_lt_eq (show x95.toInt = j23l6.toInt % 4 from qx95.1))
              refine lv_imul hx hb dX8_feed_96 ?_
              refine lv_topi (fun x96 ex96 => ?_)
              have qx96 : x96.toInt = (8 : Int32).toInt * x95.toInt ∧ (0 : Int) ≤ x96.toInt ∧ x96.toInt ≤ 24 := ai_mul ex96 ⟨zq116, zq28⟩ ⟨qx95.2.1, qx95.2.2⟩ (by decide) (by decide) zq219
              have wx96 : x96.toInt = 8 * x95.toInt := qx96.1
              have hF1 := hF1.trans (fl_lt_eq (show x96.toInt = 8 * x95.toInt from qx96.1))
              refine lv_isub hx hb dX8_feed_97 ?_
              refine lv_topi (fun x97 ex97 => ?_)
              have qx97 : x97.toInt = (24 : Int32).toInt - x96.toInt := ai_sub ex97 ⟨zq132, zq133⟩ ⟨qx96.2.1, qx96.2.2⟩ (by decide) (by decide)
              have bx97 : (0 : Int) ≤ x97.toInt ∧ x97.toInt ≤ 24 := ⟨by rw [qx97]; exact Int.sub_le_sub zq132 qx96.2.2, by rw [qx97]; exact Int.sub_le_sub zq133 qx96.2.1⟩
              have hF1 := hF1.trans (fl_lt_eq (show x97.toInt = 24 - x96.toInt from qx97))
              refine lv_ishr hx hb dX8_feed_98 ?_
              refine lv_topi (fun x98 ex98 => ?_)
              have fqx98 := fl_shr_eq ex98
              have hF1 := hF1.trans (fl_lt_eq (show x98.toInt = fl_shr a2.toInt x97.toInt from fqx98))
              refine lv_sipush (v := 255) hx hb dX8_feed_99 zk_sipush_255 ?_
              refine lv_iand hx hb dX8_feed_102 ?_
              refine lv_topi (fun x102 ex102 => ?_)
              have fqx102 := fl_and_eq ex102
              have hF1 := hF1.trans (fl_lt_eq (show x102.toInt = fl_and x98.toInt 255 from fqx102))
              refine va_iast hx hb hK hP hD hS 1 0 rfl rfl (ai_in bj23a0_2_l u83z_j23a0_2 (by decide) (by decide)) dX8_feed_103 (fun H locs hP hD hS => ?_)
              obtain ⟨f103, ef103⟩ : ∃ g9 : Nat → Int32, g9 = upd j23a0_1_a (j23a0_2 : Int32).toNatClampNeg x102 := ⟨_, rfl⟩
              refine zs_1 (y := (a0_1, .inl (ka0_1, 900, .inl (f103)))) hP hD (by rw [ef103]) (fun hP hD => ?_)
              have fqf103 := fl_up_eq ef103
              have hF1 := hF1.trans (fl_lt_eq (show (fl_A f103) = fl_up (fl_A j23a0_1_a) (j23a0_2.toInt.toNat) x102.toInt from fqf103))
              refine lv_aload_n hx hb dX8_feed_104 rfl (lv_at hl 1 rfl) ?_
              refine lv_dup hx hb dX8_feed_105 rfl ?_
              refine va_get (D := (dC, dI)) (ci := 8) (v := .int j23a0_2) (C := RX8) (T := TX8) (N := 40) hx hb hts zi_X8_feed_8 hown hK hP 0 rfl rfl 2 (by decide) (hts (.fieldLink RX8 65 "WaxTurnsModel" "taped" "I") (List.mem_cons_of_mem _ (List.mem_append_left _ (List.mem_of_getElem? (i := 1) rfl)))) (fun _ h9 => h9) rfl dX8_feed_106 ?_
              refine lv_iconst (v := 1) hx hb dX8_feed_109 zk_iconst_1 ?_
              refine lv_iadd hx hb dX8_feed_110 ?_
              refine lv_topi (fun x110 ex110 => ?_)
              have qx110 : x110.toInt = j23a0_2.toInt + (1 : Int32).toInt := ai_add ex110 ⟨bj23a0_2_l, u83z_j23a0_2⟩ ⟨zq1, zq0⟩ (by decide) (by decide)
              have bx110 : (1 : Int) ≤ x110.toInt ∧ x110.toInt ≤ 900 := ⟨by rw [qx110]; exact Int.add_le_add bj23a0_2_l zq1, by rw [qx110]; exact Int.add_le_add u83z_j23a0_2 zq0⟩
              have wx110 : x110.toInt = j23a0_2.toInt + 1 := qx110
              have hF1 := hF1.trans (fl_lt_eq (show x110.toInt = j23a0_2.toInt + 1 from qx110))
              refine va_put (D := (dC, dI)) (ci := 8) (v := .int x110) (ty := .int) (C := RX8) (T := TX8) (N := 40) hx hb hts zi_X8_feed_8 tyX8 tyX8_ok nmX8 hown hK hP hD hS 0 rfl rfl 2 (by decide) (hts (.fieldLink RX8 65 "WaxTurnsModel" "taped" "I") (List.mem_cons_of_mem _ (List.mem_append_left _ (List.mem_of_getElem? (i := 1) rfl)))) (fun _ h9 => h9) rfl (tyX8_ok 2 (by decide)) rfl rfl (Nat.le_of_ble_eq_true rfl) dX8_feed_111 (fun H locs hP hD hS => ?_)
              refine zs_0 (y := (a0, .inr (8, [Value.int 0, Value.ref a0_1, Value.int x110, a0g_3, a0g_4, a0g_5, a0g_6, a0g_7, a0g_8, a0g_9, a0g_10, a0g_11, a0g_12, a0g_13, a0g_14, a0g_15, a0g_16, a0g_17, a0g_18, a0g_19, a0g_20, a0g_21, a0g_22, a0g_23, a0g_24, a0g_25, a0g_26, a0g_27, a0g_28, a0g_29, a0g_30, a0g_31, a0g_32, a0g_33, a0g_34, a0g_35, a0g_36, a0g_37, a0g_38, a0g_39]))) hP hD rfl (fun hP hD => ?_)
              obtain ⟨x114, ex114⟩ : ∃ y : Int32, y = j23l6 + Int32.ofInt 1 := ⟨_, rfl⟩
              have qx114 : x114.toInt = j23l6.toInt + 1 := ai_inc ex114 (by decide) (by decide) u44f_j23l6 (by decide)
              have bx114 : (5 : Int) ≤ x114.toInt ∧ x114.toInt ≤ 8 := ⟨by rw [qx114]; exact Int.add_le_add l33t_j23l6 (Int.le_refl _), by rw [qx114]; exact Int.add_le_add u44f_j23l6 (Int.le_refl _)⟩
              refine lv_iinc (v := x114) (lv' := [(6, .int x114), (7, .int a2), (0, .ref a0), (1, .int a1), (2, .int a2), (3, .int a3), (4, .int a4), (5, .int a5)]) hx hb dX8_feed_114 hl (k := 7) rfl ex114.symm (by decide) rfl (fun ls hl => ?_)
              have hF1 := hF1.trans (fl_lt_eq (show x114.toInt = j23l6.toInt + 1 from qx114))
              refine lv_goto (tgt := 23) hx hb dX8_feed_117 (by decide) ?_
              exact (hK0 _ _ _).mp (ih23 x114 x110 f103 _ _ _ (by first | exact zg_s hm23 qx114 | (have h0 := qx114; omega)) (Int.le_trans zq224 bx114.1) (Int.le_trans bx114.2 zq225) (Int.le_trans zq4 bx110.1) bx110.2 (by omega) (hF0.trans (fl_wh_l (hSX23.trans hF1))) hP hD hS (lv_sub hl [2, 3, 4, 5, 6, 7, 0] rfl))
          · have gc33 := ai_nle c33
            have u33f_j23l6 : j23l6.toInt ≤ (3 : Int) := ai_lthi gc33 zq67
            have hF1 := hF1.trans (if_neg (show ¬ (4 ≤ j23l6.toInt) from Int.not_le.mpr gc33))
            refine lv_iload_n hx hb dX8_feed_36 rfl (lv_at hl 1 rfl) ?_
            refine lv_goto (tgt := 76) hx hb dX8_feed_37 (by decide) ?_
            refine lv_istore (lv' := [(7, .int a1), (0, .ref a0), (1, .int a1), (2, .int a2), (3, .int a3), (4, .int a4), (5, .int a5), (6, .int j23l6)]) hx hb dX8_feed_76 hl (by decide) rfl (fun ls hl => ?_)
            refine lv_aload_n hx hb dX8_feed_78 rfl (lv_at hl 1 rfl) ?_
            refine va_get (D := (dC, dI)) (ci := 8) (v := .ref a0_1) (C := RX8) (T := TX8) (N := 40) hx hb hts zi_X8_feed_8 hown hK hP 0 rfl rfl 1 (by decide) (hts (.fieldLink RX8 7 "WaxTurnsModel" "tape" "[I") (List.mem_cons_of_mem _ (List.mem_append_left _ (List.mem_of_getElem? (i := 2) rfl)))) (fun _ h9 => h9) rfl dX8_feed_79 ?_
            refine lv_aload_n hx hb dX8_feed_82 rfl (lv_at hl 1 rfl) ?_
            refine va_get (D := (dC, dI)) (ci := 8) (v := .int j23a0_2) (C := RX8) (T := TX8) (N := 40) hx hb hts zi_X8_feed_8 hown hK hP 0 rfl rfl 2 (by decide) (hts (.fieldLink RX8 65 "WaxTurnsModel" "taped" "I") (List.mem_cons_of_mem _ (List.mem_append_left _ (List.mem_of_getElem? (i := 1) rfl)))) (fun _ h9 => h9) rfl dX8_feed_83 ?_
            have u83z_j23a0_2 : j23a0_2.toInt ≤ (899 : Int) := by omega
            refine lv_iload hx hb dX8_feed_86 (lv_at hl 0 rfl) ?_
            refine lv_bipush (v := 24) hx hb dX8_feed_88 zk_bipush_24 ?_
            refine lv_bipush (v := 8) hx hb dX8_feed_90 zk_bipush_8 ?_
            refine lv_iload hx hb dX8_feed_92 (lv_at hl 7 rfl) ?_
            refine lv_iconst (v := 4) hx hb dX8_feed_94 zk_iconst_4 ?_
            refine lv_irem hx hb dX8_feed_95 (by decide +kernel) ?_
            refine lv_topi (fun x95 ex95 => ?_)
            have qx95 := ai_rem2 ex95 bj23l6_l (Int.lt_of_lt_of_le zq178 zq68) zq67
            have wx95 : x95.toInt = j23l6.toInt % 4 := qx95.1
            have hF1 := hF1.trans (fl_lt_eq (show x95.toInt = j23l6.toInt % 4 from qx95.1))
            refine lv_imul hx hb dX8_feed_96 ?_
            refine lv_topi (fun x96 ex96 => ?_)
            have qx96 : x96.toInt = (8 : Int32).toInt * x95.toInt ∧ (0 : Int) ≤ x96.toInt ∧ x96.toInt ≤ 24 := ai_mul ex96 ⟨zq116, zq28⟩ ⟨qx95.2.1, qx95.2.2⟩ (by decide) (by decide) zq219
            have wx96 : x96.toInt = 8 * x95.toInt := qx96.1
            have hF1 := hF1.trans (fl_lt_eq (show x96.toInt = 8 * x95.toInt from qx96.1))
            refine lv_isub hx hb dX8_feed_97 ?_
            refine lv_topi (fun x97 ex97 => ?_)
            have qx97 : x97.toInt = (24 : Int32).toInt - x96.toInt := ai_sub ex97 ⟨zq132, zq133⟩ ⟨qx96.2.1, qx96.2.2⟩ (by decide) (by decide)
            have bx97 : (0 : Int) ≤ x97.toInt ∧ x97.toInt ≤ 24 := ⟨by rw [qx97]; exact Int.sub_le_sub zq132 qx96.2.2, by rw [qx97]; exact Int.sub_le_sub zq133 qx96.2.1⟩
            have hF1 := hF1.trans (fl_lt_eq (show x97.toInt = 24 - x96.toInt from qx97))
            refine lv_ishr hx hb dX8_feed_98 ?_
            refine lv_topi (fun x98 ex98 => ?_)
            have fqx98 := fl_shr_eq ex98
            have hF1 := hF1.trans (fl_lt_eq (show x98.toInt = fl_shr a1.toInt x97.toInt from fqx98))
            refine lv_sipush (v := 255) hx hb dX8_feed_99 zk_sipush_255 ?_
            refine lv_iand hx hb dX8_feed_102 ?_
            refine lv_topi (fun x102 ex102 => ?_)
            have fqx102 := fl_and_eq ex102
            have hF1 := hF1.trans (fl_lt_eq (show x102.toInt = fl_and x98.toInt 255 from fqx102))
            refine va_iast hx hb hK hP hD hS 1 0 rfl rfl (ai_in bj23a0_2_l u83z_j23a0_2 (by decide) (by decide)) dX8_feed_103 (fun H locs hP hD hS => ?_)
            obtain ⟨f103, ef103⟩ : ∃ g9 : Nat → Int32, g9 = upd j23a0_1_a (j23a0_2 : Int32).toNatClampNeg x102 := ⟨_, rfl⟩
            refine zs_1 (y := (a0_1, .inl (ka0_1, 900, .inl (f103)))) hP hD (by rw [ef103]) (fun hP hD => ?_)
            have fqf103 := fl_up_eq ef103
            have hF1 := hF1.trans (fl_lt_eq (show (fl_A f103) = fl_up (fl_A j23a0_1_a) (j23a0_2.toInt.toNat) x102.toInt from fqf103))
            refine lv_aload_n hx hb dX8_feed_104 rfl (lv_at hl 1 rfl) ?_
            refine lv_dup hx hb dX8_feed_105 rfl ?_
            refine va_get (D := (dC, dI)) (ci := 8) (v := .int j23a0_2) (C := RX8) (T := TX8) (N := 40) hx hb hts zi_X8_feed_8 hown hK hP 0 rfl rfl 2 (by decide) (hts (.fieldLink RX8 65 "WaxTurnsModel" "taped" "I") (List.mem_cons_of_mem _ (List.mem_append_left _ (List.mem_of_getElem? (i := 1) rfl)))) (fun _ h9 => h9) rfl dX8_feed_106 ?_
            refine lv_iconst (v := 1) hx hb dX8_feed_109 zk_iconst_1 ?_
            refine lv_iadd hx hb dX8_feed_110 ?_
            refine lv_topi (fun x110 ex110 => ?_)
            have qx110 : x110.toInt = j23a0_2.toInt + (1 : Int32).toInt := ai_add ex110 ⟨bj23a0_2_l, u83z_j23a0_2⟩ ⟨zq1, zq0⟩ (by decide) (by decide)
            have bx110 : (1 : Int) ≤ x110.toInt ∧ x110.toInt ≤ 900 := ⟨by rw [qx110]; exact Int.add_le_add bj23a0_2_l zq1, by rw [qx110]; exact Int.add_le_add u83z_j23a0_2 zq0⟩
            have wx110 : x110.toInt = j23a0_2.toInt + 1 := qx110
            have hF1 := hF1.trans (fl_lt_eq (show x110.toInt = j23a0_2.toInt + 1 from qx110))
            refine va_put (D := (dC, dI)) (ci := 8) (v := .int x110) (ty := .int) (C := RX8) (T := TX8) (N := 40) hx hb hts zi_X8_feed_8 tyX8 tyX8_ok nmX8 hown hK hP hD hS 0 rfl rfl 2 (by decide) (hts (.fieldLink RX8 65 "WaxTurnsModel" "taped" "I") (List.mem_cons_of_mem _ (List.mem_append_left _ (List.mem_of_getElem? (i := 1) rfl)))) (fun _ h9 => h9) rfl (tyX8_ok 2 (by decide)) rfl rfl (Nat.le_of_ble_eq_true rfl) dX8_feed_111 (fun H locs hP hD hS => ?_)
            refine zs_0 (y := (a0, .inr (8, [Value.int 0, Value.ref a0_1, Value.int x110, a0g_3, a0g_4, a0g_5, a0g_6, a0g_7, a0g_8, a0g_9, a0g_10, a0g_11, a0g_12, a0g_13, a0g_14, a0g_15, a0g_16, a0g_17, a0g_18, a0g_19, a0g_20, a0g_21, a0g_22, a0g_23, a0g_24, a0g_25, a0g_26, a0g_27, a0g_28, a0g_29, a0g_30, a0g_31, a0g_32, a0g_33, a0g_34, a0g_35, a0g_36, a0g_37, a0g_38, a0g_39]))) hP hD rfl (fun hP hD => ?_)
            obtain ⟨x114, ex114⟩ : ∃ y : Int32, y = j23l6 + Int32.ofInt 1 := ⟨_, rfl⟩
            have qx114 : x114.toInt = j23l6.toInt + 1 := ai_inc ex114 (by decide) (by decide) u33f_j23l6 (by decide)
            have bx114 : (1 : Int) ≤ x114.toInt ∧ x114.toInt ≤ 4 := ⟨by rw [qx114]; exact Int.add_le_add bj23l6_l (Int.le_refl _), by rw [qx114]; exact Int.add_le_add u33f_j23l6 (Int.le_refl _)⟩
            refine lv_iinc (v := x114) (lv' := [(6, .int x114), (7, .int a1), (0, .ref a0), (1, .int a1), (2, .int a2), (3, .int a3), (4, .int a4), (5, .int a5)]) hx hb dX8_feed_114 hl (k := 7) rfl ex114.symm (by decide) rfl (fun ls hl => ?_)
            have hF1 := hF1.trans (fl_lt_eq (show x114.toInt = j23l6.toInt + 1 from qx114))
            refine lv_goto (tgt := 23) hx hb dX8_feed_117 (by decide) ?_
            exact (hK0 _ _ _).mp (ih23 x114 x110 f103 _ _ _ (by first | exact zg_s hm23 qx114 | (have h0 := qx114; omega)) (Int.le_trans zq4 bx114.1) (Int.le_trans bx114.2 zq226) (Int.le_trans zq4 bx110.1) bx110.2 (by omega) (hF0.trans (fl_wh_l (hSX23.trans hF1))) hP hD hS (lv_sub hl [2, 3, 4, 5, 6, 7, 0] rfl))
    exact (hK0 _ _ _).mp (J23 21 0 a0_2 fa0_1 _ _ _ (by first | decide +kernel | (have h1 : (0 : Int) ≤ (0 : Int32).toInt := zq5; have h2 : (0 : Int32).toInt ≤ (0 : Int) := zq6; omega)) zq5 (Int.le_trans zq6 zq191) ba0_2_l (Int.le_trans u15t_a0_2 zq227) (by have h1 : (0 : Int32).toInt = 0 := (by decide); omega) (by rw [show (0 : Int32).toInt = 0 from by decide]; exact hF0) hP hD hS (lv_sub hl [1, 2, 3, 4, 5, 6, 0] rfl))
  · have gc15 := ai_nle c15
    have l15f_x11 : (901 : Int) ≤ x11.toInt := ai_ltlo gc15 zq37
    have l15f_a0_2 : (881 : Int) ≤ a0_2.toInt := by have h1 := wx11; have h2 := l15f_x11; omega
    have hF0 := hF0.trans (if_neg (show ¬ (x11.toInt ≤ 900) from Int.not_le.mpr gc15))
    refine lv_iconst (v := (-1)) hx hb dX8_feed_18 zk_iconst_n1 ?_
    have hFe : FX = ((-1), 0, a0_2.toInt, (fl_A fa0_1)) := hF0
    exact W.iret (v := (-1)) hx hb hr (fun t ht hW => ⟨⟨(-1), (), rfl, ⟨(Or.inl ⟨rfl, by omega⟩), (congrArg Prod.fst hFe).symm⟩, 0, a0_2, fa0_1, ⟨Int.le_trans (by decide) l15f_a0_2, ba0_2_u⟩, (by constructor <;> intro h9 <;> omega), (congrArg Prod.snd hFe), by rw [ht]; exact hP, va_K.moved hW.alike hK, hD⟩, hS.F ht⟩) hS.2.2 dX8_feed_19
end P313_01_f
section P314_00_f
set_option maxHeartbeats 4000000 in
set_option maxRecDepth 100000 in
theorem f_X5_isGone (l : Launch) (dC : Nat → ClassId) (dI : Nat → Nat → Nat) (sz : Nat) (a0 : Nat) (a1 : Int32) (a0g_0 a0g_1 a0g_2 a0g_4 a0g_5 a0g_6 : Value) (a0_3 : Int32)  : zm l yX5_isGone wsX5_isGone ({ frames := 1, cells := 0, slots := 0, locals := 21 }) [.ref a0, .int a1] dC dI sz [(a0, .inr (5, [a0g_0, a0g_1, a0g_2, .int a0_3, a0g_4, a0g_5, a0g_6]))] [] (fun A U => va_Nw (.methodLinkNest RX5 38 yX7_hasBit RX7) U) (fun A => va_Qi (fun (r : Int32) (_ : Unit) => ((r = 1) ∨ (r = 0)) ∧ r.toInt = Ff_X5_isGone a1.toInt a0_3.toInt) (fun (_ : Unit) (t : State) => ax_B dC dI A [(a0, .inr (5, [a0g_0, a0g_1, a0g_2, .int a0_3, a0g_4, a0g_5, a0g_6]))] [] t) A) := by
  refine zh (cc := cX5_isGone) (maxL := 2) (ret := (some .boolean)) zn_RX5 rfl (Nat.le_of_ble_eq_true rfl) (fun p e s m below meth c A ls hx hb hml hr hts (hown : s.vm.findClass RX5 = some m.cls) hlocks hA hS hP hK hD hE (hl : lv_has ls 2 [(0, .ref a0), (1, .int a1)]) => ?_)
  have hE0 := hE
  generalize hFX : Ff_X5_isGone a1.toInt a0_3.toInt = FX at ⊢
  have hF0 := hFX.symm.trans (Ff_X5_isGone.eq_1 a1.toInt a0_3.toInt)
  refine lv_aload_n hx hb dX5_isGone_0 rfl (lv_at hl 0 rfl) ?_
  refine va_get (D := (dC, dI)) (ci := 5) (v := .int a0_3) (C := RX5) (T := TX5) (N := 7) hx hb hts zi_X5_isGone_5 hown hK hP 0 rfl rfl 3 (by decide) (hts (.fieldLink RX5 22 "WaxTurns$Scene" "goneBits" "I") (List.mem_cons_of_mem _ (List.mem_append_left _ (List.mem_of_getElem? (i := 0) rfl)))) (fun _ h9 => h9) rfl dX5_isGone_1 ?_
  refine lv_iload_n hx hb dX5_isGone_4 rfl (lv_at hl 1 rfl) ?_
  refine va_calli (va_runSN (As := [.int a0_3, .int a1]) (rest := []) ⟨hx, hb, hml, hown, hts⟩ (f_X7_hasBit l dC dI s.heap.size a0_3 a1 ) ⟨va_cnB 2 hts gX5_isGone_X7_hasBit_n38 rfl rfl rfl hE0 (hts (.initialized RX7) (List.mem_cons_of_mem _ (List.mem_append_left _ (List.mem_of_getElem? (i := 2) rfl)))) zd_X7_hasBit.2 ⟨Nat.le_of_ble_eq_true rfl, Nat.le_of_ble_eq_true rfl⟩, (hts (.static yX7_hasBit) (List.mem_cons_of_mem _ (List.mem_append_left _ (List.mem_of_getElem? (i := 1) rfl)))), trivial⟩ ⟨ax_blind (fun _ _ _ _ _ => trivial), ax_pre (zp_P0 hP) (zp_K hK) (zp_D0 hD) (fun _ _ => trivial)⟩ rfl rfl hl.1 rfl (lv_room (Nat.le_of_ble_eq_true rfl)) dX5_isGone_5 ⟨Nat.le_of_ble_eq_true rfl, Nat.le_of_ble_eq_true rfl⟩) hS (fun q _ h => zp_F0 hD hS hA q h) (zp_F0 hD hS hA) (fun r5 u t H locs ht hvm hw hB hz1 hk1 hS1 => zo0 hB ht hP hD hk1 (zp_F0 hD hS hA) hS1 (fun hP hK1 hD hS => ?_))
  obtain ⟨hw, hfr5⟩ := hw
  have hc5 : Ff_X7_hasBit a0_3.toInt a1.toInt = r5.toInt := hfr5.symm
  have hF0 := hF0.trans (fl_lt_eq hc5.symm)
  rcases hw with hw | hw
  · subst hw
    have hF0 := hF0.trans (if_pos (by decide))
    have hFe : FX = 1 := hF0
    exact W.zret (v := 1) hx hb hr rfl (fun t ht hW => ⟨⟨1, (), rfl, ⟨(Or.inl (rfl)), hFe.symm⟩, by rw [ht]; exact hP, va_K.moved hW.alike hK, hD⟩, hS.F ht⟩) hS.2.2 dX5_isGone_8
  · subst hw
    have hF0 := hF0.trans (if_neg (by decide))
    have hFe : FX = 0 := hF0
    exact W.zret (v := 0) hx hb hr rfl (fun t ht hW => ⟨⟨0, (), rfl, ⟨(Or.inr (rfl)), hFe.symm⟩, by rw [ht]; exact hP, va_K.moved hW.alike hK, hD⟩, hS.F ht⟩) hS.2.2 dX5_isGone_8

set_option maxHeartbeats 4000000 in
set_option maxRecDepth 100000 in
theorem f_X6_placeOf (l : Launch) (dC : Nat → ClassId) (dI : Nat → Nat → Nat) (sz : Nat) (a0 : Nat) (a1 : Int32) (a2 : Int32) (a0g_0 a0g_1 : Value) (a0_2 : Nat) (a0_3 : Nat) (ka0_3 : ClassId) (fa0_3 : Nat → Int32) (ka0_2 : ClassId) (fa0_2 : Nat → Int32) (ba1_l : (0 : Int) ≤ a1.toInt) (ba1_u : a1.toInt ≤ (2 : Int)) (bfa0_3 : (∀ k, (0 : Int) ≤ (fa0_3 k).toInt ∧ (fa0_3 k).toInt ≤ 80)) (bfa0_2 : (∀ k, (0 : Int) ≤ (fa0_2 k).toInt ∧ (fa0_2 k).toInt ≤ 80)) : zm l yX6_placeOf wsX6_placeOf ({ frames := 0, cells := 0, slots := 0, locals := 0 }) [.ref a0, .int a1, .int a2] dC dI sz [(a0, .inr (6, [a0g_0, a0g_1, .ref a0_2, .ref a0_3])), (a0_3, .inl (ka0_3, 3, .inl (fa0_3))), (a0_2, .inl (ka0_2, 3, .inl (fa0_2)))] [(ka0_3, .int), (ka0_2, .int)] (fun A _ => True) (fun A => va_Qi (fun (r : Int32) (_ : Unit) => (True) ∧ r.toInt = Ff_X6_placeOf a1.toInt a2.toInt (fl_A fa0_3) (fl_A fa0_2)) (fun (_ : Unit) (t : State) => ax_B dC dI A [(a0, .inr (6, [a0g_0, a0g_1, .ref a0_2, .ref a0_3])), (a0_3, .inl (ka0_3, 3, .inl (fa0_3))), (a0_2, .inl (ka0_2, 3, .inl (fa0_2)))] [(ka0_3, .int), (ka0_2, .int)] t) A) := by
  refine zh (cc := cX6_placeOf) (maxL := 7) (ret := (some .int)) zn_RX6 rfl (Nat.le_of_ble_eq_true rfl) (fun p e s m below meth c A ls hx hb hml hr hts (hown : s.vm.findClass RX6 = some m.cls) hlocks hA hS hP hK hD hE (hl : lv_has ls 7 [(0, .ref a0), (1, .int a1), (2, .int a2)]) => ?_)
  generalize hFX : Ff_X6_placeOf a1.toInt a2.toInt (fl_A fa0_3) (fl_A fa0_2) = FX at ⊢
  have hF0 := hFX.symm.trans (Ff_X6_placeOf.eq_1 a1.toInt a2.toInt (fl_A fa0_3) (fl_A fa0_2))
  refine lv_aload_n hx hb dX6_placeOf_0 rfl (lv_at hl 0 rfl) ?_
  refine va_get (D := (dC, dI)) (ci := 6) (v := .ref a0_3) (C := RX6) (T := TX6) (N := 4) hx hb hts zi_X6_placeOf_6 hown hK hP 0 rfl rfl 3 (by decide) (hts (.fieldLink RX6 15 "WaxTurns$Watchers" "to" "[I") (List.mem_cons_of_mem _ (List.mem_append_left _ (List.mem_of_getElem? (i := 0) rfl)))) (fun _ h9 => h9) rfl dX6_placeOf_1 ?_
  refine lv_iload_n hx hb dX6_placeOf_4 rfl (lv_at hl 1 rfl) ?_
  refine va_iald hx hb hK hP 1 0 rfl rfl (ai_in ba1_l ba1_u (by decide) (by decide)) dX6_placeOf_5 ?_
  refine lv_topi (fun x5 ex5 => ?_)
  have bx5 : (0 : Int) ≤ x5.toInt ∧ x5.toInt ≤ 80 := by rw [ex5]; exact bfa0_3 _
  have fqx5 := congrArg Int32.toInt ex5
  have hF0 := hF0.trans (fl_lt_eq (show x5.toInt = (fl_A fa0_3) (a1.toInt.toNat) from fqx5))
  refine lv_aload_n hx hb dX6_placeOf_6 rfl (lv_at hl 0 rfl) ?_
  refine va_get (D := (dC, dI)) (ci := 6) (v := .ref a0_2) (C := RX6) (T := TX6) (N := 4) hx hb hts zi_X6_placeOf_6 hown hK hP 0 rfl rfl 2 (by decide) (hts (.fieldLink RX6 9 "WaxTurns$Watchers" "from" "[I") (List.mem_cons_of_mem _ (List.mem_append_left _ (List.mem_of_getElem? (i := 1) rfl)))) (fun _ h9 => h9) rfl dX6_placeOf_7 ?_
  refine lv_iload_n hx hb dX6_placeOf_10 rfl (lv_at hl 1 rfl) ?_
  refine va_iald hx hb hK hP 2 1 rfl rfl (ai_in ba1_l ba1_u (by decide) (by decide)) dX6_placeOf_11 ?_
  refine lv_topi (fun x11 ex11 => ?_)
  have bx11 : (0 : Int) ≤ x11.toInt ∧ x11.toInt ≤ 80 := by rw [ex11]; exact bfa0_2 _
  have fqx11 := congrArg Int32.toInt ex11
  have hF0 := hF0.trans (fl_lt_eq (show x11.toInt = (fl_A fa0_2) (a1.toInt.toNat) from fqx11))
  refine lv_icmp_le (tgt := 19) hx hb dX6_placeOf_12 (by decide) (fun c12 => ?_) (fun c12 => ?_)
  · have gc12 := ai_le c12
    have u12t_x5 : x5.toInt ≤ (80 : Int) := bx5.2
    have l12t_x11 : (0 : Int) ≤ x11.toInt := bx11.1
    have hF0 := hF0.trans (if_pos (show x5.toInt ≤ x11.toInt from gc12))
    refine lv_iconst (v := 0) hx hb dX6_placeOf_19 zk_iconst_0 ?_
    refine lv_istore_n (lv' := [(3, .int 0), (0, .ref a0), (1, .int a1), (2, .int a2)]) hx hb dX6_placeOf_20 rfl hl (by decide) rfl (fun ls hl => ?_)
    refine lv_iload_n hx hb dX6_placeOf_21 rfl (lv_at hl 0 rfl) ?_
    refine lv_if_eq (tgt := 41) hx hb dX6_placeOf_22 (by decide) (fun _ => ?_) (fun c22 => absurd (by decide +kernel) c22)
    refine lv_aload_n hx hb dX6_placeOf_41 rfl (lv_at hl 1 rfl) ?_
    refine va_get (D := (dC, dI)) (ci := 6) (v := .ref a0_2) (C := RX6) (T := TX6) (N := 4) hx hb hts zi_X6_placeOf_6 hown hK hP 0 rfl rfl 2 (by decide) (hts (.fieldLink RX6 9 "WaxTurns$Watchers" "from" "[I") (List.mem_cons_of_mem _ (List.mem_append_left _ (List.mem_of_getElem? (i := 1) rfl)))) (fun _ h9 => h9) rfl dX6_placeOf_42 ?_
    refine lv_iload_n hx hb dX6_placeOf_45 rfl (lv_at hl 2 rfl) ?_
    refine va_iald hx hb hK hP 2 1 rfl rfl (ai_in ba1_l ba1_u (by decide) (by decide)) dX6_placeOf_46 ?_
    refine ax_ti x11 ex11.symm ?_
    refine lv_aload_n hx hb dX6_placeOf_47 rfl (lv_at hl 1 rfl) ?_
    refine va_get (D := (dC, dI)) (ci := 6) (v := .ref a0_3) (C := RX6) (T := TX6) (N := 4) hx hb hts zi_X6_placeOf_6 hown hK hP 0 rfl rfl 3 (by decide) (hts (.fieldLink RX6 15 "WaxTurns$Watchers" "to" "[I") (List.mem_cons_of_mem _ (List.mem_append_left _ (List.mem_of_getElem? (i := 0) rfl)))) (fun _ h9 => h9) rfl dX6_placeOf_48 ?_
    refine lv_iload_n hx hb dX6_placeOf_51 rfl (lv_at hl 2 rfl) ?_
    refine va_iald hx hb hK hP 1 0 rfl rfl (ai_in ba1_l ba1_u (by decide) (by decide)) dX6_placeOf_52 ?_
    refine ax_ti x5 ex5.symm ?_
    refine lv_isub hx hb dX6_placeOf_53 ?_
    refine lv_topi (fun x53 ex53 => ?_)
    have qx53 : x53.toInt = x11.toInt - x5.toInt := ai_sub ex53 ⟨l12t_x11, bx11.2⟩ ⟨bx5.1, u12t_x5⟩ (by decide) (by decide)
    have bx53 : (-80 : Int) ≤ x53.toInt ∧ x53.toInt ≤ 80 := ⟨by rw [qx53]; exact Int.sub_le_sub l12t_x11 u12t_x5, by rw [qx53]; exact Int.sub_le_sub bx11.2 bx5.1⟩
    have hF0 := hF0.trans (fl_lt_eq (show x53.toInt = x11.toInt - x5.toInt from qx53))
    refine lv_istore (lv' := [(4, .int x53), (3, .int 0), (0, .ref a0), (1, .int a1), (2, .int a2)]) hx hb dX6_placeOf_54 hl (by decide) rfl (fun ls hl => ?_)
    refine lv_iload hx hb dX6_placeOf_56 (lv_at hl 0 rfl) ?_
    refine lv_if_gt (tgt := 68) hx hb dX6_placeOf_58 (by decide) (fun c58 => ?_) (fun c58 => ?_)
    · have gc58 := ai_lt c58
      have l58t_x53 : (1 : Int) ≤ x53.toInt := ai_ltlo gc58 zq5
      have hF0 := hF0.trans (if_pos (show 0 < x53.toInt from gc58))
      refine lv_iload_n hx hb dX6_placeOf_68 rfl (lv_at hl 4 rfl) ?_
      refine lv_iconst (v := 2) hx hb dX6_placeOf_69 zk_iconst_2 ?_
      refine lv_iload hx hb dX6_placeOf_70 (lv_at hl 0 rfl) ?_
      refine lv_imul hx hb dX6_placeOf_72 ?_
      refine lv_topi (fun x72 ex72 => ?_)
      have qx72 : x72.toInt = (2 : Int32).toInt * x53.toInt ∧ (2 : Int) ≤ x72.toInt ∧ x72.toInt ≤ 160 := ai_mul ex72 ⟨zq12, zq13⟩ ⟨l58t_x53, bx53.2⟩ (by decide) (by decide) zq14
      have wx72 : x72.toInt = 2 * x53.toInt := qx72.1
      have hF0 := hF0.trans (fl_lt_eq (show x72.toInt = 2 * x53.toInt from qx72.1))
      refine lv_irem hx hb dX6_placeOf_73 (ai_nz qx72.2.1 (by decide)) ?_
      refine lv_topi (fun x73 ex73 => ?_)
      have fqx73 := fl_rem_eq ex73
      have hF0 := hF0.trans (fl_lt_eq (show x73.toInt = fl_rem a2.toInt x72.toInt from fqx73))
      refine lv_istore (lv' := [(5, .int x73), (4, .int x53), (3, .int 0), (0, .ref a0), (1, .int a1), (2, .int a2)]) hx hb dX6_placeOf_74 hl (by decide) rfl (fun ls hl => ?_)
      refine lv_iload hx hb dX6_placeOf_76 (lv_at hl 0 rfl) ?_
      refine lv_iload hx hb dX6_placeOf_78 (lv_at hl 1 rfl) ?_
      refine lv_icmp_gt (tgt := 88) hx hb dX6_placeOf_80 (by decide) (fun c80 => ?_) (fun c80 => ?_)
      · have gc80 := ai_lt c80
        have u80t_x53 : x53.toInt ≤ (80 : Int) := bx53.2
        have l80t_x73 : (2 : Int) ≤ x73.toInt := ai_ltlo gc80 l58t_x53
        have hF0 := hF0.trans (if_pos (show x53.toInt < x73.toInt from gc80))
        refine lv_iconst (v := 2) hx hb dX6_placeOf_88 zk_iconst_2 ?_
        refine lv_iload hx hb dX6_placeOf_89 (lv_at hl 1 rfl) ?_
        refine lv_imul hx hb dX6_placeOf_91 ?_
        refine ax_ti x72 ex72.symm ?_
        refine lv_iload hx hb dX6_placeOf_92 (lv_at hl 0 rfl) ?_
        refine lv_isub hx hb dX6_placeOf_94 ?_
        refine lv_topi (fun x94 ex94 => ?_)
        have qx94 : x94.toInt = x72.toInt - x73.toInt := ai_sub ex94 ⟨qx72.2.1, qx72.2.2⟩ ⟨l80t_x73, (ai_max x73)⟩ (by decide) (by decide)
        have bx94 : (-2147483645 : Int) ≤ x94.toInt ∧ x94.toInt ≤ 158 := ⟨by rw [qx94]; exact Int.sub_le_sub qx72.2.1 (ai_max x73), by rw [qx94]; exact Int.sub_le_sub qx72.2.2 l80t_x73⟩
        have hF0 := hF0.trans (fl_lt_eq (show x94.toInt = x72.toInt - x73.toInt from qx94))
        refine lv_istore (lv' := [(6, .int x94), (5, .int x73), (4, .int x53), (3, .int 0), (0, .ref a0), (1, .int a1), (2, .int a2)]) hx hb dX6_placeOf_95 hl (by decide) rfl (fun ls hl => ?_)
        refine lv_iload_n hx hb dX6_placeOf_97 rfl (lv_at hl 3 rfl) ?_
        refine lv_if_eq (tgt := 113) hx hb dX6_placeOf_98 (by decide) (fun _ => ?_) (fun c98 => absurd (by decide +kernel) c98)
        refine lv_aload_n hx hb dX6_placeOf_113 rfl (lv_at hl 4 rfl) ?_
        refine va_get (D := (dC, dI)) (ci := 6) (v := .ref a0_2) (C := RX6) (T := TX6) (N := 4) hx hb hts zi_X6_placeOf_6 hown hK hP 0 rfl rfl 2 (by decide) (hts (.fieldLink RX6 9 "WaxTurns$Watchers" "from" "[I") (List.mem_cons_of_mem _ (List.mem_append_left _ (List.mem_of_getElem? (i := 1) rfl)))) (fun _ h9 => h9) rfl dX6_placeOf_114 ?_
        refine lv_iload_n hx hb dX6_placeOf_117 rfl (lv_at hl 5 rfl) ?_
        refine va_iald hx hb hK hP 2 1 rfl rfl (ai_in ba1_l ba1_u (by decide) (by decide)) dX6_placeOf_118 ?_
        refine ax_ti x11 ex11.symm ?_
        refine lv_iload hx hb dX6_placeOf_119 (lv_at hl 0 rfl) ?_
        refine lv_isub hx hb dX6_placeOf_121 ?_
        refine lv_topi (fun x121 ex121 => ?_)
        have fqx121 := fl_isub_eq ex121
        have hF0 := hF0.trans (fl_lt_eq (show x121.toInt = fl_isub x11.toInt x94.toInt from fqx121))
        have hFe : FX = x121.toInt := hF0
        exact W.iret (v := x121) hx hb hr (fun t ht hW => ⟨⟨x121, (), rfl, ⟨trivial, hFe.symm⟩, by rw [ht]; exact hP, va_K.moved hW.alike hK, hD⟩, hS.F ht⟩) hS.2.2 dX6_placeOf_122
      · have gc80 := ai_nlt c80
        have u80f_x73 : x73.toInt ≤ (80 : Int) := Int.le_trans gc80 bx53.2
        have hF0 := hF0.trans (if_neg (show ¬ (x53.toInt < x73.toInt) from Int.not_lt.mpr gc80))
        refine lv_iload hx hb dX6_placeOf_83 (lv_at hl 0 rfl) ?_
        refine lv_goto (tgt := 95) hx hb dX6_placeOf_85 (by decide) ?_
        refine lv_istore (lv' := [(6, .int x73), (5, .int x73), (4, .int x53), (3, .int 0), (0, .ref a0), (1, .int a1), (2, .int a2)]) hx hb dX6_placeOf_95 hl (by decide) rfl (fun ls hl => ?_)
        refine lv_iload_n hx hb dX6_placeOf_97 rfl (lv_at hl 3 rfl) ?_
        refine lv_if_eq (tgt := 113) hx hb dX6_placeOf_98 (by decide) (fun _ => ?_) (fun c98 => absurd (by decide +kernel) c98)
        refine lv_aload_n hx hb dX6_placeOf_113 rfl (lv_at hl 4 rfl) ?_
        refine va_get (D := (dC, dI)) (ci := 6) (v := .ref a0_2) (C := RX6) (T := TX6) (N := 4) hx hb hts zi_X6_placeOf_6 hown hK hP 0 rfl rfl 2 (by decide) (hts (.fieldLink RX6 9 "WaxTurns$Watchers" "from" "[I") (List.mem_cons_of_mem _ (List.mem_append_left _ (List.mem_of_getElem? (i := 1) rfl)))) (fun _ h9 => h9) rfl dX6_placeOf_114 ?_
        refine lv_iload_n hx hb dX6_placeOf_117 rfl (lv_at hl 5 rfl) ?_
        refine va_iald hx hb hK hP 2 1 rfl rfl (ai_in ba1_l ba1_u (by decide) (by decide)) dX6_placeOf_118 ?_
        refine ax_ti x11 ex11.symm ?_
        refine lv_iload hx hb dX6_placeOf_119 (lv_at hl 0 rfl) ?_
        refine lv_isub hx hb dX6_placeOf_121 ?_
        refine lv_topi (fun x121 ex121 => ?_)
        have fqx121 := fl_isub_eq ex121
        have hF0 := hF0.trans (fl_lt_eq (show x121.toInt = fl_isub x11.toInt x73.toInt from fqx121))
        have hFe : FX = x121.toInt := hF0
        exact W.iret (v := x121) hx hb hr (fun t ht hW => ⟨⟨x121, (), rfl, ⟨trivial, hFe.symm⟩, by rw [ht]; exact hP, va_K.moved hW.alike hK, hD⟩, hS.F ht⟩) hS.2.2 dX6_placeOf_122
    · have gc58 := ai_nlt c58
      have u58f_x53 : x53.toInt ≤ (0 : Int) := Int.le_trans gc58 zq6
      have hF0 := hF0.trans (if_neg (show ¬ (0 < x53.toInt) from Int.not_lt.mpr gc58))
      refine lv_aload_n hx hb dX6_placeOf_61 rfl (lv_at hl 2 rfl) ?_
      refine va_get (D := (dC, dI)) (ci := 6) (v := .ref a0_2) (C := RX6) (T := TX6) (N := 4) hx hb hts zi_X6_placeOf_6 hown hK hP 0 rfl rfl 2 (by decide) (hts (.fieldLink RX6 9 "WaxTurns$Watchers" "from" "[I") (List.mem_cons_of_mem _ (List.mem_append_left _ (List.mem_of_getElem? (i := 1) rfl)))) (fun _ h9 => h9) rfl dX6_placeOf_62 ?_
      refine lv_iload_n hx hb dX6_placeOf_65 rfl (lv_at hl 3 rfl) ?_
      refine va_iald hx hb hK hP 2 1 rfl rfl (ai_in ba1_l ba1_u (by decide) (by decide)) dX6_placeOf_66 ?_
      refine ax_ti x11 ex11.symm ?_
      have hFe : FX = x11.toInt := hF0
      exact W.iret (v := x11) hx hb hr (fun t ht hW => ⟨⟨x11, (), rfl, ⟨trivial, hFe.symm⟩, by rw [ht]; exact hP, va_K.moved hW.alike hK, hD⟩, hS.F ht⟩) hS.2.2 dX6_placeOf_67
  · have gc12 := ai_nle c12
    have u12f_x11 : x11.toInt ≤ (79 : Int) := ai_lthi gc12 bx5.2
    have l12f_x5 : (1 : Int) ≤ x5.toInt := ai_ltlo gc12 bx11.1
    have hF0 := hF0.trans (if_neg (show ¬ (x5.toInt ≤ x11.toInt) from Int.not_le.mpr gc12))
    refine lv_iconst (v := 1) hx hb dX6_placeOf_15 zk_iconst_1 ?_
    refine lv_goto (tgt := 20) hx hb dX6_placeOf_16 (by decide) ?_
    refine lv_istore_n (lv' := [(3, .int 1), (0, .ref a0), (1, .int a1), (2, .int a2)]) hx hb dX6_placeOf_20 rfl hl (by decide) rfl (fun ls hl => ?_)
    refine lv_iload_n hx hb dX6_placeOf_21 rfl (lv_at hl 0 rfl) ?_
    refine lv_if_eq (tgt := 41) hx hb dX6_placeOf_22 (by decide) (fun c22 => absurd c22 (by decide +kernel)) (fun _ => ?_)
    refine lv_aload_n hx hb dX6_placeOf_25 rfl (lv_at hl 1 rfl) ?_
    refine va_get (D := (dC, dI)) (ci := 6) (v := .ref a0_3) (C := RX6) (T := TX6) (N := 4) hx hb hts zi_X6_placeOf_6 hown hK hP 0 rfl rfl 3 (by decide) (hts (.fieldLink RX6 15 "WaxTurns$Watchers" "to" "[I") (List.mem_cons_of_mem _ (List.mem_append_left _ (List.mem_of_getElem? (i := 0) rfl)))) (fun _ h9 => h9) rfl dX6_placeOf_26 ?_
    refine lv_iload_n hx hb dX6_placeOf_29 rfl (lv_at hl 2 rfl) ?_
    refine va_iald hx hb hK hP 1 0 rfl rfl (ai_in ba1_l ba1_u (by decide) (by decide)) dX6_placeOf_30 ?_
    refine ax_ti x5 ex5.symm ?_
    refine lv_aload_n hx hb dX6_placeOf_31 rfl (lv_at hl 1 rfl) ?_
    refine va_get (D := (dC, dI)) (ci := 6) (v := .ref a0_2) (C := RX6) (T := TX6) (N := 4) hx hb hts zi_X6_placeOf_6 hown hK hP 0 rfl rfl 2 (by decide) (hts (.fieldLink RX6 9 "WaxTurns$Watchers" "from" "[I") (List.mem_cons_of_mem _ (List.mem_append_left _ (List.mem_of_getElem? (i := 1) rfl)))) (fun _ h9 => h9) rfl dX6_placeOf_32 ?_
    refine lv_iload_n hx hb dX6_placeOf_35 rfl (lv_at hl 2 rfl) ?_
    refine va_iald hx hb hK hP 2 1 rfl rfl (ai_in ba1_l ba1_u (by decide) (by decide)) dX6_placeOf_36 ?_
    refine ax_ti x11 ex11.symm ?_
    refine lv_isub hx hb dX6_placeOf_37 ?_
    refine lv_topi (fun x37 ex37 => ?_)
    have qx37 : x37.toInt = x5.toInt - x11.toInt := ai_sub ex37 ⟨l12f_x5, bx5.2⟩ ⟨bx11.1, u12f_x11⟩ (by decide) (by decide)
    have bx37 : (-78 : Int) ≤ x37.toInt ∧ x37.toInt ≤ 80 := ⟨by rw [qx37]; exact Int.sub_le_sub l12f_x5 u12f_x11, by rw [qx37]; exact Int.sub_le_sub bx5.2 bx11.1⟩
    have hF0 := hF0.trans (fl_lt_eq (show x37.toInt = x5.toInt - x11.toInt from qx37))
    refine lv_goto (tgt := 54) hx hb dX6_placeOf_38 (by decide) ?_
    refine lv_istore (lv' := [(4, .int x37), (3, .int 1), (0, .ref a0), (1, .int a1), (2, .int a2)]) hx hb dX6_placeOf_54 hl (by decide) rfl (fun ls hl => ?_)
    refine lv_iload hx hb dX6_placeOf_56 (lv_at hl 0 rfl) ?_
    refine lv_if_gt (tgt := 68) hx hb dX6_placeOf_58 (by decide) (fun c58 => ?_) (fun c58 => ?_)
    · have gc58 := ai_lt c58
      have l58t_x37 : (1 : Int) ≤ x37.toInt := ai_ltlo gc58 zq5
      have hF0 := hF0.trans (if_pos (show 0 < x37.toInt from gc58))
      refine lv_iload_n hx hb dX6_placeOf_68 rfl (lv_at hl 4 rfl) ?_
      refine lv_iconst (v := 2) hx hb dX6_placeOf_69 zk_iconst_2 ?_
      refine lv_iload hx hb dX6_placeOf_70 (lv_at hl 0 rfl) ?_
      refine lv_imul hx hb dX6_placeOf_72 ?_
      refine lv_topi (fun x72 ex72 => ?_)
      have qx72 : x72.toInt = (2 : Int32).toInt * x37.toInt ∧ (2 : Int) ≤ x72.toInt ∧ x72.toInt ≤ 160 := ai_mul ex72 ⟨zq12, zq13⟩ ⟨l58t_x37, bx37.2⟩ (by decide) (by decide) zq14
      have wx72 : x72.toInt = 2 * x37.toInt := qx72.1
      have hF0 := hF0.trans (fl_lt_eq (show x72.toInt = 2 * x37.toInt from qx72.1))
      refine lv_irem hx hb dX6_placeOf_73 (ai_nz qx72.2.1 (by decide)) ?_
      refine lv_topi (fun x73 ex73 => ?_)
      have fqx73 := fl_rem_eq ex73
      have hF0 := hF0.trans (fl_lt_eq (show x73.toInt = fl_rem a2.toInt x72.toInt from fqx73))
      refine lv_istore (lv' := [(5, .int x73), (4, .int x37), (3, .int 1), (0, .ref a0), (1, .int a1), (2, .int a2)]) hx hb dX6_placeOf_74 hl (by decide) rfl (fun ls hl => ?_)
      refine lv_iload hx hb dX6_placeOf_76 (lv_at hl 0 rfl) ?_
      refine lv_iload hx hb dX6_placeOf_78 (lv_at hl 1 rfl) ?_
      refine lv_icmp_gt (tgt := 88) hx hb dX6_placeOf_80 (by decide) (fun c80 => ?_) (fun c80 => ?_)
      · have gc80 := ai_lt c80
        have u80t_x37 : x37.toInt ≤ (80 : Int) := bx37.2
        have l80t_x73 : (2 : Int) ≤ x73.toInt := ai_ltlo gc80 l58t_x37
        have hF0 := hF0.trans (if_pos (show x37.toInt < x73.toInt from gc80))
        refine lv_iconst (v := 2) hx hb dX6_placeOf_88 zk_iconst_2 ?_
        refine lv_iload hx hb dX6_placeOf_89 (lv_at hl 1 rfl) ?_
        refine lv_imul hx hb dX6_placeOf_91 ?_
        refine ax_ti x72 ex72.symm ?_
        refine lv_iload hx hb dX6_placeOf_92 (lv_at hl 0 rfl) ?_
        refine lv_isub hx hb dX6_placeOf_94 ?_
        refine lv_topi (fun x94 ex94 => ?_)
        have qx94 : x94.toInt = x72.toInt - x73.toInt := ai_sub ex94 ⟨qx72.2.1, qx72.2.2⟩ ⟨l80t_x73, (ai_max x73)⟩ (by decide) (by decide)
        have bx94 : (-2147483645 : Int) ≤ x94.toInt ∧ x94.toInt ≤ 158 := ⟨by rw [qx94]; exact Int.sub_le_sub qx72.2.1 (ai_max x73), by rw [qx94]; exact Int.sub_le_sub qx72.2.2 l80t_x73⟩
        have hF0 := hF0.trans (fl_lt_eq (show x94.toInt = x72.toInt - x73.toInt from qx94))
        refine lv_istore (lv' := [(6, .int x94), (5, .int x73), (4, .int x37), (3, .int 1), (0, .ref a0), (1, .int a1), (2, .int a2)]) hx hb dX6_placeOf_95 hl (by decide) rfl (fun ls hl => ?_)
        refine lv_iload_n hx hb dX6_placeOf_97 rfl (lv_at hl 3 rfl) ?_
        refine lv_if_eq (tgt := 113) hx hb dX6_placeOf_98 (by decide) (fun c98 => absurd c98 (by decide +kernel)) (fun _ => ?_)
        refine lv_aload_n hx hb dX6_placeOf_101 rfl (lv_at hl 4 rfl) ?_
        refine va_get (D := (dC, dI)) (ci := 6) (v := .ref a0_2) (C := RX6) (T := TX6) (N := 4) hx hb hts zi_X6_placeOf_6 hown hK hP 0 rfl rfl 2 (by decide) (hts (.fieldLink RX6 9 "WaxTurns$Watchers" "from" "[I") (List.mem_cons_of_mem _ (List.mem_append_left _ (List.mem_of_getElem? (i := 1) rfl)))) (fun _ h9 => h9) rfl dX6_placeOf_102 ?_
        refine lv_iload_n hx hb dX6_placeOf_105 rfl (lv_at hl 5 rfl) ?_
        refine va_iald hx hb hK hP 2 1 rfl rfl (ai_in ba1_l ba1_u (by decide) (by decide)) dX6_placeOf_106 ?_
        refine ax_ti x11 ex11.symm ?_
        refine lv_iload hx hb dX6_placeOf_107 (lv_at hl 0 rfl) ?_
        refine lv_iadd hx hb dX6_placeOf_109 ?_
        refine lv_topi (fun x109 ex109 => ?_)
        have qx109 : x109.toInt = x11.toInt + x94.toInt := ai_add ex109 ⟨bx11.1, u12f_x11⟩ ⟨bx94.1, bx94.2⟩ (by decide) (by decide)
        have bx109 : (-2147483645 : Int) ≤ x109.toInt ∧ x109.toInt ≤ 237 := ⟨by rw [qx109]; exact Int.add_le_add bx11.1 bx94.1, by rw [qx109]; exact Int.add_le_add u12f_x11 bx94.2⟩
        have hF0 := hF0.trans (fl_lt_eq (show x109.toInt = x11.toInt + x94.toInt from qx109))
        refine lv_goto (tgt := 122) hx hb dX6_placeOf_110 (by decide) ?_
        have hFe : FX = x109.toInt := hF0
        exact W.iret (v := x109) hx hb hr (fun t ht hW => ⟨⟨x109, (), rfl, ⟨trivial, hFe.symm⟩, by rw [ht]; exact hP, va_K.moved hW.alike hK, hD⟩, hS.F ht⟩) hS.2.2 dX6_placeOf_122
      · have gc80 := ai_nlt c80
        have u80f_x73 : x73.toInt ≤ (80 : Int) := Int.le_trans gc80 bx37.2
        have hF0 := hF0.trans (if_neg (show ¬ (x37.toInt < x73.toInt) from Int.not_lt.mpr gc80))
        refine lv_iload hx hb dX6_placeOf_83 (lv_at hl 0 rfl) ?_
        refine lv_goto (tgt := 95) hx hb dX6_placeOf_85 (by decide) ?_
        refine lv_istore (lv' := [(6, .int x73), (5, .int x73), (4, .int x37), (3, .int 1), (0, .ref a0), (1, .int a1), (2, .int a2)]) hx hb dX6_placeOf_95 hl (by decide) rfl (fun ls hl => ?_)
        refine lv_iload_n hx hb dX6_placeOf_97 rfl (lv_at hl 3 rfl) ?_
        refine lv_if_eq (tgt := 113) hx hb dX6_placeOf_98 (by decide) (fun c98 => absurd c98 (by decide +kernel)) (fun _ => ?_)
        refine lv_aload_n hx hb dX6_placeOf_101 rfl (lv_at hl 4 rfl) ?_
        refine va_get (D := (dC, dI)) (ci := 6) (v := .ref a0_2) (C := RX6) (T := TX6) (N := 4) hx hb hts zi_X6_placeOf_6 hown hK hP 0 rfl rfl 2 (by decide) (hts (.fieldLink RX6 9 "WaxTurns$Watchers" "from" "[I") (List.mem_cons_of_mem _ (List.mem_append_left _ (List.mem_of_getElem? (i := 1) rfl)))) (fun _ h9 => h9) rfl dX6_placeOf_102 ?_
        refine lv_iload_n hx hb dX6_placeOf_105 rfl (lv_at hl 5 rfl) ?_
        refine va_iald hx hb hK hP 2 1 rfl rfl (ai_in ba1_l ba1_u (by decide) (by decide)) dX6_placeOf_106 ?_
        refine ax_ti x11 ex11.symm ?_
        refine lv_iload hx hb dX6_placeOf_107 (lv_at hl 0 rfl) ?_
        refine lv_iadd hx hb dX6_placeOf_109 ?_
        refine lv_topi (fun x109 ex109 => ?_)
        have qx109 : x109.toInt = x11.toInt + x73.toInt := ai_add ex109 ⟨bx11.1, u12f_x11⟩ ⟨(ai_min x73), u80f_x73⟩ (by decide) (by decide)
        have bx109 : (-2147483648 : Int) ≤ x109.toInt ∧ x109.toInt ≤ 159 := ⟨by rw [qx109]; exact Int.add_le_add bx11.1 (ai_min x73), by rw [qx109]; exact Int.add_le_add u12f_x11 u80f_x73⟩
        have hF0 := hF0.trans (fl_lt_eq (show x109.toInt = x11.toInt + x73.toInt from qx109))
        refine lv_goto (tgt := 122) hx hb dX6_placeOf_110 (by decide) ?_
        have hFe : FX = x109.toInt := hF0
        exact W.iret (v := x109) hx hb hr (fun t ht hW => ⟨⟨x109, (), rfl, ⟨trivial, hFe.symm⟩, by rw [ht]; exact hP, va_K.moved hW.alike hK, hD⟩, hS.F ht⟩) hS.2.2 dX6_placeOf_122
    · have gc58 := ai_nlt c58
      have u58f_x37 : x37.toInt ≤ (0 : Int) := Int.le_trans gc58 zq6
      have hF0 := hF0.trans (if_neg (show ¬ (0 < x37.toInt) from Int.not_lt.mpr gc58))
      refine lv_aload_n hx hb dX6_placeOf_61 rfl (lv_at hl 2 rfl) ?_
      refine va_get (D := (dC, dI)) (ci := 6) (v := .ref a0_2) (C := RX6) (T := TX6) (N := 4) hx hb hts zi_X6_placeOf_6 hown hK hP 0 rfl rfl 2 (by decide) (hts (.fieldLink RX6 9 "WaxTurns$Watchers" "from" "[I") (List.mem_cons_of_mem _ (List.mem_append_left _ (List.mem_of_getElem? (i := 1) rfl)))) (fun _ h9 => h9) rfl dX6_placeOf_62 ?_
      refine lv_iload_n hx hb dX6_placeOf_65 rfl (lv_at hl 3 rfl) ?_
      refine va_iald hx hb hK hP 2 1 rfl rfl (ai_in ba1_l ba1_u (by decide) (by decide)) dX6_placeOf_66 ?_
      refine ax_ti x11 ex11.symm ?_
      have hFe : FX = x11.toInt := hF0
      exact W.iret (v := x11) hx hb hr (fun t ht hW => ⟨⟨x11, (), rfl, ⟨trivial, hFe.symm⟩, by rw [ht]; exact hP, va_K.moved hW.alike hK, hD⟩, hS.F ht⟩) hS.2.2 dX6_placeOf_67

set_option maxHeartbeats 4000000 in
set_option maxRecDepth 100000 in
theorem f_X6_placesIn (l : Launch) (dC : Nat → ClassId) (dI : Nat → Nat → Nat) (sz : Nat) (a0 : Nat) (a1 : Int32) (a0_0 : Int32) (a0_1 : Int32) (a0_2 : Nat) (a0_3 : Nat) (ka0_3 : ClassId) (fa0_3 : Nat → Int32) (ka0_2 : ClassId) (fa0_2 : Nat → Int32) (ba0_0_l : (0 : Int) ≤ a0_0.toInt) (ba0_0_u : a0_0.toInt ≤ (3 : Int)) (bfa0_3 : (∀ k, (0 : Int) ≤ (fa0_3 k).toInt ∧ (fa0_3 k).toInt ≤ 80)) (bfa0_2 : (∀ k, (0 : Int) ≤ (fa0_2 k).toInt ∧ (fa0_2 k).toInt ≤ 80)) : zm l yX6_placesIn wsX6_placesIn ({ frames := 1, cells := 0, slots := 0, locals := 26 }) [.ref a0, .int a1] dC dI sz [(a0, .inr (6, [.int a0_0, .int a0_1, .ref a0_2, .ref a0_3])), (a0_3, .inl (ka0_3, 3, .inl (fa0_3))), (a0_2, .inl (ka0_2, 3, .inl (fa0_2)))] [(ka0_3, .int), (ka0_2, .int)] (fun A _ => True) (fun A => va_Qi (fun (r : Int32) (_ : Unit) => (True) ∧ r.toInt = Ff_X6_placesIn a1.toInt a0_0.toInt a0_1.toInt (fl_A fa0_3) (fl_A fa0_2)) (fun (_ : Unit) (t : State) => ax_B dC dI A [(a0, .inr (6, [.int a0_0, .int a0_1, .ref a0_2, .ref a0_3])), (a0_3, .inl (ka0_3, 3, .inl (fa0_3))), (a0_2, .inl (ka0_2, 3, .inl (fa0_2)))] [(ka0_3, .int), (ka0_2, .int)] t) A) := by
  refine zh (cc := cX6_placesIn) (maxL := 4) (ret := (some .int)) zn_RX6 rfl (Nat.le_of_ble_eq_true rfl) (fun p e s m below meth c A ls hx hb hml hr hts (hown : s.vm.findClass RX6 = some m.cls) hlocks hA hS hP hK hD hE (hl : lv_has ls 4 [(0, .ref a0), (1, .int a1)]) => ?_)
  generalize hFX : Ff_X6_placesIn a1.toInt a0_0.toInt a0_1.toInt (fl_A fa0_3) (fl_A fa0_2) = FX at ⊢
  have hF0 := hFX.symm.trans (Ff_X6_placesIn.eq_1 a1.toInt a0_0.toInt a0_1.toInt (fl_A fa0_3) (fl_A fa0_2))
  refine ai_open (fun K hK0 => ?_)
  refine (hK0 _ _ _).mpr ?_
  refine lv_aload_n hx hb dX6_placesIn_0 rfl (lv_at hl 0 rfl) ?_
  refine va_get (D := (dC, dI)) (ci := 6) (v := .int a0_1) (C := RX6) (T := TX6) (N := 4) hx hb hts zi_X6_placesIn_6 hown hK hP 0 rfl rfl 1 (by decide) (hts (.fieldLink RX6 22 "WaxTurns$Watchers" "posts" "I") (List.mem_cons_of_mem _ (List.mem_append_left _ (List.mem_of_getElem? (i := 0) rfl)))) (fun _ h9 => h9) rfl dX6_placesIn_1 ?_
  refine lv_istore_n (lv' := [(2, .int a0_1), (0, .ref a0), (1, .int a1)]) hx hb dX6_placesIn_4 rfl hl (by decide) rfl (fun ls hl => ?_)
  refine lv_iconst (v := 0) hx hb dX6_placesIn_5 zk_iconst_0 ?_
  refine lv_istore_n (lv' := [(3, .int 0), (2, .int a0_1), (0, .ref a0), (1, .int a1)]) hx hb dX6_placesIn_6 rfl hl (by decide) rfl (fun ls hl => ?_)
  have J7 : ∀ (n : Nat) (j7l3 : Int32) (j7l2 : Int32) (H : Heap) (locs : List Loc) (ls : Array Slot), (4 : Int) - j7l3.toInt ≤ (n : Int) → (0 : Int) ≤ j7l3.toInt → j7l3.toInt ≤ (3 : Int) → (FX = fl_wh (fun t9 => Sf_X6_placesIn_7_1 a1.toInt a0_0.toInt (fl_A fa0_3) (fl_A fa0_2) t9.1 t9.2) 0 n (j7l3.toInt, j7l2.toInt)) → va_P (dC, dI) vwCl [(a0, .inr (6, [.int a0_0, .int a0_1, .ref a0_2, .ref a0_3])), (a0_3, .inl (ka0_3, 3, .inl (fa0_3))), (a0_2, .inl (ka0_2, 3, .inl (fa0_2)))] H → va_D A [(a0, .inr (6, [.int a0_0, .int a0_1, .ref a0_2, .ref a0_3])), (a0_3, .inl (ka0_3, 3, .inl (fa0_3))), (a0_2, .inl (ka0_2, 3, .inl (fa0_2)))] → va_S A s.heap H locs → lv_has ls 4 [(0, .ref a0), (1, .int a1), (2, .int j7l2), (3, .int j7l3)] → K H locs (F0 m 7 ls []) := by
    intro n
    induction n with
    | zero =>
      intro j7l3 j7l2 H locs ls hm bj7l3_l bj7l3_u hF0 hP hD hS hl
      first | exact zg_0 hm bj7l3_u (by decide) | (have h8 := ai_min j7l3; have h9 := ai_max j7l3; exact absurd hm (by omega))
    | succ n ih7 =>
      intro j7l3 j7l2 H locs ls hm bj7l3_l bj7l3_u hF0 hP hD hS hl
      refine (hK0 _ _ _).mpr ?_
      have hm7 := hm
      obtain ⟨SX7, hSX7⟩ : ∃ q9, Sf_X6_placesIn_7_1 a1.toInt a0_0.toInt (fl_A fa0_3) (fl_A fa0_2) j7l3.toInt j7l2.toInt = q9 := ⟨_, rfl⟩
      have hF1 := hSX7.symm.trans (Sf_X6_placesIn_7_1.eq_1 a1.toInt a0_0.toInt (fl_A fa0_3) (fl_A fa0_2) j7l3.toInt j7l2.toInt)
      refine lv_iload_n hx hb dX6_placesIn_7 rfl (lv_at hl 3 rfl) ?_
      refine lv_aload_n hx hb dX6_placesIn_8 rfl (lv_at hl 0 rfl) ?_
      refine va_get (D := (dC, dI)) (ci := 6) (v := .int a0_0) (C := RX6) (T := TX6) (N := 4) hx hb hts zi_X6_placesIn_6 hown hK hP 0 rfl rfl 0 (by decide) (hts (.fieldLink RX6 18 "WaxTurns$Watchers" "count" "I") (List.mem_cons_of_mem _ (List.mem_append_left _ (List.mem_of_getElem? (i := 1) rfl)))) (fun _ h9 => h9) rfl dX6_placesIn_9 ?_
      refine lv_icmp_ge (tgt := 32) hx hb dX6_placesIn_12 (by decide) (fun c12 => ?_) (fun c12 => ?_)
      · have gc12 := ai_le c12
        have u12t_a0_0 : a0_0.toInt ≤ (3 : Int) := ba0_0_u
        have l12t_j7l3 : (0 : Int) ≤ j7l3.toInt := bj7l3_l
        have hF1 := hF1.trans (if_pos (show a0_0.toInt ≤ j7l3.toInt from gc12))
        have hF0 := hF0.trans (fl_wh_r (hSX7.trans hF1))
        refine lv_iload_n hx hb dX6_placesIn_32 rfl (lv_at hl 2 rfl) ?_
        have hFe : FX = j7l2.toInt := hF0
        exact W.iret (v := j7l2) hx hb hr (fun t ht hW => ⟨⟨j7l2, (), rfl, ⟨trivial, hFe.symm⟩, by rw [ht]; exact hP, va_K.moved hW.alike hK, hD⟩, hS.F ht⟩) hS.2.2 dX6_placesIn_33
      · have gc12 := ai_nle c12
        have u12f_j7l3 : j7l3.toInt ≤ (2 : Int) := ai_lthi gc12 ba0_0_u
        have l12f_a0_0 : (1 : Int) ≤ a0_0.toInt := ai_ltlo gc12 bj7l3_l
        have hF1 := hF1.trans (if_neg (show ¬ (a0_0.toInt ≤ j7l3.toInt) from Int.not_le.mpr gc12))
        refine lv_iload_n hx hb dX6_placesIn_15 rfl (lv_at hl 2 rfl) ?_
        refine lv_iconst (v := 1) hx hb dX6_placesIn_16 zk_iconst_1 ?_
        refine lv_aload_n hx hb dX6_placesIn_17 rfl (lv_at hl 0 rfl) ?_
        refine lv_iload_n hx hb dX6_placesIn_18 rfl (lv_at hl 3 rfl) ?_
        refine lv_iload_n hx hb dX6_placesIn_19 rfl (lv_at hl 1 rfl) ?_
        have hKc := hK.sub (tys' := [(ka0_3, .int), (ka0_2, .int)]) [0, 1] rfl
        refine va_calli (va_runV (As := [.int j7l3, .int a1]) (rest := [.int 1, .int j7l2]) ⟨hx, hb, hml, hown, hts⟩ (f_X6_placeOf l dC dI H.size a0 j7l3 a1 (.int a0_0) (.int a0_1) a0_2 a0_3 ka0_3 fa0_3 ka0_2 fa0_2 bj7l3_l u12f_j7l3 bfa0_3 bfa0_2) (cwV 2 hts gX6_placesIn_X6_placeOf rfl rfl rfl zd_X6_placeOf ⟨Nat.le_of_ble_eq_true rfl, Nat.le_of_ble_eq_true rfl⟩) ⟨ax_blind (fun _ _ _ _ _ => trivial), zr_6 hKc (zp_P3 hP) (q0 := 0) rfl, ax_pre (zp_P3 hP) hKc (zp_D3 hD) (fun _ _ => trivial)⟩ rfl rfl hl.1 rfl (lv_room (Nat.le_of_ble_eq_true rfl)) dX6_placesIn_20 ⟨Nat.le_of_ble_eq_true rfl, Nat.le_of_ble_eq_true rfl⟩) hS (fun q _ h => zp_F3 hD hS hA q h) (zp_F3 hD hS hA) (fun r20 u t H locs ht hvm hw hB hz1 hk1 hS1 => zo3 hB ht hP hD hk1 (zp_F3 hD hS hA) hS1 (fun hP hK1 hD hS => ?_))
        obtain ⟨hw, hfr20⟩ := hw
        have hc20 : Ff_X6_placeOf j7l3.toInt a1.toInt (fl_A fa0_3) (fl_A fa0_2) = r20.toInt := hfr20.symm
        have hF1 := hF1.trans (fl_lt_eq hc20.symm)
        refine lv_ishl hx hb dX6_placesIn_23 ?_
        refine lv_topi (fun x23 ex23 => ?_)
        have fqx23 := fl_shl_eq ex23
        have hF1 := hF1.trans (fl_lt_eq (show x23.toInt = fl_shl 1 r20.toInt from fqx23))
        refine lv_ior hx hb dX6_placesIn_24 ?_
        refine lv_topi (fun x24 ex24 => ?_)
        have fqx24 := fl_or_eq ex24
        have hF1 := hF1.trans (fl_lt_eq (show x24.toInt = fl_or j7l2.toInt x23.toInt from fqx24))
        refine lv_istore_n (lv' := [(2, .int x24), (0, .ref a0), (1, .int a1), (3, .int j7l3)]) hx hb dX6_placesIn_25 rfl hl (by decide) rfl (fun ls hl => ?_)
        obtain ⟨x26, ex26⟩ : ∃ y : Int32, y = j7l3 + Int32.ofInt 1 := ⟨_, rfl⟩
        have qx26 : x26.toInt = j7l3.toInt + 1 := ai_inc ex26 (by decide) (by decide) u12f_j7l3 (by decide)
        have bx26 : (1 : Int) ≤ x26.toInt ∧ x26.toInt ≤ 3 := ⟨by rw [qx26]; exact Int.add_le_add bj7l3_l (Int.le_refl _), by rw [qx26]; exact Int.add_le_add u12f_j7l3 (Int.le_refl _)⟩
        refine lv_iinc (v := x26) (lv' := [(3, .int x26), (2, .int x24), (0, .ref a0), (1, .int a1)]) hx hb dX6_placesIn_26 hl (k := 3) rfl ex26.symm (by decide) rfl (fun ls hl => ?_)
        have hF1 := hF1.trans (fl_lt_eq (show x26.toInt = j7l3.toInt + 1 from qx26))
        refine lv_goto (tgt := 7) hx hb dX6_placesIn_29 (by decide) ?_
        exact (hK0 _ _ _).mp (ih7 x26 x24 _ _ _ (by first | exact zg_s hm7 qx26 | (have h0 := qx26; omega)) (Int.le_trans zq4 bx26.1) bx26.2 (hF0.trans (fl_wh_l (hSX7.trans hF1))) hP hD hS (lv_sub hl [2, 3, 1, 0] rfl))
  exact (hK0 _ _ _).mp (J7 4 0 a0_1 _ _ _ (by first | decide +kernel | (have h1 : (0 : Int) ≤ (0 : Int32).toInt := zq5; have h2 : (0 : Int32).toInt ≤ (0 : Int) := zq6; omega)) zq5 (Int.le_trans zq6 zq11) (by rw [show (0 : Int32).toInt = 0 from by decide]; exact hF0) hP hD hS (lv_sub hl [2, 3, 1, 0] rfl))

set_option maxHeartbeats 4000000 in
set_option maxRecDepth 100000 in
theorem f_X0_next (l : Launch) (dC : Nat → ClassId) (dI : Nat → Nat → Nat) (sz : Nat) (a0 : Nat) (a1 : Int32) (a0_0 : Int32) (a0g_1 a0g_2 a0g_3 a0g_4 a0g_7 a0g_8 a0g_9 a0g_10 a0g_11 a0g_12 a0g_13 a0g_14 : Value) (a0_5 : Int32) (a0_6 : Int32) (ba1_l : (0 : Int) ≤ a1.toInt) (ba1_u : a1.toInt ≤ (8 : Int)) (ba0_0_l : (0 : Int) ≤ a0_0.toInt) (ba0_0_u : a0_0.toInt ≤ (9 : Int)) (ba0_5_l : (0 : Int) ≤ a0_5.toInt) (ba0_5_u : a0_5.toInt ≤ (8 : Int)) (ba0_6_l : (0 : Int) ≤ a0_6.toInt) (ba0_6_u : a0_6.toInt ≤ (8 : Int)) : zm l yX0_next wsX0_next ({ frames := 0, cells := 0, slots := 0, locals := 0 }) [.ref a0, .int a1] dC dI sz [(a0, .inr (0, [.int a0_0, a0g_1, a0g_2, a0g_3, a0g_4, .int a0_5, .int a0_6, a0g_7, a0g_8, a0g_9, a0g_10, a0g_11, a0g_12, a0g_13, a0g_14]))] [] (fun A _ => True) (fun A => va_Qi (fun (r : Int32) (_ : Unit) => ((0 : Int) ≤ r.toInt ∧ r.toInt ≤ (8 : Int)) ∧ r.toInt = Ff_X0_next a1.toInt a0_0.toInt a0_5.toInt a0_6.toInt) (fun (_ : Unit) (t : State) => ax_B dC dI A [(a0, .inr (0, [.int a0_0, a0g_1, a0g_2, a0g_3, a0g_4, .int a0_5, .int a0_6, a0g_7, a0g_8, a0g_9, a0g_10, a0g_11, a0g_12, a0g_13, a0g_14]))] [] t) A) := by
  refine zh (cc := cX0_next) (maxL := 2) (ret := (some .int)) zn_RX0 rfl (Nat.le_of_ble_eq_true rfl) (fun p e s m below meth c A ls hx hb hml hr hts (hown : s.vm.findClass RX0 = some m.cls) hlocks hA hS hP hK hD hE (hl : lv_has ls 2 [(0, .ref a0), (1, .int a1)]) => ?_)
  generalize hFX : Ff_X0_next a1.toInt a0_0.toInt a0_5.toInt a0_6.toInt = FX at ⊢
  have hF0 := hFX.symm.trans (Ff_X0_next.eq_1 a1.toInt a0_0.toInt a0_5.toInt a0_6.toInt)
  refine lv_aload_n hx hb dX0_next_0 rfl (lv_at hl 0 rfl) ?_
  refine va_get (D := (dC, dI)) (ci := 0) (v := .int a0_0) (C := RX0) (T := TX0) (N := 15) hx hb hts zi_X0_next_0 hown hK hP 0 rfl rfl 0 (by decide) (hts (.fieldLink RX0 31 "WaxTurns$Hall" "figures" "I") (List.mem_cons_of_mem _ (List.mem_append_left _ (List.mem_of_getElem? (i := 0) rfl)))) (fun _ h9 => h9) rfl dX0_next_1 ?_
  refine lv_if_gt (tgt := 11) hx hb dX0_next_4 (by decide) (fun c4 => ?_) (fun c4 => ?_)
  · have gc4 := ai_lt c4
    have l4t_a0_0 : (1 : Int) ≤ a0_0.toInt := ai_ltlo gc4 zq5
    have hF0 := hF0.trans (if_pos (show 0 < a0_0.toInt from gc4))
    refine lv_iload_n hx hb dX0_next_11 rfl (lv_at hl 1 rfl) ?_
    refine lv_aload_n hx hb dX0_next_12 rfl (lv_at hl 0 rfl) ?_
    refine va_get (D := (dC, dI)) (ci := 0) (v := .int a0_5) (C := RX0) (T := TX0) (N := 15) hx hb hts zi_X0_next_0 hown hK hP 0 rfl rfl 5 (by decide) (hts (.fieldLink RX0 63 "WaxTurns$Hall" "times" "I") (List.mem_cons_of_mem _ (List.mem_append_left _ (List.mem_of_getElem? (i := 1) rfl)))) (fun _ h9 => h9) rfl dX0_next_13 ?_
    refine lv_imul hx hb dX0_next_16 ?_
    refine lv_topi (fun x16 ex16 => ?_)
    have qx16 : x16.toInt = a1.toInt * a0_5.toInt ∧ (0 : Int) ≤ x16.toInt ∧ x16.toInt ≤ 64 := ai_mul ex16 ⟨ba1_l, ba1_u⟩ ⟨ba0_5_l, ba0_5_u⟩ (by decide) (by decide) zq18
    have hF0 := hF0.trans (fl_lt_eq (show x16.toInt = a1.toInt * a0_5.toInt from qx16.1))
    refine lv_aload_n hx hb dX0_next_17 rfl (lv_at hl 0 rfl) ?_
    refine va_get (D := (dC, dI)) (ci := 0) (v := .int a0_6) (C := RX0) (T := TX0) (N := 15) hx hb hts zi_X0_next_0 hown hK hP 0 rfl rfl 6 (by decide) (hts (.fieldLink RX0 66 "WaxTurns$Hall" "plus" "I") (List.mem_cons_of_mem _ (List.mem_append_left _ (List.mem_of_getElem? (i := 2) rfl)))) (fun _ h9 => h9) rfl dX0_next_18 ?_
    refine lv_iadd hx hb dX0_next_21 ?_
    refine lv_topi (fun x21 ex21 => ?_)
    have qx21 : x21.toInt = x16.toInt + a0_6.toInt := ai_add ex21 ⟨qx16.2.1, qx16.2.2⟩ ⟨ba0_6_l, ba0_6_u⟩ (by decide) (by decide)
    have bx21 : (0 : Int) ≤ x21.toInt ∧ x21.toInt ≤ 72 := ⟨by rw [qx21]; exact Int.add_le_add qx16.2.1 ba0_6_l, by rw [qx21]; exact Int.add_le_add qx16.2.2 ba0_6_u⟩
    have hF0 := hF0.trans (fl_lt_eq (show x21.toInt = x16.toInt + a0_6.toInt from qx21))
    refine lv_aload_n hx hb dX0_next_22 rfl (lv_at hl 0 rfl) ?_
    refine va_get (D := (dC, dI)) (ci := 0) (v := .int a0_0) (C := RX0) (T := TX0) (N := 15) hx hb hts zi_X0_next_0 hown hK hP 0 rfl rfl 0 (by decide) (hts (.fieldLink RX0 31 "WaxTurns$Hall" "figures" "I") (List.mem_cons_of_mem _ (List.mem_append_left _ (List.mem_of_getElem? (i := 0) rfl)))) (fun _ h9 => h9) rfl dX0_next_23 ?_
    refine lv_irem hx hb dX0_next_26 (ai_nz l4t_a0_0 (by decide)) ?_
    refine lv_topi (fun x26 ex26 => ?_)
    have qx26 := ai_rem2 ex26 bx21.1 (Int.lt_of_lt_of_le zq19 l4t_a0_0) ba0_0_u
    have hF0 := hF0.trans (fl_lt_eq (show x26.toInt = x21.toInt % a0_0.toInt from qx26.1))
    have hFe : FX = x26.toInt := hF0
    exact W.iret (v := x26) hx hb hr (fun t ht hW => ⟨⟨x26, (), rfl, ⟨⟨qx26.2.1, qx26.2.2⟩, hFe.symm⟩, by rw [ht]; exact hP, va_K.moved hW.alike hK, hD⟩, hS.F ht⟩) hS.2.2 dX0_next_27
  · have gc4 := ai_nlt c4
    have u4f_a0_0 : a0_0.toInt ≤ (0 : Int) := Int.le_trans gc4 zq6
    have hF0 := hF0.trans (if_neg (show ¬ (0 < a0_0.toInt) from Int.not_lt.mpr gc4))
    refine lv_iconst (v := 0) hx hb dX0_next_7 zk_iconst_0 ?_
    refine lv_goto (tgt := 27) hx hb dX0_next_8 (by decide) ?_
    have hFe : FX = 0 := hF0
    exact W.iret (v := 0) hx hb hr (fun t ht hW => ⟨⟨0, (), rfl, ⟨⟨zq5, (Int.le_trans zq6 zq20)⟩, hFe.symm⟩, by rw [ht]; exact hP, va_K.moved hW.alike hK, hD⟩, hS.F ht⟩) hS.2.2 dX0_next_27

set_option maxHeartbeats 4000000 in
set_option maxRecDepth 100000 in
theorem f_X0_stepsIn (l : Launch) (dC : Nat → ClassId) (dI : Nat → Nat → Nat) (sz : Nat) (a0 : Nat) (a1 : Int32) (a2 : Int32) (a0g_0 a0g_1 a0g_2 a0g_3 a0g_4 a0g_5 a0g_6 a0g_7 a0g_8 a0g_9 a0g_12 a0g_13 a0g_14 : Value) (a0_10 : Nat) (a0_11 : Nat) (ka0_10 : ClassId) (fa0_10 : Nat → Int32) (ka0_11 : ClassId) (fa0_11 : Nat → Int32)  : zm l yX0_stepsIn wsX0_stepsIn ({ frames := 1, cells := 0, slots := 0, locals := 22 }) [.ref a0, .int a1, .int a2] dC dI sz [(a0, .inr (0, [a0g_0, a0g_1, a0g_2, a0g_3, a0g_4, a0g_5, a0g_6, a0g_7, a0g_8, a0g_9, .ref a0_10, .ref a0_11, a0g_12, a0g_13, a0g_14])), (a0_10, .inl (ka0_10, 9, .inl (fa0_10))), (a0_11, .inl (ka0_11, 9, .inl (fa0_11)))] [(ka0_10, .int), (ka0_11, .int)] (fun A U => va_Nw (.methodLinkNest RX0 118 yX7_within RX7) U) (fun A => va_Qi (fun (r : Int32) (_ : Unit) => ((r = 1 ∧ (0 : Int) ≤ a1.toInt ∧ a1.toInt ≤ (8 : Int)) ∨ (r = 0)) ∧ r.toInt = Ff_X0_stepsIn a1.toInt a2.toInt (fl_A fa0_10) (fl_A fa0_11)) (fun (_ : Unit) (t : State) => ax_B dC dI A [(a0, .inr (0, [a0g_0, a0g_1, a0g_2, a0g_3, a0g_4, a0g_5, a0g_6, a0g_7, a0g_8, a0g_9, .ref a0_10, .ref a0_11, a0g_12, a0g_13, a0g_14])), (a0_10, .inl (ka0_10, 9, .inl (fa0_10))), (a0_11, .inl (ka0_11, 9, .inl (fa0_11)))] [(ka0_10, .int), (ka0_11, .int)] t) A) := by
  refine zh (cc := cX0_stepsIn) (maxL := 4) (ret := (some .boolean)) zn_RX0 rfl (Nat.le_of_ble_eq_true rfl) (fun p e s m below meth c A ls hx hb hml hr hts (hown : s.vm.findClass RX0 = some m.cls) hlocks hA hS hP hK hD hE (hl : lv_has ls 4 [(0, .ref a0), (1, .int a1), (2, .int a2)]) => ?_)
  have hE0 := hE
  generalize hFX : Ff_X0_stepsIn a1.toInt a2.toInt (fl_A fa0_10) (fl_A fa0_11) = FX at ⊢
  have hF0 := hFX.symm.trans (Ff_X0_stepsIn.eq_1 a1.toInt a2.toInt (fl_A fa0_10) (fl_A fa0_11))
  refine lv_iload_n hx hb dX0_stepsIn_0 rfl (lv_at hl 1 rfl) ?_
  refine lv_iconst (v := 0) hx hb dX0_stepsIn_1 zk_iconst_0 ?_
  refine lv_bipush (v := 8) hx hb dX0_stepsIn_2 zk_bipush_8 ?_
  refine va_calli (va_runSN (As := [.int a1, .int 0, .int 8]) (rest := []) ⟨hx, hb, hml, hown, hts⟩ (f_X7_within l dC dI s.heap.size a1 0 8 ) ⟨va_cnB 3 hts gX0_stepsIn_X7_within_n118 rfl rfl rfl hE0 (hts (.initialized RX7) (List.mem_cons_of_mem _ (List.mem_append_left _ (List.mem_of_getElem? (i := 3) rfl)))) zd_X7_within.2 ⟨Nat.le_of_ble_eq_true rfl, Nat.le_of_ble_eq_true rfl⟩, (hts (.static yX7_within) (List.mem_cons_of_mem _ (List.mem_append_left _ (List.mem_of_getElem? (i := 2) rfl)))), trivial⟩ ⟨ax_blind (fun _ _ _ _ _ => trivial), ax_pre (zp_P0 hP) (zp_K hK) (zp_D0 hD) (fun _ _ => trivial)⟩ rfl rfl hl.1 rfl (lv_room (Nat.le_of_ble_eq_true rfl)) dX0_stepsIn_4 ⟨Nat.le_of_ble_eq_true rfl, Nat.le_of_ble_eq_true rfl⟩) hS (fun q _ h => zp_F0 hD hS hA q h) (zp_F0 hD hS hA) (fun r4 u t H locs ht hvm hw hB hz1 hk1 hS1 => zo0 hB ht hP hD hk1 (zp_F0 hD hS hA) hS1 (fun hP hK1 hD hS => ?_))
  obtain ⟨hw, hfr4⟩ := hw
  rw [show (0 : Int32).toInt = 0 from by decide, show (8 : Int32).toInt = 8 from by decide] at hfr4
  have hc4 : Ff_X7_within a1.toInt 0 8 = r4.toInt := hfr4.symm
  have hF0 := hF0.trans (fl_lt_eq hc4.symm)
  rcases hw with hw | hw
  · obtain ⟨hw, h4⟩ := hw
    subst hw
    have l4k0_a1 : (0 : Int) ≤ a1.toInt := Int.le_trans zq5 h4.1
    have u4k0_a1 : a1.toInt ≤ (8 : Int) := Int.le_trans h4.2 zq28
    have hF0 := hF0.trans (if_pos (by decide))
    refine lv_if_eq (tgt := 20) hx hb dX0_stepsIn_7 (by decide) (fun c7 => absurd c7 (by decide +kernel)) (fun _ => ?_)
    refine lv_aload_n hx hb dX0_stepsIn_10 rfl (lv_at hl 0 rfl) ?_
    refine va_get (D := (dC, dI)) (ci := 0) (v := .ref a0_10) (C := RX0) (T := TX0) (N := 15) hx hb hts zi_X0_stepsIn_0 hown hK hP 0 rfl rfl 10 (by decide) (hts (.fieldLink RX0 9 "WaxTurns$Hall" "kinds" "[I") (List.mem_cons_of_mem _ (List.mem_append_left _ (List.mem_of_getElem? (i := 0) rfl)))) (fun _ h9 => h9) rfl dX0_stepsIn_11 ?_
    refine lv_iload_n hx hb dX0_stepsIn_14 rfl (lv_at hl 1 rfl) ?_
    refine va_iald hx hb hK hP 1 0 rfl rfl (ai_in l4k0_a1 u4k0_a1 (by decide) (by decide)) dX0_stepsIn_15 ?_
    refine lv_topi (fun x15 ex15 => ?_)
    have fqx15 := congrArg Int32.toInt ex15
    have hF0 := hF0.trans (fl_lt_eq (show x15.toInt = (fl_A fa0_10) (a1.toInt.toNat) from fqx15))
    refine lv_iconst (v := 1) hx hb dX0_stepsIn_16 zk_iconst_1 ?_
    refine lv_icmp_eq (tgt := 22) hx hb dX0_stepsIn_17 (by decide) (fun c17 => ?_) (fun c17 => ?_)
    · have gc17 := ai_eq c17
      have u17t_x15 : x15.toInt ≤ (1 : Int) := Int.le_trans (Int.le_of_eq gc17) zq0
      have l17t_x15 : (1 : Int) ≤ x15.toInt := Int.le_trans zq1 (Int.le_of_eq gc17.symm)
      have hF0 := hF0.trans (if_pos (show x15.toInt = 1 from gc17))
      refine lv_aload_n hx hb dX0_stepsIn_22 rfl (lv_at hl 0 rfl) ?_
      refine va_get (D := (dC, dI)) (ci := 0) (v := .ref a0_11) (C := RX0) (T := TX0) (N := 15) hx hb hts zi_X0_stepsIn_0 hown hK hP 0 rfl rfl 11 (by decide) (hts (.fieldLink RX0 15 "WaxTurns$Hall" "measures" "[I") (List.mem_cons_of_mem _ (List.mem_append_left _ (List.mem_of_getElem? (i := 1) rfl)))) (fun _ h9 => h9) rfl dX0_stepsIn_23 ?_
      refine lv_iload_n hx hb dX0_stepsIn_26 rfl (lv_at hl 1 rfl) ?_
      refine va_iald hx hb hK hP 2 1 rfl rfl (ai_in l4k0_a1 u4k0_a1 (by decide) (by decide)) dX0_stepsIn_27 ?_
      refine lv_topi (fun x27 ex27 => ?_)
      have fqx27 := congrArg Int32.toInt ex27
      have hF0 := hF0.trans (fl_lt_eq (show x27.toInt = (fl_A fa0_11) (a1.toInt.toNat) from fqx27))
      refine lv_istore_n (lv' := [(3, .int x27), (0, .ref a0), (1, .int a1), (2, .int a2)]) hx hb dX0_stepsIn_28 rfl hl (by decide) rfl (fun ls hl => ?_)
      refine lv_iload_n hx hb dX0_stepsIn_29 rfl (lv_at hl 0 rfl) ?_
      refine lv_if_le (tgt := 43) hx hb dX0_stepsIn_30 (by decide) (fun c30 => ?_) (fun c30 => ?_)
      · have gc30 := ai_le c30
        have u30t_x27 : x27.toInt ≤ (0 : Int) := Int.le_trans gc30 zq6
        have hF0 := hF0.trans (if_pos (show x27.toInt ≤ 0 from gc30))
        refine lv_iconst (v := 0) hx hb dX0_stepsIn_43 zk_iconst_0 ?_
        have hFe : FX = 0 := hF0
        exact W.zret (v := 0) hx hb hr rfl (fun t ht hW => ⟨⟨0, (), rfl, ⟨(Or.inr (rfl)), hFe.symm⟩, by rw [ht]; exact hP, va_K.moved hW.alike hK, hD⟩, hS.F ht⟩) hS.2.2 dX0_stepsIn_44
      · have gc30 := ai_nle c30
        have l30f_x27 : (1 : Int) ≤ x27.toInt := ai_ltlo gc30 zq5
        have hF0 := hF0.trans (if_neg (show ¬ (x27.toInt ≤ 0) from Int.not_le.mpr gc30))
        refine lv_iload_n hx hb dX0_stepsIn_33 rfl (lv_at hl 3 rfl) ?_
        refine lv_iload_n hx hb dX0_stepsIn_34 rfl (lv_at hl 0 rfl) ?_
        refine lv_irem hx hb dX0_stepsIn_35 (ai_nz l30f_x27 (by decide)) ?_
        refine lv_topi (fun x35 ex35 => ?_)
        have fqx35 := fl_rem_eq ex35
        have hF0 := hF0.trans (fl_lt_eq (show x35.toInt = fl_rem a2.toInt x27.toInt from fqx35))
        refine lv_if_ne (tgt := 43) hx hb dX0_stepsIn_36 (by decide) (fun c36 => ?_) (fun c36 => ?_)
        · have gc36 := ai_ne c36
          have hF0 := hF0.trans (if_neg (show ¬ (x35.toInt = 0) from  gc36))
          refine lv_iconst (v := 0) hx hb dX0_stepsIn_43 zk_iconst_0 ?_
          have hFe : FX = 0 := hF0
          exact W.zret (v := 0) hx hb hr rfl (fun t ht hW => ⟨⟨0, (), rfl, ⟨(Or.inr (rfl)), hFe.symm⟩, by rw [ht]; exact hP, va_K.moved hW.alike hK, hD⟩, hS.F ht⟩) hS.2.2 dX0_stepsIn_44
        · have gc36 := ai_eq c36
          have u36f_x35 : x35.toInt ≤ (0 : Int) := Int.le_trans (Int.le_of_eq gc36) zq6
          have l36f_x35 : (0 : Int) ≤ x35.toInt := Int.le_trans zq5 (Int.le_of_eq gc36.symm)
          have hF0 := hF0.trans (if_pos (show x35.toInt = 0 from gc36))
          refine lv_iconst (v := 1) hx hb dX0_stepsIn_39 zk_iconst_1 ?_
          refine lv_goto (tgt := 44) hx hb dX0_stepsIn_40 (by decide) ?_
          have hFe : FX = 1 := hF0
          exact W.zret (v := 1) hx hb hr rfl (fun t ht hW => ⟨⟨1, (), rfl, ⟨(Or.inl ⟨rfl, l4k0_a1, u4k0_a1⟩), hFe.symm⟩, by rw [ht]; exact hP, va_K.moved hW.alike hK, hD⟩, hS.F ht⟩) hS.2.2 dX0_stepsIn_44
    · have gc17 := ai_ne c17
      have hF0 := hF0.trans (if_neg (show ¬ (x15.toInt = 1) from  gc17))
      refine lv_iconst (v := 0) hx hb dX0_stepsIn_20 zk_iconst_0 ?_
      have hFe : FX = 0 := hF0
      exact W.zret (v := 0) hx hb hr rfl (fun t ht hW => ⟨⟨0, (), rfl, ⟨(Or.inr (rfl)), hFe.symm⟩, by rw [ht]; exact hP, va_K.moved hW.alike hK, hD⟩, hS.F ht⟩) hS.2.2 dX0_stepsIn_21
  · obtain ⟨hw, h4⟩ := hw
    subst hw
    have hF0 := hF0.trans (if_neg (by decide))
    refine lv_if_eq (tgt := 20) hx hb dX0_stepsIn_7 (by decide) (fun _ => ?_) (fun c7 => absurd (by decide +kernel) c7)
    refine lv_iconst (v := 0) hx hb dX0_stepsIn_20 zk_iconst_0 ?_
    have hFe : FX = 0 := hF0
    exact W.zret (v := 0) hx hb hr rfl (fun t ht hW => ⟨⟨0, (), rfl, ⟨(Or.inr (rfl)), hFe.symm⟩, by rw [ht]; exact hP, va_K.moved hW.alike hK, hD⟩, hS.F ht⟩) hS.2.2 dX0_stepsIn_21

set_option maxHeartbeats 4000000 in
set_option maxRecDepth 100000 in
theorem f_X0_nearer (l : Launch) (dC : Nat → ClassId) (dI : Nat → Nat → Nat) (sz : Nat) (a0 : Nat) (a1 : Int32) (a0g_0 a0g_1 a0g_3 a0g_4 a0g_5 a0g_6 a0g_7 a0g_8 a0g_9 a0g_10 a0g_11 a0g_12 a0g_13 a0g_14 : Value) (a0_2 : Int32)  : zm l yX0_nearer wsX0_nearer ({ frames := 0, cells := 0, slots := 0, locals := 0 }) [.ref a0, .int a1] dC dI sz [(a0, .inr (0, [a0g_0, a0g_1, .int a0_2, a0g_3, a0g_4, a0g_5, a0g_6, a0g_7, a0g_8, a0g_9, a0g_10, a0g_11, a0g_12, a0g_13, a0g_14]))] [] (fun A _ => True) (fun A => va_Qi (fun (r : Int32) (_ : Unit) => (True) ∧ r.toInt = Ff_X0_nearer a1.toInt a0_2.toInt) (fun (_ : Unit) (t : State) => ax_B dC dI A [(a0, .inr (0, [a0g_0, a0g_1, .int a0_2, a0g_3, a0g_4, a0g_5, a0g_6, a0g_7, a0g_8, a0g_9, a0g_10, a0g_11, a0g_12, a0g_13, a0g_14]))] [] t) A) := by
  refine zh (cc := cX0_nearer) (maxL := 2) (ret := (some .int)) zn_RX0 rfl (Nat.le_of_ble_eq_true rfl) (fun p e s m below meth c A ls hx hb hml hr hts (hown : s.vm.findClass RX0 = some m.cls) hlocks hA hS hP hK hD hE (hl : lv_has ls 2 [(0, .ref a0), (1, .int a1)]) => ?_)
  generalize hFX : Ff_X0_nearer a1.toInt a0_2.toInt = FX at ⊢
  have hF0 := hFX.symm.trans (Ff_X0_nearer.eq_1 a1.toInt a0_2.toInt)
  refine lv_iload_n hx hb dX0_nearer_0 rfl (lv_at hl 1 rfl) ?_
  refine lv_aload_n hx hb dX0_nearer_1 rfl (lv_at hl 0 rfl) ?_
  refine va_get (D := (dC, dI)) (ci := 0) (v := .int a0_2) (C := RX0) (T := TX0) (N := 15) hx hb hts zi_X0_nearer_0 hown hK hP 0 rfl rfl 2 (by decide) (hts (.fieldLink RX0 51 "WaxTurns$Hall" "stairsPlace" "I") (List.mem_cons_of_mem _ (List.mem_append_left _ (List.mem_of_getElem? (i := 0) rfl)))) (fun _ h9 => h9) rfl dX0_nearer_2 ?_
  refine lv_icmp_ne (tgt := 10) hx hb dX0_nearer_5 (by decide) (fun c5 => ?_) (fun c5 => ?_)
  · have gc5 := ai_ne c5
    have hF0 := hF0.trans (if_neg (show ¬ (a1.toInt = a0_2.toInt) from  gc5))
    refine lv_iload_n hx hb dX0_nearer_10 rfl (lv_at hl 1 rfl) ?_
    refine lv_aload_n hx hb dX0_nearer_11 rfl (lv_at hl 0 rfl) ?_
    refine va_get (D := (dC, dI)) (ci := 0) (v := .int a0_2) (C := RX0) (T := TX0) (N := 15) hx hb hts zi_X0_nearer_0 hown hK hP 0 rfl rfl 2 (by decide) (hts (.fieldLink RX0 51 "WaxTurns$Hall" "stairsPlace" "I") (List.mem_cons_of_mem _ (List.mem_append_left _ (List.mem_of_getElem? (i := 0) rfl)))) (fun _ h9 => h9) rfl dX0_nearer_12 ?_
    refine lv_icmp_ge (tgt := 24) hx hb dX0_nearer_15 (by decide) (fun c15 => ?_) (fun c15 => ?_)
    · have gc15 := ai_le c15
      have hF0 := hF0.trans (if_pos (show a0_2.toInt ≤ a1.toInt from gc15))
      refine lv_iload_n hx hb dX0_nearer_24 rfl (lv_at hl 1 rfl) ?_
      refine lv_iconst (v := 1) hx hb dX0_nearer_25 zk_iconst_1 ?_
      refine lv_isub hx hb dX0_nearer_26 ?_
      refine lv_topi (fun x26 ex26 => ?_)
      have fqx26 := fl_isub_eq ex26
      have hF0 := hF0.trans (fl_lt_eq (show x26.toInt = fl_isub a1.toInt 1 from fqx26))
      have hFe : FX = x26.toInt := hF0
      exact W.iret (v := x26) hx hb hr (fun t ht hW => ⟨⟨x26, (), rfl, ⟨trivial, hFe.symm⟩, by rw [ht]; exact hP, va_K.moved hW.alike hK, hD⟩, hS.F ht⟩) hS.2.2 dX0_nearer_27
    · have gc15 := ai_nle c15
      have u15f_a1 : a1.toInt ≤ (2147483646 : Int) := ai_lthi gc15 (ai_max a0_2)
      have l15f_a0_2 : (-2147483647 : Int) ≤ a0_2.toInt := ai_ltlo gc15 (ai_min a1)
      have hF0 := hF0.trans (if_neg (show ¬ (a0_2.toInt ≤ a1.toInt) from Int.not_le.mpr gc15))
      refine lv_iload_n hx hb dX0_nearer_18 rfl (lv_at hl 1 rfl) ?_
      refine lv_iconst (v := 1) hx hb dX0_nearer_19 zk_iconst_1 ?_
      refine lv_iadd hx hb dX0_nearer_20 ?_
      refine lv_topi (fun x20 ex20 => ?_)
      have qx20 : x20.toInt = a1.toInt + (1 : Int32).toInt := ai_add ex20 ⟨(ai_min a1), u15f_a1⟩ ⟨zq1, zq0⟩ (by decide) (by decide)
      have bx20 : (-2147483647 : Int) ≤ x20.toInt ∧ x20.toInt ≤ 2147483647 := ⟨by rw [qx20]; exact Int.add_le_add (ai_min a1) zq1, by rw [qx20]; exact Int.add_le_add u15f_a1 zq0⟩
      have wx20 : x20.toInt = a1.toInt + 1 := qx20
      have hF0 := hF0.trans (fl_lt_eq (show x20.toInt = a1.toInt + 1 from qx20))
      refine lv_goto (tgt := 27) hx hb dX0_nearer_21 (by decide) ?_
      have hFe : FX = x20.toInt := hF0
      exact W.iret (v := x20) hx hb hr (fun t ht hW => ⟨⟨x20, (), rfl, ⟨trivial, hFe.symm⟩, by rw [ht]; exact hP, va_K.moved hW.alike hK, hD⟩, hS.F ht⟩) hS.2.2 dX0_nearer_27
  · have gc5 := ai_eq c5
    have hF0 := hF0.trans (if_pos (show a1.toInt = a0_2.toInt from gc5))
    refine lv_iload_n hx hb dX0_nearer_8 rfl (lv_at hl 1 rfl) ?_
    have hFe : FX = a1.toInt := hF0
    exact W.iret (v := a1) hx hb hr (fun t ht hW => ⟨⟨a1, (), rfl, ⟨trivial, hFe.symm⟩, by rw [ht]; exact hP, va_K.moved hW.alike hK, hD⟩, hS.F ht⟩) hS.2.2 dX0_nearer_9

set_option maxHeartbeats 4000000 in
set_option maxRecDepth 100000 in
theorem f_X0_isHeardAt (l : Launch) (dC : Nat → ClassId) (dI : Nat → Nat → Nat) (sz : Nat) (a1 : Int32) (a2 : Int32)  : zm l yX0_isHeardAt wsX0_isHeardAt ({ frames := 0, cells := 0, slots := 0, locals := 0 }) [.int a1, .int a2] dC dI sz [] [] (fun A _ => True) (fun A => va_Qi (fun (r : Int32) (_ : Unit) => ((r = 1) ∨ (r = 0)) ∧ r.toInt = Ff_X0_isHeardAt a1.toInt a2.toInt) (fun (_ : Unit) (t : State) => ax_B dC dI A [] [] t) A) := by
  refine zh (cc := cX0_isHeardAt) (maxL := 2) (ret := (some .boolean)) zn_RX0 rfl (Nat.le_of_ble_eq_true rfl) (fun p e s m below meth c A ls hx hb hml hr hts (hown : s.vm.findClass RX0 = some m.cls) hlocks hA hS hP hK hD hE (hl : lv_has ls 2 [(0, .int a1), (1, .int a2)]) => ?_)
  generalize hFX : Ff_X0_isHeardAt a1.toInt a2.toInt = FX at ⊢
  have hF0 := hFX.symm.trans (Ff_X0_isHeardAt.eq_1 a1.toInt a2.toInt)
  refine lv_iload_n hx hb dX0_isHeardAt_0 rfl (lv_at hl 1 rfl) ?_
  refine lv_bipush (v := 7) hx hb dX0_isHeardAt_1 zk_bipush_7 ?_
  refine lv_iload_n hx hb dX0_isHeardAt_3 rfl (lv_at hl 0 rfl) ?_
  refine lv_ishl hx hb dX0_isHeardAt_4 ?_
  refine lv_topi (fun x4 ex4 => ?_)
  have fqx4 := fl_shl_eq ex4
  have hF0 := hF0.trans (fl_lt_eq (show x4.toInt = fl_shl 7 a1.toInt from fqx4))
  refine lv_iconst (v := 1) hx hb dX0_isHeardAt_5 zk_iconst_1 ?_
  refine lv_ishr hx hb dX0_isHeardAt_6 ?_
  refine lv_topi (fun x6 ex6 => ?_)
  have qx6 : x6.toInt = x4.toInt / 2 := ai_shr1 ex6
  have hF0 := hF0.trans (fl_lt_eq (show x6.toInt = x4.toInt / 2 from qx6))
  refine lv_iand hx hb dX0_isHeardAt_7 ?_
  refine lv_topi (fun x7 ex7 => ?_)
  have fqx7 := fl_and_eq ex7
  have hF0 := hF0.trans (fl_lt_eq (show x7.toInt = fl_and a2.toInt x6.toInt from fqx7))
  refine lv_if_eq (tgt := 15) hx hb dX0_isHeardAt_8 (by decide) (fun c8 => ?_) (fun c8 => ?_)
  · have gc8 := ai_eq c8
    have u8t_x7 : x7.toInt ≤ (0 : Int) := Int.le_trans (Int.le_of_eq gc8) zq6
    have l8t_x7 : (0 : Int) ≤ x7.toInt := Int.le_trans zq5 (Int.le_of_eq gc8.symm)
    have hF0 := hF0.trans (if_pos (show x7.toInt = 0 from gc8))
    refine lv_iconst (v := 0) hx hb dX0_isHeardAt_15 zk_iconst_0 ?_
    have hFe : FX = 0 := hF0
    exact W.zret (v := 0) hx hb hr rfl (fun t ht hW => ⟨⟨0, (), rfl, ⟨(Or.inr (rfl)), hFe.symm⟩, by rw [ht]; exact hP, va_K.moved hW.alike hK, hD⟩, hS.F ht⟩) hS.2.2 dX0_isHeardAt_16
  · have gc8 := ai_ne c8
    have hF0 := hF0.trans (if_neg (show ¬ (x7.toInt = 0) from  gc8))
    refine lv_iconst (v := 1) hx hb dX0_isHeardAt_11 zk_iconst_1 ?_
    refine lv_goto (tgt := 16) hx hb dX0_isHeardAt_12 (by decide) ?_
    have hFe : FX = 1 := hF0
    exact W.zret (v := 1) hx hb hr rfl (fun t ht hW => ⟨⟨1, (), rfl, ⟨(Or.inl (rfl)), hFe.symm⟩, by rw [ht]; exact hP, va_K.moved hW.alike hK, hD⟩, hS.F ht⟩) hS.2.2 dX0_isHeardAt_16

set_option maxHeartbeats 4000000 in
set_option maxRecDepth 100000 in
theorem f_X0_partSaid (l : Launch) (dC : Nat → ClassId) (dI : Nat → Nat → Nat) (sz : Nat) (a0 : Nat) (a1 : Int32) (a2 : Int32) (a0g_0 a0g_1 a0g_2 a0g_3 a0g_4 a0g_5 a0g_6 a0g_7 a0g_8 a0g_9 a0g_12 a0g_13 a0g_14 : Value) (a0_10 : Nat) (a0_11 : Nat) (ka0_10 : ClassId) (fa0_10 : Nat → Int32) (ka0_11 : ClassId) (fa0_11 : Nat → Int32)  : zm l yX0_partSaid wsX0_partSaid ({ frames := 1, cells := 0, slots := 0, locals := 22 }) [.ref a0, .int a1, .int a2] dC dI sz [(a0, .inr (0, [a0g_0, a0g_1, a0g_2, a0g_3, a0g_4, a0g_5, a0g_6, a0g_7, a0g_8, a0g_9, .ref a0_10, .ref a0_11, a0g_12, a0g_13, a0g_14])), (a0_10, .inl (ka0_10, 9, .inl (fa0_10))), (a0_11, .inl (ka0_11, 9, .inl (fa0_11)))] [(ka0_10, .int), (ka0_11, .int)] (fun A U => va_Nw (.methodLinkNest RX0 118 yX7_within RX7) U) (fun A => va_Qi (fun (r : Int32) (_ : Unit) => (True) ∧ r.toInt = Ff_X0_partSaid a1.toInt a2.toInt (fl_A fa0_10) (fl_A fa0_11)) (fun (_ : Unit) (t : State) => ax_B dC dI A [(a0, .inr (0, [a0g_0, a0g_1, a0g_2, a0g_3, a0g_4, a0g_5, a0g_6, a0g_7, a0g_8, a0g_9, .ref a0_10, .ref a0_11, a0g_12, a0g_13, a0g_14])), (a0_10, .inl (ka0_10, 9, .inl (fa0_10))), (a0_11, .inl (ka0_11, 9, .inl (fa0_11)))] [(ka0_10, .int), (ka0_11, .int)] t) A) := by
  refine zh (cc := cX0_partSaid) (maxL := 4) (ret := (some .int)) zn_RX0 rfl (Nat.le_of_ble_eq_true rfl) (fun p e s m below meth c A ls hx hb hml hr hts (hown : s.vm.findClass RX0 = some m.cls) hlocks hA hS hP hK hD hE (hl : lv_has ls 4 [(0, .ref a0), (1, .int a1), (2, .int a2)]) => ?_)
  have hE0 := hE
  generalize hFX : Ff_X0_partSaid a1.toInt a2.toInt (fl_A fa0_10) (fl_A fa0_11) = FX at ⊢
  have hF0 := hFX.symm.trans (Ff_X0_partSaid.eq_1 a1.toInt a2.toInt (fl_A fa0_10) (fl_A fa0_11))
  refine lv_iload_n hx hb dX0_partSaid_0 rfl (lv_at hl 1 rfl) ?_
  refine lv_iconst (v := 0) hx hb dX0_partSaid_1 zk_iconst_0 ?_
  refine lv_bipush (v := 8) hx hb dX0_partSaid_2 zk_bipush_8 ?_
  refine va_calli (va_runSN (As := [.int a1, .int 0, .int 8]) (rest := []) ⟨hx, hb, hml, hown, hts⟩ (f_X7_within l dC dI s.heap.size a1 0 8 ) ⟨va_cnB 3 hts gX0_partSaid_X7_within_n118 rfl rfl rfl hE0 (hts (.initialized RX7) (List.mem_cons_of_mem _ (List.mem_append_left _ (List.mem_of_getElem? (i := 3) rfl)))) zd_X7_within.2 ⟨Nat.le_of_ble_eq_true rfl, Nat.le_of_ble_eq_true rfl⟩, (hts (.static yX7_within) (List.mem_cons_of_mem _ (List.mem_append_left _ (List.mem_of_getElem? (i := 2) rfl)))), trivial⟩ ⟨ax_blind (fun _ _ _ _ _ => trivial), ax_pre (zp_P0 hP) (zp_K hK) (zp_D0 hD) (fun _ _ => trivial)⟩ rfl rfl hl.1 rfl (lv_room (Nat.le_of_ble_eq_true rfl)) dX0_partSaid_4 ⟨Nat.le_of_ble_eq_true rfl, Nat.le_of_ble_eq_true rfl⟩) hS (fun q _ h => zp_F0 hD hS hA q h) (zp_F0 hD hS hA) (fun r4 u t H locs ht hvm hw hB hz1 hk1 hS1 => zo0 hB ht hP hD hk1 (zp_F0 hD hS hA) hS1 (fun hP hK1 hD hS => ?_))
  obtain ⟨hw, hfr4⟩ := hw
  rw [show (0 : Int32).toInt = 0 from by decide, show (8 : Int32).toInt = 8 from by decide] at hfr4
  have hc4 : Ff_X7_within a1.toInt 0 8 = r4.toInt := hfr4.symm
  have hF0 := hF0.trans (fl_lt_eq hc4.symm)
  rcases hw with hw | hw
  · obtain ⟨hw, h4⟩ := hw
    subst hw
    have l4k0_a1 : (0 : Int) ≤ a1.toInt := Int.le_trans zq5 h4.1
    have u4k0_a1 : a1.toInt ≤ (8 : Int) := Int.le_trans h4.2 zq28
    have hF0 := hF0.trans (if_pos (by decide))
    refine lv_if_eq (tgt := 24) hx hb dX0_partSaid_7 (by decide) (fun c7 => absurd c7 (by decide +kernel)) (fun _ => ?_)
    refine lv_aload_n hx hb dX0_partSaid_10 rfl (lv_at hl 0 rfl) ?_
    refine va_get (D := (dC, dI)) (ci := 0) (v := .ref a0_10) (C := RX0) (T := TX0) (N := 15) hx hb hts zi_X0_partSaid_0 hown hK hP 0 rfl rfl 10 (by decide) (hts (.fieldLink RX0 9 "WaxTurns$Hall" "kinds" "[I") (List.mem_cons_of_mem _ (List.mem_append_left _ (List.mem_of_getElem? (i := 0) rfl)))) (fun _ h9 => h9) rfl dX0_partSaid_11 ?_
    refine lv_iload_n hx hb dX0_partSaid_14 rfl (lv_at hl 1 rfl) ?_
    refine va_iald hx hb hK hP 1 0 rfl rfl (ai_in l4k0_a1 u4k0_a1 (by decide) (by decide)) dX0_partSaid_15 ?_
    refine lv_topi (fun x15 ex15 => ?_)
    have fqx15 := congrArg Int32.toInt ex15
    have hF0 := hF0.trans (fl_lt_eq (show x15.toInt = (fl_A fa0_10) (a1.toInt.toNat) from fqx15))
    refine lv_iconst (v := 2) hx hb dX0_partSaid_16 zk_iconst_2 ?_
    refine lv_icmp_ne (tgt := 24) hx hb dX0_partSaid_17 (by decide) (fun c17 => ?_) (fun c17 => ?_)
    · have gc17 := ai_ne c17
      have hF0 := hF0.trans (if_neg (show ¬ (x15.toInt = 2) from  gc17))
      refine lv_iconst (v := 0) hx hb dX0_partSaid_24 zk_iconst_0 ?_
      refine lv_istore_n (lv' := [(3, .int 0), (0, .ref a0), (1, .int a1), (2, .int a2)]) hx hb dX0_partSaid_25 rfl hl (by decide) rfl (fun ls hl => ?_)
      refine lv_iload_n hx hb dX0_partSaid_26 rfl (lv_at hl 0 rfl) ?_
      refine lv_if_eq (tgt := 48) hx hb dX0_partSaid_27 (by decide) (fun _ => ?_) (fun c27 => absurd (by decide +kernel) c27)
      refine lv_iconst (v := 0) hx hb dX0_partSaid_48 zk_iconst_0 ?_
      have hFe : FX = 0 := hF0
      exact W.iret (v := 0) hx hb hr (fun t ht hW => ⟨⟨0, (), rfl, ⟨trivial, hFe.symm⟩, by rw [ht]; exact hP, va_K.moved hW.alike hK, hD⟩, hS.F ht⟩) hS.2.2 dX0_partSaid_49
    · have gc17 := ai_eq c17
      have u17f_x15 : x15.toInt ≤ (2 : Int) := Int.le_trans (Int.le_of_eq gc17) zq13
      have l17f_x15 : (2 : Int) ≤ x15.toInt := Int.le_trans zq12 (Int.le_of_eq gc17.symm)
      have hF0 := hF0.trans (if_pos (show x15.toInt = 2 from gc17))
      refine lv_iconst (v := 1) hx hb dX0_partSaid_20 zk_iconst_1 ?_
      refine lv_goto (tgt := 25) hx hb dX0_partSaid_21 (by decide) ?_
      refine lv_istore_n (lv' := [(3, .int 1), (0, .ref a0), (1, .int a1), (2, .int a2)]) hx hb dX0_partSaid_25 rfl hl (by decide) rfl (fun ls hl => ?_)
      refine lv_iload_n hx hb dX0_partSaid_26 rfl (lv_at hl 0 rfl) ?_
      refine lv_if_eq (tgt := 48) hx hb dX0_partSaid_27 (by decide) (fun c27 => absurd c27 (by decide +kernel)) (fun _ => ?_)
      refine lv_iload_n hx hb dX0_partSaid_30 rfl (lv_at hl 3 rfl) ?_
      refine lv_aload_n hx hb dX0_partSaid_31 rfl (lv_at hl 1 rfl) ?_
      refine va_get (D := (dC, dI)) (ci := 0) (v := .ref a0_11) (C := RX0) (T := TX0) (N := 15) hx hb hts zi_X0_partSaid_0 hown hK hP 0 rfl rfl 11 (by decide) (hts (.fieldLink RX0 15 "WaxTurns$Hall" "measures" "[I") (List.mem_cons_of_mem _ (List.mem_append_left _ (List.mem_of_getElem? (i := 1) rfl)))) (fun _ h9 => h9) rfl dX0_partSaid_32 ?_
      refine lv_iload_n hx hb dX0_partSaid_35 rfl (lv_at hl 2 rfl) ?_
      refine va_iald hx hb hK hP 2 1 rfl rfl (ai_in l4k0_a1 u4k0_a1 (by decide) (by decide)) dX0_partSaid_36 ?_
      refine lv_topi (fun x36 ex36 => ?_)
      have fqx36 := congrArg Int32.toInt ex36
      have hF0 := hF0.trans (fl_lt_eq (show x36.toInt = (fl_A fa0_11) (a1.toInt.toNat) from fqx36))
      refine lv_icmp_gt (tgt := 48) hx hb dX0_partSaid_37 (by decide) (fun c37 => ?_) (fun c37 => ?_)
      · have gc37 := ai_lt c37
        have u37t_x36 : x36.toInt ≤ (2147483646 : Int) := ai_lthi gc37 (ai_max a2)
        have l37t_a2 : (-2147483647 : Int) ≤ a2.toInt := ai_ltlo gc37 (ai_min x36)
        have hF0 := hF0.trans (if_pos (show x36.toInt < a2.toInt from gc37))
        refine lv_iconst (v := 0) hx hb dX0_partSaid_48 zk_iconst_0 ?_
        have hFe : FX = 0 := hF0
        exact W.iret (v := 0) hx hb hr (fun t ht hW => ⟨⟨0, (), rfl, ⟨trivial, hFe.symm⟩, by rw [ht]; exact hP, va_K.moved hW.alike hK, hD⟩, hS.F ht⟩) hS.2.2 dX0_partSaid_49
      · have gc37 := ai_nlt c37
        have hF0 := hF0.trans (if_neg (show ¬ (x36.toInt < a2.toInt) from Int.not_lt.mpr gc37))
        refine lv_iconst (v := 1) hx hb dX0_partSaid_40 zk_iconst_1 ?_
        refine lv_iload_n hx hb dX0_partSaid_41 rfl (lv_at hl 3 rfl) ?_
        refine lv_iconst (v := 1) hx hb dX0_partSaid_42 zk_iconst_1 ?_
        refine lv_isub hx hb dX0_partSaid_43 ?_
        refine lv_topi (fun x43 ex43 => ?_)
        have fqx43 := fl_isub_eq ex43
        have hF0 := hF0.trans (fl_lt_eq (show x43.toInt = fl_isub a2.toInt 1 from fqx43))
        refine lv_ishl hx hb dX0_partSaid_44 ?_
        refine lv_topi (fun x44 ex44 => ?_)
        have fqx44 := fl_shl_eq ex44
        have hF0 := hF0.trans (fl_lt_eq (show x44.toInt = fl_shl 1 x43.toInt from fqx44))
        refine lv_goto (tgt := 49) hx hb dX0_partSaid_45 (by decide) ?_
        have hFe : FX = x44.toInt := hF0
        exact W.iret (v := x44) hx hb hr (fun t ht hW => ⟨⟨x44, (), rfl, ⟨trivial, hFe.symm⟩, by rw [ht]; exact hP, va_K.moved hW.alike hK, hD⟩, hS.F ht⟩) hS.2.2 dX0_partSaid_49
  · obtain ⟨hw, h4⟩ := hw
    subst hw
    have hF0 := hF0.trans (if_neg (by decide))
    refine lv_if_eq (tgt := 24) hx hb dX0_partSaid_7 (by decide) (fun _ => ?_) (fun c7 => absurd (by decide +kernel) c7)
    refine lv_iconst (v := 0) hx hb dX0_partSaid_24 zk_iconst_0 ?_
    refine lv_istore_n (lv' := [(3, .int 0), (0, .ref a0), (1, .int a1), (2, .int a2)]) hx hb dX0_partSaid_25 rfl hl (by decide) rfl (fun ls hl => ?_)
    refine lv_iload_n hx hb dX0_partSaid_26 rfl (lv_at hl 0 rfl) ?_
    refine lv_if_eq (tgt := 48) hx hb dX0_partSaid_27 (by decide) (fun _ => ?_) (fun c27 => absurd (by decide +kernel) c27)
    refine lv_iconst (v := 0) hx hb dX0_partSaid_48 zk_iconst_0 ?_
    have hFe : FX = 0 := hF0
    exact W.iret (v := 0) hx hb hr (fun t ht hW => ⟨⟨0, (), rfl, ⟨trivial, hFe.symm⟩, by rw [ht]; exact hP, va_K.moved hW.alike hK, hD⟩, hS.F ht⟩) hS.2.2 dX0_partSaid_49

set_option maxHeartbeats 4000000 in
set_option maxRecDepth 100000 in
theorem f_X0_step (l : Launch) (dC : Nat → ClassId) (dI : Nat → Nat → Nat) (sz : Nat) (a0 : Nat) (a1 : Nat) (a2 : Int32) (a3 : Nat) (a0g_0 a0g_1 a0g_3 a0g_4 a0g_5 a0g_6 a0g_7 a0g_8 a0g_9 a0g_10 a0g_11 a0g_12 a0g_13 a0g_14 : Value) (a0_2 : Int32) (a1_0 : Int32) (a1g_1 a1g_2 a1g_6 : Value) (a1_3 : Int32) (a1_4 : Int32) (a1_5 : Nat) (ka1_5 : ClassId) (fa1_5 : Nat → Int32) (a3_0 : Int32) (a3_1 : Int32) (a3_2 : Nat) (a3_3 : Nat) (ka3_3 : ClassId) (fa3_3 : Nat → Int32) (ka3_2 : ClassId) (fa3_2 : Nat → Int32) (ba2_l : (0 : Int) ≤ a2.toInt) (ba2_u : a2.toInt ≤ (8 : Int)) (ba3_0_l : (0 : Int) ≤ a3_0.toInt) (ba3_0_u : a3_0.toInt ≤ (3 : Int)) (bfa3_3 : (∀ k, (0 : Int) ≤ (fa3_3 k).toInt ∧ (fa3_3 k).toInt ≤ 80)) (bfa3_2 : (∀ k, (0 : Int) ≤ (fa3_2 k).toInt ∧ (fa3_2 k).toInt ≤ 80)) : zm l yX0_step wsX0_step ({ frames := 2, cells := 0, slots := 0, locals := 49 }) [.ref a0, .ref a1, .int a2, .ref a3] dC dI sz [(a0, .inr (0, [a0g_0, a0g_1, .int a0_2, a0g_3, a0g_4, a0g_5, a0g_6, a0g_7, a0g_8, a0g_9, a0g_10, a0g_11, a0g_12, a0g_13, a0g_14])), (a1, .inr (5, [.int a1_0, a1g_1, a1g_2, .int a1_3, .int a1_4, .ref a1_5, a1g_6])), (a1_5, .inl (ka1_5, 9, .inl (fa1_5))), (a3, .inr (6, [.int a3_0, .int a3_1, .ref a3_2, .ref a3_3])), (a3_3, .inl (ka3_3, 3, .inl (fa3_3))), (a3_2, .inl (ka3_2, 3, .inl (fa3_2)))] [(ka1_5, .int), (ka3_3, .int), (ka3_2, .int)] (fun A U => va_Nw (.methodLinkNest RX5 38 yX7_hasBit RX7) U ∧ va_Nw (.methodLinkNest RX0 129 yX7_hasBit RX7) U) (fun A => va_Qv (fun (_ : Unit) => True) (fun (_ : Unit) (t : State) => ∃ na1_3 : Int32, ∃ na1_4 : Int32, ∃ nfa1_5 : Nat → Int32, (Ff_X0_step a2.toInt a0_2.toInt a1_0.toInt a1_3.toInt a1_4.toInt (fl_A fa1_5) a3_0.toInt a3_1.toInt (fl_A fa3_3) (fl_A fa3_2) = (na1_3.toInt, na1_4.toInt, (fl_A nfa1_5))) ∧ ax_B dC dI A [(a0, .inr (0, [a0g_0, a0g_1, .int a0_2, a0g_3, a0g_4, a0g_5, a0g_6, a0g_7, a0g_8, a0g_9, a0g_10, a0g_11, a0g_12, a0g_13, a0g_14])), (a1, .inr (5, [.int a1_0, a1g_1, a1g_2, .int na1_3, .int na1_4, .ref a1_5, a1g_6])), (a1_5, .inl (ka1_5, 9, .inl (nfa1_5))), (a3, .inr (6, [.int a3_0, .int a3_1, .ref a3_2, .ref a3_3])), (a3_3, .inl (ka3_3, 3, .inl (fa3_3))), (a3_2, .inl (ka3_2, 3, .inl (fa3_2)))] [(ka1_5, .int), (ka3_3, .int), (ka3_2, .int)] t) A) := by
  refine zh (cc := cX0_step) (maxL := 5) (ret := none) zn_RX0 rfl (Nat.le_of_ble_eq_true rfl) (fun p e s m below meth c A ls hx hb hml hr hts (hown : s.vm.findClass RX0 = some m.cls) hlocks hA hS hP hK hD hE (hl : lv_has ls 5 [(0, .ref a0), (1, .ref a1), (2, .int a2), (3, .ref a3)]) => ?_)
  obtain ⟨hE0, hE1⟩ := hE
  generalize hFX : Ff_X0_step a2.toInt a0_2.toInt a1_0.toInt a1_3.toInt a1_4.toInt (fl_A fa1_5) a3_0.toInt a3_1.toInt (fl_A fa3_3) (fl_A fa3_2) = FX at ⊢
  have hF0 := hFX.symm.trans (Ff_X0_step.eq_1 a2.toInt a0_2.toInt a1_0.toInt a1_3.toInt a1_4.toInt (fl_A fa1_5) a3_0.toInt a3_1.toInt (fl_A fa3_3) (fl_A fa3_2))
  refine lv_aload_n hx hb dX0_step_0 rfl (lv_at hl 1 rfl) ?_
  refine lv_iload_n hx hb dX0_step_1 rfl (lv_at hl 2 rfl) ?_
  refine zc_cutc (wc := [(a1, .inr (5, [.int a1_0, a1g_1, a1g_2, .int a1_3, .int a1_4, .ref a1_5, a1g_6]))]) hP hD hS hA [1] (by decide +kernel) rfl (fun hPc hDc hFc hCc => ?_)
  have hKc := zp_K hK
  refine va_calli (va_runV (As := [.int a2]) (rest := []) ⟨hx, hb, hml, hown, hts⟩ (f_X5_isGone l dC dI s.heap.size a1 a2 (.int a1_0) a1g_1 a1g_2 (.int a1_4) (.ref a1_5) a1g_6 a1_3 ) (cwV 1 hts gX0_step_X5_isGone rfl rfl rfl zd_X5_isGone ⟨Nat.le_of_ble_eq_true rfl, Nat.le_of_ble_eq_true rfl⟩) ⟨ax_blind (fun _ _ _ _ hq => va_Nw.same rfl rfl (hq)), zr_5 hKc hPc (q0 := 0) rfl, ax_pre hPc hKc hDc (fun _ hW => va_Nw.warmM hW hE0)⟩ rfl rfl hl.1 rfl (lv_room (Nat.le_of_ble_eq_true rfl)) dX0_step_2 ⟨Nat.le_of_ble_eq_true rfl, Nat.le_of_ble_eq_true rfl⟩) hS (fun q _ h => hFc q h) hFc (fun r2 u t H locs ht hvm hw hB hz1 hk1 hS1 => zo hB ht hS1 (fun hP1 hK1 hD1 hS => ?_))
  refine zc_backc (w := [(a0, .inr (0, [a0g_0, a0g_1, .int a0_2, a0g_3, a0g_4, a0g_5, a0g_6, a0g_7, a0g_8, a0g_9, a0g_10, a0g_11, a0g_12, a0g_13, a0g_14])), (a1, .inr (5, [.int a1_0, a1g_1, a1g_2, .int a1_3, .int a1_4, .ref a1_5, a1g_6])), (a1_5, .inl (ka1_5, 9, .inl (fa1_5))), (a3, .inr (6, [.int a3_0, .int a3_1, .ref a3_2, .ref a3_3])), (a3_3, .inl (ka3_3, 3, .inl (fa3_3))), (a3_2, .inl (ka3_2, 3, .inl (fa3_2)))]) hP hD hCc hk1 hFc hP1 hD1 [.inl 0, .inr 0, .inl 2, .inl 3, .inl 4, .inl 5] (by decide +kernel) rfl (fun hP hD => ?_)
  obtain ⟨hw, hfr2⟩ := hw
  have hc2 : Ff_X5_isGone a2.toInt a1_3.toInt = r2.toInt := hfr2.symm
  have hF0 := hF0.trans (fl_lt_eq hc2.symm)
  rcases hw with hw | hw
  · subst hw
    have hF0 := hF0.trans (if_pos (by decide))
    refine lv_if_eq (tgt := 9) hx hb dX0_step_5 (by decide) (fun c5 => absurd c5 (by decide +kernel)) (fun _ => ?_)
    have hFe : FX = (a1_3.toInt, a1_4.toInt, (fl_A fa1_5)) := hF0
    exact W.vret hx hb hr (fun t ht hW => ⟨⟨(), rfl, trivial, a1_3, a1_4, fa1_5, hFe, by rw [ht]; exact hP, va_K.moved hW.alike hK, hD⟩, hS.F ht⟩) hS.2.2 dX0_step_8
  · subst hw
    have hF0 := hF0.trans (if_neg (by decide))
    refine lv_if_eq (tgt := 9) hx hb dX0_step_5 (by decide) (fun _ => ?_) (fun c5 => absurd (by decide +kernel) c5)
    refine lv_aload_n hx hb dX0_step_9 rfl (lv_at hl 0 rfl) ?_
    refine lv_aload_n hx hb dX0_step_10 rfl (lv_at hl 1 rfl) ?_
    refine va_get (D := (dC, dI)) (ci := 5) (v := .ref a1_5) (C := RX5) (T := TX5) (N := 7) hx hb hts zi_X0_step_5 hown hK hP 1 rfl rfl 5 (by decide) (hts (.fieldLink RX0 99 "WaxTurns$Scene" "places" "[I") (zm_X0_step_r1 (List.mem_of_getElem? (i := 0) rfl))) (fun _ h9 => h9) rfl dX0_step_11 ?_
    refine lv_iload_n hx hb dX0_step_14 rfl (lv_at hl 2 rfl) ?_
    refine va_iald hx hb hK hP 2 0 rfl rfl (ai_in ba2_l ba2_u (by decide) (by decide)) dX0_step_15 ?_
    refine lv_topi (fun x15 ex15 => ?_)
    have fqx15 := congrArg Int32.toInt ex15
    have hF0 := hF0.trans (fl_lt_eq (show x15.toInt = (fl_A fa1_5) (a2.toInt.toNat) from fqx15))
    refine va_calli (va_runV (As := [.int x15]) (rest := []) ⟨hx, hb, hml, hown, hts⟩ (f_X0_nearer l dC dI H.size a0 x15 a0g_0 a0g_1 a0g_3 a0g_4 a0g_5 a0g_6 a0g_7 a0g_8 a0g_9 a0g_10 a0g_11 a0g_12 a0g_13 a0g_14 a0_2 ) (cwV 1 hts gX0_step_X0_nearer rfl rfl rfl zd_X0_nearer ⟨Nat.le_of_ble_eq_true rfl, Nat.le_of_ble_eq_true rfl⟩) ⟨ax_blind (fun _ _ _ _ _ => trivial), zr_0 (zp_K hK) (zp_P1 hP) (q0 := 0) rfl, ax_pre (zp_P1 hP) (zp_K hK) (zp_D1 hD) (fun _ _ => trivial)⟩ rfl rfl hl.1 rfl (lv_room (Nat.le_of_ble_eq_true rfl)) dX0_step_16 ⟨Nat.le_of_ble_eq_true rfl, Nat.le_of_ble_eq_true rfl⟩) hS (fun q _ h => zp_F1 hD hS hA q h) (zp_F1 hD hS hA) (fun r16 u t H locs ht hvm hw hB hz1 hk1 hS1 => zo1 hB ht hP hD hk1 (zp_F1 hD hS hA) hS1 (fun hP hK1 hD hS => ?_))
    obtain ⟨hw, hfr16⟩ := hw
    have hc16 : Ff_X0_nearer x15.toInt a0_2.toInt = r16.toInt := hfr16.symm
    have hF0 := hF0.trans (fl_lt_eq hc16.symm)
    refine lv_istore (lv' := [(4, .int r16), (0, .ref a0), (1, .ref a1), (2, .int a2), (3, .ref a3)]) hx hb dX0_step_19 hl (by decide) rfl (fun ls hl => ?_)
    refine lv_aload_n hx hb dX0_step_21 rfl (lv_at hl 4 rfl) ?_
    refine lv_aload_n hx hb dX0_step_22 rfl (lv_at hl 2 rfl) ?_
    refine va_get (D := (dC, dI)) (ci := 5) (v := .int a1_0) (C := RX5) (T := TX5) (N := 7) hx hb hts zi_X0_step_5 hown hK hP 1 rfl rfl 0 (by decide) (hts (.fieldLink RX0 102 "WaxTurns$Scene" "minute" "I") (zm_X0_step_r1 (List.mem_of_getElem? (i := 1) rfl))) (fun _ h9 => h9) rfl dX0_step_23 ?_
    refine zc_cutc (wc := [(a3, .inr (6, [.int a3_0, .int a3_1, .ref a3_2, .ref a3_3])), (a3_3, .inl (ka3_3, 3, .inl (fa3_3))), (a3_2, .inl (ka3_2, 3, .inl (fa3_2)))]) hP hD hS hA [3, 4, 5] (by decide +kernel) rfl (fun hPc hDc hFc hCc => ?_)
    have hKc := hK.sub (tys' := [(ka3_3, .int), (ka3_2, .int)]) [1, 2] rfl
    refine va_calli (va_runV (As := [.int a1_0]) (rest := []) ⟨hx, hb, hml, hown, hts⟩ (f_X6_placesIn l dC dI H.size a3 a1_0 a3_0 a3_1 a3_2 a3_3 ka3_3 fa3_3 ka3_2 fa3_2 ba3_0_l ba3_0_u bfa3_3 bfa3_2) (cwV 1 hts gX0_step_X6_placesIn rfl rfl rfl zd_X6_placesIn ⟨Nat.le_of_ble_eq_true rfl, Nat.le_of_ble_eq_true rfl⟩) ⟨ax_blind (fun _ _ _ _ _ => trivial), zr_6 hKc hPc (q0 := 0) rfl, ax_pre hPc hKc hDc (fun _ _ => trivial)⟩ rfl rfl hl.1 rfl (lv_room (Nat.le_of_ble_eq_true rfl)) dX0_step_26 ⟨Nat.le_of_ble_eq_true rfl, Nat.le_of_ble_eq_true rfl⟩) hS (fun q _ h => hFc q h) hFc (fun r26 u t H locs ht hvm hw hB hz1 hk1 hS1 => zo hB ht hS1 (fun hP1 hK1 hD1 hS => ?_))
    refine zc_backc (w := [(a0, .inr (0, [a0g_0, a0g_1, .int a0_2, a0g_3, a0g_4, a0g_5, a0g_6, a0g_7, a0g_8, a0g_9, a0g_10, a0g_11, a0g_12, a0g_13, a0g_14])), (a1, .inr (5, [.int a1_0, a1g_1, a1g_2, .int a1_3, .int a1_4, .ref a1_5, a1g_6])), (a1_5, .inl (ka1_5, 9, .inl (fa1_5))), (a3, .inr (6, [.int a3_0, .int a3_1, .ref a3_2, .ref a3_3])), (a3_3, .inl (ka3_3, 3, .inl (fa3_3))), (a3_2, .inl (ka3_2, 3, .inl (fa3_2)))]) hP hD hCc hk1 hFc hP1 hD1 [.inl 0, .inl 1, .inl 2, .inr 0, .inr 1, .inr 2] (by decide +kernel) rfl (fun hP hD => ?_)
    obtain ⟨hw, hfr26⟩ := hw
    have hc26 : Ff_X6_placesIn a1_0.toInt a3_0.toInt a3_1.toInt (fl_A fa3_3) (fl_A fa3_2) = r26.toInt := hfr26.symm
    have hF0 := hF0.trans (fl_lt_eq hc26.symm)
    refine lv_iload hx hb dX0_step_29 (lv_at hl 0 rfl) ?_
    refine va_calli (va_runSN (As := [.int r26, .int r16]) (rest := []) ⟨hx, hb, hml, hown, hts⟩ (f_X7_hasBit l dC dI H.size r26 r16 ) ⟨va_cnB 2 hts gX0_step_X7_hasBit_n129 rfl rfl rfl hE1 (hts (.initialized RX7) (zm_X0_step_r1 (List.mem_of_getElem? (i := 12) rfl))) zd_X7_hasBit.2 ⟨Nat.le_of_ble_eq_true rfl, Nat.le_of_ble_eq_true rfl⟩, (hts (.static yX7_hasBit) (zm_X0_step_r1 (List.mem_of_getElem? (i := 11) rfl))), trivial⟩ ⟨ax_blind (fun _ _ _ _ _ => trivial), ax_pre (zp_P0 hP) (zp_K hK) (zp_D0 hD) (fun _ _ => trivial)⟩ rfl rfl hl.1 rfl (lv_room (Nat.le_of_ble_eq_true rfl)) dX0_step_31 ⟨Nat.le_of_ble_eq_true rfl, Nat.le_of_ble_eq_true rfl⟩) hS (fun q _ h => zp_F0 hD hS hA q h) (zp_F0 hD hS hA) (fun r31 u t H locs ht hvm hw hB hz1 hk1 hS1 => zo0 hB ht hP hD hk1 (zp_F0 hD hS hA) hS1 (fun hP hK1 hD hS => ?_))
    obtain ⟨hw, hfr31⟩ := hw
    have hc31 : Ff_X7_hasBit r26.toInt r16.toInt = r31.toInt := hfr31.symm
    have hF0 := hF0.trans (fl_lt_eq hc31.symm)
    rcases hw with hw | hw
    · subst hw
      have hF0 := hF0.trans (if_pos (by decide))
      refine lv_if_eq (tgt := 53) hx hb dX0_step_34 (by decide) (fun c34 => absurd c34 (by decide +kernel)) (fun _ => ?_)
      refine lv_aload_n hx hb dX0_step_37 rfl (lv_at hl 2 rfl) ?_
      refine lv_dup hx hb dX0_step_38 rfl ?_
      refine va_get (D := (dC, dI)) (ci := 5) (v := .int a1_4) (C := RX5) (T := TX5) (N := 7) hx hb hts zi_X0_step_5 hown hK hP 1 rfl rfl 4 (by decide) (hts (.fieldLink RX0 132 "WaxTurns$Scene" "catchCount" "I") (zm_X0_step_r1 (List.mem_of_getElem? (i := 2) rfl))) (fun _ h9 => h9) rfl dX0_step_39 ?_
      refine lv_iconst (v := 1) hx hb dX0_step_42 zk_iconst_1 ?_
      refine lv_iadd hx hb dX0_step_43 ?_
      refine lv_topi (fun x43 ex43 => ?_)
      have fqx43 := fl_iadd_eq ex43
      have hF0 := hF0.trans (fl_lt_eq (show x43.toInt = fl_iadd a1_4.toInt 1 from fqx43))
      refine va_put (D := (dC, dI)) (ci := 5) (v := .int x43) (ty := .int) (C := RX5) (T := TX5) (N := 7) hx hb hts zi_X0_step_5 tyX5 tyX5_ok nmX5 hown hK hP hD hS 1 rfl rfl 4 (by decide) (hts (.fieldLink RX0 132 "WaxTurns$Scene" "catchCount" "I") (zm_X0_step_r1 (List.mem_of_getElem? (i := 2) rfl))) (fun _ h9 => h9) rfl (tyX5_ok 4 (by decide)) rfl rfl (Nat.le_of_ble_eq_true rfl) dX0_step_44 (fun H locs hP hD hS => ?_)
      refine zs_1 (y := (a1, .inr (5, [.int a1_0, a1g_1, a1g_2, .int a1_3, .int x43, .ref a1_5, a1g_6]))) hP hD rfl (fun hP hD => ?_)
      refine lv_iload_n hx hb dX0_step_47 rfl (lv_at hl 3 rfl) ?_
      refine lv_istore (lv' := [(4, .int a2), (0, .ref a0), (1, .ref a1), (2, .int a2), (3, .ref a3)]) hx hb dX0_step_48 hl (by decide) rfl (fun ls hl => ?_)
      refine lv_goto (tgt := 74) hx hb dX0_step_50 (by decide) ?_
      refine lv_aload_n hx hb dX0_step_74 rfl (lv_at hl 2 rfl) ?_
      refine va_get (D := (dC, dI)) (ci := 5) (v := .ref a1_5) (C := RX5) (T := TX5) (N := 7) hx hb hts zi_X0_step_5 hown hK hP 1 rfl rfl 5 (by decide) (hts (.fieldLink RX0 99 "WaxTurns$Scene" "places" "[I") (zm_X0_step_r1 (List.mem_of_getElem? (i := 0) rfl))) (fun _ h9 => h9) rfl dX0_step_75 ?_
      refine lv_iload_n hx hb dX0_step_78 rfl (lv_at hl 3 rfl) ?_
      refine lv_iload hx hb dX0_step_79 (lv_at hl 0 rfl) ?_
      refine va_iast hx hb hK hP hD hS 2 0 rfl rfl (ai_in ba2_l ba2_u (by decide) (by decide)) dX0_step_81 (fun H locs hP hD hS => ?_)
      obtain ⟨f81, ef81⟩ : ∃ g9 : Nat → Int32, g9 = upd fa1_5 (a2 : Int32).toNatClampNeg a2 := ⟨_, rfl⟩
      refine zs_2 (y := (a1_5, .inl (ka1_5, 9, .inl (f81)))) hP hD (by rw [ef81]) (fun hP hD => ?_)
      have fqf81 := fl_up_eq ef81
      have hF0 := hF0.trans (fl_lt_eq (show (fl_A f81) = fl_up (fl_A fa1_5) (a2.toInt.toNat) a2.toInt from fqf81))
      have hFe : FX = (a1_3.toInt, x43.toInt, (fl_A f81)) := hF0
      exact W.vret hx hb hr (fun t ht hW => ⟨⟨(), rfl, trivial, a1_3, x43, f81, hFe, by rw [ht]; exact hP, va_K.moved hW.alike hK, hD⟩, hS.F ht⟩) hS.2.2 dX0_step_82
    · subst hw
      have hF0 := hF0.trans (if_neg (by decide))
      refine lv_if_eq (tgt := 53) hx hb dX0_step_34 (by decide) (fun _ => ?_) (fun c34 => absurd (by decide +kernel) c34)
      refine lv_iload hx hb dX0_step_53 (lv_at hl 0 rfl) ?_
      refine lv_aload_n hx hb dX0_step_55 rfl (lv_at hl 1 rfl) ?_
      refine va_get (D := (dC, dI)) (ci := 0) (v := .int a0_2) (C := RX0) (T := TX0) (N := 15) hx hb hts zi_X0_step_0 hown hK hP 0 rfl rfl 2 (by decide) (hts (.fieldLink RX0 51 "WaxTurns$Hall" "stairsPlace" "I") (zm_X0_step_r1 (List.mem_of_getElem? (i := 3) rfl))) (fun _ h9 => h9) rfl dX0_step_56 ?_
      refine lv_icmp_ne (tgt := 74) hx hb dX0_step_59 (by decide) (fun c59 => ?_) (fun c59 => ?_)
      · have gc59 := ai_ne c59
        have hF0 := hF0.trans (if_neg (show ¬ (r16.toInt = a0_2.toInt) from  gc59))
        refine lv_aload_n hx hb dX0_step_74 rfl (lv_at hl 2 rfl) ?_
        refine va_get (D := (dC, dI)) (ci := 5) (v := .ref a1_5) (C := RX5) (T := TX5) (N := 7) hx hb hts zi_X0_step_5 hown hK hP 1 rfl rfl 5 (by decide) (hts (.fieldLink RX0 99 "WaxTurns$Scene" "places" "[I") (zm_X0_step_r1 (List.mem_of_getElem? (i := 0) rfl))) (fun _ h9 => h9) rfl dX0_step_75 ?_
        refine lv_iload_n hx hb dX0_step_78 rfl (lv_at hl 3 rfl) ?_
        refine lv_iload hx hb dX0_step_79 (lv_at hl 0 rfl) ?_
        refine va_iast hx hb hK hP hD hS 2 0 rfl rfl (ai_in ba2_l ba2_u (by decide) (by decide)) dX0_step_81 (fun H locs hP hD hS => ?_)
        obtain ⟨f81, ef81⟩ : ∃ g9 : Nat → Int32, g9 = upd fa1_5 (a2 : Int32).toNatClampNeg r16 := ⟨_, rfl⟩
        refine zs_2 (y := (a1_5, .inl (ka1_5, 9, .inl (f81)))) hP hD (by rw [ef81]) (fun hP hD => ?_)
        have fqf81 := fl_up_eq ef81
        have hF0 := hF0.trans (fl_lt_eq (show (fl_A f81) = fl_up (fl_A fa1_5) (a2.toInt.toNat) r16.toInt from fqf81))
        have hFe : FX = (a1_3.toInt, a1_4.toInt, (fl_A f81)) := hF0
        exact W.vret hx hb hr (fun t ht hW => ⟨⟨(), rfl, trivial, a1_3, a1_4, f81, hFe, by rw [ht]; exact hP, va_K.moved hW.alike hK, hD⟩, hS.F ht⟩) hS.2.2 dX0_step_82
      · have gc59 := ai_eq c59
        have hF0 := hF0.trans (if_pos (show r16.toInt = a0_2.toInt from gc59))
        refine lv_aload_n hx hb dX0_step_62 rfl (lv_at hl 2 rfl) ?_
        refine lv_dup hx hb dX0_step_63 rfl ?_
        refine va_get (D := (dC, dI)) (ci := 5) (v := .int a1_3) (C := RX5) (T := TX5) (N := 7) hx hb hts zi_X0_step_5 hown hK hP 1 rfl rfl 3 (by decide) (hts (.fieldLink RX0 135 "WaxTurns$Scene" "goneBits" "I") (zm_X0_step_r1 (List.mem_of_getElem? (i := 4) rfl))) (fun _ h9 => h9) rfl dX0_step_64 ?_
        refine lv_iconst (v := 1) hx hb dX0_step_67 zk_iconst_1 ?_
        refine lv_iload_n hx hb dX0_step_68 rfl (lv_at hl 3 rfl) ?_
        refine lv_ishl hx hb dX0_step_69 ?_
        refine lv_topi (fun x69 ex69 => ?_)
        have bx69 : (1 : Int) ≤ x69.toInt ∧ x69.toInt ≤ 512 := sh_1 ex69 ba2_l (Int.le_trans ba2_u zq22)
        have fqx69 := fl_shl_eq ex69
        have hF0 := hF0.trans (fl_lt_eq (show x69.toInt = fl_shl 1 a2.toInt from fqx69))
        refine lv_ior hx hb dX0_step_70 ?_
        refine lv_topi (fun x70 ex70 => ?_)
        have fqx70 := fl_or_eq ex70
        have hF0 := hF0.trans (fl_lt_eq (show x70.toInt = fl_or a1_3.toInt x69.toInt from fqx70))
        refine va_put (D := (dC, dI)) (ci := 5) (v := .int x70) (ty := .int) (C := RX5) (T := TX5) (N := 7) hx hb hts zi_X0_step_5 tyX5 tyX5_ok nmX5 hown hK hP hD hS 1 rfl rfl 3 (by decide) (hts (.fieldLink RX0 135 "WaxTurns$Scene" "goneBits" "I") (zm_X0_step_r1 (List.mem_of_getElem? (i := 4) rfl))) (fun _ h9 => h9) rfl (tyX5_ok 3 (by decide)) rfl rfl (Nat.le_of_ble_eq_true rfl) dX0_step_71 (fun H locs hP hD hS => ?_)
        refine zs_1 (y := (a1, .inr (5, [.int a1_0, a1g_1, a1g_2, .int x70, .int a1_4, .ref a1_5, a1g_6]))) hP hD rfl (fun hP hD => ?_)
        refine lv_aload_n hx hb dX0_step_74 rfl (lv_at hl 2 rfl) ?_
        refine va_get (D := (dC, dI)) (ci := 5) (v := .ref a1_5) (C := RX5) (T := TX5) (N := 7) hx hb hts zi_X0_step_5 hown hK hP 1 rfl rfl 5 (by decide) (hts (.fieldLink RX0 99 "WaxTurns$Scene" "places" "[I") (zm_X0_step_r1 (List.mem_of_getElem? (i := 0) rfl))) (fun _ h9 => h9) rfl dX0_step_75 ?_
        refine lv_iload_n hx hb dX0_step_78 rfl (lv_at hl 3 rfl) ?_
        refine lv_iload hx hb dX0_step_79 (lv_at hl 0 rfl) ?_
        refine va_iast hx hb hK hP hD hS 2 0 rfl rfl (ai_in ba2_l ba2_u (by decide) (by decide)) dX0_step_81 (fun H locs hP hD hS => ?_)
        obtain ⟨f81, ef81⟩ : ∃ g9 : Nat → Int32, g9 = upd fa1_5 (a2 : Int32).toNatClampNeg r16 := ⟨_, rfl⟩
        refine zs_2 (y := (a1_5, .inl (ka1_5, 9, .inl (f81)))) hP hD (by rw [ef81]) (fun hP hD => ?_)
        have fqf81 := fl_up_eq ef81
        have hF0 := hF0.trans (fl_lt_eq (show (fl_A f81) = fl_up (fl_A fa1_5) (a2.toInt.toNat) r16.toInt from fqf81))
        have hFe : FX = (x70.toInt, a1_4.toInt, (fl_A f81)) := hF0
        exact W.vret hx hb hr (fun t ht hW => ⟨⟨(), rfl, trivial, x70, a1_4, f81, hFe, by rw [ht]; exact hP, va_K.moved hW.alike hK, hD⟩, hS.F ht⟩) hS.2.2 dX0_step_82
end P314_00_f
section P314_01_f
set_option maxHeartbeats 4000000 in
set_option maxRecDepth 100000 in
theorem f_X0_pass (l : Launch) (dC : Nat → ClassId) (dI : Nat → Nat → Nat) (sz : Nat) (a0 : Nat) (a1 : Nat) (a2 : Nat) (a0_0 : Int32) (a0_1 : Int32) (a0_2 : Int32) (a0g_3 a0g_4 a0g_7 a0g_8 a0g_9 a0g_12 a0g_13 a0g_14 : Value) (a0_5 : Int32) (a0_6 : Int32) (a0_10 : Nat) (a0_11 : Nat) (a1_0 : Int32) (a1_1 : Int32) (a1_2 : Int32) (a1_3 : Int32) (a1_4 : Int32) (a1_5 : Nat) (a1_6 : Nat) (ka0_10 : ClassId) (fa0_10 : Nat → Int32) (ka0_11 : ClassId) (fa0_11 : Nat → Int32) (ka1_5 : ClassId) (fa1_5 : Nat → Int32) (a2_0 : Int32) (a2_1 : Int32) (a2_2 : Nat) (a2_3 : Nat) (ka2_3 : ClassId) (fa2_3 : Nat → Int32) (ka2_2 : ClassId) (fa2_2 : Nat → Int32) (ka1_6 : ClassId) (fa1_6 : Nat → Int32) (ba0_0_l : (0 : Int) ≤ a0_0.toInt) (ba0_0_u : a0_0.toInt ≤ (9 : Int)) (ba0_5_l : (0 : Int) ≤ a0_5.toInt) (ba0_5_u : a0_5.toInt ≤ (8 : Int)) (ba0_6_l : (0 : Int) ≤ a0_6.toInt) (ba0_6_u : a0_6.toInt ≤ (8 : Int)) (ba1_1_l : (0 : Int) ≤ a1_1.toInt) (ba1_1_u : a1_1.toInt ≤ (8 : Int)) (ba2_0_l : (0 : Int) ≤ a2_0.toInt) (ba2_0_u : a2_0.toInt ≤ (3 : Int)) (bfa2_3 : (∀ k, (0 : Int) ≤ (fa2_3 k).toInt ∧ (fa2_3 k).toInt ≤ 80)) (bfa2_2 : (∀ k, (0 : Int) ≤ (fa2_2 k).toInt ∧ (fa2_2 k).toInt ≤ 80)) : zm l yX0_pass wsX0_pass ({ frames := 3, cells := 0, slots := 0, locals := 73 }) [.ref a0, .ref a1, .ref a2] dC dI sz [(a0, .inr (0, [.int a0_0, .int a0_1, .int a0_2, a0g_3, a0g_4, .int a0_5, .int a0_6, a0g_7, a0g_8, a0g_9, .ref a0_10, .ref a0_11, a0g_12, a0g_13, a0g_14])), (a1, .inr (5, [.int a1_0, .int a1_1, .int a1_2, .int a1_3, .int a1_4, .ref a1_5, .ref a1_6])), (a0_10, .inl (ka0_10, 9, .inl (fa0_10))), (a0_11, .inl (ka0_11, 9, .inl (fa0_11))), (a1_5, .inl (ka1_5, 9, .inl (fa1_5))), (a2, .inr (6, [.int a2_0, .int a2_1, .ref a2_2, .ref a2_3])), (a2_3, .inl (ka2_3, 3, .inl (fa2_3))), (a2_2, .inl (ka2_2, 3, .inl (fa2_2))), (a1_6, .inl (ka1_6, 9, .inl (fa1_6)))] [(ka0_10, .int), (ka0_11, .int), (ka1_5, .int), (ka2_3, .int), (ka2_2, .int), (ka1_6, .int)] (fun A U => va_Nw (.methodLinkNest RX0 118 yX7_within RX7) U ∧ va_Nw (.methodLinkNest RX5 38 yX7_hasBit RX7) U ∧ va_Nw (.methodLinkNest RX0 129 yX7_hasBit RX7) U) (fun A => va_Qv (fun (_ : Unit) => True) (fun (_ : Unit) (t : State) => ∃ na1_0 : Int32, ∃ na1_1 : Int32, ∃ na1_2 : Int32, ∃ na1_3 : Int32, ∃ na1_4 : Int32, ∃ nfa1_5 : Nat → Int32, ∃ nfa1_6 : Nat → Int32, ((0 : Int) ≤ na1_1.toInt ∧ na1_1.toInt ≤ 8) ∧ (Ff_X0_pass a0_0.toInt a0_1.toInt a0_2.toInt a0_5.toInt a0_6.toInt a1_0.toInt a1_1.toInt a1_2.toInt a1_3.toInt a1_4.toInt (fl_A fa0_10) (fl_A fa0_11) (fl_A fa1_5) a2_0.toInt a2_1.toInt (fl_A fa2_3) (fl_A fa2_2) (fl_A fa1_6) = (na1_0.toInt, na1_1.toInt, na1_2.toInt, na1_3.toInt, na1_4.toInt, (fl_A nfa1_5), (fl_A nfa1_6))) ∧ ax_B dC dI A [(a0, .inr (0, [.int a0_0, .int a0_1, .int a0_2, a0g_3, a0g_4, .int a0_5, .int a0_6, a0g_7, a0g_8, a0g_9, .ref a0_10, .ref a0_11, a0g_12, a0g_13, a0g_14])), (a1, .inr (5, [.int na1_0, .int na1_1, .int na1_2, .int na1_3, .int na1_4, .ref a1_5, .ref a1_6])), (a0_10, .inl (ka0_10, 9, .inl (fa0_10))), (a0_11, .inl (ka0_11, 9, .inl (fa0_11))), (a1_5, .inl (ka1_5, 9, .inl (nfa1_5))), (a2, .inr (6, [.int a2_0, .int a2_1, .ref a2_2, .ref a2_3])), (a2_3, .inl (ka2_3, 3, .inl (fa2_3))), (a2_2, .inl (ka2_2, 3, .inl (fa2_2))), (a1_6, .inl (ka1_6, 9, .inl (nfa1_6)))] [(ka0_10, .int), (ka0_11, .int), (ka1_5, .int), (ka2_3, .int), (ka2_2, .int), (ka1_6, .int)] t) A) := by
  refine zh (cc := cX0_pass) (maxL := 6) (ret := none) zn_RX0 rfl (Nat.le_of_ble_eq_true rfl) (fun p e s m below meth c A ls hx hb hml hr hts (hown : s.vm.findClass RX0 = some m.cls) hlocks hA hS hP hK hD hE (hl : lv_has ls 6 [(0, .ref a0), (1, .ref a1), (2, .ref a2)]) => ?_)
  obtain ⟨hE0, hE1, hE2⟩ := hE
  generalize hFX : Ff_X0_pass a0_0.toInt a0_1.toInt a0_2.toInt a0_5.toInt a0_6.toInt a1_0.toInt a1_1.toInt a1_2.toInt a1_3.toInt a1_4.toInt (fl_A fa0_10) (fl_A fa0_11) (fl_A fa1_5) a2_0.toInt a2_1.toInt (fl_A fa2_3) (fl_A fa2_2) (fl_A fa1_6) = FX at ⊢
  have hF0 := hFX.symm.trans (Ff_X0_pass.eq_1 a0_0.toInt a0_1.toInt a0_2.toInt a0_5.toInt a0_6.toInt a1_0.toInt a1_1.toInt a1_2.toInt a1_3.toInt a1_4.toInt (fl_A fa0_10) (fl_A fa0_11) (fl_A fa1_5) a2_0.toInt a2_1.toInt (fl_A fa2_3) (fl_A fa2_2) (fl_A fa1_6))
  refine lv_aload_n hx hb dX0_pass_0 rfl (lv_at hl 1 rfl) ?_
  refine va_get (D := (dC, dI)) (ci := 5) (v := .int a1_1) (C := RX5) (T := TX5) (N := 7) hx hb hts zi_X0_pass_5 hown hK hP 1 rfl rfl 1 (by decide) (hts (.fieldLink RX0 79 "WaxTurns$Scene" "turn" "I") (zm_X0_pass_r1 (List.mem_of_getElem? (i := 0) rfl))) (fun _ h9 => h9) rfl dX0_pass_1 ?_
  refine lv_istore_n (lv' := [(3, .int a1_1), (0, .ref a0), (1, .ref a1), (2, .ref a2)]) hx hb dX0_pass_4 rfl hl (by decide) rfl (fun ls hl => ?_)
  refine lv_aload_n hx hb dX0_pass_5 rfl (lv_at hl 2 rfl) ?_
  refine va_get (D := (dC, dI)) (ci := 5) (v := .int a1_2) (C := RX5) (T := TX5) (N := 7) hx hb hts zi_X0_pass_5 hown hK hP 1 rfl rfl 2 (by decide) (hts (.fieldLink RX0 84 "WaxTurns$Scene" "spent" "I") (zm_X0_pass_r1 (List.mem_of_getElem? (i := 1) rfl))) (fun _ h9 => h9) rfl dX0_pass_6 ?_
  refine lv_iconst (v := 1) hx hb dX0_pass_9 zk_iconst_1 ?_
  refine lv_iadd hx hb dX0_pass_10 ?_
  refine lv_topi (fun x10 ex10 => ?_)
  have fqx10 := fl_iadd_eq ex10
  have hF0 := hF0.trans (fl_lt_eq (show x10.toInt = fl_iadd a1_2.toInt 1 from fqx10))
  refine lv_istore (lv' := [(4, .int x10), (3, .int a1_1), (0, .ref a0), (1, .ref a1), (2, .ref a2)]) hx hb dX0_pass_11 hl (by decide) rfl (fun ls hl => ?_)
  refine lv_aload_n hx hb dX0_pass_13 rfl (lv_at hl 2 rfl) ?_
  refine lv_iload_n hx hb dX0_pass_14 rfl (lv_at hl 1 rfl) ?_
  refine lv_iload hx hb dX0_pass_15 (lv_at hl 0 rfl) ?_
  refine zc_cutc (wc := [(a0, .inr (0, [.int a0_0, .int a0_1, .int a0_2, a0g_3, a0g_4, .int a0_5, .int a0_6, a0g_7, a0g_8, a0g_9, .ref a0_10, .ref a0_11, a0g_12, a0g_13, a0g_14])), (a0_10, .inl (ka0_10, 9, .inl (fa0_10))), (a0_11, .inl (ka0_11, 9, .inl (fa0_11)))]) hP hD hS hA [0, 2, 3] (by decide +kernel) rfl (fun hPc hDc hFc hCc => ?_)
  have hKc := hK.sub (tys' := [(ka0_10, .int), (ka0_11, .int)]) [0, 1] rfl
  refine va_calli (va_runV (As := [.int a1_1, .int x10]) (rest := []) ⟨hx, hb, hml, hown, hts⟩ (f_X0_stepsIn l dC dI s.heap.size a0 a1_1 x10 (.int a0_0) (.int a0_1) (.int a0_2) a0g_3 a0g_4 (.int a0_5) (.int a0_6) a0g_7 a0g_8 a0g_9 a0g_12 a0g_13 a0g_14 a0_10 a0_11 ka0_10 fa0_10 ka0_11 fa0_11 ) (cwV 2 hts gX0_pass_X0_stepsIn rfl rfl rfl zd_X0_stepsIn ⟨Nat.le_of_ble_eq_true rfl, Nat.le_of_ble_eq_true rfl⟩) ⟨ax_blind (fun _ _ _ _ hq => va_Nw.same rfl rfl (hq)), zr_0 hKc hPc (q0 := 0) rfl, ax_pre hPc hKc hDc (fun _ hW => va_Nw.warmM hW hE0)⟩ rfl rfl hl.1 rfl (lv_room (Nat.le_of_ble_eq_true rfl)) dX0_pass_17 ⟨Nat.le_of_ble_eq_true rfl, Nat.le_of_ble_eq_true rfl⟩) hS (fun q _ h => hFc q h) hFc (fun r17 u t H locs ht hvm hw hB hz1 hk1 hS1 => zo hB ht hS1 (fun hP1 hK1 hD1 hS => ?_))
  refine zc_backc (w := [(a0, .inr (0, [.int a0_0, .int a0_1, .int a0_2, a0g_3, a0g_4, .int a0_5, .int a0_6, a0g_7, a0g_8, a0g_9, .ref a0_10, .ref a0_11, a0g_12, a0g_13, a0g_14])), (a1, .inr (5, [.int a1_0, .int a1_1, .int a1_2, .int a1_3, .int a1_4, .ref a1_5, .ref a1_6])), (a0_10, .inl (ka0_10, 9, .inl (fa0_10))), (a0_11, .inl (ka0_11, 9, .inl (fa0_11))), (a1_5, .inl (ka1_5, 9, .inl (fa1_5))), (a2, .inr (6, [.int a2_0, .int a2_1, .ref a2_2, .ref a2_3])), (a2_3, .inl (ka2_3, 3, .inl (fa2_3))), (a2_2, .inl (ka2_2, 3, .inl (fa2_2))), (a1_6, .inl (ka1_6, 9, .inl (fa1_6)))]) hP hD hCc hk1 hFc hP1 hD1 [.inr 0, .inl 1, .inr 1, .inr 2, .inl 4, .inl 5, .inl 6, .inl 7, .inl 8] (by decide +kernel) rfl (fun hP hD => ?_)
  obtain ⟨hw, hfr17⟩ := hw
  have hc17 : Ff_X0_stepsIn a1_1.toInt x10.toInt (fl_A fa0_10) (fl_A fa0_11) = r17.toInt := hfr17.symm
  have hF0 := hF0.trans (fl_lt_eq hc17.symm)
  rcases hw with hw | hw
  · obtain ⟨hw, h17_0, h17_1⟩ := hw
    subst hw
    have l17k0_a1_1 : (0 : Int) ≤ a1_1.toInt := ba1_1_l
    have u17k0_a1_1 : a1_1.toInt ≤ (8 : Int) := ba1_1_u
    have hF0 := hF0.trans (if_pos (by decide))
    refine lv_if_eq (tgt := 30) hx hb dX0_pass_20 (by decide) (fun c20 => absurd c20 (by decide +kernel)) (fun _ => ?_)
    refine lv_aload_n hx hb dX0_pass_23 rfl (lv_at hl 2 rfl) ?_
    refine lv_aload_n hx hb dX0_pass_24 rfl (lv_at hl 3 rfl) ?_
    refine lv_iload_n hx hb dX0_pass_25 rfl (lv_at hl 1 rfl) ?_
    refine lv_aload_n hx hb dX0_pass_26 rfl (lv_at hl 4 rfl) ?_
    refine zc_cutc (wc := [(a0, .inr (0, [.int a0_0, .int a0_1, .int a0_2, a0g_3, a0g_4, .int a0_5, .int a0_6, a0g_7, a0g_8, a0g_9, .ref a0_10, .ref a0_11, a0g_12, a0g_13, a0g_14])), (a1, .inr (5, [.int a1_0, .int a1_1, .int a1_2, .int a1_3, .int a1_4, .ref a1_5, .ref a1_6])), (a1_5, .inl (ka1_5, 9, .inl (fa1_5))), (a2, .inr (6, [.int a2_0, .int a2_1, .ref a2_2, .ref a2_3])), (a2_3, .inl (ka2_3, 3, .inl (fa2_3))), (a2_2, .inl (ka2_2, 3, .inl (fa2_2)))]) hP hD hS hA [0, 1, 4, 5, 6, 7] (by decide +kernel) rfl (fun hPc hDc hFc hCc => ?_)
    have hKc := hK.sub (tys' := [(ka1_5, .int), (ka2_3, .int), (ka2_2, .int)]) [2, 3, 4] rfl
    refine va_callv (va_runV (As := [.ref a1, .int a1_1, .ref a2]) (rest := []) ⟨hx, hb, hml, hown, hts⟩ (f_X0_step l dC dI H.size a0 a1 a1_1 a2 (.int a0_0) (.int a0_1) a0g_3 a0g_4 (.int a0_5) (.int a0_6) a0g_7 a0g_8 a0g_9 (.ref a0_10) (.ref a0_11) a0g_12 a0g_13 a0g_14 a0_2 a1_0 (.int a1_1) (.int a1_2) (.ref a1_6) a1_3 a1_4 a1_5 ka1_5 fa1_5 a2_0 a2_1 a2_2 a2_3 ka2_3 fa2_3 ka2_2 fa2_2 l17k0_a1_1 u17k0_a1_1 ba2_0_l ba2_0_u bfa2_3 bfa2_2) (cwV 3 hts gX0_pass_X0_step rfl rfl rfl zd_X0_step ⟨Nat.le_of_ble_eq_true rfl, Nat.le_of_ble_eq_true rfl⟩) ⟨ax_blind (fun _ _ _ _ hq => ⟨va_Nw.same rfl rfl (hq.1), va_Nw.same rfl rfl (hq.2)⟩), zr_0 hKc hPc (q0 := 0) rfl, ax_pre hPc hKc hDc (fun _ hW => ⟨va_Nw.warmM hW hE1, va_Nw.warmM hW hE2⟩)⟩ rfl rfl hl.1 rfl (lv_room (Nat.le_of_ble_eq_true rfl)) dX0_pass_27 ⟨Nat.le_of_ble_eq_true rfl, Nat.le_of_ble_eq_true rfl⟩) hS (fun q _ h => hFc q h) hFc (fun u t H locs ht hvm hw => zx_3 (fun v27na1_3 v27na1_4 v27nfa1_5 => zy_1 (fun hraw27_0 hB hz1 hk1 hS1 => zo hB ht hS1 (fun hP1 hK1 hD1 hS => ?_))))
    refine zc_backc (w := [(a0, .inr (0, [.int a0_0, .int a0_1, .int a0_2, a0g_3, a0g_4, .int a0_5, .int a0_6, a0g_7, a0g_8, a0g_9, .ref a0_10, .ref a0_11, a0g_12, a0g_13, a0g_14])), (a1, .inr (5, [.int a1_0, .int a1_1, .int a1_2, .int v27na1_3, .int v27na1_4, .ref a1_5, .ref a1_6])), (a0_10, .inl (ka0_10, 9, .inl (fa0_10))), (a0_11, .inl (ka0_11, 9, .inl (fa0_11))), (a1_5, .inl (ka1_5, 9, .inl (v27nfa1_5))), (a2, .inr (6, [.int a2_0, .int a2_1, .ref a2_2, .ref a2_3])), (a2_3, .inl (ka2_3, 3, .inl (fa2_3))), (a2_2, .inl (ka2_2, 3, .inl (fa2_2))), (a1_6, .inl (ka1_6, 9, .inl (fa1_6)))]) hP hD hCc hk1 hFc hP1 hD1 [.inr 0, .inr 1, .inl 2, .inl 3, .inr 2, .inr 3, .inr 4, .inr 5, .inl 8] (by decide +kernel) rfl (fun hP hD => ?_)
    have hc27 : Ff_X0_step a1_1.toInt a0_2.toInt a1_0.toInt a1_3.toInt a1_4.toInt (fl_A fa1_5) a2_0.toInt a2_1.toInt (fl_A fa2_3) (fl_A fa2_2) = (v27na1_3.toInt, v27na1_4.toInt, (fl_A v27nfa1_5)) := hraw27_0
    have hF0 := hF0.trans (fl_c3_eq hc27)
    refine lv_aload_n hx hb dX0_pass_30 rfl (lv_at hl 2 rfl) ?_
    refine lv_iload_n hx hb dX0_pass_31 rfl (lv_at hl 1 rfl) ?_
    refine lv_iload hx hb dX0_pass_32 (lv_at hl 0 rfl) ?_
    refine zc_cutc (wc := [(a0, .inr (0, [.int a0_0, .int a0_1, .int a0_2, a0g_3, a0g_4, .int a0_5, .int a0_6, a0g_7, a0g_8, a0g_9, .ref a0_10, .ref a0_11, a0g_12, a0g_13, a0g_14])), (a0_10, .inl (ka0_10, 9, .inl (fa0_10))), (a0_11, .inl (ka0_11, 9, .inl (fa0_11)))]) hP hD hS hA [0, 2, 3] (by decide +kernel) rfl (fun hPc hDc hFc hCc => ?_)
    have hKc := hK.sub (tys' := [(ka0_10, .int), (ka0_11, .int)]) [0, 1] rfl
    refine va_calli (va_runV (As := [.int a1_1, .int x10]) (rest := []) ⟨hx, hb, hml, hown, hts⟩ (f_X0_partSaid l dC dI H.size a0 a1_1 x10 (.int a0_0) (.int a0_1) (.int a0_2) a0g_3 a0g_4 (.int a0_5) (.int a0_6) a0g_7 a0g_8 a0g_9 a0g_12 a0g_13 a0g_14 a0_10 a0_11 ka0_10 fa0_10 ka0_11 fa0_11 ) (cwV 2 hts gX0_pass_X0_partSaid rfl rfl rfl zd_X0_partSaid ⟨Nat.le_of_ble_eq_true rfl, Nat.le_of_ble_eq_true rfl⟩) ⟨ax_blind (fun _ _ _ _ hq => va_Nw.same rfl rfl (hq)), zr_0 hKc hPc (q0 := 0) rfl, ax_pre hPc hKc hDc (fun _ hW => va_Nw.warmM hW hE0)⟩ rfl rfl hl.1 rfl (lv_room (Nat.le_of_ble_eq_true rfl)) dX0_pass_34 ⟨Nat.le_of_ble_eq_true rfl, Nat.le_of_ble_eq_true rfl⟩) hS (fun q _ h => hFc q h) hFc (fun r34 u t H locs ht hvm hw hB hz1 hk1 hS1 => zo hB ht hS1 (fun hP1 hK1 hD1 hS => ?_))
    refine zc_backc (w := [(a0, .inr (0, [.int a0_0, .int a0_1, .int a0_2, a0g_3, a0g_4, .int a0_5, .int a0_6, a0g_7, a0g_8, a0g_9, .ref a0_10, .ref a0_11, a0g_12, a0g_13, a0g_14])), (a1, .inr (5, [.int a1_0, .int a1_1, .int a1_2, .int v27na1_3, .int v27na1_4, .ref a1_5, .ref a1_6])), (a0_10, .inl (ka0_10, 9, .inl (fa0_10))), (a0_11, .inl (ka0_11, 9, .inl (fa0_11))), (a1_5, .inl (ka1_5, 9, .inl (v27nfa1_5))), (a2, .inr (6, [.int a2_0, .int a2_1, .ref a2_2, .ref a2_3])), (a2_3, .inl (ka2_3, 3, .inl (fa2_3))), (a2_2, .inl (ka2_2, 3, .inl (fa2_2))), (a1_6, .inl (ka1_6, 9, .inl (fa1_6)))]) hP hD hCc hk1 hFc hP1 hD1 [.inr 0, .inl 1, .inr 1, .inr 2, .inl 4, .inl 5, .inl 6, .inl 7, .inl 8] (by decide +kernel) rfl (fun hP hD => ?_)
    obtain ⟨hw, hfr34⟩ := hw
    have hc34 : Ff_X0_partSaid a1_1.toInt x10.toInt (fl_A fa0_10) (fl_A fa0_11) = r34.toInt := hfr34.symm
    have hF0 := hF0.trans (fl_lt_eq hc34.symm)
    refine lv_istore (lv' := [(5, .int r34), (4, .int x10), (3, .int a1_1), (0, .ref a0), (1, .ref a1), (2, .ref a2)]) hx hb dX0_pass_37 hl (by decide) rfl (fun ls hl => ?_)
    refine lv_iload hx hb dX0_pass_39 (lv_at hl 0 rfl) ?_
    refine lv_if_eq (tgt := 75) hx hb dX0_pass_41 (by decide) (fun c41 => ?_) (fun c41 => ?_)
    · have gc41 := ai_eq c41
      have u41t_r34 : r34.toInt ≤ (0 : Int) := Int.le_trans (Int.le_of_eq gc41) zq6
      have l41t_r34 : (0 : Int) ≤ r34.toInt := Int.le_trans zq5 (Int.le_of_eq gc41.symm)
      have hF0 := hF0.trans (if_pos (show r34.toInt = 0 from gc41))
      refine lv_aload_n hx hb dX0_pass_75 rfl (lv_at hl 4 rfl) ?_
      refine lv_dup hx hb dX0_pass_76 rfl ?_
      refine va_get (D := (dC, dI)) (ci := 5) (v := .int a1_0) (C := RX5) (T := TX5) (N := 7) hx hb hts zi_X0_pass_5 hown hK hP 1 rfl rfl 0 (by decide) (hts (.fieldLink RX0 102 "WaxTurns$Scene" "minute" "I") (zm_X0_pass_r1 (List.mem_of_getElem? (i := 3) rfl))) (fun _ h9 => h9) rfl dX0_pass_77 ?_
      refine lv_iconst (v := 1) hx hb dX0_pass_80 zk_iconst_1 ?_
      refine lv_iadd hx hb dX0_pass_81 ?_
      refine lv_topi (fun x81 ex81 => ?_)
      have fqx81 := fl_iadd_eq ex81
      have hF0 := hF0.trans (fl_lt_eq (show x81.toInt = fl_iadd a1_0.toInt 1 from fqx81))
      refine va_put (D := (dC, dI)) (ci := 5) (v := .int x81) (ty := .int) (C := RX5) (T := TX5) (N := 7) hx hb hts zi_X0_pass_5 tyX5 tyX5_ok nmX5 hown hK hP hD hS 1 rfl rfl 0 (by decide) (hts (.fieldLink RX0 102 "WaxTurns$Scene" "minute" "I") (zm_X0_pass_r1 (List.mem_of_getElem? (i := 3) rfl))) (fun _ h9 => h9) rfl (tyX5_ok 0 (by decide)) rfl rfl (Nat.le_of_ble_eq_true rfl) dX0_pass_82 (fun H locs hP hD hS => ?_)
      refine zs_1 (y := (a1, .inr (5, [.int x81, .int a1_1, .int a1_2, .int v27na1_3, .int v27na1_4, .ref a1_5, .ref a1_6]))) hP hD rfl (fun hP hD => ?_)
      refine lv_aload_n hx hb dX0_pass_85 rfl (lv_at hl 4 rfl) ?_
      refine lv_iload hx hb dX0_pass_86 (lv_at hl 1 rfl) ?_
      refine va_put (D := (dC, dI)) (ci := 5) (v := .int x10) (ty := .int) (C := RX5) (T := TX5) (N := 7) hx hb hts zi_X0_pass_5 tyX5 tyX5_ok nmX5 hown hK hP hD hS 1 rfl rfl 2 (by decide) (hts (.fieldLink RX0 84 "WaxTurns$Scene" "spent" "I") (zm_X0_pass_r1 (List.mem_of_getElem? (i := 1) rfl))) (fun _ h9 => h9) rfl (tyX5_ok 2 (by decide)) rfl rfl (Nat.le_of_ble_eq_true rfl) dX0_pass_88 (fun H locs hP hD hS => ?_)
      refine zs_1 (y := (a1, .inr (5, [.int x81, .int a1_1, .int x10, .int v27na1_3, .int v27na1_4, .ref a1_5, .ref a1_6]))) hP hD rfl (fun hP hD => ?_)
      refine lv_iload hx hb dX0_pass_91 (lv_at hl 1 rfl) ?_
      refine lv_aload_n hx hb dX0_pass_93 rfl (lv_at hl 3 rfl) ?_
      refine va_get (D := (dC, dI)) (ci := 0) (v := .int a0_1) (C := RX0) (T := TX0) (N := 15) hx hb hts zi_X0_pass_0 hown hK hP 0 rfl rfl 1 (by decide) (hts (.fieldLink RX0 48 "WaxTurns$Hall" "span" "I") (zm_X0_pass_r1 (List.mem_of_getElem? (i := 5) rfl))) (fun _ h9 => h9) rfl dX0_pass_94 ?_
      refine lv_icmp_lt (tgt := 109) hx hb dX0_pass_97 (by decide) (fun c97 => ?_) (fun c97 => ?_)
      · have gc97 := ai_lt c97
        have u97t_x10 : x10.toInt ≤ (2147483646 : Int) := ai_lthi gc97 (ai_max a0_1)
        have l97t_a0_1 : (-2147483647 : Int) ≤ a0_1.toInt := ai_ltlo gc97 (ai_min x10)
        have hF0 := hF0.trans (if_pos (show x10.toInt < a0_1.toInt from gc97))
        have hFe : FX = (x81.toInt, a1_1.toInt, x10.toInt, v27na1_3.toInt, v27na1_4.toInt, (fl_A v27nfa1_5), (fl_A fa1_6)) := hF0
        exact W.vret hx hb hr (fun t ht hW => ⟨⟨(), rfl, trivial, x81, a1_1, x10, v27na1_3, v27na1_4, v27nfa1_5, fa1_6, ⟨l17k0_a1_1, u17k0_a1_1⟩, hFe, by rw [ht]; exact hP, va_K.moved hW.alike hK, hD⟩, hS.F ht⟩) hS.2.2 dX0_pass_109
      · have gc97 := ai_nlt c97
        have hF0 := hF0.trans (if_neg (show ¬ (x10.toInt < a0_1.toInt) from Int.not_lt.mpr gc97))
        refine lv_aload_n hx hb dX0_pass_100 rfl (lv_at hl 4 rfl) ?_
        refine lv_aload_n hx hb dX0_pass_101 rfl (lv_at hl 3 rfl) ?_
        refine lv_iload_n hx hb dX0_pass_102 rfl (lv_at hl 2 rfl) ?_
        refine va_calli (va_runV (As := [.int a1_1]) (rest := [.ref a1]) ⟨hx, hb, hml, hown, hts⟩ (f_X0_next l dC dI H.size a0 a1_1 a0_0 (.int a0_1) (.int a0_2) a0g_3 a0g_4 a0g_7 a0g_8 a0g_9 (.ref a0_10) (.ref a0_11) a0g_12 a0g_13 a0g_14 a0_5 a0_6 l17k0_a1_1 u17k0_a1_1 ba0_0_l ba0_0_u ba0_5_l ba0_5_u ba0_6_l ba0_6_u) (cwV 1 hts gX0_pass_X0_next rfl rfl rfl zd_X0_next ⟨Nat.le_of_ble_eq_true rfl, Nat.le_of_ble_eq_true rfl⟩) ⟨ax_blind (fun _ _ _ _ _ => trivial), zr_0 (zp_K hK) (zp_P1 hP) (q0 := 0) rfl, ax_pre (zp_P1 hP) (zp_K hK) (zp_D1 hD) (fun _ _ => trivial)⟩ rfl rfl hl.1 rfl (lv_room (Nat.le_of_ble_eq_true rfl)) dX0_pass_103 ⟨Nat.le_of_ble_eq_true rfl, Nat.le_of_ble_eq_true rfl⟩) hS (fun q _ h => zp_F1 hD hS hA q h) (zp_F1 hD hS hA) (fun r103 u t H locs ht hvm hw hB hz1 hk1 hS1 => zo1 hB ht hP hD hk1 (zp_F1 hD hS hA) hS1 (fun hP hK1 hD hS => ?_))
        obtain ⟨hw, hfr103⟩ := hw
        have hc103 : Ff_X0_next a1_1.toInt a0_0.toInt a0_5.toInt a0_6.toInt = r103.toInt := hfr103.symm
        have hF0 := hF0.trans (fl_lt_eq hc103.symm)
        have hw : (0 : Int) ≤ r103.toInt ∧ r103.toInt ≤ (8 : Int) := hw
        obtain ⟨h103_0, h103_1⟩ := hw
        refine zc_cutc (wc := [(a1, .inr (5, [.int x81, .int a1_1, .int x10, .int v27na1_3, .int v27na1_4, .ref a1_5, .ref a1_6]))]) hP hD hS hA [1] (by decide +kernel) rfl (fun hPc hDc hFc hCc => ?_)
        have hKc := zp_K hK
        refine va_callv (va_runV (As := [.int r103]) (rest := []) ⟨hx, hb, hml, hown, hts⟩ (f_X5_startTurn l dC dI H.size a1 r103 (.int x81) (.int v27na1_3) (.int v27na1_4) (.ref a1_5) (.ref a1_6) a1_1 x10 h103_0 h103_1 l17k0_a1_1 u17k0_a1_1) (cwV 1 hts gX0_pass_X5_startTurn rfl rfl rfl zd_X5_startTurn ⟨Nat.le_of_ble_eq_true rfl, Nat.le_of_ble_eq_true rfl⟩) ⟨ax_blind (fun _ _ _ _ _ => trivial), zr_5 hKc hPc (q0 := 0) rfl, ax_pre hPc hKc hDc (fun _ _ => trivial)⟩ rfl rfl hl.1 rfl (lv_room (Nat.le_of_ble_eq_true rfl)) dX0_pass_106 ⟨Nat.le_of_ble_eq_true rfl, Nat.le_of_ble_eq_true rfl⟩) hS (fun q _ h => hFc q h) hFc (fun u t H locs ht hvm hw => zx_2 (fun v106na0_1 v106na0_2 => zy_2 (fun bv106na0_1 hraw106_0 hB hz1 hk1 hS1 => zo hB ht hS1 (fun hP1 hK1 hD1 hS => ?_))))
        refine zc_backc (w := [(a0, .inr (0, [.int a0_0, .int a0_1, .int a0_2, a0g_3, a0g_4, .int a0_5, .int a0_6, a0g_7, a0g_8, a0g_9, .ref a0_10, .ref a0_11, a0g_12, a0g_13, a0g_14])), (a1, .inr (5, [.int x81, .int v106na0_1, .int v106na0_2, .int v27na1_3, .int v27na1_4, .ref a1_5, .ref a1_6])), (a0_10, .inl (ka0_10, 9, .inl (fa0_10))), (a0_11, .inl (ka0_11, 9, .inl (fa0_11))), (a1_5, .inl (ka1_5, 9, .inl (v27nfa1_5))), (a2, .inr (6, [.int a2_0, .int a2_1, .ref a2_2, .ref a2_3])), (a2_3, .inl (ka2_3, 3, .inl (fa2_3))), (a2_2, .inl (ka2_2, 3, .inl (fa2_2))), (a1_6, .inl (ka1_6, 9, .inl (fa1_6)))]) hP hD hCc hk1 hFc hP1 hD1 [.inl 0, .inr 0, .inl 2, .inl 3, .inl 4, .inl 5, .inl 6, .inl 7, .inl 8] (by decide +kernel) rfl (fun hP hD => ?_)
        have hc106 : Ff_X5_startTurn r103.toInt = (v106na0_1.toInt, v106na0_2.toInt) := hraw106_0
        have hF0 := hF0.trans (fl_c2_eq hc106)
        have hFe : FX = (x81.toInt, v106na0_1.toInt, v106na0_2.toInt, v27na1_3.toInt, v27na1_4.toInt, (fl_A v27nfa1_5), (fl_A fa1_6)) := hF0
        exact W.vret hx hb hr (fun t ht hW => ⟨⟨(), rfl, trivial, x81, v106na0_1, v106na0_2, v27na1_3, v27na1_4, v27nfa1_5, fa1_6, ⟨bv106na0_1.1, bv106na0_1.2⟩, hFe, by rw [ht]; exact hP, va_K.moved hW.alike hK, hD⟩, hS.F ht⟩) hS.2.2 dX0_pass_109
    · have gc41 := ai_ne c41
      have hF0 := hF0.trans (if_neg (show ¬ (r34.toInt = 0) from  gc41))
      refine lv_aload_n hx hb dX0_pass_44 rfl (lv_at hl 4 rfl) ?_
      refine va_get (D := (dC, dI)) (ci := 5) (v := .ref a1_5) (C := RX5) (T := TX5) (N := 7) hx hb hts zi_X0_pass_5 hown hK hP 1 rfl rfl 5 (by decide) (hts (.fieldLink RX0 99 "WaxTurns$Scene" "places" "[I") (zm_X0_pass_r1 (List.mem_of_getElem? (i := 2) rfl))) (fun _ h9 => h9) rfl dX0_pass_45 ?_
      refine lv_iload_n hx hb dX0_pass_48 rfl (lv_at hl 2 rfl) ?_
      refine va_iald hx hb hK hP 4 2 rfl rfl (ai_in l17k0_a1_1 u17k0_a1_1 (by decide) (by decide)) dX0_pass_49 ?_
      refine lv_topi (fun x49 ex49 => ?_)
      have fqx49 := congrArg Int32.toInt ex49
      have hF0 := hF0.trans (fl_lt_eq (show x49.toInt = (fl_A v27nfa1_5) (a1_1.toInt.toNat) from fqx49))
      refine lv_aload_n hx hb dX0_pass_50 rfl (lv_at hl 5 rfl) ?_
      refine lv_aload_n hx hb dX0_pass_51 rfl (lv_at hl 4 rfl) ?_
      refine va_get (D := (dC, dI)) (ci := 5) (v := .int a1_0) (C := RX5) (T := TX5) (N := 7) hx hb hts zi_X0_pass_5 hown hK hP 1 rfl rfl 0 (by decide) (hts (.fieldLink RX0 102 "WaxTurns$Scene" "minute" "I") (zm_X0_pass_r1 (List.mem_of_getElem? (i := 3) rfl))) (fun _ h9 => h9) rfl dX0_pass_52 ?_
      refine zc_cutc (wc := [(a2, .inr (6, [.int a2_0, .int a2_1, .ref a2_2, .ref a2_3])), (a2_3, .inl (ka2_3, 3, .inl (fa2_3))), (a2_2, .inl (ka2_2, 3, .inl (fa2_2)))]) hP hD hS hA [5, 6, 7] (by decide +kernel) rfl (fun hPc hDc hFc hCc => ?_)
      have hKc := hK.sub (tys' := [(ka2_3, .int), (ka2_2, .int)]) [3, 4] rfl
      refine va_calli (va_runV (As := [.int a1_0]) (rest := [.int x49]) ⟨hx, hb, hml, hown, hts⟩ (f_X6_placesIn l dC dI H.size a2 a1_0 a2_0 a2_1 a2_2 a2_3 ka2_3 fa2_3 ka2_2 fa2_2 ba2_0_l ba2_0_u bfa2_3 bfa2_2) (cwV 1 hts gX0_pass_X6_placesIn rfl rfl rfl zd_X6_placesIn ⟨Nat.le_of_ble_eq_true rfl, Nat.le_of_ble_eq_true rfl⟩) ⟨ax_blind (fun _ _ _ _ _ => trivial), zr_6 hKc hPc (q0 := 0) rfl, ax_pre hPc hKc hDc (fun _ _ => trivial)⟩ rfl rfl hl.1 rfl (lv_room (Nat.le_of_ble_eq_true rfl)) dX0_pass_55 ⟨Nat.le_of_ble_eq_true rfl, Nat.le_of_ble_eq_true rfl⟩) hS (fun q _ h => hFc q h) hFc (fun r55 u t H locs ht hvm hw hB hz1 hk1 hS1 => zo hB ht hS1 (fun hP1 hK1 hD1 hS => ?_))
      refine zc_backc (w := [(a0, .inr (0, [.int a0_0, .int a0_1, .int a0_2, a0g_3, a0g_4, .int a0_5, .int a0_6, a0g_7, a0g_8, a0g_9, .ref a0_10, .ref a0_11, a0g_12, a0g_13, a0g_14])), (a1, .inr (5, [.int a1_0, .int a1_1, .int a1_2, .int v27na1_3, .int v27na1_4, .ref a1_5, .ref a1_6])), (a0_10, .inl (ka0_10, 9, .inl (fa0_10))), (a0_11, .inl (ka0_11, 9, .inl (fa0_11))), (a1_5, .inl (ka1_5, 9, .inl (v27nfa1_5))), (a2, .inr (6, [.int a2_0, .int a2_1, .ref a2_2, .ref a2_3])), (a2_3, .inl (ka2_3, 3, .inl (fa2_3))), (a2_2, .inl (ka2_2, 3, .inl (fa2_2))), (a1_6, .inl (ka1_6, 9, .inl (fa1_6)))]) hP hD hCc hk1 hFc hP1 hD1 [.inl 0, .inl 1, .inl 2, .inl 3, .inl 4, .inr 0, .inr 1, .inr 2, .inl 8] (by decide +kernel) rfl (fun hP hD => ?_)
      obtain ⟨hw, hfr55⟩ := hw
      have hc55 : Ff_X6_placesIn a1_0.toInt a2_0.toInt a2_1.toInt (fl_A fa2_3) (fl_A fa2_2) = r55.toInt := hfr55.symm
      have hF0 := hF0.trans (fl_lt_eq hc55.symm)
      refine va_calli (va_runS (As := [.int x49, .int r55]) (rest := []) ⟨hx, hb, hml, hown, hts⟩ (f_X0_isHeardAt l dC dI H.size x49 r55 ) (va_cwS 2 hts gX0_pass_X0_isHeardAt rfl rfl rfl zd_X0_isHeardAt.2 ⟨Nat.le_of_ble_eq_true rfl, Nat.le_of_ble_eq_true rfl⟩) ⟨ax_blind (fun _ _ _ _ _ => trivial), ax_pre (zp_P0 hP) (zp_K hK) (zp_D0 hD) (fun _ _ => trivial)⟩ rfl rfl hl.1 rfl (lv_room (Nat.le_of_ble_eq_true rfl)) dX0_pass_58 ⟨Nat.le_of_ble_eq_true rfl, Nat.le_of_ble_eq_true rfl⟩) hS (fun q _ h => zp_F0 hD hS hA q h) (zp_F0 hD hS hA) (fun r58 u t H locs ht hvm hw hB hz1 hk1 hS1 => zo0 hB ht hP hD hk1 (zp_F0 hD hS hA) hS1 (fun hP hK1 hD hS => ?_))
      obtain ⟨hw, hfr58⟩ := hw
      have hc58 : Ff_X0_isHeardAt x49.toInt r55.toInt = r58.toInt := hfr58.symm
      have hF0 := hF0.trans (fl_lt_eq hc58.symm)
      rcases hw with hw | hw
      · subst hw
        have hF0 := hF0.trans (if_pos (by decide))
        refine lv_if_eq (tgt := 75) hx hb dX0_pass_61 (by decide) (fun c61 => absurd c61 (by decide +kernel)) (fun _ => ?_)
        refine lv_aload_n hx hb dX0_pass_64 rfl (lv_at hl 4 rfl) ?_
        refine va_get (D := (dC, dI)) (ci := 5) (v := .ref a1_6) (C := RX5) (T := TX5) (N := 7) hx hb hts zi_X0_pass_5 hown hK hP 1 rfl rfl 6 (by decide) (hts (.fieldLink RX0 111 "WaxTurns$Scene" "heardBits" "[I") (zm_X0_pass_r1 (List.mem_of_getElem? (i := 4) rfl))) (fun _ h9 => h9) rfl dX0_pass_65 ?_
        refine lv_iload_n hx hb dX0_pass_68 rfl (lv_at hl 2 rfl) ?_
        refine lv_dup2_11 hx hb dX0_pass_69 rfl rfl ?_
        refine va_iald hx hb hK hP 8 5 rfl rfl (ai_in l17k0_a1_1 u17k0_a1_1 (by decide) (by decide)) dX0_pass_70 ?_
        refine lv_topi (fun x70 ex70 => ?_)
        have fqx70 := congrArg Int32.toInt ex70
        have hF0 := hF0.trans (fl_lt_eq (show x70.toInt = (fl_A fa1_6) (a1_1.toInt.toNat) from fqx70))
        refine lv_iload hx hb dX0_pass_71 (lv_at hl 0 rfl) ?_
        refine lv_ior hx hb dX0_pass_73 ?_
        refine lv_topi (fun x73 ex73 => ?_)
        have fqx73 := fl_or_eq ex73
        have hF0 := hF0.trans (fl_lt_eq (show x73.toInt = fl_or x70.toInt r34.toInt from fqx73))
        refine va_iast hx hb hK hP hD hS 8 5 rfl rfl (ai_in l17k0_a1_1 u17k0_a1_1 (by decide) (by decide)) dX0_pass_74 (fun H locs hP hD hS => ?_)
        obtain ⟨f74, ef74⟩ : ∃ g9 : Nat → Int32, g9 = upd fa1_6 (a1_1 : Int32).toNatClampNeg x73 := ⟨_, rfl⟩
        refine zs_8 (y := (a1_6, .inl (ka1_6, 9, .inl (f74)))) hP hD (by rw [ef74]) (fun hP hD => ?_)
        have fqf74 := fl_up_eq ef74
        have hF0 := hF0.trans (fl_lt_eq (show (fl_A f74) = fl_up (fl_A fa1_6) (a1_1.toInt.toNat) x73.toInt from fqf74))
        refine lv_aload_n hx hb dX0_pass_75 rfl (lv_at hl 4 rfl) ?_
        refine lv_dup hx hb dX0_pass_76 rfl ?_
        refine va_get (D := (dC, dI)) (ci := 5) (v := .int a1_0) (C := RX5) (T := TX5) (N := 7) hx hb hts zi_X0_pass_5 hown hK hP 1 rfl rfl 0 (by decide) (hts (.fieldLink RX0 102 "WaxTurns$Scene" "minute" "I") (zm_X0_pass_r1 (List.mem_of_getElem? (i := 3) rfl))) (fun _ h9 => h9) rfl dX0_pass_77 ?_
        refine lv_iconst (v := 1) hx hb dX0_pass_80 zk_iconst_1 ?_
        refine lv_iadd hx hb dX0_pass_81 ?_
        refine lv_topi (fun x81 ex81 => ?_)
        have fqx81 := fl_iadd_eq ex81
        have hF0 := hF0.trans (fl_lt_eq (show x81.toInt = fl_iadd a1_0.toInt 1 from fqx81))
        refine va_put (D := (dC, dI)) (ci := 5) (v := .int x81) (ty := .int) (C := RX5) (T := TX5) (N := 7) hx hb hts zi_X0_pass_5 tyX5 tyX5_ok nmX5 hown hK hP hD hS 1 rfl rfl 0 (by decide) (hts (.fieldLink RX0 102 "WaxTurns$Scene" "minute" "I") (zm_X0_pass_r1 (List.mem_of_getElem? (i := 3) rfl))) (fun _ h9 => h9) rfl (tyX5_ok 0 (by decide)) rfl rfl (Nat.le_of_ble_eq_true rfl) dX0_pass_82 (fun H locs hP hD hS => ?_)
        refine zs_1 (y := (a1, .inr (5, [.int x81, .int a1_1, .int a1_2, .int v27na1_3, .int v27na1_4, .ref a1_5, .ref a1_6]))) hP hD rfl (fun hP hD => ?_)
        refine lv_aload_n hx hb dX0_pass_85 rfl (lv_at hl 4 rfl) ?_
        refine lv_iload hx hb dX0_pass_86 (lv_at hl 1 rfl) ?_
        refine va_put (D := (dC, dI)) (ci := 5) (v := .int x10) (ty := .int) (C := RX5) (T := TX5) (N := 7) hx hb hts zi_X0_pass_5 tyX5 tyX5_ok nmX5 hown hK hP hD hS 1 rfl rfl 2 (by decide) (hts (.fieldLink RX0 84 "WaxTurns$Scene" "spent" "I") (zm_X0_pass_r1 (List.mem_of_getElem? (i := 1) rfl))) (fun _ h9 => h9) rfl (tyX5_ok 2 (by decide)) rfl rfl (Nat.le_of_ble_eq_true rfl) dX0_pass_88 (fun H locs hP hD hS => ?_)
        refine zs_1 (y := (a1, .inr (5, [.int x81, .int a1_1, .int x10, .int v27na1_3, .int v27na1_4, .ref a1_5, .ref a1_6]))) hP hD rfl (fun hP hD => ?_)
        refine lv_iload hx hb dX0_pass_91 (lv_at hl 1 rfl) ?_
        refine lv_aload_n hx hb dX0_pass_93 rfl (lv_at hl 3 rfl) ?_
        refine va_get (D := (dC, dI)) (ci := 0) (v := .int a0_1) (C := RX0) (T := TX0) (N := 15) hx hb hts zi_X0_pass_0 hown hK hP 0 rfl rfl 1 (by decide) (hts (.fieldLink RX0 48 "WaxTurns$Hall" "span" "I") (zm_X0_pass_r1 (List.mem_of_getElem? (i := 5) rfl))) (fun _ h9 => h9) rfl dX0_pass_94 ?_
        refine lv_icmp_lt (tgt := 109) hx hb dX0_pass_97 (by decide) (fun c97 => ?_) (fun c97 => ?_)
        · have gc97 := ai_lt c97
          have u97t_x10 : x10.toInt ≤ (2147483646 : Int) := ai_lthi gc97 (ai_max a0_1)
          have l97t_a0_1 : (-2147483647 : Int) ≤ a0_1.toInt := ai_ltlo gc97 (ai_min x10)
          have hF0 := hF0.trans (if_pos (show x10.toInt < a0_1.toInt from gc97))
          have hFe : FX = (x81.toInt, a1_1.toInt, x10.toInt, v27na1_3.toInt, v27na1_4.toInt, (fl_A v27nfa1_5), (fl_A f74)) := hF0
          exact W.vret hx hb hr (fun t ht hW => ⟨⟨(), rfl, trivial, x81, a1_1, x10, v27na1_3, v27na1_4, v27nfa1_5, f74, ⟨l17k0_a1_1, u17k0_a1_1⟩, hFe, by rw [ht]; exact hP, va_K.moved hW.alike hK, hD⟩, hS.F ht⟩) hS.2.2 dX0_pass_109
        · have gc97 := ai_nlt c97
          have hF0 := hF0.trans (if_neg (show ¬ (x10.toInt < a0_1.toInt) from Int.not_lt.mpr gc97))
          refine lv_aload_n hx hb dX0_pass_100 rfl (lv_at hl 4 rfl) ?_
          refine lv_aload_n hx hb dX0_pass_101 rfl (lv_at hl 3 rfl) ?_
          refine lv_iload_n hx hb dX0_pass_102 rfl (lv_at hl 2 rfl) ?_
          refine va_calli (va_runV (As := [.int a1_1]) (rest := [.ref a1]) ⟨hx, hb, hml, hown, hts⟩ (f_X0_next l dC dI H.size a0 a1_1 a0_0 (.int a0_1) (.int a0_2) a0g_3 a0g_4 a0g_7 a0g_8 a0g_9 (.ref a0_10) (.ref a0_11) a0g_12 a0g_13 a0g_14 a0_5 a0_6 l17k0_a1_1 u17k0_a1_1 ba0_0_l ba0_0_u ba0_5_l ba0_5_u ba0_6_l ba0_6_u) (cwV 1 hts gX0_pass_X0_next rfl rfl rfl zd_X0_next ⟨Nat.le_of_ble_eq_true rfl, Nat.le_of_ble_eq_true rfl⟩) ⟨ax_blind (fun _ _ _ _ _ => trivial), zr_0 (zp_K hK) (zp_P1 hP) (q0 := 0) rfl, ax_pre (zp_P1 hP) (zp_K hK) (zp_D1 hD) (fun _ _ => trivial)⟩ rfl rfl hl.1 rfl (lv_room (Nat.le_of_ble_eq_true rfl)) dX0_pass_103 ⟨Nat.le_of_ble_eq_true rfl, Nat.le_of_ble_eq_true rfl⟩) hS (fun q _ h => zp_F1 hD hS hA q h) (zp_F1 hD hS hA) (fun r103 u t H locs ht hvm hw hB hz1 hk1 hS1 => zo1 hB ht hP hD hk1 (zp_F1 hD hS hA) hS1 (fun hP hK1 hD hS => ?_))
          obtain ⟨hw, hfr103⟩ := hw
          have hc103 : Ff_X0_next a1_1.toInt a0_0.toInt a0_5.toInt a0_6.toInt = r103.toInt := hfr103.symm
          have hF0 := hF0.trans (fl_lt_eq hc103.symm)
          have hw : (0 : Int) ≤ r103.toInt ∧ r103.toInt ≤ (8 : Int) := hw
          obtain ⟨h103_0, h103_1⟩ := hw
          refine zc_cutc (wc := [(a1, .inr (5, [.int x81, .int a1_1, .int x10, .int v27na1_3, .int v27na1_4, .ref a1_5, .ref a1_6]))]) hP hD hS hA [1] (by decide +kernel) rfl (fun hPc hDc hFc hCc => ?_)
          have hKc := zp_K hK
          refine va_callv (va_runV (As := [.int r103]) (rest := []) ⟨hx, hb, hml, hown, hts⟩ (f_X5_startTurn l dC dI H.size a1 r103 (.int x81) (.int v27na1_3) (.int v27na1_4) (.ref a1_5) (.ref a1_6) a1_1 x10 h103_0 h103_1 l17k0_a1_1 u17k0_a1_1) (cwV 1 hts gX0_pass_X5_startTurn rfl rfl rfl zd_X5_startTurn ⟨Nat.le_of_ble_eq_true rfl, Nat.le_of_ble_eq_true rfl⟩) ⟨ax_blind (fun _ _ _ _ _ => trivial), zr_5 hKc hPc (q0 := 0) rfl, ax_pre hPc hKc hDc (fun _ _ => trivial)⟩ rfl rfl hl.1 rfl (lv_room (Nat.le_of_ble_eq_true rfl)) dX0_pass_106 ⟨Nat.le_of_ble_eq_true rfl, Nat.le_of_ble_eq_true rfl⟩) hS (fun q _ h => hFc q h) hFc (fun u t H locs ht hvm hw => zx_2 (fun v106na0_1 v106na0_2 => zy_2 (fun bv106na0_1 hraw106_0 hB hz1 hk1 hS1 => zo hB ht hS1 (fun hP1 hK1 hD1 hS => ?_))))
          refine zc_backc (w := [(a0, .inr (0, [.int a0_0, .int a0_1, .int a0_2, a0g_3, a0g_4, .int a0_5, .int a0_6, a0g_7, a0g_8, a0g_9, .ref a0_10, .ref a0_11, a0g_12, a0g_13, a0g_14])), (a1, .inr (5, [.int x81, .int v106na0_1, .int v106na0_2, .int v27na1_3, .int v27na1_4, .ref a1_5, .ref a1_6])), (a0_10, .inl (ka0_10, 9, .inl (fa0_10))), (a0_11, .inl (ka0_11, 9, .inl (fa0_11))), (a1_5, .inl (ka1_5, 9, .inl (v27nfa1_5))), (a2, .inr (6, [.int a2_0, .int a2_1, .ref a2_2, .ref a2_3])), (a2_3, .inl (ka2_3, 3, .inl (fa2_3))), (a2_2, .inl (ka2_2, 3, .inl (fa2_2))), (a1_6, .inl (ka1_6, 9, .inl (f74)))]) hP hD hCc hk1 hFc hP1 hD1 [.inl 0, .inr 0, .inl 2, .inl 3, .inl 4, .inl 5, .inl 6, .inl 7, .inl 8] (by decide +kernel) rfl (fun hP hD => ?_)
          have hc106 : Ff_X5_startTurn r103.toInt = (v106na0_1.toInt, v106na0_2.toInt) := hraw106_0
          have hF0 := hF0.trans (fl_c2_eq hc106)
          have hFe : FX = (x81.toInt, v106na0_1.toInt, v106na0_2.toInt, v27na1_3.toInt, v27na1_4.toInt, (fl_A v27nfa1_5), (fl_A f74)) := hF0
          exact W.vret hx hb hr (fun t ht hW => ⟨⟨(), rfl, trivial, x81, v106na0_1, v106na0_2, v27na1_3, v27na1_4, v27nfa1_5, f74, ⟨bv106na0_1.1, bv106na0_1.2⟩, hFe, by rw [ht]; exact hP, va_K.moved hW.alike hK, hD⟩, hS.F ht⟩) hS.2.2 dX0_pass_109
      · subst hw
        have hF0 := hF0.trans (if_neg (by decide))
        refine lv_if_eq (tgt := 75) hx hb dX0_pass_61 (by decide) (fun _ => ?_) (fun c61 => absurd (by decide +kernel) c61)
        refine lv_aload_n hx hb dX0_pass_75 rfl (lv_at hl 4 rfl) ?_
        refine lv_dup hx hb dX0_pass_76 rfl ?_
        refine va_get (D := (dC, dI)) (ci := 5) (v := .int a1_0) (C := RX5) (T := TX5) (N := 7) hx hb hts zi_X0_pass_5 hown hK hP 1 rfl rfl 0 (by decide) (hts (.fieldLink RX0 102 "WaxTurns$Scene" "minute" "I") (zm_X0_pass_r1 (List.mem_of_getElem? (i := 3) rfl))) (fun _ h9 => h9) rfl dX0_pass_77 ?_
        refine lv_iconst (v := 1) hx hb dX0_pass_80 zk_iconst_1 ?_
        refine lv_iadd hx hb dX0_pass_81 ?_
        refine lv_topi (fun x81 ex81 => ?_)
        have fqx81 := fl_iadd_eq ex81
        have hF0 := hF0.trans (fl_lt_eq (show x81.toInt = fl_iadd a1_0.toInt 1 from fqx81))
        refine va_put (D := (dC, dI)) (ci := 5) (v := .int x81) (ty := .int) (C := RX5) (T := TX5) (N := 7) hx hb hts zi_X0_pass_5 tyX5 tyX5_ok nmX5 hown hK hP hD hS 1 rfl rfl 0 (by decide) (hts (.fieldLink RX0 102 "WaxTurns$Scene" "minute" "I") (zm_X0_pass_r1 (List.mem_of_getElem? (i := 3) rfl))) (fun _ h9 => h9) rfl (tyX5_ok 0 (by decide)) rfl rfl (Nat.le_of_ble_eq_true rfl) dX0_pass_82 (fun H locs hP hD hS => ?_)
        refine zs_1 (y := (a1, .inr (5, [.int x81, .int a1_1, .int a1_2, .int v27na1_3, .int v27na1_4, .ref a1_5, .ref a1_6]))) hP hD rfl (fun hP hD => ?_)
        refine lv_aload_n hx hb dX0_pass_85 rfl (lv_at hl 4 rfl) ?_
        refine lv_iload hx hb dX0_pass_86 (lv_at hl 1 rfl) ?_
        refine va_put (D := (dC, dI)) (ci := 5) (v := .int x10) (ty := .int) (C := RX5) (T := TX5) (N := 7) hx hb hts zi_X0_pass_5 tyX5 tyX5_ok nmX5 hown hK hP hD hS 1 rfl rfl 2 (by decide) (hts (.fieldLink RX0 84 "WaxTurns$Scene" "spent" "I") (zm_X0_pass_r1 (List.mem_of_getElem? (i := 1) rfl))) (fun _ h9 => h9) rfl (tyX5_ok 2 (by decide)) rfl rfl (Nat.le_of_ble_eq_true rfl) dX0_pass_88 (fun H locs hP hD hS => ?_)
        refine zs_1 (y := (a1, .inr (5, [.int x81, .int a1_1, .int x10, .int v27na1_3, .int v27na1_4, .ref a1_5, .ref a1_6]))) hP hD rfl (fun hP hD => ?_)
        refine lv_iload hx hb dX0_pass_91 (lv_at hl 1 rfl) ?_
        refine lv_aload_n hx hb dX0_pass_93 rfl (lv_at hl 3 rfl) ?_
        refine va_get (D := (dC, dI)) (ci := 0) (v := .int a0_1) (C := RX0) (T := TX0) (N := 15) hx hb hts zi_X0_pass_0 hown hK hP 0 rfl rfl 1 (by decide) (hts (.fieldLink RX0 48 "WaxTurns$Hall" "span" "I") (zm_X0_pass_r1 (List.mem_of_getElem? (i := 5) rfl))) (fun _ h9 => h9) rfl dX0_pass_94 ?_
        refine lv_icmp_lt (tgt := 109) hx hb dX0_pass_97 (by decide) (fun c97 => ?_) (fun c97 => ?_)
        · have gc97 := ai_lt c97
          have u97t_x10 : x10.toInt ≤ (2147483646 : Int) := ai_lthi gc97 (ai_max a0_1)
          have l97t_a0_1 : (-2147483647 : Int) ≤ a0_1.toInt := ai_ltlo gc97 (ai_min x10)
          have hF0 := hF0.trans (if_pos (show x10.toInt < a0_1.toInt from gc97))
          have hFe : FX = (x81.toInt, a1_1.toInt, x10.toInt, v27na1_3.toInt, v27na1_4.toInt, (fl_A v27nfa1_5), (fl_A fa1_6)) := hF0
          exact W.vret hx hb hr (fun t ht hW => ⟨⟨(), rfl, trivial, x81, a1_1, x10, v27na1_3, v27na1_4, v27nfa1_5, fa1_6, ⟨l17k0_a1_1, u17k0_a1_1⟩, hFe, by rw [ht]; exact hP, va_K.moved hW.alike hK, hD⟩, hS.F ht⟩) hS.2.2 dX0_pass_109
        · have gc97 := ai_nlt c97
          have hF0 := hF0.trans (if_neg (show ¬ (x10.toInt < a0_1.toInt) from Int.not_lt.mpr gc97))
          refine lv_aload_n hx hb dX0_pass_100 rfl (lv_at hl 4 rfl) ?_
          refine lv_aload_n hx hb dX0_pass_101 rfl (lv_at hl 3 rfl) ?_
          refine lv_iload_n hx hb dX0_pass_102 rfl (lv_at hl 2 rfl) ?_
          refine va_calli (va_runV (As := [.int a1_1]) (rest := [.ref a1]) ⟨hx, hb, hml, hown, hts⟩ (f_X0_next l dC dI H.size a0 a1_1 a0_0 (.int a0_1) (.int a0_2) a0g_3 a0g_4 a0g_7 a0g_8 a0g_9 (.ref a0_10) (.ref a0_11) a0g_12 a0g_13 a0g_14 a0_5 a0_6 l17k0_a1_1 u17k0_a1_1 ba0_0_l ba0_0_u ba0_5_l ba0_5_u ba0_6_l ba0_6_u) (cwV 1 hts gX0_pass_X0_next rfl rfl rfl zd_X0_next ⟨Nat.le_of_ble_eq_true rfl, Nat.le_of_ble_eq_true rfl⟩) ⟨ax_blind (fun _ _ _ _ _ => trivial), zr_0 (zp_K hK) (zp_P1 hP) (q0 := 0) rfl, ax_pre (zp_P1 hP) (zp_K hK) (zp_D1 hD) (fun _ _ => trivial)⟩ rfl rfl hl.1 rfl (lv_room (Nat.le_of_ble_eq_true rfl)) dX0_pass_103 ⟨Nat.le_of_ble_eq_true rfl, Nat.le_of_ble_eq_true rfl⟩) hS (fun q _ h => zp_F1 hD hS hA q h) (zp_F1 hD hS hA) (fun r103 u t H locs ht hvm hw hB hz1 hk1 hS1 => zo1 hB ht hP hD hk1 (zp_F1 hD hS hA) hS1 (fun hP hK1 hD hS => ?_))
          obtain ⟨hw, hfr103⟩ := hw
          have hc103 : Ff_X0_next a1_1.toInt a0_0.toInt a0_5.toInt a0_6.toInt = r103.toInt := hfr103.symm
          have hF0 := hF0.trans (fl_lt_eq hc103.symm)
          have hw : (0 : Int) ≤ r103.toInt ∧ r103.toInt ≤ (8 : Int) := hw
          obtain ⟨h103_0, h103_1⟩ := hw
          refine zc_cutc (wc := [(a1, .inr (5, [.int x81, .int a1_1, .int x10, .int v27na1_3, .int v27na1_4, .ref a1_5, .ref a1_6]))]) hP hD hS hA [1] (by decide +kernel) rfl (fun hPc hDc hFc hCc => ?_)
          have hKc := zp_K hK
          refine va_callv (va_runV (As := [.int r103]) (rest := []) ⟨hx, hb, hml, hown, hts⟩ (f_X5_startTurn l dC dI H.size a1 r103 (.int x81) (.int v27na1_3) (.int v27na1_4) (.ref a1_5) (.ref a1_6) a1_1 x10 h103_0 h103_1 l17k0_a1_1 u17k0_a1_1) (cwV 1 hts gX0_pass_X5_startTurn rfl rfl rfl zd_X5_startTurn ⟨Nat.le_of_ble_eq_true rfl, Nat.le_of_ble_eq_true rfl⟩) ⟨ax_blind (fun _ _ _ _ _ => trivial), zr_5 hKc hPc (q0 := 0) rfl, ax_pre hPc hKc hDc (fun _ _ => trivial)⟩ rfl rfl hl.1 rfl (lv_room (Nat.le_of_ble_eq_true rfl)) dX0_pass_106 ⟨Nat.le_of_ble_eq_true rfl, Nat.le_of_ble_eq_true rfl⟩) hS (fun q _ h => hFc q h) hFc (fun u t H locs ht hvm hw => zx_2 (fun v106na0_1 v106na0_2 => zy_2 (fun bv106na0_1 hraw106_0 hB hz1 hk1 hS1 => zo hB ht hS1 (fun hP1 hK1 hD1 hS => ?_))))
          refine zc_backc (w := [(a0, .inr (0, [.int a0_0, .int a0_1, .int a0_2, a0g_3, a0g_4, .int a0_5, .int a0_6, a0g_7, a0g_8, a0g_9, .ref a0_10, .ref a0_11, a0g_12, a0g_13, a0g_14])), (a1, .inr (5, [.int x81, .int v106na0_1, .int v106na0_2, .int v27na1_3, .int v27na1_4, .ref a1_5, .ref a1_6])), (a0_10, .inl (ka0_10, 9, .inl (fa0_10))), (a0_11, .inl (ka0_11, 9, .inl (fa0_11))), (a1_5, .inl (ka1_5, 9, .inl (v27nfa1_5))), (a2, .inr (6, [.int a2_0, .int a2_1, .ref a2_2, .ref a2_3])), (a2_3, .inl (ka2_3, 3, .inl (fa2_3))), (a2_2, .inl (ka2_2, 3, .inl (fa2_2))), (a1_6, .inl (ka1_6, 9, .inl (fa1_6)))]) hP hD hCc hk1 hFc hP1 hD1 [.inl 0, .inr 0, .inl 2, .inl 3, .inl 4, .inl 5, .inl 6, .inl 7, .inl 8] (by decide +kernel) rfl (fun hP hD => ?_)
          have hc106 : Ff_X5_startTurn r103.toInt = (v106na0_1.toInt, v106na0_2.toInt) := hraw106_0
          have hF0 := hF0.trans (fl_c2_eq hc106)
          have hFe : FX = (x81.toInt, v106na0_1.toInt, v106na0_2.toInt, v27na1_3.toInt, v27na1_4.toInt, (fl_A v27nfa1_5), (fl_A fa1_6)) := hF0
          exact W.vret hx hb hr (fun t ht hW => ⟨⟨(), rfl, trivial, x81, v106na0_1, v106na0_2, v27na1_3, v27na1_4, v27nfa1_5, fa1_6, ⟨bv106na0_1.1, bv106na0_1.2⟩, hFe, by rw [ht]; exact hP, va_K.moved hW.alike hK, hD⟩, hS.F ht⟩) hS.2.2 dX0_pass_109
  · subst hw
    have hF0 := hF0.trans (if_neg (by decide))
    refine lv_if_eq (tgt := 30) hx hb dX0_pass_20 (by decide) (fun _ => ?_) (fun c20 => absurd (by decide +kernel) c20)
    refine lv_aload_n hx hb dX0_pass_30 rfl (lv_at hl 2 rfl) ?_
    refine lv_iload_n hx hb dX0_pass_31 rfl (lv_at hl 1 rfl) ?_
    refine lv_iload hx hb dX0_pass_32 (lv_at hl 0 rfl) ?_
    refine zc_cutc (wc := [(a0, .inr (0, [.int a0_0, .int a0_1, .int a0_2, a0g_3, a0g_4, .int a0_5, .int a0_6, a0g_7, a0g_8, a0g_9, .ref a0_10, .ref a0_11, a0g_12, a0g_13, a0g_14])), (a0_10, .inl (ka0_10, 9, .inl (fa0_10))), (a0_11, .inl (ka0_11, 9, .inl (fa0_11)))]) hP hD hS hA [0, 2, 3] (by decide +kernel) rfl (fun hPc hDc hFc hCc => ?_)
    have hKc := hK.sub (tys' := [(ka0_10, .int), (ka0_11, .int)]) [0, 1] rfl
    refine va_calli (va_runV (As := [.int a1_1, .int x10]) (rest := []) ⟨hx, hb, hml, hown, hts⟩ (f_X0_partSaid l dC dI H.size a0 a1_1 x10 (.int a0_0) (.int a0_1) (.int a0_2) a0g_3 a0g_4 (.int a0_5) (.int a0_6) a0g_7 a0g_8 a0g_9 a0g_12 a0g_13 a0g_14 a0_10 a0_11 ka0_10 fa0_10 ka0_11 fa0_11 ) (cwV 2 hts gX0_pass_X0_partSaid rfl rfl rfl zd_X0_partSaid ⟨Nat.le_of_ble_eq_true rfl, Nat.le_of_ble_eq_true rfl⟩) ⟨ax_blind (fun _ _ _ _ hq => va_Nw.same rfl rfl (hq)), zr_0 hKc hPc (q0 := 0) rfl, ax_pre hPc hKc hDc (fun _ hW => va_Nw.warmM hW hE0)⟩ rfl rfl hl.1 rfl (lv_room (Nat.le_of_ble_eq_true rfl)) dX0_pass_34 ⟨Nat.le_of_ble_eq_true rfl, Nat.le_of_ble_eq_true rfl⟩) hS (fun q _ h => hFc q h) hFc (fun r34 u t H locs ht hvm hw hB hz1 hk1 hS1 => zo hB ht hS1 (fun hP1 hK1 hD1 hS => ?_))
    refine zc_backc (w := [(a0, .inr (0, [.int a0_0, .int a0_1, .int a0_2, a0g_3, a0g_4, .int a0_5, .int a0_6, a0g_7, a0g_8, a0g_9, .ref a0_10, .ref a0_11, a0g_12, a0g_13, a0g_14])), (a1, .inr (5, [.int a1_0, .int a1_1, .int a1_2, .int a1_3, .int a1_4, .ref a1_5, .ref a1_6])), (a0_10, .inl (ka0_10, 9, .inl (fa0_10))), (a0_11, .inl (ka0_11, 9, .inl (fa0_11))), (a1_5, .inl (ka1_5, 9, .inl (fa1_5))), (a2, .inr (6, [.int a2_0, .int a2_1, .ref a2_2, .ref a2_3])), (a2_3, .inl (ka2_3, 3, .inl (fa2_3))), (a2_2, .inl (ka2_2, 3, .inl (fa2_2))), (a1_6, .inl (ka1_6, 9, .inl (fa1_6)))]) hP hD hCc hk1 hFc hP1 hD1 [.inr 0, .inl 1, .inr 1, .inr 2, .inl 4, .inl 5, .inl 6, .inl 7, .inl 8] (by decide +kernel) rfl (fun hP hD => ?_)
    obtain ⟨hw, hfr34⟩ := hw
    have hc34 : Ff_X0_partSaid a1_1.toInt x10.toInt (fl_A fa0_10) (fl_A fa0_11) = r34.toInt := hfr34.symm
    have hF0 := hF0.trans (fl_lt_eq hc34.symm)
    refine lv_istore (lv' := [(5, .int r34), (4, .int x10), (3, .int a1_1), (0, .ref a0), (1, .ref a1), (2, .ref a2)]) hx hb dX0_pass_37 hl (by decide) rfl (fun ls hl => ?_)
    refine lv_iload hx hb dX0_pass_39 (lv_at hl 0 rfl) ?_
    refine lv_if_eq (tgt := 75) hx hb dX0_pass_41 (by decide) (fun c41 => ?_) (fun c41 => ?_)
    · have gc41 := ai_eq c41
      have u41t_r34 : r34.toInt ≤ (0 : Int) := Int.le_trans (Int.le_of_eq gc41) zq6
      have l41t_r34 : (0 : Int) ≤ r34.toInt := Int.le_trans zq5 (Int.le_of_eq gc41.symm)
      have hF0 := hF0.trans (if_pos (show r34.toInt = 0 from gc41))
      refine lv_aload_n hx hb dX0_pass_75 rfl (lv_at hl 4 rfl) ?_
      refine lv_dup hx hb dX0_pass_76 rfl ?_
      refine va_get (D := (dC, dI)) (ci := 5) (v := .int a1_0) (C := RX5) (T := TX5) (N := 7) hx hb hts zi_X0_pass_5 hown hK hP 1 rfl rfl 0 (by decide) (hts (.fieldLink RX0 102 "WaxTurns$Scene" "minute" "I") (zm_X0_pass_r1 (List.mem_of_getElem? (i := 3) rfl))) (fun _ h9 => h9) rfl dX0_pass_77 ?_
      refine lv_iconst (v := 1) hx hb dX0_pass_80 zk_iconst_1 ?_
      refine lv_iadd hx hb dX0_pass_81 ?_
      refine lv_topi (fun x81 ex81 => ?_)
      have fqx81 := fl_iadd_eq ex81
      have hF0 := hF0.trans (fl_lt_eq (show x81.toInt = fl_iadd a1_0.toInt 1 from fqx81))
      refine va_put (D := (dC, dI)) (ci := 5) (v := .int x81) (ty := .int) (C := RX5) (T := TX5) (N := 7) hx hb hts zi_X0_pass_5 tyX5 tyX5_ok nmX5 hown hK hP hD hS 1 rfl rfl 0 (by decide) (hts (.fieldLink RX0 102 "WaxTurns$Scene" "minute" "I") (zm_X0_pass_r1 (List.mem_of_getElem? (i := 3) rfl))) (fun _ h9 => h9) rfl (tyX5_ok 0 (by decide)) rfl rfl (Nat.le_of_ble_eq_true rfl) dX0_pass_82 (fun H locs hP hD hS => ?_)
      refine zs_1 (y := (a1, .inr (5, [.int x81, .int a1_1, .int a1_2, .int a1_3, .int a1_4, .ref a1_5, .ref a1_6]))) hP hD rfl (fun hP hD => ?_)
      refine lv_aload_n hx hb dX0_pass_85 rfl (lv_at hl 4 rfl) ?_
      refine lv_iload hx hb dX0_pass_86 (lv_at hl 1 rfl) ?_
      refine va_put (D := (dC, dI)) (ci := 5) (v := .int x10) (ty := .int) (C := RX5) (T := TX5) (N := 7) hx hb hts zi_X0_pass_5 tyX5 tyX5_ok nmX5 hown hK hP hD hS 1 rfl rfl 2 (by decide) (hts (.fieldLink RX0 84 "WaxTurns$Scene" "spent" "I") (zm_X0_pass_r1 (List.mem_of_getElem? (i := 1) rfl))) (fun _ h9 => h9) rfl (tyX5_ok 2 (by decide)) rfl rfl (Nat.le_of_ble_eq_true rfl) dX0_pass_88 (fun H locs hP hD hS => ?_)
      refine zs_1 (y := (a1, .inr (5, [.int x81, .int a1_1, .int x10, .int a1_3, .int a1_4, .ref a1_5, .ref a1_6]))) hP hD rfl (fun hP hD => ?_)
      refine lv_iload hx hb dX0_pass_91 (lv_at hl 1 rfl) ?_
      refine lv_aload_n hx hb dX0_pass_93 rfl (lv_at hl 3 rfl) ?_
      refine va_get (D := (dC, dI)) (ci := 0) (v := .int a0_1) (C := RX0) (T := TX0) (N := 15) hx hb hts zi_X0_pass_0 hown hK hP 0 rfl rfl 1 (by decide) (hts (.fieldLink RX0 48 "WaxTurns$Hall" "span" "I") (zm_X0_pass_r1 (List.mem_of_getElem? (i := 5) rfl))) (fun _ h9 => h9) rfl dX0_pass_94 ?_
      refine lv_icmp_lt (tgt := 109) hx hb dX0_pass_97 (by decide) (fun c97 => ?_) (fun c97 => ?_)
      · have gc97 := ai_lt c97
        have u97t_x10 : x10.toInt ≤ (2147483646 : Int) := ai_lthi gc97 (ai_max a0_1)
        have l97t_a0_1 : (-2147483647 : Int) ≤ a0_1.toInt := ai_ltlo gc97 (ai_min x10)
        have hF0 := hF0.trans (if_pos (show x10.toInt < a0_1.toInt from gc97))
        have hFe : FX = (x81.toInt, a1_1.toInt, x10.toInt, a1_3.toInt, a1_4.toInt, (fl_A fa1_5), (fl_A fa1_6)) := hF0
        exact W.vret hx hb hr (fun t ht hW => ⟨⟨(), rfl, trivial, x81, a1_1, x10, a1_3, a1_4, fa1_5, fa1_6, ⟨ba1_1_l, ba1_1_u⟩, hFe, by rw [ht]; exact hP, va_K.moved hW.alike hK, hD⟩, hS.F ht⟩) hS.2.2 dX0_pass_109
      · have gc97 := ai_nlt c97
        have hF0 := hF0.trans (if_neg (show ¬ (x10.toInt < a0_1.toInt) from Int.not_lt.mpr gc97))
        refine lv_aload_n hx hb dX0_pass_100 rfl (lv_at hl 4 rfl) ?_
        refine lv_aload_n hx hb dX0_pass_101 rfl (lv_at hl 3 rfl) ?_
        refine lv_iload_n hx hb dX0_pass_102 rfl (lv_at hl 2 rfl) ?_
        refine va_calli (va_runV (As := [.int a1_1]) (rest := [.ref a1]) ⟨hx, hb, hml, hown, hts⟩ (f_X0_next l dC dI H.size a0 a1_1 a0_0 (.int a0_1) (.int a0_2) a0g_3 a0g_4 a0g_7 a0g_8 a0g_9 (.ref a0_10) (.ref a0_11) a0g_12 a0g_13 a0g_14 a0_5 a0_6 ba1_1_l ba1_1_u ba0_0_l ba0_0_u ba0_5_l ba0_5_u ba0_6_l ba0_6_u) (cwV 1 hts gX0_pass_X0_next rfl rfl rfl zd_X0_next ⟨Nat.le_of_ble_eq_true rfl, Nat.le_of_ble_eq_true rfl⟩) ⟨ax_blind (fun _ _ _ _ _ => trivial), zr_0 (zp_K hK) (zp_P1 hP) (q0 := 0) rfl, ax_pre (zp_P1 hP) (zp_K hK) (zp_D1 hD) (fun _ _ => trivial)⟩ rfl rfl hl.1 rfl (lv_room (Nat.le_of_ble_eq_true rfl)) dX0_pass_103 ⟨Nat.le_of_ble_eq_true rfl, Nat.le_of_ble_eq_true rfl⟩) hS (fun q _ h => zp_F1 hD hS hA q h) (zp_F1 hD hS hA) (fun r103 u t H locs ht hvm hw hB hz1 hk1 hS1 => zo1 hB ht hP hD hk1 (zp_F1 hD hS hA) hS1 (fun hP hK1 hD hS => ?_))
        obtain ⟨hw, hfr103⟩ := hw
        have hc103 : Ff_X0_next a1_1.toInt a0_0.toInt a0_5.toInt a0_6.toInt = r103.toInt := hfr103.symm
        have hF0 := hF0.trans (fl_lt_eq hc103.symm)
        have hw : (0 : Int) ≤ r103.toInt ∧ r103.toInt ≤ (8 : Int) := hw
        obtain ⟨h103_0, h103_1⟩ := hw
        refine zc_cutc (wc := [(a1, .inr (5, [.int x81, .int a1_1, .int x10, .int a1_3, .int a1_4, .ref a1_5, .ref a1_6]))]) hP hD hS hA [1] (by decide +kernel) rfl (fun hPc hDc hFc hCc => ?_)
        have hKc := zp_K hK
        refine va_callv (va_runV (As := [.int r103]) (rest := []) ⟨hx, hb, hml, hown, hts⟩ (f_X5_startTurn l dC dI H.size a1 r103 (.int x81) (.int a1_3) (.int a1_4) (.ref a1_5) (.ref a1_6) a1_1 x10 h103_0 h103_1 ba1_1_l ba1_1_u) (cwV 1 hts gX0_pass_X5_startTurn rfl rfl rfl zd_X5_startTurn ⟨Nat.le_of_ble_eq_true rfl, Nat.le_of_ble_eq_true rfl⟩) ⟨ax_blind (fun _ _ _ _ _ => trivial), zr_5 hKc hPc (q0 := 0) rfl, ax_pre hPc hKc hDc (fun _ _ => trivial)⟩ rfl rfl hl.1 rfl (lv_room (Nat.le_of_ble_eq_true rfl)) dX0_pass_106 ⟨Nat.le_of_ble_eq_true rfl, Nat.le_of_ble_eq_true rfl⟩) hS (fun q _ h => hFc q h) hFc (fun u t H locs ht hvm hw => zx_2 (fun v106na0_1 v106na0_2 => zy_2 (fun bv106na0_1 hraw106_0 hB hz1 hk1 hS1 => zo hB ht hS1 (fun hP1 hK1 hD1 hS => ?_))))
        refine zc_backc (w := [(a0, .inr (0, [.int a0_0, .int a0_1, .int a0_2, a0g_3, a0g_4, .int a0_5, .int a0_6, a0g_7, a0g_8, a0g_9, .ref a0_10, .ref a0_11, a0g_12, a0g_13, a0g_14])), (a1, .inr (5, [.int x81, .int v106na0_1, .int v106na0_2, .int a1_3, .int a1_4, .ref a1_5, .ref a1_6])), (a0_10, .inl (ka0_10, 9, .inl (fa0_10))), (a0_11, .inl (ka0_11, 9, .inl (fa0_11))), (a1_5, .inl (ka1_5, 9, .inl (fa1_5))), (a2, .inr (6, [.int a2_0, .int a2_1, .ref a2_2, .ref a2_3])), (a2_3, .inl (ka2_3, 3, .inl (fa2_3))), (a2_2, .inl (ka2_2, 3, .inl (fa2_2))), (a1_6, .inl (ka1_6, 9, .inl (fa1_6)))]) hP hD hCc hk1 hFc hP1 hD1 [.inl 0, .inr 0, .inl 2, .inl 3, .inl 4, .inl 5, .inl 6, .inl 7, .inl 8] (by decide +kernel) rfl (fun hP hD => ?_)
        have hc106 : Ff_X5_startTurn r103.toInt = (v106na0_1.toInt, v106na0_2.toInt) := hraw106_0
        have hF0 := hF0.trans (fl_c2_eq hc106)
        have hFe : FX = (x81.toInt, v106na0_1.toInt, v106na0_2.toInt, a1_3.toInt, a1_4.toInt, (fl_A fa1_5), (fl_A fa1_6)) := hF0
        exact W.vret hx hb hr (fun t ht hW => ⟨⟨(), rfl, trivial, x81, v106na0_1, v106na0_2, a1_3, a1_4, fa1_5, fa1_6, ⟨bv106na0_1.1, bv106na0_1.2⟩, hFe, by rw [ht]; exact hP, va_K.moved hW.alike hK, hD⟩, hS.F ht⟩) hS.2.2 dX0_pass_109
    · have gc41 := ai_ne c41
      have hF0 := hF0.trans (if_neg (show ¬ (r34.toInt = 0) from  gc41))
      refine lv_aload_n hx hb dX0_pass_44 rfl (lv_at hl 4 rfl) ?_
      refine va_get (D := (dC, dI)) (ci := 5) (v := .ref a1_5) (C := RX5) (T := TX5) (N := 7) hx hb hts zi_X0_pass_5 hown hK hP 1 rfl rfl 5 (by decide) (hts (.fieldLink RX0 99 "WaxTurns$Scene" "places" "[I") (zm_X0_pass_r1 (List.mem_of_getElem? (i := 2) rfl))) (fun _ h9 => h9) rfl dX0_pass_45 ?_
      refine lv_iload_n hx hb dX0_pass_48 rfl (lv_at hl 2 rfl) ?_
      refine va_iald hx hb hK hP 4 2 rfl rfl (ai_in ba1_1_l ba1_1_u (by decide) (by decide)) dX0_pass_49 ?_
      refine lv_topi (fun x49 ex49 => ?_)
      have fqx49 := congrArg Int32.toInt ex49
      have hF0 := hF0.trans (fl_lt_eq (show x49.toInt = (fl_A fa1_5) (a1_1.toInt.toNat) from fqx49))
      refine lv_aload_n hx hb dX0_pass_50 rfl (lv_at hl 5 rfl) ?_
      refine lv_aload_n hx hb dX0_pass_51 rfl (lv_at hl 4 rfl) ?_
      refine va_get (D := (dC, dI)) (ci := 5) (v := .int a1_0) (C := RX5) (T := TX5) (N := 7) hx hb hts zi_X0_pass_5 hown hK hP 1 rfl rfl 0 (by decide) (hts (.fieldLink RX0 102 "WaxTurns$Scene" "minute" "I") (zm_X0_pass_r1 (List.mem_of_getElem? (i := 3) rfl))) (fun _ h9 => h9) rfl dX0_pass_52 ?_
      refine zc_cutc (wc := [(a2, .inr (6, [.int a2_0, .int a2_1, .ref a2_2, .ref a2_3])), (a2_3, .inl (ka2_3, 3, .inl (fa2_3))), (a2_2, .inl (ka2_2, 3, .inl (fa2_2)))]) hP hD hS hA [5, 6, 7] (by decide +kernel) rfl (fun hPc hDc hFc hCc => ?_)
      have hKc := hK.sub (tys' := [(ka2_3, .int), (ka2_2, .int)]) [3, 4] rfl
      refine va_calli (va_runV (As := [.int a1_0]) (rest := [.int x49]) ⟨hx, hb, hml, hown, hts⟩ (f_X6_placesIn l dC dI H.size a2 a1_0 a2_0 a2_1 a2_2 a2_3 ka2_3 fa2_3 ka2_2 fa2_2 ba2_0_l ba2_0_u bfa2_3 bfa2_2) (cwV 1 hts gX0_pass_X6_placesIn rfl rfl rfl zd_X6_placesIn ⟨Nat.le_of_ble_eq_true rfl, Nat.le_of_ble_eq_true rfl⟩) ⟨ax_blind (fun _ _ _ _ _ => trivial), zr_6 hKc hPc (q0 := 0) rfl, ax_pre hPc hKc hDc (fun _ _ => trivial)⟩ rfl rfl hl.1 rfl (lv_room (Nat.le_of_ble_eq_true rfl)) dX0_pass_55 ⟨Nat.le_of_ble_eq_true rfl, Nat.le_of_ble_eq_true rfl⟩) hS (fun q _ h => hFc q h) hFc (fun r55 u t H locs ht hvm hw hB hz1 hk1 hS1 => zo hB ht hS1 (fun hP1 hK1 hD1 hS => ?_))
      refine zc_backc (w := [(a0, .inr (0, [.int a0_0, .int a0_1, .int a0_2, a0g_3, a0g_4, .int a0_5, .int a0_6, a0g_7, a0g_8, a0g_9, .ref a0_10, .ref a0_11, a0g_12, a0g_13, a0g_14])), (a1, .inr (5, [.int a1_0, .int a1_1, .int a1_2, .int a1_3, .int a1_4, .ref a1_5, .ref a1_6])), (a0_10, .inl (ka0_10, 9, .inl (fa0_10))), (a0_11, .inl (ka0_11, 9, .inl (fa0_11))), (a1_5, .inl (ka1_5, 9, .inl (fa1_5))), (a2, .inr (6, [.int a2_0, .int a2_1, .ref a2_2, .ref a2_3])), (a2_3, .inl (ka2_3, 3, .inl (fa2_3))), (a2_2, .inl (ka2_2, 3, .inl (fa2_2))), (a1_6, .inl (ka1_6, 9, .inl (fa1_6)))]) hP hD hCc hk1 hFc hP1 hD1 [.inl 0, .inl 1, .inl 2, .inl 3, .inl 4, .inr 0, .inr 1, .inr 2, .inl 8] (by decide +kernel) rfl (fun hP hD => ?_)
      obtain ⟨hw, hfr55⟩ := hw
      have hc55 : Ff_X6_placesIn a1_0.toInt a2_0.toInt a2_1.toInt (fl_A fa2_3) (fl_A fa2_2) = r55.toInt := hfr55.symm
      have hF0 := hF0.trans (fl_lt_eq hc55.symm)
      refine va_calli (va_runS (As := [.int x49, .int r55]) (rest := []) ⟨hx, hb, hml, hown, hts⟩ (f_X0_isHeardAt l dC dI H.size x49 r55 ) (va_cwS 2 hts gX0_pass_X0_isHeardAt rfl rfl rfl zd_X0_isHeardAt.2 ⟨Nat.le_of_ble_eq_true rfl, Nat.le_of_ble_eq_true rfl⟩) ⟨ax_blind (fun _ _ _ _ _ => trivial), ax_pre (zp_P0 hP) (zp_K hK) (zp_D0 hD) (fun _ _ => trivial)⟩ rfl rfl hl.1 rfl (lv_room (Nat.le_of_ble_eq_true rfl)) dX0_pass_58 ⟨Nat.le_of_ble_eq_true rfl, Nat.le_of_ble_eq_true rfl⟩) hS (fun q _ h => zp_F0 hD hS hA q h) (zp_F0 hD hS hA) (fun r58 u t H locs ht hvm hw hB hz1 hk1 hS1 => zo0 hB ht hP hD hk1 (zp_F0 hD hS hA) hS1 (fun hP hK1 hD hS => ?_))
      obtain ⟨hw, hfr58⟩ := hw
      have hc58 : Ff_X0_isHeardAt x49.toInt r55.toInt = r58.toInt := hfr58.symm
      have hF0 := hF0.trans (fl_lt_eq hc58.symm)
      rcases hw with hw | hw
      · subst hw
        have hF0 := hF0.trans (if_pos (by decide))
        refine lv_if_eq (tgt := 75) hx hb dX0_pass_61 (by decide) (fun c61 => absurd c61 (by decide +kernel)) (fun _ => ?_)
        refine lv_aload_n hx hb dX0_pass_64 rfl (lv_at hl 4 rfl) ?_
        refine va_get (D := (dC, dI)) (ci := 5) (v := .ref a1_6) (C := RX5) (T := TX5) (N := 7) hx hb hts zi_X0_pass_5 hown hK hP 1 rfl rfl 6 (by decide) (hts (.fieldLink RX0 111 "WaxTurns$Scene" "heardBits" "[I") (zm_X0_pass_r1 (List.mem_of_getElem? (i := 4) rfl))) (fun _ h9 => h9) rfl dX0_pass_65 ?_
        refine lv_iload_n hx hb dX0_pass_68 rfl (lv_at hl 2 rfl) ?_
        refine lv_dup2_11 hx hb dX0_pass_69 rfl rfl ?_
        refine va_iald hx hb hK hP 8 5 rfl rfl (ai_in ba1_1_l ba1_1_u (by decide) (by decide)) dX0_pass_70 ?_
        refine lv_topi (fun x70 ex70 => ?_)
        have fqx70 := congrArg Int32.toInt ex70
        have hF0 := hF0.trans (fl_lt_eq (show x70.toInt = (fl_A fa1_6) (a1_1.toInt.toNat) from fqx70))
        refine lv_iload hx hb dX0_pass_71 (lv_at hl 0 rfl) ?_
        refine lv_ior hx hb dX0_pass_73 ?_
        refine lv_topi (fun x73 ex73 => ?_)
        have fqx73 := fl_or_eq ex73
        have hF0 := hF0.trans (fl_lt_eq (show x73.toInt = fl_or x70.toInt r34.toInt from fqx73))
        refine va_iast hx hb hK hP hD hS 8 5 rfl rfl (ai_in ba1_1_l ba1_1_u (by decide) (by decide)) dX0_pass_74 (fun H locs hP hD hS => ?_)
        obtain ⟨f74, ef74⟩ : ∃ g9 : Nat → Int32, g9 = upd fa1_6 (a1_1 : Int32).toNatClampNeg x73 := ⟨_, rfl⟩
        refine zs_8 (y := (a1_6, .inl (ka1_6, 9, .inl (f74)))) hP hD (by rw [ef74]) (fun hP hD => ?_)
        have fqf74 := fl_up_eq ef74
        have hF0 := hF0.trans (fl_lt_eq (show (fl_A f74) = fl_up (fl_A fa1_6) (a1_1.toInt.toNat) x73.toInt from fqf74))
        refine lv_aload_n hx hb dX0_pass_75 rfl (lv_at hl 4 rfl) ?_
        refine lv_dup hx hb dX0_pass_76 rfl ?_
        refine va_get (D := (dC, dI)) (ci := 5) (v := .int a1_0) (C := RX5) (T := TX5) (N := 7) hx hb hts zi_X0_pass_5 hown hK hP 1 rfl rfl 0 (by decide) (hts (.fieldLink RX0 102 "WaxTurns$Scene" "minute" "I") (zm_X0_pass_r1 (List.mem_of_getElem? (i := 3) rfl))) (fun _ h9 => h9) rfl dX0_pass_77 ?_
        refine lv_iconst (v := 1) hx hb dX0_pass_80 zk_iconst_1 ?_
        refine lv_iadd hx hb dX0_pass_81 ?_
        refine lv_topi (fun x81 ex81 => ?_)
        have fqx81 := fl_iadd_eq ex81
        have hF0 := hF0.trans (fl_lt_eq (show x81.toInt = fl_iadd a1_0.toInt 1 from fqx81))
        refine va_put (D := (dC, dI)) (ci := 5) (v := .int x81) (ty := .int) (C := RX5) (T := TX5) (N := 7) hx hb hts zi_X0_pass_5 tyX5 tyX5_ok nmX5 hown hK hP hD hS 1 rfl rfl 0 (by decide) (hts (.fieldLink RX0 102 "WaxTurns$Scene" "minute" "I") (zm_X0_pass_r1 (List.mem_of_getElem? (i := 3) rfl))) (fun _ h9 => h9) rfl (tyX5_ok 0 (by decide)) rfl rfl (Nat.le_of_ble_eq_true rfl) dX0_pass_82 (fun H locs hP hD hS => ?_)
        refine zs_1 (y := (a1, .inr (5, [.int x81, .int a1_1, .int a1_2, .int a1_3, .int a1_4, .ref a1_5, .ref a1_6]))) hP hD rfl (fun hP hD => ?_)
        refine lv_aload_n hx hb dX0_pass_85 rfl (lv_at hl 4 rfl) ?_
        refine lv_iload hx hb dX0_pass_86 (lv_at hl 1 rfl) ?_
        refine va_put (D := (dC, dI)) (ci := 5) (v := .int x10) (ty := .int) (C := RX5) (T := TX5) (N := 7) hx hb hts zi_X0_pass_5 tyX5 tyX5_ok nmX5 hown hK hP hD hS 1 rfl rfl 2 (by decide) (hts (.fieldLink RX0 84 "WaxTurns$Scene" "spent" "I") (zm_X0_pass_r1 (List.mem_of_getElem? (i := 1) rfl))) (fun _ h9 => h9) rfl (tyX5_ok 2 (by decide)) rfl rfl (Nat.le_of_ble_eq_true rfl) dX0_pass_88 (fun H locs hP hD hS => ?_)
        refine zs_1 (y := (a1, .inr (5, [.int x81, .int a1_1, .int x10, .int a1_3, .int a1_4, .ref a1_5, .ref a1_6]))) hP hD rfl (fun hP hD => ?_)
        refine lv_iload hx hb dX0_pass_91 (lv_at hl 1 rfl) ?_
        refine lv_aload_n hx hb dX0_pass_93 rfl (lv_at hl 3 rfl) ?_
        refine va_get (D := (dC, dI)) (ci := 0) (v := .int a0_1) (C := RX0) (T := TX0) (N := 15) hx hb hts zi_X0_pass_0 hown hK hP 0 rfl rfl 1 (by decide) (hts (.fieldLink RX0 48 "WaxTurns$Hall" "span" "I") (zm_X0_pass_r1 (List.mem_of_getElem? (i := 5) rfl))) (fun _ h9 => h9) rfl dX0_pass_94 ?_
        refine lv_icmp_lt (tgt := 109) hx hb dX0_pass_97 (by decide) (fun c97 => ?_) (fun c97 => ?_)
        · have gc97 := ai_lt c97
          have u97t_x10 : x10.toInt ≤ (2147483646 : Int) := ai_lthi gc97 (ai_max a0_1)
          have l97t_a0_1 : (-2147483647 : Int) ≤ a0_1.toInt := ai_ltlo gc97 (ai_min x10)
          have hF0 := hF0.trans (if_pos (show x10.toInt < a0_1.toInt from gc97))
          have hFe : FX = (x81.toInt, a1_1.toInt, x10.toInt, a1_3.toInt, a1_4.toInt, (fl_A fa1_5), (fl_A f74)) := hF0
          exact W.vret hx hb hr (fun t ht hW => ⟨⟨(), rfl, trivial, x81, a1_1, x10, a1_3, a1_4, fa1_5, f74, ⟨ba1_1_l, ba1_1_u⟩, hFe, by rw [ht]; exact hP, va_K.moved hW.alike hK, hD⟩, hS.F ht⟩) hS.2.2 dX0_pass_109
        · have gc97 := ai_nlt c97
          have hF0 := hF0.trans (if_neg (show ¬ (x10.toInt < a0_1.toInt) from Int.not_lt.mpr gc97))
          refine lv_aload_n hx hb dX0_pass_100 rfl (lv_at hl 4 rfl) ?_
          refine lv_aload_n hx hb dX0_pass_101 rfl (lv_at hl 3 rfl) ?_
          refine lv_iload_n hx hb dX0_pass_102 rfl (lv_at hl 2 rfl) ?_
          refine va_calli (va_runV (As := [.int a1_1]) (rest := [.ref a1]) ⟨hx, hb, hml, hown, hts⟩ (f_X0_next l dC dI H.size a0 a1_1 a0_0 (.int a0_1) (.int a0_2) a0g_3 a0g_4 a0g_7 a0g_8 a0g_9 (.ref a0_10) (.ref a0_11) a0g_12 a0g_13 a0g_14 a0_5 a0_6 ba1_1_l ba1_1_u ba0_0_l ba0_0_u ba0_5_l ba0_5_u ba0_6_l ba0_6_u) (cwV 1 hts gX0_pass_X0_next rfl rfl rfl zd_X0_next ⟨Nat.le_of_ble_eq_true rfl, Nat.le_of_ble_eq_true rfl⟩) ⟨ax_blind (fun _ _ _ _ _ => trivial), zr_0 (zp_K hK) (zp_P1 hP) (q0 := 0) rfl, ax_pre (zp_P1 hP) (zp_K hK) (zp_D1 hD) (fun _ _ => trivial)⟩ rfl rfl hl.1 rfl (lv_room (Nat.le_of_ble_eq_true rfl)) dX0_pass_103 ⟨Nat.le_of_ble_eq_true rfl, Nat.le_of_ble_eq_true rfl⟩) hS (fun q _ h => zp_F1 hD hS hA q h) (zp_F1 hD hS hA) (fun r103 u t H locs ht hvm hw hB hz1 hk1 hS1 => zo1 hB ht hP hD hk1 (zp_F1 hD hS hA) hS1 (fun hP hK1 hD hS => ?_))
          obtain ⟨hw, hfr103⟩ := hw
          have hc103 : Ff_X0_next a1_1.toInt a0_0.toInt a0_5.toInt a0_6.toInt = r103.toInt := hfr103.symm
          have hF0 := hF0.trans (fl_lt_eq hc103.symm)
          have hw : (0 : Int) ≤ r103.toInt ∧ r103.toInt ≤ (8 : Int) := hw
          obtain ⟨h103_0, h103_1⟩ := hw
          refine zc_cutc (wc := [(a1, .inr (5, [.int x81, .int a1_1, .int x10, .int a1_3, .int a1_4, .ref a1_5, .ref a1_6]))]) hP hD hS hA [1] (by decide +kernel) rfl (fun hPc hDc hFc hCc => ?_)
          have hKc := zp_K hK
          refine va_callv (va_runV (As := [.int r103]) (rest := []) ⟨hx, hb, hml, hown, hts⟩ (f_X5_startTurn l dC dI H.size a1 r103 (.int x81) (.int a1_3) (.int a1_4) (.ref a1_5) (.ref a1_6) a1_1 x10 h103_0 h103_1 ba1_1_l ba1_1_u) (cwV 1 hts gX0_pass_X5_startTurn rfl rfl rfl zd_X5_startTurn ⟨Nat.le_of_ble_eq_true rfl, Nat.le_of_ble_eq_true rfl⟩) ⟨ax_blind (fun _ _ _ _ _ => trivial), zr_5 hKc hPc (q0 := 0) rfl, ax_pre hPc hKc hDc (fun _ _ => trivial)⟩ rfl rfl hl.1 rfl (lv_room (Nat.le_of_ble_eq_true rfl)) dX0_pass_106 ⟨Nat.le_of_ble_eq_true rfl, Nat.le_of_ble_eq_true rfl⟩) hS (fun q _ h => hFc q h) hFc (fun u t H locs ht hvm hw => zx_2 (fun v106na0_1 v106na0_2 => zy_2 (fun bv106na0_1 hraw106_0 hB hz1 hk1 hS1 => zo hB ht hS1 (fun hP1 hK1 hD1 hS => ?_))))
          refine zc_backc (w := [(a0, .inr (0, [.int a0_0, .int a0_1, .int a0_2, a0g_3, a0g_4, .int a0_5, .int a0_6, a0g_7, a0g_8, a0g_9, .ref a0_10, .ref a0_11, a0g_12, a0g_13, a0g_14])), (a1, .inr (5, [.int x81, .int v106na0_1, .int v106na0_2, .int a1_3, .int a1_4, .ref a1_5, .ref a1_6])), (a0_10, .inl (ka0_10, 9, .inl (fa0_10))), (a0_11, .inl (ka0_11, 9, .inl (fa0_11))), (a1_5, .inl (ka1_5, 9, .inl (fa1_5))), (a2, .inr (6, [.int a2_0, .int a2_1, .ref a2_2, .ref a2_3])), (a2_3, .inl (ka2_3, 3, .inl (fa2_3))), (a2_2, .inl (ka2_2, 3, .inl (fa2_2))), (a1_6, .inl (ka1_6, 9, .inl (f74)))]) hP hD hCc hk1 hFc hP1 hD1 [.inl 0, .inr 0, .inl 2, .inl 3, .inl 4, .inl 5, .inl 6, .inl 7, .inl 8] (by decide +kernel) rfl (fun hP hD => ?_)
          have hc106 : Ff_X5_startTurn r103.toInt = (v106na0_1.toInt, v106na0_2.toInt) := hraw106_0
          have hF0 := hF0.trans (fl_c2_eq hc106)
          have hFe : FX = (x81.toInt, v106na0_1.toInt, v106na0_2.toInt, a1_3.toInt, a1_4.toInt, (fl_A fa1_5), (fl_A f74)) := hF0
          exact W.vret hx hb hr (fun t ht hW => ⟨⟨(), rfl, trivial, x81, v106na0_1, v106na0_2, a1_3, a1_4, fa1_5, f74, ⟨bv106na0_1.1, bv106na0_1.2⟩, hFe, by rw [ht]; exact hP, va_K.moved hW.alike hK, hD⟩, hS.F ht⟩) hS.2.2 dX0_pass_109
      · subst hw
        have hF0 := hF0.trans (if_neg (by decide))
        refine lv_if_eq (tgt := 75) hx hb dX0_pass_61 (by decide) (fun _ => ?_) (fun c61 => absurd (by decide +kernel) c61)
        refine lv_aload_n hx hb dX0_pass_75 rfl (lv_at hl 4 rfl) ?_
        refine lv_dup hx hb dX0_pass_76 rfl ?_
        refine va_get (D := (dC, dI)) (ci := 5) (v := .int a1_0) (C := RX5) (T := TX5) (N := 7) hx hb hts zi_X0_pass_5 hown hK hP 1 rfl rfl 0 (by decide) (hts (.fieldLink RX0 102 "WaxTurns$Scene" "minute" "I") (zm_X0_pass_r1 (List.mem_of_getElem? (i := 3) rfl))) (fun _ h9 => h9) rfl dX0_pass_77 ?_
        refine lv_iconst (v := 1) hx hb dX0_pass_80 zk_iconst_1 ?_
        refine lv_iadd hx hb dX0_pass_81 ?_
        refine lv_topi (fun x81 ex81 => ?_)
        have fqx81 := fl_iadd_eq ex81
        have hF0 := hF0.trans (fl_lt_eq (show x81.toInt = fl_iadd a1_0.toInt 1 from fqx81))
        refine va_put (D := (dC, dI)) (ci := 5) (v := .int x81) (ty := .int) (C := RX5) (T := TX5) (N := 7) hx hb hts zi_X0_pass_5 tyX5 tyX5_ok nmX5 hown hK hP hD hS 1 rfl rfl 0 (by decide) (hts (.fieldLink RX0 102 "WaxTurns$Scene" "minute" "I") (zm_X0_pass_r1 (List.mem_of_getElem? (i := 3) rfl))) (fun _ h9 => h9) rfl (tyX5_ok 0 (by decide)) rfl rfl (Nat.le_of_ble_eq_true rfl) dX0_pass_82 (fun H locs hP hD hS => ?_)
        refine zs_1 (y := (a1, .inr (5, [.int x81, .int a1_1, .int a1_2, .int a1_3, .int a1_4, .ref a1_5, .ref a1_6]))) hP hD rfl (fun hP hD => ?_)
        refine lv_aload_n hx hb dX0_pass_85 rfl (lv_at hl 4 rfl) ?_
        refine lv_iload hx hb dX0_pass_86 (lv_at hl 1 rfl) ?_
        refine va_put (D := (dC, dI)) (ci := 5) (v := .int x10) (ty := .int) (C := RX5) (T := TX5) (N := 7) hx hb hts zi_X0_pass_5 tyX5 tyX5_ok nmX5 hown hK hP hD hS 1 rfl rfl 2 (by decide) (hts (.fieldLink RX0 84 "WaxTurns$Scene" "spent" "I") (zm_X0_pass_r1 (List.mem_of_getElem? (i := 1) rfl))) (fun _ h9 => h9) rfl (tyX5_ok 2 (by decide)) rfl rfl (Nat.le_of_ble_eq_true rfl) dX0_pass_88 (fun H locs hP hD hS => ?_)
        refine zs_1 (y := (a1, .inr (5, [.int x81, .int a1_1, .int x10, .int a1_3, .int a1_4, .ref a1_5, .ref a1_6]))) hP hD rfl (fun hP hD => ?_)
        refine lv_iload hx hb dX0_pass_91 (lv_at hl 1 rfl) ?_
        refine lv_aload_n hx hb dX0_pass_93 rfl (lv_at hl 3 rfl) ?_
        refine va_get (D := (dC, dI)) (ci := 0) (v := .int a0_1) (C := RX0) (T := TX0) (N := 15) hx hb hts zi_X0_pass_0 hown hK hP 0 rfl rfl 1 (by decide) (hts (.fieldLink RX0 48 "WaxTurns$Hall" "span" "I") (zm_X0_pass_r1 (List.mem_of_getElem? (i := 5) rfl))) (fun _ h9 => h9) rfl dX0_pass_94 ?_
        refine lv_icmp_lt (tgt := 109) hx hb dX0_pass_97 (by decide) (fun c97 => ?_) (fun c97 => ?_)
        · have gc97 := ai_lt c97
          have u97t_x10 : x10.toInt ≤ (2147483646 : Int) := ai_lthi gc97 (ai_max a0_1)
          have l97t_a0_1 : (-2147483647 : Int) ≤ a0_1.toInt := ai_ltlo gc97 (ai_min x10)
          have hF0 := hF0.trans (if_pos (show x10.toInt < a0_1.toInt from gc97))
          have hFe : FX = (x81.toInt, a1_1.toInt, x10.toInt, a1_3.toInt, a1_4.toInt, (fl_A fa1_5), (fl_A fa1_6)) := hF0
          exact W.vret hx hb hr (fun t ht hW => ⟨⟨(), rfl, trivial, x81, a1_1, x10, a1_3, a1_4, fa1_5, fa1_6, ⟨ba1_1_l, ba1_1_u⟩, hFe, by rw [ht]; exact hP, va_K.moved hW.alike hK, hD⟩, hS.F ht⟩) hS.2.2 dX0_pass_109
        · have gc97 := ai_nlt c97
          have hF0 := hF0.trans (if_neg (show ¬ (x10.toInt < a0_1.toInt) from Int.not_lt.mpr gc97))
          refine lv_aload_n hx hb dX0_pass_100 rfl (lv_at hl 4 rfl) ?_
          refine lv_aload_n hx hb dX0_pass_101 rfl (lv_at hl 3 rfl) ?_
          refine lv_iload_n hx hb dX0_pass_102 rfl (lv_at hl 2 rfl) ?_
          refine va_calli (va_runV (As := [.int a1_1]) (rest := [.ref a1]) ⟨hx, hb, hml, hown, hts⟩ (f_X0_next l dC dI H.size a0 a1_1 a0_0 (.int a0_1) (.int a0_2) a0g_3 a0g_4 a0g_7 a0g_8 a0g_9 (.ref a0_10) (.ref a0_11) a0g_12 a0g_13 a0g_14 a0_5 a0_6 ba1_1_l ba1_1_u ba0_0_l ba0_0_u ba0_5_l ba0_5_u ba0_6_l ba0_6_u) (cwV 1 hts gX0_pass_X0_next rfl rfl rfl zd_X0_next ⟨Nat.le_of_ble_eq_true rfl, Nat.le_of_ble_eq_true rfl⟩) ⟨ax_blind (fun _ _ _ _ _ => trivial), zr_0 (zp_K hK) (zp_P1 hP) (q0 := 0) rfl, ax_pre (zp_P1 hP) (zp_K hK) (zp_D1 hD) (fun _ _ => trivial)⟩ rfl rfl hl.1 rfl (lv_room (Nat.le_of_ble_eq_true rfl)) dX0_pass_103 ⟨Nat.le_of_ble_eq_true rfl, Nat.le_of_ble_eq_true rfl⟩) hS (fun q _ h => zp_F1 hD hS hA q h) (zp_F1 hD hS hA) (fun r103 u t H locs ht hvm hw hB hz1 hk1 hS1 => zo1 hB ht hP hD hk1 (zp_F1 hD hS hA) hS1 (fun hP hK1 hD hS => ?_))
          obtain ⟨hw, hfr103⟩ := hw
          have hc103 : Ff_X0_next a1_1.toInt a0_0.toInt a0_5.toInt a0_6.toInt = r103.toInt := hfr103.symm
          have hF0 := hF0.trans (fl_lt_eq hc103.symm)
          have hw : (0 : Int) ≤ r103.toInt ∧ r103.toInt ≤ (8 : Int) := hw
          obtain ⟨h103_0, h103_1⟩ := hw
          refine zc_cutc (wc := [(a1, .inr (5, [.int x81, .int a1_1, .int x10, .int a1_3, .int a1_4, .ref a1_5, .ref a1_6]))]) hP hD hS hA [1] (by decide +kernel) rfl (fun hPc hDc hFc hCc => ?_)
          have hKc := zp_K hK
          refine va_callv (va_runV (As := [.int r103]) (rest := []) ⟨hx, hb, hml, hown, hts⟩ (f_X5_startTurn l dC dI H.size a1 r103 (.int x81) (.int a1_3) (.int a1_4) (.ref a1_5) (.ref a1_6) a1_1 x10 h103_0 h103_1 ba1_1_l ba1_1_u) (cwV 1 hts gX0_pass_X5_startTurn rfl rfl rfl zd_X5_startTurn ⟨Nat.le_of_ble_eq_true rfl, Nat.le_of_ble_eq_true rfl⟩) ⟨ax_blind (fun _ _ _ _ _ => trivial), zr_5 hKc hPc (q0 := 0) rfl, ax_pre hPc hKc hDc (fun _ _ => trivial)⟩ rfl rfl hl.1 rfl (lv_room (Nat.le_of_ble_eq_true rfl)) dX0_pass_106 ⟨Nat.le_of_ble_eq_true rfl, Nat.le_of_ble_eq_true rfl⟩) hS (fun q _ h => hFc q h) hFc (fun u t H locs ht hvm hw => zx_2 (fun v106na0_1 v106na0_2 => zy_2 (fun bv106na0_1 hraw106_0 hB hz1 hk1 hS1 => zo hB ht hS1 (fun hP1 hK1 hD1 hS => ?_))))
          refine zc_backc (w := [(a0, .inr (0, [.int a0_0, .int a0_1, .int a0_2, a0g_3, a0g_4, .int a0_5, .int a0_6, a0g_7, a0g_8, a0g_9, .ref a0_10, .ref a0_11, a0g_12, a0g_13, a0g_14])), (a1, .inr (5, [.int x81, .int v106na0_1, .int v106na0_2, .int a1_3, .int a1_4, .ref a1_5, .ref a1_6])), (a0_10, .inl (ka0_10, 9, .inl (fa0_10))), (a0_11, .inl (ka0_11, 9, .inl (fa0_11))), (a1_5, .inl (ka1_5, 9, .inl (fa1_5))), (a2, .inr (6, [.int a2_0, .int a2_1, .ref a2_2, .ref a2_3])), (a2_3, .inl (ka2_3, 3, .inl (fa2_3))), (a2_2, .inl (ka2_2, 3, .inl (fa2_2))), (a1_6, .inl (ka1_6, 9, .inl (fa1_6)))]) hP hD hCc hk1 hFc hP1 hD1 [.inl 0, .inr 0, .inl 2, .inl 3, .inl 4, .inl 5, .inl 6, .inl 7, .inl 8] (by decide +kernel) rfl (fun hP hD => ?_)
          have hc106 : Ff_X5_startTurn r103.toInt = (v106na0_1.toInt, v106na0_2.toInt) := hraw106_0
          have hF0 := hF0.trans (fl_c2_eq hc106)
          have hFe : FX = (x81.toInt, v106na0_1.toInt, v106na0_2.toInt, a1_3.toInt, a1_4.toInt, (fl_A fa1_5), (fl_A fa1_6)) := hF0
          exact W.vret hx hb hr (fun t ht hW => ⟨⟨(), rfl, trivial, x81, v106na0_1, v106na0_2, a1_3, a1_4, fa1_5, fa1_6, ⟨bv106na0_1.1, bv106na0_1.2⟩, hFe, by rw [ht]; exact hP, va_K.moved hW.alike hK, hD⟩, hS.F ht⟩) hS.2.2 dX0_pass_109
end P314_01_f
section P314_02_f
set_option maxHeartbeats 4000000 in
set_option maxRecDepth 100000 in
theorem f_X8_hasBit (l : Launch) (dC : Nat → ClassId) (dI : Nat → Nat → Nat) (sz : Nat) (a1 : Int32) (a2 : Int32)  : zm l yX8_hasBit wsX8_hasBit ({ frames := 0, cells := 0, slots := 0, locals := 0 }) [.int a1, .int a2] dC dI sz [] [] (fun A _ => True) (fun A => va_Qi (fun (r : Int32) (_ : Unit) => ((r = 1) ∨ (r = 0)) ∧ r.toInt = Ff_X8_hasBit a1.toInt a2.toInt) (fun (_ : Unit) (t : State) => ax_B dC dI A [] [] t) A) := by
  refine zh (cc := cX8_hasBit) (maxL := 2) (ret := (some .boolean)) zn_RX8 rfl (Nat.le_of_ble_eq_true rfl) (fun p e s m below meth c A ls hx hb hml hr hts (hown : s.vm.findClass RX8 = some m.cls) hlocks hA hS hP hK hD hE (hl : lv_has ls 2 [(0, .int a1), (1, .int a2)]) => ?_)
  generalize hFX : Ff_X8_hasBit a1.toInt a2.toInt = FX at ⊢
  have hF0 := hFX.symm.trans (Ff_X8_hasBit.eq_1 a1.toInt a2.toInt)
  refine lv_iload_n hx hb dX8_hasBit_0 rfl (lv_at hl 0 rfl) ?_
  refine lv_iload_n hx hb dX8_hasBit_1 rfl (lv_at hl 1 rfl) ?_
  refine lv_ishr hx hb dX8_hasBit_2 ?_
  refine lv_topi (fun x2 ex2 => ?_)
  have fqx2 := fl_shr_eq ex2
  have hF0 := hF0.trans (fl_lt_eq (show x2.toInt = fl_shr a1.toInt a2.toInt from fqx2))
  refine lv_iconst (v := 1) hx hb dX8_hasBit_3 zk_iconst_1 ?_
  refine lv_iand hx hb dX8_hasBit_4 ?_
  refine lv_topi (fun x4 ex4 => ?_)
  have fqx4 := fl_and_eq ex4
  have hF0 := hF0.trans (fl_lt_eq (show x4.toInt = fl_and x2.toInt 1 from fqx4))
  refine lv_iconst (v := 1) hx hb dX8_hasBit_5 zk_iconst_1 ?_
  refine lv_icmp_ne (tgt := 13) hx hb dX8_hasBit_6 (by decide) (fun c6 => ?_) (fun c6 => ?_)
  · have gc6 := ai_ne c6
    have hF0 := hF0.trans (if_neg (show ¬ (x4.toInt = 1) from  gc6))
    refine lv_iconst (v := 0) hx hb dX8_hasBit_13 zk_iconst_0 ?_
    have hFe : FX = 0 := hF0
    exact W.zret (v := 0) hx hb hr rfl (fun t ht hW => ⟨⟨0, (), rfl, ⟨(Or.inr (rfl)), hFe.symm⟩, by rw [ht]; exact hP, va_K.moved hW.alike hK, hD⟩, hS.F ht⟩) hS.2.2 dX8_hasBit_14
  · have gc6 := ai_eq c6
    have u6f_x4 : x4.toInt ≤ (1 : Int) := Int.le_trans (Int.le_of_eq gc6) zq0
    have l6f_x4 : (1 : Int) ≤ x4.toInt := Int.le_trans zq1 (Int.le_of_eq gc6.symm)
    have hF0 := hF0.trans (if_pos (show x4.toInt = 1 from gc6))
    refine lv_iconst (v := 1) hx hb dX8_hasBit_9 zk_iconst_1 ?_
    refine lv_goto (tgt := 14) hx hb dX8_hasBit_10 (by decide) ?_
    have hFe : FX = 1 := hF0
    exact W.zret (v := 1) hx hb hr rfl (fun t ht hW => ⟨⟨1, (), rfl, ⟨(Or.inl (rfl)), hFe.symm⟩, by rw [ht]; exact hP, va_K.moved hW.alike hK, hD⟩, hS.F ht⟩) hS.2.2 dX8_hasBit_14

set_option maxHeartbeats 4000000 in
set_option maxRecDepth 100000 in
theorem f_X8_watchAsTold (l : Launch) (dC : Nat → ClassId) (dI : Nat → Nat → Nat) (sz : Nat) (a0 : Nat) (a0g_0 a0g_1 a0g_2 a0g_3 a0g_4 a0g_5 a0g_6 a0g_7 a0g_8 a0g_9 a0g_10 a0g_11 a0g_12 a0g_13 a0g_14 a0g_16 a0g_17 a0g_18 a0g_19 a0g_20 a0g_21 a0g_22 a0g_26 a0g_27 a0g_28 a0g_29 a0g_30 a0g_31 a0g_32 a0g_33 a0g_34 a0g_35 a0g_36 a0g_37 a0g_38 a0g_39 : Value) (a0_15 : Nat) (a0_23 : Nat) (a0_24 : Nat) (a0_25 : Int32) (ka0_15 : ClassId) (fa0_15 : Nat → Int32) (ka0_23 : ClassId) (fa0_23 : Nat → Int32) (ka0_24 : ClassId) (fa0_24 : Nat → Int32) (bfa0_15 : ((∀ k : Nat, 0 ≤ k → k ≤ 0 → (2 : Int) ≤ (fa0_15 k).toInt ∧ (fa0_15 k).toInt ≤ 9) ∧ (∀ k : Nat, 1 ≤ k → k ≤ 1 → (1 : Int) ≤ (fa0_15 k).toInt ∧ (fa0_15 k).toInt ≤ 20) ∧ (∀ k : Nat, 2 ≤ k → k ≤ 2 → (0 : Int) ≤ (fa0_15 k).toInt ∧ (fa0_15 k).toInt ≤ 8) ∧ (∀ k : Nat, 3 ≤ k → k ≤ 3 → (0 : Int) ≤ (fa0_15 k).toInt ∧ (fa0_15 k).toInt ≤ 100) ∧ (∀ k : Nat, 4 ≤ k → k ≤ 4 → (0 : Int) ≤ (fa0_15 k).toInt ∧ (fa0_15 k).toInt ≤ 9) ∧ (∀ k : Nat, 5 ≤ k → k ≤ 5 → (0 : Int) ≤ (fa0_15 k).toInt ∧ (fa0_15 k).toInt ≤ 3) ∧ (∀ k : Nat, 6 ≤ k → k ≤ 6 → (0 : Int) ≤ (fa0_15 k).toInt ∧ (fa0_15 k).toInt ≤ 6) ∧ (∀ k : Nat, 7 ≤ k → k ≤ 9 → (0 : Int) ≤ (fa0_15 k).toInt ∧ (fa0_15 k).toInt ≤ 8) ∧ (∀ k : Nat, 12 ≤ k → k ≤ 29 → (0 : Int) ≤ (fa0_15 k).toInt ∧ (fa0_15 k).toInt ≤ 20) ∧ (∀ k : Nat, 30 ≤ k → k ≤ 35 → (0 : Int) ≤ (fa0_15 k).toInt ∧ (fa0_15 k).toInt ≤ 8) ∧ (∀ k : Nat, 36 ≤ k → k ≤ 47 → (0 : Int) ≤ (fa0_15 k).toInt ∧ (fa0_15 k).toInt ≤ 999))) (bfa0_23 : (∀ k, (0 : Int) ≤ (fa0_23 k).toInt ∧ (fa0_23 k).toInt ≤ 80)) (bfa0_24 : (∀ k, (0 : Int) ≤ (fa0_24 k).toInt ∧ (fa0_24 k).toInt ≤ 80)) : zm l yX8_watchAsTold wsX8_watchAsTold ({ frames := 0, cells := 0, slots := 0, locals := 0 }) [.ref a0] dC dI sz [(a0, .inr (8, [a0g_0, a0g_1, a0g_2, a0g_3, a0g_4, a0g_5, a0g_6, a0g_7, a0g_8, a0g_9, a0g_10, a0g_11, a0g_12, a0g_13, a0g_14, Value.ref a0_15, a0g_16, a0g_17, a0g_18, a0g_19, a0g_20, a0g_21, a0g_22, Value.ref a0_23, Value.ref a0_24, Value.int a0_25, a0g_26, a0g_27, a0g_28, a0g_29, a0g_30, a0g_31, a0g_32, a0g_33, a0g_34, a0g_35, a0g_36, a0g_37, a0g_38, a0g_39])), (a0_15, .inl (ka0_15, 156, .inl (fa0_15))), (a0_23, .inl (ka0_23, 3, .inl (fa0_23))), (a0_24, .inl (ka0_24, 3, .inl (fa0_24)))] [(ka0_15, .int), (ka0_23, .int), (ka0_24, .int)] (fun A _ => True) (fun A => va_Qv (fun (_ : Unit) => True) (fun (_ : Unit) (t : State) => ∃ na0_25 : Int32, ∃ nfa0_23 : Nat → Int32, ∃ nfa0_24 : Nat → Int32, (∀ k, (0 : Int) ≤ (nfa0_23 k).toInt ∧ (nfa0_23 k).toInt ≤ 80) ∧ (∀ k, (0 : Int) ≤ (nfa0_24 k).toInt ∧ (nfa0_24 k).toInt ≤ 80) ∧ (Ff_X8_watchAsTold (fl_A fa0_15) (fl_A fa0_23) (fl_A fa0_24) = (na0_25.toInt, (fl_A nfa0_23), (fl_A nfa0_24))) ∧ ax_B dC dI A [(a0, .inr (8, [a0g_0, a0g_1, a0g_2, a0g_3, a0g_4, a0g_5, a0g_6, a0g_7, a0g_8, a0g_9, a0g_10, a0g_11, a0g_12, a0g_13, a0g_14, Value.ref a0_15, a0g_16, a0g_17, a0g_18, a0g_19, a0g_20, a0g_21, a0g_22, Value.ref a0_23, Value.ref a0_24, Value.int na0_25, a0g_26, a0g_27, a0g_28, a0g_29, a0g_30, a0g_31, a0g_32, a0g_33, a0g_34, a0g_35, a0g_36, a0g_37, a0g_38, a0g_39])), (a0_15, .inl (ka0_15, 156, .inl (fa0_15))), (a0_23, .inl (ka0_23, 3, .inl (nfa0_23))), (a0_24, .inl (ka0_24, 3, .inl (nfa0_24)))] [(ka0_15, .int), (ka0_23, .int), (ka0_24, .int)] t) A) := by
  refine zh (cc := cX8_watchAsTold) (maxL := 2) (ret := none) zn_RX8 rfl (Nat.le_of_ble_eq_true rfl) (fun p e s m below meth c A ls hx hb hml hr hts (hown : s.vm.findClass RX8 = some m.cls) hlocks hA hS hP hK hD hE (hl : lv_has ls 2 [(0, .ref a0)]) => ?_)
  generalize hFX : Ff_X8_watchAsTold (fl_A fa0_15) (fl_A fa0_23) (fl_A fa0_24) = FX at ⊢
  have hF0 := hFX.symm.trans (Ff_X8_watchAsTold.eq_1 (fl_A fa0_15) (fl_A fa0_23) (fl_A fa0_24))
  refine ai_open (fun K hK0 => ?_)
  refine (hK0 _ _ _).mpr ?_
  refine lv_iconst (v := 0) hx hb dX8_watchAsTold_0 zk_iconst_0 ?_
  refine lv_istore_n (lv' := [(1, .int 0), (0, .ref a0)]) hx hb dX8_watchAsTold_1 rfl hl (by decide) rfl (fun ls hl => ?_)
  have J2 : ∀ (n : Nat) (j2l1 : Int32) (j2a0_23_a : Nat → Int32) (j2a0_24_a : Nat → Int32) (H : Heap) (locs : List Loc) (ls : Array Slot), (4 : Int) - j2l1.toInt ≤ (n : Int) → (0 : Int) ≤ j2l1.toInt → j2l1.toInt ≤ (3 : Int) → (∀ k, (0 : Int) ≤ (j2a0_23_a k).toInt ∧ (j2a0_23_a k).toInt ≤ 80) → (∀ k, (0 : Int) ≤ (j2a0_24_a k).toInt ∧ (j2a0_24_a k).toInt ≤ 80) → (FX = fl_wh (fun t9 => Sf_X8_watchAsTold_2_1 (fl_A fa0_15) t9.1 t9.2.1 t9.2.2) (0, (fun _ => 0), (fun _ => 0)) n (j2l1.toInt, (fl_A j2a0_23_a), (fl_A j2a0_24_a))) → va_P (dC, dI) vwCl [(a0, .inr (8, [a0g_0, a0g_1, a0g_2, a0g_3, a0g_4, a0g_5, a0g_6, a0g_7, a0g_8, a0g_9, a0g_10, a0g_11, a0g_12, a0g_13, a0g_14, Value.ref a0_15, a0g_16, a0g_17, a0g_18, a0g_19, a0g_20, a0g_21, a0g_22, Value.ref a0_23, Value.ref a0_24, Value.int a0_25, a0g_26, a0g_27, a0g_28, a0g_29, a0g_30, a0g_31, a0g_32, a0g_33, a0g_34, a0g_35, a0g_36, a0g_37, a0g_38, a0g_39])), (a0_15, .inl (ka0_15, 156, .inl (fa0_15))), (a0_23, .inl (ka0_23, 3, .inl (j2a0_23_a))), (a0_24, .inl (ka0_24, 3, .inl (j2a0_24_a)))] H → va_D A [(a0, .inr (8, [a0g_0, a0g_1, a0g_2, a0g_3, a0g_4, a0g_5, a0g_6, a0g_7, a0g_8, a0g_9, a0g_10, a0g_11, a0g_12, a0g_13, a0g_14, Value.ref a0_15, a0g_16, a0g_17, a0g_18, a0g_19, a0g_20, a0g_21, a0g_22, Value.ref a0_23, Value.ref a0_24, Value.int a0_25, a0g_26, a0g_27, a0g_28, a0g_29, a0g_30, a0g_31, a0g_32, a0g_33, a0g_34, a0g_35, a0g_36, a0g_37, a0g_38, a0g_39])), (a0_15, .inl (ka0_15, 156, .inl (fa0_15))), (a0_23, .inl (ka0_23, 3, .inl (j2a0_23_a))), (a0_24, .inl (ka0_24, 3, .inl (j2a0_24_a)))] → va_S A s.heap H locs → lv_has ls 2 [(0, .ref a0), (1, .int j2l1)] → K H locs (F0 m 2 ls []) := by
    intro n
    induction n with
    | zero =>
      intro j2l1 j2a0_23_a j2a0_24_a H locs ls hm bj2l1_l bj2l1_u bj2a0_23_a bj2a0_24_a hF0 hP hD hS hl
      first | exact zg_0 hm bj2l1_u (by decide) | (have h8 := ai_min j2l1; have h9 := ai_max j2l1; exact absurd hm (by omega))
    | succ n ih2 =>
      intro j2l1 j2a0_23_a j2a0_24_a H locs ls hm bj2l1_l bj2l1_u bj2a0_23_a bj2a0_24_a hF0 hP hD hS hl
      refine (hK0 _ _ _).mpr ?_
      have hm2 := hm
      obtain ⟨SX2, hSX2⟩ : ∃ q9, Sf_X8_watchAsTold_2_1 (fl_A fa0_15) j2l1.toInt (fl_A j2a0_23_a) (fl_A j2a0_24_a) = q9 := ⟨_, rfl⟩
      have hF1 := hSX2.symm.trans (Sf_X8_watchAsTold_2_1.eq_1 (fl_A fa0_15) j2l1.toInt (fl_A j2a0_23_a) (fl_A j2a0_24_a))
      refine lv_iload_n hx hb dX8_watchAsTold_2 rfl (lv_at hl 1 rfl) ?_
      refine lv_aload_n hx hb dX8_watchAsTold_3 rfl (lv_at hl 0 rfl) ?_
      refine va_get (D := (dC, dI)) (ci := 8) (v := .ref a0_15) (C := RX8) (T := TX8) (N := 40) hx hb hts zi_X8_watchAsTold_8 hown hK hP 0 rfl rfl 15 (by decide) (hts (.fieldLink RX8 20 "WaxTurnsModel" "\x72" "[I") (List.mem_cons_of_mem _ (List.mem_append_left _ (List.mem_of_getElem? (i := 0) rfl)))) (fun _ h9 => h9) rfl dX8_watchAsTold_4 ?_
      refine lv_iconst (v := 5) hx hb dX8_watchAsTold_7 zk_iconst_5 ?_
      refine va_iald hx hb hK hP 1 0 rfl rfl (by unfold vp_in; decide +kernel) dX8_watchAsTold_8 ?_
      refine lv_topi (fun x8 ex8 => ?_)
      have bx8 : (0 : Int) ≤ x8.toInt ∧ x8.toInt ≤ 3 := by rw [ex8]; exact ai_rd bfa0_15.2.2.2.2.2.1 zq112 zq113 (by decide) (by decide) (by decide)
      have fqx8 := congrArg Int32.toInt ex8
      have hF1 := hF1.trans (fl_lt_eq (show x8.toInt = (fl_A fa0_15) (5) from fqx8))
      refine lv_icmp_ge (tgt := 54) hx hb dX8_watchAsTold_9 (by decide) (fun c9 => ?_) (fun c9 => ?_)
      · have gc9 := ai_le c9
        have u9t_x8 : x8.toInt ≤ (3 : Int) := bx8.2
        have l9t_j2l1 : (0 : Int) ≤ j2l1.toInt := bj2l1_l
        have hF1 := hF1.trans (if_pos (show x8.toInt ≤ j2l1.toInt from gc9))
        have hF0 := hF0.trans (fl_wh_r (hSX2.trans hF1))
        refine lv_aload_n hx hb dX8_watchAsTold_54 rfl (lv_at hl 0 rfl) ?_
        refine lv_iconst (v := 0) hx hb dX8_watchAsTold_55 zk_iconst_0 ?_
        refine va_put (D := (dC, dI)) (ci := 8) (v := .int 0) (ty := .int) (C := RX8) (T := TX8) (N := 40) hx hb hts zi_X8_watchAsTold_8 tyX8 tyX8_ok nmX8 hown hK hP hD hS 0 rfl rfl 25 (by decide) (hts (.fieldLink RX8 235 "WaxTurnsModel" "stood" "I") (List.mem_cons_of_mem _ (List.mem_append_left _ (List.mem_of_getElem? (i := 3) rfl)))) (fun _ h9 => h9) rfl (tyX8_ok 25 (by decide)) rfl rfl (Nat.le_of_ble_eq_true rfl) dX8_watchAsTold_56 (fun H locs hP hD hS => ?_)
        refine zs_0 (y := (a0, .inr (8, [a0g_0, a0g_1, a0g_2, a0g_3, a0g_4, a0g_5, a0g_6, a0g_7, a0g_8, a0g_9, a0g_10, a0g_11, a0g_12, a0g_13, a0g_14, Value.ref a0_15, a0g_16, a0g_17, a0g_18, a0g_19, a0g_20, a0g_21, a0g_22, Value.ref a0_23, Value.ref a0_24, Value.int 0, a0g_26, a0g_27, a0g_28, a0g_29, a0g_30, a0g_31, a0g_32, a0g_33, a0g_34, a0g_35, a0g_36, a0g_37, a0g_38, a0g_39]))) hP hD rfl (fun hP hD => ?_)
        have hFe : FX = (0, (fl_A j2a0_23_a), (fl_A j2a0_24_a)) := hF0
        exact W.vret hx hb hr (fun t ht hW => ⟨⟨(), rfl, trivial, 0, j2a0_23_a, j2a0_24_a, bj2a0_23_a, bj2a0_24_a, hFe, by rw [ht]; exact hP, va_K.moved hW.alike hK, hD⟩, hS.F ht⟩) hS.2.2 dX8_watchAsTold_59
      · have gc9 := ai_nle c9
        have u9f_j2l1 : j2l1.toInt ≤ (2 : Int) := ai_lthi gc9 bx8.2
        have l9f_x8 : (1 : Int) ≤ x8.toInt := ai_ltlo gc9 bj2l1_l
        have hF1 := hF1.trans (if_neg (show ¬ (x8.toInt ≤ j2l1.toInt) from Int.not_le.mpr gc9))
        refine lv_aload_n hx hb dX8_watchAsTold_12 rfl (lv_at hl 0 rfl) ?_
        refine va_get (D := (dC, dI)) (ci := 8) (v := .ref a0_23) (C := RX8) (T := TX8) (N := 40) hx hb hts zi_X8_watchAsTold_8 hown hK hP 0 rfl rfl 23 (by decide) (hts (.fieldLink RX8 38 "WaxTurnsModel" "from" "[I") (List.mem_cons_of_mem _ (List.mem_append_left _ (List.mem_of_getElem? (i := 1) rfl)))) (fun _ h9 => h9) rfl dX8_watchAsTold_13 ?_
        refine lv_iload_n hx hb dX8_watchAsTold_16 rfl (lv_at hl 1 rfl) ?_
        refine lv_aload_n hx hb dX8_watchAsTold_17 rfl (lv_at hl 0 rfl) ?_
        refine va_get (D := (dC, dI)) (ci := 8) (v := .ref a0_15) (C := RX8) (T := TX8) (N := 40) hx hb hts zi_X8_watchAsTold_8 hown hK hP 0 rfl rfl 15 (by decide) (hts (.fieldLink RX8 20 "WaxTurnsModel" "\x72" "[I") (List.mem_cons_of_mem _ (List.mem_append_left _ (List.mem_of_getElem? (i := 0) rfl)))) (fun _ h9 => h9) rfl dX8_watchAsTold_18 ?_
        refine lv_bipush (v := 30) hx hb dX8_watchAsTold_21 zk_bipush_30 ?_
        refine lv_iconst (v := 2) hx hb dX8_watchAsTold_23 zk_iconst_2 ?_
        refine lv_iload_n hx hb dX8_watchAsTold_24 rfl (lv_at hl 1 rfl) ?_
        refine lv_imul hx hb dX8_watchAsTold_25 ?_
        refine lv_topi (fun x25 ex25 => ?_)
        have qx25 : x25.toInt = (2 : Int32).toInt * j2l1.toInt ∧ (0 : Int) ≤ x25.toInt ∧ x25.toInt ≤ 4 := ai_mul ex25 ⟨zq12, zq13⟩ ⟨bj2l1_l, u9f_j2l1⟩ (by decide) (by decide) zq150
        have wx25 : x25.toInt = 2 * j2l1.toInt := qx25.1
        have hF1 := hF1.trans (fl_lt_eq (show x25.toInt = 2 * j2l1.toInt from qx25.1))
        refine lv_iadd hx hb dX8_watchAsTold_26 ?_
        refine lv_topi (fun x26 ex26 => ?_)
        have qx26 : x26.toInt = (30 : Int32).toInt + x25.toInt := ai_add ex26 ⟨zq151, zq152⟩ ⟨qx25.2.1, qx25.2.2⟩ (by decide) (by decide)
        have bx26 : (30 : Int) ≤ x26.toInt ∧ x26.toInt ≤ 34 := ⟨by rw [qx26]; exact Int.add_le_add zq151 qx25.2.1, by rw [qx26]; exact Int.add_le_add zq152 qx25.2.2⟩
        have wx26 : x26.toInt = 30 + x25.toInt := qx26
        have hF1 := hF1.trans (fl_lt_eq (show x26.toInt = 30 + x25.toInt from qx26))
        refine va_iald hx hb hK hP 1 0 rfl rfl (ai_in bx26.1 bx26.2 (by decide) (by decide)) dX8_watchAsTold_27 ?_
        refine lv_topi (fun x27 ex27 => ?_)
        have bx27 : (0 : Int) ≤ x27.toInt ∧ x27.toInt ≤ 8 := by rw [ex27]; exact ai_rd bfa0_15.2.2.2.2.2.2.2.2.2.1 bx26.1 bx26.2 (by decide) (by decide) (by decide)
        have fqx27 := congrArg Int32.toInt ex27
        have hF1 := hF1.trans (fl_lt_eq (show x27.toInt = (fl_A fa0_15) (x26.toInt.toNat) from fqx27))
        refine va_iast hx hb hK hP hD hS 2 1 rfl rfl (ai_in bj2l1_l u9f_j2l1 (by decide) (by decide)) dX8_watchAsTold_28 (fun H locs hP hD hS => ?_)
        obtain ⟨f28, ef28⟩ : ∃ g9 : Nat → Int32, g9 = upd j2a0_23_a (j2l1 : Int32).toNatClampNeg x27 := ⟨_, rfl⟩
        refine zs_2 (y := (a0_23, .inl (ka0_23, 3, .inl (f28)))) hP hD (by rw [ef28]) (fun hP hD => ?_)
        have bf28 : (∀ k, (0 : Int) ≤ (f28 k).toInt ∧ (f28 k).toInt ≤ 80) := by rw [ef28]; exact ai_upd bj2a0_23_a _ ⟨bx27.1, (Int.le_trans bx27.2 zq10)⟩
        have fqf28 := fl_up_eq ef28
        have hF1 := hF1.trans (fl_lt_eq (show (fl_A f28) = fl_up (fl_A j2a0_23_a) (j2l1.toInt.toNat) x27.toInt from fqf28))
        refine lv_aload_n hx hb dX8_watchAsTold_29 rfl (lv_at hl 0 rfl) ?_
        refine va_get (D := (dC, dI)) (ci := 8) (v := .ref a0_24) (C := RX8) (T := TX8) (N := 40) hx hb hts zi_X8_watchAsTold_8 hown hK hP 0 rfl rfl 24 (by decide) (hts (.fieldLink RX8 41 "WaxTurnsModel" "to" "[I") (List.mem_cons_of_mem _ (List.mem_append_left _ (List.mem_of_getElem? (i := 2) rfl)))) (fun _ h9 => h9) rfl dX8_watchAsTold_30 ?_
        refine lv_iload_n hx hb dX8_watchAsTold_33 rfl (lv_at hl 1 rfl) ?_
        refine lv_aload_n hx hb dX8_watchAsTold_34 rfl (lv_at hl 0 rfl) ?_
        refine va_get (D := (dC, dI)) (ci := 8) (v := .ref a0_15) (C := RX8) (T := TX8) (N := 40) hx hb hts zi_X8_watchAsTold_8 hown hK hP 0 rfl rfl 15 (by decide) (hts (.fieldLink RX8 20 "WaxTurnsModel" "\x72" "[I") (List.mem_cons_of_mem _ (List.mem_append_left _ (List.mem_of_getElem? (i := 0) rfl)))) (fun _ h9 => h9) rfl dX8_watchAsTold_35 ?_
        refine lv_bipush (v := 30) hx hb dX8_watchAsTold_38 zk_bipush_30 ?_
        refine lv_iconst (v := 2) hx hb dX8_watchAsTold_40 zk_iconst_2 ?_
        refine lv_iload_n hx hb dX8_watchAsTold_41 rfl (lv_at hl 1 rfl) ?_
        refine lv_imul hx hb dX8_watchAsTold_42 ?_
        refine ax_ti x25 ex25.symm ?_
        refine lv_iadd hx hb dX8_watchAsTold_43 ?_
        refine ax_ti x26 ex26.symm ?_
        refine lv_iconst (v := 1) hx hb dX8_watchAsTold_44 zk_iconst_1 ?_
        refine lv_iadd hx hb dX8_watchAsTold_45 ?_
        refine lv_topi (fun x45 ex45 => ?_)
        have qx45 : x45.toInt = x26.toInt + (1 : Int32).toInt := ai_add ex45 ⟨bx26.1, bx26.2⟩ ⟨zq1, zq0⟩ (by decide) (by decide)
        have bx45 : (31 : Int) ≤ x45.toInt ∧ x45.toInt ≤ 35 := ⟨by rw [qx45]; exact Int.add_le_add bx26.1 zq1, by rw [qx45]; exact Int.add_le_add bx26.2 zq0⟩
        have wx45 : x45.toInt = x26.toInt + 1 := qx45
        have hF1 := hF1.trans (fl_lt_eq (show x45.toInt = x26.toInt + 1 from qx45))
        refine va_iald hx hb hK hP 1 0 rfl rfl (ai_in bx45.1 bx45.2 (by decide) (by decide)) dX8_watchAsTold_46 ?_
        refine lv_topi (fun x46 ex46 => ?_)
        have bx46 : (0 : Int) ≤ x46.toInt ∧ x46.toInt ≤ 8 := by rw [ex46]; exact ai_rd bfa0_15.2.2.2.2.2.2.2.2.2.1 bx45.1 bx45.2 (by decide) (by decide) (by decide)
        have fqx46 := congrArg Int32.toInt ex46
        have hF1 := hF1.trans (fl_lt_eq (show x46.toInt = (fl_A fa0_15) (x45.toInt.toNat) from fqx46))
        refine va_iast hx hb hK hP hD hS 3 2 rfl rfl (ai_in bj2l1_l u9f_j2l1 (by decide) (by decide)) dX8_watchAsTold_47 (fun H locs hP hD hS => ?_)
        obtain ⟨f47, ef47⟩ : ∃ g9 : Nat → Int32, g9 = upd j2a0_24_a (j2l1 : Int32).toNatClampNeg x46 := ⟨_, rfl⟩
        refine zs_3 (y := (a0_24, .inl (ka0_24, 3, .inl (f47)))) hP hD (by rw [ef47]) (fun hP hD => ?_)
        have bf47 : (∀ k, (0 : Int) ≤ (f47 k).toInt ∧ (f47 k).toInt ≤ 80) := by rw [ef47]; exact ai_upd bj2a0_24_a _ ⟨bx46.1, (Int.le_trans bx46.2 zq10)⟩
        have fqf47 := fl_up_eq ef47
        have hF1 := hF1.trans (fl_lt_eq (show (fl_A f47) = fl_up (fl_A j2a0_24_a) (j2l1.toInt.toNat) x46.toInt from fqf47))
        obtain ⟨x48, ex48⟩ : ∃ y : Int32, y = j2l1 + Int32.ofInt 1 := ⟨_, rfl⟩
        have qx48 : x48.toInt = j2l1.toInt + 1 := ai_inc ex48 (by decide) (by decide) u9f_j2l1 (by decide)
        have bx48 : (1 : Int) ≤ x48.toInt ∧ x48.toInt ≤ 3 := ⟨by rw [qx48]; exact Int.add_le_add bj2l1_l (Int.le_refl _), by rw [qx48]; exact Int.add_le_add u9f_j2l1 (Int.le_refl _)⟩
        refine lv_iinc (v := x48) (lv' := [(1, .int x48), (0, .ref a0)]) hx hb dX8_watchAsTold_48 hl (k := 1) rfl ex48.symm (by decide) rfl (fun ls hl => ?_)
        have hF1 := hF1.trans (fl_lt_eq (show x48.toInt = j2l1.toInt + 1 from qx48))
        refine lv_goto (tgt := 2) hx hb dX8_watchAsTold_51 (by decide) ?_
        exact (hK0 _ _ _).mp (ih2 x48 f28 f47 _ _ _ (by first | exact zg_s hm2 qx48 | (have h0 := qx48; omega)) (Int.le_trans zq4 bx48.1) bx48.2 bf28 bf47 (hF0.trans (fl_wh_l (hSX2.trans hF1))) hP hD hS (lv_sub hl [1, 0] rfl))
  exact (hK0 _ _ _).mp (J2 4 0 fa0_23 fa0_24 _ _ _ (by first | decide +kernel | (have h1 : (0 : Int) ≤ (0 : Int32).toInt := zq5; have h2 : (0 : Int32).toInt ≤ (0 : Int) := zq6; omega)) zq5 (Int.le_trans zq6 zq11) bfa0_23 bfa0_24 (by rw [show (0 : Int32).toInt = 0 from by decide]; exact hF0) hP hD hS (lv_sub hl [1, 0] rfl))

set_option maxHeartbeats 4000000 in
set_option maxRecDepth 100000 in
theorem f_X8_watcherAt (l : Launch) (dC : Nat → ClassId) (dI : Nat → Nat → Nat) (sz : Nat) (a0 : Nat) (a1 : Int32) (a2 : Int32) (a0g_0 a0g_1 a0g_2 a0g_3 a0g_4 a0g_5 a0g_6 a0g_7 a0g_8 a0g_9 a0g_10 a0g_11 a0g_12 a0g_13 a0g_14 a0g_15 a0g_16 a0g_17 a0g_18 a0g_19 a0g_20 a0g_21 a0g_22 a0g_25 a0g_26 a0g_27 a0g_28 a0g_29 a0g_30 a0g_31 a0g_32 a0g_33 a0g_34 a0g_35 a0g_36 a0g_37 a0g_38 a0g_39 : Value) (a0_23 : Nat) (a0_24 : Nat) (ka0_24 : ClassId) (fa0_24 : Nat → Int32) (ka0_23 : ClassId) (fa0_23 : Nat → Int32) (ba1_l : (0 : Int) ≤ a1.toInt) (ba1_u : a1.toInt ≤ (2 : Int)) (bfa0_24 : (∀ k, (0 : Int) ≤ (fa0_24 k).toInt ∧ (fa0_24 k).toInt ≤ 80)) (bfa0_23 : (∀ k, (0 : Int) ≤ (fa0_23 k).toInt ∧ (fa0_23 k).toInt ≤ 80)) : zm l yX8_watcherAt wsX8_watcherAt ({ frames := 0, cells := 0, slots := 0, locals := 0 }) [.ref a0, .int a1, .int a2] dC dI sz [(a0, .inr (8, [a0g_0, a0g_1, a0g_2, a0g_3, a0g_4, a0g_5, a0g_6, a0g_7, a0g_8, a0g_9, a0g_10, a0g_11, a0g_12, a0g_13, a0g_14, a0g_15, a0g_16, a0g_17, a0g_18, a0g_19, a0g_20, a0g_21, a0g_22, Value.ref a0_23, Value.ref a0_24, a0g_25, a0g_26, a0g_27, a0g_28, a0g_29, a0g_30, a0g_31, a0g_32, a0g_33, a0g_34, a0g_35, a0g_36, a0g_37, a0g_38, a0g_39])), (a0_24, .inl (ka0_24, 3, .inl (fa0_24))), (a0_23, .inl (ka0_23, 3, .inl (fa0_23)))] [(ka0_24, .int), (ka0_23, .int)] (fun A _ => True) (fun A => va_Qi (fun (r : Int32) (_ : Unit) => (True) ∧ r.toInt = Ff_X8_watcherAt a1.toInt a2.toInt (fl_A fa0_24) (fl_A fa0_23)) (fun (_ : Unit) (t : State) => ax_B dC dI A [(a0, .inr (8, [a0g_0, a0g_1, a0g_2, a0g_3, a0g_4, a0g_5, a0g_6, a0g_7, a0g_8, a0g_9, a0g_10, a0g_11, a0g_12, a0g_13, a0g_14, a0g_15, a0g_16, a0g_17, a0g_18, a0g_19, a0g_20, a0g_21, a0g_22, Value.ref a0_23, Value.ref a0_24, a0g_25, a0g_26, a0g_27, a0g_28, a0g_29, a0g_30, a0g_31, a0g_32, a0g_33, a0g_34, a0g_35, a0g_36, a0g_37, a0g_38, a0g_39])), (a0_24, .inl (ka0_24, 3, .inl (fa0_24))), (a0_23, .inl (ka0_23, 3, .inl (fa0_23)))] [(ka0_24, .int), (ka0_23, .int)] t) A) := by
  refine zh (cc := cX8_watcherAt) (maxL := 6) (ret := (some .int)) zn_RX8 rfl (Nat.le_of_ble_eq_true rfl) (fun p e s m below meth c A ls hx hb hml hr hts (hown : s.vm.findClass RX8 = some m.cls) hlocks hA hS hP hK hD hE (hl : lv_has ls 6 [(0, .ref a0), (1, .int a1), (2, .int a2)]) => ?_)
  generalize hFX : Ff_X8_watcherAt a1.toInt a2.toInt (fl_A fa0_24) (fl_A fa0_23) = FX at ⊢
  have hF0 := hFX.symm.trans (Ff_X8_watcherAt.eq_1 a1.toInt a2.toInt (fl_A fa0_24) (fl_A fa0_23))
  refine lv_aload_n hx hb dX8_watcherAt_0 rfl (lv_at hl 0 rfl) ?_
  refine va_get (D := (dC, dI)) (ci := 8) (v := .ref a0_24) (C := RX8) (T := TX8) (N := 40) hx hb hts zi_X8_watcherAt_8 hown hK hP 0 rfl rfl 24 (by decide) (hts (.fieldLink RX8 41 "WaxTurnsModel" "to" "[I") (List.mem_cons_of_mem _ (List.mem_append_left _ (List.mem_of_getElem? (i := 0) rfl)))) (fun _ h9 => h9) rfl dX8_watcherAt_1 ?_
  refine lv_iload_n hx hb dX8_watcherAt_4 rfl (lv_at hl 1 rfl) ?_
  refine va_iald hx hb hK hP 1 0 rfl rfl (ai_in ba1_l ba1_u (by decide) (by decide)) dX8_watcherAt_5 ?_
  refine lv_topi (fun x5 ex5 => ?_)
  have bx5 : (0 : Int) ≤ x5.toInt ∧ x5.toInt ≤ 80 := by rw [ex5]; exact bfa0_24 _
  have fqx5 := congrArg Int32.toInt ex5
  have hF0 := hF0.trans (fl_lt_eq (show x5.toInt = (fl_A fa0_24) (a1.toInt.toNat) from fqx5))
  refine lv_aload_n hx hb dX8_watcherAt_6 rfl (lv_at hl 0 rfl) ?_
  refine va_get (D := (dC, dI)) (ci := 8) (v := .ref a0_23) (C := RX8) (T := TX8) (N := 40) hx hb hts zi_X8_watcherAt_8 hown hK hP 0 rfl rfl 23 (by decide) (hts (.fieldLink RX8 38 "WaxTurnsModel" "from" "[I") (List.mem_cons_of_mem _ (List.mem_append_left _ (List.mem_of_getElem? (i := 1) rfl)))) (fun _ h9 => h9) rfl dX8_watcherAt_7 ?_
  refine lv_iload_n hx hb dX8_watcherAt_10 rfl (lv_at hl 1 rfl) ?_
  refine va_iald hx hb hK hP 2 1 rfl rfl (ai_in ba1_l ba1_u (by decide) (by decide)) dX8_watcherAt_11 ?_
  refine lv_topi (fun x11 ex11 => ?_)
  have bx11 : (0 : Int) ≤ x11.toInt ∧ x11.toInt ≤ 80 := by rw [ex11]; exact bfa0_23 _
  have fqx11 := congrArg Int32.toInt ex11
  have hF0 := hF0.trans (fl_lt_eq (show x11.toInt = (fl_A fa0_23) (a1.toInt.toNat) from fqx11))
  refine lv_isub hx hb dX8_watcherAt_12 ?_
  refine lv_topi (fun x12 ex12 => ?_)
  have qx12 : x12.toInt = x5.toInt - x11.toInt := ai_sub ex12 ⟨bx5.1, bx5.2⟩ ⟨bx11.1, bx11.2⟩ (by decide) (by decide)
  have bx12 : (-80 : Int) ≤ x12.toInt ∧ x12.toInt ≤ 80 := ⟨by rw [qx12]; exact Int.sub_le_sub bx5.1 bx11.2, by rw [qx12]; exact Int.sub_le_sub bx5.2 bx11.1⟩
  have hF0 := hF0.trans (fl_lt_eq (show x12.toInt = x5.toInt - x11.toInt from qx12))
  refine lv_istore_n (lv' := [(3, .int x12), (0, .ref a0), (1, .int a1), (2, .int a2)]) hx hb dX8_watcherAt_13 rfl hl (by decide) rfl (fun ls hl => ?_)
  refine lv_iload_n hx hb dX8_watcherAt_14 rfl (lv_at hl 0 rfl) ?_
  refine lv_if_ge (tgt := 23) hx hb dX8_watcherAt_15 (by decide) (fun c15 => ?_) (fun c15 => ?_)
  · have gc15 := ai_le c15
    have l15t_x12 : (0 : Int) ≤ x12.toInt := Int.le_trans zq5 gc15
    have hF0 := hF0.trans (if_pos (show 0 ≤ x12.toInt from gc15))
    refine lv_iload_n hx hb dX8_watcherAt_23 rfl (lv_at hl 0 rfl) ?_
    refine lv_istore (lv' := [(4, .int x12), (3, .int x12), (0, .ref a0), (1, .int a1), (2, .int a2)]) hx hb dX8_watcherAt_24 hl (by decide) rfl (fun ls hl => ?_)
    refine lv_iload hx hb dX8_watcherAt_26 (lv_at hl 0 rfl) ?_
    refine lv_if_ne (tgt := 38) hx hb dX8_watcherAt_28 (by decide) (fun c28 => ?_) (fun c28 => ?_)
    · have gc28 := ai_ne c28
      have l28t_x12 : (1 : Int) ≤ x12.toInt := (by first | exact zg_l l15t_x12 gc28 (by decide) (by decide) | (have h1 := l15t_x12; have h2 : (0 : Int32).toInt = 0 := (by decide); rw [h2] at gc28; omega))
      have hF0 := hF0.trans (if_neg (show ¬ (x12.toInt = 0) from  gc28))
      refine lv_iload_n hx hb dX8_watcherAt_38 rfl (lv_at hl 4 rfl) ?_
      refine lv_iconst (v := 2) hx hb dX8_watcherAt_39 zk_iconst_2 ?_
      refine lv_iload hx hb dX8_watcherAt_40 (lv_at hl 0 rfl) ?_
      refine lv_imul hx hb dX8_watcherAt_42 ?_
      refine lv_topi (fun x42 ex42 => ?_)
      have qx42 : x42.toInt = (2 : Int32).toInt * x12.toInt ∧ (2 : Int) ≤ x42.toInt ∧ x42.toInt ≤ 160 := ai_mul ex42 ⟨zq12, zq13⟩ ⟨l28t_x12, bx12.2⟩ (by decide) (by decide) zq14
      have wx42 : x42.toInt = 2 * x12.toInt := qx42.1
      have hF0 := hF0.trans (fl_lt_eq (show x42.toInt = 2 * x12.toInt from qx42.1))
      refine lv_irem hx hb dX8_watcherAt_43 (ai_nz qx42.2.1 (by decide)) ?_
      refine lv_topi (fun x43 ex43 => ?_)
      have fqx43 := fl_rem_eq ex43
      have hF0 := hF0.trans (fl_lt_eq (show x43.toInt = fl_rem a2.toInt x42.toInt from fqx43))
      refine lv_istore (lv' := [(5, .int x43), (4, .int x12), (3, .int x12), (0, .ref a0), (1, .int a1), (2, .int a2)]) hx hb dX8_watcherAt_44 hl (by decide) rfl (fun ls hl => ?_)
      refine lv_iload hx hb dX8_watcherAt_46 (lv_at hl 0 rfl) ?_
      refine lv_iload hx hb dX8_watcherAt_48 (lv_at hl 1 rfl) ?_
      refine lv_icmp_le (tgt := 62) hx hb dX8_watcherAt_50 (by decide) (fun c50 => ?_) (fun c50 => ?_)
      · have gc50 := ai_le c50
        have u50t_x43 : x43.toInt ≤ (80 : Int) := Int.le_trans gc50 bx12.2
        have hF0 := hF0.trans (if_pos (show x43.toInt ≤ x12.toInt from gc50))
        refine lv_iload_n hx hb dX8_watcherAt_62 rfl (lv_at hl 2 rfl) ?_
        refine lv_if_ge (tgt := 78) hx hb dX8_watcherAt_63 (by decide) (fun c63 => ?_) (fun c63 => ?_)
        · have gc63 := ai_le c63
          have l63t_x12 : (1 : Int) ≤ x12.toInt := l28t_x12
          have hF0 := hF0.trans (if_pos (show 0 ≤ x12.toInt from gc63))
          refine lv_aload_n hx hb dX8_watcherAt_78 rfl (lv_at hl 3 rfl) ?_
          refine va_get (D := (dC, dI)) (ci := 8) (v := .ref a0_23) (C := RX8) (T := TX8) (N := 40) hx hb hts zi_X8_watcherAt_8 hown hK hP 0 rfl rfl 23 (by decide) (hts (.fieldLink RX8 38 "WaxTurnsModel" "from" "[I") (List.mem_cons_of_mem _ (List.mem_append_left _ (List.mem_of_getElem? (i := 1) rfl)))) (fun _ h9 => h9) rfl dX8_watcherAt_79 ?_
          refine lv_iload_n hx hb dX8_watcherAt_82 rfl (lv_at hl 4 rfl) ?_
          refine va_iald hx hb hK hP 2 1 rfl rfl (ai_in ba1_l ba1_u (by decide) (by decide)) dX8_watcherAt_83 ?_
          refine ax_ti x11 ex11.symm ?_
          refine lv_iload hx hb dX8_watcherAt_84 (lv_at hl 0 rfl) ?_
          refine lv_iadd hx hb dX8_watcherAt_86 ?_
          refine lv_topi (fun x86 ex86 => ?_)
          have qx86 : x86.toInt = x11.toInt + x43.toInt := ai_add ex86 ⟨bx11.1, bx11.2⟩ ⟨(ai_min x43), u50t_x43⟩ (by decide) (by decide)
          have bx86 : (-2147483648 : Int) ≤ x86.toInt ∧ x86.toInt ≤ 160 := ⟨by rw [qx86]; exact Int.add_le_add bx11.1 (ai_min x43), by rw [qx86]; exact Int.add_le_add bx11.2 u50t_x43⟩
          have hF0 := hF0.trans (fl_lt_eq (show x86.toInt = x11.toInt + x43.toInt from qx86))
          have hFe : FX = x86.toInt := hF0
          exact W.iret (v := x86) hx hb hr (fun t ht hW => ⟨⟨x86, (), rfl, ⟨trivial, hFe.symm⟩, by rw [ht]; exact hP, va_K.moved hW.alike hK, hD⟩, hS.F ht⟩) hS.2.2 dX8_watcherAt_87
        · have gc63 := ai_nle c63
          have u63f_x12 : x12.toInt ≤ (-1 : Int) := ai_lthi gc63 zq6
          exact absurd (Int.le_trans l28t_x12 u63f_x12) (by decide)
      · have gc50 := ai_nle c50
        have u50f_x12 : x12.toInt ≤ (80 : Int) := bx12.2
        have l50f_x43 : (2 : Int) ≤ x43.toInt := ai_ltlo gc50 l28t_x12
        have hF0 := hF0.trans (if_neg (show ¬ (x43.toInt ≤ x12.toInt) from Int.not_le.mpr gc50))
        refine lv_iconst (v := 2) hx hb dX8_watcherAt_53 zk_iconst_2 ?_
        refine lv_iload hx hb dX8_watcherAt_54 (lv_at hl 1 rfl) ?_
        refine lv_imul hx hb dX8_watcherAt_56 ?_
        refine ax_ti x42 ex42.symm ?_
        refine lv_iload hx hb dX8_watcherAt_57 (lv_at hl 0 rfl) ?_
        refine lv_isub hx hb dX8_watcherAt_59 ?_
        refine lv_topi (fun x59 ex59 => ?_)
        have qx59 : x59.toInt = x42.toInt - x43.toInt := ai_sub ex59 ⟨qx42.2.1, qx42.2.2⟩ ⟨l50f_x43, (ai_max x43)⟩ (by decide) (by decide)
        have bx59 : (-2147483645 : Int) ≤ x59.toInt ∧ x59.toInt ≤ 158 := ⟨by rw [qx59]; exact Int.sub_le_sub qx42.2.1 (ai_max x43), by rw [qx59]; exact Int.sub_le_sub qx42.2.2 l50f_x43⟩
        have hF0 := hF0.trans (fl_lt_eq (show x59.toInt = x42.toInt - x43.toInt from qx59))
        refine lv_istore (lv' := [(5, .int x59), (4, .int x12), (3, .int x12), (0, .ref a0), (1, .int a1), (2, .int a2)]) hx hb dX8_watcherAt_60 hl (by decide) rfl (fun ls hl => ?_)
        refine lv_iload_n hx hb dX8_watcherAt_62 rfl (lv_at hl 2 rfl) ?_
        refine lv_if_ge (tgt := 78) hx hb dX8_watcherAt_63 (by decide) (fun c63 => ?_) (fun c63 => ?_)
        · have gc63 := ai_le c63
          have l63t_x12 : (1 : Int) ≤ x12.toInt := l28t_x12
          have hF0 := hF0.trans (if_pos (show 0 ≤ x12.toInt from gc63))
          refine lv_aload_n hx hb dX8_watcherAt_78 rfl (lv_at hl 3 rfl) ?_
          refine va_get (D := (dC, dI)) (ci := 8) (v := .ref a0_23) (C := RX8) (T := TX8) (N := 40) hx hb hts zi_X8_watcherAt_8 hown hK hP 0 rfl rfl 23 (by decide) (hts (.fieldLink RX8 38 "WaxTurnsModel" "from" "[I") (List.mem_cons_of_mem _ (List.mem_append_left _ (List.mem_of_getElem? (i := 1) rfl)))) (fun _ h9 => h9) rfl dX8_watcherAt_79 ?_
          refine lv_iload_n hx hb dX8_watcherAt_82 rfl (lv_at hl 4 rfl) ?_
          refine va_iald hx hb hK hP 2 1 rfl rfl (ai_in ba1_l ba1_u (by decide) (by decide)) dX8_watcherAt_83 ?_
          refine ax_ti x11 ex11.symm ?_
          refine lv_iload hx hb dX8_watcherAt_84 (lv_at hl 0 rfl) ?_
          refine lv_iadd hx hb dX8_watcherAt_86 ?_
          refine lv_topi (fun x86 ex86 => ?_)
          have qx86 : x86.toInt = x11.toInt + x59.toInt := ai_add ex86 ⟨bx11.1, bx11.2⟩ ⟨bx59.1, bx59.2⟩ (by decide) (by decide)
          have bx86 : (-2147483645 : Int) ≤ x86.toInt ∧ x86.toInt ≤ 238 := ⟨by rw [qx86]; exact Int.add_le_add bx11.1 bx59.1, by rw [qx86]; exact Int.add_le_add bx11.2 bx59.2⟩
          have hF0 := hF0.trans (fl_lt_eq (show x86.toInt = x11.toInt + x59.toInt from qx86))
          have hFe : FX = x86.toInt := hF0
          exact W.iret (v := x86) hx hb hr (fun t ht hW => ⟨⟨x86, (), rfl, ⟨trivial, hFe.symm⟩, by rw [ht]; exact hP, va_K.moved hW.alike hK, hD⟩, hS.F ht⟩) hS.2.2 dX8_watcherAt_87
        · have gc63 := ai_nle c63
          have u63f_x12 : x12.toInt ≤ (-1 : Int) := ai_lthi gc63 zq6
          exact absurd (Int.le_trans l28t_x12 u63f_x12) (by decide)
    · have gc28 := ai_eq c28
      have u28f_x12 : x12.toInt ≤ (0 : Int) := Int.le_trans (Int.le_of_eq gc28) zq6
      have l28f_x12 : (0 : Int) ≤ x12.toInt := l15t_x12
      have hF0 := hF0.trans (if_pos (show x12.toInt = 0 from gc28))
      refine lv_aload_n hx hb dX8_watcherAt_31 rfl (lv_at hl 2 rfl) ?_
      refine va_get (D := (dC, dI)) (ci := 8) (v := .ref a0_23) (C := RX8) (T := TX8) (N := 40) hx hb hts zi_X8_watcherAt_8 hown hK hP 0 rfl rfl 23 (by decide) (hts (.fieldLink RX8 38 "WaxTurnsModel" "from" "[I") (List.mem_cons_of_mem _ (List.mem_append_left _ (List.mem_of_getElem? (i := 1) rfl)))) (fun _ h9 => h9) rfl dX8_watcherAt_32 ?_
      refine lv_iload_n hx hb dX8_watcherAt_35 rfl (lv_at hl 3 rfl) ?_
      refine va_iald hx hb hK hP 2 1 rfl rfl (ai_in ba1_l ba1_u (by decide) (by decide)) dX8_watcherAt_36 ?_
      refine ax_ti x11 ex11.symm ?_
      have hFe : FX = x11.toInt := hF0
      exact W.iret (v := x11) hx hb hr (fun t ht hW => ⟨⟨x11, (), rfl, ⟨trivial, hFe.symm⟩, by rw [ht]; exact hP, va_K.moved hW.alike hK, hD⟩, hS.F ht⟩) hS.2.2 dX8_watcherAt_37
  · have gc15 := ai_nle c15
    have u15f_x12 : x12.toInt ≤ (-1 : Int) := ai_lthi gc15 zq6
    have hF0 := hF0.trans (if_neg (show ¬ (0 ≤ x12.toInt) from Int.not_le.mpr gc15))
    refine lv_iload_n hx hb dX8_watcherAt_18 rfl (lv_at hl 0 rfl) ?_
    refine lv_ineg hx hb dX8_watcherAt_19 ?_
    refine lv_topi (fun x19 ex19 => ?_)
    have qx19 : x19.toInt = -x12.toInt := ai_neg ex19 bx12.1 (by decide)
    have bx19 : (1 : Int) ≤ x19.toInt ∧ x19.toInt ≤ 80 := ⟨by rw [qx19]; exact Int.neg_le_neg u15f_x12, by rw [qx19]; exact Int.neg_le_neg bx12.1⟩
    have hF0 := hF0.trans (fl_lt_eq (show x19.toInt = -x12.toInt from qx19))
    refine lv_goto (tgt := 24) hx hb dX8_watcherAt_20 (by decide) ?_
    refine lv_istore (lv' := [(4, .int x19), (3, .int x12), (0, .ref a0), (1, .int a1), (2, .int a2)]) hx hb dX8_watcherAt_24 hl (by decide) rfl (fun ls hl => ?_)
    refine lv_iload hx hb dX8_watcherAt_26 (lv_at hl 0 rfl) ?_
    refine lv_if_ne (tgt := 38) hx hb dX8_watcherAt_28 (by decide) (fun c28 => ?_) (fun c28 => ?_)
    · have gc28 := ai_ne c28
      have hF0 := hF0.trans (if_neg (show ¬ (x19.toInt = 0) from  gc28))
      refine lv_iload_n hx hb dX8_watcherAt_38 rfl (lv_at hl 4 rfl) ?_
      refine lv_iconst (v := 2) hx hb dX8_watcherAt_39 zk_iconst_2 ?_
      refine lv_iload hx hb dX8_watcherAt_40 (lv_at hl 0 rfl) ?_
      refine lv_imul hx hb dX8_watcherAt_42 ?_
      refine lv_topi (fun x42 ex42 => ?_)
      have qx42 : x42.toInt = (2 : Int32).toInt * x19.toInt ∧ (2 : Int) ≤ x42.toInt ∧ x42.toInt ≤ 160 := ai_mul ex42 ⟨zq12, zq13⟩ ⟨bx19.1, bx19.2⟩ (by decide) (by decide) zq14
      have wx42 : x42.toInt = 2 * x19.toInt := qx42.1
      have hF0 := hF0.trans (fl_lt_eq (show x42.toInt = 2 * x19.toInt from qx42.1))
      refine lv_irem hx hb dX8_watcherAt_43 (ai_nz qx42.2.1 (by decide)) ?_
      refine lv_topi (fun x43 ex43 => ?_)
      have fqx43 := fl_rem_eq ex43
      have hF0 := hF0.trans (fl_lt_eq (show x43.toInt = fl_rem a2.toInt x42.toInt from fqx43))
      refine lv_istore (lv' := [(5, .int x43), (4, .int x19), (3, .int x12), (0, .ref a0), (1, .int a1), (2, .int a2)]) hx hb dX8_watcherAt_44 hl (by decide) rfl (fun ls hl => ?_)
      refine lv_iload hx hb dX8_watcherAt_46 (lv_at hl 0 rfl) ?_
      refine lv_iload hx hb dX8_watcherAt_48 (lv_at hl 1 rfl) ?_
      refine lv_icmp_le (tgt := 62) hx hb dX8_watcherAt_50 (by decide) (fun c50 => ?_) (fun c50 => ?_)
      · have gc50 := ai_le c50
        have u50t_x43 : x43.toInt ≤ (80 : Int) := Int.le_trans gc50 bx19.2
        have hF0 := hF0.trans (if_pos (show x43.toInt ≤ x19.toInt from gc50))
        refine lv_iload_n hx hb dX8_watcherAt_62 rfl (lv_at hl 2 rfl) ?_
        refine lv_if_ge (tgt := 78) hx hb dX8_watcherAt_63 (by decide) (fun c63 => ?_) (fun c63 => ?_)
        · have gc63 := ai_le c63
          have l63t_x12 : (0 : Int) ≤ x12.toInt := Int.le_trans zq5 gc63
          exact absurd (Int.le_trans l63t_x12 u15f_x12) (by decide)
        · have gc63 := ai_nle c63
          have u63f_x12 : x12.toInt ≤ (-1 : Int) := u15f_x12
          have hF0 := hF0.trans (if_neg (show ¬ (0 ≤ x12.toInt) from Int.not_le.mpr gc63))
          refine lv_aload_n hx hb dX8_watcherAt_66 rfl (lv_at hl 3 rfl) ?_
          refine va_get (D := (dC, dI)) (ci := 8) (v := .ref a0_23) (C := RX8) (T := TX8) (N := 40) hx hb hts zi_X8_watcherAt_8 hown hK hP 0 rfl rfl 23 (by decide) (hts (.fieldLink RX8 38 "WaxTurnsModel" "from" "[I") (List.mem_cons_of_mem _ (List.mem_append_left _ (List.mem_of_getElem? (i := 1) rfl)))) (fun _ h9 => h9) rfl dX8_watcherAt_67 ?_
          refine lv_iload_n hx hb dX8_watcherAt_70 rfl (lv_at hl 4 rfl) ?_
          refine va_iald hx hb hK hP 2 1 rfl rfl (ai_in ba1_l ba1_u (by decide) (by decide)) dX8_watcherAt_71 ?_
          refine ax_ti x11 ex11.symm ?_
          refine lv_iload hx hb dX8_watcherAt_72 (lv_at hl 0 rfl) ?_
          refine lv_isub hx hb dX8_watcherAt_74 ?_
          refine lv_topi (fun x74 ex74 => ?_)
          have fqx74 := fl_isub_eq ex74
          have hF0 := hF0.trans (fl_lt_eq (show x74.toInt = fl_isub x11.toInt x43.toInt from fqx74))
          refine lv_goto (tgt := 87) hx hb dX8_watcherAt_75 (by decide) ?_
          have hFe : FX = x74.toInt := hF0
          exact W.iret (v := x74) hx hb hr (fun t ht hW => ⟨⟨x74, (), rfl, ⟨trivial, hFe.symm⟩, by rw [ht]; exact hP, va_K.moved hW.alike hK, hD⟩, hS.F ht⟩) hS.2.2 dX8_watcherAt_87
      · have gc50 := ai_nle c50
        have u50f_x19 : x19.toInt ≤ (80 : Int) := bx19.2
        have l50f_x43 : (2 : Int) ≤ x43.toInt := ai_ltlo gc50 bx19.1
        have hF0 := hF0.trans (if_neg (show ¬ (x43.toInt ≤ x19.toInt) from Int.not_le.mpr gc50))
        refine lv_iconst (v := 2) hx hb dX8_watcherAt_53 zk_iconst_2 ?_
        refine lv_iload hx hb dX8_watcherAt_54 (lv_at hl 1 rfl) ?_
        refine lv_imul hx hb dX8_watcherAt_56 ?_
        refine ax_ti x42 ex42.symm ?_
        refine lv_iload hx hb dX8_watcherAt_57 (lv_at hl 0 rfl) ?_
        refine lv_isub hx hb dX8_watcherAt_59 ?_
        refine lv_topi (fun x59 ex59 => ?_)
        have qx59 : x59.toInt = x42.toInt - x43.toInt := ai_sub ex59 ⟨qx42.2.1, qx42.2.2⟩ ⟨l50f_x43, (ai_max x43)⟩ (by decide) (by decide)
        have bx59 : (-2147483645 : Int) ≤ x59.toInt ∧ x59.toInt ≤ 158 := ⟨by rw [qx59]; exact Int.sub_le_sub qx42.2.1 (ai_max x43), by rw [qx59]; exact Int.sub_le_sub qx42.2.2 l50f_x43⟩
        have hF0 := hF0.trans (fl_lt_eq (show x59.toInt = x42.toInt - x43.toInt from qx59))
        refine lv_istore (lv' := [(5, .int x59), (4, .int x19), (3, .int x12), (0, .ref a0), (1, .int a1), (2, .int a2)]) hx hb dX8_watcherAt_60 hl (by decide) rfl (fun ls hl => ?_)
        refine lv_iload_n hx hb dX8_watcherAt_62 rfl (lv_at hl 2 rfl) ?_
        refine lv_if_ge (tgt := 78) hx hb dX8_watcherAt_63 (by decide) (fun c63 => ?_) (fun c63 => ?_)
        · have gc63 := ai_le c63
          have l63t_x12 : (0 : Int) ≤ x12.toInt := Int.le_trans zq5 gc63
          exact absurd (Int.le_trans l63t_x12 u15f_x12) (by decide)
        · have gc63 := ai_nle c63
          have u63f_x12 : x12.toInt ≤ (-1 : Int) := u15f_x12
          have hF0 := hF0.trans (if_neg (show ¬ (0 ≤ x12.toInt) from Int.not_le.mpr gc63))
          refine lv_aload_n hx hb dX8_watcherAt_66 rfl (lv_at hl 3 rfl) ?_
          refine va_get (D := (dC, dI)) (ci := 8) (v := .ref a0_23) (C := RX8) (T := TX8) (N := 40) hx hb hts zi_X8_watcherAt_8 hown hK hP 0 rfl rfl 23 (by decide) (hts (.fieldLink RX8 38 "WaxTurnsModel" "from" "[I") (List.mem_cons_of_mem _ (List.mem_append_left _ (List.mem_of_getElem? (i := 1) rfl)))) (fun _ h9 => h9) rfl dX8_watcherAt_67 ?_
          refine lv_iload_n hx hb dX8_watcherAt_70 rfl (lv_at hl 4 rfl) ?_
          refine va_iald hx hb hK hP 2 1 rfl rfl (ai_in ba1_l ba1_u (by decide) (by decide)) dX8_watcherAt_71 ?_
          refine ax_ti x11 ex11.symm ?_
          refine lv_iload hx hb dX8_watcherAt_72 (lv_at hl 0 rfl) ?_
          refine lv_isub hx hb dX8_watcherAt_74 ?_
          refine lv_topi (fun x74 ex74 => ?_)
          have fqx74 := fl_isub_eq ex74
          have hF0 := hF0.trans (fl_lt_eq (show x74.toInt = fl_isub x11.toInt x59.toInt from fqx74))
          refine lv_goto (tgt := 87) hx hb dX8_watcherAt_75 (by decide) ?_
          have hFe : FX = x74.toInt := hF0
          exact W.iret (v := x74) hx hb hr (fun t ht hW => ⟨⟨x74, (), rfl, ⟨trivial, hFe.symm⟩, by rw [ht]; exact hP, va_K.moved hW.alike hK, hD⟩, hS.F ht⟩) hS.2.2 dX8_watcherAt_87
    · have gc28 := ai_eq c28
      have u28f_x19 : x19.toInt ≤ (0 : Int) := Int.le_trans (Int.le_of_eq gc28) zq6
      have l28f_x19 : (1 : Int) ≤ x19.toInt := bx19.1
      exact absurd (Int.le_trans l28f_x19 u28f_x19) (by decide)

set_option maxHeartbeats 4000000 in
set_option maxRecDepth 100000 in
theorem f_X8_isWatched (l : Launch) (dC : Nat → ClassId) (dI : Nat → Nat → Nat) (sz : Nat) (a0 : Nat) (a1 : Int32) (a2 : Int32) (a0g_0 a0g_1 a0g_2 a0g_3 a0g_4 a0g_5 a0g_6 a0g_7 a0g_8 a0g_9 a0g_10 a0g_11 a0g_12 a0g_13 a0g_14 a0g_16 a0g_17 a0g_18 a0g_19 a0g_20 a0g_21 a0g_22 a0g_26 a0g_27 a0g_28 a0g_29 a0g_30 a0g_31 a0g_32 a0g_33 a0g_34 a0g_35 a0g_36 a0g_37 a0g_38 a0g_39 : Value) (a0_15 : Nat) (a0_23 : Nat) (a0_24 : Nat) (a0_25 : Int32) (ka0_15 : ClassId) (fa0_15 : Nat → Int32) (ka0_24 : ClassId) (fa0_24 : Nat → Int32) (ka0_23 : ClassId) (fa0_23 : Nat → Int32) (bfa0_15 : ((∀ k : Nat, 0 ≤ k → k ≤ 0 → (2 : Int) ≤ (fa0_15 k).toInt ∧ (fa0_15 k).toInt ≤ 9) ∧ (∀ k : Nat, 1 ≤ k → k ≤ 1 → (1 : Int) ≤ (fa0_15 k).toInt ∧ (fa0_15 k).toInt ≤ 20) ∧ (∀ k : Nat, 2 ≤ k → k ≤ 2 → (0 : Int) ≤ (fa0_15 k).toInt ∧ (fa0_15 k).toInt ≤ 8) ∧ (∀ k : Nat, 3 ≤ k → k ≤ 3 → (0 : Int) ≤ (fa0_15 k).toInt ∧ (fa0_15 k).toInt ≤ 100) ∧ (∀ k : Nat, 4 ≤ k → k ≤ 4 → (0 : Int) ≤ (fa0_15 k).toInt ∧ (fa0_15 k).toInt ≤ 9) ∧ (∀ k : Nat, 5 ≤ k → k ≤ 5 → (0 : Int) ≤ (fa0_15 k).toInt ∧ (fa0_15 k).toInt ≤ 3) ∧ (∀ k : Nat, 6 ≤ k → k ≤ 6 → (0 : Int) ≤ (fa0_15 k).toInt ∧ (fa0_15 k).toInt ≤ 6) ∧ (∀ k : Nat, 7 ≤ k → k ≤ 9 → (0 : Int) ≤ (fa0_15 k).toInt ∧ (fa0_15 k).toInt ≤ 8) ∧ (∀ k : Nat, 12 ≤ k → k ≤ 29 → (0 : Int) ≤ (fa0_15 k).toInt ∧ (fa0_15 k).toInt ≤ 20) ∧ (∀ k : Nat, 30 ≤ k → k ≤ 35 → (0 : Int) ≤ (fa0_15 k).toInt ∧ (fa0_15 k).toInt ≤ 8) ∧ (∀ k : Nat, 36 ≤ k → k ≤ 47 → (0 : Int) ≤ (fa0_15 k).toInt ∧ (fa0_15 k).toInt ≤ 999))) (bfa0_24 : (∀ k, (0 : Int) ≤ (fa0_24 k).toInt ∧ (fa0_24 k).toInt ≤ 80)) (bfa0_23 : (∀ k, (0 : Int) ≤ (fa0_23 k).toInt ∧ (fa0_23 k).toInt ≤ 80)) : zm l yX8_isWatched wsX8_isWatched ({ frames := 1, cells := 0, slots := 0, locals := 25 }) [.ref a0, .int a1, .int a2] dC dI sz [(a0, .inr (8, [a0g_0, a0g_1, a0g_2, a0g_3, a0g_4, a0g_5, a0g_6, a0g_7, a0g_8, a0g_9, a0g_10, a0g_11, a0g_12, a0g_13, a0g_14, Value.ref a0_15, a0g_16, a0g_17, a0g_18, a0g_19, a0g_20, a0g_21, a0g_22, Value.ref a0_23, Value.ref a0_24, Value.int a0_25, a0g_26, a0g_27, a0g_28, a0g_29, a0g_30, a0g_31, a0g_32, a0g_33, a0g_34, a0g_35, a0g_36, a0g_37, a0g_38, a0g_39])), (a0_15, .inl (ka0_15, 156, .inl (fa0_15))), (a0_24, .inl (ka0_24, 3, .inl (fa0_24))), (a0_23, .inl (ka0_23, 3, .inl (fa0_23)))] [(ka0_15, .int), (ka0_24, .int), (ka0_23, .int)] (fun A _ => True) (fun A => va_Qi (fun (r : Int32) (_ : Unit) => ((r = 1) ∨ (r = 0)) ∧ r.toInt = Ff_X8_isWatched a1.toInt a2.toInt a0_25.toInt (fl_A fa0_15) (fl_A fa0_24) (fl_A fa0_23)) (fun (_ : Unit) (t : State) => ax_B dC dI A [(a0, .inr (8, [a0g_0, a0g_1, a0g_2, a0g_3, a0g_4, a0g_5, a0g_6, a0g_7, a0g_8, a0g_9, a0g_10, a0g_11, a0g_12, a0g_13, a0g_14, Value.ref a0_15, a0g_16, a0g_17, a0g_18, a0g_19, a0g_20, a0g_21, a0g_22, Value.ref a0_23, Value.ref a0_24, Value.int a0_25, a0g_26, a0g_27, a0g_28, a0g_29, a0g_30, a0g_31, a0g_32, a0g_33, a0g_34, a0g_35, a0g_36, a0g_37, a0g_38, a0g_39])), (a0_15, .inl (ka0_15, 156, .inl (fa0_15))), (a0_24, .inl (ka0_24, 3, .inl (fa0_24))), (a0_23, .inl (ka0_23, 3, .inl (fa0_23)))] [(ka0_15, .int), (ka0_24, .int), (ka0_23, .int)] t) A) := by
  refine zh (cc := cX8_isWatched) (maxL := 4) (ret := (some .boolean)) zn_RX8 rfl (Nat.le_of_ble_eq_true rfl) (fun p e s m below meth c A ls hx hb hml hr hts (hown : s.vm.findClass RX8 = some m.cls) hlocks hA hS hP hK hD hE (hl : lv_has ls 4 [(0, .ref a0), (1, .int a1), (2, .int a2)]) => ?_)
  generalize hFX : Ff_X8_isWatched a1.toInt a2.toInt a0_25.toInt (fl_A fa0_15) (fl_A fa0_24) (fl_A fa0_23) = FX at ⊢
  have hF0 := hFX.symm.trans (Ff_X8_isWatched.eq_1 a1.toInt a2.toInt a0_25.toInt (fl_A fa0_15) (fl_A fa0_24) (fl_A fa0_23))
  refine ai_open (fun K hK0 => ?_)
  refine (hK0 _ _ _).mpr ?_
  refine lv_aload_n hx hb dX8_isWatched_0 rfl (lv_at hl 0 rfl) ?_
  refine va_get (D := (dC, dI)) (ci := 8) (v := .int a0_25) (C := RX8) (T := TX8) (N := 40) hx hb hts zi_X8_isWatched_8 hown hK hP 0 rfl rfl 25 (by decide) (hts (.fieldLink RX8 235 "WaxTurnsModel" "stood" "I") (List.mem_cons_of_mem _ (List.mem_append_left _ (List.mem_of_getElem? (i := 0) rfl)))) (fun _ h9 => h9) rfl dX8_isWatched_1 ?_
  refine lv_iload_n hx hb dX8_isWatched_4 rfl (lv_at hl 1 rfl) ?_
  refine va_calli (va_runS (As := [.int a0_25, .int a1]) (rest := []) ⟨hx, hb, hml, hown, hts⟩ (f_X8_hasBit l dC dI s.heap.size a0_25 a1 ) (va_cwS 2 hts gX8_isWatched_X8_hasBit rfl rfl rfl zd_X8_hasBit.2 ⟨Nat.le_of_ble_eq_true rfl, Nat.le_of_ble_eq_true rfl⟩) ⟨ax_blind (fun _ _ _ _ _ => trivial), ax_pre (zp_P0 hP) (zp_K hK) (zp_D0 hD) (fun _ _ => trivial)⟩ rfl rfl hl.1 rfl (lv_room (Nat.le_of_ble_eq_true rfl)) dX8_isWatched_5 ⟨Nat.le_of_ble_eq_true rfl, Nat.le_of_ble_eq_true rfl⟩) hS (fun q _ h => zp_F0 hD hS hA q h) (zp_F0 hD hS hA) (fun r5 u t H locs ht hvm hw hB hz1 hk1 hS1 => zo0 hB ht hP hD hk1 (zp_F0 hD hS hA) hS1 (fun hP hK1 hD hS => ?_))
  obtain ⟨hw, hfr5⟩ := hw
  have hc5 : Ff_X8_hasBit a0_25.toInt a1.toInt = r5.toInt := hfr5.symm
  have hF0 := hF0.trans (fl_lt_eq hc5.symm)
  rcases hw with hw | hw
  · subst hw
    have hF0 := hF0.trans (if_pos (by decide))
    refine lv_if_eq (tgt := 13) hx hb dX8_isWatched_8 (by decide) (fun c8 => absurd c8 (by decide +kernel)) (fun _ => ?_)
    refine lv_iconst (v := 1) hx hb dX8_isWatched_11 zk_iconst_1 ?_
    have hFe : FX = 1 := hF0
    exact W.zret (v := 1) hx hb hr rfl (fun t ht hW => ⟨⟨1, (), rfl, ⟨(Or.inl (rfl)), hFe.symm⟩, by rw [ht]; exact hP, va_K.moved hW.alike hK, hD⟩, hS.F ht⟩) hS.2.2 dX8_isWatched_12
  · subst hw
    have hF0 := hF0.trans (if_neg (by decide))
    refine lv_if_eq (tgt := 13) hx hb dX8_isWatched_8 (by decide) (fun _ => ?_) (fun c8 => absurd (by decide +kernel) c8)
    refine lv_iconst (v := 0) hx hb dX8_isWatched_13 zk_iconst_0 ?_
    refine lv_istore_n (lv' := [(3, .int 0), (0, .ref a0), (1, .int a1), (2, .int a2)]) hx hb dX8_isWatched_14 rfl hl (by decide) rfl (fun ls hl => ?_)
    have J15 : ∀ (n : Nat) (j15l3 : Int32) (H : Heap) (locs : List Loc) (ls : Array Slot), (4 : Int) - j15l3.toInt ≤ (n : Int) → (0 : Int) ≤ j15l3.toInt → j15l3.toInt ≤ (3 : Int) → (FX = fl_wh (Sf_X8_isWatched_15_1 a1.toInt a2.toInt (fl_A fa0_15) (fl_A fa0_24) (fl_A fa0_23)) 0 n j15l3.toInt) → va_P (dC, dI) vwCl [(a0, .inr (8, [a0g_0, a0g_1, a0g_2, a0g_3, a0g_4, a0g_5, a0g_6, a0g_7, a0g_8, a0g_9, a0g_10, a0g_11, a0g_12, a0g_13, a0g_14, Value.ref a0_15, a0g_16, a0g_17, a0g_18, a0g_19, a0g_20, a0g_21, a0g_22, Value.ref a0_23, Value.ref a0_24, Value.int a0_25, a0g_26, a0g_27, a0g_28, a0g_29, a0g_30, a0g_31, a0g_32, a0g_33, a0g_34, a0g_35, a0g_36, a0g_37, a0g_38, a0g_39])), (a0_15, .inl (ka0_15, 156, .inl (fa0_15))), (a0_24, .inl (ka0_24, 3, .inl (fa0_24))), (a0_23, .inl (ka0_23, 3, .inl (fa0_23)))] H → va_D A [(a0, .inr (8, [a0g_0, a0g_1, a0g_2, a0g_3, a0g_4, a0g_5, a0g_6, a0g_7, a0g_8, a0g_9, a0g_10, a0g_11, a0g_12, a0g_13, a0g_14, Value.ref a0_15, a0g_16, a0g_17, a0g_18, a0g_19, a0g_20, a0g_21, a0g_22, Value.ref a0_23, Value.ref a0_24, Value.int a0_25, a0g_26, a0g_27, a0g_28, a0g_29, a0g_30, a0g_31, a0g_32, a0g_33, a0g_34, a0g_35, a0g_36, a0g_37, a0g_38, a0g_39])), (a0_15, .inl (ka0_15, 156, .inl (fa0_15))), (a0_24, .inl (ka0_24, 3, .inl (fa0_24))), (a0_23, .inl (ka0_23, 3, .inl (fa0_23)))] → va_S A s.heap H locs → lv_has ls 4 [(0, .ref a0), (1, .int a1), (2, .int a2), (3, .int j15l3)] → K H locs (F0 m 15 ls []) := by
      intro n
      induction n with
      | zero =>
        intro j15l3 H locs ls hm bj15l3_l bj15l3_u hF0 hP hD hS hl
        first | exact zg_0 hm bj15l3_u (by decide) | (have h8 := ai_min j15l3; have h9 := ai_max j15l3; exact absurd hm (by omega))
      | succ n ih15 =>
        intro j15l3 H locs ls hm bj15l3_l bj15l3_u hF0 hP hD hS hl
        refine (hK0 _ _ _).mpr ?_
        have hm15 := hm
        obtain ⟨SX15, hSX15⟩ : ∃ q9, Sf_X8_isWatched_15_1 a1.toInt a2.toInt (fl_A fa0_15) (fl_A fa0_24) (fl_A fa0_23) j15l3.toInt = q9 := ⟨_, rfl⟩
        have hF1 := hSX15.symm.trans (Sf_X8_isWatched_15_1.eq_1 a1.toInt a2.toInt (fl_A fa0_15) (fl_A fa0_24) (fl_A fa0_23) j15l3.toInt)
        refine lv_iload_n hx hb dX8_isWatched_15 rfl (lv_at hl 3 rfl) ?_
        refine lv_aload_n hx hb dX8_isWatched_16 rfl (lv_at hl 0 rfl) ?_
        refine va_get (D := (dC, dI)) (ci := 8) (v := .ref a0_15) (C := RX8) (T := TX8) (N := 40) hx hb hts zi_X8_isWatched_8 hown hK hP 0 rfl rfl 15 (by decide) (hts (.fieldLink RX8 20 "WaxTurnsModel" "\x72" "[I") (List.mem_cons_of_mem _ (List.mem_append_left _ (List.mem_of_getElem? (i := 1) rfl)))) (fun _ h9 => h9) rfl dX8_isWatched_17 ?_
        refine lv_iconst (v := 5) hx hb dX8_isWatched_20 zk_iconst_5 ?_
        refine va_iald hx hb hK hP 1 0 rfl rfl (by unfold vp_in; decide +kernel) dX8_isWatched_21 ?_
        refine lv_topi (fun x21 ex21 => ?_)
        have bx21 : (0 : Int) ≤ x21.toInt ∧ x21.toInt ≤ 3 := by rw [ex21]; exact ai_rd bfa0_15.2.2.2.2.2.1 zq112 zq113 (by decide) (by decide) (by decide)
        have fqx21 := congrArg Int32.toInt ex21
        have hF1 := hF1.trans (fl_lt_eq (show x21.toInt = (fl_A fa0_15) (5) from fqx21))
        refine lv_icmp_ge (tgt := 43) hx hb dX8_isWatched_22 (by decide) (fun c22 => ?_) (fun c22 => ?_)
        · have gc22 := ai_le c22
          have u22t_x21 : x21.toInt ≤ (3 : Int) := bx21.2
          have l22t_j15l3 : (0 : Int) ≤ j15l3.toInt := bj15l3_l
          have hF1 := hF1.trans (if_pos (show x21.toInt ≤ j15l3.toInt from gc22))
          have hF0 := hF0.trans (fl_wh_r (hSX15.trans hF1))
          refine lv_iconst (v := 0) hx hb dX8_isWatched_43 zk_iconst_0 ?_
          have hFe : FX = 0 := hF0
          exact W.zret (v := 0) hx hb hr rfl (fun t ht hW => ⟨⟨0, (), rfl, ⟨(Or.inr (rfl)), hFe.symm⟩, by rw [ht]; exact hP, va_K.moved hW.alike hK, hD⟩, hS.F ht⟩) hS.2.2 dX8_isWatched_44
        · have gc22 := ai_nle c22
          have u22f_j15l3 : j15l3.toInt ≤ (2 : Int) := ai_lthi gc22 bx21.2
          have l22f_x21 : (1 : Int) ≤ x21.toInt := ai_ltlo gc22 bj15l3_l
          have hF1 := hF1.trans (if_neg (show ¬ (x21.toInt ≤ j15l3.toInt) from Int.not_le.mpr gc22))
          refine lv_aload_n hx hb dX8_isWatched_25 rfl (lv_at hl 0 rfl) ?_
          refine lv_iload_n hx hb dX8_isWatched_26 rfl (lv_at hl 3 rfl) ?_
          refine lv_iload_n hx hb dX8_isWatched_27 rfl (lv_at hl 2 rfl) ?_
          refine zc_cutc (wc := [(a0, .inr (8, [a0g_0, a0g_1, a0g_2, a0g_3, a0g_4, a0g_5, a0g_6, a0g_7, a0g_8, a0g_9, a0g_10, a0g_11, a0g_12, a0g_13, a0g_14, Value.ref a0_15, a0g_16, a0g_17, a0g_18, a0g_19, a0g_20, a0g_21, a0g_22, Value.ref a0_23, Value.ref a0_24, Value.int a0_25, a0g_26, a0g_27, a0g_28, a0g_29, a0g_30, a0g_31, a0g_32, a0g_33, a0g_34, a0g_35, a0g_36, a0g_37, a0g_38, a0g_39])), (a0_24, .inl (ka0_24, 3, .inl (fa0_24))), (a0_23, .inl (ka0_23, 3, .inl (fa0_23)))]) hP hD hS hA [0, 2, 3] (by decide +kernel) rfl (fun hPc hDc hFc hCc => ?_)
          have hKc := hK.sub (tys' := [(ka0_24, .int), (ka0_23, .int)]) [1, 2] rfl
          refine va_calli (va_runV (As := [.int j15l3, .int a2]) (rest := []) ⟨hx, hb, hml, hown, hts⟩ (f_X8_watcherAt l dC dI H.size a0 j15l3 a2 a0g_0 a0g_1 a0g_2 a0g_3 a0g_4 a0g_5 a0g_6 a0g_7 a0g_8 a0g_9 a0g_10 a0g_11 a0g_12 a0g_13 a0g_14 (Value.ref a0_15) a0g_16 a0g_17 a0g_18 a0g_19 a0g_20 a0g_21 a0g_22 (Value.int a0_25) a0g_26 a0g_27 a0g_28 a0g_29 a0g_30 a0g_31 a0g_32 a0g_33 a0g_34 a0g_35 a0g_36 a0g_37 a0g_38 a0g_39 a0_23 a0_24 ka0_24 fa0_24 ka0_23 fa0_23 bj15l3_l u22f_j15l3 bfa0_24 bfa0_23) (cwV 2 hts gX8_isWatched_X8_watcherAt rfl rfl rfl zd_X8_watcherAt ⟨Nat.le_of_ble_eq_true rfl, Nat.le_of_ble_eq_true rfl⟩) ⟨ax_blind (fun _ _ _ _ _ => trivial), zr_8 hKc hPc (q0 := 0) rfl, ax_pre hPc hKc hDc (fun _ _ => trivial)⟩ rfl rfl hl.1 rfl (lv_room (Nat.le_of_ble_eq_true rfl)) dX8_isWatched_28 ⟨Nat.le_of_ble_eq_true rfl, Nat.le_of_ble_eq_true rfl⟩) hS (fun q _ h => hFc q h) hFc (fun r28 u t H locs ht hvm hw hB hz1 hk1 hS1 => zo hB ht hS1 (fun hP1 hK1 hD1 hS => ?_))
          refine zc_backc (w := [(a0, .inr (8, [a0g_0, a0g_1, a0g_2, a0g_3, a0g_4, a0g_5, a0g_6, a0g_7, a0g_8, a0g_9, a0g_10, a0g_11, a0g_12, a0g_13, a0g_14, Value.ref a0_15, a0g_16, a0g_17, a0g_18, a0g_19, a0g_20, a0g_21, a0g_22, Value.ref a0_23, Value.ref a0_24, Value.int a0_25, a0g_26, a0g_27, a0g_28, a0g_29, a0g_30, a0g_31, a0g_32, a0g_33, a0g_34, a0g_35, a0g_36, a0g_37, a0g_38, a0g_39])), (a0_15, .inl (ka0_15, 156, .inl (fa0_15))), (a0_24, .inl (ka0_24, 3, .inl (fa0_24))), (a0_23, .inl (ka0_23, 3, .inl (fa0_23)))]) hP hD hCc hk1 hFc hP1 hD1 [.inr 0, .inl 1, .inr 1, .inr 2] (by decide +kernel) rfl (fun hP hD => ?_)
          obtain ⟨hw, hfr28⟩ := hw
          have hc28 : Ff_X8_watcherAt j15l3.toInt a2.toInt (fl_A fa0_24) (fl_A fa0_23) = r28.toInt := hfr28.symm
          have hF1 := hF1.trans (fl_lt_eq hc28.symm)
          refine lv_iload_n hx hb dX8_isWatched_31 rfl (lv_at hl 1 rfl) ?_
          refine lv_icmp_ne (tgt := 37) hx hb dX8_isWatched_32 (by decide) (fun c32 => ?_) (fun c32 => ?_)
          · have gc32 := ai_ne c32
            have hF1 := hF1.trans (if_neg (show ¬ (r28.toInt = a1.toInt) from  gc32))
            obtain ⟨x37, ex37⟩ : ∃ y : Int32, y = j15l3 + Int32.ofInt 1 := ⟨_, rfl⟩
            have qx37 : x37.toInt = j15l3.toInt + 1 := ai_inc ex37 (by decide) (by decide) u22f_j15l3 (by decide)
            have bx37 : (1 : Int) ≤ x37.toInt ∧ x37.toInt ≤ 3 := ⟨by rw [qx37]; exact Int.add_le_add bj15l3_l (Int.le_refl _), by rw [qx37]; exact Int.add_le_add u22f_j15l3 (Int.le_refl _)⟩
            refine lv_iinc (v := x37) (lv' := [(3, .int x37), (0, .ref a0), (1, .int a1), (2, .int a2)]) hx hb dX8_isWatched_37 hl (k := 3) rfl ex37.symm (by decide) rfl (fun ls hl => ?_)
            have hF1 := hF1.trans (fl_lt_eq (show x37.toInt = j15l3.toInt + 1 from qx37))
            refine lv_goto (tgt := 15) hx hb dX8_isWatched_40 (by decide) ?_
            exact (hK0 _ _ _).mp (ih15 x37 _ _ _ (by first | exact zg_s hm15 qx37 | (have h0 := qx37; omega)) (Int.le_trans zq4 bx37.1) bx37.2 (hF0.trans (fl_wh_l (hSX15.trans hF1))) hP hD hS (lv_sub hl [1, 2, 3, 0] rfl))
          · have gc32 := ai_eq c32
            have hF1 := hF1.trans (if_pos (show r28.toInt = a1.toInt from gc32))
            have hF0 := hF0.trans (fl_wh_r (hSX15.trans hF1))
            refine lv_iconst (v := 1) hx hb dX8_isWatched_35 zk_iconst_1 ?_
            have hFe : FX = 1 := hF0
            exact W.zret (v := 1) hx hb hr rfl (fun t ht hW => ⟨⟨1, (), rfl, ⟨(Or.inl (rfl)), hFe.symm⟩, by rw [ht]; exact hP, va_K.moved hW.alike hK, hD⟩, hS.F ht⟩) hS.2.2 dX8_isWatched_36
    exact (hK0 _ _ _).mp (J15 4 0 _ _ _ (by first | decide +kernel | (have h1 : (0 : Int) ≤ (0 : Int32).toInt := zq5; have h2 : (0 : Int32).toInt ≤ (0 : Int) := zq6; omega)) zq5 (Int.le_trans zq6 zq11) (by rw [show (0 : Int32).toInt = 0 from by decide]; exact hF0) hP hD hS (lv_sub hl [1, 2, 3, 0] rfl))

set_option maxHeartbeats 4000000 in
set_option maxRecDepth 100000 in
theorem f_X8_nextOf (l : Launch) (dC : Nat → ClassId) (dI : Nat → Nat → Nat) (sz : Nat) (a0 : Nat) (a1 : Int32) (a0g_0 a0g_1 a0g_2 a0g_3 a0g_4 a0g_5 a0g_6 a0g_7 a0g_8 a0g_9 a0g_10 a0g_11 a0g_12 a0g_13 a0g_14 a0g_16 a0g_17 a0g_18 a0g_19 a0g_20 a0g_21 a0g_22 a0g_23 a0g_24 a0g_25 a0g_26 a0g_27 a0g_28 a0g_29 a0g_30 a0g_31 a0g_32 a0g_33 a0g_34 a0g_35 a0g_36 a0g_37 a0g_38 a0g_39 : Value) (a0_15 : Nat) (ka0_15 : ClassId) (fa0_15 : Nat → Int32) (ba1_l : (0 : Int) ≤ a1.toInt) (ba1_u : a1.toInt ≤ (8 : Int)) (bfa0_15 : ((∀ k : Nat, 0 ≤ k → k ≤ 0 → (2 : Int) ≤ (fa0_15 k).toInt ∧ (fa0_15 k).toInt ≤ 9) ∧ (∀ k : Nat, 1 ≤ k → k ≤ 1 → (1 : Int) ≤ (fa0_15 k).toInt ∧ (fa0_15 k).toInt ≤ 20) ∧ (∀ k : Nat, 2 ≤ k → k ≤ 2 → (0 : Int) ≤ (fa0_15 k).toInt ∧ (fa0_15 k).toInt ≤ 8) ∧ (∀ k : Nat, 3 ≤ k → k ≤ 3 → (0 : Int) ≤ (fa0_15 k).toInt ∧ (fa0_15 k).toInt ≤ 100) ∧ (∀ k : Nat, 4 ≤ k → k ≤ 4 → (0 : Int) ≤ (fa0_15 k).toInt ∧ (fa0_15 k).toInt ≤ 9) ∧ (∀ k : Nat, 5 ≤ k → k ≤ 5 → (0 : Int) ≤ (fa0_15 k).toInt ∧ (fa0_15 k).toInt ≤ 3) ∧ (∀ k : Nat, 6 ≤ k → k ≤ 6 → (0 : Int) ≤ (fa0_15 k).toInt ∧ (fa0_15 k).toInt ≤ 6) ∧ (∀ k : Nat, 7 ≤ k → k ≤ 9 → (0 : Int) ≤ (fa0_15 k).toInt ∧ (fa0_15 k).toInt ≤ 8) ∧ (∀ k : Nat, 12 ≤ k → k ≤ 29 → (0 : Int) ≤ (fa0_15 k).toInt ∧ (fa0_15 k).toInt ≤ 20) ∧ (∀ k : Nat, 30 ≤ k → k ≤ 35 → (0 : Int) ≤ (fa0_15 k).toInt ∧ (fa0_15 k).toInt ≤ 8) ∧ (∀ k : Nat, 36 ≤ k → k ≤ 47 → (0 : Int) ≤ (fa0_15 k).toInt ∧ (fa0_15 k).toInt ≤ 999))) : zm l yX8_nextOf wsX8_nextOf ({ frames := 0, cells := 0, slots := 0, locals := 0 }) [.ref a0, .int a1] dC dI sz [(a0, .inr (8, [a0g_0, a0g_1, a0g_2, a0g_3, a0g_4, a0g_5, a0g_6, a0g_7, a0g_8, a0g_9, a0g_10, a0g_11, a0g_12, a0g_13, a0g_14, Value.ref a0_15, a0g_16, a0g_17, a0g_18, a0g_19, a0g_20, a0g_21, a0g_22, a0g_23, a0g_24, a0g_25, a0g_26, a0g_27, a0g_28, a0g_29, a0g_30, a0g_31, a0g_32, a0g_33, a0g_34, a0g_35, a0g_36, a0g_37, a0g_38, a0g_39])), (a0_15, .inl (ka0_15, 156, .inl (fa0_15)))] [(ka0_15, .int)] (fun A _ => True) (fun A => va_Qi (fun (r : Int32) (_ : Unit) => ((0 : Int) ≤ r.toInt ∧ r.toInt ≤ (8 : Int)) ∧ r.toInt = Ff_X8_nextOf a1.toInt (fl_A fa0_15)) (fun (_ : Unit) (t : State) => ax_B dC dI A [(a0, .inr (8, [a0g_0, a0g_1, a0g_2, a0g_3, a0g_4, a0g_5, a0g_6, a0g_7, a0g_8, a0g_9, a0g_10, a0g_11, a0g_12, a0g_13, a0g_14, Value.ref a0_15, a0g_16, a0g_17, a0g_18, a0g_19, a0g_20, a0g_21, a0g_22, a0g_23, a0g_24, a0g_25, a0g_26, a0g_27, a0g_28, a0g_29, a0g_30, a0g_31, a0g_32, a0g_33, a0g_34, a0g_35, a0g_36, a0g_37, a0g_38, a0g_39])), (a0_15, .inl (ka0_15, 156, .inl (fa0_15)))] [(ka0_15, .int)] t) A) := by
  refine zh (cc := cX8_nextOf) (maxL := 2) (ret := (some .int)) zn_RX8 rfl (Nat.le_of_ble_eq_true rfl) (fun p e s m below meth c A ls hx hb hml hr hts (hown : s.vm.findClass RX8 = some m.cls) hlocks hA hS hP hK hD hE (hl : lv_has ls 2 [(0, .ref a0), (1, .int a1)]) => ?_)
  generalize hFX : Ff_X8_nextOf a1.toInt (fl_A fa0_15) = FX at ⊢
  have hF0 := hFX.symm.trans (Ff_X8_nextOf.eq_1 a1.toInt (fl_A fa0_15))
  refine lv_aload_n hx hb dX8_nextOf_0 rfl (lv_at hl 0 rfl) ?_
  refine va_get (D := (dC, dI)) (ci := 8) (v := .ref a0_15) (C := RX8) (T := TX8) (N := 40) hx hb hts zi_X8_nextOf_8 hown hK hP 0 rfl rfl 15 (by decide) (hts (.fieldLink RX8 20 "WaxTurnsModel" "\x72" "[I") (List.mem_cons_of_mem _ (List.mem_append_left _ (List.mem_of_getElem? (i := 0) rfl)))) (fun _ h9 => h9) rfl dX8_nextOf_1 ?_
  refine lv_bipush (v := 7) hx hb dX8_nextOf_4 zk_bipush_7 ?_
  refine va_iald hx hb hK hP 1 0 rfl rfl (by unfold vp_in; decide +kernel) dX8_nextOf_6 ?_
  refine lv_topi (fun x6 ex6 => ?_)
  have bx6 : (0 : Int) ≤ x6.toInt ∧ x6.toInt ≤ 8 := by rw [ex6]; exact ai_rd bfa0_15.2.2.2.2.2.2.2.1 zq114 zq115 (by decide) (by decide) (by decide)
  have fqx6 := congrArg Int32.toInt ex6
  have hF0 := hF0.trans (fl_lt_eq (show x6.toInt = (fl_A fa0_15) (7) from fqx6))
  refine lv_iload_n hx hb dX8_nextOf_7 rfl (lv_at hl 1 rfl) ?_
  refine lv_imul hx hb dX8_nextOf_8 ?_
  refine lv_topi (fun x8 ex8 => ?_)
  have qx8 : x8.toInt = x6.toInt * a1.toInt ∧ (0 : Int) ≤ x8.toInt ∧ x8.toInt ≤ 64 := ai_mul ex8 ⟨bx6.1, bx6.2⟩ ⟨ba1_l, ba1_u⟩ (by decide) (by decide) zq18
  have hF0 := hF0.trans (fl_lt_eq (show x8.toInt = x6.toInt * a1.toInt from qx8.1))
  refine lv_aload_n hx hb dX8_nextOf_9 rfl (lv_at hl 0 rfl) ?_
  refine va_get (D := (dC, dI)) (ci := 8) (v := .ref a0_15) (C := RX8) (T := TX8) (N := 40) hx hb hts zi_X8_nextOf_8 hown hK hP 0 rfl rfl 15 (by decide) (hts (.fieldLink RX8 20 "WaxTurnsModel" "\x72" "[I") (List.mem_cons_of_mem _ (List.mem_append_left _ (List.mem_of_getElem? (i := 0) rfl)))) (fun _ h9 => h9) rfl dX8_nextOf_10 ?_
  refine lv_bipush (v := 8) hx hb dX8_nextOf_13 zk_bipush_8 ?_
  refine va_iald hx hb hK hP 1 0 rfl rfl (by unfold vp_in; decide +kernel) dX8_nextOf_15 ?_
  refine lv_topi (fun x15 ex15 => ?_)
  have bx15 : (0 : Int) ≤ x15.toInt ∧ x15.toInt ≤ 8 := by rw [ex15]; exact ai_rd bfa0_15.2.2.2.2.2.2.2.1 zq116 zq28 (by decide) (by decide) (by decide)
  have fqx15 := congrArg Int32.toInt ex15
  have hF0 := hF0.trans (fl_lt_eq (show x15.toInt = (fl_A fa0_15) (8) from fqx15))
  refine lv_iadd hx hb dX8_nextOf_16 ?_
  refine lv_topi (fun x16 ex16 => ?_)
  have qx16 : x16.toInt = x8.toInt + x15.toInt := ai_add ex16 ⟨qx8.2.1, qx8.2.2⟩ ⟨bx15.1, bx15.2⟩ (by decide) (by decide)
  have bx16 : (0 : Int) ≤ x16.toInt ∧ x16.toInt ≤ 72 := ⟨by rw [qx16]; exact Int.add_le_add qx8.2.1 bx15.1, by rw [qx16]; exact Int.add_le_add qx8.2.2 bx15.2⟩
  have hF0 := hF0.trans (fl_lt_eq (show x16.toInt = x8.toInt + x15.toInt from qx16))
  refine lv_aload_n hx hb dX8_nextOf_17 rfl (lv_at hl 0 rfl) ?_
  refine va_get (D := (dC, dI)) (ci := 8) (v := .ref a0_15) (C := RX8) (T := TX8) (N := 40) hx hb hts zi_X8_nextOf_8 hown hK hP 0 rfl rfl 15 (by decide) (hts (.fieldLink RX8 20 "WaxTurnsModel" "\x72" "[I") (List.mem_cons_of_mem _ (List.mem_append_left _ (List.mem_of_getElem? (i := 0) rfl)))) (fun _ h9 => h9) rfl dX8_nextOf_18 ?_
  refine lv_iconst (v := 0) hx hb dX8_nextOf_21 zk_iconst_0 ?_
  refine va_iald hx hb hK hP 1 0 rfl rfl (by unfold vp_in; decide +kernel) dX8_nextOf_22 ?_
  refine lv_topi (fun x22 ex22 => ?_)
  have bx22 : (2 : Int) ≤ x22.toInt ∧ x22.toInt ≤ 9 := by rw [ex22]; exact ai_rd bfa0_15.1 zq5 zq6 (by decide) (by decide) (by decide)
  have fqx22 := congrArg Int32.toInt ex22
  have hF0 := hF0.trans (fl_lt_eq (show x22.toInt = (fl_A fa0_15) (0) from fqx22))
  refine lv_irem hx hb dX8_nextOf_23 (ai_nz bx22.1 (by decide)) ?_
  refine lv_topi (fun x23 ex23 => ?_)
  have qx23 := ai_rem2 ex23 bx16.1 (Int.lt_of_lt_of_le zq100 bx22.1) bx22.2
  have hF0 := hF0.trans (fl_lt_eq (show x23.toInt = x16.toInt % x22.toInt from qx23.1))
  have hFe : FX = x23.toInt := hF0
  exact W.iret (v := x23) hx hb hr (fun t ht hW => ⟨⟨x23, (), rfl, ⟨⟨qx23.2.1, qx23.2.2⟩, hFe.symm⟩, by rw [ht]; exact hP, va_K.moved hW.alike hK, hD⟩, hS.F ht⟩) hS.2.2 dX8_nextOf_24

set_option maxHeartbeats 4000000 in
set_option maxRecDepth 100000 in
theorem f_X8_walkOn (l : Launch) (dC : Nat → ClassId) (dI : Nat → Nat → Nat) (sz : Nat) (a0 : Nat) (a1 : Nat) (a2 : Int32) (a0g_0 a0g_1 a0g_2 a0g_3 a0g_4 a0g_5 a0g_6 a0g_7 a0g_8 a0g_9 a0g_10 a0g_11 a0g_12 a0g_13 a0g_14 a0g_16 a0g_17 a0g_18 a0g_19 a0g_20 a0g_21 a0g_22 a0g_26 a0g_27 a0g_28 a0g_29 a0g_30 a0g_31 a0g_32 a0g_33 a0g_34 a0g_35 a0g_36 a0g_37 a0g_38 a0g_39 : Value) (a0_15 : Nat) (a0_23 : Nat) (a0_24 : Nat) (a0_25 : Int32) (ka1 : ClassId) (fa1 : Nat → Int32) (ka0_15 : ClassId) (fa0_15 : Nat → Int32) (ka0_24 : ClassId) (fa0_24 : Nat → Int32) (ka0_23 : ClassId) (fa0_23 : Nat → Int32) (ba2_l : (0 : Int) ≤ a2.toInt) (ba2_u : a2.toInt ≤ (8 : Int)) (bfa1 : ((∀ k : Nat, 0 ≤ k → k ≤ 8 → (0 : Int) ≤ (fa1 k).toInt ∧ (fa1 k).toInt ≤ 8) ∧ (∀ k : Nat, 19 ≤ k → k ≤ 19 → (0 : Int) ≤ (fa1 k).toInt ∧ (fa1 k).toInt ≤ 8) ∧ (∀ k : Nat, 20 ≤ k → k ≤ 20 → (0 : Int) ≤ (fa1 k).toInt ∧ (fa1 k).toInt ≤ 19))) (bfa0_15 : ((∀ k : Nat, 0 ≤ k → k ≤ 0 → (2 : Int) ≤ (fa0_15 k).toInt ∧ (fa0_15 k).toInt ≤ 9) ∧ (∀ k : Nat, 1 ≤ k → k ≤ 1 → (1 : Int) ≤ (fa0_15 k).toInt ∧ (fa0_15 k).toInt ≤ 20) ∧ (∀ k : Nat, 2 ≤ k → k ≤ 2 → (0 : Int) ≤ (fa0_15 k).toInt ∧ (fa0_15 k).toInt ≤ 8) ∧ (∀ k : Nat, 3 ≤ k → k ≤ 3 → (0 : Int) ≤ (fa0_15 k).toInt ∧ (fa0_15 k).toInt ≤ 100) ∧ (∀ k : Nat, 4 ≤ k → k ≤ 4 → (0 : Int) ≤ (fa0_15 k).toInt ∧ (fa0_15 k).toInt ≤ 9) ∧ (∀ k : Nat, 5 ≤ k → k ≤ 5 → (0 : Int) ≤ (fa0_15 k).toInt ∧ (fa0_15 k).toInt ≤ 3) ∧ (∀ k : Nat, 6 ≤ k → k ≤ 6 → (0 : Int) ≤ (fa0_15 k).toInt ∧ (fa0_15 k).toInt ≤ 6) ∧ (∀ k : Nat, 7 ≤ k → k ≤ 9 → (0 : Int) ≤ (fa0_15 k).toInt ∧ (fa0_15 k).toInt ≤ 8) ∧ (∀ k : Nat, 12 ≤ k → k ≤ 29 → (0 : Int) ≤ (fa0_15 k).toInt ∧ (fa0_15 k).toInt ≤ 20) ∧ (∀ k : Nat, 30 ≤ k → k ≤ 35 → (0 : Int) ≤ (fa0_15 k).toInt ∧ (fa0_15 k).toInt ≤ 8) ∧ (∀ k : Nat, 36 ≤ k → k ≤ 47 → (0 : Int) ≤ (fa0_15 k).toInt ∧ (fa0_15 k).toInt ≤ 999))) (bfa0_24 : (∀ k, (0 : Int) ≤ (fa0_24 k).toInt ∧ (fa0_24 k).toInt ≤ 80)) (bfa0_23 : (∀ k, (0 : Int) ≤ (fa0_23 k).toInt ∧ (fa0_23 k).toInt ≤ 80)) (hkm : ∀ i : Int32, i.toInt = 13 + 2 * a2.toInt → (1 : Int) ≤ (fa0_15 i.toNatClampNeg).toInt) : zm l yX8_walkOn wsX8_walkOn ({ frames := 2, cells := 0, slots := 0, locals := 48 }) [.ref a0, .ref a1, .int a2] dC dI sz [(a0, .inr (8, [a0g_0, a0g_1, a0g_2, a0g_3, a0g_4, a0g_5, a0g_6, a0g_7, a0g_8, a0g_9, a0g_10, a0g_11, a0g_12, a0g_13, a0g_14, Value.ref a0_15, a0g_16, a0g_17, a0g_18, a0g_19, a0g_20, a0g_21, a0g_22, Value.ref a0_23, Value.ref a0_24, Value.int a0_25, a0g_26, a0g_27, a0g_28, a0g_29, a0g_30, a0g_31, a0g_32, a0g_33, a0g_34, a0g_35, a0g_36, a0g_37, a0g_38, a0g_39])), (a1, .inl (ka1, 23, .inl (fa1))), (a0_15, .inl (ka0_15, 156, .inl (fa0_15))), (a0_24, .inl (ka0_24, 3, .inl (fa0_24))), (a0_23, .inl (ka0_23, 3, .inl (fa0_23)))] [(ka1, .int), (ka0_15, .int), (ka0_24, .int), (ka0_23, .int)] (fun A _ => True) (fun A => va_Qv (fun (_ : Unit) => True) (fun (_ : Unit) (t : State) => ∃ nfa1 : Nat → Int32, ((∀ k : Nat, 0 ≤ k → k ≤ 8 → (0 : Int) ≤ (nfa1 k).toInt ∧ (nfa1 k).toInt ≤ 8) ∧ (∀ k : Nat, 19 ≤ k → k ≤ 19 → (0 : Int) ≤ (nfa1 k).toInt ∧ (nfa1 k).toInt ≤ 8) ∧ (∀ k : Nat, 20 ≤ k → k ≤ 20 → (0 : Int) ≤ (nfa1 k).toInt ∧ (nfa1 k).toInt ≤ 19)) ∧ (Ff_X8_walkOn a2.toInt a0_25.toInt (fl_A fa1) (fl_A fa0_15) (fl_A fa0_24) (fl_A fa0_23) = (fl_A nfa1)) ∧ ax_B dC dI A [(a0, .inr (8, [a0g_0, a0g_1, a0g_2, a0g_3, a0g_4, a0g_5, a0g_6, a0g_7, a0g_8, a0g_9, a0g_10, a0g_11, a0g_12, a0g_13, a0g_14, Value.ref a0_15, a0g_16, a0g_17, a0g_18, a0g_19, a0g_20, a0g_21, a0g_22, Value.ref a0_23, Value.ref a0_24, Value.int a0_25, a0g_26, a0g_27, a0g_28, a0g_29, a0g_30, a0g_31, a0g_32, a0g_33, a0g_34, a0g_35, a0g_36, a0g_37, a0g_38, a0g_39])), (a1, .inl (ka1, 23, .inl (nfa1))), (a0_15, .inl (ka0_15, 156, .inl (fa0_15))), (a0_24, .inl (ka0_24, 3, .inl (fa0_24))), (a0_23, .inl (ka0_23, 3, .inl (fa0_23)))] [(ka1, .int), (ka0_15, .int), (ka0_24, .int), (ka0_23, .int)] t) A) := by
  refine zh (cc := cX8_walkOn) (maxL := 3) (ret := none) zn_RX8 rfl (Nat.le_of_ble_eq_true rfl) (fun p e s m below meth c A ls hx hb hml hr hts (hown : s.vm.findClass RX8 = some m.cls) hlocks hA hS hP hK hD hE (hl : lv_has ls 3 [(0, .ref a0), (1, .ref a1), (2, .int a2)]) => ?_)
  generalize hFX : Ff_X8_walkOn a2.toInt a0_25.toInt (fl_A fa1) (fl_A fa0_15) (fl_A fa0_24) (fl_A fa0_23) = FX at ⊢
  have hF0 := hFX.symm.trans (Ff_X8_walkOn.eq_1 a2.toInt a0_25.toInt (fl_A fa1) (fl_A fa0_15) (fl_A fa0_24) (fl_A fa0_23))
  refine lv_aload_n hx hb dX8_walkOn_0 rfl (lv_at hl 1 rfl) ?_
  refine lv_bipush (v := 20) hx hb dX8_walkOn_1 zk_bipush_20 ?_
  refine va_iald hx hb hK hP 1 0 rfl rfl (by unfold vp_in; decide +kernel) dX8_walkOn_3 ?_
  refine lv_topi (fun x3 ex3 => ?_)
  have bx3 : (0 : Int) ≤ x3.toInt ∧ x3.toInt ≤ 19 := by rw [ex3]; exact ai_rd bfa1.2.2 zq153 zq154 (by decide) (by decide) (by decide)
  have fqx3 := congrArg Int32.toInt ex3
  have hF0 := hF0.trans (fl_lt_eq (show x3.toInt = (fl_A fa1) (20) from fqx3))
  refine lv_iconst (v := 1) hx hb dX8_walkOn_4 zk_iconst_1 ?_
  refine lv_iadd hx hb dX8_walkOn_5 ?_
  refine lv_topi (fun x5 ex5 => ?_)
  have qx5 : x5.toInt = x3.toInt + (1 : Int32).toInt := ai_add ex5 ⟨bx3.1, bx3.2⟩ ⟨zq1, zq0⟩ (by decide) (by decide)
  have bx5 : (1 : Int) ≤ x5.toInt ∧ x5.toInt ≤ 20 := ⟨by rw [qx5]; exact Int.add_le_add bx3.1 zq1, by rw [qx5]; exact Int.add_le_add bx3.2 zq0⟩
  have wx5 : x5.toInt = x3.toInt + 1 := qx5
  have hF0 := hF0.trans (fl_lt_eq (show x5.toInt = x3.toInt + 1 from qx5))
  refine lv_aload_n hx hb dX8_walkOn_6 rfl (lv_at hl 0 rfl) ?_
  refine va_get (D := (dC, dI)) (ci := 8) (v := .ref a0_15) (C := RX8) (T := TX8) (N := 40) hx hb hts zi_X8_walkOn_8 hown hK hP 0 rfl rfl 15 (by decide) (hts (.fieldLink RX8 20 "WaxTurnsModel" "\x72" "[I") (List.mem_cons_of_mem _ (List.mem_append_left _ (List.mem_of_getElem? (i := 0) rfl)))) (fun _ h9 => h9) rfl dX8_walkOn_7 ?_
  refine lv_bipush (v := 12) hx hb dX8_walkOn_10 zk_bipush_12 ?_
  refine lv_iconst (v := 2) hx hb dX8_walkOn_12 zk_iconst_2 ?_
  refine lv_iload_n hx hb dX8_walkOn_13 rfl (lv_at hl 2 rfl) ?_
  refine lv_imul hx hb dX8_walkOn_14 ?_
  refine lv_topi (fun x14 ex14 => ?_)
  have qx14 : x14.toInt = (2 : Int32).toInt * a2.toInt ∧ (0 : Int) ≤ x14.toInt ∧ x14.toInt ≤ 16 := ai_mul ex14 ⟨zq12, zq13⟩ ⟨ba2_l, ba2_u⟩ (by decide) (by decide) zq155
  have wx14 : x14.toInt = 2 * a2.toInt := qx14.1
  have hF0 := hF0.trans (fl_lt_eq (show x14.toInt = 2 * a2.toInt from qx14.1))
  refine lv_iadd hx hb dX8_walkOn_15 ?_
  refine lv_topi (fun x15 ex15 => ?_)
  have qx15 : x15.toInt = (12 : Int32).toInt + x14.toInt := ai_add ex15 ⟨zq119, zq120⟩ ⟨qx14.2.1, qx14.2.2⟩ (by decide) (by decide)
  have bx15 : (12 : Int) ≤ x15.toInt ∧ x15.toInt ≤ 28 := ⟨by rw [qx15]; exact Int.add_le_add zq119 qx14.2.1, by rw [qx15]; exact Int.add_le_add zq120 qx14.2.2⟩
  have wx15 : x15.toInt = 12 + x14.toInt := qx15
  have hF0 := hF0.trans (fl_lt_eq (show x15.toInt = 12 + x14.toInt from qx15))
  refine lv_iconst (v := 1) hx hb dX8_walkOn_16 zk_iconst_1 ?_
  refine lv_iadd hx hb dX8_walkOn_17 ?_
  refine lv_topi (fun x17 ex17 => ?_)
  have qx17 : x17.toInt = x15.toInt + (1 : Int32).toInt := ai_add ex17 ⟨bx15.1, bx15.2⟩ ⟨zq1, zq0⟩ (by decide) (by decide)
  have bx17 : (13 : Int) ≤ x17.toInt ∧ x17.toInt ≤ 29 := ⟨by rw [qx17]; exact Int.add_le_add bx15.1 zq1, by rw [qx17]; exact Int.add_le_add bx15.2 zq0⟩
  have wx17 : x17.toInt = x15.toInt + 1 := qx17
  have hF0 := hF0.trans (fl_lt_eq (show x17.toInt = x15.toInt + 1 from qx17))
  refine va_iald hx hb hK hP 2 1 rfl rfl (ai_in bx17.1 bx17.2 (by decide) (by decide)) dX8_walkOn_18 ?_
  refine lv_topi (fun x18 ex18 => ?_)
  have bx18 : (0 : Int) ≤ x18.toInt ∧ x18.toInt ≤ 20 := by rw [ex18]; exact ai_rd bfa0_15.2.2.2.2.2.2.2.2.1 bx17.1 bx17.2 (by decide) (by decide) (by decide)
  have fqx18 := congrArg Int32.toInt ex18
  have hF0 := hF0.trans (fl_lt_eq (show x18.toInt = (fl_A fa0_15) (x17.toInt.toNat) from fqx18))
  have l18z_x18 : (1 : Int) ≤ x18.toInt := by rw [ex18]; exact hkm x17 (by omega)
  refine lv_irem hx hb dX8_walkOn_19 (ai_nz l18z_x18 (by decide)) ?_
  refine lv_topi (fun x19 ex19 => ?_)
  have qx19 := ai_rem2 ex19 (Int.le_trans zq4 bx5.1) (Int.lt_of_lt_of_le zq19 l18z_x18) bx18.2
  have hF0 := hF0.trans (fl_lt_eq (show x19.toInt = x5.toInt % x18.toInt from qx19.1))
  refine lv_if_eq (tgt := 24) hx hb dX8_walkOn_20 (by decide) (fun c20 => ?_) (fun c20 => ?_)
  · have gc20 := ai_eq c20
    have u20t_x19 : x19.toInt ≤ (0 : Int) := Int.le_trans (Int.le_of_eq gc20) zq6
    have l20t_x19 : (0 : Int) ≤ x19.toInt := qx19.2.1
    have hF0 := hF0.trans (if_pos (show x19.toInt = 0 from gc20))
    refine lv_aload_n hx hb dX8_walkOn_24 rfl (lv_at hl 1 rfl) ?_
    refine lv_iload_n hx hb dX8_walkOn_25 rfl (lv_at hl 2 rfl) ?_
    refine lv_dup2_11 hx hb dX8_walkOn_26 rfl rfl ?_
    refine va_iald hx hb hK hP 1 0 rfl rfl (ai_in ba2_l ba2_u (by decide) (by decide)) dX8_walkOn_27 ?_
    refine lv_topi (fun x27 ex27 => ?_)
    have bx27 : (0 : Int) ≤ x27.toInt ∧ x27.toInt ≤ 8 := by rw [ex27]; exact ai_rd bfa1.1 ba2_l ba2_u (by decide) (by decide) (by decide)
    have fqx27 := congrArg Int32.toInt ex27
    have hF0 := hF0.trans (fl_lt_eq (show x27.toInt = (fl_A fa1) (a2.toInt.toNat) from fqx27))
    refine lv_aload_n hx hb dX8_walkOn_28 rfl (lv_at hl 1 rfl) ?_
    refine lv_iload_n hx hb dX8_walkOn_29 rfl (lv_at hl 2 rfl) ?_
    refine va_iald hx hb hK hP 1 0 rfl rfl (ai_in ba2_l ba2_u (by decide) (by decide)) dX8_walkOn_30 ?_
    refine ax_ti x27 ex27.symm ?_
    refine lv_aload_n hx hb dX8_walkOn_31 rfl (lv_at hl 0 rfl) ?_
    refine va_get (D := (dC, dI)) (ci := 8) (v := .ref a0_15) (C := RX8) (T := TX8) (N := 40) hx hb hts zi_X8_walkOn_8 hown hK hP 0 rfl rfl 15 (by decide) (hts (.fieldLink RX8 20 "WaxTurnsModel" "\x72" "[I") (List.mem_cons_of_mem _ (List.mem_append_left _ (List.mem_of_getElem? (i := 0) rfl)))) (fun _ h9 => h9) rfl dX8_walkOn_32 ?_
    refine lv_iconst (v := 2) hx hb dX8_walkOn_35 zk_iconst_2 ?_
    refine va_iald hx hb hK hP 2 1 rfl rfl (by unfold vp_in; decide +kernel) dX8_walkOn_36 ?_
    refine lv_topi (fun x36 ex36 => ?_)
    have bx36 : (0 : Int) ≤ x36.toInt ∧ x36.toInt ≤ 8 := by rw [ex36]; exact ai_rd bfa0_15.2.2.1 zq12 zq13 (by decide) (by decide) (by decide)
    have fqx36 := congrArg Int32.toInt ex36
    have hF0 := hF0.trans (fl_lt_eq (show x36.toInt = (fl_A fa0_15) (2) from fqx36))
    refine lv_icmp_ge (tgt := 44) hx hb dX8_walkOn_37 (by decide) (fun c37 => ?_) (fun c37 => ?_)
    · have gc37 := ai_le c37
      have u37t_x36 : x36.toInt ≤ (8 : Int) := bx36.2
      have l37t_x27 : (0 : Int) ≤ x27.toInt := bx27.1
      have hF0 := hF0.trans (if_pos (show x36.toInt ≤ x27.toInt from gc37))
      refine lv_aload_n hx hb dX8_walkOn_44 rfl (lv_at hl 1 rfl) ?_
      refine lv_iload_n hx hb dX8_walkOn_45 rfl (lv_at hl 2 rfl) ?_
      refine va_iald hx hb hK hP 1 0 rfl rfl (ai_in ba2_l ba2_u (by decide) (by decide)) dX8_walkOn_46 ?_
      refine ax_ti x27 ex27.symm ?_
      refine lv_aload_n hx hb dX8_walkOn_47 rfl (lv_at hl 0 rfl) ?_
      refine va_get (D := (dC, dI)) (ci := 8) (v := .ref a0_15) (C := RX8) (T := TX8) (N := 40) hx hb hts zi_X8_walkOn_8 hown hK hP 0 rfl rfl 15 (by decide) (hts (.fieldLink RX8 20 "WaxTurnsModel" "\x72" "[I") (List.mem_cons_of_mem _ (List.mem_append_left _ (List.mem_of_getElem? (i := 0) rfl)))) (fun _ h9 => h9) rfl dX8_walkOn_48 ?_
      refine lv_iconst (v := 2) hx hb dX8_walkOn_51 zk_iconst_2 ?_
      refine va_iald hx hb hK hP 2 1 rfl rfl (by unfold vp_in; decide +kernel) dX8_walkOn_52 ?_
      refine ax_ti x36 ex36.symm ?_
      refine lv_icmp_le (tgt := 60) hx hb dX8_walkOn_53 (by decide) (fun c53 => ?_) (fun c53 => ?_)
      · have gc53 := ai_le c53
        have u53t_x27 : x27.toInt ≤ (8 : Int) := bx27.2
        have l53t_x36 : (0 : Int) ≤ x36.toInt := bx36.1
        have hF0 := hF0.trans (if_pos (show x27.toInt ≤ x36.toInt from gc53))
        refine lv_iconst (v := 0) hx hb dX8_walkOn_60 zk_iconst_0 ?_
        refine lv_iadd hx hb dX8_walkOn_61 ?_
        refine lv_topi (fun x61 ex61 => ?_)
        have qx61 : x61.toInt = x27.toInt + (0 : Int32).toInt := ai_add ex61 ⟨l37t_x27, u53t_x27⟩ ⟨zq5, zq6⟩ (by decide) (by decide)
        have bx61 : (0 : Int) ≤ x61.toInt ∧ x61.toInt ≤ 8 := ⟨by rw [qx61]; exact Int.add_le_add l37t_x27 zq5, by rw [qx61]; exact Int.add_le_add u53t_x27 zq6⟩
        have wx61 : x61.toInt = x27.toInt + 0 := qx61
        have hF0 := hF0.trans (fl_lt_eq (show x61.toInt = x27.toInt + 0 from qx61))
        refine va_iast hx hb hK hP hD hS 1 0 rfl rfl (ai_in ba2_l ba2_u (by decide) (by decide)) dX8_walkOn_62 (fun H locs hP hD hS => ?_)
        obtain ⟨f62, ef62⟩ : ∃ g9 : Nat → Int32, g9 = upd fa1 (a2 : Int32).toNatClampNeg x61 := ⟨_, rfl⟩
        refine zs_1 (y := (a1, .inl (ka1, 23, .inl (f62)))) hP hD (by rw [ef62]) (fun hP hD => ?_)
        have bf62 : ((∀ k : Nat, 0 ≤ k → k ≤ 8 → (0 : Int) ≤ (f62 k).toInt ∧ (f62 k).toInt ≤ 8) ∧ (∀ k : Nat, 19 ≤ k → k ≤ 19 → (0 : Int) ≤ (f62 k).toInt ∧ (f62 k).toInt ≤ 8) ∧ (∀ k : Nat, 20 ≤ k → k ≤ 20 → (0 : Int) ≤ (f62 k).toInt ∧ (f62 k).toInt ≤ 19)) := by rw [ef62]; exact ⟨ai_updS bfa1.1 _ ⟨bx61.1, bx61.2⟩, ai_updO bfa1.2.1 _ (Or.inl (ai_nlt_of ba2_l ba2_u (by decide) (by decide))), ai_updO bfa1.2.2 _ (Or.inl (ai_nlt_of ba2_l ba2_u (by decide) (by decide)))⟩
        have fqf62 := fl_up_eq ef62
        have hF0 := hF0.trans (fl_lt_eq (show (fl_A f62) = fl_up (fl_A fa1) (a2.toInt.toNat) x61.toInt from fqf62))
        refine lv_aload_n hx hb dX8_walkOn_63 rfl (lv_at hl 0 rfl) ?_
        refine lv_aload_n hx hb dX8_walkOn_64 rfl (lv_at hl 1 rfl) ?_
        refine lv_iload_n hx hb dX8_walkOn_65 rfl (lv_at hl 2 rfl) ?_
        refine va_iald hx hb hK hP 1 0 rfl rfl (ai_in ba2_l ba2_u (by decide) (by decide)) dX8_walkOn_66 ?_
        refine lv_topi (fun x66 ex66 => ?_)
        have bx66 : (0 : Int) ≤ x66.toInt ∧ x66.toInt ≤ 8 := by rw [ex66]; exact ai_rd bf62.1 ba2_l ba2_u (by decide) (by decide) (by decide)
        have fqx66 := congrArg Int32.toInt ex66
        have hF0 := hF0.trans (fl_lt_eq (show x66.toInt = (fl_A f62) (a2.toInt.toNat) from fqx66))
        refine lv_aload_n hx hb dX8_walkOn_67 rfl (lv_at hl 1 rfl) ?_
        refine lv_bipush (v := 21) hx hb dX8_walkOn_68 zk_bipush_21 ?_
        refine va_iald hx hb hK hP 1 0 rfl rfl (by unfold vp_in; decide +kernel) dX8_walkOn_70 ?_
        refine lv_topi (fun x70 ex70 => ?_)
        have fqx70 := congrArg Int32.toInt ex70
        have hF0 := hF0.trans (fl_lt_eq (show x70.toInt = (fl_A f62) (21) from fqx70))
        refine zc_cutc (wc := [(a0, .inr (8, [a0g_0, a0g_1, a0g_2, a0g_3, a0g_4, a0g_5, a0g_6, a0g_7, a0g_8, a0g_9, a0g_10, a0g_11, a0g_12, a0g_13, a0g_14, Value.ref a0_15, a0g_16, a0g_17, a0g_18, a0g_19, a0g_20, a0g_21, a0g_22, Value.ref a0_23, Value.ref a0_24, Value.int a0_25, a0g_26, a0g_27, a0g_28, a0g_29, a0g_30, a0g_31, a0g_32, a0g_33, a0g_34, a0g_35, a0g_36, a0g_37, a0g_38, a0g_39])), (a0_15, .inl (ka0_15, 156, .inl (fa0_15))), (a0_24, .inl (ka0_24, 3, .inl (fa0_24))), (a0_23, .inl (ka0_23, 3, .inl (fa0_23)))]) hP hD hS hA [0, 2, 3, 4] (by decide +kernel) rfl (fun hPc hDc hFc hCc => ?_)
        have hKc := hK.sub (tys' := [(ka0_15, .int), (ka0_24, .int), (ka0_23, .int)]) [1, 2, 3] rfl
        refine va_calli (va_runV (As := [.int x66, .int x70]) (rest := []) ⟨hx, hb, hml, hown, hts⟩ (f_X8_isWatched l dC dI H.size a0 x66 x70 a0g_0 a0g_1 a0g_2 a0g_3 a0g_4 a0g_5 a0g_6 a0g_7 a0g_8 a0g_9 a0g_10 a0g_11 a0g_12 a0g_13 a0g_14 a0g_16 a0g_17 a0g_18 a0g_19 a0g_20 a0g_21 a0g_22 a0g_26 a0g_27 a0g_28 a0g_29 a0g_30 a0g_31 a0g_32 a0g_33 a0g_34 a0g_35 a0g_36 a0g_37 a0g_38 a0g_39 a0_15 a0_23 a0_24 a0_25 ka0_15 fa0_15 ka0_24 fa0_24 ka0_23 fa0_23 bfa0_15 bfa0_24 bfa0_23) (cwV 2 hts gX8_walkOn_X8_isWatched rfl rfl rfl zd_X8_isWatched ⟨Nat.le_of_ble_eq_true rfl, Nat.le_of_ble_eq_true rfl⟩) ⟨ax_blind (fun _ _ _ _ _ => trivial), zr_8 hKc hPc (q0 := 0) rfl, ax_pre hPc hKc hDc (fun _ _ => trivial)⟩ rfl rfl hl.1 rfl (lv_room (Nat.le_of_ble_eq_true rfl)) dX8_walkOn_71 ⟨Nat.le_of_ble_eq_true rfl, Nat.le_of_ble_eq_true rfl⟩) hS (fun q _ h => hFc q h) hFc (fun r71 u t H locs ht hvm hw hB hz1 hk1 hS1 => zo hB ht hS1 (fun hP1 hK1 hD1 hS => ?_))
        refine zc_backc (w := [(a0, .inr (8, [a0g_0, a0g_1, a0g_2, a0g_3, a0g_4, a0g_5, a0g_6, a0g_7, a0g_8, a0g_9, a0g_10, a0g_11, a0g_12, a0g_13, a0g_14, Value.ref a0_15, a0g_16, a0g_17, a0g_18, a0g_19, a0g_20, a0g_21, a0g_22, Value.ref a0_23, Value.ref a0_24, Value.int a0_25, a0g_26, a0g_27, a0g_28, a0g_29, a0g_30, a0g_31, a0g_32, a0g_33, a0g_34, a0g_35, a0g_36, a0g_37, a0g_38, a0g_39])), (a1, .inl (ka1, 23, .inl (f62))), (a0_15, .inl (ka0_15, 156, .inl (fa0_15))), (a0_24, .inl (ka0_24, 3, .inl (fa0_24))), (a0_23, .inl (ka0_23, 3, .inl (fa0_23)))]) hP hD hCc hk1 hFc hP1 hD1 [.inr 0, .inl 1, .inr 1, .inr 2, .inr 3] (by decide +kernel) rfl (fun hP hD => ?_)
        obtain ⟨hw, hfr71⟩ := hw
        have hc71 : Ff_X8_isWatched x66.toInt x70.toInt a0_25.toInt (fl_A fa0_15) (fl_A fa0_24) (fl_A fa0_23) = r71.toInt := hfr71.symm
        have hF0 := hF0.trans (fl_lt_eq hc71.symm)
        rcases hw with hw | hw
        · subst hw
          have hF0 := hF0.trans (if_pos (by decide))
          refine lv_if_eq (tgt := 92) hx hb dX8_walkOn_74 (by decide) (fun c74 => absurd c74 (by decide +kernel)) (fun _ => ?_)
          refine lv_aload_n hx hb dX8_walkOn_77 rfl (lv_at hl 1 rfl) ?_
          refine lv_iload_n hx hb dX8_walkOn_78 rfl (lv_at hl 2 rfl) ?_
          refine lv_iload_n hx hb dX8_walkOn_79 rfl (lv_at hl 2 rfl) ?_
          refine va_iast hx hb hK hP hD hS 1 0 rfl rfl (ai_in ba2_l ba2_u (by decide) (by decide)) dX8_walkOn_80 (fun H locs hP hD hS => ?_)
          obtain ⟨f80, ef80⟩ : ∃ g9 : Nat → Int32, g9 = upd f62 (a2 : Int32).toNatClampNeg a2 := ⟨_, rfl⟩
          refine zs_1 (y := (a1, .inl (ka1, 23, .inl (f80)))) hP hD (by rw [ef80]) (fun hP hD => ?_)
          have bf80 : ((∀ k : Nat, 0 ≤ k → k ≤ 8 → (0 : Int) ≤ (f80 k).toInt ∧ (f80 k).toInt ≤ 8) ∧ (∀ k : Nat, 19 ≤ k → k ≤ 19 → (0 : Int) ≤ (f80 k).toInt ∧ (f80 k).toInt ≤ 8) ∧ (∀ k : Nat, 20 ≤ k → k ≤ 20 → (0 : Int) ≤ (f80 k).toInt ∧ (f80 k).toInt ≤ 19)) := by rw [ef80]; exact ⟨ai_updS bf62.1 _ ⟨ba2_l, ba2_u⟩, ai_updO bf62.2.1 _ (Or.inl (ai_nlt_of ba2_l ba2_u (by decide) (by decide))), ai_updO bf62.2.2 _ (Or.inl (ai_nlt_of ba2_l ba2_u (by decide) (by decide)))⟩
          have fqf80 := fl_up_eq ef80
          have hF0 := hF0.trans (fl_lt_eq (show (fl_A f80) = fl_up (fl_A f62) (a2.toInt.toNat) a2.toInt from fqf80))
          refine lv_aload_n hx hb dX8_walkOn_81 rfl (lv_at hl 1 rfl) ?_
          refine lv_bipush (v := 22) hx hb dX8_walkOn_82 zk_bipush_22 ?_
          refine lv_dup2_11 hx hb dX8_walkOn_84 rfl rfl ?_
          refine va_iald hx hb hK hP 1 0 rfl rfl (by unfold vp_in; decide +kernel) dX8_walkOn_85 ?_
          refine lv_topi (fun x85 ex85 => ?_)
          have fqx85 := congrArg Int32.toInt ex85
          have hF0 := hF0.trans (fl_lt_eq (show x85.toInt = (fl_A f80) (22) from fqx85))
          refine lv_iconst (v := 1) hx hb dX8_walkOn_86 zk_iconst_1 ?_
          refine lv_iadd hx hb dX8_walkOn_87 ?_
          refine lv_topi (fun x87 ex87 => ?_)
          have fqx87 := fl_iadd_eq ex87
          have hF0 := hF0.trans (fl_lt_eq (show x87.toInt = fl_iadd x85.toInt 1 from fqx87))
          refine va_iast hx hb hK hP hD hS 1 0 rfl rfl (by unfold vp_in; decide +kernel) dX8_walkOn_88 (fun H locs hP hD hS => ?_)
          obtain ⟨f88, ef88⟩ : ∃ g9 : Nat → Int32, g9 = upd f80 (22 : Int32).toNatClampNeg x87 := ⟨_, rfl⟩
          refine zs_1 (y := (a1, .inl (ka1, 23, .inl (f88)))) hP hD (by rw [ef88]) (fun hP hD => ?_)
          have bf88 : ((∀ k : Nat, 0 ≤ k → k ≤ 8 → (0 : Int) ≤ (f88 k).toInt ∧ (f88 k).toInt ≤ 8) ∧ (∀ k : Nat, 19 ≤ k → k ≤ 19 → (0 : Int) ≤ (f88 k).toInt ∧ (f88 k).toInt ≤ 8) ∧ (∀ k : Nat, 20 ≤ k → k ≤ 20 → (0 : Int) ≤ (f88 k).toInt ∧ (f88 k).toInt ≤ 19)) := by rw [ef88]; exact ⟨ai_updO bf80.1 _ (Or.inr (ai_ngt_of zq156 (by decide) (by decide))), ai_updO bf80.2.1 _ (Or.inr (ai_ngt_of zq156 (by decide) (by decide))), ai_updO bf80.2.2 _ (Or.inr (ai_ngt_of zq156 (by decide) (by decide)))⟩
          have kf88_22 : f88 22 = x87 := by rw [ef88]; exact ai_k1 (by decide +kernel)
          have fqf88 := fl_up_eq ef88
          have hF0 := hF0.trans (fl_lt_eq (show (fl_A f88) = fl_up (fl_A f80) (22) x87.toInt from fqf88))
          refine lv_goto (tgt := 114) hx hb dX8_walkOn_89 (by decide) ?_
          have hFe : FX = (fl_A f88) := hF0
          exact W.vret hx hb hr (fun t ht hW => ⟨⟨(), rfl, trivial, f88, bf88, hFe, by rw [ht]; exact hP, va_K.moved hW.alike hK, hD⟩, hS.F ht⟩) hS.2.2 dX8_walkOn_114
        · subst hw
          have hF0 := hF0.trans (if_neg (by decide))
          refine lv_if_eq (tgt := 92) hx hb dX8_walkOn_74 (by decide) (fun _ => ?_) (fun c74 => absurd (by decide +kernel) c74)
          refine lv_aload_n hx hb dX8_walkOn_92 rfl (lv_at hl 1 rfl) ?_
          refine lv_iload_n hx hb dX8_walkOn_93 rfl (lv_at hl 2 rfl) ?_
          refine va_iald hx hb hK hP 1 0 rfl rfl (ai_in ba2_l ba2_u (by decide) (by decide)) dX8_walkOn_94 ?_
          refine ax_ti x66 ex66.symm ?_
          refine lv_aload_n hx hb dX8_walkOn_95 rfl (lv_at hl 0 rfl) ?_
          refine va_get (D := (dC, dI)) (ci := 8) (v := .ref a0_15) (C := RX8) (T := TX8) (N := 40) hx hb hts zi_X8_walkOn_8 hown hK hP 0 rfl rfl 15 (by decide) (hts (.fieldLink RX8 20 "WaxTurnsModel" "\x72" "[I") (List.mem_cons_of_mem _ (List.mem_append_left _ (List.mem_of_getElem? (i := 0) rfl)))) (fun _ h9 => h9) rfl dX8_walkOn_96 ?_
          refine lv_iconst (v := 2) hx hb dX8_walkOn_99 zk_iconst_2 ?_
          refine va_iald hx hb hK hP 2 1 rfl rfl (by unfold vp_in; decide +kernel) dX8_walkOn_100 ?_
          refine ax_ti x36 ex36.symm ?_
          refine lv_icmp_ne (tgt := 114) hx hb dX8_walkOn_101 (by decide) (fun c101 => ?_) (fun c101 => ?_)
          · have gc101 := ai_ne c101
            have hF0 := hF0.trans (if_neg (show ¬ (x66.toInt = x36.toInt) from  gc101))
            have hFe : FX = (fl_A f62) := hF0
            exact W.vret hx hb hr (fun t ht hW => ⟨⟨(), rfl, trivial, f62, bf62, hFe, by rw [ht]; exact hP, va_K.moved hW.alike hK, hD⟩, hS.F ht⟩) hS.2.2 dX8_walkOn_114
          · have gc101 := ai_eq c101
            have u101f_x66 : x66.toInt ≤ (8 : Int) := bx66.2
            have l101f_x66 : (0 : Int) ≤ x66.toInt := bx66.1
            have u101f_x36 : x36.toInt ≤ (8 : Int) := u37t_x36
            have l101f_x36 : (0 : Int) ≤ x36.toInt := l53t_x36
            have hF0 := hF0.trans (if_pos (show x66.toInt = x36.toInt from gc101))
            refine lv_aload_n hx hb dX8_walkOn_104 rfl (lv_at hl 1 rfl) ?_
            refine lv_bipush (v := 18) hx hb dX8_walkOn_105 zk_bipush_18 ?_
            refine lv_dup2_11 hx hb dX8_walkOn_107 rfl rfl ?_
            refine va_iald hx hb hK hP 1 0 rfl rfl (by unfold vp_in; decide +kernel) dX8_walkOn_108 ?_
            refine lv_topi (fun x108 ex108 => ?_)
            have fqx108 := congrArg Int32.toInt ex108
            have hF0 := hF0.trans (fl_lt_eq (show x108.toInt = (fl_A f62) (18) from fqx108))
            refine lv_iconst (v := 1) hx hb dX8_walkOn_109 zk_iconst_1 ?_
            refine lv_iload_n hx hb dX8_walkOn_110 rfl (lv_at hl 2 rfl) ?_
            refine lv_ishl hx hb dX8_walkOn_111 ?_
            refine lv_topi (fun x111 ex111 => ?_)
            have bx111 : (1 : Int) ≤ x111.toInt ∧ x111.toInt ≤ 512 := sh_1 ex111 ba2_l (Int.le_trans ba2_u zq22)
            have fqx111 := fl_shl_eq ex111
            have hF0 := hF0.trans (fl_lt_eq (show x111.toInt = fl_shl 1 a2.toInt from fqx111))
            refine lv_ior hx hb dX8_walkOn_112 ?_
            refine lv_topi (fun x112 ex112 => ?_)
            have fqx112 := fl_or_eq ex112
            have hF0 := hF0.trans (fl_lt_eq (show x112.toInt = fl_or x108.toInt x111.toInt from fqx112))
            refine va_iast hx hb hK hP hD hS 1 0 rfl rfl (by unfold vp_in; decide +kernel) dX8_walkOn_113 (fun H locs hP hD hS => ?_)
            obtain ⟨f113, ef113⟩ : ∃ g9 : Nat → Int32, g9 = upd f62 (18 : Int32).toNatClampNeg x112 := ⟨_, rfl⟩
            refine zs_1 (y := (a1, .inl (ka1, 23, .inl (f113)))) hP hD (by rw [ef113]) (fun hP hD => ?_)
            have bf113 : ((∀ k : Nat, 0 ≤ k → k ≤ 8 → (0 : Int) ≤ (f113 k).toInt ∧ (f113 k).toInt ≤ 8) ∧ (∀ k : Nat, 19 ≤ k → k ≤ 19 → (0 : Int) ≤ (f113 k).toInt ∧ (f113 k).toInt ≤ 8) ∧ (∀ k : Nat, 20 ≤ k → k ≤ 20 → (0 : Int) ≤ (f113 k).toInt ∧ (f113 k).toInt ≤ 19)) := by rw [ef113]; exact ⟨ai_updO bf62.1 _ (Or.inr (ai_ngt_of zq157 (by decide) (by decide))), ai_updO bf62.2.1 _ (Or.inl (ai_nlt_of zq157 zq158 (by decide) (by decide))), ai_updO bf62.2.2 _ (Or.inl (ai_nlt_of zq157 zq158 (by decide) (by decide)))⟩
            have kf113_18 : f113 18 = x112 := by rw [ef113]; exact ai_k1 (by decide +kernel)
            have fqf113 := fl_up_eq ef113
            have hF0 := hF0.trans (fl_lt_eq (show (fl_A f113) = fl_up (fl_A f62) (18) x112.toInt from fqf113))
            have hFe : FX = (fl_A f113) := hF0
            exact W.vret hx hb hr (fun t ht hW => ⟨⟨(), rfl, trivial, f113, bf113, hFe, by rw [ht]; exact hP, va_K.moved hW.alike hK, hD⟩, hS.F ht⟩) hS.2.2 dX8_walkOn_114
      · have gc53 := ai_nle c53
        have u53f_x36 : x36.toInt ≤ (7 : Int) := ai_lthi gc53 bx27.2
        have l53f_x27 : (1 : Int) ≤ x27.toInt := ai_ltlo gc53 bx36.1
        have hF0 := hF0.trans (if_neg (show ¬ (x27.toInt ≤ x36.toInt) from Int.not_le.mpr gc53))
        refine lv_iconst (v := (-1)) hx hb dX8_walkOn_56 zk_iconst_n1 ?_
        refine lv_goto (tgt := 61) hx hb dX8_walkOn_57 (by decide) ?_
        refine lv_iadd hx hb dX8_walkOn_61 ?_
        refine lv_topi (fun x61 ex61 => ?_)
        have qx61 : x61.toInt = x27.toInt + ((-1) : Int32).toInt := ai_add ex61 ⟨l53f_x27, bx27.2⟩ ⟨zq70, zq71⟩ (by decide) (by decide)
        have bx61 : (0 : Int) ≤ x61.toInt ∧ x61.toInt ≤ 7 := ⟨by rw [qx61]; exact Int.add_le_add l53f_x27 zq70, by rw [qx61]; exact Int.add_le_add bx27.2 zq71⟩
        have wx61 : x61.toInt = x27.toInt - 1 := qx61
        have hF0 := hF0.trans (fl_lt_eq (show x61.toInt = x27.toInt + (-1) from qx61))
        refine va_iast hx hb hK hP hD hS 1 0 rfl rfl (ai_in ba2_l ba2_u (by decide) (by decide)) dX8_walkOn_62 (fun H locs hP hD hS => ?_)
        obtain ⟨f62, ef62⟩ : ∃ g9 : Nat → Int32, g9 = upd fa1 (a2 : Int32).toNatClampNeg x61 := ⟨_, rfl⟩
        refine zs_1 (y := (a1, .inl (ka1, 23, .inl (f62)))) hP hD (by rw [ef62]) (fun hP hD => ?_)
        have bf62 : ((∀ k : Nat, 0 ≤ k → k ≤ 8 → (0 : Int) ≤ (f62 k).toInt ∧ (f62 k).toInt ≤ 8) ∧ (∀ k : Nat, 19 ≤ k → k ≤ 19 → (0 : Int) ≤ (f62 k).toInt ∧ (f62 k).toInt ≤ 8) ∧ (∀ k : Nat, 20 ≤ k → k ≤ 20 → (0 : Int) ≤ (f62 k).toInt ∧ (f62 k).toInt ≤ 19)) := by rw [ef62]; exact ⟨ai_updS bfa1.1 _ ⟨bx61.1, (Int.le_trans bx61.2 zq49)⟩, ai_updO bfa1.2.1 _ (Or.inl (ai_nlt_of ba2_l ba2_u (by decide) (by decide))), ai_updO bfa1.2.2 _ (Or.inl (ai_nlt_of ba2_l ba2_u (by decide) (by decide)))⟩
        have fqf62 := fl_up_eq ef62
        have hF0 := hF0.trans (fl_lt_eq (show (fl_A f62) = fl_up (fl_A fa1) (a2.toInt.toNat) x61.toInt from fqf62))
        refine lv_aload_n hx hb dX8_walkOn_63 rfl (lv_at hl 0 rfl) ?_
        refine lv_aload_n hx hb dX8_walkOn_64 rfl (lv_at hl 1 rfl) ?_
        refine lv_iload_n hx hb dX8_walkOn_65 rfl (lv_at hl 2 rfl) ?_
        refine va_iald hx hb hK hP 1 0 rfl rfl (ai_in ba2_l ba2_u (by decide) (by decide)) dX8_walkOn_66 ?_
        refine lv_topi (fun x66 ex66 => ?_)
        have bx66 : (0 : Int) ≤ x66.toInt ∧ x66.toInt ≤ 8 := by rw [ex66]; exact ai_rd bf62.1 ba2_l ba2_u (by decide) (by decide) (by decide)
        have fqx66 := congrArg Int32.toInt ex66
        have hF0 := hF0.trans (fl_lt_eq (show x66.toInt = (fl_A f62) (a2.toInt.toNat) from fqx66))
        refine lv_aload_n hx hb dX8_walkOn_67 rfl (lv_at hl 1 rfl) ?_
        refine lv_bipush (v := 21) hx hb dX8_walkOn_68 zk_bipush_21 ?_
        refine va_iald hx hb hK hP 1 0 rfl rfl (by unfold vp_in; decide +kernel) dX8_walkOn_70 ?_
        refine lv_topi (fun x70 ex70 => ?_)
        have fqx70 := congrArg Int32.toInt ex70
        have hF0 := hF0.trans (fl_lt_eq (show x70.toInt = (fl_A f62) (21) from fqx70))
        refine zc_cutc (wc := [(a0, .inr (8, [a0g_0, a0g_1, a0g_2, a0g_3, a0g_4, a0g_5, a0g_6, a0g_7, a0g_8, a0g_9, a0g_10, a0g_11, a0g_12, a0g_13, a0g_14, Value.ref a0_15, a0g_16, a0g_17, a0g_18, a0g_19, a0g_20, a0g_21, a0g_22, Value.ref a0_23, Value.ref a0_24, Value.int a0_25, a0g_26, a0g_27, a0g_28, a0g_29, a0g_30, a0g_31, a0g_32, a0g_33, a0g_34, a0g_35, a0g_36, a0g_37, a0g_38, a0g_39])), (a0_15, .inl (ka0_15, 156, .inl (fa0_15))), (a0_24, .inl (ka0_24, 3, .inl (fa0_24))), (a0_23, .inl (ka0_23, 3, .inl (fa0_23)))]) hP hD hS hA [0, 2, 3, 4] (by decide +kernel) rfl (fun hPc hDc hFc hCc => ?_)
        have hKc := hK.sub (tys' := [(ka0_15, .int), (ka0_24, .int), (ka0_23, .int)]) [1, 2, 3] rfl
        refine va_calli (va_runV (As := [.int x66, .int x70]) (rest := []) ⟨hx, hb, hml, hown, hts⟩ (f_X8_isWatched l dC dI H.size a0 x66 x70 a0g_0 a0g_1 a0g_2 a0g_3 a0g_4 a0g_5 a0g_6 a0g_7 a0g_8 a0g_9 a0g_10 a0g_11 a0g_12 a0g_13 a0g_14 a0g_16 a0g_17 a0g_18 a0g_19 a0g_20 a0g_21 a0g_22 a0g_26 a0g_27 a0g_28 a0g_29 a0g_30 a0g_31 a0g_32 a0g_33 a0g_34 a0g_35 a0g_36 a0g_37 a0g_38 a0g_39 a0_15 a0_23 a0_24 a0_25 ka0_15 fa0_15 ka0_24 fa0_24 ka0_23 fa0_23 bfa0_15 bfa0_24 bfa0_23) (cwV 2 hts gX8_walkOn_X8_isWatched rfl rfl rfl zd_X8_isWatched ⟨Nat.le_of_ble_eq_true rfl, Nat.le_of_ble_eq_true rfl⟩) ⟨ax_blind (fun _ _ _ _ _ => trivial), zr_8 hKc hPc (q0 := 0) rfl, ax_pre hPc hKc hDc (fun _ _ => trivial)⟩ rfl rfl hl.1 rfl (lv_room (Nat.le_of_ble_eq_true rfl)) dX8_walkOn_71 ⟨Nat.le_of_ble_eq_true rfl, Nat.le_of_ble_eq_true rfl⟩) hS (fun q _ h => hFc q h) hFc (fun r71 u t H locs ht hvm hw hB hz1 hk1 hS1 => zo hB ht hS1 (fun hP1 hK1 hD1 hS => ?_))
        refine zc_backc (w := [(a0, .inr (8, [a0g_0, a0g_1, a0g_2, a0g_3, a0g_4, a0g_5, a0g_6, a0g_7, a0g_8, a0g_9, a0g_10, a0g_11, a0g_12, a0g_13, a0g_14, Value.ref a0_15, a0g_16, a0g_17, a0g_18, a0g_19, a0g_20, a0g_21, a0g_22, Value.ref a0_23, Value.ref a0_24, Value.int a0_25, a0g_26, a0g_27, a0g_28, a0g_29, a0g_30, a0g_31, a0g_32, a0g_33, a0g_34, a0g_35, a0g_36, a0g_37, a0g_38, a0g_39])), (a1, .inl (ka1, 23, .inl (f62))), (a0_15, .inl (ka0_15, 156, .inl (fa0_15))), (a0_24, .inl (ka0_24, 3, .inl (fa0_24))), (a0_23, .inl (ka0_23, 3, .inl (fa0_23)))]) hP hD hCc hk1 hFc hP1 hD1 [.inr 0, .inl 1, .inr 1, .inr 2, .inr 3] (by decide +kernel) rfl (fun hP hD => ?_)
        obtain ⟨hw, hfr71⟩ := hw
        have hc71 : Ff_X8_isWatched x66.toInt x70.toInt a0_25.toInt (fl_A fa0_15) (fl_A fa0_24) (fl_A fa0_23) = r71.toInt := hfr71.symm
        have hF0 := hF0.trans (fl_lt_eq hc71.symm)
        rcases hw with hw | hw
        · subst hw
          have hF0 := hF0.trans (if_pos (by decide))
          refine lv_if_eq (tgt := 92) hx hb dX8_walkOn_74 (by decide) (fun c74 => absurd c74 (by decide +kernel)) (fun _ => ?_)
          refine lv_aload_n hx hb dX8_walkOn_77 rfl (lv_at hl 1 rfl) ?_
          refine lv_iload_n hx hb dX8_walkOn_78 rfl (lv_at hl 2 rfl) ?_
          refine lv_iload_n hx hb dX8_walkOn_79 rfl (lv_at hl 2 rfl) ?_
          refine va_iast hx hb hK hP hD hS 1 0 rfl rfl (ai_in ba2_l ba2_u (by decide) (by decide)) dX8_walkOn_80 (fun H locs hP hD hS => ?_)
          obtain ⟨f80, ef80⟩ : ∃ g9 : Nat → Int32, g9 = upd f62 (a2 : Int32).toNatClampNeg a2 := ⟨_, rfl⟩
          refine zs_1 (y := (a1, .inl (ka1, 23, .inl (f80)))) hP hD (by rw [ef80]) (fun hP hD => ?_)
          have bf80 : ((∀ k : Nat, 0 ≤ k → k ≤ 8 → (0 : Int) ≤ (f80 k).toInt ∧ (f80 k).toInt ≤ 8) ∧ (∀ k : Nat, 19 ≤ k → k ≤ 19 → (0 : Int) ≤ (f80 k).toInt ∧ (f80 k).toInt ≤ 8) ∧ (∀ k : Nat, 20 ≤ k → k ≤ 20 → (0 : Int) ≤ (f80 k).toInt ∧ (f80 k).toInt ≤ 19)) := by rw [ef80]; exact ⟨ai_updS bf62.1 _ ⟨ba2_l, ba2_u⟩, ai_updO bf62.2.1 _ (Or.inl (ai_nlt_of ba2_l ba2_u (by decide) (by decide))), ai_updO bf62.2.2 _ (Or.inl (ai_nlt_of ba2_l ba2_u (by decide) (by decide)))⟩
          have fqf80 := fl_up_eq ef80
          have hF0 := hF0.trans (fl_lt_eq (show (fl_A f80) = fl_up (fl_A f62) (a2.toInt.toNat) a2.toInt from fqf80))
          refine lv_aload_n hx hb dX8_walkOn_81 rfl (lv_at hl 1 rfl) ?_
          refine lv_bipush (v := 22) hx hb dX8_walkOn_82 zk_bipush_22 ?_
          refine lv_dup2_11 hx hb dX8_walkOn_84 rfl rfl ?_
          refine va_iald hx hb hK hP 1 0 rfl rfl (by unfold vp_in; decide +kernel) dX8_walkOn_85 ?_
          refine lv_topi (fun x85 ex85 => ?_)
          have fqx85 := congrArg Int32.toInt ex85
          have hF0 := hF0.trans (fl_lt_eq (show x85.toInt = (fl_A f80) (22) from fqx85))
          refine lv_iconst (v := 1) hx hb dX8_walkOn_86 zk_iconst_1 ?_
          refine lv_iadd hx hb dX8_walkOn_87 ?_
          refine lv_topi (fun x87 ex87 => ?_)
          have fqx87 := fl_iadd_eq ex87
          have hF0 := hF0.trans (fl_lt_eq (show x87.toInt = fl_iadd x85.toInt 1 from fqx87))
          refine va_iast hx hb hK hP hD hS 1 0 rfl rfl (by unfold vp_in; decide +kernel) dX8_walkOn_88 (fun H locs hP hD hS => ?_)
          obtain ⟨f88, ef88⟩ : ∃ g9 : Nat → Int32, g9 = upd f80 (22 : Int32).toNatClampNeg x87 := ⟨_, rfl⟩
          refine zs_1 (y := (a1, .inl (ka1, 23, .inl (f88)))) hP hD (by rw [ef88]) (fun hP hD => ?_)
          have bf88 : ((∀ k : Nat, 0 ≤ k → k ≤ 8 → (0 : Int) ≤ (f88 k).toInt ∧ (f88 k).toInt ≤ 8) ∧ (∀ k : Nat, 19 ≤ k → k ≤ 19 → (0 : Int) ≤ (f88 k).toInt ∧ (f88 k).toInt ≤ 8) ∧ (∀ k : Nat, 20 ≤ k → k ≤ 20 → (0 : Int) ≤ (f88 k).toInt ∧ (f88 k).toInt ≤ 19)) := by rw [ef88]; exact ⟨ai_updO bf80.1 _ (Or.inr (ai_ngt_of zq156 (by decide) (by decide))), ai_updO bf80.2.1 _ (Or.inr (ai_ngt_of zq156 (by decide) (by decide))), ai_updO bf80.2.2 _ (Or.inr (ai_ngt_of zq156 (by decide) (by decide)))⟩
          have kf88_22 : f88 22 = x87 := by rw [ef88]; exact ai_k1 (by decide +kernel)
          have fqf88 := fl_up_eq ef88
          have hF0 := hF0.trans (fl_lt_eq (show (fl_A f88) = fl_up (fl_A f80) (22) x87.toInt from fqf88))
          refine lv_goto (tgt := 114) hx hb dX8_walkOn_89 (by decide) ?_
          have hFe : FX = (fl_A f88) := hF0
          exact W.vret hx hb hr (fun t ht hW => ⟨⟨(), rfl, trivial, f88, bf88, hFe, by rw [ht]; exact hP, va_K.moved hW.alike hK, hD⟩, hS.F ht⟩) hS.2.2 dX8_walkOn_114
        · subst hw
          have hF0 := hF0.trans (if_neg (by decide))
          refine lv_if_eq (tgt := 92) hx hb dX8_walkOn_74 (by decide) (fun _ => ?_) (fun c74 => absurd (by decide +kernel) c74)
          refine lv_aload_n hx hb dX8_walkOn_92 rfl (lv_at hl 1 rfl) ?_
          refine lv_iload_n hx hb dX8_walkOn_93 rfl (lv_at hl 2 rfl) ?_
          refine va_iald hx hb hK hP 1 0 rfl rfl (ai_in ba2_l ba2_u (by decide) (by decide)) dX8_walkOn_94 ?_
          refine ax_ti x66 ex66.symm ?_
          refine lv_aload_n hx hb dX8_walkOn_95 rfl (lv_at hl 0 rfl) ?_
          refine va_get (D := (dC, dI)) (ci := 8) (v := .ref a0_15) (C := RX8) (T := TX8) (N := 40) hx hb hts zi_X8_walkOn_8 hown hK hP 0 rfl rfl 15 (by decide) (hts (.fieldLink RX8 20 "WaxTurnsModel" "\x72" "[I") (List.mem_cons_of_mem _ (List.mem_append_left _ (List.mem_of_getElem? (i := 0) rfl)))) (fun _ h9 => h9) rfl dX8_walkOn_96 ?_
          refine lv_iconst (v := 2) hx hb dX8_walkOn_99 zk_iconst_2 ?_
          refine va_iald hx hb hK hP 2 1 rfl rfl (by unfold vp_in; decide +kernel) dX8_walkOn_100 ?_
          refine ax_ti x36 ex36.symm ?_
          refine lv_icmp_ne (tgt := 114) hx hb dX8_walkOn_101 (by decide) (fun c101 => ?_) (fun c101 => ?_)
          · have gc101 := ai_ne c101
            have hF0 := hF0.trans (if_neg (show ¬ (x66.toInt = x36.toInt) from  gc101))
            have hFe : FX = (fl_A f62) := hF0
            exact W.vret hx hb hr (fun t ht hW => ⟨⟨(), rfl, trivial, f62, bf62, hFe, by rw [ht]; exact hP, va_K.moved hW.alike hK, hD⟩, hS.F ht⟩) hS.2.2 dX8_walkOn_114
          · have gc101 := ai_eq c101
            have u101f_x66 : x66.toInt ≤ (7 : Int) := Int.le_trans (Int.le_of_eq gc101) u53f_x36
            have l101f_x66 : (0 : Int) ≤ x66.toInt := bx66.1
            have u101f_x36 : x36.toInt ≤ (7 : Int) := u53f_x36
            have l101f_x36 : (0 : Int) ≤ x36.toInt := bx36.1
            have hF0 := hF0.trans (if_pos (show x66.toInt = x36.toInt from gc101))
            refine lv_aload_n hx hb dX8_walkOn_104 rfl (lv_at hl 1 rfl) ?_
            refine lv_bipush (v := 18) hx hb dX8_walkOn_105 zk_bipush_18 ?_
            refine lv_dup2_11 hx hb dX8_walkOn_107 rfl rfl ?_
            refine va_iald hx hb hK hP 1 0 rfl rfl (by unfold vp_in; decide +kernel) dX8_walkOn_108 ?_
            refine lv_topi (fun x108 ex108 => ?_)
            have fqx108 := congrArg Int32.toInt ex108
            have hF0 := hF0.trans (fl_lt_eq (show x108.toInt = (fl_A f62) (18) from fqx108))
            refine lv_iconst (v := 1) hx hb dX8_walkOn_109 zk_iconst_1 ?_
            refine lv_iload_n hx hb dX8_walkOn_110 rfl (lv_at hl 2 rfl) ?_
            refine lv_ishl hx hb dX8_walkOn_111 ?_
            refine lv_topi (fun x111 ex111 => ?_)
            have bx111 : (1 : Int) ≤ x111.toInt ∧ x111.toInt ≤ 512 := sh_1 ex111 ba2_l (Int.le_trans ba2_u zq22)
            have fqx111 := fl_shl_eq ex111
            have hF0 := hF0.trans (fl_lt_eq (show x111.toInt = fl_shl 1 a2.toInt from fqx111))
            refine lv_ior hx hb dX8_walkOn_112 ?_
            refine lv_topi (fun x112 ex112 => ?_)
            have fqx112 := fl_or_eq ex112
            have hF0 := hF0.trans (fl_lt_eq (show x112.toInt = fl_or x108.toInt x111.toInt from fqx112))
            refine va_iast hx hb hK hP hD hS 1 0 rfl rfl (by unfold vp_in; decide +kernel) dX8_walkOn_113 (fun H locs hP hD hS => ?_)
            obtain ⟨f113, ef113⟩ : ∃ g9 : Nat → Int32, g9 = upd f62 (18 : Int32).toNatClampNeg x112 := ⟨_, rfl⟩
            refine zs_1 (y := (a1, .inl (ka1, 23, .inl (f113)))) hP hD (by rw [ef113]) (fun hP hD => ?_)
            have bf113 : ((∀ k : Nat, 0 ≤ k → k ≤ 8 → (0 : Int) ≤ (f113 k).toInt ∧ (f113 k).toInt ≤ 8) ∧ (∀ k : Nat, 19 ≤ k → k ≤ 19 → (0 : Int) ≤ (f113 k).toInt ∧ (f113 k).toInt ≤ 8) ∧ (∀ k : Nat, 20 ≤ k → k ≤ 20 → (0 : Int) ≤ (f113 k).toInt ∧ (f113 k).toInt ≤ 19)) := by rw [ef113]; exact ⟨ai_updO bf62.1 _ (Or.inr (ai_ngt_of zq157 (by decide) (by decide))), ai_updO bf62.2.1 _ (Or.inl (ai_nlt_of zq157 zq158 (by decide) (by decide))), ai_updO bf62.2.2 _ (Or.inl (ai_nlt_of zq157 zq158 (by decide) (by decide)))⟩
            have kf113_18 : f113 18 = x112 := by rw [ef113]; exact ai_k1 (by decide +kernel)
            have fqf113 := fl_up_eq ef113
            have hF0 := hF0.trans (fl_lt_eq (show (fl_A f113) = fl_up (fl_A f62) (18) x112.toInt from fqf113))
            have hFe : FX = (fl_A f113) := hF0
            exact W.vret hx hb hr (fun t ht hW => ⟨⟨(), rfl, trivial, f113, bf113, hFe, by rw [ht]; exact hP, va_K.moved hW.alike hK, hD⟩, hS.F ht⟩) hS.2.2 dX8_walkOn_114
    · have gc37 := ai_nle c37
      have u37f_x27 : x27.toInt ≤ (7 : Int) := ai_lthi gc37 bx36.2
      have l37f_x36 : (1 : Int) ≤ x36.toInt := ai_ltlo gc37 bx27.1
      have hF0 := hF0.trans (if_neg (show ¬ (x36.toInt ≤ x27.toInt) from Int.not_le.mpr gc37))
      refine lv_iconst (v := 1) hx hb dX8_walkOn_40 zk_iconst_1 ?_
      refine lv_goto (tgt := 61) hx hb dX8_walkOn_41 (by decide) ?_
      refine lv_iadd hx hb dX8_walkOn_61 ?_
      refine lv_topi (fun x61 ex61 => ?_)
      have qx61 : x61.toInt = x27.toInt + (1 : Int32).toInt := ai_add ex61 ⟨bx27.1, u37f_x27⟩ ⟨zq1, zq0⟩ (by decide) (by decide)
      have bx61 : (1 : Int) ≤ x61.toInt ∧ x61.toInt ≤ 8 := ⟨by rw [qx61]; exact Int.add_le_add bx27.1 zq1, by rw [qx61]; exact Int.add_le_add u37f_x27 zq0⟩
      have wx61 : x61.toInt = x27.toInt + 1 := qx61
      have hF0 := hF0.trans (fl_lt_eq (show x61.toInt = x27.toInt + 1 from qx61))
      refine va_iast hx hb hK hP hD hS 1 0 rfl rfl (ai_in ba2_l ba2_u (by decide) (by decide)) dX8_walkOn_62 (fun H locs hP hD hS => ?_)
      obtain ⟨f62, ef62⟩ : ∃ g9 : Nat → Int32, g9 = upd fa1 (a2 : Int32).toNatClampNeg x61 := ⟨_, rfl⟩
      refine zs_1 (y := (a1, .inl (ka1, 23, .inl (f62)))) hP hD (by rw [ef62]) (fun hP hD => ?_)
      have bf62 : ((∀ k : Nat, 0 ≤ k → k ≤ 8 → (0 : Int) ≤ (f62 k).toInt ∧ (f62 k).toInt ≤ 8) ∧ (∀ k : Nat, 19 ≤ k → k ≤ 19 → (0 : Int) ≤ (f62 k).toInt ∧ (f62 k).toInt ≤ 8) ∧ (∀ k : Nat, 20 ≤ k → k ≤ 20 → (0 : Int) ≤ (f62 k).toInt ∧ (f62 k).toInt ≤ 19)) := by rw [ef62]; exact ⟨ai_updS bfa1.1 _ ⟨(Int.le_trans zq4 bx61.1), bx61.2⟩, ai_updO bfa1.2.1 _ (Or.inl (ai_nlt_of ba2_l ba2_u (by decide) (by decide))), ai_updO bfa1.2.2 _ (Or.inl (ai_nlt_of ba2_l ba2_u (by decide) (by decide)))⟩
      have fqf62 := fl_up_eq ef62
      have hF0 := hF0.trans (fl_lt_eq (show (fl_A f62) = fl_up (fl_A fa1) (a2.toInt.toNat) x61.toInt from fqf62))
      refine lv_aload_n hx hb dX8_walkOn_63 rfl (lv_at hl 0 rfl) ?_
      refine lv_aload_n hx hb dX8_walkOn_64 rfl (lv_at hl 1 rfl) ?_
      refine lv_iload_n hx hb dX8_walkOn_65 rfl (lv_at hl 2 rfl) ?_
      refine va_iald hx hb hK hP 1 0 rfl rfl (ai_in ba2_l ba2_u (by decide) (by decide)) dX8_walkOn_66 ?_
      refine lv_topi (fun x66 ex66 => ?_)
      have bx66 : (0 : Int) ≤ x66.toInt ∧ x66.toInt ≤ 8 := by rw [ex66]; exact ai_rd bf62.1 ba2_l ba2_u (by decide) (by decide) (by decide)
      have fqx66 := congrArg Int32.toInt ex66
      have hF0 := hF0.trans (fl_lt_eq (show x66.toInt = (fl_A f62) (a2.toInt.toNat) from fqx66))
      refine lv_aload_n hx hb dX8_walkOn_67 rfl (lv_at hl 1 rfl) ?_
      refine lv_bipush (v := 21) hx hb dX8_walkOn_68 zk_bipush_21 ?_
      refine va_iald hx hb hK hP 1 0 rfl rfl (by unfold vp_in; decide +kernel) dX8_walkOn_70 ?_
      refine lv_topi (fun x70 ex70 => ?_)
      have fqx70 := congrArg Int32.toInt ex70
      have hF0 := hF0.trans (fl_lt_eq (show x70.toInt = (fl_A f62) (21) from fqx70))
      refine zc_cutc (wc := [(a0, .inr (8, [a0g_0, a0g_1, a0g_2, a0g_3, a0g_4, a0g_5, a0g_6, a0g_7, a0g_8, a0g_9, a0g_10, a0g_11, a0g_12, a0g_13, a0g_14, Value.ref a0_15, a0g_16, a0g_17, a0g_18, a0g_19, a0g_20, a0g_21, a0g_22, Value.ref a0_23, Value.ref a0_24, Value.int a0_25, a0g_26, a0g_27, a0g_28, a0g_29, a0g_30, a0g_31, a0g_32, a0g_33, a0g_34, a0g_35, a0g_36, a0g_37, a0g_38, a0g_39])), (a0_15, .inl (ka0_15, 156, .inl (fa0_15))), (a0_24, .inl (ka0_24, 3, .inl (fa0_24))), (a0_23, .inl (ka0_23, 3, .inl (fa0_23)))]) hP hD hS hA [0, 2, 3, 4] (by decide +kernel) rfl (fun hPc hDc hFc hCc => ?_)
      have hKc := hK.sub (tys' := [(ka0_15, .int), (ka0_24, .int), (ka0_23, .int)]) [1, 2, 3] rfl
      refine va_calli (va_runV (As := [.int x66, .int x70]) (rest := []) ⟨hx, hb, hml, hown, hts⟩ (f_X8_isWatched l dC dI H.size a0 x66 x70 a0g_0 a0g_1 a0g_2 a0g_3 a0g_4 a0g_5 a0g_6 a0g_7 a0g_8 a0g_9 a0g_10 a0g_11 a0g_12 a0g_13 a0g_14 a0g_16 a0g_17 a0g_18 a0g_19 a0g_20 a0g_21 a0g_22 a0g_26 a0g_27 a0g_28 a0g_29 a0g_30 a0g_31 a0g_32 a0g_33 a0g_34 a0g_35 a0g_36 a0g_37 a0g_38 a0g_39 a0_15 a0_23 a0_24 a0_25 ka0_15 fa0_15 ka0_24 fa0_24 ka0_23 fa0_23 bfa0_15 bfa0_24 bfa0_23) (cwV 2 hts gX8_walkOn_X8_isWatched rfl rfl rfl zd_X8_isWatched ⟨Nat.le_of_ble_eq_true rfl, Nat.le_of_ble_eq_true rfl⟩) ⟨ax_blind (fun _ _ _ _ _ => trivial), zr_8 hKc hPc (q0 := 0) rfl, ax_pre hPc hKc hDc (fun _ _ => trivial)⟩ rfl rfl hl.1 rfl (lv_room (Nat.le_of_ble_eq_true rfl)) dX8_walkOn_71 ⟨Nat.le_of_ble_eq_true rfl, Nat.le_of_ble_eq_true rfl⟩) hS (fun q _ h => hFc q h) hFc (fun r71 u t H locs ht hvm hw hB hz1 hk1 hS1 => zo hB ht hS1 (fun hP1 hK1 hD1 hS => ?_))
      refine zc_backc (w := [(a0, .inr (8, [a0g_0, a0g_1, a0g_2, a0g_3, a0g_4, a0g_5, a0g_6, a0g_7, a0g_8, a0g_9, a0g_10, a0g_11, a0g_12, a0g_13, a0g_14, Value.ref a0_15, a0g_16, a0g_17, a0g_18, a0g_19, a0g_20, a0g_21, a0g_22, Value.ref a0_23, Value.ref a0_24, Value.int a0_25, a0g_26, a0g_27, a0g_28, a0g_29, a0g_30, a0g_31, a0g_32, a0g_33, a0g_34, a0g_35, a0g_36, a0g_37, a0g_38, a0g_39])), (a1, .inl (ka1, 23, .inl (f62))), (a0_15, .inl (ka0_15, 156, .inl (fa0_15))), (a0_24, .inl (ka0_24, 3, .inl (fa0_24))), (a0_23, .inl (ka0_23, 3, .inl (fa0_23)))]) hP hD hCc hk1 hFc hP1 hD1 [.inr 0, .inl 1, .inr 1, .inr 2, .inr 3] (by decide +kernel) rfl (fun hP hD => ?_)
      obtain ⟨hw, hfr71⟩ := hw
      have hc71 : Ff_X8_isWatched x66.toInt x70.toInt a0_25.toInt (fl_A fa0_15) (fl_A fa0_24) (fl_A fa0_23) = r71.toInt := hfr71.symm
      have hF0 := hF0.trans (fl_lt_eq hc71.symm)
      rcases hw with hw | hw
      · subst hw
        have hF0 := hF0.trans (if_pos (by decide))
        refine lv_if_eq (tgt := 92) hx hb dX8_walkOn_74 (by decide) (fun c74 => absurd c74 (by decide +kernel)) (fun _ => ?_)
        refine lv_aload_n hx hb dX8_walkOn_77 rfl (lv_at hl 1 rfl) ?_
        refine lv_iload_n hx hb dX8_walkOn_78 rfl (lv_at hl 2 rfl) ?_
        refine lv_iload_n hx hb dX8_walkOn_79 rfl (lv_at hl 2 rfl) ?_
        refine va_iast hx hb hK hP hD hS 1 0 rfl rfl (ai_in ba2_l ba2_u (by decide) (by decide)) dX8_walkOn_80 (fun H locs hP hD hS => ?_)
        obtain ⟨f80, ef80⟩ : ∃ g9 : Nat → Int32, g9 = upd f62 (a2 : Int32).toNatClampNeg a2 := ⟨_, rfl⟩
        refine zs_1 (y := (a1, .inl (ka1, 23, .inl (f80)))) hP hD (by rw [ef80]) (fun hP hD => ?_)
        have bf80 : ((∀ k : Nat, 0 ≤ k → k ≤ 8 → (0 : Int) ≤ (f80 k).toInt ∧ (f80 k).toInt ≤ 8) ∧ (∀ k : Nat, 19 ≤ k → k ≤ 19 → (0 : Int) ≤ (f80 k).toInt ∧ (f80 k).toInt ≤ 8) ∧ (∀ k : Nat, 20 ≤ k → k ≤ 20 → (0 : Int) ≤ (f80 k).toInt ∧ (f80 k).toInt ≤ 19)) := by rw [ef80]; exact ⟨ai_updS bf62.1 _ ⟨ba2_l, ba2_u⟩, ai_updO bf62.2.1 _ (Or.inl (ai_nlt_of ba2_l ba2_u (by decide) (by decide))), ai_updO bf62.2.2 _ (Or.inl (ai_nlt_of ba2_l ba2_u (by decide) (by decide)))⟩
        have fqf80 := fl_up_eq ef80
        have hF0 := hF0.trans (fl_lt_eq (show (fl_A f80) = fl_up (fl_A f62) (a2.toInt.toNat) a2.toInt from fqf80))
        refine lv_aload_n hx hb dX8_walkOn_81 rfl (lv_at hl 1 rfl) ?_
        refine lv_bipush (v := 22) hx hb dX8_walkOn_82 zk_bipush_22 ?_
        refine lv_dup2_11 hx hb dX8_walkOn_84 rfl rfl ?_
        refine va_iald hx hb hK hP 1 0 rfl rfl (by unfold vp_in; decide +kernel) dX8_walkOn_85 ?_
        refine lv_topi (fun x85 ex85 => ?_)
        have fqx85 := congrArg Int32.toInt ex85
        have hF0 := hF0.trans (fl_lt_eq (show x85.toInt = (fl_A f80) (22) from fqx85))
        refine lv_iconst (v := 1) hx hb dX8_walkOn_86 zk_iconst_1 ?_
        refine lv_iadd hx hb dX8_walkOn_87 ?_
        refine lv_topi (fun x87 ex87 => ?_)
        have fqx87 := fl_iadd_eq ex87
        have hF0 := hF0.trans (fl_lt_eq (show x87.toInt = fl_iadd x85.toInt 1 from fqx87))
        refine va_iast hx hb hK hP hD hS 1 0 rfl rfl (by unfold vp_in; decide +kernel) dX8_walkOn_88 (fun H locs hP hD hS => ?_)
        obtain ⟨f88, ef88⟩ : ∃ g9 : Nat → Int32, g9 = upd f80 (22 : Int32).toNatClampNeg x87 := ⟨_, rfl⟩
        refine zs_1 (y := (a1, .inl (ka1, 23, .inl (f88)))) hP hD (by rw [ef88]) (fun hP hD => ?_)
        have bf88 : ((∀ k : Nat, 0 ≤ k → k ≤ 8 → (0 : Int) ≤ (f88 k).toInt ∧ (f88 k).toInt ≤ 8) ∧ (∀ k : Nat, 19 ≤ k → k ≤ 19 → (0 : Int) ≤ (f88 k).toInt ∧ (f88 k).toInt ≤ 8) ∧ (∀ k : Nat, 20 ≤ k → k ≤ 20 → (0 : Int) ≤ (f88 k).toInt ∧ (f88 k).toInt ≤ 19)) := by rw [ef88]; exact ⟨ai_updO bf80.1 _ (Or.inr (ai_ngt_of zq156 (by decide) (by decide))), ai_updO bf80.2.1 _ (Or.inr (ai_ngt_of zq156 (by decide) (by decide))), ai_updO bf80.2.2 _ (Or.inr (ai_ngt_of zq156 (by decide) (by decide)))⟩
        have kf88_22 : f88 22 = x87 := by rw [ef88]; exact ai_k1 (by decide +kernel)
        have fqf88 := fl_up_eq ef88
        have hF0 := hF0.trans (fl_lt_eq (show (fl_A f88) = fl_up (fl_A f80) (22) x87.toInt from fqf88))
        refine lv_goto (tgt := 114) hx hb dX8_walkOn_89 (by decide) ?_
        have hFe : FX = (fl_A f88) := hF0
        exact W.vret hx hb hr (fun t ht hW => ⟨⟨(), rfl, trivial, f88, bf88, hFe, by rw [ht]; exact hP, va_K.moved hW.alike hK, hD⟩, hS.F ht⟩) hS.2.2 dX8_walkOn_114
      · subst hw
        have hF0 := hF0.trans (if_neg (by decide))
        refine lv_if_eq (tgt := 92) hx hb dX8_walkOn_74 (by decide) (fun _ => ?_) (fun c74 => absurd (by decide +kernel) c74)
        refine lv_aload_n hx hb dX8_walkOn_92 rfl (lv_at hl 1 rfl) ?_
        refine lv_iload_n hx hb dX8_walkOn_93 rfl (lv_at hl 2 rfl) ?_
        refine va_iald hx hb hK hP 1 0 rfl rfl (ai_in ba2_l ba2_u (by decide) (by decide)) dX8_walkOn_94 ?_
        refine ax_ti x66 ex66.symm ?_
        refine lv_aload_n hx hb dX8_walkOn_95 rfl (lv_at hl 0 rfl) ?_
        refine va_get (D := (dC, dI)) (ci := 8) (v := .ref a0_15) (C := RX8) (T := TX8) (N := 40) hx hb hts zi_X8_walkOn_8 hown hK hP 0 rfl rfl 15 (by decide) (hts (.fieldLink RX8 20 "WaxTurnsModel" "\x72" "[I") (List.mem_cons_of_mem _ (List.mem_append_left _ (List.mem_of_getElem? (i := 0) rfl)))) (fun _ h9 => h9) rfl dX8_walkOn_96 ?_
        refine lv_iconst (v := 2) hx hb dX8_walkOn_99 zk_iconst_2 ?_
        refine va_iald hx hb hK hP 2 1 rfl rfl (by unfold vp_in; decide +kernel) dX8_walkOn_100 ?_
        refine ax_ti x36 ex36.symm ?_
        refine lv_icmp_ne (tgt := 114) hx hb dX8_walkOn_101 (by decide) (fun c101 => ?_) (fun c101 => ?_)
        · have gc101 := ai_ne c101
          have hF0 := hF0.trans (if_neg (show ¬ (x66.toInt = x36.toInt) from  gc101))
          have hFe : FX = (fl_A f62) := hF0
          exact W.vret hx hb hr (fun t ht hW => ⟨⟨(), rfl, trivial, f62, bf62, hFe, by rw [ht]; exact hP, va_K.moved hW.alike hK, hD⟩, hS.F ht⟩) hS.2.2 dX8_walkOn_114
        · have gc101 := ai_eq c101
          have u101f_x66 : x66.toInt ≤ (8 : Int) := bx66.2
          have l101f_x66 : (1 : Int) ≤ x66.toInt := Int.le_trans l37f_x36 (Int.le_of_eq gc101.symm)
          have u101f_x36 : x36.toInt ≤ (8 : Int) := bx36.2
          have l101f_x36 : (1 : Int) ≤ x36.toInt := l37f_x36
          have hF0 := hF0.trans (if_pos (show x66.toInt = x36.toInt from gc101))
          refine lv_aload_n hx hb dX8_walkOn_104 rfl (lv_at hl 1 rfl) ?_
          refine lv_bipush (v := 18) hx hb dX8_walkOn_105 zk_bipush_18 ?_
          refine lv_dup2_11 hx hb dX8_walkOn_107 rfl rfl ?_
          refine va_iald hx hb hK hP 1 0 rfl rfl (by unfold vp_in; decide +kernel) dX8_walkOn_108 ?_
          refine lv_topi (fun x108 ex108 => ?_)
          have fqx108 := congrArg Int32.toInt ex108
          have hF0 := hF0.trans (fl_lt_eq (show x108.toInt = (fl_A f62) (18) from fqx108))
          refine lv_iconst (v := 1) hx hb dX8_walkOn_109 zk_iconst_1 ?_
          refine lv_iload_n hx hb dX8_walkOn_110 rfl (lv_at hl 2 rfl) ?_
          refine lv_ishl hx hb dX8_walkOn_111 ?_
          refine lv_topi (fun x111 ex111 => ?_)
          have bx111 : (1 : Int) ≤ x111.toInt ∧ x111.toInt ≤ 512 := sh_1 ex111 ba2_l (Int.le_trans ba2_u zq22)
          have fqx111 := fl_shl_eq ex111
          have hF0 := hF0.trans (fl_lt_eq (show x111.toInt = fl_shl 1 a2.toInt from fqx111))
          refine lv_ior hx hb dX8_walkOn_112 ?_
          refine lv_topi (fun x112 ex112 => ?_)
          have fqx112 := fl_or_eq ex112
          have hF0 := hF0.trans (fl_lt_eq (show x112.toInt = fl_or x108.toInt x111.toInt from fqx112))
          refine va_iast hx hb hK hP hD hS 1 0 rfl rfl (by unfold vp_in; decide +kernel) dX8_walkOn_113 (fun H locs hP hD hS => ?_)
          obtain ⟨f113, ef113⟩ : ∃ g9 : Nat → Int32, g9 = upd f62 (18 : Int32).toNatClampNeg x112 := ⟨_, rfl⟩
          refine zs_1 (y := (a1, .inl (ka1, 23, .inl (f113)))) hP hD (by rw [ef113]) (fun hP hD => ?_)
          have bf113 : ((∀ k : Nat, 0 ≤ k → k ≤ 8 → (0 : Int) ≤ (f113 k).toInt ∧ (f113 k).toInt ≤ 8) ∧ (∀ k : Nat, 19 ≤ k → k ≤ 19 → (0 : Int) ≤ (f113 k).toInt ∧ (f113 k).toInt ≤ 8) ∧ (∀ k : Nat, 20 ≤ k → k ≤ 20 → (0 : Int) ≤ (f113 k).toInt ∧ (f113 k).toInt ≤ 19)) := by rw [ef113]; exact ⟨ai_updO bf62.1 _ (Or.inr (ai_ngt_of zq157 (by decide) (by decide))), ai_updO bf62.2.1 _ (Or.inl (ai_nlt_of zq157 zq158 (by decide) (by decide))), ai_updO bf62.2.2 _ (Or.inl (ai_nlt_of zq157 zq158 (by decide) (by decide)))⟩
          have kf113_18 : f113 18 = x112 := by rw [ef113]; exact ai_k1 (by decide +kernel)
          have fqf113 := fl_up_eq ef113
          have hF0 := hF0.trans (fl_lt_eq (show (fl_A f113) = fl_up (fl_A f62) (18) x112.toInt from fqf113))
          have hFe : FX = (fl_A f113) := hF0
          exact W.vret hx hb hr (fun t ht hW => ⟨⟨(), rfl, trivial, f113, bf113, hFe, by rw [ht]; exact hP, va_K.moved hW.alike hK, hD⟩, hS.F ht⟩) hS.2.2 dX8_walkOn_114
  · have gc20 := ai_ne c20
    have l20f_x19 : (1 : Int) ≤ x19.toInt := (by first | exact zg_l qx19.2.1 gc20 (by decide) (by decide) | (have h1 := qx19.2.1; have h2 : (0 : Int32).toInt = 0 := (by decide); rw [h2] at gc20; omega))
    have hF0 := hF0.trans (if_neg (show ¬ (x19.toInt = 0) from  gc20))
    have hFe : FX = (fl_A fa1) := hF0
    exact W.vret hx hb hr (fun t ht hW => ⟨⟨(), rfl, trivial, fa1, bfa1, hFe, by rw [ht]; exact hP, va_K.moved hW.alike hK, hD⟩, hS.F ht⟩) hS.2.2 dX8_walkOn_23
end P314_02_f
