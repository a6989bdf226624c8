set_option maxHeartbeats 4000000 in
set_option maxRecDepth 100000 in
theorem f_X8_speakOn (l : Launch) (dC : Nat → ClassId) (dI : Nat → Nat → Nat) (sz : Nat) (a0 : Nat) (a1 : Nat) (a2 : Int32) (a0g_0 a0g_1 a0g_2 a0g_3 a0g_4 a0g_5 a0g_6 a0g_7 a0g_8 a0g_9 a0g_10 a0g_11 a0g_12 a0g_13 a0g_14 a0g_16 a0g_17 a0g_18 a0g_19 a0g_20 a0g_21 a0g_22 a0g_26 a0g_27 a0g_29 a0g_30 a0g_31 a0g_32 a0g_33 a0g_34 a0g_35 a0g_36 a0g_37 a0g_38 a0g_39 : Value) (a0_15 : Nat) (a0_23 : Nat) (a0_24 : Nat) (a0_25 : Int32) (a0_28 : Int32) (ka1 : ClassId) (fa1 : Nat → Int32) (ka0_15 : ClassId) (fa0_15 : Nat → Int32) (ka0_24 : ClassId) (fa0_24 : Nat → Int32) (ka0_23 : ClassId) (fa0_23 : Nat → Int32) (ba2_l : (0 : Int) ≤ a2.toInt) (ba2_u : a2.toInt ≤ (8 : Int)) (bfa1 : ((∀ k : Nat, 0 ≤ k → k ≤ 8 → (0 : Int) ≤ (fa1 k).toInt ∧ (fa1 k).toInt ≤ 8) ∧ (∀ k : Nat, 19 ≤ k → k ≤ 19 → (0 : Int) ≤ (fa1 k).toInt ∧ (fa1 k).toInt ≤ 8) ∧ (∀ k : Nat, 20 ≤ k → k ≤ 20 → (0 : Int) ≤ (fa1 k).toInt ∧ (fa1 k).toInt ≤ 19))) (bfa0_15 : ((∀ k : Nat, 0 ≤ k → k ≤ 0 → (2 : Int) ≤ (fa0_15 k).toInt ∧ (fa0_15 k).toInt ≤ 9) ∧ (∀ k : Nat, 1 ≤ k → k ≤ 1 → (1 : Int) ≤ (fa0_15 k).toInt ∧ (fa0_15 k).toInt ≤ 20) ∧ (∀ k : Nat, 2 ≤ k → k ≤ 2 → (0 : Int) ≤ (fa0_15 k).toInt ∧ (fa0_15 k).toInt ≤ 8) ∧ (∀ k : Nat, 3 ≤ k → k ≤ 3 → (0 : Int) ≤ (fa0_15 k).toInt ∧ (fa0_15 k).toInt ≤ 100) ∧ (∀ k : Nat, 4 ≤ k → k ≤ 4 → (0 : Int) ≤ (fa0_15 k).toInt ∧ (fa0_15 k).toInt ≤ 9) ∧ (∀ k : Nat, 5 ≤ k → k ≤ 5 → (0 : Int) ≤ (fa0_15 k).toInt ∧ (fa0_15 k).toInt ≤ 3) ∧ (∀ k : Nat, 6 ≤ k → k ≤ 6 → (0 : Int) ≤ (fa0_15 k).toInt ∧ (fa0_15 k).toInt ≤ 6) ∧ (∀ k : Nat, 7 ≤ k → k ≤ 9 → (0 : Int) ≤ (fa0_15 k).toInt ∧ (fa0_15 k).toInt ≤ 8) ∧ (∀ k : Nat, 12 ≤ k → k ≤ 29 → (0 : Int) ≤ (fa0_15 k).toInt ∧ (fa0_15 k).toInt ≤ 20) ∧ (∀ k : Nat, 30 ≤ k → k ≤ 35 → (0 : Int) ≤ (fa0_15 k).toInt ∧ (fa0_15 k).toInt ≤ 8) ∧ (∀ k : Nat, 36 ≤ k → k ≤ 47 → (0 : Int) ≤ (fa0_15 k).toInt ∧ (fa0_15 k).toInt ≤ 999))) (bfa0_24 : (∀ k, (0 : Int) ≤ (fa0_24 k).toInt ∧ (fa0_24 k).toInt ≤ 80)) (bfa0_23 : (∀ k, (0 : Int) ≤ (fa0_23 k).toInt ∧ (fa0_23 k).toInt ≤ 80)) : zm l yX8_speakOn wsX8_speakOn ({ frames := 2, cells := 0, slots := 0, locals := 48 }) [.ref a0, .ref a1, .int a2] dC dI sz [(a0, .inr (8, [a0g_0, a0g_1, a0g_2, a0g_3, a0g_4, a0g_5, a0g_6, a0g_7, a0g_8, a0g_9, a0g_10, a0g_11, a0g_12, a0g_13, a0g_14, Value.ref a0_15, a0g_16, a0g_17, a0g_18, a0g_19, a0g_20, a0g_21, a0g_22, Value.ref a0_23, Value.ref a0_24, Value.int a0_25, a0g_26, a0g_27, Value.int a0_28, a0g_29, a0g_30, a0g_31, a0g_32, a0g_33, a0g_34, a0g_35, a0g_36, a0g_37, a0g_38, a0g_39])), (a1, .inl (ka1, 23, .inl (fa1))), (a0_15, .inl (ka0_15, 156, .inl (fa0_15))), (a0_24, .inl (ka0_24, 3, .inl (fa0_24))), (a0_23, .inl (ka0_23, 3, .inl (fa0_23)))] [(ka1, .int), (ka0_15, .int), (ka0_24, .int), (ka0_23, .int)] (fun A _ => True) (fun A => va_Qv (fun (_ : Unit) => True) (fun (_ : Unit) (t : State) => ∃ na0_28 : Int32, ∃ nfa1 : Nat → Int32, ((∀ k : Nat, 0 ≤ k → k ≤ 8 → (0 : Int) ≤ (nfa1 k).toInt ∧ (nfa1 k).toInt ≤ 8) ∧ (∀ k : Nat, 19 ≤ k → k ≤ 19 → (0 : Int) ≤ (nfa1 k).toInt ∧ (nfa1 k).toInt ≤ 8) ∧ (∀ k : Nat, 20 ≤ k → k ≤ 20 → (0 : Int) ≤ (nfa1 k).toInt ∧ (nfa1 k).toInt ≤ 19)) ∧ (Ff_X8_speakOn a2.toInt a0_25.toInt a0_28.toInt (fl_A fa1) (fl_A fa0_15) (fl_A fa0_24) (fl_A fa0_23) = (na0_28.toInt, (fl_A nfa1))) ∧ ax_B dC dI A [(a0, .inr (8, [a0g_0, a0g_1, a0g_2, a0g_3, a0g_4, a0g_5, a0g_6, a0g_7, a0g_8, a0g_9, a0g_10, a0g_11, a0g_12, a0g_13, a0g_14, Value.ref a0_15, a0g_16, a0g_17, a0g_18, a0g_19, a0g_20, a0g_21, a0g_22, Value.ref a0_23, Value.ref a0_24, Value.int a0_25, a0g_26, a0g_27, Value.int na0_28, a0g_29, a0g_30, a0g_31, a0g_32, a0g_33, a0g_34, a0g_35, a0g_36, a0g_37, a0g_38, a0g_39])), (a1, .inl (ka1, 23, .inl (nfa1))), (a0_15, .inl (ka0_15, 156, .inl (fa0_15))), (a0_24, .inl (ka0_24, 3, .inl (fa0_24))), (a0_23, .inl (ka0_23, 3, .inl (fa0_23)))] [(ka1, .int), (ka0_15, .int), (ka0_24, .int), (ka0_23, .int)] t) A) := by
  refine zh (cc := cX8_speakOn) (maxL := 6) (ret := none) zn_RX8 rfl (Nat.le_of_ble_eq_true rfl) (fun p e s m below meth c A ls hx hb hml hr hts (hown : s.vm.findClass RX8 = some m.cls) hlocks hA hS hP hK hD hE (hl : lv_has ls 6 [(0, .ref a0), (1, .ref a1), (2, .int a2)]) => ?_)
  generalize hFX : Ff_X8_speakOn a2.toInt a0_25.toInt a0_28.toInt (fl_A fa1) (fl_A fa0_15) (fl_A fa0_24) (fl_A fa0_23) = FX at ⊢
  have hF0 := hFX.symm.trans (Ff_X8_speakOn.eq_1 a2.toInt a0_25.toInt a0_28.toInt (fl_A fa1) (fl_A fa0_15) (fl_A fa0_24) (fl_A fa0_23))
  refine ai_open (fun K hK0 => ?_)
  refine (hK0 _ _ _).mpr ?_
  refine lv_aload_n hx hb dX8_speakOn_0 rfl (lv_at hl 1 rfl) ?_
  refine lv_bipush (v := 20) hx hb dX8_speakOn_1 zk_bipush_20 ?_
  refine va_iald hx hb hK hP 1 0 rfl rfl (by unfold vp_in; decide +kernel) dX8_speakOn_3 ?_
  refine lv_topi (fun x3 ex3 => ?_)
  have bx3 : (0 : Int) ≤ x3.toInt ∧ x3.toInt ≤ 19 := by rw [ex3]; exact ai_rd bfa1.2.2 zq153 zq154 (by decide) (by decide) (by decide)
  have fqx3 := congrArg Int32.toInt ex3
  have hF0 := hF0.trans (fl_lt_eq (show x3.toInt = (fl_A fa1) (20) from fqx3))
  refine lv_istore_n (lv' := [(3, .int x3), (0, .ref a0), (1, .ref a1), (2, .int a2)]) hx hb dX8_speakOn_4 rfl hl (by decide) rfl (fun ls hl => ?_)
  refine lv_iload_n hx hb dX8_speakOn_5 rfl (lv_at hl 0 rfl) ?_
  refine lv_aload_n hx hb dX8_speakOn_6 rfl (lv_at hl 1 rfl) ?_
  refine va_get (D := (dC, dI)) (ci := 8) (v := .ref a0_15) (C := RX8) (T := TX8) (N := 40) hx hb hts zi_X8_speakOn_8 hown hK hP 0 rfl rfl 15 (by decide) (hts (.fieldLink RX8 20 "WaxTurnsModel" "\x72" "[I") (List.mem_cons_of_mem _ (List.mem_append_left _ (List.mem_of_getElem? (i := 0) rfl)))) (fun _ h9 => h9) rfl dX8_speakOn_7 ?_
  refine lv_bipush (v := 12) hx hb dX8_speakOn_10 zk_bipush_12 ?_
  refine lv_iconst (v := 2) hx hb dX8_speakOn_12 zk_iconst_2 ?_
  refine lv_iload_n hx hb dX8_speakOn_13 rfl (lv_at hl 3 rfl) ?_
  refine lv_imul hx hb dX8_speakOn_14 ?_
  refine lv_topi (fun x14 ex14 => ?_)
  have qx14 : x14.toInt = (2 : Int32).toInt * a2.toInt ∧ (0 : Int) ≤ x14.toInt ∧ x14.toInt ≤ 16 := ai_mul ex14 ⟨zq12, zq13⟩ ⟨ba2_l, ba2_u⟩ (by decide) (by decide) zq155
  have wx14 : x14.toInt = 2 * a2.toInt := qx14.1
  have hF0 := hF0.trans (fl_lt_eq (show x14.toInt = 2 * a2.toInt from qx14.1))
  refine lv_iadd hx hb dX8_speakOn_15 ?_
  refine lv_topi (fun x15 ex15 => ?_)
  have qx15 : x15.toInt = (12 : Int32).toInt + x14.toInt := ai_add ex15 ⟨zq119, zq120⟩ ⟨qx14.2.1, qx14.2.2⟩ (by decide) (by decide)
  have bx15 : (12 : Int) ≤ x15.toInt ∧ x15.toInt ≤ 28 := ⟨by rw [qx15]; exact Int.add_le_add zq119 qx14.2.1, by rw [qx15]; exact Int.add_le_add zq120 qx14.2.2⟩
  have wx15 : x15.toInt = 12 + x14.toInt := qx15
  have hF0 := hF0.trans (fl_lt_eq (show x15.toInt = 12 + x14.toInt from qx15))
  refine lv_iconst (v := 1) hx hb dX8_speakOn_16 zk_iconst_1 ?_
  refine lv_iadd hx hb dX8_speakOn_17 ?_
  refine lv_topi (fun x17 ex17 => ?_)
  have qx17 : x17.toInt = x15.toInt + (1 : Int32).toInt := ai_add ex17 ⟨bx15.1, bx15.2⟩ ⟨zq1, zq0⟩ (by decide) (by decide)
  have bx17 : (13 : Int) ≤ x17.toInt ∧ x17.toInt ≤ 29 := ⟨by rw [qx17]; exact Int.add_le_add bx15.1 zq1, by rw [qx17]; exact Int.add_le_add bx15.2 zq0⟩
  have wx17 : x17.toInt = x15.toInt + 1 := qx17
  have hF0 := hF0.trans (fl_lt_eq (show x17.toInt = x15.toInt + 1 from qx17))
  refine va_iald hx hb hK hP 2 1 rfl rfl (ai_in bx17.1 bx17.2 (by decide) (by decide)) dX8_speakOn_18 ?_
  refine lv_topi (fun x18 ex18 => ?_)
  have bx18 : (0 : Int) ≤ x18.toInt ∧ x18.toInt ≤ 20 := by rw [ex18]; exact ai_rd bfa0_15.2.2.2.2.2.2.2.2.1 bx17.1 bx17.2 (by decide) (by decide) (by decide)
  have fqx18 := congrArg Int32.toInt ex18
  have hF0 := hF0.trans (fl_lt_eq (show x18.toInt = (fl_A fa0_15) (x17.toInt.toNat) from fqx18))
  refine lv_icmp_lt (tgt := 23) hx hb dX8_speakOn_19 (by decide) (fun c19 => ?_) (fun c19 => ?_)
  · have gc19 := ai_lt c19
    have u19t_x3 : x3.toInt ≤ (19 : Int) := bx3.2
    have l19t_x18 : (1 : Int) ≤ x18.toInt := ai_ltlo gc19 bx3.1
    have hF0 := hF0.trans (if_pos (show x3.toInt < x18.toInt from gc19))
    refine lv_aload_n hx hb dX8_speakOn_23 rfl (lv_at hl 1 rfl) ?_
    refine lv_iconst (v := 1) hx hb dX8_speakOn_24 zk_iconst_1 ?_
    refine lv_iload_n hx hb dX8_speakOn_25 rfl (lv_at hl 0 rfl) ?_
    refine lv_ishl hx hb dX8_speakOn_26 ?_
    refine lv_topi (fun x26 ex26 => ?_)
    have fqx26 := fl_shl_eq ex26
    have hF0 := hF0.trans (fl_lt_eq (show x26.toInt = fl_shl 1 x3.toInt from fqx26))
    refine va_put (D := (dC, dI)) (ci := 8) (v := .int x26) (ty := .int) (C := RX8) (T := TX8) (N := 40) hx hb hts zi_X8_speakOn_8 tyX8 tyX8_ok nmX8 hown hK hP hD hS 0 rfl rfl 28 (by decide) (hts (.fieldLink RX8 248 "WaxTurnsModel" "said" "I") (List.mem_cons_of_mem _ (List.mem_append_left _ (List.mem_of_getElem? (i := 1) rfl)))) (fun _ h9 => h9) rfl (tyX8_ok 28 (by decide)) rfl rfl (Nat.le_of_ble_eq_true rfl) dX8_speakOn_27 (fun H locs hP hD hS => ?_)
    refine zs_0 (y := (a0, .inr (8, [a0g_0, a0g_1, a0g_2, a0g_3, a0g_4, a0g_5, a0g_6, a0g_7, a0g_8, a0g_9, a0g_10, a0g_11, a0g_12, a0g_13, a0g_14, Value.ref a0_15, a0g_16, a0g_17, a0g_18, a0g_19, a0g_20, a0g_21, a0g_22, Value.ref a0_23, Value.ref a0_24, Value.int a0_25, a0g_26, a0g_27, Value.int x26, a0g_29, a0g_30, a0g_31, a0g_32, a0g_33, a0g_34, a0g_35, a0g_36, a0g_37, a0g_38, a0g_39]))) hP hD rfl (fun hP hD => ?_)
    refine lv_iconst (v := 0) hx hb dX8_speakOn_30 zk_iconst_0 ?_
    refine lv_istore (lv' := [(4, .int 0), (3, .int x3), (0, .ref a0), (1, .ref a1), (2, .int a2)]) hx hb dX8_speakOn_31 hl (by decide) rfl (fun ls hl => ?_)
    refine lv_aload_n hx hb dX8_speakOn_33 rfl (lv_at hl 3 rfl) ?_
    refine lv_iload_n hx hb dX8_speakOn_34 rfl (lv_at hl 4 rfl) ?_
    refine va_iald hx hb hK hP 1 0 rfl rfl (ai_in ba2_l ba2_u (by decide) (by decide)) dX8_speakOn_35 ?_
    refine lv_topi (fun x35 ex35 => ?_)
    have bx35 : (0 : Int) ≤ x35.toInt ∧ x35.toInt ≤ 8 := by rw [ex35]; exact ai_rd bfa1.1 ba2_l ba2_u (by decide) (by decide) (by decide)
    have fqx35 := congrArg Int32.toInt ex35
    have hF0 := hF0.trans (fl_lt_eq (show x35.toInt = (fl_A fa1) (a2.toInt.toNat) from fqx35))
    refine lv_iconst (v := 1) hx hb dX8_speakOn_36 zk_iconst_1 ?_
    refine lv_isub hx hb dX8_speakOn_37 ?_
    refine lv_topi (fun x37 ex37 => ?_)
    have qx37 : x37.toInt = x35.toInt - (1 : Int32).toInt := ai_sub ex37 ⟨bx35.1, bx35.2⟩ ⟨zq1, zq0⟩ (by decide) (by decide)
    have bx37 : (-1 : Int) ≤ x37.toInt ∧ x37.toInt ≤ 7 := ⟨by rw [qx37]; exact Int.sub_le_sub bx35.1 zq0, by rw [qx37]; exact Int.sub_le_sub bx35.2 zq1⟩
    have wx37 : x37.toInt = x35.toInt - 1 := qx37
    have hF0 := hF0.trans (fl_lt_eq (show x37.toInt = x35.toInt - 1 from qx37))
    refine lv_istore (lv' := [(5, .int x37), (4, .int 0), (3, .int x3), (0, .ref a0), (1, .ref a1), (2, .int a2)]) hx hb dX8_speakOn_38 hl (by decide) rfl (fun ls hl => ?_)
    have J40 : ∀ (n : Nat) (j40l5 : Int32) (j40l4 : Int32) (H : Heap) (locs : List Loc) (ls : Array Slot), (11 : Int) - j40l5.toInt ≤ (n : Int) → (-1 : Int) ≤ j40l5.toInt → j40l5.toInt ≤ (10 : Int) → (0 : Int) ≤ j40l4.toInt → j40l4.toInt ≤ (1 : Int) → (FX = fl_wh (fun t9 => Sf_X8_speakOn_40_1 a2.toInt a0_25.toInt (fl_A fa1) (fl_A fa0_15) (fl_A fa0_24) (fl_A fa0_23) x26.toInt t9.1 t9.2) (0, (fun _ => 0)) n (j40l5.toInt, j40l4.toInt)) → va_P (dC, dI) vwCl [(a0, .inr (8, [a0g_0, a0g_1, a0g_2, a0g_3, a0g_4, a0g_5, a0g_6, a0g_7, a0g_8, a0g_9, a0g_10, a0g_11, a0g_12, a0g_13, a0g_14, Value.ref a0_15, a0g_16, a0g_17, a0g_18, a0g_19, a0g_20, a0g_21, a0g_22, Value.ref a0_23, Value.ref a0_24, Value.int a0_25, a0g_26, a0g_27, Value.int x26, a0g_29, a0g_30, a0g_31, a0g_32, a0g_33, a0g_34, a0g_35, a0g_36, a0g_37, a0g_38, a0g_39])), (a1, .inl (ka1, 23, .inl (fa1))), (a0_15, .inl (ka0_15, 156, .inl (fa0_15))), (a0_24, .inl (ka0_24, 3, .inl (fa0_24))), (a0_23, .inl (ka0_23, 3, .inl (fa0_23)))] H → va_D A [(a0, .inr (8, [a0g_0, a0g_1, a0g_2, a0g_3, a0g_4, a0g_5, a0g_6, a0g_7, a0g_8, a0g_9, a0g_10, a0g_11, a0g_12, a0g_13, a0g_14, Value.ref a0_15, a0g_16, a0g_17, a0g_18, a0g_19, a0g_20, a0g_21, a0g_22, Value.ref a0_23, Value.ref a0_24, Value.int a0_25, a0g_26, a0g_27, Value.int x26, a0g_29, a0g_30, a0g_31, a0g_32, a0g_33, a0g_34, a0g_35, a0g_36, a0g_37, a0g_38, a0g_39])), (a1, .inl (ka1, 23, .inl (fa1))), (a0_15, .inl (ka0_15, 156, .inl (fa0_15))), (a0_24, .inl (ka0_24, 3, .inl (fa0_24))), (a0_23, .inl (ka0_23, 3, .inl (fa0_23)))] → va_S A s.heap H locs → lv_has ls 6 [(0, .ref a0), (1, .ref a1), (2, .int a2), (4, .int j40l4), (5, .int j40l5)] → K H locs (F0 m 40 ls []) := by
      intro n
      induction n with
      | zero =>
        intro j40l5 j40l4 H locs ls hm bj40l5_l bj40l5_u bj40l4_l bj40l4_u hF0 hP hD hS hl
        first | exact zg_0 hm bj40l5_u (by decide) | (have h8 := ai_min j40l5; have h9 := ai_max j40l5; exact absurd hm (by omega))
      | succ n ih40 =>
        intro j40l5 j40l4 H locs ls hm bj40l5_l bj40l5_u bj40l4_l bj40l4_u hF0 hP hD hS hl
        refine (hK0 _ _ _).mpr ?_
        have hm40 := hm
        obtain ⟨SX40, hSX40⟩ : ∃ q9, Sf_X8_speakOn_40_1 a2.toInt a0_25.toInt (fl_A fa1) (fl_A fa0_15) (fl_A fa0_24) (fl_A fa0_23) x26.toInt j40l5.toInt j40l4.toInt = q9 := ⟨_, rfl⟩
        have hF1 := hSX40.symm.trans (Sf_X8_speakOn_40_1.eq_1 a2.toInt a0_25.toInt (fl_A fa1) (fl_A fa0_15) (fl_A fa0_24) (fl_A fa0_23) x26.toInt j40l5.toInt j40l4.toInt)
        refine lv_iload hx hb dX8_speakOn_40 (lv_at hl 4 rfl) ?_
        refine lv_aload_n hx hb dX8_speakOn_42 rfl (lv_at hl 1 rfl) ?_
        refine lv_iload_n hx hb dX8_speakOn_43 rfl (lv_at hl 2 rfl) ?_
        refine va_iald hx hb hK hP 1 0 rfl rfl (ai_in ba2_l ba2_u (by decide) (by decide)) dX8_speakOn_44 ?_
        refine lv_topi (fun x44 ex44 => ?_)
        have bx44 : (0 : Int) ≤ x44.toInt ∧ x44.toInt ≤ 8 := by rw [ex44]; exact ai_rd bfa1.1 ba2_l ba2_u (by decide) (by decide) (by decide)
        have fqx44 := congrArg Int32.toInt ex44
        have hF1 := hF1.trans (fl_lt_eq (show x44.toInt = (fl_A fa1) (a2.toInt.toNat) from fqx44))
        refine lv_iconst (v := 1) hx hb dX8_speakOn_45 zk_iconst_1 ?_
        refine lv_iadd hx hb dX8_speakOn_46 ?_
        refine lv_topi (fun x46 ex46 => ?_)
        have qx46 : x46.toInt = x44.toInt + (1 : Int32).toInt := ai_add ex46 ⟨bx44.1, bx44.2⟩ ⟨zq1, zq0⟩ (by decide) (by decide)
        have bx46 : (1 : Int) ≤ x46.toInt ∧ x46.toInt ≤ 9 := ⟨by rw [qx46]; exact Int.add_le_add bx44.1 zq1, by rw [qx46]; exact Int.add_le_add bx44.2 zq0⟩
        have wx46 : x46.toInt = x44.toInt + 1 := qx46
        have hF1 := hF1.trans (fl_lt_eq (show x46.toInt = x44.toInt + 1 from qx46))
        refine lv_icmp_gt (tgt := 86) hx hb dX8_speakOn_47 (by decide) (fun c47 => ?_) (fun c47 => ?_)
        · have gc47 := ai_lt c47
          have u47t_x46 : x46.toInt ≤ (9 : Int) := bx46.2
          have l47t_j40l5 : (2 : Int) ≤ j40l5.toInt := ai_ltlo gc47 bx46.1
          have hF1 := hF1.trans (if_pos (show x46.toInt < j40l5.toInt from gc47))
          have hF0 := hF0.trans (fl_wh_r (hSX40.trans hF1))
          refine lv_iload hx hb dX8_speakOn_86 (lv_at hl 3 rfl) ?_
          refine lv_if_eq (tgt := 104) hx hb dX8_speakOn_88 (by decide) (fun c88 => ?_) (fun c88 => ?_)
          · have gc88 := ai_eq c88
            have u88t_j40l4 : j40l4.toInt ≤ (0 : Int) := Int.le_trans (Int.le_of_eq gc88) zq6
            have l88t_j40l4 : (0 : Int) ≤ j40l4.toInt := bj40l4_l
            have hF0 := hF0.trans (if_pos (show j40l4.toInt = 0 from gc88))
            have hFe : FX = (x26.toInt, (fl_A fa1)) := hF0
            exact W.vret hx hb hr (fun t ht hW => ⟨⟨(), rfl, trivial, x26, fa1, bfa1, hFe, by rw [ht]; exact hP, va_K.moved hW.alike hK, hD⟩, hS.F ht⟩) hS.2.2 dX8_speakOn_104
          · have gc88 := ai_ne c88
            have l88f_j40l4 : (1 : Int) ≤ j40l4.toInt := (by first | exact zg_l bj40l4_l gc88 (by decide) (by decide) | (have h1 := bj40l4_l; have h2 : (0 : Int32).toInt = 0 := (by decide); rw [h2] at gc88; omega))
            have hF0 := hF0.trans (if_neg (show ¬ (j40l4.toInt = 0) from  gc88))
            refine lv_aload_n hx hb dX8_speakOn_91 rfl (lv_at hl 1 rfl) ?_
            refine lv_bipush (v := 9) hx hb dX8_speakOn_92 zk_bipush_9 ?_
            refine lv_iload_n hx hb dX8_speakOn_94 rfl (lv_at hl 2 rfl) ?_
            refine lv_iadd hx hb dX8_speakOn_95 ?_
            refine lv_topi (fun x95 ex95 => ?_)
            have qx95 : x95.toInt = (9 : Int32).toInt + a2.toInt := ai_add ex95 ⟨zq2, zq3⟩ ⟨ba2_l, ba2_u⟩ (by decide) (by decide)
            have bx95 : (9 : Int) ≤ x95.toInt ∧ x95.toInt ≤ 17 := ⟨by rw [qx95]; exact Int.add_le_add zq2 ba2_l, by rw [qx95]; exact Int.add_le_add zq3 ba2_u⟩
            have wx95 : x95.toInt = 9 + a2.toInt := qx95
            have hF0 := hF0.trans (fl_lt_eq (show x95.toInt = 9 + a2.toInt from qx95))
            refine lv_dup2_11 hx hb dX8_speakOn_96 rfl rfl ?_
            refine va_iald hx hb hK hP 1 0 rfl rfl (ai_in bx95.1 bx95.2 (by decide) (by decide)) dX8_speakOn_97 ?_
            refine lv_topi (fun x97 ex97 => ?_)
            have fqx97 := congrArg Int32.toInt ex97
            have hF0 := hF0.trans (fl_lt_eq (show x97.toInt = (fl_A fa1) (x95.toInt.toNat) from fqx97))
            refine lv_aload_n hx hb dX8_speakOn_98 rfl (lv_at hl 0 rfl) ?_
            refine va_get (D := (dC, dI)) (ci := 8) (v := .int x26) (C := RX8) (T := TX8) (N := 40) hx hb hts zi_X8_speakOn_8 hown hK hP 0 rfl rfl 28 (by decide) (hts (.fieldLink RX8 248 "WaxTurnsModel" "said" "I") (List.mem_cons_of_mem _ (List.mem_append_left _ (List.mem_of_getElem? (i := 1) rfl)))) (fun _ h9 => h9) rfl dX8_speakOn_99 ?_
            refine lv_ior hx hb dX8_speakOn_102 ?_
            refine lv_topi (fun x102 ex102 => ?_)
            have fqx102 := fl_or_eq ex102
            have hF0 := hF0.trans (fl_lt_eq (show x102.toInt = fl_or x97.toInt x26.toInt from fqx102))
            refine va_iast hx hb hK hP hD hS 1 0 rfl rfl (ai_in bx95.1 bx95.2 (by decide) (by decide)) dX8_speakOn_103 (fun H locs hP hD hS => ?_)
            obtain ⟨f103, ef103⟩ : ∃ g9 : Nat → Int32, g9 = upd fa1 (x95 : Int32).toNatClampNeg x102 := ⟨_, rfl⟩
            refine zs_1 (y := (a1, .inl (ka1, 23, .inl (f103)))) hP hD (by rw [ef103]) (fun hP hD => ?_)
            have bf103 : ((∀ k : Nat, 0 ≤ k → k ≤ 8 → (0 : Int) ≤ (f103 k).toInt ∧ (f103 k).toInt ≤ 8) ∧ (∀ k : Nat, 19 ≤ k → k ≤ 19 → (0 : Int) ≤ (f103 k).toInt ∧ (f103 k).toInt ≤ 8) ∧ (∀ k : Nat, 20 ≤ k → k ≤ 20 → (0 : Int) ≤ (f103 k).toInt ∧ (f103 k).toInt ≤ 19)) := by rw [ef103]; exact ⟨ai_updO bfa1.1 _ (Or.inr (ai_ngt_of bx95.1 (by decide) (by decide))), ai_updO bfa1.2.1 _ (Or.inl (ai_nlt_of bx95.1 bx95.2 (by decide) (by decide))), ai_updO bfa1.2.2 _ (Or.inl (ai_nlt_of bx95.1 bx95.2 (by decide) (by decide)))⟩
            have fqf103 := fl_up_eq ef103
            have hF0 := hF0.trans (fl_lt_eq (show (fl_A f103) = fl_up (fl_A fa1) (x95.toInt.toNat) x102.toInt from fqf103))
            have hFe : FX = (x26.toInt, (fl_A f103)) := hF0
            exact W.vret hx hb hr (fun t ht hW => ⟨⟨(), rfl, trivial, x26, f103, bf103, hFe, by rw [ht]; exact hP, va_K.moved hW.alike hK, hD⟩, hS.F ht⟩) hS.2.2 dX8_speakOn_104
        · have gc47 := ai_nlt c47
          have u47f_j40l5 : j40l5.toInt ≤ (9 : Int) := Int.le_trans gc47 bx46.2
          have l47f_x46 : (1 : Int) ≤ x46.toInt := bx46.1
          have hF1 := hF1.trans (if_neg (show ¬ (x46.toInt < j40l5.toInt) from Int.not_lt.mpr gc47))
          refine lv_iload hx hb dX8_speakOn_50 (lv_at hl 3 rfl) ?_
          have J78 : ∀ (j78s0 : Int32) (H : Heap) (locs : List Loc) (ls : Array Slot), (0 : Int) ≤ j78s0.toInt → j78s0.toInt ≤ (1 : Int) → (SX40 = Gf_X8_speakOn_78_1 j40l5.toInt j78s0.toInt) → va_P (dC, dI) vwCl [(a0, .inr (8, [a0g_0, a0g_1, a0g_2, a0g_3, a0g_4, a0g_5, a0g_6, a0g_7, a0g_8, a0g_9, a0g_10, a0g_11, a0g_12, a0g_13, a0g_14, Value.ref a0_15, a0g_16, a0g_17, a0g_18, a0g_19, a0g_20, a0g_21, a0g_22, Value.ref a0_23, Value.ref a0_24, Value.int a0_25, a0g_26, a0g_27, Value.int x26, a0g_29, a0g_30, a0g_31, a0g_32, a0g_33, a0g_34, a0g_35, a0g_36, a0g_37, a0g_38, a0g_39])), (a1, .inl (ka1, 23, .inl (fa1))), (a0_15, .inl (ka0_15, 156, .inl (fa0_15))), (a0_24, .inl (ka0_24, 3, .inl (fa0_24))), (a0_23, .inl (ka0_23, 3, .inl (fa0_23)))] H → va_D A [(a0, .inr (8, [a0g_0, a0g_1, a0g_2, a0g_3, a0g_4, a0g_5, a0g_6, a0g_7, a0g_8, a0g_9, a0g_10, a0g_11, a0g_12, a0g_13, a0g_14, Value.ref a0_15, a0g_16, a0g_17, a0g_18, a0g_19, a0g_20, a0g_21, a0g_22, Value.ref a0_23, Value.ref a0_24, Value.int a0_25, a0g_26, a0g_27, Value.int x26, a0g_29, a0g_30, a0g_31, a0g_32, a0g_33, a0g_34, a0g_35, a0g_36, a0g_37, a0g_38, a0g_39])), (a1, .inl (ka1, 23, .inl (fa1))), (a0_15, .inl (ka0_15, 156, .inl (fa0_15))), (a0_24, .inl (ka0_24, 3, .inl (fa0_24))), (a0_23, .inl (ka0_23, 3, .inl (fa0_23)))] → va_S A s.heap H locs → lv_has ls 6 [(0, .ref a0), (1, .ref a1), (2, .int a2), (5, .int j40l5)] → K H locs (F0 m 78 ls [.int j78s0]) := by
            intro j78s0 H locs ls  bj78s0_l bj78s0_u hF1 hP hD hS hl
            refine (hK0 _ _ _).mpr ?_
            have hF1 := hF1.trans (Gf_X8_speakOn_78_1.eq_1 j40l5.toInt j78s0.toInt)
            refine lv_istore (lv' := [(4, .int j78s0), (0, .ref a0), (1, .ref a1), (2, .int a2), (5, .int j40l5)]) hx hb dX8_speakOn_78 hl (by decide) rfl (fun ls hl => ?_)
            obtain ⟨x80, ex80⟩ : ∃ y : Int32, y = j40l5 + Int32.ofInt 1 := ⟨_, rfl⟩
            have qx80 : x80.toInt = j40l5.toInt + 1 := ai_inc ex80 (by decide) (by decide) u47f_j40l5 (by decide)
            have bx80 : (0 : Int) ≤ x80.toInt ∧ x80.toInt ≤ 10 := ⟨by rw [qx80]; exact Int.add_le_add bj40l5_l (Int.le_refl _), by rw [qx80]; exact Int.add_le_add u47f_j40l5 (Int.le_refl _)⟩
            refine lv_iinc (v := x80) (lv' := [(5, .int x80), (4, .int j78s0), (0, .ref a0), (1, .ref a1), (2, .int a2)]) hx hb dX8_speakOn_80 hl (k := 4) rfl ex80.symm (by decide) rfl (fun ls hl => ?_)
            have hF1 := hF1.trans (fl_lt_eq (show x80.toInt = j40l5.toInt + 1 from qx80))
            refine lv_goto (tgt := 40) hx hb dX8_speakOn_83 (by decide) ?_
            exact (hK0 _ _ _).mp (ih40 x80 j78s0 _ _ _ (by first | exact zg_s hm40 qx80 | (have h0 := qx80; omega)) (Int.le_trans zq69 bx80.1) bx80.2 bj78s0_l bj78s0_u (hF0.trans (fl_wh_l (hSX40.trans hF1))) hP hD hS (lv_sub hl [2, 3, 4, 1, 0] rfl))
          have J73 : ∀ (H : Heap) (locs : List Loc) (ls : Array Slot), (SX40 = Gf_X8_speakOn_73_1 j40l5.toInt) → va_P (dC, dI) vwCl [(a0, .inr (8, [a0g_0, a0g_1, a0g_2, a0g_3, a0g_4, a0g_5, a0g_6, a0g_7, a0g_8, a0g_9, a0g_10, a0g_11, a0g_12, a0g_13, a0g_14, Value.ref a0_15, a0g_16, a0g_17, a0g_18, a0g_19, a0g_20, a0g_21, a0g_22, Value.ref a0_23, Value.ref a0_24, Value.int a0_25, a0g_26, a0g_27, Value.int x26, a0g_29, a0g_30, a0g_31, a0g_32, a0g_33, a0g_34, a0g_35, a0g_36, a0g_37, a0g_38, a0g_39])), (a1, .inl (ka1, 23, .inl (fa1))), (a0_15, .inl (ka0_15, 156, .inl (fa0_15))), (a0_24, .inl (ka0_24, 3, .inl (fa0_24))), (a0_23, .inl (ka0_23, 3, .inl (fa0_23)))] H → va_D A [(a0, .inr (8, [a0g_0, a0g_1, a0g_2, a0g_3, a0g_4, a0g_5, a0g_6, a0g_7, a0g_8, a0g_9, a0g_10, a0g_11, a0g_12, a0g_13, a0g_14, Value.ref a0_15, a0g_16, a0g_17, a0g_18, a0g_19, a0g_20, a0g_21, a0g_22, Value.ref a0_23, Value.ref a0_24, Value.int a0_25, a0g_26, a0g_27, Value.int x26, a0g_29, a0g_30, a0g_31, a0g_32, a0g_33, a0g_34, a0g_35, a0g_36, a0g_37, a0g_38, a0g_39])), (a1, .inl (ka1, 23, .inl (fa1))), (a0_15, .inl (ka0_15, 156, .inl (fa0_15))), (a0_24, .inl (ka0_24, 3, .inl (fa0_24))), (a0_23, .inl (ka0_23, 3, .inl (fa0_23)))] → va_S A s.heap H locs → lv_has ls 6 [(0, .ref a0), (1, .ref a1), (2, .int a2), (5, .int j40l5)] → K H locs (F0 m 73 ls []) := by
            intro  H locs ls  hF1 hP hD hS hl
            refine (hK0 _ _ _).mpr ?_
            have hF1 := hF1.trans (Gf_X8_speakOn_73_1.eq_1 j40l5.toInt)
            refine lv_iconst (v := 1) hx hb dX8_speakOn_73 zk_iconst_1 ?_
            refine lv_goto (tgt := 78) hx hb dX8_speakOn_74 (by decide) ?_
            exact (hK0 _ _ _).mp (J78 1 _ _ _  (Int.le_trans zq4 zq1) zq0 (by rw [show (1 : Int32).toInt = 1 from by decide]; exact hF1) hP hD hS (lv_sub hl [0, 1, 2, 3] rfl))
          refine lv_if_ne (tgt := 73) hx hb dX8_speakOn_52 (by decide) (fun c52 => ?_) (fun c52 => ?_)
          · have gc52 := ai_ne c52
            have l52t_j40l4 : (1 : Int) ≤ j40l4.toInt := (by first | exact zg_l bj40l4_l gc52 (by decide) (by decide) | (have h1 := bj40l4_l; have h2 : (0 : Int32).toInt = 0 := (by decide); rw [h2] at gc52; omega))
            have hF1 := hF1.trans (if_neg (show ¬ (j40l4.toInt = 0) from  gc52))
            exact (hK0 _ _ _).mp (J73  _ _ _   hF1 hP hD hS (lv_sub hl [0, 1, 2, 4] rfl))
          · have gc52 := ai_eq c52
            have u52f_j40l4 : j40l4.toInt ≤ (0 : Int) := Int.le_trans (Int.le_of_eq gc52) zq6
            have l52f_j40l4 : (0 : Int) ≤ j40l4.toInt := bj40l4_l
            have hF1 := hF1.trans (if_pos (show j40l4.toInt = 0 from gc52))
            refine lv_iload hx hb dX8_speakOn_55 (lv_at hl 4 rfl) ?_
            have J77 : ∀ (H : Heap) (locs : List Loc) (ls : Array Slot), (SX40 = Gf_X8_speakOn_77_1 j40l5.toInt) → va_P (dC, dI) vwCl [(a0, .inr (8, [a0g_0, a0g_1, a0g_2, a0g_3, a0g_4, a0g_5, a0g_6, a0g_7, a0g_8, a0g_9, a0g_10, a0g_11, a0g_12, a0g_13, a0g_14, Value.ref a0_15, a0g_16, a0g_17, a0g_18, a0g_19, a0g_20, a0g_21, a0g_22, Value.ref a0_23, Value.ref a0_24, Value.int a0_25, a0g_26, a0g_27, Value.int x26, a0g_29, a0g_30, a0g_31, a0g_32, a0g_33, a0g_34, a0g_35, a0g_36, a0g_37, a0g_38, a0g_39])), (a1, .inl (ka1, 23, .inl (fa1))), (a0_15, .inl (ka0_15, 156, .inl (fa0_15))), (a0_24, .inl (ka0_24, 3, .inl (fa0_24))), (a0_23, .inl (ka0_23, 3, .inl (fa0_23)))] H → va_D A [(a0, .inr (8, [a0g_0, a0g_1, a0g_2, a0g_3, a0g_4, a0g_5, a0g_6, a0g_7, a0g_8, a0g_9, a0g_10, a0g_11, a0g_12, a0g_13, a0g_14, Value.ref a0_15, a0g_16, a0g_17, a0g_18, a0g_19, a0g_20, a0g_21, a0g_22, Value.ref a0_23, Value.ref a0_24, Value.int a0_25, a0g_26, a0g_27, Value.int x26, a0g_29, a0g_30, a0g_31, a0g_32, a0g_33, a0g_34, a0g_35, a0g_36, a0g_37, a0g_38, a0g_39])), (a1, .inl (ka1, 23, .inl (fa1))), (a0_15, .inl (ka0_15, 156, .inl (fa0_15))), (a0_24, .inl (ka0_24, 3, .inl (fa0_24))), (a0_23, .inl (ka0_23, 3, .inl (fa0_23)))] → va_S A s.heap H locs → lv_has ls 6 [(0, .ref a0), (1, .ref a1), (2, .int a2), (5, .int j40l5)] → K H locs (F0 m 77 ls []) := by
              intro  H locs ls  hF1 hP hD hS hl
              refine (hK0 _ _ _).mpr ?_
              have hF1 := hF1.trans (Gf_X8_speakOn_77_1.eq_1 j40l5.toInt)
              refine lv_iconst (v := 0) hx hb dX8_speakOn_77 zk_iconst_0 ?_
              exact (hK0 _ _ _).mp (J78 0 _ _ _  zq5 (Int.le_trans zq6 zq4) (by rw [show (0 : Int32).toInt = 0 from by decide]; exact hF1) hP hD hS (lv_sub hl [0, 1, 2, 3] rfl))
            refine lv_if_lt (tgt := 77) hx hb dX8_speakOn_57 (by decide) (fun c57 => ?_) (fun c57 => ?_)
            · have gc57 := ai_lt c57
              have u57t_j40l5 : j40l5.toInt ≤ (-1 : Int) := ai_lthi gc57 zq6
              have hF1 := hF1.trans (if_pos (show j40l5.toInt < 0 from gc57))
              exact (hK0 _ _ _).mp (J77  _ _ _   hF1 hP hD hS (lv_sub hl [0, 1, 2, 4] rfl))
            · have gc57 := ai_nlt c57
              have l57f_j40l5 : (0 : Int) ≤ j40l5.toInt := Int.le_trans zq5 gc57
              have hF1 := hF1.trans (if_neg (show ¬ (j40l5.toInt < 0) from Int.not_lt.mpr gc57))
              refine lv_aload_n hx hb dX8_speakOn_60 rfl (lv_at hl 0 rfl) ?_
              refine lv_iload hx hb dX8_speakOn_61 (lv_at hl 4 rfl) ?_
              refine lv_aload_n hx hb dX8_speakOn_63 rfl (lv_at hl 1 rfl) ?_
              refine lv_bipush (v := 21) hx hb dX8_speakOn_64 zk_bipush_21 ?_
              refine va_iald hx hb hK hP 1 0 rfl rfl (by unfold vp_in; decide +kernel) dX8_speakOn_66 ?_
              refine lv_topi (fun x66 ex66 => ?_)
              have fqx66 := congrArg Int32.toInt ex66
              have hF1 := hF1.trans (fl_lt_eq (show x66.toInt = (fl_A fa1) (21) from fqx66))
              refine zc_cutc (wc := [(a0, .inr (8, [a0g_0, a0g_1, a0g_2, a0g_3, a0g_4, a0g_5, a0g_6, a0g_7, a0g_8, a0g_9, a0g_10, a0g_11, a0g_12, a0g_13, a0g_14, Value.ref a0_15, a0g_16, a0g_17, a0g_18, a0g_19, a0g_20, a0g_21, a0g_22, Value.ref a0_23, Value.ref a0_24, Value.int a0_25, a0g_26, a0g_27, Value.int x26, a0g_29, a0g_30, a0g_31, a0g_32, a0g_33, a0g_34, a0g_35, a0g_36, a0g_37, a0g_38, a0g_39])), (a0_15, .inl (ka0_15, 156, .inl (fa0_15))), (a0_24, .inl (ka0_24, 3, .inl (fa0_24))), (a0_23, .inl (ka0_23, 3, .inl (fa0_23)))]) hP hD hS hA [0, 2, 3, 4] (by decide +kernel) rfl (fun hPc hDc hFc hCc => ?_)
              have hKc := hK.sub (tys' := [(ka0_15, .int), (ka0_24, .int), (ka0_23, .int)]) [1, 2, 3] rfl
              refine va_calli (va_runV (As := [.int j40l5, .int x66]) (rest := []) ⟨hx, hb, hml, hown, hts⟩ (f_X8_isWatched l dC dI H.size a0 j40l5 x66 a0g_0 a0g_1 a0g_2 a0g_3 a0g_4 a0g_5 a0g_6 a0g_7 a0g_8 a0g_9 a0g_10 a0g_11 a0g_12 a0g_13 a0g_14 a0g_16 a0g_17 a0g_18 a0g_19 a0g_20 a0g_21 a0g_22 a0g_26 a0g_27 (Value.int x26) a0g_29 a0g_30 a0g_31 a0g_32 a0g_33 a0g_34 a0g_35 a0g_36 a0g_37 a0g_38 a0g_39 a0_15 a0_23 a0_24 a0_25 ka0_15 fa0_15 ka0_24 fa0_24 ka0_23 fa0_23 bfa0_15 bfa0_24 bfa0_23) (cwV 2 hts gX8_speakOn_X8_isWatched rfl rfl rfl zd_X8_isWatched ⟨Nat.le_of_ble_eq_true rfl, Nat.le_of_ble_eq_true rfl⟩) ⟨ax_blind (fun _ _ _ _ _ => trivial), zr_8 hKc hPc (q0 := 0) rfl, ax_pre hPc hKc hDc (fun _ _ => trivial)⟩ rfl rfl hl.1 rfl (lv_room (Nat.le_of_ble_eq_true rfl)) dX8_speakOn_67 ⟨Nat.le_of_ble_eq_true rfl, Nat.le_of_ble_eq_true rfl⟩) hS (fun q _ h => hFc q h) hFc (fun r67 u t H locs ht hvm hw hB hz1 hk1 hS1 => zo hB ht hS1 (fun hP1 hK1 hD1 hS => ?_))
              refine zc_backc (w := [(a0, .inr (8, [a0g_0, a0g_1, a0g_2, a0g_3, a0g_4, a0g_5, a0g_6, a0g_7, a0g_8, a0g_9, a0g_10, a0g_11, a0g_12, a0g_13, a0g_14, Value.ref a0_15, a0g_16, a0g_17, a0g_18, a0g_19, a0g_20, a0g_21, a0g_22, Value.ref a0_23, Value.ref a0_24, Value.int a0_25, a0g_26, a0g_27, Value.int x26, a0g_29, a0g_30, a0g_31, a0g_32, a0g_33, a0g_34, a0g_35, a0g_36, a0g_37, a0g_38, a0g_39])), (a1, .inl (ka1, 23, .inl (fa1))), (a0_15, .inl (ka0_15, 156, .inl (fa0_15))), (a0_24, .inl (ka0_24, 3, .inl (fa0_24))), (a0_23, .inl (ka0_23, 3, .inl (fa0_23)))]) hP hD hCc hk1 hFc hP1 hD1 [.inr 0, .inl 1, .inr 1, .inr 2, .inr 3] (by decide +kernel) rfl (fun hP hD => ?_)
              obtain ⟨hw, hfr67⟩ := hw
              have hc67 : Ff_X8_isWatched j40l5.toInt x66.toInt a0_25.toInt (fl_A fa0_15) (fl_A fa0_24) (fl_A fa0_23) = r67.toInt := hfr67.symm
              have hF1 := hF1.trans (fl_lt_eq hc67.symm)
              rcases hw with hw | hw
              · subst hw
                have hF1 := hF1.trans (if_pos (by decide))
                refine lv_if_eq (tgt := 77) hx hb dX8_speakOn_70 (by decide) (fun c70 => absurd c70 (by decide +kernel)) (fun _ => ?_)
                exact (hK0 _ _ _).mp (J73  _ _ _   hF1 hP hD hS (lv_sub hl [0, 1, 2, 4] rfl))
              · subst hw
                have hF1 := hF1.trans (if_neg (by decide))
                refine lv_if_eq (tgt := 77) hx hb dX8_speakOn_70 (by decide) (fun _ => ?_) (fun c70 => absurd (by decide +kernel) c70)
                exact (hK0 _ _ _).mp (J77  _ _ _   hF1 hP hD hS (lv_sub hl [0, 1, 2, 4] rfl))
    exact (hK0 _ _ _).mp (J40 12 x37 0 _ _ _ (by have h1 : (-1 : Int) ≤ x37.toInt := bx37.1; have h2 : x37.toInt ≤ (7 : Int) := bx37.2; omega) bx37.1 (Int.le_trans bx37.2 zq159) zq5 (Int.le_trans zq6 zq4) (by rw [show (0 : Int32).toInt = 0 from by decide]; exact hF0) hP hD hS (lv_sub hl [3, 4, 5, 1, 0] rfl))
  · have gc19 := ai_nlt c19
    have u19f_x18 : x18.toInt ≤ (19 : Int) := Int.le_trans gc19 bx3.2
    have l19f_x3 : (0 : Int) ≤ x3.toInt := bx3.1
    have hF0 := hF0.trans (if_neg (show ¬ (x3.toInt < x18.toInt) from Int.not_lt.mpr gc19))
    have hFe : FX = (a0_28.toInt, (fl_A fa1)) := hF0
    exact W.vret hx hb hr (fun t ht hW => ⟨⟨(), rfl, trivial, a0_28, fa1, bfa1, hFe, by rw [ht]; exact hP, va_K.moved hW.alike hK, hD⟩, hS.F ht⟩) hS.2.2 dX8_speakOn_22

set_option maxHeartbeats 4000000 in
set_option maxRecDepth 100000 in
theorem f_X8_minuteOn (l : Launch) (dC : Nat → ClassId) (dI : Nat → Nat → Nat) (sz : Nat) (a0 : Nat) (a1 : Nat) (a0g_0 a0g_1 a0g_2 a0g_3 a0g_4 a0g_5 a0g_6 a0g_7 a0g_8 a0g_9 a0g_10 a0g_11 a0g_12 a0g_13 a0g_14 a0g_16 a0g_17 a0g_18 a0g_19 a0g_20 a0g_21 a0g_22 a0g_29 a0g_30 a0g_31 a0g_32 a0g_33 a0g_34 a0g_35 a0g_36 a0g_37 a0g_38 a0g_39 : Value) (a0_15 : Nat) (a0_23 : Nat) (a0_24 : Nat) (a0_25 : Int32) (a0_26 : Int32) (a0_27 : Int32) (a0_28 : Int32) (ka1 : ClassId) (fa1 : Nat → Int32) (ka0_15 : ClassId) (fa0_15 : Nat → Int32) (ka0_24 : ClassId) (fa0_24 : Nat → Int32) (ka0_23 : ClassId) (fa0_23 : Nat → Int32) (bfa1 : ((∀ k : Nat, 0 ≤ k → k ≤ 8 → (0 : Int) ≤ (fa1 k).toInt ∧ (fa1 k).toInt ≤ 8) ∧ (∀ k : Nat, 19 ≤ k → k ≤ 19 → (0 : Int) ≤ (fa1 k).toInt ∧ (fa1 k).toInt ≤ 8) ∧ (∀ k : Nat, 20 ≤ k → k ≤ 20 → (0 : Int) ≤ (fa1 k).toInt ∧ (fa1 k).toInt ≤ 19))) (bfa0_15 : ((∀ k : Nat, 0 ≤ k → k ≤ 0 → (2 : Int) ≤ (fa0_15 k).toInt ∧ (fa0_15 k).toInt ≤ 9) ∧ (∀ k : Nat, 1 ≤ k → k ≤ 1 → (1 : Int) ≤ (fa0_15 k).toInt ∧ (fa0_15 k).toInt ≤ 20) ∧ (∀ k : Nat, 2 ≤ k → k ≤ 2 → (0 : Int) ≤ (fa0_15 k).toInt ∧ (fa0_15 k).toInt ≤ 8) ∧ (∀ k : Nat, 3 ≤ k → k ≤ 3 → (0 : Int) ≤ (fa0_15 k).toInt ∧ (fa0_15 k).toInt ≤ 100) ∧ (∀ k : Nat, 4 ≤ k → k ≤ 4 → (0 : Int) ≤ (fa0_15 k).toInt ∧ (fa0_15 k).toInt ≤ 9) ∧ (∀ k : Nat, 5 ≤ k → k ≤ 5 → (0 : Int) ≤ (fa0_15 k).toInt ∧ (fa0_15 k).toInt ≤ 3) ∧ (∀ k : Nat, 6 ≤ k → k ≤ 6 → (0 : Int) ≤ (fa0_15 k).toInt ∧ (fa0_15 k).toInt ≤ 6) ∧ (∀ k : Nat, 7 ≤ k → k ≤ 9 → (0 : Int) ≤ (fa0_15 k).toInt ∧ (fa0_15 k).toInt ≤ 8) ∧ (∀ k : Nat, 12 ≤ k → k ≤ 29 → (0 : Int) ≤ (fa0_15 k).toInt ∧ (fa0_15 k).toInt ≤ 20) ∧ (∀ k : Nat, 30 ≤ k → k ≤ 35 → (0 : Int) ≤ (fa0_15 k).toInt ∧ (fa0_15 k).toInt ≤ 8) ∧ (∀ k : Nat, 36 ≤ k → k ≤ 47 → (0 : Int) ≤ (fa0_15 k).toInt ∧ (fa0_15 k).toInt ≤ 999))) (bfa0_24 : (∀ k, (0 : Int) ≤ (fa0_24 k).toInt ∧ (fa0_24 k).toInt ≤ 80)) (bfa0_23 : (∀ k, (0 : Int) ≤ (fa0_23 k).toInt ∧ (fa0_23 k).toInt ≤ 80)) (hkm : ∀ (j i0 i : Int32), (0 : Int) ≤ j.toInt → j.toInt ≤ 8 → i0.toInt = 12 + 2 * j.toInt → i.toInt = 13 + 2 * j.toInt → (fa0_15 i0.toNatClampNeg).toInt = (1 : Int32).toInt → (1 : Int) ≤ (fa0_15 i.toNatClampNeg).toInt) : zm l yX8_minuteOn wsX8_minuteOn ({ frames := 3, cells := 0, slots := 0, locals := 73 }) [.ref a0, .ref a1] dC dI sz [(a0, .inr (8, [a0g_0, a0g_1, a0g_2, a0g_3, a0g_4, a0g_5, a0g_6, a0g_7, a0g_8, a0g_9, a0g_10, a0g_11, a0g_12, a0g_13, a0g_14, Value.ref a0_15, a0g_16, a0g_17, a0g_18, a0g_19, a0g_20, a0g_21, a0g_22, Value.ref a0_23, Value.ref a0_24, Value.int a0_25, Value.int a0_26, Value.int a0_27, Value.int a0_28, a0g_29, a0g_30, a0g_31, a0g_32, a0g_33, a0g_34, a0g_35, a0g_36, a0g_37, a0g_38, a0g_39])), (a1, .inl (ka1, 23, .inl (fa1))), (a0_15, .inl (ka0_15, 156, .inl (fa0_15))), (a0_24, .inl (ka0_24, 3, .inl (fa0_24))), (a0_23, .inl (ka0_23, 3, .inl (fa0_23)))] [(ka1, .int), (ka0_15, .int), (ka0_24, .int), (ka0_23, .int)] (fun A _ => True) (fun A => va_Qv (fun (_ : Unit) => True) (fun (_ : Unit) (t : State) => ∃ na0_26 : Int32, ∃ na0_27 : Int32, ∃ na0_28 : Int32, ∃ nfa1 : Nat → Int32, ((∀ k : Nat, 0 ≤ k → k ≤ 8 → (0 : Int) ≤ (nfa1 k).toInt ∧ (nfa1 k).toInt ≤ 8) ∧ (∀ k : Nat, 19 ≤ k → k ≤ 19 → (0 : Int) ≤ (nfa1 k).toInt ∧ (nfa1 k).toInt ≤ 8) ∧ (∀ k : Nat, 20 ≤ k → k ≤ 20 → (0 : Int) ≤ (nfa1 k).toInt ∧ (nfa1 k).toInt ≤ 19)) ∧ (Ff_X8_minuteOn a0_25.toInt (fl_A fa1) (fl_A fa0_15) (fl_A fa0_24) (fl_A fa0_23) = (na0_26.toInt, na0_27.toInt, na0_28.toInt, (fl_A nfa1))) ∧ ax_B dC dI A [(a0, .inr (8, [a0g_0, a0g_1, a0g_2, a0g_3, a0g_4, a0g_5, a0g_6, a0g_7, a0g_8, a0g_9, a0g_10, a0g_11, a0g_12, a0g_13, a0g_14, Value.ref a0_15, a0g_16, a0g_17, a0g_18, a0g_19, a0g_20, a0g_21, a0g_22, Value.ref a0_23, Value.ref a0_24, Value.int a0_25, Value.int na0_26, Value.int na0_27, Value.int na0_28, a0g_29, a0g_30, a0g_31, a0g_32, a0g_33, a0g_34, a0g_35, a0g_36, a0g_37, a0g_38, a0g_39])), (a1, .inl (ka1, 23, .inl (nfa1))), (a0_15, .inl (ka0_15, 156, .inl (fa0_15))), (a0_24, .inl (ka0_24, 3, .inl (fa0_24))), (a0_23, .inl (ka0_23, 3, .inl (fa0_23)))] [(ka1, .int), (ka0_15, .int), (ka0_24, .int), (ka0_23, .int)] t) A) := by
  refine zh (cc := cX8_minuteOn) (maxL := 3) (ret := none) zn_RX8 rfl (Nat.le_of_ble_eq_true rfl) (fun p e s m below meth c A ls hx hb hml hr hts (hown : s.vm.findClass RX8 = some m.cls) hlocks hA hS hP hK hD hE (hl : lv_has ls 3 [(0, .ref a0), (1, .ref a1)]) => ?_)
  generalize hFX : Ff_X8_minuteOn a0_25.toInt (fl_A fa1) (fl_A fa0_15) (fl_A fa0_24) (fl_A fa0_23) = FX at ⊢
  have hF0 := hFX.symm.trans (Ff_X8_minuteOn.eq_1 a0_25.toInt (fl_A fa1) (fl_A fa0_15) (fl_A fa0_24) (fl_A fa0_23))
  refine lv_aload_n hx hb dX8_minuteOn_0 rfl (lv_at hl 1 rfl) ?_
  refine lv_bipush (v := 19) hx hb dX8_minuteOn_1 zk_bipush_19 ?_
  refine va_iald hx hb hK hP 1 0 rfl rfl (by unfold vp_in; decide +kernel) dX8_minuteOn_3 ?_
  refine lv_topi (fun x3 ex3 => ?_)
  have bx3 : (0 : Int) ≤ x3.toInt ∧ x3.toInt ≤ 8 := by rw [ex3]; exact ai_rd bfa1.2.1 zq160 zq161 (by decide) (by decide) (by decide)
  have fqx3 := congrArg Int32.toInt ex3
  have hF0 := hF0.trans (fl_lt_eq (show x3.toInt = (fl_A fa1) (19) from fqx3))
  refine lv_istore_n (lv' := [(2, .int x3), (0, .ref a0), (1, .ref a1)]) hx hb dX8_minuteOn_4 rfl hl (by decide) rfl (fun ls hl => ?_)
  refine lv_aload_n hx hb dX8_minuteOn_5 rfl (lv_at hl 1 rfl) ?_
  refine lv_iconst (v := 0) hx hb dX8_minuteOn_6 zk_iconst_0 ?_
  refine va_put (D := (dC, dI)) (ci := 8) (v := .int 0) (ty := .int) (C := RX8) (T := TX8) (N := 40) hx hb hts zi_X8_minuteOn_8 tyX8 tyX8_ok nmX8 hown hK hP hD hS 0 rfl rfl 28 (by decide) (hts (.fieldLink RX8 248 "WaxTurnsModel" "said" "I") (zm_X8_minuteOn_r1 (List.mem_of_getElem? (i := 0) rfl))) (fun _ h9 => h9) rfl (tyX8_ok 28 (by decide)) rfl rfl (Nat.le_of_ble_eq_true rfl) dX8_minuteOn_7 (fun H locs hP hD hS => ?_)
  refine zs_0 (y := (a0, .inr (8, [a0g_0, a0g_1, a0g_2, a0g_3, a0g_4, a0g_5, a0g_6, a0g_7, a0g_8, a0g_9, a0g_10, a0g_11, a0g_12, a0g_13, a0g_14, Value.ref a0_15, a0g_16, a0g_17, a0g_18, a0g_19, a0g_20, a0g_21, a0g_22, Value.ref a0_23, Value.ref a0_24, Value.int a0_25, Value.int a0_26, Value.int a0_27, Value.int 0, a0g_29, a0g_30, a0g_31, a0g_32, a0g_33, a0g_34, a0g_35, a0g_36, a0g_37, a0g_38, a0g_39]))) hP hD rfl (fun hP hD => ?_)
  refine lv_aload_n hx hb dX8_minuteOn_10 rfl (lv_at hl 2 rfl) ?_
  refine lv_bipush (v := 18) hx hb dX8_minuteOn_11 zk_bipush_18 ?_
  refine va_iald hx hb hK hP 1 0 rfl rfl (by unfold vp_in; decide +kernel) dX8_minuteOn_13 ?_
  refine lv_topi (fun x13 ex13 => ?_)
  have fqx13 := congrArg Int32.toInt ex13
  have hF0 := hF0.trans (fl_lt_eq (show x13.toInt = (fl_A fa1) (18) from fqx13))
  refine lv_iload_n hx hb dX8_minuteOn_14 rfl (lv_at hl 0 rfl) ?_
  refine va_calli (va_runS (As := [.int x13, .int x3]) (rest := []) ⟨hx, hb, hml, hown, hts⟩ (f_X8_hasBit l dC dI H.size x13 x3 ) (va_cwS 2 hts gX8_minuteOn_X8_hasBit rfl rfl rfl zd_X8_hasBit.2 ⟨Nat.le_of_ble_eq_true rfl, Nat.le_of_ble_eq_true rfl⟩) ⟨ax_blind (fun _ _ _ _ _ => trivial), ax_pre (zp_P0 hP) (zp_K hK) (zp_D0 hD) (fun _ _ => trivial)⟩ rfl rfl hl.1 rfl (lv_room (Nat.le_of_ble_eq_true rfl)) dX8_minuteOn_15 ⟨Nat.le_of_ble_eq_true rfl, Nat.le_of_ble_eq_true rfl⟩) hS (fun q _ h => zp_F0 hD hS hA q h) (zp_F0 hD hS hA) (fun r15 u t H locs ht hvm hw hB hz1 hk1 hS1 => zo0 hB ht hP hD hk1 (zp_F0 hD hS hA) hS1 (fun hP hK1 hD hS => ?_))
  obtain ⟨hw, hfr15⟩ := hw
  have hc15 : Ff_X8_hasBit x13.toInt x3.toInt = r15.toInt := hfr15.symm
  have hF0 := hF0.trans (fl_lt_eq hc15.symm)
  rcases hw with hw | hw
  · subst hw
    have hF0 := hF0.trans (if_pos (by decide))
    refine lv_if_ne (tgt := 66) hx hb dX8_minuteOn_18 (by decide) (fun _ => ?_) (fun c18 => absurd c18 (by decide +kernel))
    refine lv_aload_n hx hb dX8_minuteOn_66 rfl (lv_at hl 1 rfl) ?_
    refine lv_iload_n hx hb dX8_minuteOn_67 rfl (lv_at hl 0 rfl) ?_
    refine va_put (D := (dC, dI)) (ci := 8) (v := .int x3) (ty := .int) (C := RX8) (T := TX8) (N := 40) hx hb hts zi_X8_minuteOn_8 tyX8 tyX8_ok nmX8 hown hK hP hD hS 0 rfl rfl 26 (by decide) (hts (.fieldLink RX8 258 "WaxTurnsModel" "lived" "I") (zm_X8_minuteOn_r1 (List.mem_of_getElem? (i := 2) rfl))) (fun _ h9 => h9) rfl (tyX8_ok 26 (by decide)) rfl rfl (Nat.le_of_ble_eq_true rfl) dX8_minuteOn_68 (fun H locs hP hD hS => ?_)
    refine zs_0 (y := (a0, .inr (8, [a0g_0, a0g_1, a0g_2, a0g_3, a0g_4, a0g_5, a0g_6, a0g_7, a0g_8, a0g_9, a0g_10, a0g_11, a0g_12, a0g_13, a0g_14, Value.ref a0_15, a0g_16, a0g_17, a0g_18, a0g_19, a0g_20, a0g_21, a0g_22, Value.ref a0_23, Value.ref a0_24, Value.int a0_25, Value.int x3, Value.int a0_27, Value.int 0, a0g_29, a0g_30, a0g_31, a0g_32, a0g_33, a0g_34, a0g_35, a0g_36, a0g_37, a0g_38, a0g_39]))) hP hD rfl (fun hP hD => ?_)
    refine lv_aload_n hx hb dX8_minuteOn_71 rfl (lv_at hl 1 rfl) ?_
    refine lv_aload_n hx hb dX8_minuteOn_72 rfl (lv_at hl 2 rfl) ?_
    refine lv_bipush (v := 18) hx hb dX8_minuteOn_73 zk_bipush_18 ?_
    refine va_iald hx hb hK hP 1 0 rfl rfl (by unfold vp_in; decide +kernel) dX8_minuteOn_75 ?_
    refine ax_ti x13 ex13.symm ?_
    refine lv_iload_n hx hb dX8_minuteOn_76 rfl (lv_at hl 0 rfl) ?_
    refine va_calli (va_runS (As := [.int x13, .int x3]) (rest := [.ref a0]) ⟨hx, hb, hml, hown, hts⟩ (f_X8_hasBit l dC dI H.size x13 x3 ) (va_cwS 2 hts gX8_minuteOn_X8_hasBit rfl rfl rfl zd_X8_hasBit.2 ⟨Nat.le_of_ble_eq_true rfl, Nat.le_of_ble_eq_true rfl⟩) ⟨ax_blind (fun _ _ _ _ _ => trivial), ax_pre (zp_P0 hP) (zp_K hK) (zp_D0 hD) (fun _ _ => trivial)⟩ rfl rfl hl.1 rfl (lv_room (Nat.le_of_ble_eq_true rfl)) dX8_minuteOn_77 ⟨Nat.le_of_ble_eq_true rfl, Nat.le_of_ble_eq_true rfl⟩) hS (fun q _ h => zp_F0 hD hS hA q h) (zp_F0 hD hS hA) (fun r77 u t H locs ht hvm hw hB hz1 hk1 hS1 => zo0 hB ht hP hD hk1 (zp_F0 hD hS hA) hS1 (fun hP hK1 hD hS => ?_))
    obtain ⟨hw, hfr77⟩ := hw
    have hc77 : Ff_X8_hasBit x13.toInt x3.toInt = r77.toInt := hfr77.symm
    have hF0 := hF0.trans (fl_lt_eq hc77.symm)
    rcases hw with hw | hw
    · subst hw
      have hF0 := hF0.trans (if_pos (by decide))
      refine lv_if_eq (tgt := 87) hx hb dX8_minuteOn_80 (by decide) (fun c80 => absurd c80 (by decide +kernel)) (fun _ => ?_)
      refine lv_iconst (v := (-1)) hx hb dX8_minuteOn_83 zk_iconst_n1 ?_
      refine lv_goto (tgt := 90) hx hb dX8_minuteOn_84 (by decide) ?_
      refine va_put (D := (dC, dI)) (ci := 8) (v := .int (-1)) (ty := .int) (C := RX8) (T := TX8) (N := 40) hx hb hts zi_X8_minuteOn_8 tyX8 tyX8_ok nmX8 hown hK hP hD hS 0 rfl rfl 27 (by decide) (hts (.fieldLink RX8 261 "WaxTurnsModel" "livedAt" "I") (zm_X8_minuteOn_r1 (List.mem_of_getElem? (i := 3) rfl))) (fun _ h9 => h9) rfl (tyX8_ok 27 (by decide)) rfl rfl (Nat.le_of_ble_eq_true rfl) dX8_minuteOn_90 (fun H locs hP hD hS => ?_)
      refine zs_0 (y := (a0, .inr (8, [a0g_0, a0g_1, a0g_2, a0g_3, a0g_4, a0g_5, a0g_6, a0g_7, a0g_8, a0g_9, a0g_10, a0g_11, a0g_12, a0g_13, a0g_14, Value.ref a0_15, a0g_16, a0g_17, a0g_18, a0g_19, a0g_20, a0g_21, a0g_22, Value.ref a0_23, Value.ref a0_24, Value.int a0_25, Value.int x3, Value.int (-1), Value.int 0, a0g_29, a0g_30, a0g_31, a0g_32, a0g_33, a0g_34, a0g_35, a0g_36, a0g_37, a0g_38, a0g_39]))) hP hD rfl (fun hP hD => ?_)
      refine lv_aload_n hx hb dX8_minuteOn_93 rfl (lv_at hl 2 rfl) ?_
      refine lv_bipush (v := 21) hx hb dX8_minuteOn_94 zk_bipush_21 ?_
      refine lv_dup2_11 hx hb dX8_minuteOn_96 rfl rfl ?_
      refine va_iald hx hb hK hP 1 0 rfl rfl (by unfold vp_in; decide +kernel) dX8_minuteOn_97 ?_
      refine lv_topi (fun x97 ex97 => ?_)
      have fqx97 := congrArg Int32.toInt ex97
      have hF0 := hF0.trans (fl_lt_eq (show x97.toInt = (fl_A fa1) (21) from fqx97))
      refine lv_iconst (v := 1) hx hb dX8_minuteOn_98 zk_iconst_1 ?_
      refine lv_iadd hx hb dX8_minuteOn_99 ?_
      refine lv_topi (fun x99 ex99 => ?_)
      have fqx99 := fl_iadd_eq ex99
      have hF0 := hF0.trans (fl_lt_eq (show x99.toInt = fl_iadd x97.toInt 1 from fqx99))
      refine va_iast hx hb hK hP hD hS 1 0 rfl rfl (by unfold vp_in; decide +kernel) dX8_minuteOn_100 (fun H locs hP hD hS => ?_)
      obtain ⟨f100, ef100⟩ : ∃ g9 : Nat → Int32, g9 = upd fa1 (21 : Int32).toNatClampNeg x99 := ⟨_, rfl⟩
      refine zs_1 (y := (a1, .inl (ka1, 23, .inl (f100)))) hP hD (by rw [ef100]) (fun hP hD => ?_)
      have bf100 : ((∀ k : Nat, 0 ≤ k → k ≤ 8 → (0 : Int) ≤ (f100 k).toInt ∧ (f100 k).toInt ≤ 8) ∧ (∀ k : Nat, 19 ≤ k → k ≤ 19 → (0 : Int) ≤ (f100 k).toInt ∧ (f100 k).toInt ≤ 8) ∧ (∀ k : Nat, 20 ≤ k → k ≤ 20 → (0 : Int) ≤ (f100 k).toInt ∧ (f100 k).toInt ≤ 19)) := by rw [ef100]; exact ⟨ai_updO bfa1.1 _ (Or.inr (ai_ngt_of zq162 (by decide) (by decide))), ai_updO bfa1.2.1 _ (Or.inr (ai_ngt_of zq162 (by decide) (by decide))), ai_updO bfa1.2.2 _ (Or.inr (ai_ngt_of zq162 (by decide) (by decide)))⟩
      have kf100_21 : f100 21 = x99 := by rw [ef100]; exact ai_k1 (by decide +kernel)
      have fqf100 := fl_up_eq ef100
      have hF0 := hF0.trans (fl_lt_eq (show (fl_A f100) = fl_up (fl_A fa1) (21) x99.toInt from fqf100))
      refine lv_aload_n hx hb dX8_minuteOn_101 rfl (lv_at hl 2 rfl) ?_
      refine lv_bipush (v := 20) hx hb dX8_minuteOn_102 zk_bipush_20 ?_
      refine lv_dup2_11 hx hb dX8_minuteOn_104 rfl rfl ?_
      refine va_iald hx hb hK hP 1 0 rfl rfl (by unfold vp_in; decide +kernel) dX8_minuteOn_105 ?_
      refine lv_topi (fun x105 ex105 => ?_)
      have bx105 : (0 : Int) ≤ x105.toInt ∧ x105.toInt ≤ 19 := by rw [ex105]; exact ai_rd bf100.2.2 zq153 zq154 (by decide) (by decide) (by decide)
      have fqx105 := congrArg Int32.toInt ex105
      have hF0 := hF0.trans (fl_lt_eq (show x105.toInt = (fl_A f100) (20) from fqx105))
      refine lv_iconst (v := 1) hx hb dX8_minuteOn_106 zk_iconst_1 ?_
      refine lv_iadd hx hb dX8_minuteOn_107 ?_
      refine lv_topi (fun x107 ex107 => ?_)
      have qx107 : x107.toInt = x105.toInt + (1 : Int32).toInt := ai_add ex107 ⟨bx105.1, bx105.2⟩ ⟨zq1, zq0⟩ (by decide) (by decide)
      have bx107 : (1 : Int) ≤ x107.toInt ∧ x107.toInt ≤ 20 := ⟨by rw [qx107]; exact Int.add_le_add bx105.1 zq1, by rw [qx107]; exact Int.add_le_add bx105.2 zq0⟩
      have wx107 : x107.toInt = x105.toInt + 1 := qx107
      have hF0 := hF0.trans (fl_lt_eq (show x107.toInt = x105.toInt + 1 from qx107))
      refine va_iast hx hb hK hP hD hS 1 0 rfl rfl (by unfold vp_in; decide +kernel) dX8_minuteOn_108 (fun H locs hP hD hS => ?_)
      obtain ⟨f108, ef108⟩ : ∃ g9 : Nat → Int32, g9 = upd f100 (20 : Int32).toNatClampNeg x107 := ⟨_, rfl⟩
      refine zs_1 (y := (a1, .inl (ka1, 23, .inl (f108)))) hP hD (by rw [ef108]) (fun hP hD => ?_)
      have bf108 : ((∀ k : Nat, 0 ≤ k → k ≤ 8 → (0 : Int) ≤ (f108 k).toInt ∧ (f108 k).toInt ≤ 8) ∧ (∀ k : Nat, 19 ≤ k → k ≤ 19 → (0 : Int) ≤ (f108 k).toInt ∧ (f108 k).toInt ≤ 8) ∧ True) := by rw [ef108]; exact ⟨ai_updO bf100.1 _ (Or.inr (ai_ngt_of zq153 (by decide) (by decide))), ai_updO bf100.2.1 _ (Or.inr (ai_ngt_of zq153 (by decide) (by decide))), trivial⟩
      have kf108_20 : f108 20 = x107 := by rw [ef108]; exact ai_k1 (by decide +kernel)
      have kf108_21 : f108 21 = x99 := by rw [ef108]; exact ai_k2 (by decide +kernel) kf100_21
      have fqf108 := fl_up_eq ef108
      have hF0 := hF0.trans (fl_lt_eq (show (fl_A f108) = fl_up (fl_A f100) (20) x107.toInt from fqf108))
      refine lv_aload_n hx hb dX8_minuteOn_109 rfl (lv_at hl 2 rfl) ?_
      refine lv_bipush (v := 20) hx hb dX8_minuteOn_110 zk_bipush_20 ?_
      refine va_iald hx hb hK hP 1 0 rfl rfl (by unfold vp_in; decide +kernel) dX8_minuteOn_112 ?_
      refine ax_ti x107 ((congrArg f108 (by decide +kernel : (20 : Int32).toNatClampNeg = 20)).trans kf108_20) ?_
      refine lv_aload_n hx hb dX8_minuteOn_113 rfl (lv_at hl 1 rfl) ?_
      refine va_get (D := (dC, dI)) (ci := 8) (v := .ref a0_15) (C := RX8) (T := TX8) (N := 40) hx hb hts zi_X8_minuteOn_8 hown hK hP 0 rfl rfl 15 (by decide) (hts (.fieldLink RX8 20 "WaxTurnsModel" "\x72" "[I") (zm_X8_minuteOn_r1 (List.mem_of_getElem? (i := 1) rfl))) (fun _ h9 => h9) rfl dX8_minuteOn_114 ?_
      refine lv_iconst (v := 1) hx hb dX8_minuteOn_117 zk_iconst_1 ?_
      refine va_iald hx hb hK hP 2 1 rfl rfl (by unfold vp_in; decide +kernel) dX8_minuteOn_118 ?_
      refine lv_topi (fun x118 ex118 => ?_)
      have bx118 : (1 : Int) ≤ x118.toInt ∧ x118.toInt ≤ 20 := by rw [ex118]; exact ai_rd bfa0_15.2.1 zq1 zq0 (by decide) (by decide) (by decide)
      have fqx118 := congrArg Int32.toInt ex118
      have hF0 := hF0.trans (fl_lt_eq (show x118.toInt = (fl_A fa0_15) (1) from fqx118))
      refine lv_icmp_ge (tgt := 123) hx hb dX8_minuteOn_119 (by decide) (fun c119 => ?_) (fun c119 => ?_)
      · have gc119 := ai_le c119
        have u119t_x118 : x118.toInt ≤ (20 : Int) := bx118.2
        have l119t_x107 : (1 : Int) ≤ x107.toInt := bx107.1
        have hF0 := hF0.trans (if_pos (show x118.toInt ≤ x107.toInt from gc119))
        refine lv_aload_n hx hb dX8_minuteOn_123 rfl (lv_at hl 2 rfl) ?_
        refine lv_bipush (v := 20) hx hb dX8_minuteOn_124 zk_bipush_20 ?_
        refine lv_iconst (v := 0) hx hb dX8_minuteOn_126 zk_iconst_0 ?_
        refine va_iast hx hb hK hP hD hS 1 0 rfl rfl (by unfold vp_in; decide +kernel) dX8_minuteOn_127 (fun H locs hP hD hS => ?_)
        obtain ⟨f127, ef127⟩ : ∃ g9 : Nat → Int32, g9 = upd f108 (20 : Int32).toNatClampNeg (0 : Int32) := ⟨_, rfl⟩
        refine zs_1 (y := (a1, .inl (ka1, 23, .inl (f127)))) hP hD (by rw [ef127]) (fun hP hD => ?_)
        have bf127 : ((∀ k : Nat, 0 ≤ k → k ≤ 8 → (0 : Int) ≤ (f127 k).toInt ∧ (f127 k).toInt ≤ 8) ∧ (∀ k : Nat, 19 ≤ k → k ≤ 19 → (0 : Int) ≤ (f127 k).toInt ∧ (f127 k).toInt ≤ 8) ∧ (∀ k : Nat, 20 ≤ k → k ≤ 20 → (0 : Int) ≤ (f127 k).toInt ∧ (f127 k).toInt ≤ 19)) := by rw [ef127]; exact ⟨ai_updO bf108.1 _ (Or.inr (ai_ngt_of zq153 (by decide) (by decide))), ai_updO bf108.2.1 _ (Or.inr (ai_ngt_of zq153 (by decide) (by decide))), ai_new (by decide +kernel) ⟨zq5, (Int.le_trans zq6 zq163)⟩⟩
        have kf127_20 : f127 20 = 0 := by rw [ef127]; exact ai_k1 (by decide +kernel)
        have kf127_21 : f127 21 = x99 := by rw [ef127]; exact ai_k2 (by decide +kernel) kf108_21
        have fqf127 := fl_up_eq ef127
        have hF0 := hF0.trans (fl_lt_eq (show (fl_A f127) = fl_up (fl_A f108) (20) 0 from fqf127))
        refine lv_aload_n hx hb dX8_minuteOn_128 rfl (lv_at hl 2 rfl) ?_
        refine lv_bipush (v := 19) hx hb dX8_minuteOn_129 zk_bipush_19 ?_
        refine lv_aload_n hx hb dX8_minuteOn_131 rfl (lv_at hl 1 rfl) ?_
        refine lv_iload_n hx hb dX8_minuteOn_132 rfl (lv_at hl 0 rfl) ?_
        refine zc_cutc (wc := [(a0, .inr (8, [a0g_0, a0g_1, a0g_2, a0g_3, a0g_4, a0g_5, a0g_6, a0g_7, a0g_8, a0g_9, a0g_10, a0g_11, a0g_12, a0g_13, a0g_14, Value.ref a0_15, a0g_16, a0g_17, a0g_18, a0g_19, a0g_20, a0g_21, a0g_22, Value.ref a0_23, Value.ref a0_24, Value.int a0_25, Value.int x3, Value.int (-1), Value.int 0, a0g_29, a0g_30, a0g_31, a0g_32, a0g_33, a0g_34, a0g_35, a0g_36, a0g_37, a0g_38, a0g_39])), (a0_15, .inl (ka0_15, 156, .inl (fa0_15)))]) hP hD hS hA [0, 2] (by decide +kernel) rfl (fun hPc hDc hFc hCc => ?_)
        have hKc := hK.sub (tys' := [(ka0_15, .int)]) [1] rfl
        refine va_calli (va_runV (As := [.int x3]) (rest := [.int 19, .ref a1]) ⟨hx, hb, hml, hown, hts⟩ (f_X8_nextOf l dC dI H.size a0 x3 a0g_0 a0g_1 a0g_2 a0g_3 a0g_4 a0g_5 a0g_6 a0g_7 a0g_8 a0g_9 a0g_10 a0g_11 a0g_12 a0g_13 a0g_14 a0g_16 a0g_17 a0g_18 a0g_19 a0g_20 a0g_21 a0g_22 (Value.ref a0_23) (Value.ref a0_24) (Value.int a0_25) (Value.int x3) (Value.int (-1)) (Value.int 0) a0g_29 a0g_30 a0g_31 a0g_32 a0g_33 a0g_34 a0g_35 a0g_36 a0g_37 a0g_38 a0g_39 a0_15 ka0_15 fa0_15 bx3.1 bx3.2 bfa0_15) (cwV 1 hts gX8_minuteOn_X8_nextOf rfl rfl rfl zd_X8_nextOf ⟨Nat.le_of_ble_eq_true rfl, Nat.le_of_ble_eq_true rfl⟩) ⟨ax_blind (fun _ _ _ _ _ => trivial), zr_8 hKc hPc (q0 := 0) rfl, ax_pre hPc hKc hDc (fun _ _ => trivial)⟩ rfl rfl hl.1 rfl (lv_room (Nat.le_of_ble_eq_true rfl)) dX8_minuteOn_133 ⟨Nat.le_of_ble_eq_true rfl, Nat.le_of_ble_eq_true rfl⟩) hS (fun q _ h => hFc q h) hFc (fun r133 u t H locs ht hvm hw hB hz1 hk1 hS1 => zo hB ht hS1 (fun hP1 hK1 hD1 hS => ?_))
        refine zc_backc (w := [(a0, .inr (8, [a0g_0, a0g_1, a0g_2, a0g_3, a0g_4, a0g_5, a0g_6, a0g_7, a0g_8, a0g_9, a0g_10, a0g_11, a0g_12, a0g_13, a0g_14, Value.ref a0_15, a0g_16, a0g_17, a0g_18, a0g_19, a0g_20, a0g_21, a0g_22, Value.ref a0_23, Value.ref a0_24, Value.int a0_25, Value.int x3, Value.int (-1), Value.int 0, a0g_29, a0g_30, a0g_31, a0g_32, a0g_33, a0g_34, a0g_35, a0g_36, a0g_37, a0g_38, a0g_39])), (a1, .inl (ka1, 23, .inl (f127))), (a0_15, .inl (ka0_15, 156, .inl (fa0_15))), (a0_24, .inl (ka0_24, 3, .inl (fa0_24))), (a0_23, .inl (ka0_23, 3, .inl (fa0_23)))]) hP hD hCc hk1 hFc hP1 hD1 [.inr 0, .inl 1, .inr 1, .inl 3, .inl 4] (by decide +kernel) rfl (fun hP hD => ?_)
        obtain ⟨hw, hfr133⟩ := hw
        have hc133 : Ff_X8_nextOf x3.toInt (fl_A fa0_15) = r133.toInt := hfr133.symm
        have hF0 := hF0.trans (fl_lt_eq hc133.symm)
        have hw : (0 : Int) ≤ r133.toInt ∧ r133.toInt ≤ (8 : Int) := hw
        obtain ⟨h133_0, h133_1⟩ := hw
        refine va_iast hx hb hK hP hD hS 1 0 rfl rfl (by unfold vp_in; decide +kernel) dX8_minuteOn_136 (fun H locs hP hD hS => ?_)
        obtain ⟨f136, ef136⟩ : ∃ g9 : Nat → Int32, g9 = upd f127 (19 : Int32).toNatClampNeg r133 := ⟨_, rfl⟩
        refine zs_1 (y := (a1, .inl (ka1, 23, .inl (f136)))) hP hD (by rw [ef136]) (fun hP hD => ?_)
        have bf136 : ((∀ k : Nat, 0 ≤ k → k ≤ 8 → (0 : Int) ≤ (f136 k).toInt ∧ (f136 k).toInt ≤ 8) ∧ (∀ k : Nat, 19 ≤ k → k ≤ 19 → (0 : Int) ≤ (f136 k).toInt ∧ (f136 k).toInt ≤ 8) ∧ (∀ k : Nat, 20 ≤ k → k ≤ 20 → (0 : Int) ≤ (f136 k).toInt ∧ (f136 k).toInt ≤ 19)) := by rw [ef136]; exact ⟨ai_updO bf127.1 _ (Or.inr (ai_ngt_of zq160 (by decide) (by decide))), ai_updS bf127.2.1 _ ⟨h133_0, h133_1⟩, ai_updO bf127.2.2 _ (Or.inl (ai_nlt_of zq160 zq161 (by decide) (by decide)))⟩
        have kf136_19 : f136 19 = r133 := by rw [ef136]; exact ai_k1 (by decide +kernel)
        have kf136_20 : f136 20 = 0 := by rw [ef136]; exact ai_k2 (by decide +kernel) kf127_20
        have kf136_21 : f136 21 = x99 := by rw [ef136]; exact ai_k2 (by decide +kernel) kf127_21
        have fqf136 := fl_up_eq ef136
        have hF0 := hF0.trans (fl_lt_eq (show (fl_A f136) = fl_up (fl_A f127) (19) r133.toInt from fqf136))
        have hFe : FX = (x3.toInt, (-1), 0, (fl_A f136)) := hF0
        exact W.vret hx hb hr (fun t ht hW => ⟨⟨(), rfl, trivial, x3, (-1), 0, f136, bf136, hFe, by rw [ht]; exact hP, va_K.moved hW.alike hK, hD⟩, hS.F ht⟩) hS.2.2 dX8_minuteOn_137
      · have gc119 := ai_nle c119
        have u119f_x107 : x107.toInt ≤ (19 : Int) := ai_lthi gc119 bx118.2
        have u119f_x105 : x105.toInt ≤ (18 : Int) := by have h1 := wx107; have h2 := u119f_x107; omega
        have l119f_x118 : (2 : Int) ≤ x118.toInt := ai_ltlo gc119 bx107.1
        have hF0 := hF0.trans (if_neg (show ¬ (x118.toInt ≤ x107.toInt) from Int.not_le.mpr gc119))
        have hFe : FX = (x3.toInt, (-1), 0, (fl_A f108)) := hF0
        exact W.vret hx hb hr (fun t ht hW => ⟨⟨(), rfl, trivial, x3, (-1), 0, f108, ⟨bf108.1, bf108.2.1, ai_one (by rw [kf108_20]; exact ⟨(Int.le_trans zq4 bx107.1), u119f_x107⟩)⟩, hFe, by rw [ht]; exact hP, va_K.moved hW.alike hK, hD⟩, hS.F ht⟩) hS.2.2 dX8_minuteOn_122
    · subst hw
      have hF0 := hF0.trans (if_neg (by decide))
      refine lv_if_eq (tgt := 87) hx hb dX8_minuteOn_80 (by decide) (fun _ => ?_) (fun c80 => absurd (by decide +kernel) c80)
      refine lv_aload_n hx hb dX8_minuteOn_87 rfl (lv_at hl 2 rfl) ?_
      refine lv_iload_n hx hb dX8_minuteOn_88 rfl (lv_at hl 0 rfl) ?_
      refine va_iald hx hb hK hP 1 0 rfl rfl (ai_in bx3.1 bx3.2 (by decide) (by decide)) dX8_minuteOn_89 ?_
      refine lv_topi (fun x89 ex89 => ?_)
      have bx89 : (0 : Int) ≤ x89.toInt ∧ x89.toInt ≤ 8 := by rw [ex89]; exact ai_rd bfa1.1 bx3.1 bx3.2 (by decide) (by decide) (by decide)
      have fqx89 := congrArg Int32.toInt ex89
      have hF0 := hF0.trans (fl_lt_eq (show x89.toInt = (fl_A fa1) (x3.toInt.toNat) from fqx89))
      refine va_put (D := (dC, dI)) (ci := 8) (v := .int x89) (ty := .int) (C := RX8) (T := TX8) (N := 40) hx hb hts zi_X8_minuteOn_8 tyX8 tyX8_ok nmX8 hown hK hP hD hS 0 rfl rfl 27 (by decide) (hts (.fieldLink RX8 261 "WaxTurnsModel" "livedAt" "I") (zm_X8_minuteOn_r1 (List.mem_of_getElem? (i := 3) rfl))) (fun _ h9 => h9) rfl (tyX8_ok 27 (by decide)) rfl rfl (Nat.le_of_ble_eq_true rfl) dX8_minuteOn_90 (fun H locs hP hD hS => ?_)
      refine zs_0 (y := (a0, .inr (8, [a0g_0, a0g_1, a0g_2, a0g_3, a0g_4, a0g_5, a0g_6, a0g_7, a0g_8, a0g_9, a0g_10, a0g_11, a0g_12, a0g_13, a0g_14, Value.ref a0_15, a0g_16, a0g_17, a0g_18, a0g_19, a0g_20, a0g_21, a0g_22, Value.ref a0_23, Value.ref a0_24, Value.int a0_25, Value.int x3, Value.int x89, Value.int 0, a0g_29, a0g_30, a0g_31, a0g_32, a0g_33, a0g_34, a0g_35, a0g_36, a0g_37, a0g_38, a0g_39]))) hP hD rfl (fun hP hD => ?_)
      refine lv_aload_n hx hb dX8_minuteOn_93 rfl (lv_at hl 2 rfl) ?_
      refine lv_bipush (v := 21) hx hb dX8_minuteOn_94 zk_bipush_21 ?_
      refine lv_dup2_11 hx hb dX8_minuteOn_96 rfl rfl ?_
      refine va_iald hx hb hK hP 1 0 rfl rfl (by unfold vp_in; decide +kernel) dX8_minuteOn_97 ?_
      refine lv_topi (fun x97 ex97 => ?_)
      have fqx97 := congrArg Int32.toInt ex97
      have hF0 := hF0.trans (fl_lt_eq (show x97.toInt = (fl_A fa1) (21) from fqx97))
      refine lv_iconst (v := 1) hx hb dX8_minuteOn_98 zk_iconst_1 ?_
      refine lv_iadd hx hb dX8_minuteOn_99 ?_
      refine lv_topi (fun x99 ex99 => ?_)
      have fqx99 := fl_iadd_eq ex99
      have hF0 := hF0.trans (fl_lt_eq (show x99.toInt = fl_iadd x97.toInt 1 from fqx99))
      refine va_iast hx hb hK hP hD hS 1 0 rfl rfl (by unfold vp_in; decide +kernel) dX8_minuteOn_100 (fun H locs hP hD hS => ?_)
      obtain ⟨f100, ef100⟩ : ∃ g9 : Nat → Int32, g9 = upd fa1 (21 : Int32).toNatClampNeg x99 := ⟨_, rfl⟩
      refine zs_1 (y := (a1, .inl (ka1, 23, .inl (f100)))) hP hD (by rw [ef100]) (fun hP hD => ?_)
      have bf100 : ((∀ k : Nat, 0 ≤ k → k ≤ 8 → (0 : Int) ≤ (f100 k).toInt ∧ (f100 k).toInt ≤ 8) ∧ (∀ k : Nat, 19 ≤ k → k ≤ 19 → (0 : Int) ≤ (f100 k).toInt ∧ (f100 k).toInt ≤ 8) ∧ (∀ k : Nat, 20 ≤ k → k ≤ 20 → (0 : Int) ≤ (f100 k).toInt ∧ (f100 k).toInt ≤ 19)) := by rw [ef100]; exact ⟨ai_updO bfa1.1 _ (Or.inr (ai_ngt_of zq162 (by decide) (by decide))), ai_updO bfa1.2.1 _ (Or.inr (ai_ngt_of zq162 (by decide) (by decide))), ai_updO bfa1.2.2 _ (Or.inr (ai_ngt_of zq162 (by decide) (by decide)))⟩
      have kf100_21 : f100 21 = x99 := by rw [ef100]; exact ai_k1 (by decide +kernel)
      have fqf100 := fl_up_eq ef100
      have hF0 := hF0.trans (fl_lt_eq (show (fl_A f100) = fl_up (fl_A fa1) (21) x99.toInt from fqf100))
      refine lv_aload_n hx hb dX8_minuteOn_101 rfl (lv_at hl 2 rfl) ?_
      refine lv_bipush (v := 20) hx hb dX8_minuteOn_102 zk_bipush_20 ?_
      refine lv_dup2_11 hx hb dX8_minuteOn_104 rfl rfl ?_
      refine va_iald hx hb hK hP 1 0 rfl rfl (by unfold vp_in; decide +kernel) dX8_minuteOn_105 ?_
      refine lv_topi (fun x105 ex105 => ?_)
      have bx105 : (0 : Int) ≤ x105.toInt ∧ x105.toInt ≤ 19 := by rw [ex105]; exact ai_rd bf100.2.2 zq153 zq154 (by decide) (by decide) (by decide)
      have fqx105 := congrArg Int32.toInt ex105
      have hF0 := hF0.trans (fl_lt_eq (show x105.toInt = (fl_A f100) (20) from fqx105))
      refine lv_iconst (v := 1) hx hb dX8_minuteOn_106 zk_iconst_1 ?_
      refine lv_iadd hx hb dX8_minuteOn_107 ?_
      refine lv_topi (fun x107 ex107 => ?_)
      have qx107 : x107.toInt = x105.toInt + (1 : Int32).toInt := ai_add ex107 ⟨bx105.1, bx105.2⟩ ⟨zq1, zq0⟩ (by decide) (by decide)
      have bx107 : (1 : Int) ≤ x107.toInt ∧ x107.toInt ≤ 20 := ⟨by rw [qx107]; exact Int.add_le_add bx105.1 zq1, by rw [qx107]; exact Int.add_le_add bx105.2 zq0⟩
      have wx107 : x107.toInt = x105.toInt + 1 := qx107
      have hF0 := hF0.trans (fl_lt_eq (show x107.toInt = x105.toInt + 1 from qx107))
      refine va_iast hx hb hK hP hD hS 1 0 rfl rfl (by unfold vp_in; decide +kernel) dX8_minuteOn_108 (fun H locs hP hD hS => ?_)
      obtain ⟨f108, ef108⟩ : ∃ g9 : Nat → Int32, g9 = upd f100 (20 : Int32).toNatClampNeg x107 := ⟨_, rfl⟩
      refine zs_1 (y := (a1, .inl (ka1, 23, .inl (f108)))) hP hD (by rw [ef108]) (fun hP hD => ?_)
      have bf108 : ((∀ k : Nat, 0 ≤ k → k ≤ 8 → (0 : Int) ≤ (f108 k).toInt ∧ (f108 k).toInt ≤ 8) ∧ (∀ k : Nat, 19 ≤ k → k ≤ 19 → (0 : Int) ≤ (f108 k).toInt ∧ (f108 k).toInt ≤ 8) ∧ True) := by rw [ef108]; exact ⟨ai_updO bf100.1 _ (Or.inr (ai_ngt_of zq153 (by decide) (by decide))), ai_updO bf100.2.1 _ (Or.inr (ai_ngt_of zq153 (by decide) (by decide))), trivial⟩
      have kf108_20 : f108 20 = x107 := by rw [ef108]; exact ai_k1 (by decide +kernel)
      have kf108_21 : f108 21 = x99 := by rw [ef108]; exact ai_k2 (by decide +kernel) kf100_21
      have fqf108 := fl_up_eq ef108
      have hF0 := hF0.trans (fl_lt_eq (show (fl_A f108) = fl_up (fl_A f100) (20) x107.toInt from fqf108))
      refine lv_aload_n hx hb dX8_minuteOn_109 rfl (lv_at hl 2 rfl) ?_
      refine lv_bipush (v := 20) hx hb dX8_minuteOn_110 zk_bipush_20 ?_
      refine va_iald hx hb hK hP 1 0 rfl rfl (by unfold vp_in; decide +kernel) dX8_minuteOn_112 ?_
      refine ax_ti x107 ((congrArg f108 (by decide +kernel : (20 : Int32).toNatClampNeg = 20)).trans kf108_20) ?_
      refine lv_aload_n hx hb dX8_minuteOn_113 rfl (lv_at hl 1 rfl) ?_
      refine va_get (D := (dC, dI)) (ci := 8) (v := .ref a0_15) (C := RX8) (T := TX8) (N := 40) hx hb hts zi_X8_minuteOn_8 hown hK hP 0 rfl rfl 15 (by decide) (hts (.fieldLink RX8 20 "WaxTurnsModel" "\x72" "[I") (zm_X8_minuteOn_r1 (List.mem_of_getElem? (i := 1) rfl))) (fun _ h9 => h9) rfl dX8_minuteOn_114 ?_
      refine lv_iconst (v := 1) hx hb dX8_minuteOn_117 zk_iconst_1 ?_
      refine va_iald hx hb hK hP 2 1 rfl rfl (by unfold vp_in; decide +kernel) dX8_minuteOn_118 ?_
      refine lv_topi (fun x118 ex118 => ?_)
      have bx118 : (1 : Int) ≤ x118.toInt ∧ x118.toInt ≤ 20 := by rw [ex118]; exact ai_rd bfa0_15.2.1 zq1 zq0 (by decide) (by decide) (by decide)
      have fqx118 := congrArg Int32.toInt ex118
      have hF0 := hF0.trans (fl_lt_eq (show x118.toInt = (fl_A fa0_15) (1) from fqx118))
      refine lv_icmp_ge (tgt := 123) hx hb dX8_minuteOn_119 (by decide) (fun c119 => ?_) (fun c119 => ?_)
      · have gc119 := ai_le c119
        have u119t_x118 : x118.toInt ≤ (20 : Int) := bx118.2
        have l119t_x107 : (1 : Int) ≤ x107.toInt := bx107.1
        have hF0 := hF0.trans (if_pos (show x118.toInt ≤ x107.toInt from gc119))
        refine lv_aload_n hx hb dX8_minuteOn_123 rfl (lv_at hl 2 rfl) ?_
        refine lv_bipush (v := 20) hx hb dX8_minuteOn_124 zk_bipush_20 ?_
        refine lv_iconst (v := 0) hx hb dX8_minuteOn_126 zk_iconst_0 ?_
        refine va_iast hx hb hK hP hD hS 1 0 rfl rfl (by unfold vp_in; decide +kernel) dX8_minuteOn_127 (fun H locs hP hD hS => ?_)
        obtain ⟨f127, ef127⟩ : ∃ g9 : Nat → Int32, g9 = upd f108 (20 : Int32).toNatClampNeg (0 : Int32) := ⟨_, rfl⟩
        refine zs_1 (y := (a1, .inl (ka1, 23, .inl (f127)))) hP hD (by rw [ef127]) (fun hP hD => ?_)
        have bf127 : ((∀ k : Nat, 0 ≤ k → k ≤ 8 → (0 : Int) ≤ (f127 k).toInt ∧ (f127 k).toInt ≤ 8) ∧ (∀ k : Nat, 19 ≤ k → k ≤ 19 → (0 : Int) ≤ (f127 k).toInt ∧ (f127 k).toInt ≤ 8) ∧ (∀ k : Nat, 20 ≤ k → k ≤ 20 → (0 : Int) ≤ (f127 k).toInt ∧ (f127 k).toInt ≤ 19)) := by rw [ef127]; exact ⟨ai_updO bf108.1 _ (Or.inr (ai_ngt_of zq153 (by decide) (by decide))), ai_updO bf108.2.1 _ (Or.inr (ai_ngt_of zq153 (by decide) (by decide))), ai_new (by decide +kernel) ⟨zq5, (Int.le_trans zq6 zq163)⟩⟩
        have kf127_20 : f127 20 = 0 := by rw [ef127]; exact ai_k1 (by decide +kernel)
        have kf127_21 : f127 21 = x99 := by rw [ef127]; exact ai_k2 (by decide +kernel) kf108_21
        have fqf127 := fl_up_eq ef127
        have hF0 := hF0.trans (fl_lt_eq (show (fl_A f127) = fl_up (fl_A f108) (20) 0 from fqf127))
        refine lv_aload_n hx hb dX8_minuteOn_128 rfl (lv_at hl 2 rfl) ?_
        refine lv_bipush (v := 19) hx hb dX8_minuteOn_129 zk_bipush_19 ?_
        refine lv_aload_n hx hb dX8_minuteOn_131 rfl (lv_at hl 1 rfl) ?_
        refine lv_iload_n hx hb dX8_minuteOn_132 rfl (lv_at hl 0 rfl) ?_
        refine zc_cutc (wc := [(a0, .inr (8, [a0g_0, a0g_1, a0g_2, a0g_3, a0g_4, a0g_5, a0g_6, a0g_7, a0g_8, a0g_9, a0g_10, a0g_11, a0g_12, a0g_13, a0g_14, Value.ref a0_15, a0g_16, a0g_17, a0g_18, a0g_19, a0g_20, a0g_21, a0g_22, Value.ref a0_23, Value.ref a0_24, Value.int a0_25, Value.int x3, Value.int x89, Value.int 0, a0g_29, a0g_30, a0g_31, a0g_32, a0g_33, a0g_34, a0g_35, a0g_36, a0g_37, a0g_38, a0g_39])), (a0_15, .inl (ka0_15, 156, .inl (fa0_15)))]) hP hD hS hA [0, 2] (by decide +kernel) rfl (fun hPc hDc hFc hCc => ?_)
        have hKc := hK.sub (tys' := [(ka0_15, .int)]) [1] rfl
        refine va_calli (va_runV (As := [.int x3]) (rest := [.int 19, .ref a1]) ⟨hx, hb, hml, hown, hts⟩ (f_X8_nextOf l dC dI H.size a0 x3 a0g_0 a0g_1 a0g_2 a0g_3 a0g_4 a0g_5 a0g_6 a0g_7 a0g_8 a0g_9 a0g_10 a0g_11 a0g_12 a0g_13 a0g_14 a0g_16 a0g_17 a0g_18 a0g_19 a0g_20 a0g_21 a0g_22 (Value.ref a0_23) (Value.ref a0_24) (Value.int a0_25) (Value.int x3) (Value.int x89) (Value.int 0) a0g_29 a0g_30 a0g_31 a0g_32 a0g_33 a0g_34 a0g_35 a0g_36 a0g_37 a0g_38 a0g_39 a0_15 ka0_15 fa0_15 bx3.1 bx3.2 bfa0_15) (cwV 1 hts gX8_minuteOn_X8_nextOf rfl rfl rfl zd_X8_nextOf ⟨Nat.le_of_ble_eq_true rfl, Nat.le_of_ble_eq_true rfl⟩) ⟨ax_blind (fun _ _ _ _ _ => trivial), zr_8 hKc hPc (q0 := 0) rfl, ax_pre hPc hKc hDc (fun _ _ => trivial)⟩ rfl rfl hl.1 rfl (lv_room (Nat.le_of_ble_eq_true rfl)) dX8_minuteOn_133 ⟨Nat.le_of_ble_eq_true rfl, Nat.le_of_ble_eq_true rfl⟩) hS (fun q _ h => hFc q h) hFc (fun r133 u t H locs ht hvm hw hB hz1 hk1 hS1 => zo hB ht hS1 (fun hP1 hK1 hD1 hS => ?_))
        refine zc_backc (w := [(a0, .inr (8, [a0g_0, a0g_1, a0g_2, a0g_3, a0g_4, a0g_5, a0g_6, a0g_7, a0g_8, a0g_9, a0g_10, a0g_11, a0g_12, a0g_13, a0g_14, Value.ref a0_15, a0g_16, a0g_17, a0g_18, a0g_19, a0g_20, a0g_21, a0g_22, Value.ref a0_23, Value.ref a0_24, Value.int a0_25, Value.int x3, Value.int x89, Value.int 0, a0g_29, a0g_30, a0g_31, a0g_32, a0g_33, a0g_34, a0g_35, a0g_36, a0g_37, a0g_38, a0g_39])), (a1, .inl (ka1, 23, .inl (f127))), (a0_15, .inl (ka0_15, 156, .inl (fa0_15))), (a0_24, .inl (ka0_24, 3, .inl (fa0_24))), (a0_23, .inl (ka0_23, 3, .inl (fa0_23)))]) hP hD hCc hk1 hFc hP1 hD1 [.inr 0, .inl 1, .inr 1, .inl 3, .inl 4] (by decide +kernel) rfl (fun hP hD => ?_)
        obtain ⟨hw, hfr133⟩ := hw
        have hc133 : Ff_X8_nextOf x3.toInt (fl_A fa0_15) = r133.toInt := hfr133.symm
        have hF0 := hF0.trans (fl_lt_eq hc133.symm)
        have hw : (0 : Int) ≤ r133.toInt ∧ r133.toInt ≤ (8 : Int) := hw
        obtain ⟨h133_0, h133_1⟩ := hw
        refine va_iast hx hb hK hP hD hS 1 0 rfl rfl (by unfold vp_in; decide +kernel) dX8_minuteOn_136 (fun H locs hP hD hS => ?_)
        obtain ⟨f136, ef136⟩ : ∃ g9 : Nat → Int32, g9 = upd f127 (19 : Int32).toNatClampNeg r133 := ⟨_, rfl⟩
        refine zs_1 (y := (a1, .inl (ka1, 23, .inl (f136)))) hP hD (by rw [ef136]) (fun hP hD => ?_)
        have bf136 : ((∀ k : Nat, 0 ≤ k → k ≤ 8 → (0 : Int) ≤ (f136 k).toInt ∧ (f136 k).toInt ≤ 8) ∧ (∀ k : Nat, 19 ≤ k → k ≤ 19 → (0 : Int) ≤ (f136 k).toInt ∧ (f136 k).toInt ≤ 8) ∧ (∀ k : Nat, 20 ≤ k → k ≤ 20 → (0 : Int) ≤ (f136 k).toInt ∧ (f136 k).toInt ≤ 19)) := by rw [ef136]; exact ⟨ai_updO bf127.1 _ (Or.inr (ai_ngt_of zq160 (by decide) (by decide))), ai_updS bf127.2.1 _ ⟨h133_0, h133_1⟩, ai_updO bf127.2.2 _ (Or.inl (ai_nlt_of zq160 zq161 (by decide) (by decide)))⟩
        have kf136_19 : f136 19 = r133 := by rw [ef136]; exact ai_k1 (by decide +kernel)
        have kf136_20 : f136 20 = 0 := by rw [ef136]; exact ai_k2 (by decide +kernel) kf127_20
        have kf136_21 : f136 21 = x99 := by rw [ef136]; exact ai_k2 (by decide +kernel) kf127_21
        have fqf136 := fl_up_eq ef136
        have hF0 := hF0.trans (fl_lt_eq (show (fl_A f136) = fl_up (fl_A f127) (19) r133.toInt from fqf136))
        have hFe : FX = (x3.toInt, x89.toInt, 0, (fl_A f136)) := hF0
        exact W.vret hx hb hr (fun t ht hW => ⟨⟨(), rfl, trivial, x3, x89, 0, f136, bf136, hFe, by rw [ht]; exact hP, va_K.moved hW.alike hK, hD⟩, hS.F ht⟩) hS.2.2 dX8_minuteOn_137
      · have gc119 := ai_nle c119
        have u119f_x107 : x107.toInt ≤ (19 : Int) := ai_lthi gc119 bx118.2
        have u119f_x105 : x105.toInt ≤ (18 : Int) := by have h1 := wx107; have h2 := u119f_x107; omega
        have l119f_x118 : (2 : Int) ≤ x118.toInt := ai_ltlo gc119 bx107.1
        have hF0 := hF0.trans (if_neg (show ¬ (x118.toInt ≤ x107.toInt) from Int.not_le.mpr gc119))
        have hFe : FX = (x3.toInt, x89.toInt, 0, (fl_A f108)) := hF0
        exact W.vret hx hb hr (fun t ht hW => ⟨⟨(), rfl, trivial, x3, x89, 0, f108, ⟨bf108.1, bf108.2.1, ai_one (by rw [kf108_20]; exact ⟨(Int.le_trans zq4 bx107.1), u119f_x107⟩)⟩, hFe, by rw [ht]; exact hP, va_K.moved hW.alike hK, hD⟩, hS.F ht⟩) hS.2.2 dX8_minuteOn_122
  · subst hw
    have hF0 := hF0.trans (if_neg (by decide))
    refine lv_if_ne (tgt := 66) hx hb dX8_minuteOn_18 (by decide) (fun c18 => absurd (by decide +kernel) c18) (fun _ => ?_)
    refine lv_aload_n hx hb dX8_minuteOn_21 rfl (lv_at hl 1 rfl) ?_
    refine va_get (D := (dC, dI)) (ci := 8) (v := .ref a0_15) (C := RX8) (T := TX8) (N := 40) hx hb hts zi_X8_minuteOn_8 hown hK hP 0 rfl rfl 15 (by decide) (hts (.fieldLink RX8 20 "WaxTurnsModel" "\x72" "[I") (zm_X8_minuteOn_r1 (List.mem_of_getElem? (i := 1) rfl))) (fun _ h9 => h9) rfl dX8_minuteOn_22 ?_
    refine lv_bipush (v := 12) hx hb dX8_minuteOn_25 zk_bipush_12 ?_
    refine lv_iconst (v := 2) hx hb dX8_minuteOn_27 zk_iconst_2 ?_
    refine lv_iload_n hx hb dX8_minuteOn_28 rfl (lv_at hl 0 rfl) ?_
    refine lv_imul hx hb dX8_minuteOn_29 ?_
    refine lv_topi (fun x29 ex29 => ?_)
    have qx29 : x29.toInt = (2 : Int32).toInt * x3.toInt ∧ (0 : Int) ≤ x29.toInt ∧ x29.toInt ≤ 16 := ai_mul ex29 ⟨zq12, zq13⟩ ⟨bx3.1, bx3.2⟩ (by decide) (by decide) zq155
    have wx29 : x29.toInt = 2 * x3.toInt := qx29.1
    have hF0 := hF0.trans (fl_lt_eq (show x29.toInt = 2 * x3.toInt from qx29.1))
    refine lv_iadd hx hb dX8_minuteOn_30 ?_
    refine lv_topi (fun x30 ex30 => ?_)
    have qx30 : x30.toInt = (12 : Int32).toInt + x29.toInt := ai_add ex30 ⟨zq119, zq120⟩ ⟨qx29.2.1, qx29.2.2⟩ (by decide) (by decide)
    have bx30 : (12 : Int) ≤ x30.toInt ∧ x30.toInt ≤ 28 := ⟨by rw [qx30]; exact Int.add_le_add zq119 qx29.2.1, by rw [qx30]; exact Int.add_le_add zq120 qx29.2.2⟩
    have wx30 : x30.toInt = 12 + x29.toInt := qx30
    have hF0 := hF0.trans (fl_lt_eq (show x30.toInt = 12 + x29.toInt from qx30))
    refine va_iald hx hb hK hP 2 1 rfl rfl (ai_in bx30.1 bx30.2 (by decide) (by decide)) dX8_minuteOn_31 ?_
    refine lv_topi (fun x31 ex31 => ?_)
    have bx31 : (0 : Int) ≤ x31.toInt ∧ x31.toInt ≤ 20 := by rw [ex31]; exact ai_rd bfa0_15.2.2.2.2.2.2.2.2.1 bx30.1 bx30.2 (by decide) (by decide) (by decide)
    have fqx31 := congrArg Int32.toInt ex31
    have hF0 := hF0.trans (fl_lt_eq (show x31.toInt = (fl_A fa0_15) (x30.toInt.toNat) from fqx31))
    refine lv_iconst (v := 1) hx hb dX8_minuteOn_32 zk_iconst_1 ?_
    refine lv_icmp_ne (tgt := 45) hx hb dX8_minuteOn_33 (by decide) (fun c33 => ?_) (fun c33 => ?_)
    · have gc33 := ai_ne c33
      have hF0 := hF0.trans (if_neg (show ¬ (x31.toInt = 1) from  gc33))
      refine lv_aload_n hx hb dX8_minuteOn_45 rfl (lv_at hl 1 rfl) ?_
      refine va_get (D := (dC, dI)) (ci := 8) (v := .ref a0_15) (C := RX8) (T := TX8) (N := 40) hx hb hts zi_X8_minuteOn_8 hown hK hP 0 rfl rfl 15 (by decide) (hts (.fieldLink RX8 20 "WaxTurnsModel" "\x72" "[I") (zm_X8_minuteOn_r1 (List.mem_of_getElem? (i := 1) rfl))) (fun _ h9 => h9) rfl dX8_minuteOn_46 ?_
      refine lv_bipush (v := 12) hx hb dX8_minuteOn_49 zk_bipush_12 ?_
      refine lv_iconst (v := 2) hx hb dX8_minuteOn_51 zk_iconst_2 ?_
      refine lv_iload_n hx hb dX8_minuteOn_52 rfl (lv_at hl 0 rfl) ?_
      refine lv_imul hx hb dX8_minuteOn_53 ?_
      refine ax_ti x29 ex29.symm ?_
      refine lv_iadd hx hb dX8_minuteOn_54 ?_
      refine ax_ti x30 ex30.symm ?_
      refine va_iald hx hb hK hP 2 1 rfl rfl (ai_in bx30.1 bx30.2 (by decide) (by decide)) dX8_minuteOn_55 ?_
      refine ax_ti x31 ex31.symm ?_
      refine lv_iconst (v := 2) hx hb dX8_minuteOn_56 zk_iconst_2 ?_
      refine lv_icmp_ne (tgt := 66) hx hb dX8_minuteOn_57 (by decide) (fun c57 => ?_) (fun c57 => ?_)
      · have gc57 := ai_ne c57
        have hF0 := hF0.trans (if_neg (show ¬ (x31.toInt = 2) from  gc57))
        refine lv_aload_n hx hb dX8_minuteOn_66 rfl (lv_at hl 1 rfl) ?_
        refine lv_iload_n hx hb dX8_minuteOn_67 rfl (lv_at hl 0 rfl) ?_
        refine va_put (D := (dC, dI)) (ci := 8) (v := .int x3) (ty := .int) (C := RX8) (T := TX8) (N := 40) hx hb hts zi_X8_minuteOn_8 tyX8 tyX8_ok nmX8 hown hK hP hD hS 0 rfl rfl 26 (by decide) (hts (.fieldLink RX8 258 "WaxTurnsModel" "lived" "I") (zm_X8_minuteOn_r1 (List.mem_of_getElem? (i := 2) rfl))) (fun _ h9 => h9) rfl (tyX8_ok 26 (by decide)) rfl rfl (Nat.le_of_ble_eq_true rfl) dX8_minuteOn_68 (fun H locs hP hD hS => ?_)
        refine zs_0 (y := (a0, .inr (8, [a0g_0, a0g_1, a0g_2, a0g_3, a0g_4, a0g_5, a0g_6, a0g_7, a0g_8, a0g_9, a0g_10, a0g_11, a0g_12, a0g_13, a0g_14, Value.ref a0_15, a0g_16, a0g_17, a0g_18, a0g_19, a0g_20, a0g_21, a0g_22, Value.ref a0_23, Value.ref a0_24, Value.int a0_25, Value.int x3, Value.int a0_27, Value.int 0, a0g_29, a0g_30, a0g_31, a0g_32, a0g_33, a0g_34, a0g_35, a0g_36, a0g_37, a0g_38, a0g_39]))) hP hD rfl (fun hP hD => ?_)
        refine lv_aload_n hx hb dX8_minuteOn_71 rfl (lv_at hl 1 rfl) ?_
        refine lv_aload_n hx hb dX8_minuteOn_72 rfl (lv_at hl 2 rfl) ?_
        refine lv_bipush (v := 18) hx hb dX8_minuteOn_73 zk_bipush_18 ?_
        refine va_iald hx hb hK hP 1 0 rfl rfl (by unfold vp_in; decide +kernel) dX8_minuteOn_75 ?_
        refine ax_ti x13 ex13.symm ?_
        refine lv_iload_n hx hb dX8_minuteOn_76 rfl (lv_at hl 0 rfl) ?_
        refine va_calli (va_runS (As := [.int x13, .int x3]) (rest := [.ref a0]) ⟨hx, hb, hml, hown, hts⟩ (f_X8_hasBit l dC dI H.size x13 x3 ) (va_cwS 2 hts gX8_minuteOn_X8_hasBit rfl rfl rfl zd_X8_hasBit.2 ⟨Nat.le_of_ble_eq_true rfl, Nat.le_of_ble_eq_true rfl⟩) ⟨ax_blind (fun _ _ _ _ _ => trivial), ax_pre (zp_P0 hP) (zp_K hK) (zp_D0 hD) (fun _ _ => trivial)⟩ rfl rfl hl.1 rfl (lv_room (Nat.le_of_ble_eq_true rfl)) dX8_minuteOn_77 ⟨Nat.le_of_ble_eq_true rfl, Nat.le_of_ble_eq_true rfl⟩) hS (fun q _ h => zp_F0 hD hS hA q h) (zp_F0 hD hS hA) (fun r77 u t H locs ht hvm hw hB hz1 hk1 hS1 => zo0 hB ht hP hD hk1 (zp_F0 hD hS hA) hS1 (fun hP hK1 hD hS => ?_))
        obtain ⟨hw, hfr77⟩ := hw
        have hc77 : Ff_X8_hasBit x13.toInt x3.toInt = r77.toInt := hfr77.symm
        have hF0 := hF0.trans (fl_lt_eq hc77.symm)
        rcases hw with hw | hw
        · subst hw
          have hF0 := hF0.trans (if_pos (by decide))
          refine lv_if_eq (tgt := 87) hx hb dX8_minuteOn_80 (by decide) (fun c80 => absurd c80 (by decide +kernel)) (fun _ => ?_)
          refine lv_iconst (v := (-1)) hx hb dX8_minuteOn_83 zk_iconst_n1 ?_
          refine lv_goto (tgt := 90) hx hb dX8_minuteOn_84 (by decide) ?_
          refine va_put (D := (dC, dI)) (ci := 8) (v := .int (-1)) (ty := .int) (C := RX8) (T := TX8) (N := 40) hx hb hts zi_X8_minuteOn_8 tyX8 tyX8_ok nmX8 hown hK hP hD hS 0 rfl rfl 27 (by decide) (hts (.fieldLink RX8 261 "WaxTurnsModel" "livedAt" "I") (zm_X8_minuteOn_r1 (List.mem_of_getElem? (i := 3) rfl))) (fun _ h9 => h9) rfl (tyX8_ok 27 (by decide)) rfl rfl (Nat.le_of_ble_eq_true rfl) dX8_minuteOn_90 (fun H locs hP hD hS => ?_)
          refine zs_0 (y := (a0, .inr (8, [a0g_0, a0g_1, a0g_2, a0g_3, a0g_4, a0g_5, a0g_6, a0g_7, a0g_8, a0g_9, a0g_10, a0g_11, a0g_12, a0g_13, a0g_14, Value.ref a0_15, a0g_16, a0g_17, a0g_18, a0g_19, a0g_20, a0g_21, a0g_22, Value.ref a0_23, Value.ref a0_24, Value.int a0_25, Value.int x3, Value.int (-1), Value.int 0, a0g_29, a0g_30, a0g_31, a0g_32, a0g_33, a0g_34, a0g_35, a0g_36, a0g_37, a0g_38, a0g_39]))) hP hD rfl (fun hP hD => ?_)
          refine lv_aload_n hx hb dX8_minuteOn_93 rfl (lv_at hl 2 rfl) ?_
          refine lv_bipush (v := 21) hx hb dX8_minuteOn_94 zk_bipush_21 ?_
          refine lv_dup2_11 hx hb dX8_minuteOn_96 rfl rfl ?_
          refine va_iald hx hb hK hP 1 0 rfl rfl (by unfold vp_in; decide +kernel) dX8_minuteOn_97 ?_
          refine lv_topi (fun x97 ex97 => ?_)
          have fqx97 := congrArg Int32.toInt ex97
          have hF0 := hF0.trans (fl_lt_eq (show x97.toInt = (fl_A fa1) (21) from fqx97))
          refine lv_iconst (v := 1) hx hb dX8_minuteOn_98 zk_iconst_1 ?_
          refine lv_iadd hx hb dX8_minuteOn_99 ?_
          refine lv_topi (fun x99 ex99 => ?_)
          have fqx99 := fl_iadd_eq ex99
          have hF0 := hF0.trans (fl_lt_eq (show x99.toInt = fl_iadd x97.toInt 1 from fqx99))
          refine va_iast hx hb hK hP hD hS 1 0 rfl rfl (by unfold vp_in; decide +kernel) dX8_minuteOn_100 (fun H locs hP hD hS => ?_)
          obtain ⟨f100, ef100⟩ : ∃ g9 : Nat → Int32, g9 = upd fa1 (21 : Int32).toNatClampNeg x99 := ⟨_, rfl⟩
          refine zs_1 (y := (a1, .inl (ka1, 23, .inl (f100)))) hP hD (by rw [ef100]) (fun hP hD => ?_)
          have bf100 : ((∀ k : Nat, 0 ≤ k → k ≤ 8 → (0 : Int) ≤ (f100 k).toInt ∧ (f100 k).toInt ≤ 8) ∧ (∀ k : Nat, 19 ≤ k → k ≤ 19 → (0 : Int) ≤ (f100 k).toInt ∧ (f100 k).toInt ≤ 8) ∧ (∀ k : Nat, 20 ≤ k → k ≤ 20 → (0 : Int) ≤ (f100 k).toInt ∧ (f100 k).toInt ≤ 19)) := by rw [ef100]; exact ⟨ai_updO bfa1.1 _ (Or.inr (ai_ngt_of zq162 (by decide) (by decide))), ai_updO bfa1.2.1 _ (Or.inr (ai_ngt_of zq162 (by decide) (by decide))), ai_updO bfa1.2.2 _ (Or.inr (ai_ngt_of zq162 (by decide) (by decide)))⟩
          have kf100_21 : f100 21 = x99 := by rw [ef100]; exact ai_k1 (by decide +kernel)
          have fqf100 := fl_up_eq ef100
          have hF0 := hF0.trans (fl_lt_eq (show (fl_A f100) = fl_up (fl_A fa1) (21) x99.toInt from fqf100))
          refine lv_aload_n hx hb dX8_minuteOn_101 rfl (lv_at hl 2 rfl) ?_
          refine lv_bipush (v := 20) hx hb dX8_minuteOn_102 zk_bipush_20 ?_
          refine lv_dup2_11 hx hb dX8_minuteOn_104 rfl rfl ?_
          refine va_iald hx hb hK hP 1 0 rfl rfl (by unfold vp_in; decide +kernel) dX8_minuteOn_105 ?_
          refine lv_topi (fun x105 ex105 => ?_)
          have bx105 : (0 : Int) ≤ x105.toInt ∧ x105.toInt ≤ 19 := by rw [ex105]; exact ai_rd bf100.2.2 zq153 zq154 (by decide) (by decide) (by decide)
          have fqx105 := congrArg Int32.toInt ex105
          have hF0 := hF0.trans (fl_lt_eq (show x105.toInt = (fl_A f100) (20) from fqx105))
          refine lv_iconst (v := 1) hx hb dX8_minuteOn_106 zk_iconst_1 ?_
          refine lv_iadd hx hb dX8_minuteOn_107 ?_
          refine lv_topi (fun x107 ex107 => ?_)
          have qx107 : x107.toInt = x105.toInt + (1 : Int32).toInt := ai_add ex107 ⟨bx105.1, bx105.2⟩ ⟨zq1, zq0⟩ (by decide) (by decide)
          have bx107 : (1 : Int) ≤ x107.toInt ∧ x107.toInt ≤ 20 := ⟨by rw [qx107]; exact Int.add_le_add bx105.1 zq1, by rw [qx107]; exact Int.add_le_add bx105.2 zq0⟩
          have wx107 : x107.toInt = x105.toInt + 1 := qx107
          have hF0 := hF0.trans (fl_lt_eq (show x107.toInt = x105.toInt + 1 from qx107))
          refine va_iast hx hb hK hP hD hS 1 0 rfl rfl (by unfold vp_in; decide +kernel) dX8_minuteOn_108 (fun H locs hP hD hS => ?_)
          obtain ⟨f108, ef108⟩ : ∃ g9 : Nat → Int32, g9 = upd f100 (20 : Int32).toNatClampNeg x107 := ⟨_, rfl⟩
          refine zs_1 (y := (a1, .inl (ka1, 23, .inl (f108)))) hP hD (by rw [ef108]) (fun hP hD => ?_)
          have bf108 : ((∀ k : Nat, 0 ≤ k → k ≤ 8 → (0 : Int) ≤ (f108 k).toInt ∧ (f108 k).toInt ≤ 8) ∧ (∀ k : Nat, 19 ≤ k → k ≤ 19 → (0 : Int) ≤ (f108 k).toInt ∧ (f108 k).toInt ≤ 8) ∧ True) := by rw [ef108]; exact ⟨ai_updO bf100.1 _ (Or.inr (ai_ngt_of zq153 (by decide) (by decide))), ai_updO bf100.2.1 _ (Or.inr (ai_ngt_of zq153 (by decide) (by decide))), trivial⟩
          have kf108_20 : f108 20 = x107 := by rw [ef108]; exact ai_k1 (by decide +kernel)
          have kf108_21 : f108 21 = x99 := by rw [ef108]; exact ai_k2 (by decide +kernel) kf100_21
          have fqf108 := fl_up_eq ef108
          have hF0 := hF0.trans (fl_lt_eq (show (fl_A f108) = fl_up (fl_A f100) (20) x107.toInt from fqf108))
          refine lv_aload_n hx hb dX8_minuteOn_109 rfl (lv_at hl 2 rfl) ?_
          refine lv_bipush (v := 20) hx hb dX8_minuteOn_110 zk_bipush_20 ?_
          refine va_iald hx hb hK hP 1 0 rfl rfl (by unfold vp_in; decide +kernel) dX8_minuteOn_112 ?_
          refine ax_ti x107 ((congrArg f108 (by decide +kernel : (20 : Int32).toNatClampNeg = 20)).trans kf108_20) ?_
          refine lv_aload_n hx hb dX8_minuteOn_113 rfl (lv_at hl 1 rfl) ?_
          refine va_get (D := (dC, dI)) (ci := 8) (v := .ref a0_15) (C := RX8) (T := TX8) (N := 40) hx hb hts zi_X8_minuteOn_8 hown hK hP 0 rfl rfl 15 (by decide) (hts (.fieldLink RX8 20 "WaxTurnsModel" "\x72" "[I") (zm_X8_minuteOn_r1 (List.mem_of_getElem? (i := 1) rfl))) (fun _ h9 => h9) rfl dX8_minuteOn_114 ?_
          refine lv_iconst (v := 1) hx hb dX8_minuteOn_117 zk_iconst_1 ?_
          refine va_iald hx hb hK hP 2 1 rfl rfl (by unfold vp_in; decide +kernel) dX8_minuteOn_118 ?_
          refine lv_topi (fun x118 ex118 => ?_)
          have bx118 : (1 : Int) ≤ x118.toInt ∧ x118.toInt ≤ 20 := by rw [ex118]; exact ai_rd bfa0_15.2.1 zq1 zq0 (by decide) (by decide) (by decide)
          have fqx118 := congrArg Int32.toInt ex118
          have hF0 := hF0.trans (fl_lt_eq (show x118.toInt = (fl_A fa0_15) (1) from fqx118))
          refine lv_icmp_ge (tgt := 123) hx hb dX8_minuteOn_119 (by decide) (fun c119 => ?_) (fun c119 => ?_)
          · have gc119 := ai_le c119
            have u119t_x118 : x118.toInt ≤ (20 : Int) := bx118.2
            have l119t_x107 : (1 : Int) ≤ x107.toInt := bx107.1
            have hF0 := hF0.trans (if_pos (show x118.toInt ≤ x107.toInt from gc119))
            refine lv_aload_n hx hb dX8_minuteOn_123 rfl (lv_at hl 2 rfl) ?_
            refine lv_bipush (v := 20) hx hb dX8_minuteOn_124 zk_bipush_20 ?_
            refine lv_iconst (v := 0) hx hb dX8_minuteOn_126 zk_iconst_0 ?_
            refine va_iast hx hb hK hP hD hS 1 0 rfl rfl (by unfold vp_in; decide +kernel) dX8_minuteOn_127 (fun H locs hP hD hS => ?_)
            obtain ⟨f127, ef127⟩ : ∃ g9 : Nat → Int32, g9 = upd f108 (20 : Int32).toNatClampNeg (0 : Int32) := ⟨_, rfl⟩
            refine zs_1 (y := (a1, .inl (ka1, 23, .inl (f127)))) hP hD (by rw [ef127]) (fun hP hD => ?_)
            have bf127 : ((∀ k : Nat, 0 ≤ k → k ≤ 8 → (0 : Int) ≤ (f127 k).toInt ∧ (f127 k).toInt ≤ 8) ∧ (∀ k : Nat, 19 ≤ k → k ≤ 19 → (0 : Int) ≤ (f127 k).toInt ∧ (f127 k).toInt ≤ 8) ∧ (∀ k : Nat, 20 ≤ k → k ≤ 20 → (0 : Int) ≤ (f127 k).toInt ∧ (f127 k).toInt ≤ 19)) := by rw [ef127]; exact ⟨ai_updO bf108.1 _ (Or.inr (ai_ngt_of zq153 (by decide) (by decide))), ai_updO bf108.2.1 _ (Or.inr (ai_ngt_of zq153 (by decide) (by decide))), ai_new (by decide +kernel) ⟨zq5, (Int.le_trans zq6 zq163)⟩⟩
            have kf127_20 : f127 20 = 0 := by rw [ef127]; exact ai_k1 (by decide +kernel)
            have kf127_21 : f127 21 = x99 := by rw [ef127]; exact ai_k2 (by decide +kernel) kf108_21
            have fqf127 := fl_up_eq ef127
            have hF0 := hF0.trans (fl_lt_eq (show (fl_A f127) = fl_up (fl_A f108) (20) 0 from fqf127))
            refine lv_aload_n hx hb dX8_minuteOn_128 rfl (lv_at hl 2 rfl) ?_
            refine lv_bipush (v := 19) hx hb dX8_minuteOn_129 zk_bipush_19 ?_
            refine lv_aload_n hx hb dX8_minuteOn_131 rfl (lv_at hl 1 rfl) ?_
            refine lv_iload_n hx hb dX8_minuteOn_132 rfl (lv_at hl 0 rfl) ?_
            refine zc_cutc (wc := [(a0, .inr (8, [a0g_0, a0g_1, a0g_2, a0g_3, a0g_4, a0g_5, a0g_6, a0g_7, a0g_8, a0g_9, a0g_10, a0g_11, a0g_12, a0g_13, a0g_14, Value.ref a0_15, a0g_16, a0g_17, a0g_18, a0g_19, a0g_20, a0g_21, a0g_22, Value.ref a0_23, Value.ref a0_24, Value.int a0_25, Value.int x3, Value.int (-1), Value.int 0, a0g_29, a0g_30, a0g_31, a0g_32, a0g_33, a0g_34, a0g_35, a0g_36, a0g_37, a0g_38, a0g_39])), (a0_15, .inl (ka0_15, 156, .inl (fa0_15)))]) hP hD hS hA [0, 2] (by decide +kernel) rfl (fun hPc hDc hFc hCc => ?_)
            have hKc := hK.sub (tys' := [(ka0_15, .int)]) [1] rfl
            refine va_calli (va_runV (As := [.int x3]) (rest := [.int 19, .ref a1]) ⟨hx, hb, hml, hown, hts⟩ (f_X8_nextOf l dC dI H.size a0 x3 a0g_0 a0g_1 a0g_2 a0g_3 a0g_4 a0g_5 a0g_6 a0g_7 a0g_8 a0g_9 a0g_10 a0g_11 a0g_12 a0g_13 a0g_14 a0g_16 a0g_17 a0g_18 a0g_19 a0g_20 a0g_21 a0g_22 (Value.ref a0_23) (Value.ref a0_24) (Value.int a0_25) (Value.int x3) (Value.int (-1)) (Value.int 0) a0g_29 a0g_30 a0g_31 a0g_32 a0g_33 a0g_34 a0g_35 a0g_36 a0g_37 a0g_38 a0g_39 a0_15 ka0_15 fa0_15 bx3.1 bx3.2 bfa0_15) (cwV 1 hts gX8_minuteOn_X8_nextOf rfl rfl rfl zd_X8_nextOf ⟨Nat.le_of_ble_eq_true rfl, Nat.le_of_ble_eq_true rfl⟩) ⟨ax_blind (fun _ _ _ _ _ => trivial), zr_8 hKc hPc (q0 := 0) rfl, ax_pre hPc hKc hDc (fun _ _ => trivial)⟩ rfl rfl hl.1 rfl (lv_room (Nat.le_of_ble_eq_true rfl)) dX8_minuteOn_133 ⟨Nat.le_of_ble_eq_true rfl, Nat.le_of_ble_eq_true rfl⟩) hS (fun q _ h => hFc q h) hFc (fun r133 u t H locs ht hvm hw hB hz1 hk1 hS1 => zo hB ht hS1 (fun hP1 hK1 hD1 hS => ?_))
            refine zc_backc (w := [(a0, .inr (8, [a0g_0, a0g_1, a0g_2, a0g_3, a0g_4, a0g_5, a0g_6, a0g_7, a0g_8, a0g_9, a0g_10, a0g_11, a0g_12, a0g_13, a0g_14, Value.ref a0_15, a0g_16, a0g_17, a0g_18, a0g_19, a0g_20, a0g_21, a0g_22, Value.ref a0_23, Value.ref a0_24, Value.int a0_25, Value.int x3, Value.int (-1), Value.int 0, a0g_29, a0g_30, a0g_31, a0g_32, a0g_33, a0g_34, a0g_35, a0g_36, a0g_37, a0g_38, a0g_39])), (a1, .inl (ka1, 23, .inl (f127))), (a0_15, .inl (ka0_15, 156, .inl (fa0_15))), (a0_24, .inl (ka0_24, 3, .inl (fa0_24))), (a0_23, .inl (ka0_23, 3, .inl (fa0_23)))]) hP hD hCc hk1 hFc hP1 hD1 [.inr 0, .inl 1, .inr 1, .inl 3, .inl 4] (by decide +kernel) rfl (fun hP hD => ?_)
            obtain ⟨hw, hfr133⟩ := hw
            have hc133 : Ff_X8_nextOf x3.toInt (fl_A fa0_15) = r133.toInt := hfr133.symm
            have hF0 := hF0.trans (fl_lt_eq hc133.symm)
            have hw : (0 : Int) ≤ r133.toInt ∧ r133.toInt ≤ (8 : Int) := hw
            obtain ⟨h133_0, h133_1⟩ := hw
            refine va_iast hx hb hK hP hD hS 1 0 rfl rfl (by unfold vp_in; decide +kernel) dX8_minuteOn_136 (fun H locs hP hD hS => ?_)
            obtain ⟨f136, ef136⟩ : ∃ g9 : Nat → Int32, g9 = upd f127 (19 : Int32).toNatClampNeg r133 := ⟨_, rfl⟩
            refine zs_1 (y := (a1, .inl (ka1, 23, .inl (f136)))) hP hD (by rw [ef136]) (fun hP hD => ?_)
            have bf136 : ((∀ k : Nat, 0 ≤ k → k ≤ 8 → (0 : Int) ≤ (f136 k).toInt ∧ (f136 k).toInt ≤ 8) ∧ (∀ k : Nat, 19 ≤ k → k ≤ 19 → (0 : Int) ≤ (f136 k).toInt ∧ (f136 k).toInt ≤ 8) ∧ (∀ k : Nat, 20 ≤ k → k ≤ 20 → (0 : Int) ≤ (f136 k).toInt ∧ (f136 k).toInt ≤ 19)) := by rw [ef136]; exact ⟨ai_updO bf127.1 _ (Or.inr (ai_ngt_of zq160 (by decide) (by decide))), ai_updS bf127.2.1 _ ⟨h133_0, h133_1⟩, ai_updO bf127.2.2 _ (Or.inl (ai_nlt_of zq160 zq161 (by decide) (by decide)))⟩
            have kf136_19 : f136 19 = r133 := by rw [ef136]; exact ai_k1 (by decide +kernel)
            have kf136_20 : f136 20 = 0 := by rw [ef136]; exact ai_k2 (by decide +kernel) kf127_20
            have kf136_21 : f136 21 = x99 := by rw [ef136]; exact ai_k2 (by decide +kernel) kf127_21
            have fqf136 := fl_up_eq ef136
            have hF0 := hF0.trans (fl_lt_eq (show (fl_A f136) = fl_up (fl_A f127) (19) r133.toInt from fqf136))
            have hFe : FX = (x3.toInt, (-1), 0, (fl_A f136)) := hF0
            exact W.vret hx hb hr (fun t ht hW => ⟨⟨(), rfl, trivial, x3, (-1), 0, f136, bf136, hFe, by rw [ht]; exact hP, va_K.moved hW.alike hK, hD⟩, hS.F ht⟩) hS.2.2 dX8_minuteOn_137
          · have gc119 := ai_nle c119
            have u119f_x107 : x107.toInt ≤ (19 : Int) := ai_lthi gc119 bx118.2
            have u119f_x105 : x105.toInt ≤ (18 : Int) := by have h1 := wx107; have h2 := u119f_x107; omega
            have l119f_x118 : (2 : Int) ≤ x118.toInt := ai_ltlo gc119 bx107.1
            have hF0 := hF0.trans (if_neg (show ¬ (x118.toInt ≤ x107.toInt) from Int.not_le.mpr gc119))
            have hFe : FX = (x3.toInt, (-1), 0, (fl_A f108)) := hF0
            exact W.vret hx hb hr (fun t ht hW => ⟨⟨(), rfl, trivial, x3, (-1), 0, f108, ⟨bf108.1, bf108.2.1, ai_one (by rw [kf108_20]; exact ⟨(Int.le_trans zq4 bx107.1), u119f_x107⟩)⟩, hFe, by rw [ht]; exact hP, va_K.moved hW.alike hK, hD⟩, hS.F ht⟩) hS.2.2 dX8_minuteOn_122
        · subst hw
          have hF0 := hF0.trans (if_neg (by decide))
          refine lv_if_eq (tgt := 87) hx hb dX8_minuteOn_80 (by decide) (fun _ => ?_) (fun c80 => absurd (by decide +kernel) c80)
          refine lv_aload_n hx hb dX8_minuteOn_87 rfl (lv_at hl 2 rfl) ?_
          refine lv_iload_n hx hb dX8_minuteOn_88 rfl (lv_at hl 0 rfl) ?_
          refine va_iald hx hb hK hP 1 0 rfl rfl (ai_in bx3.1 bx3.2 (by decide) (by decide)) dX8_minuteOn_89 ?_
          refine lv_topi (fun x89 ex89 => ?_)
          have bx89 : (0 : Int) ≤ x89.toInt ∧ x89.toInt ≤ 8 := by rw [ex89]; exact ai_rd bfa1.1 bx3.1 bx3.2 (by decide) (by decide) (by decide)
          have fqx89 := congrArg Int32.toInt ex89
          have hF0 := hF0.trans (fl_lt_eq (show x89.toInt = (fl_A fa1) (x3.toInt.toNat) from fqx89))
          refine va_put (D := (dC, dI)) (ci := 8) (v := .int x89) (ty := .int) (C := RX8) (T := TX8) (N := 40) hx hb hts zi_X8_minuteOn_8 tyX8 tyX8_ok nmX8 hown hK hP hD hS 0 rfl rfl 27 (by decide) (hts (.fieldLink RX8 261 "WaxTurnsModel" "livedAt" "I") (zm_X8_minuteOn_r1 (List.mem_of_getElem? (i := 3) rfl))) (fun _ h9 => h9) rfl (tyX8_ok 27 (by decide)) rfl rfl (Nat.le_of_ble_eq_true rfl) dX8_minuteOn_90 (fun H locs hP hD hS => ?_)
          refine zs_0 (y := (a0, .inr (8, [a0g_0, a0g_1, a0g_2, a0g_3, a0g_4, a0g_5, a0g_6, a0g_7, a0g_8, a0g_9, a0g_10, a0g_11, a0g_12, a0g_13, a0g_14, Value.ref a0_15, a0g_16, a0g_17, a0g_18, a0g_19, a0g_20, a0g_21, a0g_22, Value.ref a0_23, Value.ref a0_24, Value.int a0_25, Value.int x3, Value.int x89, Value.int 0, a0g_29, a0g_30, a0g_31, a0g_32, a0g_33, a0g_34, a0g_35, a0g_36, a0g_37, a0g_38, a0g_39]))) hP hD rfl (fun hP hD => ?_)
          refine lv_aload_n hx hb dX8_minuteOn_93 rfl (lv_at hl 2 rfl) ?_
          refine lv_bipush (v := 21) hx hb dX8_minuteOn_94 zk_bipush_21 ?_
          refine lv_dup2_11 hx hb dX8_minuteOn_96 rfl rfl ?_
          refine va_iald hx hb hK hP 1 0 rfl rfl (by unfold vp_in; decide +kernel) dX8_minuteOn_97 ?_
          refine lv_topi (fun x97 ex97 => ?_)
          have fqx97 := congrArg Int32.toInt ex97
          have hF0 := hF0.trans (fl_lt_eq (show x97.toInt = (fl_A fa1) (21) from fqx97))
          refine lv_iconst (v := 1) hx hb dX8_minuteOn_98 zk_iconst_1 ?_
          refine lv_iadd hx hb dX8_minuteOn_99 ?_
          refine lv_topi (fun x99 ex99 => ?_)
          have fqx99 := fl_iadd_eq ex99
          have hF0 := hF0.trans (fl_lt_eq (show x99.toInt = fl_iadd x97.toInt 1 from fqx99))
          refine va_iast hx hb hK hP hD hS 1 0 rfl rfl (by unfold vp_in; decide +kernel) dX8_minuteOn_100 (fun H locs hP hD hS => ?_)
          obtain ⟨f100, ef100⟩ : ∃ g9 : Nat → Int32, g9 = upd fa1 (21 : Int32).toNatClampNeg x99 := ⟨_, rfl⟩
          refine zs_1 (y := (a1, .inl (ka1, 23, .inl (f100)))) hP hD (by rw [ef100]) (fun hP hD => ?_)
          have bf100 : ((∀ k : Nat, 0 ≤ k → k ≤ 8 → (0 : Int) ≤ (f100 k).toInt ∧ (f100 k).toInt ≤ 8) ∧ (∀ k : Nat, 19 ≤ k → k ≤ 19 → (0 : Int) ≤ (f100 k).toInt ∧ (f100 k).toInt ≤ 8) ∧ (∀ k : Nat, 20 ≤ k → k ≤ 20 → (0 : Int) ≤ (f100 k).toInt ∧ (f100 k).toInt ≤ 19)) := by rw [ef100]; exact ⟨ai_updO bfa1.1 _ (Or.inr (ai_ngt_of zq162 (by decide) (by decide))), ai_updO bfa1.2.1 _ (Or.inr (ai_ngt_of zq162 (by decide) (by decide))), ai_updO bfa1.2.2 _ (Or.inr (ai_ngt_of zq162 (by decide) (by decide)))⟩
          have kf100_21 : f100 21 = x99 := by rw [ef100]; exact ai_k1 (by decide +kernel)
          have fqf100 := fl_up_eq ef100
          have hF0 := hF0.trans (fl_lt_eq (show (fl_A f100) = fl_up (fl_A fa1) (21) x99.toInt from fqf100))
          refine lv_aload_n hx hb dX8_minuteOn_101 rfl (lv_at hl 2 rfl) ?_
          refine lv_bipush (v := 20) hx hb dX8_minuteOn_102 zk_bipush_20 ?_
          refine lv_dup2_11 hx hb dX8_minuteOn_104 rfl rfl ?_
          refine va_iald hx hb hK hP 1 0 rfl rfl (by unfold vp_in; decide +kernel) dX8_minuteOn_105 ?_
          refine lv_topi (fun x105 ex105 => ?_)
          have bx105 : (0 : Int) ≤ x105.toInt ∧ x105.toInt ≤ 19 := by rw [ex105]; exact ai_rd bf100.2.2 zq153 zq154 (by decide) (by decide) (by decide)
          have fqx105 := congrArg Int32.toInt ex105
          have hF0 := hF0.trans (fl_lt_eq (show x105.toInt = (fl_A f100) (20) from fqx105))
          refine lv_iconst (v := 1) hx hb dX8_minuteOn_106 zk_iconst_1 ?_
          refine lv_iadd hx hb dX8_minuteOn_107 ?_
          refine lv_topi (fun x107 ex107 => ?_)
          have qx107 : x107.toInt = x105.toInt + (1 : Int32).toInt := ai_add ex107 ⟨bx105.1, bx105.2⟩ ⟨zq1, zq0⟩ (by decide) (by decide)
          have bx107 : (1 : Int) ≤ x107.toInt ∧ x107.toInt ≤ 20 := ⟨by rw [qx107]; exact Int.add_le_add bx105.1 zq1, by rw [qx107]; exact Int.add_le_add bx105.2 zq0⟩
          have wx107 : x107.toInt = x105.toInt + 1 := qx107
          have hF0 := hF0.trans (fl_lt_eq (show x107.toInt = x105.toInt + 1 from qx107))
          refine va_iast hx hb hK hP hD hS 1 0 rfl rfl (by unfold vp_in; decide +kernel) dX8_minuteOn_108 (fun H locs hP hD hS => ?_)
          obtain ⟨f108, ef108⟩ : ∃ g9 : Nat → Int32, g9 = upd f100 (20 : Int32).toNatClampNeg x107 := ⟨_, rfl⟩
          refine zs_1 (y := (a1, .inl (ka1, 23, .inl (f108)))) hP hD (by rw [ef108]) (fun hP hD => ?_)
          have bf108 : ((∀ k : Nat, 0 ≤ k → k ≤ 8 → (0 : Int) ≤ (f108 k).toInt ∧ (f108 k).toInt ≤ 8) ∧ (∀ k : Nat, 19 ≤ k → k ≤ 19 → (0 : Int) ≤ (f108 k).toInt ∧ (f108 k).toInt ≤ 8) ∧ True) := by rw [ef108]; exact ⟨ai_updO bf100.1 _ (Or.inr (ai_ngt_of zq153 (by decide) (by decide))), ai_updO bf100.2.1 _ (Or.inr (ai_ngt_of zq153 (by decide) (by decide))), trivial⟩
          have kf108_20 : f108 20 = x107 := by rw [ef108]; exact ai_k1 (by decide +kernel)
          have kf108_21 : f108 21 = x99 := by rw [ef108]; exact ai_k2 (by decide +kernel) kf100_21
          have fqf108 := fl_up_eq ef108
          have hF0 := hF0.trans (fl_lt_eq (show (fl_A f108) = fl_up (fl_A f100) (20) x107.toInt from fqf108))
          refine lv_aload_n hx hb dX8_minuteOn_109 rfl (lv_at hl 2 rfl) ?_
          refine lv_bipush (v := 20) hx hb dX8_minuteOn_110 zk_bipush_20 ?_
          refine va_iald hx hb hK hP 1 0 rfl rfl (by unfold vp_in; decide +kernel) dX8_minuteOn_112 ?_
          refine ax_ti x107 ((congrArg f108 (by decide +kernel : (20 : Int32).toNatClampNeg = 20)).trans kf108_20) ?_
          refine lv_aload_n hx hb dX8_minuteOn_113 rfl (lv_at hl 1 rfl) ?_
          refine va_get (D := (dC, dI)) (ci := 8) (v := .ref a0_15) (C := RX8) (T := TX8) (N := 40) hx hb hts zi_X8_minuteOn_8 hown hK hP 0 rfl rfl 15 (by decide) (hts (.fieldLink RX8 20 "WaxTurnsModel" "\x72" "[I") (zm_X8_minuteOn_r1 (List.mem_of_getElem? (i := 1) rfl))) (fun _ h9 => h9) rfl dX8_minuteOn_114 ?_
          refine lv_iconst (v := 1) hx hb dX8_minuteOn_117 zk_iconst_1 ?_
          refine va_iald hx hb hK hP 2 1 rfl rfl (by unfold vp_in; decide +kernel) dX8_minuteOn_118 ?_
          refine lv_topi (fun x118 ex118 => ?_)
          have bx118 : (1 : Int) ≤ x118.toInt ∧ x118.toInt ≤ 20 := by rw [ex118]; exact ai_rd bfa0_15.2.1 zq1 zq0 (by decide) (by decide) (by decide)
          have fqx118 := congrArg Int32.toInt ex118
          have hF0 := hF0.trans (fl_lt_eq (show x118.toInt = (fl_A fa0_15) (1) from fqx118))
          refine lv_icmp_ge (tgt := 123) hx hb dX8_minuteOn_119 (by decide) (fun c119 => ?_) (fun c119 => ?_)
          · have gc119 := ai_le c119
            have u119t_x118 : x118.toInt ≤ (20 : Int) := bx118.2
            have l119t_x107 : (1 : Int) ≤ x107.toInt := bx107.1
            have hF0 := hF0.trans (if_pos (show x118.toInt ≤ x107.toInt from gc119))
            refine lv_aload_n hx hb dX8_minuteOn_123 rfl (lv_at hl 2 rfl) ?_
            refine lv_bipush (v := 20) hx hb dX8_minuteOn_124 zk_bipush_20 ?_
            refine lv_iconst (v := 0) hx hb dX8_minuteOn_126 zk_iconst_0 ?_
            refine va_iast hx hb hK hP hD hS 1 0 rfl rfl (by unfold vp_in; decide +kernel) dX8_minuteOn_127 (fun H locs hP hD hS => ?_)
            obtain ⟨f127, ef127⟩ : ∃ g9 : Nat → Int32, g9 = upd f108 (20 : Int32).toNatClampNeg (0 : Int32) := ⟨_, rfl⟩
            refine zs_1 (y := (a1, .inl (ka1, 23, .inl (f127)))) hP hD (by rw [ef127]) (fun hP hD => ?_)
            have bf127 : ((∀ k : Nat, 0 ≤ k → k ≤ 8 → (0 : Int) ≤ (f127 k).toInt ∧ (f127 k).toInt ≤ 8) ∧ (∀ k : Nat, 19 ≤ k → k ≤ 19 → (0 : Int) ≤ (f127 k).toInt ∧ (f127 k).toInt ≤ 8) ∧ (∀ k : Nat, 20 ≤ k → k ≤ 20 → (0 : Int) ≤ (f127 k).toInt ∧ (f127 k).toInt ≤ 19)) := by rw [ef127]; exact ⟨ai_updO bf108.1 _ (Or.inr (ai_ngt_of zq153 (by decide) (by decide))), ai_updO bf108.2.1 _ (Or.inr (ai_ngt_of zq153 (by decide) (by decide))), ai_new (by decide +kernel) ⟨zq5, (Int.le_trans zq6 zq163)⟩⟩
            have kf127_20 : f127 20 = 0 := by rw [ef127]; exact ai_k1 (by decide +kernel)
            have kf127_21 : f127 21 = x99 := by rw [ef127]; exact ai_k2 (by decide +kernel) kf108_21
            have fqf127 := fl_up_eq ef127
            have hF0 := hF0.trans (fl_lt_eq (show (fl_A f127) = fl_up (fl_A f108) (20) 0 from fqf127))
            refine lv_aload_n hx hb dX8_minuteOn_128 rfl (lv_at hl 2 rfl) ?_
            refine lv_bipush (v := 19) hx hb dX8_minuteOn_129 zk_bipush_19 ?_
            refine lv_aload_n hx hb dX8_minuteOn_131 rfl (lv_at hl 1 rfl) ?_
            refine lv_iload_n hx hb dX8_minuteOn_132 rfl (lv_at hl 0 rfl) ?_
            refine zc_cutc (wc := [(a0, .inr (8, [a0g_0, a0g_1, a0g_2, a0g_3, a0g_4, a0g_5, a0g_6, a0g_7, a0g_8, a0g_9, a0g_10, a0g_11, a0g_12, a0g_13, a0g_14, Value.ref a0_15, a0g_16, a0g_17, a0g_18, a0g_19, a0g_20, a0g_21, a0g_22, Value.ref a0_23, Value.ref a0_24, Value.int a0_25, Value.int x3, Value.int x89, Value.int 0, a0g_29, a0g_30, a0g_31, a0g_32, a0g_33, a0g_34, a0g_35, a0g_36, a0g_37, a0g_38, a0g_39])), (a0_15, .inl (ka0_15, 156, .inl (fa0_15)))]) hP hD hS hA [0, 2] (by decide +kernel) rfl (fun hPc hDc hFc hCc => ?_)
            have hKc := hK.sub (tys' := [(ka0_15, .int)]) [1] rfl
            refine va_calli (va_runV (As := [.int x3]) (rest := [.int 19, .ref a1]) ⟨hx, hb, hml, hown, hts⟩ (f_X8_nextOf l dC dI H.size a0 x3 a0g_0 a0g_1 a0g_2 a0g_3 a0g_4 a0g_5 a0g_6 a0g_7 a0g_8 a0g_9 a0g_10 a0g_11 a0g_12 a0g_13 a0g_14 a0g_16 a0g_17 a0g_18 a0g_19 a0g_20 a0g_21 a0g_22 (Value.ref a0_23) (Value.ref a0_24) (Value.int a0_25) (Value.int x3) (Value.int x89) (Value.int 0) a0g_29 a0g_30 a0g_31 a0g_32 a0g_33 a0g_34 a0g_35 a0g_36 a0g_37 a0g_38 a0g_39 a0_15 ka0_15 fa0_15 bx3.1 bx3.2 bfa0_15) (cwV 1 hts gX8_minuteOn_X8_nextOf rfl rfl rfl zd_X8_nextOf ⟨Nat.le_of_ble_eq_true rfl, Nat.le_of_ble_eq_true rfl⟩) ⟨ax_blind (fun _ _ _ _ _ => trivial), zr_8 hKc hPc (q0 := 0) rfl, ax_pre hPc hKc hDc (fun _ _ => trivial)⟩ rfl rfl hl.1 rfl (lv_room (Nat.le_of_ble_eq_true rfl)) dX8_minuteOn_133 ⟨Nat.le_of_ble_eq_true rfl, Nat.le_of_ble_eq_true rfl⟩) hS (fun q _ h => hFc q h) hFc (fun r133 u t H locs ht hvm hw hB hz1 hk1 hS1 => zo hB ht hS1 (fun hP1 hK1 hD1 hS => ?_))
            refine zc_backc (w := [(a0, .inr (8, [a0g_0, a0g_1, a0g_2, a0g_3, a0g_4, a0g_5, a0g_6, a0g_7, a0g_8, a0g_9, a0g_10, a0g_11, a0g_12, a0g_13, a0g_14, Value.ref a0_15, a0g_16, a0g_17, a0g_18, a0g_19, a0g_20, a0g_21, a0g_22, Value.ref a0_23, Value.ref a0_24, Value.int a0_25, Value.int x3, Value.int x89, Value.int 0, a0g_29, a0g_30, a0g_31, a0g_32, a0g_33, a0g_34, a0g_35, a0g_36, a0g_37, a0g_38, a0g_39])), (a1, .inl (ka1, 23, .inl (f127))), (a0_15, .inl (ka0_15, 156, .inl (fa0_15))), (a0_24, .inl (ka0_24, 3, .inl (fa0_24))), (a0_23, .inl (ka0_23, 3, .inl (fa0_23)))]) hP hD hCc hk1 hFc hP1 hD1 [.inr 0, .inl 1, .inr 1, .inl 3, .inl 4] (by decide +kernel) rfl (fun hP hD => ?_)
            obtain ⟨hw, hfr133⟩ := hw
            have hc133 : Ff_X8_nextOf x3.toInt (fl_A fa0_15) = r133.toInt := hfr133.symm
            have hF0 := hF0.trans (fl_lt_eq hc133.symm)
            have hw : (0 : Int) ≤ r133.toInt ∧ r133.toInt ≤ (8 : Int) := hw
            obtain ⟨h133_0, h133_1⟩ := hw
            refine va_iast hx hb hK hP hD hS 1 0 rfl rfl (by unfold vp_in; decide +kernel) dX8_minuteOn_136 (fun H locs hP hD hS => ?_)
            obtain ⟨f136, ef136⟩ : ∃ g9 : Nat → Int32, g9 = upd f127 (19 : Int32).toNatClampNeg r133 := ⟨_, rfl⟩
            refine zs_1 (y := (a1, .inl (ka1, 23, .inl (f136)))) hP hD (by rw [ef136]) (fun hP hD => ?_)
            have bf136 : ((∀ k : Nat, 0 ≤ k → k ≤ 8 → (0 : Int) ≤ (f136 k).toInt ∧ (f136 k).toInt ≤ 8) ∧ (∀ k : Nat, 19 ≤ k → k ≤ 19 → (0 : Int) ≤ (f136 k).toInt ∧ (f136 k).toInt ≤ 8) ∧ (∀ k : Nat, 20 ≤ k → k ≤ 20 → (0 : Int) ≤ (f136 k).toInt ∧ (f136 k).toInt ≤ 19)) := by rw [ef136]; exact ⟨ai_updO bf127.1 _ (Or.inr (ai_ngt_of zq160 (by decide) (by decide))), ai_updS bf127.2.1 _ ⟨h133_0, h133_1⟩, ai_updO bf127.2.2 _ (Or.inl (ai_nlt_of zq160 zq161 (by decide) (by decide)))⟩
            have kf136_19 : f136 19 = r133 := by rw [ef136]; exact ai_k1 (by decide +kernel)
            have kf136_20 : f136 20 = 0 := by rw [ef136]; exact ai_k2 (by decide +kernel) kf127_20
            have kf136_21 : f136 21 = x99 := by rw [ef136]; exact ai_k2 (by decide +kernel) kf127_21
            have fqf136 := fl_up_eq ef136
            have hF0 := hF0.trans (fl_lt_eq (show (fl_A f136) = fl_up (fl_A f127) (19) r133.toInt from fqf136))
            have hFe : FX = (x3.toInt, x89.toInt, 0, (fl_A f136)) := hF0
            exact W.vret hx hb hr (fun t ht hW => ⟨⟨(), rfl, trivial, x3, x89, 0, f136, bf136, hFe, by rw [ht]; exact hP, va_K.moved hW.alike hK, hD⟩, hS.F ht⟩) hS.2.2 dX8_minuteOn_137
          · have gc119 := ai_nle c119
            have u119f_x107 : x107.toInt ≤ (19 : Int) := ai_lthi gc119 bx118.2
            have u119f_x105 : x105.toInt ≤ (18 : Int) := by have h1 := wx107; have h2 := u119f_x107; omega
            have l119f_x118 : (2 : Int) ≤ x118.toInt := ai_ltlo gc119 bx107.1
            have hF0 := hF0.trans (if_neg (show ¬ (x118.toInt ≤ x107.toInt) from Int.not_le.mpr gc119))
            have hFe : FX = (x3.toInt, x89.toInt, 0, (fl_A f108)) := hF0
            exact W.vret hx hb hr (fun t ht hW => ⟨⟨(), rfl, trivial, x3, x89, 0, f108, ⟨bf108.1, bf108.2.1, ai_one (by rw [kf108_20]; exact ⟨(Int.le_trans zq4 bx107.1), u119f_x107⟩)⟩, hFe, by rw [ht]; exact hP, va_K.moved hW.alike hK, hD⟩, hS.F ht⟩) hS.2.2 dX8_minuteOn_122
      · have gc57 := ai_eq c57
        have u57f_x31 : x31.toInt ≤ (2 : Int) := Int.le_trans (Int.le_of_eq gc57) zq13
        have l57f_x31 : (2 : Int) ≤ x31.toInt := Int.le_trans zq12 (Int.le_of_eq gc57.symm)
        have hF0 := hF0.trans (if_pos (show x31.toInt = 2 from gc57))
        refine lv_aload_n hx hb dX8_minuteOn_60 rfl (lv_at hl 1 rfl) ?_
        refine lv_aload_n hx hb dX8_minuteOn_61 rfl (lv_at hl 2 rfl) ?_
        refine lv_iload_n hx hb dX8_minuteOn_62 rfl (lv_at hl 0 rfl) ?_
        have hKc := hK.sub (tys' := [(ka1, .int), (ka0_15, .int), (ka0_24, .int), (ka0_23, .int)]) [0, 1, 2, 3] rfl
        refine va_callv (va_runV (As := [.ref a1, .int x3]) (rest := []) ⟨hx, hb, hml, hown, hts⟩ (f_X8_speakOn l dC dI H.size a0 a1 x3 a0g_0 a0g_1 a0g_2 a0g_3 a0g_4 a0g_5 a0g_6 a0g_7 a0g_8 a0g_9 a0g_10 a0g_11 a0g_12 a0g_13 a0g_14 a0g_16 a0g_17 a0g_18 a0g_19 a0g_20 a0g_21 a0g_22 (Value.int a0_26) (Value.int a0_27) a0g_29 a0g_30 a0g_31 a0g_32 a0g_33 a0g_34 a0g_35 a0g_36 a0g_37 a0g_38 a0g_39 a0_15 a0_23 a0_24 a0_25 0 ka1 fa1 ka0_15 fa0_15 ka0_24 fa0_24 ka0_23 fa0_23 bx3.1 bx3.2 bfa1 bfa0_15 bfa0_24 bfa0_23) (cwV 2 hts gX8_minuteOn_X8_speakOn rfl rfl rfl zd_X8_speakOn ⟨Nat.le_of_ble_eq_true rfl, Nat.le_of_ble_eq_true rfl⟩) ⟨ax_blind (fun _ _ _ _ _ => trivial), zr_8 hKc (zp_P5 hP) (q0 := 0) rfl, ax_pre (zp_P5 hP) hKc (zp_D5 hD) (fun _ _ => trivial)⟩ rfl rfl hl.1 rfl (lv_room (Nat.le_of_ble_eq_true rfl)) dX8_minuteOn_63 ⟨Nat.le_of_ble_eq_true rfl, Nat.le_of_ble_eq_true rfl⟩) hS (fun q _ h => zp_F5 hD hS hA q h) (zp_F5 hD hS hA) (fun u t H locs ht hvm hw => zx_2 (fun v63na0_28 v63nfa1 => zy_2 (fun bv63nfa1 hraw63_0 hB hz1 hk1 hS1 => zo5 hB ht hP hD hk1 (zp_F5 hD hS hA) hS1 (fun hP hK1 hD hS => ?_))))
        rw [show (0 : Int32).toInt = 0 from by decide] at hraw63_0
        have hc63 : Ff_X8_speakOn x3.toInt a0_25.toInt 0 (fl_A fa1) (fl_A fa0_15) (fl_A fa0_24) (fl_A fa0_23) = (v63na0_28.toInt, (fl_A v63nfa1)) := hraw63_0
        have hF0 := hF0.trans (fl_c2_eq hc63)
        refine lv_aload_n hx hb dX8_minuteOn_66 rfl (lv_at hl 1 rfl) ?_
        refine lv_iload_n hx hb dX8_minuteOn_67 rfl (lv_at hl 0 rfl) ?_
        refine va_put (D := (dC, dI)) (ci := 8) (v := .int x3) (ty := .int) (C := RX8) (T := TX8) (N := 40) hx hb hts zi_X8_minuteOn_8 tyX8 tyX8_ok nmX8 hown hK hP hD hS 0 rfl rfl 26 (by decide) (hts (.fieldLink RX8 258 "WaxTurnsModel" "lived" "I") (zm_X8_minuteOn_r1 (List.mem_of_getElem? (i := 2) rfl))) (fun _ h9 => h9) rfl (tyX8_ok 26 (by decide)) rfl rfl (Nat.le_of_ble_eq_true rfl) dX8_minuteOn_68 (fun H locs hP hD hS => ?_)
        refine zs_0 (y := (a0, .inr (8, [a0g_0, a0g_1, a0g_2, a0g_3, a0g_4, a0g_5, a0g_6, a0g_7, a0g_8, a0g_9, a0g_10, a0g_11, a0g_12, a0g_13, a0g_14, Value.ref a0_15, a0g_16, a0g_17, a0g_18, a0g_19, a0g_20, a0g_21, a0g_22, Value.ref a0_23, Value.ref a0_24, Value.int a0_25, Value.int x3, Value.int a0_27, Value.int v63na0_28, a0g_29, a0g_30, a0g_31, a0g_32, a0g_33, a0g_34, a0g_35, a0g_36, a0g_37, a0g_38, a0g_39]))) hP hD rfl (fun hP hD => ?_)
        refine lv_aload_n hx hb dX8_minuteOn_71 rfl (lv_at hl 1 rfl) ?_
        refine lv_aload_n hx hb dX8_minuteOn_72 rfl (lv_at hl 2 rfl) ?_
        refine lv_bipush (v := 18) hx hb dX8_minuteOn_73 zk_bipush_18 ?_
        refine va_iald hx hb hK hP 1 0 rfl rfl (by unfold vp_in; decide +kernel) dX8_minuteOn_75 ?_
        refine lv_topi (fun x75 ex75 => ?_)
        have fqx75 := congrArg Int32.toInt ex75
        have hF0 := hF0.trans (fl_lt_eq (show x75.toInt = (fl_A v63nfa1) (18) from fqx75))
        refine lv_iload_n hx hb dX8_minuteOn_76 rfl (lv_at hl 0 rfl) ?_
        refine va_calli (va_runS (As := [.int x75, .int x3]) (rest := [.ref a0]) ⟨hx, hb, hml, hown, hts⟩ (f_X8_hasBit l dC dI H.size x75 x3 ) (va_cwS 2 hts gX8_minuteOn_X8_hasBit rfl rfl rfl zd_X8_hasBit.2 ⟨Nat.le_of_ble_eq_true rfl, Nat.le_of_ble_eq_true rfl⟩) ⟨ax_blind (fun _ _ _ _ _ => trivial), ax_pre (zp_P0 hP) (zp_K hK) (zp_D0 hD) (fun _ _ => trivial)⟩ rfl rfl hl.1 rfl (lv_room (Nat.le_of_ble_eq_true rfl)) dX8_minuteOn_77 ⟨Nat.le_of_ble_eq_true rfl, Nat.le_of_ble_eq_true rfl⟩) hS (fun q _ h => zp_F0 hD hS hA q h) (zp_F0 hD hS hA) (fun r77 u t H locs ht hvm hw hB hz1 hk1 hS1 => zo0 hB ht hP hD hk1 (zp_F0 hD hS hA) hS1 (fun hP hK1 hD hS => ?_))
        obtain ⟨hw, hfr77⟩ := hw
        have hc77 : Ff_X8_hasBit x75.toInt x3.toInt = r77.toInt := hfr77.symm
        have hF0 := hF0.trans (fl_lt_eq hc77.symm)
        rcases hw with hw | hw
        · subst hw
          have hF0 := hF0.trans (if_pos (by decide))
          refine lv_if_eq (tgt := 87) hx hb dX8_minuteOn_80 (by decide) (fun c80 => absurd c80 (by decide +kernel)) (fun _ => ?_)
          refine lv_iconst (v := (-1)) hx hb dX8_minuteOn_83 zk_iconst_n1 ?_
          refine lv_goto (tgt := 90) hx hb dX8_minuteOn_84 (by decide) ?_
          refine va_put (D := (dC, dI)) (ci := 8) (v := .int (-1)) (ty := .int) (C := RX8) (T := TX8) (N := 40) hx hb hts zi_X8_minuteOn_8 tyX8 tyX8_ok nmX8 hown hK hP hD hS 0 rfl rfl 27 (by decide) (hts (.fieldLink RX8 261 "WaxTurnsModel" "livedAt" "I") (zm_X8_minuteOn_r1 (List.mem_of_getElem? (i := 3) rfl))) (fun _ h9 => h9) rfl (tyX8_ok 27 (by decide)) rfl rfl (Nat.le_of_ble_eq_true rfl) dX8_minuteOn_90 (fun H locs hP hD hS => ?_)
          refine zs_0 (y := (a0, .inr (8, [a0g_0, a0g_1, a0g_2, a0g_3, a0g_4, a0g_5, a0g_6, a0g_7, a0g_8, a0g_9, a0g_10, a0g_11, a0g_12, a0g_13, a0g_14, Value.ref a0_15, a0g_16, a0g_17, a0g_18, a0g_19, a0g_20, a0g_21, a0g_22, Value.ref a0_23, Value.ref a0_24, Value.int a0_25, Value.int x3, Value.int (-1), Value.int v63na0_28, a0g_29, a0g_30, a0g_31, a0g_32, a0g_33, a0g_34, a0g_35, a0g_36, a0g_37, a0g_38, a0g_39]))) hP hD rfl (fun hP hD => ?_)
          refine lv_aload_n hx hb dX8_minuteOn_93 rfl (lv_at hl 2 rfl) ?_
          refine lv_bipush (v := 21) hx hb dX8_minuteOn_94 zk_bipush_21 ?_
          refine lv_dup2_11 hx hb dX8_minuteOn_96 rfl rfl ?_
          refine va_iald hx hb hK hP 1 0 rfl rfl (by unfold vp_in; decide +kernel) dX8_minuteOn_97 ?_
          refine lv_topi (fun x97 ex97 => ?_)
          have fqx97 := congrArg Int32.toInt ex97
          have hF0 := hF0.trans (fl_lt_eq (show x97.toInt = (fl_A v63nfa1) (21) from fqx97))
          refine lv_iconst (v := 1) hx hb dX8_minuteOn_98 zk_iconst_1 ?_
          refine lv_iadd hx hb dX8_minuteOn_99 ?_
          refine lv_topi (fun x99 ex99 => ?_)
          have fqx99 := fl_iadd_eq ex99
          have hF0 := hF0.trans (fl_lt_eq (show x99.toInt = fl_iadd x97.toInt 1 from fqx99))
          refine va_iast hx hb hK hP hD hS 1 0 rfl rfl (by unfold vp_in; decide +kernel) dX8_minuteOn_100 (fun H locs hP hD hS => ?_)
          obtain ⟨f100, ef100⟩ : ∃ g9 : Nat → Int32, g9 = upd v63nfa1 (21 : Int32).toNatClampNeg x99 := ⟨_, rfl⟩
          refine zs_1 (y := (a1, .inl (ka1, 23, .inl (f100)))) hP hD (by rw [ef100]) (fun hP hD => ?_)
          have bf100 : ((∀ k : Nat, 0 ≤ k → k ≤ 8 → (0 : Int) ≤ (f100 k).toInt ∧ (f100 k).toInt ≤ 8) ∧ (∀ k : Nat, 19 ≤ k → k ≤ 19 → (0 : Int) ≤ (f100 k).toInt ∧ (f100 k).toInt ≤ 8) ∧ (∀ k : Nat, 20 ≤ k → k ≤ 20 → (0 : Int) ≤ (f100 k).toInt ∧ (f100 k).toInt ≤ 19)) := by rw [ef100]; exact ⟨ai_updO bv63nfa1.1 _ (Or.inr (ai_ngt_of zq162 (by decide) (by decide))), ai_updO bv63nfa1.2.1 _ (Or.inr (ai_ngt_of zq162 (by decide) (by decide))), ai_updO bv63nfa1.2.2 _ (Or.inr (ai_ngt_of zq162 (by decide) (by decide)))⟩
          have kf100_21 : f100 21 = x99 := by rw [ef100]; exact ai_k1 (by decide +kernel)
          have fqf100 := fl_up_eq ef100
          have hF0 := hF0.trans (fl_lt_eq (show (fl_A f100) = fl_up (fl_A v63nfa1) (21) x99.toInt from fqf100))
          refine lv_aload_n hx hb dX8_minuteOn_101 rfl (lv_at hl 2 rfl) ?_
          refine lv_bipush (v := 20) hx hb dX8_minuteOn_102 zk_bipush_20 ?_
          refine lv_dup2_11 hx hb dX8_minuteOn_104 rfl rfl ?_
          refine va_iald hx hb hK hP 1 0 rfl rfl (by unfold vp_in; decide +kernel) dX8_minuteOn_105 ?_
          refine lv_topi (fun x105 ex105 => ?_)
          have bx105 : (0 : Int) ≤ x105.toInt ∧ x105.toInt ≤ 19 := by rw [ex105]; exact ai_rd bf100.2.2 zq153 zq154 (by decide) (by decide) (by decide)
          have fqx105 := congrArg Int32.toInt ex105
          have hF0 := hF0.trans (fl_lt_eq (show x105.toInt = (fl_A f100) (20) from fqx105))
          refine lv_iconst (v := 1) hx hb dX8_minuteOn_106 zk_iconst_1 ?_
          refine lv_iadd hx hb dX8_minuteOn_107 ?_
          refine lv_topi (fun x107 ex107 => ?_)
          have qx107 : x107.toInt = x105.toInt + (1 : Int32).toInt := ai_add ex107 ⟨bx105.1, bx105.2⟩ ⟨zq1, zq0⟩ (by decide) (by decide)
          have bx107 : (1 : Int) ≤ x107.toInt ∧ x107.toInt ≤ 20 := ⟨by rw [qx107]; exact Int.add_le_add bx105.1 zq1, by rw [qx107]; exact Int.add_le_add bx105.2 zq0⟩
          have wx107 : x107.toInt = x105.toInt + 1 := qx107
          have hF0 := hF0.trans (fl_lt_eq (show x107.toInt = x105.toInt + 1 from qx107))
          refine va_iast hx hb hK hP hD hS 1 0 rfl rfl (by unfold vp_in; decide +kernel) dX8_minuteOn_108 (fun H locs hP hD hS => ?_)
          obtain ⟨f108, ef108⟩ : ∃ g9 : Nat → Int32, g9 = upd f100 (20 : Int32).toNatClampNeg x107 := ⟨_, rfl⟩
          refine zs_1 (y := (a1, .inl (ka1, 23, .inl (f108)))) hP hD (by rw [ef108]) (fun hP hD => ?_)
          have bf108 : ((∀ k : Nat, 0 ≤ k → k ≤ 8 → (0 : Int) ≤ (f108 k).toInt ∧ (f108 k).toInt ≤ 8) ∧ (∀ k : Nat, 19 ≤ k → k ≤ 19 → (0 : Int) ≤ (f108 k).toInt ∧ (f108 k).toInt ≤ 8) ∧ True) := by rw [ef108]; exact ⟨ai_updO bf100.1 _ (Or.inr (ai_ngt_of zq153 (by decide) (by decide))), ai_updO bf100.2.1 _ (Or.inr (ai_ngt_of zq153 (by decide) (by decide))), trivial⟩
          have kf108_20 : f108 20 = x107 := by rw [ef108]; exact ai_k1 (by decide +kernel)
          have kf108_21 : f108 21 = x99 := by rw [ef108]; exact ai_k2 (by decide +kernel) kf100_21
          have fqf108 := fl_up_eq ef108
          have hF0 := hF0.trans (fl_lt_eq (show (fl_A f108) = fl_up (fl_A f100) (20) x107.toInt from fqf108))
          refine lv_aload_n hx hb dX8_minuteOn_109 rfl (lv_at hl 2 rfl) ?_
          refine lv_bipush (v := 20) hx hb dX8_minuteOn_110 zk_bipush_20 ?_
          refine va_iald hx hb hK hP 1 0 rfl rfl (by unfold vp_in; decide +kernel) dX8_minuteOn_112 ?_
          refine ax_ti x107 ((congrArg f108 (by decide +kernel : (20 : Int32).toNatClampNeg = 20)).trans kf108_20) ?_
          refine lv_aload_n hx hb dX8_minuteOn_113 rfl (lv_at hl 1 rfl) ?_
          refine va_get (D := (dC, dI)) (ci := 8) (v := .ref a0_15) (C := RX8) (T := TX8) (N := 40) hx hb hts zi_X8_minuteOn_8 hown hK hP 0 rfl rfl 15 (by decide) (hts (.fieldLink RX8 20 "WaxTurnsModel" "\x72" "[I") (zm_X8_minuteOn_r1 (List.mem_of_getElem? (i := 1) rfl))) (fun _ h9 => h9) rfl dX8_minuteOn_114 ?_
          refine lv_iconst (v := 1) hx hb dX8_minuteOn_117 zk_iconst_1 ?_
          refine va_iald hx hb hK hP 2 1 rfl rfl (by unfold vp_in; decide +kernel) dX8_minuteOn_118 ?_
          refine lv_topi (fun x118 ex118 => ?_)
          have bx118 : (1 : Int) ≤ x118.toInt ∧ x118.toInt ≤ 20 := by rw [ex118]; exact ai_rd bfa0_15.2.1 zq1 zq0 (by decide) (by decide) (by decide)
          have fqx118 := congrArg Int32.toInt ex118
          have hF0 := hF0.trans (fl_lt_eq (show x118.toInt = (fl_A fa0_15) (1) from fqx118))
          refine lv_icmp_ge (tgt := 123) hx hb dX8_minuteOn_119 (by decide) (fun c119 => ?_) (fun c119 => ?_)
          · have gc119 := ai_le c119
            have u119t_x118 : x118.toInt ≤ (20 : Int) := bx118.2
            have l119t_x107 : (1 : Int) ≤ x107.toInt := bx107.1
            have hF0 := hF0.trans (if_pos (show x118.toInt ≤ x107.toInt from gc119))
            refine lv_aload_n hx hb dX8_minuteOn_123 rfl (lv_at hl 2 rfl) ?_
            refine lv_bipush (v := 20) hx hb dX8_minuteOn_124 zk_bipush_20 ?_
            refine lv_iconst (v := 0) hx hb dX8_minuteOn_126 zk_iconst_0 ?_
            refine va_iast hx hb hK hP hD hS 1 0 rfl rfl (by unfold vp_in; decide +kernel) dX8_minuteOn_127 (fun H locs hP hD hS => ?_)
            obtain ⟨f127, ef127⟩ : ∃ g9 : Nat → Int32, g9 = upd f108 (20 : Int32).toNatClampNeg (0 : Int32) := ⟨_, rfl⟩
            refine zs_1 (y := (a1, .inl (ka1, 23, .inl (f127)))) hP hD (by rw [ef127]) (fun hP hD => ?_)
            have bf127 : ((∀ k : Nat, 0 ≤ k → k ≤ 8 → (0 : Int) ≤ (f127 k).toInt ∧ (f127 k).toInt ≤ 8) ∧ (∀ k : Nat, 19 ≤ k → k ≤ 19 → (0 : Int) ≤ (f127 k).toInt ∧ (f127 k).toInt ≤ 8) ∧ (∀ k : Nat, 20 ≤ k → k ≤ 20 → (0 : Int) ≤ (f127 k).toInt ∧ (f127 k).toInt ≤ 19)) := by rw [ef127]; exact ⟨ai_updO bf108.1 _ (Or.inr (ai_ngt_of zq153 (by decide) (by decide))), ai_updO bf108.2.1 _ (Or.inr (ai_ngt_of zq153 (by decide) (by decide))), ai_new (by decide +kernel) ⟨zq5, (Int.le_trans zq6 zq163)⟩⟩
            have kf127_20 : f127 20 = 0 := by rw [ef127]; exact ai_k1 (by decide +kernel)
            have kf127_21 : f127 21 = x99 := by rw [ef127]; exact ai_k2 (by decide +kernel) kf108_21
            have fqf127 := fl_up_eq ef127
            have hF0 := hF0.trans (fl_lt_eq (show (fl_A f127) = fl_up (fl_A f108) (20) 0 from fqf127))
            refine lv_aload_n hx hb dX8_minuteOn_128 rfl (lv_at hl 2 rfl) ?_
            refine lv_bipush (v := 19) hx hb dX8_minuteOn_129 zk_bipush_19 ?_
            refine lv_aload_n hx hb dX8_minuteOn_131 rfl (lv_at hl 1 rfl) ?_
            refine lv_iload_n hx hb dX8_minuteOn_132 rfl (lv_at hl 0 rfl) ?_
            refine zc_cutc (wc := [(a0, .inr (8, [a0g_0, a0g_1, a0g_2, a0g_3, a0g_4, a0g_5, a0g_6, a0g_7, a0g_8, a0g_9, a0g_10, a0g_11, a0g_12, a0g_13, a0g_14, Value.ref a0_15, a0g_16, a0g_17, a0g_18, a0g_19, a0g_20, a0g_21, a0g_22, Value.ref a0_23, Value.ref a0_24, Value.int a0_25, Value.int x3, Value.int (-1), Value.int v63na0_28, a0g_29, a0g_30, a0g_31, a0g_32, a0g_33, a0g_34, a0g_35, a0g_36, a0g_37, a0g_38, a0g_39])), (a0_15, .inl (ka0_15, 156, .inl (fa0_15)))]) hP hD hS hA [0, 2] (by decide +kernel) rfl (fun hPc hDc hFc hCc => ?_)
            have hKc := hK.sub (tys' := [(ka0_15, .int)]) [1] rfl
            refine va_calli (va_runV (As := [.int x3]) (rest := [.int 19, .ref a1]) ⟨hx, hb, hml, hown, hts⟩ (f_X8_nextOf l dC dI H.size a0 x3 a0g_0 a0g_1 a0g_2 a0g_3 a0g_4 a0g_5 a0g_6 a0g_7 a0g_8 a0g_9 a0g_10 a0g_11 a0g_12 a0g_13 a0g_14 a0g_16 a0g_17 a0g_18 a0g_19 a0g_20 a0g_21 a0g_22 (Value.ref a0_23) (Value.ref a0_24) (Value.int a0_25) (Value.int x3) (Value.int (-1)) (Value.int v63na0_28) a0g_29 a0g_30 a0g_31 a0g_32 a0g_33 a0g_34 a0g_35 a0g_36 a0g_37 a0g_38 a0g_39 a0_15 ka0_15 fa0_15 bx3.1 bx3.2 bfa0_15) (cwV 1 hts gX8_minuteOn_X8_nextOf rfl rfl rfl zd_X8_nextOf ⟨Nat.le_of_ble_eq_true rfl, Nat.le_of_ble_eq_true rfl⟩) ⟨ax_blind (fun _ _ _ _ _ => trivial), zr_8 hKc hPc (q0 := 0) rfl, ax_pre hPc hKc hDc (fun _ _ => trivial)⟩ rfl rfl hl.1 rfl (lv_room (Nat.le_of_ble_eq_true rfl)) dX8_minuteOn_133 ⟨Nat.le_of_ble_eq_true rfl, Nat.le_of_ble_eq_true rfl⟩) hS (fun q _ h => hFc q h) hFc (fun r133 u t H locs ht hvm hw hB hz1 hk1 hS1 => zo hB ht hS1 (fun hP1 hK1 hD1 hS => ?_))
            refine zc_backc (w := [(a0, .inr (8, [a0g_0, a0g_1, a0g_2, a0g_3, a0g_4, a0g_5, a0g_6, a0g_7, a0g_8, a0g_9, a0g_10, a0g_11, a0g_12, a0g_13, a0g_14, Value.ref a0_15, a0g_16, a0g_17, a0g_18, a0g_19, a0g_20, a0g_21, a0g_22, Value.ref a0_23, Value.ref a0_24, Value.int a0_25, Value.int x3, Value.int (-1), Value.int v63na0_28, a0g_29, a0g_30, a0g_31, a0g_32, a0g_33, a0g_34, a0g_35, a0g_36, a0g_37, a0g_38, a0g_39])), (a1, .inl (ka1, 23, .inl (f127))), (a0_15, .inl (ka0_15, 156, .inl (fa0_15))), (a0_24, .inl (ka0_24, 3, .inl (fa0_24))), (a0_23, .inl (ka0_23, 3, .inl (fa0_23)))]) hP hD hCc hk1 hFc hP1 hD1 [.inr 0, .inl 1, .inr 1, .inl 3, .inl 4] (by decide +kernel) rfl (fun hP hD => ?_)
            obtain ⟨hw, hfr133⟩ := hw
            have hc133 : Ff_X8_nextOf x3.toInt (fl_A fa0_15) = r133.toInt := hfr133.symm
            have hF0 := hF0.trans (fl_lt_eq hc133.symm)
            have hw : (0 : Int) ≤ r133.toInt ∧ r133.toInt ≤ (8 : Int) := hw
            obtain ⟨h133_0, h133_1⟩ := hw
            refine va_iast hx hb hK hP hD hS 1 0 rfl rfl (by unfold vp_in; decide +kernel) dX8_minuteOn_136 (fun H locs hP hD hS => ?_)
            obtain ⟨f136, ef136⟩ : ∃ g9 : Nat → Int32, g9 = upd f127 (19 : Int32).toNatClampNeg r133 := ⟨_, rfl⟩
            refine zs_1 (y := (a1, .inl (ka1, 23, .inl (f136)))) hP hD (by rw [ef136]) (fun hP hD => ?_)
            have bf136 : ((∀ k : Nat, 0 ≤ k → k ≤ 8 → (0 : Int) ≤ (f136 k).toInt ∧ (f136 k).toInt ≤ 8) ∧ (∀ k : Nat, 19 ≤ k → k ≤ 19 → (0 : Int) ≤ (f136 k).toInt ∧ (f136 k).toInt ≤ 8) ∧ (∀ k : Nat, 20 ≤ k → k ≤ 20 → (0 : Int) ≤ (f136 k).toInt ∧ (f136 k).toInt ≤ 19)) := by rw [ef136]; exact ⟨ai_updO bf127.1 _ (Or.inr (ai_ngt_of zq160 (by decide) (by decide))), ai_updS bf127.2.1 _ ⟨h133_0, h133_1⟩, ai_updO bf127.2.2 _ (Or.inl (ai_nlt_of zq160 zq161 (by decide) (by decide)))⟩
            have kf136_19 : f136 19 = r133 := by rw [ef136]; exact ai_k1 (by decide +kernel)
            have kf136_20 : f136 20 = 0 := by rw [ef136]; exact ai_k2 (by decide +kernel) kf127_20
            have kf136_21 : f136 21 = x99 := by rw [ef136]; exact ai_k2 (by decide +kernel) kf127_21
            have fqf136 := fl_up_eq ef136
            have hF0 := hF0.trans (fl_lt_eq (show (fl_A f136) = fl_up (fl_A f127) (19) r133.toInt from fqf136))
            have hFe : FX = (x3.toInt, (-1), v63na0_28.toInt, (fl_A f136)) := hF0
            exact W.vret hx hb hr (fun t ht hW => ⟨⟨(), rfl, trivial, x3, (-1), v63na0_28, f136, bf136, hFe, by rw [ht]; exact hP, va_K.moved hW.alike hK, hD⟩, hS.F ht⟩) hS.2.2 dX8_minuteOn_137
          · have gc119 := ai_nle c119
            have u119f_x107 : x107.toInt ≤ (19 : Int) := ai_lthi gc119 bx118.2
            have u119f_x105 : x105.toInt ≤ (18 : Int) := by have h1 := wx107; have h2 := u119f_x107; omega
            have l119f_x118 : (2 : Int) ≤ x118.toInt := ai_ltlo gc119 bx107.1
            have hF0 := hF0.trans (if_neg (show ¬ (x118.toInt ≤ x107.toInt) from Int.not_le.mpr gc119))
            have hFe : FX = (x3.toInt, (-1), v63na0_28.toInt, (fl_A f108)) := hF0
            exact W.vret hx hb hr (fun t ht hW => ⟨⟨(), rfl, trivial, x3, (-1), v63na0_28, f108, ⟨bf108.1, bf108.2.1, ai_one (by rw [kf108_20]; exact ⟨(Int.le_trans zq4 bx107.1), u119f_x107⟩)⟩, hFe, by rw [ht]; exact hP, va_K.moved hW.alike hK, hD⟩, hS.F ht⟩) hS.2.2 dX8_minuteOn_122
        · subst hw
          have hF0 := hF0.trans (if_neg (by decide))
          refine lv_if_eq (tgt := 87) hx hb dX8_minuteOn_80 (by decide) (fun _ => ?_) (fun c80 => absurd (by decide +kernel) c80)
          refine lv_aload_n hx hb dX8_minuteOn_87 rfl (lv_at hl 2 rfl) ?_
          refine lv_iload_n hx hb dX8_minuteOn_88 rfl (lv_at hl 0 rfl) ?_
          refine va_iald hx hb hK hP 1 0 rfl rfl (ai_in bx3.1 bx3.2 (by decide) (by decide)) dX8_minuteOn_89 ?_
          refine lv_topi (fun x89 ex89 => ?_)
          have bx89 : (0 : Int) ≤ x89.toInt ∧ x89.toInt ≤ 8 := by rw [ex89]; exact ai_rd bv63nfa1.1 bx3.1 bx3.2 (by decide) (by decide) (by decide)
          have fqx89 := congrArg Int32.toInt ex89
          have hF0 := hF0.trans (fl_lt_eq (show x89.toInt = (fl_A v63nfa1) (x3.toInt.toNat) from fqx89))
          refine va_put (D := (dC, dI)) (ci := 8) (v := .int x89) (ty := .int) (C := RX8) (T := TX8) (N := 40) hx hb hts zi_X8_minuteOn_8 tyX8 tyX8_ok nmX8 hown hK hP hD hS 0 rfl rfl 27 (by decide) (hts (.fieldLink RX8 261 "WaxTurnsModel" "livedAt" "I") (zm_X8_minuteOn_r1 (List.mem_of_getElem? (i := 3) rfl))) (fun _ h9 => h9) rfl (tyX8_ok 27 (by decide)) rfl rfl (Nat.le_of_ble_eq_true rfl) dX8_minuteOn_90 (fun H locs hP hD hS => ?_)
          refine zs_0 (y := (a0, .inr (8, [a0g_0, a0g_1, a0g_2, a0g_3, a0g_4, a0g_5, a0g_6, a0g_7, a0g_8, a0g_9, a0g_10, a0g_11, a0g_12, a0g_13, a0g_14, Value.ref a0_15, a0g_16, a0g_17, a0g_18, a0g_19, a0g_20, a0g_21, a0g_22, Value.ref a0_23, Value.ref a0_24, Value.int a0_25, Value.int x3, Value.int x89, Value.int v63na0_28, a0g_29, a0g_30, a0g_31, a0g_32, a0g_33, a0g_34, a0g_35, a0g_36, a0g_37, a0g_38, a0g_39]))) hP hD rfl (fun hP hD => ?_)
          refine lv_aload_n hx hb dX8_minuteOn_93 rfl (lv_at hl 2 rfl) ?_
          refine lv_bipush (v := 21) hx hb dX8_minuteOn_94 zk_bipush_21 ?_
          refine lv_dup2_11 hx hb dX8_minuteOn_96 rfl rfl ?_
          refine va_iald hx hb hK hP 1 0 rfl rfl (by unfold vp_in; decide +kernel) dX8_minuteOn_97 ?_
          refine lv_topi (fun x97 ex97 => ?_)
          have fqx97 := congrArg Int32.toInt ex97
          have hF0 := hF0.trans (fl_lt_eq (show x97.toInt = (fl_A v63nfa1) (21) from fqx97))
          refine lv_iconst (v := 1) hx hb dX8_minuteOn_98 zk_iconst_1 ?_
          refine lv_iadd hx hb dX8_minuteOn_99 ?_
          refine lv_topi (fun x99 ex99 => ?_)
          have fqx99 := fl_iadd_eq ex99
          have hF0 := hF0.trans (fl_lt_eq (show x99.toInt = fl_iadd x97.toInt 1 from fqx99))
          refine va_iast hx hb hK hP hD hS 1 0 rfl rfl (by unfold vp_in; decide +kernel) dX8_minuteOn_100 (fun H locs hP hD hS => ?_)
          obtain ⟨f100, ef100⟩ : ∃ g9 : Nat → Int32, g9 = upd v63nfa1 (21 : Int32).toNatClampNeg x99 := ⟨_, rfl⟩
          refine zs_1 (y := (a1, .inl (ka1, 23, .inl (f100)))) hP hD (by rw [ef100]) (fun hP hD => ?_)
          have bf100 : ((∀ k : Nat, 0 ≤ k → k ≤ 8 → (0 : Int) ≤ (f100 k).toInt ∧ (f100 k).toInt ≤ 8) ∧ (∀ k : Nat, 19 ≤ k → k ≤ 19 → (0 : Int) ≤ (f100 k).toInt ∧ (f100 k).toInt ≤ 8) ∧ (∀ k : Nat, 20 ≤ k → k ≤ 20 → (0 : Int) ≤ (f100 k).toInt ∧ (f100 k).toInt ≤ 19)) := by rw [ef100]; exact ⟨ai_updO bv63nfa1.1 _ (Or.inr (ai_ngt_of zq162 (by decide) (by decide))), ai_updO bv63nfa1.2.1 _ (Or.inr (ai_ngt_of zq162 (by decide) (by decide))), ai_updO bv63nfa1.2.2 _ (Or.inr (ai_ngt_of zq162 (by decide) (by decide)))⟩
          have kf100_21 : f100 21 = x99 := by rw [ef100]; exact ai_k1 (by decide +kernel)
          have fqf100 := fl_up_eq ef100
          have hF0 := hF0.trans (fl_lt_eq (show (fl_A f100) = fl_up (fl_A v63nfa1) (21) x99.toInt from fqf100))
          refine lv_aload_n hx hb dX8_minuteOn_101 rfl (lv_at hl 2 rfl) ?_
          refine lv_bipush (v := 20) hx hb dX8_minuteOn_102 zk_bipush_20 ?_
          refine lv_dup2_11 hx hb dX8_minuteOn_104 rfl rfl ?_
          refine va_iald hx hb hK hP 1 0 rfl rfl (by unfold vp_in; decide +kernel) dX8_minuteOn_105 ?_
          refine lv_topi (fun x105 ex105 => ?_)
          have bx105 : (0 : Int) ≤ x105.toInt ∧ x105.toInt ≤ 19 := by rw [ex105]; exact ai_rd bf100.2.2 zq153 zq154 (by decide) (by decide) (by decide)
          have fqx105 := congrArg Int32.toInt ex105
          have hF0 := hF0.trans (fl_lt_eq (show x105.toInt = (fl_A f100) (20) from fqx105))
          refine lv_iconst (v := 1) hx hb dX8_minuteOn_106 zk_iconst_1 ?_
          refine lv_iadd hx hb dX8_minuteOn_107 ?_
          refine lv_topi (fun x107 ex107 => ?_)
          have qx107 : x107.toInt = x105.toInt + (1 : Int32).toInt := ai_add ex107 ⟨bx105.1, bx105.2⟩ ⟨zq1, zq0⟩ (by decide) (by decide)
          have bx107 : (1 : Int) ≤ x107.toInt ∧ x107.toInt ≤ 20 := ⟨by rw [qx107]; exact Int.add_le_add bx105.1 zq1, by rw [qx107]; exact Int.add_le_add bx105.2 zq0⟩
          have wx107 : x107.toInt = x105.toInt + 1 := qx107
          have hF0 := hF0.trans (fl_lt_eq (show x107.toInt = x105.toInt + 1 from qx107))
          refine va_iast hx hb hK hP hD hS 1 0 rfl rfl (by unfold vp_in; decide +kernel) dX8_minuteOn_108 (fun H locs hP hD hS => ?_)
          obtain ⟨f108, ef108⟩ : ∃ g9 : Nat → Int32, g9 = upd f100 (20 : Int32).toNatClampNeg x107 := ⟨_, rfl⟩
          refine zs_1 (y := (a1, .inl (ka1, 23, .inl (f108)))) hP hD (by rw [ef108]) (fun hP hD => ?_)
          have bf108 : ((∀ k : Nat, 0 ≤ k → k ≤ 8 → (0 : Int) ≤ (f108 k).toInt ∧ (f108 k).toInt ≤ 8) ∧ (∀ k : Nat, 19 ≤ k → k ≤ 19 → (0 : Int) ≤ (f108 k).toInt ∧ (f108 k).toInt ≤ 8) ∧ True) := by rw [ef108]; exact ⟨ai_updO bf100.1 _ (Or.inr (ai_ngt_of zq153 (by decide) (by decide))), ai_updO bf100.2.1 _ (Or.inr (ai_ngt_of zq153 (by decide) (by decide))), trivial⟩
          have kf108_20 : f108 20 = x107 := by rw [ef108]; exact ai_k1 (by decide +kernel)
          have kf108_21 : f108 21 = x99 := by rw [ef108]; exact ai_k2 (by decide +kernel) kf100_21
          have fqf108 := fl_up_eq ef108
          have hF0 := hF0.trans (fl_lt_eq (show (fl_A f108) = fl_up (fl_A f100) (20) x107.toInt from fqf108))
          refine lv_aload_n hx hb dX8_minuteOn_109 rfl (lv_at hl 2 rfl) ?_
          refine lv_bipush (v := 20) hx hb dX8_minuteOn_110 zk_bipush_20 ?_
          refine va_iald hx hb hK hP 1 0 rfl rfl (by unfold vp_in; decide +kernel) dX8_minuteOn_112 ?_
          refine ax_ti x107 ((congrArg f108 (by decide +kernel : (20 : Int32).toNatClampNeg = 20)).trans kf108_20) ?_
          refine lv_aload_n hx hb dX8_minuteOn_113 rfl (lv_at hl 1 rfl) ?_
          refine va_get (D := (dC, dI)) (ci := 8) (v := .ref a0_15) (C := RX8) (T := TX8) (N := 40) hx hb hts zi_X8_minuteOn_8 hown hK hP 0 rfl rfl 15 (by decide) (hts (.fieldLink RX8 20 "WaxTurnsModel" "\x72" "[I") (zm_X8_minuteOn_r1 (List.mem_of_getElem? (i := 1) rfl))) (fun _ h9 => h9) rfl dX8_minuteOn_114 ?_
          refine lv_iconst (v := 1) hx hb dX8_minuteOn_117 zk_iconst_1 ?_
          refine va_iald hx hb hK hP 2 1 rfl rfl (by unfold vp_in; decide +kernel) dX8_minuteOn_118 ?_
          refine lv_topi (fun x118 ex118 => ?_)
          have bx118 : (1 : Int) ≤ x118.toInt ∧ x118.toInt ≤ 20 := by rw [ex118]; exact ai_rd bfa0_15.2.1 zq1 zq0 (by decide) (by decide) (by decide)
          have fqx118 := congrArg Int32.toInt ex118
          have hF0 := hF0.trans (fl_lt_eq (show x118.toInt = (fl_A fa0_15) (1) from fqx118))
          refine lv_icmp_ge (tgt := 123) hx hb dX8_minuteOn_119 (by decide) (fun c119 => ?_) (fun c119 => ?_)
          · have gc119 := ai_le c119
            have u119t_x118 : x118.toInt ≤ (20 : Int) := bx118.2
            have l119t_x107 : (1 : Int) ≤ x107.toInt := bx107.1
            have hF0 := hF0.trans (if_pos (show x118.toInt ≤ x107.toInt from gc119))
            refine lv_aload_n hx hb dX8_minuteOn_123 rfl (lv_at hl 2 rfl) ?_
            refine lv_bipush (v := 20) hx hb dX8_minuteOn_124 zk_bipush_20 ?_
            refine lv_iconst (v := 0) hx hb dX8_minuteOn_126 zk_iconst_0 ?_
            refine va_iast hx hb hK hP hD hS 1 0 rfl rfl (by unfold vp_in; decide +kernel) dX8_minuteOn_127 (fun H locs hP hD hS => ?_)
            obtain ⟨f127, ef127⟩ : ∃ g9 : Nat → Int32, g9 = upd f108 (20 : Int32).toNatClampNeg (0 : Int32) := ⟨_, rfl⟩
            refine zs_1 (y := (a1, .inl (ka1, 23, .inl (f127)))) hP hD (by rw [ef127]) (fun hP hD => ?_)
            have bf127 : ((∀ k : Nat, 0 ≤ k → k ≤ 8 → (0 : Int) ≤ (f127 k).toInt ∧ (f127 k).toInt ≤ 8) ∧ (∀ k : Nat, 19 ≤ k → k ≤ 19 → (0 : Int) ≤ (f127 k).toInt ∧ (f127 k).toInt ≤ 8) ∧ (∀ k : Nat, 20 ≤ k → k ≤ 20 → (0 : Int) ≤ (f127 k).toInt ∧ (f127 k).toInt ≤ 19)) := by rw [ef127]; exact ⟨ai_updO bf108.1 _ (Or.inr (ai_ngt_of zq153 (by decide) (by decide))), ai_updO bf108.2.1 _ (Or.inr (ai_ngt_of zq153 (by decide) (by decide))), ai_new (by decide +kernel) ⟨zq5, (Int.le_trans zq6 zq163)⟩⟩
            have kf127_20 : f127 20 = 0 := by rw [ef127]; exact ai_k1 (by decide +kernel)
            have kf127_21 : f127 21 = x99 := by rw [ef127]; exact ai_k2 (by decide +kernel) kf108_21
            have fqf127 := fl_up_eq ef127
            have hF0 := hF0.trans (fl_lt_eq (show (fl_A f127) = fl_up (fl_A f108) (20) 0 from fqf127))
            refine lv_aload_n hx hb dX8_minuteOn_128 rfl (lv_at hl 2 rfl) ?_
            refine lv_bipush (v := 19) hx hb dX8_minuteOn_129 zk_bipush_19 ?_
            refine lv_aload_n hx hb dX8_minuteOn_131 rfl (lv_at hl 1 rfl) ?_
            refine lv_iload_n hx hb dX8_minuteOn_132 rfl (lv_at hl 0 rfl) ?_
            refine zc_cutc (wc := [(a0, .inr (8, [a0g_0, a0g_1, a0g_2, a0g_3, a0g_4, a0g_5, a0g_6, a0g_7, a0g_8, a0g_9, a0g_10, a0g_11, a0g_12, a0g_13, a0g_14, Value.ref a0_15, a0g_16, a0g_17, a0g_18, a0g_19, a0g_20, a0g_21, a0g_22, Value.ref a0_23, Value.ref a0_24, Value.int a0_25, Value.int x3, Value.int x89, Value.int v63na0_28, a0g_29, a0g_30, a0g_31, a0g_32, a0g_33, a0g_34, a0g_35, a0g_36, a0g_37, a0g_38, a0g_39])), (a0_15, .inl (ka0_15, 156, .inl (fa0_15)))]) hP hD hS hA [0, 2] (by decide +kernel) rfl (fun hPc hDc hFc hCc => ?_)
            have hKc := hK.sub (tys' := [(ka0_15, .int)]) [1] rfl
            refine va_calli (va_runV (As := [.int x3]) (rest := [.int 19, .ref a1]) ⟨hx, hb, hml, hown, hts⟩ (f_X8_nextOf l dC dI H.size a0 x3 a0g_0 a0g_1 a0g_2 a0g_3 a0g_4 a0g_5 a0g_6 a0g_7 a0g_8 a0g_9 a0g_10 a0g_11 a0g_12 a0g_13 a0g_14 a0g_16 a0g_17 a0g_18 a0g_19 a0g_20 a0g_21 a0g_22 (Value.ref a0_23) (Value.ref a0_24) (Value.int a0_25) (Value.int x3) (Value.int x89) (Value.int v63na0_28) a0g_29 a0g_30 a0g_31 a0g_32 a0g_33 a0g_34 a0g_35 a0g_36 a0g_37 a0g_38 a0g_39 a0_15 ka0_15 fa0_15 bx3.1 bx3.2 bfa0_15) (cwV 1 hts gX8_minuteOn_X8_nextOf rfl rfl rfl zd_X8_nextOf ⟨Nat.le_of_ble_eq_true rfl, Nat.le_of_ble_eq_true rfl⟩) ⟨ax_blind (fun _ _ _ _ _ => trivial), zr_8 hKc hPc (q0 := 0) rfl, ax_pre hPc hKc hDc (fun _ _ => trivial)⟩ rfl rfl hl.1 rfl (lv_room (Nat.le_of_ble_eq_true rfl)) dX8_minuteOn_133 ⟨Nat.le_of_ble_eq_true rfl, Nat.le_of_ble_eq_true rfl⟩) hS (fun q _ h => hFc q h) hFc (fun r133 u t H locs ht hvm hw hB hz1 hk1 hS1 => zo hB ht hS1 (fun hP1 hK1 hD1 hS => ?_))
            refine zc_backc (w := [(a0, .inr (8, [a0g_0, a0g_1, a0g_2, a0g_3, a0g_4, a0g_5, a0g_6, a0g_7, a0g_8, a0g_9, a0g_10, a0g_11, a0g_12, a0g_13, a0g_14, Value.ref a0_15, a0g_16, a0g_17, a0g_18, a0g_19, a0g_20, a0g_21, a0g_22, Value.ref a0_23, Value.ref a0_24, Value.int a0_25, Value.int x3, Value.int x89, Value.int v63na0_28, a0g_29, a0g_30, a0g_31, a0g_32, a0g_33, a0g_34, a0g_35, a0g_36, a0g_37, a0g_38, a0g_39])), (a1, .inl (ka1, 23, .inl (f127))), (a0_15, .inl (ka0_15, 156, .inl (fa0_15))), (a0_24, .inl (ka0_24, 3, .inl (fa0_24))), (a0_23, .inl (ka0_23, 3, .inl (fa0_23)))]) hP hD hCc hk1 hFc hP1 hD1 [.inr 0, .inl 1, .inr 1, .inl 3, .inl 4] (by decide +kernel) rfl (fun hP hD => ?_)
            obtain ⟨hw, hfr133⟩ := hw
            have hc133 : Ff_X8_nextOf x3.toInt (fl_A fa0_15) = r133.toInt := hfr133.symm
            have hF0 := hF0.trans (fl_lt_eq hc133.symm)
            have hw : (0 : Int) ≤ r133.toInt ∧ r133.toInt ≤ (8 : Int) := hw
            obtain ⟨h133_0, h133_1⟩ := hw
            refine va_iast hx hb hK hP hD hS 1 0 rfl rfl (by unfold vp_in; decide +kernel) dX8_minuteOn_136 (fun H locs hP hD hS => ?_)
            obtain ⟨f136, ef136⟩ : ∃ g9 : Nat → Int32, g9 = upd f127 (19 : Int32).toNatClampNeg r133 := ⟨_, rfl⟩
            refine zs_1 (y := (a1, .inl (ka1, 23, .inl (f136)))) hP hD (by rw [ef136]) (fun hP hD => ?_)
            have bf136 : ((∀ k : Nat, 0 ≤ k → k ≤ 8 → (0 : Int) ≤ (f136 k).toInt ∧ (f136 k).toInt ≤ 8) ∧ (∀ k : Nat, 19 ≤ k → k ≤ 19 → (0 : Int) ≤ (f136 k).toInt ∧ (f136 k).toInt ≤ 8) ∧ (∀ k : Nat, 20 ≤ k → k ≤ 20 → (0 : Int) ≤ (f136 k).toInt ∧ (f136 k).toInt ≤ 19)) := by rw [ef136]; exact ⟨ai_updO bf127.1 _ (Or.inr (ai_ngt_of zq160 (by decide) (by decide))), ai_updS bf127.2.1 _ ⟨h133_0, h133_1⟩, ai_updO bf127.2.2 _ (Or.inl (ai_nlt_of zq160 zq161 (by decide) (by decide)))⟩
            have kf136_19 : f136 19 = r133 := by rw [ef136]; exact ai_k1 (by decide +kernel)
            have kf136_20 : f136 20 = 0 := by rw [ef136]; exact ai_k2 (by decide +kernel) kf127_20
            have kf136_21 : f136 21 = x99 := by rw [ef136]; exact ai_k2 (by decide +kernel) kf127_21
            have fqf136 := fl_up_eq ef136
            have hF0 := hF0.trans (fl_lt_eq (show (fl_A f136) = fl_up (fl_A f127) (19) r133.toInt from fqf136))
            have hFe : FX = (x3.toInt, x89.toInt, v63na0_28.toInt, (fl_A f136)) := hF0
            exact W.vret hx hb hr (fun t ht hW => ⟨⟨(), rfl, trivial, x3, x89, v63na0_28, f136, bf136, hFe, by rw [ht]; exact hP, va_K.moved hW.alike hK, hD⟩, hS.F ht⟩) hS.2.2 dX8_minuteOn_137
          · have gc119 := ai_nle c119
            have u119f_x107 : x107.toInt ≤ (19 : Int) := ai_lthi gc119 bx118.2
            have u119f_x105 : x105.toInt ≤ (18 : Int) := by have h1 := wx107; have h2 := u119f_x107; omega
            have l119f_x118 : (2 : Int) ≤ x118.toInt := ai_ltlo gc119 bx107.1
            have hF0 := hF0.trans (if_neg (show ¬ (x118.toInt ≤ x107.toInt) from Int.not_le.mpr gc119))
            have hFe : FX = (x3.toInt, x89.toInt, v63na0_28.toInt, (fl_A f108)) := hF0
            exact W.vret hx hb hr (fun t ht hW => ⟨⟨(), rfl, trivial, x3, x89, v63na0_28, f108, ⟨bf108.1, bf108.2.1, ai_one (by rw [kf108_20]; exact ⟨(Int.le_trans zq4 bx107.1), u119f_x107⟩)⟩, hFe, by rw [ht]; exact hP, va_K.moved hW.alike hK, hD⟩, hS.F ht⟩) hS.2.2 dX8_minuteOn_122
    · have gc33 := ai_eq c33
      have u33f_x31 : x31.toInt ≤ (1 : Int) := Int.le_trans (Int.le_of_eq gc33) zq0
      have l33f_x31 : (1 : Int) ≤ x31.toInt := Int.le_trans zq1 (Int.le_of_eq gc33.symm)
      have hF0 := hF0.trans (if_pos (show x31.toInt = 1 from gc33))
      refine lv_aload_n hx hb dX8_minuteOn_36 rfl (lv_at hl 1 rfl) ?_
      refine lv_aload_n hx hb dX8_minuteOn_37 rfl (lv_at hl 2 rfl) ?_
      refine lv_iload_n hx hb dX8_minuteOn_38 rfl (lv_at hl 0 rfl) ?_
      have hKc := hK.sub (tys' := [(ka1, .int), (ka0_15, .int), (ka0_24, .int), (ka0_23, .int)]) [0, 1, 2, 3] rfl
      refine va_callv (va_runV (As := [.ref a1, .int x3]) (rest := []) ⟨hx, hb, hml, hown, hts⟩ (f_X8_walkOn l dC dI H.size a0 a1 x3 a0g_0 a0g_1 a0g_2 a0g_3 a0g_4 a0g_5 a0g_6 a0g_7 a0g_8 a0g_9 a0g_10 a0g_11 a0g_12 a0g_13 a0g_14 a0g_16 a0g_17 a0g_18 a0g_19 a0g_20 a0g_21 a0g_22 (Value.int a0_26) (Value.int a0_27) (Value.int 0) a0g_29 a0g_30 a0g_31 a0g_32 a0g_33 a0g_34 a0g_35 a0g_36 a0g_37 a0g_38 a0g_39 a0_15 a0_23 a0_24 a0_25 ka1 fa1 ka0_15 fa0_15 ka0_24 fa0_24 ka0_23 fa0_23 bx3.1 bx3.2 bfa1 bfa0_15 bfa0_24 bfa0_23 (fun i hi => hkm x3 x30 i bx3.1 bx3.2 (by omega) (by omega) (by rw [← ex31]; exact (ai_eq c33)))) (cwV 2 hts gX8_minuteOn_X8_walkOn rfl rfl rfl zd_X8_walkOn ⟨Nat.le_of_ble_eq_true rfl, Nat.le_of_ble_eq_true rfl⟩) ⟨ax_blind (fun _ _ _ _ _ => trivial), zr_8 hKc (zp_P5 hP) (q0 := 0) rfl, ax_pre (zp_P5 hP) hKc (zp_D5 hD) (fun _ _ => trivial)⟩ rfl rfl hl.1 rfl (lv_room (Nat.le_of_ble_eq_true rfl)) dX8_minuteOn_39 ⟨Nat.le_of_ble_eq_true rfl, Nat.le_of_ble_eq_true rfl⟩) hS (fun q _ h => zp_F5 hD hS hA q h) (zp_F5 hD hS hA) (fun u t H locs ht hvm hw => zx_1 (fun v39nfa1 => zy_2 (fun bv39nfa1 hraw39_0 hB hz1 hk1 hS1 => zo5 hB ht hP hD hk1 (zp_F5 hD hS hA) hS1 (fun hP hK1 hD hS => ?_))))
      have hc39 : Ff_X8_walkOn x3.toInt a0_25.toInt (fl_A fa1) (fl_A fa0_15) (fl_A fa0_24) (fl_A fa0_23) = (fl_A v39nfa1) := hraw39_0
      have hF0 := hF0.trans (fl_lt_eq hc39.symm)
      refine lv_goto (tgt := 66) hx hb dX8_minuteOn_42 (by decide) ?_
      refine lv_aload_n hx hb dX8_minuteOn_66 rfl (lv_at hl 1 rfl) ?_
      refine lv_iload_n hx hb dX8_minuteOn_67 rfl (lv_at hl 0 rfl) ?_
      refine va_put (D := (dC, dI)) (ci := 8) (v := .int x3) (ty := .int) (C := RX8) (T := TX8) (N := 40) hx hb hts zi_X8_minuteOn_8 tyX8 tyX8_ok nmX8 hown hK hP hD hS 0 rfl rfl 26 (by decide) (hts (.fieldLink RX8 258 "WaxTurnsModel" "lived" "I") (zm_X8_minuteOn_r1 (List.mem_of_getElem? (i := 2) rfl))) (fun _ h9 => h9) rfl (tyX8_ok 26 (by decide)) rfl rfl (Nat.le_of_ble_eq_true rfl) dX8_minuteOn_68 (fun H locs hP hD hS => ?_)
      refine zs_0 (y := (a0, .inr (8, [a0g_0, a0g_1, a0g_2, a0g_3, a0g_4, a0g_5, a0g_6, a0g_7, a0g_8, a0g_9, a0g_10, a0g_11, a0g_12, a0g_13, a0g_14, Value.ref a0_15, a0g_16, a0g_17, a0g_18, a0g_19, a0g_20, a0g_21, a0g_22, Value.ref a0_23, Value.ref a0_24, Value.int a0_25, Value.int x3, Value.int a0_27, Value.int 0, a0g_29, a0g_30, a0g_31, a0g_32, a0g_33, a0g_34, a0g_35, a0g_36, a0g_37, a0g_38, a0g_39]))) hP hD rfl (fun hP hD => ?_)
      refine lv_aload_n hx hb dX8_minuteOn_71 rfl (lv_at hl 1 rfl) ?_
      refine lv_aload_n hx hb dX8_minuteOn_72 rfl (lv_at hl 2 rfl) ?_
      refine lv_bipush (v := 18) hx hb dX8_minuteOn_73 zk_bipush_18 ?_
      refine va_iald hx hb hK hP 1 0 rfl rfl (by unfold vp_in; decide +kernel) dX8_minuteOn_75 ?_
      refine lv_topi (fun x75 ex75 => ?_)
      have fqx75 := congrArg Int32.toInt ex75
      have hF0 := hF0.trans (fl_lt_eq (show x75.toInt = (fl_A v39nfa1) (18) from fqx75))
      refine lv_iload_n hx hb dX8_minuteOn_76 rfl (lv_at hl 0 rfl) ?_
      refine va_calli (va_runS (As := [.int x75, .int x3]) (rest := [.ref a0]) ⟨hx, hb, hml, hown, hts⟩ (f_X8_hasBit l dC dI H.size x75 x3 ) (va_cwS 2 hts gX8_minuteOn_X8_hasBit rfl rfl rfl zd_X8_hasBit.2 ⟨Nat.le_of_ble_eq_true rfl, Nat.le_of_ble_eq_true rfl⟩) ⟨ax_blind (fun _ _ _ _ _ => trivial), ax_pre (zp_P0 hP) (zp_K hK) (zp_D0 hD) (fun _ _ => trivial)⟩ rfl rfl hl.1 rfl (lv_room (Nat.le_of_ble_eq_true rfl)) dX8_minuteOn_77 ⟨Nat.le_of_ble_eq_true rfl, Nat.le_of_ble_eq_true rfl⟩) hS (fun q _ h => zp_F0 hD hS hA q h) (zp_F0 hD hS hA) (fun r77 u t H locs ht hvm hw hB hz1 hk1 hS1 => zo0 hB ht hP hD hk1 (zp_F0 hD hS hA) hS1 (fun hP hK1 hD hS => ?_))
      obtain ⟨hw, hfr77⟩ := hw
      have hc77 : Ff_X8_hasBit x75.toInt x3.toInt = r77.toInt := hfr77.symm
      have hF0 := hF0.trans (fl_lt_eq hc77.symm)
      rcases hw with hw | hw
      · subst hw
        have hF0 := hF0.trans (if_pos (by decide))
        refine lv_if_eq (tgt := 87) hx hb dX8_minuteOn_80 (by decide) (fun c80 => absurd c80 (by decide +kernel)) (fun _ => ?_)
        refine lv_iconst (v := (-1)) hx hb dX8_minuteOn_83 zk_iconst_n1 ?_
        refine lv_goto (tgt := 90) hx hb dX8_minuteOn_84 (by decide) ?_
        refine va_put (D := (dC, dI)) (ci := 8) (v := .int (-1)) (ty := .int) (C := RX8) (T := TX8) (N := 40) hx hb hts zi_X8_minuteOn_8 tyX8 tyX8_ok nmX8 hown hK hP hD hS 0 rfl rfl 27 (by decide) (hts (.fieldLink RX8 261 "WaxTurnsModel" "livedAt" "I") (zm_X8_minuteOn_r1 (List.mem_of_getElem? (i := 3) rfl))) (fun _ h9 => h9) rfl (tyX8_ok 27 (by decide)) rfl rfl (Nat.le_of_ble_eq_true rfl) dX8_minuteOn_90 (fun H locs hP hD hS => ?_)
        refine zs_0 (y := (a0, .inr (8, [a0g_0, a0g_1, a0g_2, a0g_3, a0g_4, a0g_5, a0g_6, a0g_7, a0g_8, a0g_9, a0g_10, a0g_11, a0g_12, a0g_13, a0g_14, Value.ref a0_15, a0g_16, a0g_17, a0g_18, a0g_19, a0g_20, a0g_21, a0g_22, Value.ref a0_23, Value.ref a0_24, Value.int a0_25, Value.int x3, Value.int (-1), Value.int 0, a0g_29, a0g_30, a0g_31, a0g_32, a0g_33, a0g_34, a0g_35, a0g_36, a0g_37, a0g_38, a0g_39]))) hP hD rfl (fun hP hD => ?_)
        refine lv_aload_n hx hb dX8_minuteOn_93 rfl (lv_at hl 2 rfl) ?_
        refine lv_bipush (v := 21) hx hb dX8_minuteOn_94 zk_bipush_21 ?_
        refine lv_dup2_11 hx hb dX8_minuteOn_96 rfl rfl ?_
        refine va_iald hx hb hK hP 1 0 rfl rfl (by unfold vp_in; decide +kernel) dX8_minuteOn_97 ?_
        refine lv_topi (fun x97 ex97 => ?_)
        have fqx97 := congrArg Int32.toInt ex97
        have hF0 := hF0.trans (fl_lt_eq (show x97.toInt = (fl_A v39nfa1) (21) from fqx97))
        refine lv_iconst (v := 1) hx hb dX8_minuteOn_98 zk_iconst_1 ?_
        refine lv_iadd hx hb dX8_minuteOn_99 ?_
        refine lv_topi (fun x99 ex99 => ?_)
        have fqx99 := fl_iadd_eq ex99
        have hF0 := hF0.trans (fl_lt_eq (show x99.toInt = fl_iadd x97.toInt 1 from fqx99))
        refine va_iast hx hb hK hP hD hS 1 0 rfl rfl (by unfold vp_in; decide +kernel) dX8_minuteOn_100 (fun H locs hP hD hS => ?_)
        obtain ⟨f100, ef100⟩ : ∃ g9 : Nat → Int32, g9 = upd v39nfa1 (21 : Int32).toNatClampNeg x99 := ⟨_, rfl⟩
        refine zs_1 (y := (a1, .inl (ka1, 23, .inl (f100)))) hP hD (by rw [ef100]) (fun hP hD => ?_)
        have bf100 : ((∀ k : Nat, 0 ≤ k → k ≤ 8 → (0 : Int) ≤ (f100 k).toInt ∧ (f100 k).toInt ≤ 8) ∧ (∀ k : Nat, 19 ≤ k → k ≤ 19 → (0 : Int) ≤ (f100 k).toInt ∧ (f100 k).toInt ≤ 8) ∧ (∀ k : Nat, 20 ≤ k → k ≤ 20 → (0 : Int) ≤ (f100 k).toInt ∧ (f100 k).toInt ≤ 19)) := by rw [ef100]; exact ⟨ai_updO bv39nfa1.1 _ (Or.inr (ai_ngt_of zq162 (by decide) (by decide))), ai_updO bv39nfa1.2.1 _ (Or.inr (ai_ngt_of zq162 (by decide) (by decide))), ai_updO bv39nfa1.2.2 _ (Or.inr (ai_ngt_of zq162 (by decide) (by decide)))⟩
        have kf100_21 : f100 21 = x99 := by rw [ef100]; exact ai_k1 (by decide +kernel)
        have fqf100 := fl_up_eq ef100
        have hF0 := hF0.trans (fl_lt_eq (show (fl_A f100) = fl_up (fl_A v39nfa1) (21) x99.toInt from fqf100))
        refine lv_aload_n hx hb dX8_minuteOn_101 rfl (lv_at hl 2 rfl) ?_
        refine lv_bipush (v := 20) hx hb dX8_minuteOn_102 zk_bipush_20 ?_
        refine lv_dup2_11 hx hb dX8_minuteOn_104 rfl rfl ?_
        refine va_iald hx hb hK hP 1 0 rfl rfl (by unfold vp_in; decide +kernel) dX8_minuteOn_105 ?_
        refine lv_topi (fun x105 ex105 => ?_)
        have bx105 : (0 : Int) ≤ x105.toInt ∧ x105.toInt ≤ 19 := by rw [ex105]; exact ai_rd bf100.2.2 zq153 zq154 (by decide) (by decide) (by decide)
        have fqx105 := congrArg Int32.toInt ex105
        have hF0 := hF0.trans (fl_lt_eq (show x105.toInt = (fl_A f100) (20) from fqx105))
        refine lv_iconst (v := 1) hx hb dX8_minuteOn_106 zk_iconst_1 ?_
        refine lv_iadd hx hb dX8_minuteOn_107 ?_
        refine lv_topi (fun x107 ex107 => ?_)
        have qx107 : x107.toInt = x105.toInt + (1 : Int32).toInt := ai_add ex107 ⟨bx105.1, bx105.2⟩ ⟨zq1, zq0⟩ (by decide) (by decide)
        have bx107 : (1 : Int) ≤ x107.toInt ∧ x107.toInt ≤ 20 := ⟨by rw [qx107]; exact Int.add_le_add bx105.1 zq1, by rw [qx107]; exact Int.add_le_add bx105.2 zq0⟩
        have wx107 : x107.toInt = x105.toInt + 1 := qx107
        have hF0 := hF0.trans (fl_lt_eq (show x107.toInt = x105.toInt + 1 from qx107))
        refine va_iast hx hb hK hP hD hS 1 0 rfl rfl (by unfold vp_in; decide +kernel) dX8_minuteOn_108 (fun H locs hP hD hS => ?_)
        obtain ⟨f108, ef108⟩ : ∃ g9 : Nat → Int32, g9 = upd f100 (20 : Int32).toNatClampNeg x107 := ⟨_, rfl⟩
        refine zs_1 (y := (a1, .inl (ka1, 23, .inl (f108)))) hP hD (by rw [ef108]) (fun hP hD => ?_)
        have bf108 : ((∀ k : Nat, 0 ≤ k → k ≤ 8 → (0 : Int) ≤ (f108 k).toInt ∧ (f108 k).toInt ≤ 8) ∧ (∀ k : Nat, 19 ≤ k → k ≤ 19 → (0 : Int) ≤ (f108 k).toInt ∧ (f108 k).toInt ≤ 8) ∧ True) := by rw [ef108]; exact ⟨ai_updO bf100.1 _ (Or.inr (ai_ngt_of zq153 (by decide) (by decide))), ai_updO bf100.2.1 _ (Or.inr (ai_ngt_of zq153 (by decide) (by decide))), trivial⟩
        have kf108_20 : f108 20 = x107 := by rw [ef108]; exact ai_k1 (by decide +kernel)
        have kf108_21 : f108 21 = x99 := by rw [ef108]; exact ai_k2 (by decide +kernel) kf100_21
        have fqf108 := fl_up_eq ef108
        have hF0 := hF0.trans (fl_lt_eq (show (fl_A f108) = fl_up (fl_A f100) (20) x107.toInt from fqf108))
        refine lv_aload_n hx hb dX8_minuteOn_109 rfl (lv_at hl 2 rfl) ?_
        refine lv_bipush (v := 20) hx hb dX8_minuteOn_110 zk_bipush_20 ?_
        refine va_iald hx hb hK hP 1 0 rfl rfl (by unfold vp_in; decide +kernel) dX8_minuteOn_112 ?_
        refine ax_ti x107 ((congrArg f108 (by decide +kernel : (20 : Int32).toNatClampNeg = 20)).trans kf108_20) ?_
        refine lv_aload_n hx hb dX8_minuteOn_113 rfl (lv_at hl 1 rfl) ?_
        refine va_get (D := (dC, dI)) (ci := 8) (v := .ref a0_15) (C := RX8) (T := TX8) (N := 40) hx hb hts zi_X8_minuteOn_8 hown hK hP 0 rfl rfl 15 (by decide) (hts (.fieldLink RX8 20 "WaxTurnsModel" "\x72" "[I") (zm_X8_minuteOn_r1 (List.mem_of_getElem? (i := 1) rfl))) (fun _ h9 => h9) rfl dX8_minuteOn_114 ?_
        refine lv_iconst (v := 1) hx hb dX8_minuteOn_117 zk_iconst_1 ?_
        refine va_iald hx hb hK hP 2 1 rfl rfl (by unfold vp_in; decide +kernel) dX8_minuteOn_118 ?_
        refine lv_topi (fun x118 ex118 => ?_)
        have bx118 : (1 : Int) ≤ x118.toInt ∧ x118.toInt ≤ 20 := by rw [ex118]; exact ai_rd bfa0_15.2.1 zq1 zq0 (by decide) (by decide) (by decide)
        have fqx118 := congrArg Int32.toInt ex118
        have hF0 := hF0.trans (fl_lt_eq (show x118.toInt = (fl_A fa0_15) (1) from fqx118))
        refine lv_icmp_ge (tgt := 123) hx hb dX8_minuteOn_119 (by decide) (fun c119 => ?_) (fun c119 => ?_)
        · have gc119 := ai_le c119
          have u119t_x118 : x118.toInt ≤ (20 : Int) := bx118.2
          have l119t_x107 : (1 : Int) ≤ x107.toInt := bx107.1
          have hF0 := hF0.trans (if_pos (show x118.toInt ≤ x107.toInt from gc119))
          refine lv_aload_n hx hb dX8_minuteOn_123 rfl (lv_at hl 2 rfl) ?_
          refine lv_bipush (v := 20) hx hb dX8_minuteOn_124 zk_bipush_20 ?_
          refine lv_iconst (v := 0) hx hb dX8_minuteOn_126 zk_iconst_0 ?_
          refine va_iast hx hb hK hP hD hS 1 0 rfl rfl (by unfold vp_in; decide +kernel) dX8_minuteOn_127 (fun H locs hP hD hS => ?_)
          obtain ⟨f127, ef127⟩ : ∃ g9 : Nat → Int32, g9 = upd f108 (20 : Int32).toNatClampNeg (0 : Int32) := ⟨_, rfl⟩
          refine zs_1 (y := (a1, .inl (ka1, 23, .inl (f127)))) hP hD (by rw [ef127]) (fun hP hD => ?_)
          have bf127 : ((∀ k : Nat, 0 ≤ k → k ≤ 8 → (0 : Int) ≤ (f127 k).toInt ∧ (f127 k).toInt ≤ 8) ∧ (∀ k : Nat, 19 ≤ k → k ≤ 19 → (0 : Int) ≤ (f127 k).toInt ∧ (f127 k).toInt ≤ 8) ∧ (∀ k : Nat, 20 ≤ k → k ≤ 20 → (0 : Int) ≤ (f127 k).toInt ∧ (f127 k).toInt ≤ 19)) := by rw [ef127]; exact ⟨ai_updO bf108.1 _ (Or.inr (ai_ngt_of zq153 (by decide) (by decide))), ai_updO bf108.2.1 _ (Or.inr (ai_ngt_of zq153 (by decide) (by decide))), ai_new (by decide +kernel) ⟨zq5, (Int.le_trans zq6 zq163)⟩⟩
          have kf127_20 : f127 20 = 0 := by rw [ef127]; exact ai_k1 (by decide +kernel)
          have kf127_21 : f127 21 = x99 := by rw [ef127]; exact ai_k2 (by decide +kernel) kf108_21
          have fqf127 := fl_up_eq ef127
          have hF0 := hF0.trans (fl_lt_eq (show (fl_A f127) = fl_up (fl_A f108) (20) 0 from fqf127))
          refine lv_aload_n hx hb dX8_minuteOn_128 rfl (lv_at hl 2 rfl) ?_
          refine lv_bipush (v := 19) hx hb dX8_minuteOn_129 zk_bipush_19 ?_
          refine lv_aload_n hx hb dX8_minuteOn_131 rfl (lv_at hl 1 rfl) ?_
          refine lv_iload_n hx hb dX8_minuteOn_132 rfl (lv_at hl 0 rfl) ?_
          refine zc_cutc (wc := [(a0, .inr (8, [a0g_0, a0g_1, a0g_2, a0g_3, a0g_4, a0g_5, a0g_6, a0g_7, a0g_8, a0g_9, a0g_10, a0g_11, a0g_12, a0g_13, a0g_14, Value.ref a0_15, a0g_16, a0g_17, a0g_18, a0g_19, a0g_20, a0g_21, a0g_22, Value.ref a0_23, Value.ref a0_24, Value.int a0_25, Value.int x3, Value.int (-1), Value.int 0, a0g_29, a0g_30, a0g_31, a0g_32, a0g_33, a0g_34, a0g_35, a0g_36, a0g_37, a0g_38, a0g_39])), (a0_15, .inl (ka0_15, 156, .inl (fa0_15)))]) hP hD hS hA [0, 2] (by decide +kernel) rfl (fun hPc hDc hFc hCc => ?_)
          have hKc := hK.sub (tys' := [(ka0_15, .int)]) [1] rfl
          refine va_calli (va_runV (As := [.int x3]) (rest := [.int 19, .ref a1]) ⟨hx, hb, hml, hown, hts⟩ (f_X8_nextOf l dC dI H.size a0 x3 a0g_0 a0g_1 a0g_2 a0g_3 a0g_4 a0g_5 a0g_6 a0g_7 a0g_8 a0g_9 a0g_10 a0g_11 a0g_12 a0g_13 a0g_14 a0g_16 a0g_17 a0g_18 a0g_19 a0g_20 a0g_21 a0g_22 (Value.ref a0_23) (Value.ref a0_24) (Value.int a0_25) (Value.int x3) (Value.int (-1)) (Value.int 0) a0g_29 a0g_30 a0g_31 a0g_32 a0g_33 a0g_34 a0g_35 a0g_36 a0g_37 a0g_38 a0g_39 a0_15 ka0_15 fa0_15 bx3.1 bx3.2 bfa0_15) (cwV 1 hts gX8_minuteOn_X8_nextOf rfl rfl rfl zd_X8_nextOf ⟨Nat.le_of_ble_eq_true rfl, Nat.le_of_ble_eq_true rfl⟩) ⟨ax_blind (fun _ _ _ _ _ => trivial), zr_8 hKc hPc (q0 := 0) rfl, ax_pre hPc hKc hDc (fun _ _ => trivial)⟩ rfl rfl hl.1 rfl (lv_room (Nat.le_of_ble_eq_true rfl)) dX8_minuteOn_133 ⟨Nat.le_of_ble_eq_true rfl, Nat.le_of_ble_eq_true rfl⟩) hS (fun q _ h => hFc q h) hFc (fun r133 u t H locs ht hvm hw hB hz1 hk1 hS1 => zo hB ht hS1 (fun hP1 hK1 hD1 hS => ?_))
          refine zc_backc (w := [(a0, .inr (8, [a0g_0, a0g_1, a0g_2, a0g_3, a0g_4, a0g_5, a0g_6, a0g_7, a0g_8, a0g_9, a0g_10, a0g_11, a0g_12, a0g_13, a0g_14, Value.ref a0_15, a0g_16, a0g_17, a0g_18, a0g_19, a0g_20, a0g_21, a0g_22, Value.ref a0_23, Value.ref a0_24, Value.int a0_25, Value.int x3, Value.int (-1), Value.int 0, a0g_29, a0g_30, a0g_31, a0g_32, a0g_33, a0g_34, a0g_35, a0g_36, a0g_37, a0g_38, a0g_39])), (a1, .inl (ka1, 23, .inl (f127))), (a0_15, .inl (ka0_15, 156, .inl (fa0_15))), (a0_24, .inl (ka0_24, 3, .inl (fa0_24))), (a0_23, .inl (ka0_23, 3, .inl (fa0_23)))]) hP hD hCc hk1 hFc hP1 hD1 [.inr 0, .inl 1, .inr 1, .inl 3, .inl 4] (by decide +kernel) rfl (fun hP hD => ?_)
          obtain ⟨hw, hfr133⟩ := hw
          have hc133 : Ff_X8_nextOf x3.toInt (fl_A fa0_15) = r133.toInt := hfr133.symm
          have hF0 := hF0.trans (fl_lt_eq hc133.symm)
          have hw : (0 : Int) ≤ r133.toInt ∧ r133.toInt ≤ (8 : Int) := hw
          obtain ⟨h133_0, h133_1⟩ := hw
          refine va_iast hx hb hK hP hD hS 1 0 rfl rfl (by unfold vp_in; decide +kernel) dX8_minuteOn_136 (fun H locs hP hD hS => ?_)
          obtain ⟨f136, ef136⟩ : ∃ g9 : Nat → Int32, g9 = upd f127 (19 : Int32).toNatClampNeg r133 := ⟨_, rfl⟩
          refine zs_1 (y := (a1, .inl (ka1, 23, .inl (f136)))) hP hD (by rw [ef136]) (fun hP hD => ?_)
          have bf136 : ((∀ k : Nat, 0 ≤ k → k ≤ 8 → (0 : Int) ≤ (f136 k).toInt ∧ (f136 k).toInt ≤ 8) ∧ (∀ k : Nat, 19 ≤ k → k ≤ 19 → (0 : Int) ≤ (f136 k).toInt ∧ (f136 k).toInt ≤ 8) ∧ (∀ k : Nat, 20 ≤ k → k ≤ 20 → (0 : Int) ≤ (f136 k).toInt ∧ (f136 k).toInt ≤ 19)) := by rw [ef136]; exact ⟨ai_updO bf127.1 _ (Or.inr (ai_ngt_of zq160 (by decide) (by decide))), ai_updS bf127.2.1 _ ⟨h133_0, h133_1⟩, ai_updO bf127.2.2 _ (Or.inl (ai_nlt_of zq160 zq161 (by decide) (by decide)))⟩
          have kf136_19 : f136 19 = r133 := by rw [ef136]; exact ai_k1 (by decide +kernel)
          have kf136_20 : f136 20 = 0 := by rw [ef136]; exact ai_k2 (by decide +kernel) kf127_20
          have kf136_21 : f136 21 = x99 := by rw [ef136]; exact ai_k2 (by decide +kernel) kf127_21
          have fqf136 := fl_up_eq ef136
          have hF0 := hF0.trans (fl_lt_eq (show (fl_A f136) = fl_up (fl_A f127) (19) r133.toInt from fqf136))
          have hFe : FX = (x3.toInt, (-1), 0, (fl_A f136)) := hF0
          exact W.vret hx hb hr (fun t ht hW => ⟨⟨(), rfl, trivial, x3, (-1), 0, f136, bf136, hFe, by rw [ht]; exact hP, va_K.moved hW.alike hK, hD⟩, hS.F ht⟩) hS.2.2 dX8_minuteOn_137
        · have gc119 := ai_nle c119
          have u119f_x107 : x107.toInt ≤ (19 : Int) := ai_lthi gc119 bx118.2
          have u119f_x105 : x105.toInt ≤ (18 : Int) := by have h1 := wx107; have h2 := u119f_x107; omega
          have l119f_x118 : (2 : Int) ≤ x118.toInt := ai_ltlo gc119 bx107.1
          have hF0 := hF0.trans (if_neg (show ¬ (x118.toInt ≤ x107.toInt) from Int.not_le.mpr gc119))
          have hFe : FX = (x3.toInt, (-1), 0, (fl_A f108)) := hF0
          exact W.vret hx hb hr (fun t ht hW => ⟨⟨(), rfl, trivial, x3, (-1), 0, f108, ⟨bf108.1, bf108.2.1, ai_one (by rw [kf108_20]; exact ⟨(Int.le_trans zq4 bx107.1), u119f_x107⟩)⟩, hFe, by rw [ht]; exact hP, va_K.moved hW.alike hK, hD⟩, hS.F ht⟩) hS.2.2 dX8_minuteOn_122
      · subst hw
        have hF0 := hF0.trans (if_neg (by decide))
        refine lv_if_eq (tgt := 87) hx hb dX8_minuteOn_80 (by decide) (fun _ => ?_) (fun c80 => absurd (by decide +kernel) c80)
        refine lv_aload_n hx hb dX8_minuteOn_87 rfl (lv_at hl 2 rfl) ?_
        refine lv_iload_n hx hb dX8_minuteOn_88 rfl (lv_at hl 0 rfl) ?_
        refine va_iald hx hb hK hP 1 0 rfl rfl (ai_in bx3.1 bx3.2 (by decide) (by decide)) dX8_minuteOn_89 ?_
        refine lv_topi (fun x89 ex89 => ?_)
        have bx89 : (0 : Int) ≤ x89.toInt ∧ x89.toInt ≤ 8 := by rw [ex89]; exact ai_rd bv39nfa1.1 bx3.1 bx3.2 (by decide) (by decide) (by decide)
        have fqx89 := congrArg Int32.toInt ex89
        have hF0 := hF0.trans (fl_lt_eq (show x89.toInt = (fl_A v39nfa1) (x3.toInt.toNat) from fqx89))
        refine va_put (D := (dC, dI)) (ci := 8) (v := .int x89) (ty := .int) (C := RX8) (T := TX8) (N := 40) hx hb hts zi_X8_minuteOn_8 tyX8 tyX8_ok nmX8 hown hK hP hD hS 0 rfl rfl 27 (by decide) (hts (.fieldLink RX8 261 "WaxTurnsModel" "livedAt" "I") (zm_X8_minuteOn_r1 (List.mem_of_getElem? (i := 3) rfl))) (fun _ h9 => h9) rfl (tyX8_ok 27 (by decide)) rfl rfl (Nat.le_of_ble_eq_true rfl) dX8_minuteOn_90 (fun H locs hP hD hS => ?_)
        refine zs_0 (y := (a0, .inr (8, [a0g_0, a0g_1, a0g_2, a0g_3, a0g_4, a0g_5, a0g_6, a0g_7, a0g_8, a0g_9, a0g_10, a0g_11, a0g_12, a0g_13, a0g_14, Value.ref a0_15, a0g_16, a0g_17, a0g_18, a0g_19, a0g_20, a0g_21, a0g_22, Value.ref a0_23, Value.ref a0_24, Value.int a0_25, Value.int x3, Value.int x89, Value.int 0, a0g_29, a0g_30, a0g_31, a0g_32, a0g_33, a0g_34, a0g_35, a0g_36, a0g_37, a0g_38, a0g_39]))) hP hD rfl (fun hP hD => ?_)
        refine lv_aload_n hx hb dX8_minuteOn_93 rfl (lv_at hl 2 rfl) ?_
        refine lv_bipush (v := 21) hx hb dX8_minuteOn_94 zk_bipush_21 ?_
        refine lv_dup2_11 hx hb dX8_minuteOn_96 rfl rfl ?_
        refine va_iald hx hb hK hP 1 0 rfl rfl (by unfold vp_in; decide +kernel) dX8_minuteOn_97 ?_
        refine lv_topi (fun x97 ex97 => ?_)
        have fqx97 := congrArg Int32.toInt ex97
        have hF0 := hF0.trans (fl_lt_eq (show x97.toInt = (fl_A v39nfa1) (21) from fqx97))
        refine lv_iconst (v := 1) hx hb dX8_minuteOn_98 zk_iconst_1 ?_
        refine lv_iadd hx hb dX8_minuteOn_99 ?_
        refine lv_topi (fun x99 ex99 => ?_)
        have fqx99 := fl_iadd_eq ex99
        have hF0 := hF0.trans (fl_lt_eq (show x99.toInt = fl_iadd x97.toInt 1 from fqx99))
        refine va_iast hx hb hK hP hD hS 1 0 rfl rfl (by unfold vp_in; decide +kernel) dX8_minuteOn_100 (fun H locs hP hD hS => ?_)
        obtain ⟨f100, ef100⟩ : ∃ g9 : Nat → Int32, g9 = upd v39nfa1 (21 : Int32).toNatClampNeg x99 := ⟨_, rfl⟩
        refine zs_1 (y := (a1, .inl (ka1, 23, .inl (f100)))) hP hD (by rw [ef100]) (fun hP hD => ?_)
        have bf100 : ((∀ k : Nat, 0 ≤ k → k ≤ 8 → (0 : Int) ≤ (f100 k).toInt ∧ (f100 k).toInt ≤ 8) ∧ (∀ k : Nat, 19 ≤ k → k ≤ 19 → (0 : Int) ≤ (f100 k).toInt ∧ (f100 k).toInt ≤ 8) ∧ (∀ k : Nat, 20 ≤ k → k ≤ 20 → (0 : Int) ≤ (f100 k).toInt ∧ (f100 k).toInt ≤ 19)) := by rw [ef100]; exact ⟨ai_updO bv39nfa1.1 _ (Or.inr (ai_ngt_of zq162 (by decide) (by decide))), ai_updO bv39nfa1.2.1 _ (Or.inr (ai_ngt_of zq162 (by decide) (by decide))), ai_updO bv39nfa1.2.2 _ (Or.inr (ai_ngt_of zq162 (by decide) (by decide)))⟩
        have kf100_21 : f100 21 = x99 := by rw [ef100]; exact ai_k1 (by decide +kernel)
        have fqf100 := fl_up_eq ef100
        have hF0 := hF0.trans (fl_lt_eq (show (fl_A f100) = fl_up (fl_A v39nfa1) (21) x99.toInt from fqf100))
        refine lv_aload_n hx hb dX8_minuteOn_101 rfl (lv_at hl 2 rfl) ?_
        refine lv_bipush (v := 20) hx hb dX8_minuteOn_102 zk_bipush_20 ?_
        refine lv_dup2_11 hx hb dX8_minuteOn_104 rfl rfl ?_
        refine va_iald hx hb hK hP 1 0 rfl rfl (by unfold vp_in; decide +kernel) dX8_minuteOn_105 ?_
        refine lv_topi (fun x105 ex105 => ?_)
        have bx105 : (0 : Int) ≤ x105.toInt ∧ x105.toInt ≤ 19 := by rw [ex105]; exact ai_rd bf100.2.2 zq153 zq154 (by decide) (by decide) (by decide)
        have fqx105 := congrArg Int32.toInt ex105
        have hF0 := hF0.trans (fl_lt_eq (show x105.toInt = (fl_A f100) (20) from fqx105))
        refine lv_iconst (v := 1) hx hb dX8_minuteOn_106 zk_iconst_1 ?_
        refine lv_iadd hx hb dX8_minuteOn_107 ?_
        refine lv_topi (fun x107 ex107 => ?_)
        have qx107 : x107.toInt = x105.toInt + (1 : Int32).toInt := ai_add ex107 ⟨bx105.1, bx105.2⟩ ⟨zq1, zq0⟩ (by decide) (by decide)
        have bx107 : (1 : Int) ≤ x107.toInt ∧ x107.toInt ≤ 20 := ⟨by rw [qx107]; exact Int.add_le_add bx105.1 zq1, by rw [qx107]; exact Int.add_le_add bx105.2 zq0⟩
        have wx107 : x107.toInt = x105.toInt + 1 := qx107
        have hF0 := hF0.trans (fl_lt_eq (show x107.toInt = x105.toInt + 1 from qx107))
        refine va_iast hx hb hK hP hD hS 1 0 rfl rfl (by unfold vp_in; decide +kernel) dX8_minuteOn_108 (fun H locs hP hD hS => ?_)
        obtain ⟨f108, ef108⟩ : ∃ g9 : Nat → Int32, g9 = upd f100 (20 : Int32).toNatClampNeg x107 := ⟨_, rfl⟩
        refine zs_1 (y := (a1, .inl (ka1, 23, .inl (f108)))) hP hD (by rw [ef108]) (fun hP hD => ?_)
        have bf108 : ((∀ k : Nat, 0 ≤ k → k ≤ 8 → (0 : Int) ≤ (f108 k).toInt ∧ (f108 k).toInt ≤ 8) ∧ (∀ k : Nat, 19 ≤ k → k ≤ 19 → (0 : Int) ≤ (f108 k).toInt ∧ (f108 k).toInt ≤ 8) ∧ True) := by rw [ef108]; exact ⟨ai_updO bf100.1 _ (Or.inr (ai_ngt_of zq153 (by decide) (by decide))), ai_updO bf100.2.1 _ (Or.inr (ai_ngt_of zq153 (by decide) (by decide))), trivial⟩
        have kf108_20 : f108 20 = x107 := by rw [ef108]; exact ai_k1 (by decide +kernel)
        have kf108_21 : f108 21 = x99 := by rw [ef108]; exact ai_k2 (by decide +kernel) kf100_21
        have fqf108 := fl_up_eq ef108
        have hF0 := hF0.trans (fl_lt_eq (show (fl_A f108) = fl_up (fl_A f100) (20) x107.toInt from fqf108))
        refine lv_aload_n hx hb dX8_minuteOn_109 rfl (lv_at hl 2 rfl) ?_
        refine lv_bipush (v := 20) hx hb dX8_minuteOn_110 zk_bipush_20 ?_
        refine va_iald hx hb hK hP 1 0 rfl rfl (by unfold vp_in; decide +kernel) dX8_minuteOn_112 ?_
        refine ax_ti x107 ((congrArg f108 (by decide +kernel : (20 : Int32).toNatClampNeg = 20)).trans kf108_20) ?_
        refine lv_aload_n hx hb dX8_minuteOn_113 rfl (lv_at hl 1 rfl) ?_
        refine va_get (D := (dC, dI)) (ci := 8) (v := .ref a0_15) (C := RX8) (T := TX8) (N := 40) hx hb hts zi_X8_minuteOn_8 hown hK hP 0 rfl rfl 15 (by decide) (hts (.fieldLink RX8 20 "WaxTurnsModel" "\x72" "[I") (zm_X8_minuteOn_r1 (List.mem_of_getElem? (i := 1) rfl))) (fun _ h9 => h9) rfl dX8_minuteOn_114 ?_
        refine lv_iconst (v := 1) hx hb dX8_minuteOn_117 zk_iconst_1 ?_
        refine va_iald hx hb hK hP 2 1 rfl rfl (by unfold vp_in; decide +kernel) dX8_minuteOn_118 ?_
        refine lv_topi (fun x118 ex118 => ?_)
        have bx118 : (1 : Int) ≤ x118.toInt ∧ x118.toInt ≤ 20 := by rw [ex118]; exact ai_rd bfa0_15.2.1 zq1 zq0 (by decide) (by decide) (by decide)
        have fqx118 := congrArg Int32.toInt ex118
        have hF0 := hF0.trans (fl_lt_eq (show x118.toInt = (fl_A fa0_15) (1) from fqx118))
        refine lv_icmp_ge (tgt := 123) hx hb dX8_minuteOn_119 (by decide) (fun c119 => ?_) (fun c119 => ?_)
        · have gc119 := ai_le c119
          have u119t_x118 : x118.toInt ≤ (20 : Int) := bx118.2
          have l119t_x107 : (1 : Int) ≤ x107.toInt := bx107.1
          have hF0 := hF0.trans (if_pos (show x118.toInt ≤ x107.toInt from gc119))
          refine lv_aload_n hx hb dX8_minuteOn_123 rfl (lv_at hl 2 rfl) ?_
          refine lv_bipush (v := 20) hx hb dX8_minuteOn_124 zk_bipush_20 ?_
          refine lv_iconst (v := 0) hx hb dX8_minuteOn_126 zk_iconst_0 ?_
          refine va_iast hx hb hK hP hD hS 1 0 rfl rfl (by unfold vp_in; decide +kernel) dX8_minuteOn_127 (fun H locs hP hD hS => ?_)
          obtain ⟨f127, ef127⟩ : ∃ g9 : Nat → Int32, g9 = upd f108 (20 : Int32).toNatClampNeg (0 : Int32) := ⟨_, rfl⟩
          refine zs_1 (y := (a1, .inl (ka1, 23, .inl (f127)))) hP hD (by rw [ef127]) (fun hP hD => ?_)
          have bf127 : ((∀ k : Nat, 0 ≤ k → k ≤ 8 → (0 : Int) ≤ (f127 k).toInt ∧ (f127 k).toInt ≤ 8) ∧ (∀ k : Nat, 19 ≤ k → k ≤ 19 → (0 : Int) ≤ (f127 k).toInt ∧ (f127 k).toInt ≤ 8) ∧ (∀ k : Nat, 20 ≤ k → k ≤ 20 → (0 : Int) ≤ (f127 k).toInt ∧ (f127 k).toInt ≤ 19)) := by rw [ef127]; exact ⟨ai_updO bf108.1 _ (Or.inr (ai_ngt_of zq153 (by decide) (by decide))), ai_updO bf108.2.1 _ (Or.inr (ai_ngt_of zq153 (by decide) (by decide))), ai_new (by decide +kernel) ⟨zq5, (Int.le_trans zq6 zq163)⟩⟩
          have kf127_20 : f127 20 = 0 := by rw [ef127]; exact ai_k1 (by decide +kernel)
          have kf127_21 : f127 21 = x99 := by rw [ef127]; exact ai_k2 (by decide +kernel) kf108_21
          have fqf127 := fl_up_eq ef127
          have hF0 := hF0.trans (fl_lt_eq (show (fl_A f127) = fl_up (fl_A f108) (20) 0 from fqf127))
          refine lv_aload_n hx hb dX8_minuteOn_128 rfl (lv_at hl 2 rfl) ?_
          refine lv_bipush (v := 19) hx hb dX8_minuteOn_129 zk_bipush_19 ?_
          refine lv_aload_n hx hb dX8_minuteOn_131 rfl (lv_at hl 1 rfl) ?_
          refine lv_iload_n hx hb dX8_minuteOn_132 rfl (lv_at hl 0 rfl) ?_
          refine zc_cutc (wc := [(a0, .inr (8, [a0g_0, a0g_1, a0g_2, a0g_3, a0g_4, a0g_5, a0g_6, a0g_7, a0g_8, a0g_9, a0g_10, a0g_11, a0g_12, a0g_13, a0g_14, Value.ref a0_15, a0g_16, a0g_17, a0g_18, a0g_19, a0g_20, a0g_21, a0g_22, Value.ref a0_23, Value.ref a0_24, Value.int a0_25, Value.int x3, Value.int x89, Value.int 0, a0g_29, a0g_30, a0g_31, a0g_32, a0g_33, a0g_34, a0g_35, a0g_36, a0g_37, a0g_38, a0g_39])), (a0_15, .inl (ka0_15, 156, .inl (fa0_15)))]) hP hD hS hA [0, 2] (by decide +kernel) rfl (fun hPc hDc hFc hCc => ?_)
          have hKc := hK.sub (tys' := [(ka0_15, .int)]) [1] rfl
          refine va_calli (va_runV (As := [.int x3]) (rest := [.int 19, .ref a1]) ⟨hx, hb, hml, hown, hts⟩ (f_X8_nextOf l dC dI H.size a0 x3 a0g_0 a0g_1 a0g_2 a0g_3 a0g_4 a0g_5 a0g_6 a0g_7 a0g_8 a0g_9 a0g_10 a0g_11 a0g_12 a0g_13 a0g_14 a0g_16 a0g_17 a0g_18 a0g_19 a0g_20 a0g_21 a0g_22 (Value.ref a0_23) (Value.ref a0_24) (Value.int a0_25) (Value.int x3) (Value.int x89) (Value.int 0) a0g_29 a0g_30 a0g_31 a0g_32 a0g_33 a0g_34 a0g_35 a0g_36 a0g_37 a0g_38 a0g_39 a0_15 ka0_15 fa0_15 bx3.1 bx3.2 bfa0_15) (cwV 1 hts gX8_minuteOn_X8_nextOf rfl rfl rfl zd_X8_nextOf ⟨Nat.le_of_ble_eq_true rfl, Nat.le_of_ble_eq_true rfl⟩) ⟨ax_blind (fun _ _ _ _ _ => trivial), zr_8 hKc hPc (q0 := 0) rfl, ax_pre hPc hKc hDc (fun _ _ => trivial)⟩ rfl rfl hl.1 rfl (lv_room (Nat.le_of_ble_eq_true rfl)) dX8_minuteOn_133 ⟨Nat.le_of_ble_eq_true rfl, Nat.le_of_ble_eq_true rfl⟩) hS (fun q _ h => hFc q h) hFc (fun r133 u t H locs ht hvm hw hB hz1 hk1 hS1 => zo hB ht hS1 (fun hP1 hK1 hD1 hS => ?_))
          refine zc_backc (w := [(a0, .inr (8, [a0g_0, a0g_1, a0g_2, a0g_3, a0g_4, a0g_5, a0g_6, a0g_7, a0g_8, a0g_9, a0g_10, a0g_11, a0g_12, a0g_13, a0g_14, Value.ref a0_15, a0g_16, a0g_17, a0g_18, a0g_19, a0g_20, a0g_21, a0g_22, Value.ref a0_23, Value.ref a0_24, Value.int a0_25, Value.int x3, Value.int x89, Value.int 0, a0g_29, a0g_30, a0g_31, a0g_32, a0g_33, a0g_34, a0g_35, a0g_36, a0g_37, a0g_38, a0g_39])), (a1, .inl (ka1, 23, .inl (f127))), (a0_15, .inl (ka0_15, 156, .inl (fa0_15))), (a0_24, .inl (ka0_24, 3, .inl (fa0_24))), (a0_23, .inl (ka0_23, 3, .inl (fa0_23)))]) hP hD hCc hk1 hFc hP1 hD1 [.inr 0, .inl 1, .inr 1, .inl 3, .inl 4] (by decide +kernel) rfl (fun hP hD => ?_)
          obtain ⟨hw, hfr133⟩ := hw
          have hc133 : Ff_X8_nextOf x3.toInt (fl_A fa0_15) = r133.toInt := hfr133.symm
          have hF0 := hF0.trans (fl_lt_eq hc133.symm)
          have hw : (0 : Int) ≤ r133.toInt ∧ r133.toInt ≤ (8 : Int) := hw
          obtain ⟨h133_0, h133_1⟩ := hw
          refine va_iast hx hb hK hP hD hS 1 0 rfl rfl (by unfold vp_in; decide +kernel) dX8_minuteOn_136 (fun H locs hP hD hS => ?_)
          obtain ⟨f136, ef136⟩ : ∃ g9 : Nat → Int32, g9 = upd f127 (19 : Int32).toNatClampNeg r133 := ⟨_, rfl⟩
          refine zs_1 (y := (a1, .inl (ka1, 23, .inl (f136)))) hP hD (by rw [ef136]) (fun hP hD => ?_)
          have bf136 : ((∀ k : Nat, 0 ≤ k → k ≤ 8 → (0 : Int) ≤ (f136 k).toInt ∧ (f136 k).toInt ≤ 8) ∧ (∀ k : Nat, 19 ≤ k → k ≤ 19 → (0 : Int) ≤ (f136 k).toInt ∧ (f136 k).toInt ≤ 8) ∧ (∀ k : Nat, 20 ≤ k → k ≤ 20 → (0 : Int) ≤ (f136 k).toInt ∧ (f136 k).toInt ≤ 19)) := by rw [ef136]; exact ⟨ai_updO bf127.1 _ (Or.inr (ai_ngt_of zq160 (by decide) (by decide))), ai_updS bf127.2.1 _ ⟨h133_0, h133_1⟩, ai_updO bf127.2.2 _ (Or.inl (ai_nlt_of zq160 zq161 (by decide) (by decide)))⟩
          have kf136_19 : f136 19 = r133 := by rw [ef136]; exact ai_k1 (by decide +kernel)
          have kf136_20 : f136 20 = 0 := by rw [ef136]; exact ai_k2 (by decide +kernel) kf127_20
          have kf136_21 : f136 21 = x99 := by rw [ef136]; exact ai_k2 (by decide +kernel) kf127_21
          have fqf136 := fl_up_eq ef136
          have hF0 := hF0.trans (fl_lt_eq (show (fl_A f136) = fl_up (fl_A f127) (19) r133.toInt from fqf136))
          have hFe : FX = (x3.toInt, x89.toInt, 0, (fl_A f136)) := hF0
          exact W.vret hx hb hr (fun t ht hW => ⟨⟨(), rfl, trivial, x3, x89, 0, f136, bf136, hFe, by rw [ht]; exact hP, va_K.moved hW.alike hK, hD⟩, hS.F ht⟩) hS.2.2 dX8_minuteOn_137
        · have gc119 := ai_nle c119
          have u119f_x107 : x107.toInt ≤ (19 : Int) := ai_lthi gc119 bx118.2
          have u119f_x105 : x105.toInt ≤ (18 : Int) := by have h1 := wx107; have h2 := u119f_x107; omega
          have l119f_x118 : (2 : Int) ≤ x118.toInt := ai_ltlo gc119 bx107.1
          have hF0 := hF0.trans (if_neg (show ¬ (x118.toInt ≤ x107.toInt) from Int.not_le.mpr gc119))
          have hFe : FX = (x3.toInt, x89.toInt, 0, (fl_A f108)) := hF0
          exact W.vret hx hb hr (fun t ht hW => ⟨⟨(), rfl, trivial, x3, x89, 0, f108, ⟨bf108.1, bf108.2.1, ai_one (by rw [kf108_20]; exact ⟨(Int.le_trans zq4 bx107.1), u119f_x107⟩)⟩, hFe, by rw [ht]; exact hP, va_K.moved hW.alike hK, hD⟩, hS.F ht⟩) hS.2.2 dX8_minuteOn_122
