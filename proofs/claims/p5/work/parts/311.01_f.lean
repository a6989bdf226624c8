section P311_01_f
set_option maxHeartbeats 4000000 in
set_option maxRecDepth 100000 in
theorem f_X3_advance (l : Launch) (dC : Nat → ClassId) (dI : Nat → Nat → Nat) (sz : Nat) (a0 : Nat) (a0g_0 a0g_1 a0g_2 a0g_4 a0g_5 a0g_6 a0g_13 : Value) (a0_3 : Nat) (a0_7 : Int32) (a0_8 : Int32) (a0_9 : Int32) (a0_10 : Int32) (a0_11 : Int64) (a0_12 : Int32) (ka0_3 : ClassId) (fa0_3 : Nat → Int32) (ba0_7_l : (0 : Int) ≤ a0_7.toInt) (ba0_7_u : a0_7.toInt ≤ (900 : Int)) (ba0_8_l : (0 : Int) ≤ a0_8.toInt) (ba0_8_u : a0_8.toInt ≤ (900 : Int)) (ba0_9_l : (0 : Int) ≤ a0_9.toInt) (ba0_9_u : a0_9.toInt ≤ (900 : Int)) (ba0_10_l : (0 : Int) ≤ a0_10.toInt) (ba0_10_u : a0_10.toInt ≤ (4 : Int)) : zm l yX3_advance wsX3_advance ({ frames := 1, cells := 0, slots := 0, locals := 20 }) [.ref a0] dC dI sz [(a0, .inr (3, [a0g_0, a0g_1, a0g_2, .ref a0_3, a0g_4, a0g_5, a0g_6, .int a0_7, .int a0_8, .int a0_9, .int a0_10, .long a0_11, .int a0_12, a0g_13])), (a0_3, .inl (ka0_3, 900, .inl (fa0_3)))] [(ka0_3, .byte)] (fun A _ => True) (fun A => va_Qv (fun (_ : Unit) => True) (fun (_ : Unit) (t : State) => ∃ na0_8 : Int32, ∃ na0_9 : Int32, ∃ na0_10 : Int32, ∃ na0_11 : Int64, ∃ na0_12 : Int32, ((0 : Int) ≤ na0_8.toInt ∧ na0_8.toInt ≤ 900) ∧ ((0 : Int) ≤ na0_9.toInt ∧ na0_9.toInt ≤ 900) ∧ ((0 : Int) ≤ na0_10.toInt ∧ na0_10.toInt ≤ 4) ∧ (Ff_X3_advance a0_7.toInt a0_9.toInt a0_11.toInt a0_12.toInt (fl_A fa0_3) = (na0_8.toInt, na0_9.toInt, na0_10.toInt, na0_11.toInt, na0_12.toInt)) ∧ ax_B dC dI A [(a0, .inr (3, [a0g_0, a0g_1, a0g_2, .ref a0_3, a0g_4, a0g_5, a0g_6, .int a0_7, .int na0_8, .int na0_9, .int na0_10, .long na0_11, .int na0_12, a0g_13])), (a0_3, .inl (ka0_3, 900, .inl (fa0_3)))] [(ka0_3, .byte)] t) A) := by
  refine zh (cc := cX3_advance) (maxL := 1) (ret := none) zn_RX3 rfl (Nat.le_of_ble_eq_true rfl) (fun p e s m below meth c A ls hx hb hml hr hts (hown : s.vm.findClass RX3 = some m.cls) hlocks hA hS hP hK hD hE (hl : lv_has ls 1 [(0, .ref a0)]) => ?_)
  generalize hFX : Ff_X3_advance a0_7.toInt a0_9.toInt a0_11.toInt a0_12.toInt (fl_A fa0_3) = FX at ⊢
  have hF0 := hFX.symm.trans (Ff_X3_advance.eq_1 a0_7.toInt a0_9.toInt a0_11.toInt a0_12.toInt (fl_A fa0_3))
  refine ai_open (fun K hK0 => ?_)
  refine (hK0 _ _ _).mpr ?_
  have J0 : ∀ (n : Nat) (j0a0_9 : Int32) (H : Heap) (locs : List Loc) (ls : Array Slot), (901 : Int) - j0a0_9.toInt ≤ (n : Int) → (0 : Int) ≤ j0a0_9.toInt → j0a0_9.toInt ≤ (900 : Int) → (FX = fl_wh (Sf_X3_advance_0_1 a0_7.toInt a0_11.toInt a0_12.toInt (fl_A fa0_3)) (0, 0, 0, 0, 0) n j0a0_9.toInt) → va_P (dC, dI) vwCl [(a0, .inr (3, [a0g_0, a0g_1, a0g_2, .ref a0_3, a0g_4, a0g_5, a0g_6, .int a0_7, .int a0_8, .int j0a0_9, .int a0_10, .long a0_11, .int a0_12, a0g_13])), (a0_3, .inl (ka0_3, 900, .inl (fa0_3)))] H → va_D A [(a0, .inr (3, [a0g_0, a0g_1, a0g_2, .ref a0_3, a0g_4, a0g_5, a0g_6, .int a0_7, .int a0_8, .int j0a0_9, .int a0_10, .long a0_11, .int a0_12, a0g_13])), (a0_3, .inl (ka0_3, 900, .inl (fa0_3)))] → va_S A s.heap H locs → lv_has ls 1 [(0, .ref a0)] → K H locs (F0 m 0 ls []) := by
    intro n
    induction n with
    | zero =>
      intro j0a0_9 H locs ls hm bj0a0_9_l bj0a0_9_u hF0 hP hD hS hl
      first | exact zg_0 hm bj0a0_9_u (by decide) | (have h8 := ai_min j0a0_9; have h9 := ai_max j0a0_9; exact absurd hm (by omega))
    | succ n ih0 =>
      intro j0a0_9 H locs ls hm bj0a0_9_l bj0a0_9_u hF0 hP hD hS hl
      refine (hK0 _ _ _).mpr ?_
      have hm0 := hm
      obtain ⟨SX0, hSX0⟩ : ∃ q9, Sf_X3_advance_0_1 a0_7.toInt a0_11.toInt a0_12.toInt (fl_A fa0_3) j0a0_9.toInt = q9 := ⟨_, rfl⟩
      have hF1 := hSX0.symm.trans (Sf_X3_advance_0_1.eq_1 a0_7.toInt a0_11.toInt a0_12.toInt (fl_A fa0_3) j0a0_9.toInt)
      refine lv_aload_n hx hb dX3_advance_0 rfl (lv_at hl 0 rfl) ?_
      refine va_get (D := (dC, dI)) (ci := 3) (v := .int j0a0_9) (C := RX3) (T := TX3) (N := 14) hx hb hts zi_X3_advance_3 hown hK hP 0 rfl rfl 9 (by decide) (hts (.fieldLink RX3 51 "WaxTurns$Reade\x72" "behind" "I") (List.mem_cons_of_mem _ (List.mem_append_left _ (List.mem_of_getElem? (i := 0) rfl)))) (fun _ h9 => h9) rfl dX3_advance_1 ?_
      refine lv_aload_n hx hb dX3_advance_4 rfl (lv_at hl 0 rfl) ?_
      refine va_get (D := (dC, dI)) (ci := 3) (v := .int a0_7) (C := RX3) (T := TX3) (N := 14) hx hb hts zi_X3_advance_3 hown hK hP 0 rfl rfl 7 (by decide) (hts (.fieldLink RX3 36 "WaxTurns$Reade\x72" "end" "I") (List.mem_cons_of_mem _ (List.mem_append_left _ (List.mem_of_getElem? (i := 1) rfl)))) (fun _ h9 => h9) rfl dX3_advance_5 ?_
      have J38 : ∀ (H : Heap) (locs : List Loc) (ls : Array Slot), (FX = Gf_X3_advance_38_1 a0_7.toInt a0_11.toInt a0_12.toInt (fl_A fa0_3) j0a0_9.toInt) → va_P (dC, dI) vwCl [(a0, .inr (3, [a0g_0, a0g_1, a0g_2, .ref a0_3, a0g_4, a0g_5, a0g_6, .int a0_7, .int a0_8, .int j0a0_9, .int a0_10, .long a0_11, .int a0_12, a0g_13])), (a0_3, .inl (ka0_3, 900, .inl (fa0_3)))] H → va_D A [(a0, .inr (3, [a0g_0, a0g_1, a0g_2, .ref a0_3, a0g_4, a0g_5, a0g_6, .int a0_7, .int a0_8, .int j0a0_9, .int a0_10, .long a0_11, .int a0_12, a0g_13])), (a0_3, .inl (ka0_3, 900, .inl (fa0_3)))] → va_S A s.heap H locs → lv_has ls 1 [(0, .ref a0)] → K H locs (F0 m 38 ls []) := by
        intro  H locs ls  hF0 hP hD hS hl
        refine (hK0 _ _ _).mpr ?_
        have hF0 := hF0.trans (Gf_X3_advance_38_1.eq_1 a0_7.toInt a0_11.toInt a0_12.toInt (fl_A fa0_3) j0a0_9.toInt)
        refine lv_aload_n hx hb dX3_advance_38 rfl (lv_at hl 0 rfl) ?_
        refine lv_aload_n hx hb dX3_advance_39 rfl (lv_at hl 0 rfl) ?_
        refine va_get (D := (dC, dI)) (ci := 3) (v := .int j0a0_9) (C := RX3) (T := TX3) (N := 14) hx hb hts zi_X3_advance_3 hown hK hP 0 rfl rfl 9 (by decide) (hts (.fieldLink RX3 51 "WaxTurns$Reade\x72" "behind" "I") (List.mem_cons_of_mem _ (List.mem_append_left _ (List.mem_of_getElem? (i := 0) rfl)))) (fun _ h9 => h9) rfl dX3_advance_40 ?_
        refine va_put (D := (dC, dI)) (ci := 3) (v := .int j0a0_9) (ty := .int) (C := RX3) (T := TX3) (N := 14) hx hb hts zi_X3_advance_3 tyX3 tyX3_ok nmX3 hown hK hP hD hS 0 rfl rfl 8 (by decide) (hts (.fieldLink RX3 72 "WaxTurns$Reade\x72" "start" "I") (List.mem_cons_of_mem _ (List.mem_append_left _ (List.mem_of_getElem? (i := 3) rfl)))) (fun _ h9 => h9) rfl (tyX3_ok 8 (by decide)) rfl rfl (Nat.le_of_ble_eq_true rfl) dX3_advance_43 (fun H locs hP hD hS => ?_)
        refine zs_0 (y := (a0, .inr (3, [a0g_0, a0g_1, a0g_2, .ref a0_3, a0g_4, a0g_5, a0g_6, .int a0_7, .int j0a0_9, .int j0a0_9, .int a0_10, .long a0_11, .int a0_12, a0g_13]))) hP hD rfl (fun hP hD => ?_)
        refine lv_aload_n hx hb dX3_advance_46 rfl (lv_at hl 0 rfl) ?_
        refine va_get (D := (dC, dI)) (ci := 3) (v := .int j0a0_9) (C := RX3) (T := TX3) (N := 14) hx hb hts zi_X3_advance_3 hown hK hP 0 rfl rfl 8 (by decide) (hts (.fieldLink RX3 72 "WaxTurns$Reade\x72" "start" "I") (List.mem_cons_of_mem _ (List.mem_append_left _ (List.mem_of_getElem? (i := 3) rfl)))) (fun _ h9 => h9) rfl dX3_advance_47 ?_
        refine lv_aload_n hx hb dX3_advance_50 rfl (lv_at hl 0 rfl) ?_
        refine va_get (D := (dC, dI)) (ci := 3) (v := .int a0_7) (C := RX3) (T := TX3) (N := 14) hx hb hts zi_X3_advance_3 hown hK hP 0 rfl rfl 7 (by decide) (hts (.fieldLink RX3 36 "WaxTurns$Reade\x72" "end" "I") (List.mem_cons_of_mem _ (List.mem_append_left _ (List.mem_of_getElem? (i := 1) rfl)))) (fun _ h9 => h9) rfl dX3_advance_51 ?_
        refine lv_icmp_lt (tgt := 65) hx hb dX3_advance_54 (by decide) (fun c54 => ?_) (fun c54 => ?_)
        · have gc54 := ai_lt c54
          have u54t_j0a0_9 : j0a0_9.toInt ≤ (899 : Int) := ai_lthi gc54 ba0_7_u
          have l54t_a0_7 : (1 : Int) ≤ a0_7.toInt := ai_ltlo gc54 bj0a0_9_l
          have hF0 := hF0.trans (if_pos (show j0a0_9.toInt < a0_7.toInt from gc54))
          refine lv_aload_n hx hb dX3_advance_65 rfl (lv_at hl 0 rfl) ?_
          refine va_get (D := (dC, dI)) (ci := 3) (v := .ref a0_3) (C := RX3) (T := TX3) (N := 14) hx hb hts zi_X3_advance_3 hown hK hP 0 rfl rfl 3 (by decide) (hts (.fieldLink RX3 9 "WaxTurns$Reade\x72" "tape" "[B") (List.mem_cons_of_mem _ (List.mem_append_left _ (List.mem_of_getElem? (i := 2) rfl)))) (fun _ h9 => h9) rfl dX3_advance_66 ?_
          refine lv_aload_n hx hb dX3_advance_69 rfl (lv_at hl 0 rfl) ?_
          refine va_get (D := (dC, dI)) (ci := 3) (v := .int j0a0_9) (C := RX3) (T := TX3) (N := 14) hx hb hts zi_X3_advance_3 hown hK hP 0 rfl rfl 8 (by decide) (hts (.fieldLink RX3 72 "WaxTurns$Reade\x72" "start" "I") (List.mem_cons_of_mem _ (List.mem_append_left _ (List.mem_of_getElem? (i := 3) rfl)))) (fun _ h9 => h9) rfl dX3_advance_70 ?_
          refine va_bald hx hb hK hP 1 0 rfl rfl (ai_in bj0a0_9_l u54t_j0a0_9 (by decide) (by decide)) dX3_advance_73 ?_
          refine lv_topi (fun x73 ex73 => ?_)
          have fqx73 := congrArg Int32.toInt ex73
          have hF0 := hF0.trans (fl_lt_eq (show x73.toInt = (fl_A fa0_3) (j0a0_9.toInt.toNat) from fqx73))
          refine lv_bipush (v := 59) hx hb dX3_advance_74 zk_bipush_59 ?_
          refine lv_icmp_ne (tgt := 97) hx hb dX3_advance_76 (by decide) (fun c76 => ?_) (fun c76 => ?_)
          · have gc76 := ai_ne c76
            have hF0 := hF0.trans (if_neg (show ¬ (x73.toInt = 59) from  gc76))
            refine lv_aload_n hx hb dX3_advance_97 rfl (lv_at hl 0 rfl) ?_
            refine va_get (D := (dC, dI)) (ci := 3) (v := .ref a0_3) (C := RX3) (T := TX3) (N := 14) hx hb hts zi_X3_advance_3 hown hK hP 0 rfl rfl 3 (by decide) (hts (.fieldLink RX3 9 "WaxTurns$Reade\x72" "tape" "[B") (List.mem_cons_of_mem _ (List.mem_append_left _ (List.mem_of_getElem? (i := 2) rfl)))) (fun _ h9 => h9) rfl dX3_advance_98 ?_
            refine lv_aload_n hx hb dX3_advance_101 rfl (lv_at hl 0 rfl) ?_
            refine va_get (D := (dC, dI)) (ci := 3) (v := .int j0a0_9) (C := RX3) (T := TX3) (N := 14) hx hb hts zi_X3_advance_3 hown hK hP 0 rfl rfl 8 (by decide) (hts (.fieldLink RX3 72 "WaxTurns$Reade\x72" "start" "I") (List.mem_cons_of_mem _ (List.mem_append_left _ (List.mem_of_getElem? (i := 3) rfl)))) (fun _ h9 => h9) rfl dX3_advance_102 ?_
            refine va_bald hx hb hK hP 1 0 rfl rfl (ai_in bj0a0_9_l u54t_j0a0_9 (by decide) (by decide)) dX3_advance_105 ?_
            refine ax_ti x73 ex73.symm ?_
            refine lv_bipush (v := 97) hx hb dX3_advance_106 zk_bipush_97 ?_
            have J132 : ∀ (H : Heap) (locs : List Loc) (ls : Array Slot), (FX = Gf_X3_advance_132_1 a0_7.toInt a0_11.toInt a0_12.toInt (fl_A fa0_3) j0a0_9.toInt) → va_P (dC, dI) vwCl [(a0, .inr (3, [a0g_0, a0g_1, a0g_2, .ref a0_3, a0g_4, a0g_5, a0g_6, .int a0_7, .int j0a0_9, .int j0a0_9, .int a0_10, .long a0_11, .int a0_12, a0g_13])), (a0_3, .inl (ka0_3, 900, .inl (fa0_3)))] H → va_D A [(a0, .inr (3, [a0g_0, a0g_1, a0g_2, .ref a0_3, a0g_4, a0g_5, a0g_6, .int a0_7, .int j0a0_9, .int j0a0_9, .int a0_10, .long a0_11, .int a0_12, a0g_13])), (a0_3, .inl (ka0_3, 900, .inl (fa0_3)))] → va_S A s.heap H locs → lv_has ls 1 [(0, .ref a0)] → K H locs (F0 m 132 ls []) := by
              intro  H locs ls  hF0 hP hD hS hl
              refine (hK0 _ _ _).mpr ?_
              have hF0 := hF0.trans (Gf_X3_advance_132_1.eq_1 a0_7.toInt a0_11.toInt a0_12.toInt (fl_A fa0_3) j0a0_9.toInt)
              refine lv_aload_n hx hb dX3_advance_132 rfl (lv_at hl 0 rfl) ?_
              refine va_get (D := (dC, dI)) (ci := 3) (v := .ref a0_3) (C := RX3) (T := TX3) (N := 14) hx hb hts zi_X3_advance_3 hown hK hP 0 rfl rfl 3 (by decide) (hts (.fieldLink RX3 9 "WaxTurns$Reade\x72" "tape" "[B") (List.mem_cons_of_mem _ (List.mem_append_left _ (List.mem_of_getElem? (i := 2) rfl)))) (fun _ h9 => h9) rfl dX3_advance_133 ?_
              refine lv_aload_n hx hb dX3_advance_136 rfl (lv_at hl 0 rfl) ?_
              refine va_get (D := (dC, dI)) (ci := 3) (v := .int j0a0_9) (C := RX3) (T := TX3) (N := 14) hx hb hts zi_X3_advance_3 hown hK hP 0 rfl rfl 8 (by decide) (hts (.fieldLink RX3 72 "WaxTurns$Reade\x72" "start" "I") (List.mem_cons_of_mem _ (List.mem_append_left _ (List.mem_of_getElem? (i := 3) rfl)))) (fun _ h9 => h9) rfl dX3_advance_137 ?_
              refine va_bald hx hb hK hP 1 0 rfl rfl (ai_in bj0a0_9_l u54t_j0a0_9 (by decide) (by decide)) dX3_advance_140 ?_
              refine lv_topi (fun x140 ex140 => ?_)
              have fqx140 := congrArg Int32.toInt ex140
              have hF0 := hF0.trans (fl_lt_eq (show x140.toInt = (fl_A fa0_3) (j0a0_9.toInt.toNat) from fqx140))
              refine lv_bipush (v := 48) hx hb dX3_advance_141 zk_bipush_48 ?_
              have J167 : ∀ (H : Heap) (locs : List Loc) (ls : Array Slot), (FX = Gf_X3_advance_167_1 a0_11.toInt a0_12.toInt j0a0_9.toInt) → va_P (dC, dI) vwCl [(a0, .inr (3, [a0g_0, a0g_1, a0g_2, .ref a0_3, a0g_4, a0g_5, a0g_6, .int a0_7, .int j0a0_9, .int j0a0_9, .int a0_10, .long a0_11, .int a0_12, a0g_13])), (a0_3, .inl (ka0_3, 900, .inl (fa0_3)))] H → va_D A [(a0, .inr (3, [a0g_0, a0g_1, a0g_2, .ref a0_3, a0g_4, a0g_5, a0g_6, .int a0_7, .int j0a0_9, .int j0a0_9, .int a0_10, .long a0_11, .int a0_12, a0g_13])), (a0_3, .inl (ka0_3, 900, .inl (fa0_3)))] → va_S A s.heap H locs → lv_has ls 1 [(0, .ref a0)] → K H locs (F0 m 167 ls []) := by
                intro  H locs ls  hF0 hP hD hS hl
                refine (hK0 _ _ _).mpr ?_
                have hF0 := hF0.trans (Gf_X3_advance_167_1.eq_1 a0_11.toInt a0_12.toInt j0a0_9.toInt)
                refine lv_aload_n hx hb dX3_advance_167 rfl (lv_at hl 0 rfl) ?_
                refine lv_iconst (v := 4) hx hb dX3_advance_168 zk_iconst_4 ?_
                refine va_put (D := (dC, dI)) (ci := 3) (v := .int 4) (ty := .int) (C := RX3) (T := TX3) (N := 14) hx hb hts zi_X3_advance_3 tyX3 tyX3_ok nmX3 hown hK hP hD hS 0 rfl rfl 10 (by decide) (hts (.fieldLink RX3 61 "WaxTurns$Reade\x72" "token" "I") (List.mem_cons_of_mem _ (List.mem_append_left _ (List.mem_of_getElem? (i := 4) rfl)))) (fun _ h9 => h9) rfl (tyX3_ok 10 (by decide)) rfl rfl (Nat.le_of_ble_eq_true rfl) dX3_advance_169 (fun H locs hP hD hS => ?_)
                refine zs_0 (y := (a0, .inr (3, [a0g_0, a0g_1, a0g_2, .ref a0_3, a0g_4, a0g_5, a0g_6, .int a0_7, .int j0a0_9, .int j0a0_9, .int 4, .long a0_11, .int a0_12, a0g_13]))) hP hD rfl (fun hP hD => ?_)
                have hFe : FX = (j0a0_9.toInt, j0a0_9.toInt, 4, a0_11.toInt, a0_12.toInt) := hF0
                exact W.vret hx hb hr (fun t ht hW => ⟨⟨(), rfl, trivial, j0a0_9, j0a0_9, 4, a0_11, a0_12, ⟨bj0a0_9_l, Int.le_trans u54t_j0a0_9 (by decide)⟩, ⟨bj0a0_9_l, Int.le_trans u54t_j0a0_9 (by decide)⟩, ⟨Int.le_trans (by decide) zq68, zq67⟩, hFe, by rw [ht]; exact hP, va_K.moved hW.alike hK, hD⟩, hS.F ht⟩) hS.2.2 dX3_advance_172
              refine lv_icmp_lt (tgt := 167) hx hb dX3_advance_143 (by decide) (fun c143 => ?_) (fun c143 => ?_)
              · have gc143 := ai_lt c143
                have u143t_x140 : x140.toInt ≤ (47 : Int) := ai_lthi gc143 zq143
                have hF0 := hF0.trans (if_pos (show x140.toInt < 48 from gc143))
                exact (hK0 _ _ _).mp (J167  _ _ _   hF0 hP hD hS (lv_sub hl [0] rfl))
              · have gc143 := ai_nlt c143
                have l143f_x140 : (48 : Int) ≤ x140.toInt := Int.le_trans zq144 gc143
                have hF0 := hF0.trans (if_neg (show ¬ (x140.toInt < 48) from Int.not_lt.mpr gc143))
                refine lv_aload_n hx hb dX3_advance_146 rfl (lv_at hl 0 rfl) ?_
                refine va_get (D := (dC, dI)) (ci := 3) (v := .ref a0_3) (C := RX3) (T := TX3) (N := 14) hx hb hts zi_X3_advance_3 hown hK hP 0 rfl rfl 3 (by decide) (hts (.fieldLink RX3 9 "WaxTurns$Reade\x72" "tape" "[B") (List.mem_cons_of_mem _ (List.mem_append_left _ (List.mem_of_getElem? (i := 2) rfl)))) (fun _ h9 => h9) rfl dX3_advance_147 ?_
                refine lv_aload_n hx hb dX3_advance_150 rfl (lv_at hl 0 rfl) ?_
                refine va_get (D := (dC, dI)) (ci := 3) (v := .int j0a0_9) (C := RX3) (T := TX3) (N := 14) hx hb hts zi_X3_advance_3 hown hK hP 0 rfl rfl 8 (by decide) (hts (.fieldLink RX3 72 "WaxTurns$Reade\x72" "start" "I") (List.mem_cons_of_mem _ (List.mem_append_left _ (List.mem_of_getElem? (i := 3) rfl)))) (fun _ h9 => h9) rfl dX3_advance_151 ?_
                refine va_bald hx hb hK hP 1 0 rfl rfl (ai_in bj0a0_9_l u54t_j0a0_9 (by decide) (by decide)) dX3_advance_154 ?_
                refine ax_ti x140 ex140.symm ?_
                refine lv_bipush (v := 57) hx hb dX3_advance_155 zk_bipush_57 ?_
                refine lv_icmp_gt (tgt := 167) hx hb dX3_advance_157 (by decide) (fun c157 => ?_) (fun c157 => ?_)
                · have gc157 := ai_lt c157
                  have l157t_x140 : (58 : Int) ≤ x140.toInt := ai_ltlo gc157 zq145
                  have hF0 := hF0.trans (if_pos (show 57 < x140.toInt from gc157))
                  exact (hK0 _ _ _).mp (J167  _ _ _   hF0 hP hD hS (lv_sub hl [0] rfl))
                · have gc157 := ai_nlt c157
                  have u157f_x140 : x140.toInt ≤ (57 : Int) := Int.le_trans gc157 zq146
                  have hF0 := hF0.trans (if_neg (show ¬ (57 < x140.toInt) from Int.not_lt.mpr gc157))
                  refine lv_aload_n hx hb dX3_advance_160 rfl (lv_at hl 0 rfl) ?_
                  have hKc := hK.sub (tys' := [(ka0_3, .byte)]) [0] rfl
                  refine va_callv (va_runV (As := []) (rest := []) ⟨hx, hb, hml, hown, hts⟩ (f_X3_scanWhole l dC dI H.size a0 a0g_0 a0g_1 a0g_2 a0g_4 a0g_5 a0g_6 (.long a0_11) a0g_13 a0_3 a0_7 j0a0_9 j0a0_9 a0_10 a0_12 ka0_3 fa0_3 (Int.le_trans zq4 l54t_a0_7) ba0_7_u bj0a0_9_l (Int.le_trans u54t_j0a0_9 zq147) bj0a0_9_l (Int.le_trans u54t_j0a0_9 zq147) ba0_10_l ba0_10_u) (cwV 0 hts gX3_advance_X3_scanWhole rfl rfl rfl zd_X3_scanWhole ⟨Nat.le_of_ble_eq_true rfl, Nat.le_of_ble_eq_true rfl⟩) ⟨ax_blind (fun _ _ _ _ _ => trivial), zr_3 hKc (zp_P2 hP) (q0 := 0) rfl, ax_pre (zp_P2 hP) hKc (zp_D2 hD) (fun _ _ => trivial)⟩ rfl rfl hl.1 rfl (lv_room (Nat.le_of_ble_eq_true rfl)) dX3_advance_161 ⟨Nat.le_of_ble_eq_true rfl, Nat.le_of_ble_eq_true rfl⟩) hS (fun q _ h => zp_F2 hD hS hA q h) (zp_F2 hD hS hA) (fun u t H locs ht hvm hw => zx_3 (fun v161na0_9 v161na0_10 v161na0_12 => zy_3 (fun bv161na0_9 bv161na0_10 hraw161_0 hB hz1 hk1 hS1 => zo2 hB ht hP hD hk1 (zp_F2 hD hS hA) hS1 (fun hP hK1 hD hS => ?_))))
                  have hc161 : Ff_X3_scanWhole a0_7.toInt j0a0_9.toInt j0a0_9.toInt (fl_A fa0_3) = (v161na0_9.toInt, v161na0_10.toInt, v161na0_12.toInt) := hraw161_0
                  have hF0 := hF0.trans (fl_c3_eq hc161)
                  refine lv_goto (tgt := 172) hx hb dX3_advance_164 (by decide) ?_
                  have hFe : FX = (j0a0_9.toInt, v161na0_9.toInt, v161na0_10.toInt, a0_11.toInt, v161na0_12.toInt) := hF0
                  exact W.vret hx hb hr (fun t ht hW => ⟨⟨(), rfl, trivial, j0a0_9, v161na0_9, v161na0_10, a0_11, v161na0_12, ⟨bj0a0_9_l, Int.le_trans u54t_j0a0_9 (by decide)⟩, ⟨bv161na0_9.1, bv161na0_9.2⟩, ⟨bv161na0_10.1, bv161na0_10.2⟩, hFe, by rw [ht]; exact hP, va_K.moved hW.alike hK, hD⟩, hS.F ht⟩) hS.2.2 dX3_advance_172
            refine lv_icmp_lt (tgt := 132) hx hb dX3_advance_108 (by decide) (fun c108 => ?_) (fun c108 => ?_)
            · have gc108 := ai_lt c108
              have u108t_x73 : x73.toInt ≤ (96 : Int) := ai_lthi gc108 zq138
              have hF0 := hF0.trans (if_pos (show x73.toInt < 97 from gc108))
              exact (hK0 _ _ _).mp (J132  _ _ _   hF0 hP hD hS (lv_sub hl [0] rfl))
            · have gc108 := ai_nlt c108
              have l108f_x73 : (97 : Int) ≤ x73.toInt := Int.le_trans zq139 gc108
              have hF0 := hF0.trans (if_neg (show ¬ (x73.toInt < 97) from Int.not_lt.mpr gc108))
              refine lv_aload_n hx hb dX3_advance_111 rfl (lv_at hl 0 rfl) ?_
              refine va_get (D := (dC, dI)) (ci := 3) (v := .ref a0_3) (C := RX3) (T := TX3) (N := 14) hx hb hts zi_X3_advance_3 hown hK hP 0 rfl rfl 3 (by decide) (hts (.fieldLink RX3 9 "WaxTurns$Reade\x72" "tape" "[B") (List.mem_cons_of_mem _ (List.mem_append_left _ (List.mem_of_getElem? (i := 2) rfl)))) (fun _ h9 => h9) rfl dX3_advance_112 ?_
              refine lv_aload_n hx hb dX3_advance_115 rfl (lv_at hl 0 rfl) ?_
              refine va_get (D := (dC, dI)) (ci := 3) (v := .int j0a0_9) (C := RX3) (T := TX3) (N := 14) hx hb hts zi_X3_advance_3 hown hK hP 0 rfl rfl 8 (by decide) (hts (.fieldLink RX3 72 "WaxTurns$Reade\x72" "start" "I") (List.mem_cons_of_mem _ (List.mem_append_left _ (List.mem_of_getElem? (i := 3) rfl)))) (fun _ h9 => h9) rfl dX3_advance_116 ?_
              refine va_bald hx hb hK hP 1 0 rfl rfl (ai_in bj0a0_9_l u54t_j0a0_9 (by decide) (by decide)) dX3_advance_119 ?_
              refine ax_ti x73 ex73.symm ?_
              refine lv_bipush (v := 122) hx hb dX3_advance_120 zk_bipush_122 ?_
              refine lv_icmp_gt (tgt := 132) hx hb dX3_advance_122 (by decide) (fun c122 => ?_) (fun c122 => ?_)
              · have gc122 := ai_lt c122
                have l122t_x73 : (123 : Int) ≤ x73.toInt := ai_ltlo gc122 zq140
                have hF0 := hF0.trans (if_pos (show 122 < x73.toInt from gc122))
                exact (hK0 _ _ _).mp (J132  _ _ _   hF0 hP hD hS (lv_sub hl [0] rfl))
              · have gc122 := ai_nlt c122
                have u122f_x73 : x73.toInt ≤ (122 : Int) := Int.le_trans gc122 zq141
                have hF0 := hF0.trans (if_neg (show ¬ (122 < x73.toInt) from Int.not_lt.mpr gc122))
                refine lv_aload_n hx hb dX3_advance_125 rfl (lv_at hl 0 rfl) ?_
                have hKc := hK.sub (tys' := [(ka0_3, .byte)]) [0] rfl
                refine va_callv (va_runV (As := []) (rest := []) ⟨hx, hb, hml, hown, hts⟩ (f_X3_scanWord l dC dI H.size a0 a0g_0 a0g_1 a0g_2 a0g_4 a0g_5 a0g_6 (.int a0_12) a0g_13 a0_3 a0_7 j0a0_9 j0a0_9 a0_10 a0_11 ka0_3 fa0_3 (Int.le_trans zq4 l54t_a0_7) ba0_7_u bj0a0_9_l (Int.le_trans u54t_j0a0_9 zq147) bj0a0_9_l (Int.le_trans u54t_j0a0_9 zq147) ba0_10_l ba0_10_u) (cwV 0 hts gX3_advance_X3_scanWord rfl rfl rfl zd_X3_scanWord ⟨Nat.le_of_ble_eq_true rfl, Nat.le_of_ble_eq_true rfl⟩) ⟨ax_blind (fun _ _ _ _ _ => trivial), zr_3 hKc (zp_P2 hP) (q0 := 0) rfl, ax_pre (zp_P2 hP) hKc (zp_D2 hD) (fun _ _ => trivial)⟩ rfl rfl hl.1 rfl (lv_room (Nat.le_of_ble_eq_true rfl)) dX3_advance_126 ⟨Nat.le_of_ble_eq_true rfl, Nat.le_of_ble_eq_true rfl⟩) hS (fun q _ h => zp_F2 hD hS hA q h) (zp_F2 hD hS hA) (fun u t H locs ht hvm hw => zx_3 (fun v126na0_9 v126na0_10 v126na0_11 => zy_3 (fun bv126na0_9 bv126na0_10 hraw126_0 hB hz1 hk1 hS1 => zo2 hB ht hP hD hk1 (zp_F2 hD hS hA) hS1 (fun hP hK1 hD hS => ?_))))
                have hc126 : Ff_X3_scanWord a0_7.toInt j0a0_9.toInt j0a0_9.toInt (fl_A fa0_3) = (v126na0_9.toInt, v126na0_10.toInt, v126na0_11.toInt) := hraw126_0
                have hF0 := hF0.trans (fl_c3_eq hc126)
                refine lv_goto (tgt := 172) hx hb dX3_advance_129 (by decide) ?_
                have hFe : FX = (j0a0_9.toInt, v126na0_9.toInt, v126na0_10.toInt, v126na0_11.toInt, a0_12.toInt) := hF0
                exact W.vret hx hb hr (fun t ht hW => ⟨⟨(), rfl, trivial, j0a0_9, v126na0_9, v126na0_10, v126na0_11, a0_12, ⟨bj0a0_9_l, Int.le_trans u54t_j0a0_9 (by decide)⟩, ⟨bv126na0_9.1, bv126na0_9.2⟩, ⟨bv126na0_10.1, bv126na0_10.2⟩, hFe, by rw [ht]; exact hP, va_K.moved hW.alike hK, hD⟩, hS.F ht⟩) hS.2.2 dX3_advance_172
          · have gc76 := ai_eq c76
            have u76f_x73 : x73.toInt ≤ (59 : Int) := Int.le_trans (Int.le_of_eq gc76) zq148
            have l76f_x73 : (59 : Int) ≤ x73.toInt := Int.le_trans zq149 (Int.le_of_eq gc76.symm)
            have hF0 := hF0.trans (if_pos (show x73.toInt = 59 from gc76))
            refine lv_aload_n hx hb dX3_advance_79 rfl (lv_at hl 0 rfl) ?_
            refine lv_iconst (v := 3) hx hb dX3_advance_80 zk_iconst_3 ?_
            refine va_put (D := (dC, dI)) (ci := 3) (v := .int 3) (ty := .int) (C := RX3) (T := TX3) (N := 14) hx hb hts zi_X3_advance_3 tyX3 tyX3_ok nmX3 hown hK hP hD hS 0 rfl rfl 10 (by decide) (hts (.fieldLink RX3 61 "WaxTurns$Reade\x72" "token" "I") (List.mem_cons_of_mem _ (List.mem_append_left _ (List.mem_of_getElem? (i := 4) rfl)))) (fun _ h9 => h9) rfl (tyX3_ok 10 (by decide)) rfl rfl (Nat.le_of_ble_eq_true rfl) dX3_advance_81 (fun H locs hP hD hS => ?_)
            refine zs_0 (y := (a0, .inr (3, [a0g_0, a0g_1, a0g_2, .ref a0_3, a0g_4, a0g_5, a0g_6, .int a0_7, .int j0a0_9, .int j0a0_9, .int 3, .long a0_11, .int a0_12, a0g_13]))) hP hD rfl (fun hP hD => ?_)
            refine lv_aload_n hx hb dX3_advance_84 rfl (lv_at hl 0 rfl) ?_
            refine lv_dup hx hb dX3_advance_85 rfl ?_
            refine va_get (D := (dC, dI)) (ci := 3) (v := .int j0a0_9) (C := RX3) (T := TX3) (N := 14) hx hb hts zi_X3_advance_3 hown hK hP 0 rfl rfl 9 (by decide) (hts (.fieldLink RX3 51 "WaxTurns$Reade\x72" "behind" "I") (List.mem_cons_of_mem _ (List.mem_append_left _ (List.mem_of_getElem? (i := 0) rfl)))) (fun _ h9 => h9) rfl dX3_advance_86 ?_
            refine lv_iconst (v := 1) hx hb dX3_advance_89 zk_iconst_1 ?_
            refine lv_iadd hx hb dX3_advance_90 ?_
            refine lv_topi (fun x90 ex90 => ?_)
            have qx90 : x90.toInt = j0a0_9.toInt + (1 : Int32).toInt := ai_add ex90 ⟨bj0a0_9_l, u54t_j0a0_9⟩ ⟨zq1, zq0⟩ (by decide) (by decide)
            have bx90 : (1 : Int) ≤ x90.toInt ∧ x90.toInt ≤ 900 := ⟨by rw [qx90]; exact Int.add_le_add bj0a0_9_l zq1, by rw [qx90]; exact Int.add_le_add u54t_j0a0_9 zq0⟩
            have wx90 : x90.toInt = j0a0_9.toInt + 1 := qx90
            have hF0 := hF0.trans (fl_lt_eq (show x90.toInt = j0a0_9.toInt + 1 from qx90))
            refine va_put (D := (dC, dI)) (ci := 3) (v := .int x90) (ty := .int) (C := RX3) (T := TX3) (N := 14) hx hb hts zi_X3_advance_3 tyX3 tyX3_ok nmX3 hown hK hP hD hS 0 rfl rfl 9 (by decide) (hts (.fieldLink RX3 51 "WaxTurns$Reade\x72" "behind" "I") (List.mem_cons_of_mem _ (List.mem_append_left _ (List.mem_of_getElem? (i := 0) rfl)))) (fun _ h9 => h9) rfl (tyX3_ok 9 (by decide)) rfl rfl (Nat.le_of_ble_eq_true rfl) dX3_advance_91 (fun H locs hP hD hS => ?_)
            refine zs_0 (y := (a0, .inr (3, [a0g_0, a0g_1, a0g_2, .ref a0_3, a0g_4, a0g_5, a0g_6, .int a0_7, .int j0a0_9, .int x90, .int 3, .long a0_11, .int a0_12, a0g_13]))) hP hD rfl (fun hP hD => ?_)
            refine lv_goto (tgt := 172) hx hb dX3_advance_94 (by decide) ?_
            have hFe : FX = (j0a0_9.toInt, x90.toInt, 3, a0_11.toInt, a0_12.toInt) := hF0
            exact W.vret hx hb hr (fun t ht hW => ⟨⟨(), rfl, trivial, j0a0_9, x90, 3, a0_11, a0_12, ⟨bj0a0_9_l, Int.le_trans u54t_j0a0_9 (by decide)⟩, ⟨Int.le_trans (by decide) bx90.1, bx90.2⟩, ⟨Int.le_trans (by decide) zq8, Int.le_trans zq9 (by decide)⟩, hFe, by rw [ht]; exact hP, va_K.moved hW.alike hK, hD⟩, hS.F ht⟩) hS.2.2 dX3_advance_172
        · have gc54 := ai_nlt c54
          have u54f_a0_7 : a0_7.toInt ≤ (900 : Int) := ba0_7_u
          have l54f_j0a0_9 : (0 : Int) ≤ j0a0_9.toInt := bj0a0_9_l
          have hF0 := hF0.trans (if_neg (show ¬ (j0a0_9.toInt < a0_7.toInt) from Int.not_lt.mpr gc54))
          refine lv_aload_n hx hb dX3_advance_57 rfl (lv_at hl 0 rfl) ?_
          refine lv_iconst (v := 0) hx hb dX3_advance_58 zk_iconst_0 ?_
          refine va_put (D := (dC, dI)) (ci := 3) (v := .int 0) (ty := .int) (C := RX3) (T := TX3) (N := 14) hx hb hts zi_X3_advance_3 tyX3 tyX3_ok nmX3 hown hK hP hD hS 0 rfl rfl 10 (by decide) (hts (.fieldLink RX3 61 "WaxTurns$Reade\x72" "token" "I") (List.mem_cons_of_mem _ (List.mem_append_left _ (List.mem_of_getElem? (i := 4) rfl)))) (fun _ h9 => h9) rfl (tyX3_ok 10 (by decide)) rfl rfl (Nat.le_of_ble_eq_true rfl) dX3_advance_59 (fun H locs hP hD hS => ?_)
          refine zs_0 (y := (a0, .inr (3, [a0g_0, a0g_1, a0g_2, .ref a0_3, a0g_4, a0g_5, a0g_6, .int a0_7, .int j0a0_9, .int j0a0_9, .int 0, .long a0_11, .int a0_12, a0g_13]))) hP hD rfl (fun hP hD => ?_)
          refine lv_goto (tgt := 172) hx hb dX3_advance_62 (by decide) ?_
          have hFe : FX = (j0a0_9.toInt, j0a0_9.toInt, 0, a0_11.toInt, a0_12.toInt) := hF0
          exact W.vret hx hb hr (fun t ht hW => ⟨⟨(), rfl, trivial, j0a0_9, j0a0_9, 0, a0_11, a0_12, ⟨l54f_j0a0_9, bj0a0_9_u⟩, ⟨l54f_j0a0_9, bj0a0_9_u⟩, ⟨zq5, Int.le_trans zq6 (by decide)⟩, hFe, by rw [ht]; exact hP, va_K.moved hW.alike hK, hD⟩, hS.F ht⟩) hS.2.2 dX3_advance_172
      refine lv_icmp_ge (tgt := 38) hx hb dX3_advance_8 (by decide) (fun c8 => ?_) (fun c8 => ?_)
      · have gc8 := ai_le c8
        have u8t_a0_7 : a0_7.toInt ≤ (900 : Int) := ba0_7_u
        have l8t_j0a0_9 : (0 : Int) ≤ j0a0_9.toInt := bj0a0_9_l
        have hF1 := hF1.trans (if_pos (show a0_7.toInt ≤ j0a0_9.toInt from gc8))
        have hF0 := hF0.trans (fl_wh_r (hSX0.trans hF1))
        exact (hK0 _ _ _).mp (J38  _ _ _   hF0 hP hD hS (lv_sub hl [0] rfl))
      · have gc8 := ai_nle c8
        have u8f_j0a0_9 : j0a0_9.toInt ≤ (899 : Int) := ai_lthi gc8 ba0_7_u
        have l8f_a0_7 : (1 : Int) ≤ a0_7.toInt := ai_ltlo gc8 bj0a0_9_l
        have hF1 := hF1.trans (if_neg (show ¬ (a0_7.toInt ≤ j0a0_9.toInt) from Int.not_le.mpr gc8))
        refine lv_aload_n hx hb dX3_advance_11 rfl (lv_at hl 0 rfl) ?_
        refine va_get (D := (dC, dI)) (ci := 3) (v := .ref a0_3) (C := RX3) (T := TX3) (N := 14) hx hb hts zi_X3_advance_3 hown hK hP 0 rfl rfl 3 (by decide) (hts (.fieldLink RX3 9 "WaxTurns$Reade\x72" "tape" "[B") (List.mem_cons_of_mem _ (List.mem_append_left _ (List.mem_of_getElem? (i := 2) rfl)))) (fun _ h9 => h9) rfl dX3_advance_12 ?_
        refine lv_aload_n hx hb dX3_advance_15 rfl (lv_at hl 0 rfl) ?_
        refine va_get (D := (dC, dI)) (ci := 3) (v := .int j0a0_9) (C := RX3) (T := TX3) (N := 14) hx hb hts zi_X3_advance_3 hown hK hP 0 rfl rfl 9 (by decide) (hts (.fieldLink RX3 51 "WaxTurns$Reade\x72" "behind" "I") (List.mem_cons_of_mem _ (List.mem_append_left _ (List.mem_of_getElem? (i := 0) rfl)))) (fun _ h9 => h9) rfl dX3_advance_16 ?_
        refine va_bald hx hb hK hP 1 0 rfl rfl (ai_in bj0a0_9_l u8f_j0a0_9 (by decide) (by decide)) dX3_advance_19 ?_
        refine lv_topi (fun x19 ex19 => ?_)
        have fqx19 := congrArg Int32.toInt ex19
        have hF1 := hF1.trans (fl_lt_eq (show x19.toInt = (fl_A fa0_3) (j0a0_9.toInt.toNat) from fqx19))
        refine lv_bipush (v := 32) hx hb dX3_advance_20 zk_bipush_32 ?_
        refine lv_icmp_ne (tgt := 38) hx hb dX3_advance_22 (by decide) (fun c22 => ?_) (fun c22 => ?_)
        · have gc22 := ai_ne c22
          have hF1 := hF1.trans (if_neg (show ¬ (x19.toInt = 32) from  gc22))
          have hF0 := hF0.trans (fl_wh_r (hSX0.trans hF1))
          exact (hK0 _ _ _).mp (J38  _ _ _   hF0 hP hD hS (lv_sub hl [0] rfl))
        · have gc22 := ai_eq c22
          have u22f_x19 : x19.toInt ≤ (32 : Int) := Int.le_trans (Int.le_of_eq gc22) zq150
          have l22f_x19 : (32 : Int) ≤ x19.toInt := Int.le_trans zq151 (Int.le_of_eq gc22.symm)
          have hF1 := hF1.trans (if_pos (show x19.toInt = 32 from gc22))
          refine lv_aload_n hx hb dX3_advance_25 rfl (lv_at hl 0 rfl) ?_
          refine lv_dup hx hb dX3_advance_26 rfl ?_
          refine va_get (D := (dC, dI)) (ci := 3) (v := .int j0a0_9) (C := RX3) (T := TX3) (N := 14) hx hb hts zi_X3_advance_3 hown hK hP 0 rfl rfl 9 (by decide) (hts (.fieldLink RX3 51 "WaxTurns$Reade\x72" "behind" "I") (List.mem_cons_of_mem _ (List.mem_append_left _ (List.mem_of_getElem? (i := 0) rfl)))) (fun _ h9 => h9) rfl dX3_advance_27 ?_
          refine lv_iconst (v := 1) hx hb dX3_advance_30 zk_iconst_1 ?_
          refine lv_iadd hx hb dX3_advance_31 ?_
          refine lv_topi (fun x31 ex31 => ?_)
          have qx31 : x31.toInt = j0a0_9.toInt + (1 : Int32).toInt := ai_add ex31 ⟨bj0a0_9_l, u8f_j0a0_9⟩ ⟨zq1, zq0⟩ (by decide) (by decide)
          have bx31 : (1 : Int) ≤ x31.toInt ∧ x31.toInt ≤ 900 := ⟨by rw [qx31]; exact Int.add_le_add bj0a0_9_l zq1, by rw [qx31]; exact Int.add_le_add u8f_j0a0_9 zq0⟩
          have wx31 : x31.toInt = j0a0_9.toInt + 1 := qx31
          have hF1 := hF1.trans (fl_lt_eq (show x31.toInt = j0a0_9.toInt + 1 from qx31))
          refine va_put (D := (dC, dI)) (ci := 3) (v := .int x31) (ty := .int) (C := RX3) (T := TX3) (N := 14) hx hb hts zi_X3_advance_3 tyX3 tyX3_ok nmX3 hown hK hP hD hS 0 rfl rfl 9 (by decide) (hts (.fieldLink RX3 51 "WaxTurns$Reade\x72" "behind" "I") (List.mem_cons_of_mem _ (List.mem_append_left _ (List.mem_of_getElem? (i := 0) rfl)))) (fun _ h9 => h9) rfl (tyX3_ok 9 (by decide)) rfl rfl (Nat.le_of_ble_eq_true rfl) dX3_advance_32 (fun H locs hP hD hS => ?_)
          refine zs_0 (y := (a0, .inr (3, [a0g_0, a0g_1, a0g_2, .ref a0_3, a0g_4, a0g_5, a0g_6, .int a0_7, .int a0_8, .int x31, .int a0_10, .long a0_11, .int a0_12, a0g_13]))) hP hD rfl (fun hP hD => ?_)
          refine lv_goto (tgt := 0) hx hb dX3_advance_35 (by decide) ?_
          exact (hK0 _ _ _).mp (ih0 x31 _ _ _ (by have h0 := qx31; omega) (Int.le_trans zq4 bx31.1) bx31.2 (hF0.trans (fl_wh_l (hSX0.trans hF1))) hP hD hS (lv_sub hl [0] rfl))
  exact (hK0 _ _ _).mp (J0 901 a0_9 _ _ _ (by have h1 : (0 : Int) ≤ a0_9.toInt := ba0_9_l; have h2 : a0_9.toInt ≤ (900 : Int) := ba0_9_u; omega) ba0_9_l ba0_9_u hF0 hP hD hS (lv_sub hl [0] rfl))

set_option maxHeartbeats 4000000 in
set_option maxRecDepth 100000 in
theorem f_X3_isWord (l : Launch) (dC : Nat → ClassId) (dI : Nat → Nat → Nat) (sz : Nat) (a0 : Nat) (a1 : Nat) (a0g_0 a0g_1 a0g_2 a0g_3 a0g_4 a0g_5 a0g_6 a0g_7 a0g_8 a0g_9 a0g_12 a0g_13 : Value) (a0_10 : Int32) (a0_11 : Int64) (na1 : Nat) (ca1 : Nat → Int32) (ba0_10_l : (0 : Int) ≤ a0_10.toInt) (ba0_10_u : a0_10.toInt ≤ (4 : Int)) : zm l yX3_isWord wsX3_isWord ({ frames := 4, cells := 0, slots := 0, locals := 85 }) [.ref a0, .ref a1] dC dI sz [(a0, .inr (3, [a0g_0, a0g_1, a0g_2, a0g_3, a0g_4, a0g_5, a0g_6, a0g_7, a0g_8, a0g_9, .int a0_10, .long a0_11, a0g_12, a0g_13]))] [] (fun A U => sxc_W a1 na1 ca1 A U) (fun A => va_Qi (fun (r : Int32) (_ : Unit) => ((r = 1 ∧ (1 : Int) ≤ a0_10.toInt ∧ a0_10.toInt ≤ (1 : Int)) ∨ (r = 0)) ∧ r.toInt = Ff_X3_isWord a0_10.toInt a0_11.toInt (na1 : Int) (fl_A ca1)) (fun (_ : Unit) (t : State) => ax_B dC dI A [(a0, .inr (3, [a0g_0, a0g_1, a0g_2, a0g_3, a0g_4, a0g_5, a0g_6, a0g_7, a0g_8, a0g_9, .int a0_10, .long a0_11, a0g_12, a0g_13]))] [] t) A) := by
  refine zh (cc := cX3_isWord) (maxL := 5) (ret := (some .boolean)) zn_RX3 rfl (Nat.le_of_ble_eq_true rfl) (fun p e s m below meth c A ls hx hb hml hr hts (hown : s.vm.findClass RX3 = some m.cls) hlocks hA hS hP hK hD hE (hl : lv_has ls 5 [(0, .ref a0), (1, .ref a1)]) => ?_)
  have hE0 := hE
  generalize hFX : Ff_X3_isWord a0_10.toInt a0_11.toInt (na1 : Int) (fl_A ca1) = FX at ⊢
  have hF0 := hFX.symm.trans (Ff_X3_isWord.eq_1 a0_10.toInt a0_11.toInt (na1 : Int) (fl_A ca1))
  refine ai_open (fun K hK0 => ?_)
  refine (hK0 _ _ _).mpr ?_
  refine lv_aload_n hx hb dX3_isWord_0 rfl (lv_at hl 0 rfl) ?_
  refine va_get (D := (dC, dI)) (ci := 3) (v := .int a0_10) (C := RX3) (T := TX3) (N := 14) hx hb hts zi_X3_isWord_3 hown hK hP 0 rfl rfl 10 (by decide) (hts (.fieldLink RX3 61 "WaxTurns$Reade\x72" "token" "I") (zm_X3_isWord_r1 (List.mem_of_getElem? (i := 0) rfl))) (fun _ h9 => h9) rfl dX3_isWord_1 ?_
  refine lv_iconst (v := 1) hx hb dX3_isWord_4 zk_iconst_1 ?_
  refine lv_icmp_eq (tgt := 10) hx hb dX3_isWord_5 (by decide) (fun c5 => ?_) (fun c5 => ?_)
  · have gc5 := ai_eq c5
    have u5t_a0_10 : a0_10.toInt ≤ (1 : Int) := Int.le_trans (Int.le_of_eq gc5) zq0
    have l5t_a0_10 : (1 : Int) ≤ a0_10.toInt := Int.le_trans zq1 (Int.le_of_eq gc5.symm)
    have hF0 := hF0.trans (if_pos (show a0_10.toInt = 1 from gc5))
    refine lv_lconst (v := 0) hx hb dX3_isWord_10 (by decide) ?_
    refine lv_lstore_n (lv' := [(2, .long 0), (0, .ref a0), (1, .ref a1)]) hx hb dX3_isWord_11 rfl hl (by decide) rfl (fun ls hl => ?_)
    refine lv_iconst (v := 0) hx hb dX3_isWord_12 zk_iconst_0 ?_
    refine lv_istore (lv' := [(4, .int 0), (2, .long 0), (0, .ref a0), (1, .ref a1)]) hx hb dX3_isWord_13 hl (by decide) rfl (fun ls hl => ?_)
    have J15 : ∀ (n : Nat) (j15l4 : Int32) (j15l2 : Int64) (H : Heap) (locs : List Loc) (ls : Array Slot), (9 : Int) - j15l4.toInt ≤ (n : Int) → (0 : Int) ≤ j15l4.toInt → j15l4.toInt ≤ (8 : Int) → (FX = fl_wh (fun t9 => Sf_X3_isWord_15_1 a0_11.toInt (na1 : Int) (fl_A ca1) t9.1 t9.2) 0 n (j15l4.toInt, j15l2.toInt)) → va_P (dC, dI) vwCl [(a0, .inr (3, [a0g_0, a0g_1, a0g_2, a0g_3, a0g_4, a0g_5, a0g_6, a0g_7, a0g_8, a0g_9, .int a0_10, .long a0_11, a0g_12, a0g_13]))] H → va_D A [(a0, .inr (3, [a0g_0, a0g_1, a0g_2, a0g_3, a0g_4, a0g_5, a0g_6, a0g_7, a0g_8, a0g_9, .int a0_10, .long a0_11, a0g_12, a0g_13]))] → va_S A s.heap H locs → lv_has ls 5 [(0, .ref a0), (1, .ref a1), (2, .long j15l2), (4, .int j15l4)] → K H locs (F0 m 15 ls []) := by
      intro n
      induction n with
      | zero =>
        intro j15l4 j15l2 H locs ls hm bj15l4_l bj15l4_u hF0 hP hD hS hl
        first | exact zg_0 hm bj15l4_u (by decide) | (have h8 := ai_min j15l4; have h9 := ai_max j15l4; exact absurd hm (by omega))
      | succ n ih15 =>
        intro j15l4 j15l2 H locs ls hm bj15l4_l bj15l4_u hF0 hP hD hS hl
        refine (hK0 _ _ _).mpr ?_
        have hm15 := hm
        obtain ⟨SX15, hSX15⟩ : ∃ q9, Sf_X3_isWord_15_1 a0_11.toInt (na1 : Int) (fl_A ca1) j15l4.toInt j15l2.toInt = q9 := ⟨_, rfl⟩
        have hF1 := hSX15.symm.trans (Sf_X3_isWord_15_1.eq_1 a0_11.toInt (na1 : Int) (fl_A ca1) j15l4.toInt j15l2.toInt)
        refine lv_iload hx hb dX3_isWord_15 (lv_at hl 3 rfl) ?_
        refine lv_aload_n hx hb dX3_isWord_17 rfl (lv_at hl 1 rfl) ?_
        refine va_calli (va_runV (As := []) (rest := [.int j15l4]) ⟨hx, hb, hml, hown, hts⟩ (f_J0_length_8abf5 l dC dI H.size a1 na1 ca1 ) (cwV 0 hts gX3_isWord_J0_length_8abf5 rfl rfl rfl zd_J0_length_8abf5 ⟨Nat.le_of_ble_eq_true rfl, Nat.le_of_ble_eq_true rfl⟩) ⟨ax_blind (fun _ _ _ _ hq => sxc_W_same _ _ _ _ (hq)), sxc_recv hE0 hS, ax_preE (zp_P0 hP) (zp_K hK) (zp_D0 hD) (fun U hU hW => sxc_W_to hE0 hS.2.1 (zp_F0 hD hS hA) hU hW)⟩ rfl rfl hl.1 rfl (lv_room (Nat.le_of_ble_eq_true rfl)) dX3_isWord_18 ⟨Nat.le_of_ble_eq_true rfl, Nat.le_of_ble_eq_true rfl⟩) hS (fun q _ h => zp_F0 hD hS hA q h) (zp_F0 hD hS hA) (fun r18 u t H locs ht hvm hw hB hz1 hk1 hS1 => zo0 hB ht hP hD hk1 (zp_F0 hD hS hA) hS1 (fun hP hK1 hD hS => ?_))
        obtain ⟨hw, hfr18⟩ := hw
        have hc18 : (na1 : Int) = r18.toInt := hfr18.symm
        have hF1 := hF1.trans (fl_lt_eq hc18.symm)
        rcases hw with hw
        · obtain ⟨hwr18, hnr18⟩ := hw
          refine lv_icmp_ge (tgt := 43) hx hb dX3_isWord_21 (by decide) (fun c21 => ?_) (fun c21 => ?_)
          · have gc21 := ai_le c21
            have u21t_r18 : r18.toInt ≤ (8 : Int) := (by omega : r18.toInt ≤ (8 : Int))
            have l21t_j15l4 : (0 : Int) ≤ j15l4.toInt := bj15l4_l
            have hF1 := hF1.trans (if_pos (show r18.toInt ≤ j15l4.toInt from gc21))
            have hF0 := hF0.trans (fl_wh_r (hSX15.trans hF1))
            refine lv_aload_n hx hb dX3_isWord_43 rfl (lv_at hl 0 rfl) ?_
            refine va_get (D := (dC, dI)) (ci := 3) (v := .long a0_11) (C := RX3) (T := TX3) (N := 14) hx hb hts zi_X3_isWord_3 hown hK hP 0 rfl rfl 11 (by decide) (hts (.fieldLink RX3 81 "WaxTurns$Reade\x72" "word" "J") (zm_X3_isWord_r1 (List.mem_of_getElem? (i := 1) rfl))) (fun _ h9 => h9) rfl dX3_isWord_44 ?_
            refine lv_lload_n hx hb dX3_isWord_47 rfl (lv_at hl 2 rfl) ?_
            refine W.lcmp hx hb dX3_isWord_48 ?_
            refine lv_topi (fun x48 ex48 => ?_)
            have fqx48 := fl_cmp_eq ex48
            have hF0 := hF0.trans (fl_lt_eq (show x48.toInt = fl_cmp a0_11.toInt j15l2.toInt from fqx48))
            refine lv_if_ne (tgt := 56) hx hb dX3_isWord_49 (by decide) (fun c49 => ?_) (fun c49 => ?_)
            · have gc49 := ai_ne c49
              have hF0 := hF0.trans (if_neg (show ¬ (x48.toInt = 0) from  gc49))
              refine lv_iconst (v := 0) hx hb dX3_isWord_56 zk_iconst_0 ?_
              have hFe : FX = 0 := hF0
              exact W.zret (v := 0) hx hb hr rfl (fun t ht hW => ⟨⟨0, (), rfl, ⟨(Or.inr (rfl)), hFe.symm⟩, by rw [ht]; exact hP, va_K.moved hW.alike hK, hD⟩, hS.F ht⟩) hS.2.2 dX3_isWord_57
            · have gc49 := ai_eq c49
              have u49f_x48 : x48.toInt ≤ (0 : Int) := Int.le_trans (Int.le_of_eq gc49) zq6
              have l49f_x48 : (0 : Int) ≤ x48.toInt := Int.le_trans zq5 (Int.le_of_eq gc49.symm)
              have hF0 := hF0.trans (if_pos (show x48.toInt = 0 from gc49))
              refine lv_iconst (v := 1) hx hb dX3_isWord_52 zk_iconst_1 ?_
              refine lv_goto (tgt := 57) hx hb dX3_isWord_53 (by decide) ?_
              have hFe : FX = 1 := hF0
              exact W.zret (v := 1) hx hb hr rfl (fun t ht hW => ⟨⟨1, (), rfl, ⟨(Or.inl ⟨rfl, l5t_a0_10, u5t_a0_10⟩), hFe.symm⟩, by rw [ht]; exact hP, va_K.moved hW.alike hK, hD⟩, hS.F ht⟩) hS.2.2 dX3_isWord_57
          · have gc21 := ai_nle c21
            have u21f_j15l4 : j15l4.toInt ≤ (7 : Int) := ai_lthi gc21 (by omega : r18.toInt ≤ (8 : Int))
            have l21f_r18 : (1 : Int) ≤ r18.toInt := ai_ltlo gc21 bj15l4_l
            have hF1 := hF1.trans (if_neg (show ¬ (r18.toInt ≤ j15l4.toInt) from Int.not_le.mpr gc21))
            refine lv_lload_n hx hb dX3_isWord_24 rfl (lv_at hl 2 rfl) ?_
            refine lv_bipush (v := 8) hx hb dX3_isWord_25 zk_bipush_8 ?_
            refine lv_lshl hx hb dX3_isWord_27 rfl ?_
            refine lv_topl (fun x27 ex27 => ?_)
            have fqx27 := fl_lshl_eq ex27
            have hF1 := hF1.trans (fl_lt_eq (show x27.toInt = fl_lshl j15l2.toInt 8 from fqx27))
            refine lv_aload_n hx hb dX3_isWord_28 rfl (lv_at hl 1 rfl) ?_
            refine lv_iload hx hb dX3_isWord_29 (lv_at hl 3 rfl) ?_
            refine va_calli (va_runV (As := [.int j15l4]) (rest := [.long x27]) ⟨hx, hb, hml, hown, hts⟩ (f_J0_charAt_5068e l dC dI H.size a1 na1 ca1 j15l4 bj15l4_l (by omega)) (cwV 1 hts gX3_isWord_J0_charAt_5068e rfl rfl rfl zd_J0_charAt_5068e ⟨Nat.le_of_ble_eq_true rfl, Nat.le_of_ble_eq_true rfl⟩) ⟨ax_blind (fun _ _ _ _ hq => sxc_W_same _ _ _ _ (hq)), sxc_recv hE0 hS, ax_preE (zp_P0 hP) (zp_K hK) (zp_D0 hD) (fun U hU hW => sxc_W_to hE0 hS.2.1 (zp_F0 hD hS hA) hU hW)⟩ rfl rfl hl.1 rfl (lv_room (Nat.le_of_ble_eq_true rfl)) dX3_isWord_31 ⟨Nat.le_of_ble_eq_true rfl, Nat.le_of_ble_eq_true rfl⟩) hS (fun q _ h => zp_F0 hD hS hA q h) (zp_F0 hD hS hA) (fun r31 u t H locs ht hvm hw hB hz1 hk1 hS1 => zo0 hB ht hP hD hk1 (zp_F0 hD hS hA) hS1 (fun hP hK1 hD hS => ?_))
            obtain ⟨hw, hfr31⟩ := hw
            have hc31 : (fl_A ca1) (j15l4.toInt.toNat) = r31.toInt := hfr31.symm
            have hF1 := hF1.trans (fl_lt_eq hc31.symm)
            obtain ⟨x34, ex34⟩ : ∃ y : Int64, y = (r31 : Int32).toInt64 := ⟨_, rfl⟩
            refine lv_i2l (v := x34) hx hb dX3_isWord_34 ex34.symm ?_
            have fqx34 := fl_i2l_eq ex34
            have hF1 := hF1.trans (fl_lt_eq (show x34.toInt = r31.toInt from fqx34))
            refine lv_lor hx hb dX3_isWord_35 ?_
            refine lv_topl (fun x35 ex35 => ?_)
            have fqx35 := fl_lor_eq ex35
            have hF1 := hF1.trans (fl_lt_eq (show x35.toInt = fl_lor x27.toInt x34.toInt from fqx35))
            refine lv_lstore_n (lv' := [(2, .long x35), (0, .ref a0), (1, .ref a1), (4, .int j15l4)]) hx hb dX3_isWord_36 rfl hl (by decide) rfl (fun ls hl => ?_)
            obtain ⟨x37, ex37⟩ : ∃ y : Int32, y = j15l4 + Int32.ofInt 1 := ⟨_, rfl⟩
            have qx37 : x37.toInt = j15l4.toInt + 1 := ai_inc ex37 (by decide) (by decide) u21f_j15l4 (by decide)
            have bx37 : (1 : Int) ≤ x37.toInt ∧ x37.toInt ≤ 8 := ⟨by rw [qx37]; exact Int.add_le_add bj15l4_l (Int.le_refl _), by rw [qx37]; exact Int.add_le_add u21f_j15l4 (Int.le_refl _)⟩
            refine lv_iinc (v := x37) (lv' := [(4, .int x37), (2, .long x35), (0, .ref a0), (1, .ref a1)]) hx hb dX3_isWord_37 hl (k := 3) rfl ex37.symm (by decide) rfl (fun ls hl => ?_)
            have hF1 := hF1.trans (fl_lt_eq (show x37.toInt = j15l4.toInt + 1 from qx37))
            refine lv_goto (tgt := 15) hx hb dX3_isWord_40 (by decide) ?_
            exact (hK0 _ _ _).mp (ih15 x37 x35 _ _ _ (by first | exact zg_s hm15 qx37 | (have h0 := qx37; omega)) (Int.le_trans zq4 bx37.1) bx37.2 (hF0.trans (fl_wh_l (hSX15.trans hF1))) hP hD hS (lv_sub hl [2, 3, 1, 0] rfl))
    exact (hK0 _ _ _).mp (J15 9 0 0 _ _ _ (by first | decide +kernel | (have h1 : (0 : Int) ≤ (0 : Int32).toInt := zq5; have h2 : (0 : Int32).toInt ≤ (0 : Int) := zq6; omega)) zq5 (Int.le_trans zq6 zq20) (by rw [show (0 : Int32).toInt = 0 from by decide, show (0 : Int64).toInt = 0 from by decide]; exact hF0) hP hD hS (lv_sub hl [2, 3, 1, 0] rfl))
  · have gc5 := ai_ne c5
    have hF0 := hF0.trans (if_neg (show ¬ (a0_10.toInt = 1) from  gc5))
    refine lv_iconst (v := 0) hx hb dX3_isWord_8 zk_iconst_0 ?_
    have hFe : FX = 0 := hF0
    exact W.zret (v := 0) hx hb hr rfl (fun t ht hW => ⟨⟨0, (), rfl, ⟨(Or.inr (rfl)), hFe.symm⟩, by rw [ht]; exact hP, va_K.moved hW.alike hK, hD⟩, hS.F ht⟩) hS.2.2 dX3_isWord_9

set_option maxHeartbeats 4000000 in
set_option maxRecDepth 100000 in
theorem f_X3_isWholeWithin (l : Launch) (dC : Nat → ClassId) (dI : Nat → Nat → Nat) (sz : Nat) (a0 : Nat) (a1 : Int32) (a2 : Int32) (a0g_0 a0g_3 a0g_4 a0g_5 a0g_6 a0g_7 a0g_9 a0g_11 a0g_13 : Value) (a0_1 : Int32) (a0_2 : Int32) (a0_8 : Int32) (a0_10 : Int32) (a0_12 : Int32) (ba0_8_l : (0 : Int) ≤ a0_8.toInt) (ba0_8_u : a0_8.toInt ≤ (900 : Int)) (ba0_10_l : (0 : Int) ≤ a0_10.toInt) (ba0_10_u : a0_10.toInt ≤ (4 : Int)) : zm l yX3_isWholeWithin wsX3_isWholeWithin ({ frames := 1, cells := 0, slots := 0, locals := 22 }) [.ref a0, .int a1, .int a2] dC dI sz [(a0, .inr (3, [a0g_0, .int a0_1, .int a0_2, a0g_3, a0g_4, a0g_5, a0g_6, a0g_7, .int a0_8, a0g_9, .int a0_10, a0g_11, .int a0_12, a0g_13]))] [] (fun A U => va_Nw (.methodLinkNest RX3 223 yX7_within RX7) U) (fun A => va_Qi (fun (r : Int32) (_ : Unit) => ((r = 1 ∧ a1.toInt ≤ a0_12.toInt ∧ a0_12.toInt ≤ a2.toInt) ∨ r = 0) ∧ r.toInt = (Ff_X3_isWholeWithin a1.toInt a2.toInt a0_1.toInt a0_2.toInt a0_8.toInt a0_10.toInt a0_12.toInt).1) (fun (_ : Unit) (t : State) => ∃ na0_1 : Int32, ∃ na0_2 : Int32, ((Ff_X3_isWholeWithin a1.toInt a2.toInt a0_1.toInt a0_2.toInt a0_8.toInt a0_10.toInt a0_12.toInt).2 = (na0_1.toInt, na0_2.toInt)) ∧ ax_B dC dI A [(a0, .inr (3, [a0g_0, .int na0_1, .int na0_2, a0g_3, a0g_4, a0g_5, a0g_6, a0g_7, .int a0_8, a0g_9, .int a0_10, a0g_11, .int a0_12, a0g_13]))] [] t) A) := by
  refine zh (cc := cX3_isWholeWithin) (maxL := 3) (ret := (some .boolean)) zn_RX3 rfl (Nat.le_of_ble_eq_true rfl) (fun p e s m below meth c A ls hx hb hml hr hts (hown : s.vm.findClass RX3 = some m.cls) hlocks hA hS hP hK hD hE (hl : lv_has ls 3 [(0, .ref a0), (1, .int a1), (2, .int a2)]) => ?_)
  have hE0 := hE
  generalize hFX : Ff_X3_isWholeWithin a1.toInt a2.toInt a0_1.toInt a0_2.toInt a0_8.toInt a0_10.toInt a0_12.toInt = FX at ⊢
  have hF0 := hFX.symm.trans (Ff_X3_isWholeWithin.eq_1 a1.toInt a2.toInt a0_1.toInt a0_2.toInt a0_8.toInt a0_10.toInt a0_12.toInt)
  refine lv_aload_n hx hb dX3_isWholeWithin_0 rfl (lv_at hl 0 rfl) ?_
  refine va_get (D := (dC, dI)) (ci := 3) (v := .int a0_10) (C := RX3) (T := TX3) (N := 14) hx hb hts zi_X3_isWholeWithin_3 hown hK hP 0 rfl rfl 10 (by decide) (hts (.fieldLink RX3 61 "WaxTurns$Reade\x72" "token" "I") (List.mem_cons_of_mem _ (List.mem_append_left _ (List.mem_of_getElem? (i := 0) rfl)))) (fun _ h9 => h9) rfl dX3_isWholeWithin_1 ?_
  refine lv_iconst (v := 2) hx hb dX3_isWholeWithin_4 zk_iconst_2 ?_
  refine lv_icmp_eq (tgt := 14) hx hb dX3_isWholeWithin_5 (by decide) (fun c5 => ?_) (fun c5 => ?_)
  · have gc5 := ai_eq c5
    have u5t_a0_10 : a0_10.toInt ≤ (2 : Int) := Int.le_trans (Int.le_of_eq gc5) zq13
    have l5t_a0_10 : (2 : Int) ≤ a0_10.toInt := Int.le_trans zq12 (Int.le_of_eq gc5.symm)
    have hF0 := hF0.trans (if_pos (show a0_10.toInt = 2 from gc5))
    refine lv_aload_n hx hb dX3_isWholeWithin_14 rfl (lv_at hl 0 rfl) ?_
    refine va_get (D := (dC, dI)) (ci := 3) (v := .int a0_12) (C := RX3) (T := TX3) (N := 14) hx hb hts zi_X3_isWholeWithin_3 hown hK hP 0 rfl rfl 12 (by decide) (hts (.fieldLink RX3 85 "WaxTurns$Reade\x72" "whole" "I") (List.mem_cons_of_mem _ (List.mem_append_left _ (List.mem_of_getElem? (i := 1) rfl)))) (fun _ h9 => h9) rfl dX3_isWholeWithin_15 ?_
    refine lv_iload_n hx hb dX3_isWholeWithin_18 rfl (lv_at hl 1 rfl) ?_
    refine lv_iload_n hx hb dX3_isWholeWithin_19 rfl (lv_at hl 2 rfl) ?_
    refine va_calli (va_runSN (As := [.int a0_12, .int a1, .int a2]) (rest := []) ⟨hx, hb, hml, hown, hts⟩ (f_X7_within l dC dI s.heap.size a0_12 a1 a2 ) ⟨va_cnB 3 hts gX3_isWholeWithin_X7_within_n223 rfl rfl rfl hE0 (hts (.initialized RX7) (List.mem_cons_of_mem _ (List.mem_append_left _ (List.mem_of_getElem? (i := 11) rfl)))) zd_X7_within.2 ⟨Nat.le_of_ble_eq_true rfl, Nat.le_of_ble_eq_true rfl⟩, (hts (.static yX7_within) (List.mem_cons_of_mem _ (List.mem_append_left _ (List.mem_of_getElem? (i := 10) rfl)))), trivial⟩ ⟨ax_blind (fun _ _ _ _ _ => trivial), ax_pre (zp_P0 hP) (zp_K hK) (zp_D0 hD) (fun _ _ => trivial)⟩ rfl rfl hl.1 rfl (lv_room (Nat.le_of_ble_eq_true rfl)) dX3_isWholeWithin_20 ⟨Nat.le_of_ble_eq_true rfl, Nat.le_of_ble_eq_true rfl⟩) hS (fun q _ h => zp_F0 hD hS hA q h) (zp_F0 hD hS hA) (fun r20 u t H locs ht hvm hw hB hz1 hk1 hS1 => zo0 hB ht hP hD hk1 (zp_F0 hD hS hA) hS1 (fun hP hK1 hD hS => ?_))
    obtain ⟨hw, hfr20⟩ := hw
    have hc20 : Ff_X7_within a0_12.toInt a1.toInt a2.toInt = r20.toInt := hfr20.symm
    have hF0 := hF0.trans (fl_lt_eq hc20.symm)
    rcases hw with hw | hw
    · obtain ⟨hw, h20⟩ := hw
      subst hw
      have hF0 := hF0.trans (if_pos (by decide))
      refine lv_if_ne (tgt := 34) hx hb dX3_isWholeWithin_23 (by decide) (fun _ => ?_) (fun c23 => absurd c23 (by decide +kernel))
      refine lv_iconst (v := 1) hx hb dX3_isWholeWithin_34 zk_iconst_1 ?_
      refine lv_goto (tgt := 39) hx hb dX3_isWholeWithin_35 (by decide) ?_
      have hFe : FX = (1, a0_1.toInt, a0_2.toInt) := hF0
      exact W.zret (v := 1) hx hb hr rfl (fun t ht hW => ⟨⟨1, (), rfl, ⟨(Or.inl ⟨rfl, h20⟩), (congrArg Prod.fst hFe).symm⟩, a0_1, a0_2, (congrArg Prod.snd hFe), by rw [ht]; exact hP, va_K.moved hW.alike hK, hD⟩, hS.F ht⟩) hS.2.2 dX3_isWholeWithin_39
    · obtain ⟨hw, h20⟩ := hw
      subst hw
      have hF0 := hF0.trans (if_neg (by decide))
      refine lv_if_ne (tgt := 34) hx hb dX3_isWholeWithin_23 (by decide) (fun c23 => absurd (by decide +kernel) c23) (fun _ => ?_)
      refine lv_aload_n hx hb dX3_isWholeWithin_26 rfl (lv_at hl 0 rfl) ?_
      refine lv_iconst (v := 4) hx hb dX3_isWholeWithin_27 zk_iconst_4 ?_
      refine va_calli (va_runV (As := [.int 4]) (rest := []) ⟨hx, hb, hml, hown, hts⟩ (f_X3_fails l dC dI H.size a0 4 a0g_0 a0g_3 a0g_4 a0g_5 a0g_6 a0g_7 a0g_9 (.int a0_10) a0g_11 (.int a0_12) a0g_13 a0_1 a0_2 a0_8 ba0_8_l ba0_8_u) (cwV 1 hts gX3_isWholeWithin_X3_fails rfl rfl rfl zd_X3_fails ⟨Nat.le_of_ble_eq_true rfl, Nat.le_of_ble_eq_true rfl⟩) ⟨ax_blind (fun _ _ _ _ _ => trivial), zr_3 (zp_K hK) (zp_P1 hP) (q0 := 0) rfl, ax_pre (zp_P1 hP) (zp_K hK) (zp_D1 hD) (fun _ _ => trivial)⟩ rfl rfl hl.1 rfl (lv_room (Nat.le_of_ble_eq_true rfl)) dX3_isWholeWithin_28 ⟨Nat.le_of_ble_eq_true rfl, Nat.le_of_ble_eq_true rfl⟩) hS (fun q _ h => zp_F1 hD hS hA q h) (zp_F1 hD hS hA) (fun r28 u t H locs ht hvm hw => zx_2 (fun v28na0_1 v28na0_2 => zy_1 (fun hraw28_0 hB hz1 hk1 hS1 => zo1 hB ht hP hD hk1 (zp_F1 hD hS hA) hS1 (fun hP hK1 hD hS => ?_))))
      obtain ⟨hw, hfr28⟩ := hw
      rw [show (4 : Int32).toInt = 4 from by decide] at hfr28 hraw28_0
      have hc28 : Ff_X3_fails 4 a0_8.toInt = (r28.toInt, v28na0_1.toInt, v28na0_2.toInt) := Prod.ext hfr28.symm hraw28_0
      have hF0 := hF0.trans (fl_c3_eq hc28)
      have hw : r28 = 0 := hw
      have hw := hw.symm
      subst hw
      refine lv_if_eq (tgt := 38) hx hb dX3_isWholeWithin_31 (by decide) (fun _ => ?_) (fun c31 => absurd (by decide +kernel) c31)
      refine lv_iconst (v := 0) hx hb dX3_isWholeWithin_38 zk_iconst_0 ?_
      have hFe : FX = (0, v28na0_1.toInt, v28na0_2.toInt) := hF0
      exact W.zret (v := 0) hx hb hr rfl (fun t ht hW => ⟨⟨0, (), rfl, ⟨(Or.inr rfl), (congrArg Prod.fst hFe).symm⟩, v28na0_1, v28na0_2, (congrArg Prod.snd hFe), by rw [ht]; exact hP, va_K.moved hW.alike hK, hD⟩, hS.F ht⟩) hS.2.2 dX3_isWholeWithin_39
  · have gc5 := ai_ne c5
    have hF0 := hF0.trans (if_neg (show ¬ (a0_10.toInt = 2) from  gc5))
    refine lv_aload_n hx hb dX3_isWholeWithin_8 rfl (lv_at hl 0 rfl) ?_
    refine lv_iconst (v := 1) hx hb dX3_isWholeWithin_9 zk_iconst_1 ?_
    refine va_calli (va_runV (As := [.int 1]) (rest := []) ⟨hx, hb, hml, hown, hts⟩ (f_X3_fails l dC dI s.heap.size a0 1 a0g_0 a0g_3 a0g_4 a0g_5 a0g_6 a0g_7 a0g_9 (.int a0_10) a0g_11 (.int a0_12) a0g_13 a0_1 a0_2 a0_8 ba0_8_l ba0_8_u) (cwV 1 hts gX3_isWholeWithin_X3_fails rfl rfl rfl zd_X3_fails ⟨Nat.le_of_ble_eq_true rfl, Nat.le_of_ble_eq_true rfl⟩) ⟨ax_blind (fun _ _ _ _ _ => trivial), zr_3 (zp_K hK) (zp_P1 hP) (q0 := 0) rfl, ax_pre (zp_P1 hP) (zp_K hK) (zp_D1 hD) (fun _ _ => trivial)⟩ rfl rfl hl.1 rfl (lv_room (Nat.le_of_ble_eq_true rfl)) dX3_isWholeWithin_10 ⟨Nat.le_of_ble_eq_true rfl, Nat.le_of_ble_eq_true rfl⟩) hS (fun q _ h => zp_F1 hD hS hA q h) (zp_F1 hD hS hA) (fun r10 u t H locs ht hvm hw => zx_2 (fun v10na0_1 v10na0_2 => zy_1 (fun hraw10_0 hB hz1 hk1 hS1 => zo1 hB ht hP hD hk1 (zp_F1 hD hS hA) hS1 (fun hP hK1 hD hS => ?_))))
    obtain ⟨hw, hfr10⟩ := hw
    rw [show (1 : Int32).toInt = 1 from by decide] at hfr10 hraw10_0
    have hc10 : Ff_X3_fails 1 a0_8.toInt = (r10.toInt, v10na0_1.toInt, v10na0_2.toInt) := Prod.ext hfr10.symm hraw10_0
    have hF0 := hF0.trans (fl_c3_eq hc10)
    have hw : r10 = 0 := hw
    have hw := hw.symm
    subst hw
    have hFe : FX = (0, v10na0_1.toInt, v10na0_2.toInt) := hF0
    exact W.zret (v := 0) hx hb hr rfl (fun t ht hW => ⟨⟨0, (), rfl, ⟨(Or.inr rfl), (congrArg Prod.fst hFe).symm⟩, v10na0_1, v10na0_2, (congrArg Prod.snd hFe), by rw [ht]; exact hP, va_K.moved hW.alike hK, hD⟩, hS.F ht⟩) hS.2.2 dX3_isWholeWithin_13

set_option maxHeartbeats 4000000 in
set_option maxRecDepth 100000 in
theorem f_X3_takeWord (l : Launch) (dC : Nat → ClassId) (dI : Nat → Nat → Nat) (sz : Nat) (a0 : Nat) (a1 : Nat) (a0g_0 a0g_4 a0g_5 a0g_6 a0g_13 : Value) (a0_1 : Int32) (a0_2 : Int32) (a0_3 : Nat) (a0_7 : Int32) (a0_8 : Int32) (a0_9 : Int32) (a0_10 : Int32) (a0_11 : Int64) (a0_12 : Int32) (ka0_3 : ClassId) (fa0_3 : Nat → Int32) (na1 : Nat) (ca1 : Nat → Int32) (ba0_7_l : (0 : Int) ≤ a0_7.toInt) (ba0_7_u : a0_7.toInt ≤ (900 : Int)) (ba0_8_l : (0 : Int) ≤ a0_8.toInt) (ba0_8_u : a0_8.toInt ≤ (900 : Int)) (ba0_9_l : (0 : Int) ≤ a0_9.toInt) (ba0_9_u : a0_9.toInt ≤ (900 : Int)) (ba0_10_l : (0 : Int) ≤ a0_10.toInt) (ba0_10_u : a0_10.toInt ≤ (4 : Int)) : zm l yX3_takeWord wsX3_takeWord ({ frames := 5, cells := 0, slots := 0, locals := 109 }) [.ref a0, .ref a1] dC dI sz [(a0, .inr (3, [a0g_0, .int a0_1, .int a0_2, .ref a0_3, a0g_4, a0g_5, a0g_6, .int a0_7, .int a0_8, .int a0_9, .int a0_10, .long a0_11, .int a0_12, a0g_13])), (a0_3, .inl (ka0_3, 900, .inl (fa0_3)))] [(ka0_3, .byte)] (fun A U => sxc_W a1 na1 ca1 A U) (fun A => va_Qi (fun (r : Int32) (_ : Unit) => ((r = 1) ∨ (r = 0)) ∧ r.toInt = (Ff_X3_takeWord a0_1.toInt a0_2.toInt a0_7.toInt a0_8.toInt a0_9.toInt a0_10.toInt a0_11.toInt a0_12.toInt (fl_A fa0_3) (na1 : Int) (fl_A ca1)).1) (fun (_ : Unit) (t : State) => ∃ na0_1 : Int32, ∃ na0_2 : Int32, ∃ na0_8 : Int32, ∃ na0_9 : Int32, ∃ na0_10 : Int32, ∃ na0_11 : Int64, ∃ na0_12 : Int32, ((0 : Int) ≤ na0_8.toInt ∧ na0_8.toInt ≤ 900) ∧ ((0 : Int) ≤ na0_9.toInt ∧ na0_9.toInt ≤ 900) ∧ ((0 : Int) ≤ na0_10.toInt ∧ na0_10.toInt ≤ 4) ∧ ((Ff_X3_takeWord a0_1.toInt a0_2.toInt a0_7.toInt a0_8.toInt a0_9.toInt a0_10.toInt a0_11.toInt a0_12.toInt (fl_A fa0_3) (na1 : Int) (fl_A ca1)).2 = (na0_1.toInt, na0_2.toInt, na0_8.toInt, na0_9.toInt, na0_10.toInt, na0_11.toInt, na0_12.toInt)) ∧ ax_B dC dI A [(a0, .inr (3, [a0g_0, .int na0_1, .int na0_2, .ref a0_3, a0g_4, a0g_5, a0g_6, .int a0_7, .int na0_8, .int na0_9, .int na0_10, .long na0_11, .int na0_12, a0g_13])), (a0_3, .inl (ka0_3, 900, .inl (fa0_3)))] [(ka0_3, .byte)] t) A) := by
  refine zh (cc := cX3_takeWord) (maxL := 2) (ret := (some .boolean)) zn_RX3 rfl (Nat.le_of_ble_eq_true rfl) (fun p e s m below meth c A ls hx hb hml hr hts (hown : s.vm.findClass RX3 = some m.cls) hlocks hA hS hP hK hD hE (hl : lv_has ls 2 [(0, .ref a0), (1, .ref a1)]) => ?_)
  have hE0 := hE
  generalize hFX : Ff_X3_takeWord a0_1.toInt a0_2.toInt a0_7.toInt a0_8.toInt a0_9.toInt a0_10.toInt a0_11.toInt a0_12.toInt (fl_A fa0_3) (na1 : Int) (fl_A ca1) = FX at ⊢
  have hF0 := hFX.symm.trans (Ff_X3_takeWord.eq_1 a0_1.toInt a0_2.toInt a0_7.toInt a0_8.toInt a0_9.toInt a0_10.toInt a0_11.toInt a0_12.toInt (fl_A fa0_3) (na1 : Int) (fl_A ca1))
  refine lv_aload_n hx hb dX3_takeWord_0 rfl (lv_at hl 0 rfl) ?_
  refine lv_aload_n hx hb dX3_takeWord_1 rfl (lv_at hl 1 rfl) ?_
  refine va_calli (va_runV (As := [.ref a1]) (rest := []) ⟨hx, hb, hml, hown, hts⟩ (f_X3_isWord l dC dI s.heap.size a0 a1 a0g_0 (.int a0_1) (.int a0_2) (.ref a0_3) a0g_4 a0g_5 a0g_6 (.int a0_7) (.int a0_8) (.int a0_9) (.int a0_12) a0g_13 a0_10 a0_11 na1 ca1 ba0_10_l ba0_10_u) (cwV 1 hts gX3_takeWord_X3_isWord rfl rfl rfl zd_X3_isWord ⟨Nat.le_of_ble_eq_true rfl, Nat.le_of_ble_eq_true rfl⟩) ⟨ax_blind (fun _ _ _ _ hq => sxc_W_same _ _ _ _ (hq)), zr_3 (zp_K hK) (zp_P1 hP) (q0 := 0) rfl, ax_preE (zp_P1 hP) (zp_K hK) (zp_D1 hD) (fun U hU hW => sxc_W_to hE0 hS.2.1 (zp_F1 hD hS hA) hU hW)⟩ rfl rfl hl.1 rfl (lv_room (Nat.le_of_ble_eq_true rfl)) dX3_takeWord_2 ⟨Nat.le_of_ble_eq_true rfl, Nat.le_of_ble_eq_true rfl⟩) hS (fun q _ h => zp_F1 hD hS hA q h) (zp_F1 hD hS hA) (fun r2 u t H locs ht hvm hw hB hz1 hk1 hS1 => zo1 hB ht hP hD hk1 (zp_F1 hD hS hA) hS1 (fun hP hK1 hD hS => ?_))
  obtain ⟨hw, hfr2⟩ := hw
  have hc2 : Ff_X3_isWord a0_10.toInt a0_11.toInt (na1 : Int) (fl_A ca1) = r2.toInt := hfr2.symm
  have hF0 := hF0.trans (fl_lt_eq hc2.symm)
  rcases hw with hw | hw
  · obtain ⟨hw, h2_0, h2_1⟩ := hw
    subst hw
    have l2k0_a0_10 : (1 : Int) ≤ a0_10.toInt := h2_0
    have u2k0_a0_10 : a0_10.toInt ≤ (1 : Int) := h2_1
    have hF0 := hF0.trans (if_pos (by decide))
    refine lv_if_ne (tgt := 14) hx hb dX3_takeWord_5 (by decide) (fun _ => ?_) (fun c5 => absurd c5 (by decide +kernel))
    refine lv_aload_n hx hb dX3_takeWord_14 rfl (lv_at hl 0 rfl) ?_
    have hKc := hK.sub (tys' := [(ka0_3, .byte)]) [0] rfl
    refine va_callv (va_runV (As := []) (rest := []) ⟨hx, hb, hml, hown, hts⟩ (f_X3_advance l dC dI H.size a0 a0g_0 (.int a0_1) (.int a0_2) a0g_4 a0g_5 a0g_6 a0g_13 a0_3 a0_7 a0_8 a0_9 a0_10 a0_11 a0_12 ka0_3 fa0_3 ba0_7_l ba0_7_u ba0_8_l ba0_8_u ba0_9_l ba0_9_u (Int.le_trans zq4 l2k0_a0_10) (Int.le_trans u2k0_a0_10 zq137)) (cwV 0 hts gX3_takeWord_X3_advance rfl rfl rfl zd_X3_advance ⟨Nat.le_of_ble_eq_true rfl, Nat.le_of_ble_eq_true rfl⟩) ⟨ax_blind (fun _ _ _ _ _ => trivial), zr_3 hKc (zp_P2 hP) (q0 := 0) rfl, ax_pre (zp_P2 hP) hKc (zp_D2 hD) (fun _ _ => trivial)⟩ rfl rfl hl.1 rfl (lv_room (Nat.le_of_ble_eq_true rfl)) dX3_takeWord_15 ⟨Nat.le_of_ble_eq_true rfl, Nat.le_of_ble_eq_true rfl⟩) hS (fun q _ h => zp_F2 hD hS hA q h) (zp_F2 hD hS hA) (fun u t H locs ht hvm hw => zx_5 (fun v15na0_8 v15na0_9 v15na0_10 v15na0_11 v15na0_12 => zy_4 (fun bv15na0_8 bv15na0_9 bv15na0_10 hraw15_0 hB hz1 hk1 hS1 => zo2 hB ht hP hD hk1 (zp_F2 hD hS hA) hS1 (fun hP hK1 hD hS => ?_))))
    have hc15 : Ff_X3_advance a0_7.toInt a0_9.toInt a0_11.toInt a0_12.toInt (fl_A fa0_3) = (v15na0_8.toInt, v15na0_9.toInt, v15na0_10.toInt, v15na0_11.toInt, v15na0_12.toInt) := hraw15_0
    have hF0 := hF0.trans (fl_c5_eq hc15)
    refine lv_iconst (v := 1) hx hb dX3_takeWord_18 zk_iconst_1 ?_
    have hFe : FX = (1, a0_1.toInt, a0_2.toInt, v15na0_8.toInt, v15na0_9.toInt, v15na0_10.toInt, v15na0_11.toInt, v15na0_12.toInt) := hF0
    exact W.zret (v := 1) hx hb hr rfl (fun t ht hW => ⟨⟨1, (), rfl, ⟨(Or.inl (rfl)), (congrArg Prod.fst hFe).symm⟩, a0_1, a0_2, v15na0_8, v15na0_9, v15na0_10, v15na0_11, v15na0_12, ⟨bv15na0_8.1, bv15na0_8.2⟩, ⟨bv15na0_9.1, bv15na0_9.2⟩, ⟨bv15na0_10.1, bv15na0_10.2⟩, (congrArg Prod.snd hFe), by rw [ht]; exact hP, va_K.moved hW.alike hK, hD⟩, hS.F ht⟩) hS.2.2 dX3_takeWord_19
  · subst hw
    have hF0 := hF0.trans (if_neg (by decide))
    refine lv_if_ne (tgt := 14) hx hb dX3_takeWord_5 (by decide) (fun c5 => absurd (by decide +kernel) c5) (fun _ => ?_)
    refine lv_aload_n hx hb dX3_takeWord_8 rfl (lv_at hl 0 rfl) ?_
    refine lv_iconst (v := 1) hx hb dX3_takeWord_9 zk_iconst_1 ?_
    refine va_calli (va_runV (As := [.int 1]) (rest := []) ⟨hx, hb, hml, hown, hts⟩ (f_X3_fails l dC dI H.size a0 1 a0g_0 (.ref a0_3) a0g_4 a0g_5 a0g_6 (.int a0_7) (.int a0_9) (.int a0_10) (.long a0_11) (.int a0_12) a0g_13 a0_1 a0_2 a0_8 ba0_8_l ba0_8_u) (cwV 1 hts gX3_takeWord_X3_fails rfl rfl rfl zd_X3_fails ⟨Nat.le_of_ble_eq_true rfl, Nat.le_of_ble_eq_true rfl⟩) ⟨ax_blind (fun _ _ _ _ _ => trivial), zr_3 (zp_K hK) (zp_P1 hP) (q0 := 0) rfl, ax_pre (zp_P1 hP) (zp_K hK) (zp_D1 hD) (fun _ _ => trivial)⟩ rfl rfl hl.1 rfl (lv_room (Nat.le_of_ble_eq_true rfl)) dX3_takeWord_10 ⟨Nat.le_of_ble_eq_true rfl, Nat.le_of_ble_eq_true rfl⟩) hS (fun q _ h => zp_F1 hD hS hA q h) (zp_F1 hD hS hA) (fun r10 u t H locs ht hvm hw => zx_2 (fun v10na0_1 v10na0_2 => zy_1 (fun hraw10_0 hB hz1 hk1 hS1 => zo1 hB ht hP hD hk1 (zp_F1 hD hS hA) hS1 (fun hP hK1 hD hS => ?_))))
    obtain ⟨hw, hfr10⟩ := hw
    rw [show (1 : Int32).toInt = 1 from by decide] at hfr10 hraw10_0
    have hc10 : Ff_X3_fails 1 a0_8.toInt = (r10.toInt, v10na0_1.toInt, v10na0_2.toInt) := Prod.ext hfr10.symm hraw10_0
    have hF0 := hF0.trans (fl_c3_eq hc10)
    have hw : r10 = 0 := hw
    have hw := hw.symm
    subst hw
    have hFe : FX = (0, v10na0_1.toInt, v10na0_2.toInt, a0_8.toInt, a0_9.toInt, a0_10.toInt, a0_11.toInt, a0_12.toInt) := hF0
    exact W.zret (v := 0) hx hb hr rfl (fun t ht hW => ⟨⟨0, (), rfl, ⟨(Or.inr (rfl)), (congrArg Prod.fst hFe).symm⟩, v10na0_1, v10na0_2, a0_8, a0_9, a0_10, a0_11, a0_12, ⟨ba0_8_l, ba0_8_u⟩, ⟨ba0_9_l, ba0_9_u⟩, ⟨ba0_10_l, ba0_10_u⟩, (congrArg Prod.snd hFe), by rw [ht]; exact hP, va_K.moved hW.alike hK, hD⟩, hS.F ht⟩) hS.2.2 dX3_takeWord_13

set_option maxHeartbeats 4000000 in
set_option maxRecDepth 100000 in
theorem f_X3_takeWhole (l : Launch) (dC : Nat → ClassId) (dI : Nat → Nat → Nat) (sz : Nat) (a0 : Nat) (a1 : Nat) (a2 : Int32) (a3 : Int32) (a0g_0 a0g_4 a0g_5 a0g_6 : Value) (a0_1 : Int32) (a0_2 : Int32) (a0_3 : Nat) (a0_7 : Int32) (a0_8 : Int32) (a0_9 : Int32) (a0_10 : Int32) (a0_11 : Int64) (a0_12 : Int32) (a0_13 : Int32) (ka0_3 : ClassId) (fa0_3 : Nat → Int32) (na1 : Nat) (ca1 : Nat → Int32) (ba0_7_l : (0 : Int) ≤ a0_7.toInt) (ba0_7_u : a0_7.toInt ≤ (900 : Int)) (ba0_8_l : (0 : Int) ≤ a0_8.toInt) (ba0_8_u : a0_8.toInt ≤ (900 : Int)) (ba0_9_l : (0 : Int) ≤ a0_9.toInt) (ba0_9_u : a0_9.toInt ≤ (900 : Int)) (ba0_10_l : (0 : Int) ≤ a0_10.toInt) (ba0_10_u : a0_10.toInt ≤ (4 : Int)) : zm l yX3_takeWhole wsX3_takeWhole ({ frames := 5, cells := 0, slots := 0, locals := 109 }) [.ref a0, .ref a1, .int a2, .int a3] dC dI sz [(a0, .inr (3, [a0g_0, .int a0_1, .int a0_2, .ref a0_3, a0g_4, a0g_5, a0g_6, .int a0_7, .int a0_8, .int a0_9, .int a0_10, .long a0_11, .int a0_12, .int a0_13])), (a0_3, .inl (ka0_3, 900, .inl (fa0_3)))] [(ka0_3, .byte)] (fun A U => sxc_W a1 na1 ca1 A U ∧ va_Nw (.methodLinkNest RX3 223 yX7_within RX7) U) (fun A => va_Qi (fun (r : Int32) (na0_13 : Int32) => ((r = 1 ∧ a2.toInt ≤ na0_13.toInt ∧ na0_13.toInt ≤ a3.toInt) ∨ r = 0) ∧ r.toInt = (Ff_X3_takeWhole a2.toInt a3.toInt a0_1.toInt a0_2.toInt a0_7.toInt a0_8.toInt a0_9.toInt a0_10.toInt a0_11.toInt a0_12.toInt a0_13.toInt (fl_A fa0_3) (na1 : Int) (fl_A ca1)).1) (fun (na0_13 : Int32) (t : State) => ∃ na0_1 : Int32, ∃ na0_2 : Int32, ∃ na0_8 : Int32, ∃ na0_9 : Int32, ∃ na0_10 : Int32, ∃ na0_11 : Int64, ∃ na0_12 : Int32, ((0 : Int) ≤ na0_8.toInt ∧ na0_8.toInt ≤ 900) ∧ ((0 : Int) ≤ na0_9.toInt ∧ na0_9.toInt ≤ 900) ∧ ((0 : Int) ≤ na0_10.toInt ∧ na0_10.toInt ≤ 4) ∧ ((Ff_X3_takeWhole a2.toInt a3.toInt a0_1.toInt a0_2.toInt a0_7.toInt a0_8.toInt a0_9.toInt a0_10.toInt a0_11.toInt a0_12.toInt a0_13.toInt (fl_A fa0_3) (na1 : Int) (fl_A ca1)).2 = (na0_1.toInt, na0_2.toInt, na0_8.toInt, na0_9.toInt, na0_10.toInt, na0_11.toInt, na0_12.toInt, na0_13.toInt)) ∧ ax_B dC dI A [(a0, .inr (3, [a0g_0, .int na0_1, .int na0_2, .ref a0_3, a0g_4, a0g_5, a0g_6, .int a0_7, .int na0_8, .int na0_9, .int na0_10, .long na0_11, .int na0_12, .int na0_13])), (a0_3, .inl (ka0_3, 900, .inl (fa0_3)))] [(ka0_3, .byte)] t) A) := by
  refine zh (cc := cX3_takeWhole) (maxL := 4) (ret := (some .boolean)) zn_RX3 rfl (Nat.le_of_ble_eq_true rfl) (fun p e s m below meth c A ls hx hb hml hr hts (hown : s.vm.findClass RX3 = some m.cls) hlocks hA hS hP hK hD hE (hl : lv_has ls 4 [(0, .ref a0), (1, .ref a1), (2, .int a2), (3, .int a3)]) => ?_)
  obtain ⟨hE0, hE1⟩ := hE
  generalize hFX : Ff_X3_takeWhole a2.toInt a3.toInt a0_1.toInt a0_2.toInt a0_7.toInt a0_8.toInt a0_9.toInt a0_10.toInt a0_11.toInt a0_12.toInt a0_13.toInt (fl_A fa0_3) (na1 : Int) (fl_A ca1) = FX at ⊢
  have hF0 := hFX.symm.trans (Ff_X3_takeWhole.eq_1 a2.toInt a3.toInt a0_1.toInt a0_2.toInt a0_7.toInt a0_8.toInt a0_9.toInt a0_10.toInt a0_11.toInt a0_12.toInt a0_13.toInt (fl_A fa0_3) (na1 : Int) (fl_A ca1))
  refine lv_aload_n hx hb dX3_takeWhole_0 rfl (lv_at hl 0 rfl) ?_
  refine lv_aload_n hx hb dX3_takeWhole_1 rfl (lv_at hl 1 rfl) ?_
  refine va_calli (va_runV (As := [.ref a1]) (rest := []) ⟨hx, hb, hml, hown, hts⟩ (f_X3_isWord l dC dI s.heap.size a0 a1 a0g_0 (.int a0_1) (.int a0_2) (.ref a0_3) a0g_4 a0g_5 a0g_6 (.int a0_7) (.int a0_8) (.int a0_9) (.int a0_12) (.int a0_13) a0_10 a0_11 na1 ca1 ba0_10_l ba0_10_u) (cwV 1 hts gX3_takeWhole_X3_isWord rfl rfl rfl zd_X3_isWord ⟨Nat.le_of_ble_eq_true rfl, Nat.le_of_ble_eq_true rfl⟩) ⟨ax_blind (fun _ _ _ _ hq => sxc_W_same _ _ _ _ (hq)), zr_3 (zp_K hK) (zp_P1 hP) (q0 := 0) rfl, ax_preE (zp_P1 hP) (zp_K hK) (zp_D1 hD) (fun U hU hW => sxc_W_to hE0 hS.2.1 (zp_F1 hD hS hA) hU hW)⟩ rfl rfl hl.1 rfl (lv_room (Nat.le_of_ble_eq_true rfl)) dX3_takeWhole_2 ⟨Nat.le_of_ble_eq_true rfl, Nat.le_of_ble_eq_true rfl⟩) hS (fun q _ h => zp_F1 hD hS hA q h) (zp_F1 hD hS hA) (fun r2 u t H locs ht hvm hw hB hz1 hk1 hS1 => zo1 hB ht hP hD hk1 (zp_F1 hD hS hA) hS1 (fun hP hK1 hD hS => ?_))
  obtain ⟨hw, hfr2⟩ := hw
  have hc2 : Ff_X3_isWord a0_10.toInt a0_11.toInt (na1 : Int) (fl_A ca1) = r2.toInt := hfr2.symm
  have hF0 := hF0.trans (fl_lt_eq hc2.symm)
  rcases hw with hw | hw
  · obtain ⟨hw, h2_0, h2_1⟩ := hw
    subst hw
    have l2k0_a0_10 : (1 : Int) ≤ a0_10.toInt := h2_0
    have u2k0_a0_10 : a0_10.toInt ≤ (1 : Int) := h2_1
    have hF0 := hF0.trans (if_pos (by decide))
    refine lv_if_ne (tgt := 14) hx hb dX3_takeWhole_5 (by decide) (fun _ => ?_) (fun c5 => absurd c5 (by decide +kernel))
    refine lv_aload_n hx hb dX3_takeWhole_14 rfl (lv_at hl 0 rfl) ?_
    have hKc := hK.sub (tys' := [(ka0_3, .byte)]) [0] rfl
    refine va_callv (va_runV (As := []) (rest := []) ⟨hx, hb, hml, hown, hts⟩ (f_X3_advance l dC dI H.size a0 a0g_0 (.int a0_1) (.int a0_2) a0g_4 a0g_5 a0g_6 (.int a0_13) a0_3 a0_7 a0_8 a0_9 a0_10 a0_11 a0_12 ka0_3 fa0_3 ba0_7_l ba0_7_u ba0_8_l ba0_8_u ba0_9_l ba0_9_u (Int.le_trans zq4 l2k0_a0_10) (Int.le_trans u2k0_a0_10 zq137)) (cwV 0 hts gX3_takeWhole_X3_advance rfl rfl rfl zd_X3_advance ⟨Nat.le_of_ble_eq_true rfl, Nat.le_of_ble_eq_true rfl⟩) ⟨ax_blind (fun _ _ _ _ _ => trivial), zr_3 hKc (zp_P2 hP) (q0 := 0) rfl, ax_pre (zp_P2 hP) hKc (zp_D2 hD) (fun _ _ => trivial)⟩ rfl rfl hl.1 rfl (lv_room (Nat.le_of_ble_eq_true rfl)) dX3_takeWhole_15 ⟨Nat.le_of_ble_eq_true rfl, Nat.le_of_ble_eq_true rfl⟩) hS (fun q _ h => zp_F2 hD hS hA q h) (zp_F2 hD hS hA) (fun u t H locs ht hvm hw => zx_5 (fun v15na0_8 v15na0_9 v15na0_10 v15na0_11 v15na0_12 => zy_4 (fun bv15na0_8 bv15na0_9 bv15na0_10 hraw15_0 hB hz1 hk1 hS1 => zo2 hB ht hP hD hk1 (zp_F2 hD hS hA) hS1 (fun hP hK1 hD hS => ?_))))
    have hc15 : Ff_X3_advance a0_7.toInt a0_9.toInt a0_11.toInt a0_12.toInt (fl_A fa0_3) = (v15na0_8.toInt, v15na0_9.toInt, v15na0_10.toInt, v15na0_11.toInt, v15na0_12.toInt) := hraw15_0
    have hF0 := hF0.trans (fl_c5_eq hc15)
    refine lv_aload_n hx hb dX3_takeWhole_18 rfl (lv_at hl 0 rfl) ?_
    refine lv_iload_n hx hb dX3_takeWhole_19 rfl (lv_at hl 2 rfl) ?_
    refine lv_iload_n hx hb dX3_takeWhole_20 rfl (lv_at hl 3 rfl) ?_
    refine va_calli (va_runV (As := [.int a2, .int a3]) (rest := []) ⟨hx, hb, hml, hown, hts⟩ (f_X3_isWholeWithin l dC dI H.size a0 a2 a3 a0g_0 (.ref a0_3) a0g_4 a0g_5 a0g_6 (.int a0_7) (.int v15na0_9) (.long v15na0_11) (.int a0_13) a0_1 a0_2 v15na0_8 v15na0_10 v15na0_12 bv15na0_8.1 bv15na0_8.2 bv15na0_10.1 bv15na0_10.2) (cwV 2 hts gX3_takeWhole_X3_isWholeWithin rfl rfl rfl zd_X3_isWholeWithin ⟨Nat.le_of_ble_eq_true rfl, Nat.le_of_ble_eq_true rfl⟩) ⟨ax_blind (fun _ _ _ _ hq => va_Nw.same rfl rfl (hq)), zr_3 (zp_K hK) (zp_P1 hP) (q0 := 0) rfl, ax_pre (zp_P1 hP) (zp_K hK) (zp_D1 hD) (fun _ hW => va_Nw.warmM hW hE1)⟩ rfl rfl hl.1 rfl (lv_room (Nat.le_of_ble_eq_true rfl)) dX3_takeWhole_21 ⟨Nat.le_of_ble_eq_true rfl, Nat.le_of_ble_eq_true rfl⟩) hS (fun q _ h => zp_F1 hD hS hA q h) (zp_F1 hD hS hA) (fun r21 u t H locs ht hvm hw => zx_2 (fun v21na0_1 v21na0_2 => zy_1 (fun hraw21_0 hB hz1 hk1 hS1 => zo1 hB ht hP hD hk1 (zp_F1 hD hS hA) hS1 (fun hP hK1 hD hS => ?_))))
    obtain ⟨hw, hfr21⟩ := hw
    have hc21 : Ff_X3_isWholeWithin a2.toInt a3.toInt a0_1.toInt a0_2.toInt v15na0_8.toInt v15na0_10.toInt v15na0_12.toInt = (r21.toInt, v21na0_1.toInt, v21na0_2.toInt) := Prod.ext hfr21.symm hraw21_0
    have hF0 := hF0.trans (fl_c3_eq hc21)
    rcases hw with hw | hw
    · obtain ⟨hw, h21⟩ := hw
      subst hw
      have hF0 := hF0.trans (if_pos (by decide))
      refine lv_if_ne (tgt := 29) hx hb dX3_takeWhole_24 (by decide) (fun _ => ?_) (fun c24 => absurd c24 (by decide +kernel))
      refine lv_aload_n hx hb dX3_takeWhole_29 rfl (lv_at hl 0 rfl) ?_
      refine lv_aload_n hx hb dX3_takeWhole_30 rfl (lv_at hl 0 rfl) ?_
      refine va_get (D := (dC, dI)) (ci := 3) (v := .int v15na0_12) (C := RX3) (T := TX3) (N := 14) hx hb hts zi_X3_takeWhole_3 hown hK hP 0 rfl rfl 12 (by decide) (hts (.fieldLink RX3 85 "WaxTurns$Reade\x72" "whole" "I") (zm_X3_takeWhole_r1 (List.mem_of_getElem? (i := 0) rfl))) (fun _ h9 => h9) rfl dX3_takeWhole_31 ?_
      refine va_put (D := (dC, dI)) (ci := 3) (v := .int v15na0_12) (ty := .int) (C := RX3) (T := TX3) (N := 14) hx hb hts zi_X3_takeWhole_3 tyX3 tyX3_ok nmX3 hown hK hP hD hS 0 rfl rfl 13 (by decide) (hts (.fieldLink RX3 156 "WaxTurns$Reade\x72" "taken" "I") (zm_X3_takeWhole_r1 (List.mem_of_getElem? (i := 1) rfl))) (fun _ h9 => h9) rfl (tyX3_ok 13 (by decide)) rfl rfl (Nat.le_of_ble_eq_true rfl) dX3_takeWhole_34 (fun H locs hP hD hS => ?_)
      refine zs_0 (y := (a0, .inr (3, [a0g_0, .int v21na0_1, .int v21na0_2, .ref a0_3, a0g_4, a0g_5, a0g_6, .int a0_7, .int v15na0_8, .int v15na0_9, .int v15na0_10, .long v15na0_11, .int v15na0_12, .int v15na0_12]))) hP hD rfl (fun hP hD => ?_)
      refine lv_aload_n hx hb dX3_takeWhole_37 rfl (lv_at hl 0 rfl) ?_
      have hKc := hK.sub (tys' := [(ka0_3, .byte)]) [0] rfl
      refine va_callv (va_runV (As := []) (rest := []) ⟨hx, hb, hml, hown, hts⟩ (f_X3_advance l dC dI H.size a0 a0g_0 (.int v21na0_1) (.int v21na0_2) a0g_4 a0g_5 a0g_6 (.int v15na0_12) a0_3 a0_7 v15na0_8 v15na0_9 v15na0_10 v15na0_11 v15na0_12 ka0_3 fa0_3 ba0_7_l ba0_7_u bv15na0_8.1 bv15na0_8.2 bv15na0_9.1 bv15na0_9.2 bv15na0_10.1 bv15na0_10.2) (cwV 0 hts gX3_takeWhole_X3_advance rfl rfl rfl zd_X3_advance ⟨Nat.le_of_ble_eq_true rfl, Nat.le_of_ble_eq_true rfl⟩) ⟨ax_blind (fun _ _ _ _ _ => trivial), zr_3 hKc (zp_P2 hP) (q0 := 0) rfl, ax_pre (zp_P2 hP) hKc (zp_D2 hD) (fun _ _ => trivial)⟩ rfl rfl hl.1 rfl (lv_room (Nat.le_of_ble_eq_true rfl)) dX3_takeWhole_38 ⟨Nat.le_of_ble_eq_true rfl, Nat.le_of_ble_eq_true rfl⟩) hS (fun q _ h => zp_F2 hD hS hA q h) (zp_F2 hD hS hA) (fun u t H locs ht hvm hw => zx_5 (fun v38na0_8 v38na0_9 v38na0_10 v38na0_11 v38na0_12 => zy_4 (fun bv38na0_8 bv38na0_9 bv38na0_10 hraw38_0 hB hz1 hk1 hS1 => zo2 hB ht hP hD hk1 (zp_F2 hD hS hA) hS1 (fun hP hK1 hD hS => ?_))))
      have hc38 : Ff_X3_advance a0_7.toInt v15na0_9.toInt v15na0_11.toInt v15na0_12.toInt (fl_A fa0_3) = (v38na0_8.toInt, v38na0_9.toInt, v38na0_10.toInt, v38na0_11.toInt, v38na0_12.toInt) := hraw38_0
      have hF0 := hF0.trans (fl_c5_eq hc38)
      refine lv_iconst (v := 1) hx hb dX3_takeWhole_41 zk_iconst_1 ?_
      have hFe : FX = (1, v21na0_1.toInt, v21na0_2.toInt, v38na0_8.toInt, v38na0_9.toInt, v38na0_10.toInt, v38na0_11.toInt, v38na0_12.toInt, v15na0_12.toInt) := hF0
      exact W.zret (v := 1) hx hb hr rfl (fun t ht hW => ⟨⟨1, v15na0_12, rfl, ⟨(Or.inl ⟨rfl, h21⟩), (congrArg Prod.fst hFe).symm⟩, v21na0_1, v21na0_2, v38na0_8, v38na0_9, v38na0_10, v38na0_11, v38na0_12, ⟨bv38na0_8.1, bv38na0_8.2⟩, ⟨bv38na0_9.1, bv38na0_9.2⟩, ⟨bv38na0_10.1, bv38na0_10.2⟩, (congrArg Prod.snd hFe), by rw [ht]; exact hP, va_K.moved hW.alike hK, hD⟩, hS.F ht⟩) hS.2.2 dX3_takeWhole_42
    · subst hw
      have hF0 := hF0.trans (if_neg (by decide))
      refine lv_if_ne (tgt := 29) hx hb dX3_takeWhole_24 (by decide) (fun c24 => absurd (by decide +kernel) c24) (fun _ => ?_)
      refine lv_iconst (v := 0) hx hb dX3_takeWhole_27 zk_iconst_0 ?_
      have hFe : FX = (0, v21na0_1.toInt, v21na0_2.toInt, v15na0_8.toInt, v15na0_9.toInt, v15na0_10.toInt, v15na0_11.toInt, v15na0_12.toInt, a0_13.toInt) := hF0
      exact W.zret (v := 0) hx hb hr rfl (fun t ht hW => ⟨⟨0, a0_13, rfl, ⟨(Or.inr rfl), (congrArg Prod.fst hFe).symm⟩, v21na0_1, v21na0_2, v15na0_8, v15na0_9, v15na0_10, v15na0_11, v15na0_12, ⟨bv15na0_8.1, bv15na0_8.2⟩, ⟨bv15na0_9.1, bv15na0_9.2⟩, ⟨bv15na0_10.1, bv15na0_10.2⟩, (congrArg Prod.snd hFe), by rw [ht]; exact hP, va_K.moved hW.alike hK, hD⟩, hS.F ht⟩) hS.2.2 dX3_takeWhole_28
  · subst hw
    have hF0 := hF0.trans (if_neg (by decide))
    refine lv_if_ne (tgt := 14) hx hb dX3_takeWhole_5 (by decide) (fun c5 => absurd (by decide +kernel) c5) (fun _ => ?_)
    refine lv_aload_n hx hb dX3_takeWhole_8 rfl (lv_at hl 0 rfl) ?_
    refine lv_iconst (v := 1) hx hb dX3_takeWhole_9 zk_iconst_1 ?_
    refine va_calli (va_runV (As := [.int 1]) (rest := []) ⟨hx, hb, hml, hown, hts⟩ (f_X3_fails l dC dI H.size a0 1 a0g_0 (.ref a0_3) a0g_4 a0g_5 a0g_6 (.int a0_7) (.int a0_9) (.int a0_10) (.long a0_11) (.int a0_12) (.int a0_13) a0_1 a0_2 a0_8 ba0_8_l ba0_8_u) (cwV 1 hts gX3_takeWhole_X3_fails rfl rfl rfl zd_X3_fails ⟨Nat.le_of_ble_eq_true rfl, Nat.le_of_ble_eq_true rfl⟩) ⟨ax_blind (fun _ _ _ _ _ => trivial), zr_3 (zp_K hK) (zp_P1 hP) (q0 := 0) rfl, ax_pre (zp_P1 hP) (zp_K hK) (zp_D1 hD) (fun _ _ => trivial)⟩ rfl rfl hl.1 rfl (lv_room (Nat.le_of_ble_eq_true rfl)) dX3_takeWhole_10 ⟨Nat.le_of_ble_eq_true rfl, Nat.le_of_ble_eq_true rfl⟩) hS (fun q _ h => zp_F1 hD hS hA q h) (zp_F1 hD hS hA) (fun r10 u t H locs ht hvm hw => zx_2 (fun v10na0_1 v10na0_2 => zy_1 (fun hraw10_0 hB hz1 hk1 hS1 => zo1 hB ht hP hD hk1 (zp_F1 hD hS hA) hS1 (fun hP hK1 hD hS => ?_))))
    obtain ⟨hw, hfr10⟩ := hw
    rw [show (1 : Int32).toInt = 1 from by decide] at hfr10 hraw10_0
    have hc10 : Ff_X3_fails 1 a0_8.toInt = (r10.toInt, v10na0_1.toInt, v10na0_2.toInt) := Prod.ext hfr10.symm hraw10_0
    have hF0 := hF0.trans (fl_c3_eq hc10)
    have hw : r10 = 0 := hw
    have hw := hw.symm
    subst hw
    have hFe : FX = (0, v10na0_1.toInt, v10na0_2.toInt, a0_8.toInt, a0_9.toInt, a0_10.toInt, a0_11.toInt, a0_12.toInt, a0_13.toInt) := hF0
    exact W.zret (v := 0) hx hb hr rfl (fun t ht hW => ⟨⟨0, a0_13, rfl, ⟨(Or.inr rfl), (congrArg Prod.fst hFe).symm⟩, v10na0_1, v10na0_2, a0_8, a0_9, a0_10, a0_11, a0_12, ⟨ba0_8_l, ba0_8_u⟩, ⟨ba0_9_l, ba0_9_u⟩, ⟨ba0_10_l, ba0_10_u⟩, (congrArg Prod.snd hFe), by rw [ht]; exact hP, va_K.moved hW.alike hK, hD⟩, hS.F ht⟩) hS.2.2 dX3_takeWhole_13

set_option maxHeartbeats 4000000 in
set_option maxRecDepth 100000 in
theorem f_X3_takeName (l : Launch) (dC : Nat → ClassId) (dI : Nat → Nat → Nat) (sz : Nat) (a0 : Nat) (a0g_0 a0g_5 a0g_13 : Value) (a0_1 : Int32) (a0_2 : Int32) (a0_3 : Nat) (a0_4 : Nat) (a0_6 : Int32) (a0_7 : Int32) (a0_8 : Int32) (a0_9 : Int32) (a0_10 : Int32) (a0_11 : Int64) (a0_12 : Int32) (ka0_4 : ClassId) (fa0_4 : Nat → Int64) (ka0_3 : ClassId) (fa0_3 : Nat → Int32) (ad : Nat → Nat) (ba0_6_l : (0 : Int) ≤ a0_6.toInt) (ba0_6_u : a0_6.toInt ≤ (12 : Int)) (ba0_7_l : (0 : Int) ≤ a0_7.toInt) (ba0_7_u : a0_7.toInt ≤ (900 : Int)) (ba0_8_l : (0 : Int) ≤ a0_8.toInt) (ba0_8_u : a0_8.toInt ≤ (900 : Int)) (ba0_9_l : (0 : Int) ≤ a0_9.toInt) (ba0_9_u : a0_9.toInt ≤ (900 : Int)) (ba0_10_l : (0 : Int) ≤ a0_10.toInt) (ba0_10_u : a0_10.toInt ≤ (4 : Int)) : zm l yX3_takeName wsX3_takeName ({ frames := 5, cells := 0, slots := 0, locals := 109 }) [.ref a0] dC dI sz [(a0, .inr (3, [a0g_0, .int a0_1, .int a0_2, .ref a0_3, .ref a0_4, a0g_5, .int a0_6, .int a0_7, .int a0_8, .int a0_9, .int a0_10, .long a0_11, .int a0_12, a0g_13])), (a0_4, .inl (ka0_4, 12, .inr (.inl (fa0_4)))), (a0_3, .inl (ka0_3, 900, .inl (fa0_3)))] [(ka0_4, .long), (ka0_3, .byte)] (fun A U => sxc_T ad A U) (fun A => va_Qi (fun (r : Int32) (_ : Unit) => ((r = 1) ∨ (r = 0)) ∧ r.toInt = (Ff_X3_takeName a0_1.toInt a0_2.toInt a0_6.toInt a0_7.toInt a0_8.toInt a0_9.toInt a0_10.toInt a0_11.toInt a0_12.toInt (fl_L fa0_4) (fl_A fa0_3)).1) (fun (_ : Unit) (t : State) => ∃ na0_1 : Int32, ∃ na0_2 : Int32, ∃ na0_6 : Int32, ∃ na0_8 : Int32, ∃ na0_9 : Int32, ∃ na0_10 : Int32, ∃ na0_11 : Int64, ∃ na0_12 : Int32, ∃ nfa0_4 : Nat → Int64, ((0 : Int) ≤ na0_6.toInt ∧ na0_6.toInt ≤ 12) ∧ ((0 : Int) ≤ na0_8.toInt ∧ na0_8.toInt ≤ 900) ∧ ((0 : Int) ≤ na0_9.toInt ∧ na0_9.toInt ≤ 900) ∧ ((0 : Int) ≤ na0_10.toInt ∧ na0_10.toInt ≤ 4) ∧ ((Ff_X3_takeName a0_1.toInt a0_2.toInt a0_6.toInt a0_7.toInt a0_8.toInt a0_9.toInt a0_10.toInt a0_11.toInt a0_12.toInt (fl_L fa0_4) (fl_A fa0_3)).2 = (na0_1.toInt, na0_2.toInt, na0_6.toInt, na0_8.toInt, na0_9.toInt, na0_10.toInt, na0_11.toInt, na0_12.toInt, (fl_L nfa0_4))) ∧ ax_B dC dI A [(a0, .inr (3, [a0g_0, .int na0_1, .int na0_2, .ref a0_3, .ref a0_4, a0g_5, .int na0_6, .int a0_7, .int na0_8, .int na0_9, .int na0_10, .long na0_11, .int na0_12, a0g_13])), (a0_4, .inl (ka0_4, 12, .inr (.inl (nfa0_4)))), (a0_3, .inl (ka0_3, 900, .inl (fa0_3)))] [(ka0_4, .long), (ka0_3, .byte)] t) A) := by
  refine zh (cc := cX3_takeName) (maxL := 2) (ret := (some .boolean)) zn_RX3 rfl (Nat.le_of_ble_eq_true rfl) (fun p e s m below meth c A ls hx hb hml hr hts (hown : s.vm.findClass RX3 = some m.cls) hlocks hA hS hP hK hD hE (hl : lv_has ls 2 [(0, .ref a0)]) => ?_)
  have hE0 := hE
  generalize hFX : Ff_X3_takeName a0_1.toInt a0_2.toInt a0_6.toInt a0_7.toInt a0_8.toInt a0_9.toInt a0_10.toInt a0_11.toInt a0_12.toInt (fl_L fa0_4) (fl_A fa0_3) = FX at ⊢
  have hF0 := hFX.symm.trans (Ff_X3_takeName.eq_1 a0_1.toInt a0_2.toInt a0_6.toInt a0_7.toInt a0_8.toInt a0_9.toInt a0_10.toInt a0_11.toInt a0_12.toInt (fl_L fa0_4) (fl_A fa0_3))
  refine ai_open (fun K hK0 => ?_)
  refine (hK0 _ _ _).mpr ?_
  refine lv_aload_n hx hb dX3_takeName_0 rfl (lv_at hl 0 rfl) ?_
  refine va_get (D := (dC, dI)) (ci := 3) (v := .int a0_10) (C := RX3) (T := TX3) (N := 14) hx hb hts zi_X3_takeName_3 hown hK hP 0 rfl rfl 10 (by decide) (hts (.fieldLink RX3 61 "WaxTurns$Reade\x72" "token" "I") (zm_X3_takeName_r1 (List.mem_of_getElem? (i := 0) rfl))) (fun _ h9 => h9) rfl dX3_takeName_1 ?_
  refine lv_iconst (v := 1) hx hb dX3_takeName_4 zk_iconst_1 ?_
  have J53 : ∀ (H : Heap) (locs : List Loc) (ls : Array Slot), (FX = Gf_X3_takeName_53_1 a0_6.toInt a0_8.toInt a0_9.toInt a0_10.toInt a0_11.toInt a0_12.toInt (fl_L fa0_4)) → va_P (dC, dI) vwCl [(a0, .inr (3, [a0g_0, .int a0_1, .int a0_2, .ref a0_3, .ref a0_4, a0g_5, .int a0_6, .int a0_7, .int a0_8, .int a0_9, .int a0_10, .long a0_11, .int a0_12, a0g_13])), (a0_4, .inl (ka0_4, 12, .inr (.inl (fa0_4)))), (a0_3, .inl (ka0_3, 900, .inl (fa0_3)))] H → va_D A [(a0, .inr (3, [a0g_0, .int a0_1, .int a0_2, .ref a0_3, .ref a0_4, a0g_5, .int a0_6, .int a0_7, .int a0_8, .int a0_9, .int a0_10, .long a0_11, .int a0_12, a0g_13])), (a0_4, .inl (ka0_4, 12, .inr (.inl (fa0_4)))), (a0_3, .inl (ka0_3, 900, .inl (fa0_3)))] → va_S A s.heap H locs → lv_has ls 2 [(0, .ref a0)] → K H locs (F0 m 53 ls []) := by
    intro  H locs ls  hF0 hP hD hS hl
    refine (hK0 _ _ _).mpr ?_
    have hF0 := hF0.trans (Gf_X3_takeName_53_1.eq_1 a0_6.toInt a0_8.toInt a0_9.toInt a0_10.toInt a0_11.toInt a0_12.toInt (fl_L fa0_4))
    refine lv_aload_n hx hb dX3_takeName_53 rfl (lv_at hl 0 rfl) ?_
    refine lv_iconst (v := 1) hx hb dX3_takeName_54 zk_iconst_1 ?_
    refine va_calli (va_runV (As := [.int 1]) (rest := []) ⟨hx, hb, hml, hown, hts⟩ (f_X3_fails l dC dI H.size a0 1 a0g_0 (.ref a0_3) (.ref a0_4) a0g_5 (.int a0_6) (.int a0_7) (.int a0_9) (.int a0_10) (.long a0_11) (.int a0_12) a0g_13 a0_1 a0_2 a0_8 ba0_8_l ba0_8_u) (cwV 1 hts gX3_takeName_X3_fails rfl rfl rfl zd_X3_fails ⟨Nat.le_of_ble_eq_true rfl, Nat.le_of_ble_eq_true rfl⟩) ⟨ax_blind (fun _ _ _ _ _ => trivial), zr_3 (zp_K hK) (zp_P1 hP) (q0 := 0) rfl, ax_pre (zp_P1 hP) (zp_K hK) (zp_D1 hD) (fun _ _ => trivial)⟩ rfl rfl hl.1 rfl (lv_room (Nat.le_of_ble_eq_true rfl)) dX3_takeName_55 ⟨Nat.le_of_ble_eq_true rfl, Nat.le_of_ble_eq_true rfl⟩) hS (fun q _ h => zp_F1 hD hS hA q h) (zp_F1 hD hS hA) (fun r55 u t H locs ht hvm hw => zx_2 (fun v55na0_1 v55na0_2 => zy_1 (fun hraw55_0 hB hz1 hk1 hS1 => zo1 hB ht hP hD hk1 (zp_F1 hD hS hA) hS1 (fun hP hK1 hD hS => ?_))))
    obtain ⟨hw, hfr55⟩ := hw
    rw [show (1 : Int32).toInt = 1 from by decide] at hfr55 hraw55_0
    have hc55 : Ff_X3_fails 1 a0_8.toInt = (r55.toInt, v55na0_1.toInt, v55na0_2.toInt) := Prod.ext hfr55.symm hraw55_0
    have hF0 := hF0.trans (fl_c3_eq hc55)
    have hw : r55 = 0 := hw
    have hw := hw.symm
    subst hw
    have hFe : FX = (0, v55na0_1.toInt, v55na0_2.toInt, a0_6.toInt, a0_8.toInt, a0_9.toInt, a0_10.toInt, a0_11.toInt, a0_12.toInt, (fl_L fa0_4)) := hF0
    exact W.zret (v := 0) hx hb hr rfl (fun t ht hW => ⟨⟨0, (), rfl, ⟨(Or.inr (rfl)), (congrArg Prod.fst hFe).symm⟩, v55na0_1, v55na0_2, a0_6, a0_8, a0_9, a0_10, a0_11, a0_12, fa0_4, ⟨ba0_6_l, ba0_6_u⟩, ⟨ba0_8_l, ba0_8_u⟩, ⟨ba0_9_l, ba0_9_u⟩, ⟨ba0_10_l, ba0_10_u⟩, (congrArg Prod.snd hFe), by rw [ht]; exact hP, va_K.moved hW.alike hK, hD⟩, hS.F ht⟩) hS.2.2 dX3_takeName_58
  refine lv_icmp_ne (tgt := 53) hx hb dX3_takeName_5 (by decide) (fun c5 => ?_) (fun c5 => ?_)
  · have gc5 := ai_ne c5
    have hF0 := hF0.trans (if_neg (show ¬ (a0_10.toInt = 1) from  gc5))
    exact (hK0 _ _ _).mp (J53  _ _ _   hF0 hP hD hS (lv_sub hl [0] rfl))
  · have gc5 := ai_eq c5
    have u5f_a0_10 : a0_10.toInt ≤ (1 : Int) := Int.le_trans (Int.le_of_eq gc5) zq0
    have l5f_a0_10 : (1 : Int) ≤ a0_10.toInt := Int.le_trans zq1 (Int.le_of_eq gc5.symm)
    have hF0 := hF0.trans (if_pos (show a0_10.toInt = 1 from gc5))
    refine lv_aload_n hx hb dX3_takeName_8 rfl (lv_at hl 0 rfl) ?_
    refine va_ldcS hx hb hown (sxc_R0 hE0) dX3_takeName_9 ?_
    refine va_calli (va_runV (As := [.ref (ad 0)]) (rest := []) ⟨hx, hb, hml, hown, hts⟩ (f_X3_isWord l dC dI s.heap.size a0 (ad 0) a0g_0 (.int a0_1) (.int a0_2) (.ref a0_3) (.ref a0_4) a0g_5 (.int a0_6) (.int a0_7) (.int a0_8) (.int a0_9) (.int a0_12) a0g_13 a0_10 a0_11 7 (sxc 0) (Int.le_trans zq4 l5f_a0_10) (Int.le_trans u5f_a0_10 zq137)) (cwV 1 hts gX3_takeName_X3_isWord rfl rfl rfl zd_X3_isWord ⟨Nat.le_of_ble_eq_true rfl, Nat.le_of_ble_eq_true rfl⟩) ⟨ax_blind (fun _ _ _ _ hq => sxc_W_same _ _ _ _ (hq)), zr_3 (zp_K hK) (zp_P1 hP) (q0 := 0) rfl, ax_preE (zp_P1 hP) (zp_K hK) (zp_D1 hD) (fun U hU hW => sxc_W_to (sxc_T_w hE0 (i := 0) (by decide)) hS.2.1 (zp_F1 hD hS hA) hU hW)⟩ rfl rfl hl.1 rfl (lv_room (Nat.le_of_ble_eq_true rfl)) dX3_takeName_11 ⟨Nat.le_of_ble_eq_true rfl, Nat.le_of_ble_eq_true rfl⟩) hS (fun q _ h => zp_F1 hD hS hA q h) (zp_F1 hD hS hA) (fun r11 u t H locs ht hvm hw hB hz1 hk1 hS1 => zo1 hB ht hP hD hk1 (zp_F1 hD hS hA) hS1 (fun hP hK1 hD hS => ?_))
    obtain ⟨hw, hfr11⟩ := hw
    rw [show ((7 : Nat) : Int) = 7 from rfl] at hfr11
    have hc11 : Ff_X3_isWord a0_10.toInt a0_11.toInt 7 (fl_A (sxc 0)) = r11.toInt := hfr11.symm
    have hF0 := hF0.trans (fl_lt_eq hc11.symm)
    rcases hw with hw | hw
    · obtain ⟨hw, h11_0, h11_1⟩ := hw
      subst hw
      have l11k0_a0_10 : (1 : Int) ≤ a0_10.toInt := l5f_a0_10
      have u11k0_a0_10 : a0_10.toInt ≤ (1 : Int) := u5f_a0_10
      have hF0 := hF0.trans (if_pos (by decide))
      refine lv_if_ne (tgt := 53) hx hb dX3_takeName_14 (by decide) (fun _ => ?_) (fun c14 => absurd c14 (by decide +kernel))
      exact (hK0 _ _ _).mp (J53  _ _ _   hF0 hP hD hS (lv_sub hl [0] rfl))
    · subst hw
      have hF0 := hF0.trans (if_neg (by decide))
      refine lv_if_ne (tgt := 53) hx hb dX3_takeName_14 (by decide) (fun c14 => absurd (by decide +kernel) c14) (fun _ => ?_)
      refine lv_aload_n hx hb dX3_takeName_17 rfl (lv_at hl 0 rfl) ?_
      refine va_ldcS hx hb hown (sxc_R1 hE0) dX3_takeName_18 ?_
      refine va_calli (va_runV (As := [.ref (ad 1)]) (rest := []) ⟨hx, hb, hml, hown, hts⟩ (f_X3_isWord l dC dI H.size a0 (ad 1) a0g_0 (.int a0_1) (.int a0_2) (.ref a0_3) (.ref a0_4) a0g_5 (.int a0_6) (.int a0_7) (.int a0_8) (.int a0_9) (.int a0_12) a0g_13 a0_10 a0_11 3 (sxc 1) (Int.le_trans zq4 l5f_a0_10) (Int.le_trans u5f_a0_10 zq137)) (cwV 1 hts gX3_takeName_X3_isWord rfl rfl rfl zd_X3_isWord ⟨Nat.le_of_ble_eq_true rfl, Nat.le_of_ble_eq_true rfl⟩) ⟨ax_blind (fun _ _ _ _ hq => sxc_W_same _ _ _ _ (hq)), zr_3 (zp_K hK) (zp_P1 hP) (q0 := 0) rfl, ax_preE (zp_P1 hP) (zp_K hK) (zp_D1 hD) (fun U hU hW => sxc_W_to (sxc_T_w hE0 (i := 1) (by decide)) hS.2.1 (zp_F1 hD hS hA) hU hW)⟩ rfl rfl hl.1 rfl (lv_room (Nat.le_of_ble_eq_true rfl)) dX3_takeName_20 ⟨Nat.le_of_ble_eq_true rfl, Nat.le_of_ble_eq_true rfl⟩) hS (fun q _ h => zp_F1 hD hS hA q h) (zp_F1 hD hS hA) (fun r20 u t H locs ht hvm hw hB hz1 hk1 hS1 => zo1 hB ht hP hD hk1 (zp_F1 hD hS hA) hS1 (fun hP hK1 hD hS => ?_))
      obtain ⟨hw, hfr20⟩ := hw
      rw [show ((3 : Nat) : Int) = 3 from rfl] at hfr20
      have hc20 : Ff_X3_isWord a0_10.toInt a0_11.toInt 3 (fl_A (sxc 1)) = r20.toInt := hfr20.symm
      have hF0 := hF0.trans (fl_lt_eq hc20.symm)
      rcases hw with hw | hw
      · obtain ⟨hw, h20_0, h20_1⟩ := hw
        subst hw
        have l20k0_a0_10 : (1 : Int) ≤ a0_10.toInt := l5f_a0_10
        have u20k0_a0_10 : a0_10.toInt ≤ (1 : Int) := u5f_a0_10
        have hF0 := hF0.trans (if_pos (by decide))
        refine lv_if_ne (tgt := 53) hx hb dX3_takeName_23 (by decide) (fun _ => ?_) (fun c23 => absurd c23 (by decide +kernel))
        exact (hK0 _ _ _).mp (J53  _ _ _   hF0 hP hD hS (lv_sub hl [0] rfl))
      · subst hw
        have hF0 := hF0.trans (if_neg (by decide))
        refine lv_if_ne (tgt := 53) hx hb dX3_takeName_23 (by decide) (fun c23 => absurd (by decide +kernel) c23) (fun _ => ?_)
        refine lv_aload_n hx hb dX3_takeName_26 rfl (lv_at hl 0 rfl) ?_
        refine va_ldcS hx hb hown (sxc_R2 hE0) dX3_takeName_27 ?_
        refine va_calli (va_runV (As := [.ref (ad 2)]) (rest := []) ⟨hx, hb, hml, hown, hts⟩ (f_X3_isWord l dC dI H.size a0 (ad 2) a0g_0 (.int a0_1) (.int a0_2) (.ref a0_3) (.ref a0_4) a0g_5 (.int a0_6) (.int a0_7) (.int a0_8) (.int a0_9) (.int a0_12) a0g_13 a0_10 a0_11 6 (sxc 2) (Int.le_trans zq4 l5f_a0_10) (Int.le_trans u5f_a0_10 zq137)) (cwV 1 hts gX3_takeName_X3_isWord rfl rfl rfl zd_X3_isWord ⟨Nat.le_of_ble_eq_true rfl, Nat.le_of_ble_eq_true rfl⟩) ⟨ax_blind (fun _ _ _ _ hq => sxc_W_same _ _ _ _ (hq)), zr_3 (zp_K hK) (zp_P1 hP) (q0 := 0) rfl, ax_preE (zp_P1 hP) (zp_K hK) (zp_D1 hD) (fun U hU hW => sxc_W_to (sxc_T_w hE0 (i := 2) (by decide)) hS.2.1 (zp_F1 hD hS hA) hU hW)⟩ rfl rfl hl.1 rfl (lv_room (Nat.le_of_ble_eq_true rfl)) dX3_takeName_29 ⟨Nat.le_of_ble_eq_true rfl, Nat.le_of_ble_eq_true rfl⟩) hS (fun q _ h => zp_F1 hD hS hA q h) (zp_F1 hD hS hA) (fun r29 u t H locs ht hvm hw hB hz1 hk1 hS1 => zo1 hB ht hP hD hk1 (zp_F1 hD hS hA) hS1 (fun hP hK1 hD hS => ?_))
        obtain ⟨hw, hfr29⟩ := hw
        rw [show ((6 : Nat) : Int) = 6 from rfl] at hfr29
        have hc29 : Ff_X3_isWord a0_10.toInt a0_11.toInt 6 (fl_A (sxc 2)) = r29.toInt := hfr29.symm
        have hF0 := hF0.trans (fl_lt_eq hc29.symm)
        rcases hw with hw | hw
        · obtain ⟨hw, h29_0, h29_1⟩ := hw
          subst hw
          have l29k0_a0_10 : (1 : Int) ≤ a0_10.toInt := l5f_a0_10
          have u29k0_a0_10 : a0_10.toInt ≤ (1 : Int) := u5f_a0_10
          have hF0 := hF0.trans (if_pos (by decide))
          refine lv_if_ne (tgt := 53) hx hb dX3_takeName_32 (by decide) (fun _ => ?_) (fun c32 => absurd c32 (by decide +kernel))
          exact (hK0 _ _ _).mp (J53  _ _ _   hF0 hP hD hS (lv_sub hl [0] rfl))
        · subst hw
          have hF0 := hF0.trans (if_neg (by decide))
          refine lv_if_ne (tgt := 53) hx hb dX3_takeName_32 (by decide) (fun c32 => absurd (by decide +kernel) c32) (fun _ => ?_)
          refine lv_aload_n hx hb dX3_takeName_35 rfl (lv_at hl 0 rfl) ?_
          refine va_ldcS hx hb hown (sxc_R3 hE0) dX3_takeName_36 ?_
          refine va_calli (va_runV (As := [.ref (ad 3)]) (rest := []) ⟨hx, hb, hml, hown, hts⟩ (f_X3_isWord l dC dI H.size a0 (ad 3) a0g_0 (.int a0_1) (.int a0_2) (.ref a0_3) (.ref a0_4) a0g_5 (.int a0_6) (.int a0_7) (.int a0_8) (.int a0_9) (.int a0_12) a0g_13 a0_10 a0_11 7 (sxc 3) (Int.le_trans zq4 l5f_a0_10) (Int.le_trans u5f_a0_10 zq137)) (cwV 1 hts gX3_takeName_X3_isWord rfl rfl rfl zd_X3_isWord ⟨Nat.le_of_ble_eq_true rfl, Nat.le_of_ble_eq_true rfl⟩) ⟨ax_blind (fun _ _ _ _ hq => sxc_W_same _ _ _ _ (hq)), zr_3 (zp_K hK) (zp_P1 hP) (q0 := 0) rfl, ax_preE (zp_P1 hP) (zp_K hK) (zp_D1 hD) (fun U hU hW => sxc_W_to (sxc_T_w hE0 (i := 3) (by decide)) hS.2.1 (zp_F1 hD hS hA) hU hW)⟩ rfl rfl hl.1 rfl (lv_room (Nat.le_of_ble_eq_true rfl)) dX3_takeName_38 ⟨Nat.le_of_ble_eq_true rfl, Nat.le_of_ble_eq_true rfl⟩) hS (fun q _ h => zp_F1 hD hS hA q h) (zp_F1 hD hS hA) (fun r38 u t H locs ht hvm hw hB hz1 hk1 hS1 => zo1 hB ht hP hD hk1 (zp_F1 hD hS hA) hS1 (fun hP hK1 hD hS => ?_))
          obtain ⟨hw, hfr38⟩ := hw
          rw [show ((7 : Nat) : Int) = 7 from rfl] at hfr38
          have hc38 : Ff_X3_isWord a0_10.toInt a0_11.toInt 7 (fl_A (sxc 3)) = r38.toInt := hfr38.symm
          have hF0 := hF0.trans (fl_lt_eq hc38.symm)
          rcases hw with hw | hw
          · obtain ⟨hw, h38_0, h38_1⟩ := hw
            subst hw
            have l38k0_a0_10 : (1 : Int) ≤ a0_10.toInt := l5f_a0_10
            have u38k0_a0_10 : a0_10.toInt ≤ (1 : Int) := u5f_a0_10
            have hF0 := hF0.trans (if_pos (by decide))
            refine lv_if_ne (tgt := 53) hx hb dX3_takeName_41 (by decide) (fun _ => ?_) (fun c41 => absurd c41 (by decide +kernel))
            exact (hK0 _ _ _).mp (J53  _ _ _   hF0 hP hD hS (lv_sub hl [0] rfl))
          · subst hw
            have hF0 := hF0.trans (if_neg (by decide))
            refine lv_if_ne (tgt := 53) hx hb dX3_takeName_41 (by decide) (fun c41 => absurd (by decide +kernel) c41) (fun _ => ?_)
            refine lv_aload_n hx hb dX3_takeName_44 rfl (lv_at hl 0 rfl) ?_
            refine va_ldcS hx hb hown (sxc_R4 hE0) dX3_takeName_45 ?_
            refine va_calli (va_runV (As := [.ref (ad 4)]) (rest := []) ⟨hx, hb, hml, hown, hts⟩ (f_X3_isWord l dC dI H.size a0 (ad 4) a0g_0 (.int a0_1) (.int a0_2) (.ref a0_3) (.ref a0_4) a0g_5 (.int a0_6) (.int a0_7) (.int a0_8) (.int a0_9) (.int a0_12) a0g_13 a0_10 a0_11 4 (sxc 4) (Int.le_trans zq4 l5f_a0_10) (Int.le_trans u5f_a0_10 zq137)) (cwV 1 hts gX3_takeName_X3_isWord rfl rfl rfl zd_X3_isWord ⟨Nat.le_of_ble_eq_true rfl, Nat.le_of_ble_eq_true rfl⟩) ⟨ax_blind (fun _ _ _ _ hq => sxc_W_same _ _ _ _ (hq)), zr_3 (zp_K hK) (zp_P1 hP) (q0 := 0) rfl, ax_preE (zp_P1 hP) (zp_K hK) (zp_D1 hD) (fun U hU hW => sxc_W_to (sxc_T_w hE0 (i := 4) (by decide)) hS.2.1 (zp_F1 hD hS hA) hU hW)⟩ rfl rfl hl.1 rfl (lv_room (Nat.le_of_ble_eq_true rfl)) dX3_takeName_47 ⟨Nat.le_of_ble_eq_true rfl, Nat.le_of_ble_eq_true rfl⟩) hS (fun q _ h => zp_F1 hD hS hA q h) (zp_F1 hD hS hA) (fun r47 u t H locs ht hvm hw hB hz1 hk1 hS1 => zo1 hB ht hP hD hk1 (zp_F1 hD hS hA) hS1 (fun hP hK1 hD hS => ?_))
            obtain ⟨hw, hfr47⟩ := hw
            rw [show ((4 : Nat) : Int) = 4 from rfl] at hfr47
            have hc47 : Ff_X3_isWord a0_10.toInt a0_11.toInt 4 (fl_A (sxc 4)) = r47.toInt := hfr47.symm
            have hF0 := hF0.trans (fl_lt_eq hc47.symm)
            rcases hw with hw | hw
            · obtain ⟨hw, h47_0, h47_1⟩ := hw
              subst hw
              have l47k0_a0_10 : (1 : Int) ≤ a0_10.toInt := l5f_a0_10
              have u47k0_a0_10 : a0_10.toInt ≤ (1 : Int) := u5f_a0_10
              have hF0 := hF0.trans (if_pos (by decide))
              refine lv_if_eq (tgt := 59) hx hb dX3_takeName_50 (by decide) (fun c50 => absurd c50 (by decide +kernel)) (fun _ => ?_)
              exact (hK0 _ _ _).mp (J53  _ _ _   hF0 hP hD hS (lv_sub hl [0] rfl))
            · subst hw
              have hF0 := hF0.trans (if_neg (by decide))
              refine lv_if_eq (tgt := 59) hx hb dX3_takeName_50 (by decide) (fun _ => ?_) (fun c50 => absurd (by decide +kernel) c50)
              refine lv_iconst (v := 0) hx hb dX3_takeName_59 zk_iconst_0 ?_
              refine lv_istore_n (lv' := [(1, .int 0), (0, .ref a0)]) hx hb dX3_takeName_60 rfl hl (by decide) rfl (fun ls hl => ?_)
              have J61 : ∀ (n : Nat) (j61l1 : Int32) (H : Heap) (locs : List Loc) (ls : Array Slot), (13 : Int) - j61l1.toInt ≤ (n : Int) → (0 : Int) ≤ j61l1.toInt → j61l1.toInt ≤ (12 : Int) → (FX = fl_wh (Sf_X3_takeName_61_1 a0_1.toInt a0_2.toInt a0_6.toInt a0_7.toInt a0_8.toInt a0_9.toInt a0_10.toInt a0_11.toInt a0_12.toInt (fl_L fa0_4) (fl_A fa0_3)) (0, 0, 0, 0, 0, 0, 0, 0, 0, (fun _ => 0)) n j61l1.toInt) → va_P (dC, dI) vwCl [(a0, .inr (3, [a0g_0, .int a0_1, .int a0_2, .ref a0_3, .ref a0_4, a0g_5, .int a0_6, .int a0_7, .int a0_8, .int a0_9, .int a0_10, .long a0_11, .int a0_12, a0g_13])), (a0_4, .inl (ka0_4, 12, .inr (.inl (fa0_4)))), (a0_3, .inl (ka0_3, 900, .inl (fa0_3)))] H → va_D A [(a0, .inr (3, [a0g_0, .int a0_1, .int a0_2, .ref a0_3, .ref a0_4, a0g_5, .int a0_6, .int a0_7, .int a0_8, .int a0_9, .int a0_10, .long a0_11, .int a0_12, a0g_13])), (a0_4, .inl (ka0_4, 12, .inr (.inl (fa0_4)))), (a0_3, .inl (ka0_3, 900, .inl (fa0_3)))] → va_S A s.heap H locs → lv_has ls 2 [(0, .ref a0), (1, .int j61l1)] → K H locs (F0 m 61 ls []) := by
                intro n
                induction n with
                | zero =>
                  intro j61l1 H locs ls hm bj61l1_l bj61l1_u hF0 hP hD hS hl
                  first | exact zg_0 hm bj61l1_u (by decide) | (have h8 := ai_min j61l1; have h9 := ai_max j61l1; exact absurd hm (by omega))
                | succ n ih61 =>
                  intro j61l1 H locs ls hm bj61l1_l bj61l1_u hF0 hP hD hS hl
                  refine (hK0 _ _ _).mpr ?_
                  have hm61 := hm
                  obtain ⟨SX61, hSX61⟩ : ∃ q9, Sf_X3_takeName_61_1 a0_1.toInt a0_2.toInt a0_6.toInt a0_7.toInt a0_8.toInt a0_9.toInt a0_10.toInt a0_11.toInt a0_12.toInt (fl_L fa0_4) (fl_A fa0_3) j61l1.toInt = q9 := ⟨_, rfl⟩
                  have hF1 := hSX61.symm.trans (Sf_X3_takeName_61_1.eq_1 a0_1.toInt a0_2.toInt a0_6.toInt a0_7.toInt a0_8.toInt a0_9.toInt a0_10.toInt a0_11.toInt a0_12.toInt (fl_L fa0_4) (fl_A fa0_3) j61l1.toInt)
                  refine lv_iload_n hx hb dX3_takeName_61 rfl (lv_at hl 1 rfl) ?_
                  refine lv_aload_n hx hb dX3_takeName_62 rfl (lv_at hl 0 rfl) ?_
                  refine va_get (D := (dC, dI)) (ci := 3) (v := .int a0_6) (C := RX3) (T := TX3) (N := 14) hx hb hts zi_X3_takeName_3 hown hK hP 0 rfl rfl 6 (by decide) (hts (.fieldLink RX3 42 "WaxTurns$Reade\x72" "nameCount" "I") (zm_X3_takeName_r1 (List.mem_of_getElem? (i := 1) rfl))) (fun _ h9 => h9) rfl dX3_takeName_63 ?_
                  refine lv_icmp_ge (tgt := 95) hx hb dX3_takeName_66 (by decide) (fun c66 => ?_) (fun c66 => ?_)
                  · have gc66 := ai_le c66
                    have u66t_a0_6 : a0_6.toInt ≤ (12 : Int) := ba0_6_u
                    have l66t_j61l1 : (0 : Int) ≤ j61l1.toInt := bj61l1_l
                    have hF1 := hF1.trans (if_pos (show a0_6.toInt ≤ j61l1.toInt from gc66))
                    have hF0 := hF0.trans (fl_wh_r (hSX61.trans hF1))
                    refine lv_aload_n hx hb dX3_takeName_95 rfl (lv_at hl 0 rfl) ?_
                    refine va_get (D := (dC, dI)) (ci := 3) (v := .int a0_6) (C := RX3) (T := TX3) (N := 14) hx hb hts zi_X3_takeName_3 hown hK hP 0 rfl rfl 6 (by decide) (hts (.fieldLink RX3 42 "WaxTurns$Reade\x72" "nameCount" "I") (zm_X3_takeName_r1 (List.mem_of_getElem? (i := 1) rfl))) (fun _ h9 => h9) rfl dX3_takeName_96 ?_
                    refine lv_bipush (v := 12) hx hb dX3_takeName_99 zk_bipush_12 ?_
                    have J127 : ∀ (j127a0_6 : Int32) (j127a0_4_a : Nat → Int64) (H : Heap) (locs : List Loc) (ls : Array Slot), (0 : Int) ≤ j127a0_6.toInt → j127a0_6.toInt ≤ (12 : Int) → (FX = Gf_X3_takeName_127_1 a0_1.toInt a0_2.toInt a0_7.toInt a0_9.toInt a0_11.toInt a0_12.toInt (fl_A fa0_3) j127a0_6.toInt (fl_L j127a0_4_a)) → va_P (dC, dI) vwCl [(a0, .inr (3, [a0g_0, .int a0_1, .int a0_2, .ref a0_3, .ref a0_4, a0g_5, .int j127a0_6, .int a0_7, .int a0_8, .int a0_9, .int a0_10, .long a0_11, .int a0_12, a0g_13])), (a0_4, .inl (ka0_4, 12, .inr (.inl (j127a0_4_a)))), (a0_3, .inl (ka0_3, 900, .inl (fa0_3)))] H → va_D A [(a0, .inr (3, [a0g_0, .int a0_1, .int a0_2, .ref a0_3, .ref a0_4, a0g_5, .int j127a0_6, .int a0_7, .int a0_8, .int a0_9, .int a0_10, .long a0_11, .int a0_12, a0g_13])), (a0_4, .inl (ka0_4, 12, .inr (.inl (j127a0_4_a)))), (a0_3, .inl (ka0_3, 900, .inl (fa0_3)))] → va_S A s.heap H locs → lv_has ls 2 [(0, .ref a0)] → K H locs (F0 m 127 ls []) := by
                      intro j127a0_6 j127a0_4_a H locs ls  bj127a0_6_l bj127a0_6_u hF0 hP hD hS hl
                      refine (hK0 _ _ _).mpr ?_
                      have hF0 := hF0.trans (Gf_X3_takeName_127_1.eq_1 a0_1.toInt a0_2.toInt a0_7.toInt a0_9.toInt a0_11.toInt a0_12.toInt (fl_A fa0_3) j127a0_6.toInt (fl_L j127a0_4_a))
                      refine lv_aload_n hx hb dX3_takeName_127 rfl (lv_at hl 0 rfl) ?_
                      refine zc_cutc (wc := [(a0, .inr (3, [a0g_0, .int a0_1, .int a0_2, .ref a0_3, .ref a0_4, a0g_5, .int j127a0_6, .int a0_7, .int a0_8, .int a0_9, .int a0_10, .long a0_11, .int a0_12, a0g_13])), (a0_3, .inl (ka0_3, 900, .inl (fa0_3)))]) hP hD hS hA [0, 2] (by decide +kernel) rfl (fun hPc hDc hFc hCc => ?_)
                      have hKc := hK.sub (tys' := [(ka0_3, .byte)]) [1] rfl
                      refine va_callv (va_runV (As := []) (rest := []) ⟨hx, hb, hml, hown, hts⟩ (f_X3_advance l dC dI H.size a0 a0g_0 (.int a0_1) (.int a0_2) (.ref a0_4) a0g_5 (.int j127a0_6) a0g_13 a0_3 a0_7 a0_8 a0_9 a0_10 a0_11 a0_12 ka0_3 fa0_3 ba0_7_l ba0_7_u ba0_8_l ba0_8_u ba0_9_l ba0_9_u (Int.le_trans zq4 l5f_a0_10) (Int.le_trans u5f_a0_10 zq137)) (cwV 0 hts gX3_takeName_X3_advance rfl rfl rfl zd_X3_advance ⟨Nat.le_of_ble_eq_true rfl, Nat.le_of_ble_eq_true rfl⟩) ⟨ax_blind (fun _ _ _ _ _ => trivial), zr_3 hKc hPc (q0 := 0) rfl, ax_pre hPc hKc hDc (fun _ _ => trivial)⟩ rfl rfl hl.1 rfl (lv_room (Nat.le_of_ble_eq_true rfl)) dX3_takeName_128 ⟨Nat.le_of_ble_eq_true rfl, Nat.le_of_ble_eq_true rfl⟩) hS (fun q _ h => hFc q h) hFc (fun u t H locs ht hvm hw => zx_5 (fun v128na0_8 v128na0_9 v128na0_10 v128na0_11 v128na0_12 => zy_4 (fun bv128na0_8 bv128na0_9 bv128na0_10 hraw128_0 hB hz1 hk1 hS1 => zo hB ht hS1 (fun hP1 hK1 hD1 hS => ?_))))
                      refine zc_backc (w := [(a0, .inr (3, [a0g_0, .int a0_1, .int a0_2, .ref a0_3, .ref a0_4, a0g_5, .int j127a0_6, .int a0_7, .int v128na0_8, .int v128na0_9, .int v128na0_10, .long v128na0_11, .int v128na0_12, a0g_13])), (a0_4, .inl (ka0_4, 12, .inr (.inl (j127a0_4_a)))), (a0_3, .inl (ka0_3, 900, .inl (fa0_3)))]) hP hD hCc hk1 hFc hP1 hD1 [.inr 0, .inl 1, .inr 1] (by decide +kernel) rfl (fun hP hD => ?_)
                      have hc128 : Ff_X3_advance a0_7.toInt a0_9.toInt a0_11.toInt a0_12.toInt (fl_A fa0_3) = (v128na0_8.toInt, v128na0_9.toInt, v128na0_10.toInt, v128na0_11.toInt, v128na0_12.toInt) := hraw128_0
                      have hF0 := hF0.trans (fl_c5_eq hc128)
                      refine lv_iconst (v := 1) hx hb dX3_takeName_131 zk_iconst_1 ?_
                      have hFe : FX = (1, a0_1.toInt, a0_2.toInt, j127a0_6.toInt, v128na0_8.toInt, v128na0_9.toInt, v128na0_10.toInt, v128na0_11.toInt, v128na0_12.toInt, (fl_L j127a0_4_a)) := hF0
                      exact W.zret (v := 1) hx hb hr rfl (fun t ht hW => ⟨⟨1, (), rfl, ⟨(Or.inl (rfl)), (congrArg Prod.fst hFe).symm⟩, a0_1, a0_2, j127a0_6, v128na0_8, v128na0_9, v128na0_10, v128na0_11, v128na0_12, j127a0_4_a, ⟨bj127a0_6_l, bj127a0_6_u⟩, ⟨bv128na0_8.1, bv128na0_8.2⟩, ⟨bv128na0_9.1, bv128na0_9.2⟩, ⟨bv128na0_10.1, bv128na0_10.2⟩, (congrArg Prod.snd hFe), by rw [ht]; exact hP, va_K.moved hW.alike hK, hD⟩, hS.F ht⟩) hS.2.2 dX3_takeName_132
                    refine lv_icmp_ge (tgt := 127) hx hb dX3_takeName_101 (by decide) (fun c101 => ?_) (fun c101 => ?_)
                    · have gc101 := ai_le c101
                      have l101t_a0_6 : (12 : Int) ≤ a0_6.toInt := Int.le_trans zq121 gc101
                      have hF0 := hF0.trans (if_pos (show 12 ≤ a0_6.toInt from gc101))
                      exact (hK0 _ _ _).mp (J127 a0_6 fa0_4 _ _ _  (Int.le_trans zq171 l101t_a0_6) u66t_a0_6 hF0 hP hD hS (lv_sub hl [0] rfl))
                    · have gc101 := ai_nle c101
                      have u101f_a0_6 : a0_6.toInt ≤ (11 : Int) := ai_lthi gc101 zq122
                      have hF0 := hF0.trans (if_neg (show ¬ (12 ≤ a0_6.toInt) from Int.not_le.mpr gc101))
                      refine lv_aload_n hx hb dX3_takeName_104 rfl (lv_at hl 0 rfl) ?_
                      refine va_get (D := (dC, dI)) (ci := 3) (v := .ref a0_4) (C := RX3) (T := TX3) (N := 14) hx hb hts zi_X3_takeName_3 hown hK hP 0 rfl rfl 4 (by decide) (hts (.fieldLink RX3 15 "WaxTurns$Reade\x72" "names" "[J") (zm_X3_takeName_r1 (List.mem_of_getElem? (i := 2) rfl))) (fun _ h9 => h9) rfl dX3_takeName_105 ?_
                      refine lv_aload_n hx hb dX3_takeName_108 rfl (lv_at hl 0 rfl) ?_
                      refine va_get (D := (dC, dI)) (ci := 3) (v := .int a0_6) (C := RX3) (T := TX3) (N := 14) hx hb hts zi_X3_takeName_3 hown hK hP 0 rfl rfl 6 (by decide) (hts (.fieldLink RX3 42 "WaxTurns$Reade\x72" "nameCount" "I") (zm_X3_takeName_r1 (List.mem_of_getElem? (i := 1) rfl))) (fun _ h9 => h9) rfl dX3_takeName_109 ?_
                      refine lv_aload_n hx hb dX3_takeName_112 rfl (lv_at hl 0 rfl) ?_
                      refine va_get (D := (dC, dI)) (ci := 3) (v := .long a0_11) (C := RX3) (T := TX3) (N := 14) hx hb hts zi_X3_takeName_3 hown hK hP 0 rfl rfl 11 (by decide) (hts (.fieldLink RX3 81 "WaxTurns$Reade\x72" "word" "J") (zm_X3_takeName_r1 (List.mem_of_getElem? (i := 3) rfl))) (fun _ h9 => h9) rfl dX3_takeName_113 ?_
                      refine va_last hx hb hK hP hD hS 1 0 rfl rfl (ai_in ba0_6_l u101f_a0_6 (by decide) (by decide)) dX3_takeName_116 (fun H locs hP hD hS => ?_)
                      obtain ⟨f116, ef116⟩ : ∃ g9 : Nat → Int64, g9 = vp_updL fa0_4 (a0_6 : Int32).toNatClampNeg a0_11 := ⟨_, rfl⟩
                      refine zs_1 (y := (a0_4, .inl (ka0_4, 12, .inr (.inl (f116))))) hP hD (by rw [ef116]) (fun hP hD => ?_)
                      have fqf116 := fl_upL_eq ef116
                      have hF0 := hF0.trans (fl_lt_eq (show (fl_L f116) = fl_up (fl_L fa0_4) (a0_6.toInt.toNat) a0_11.toInt from fqf116))
                      refine lv_aload_n hx hb dX3_takeName_117 rfl (lv_at hl 0 rfl) ?_
                      refine lv_dup hx hb dX3_takeName_118 rfl ?_
                      refine va_get (D := (dC, dI)) (ci := 3) (v := .int a0_6) (C := RX3) (T := TX3) (N := 14) hx hb hts zi_X3_takeName_3 hown hK hP 0 rfl rfl 6 (by decide) (hts (.fieldLink RX3 42 "WaxTurns$Reade\x72" "nameCount" "I") (zm_X3_takeName_r1 (List.mem_of_getElem? (i := 1) rfl))) (fun _ h9 => h9) rfl dX3_takeName_119 ?_
                      refine lv_iconst (v := 1) hx hb dX3_takeName_122 zk_iconst_1 ?_
                      refine lv_iadd hx hb dX3_takeName_123 ?_
                      refine lv_topi (fun x123 ex123 => ?_)
                      have qx123 : x123.toInt = a0_6.toInt + (1 : Int32).toInt := ai_add ex123 ⟨ba0_6_l, u101f_a0_6⟩ ⟨zq1, zq0⟩ (by decide) (by decide)
                      have bx123 : (1 : Int) ≤ x123.toInt ∧ x123.toInt ≤ 12 := ⟨by rw [qx123]; exact Int.add_le_add ba0_6_l zq1, by rw [qx123]; exact Int.add_le_add u101f_a0_6 zq0⟩
                      have wx123 : x123.toInt = a0_6.toInt + 1 := qx123
                      have hF0 := hF0.trans (fl_lt_eq (show x123.toInt = a0_6.toInt + 1 from qx123))
                      refine va_put (D := (dC, dI)) (ci := 3) (v := .int x123) (ty := .int) (C := RX3) (T := TX3) (N := 14) hx hb hts zi_X3_takeName_3 tyX3 tyX3_ok nmX3 hown hK hP hD hS 0 rfl rfl 6 (by decide) (hts (.fieldLink RX3 42 "WaxTurns$Reade\x72" "nameCount" "I") (zm_X3_takeName_r1 (List.mem_of_getElem? (i := 1) rfl))) (fun _ h9 => h9) rfl (tyX3_ok 6 (by decide)) rfl rfl (Nat.le_of_ble_eq_true rfl) dX3_takeName_124 (fun H locs hP hD hS => ?_)
                      refine zs_0 (y := (a0, .inr (3, [a0g_0, .int a0_1, .int a0_2, .ref a0_3, .ref a0_4, a0g_5, .int x123, .int a0_7, .int a0_8, .int a0_9, .int a0_10, .long a0_11, .int a0_12, a0g_13]))) hP hD rfl (fun hP hD => ?_)
                      exact (hK0 _ _ _).mp (J127 x123 f116 _ _ _  (Int.le_trans zq4 bx123.1) bx123.2 hF0 hP hD hS (lv_sub hl [0] rfl))
                  · have gc66 := ai_nle c66
                    have u66f_j61l1 : j61l1.toInt ≤ (11 : Int) := ai_lthi gc66 ba0_6_u
                    have l66f_a0_6 : (1 : Int) ≤ a0_6.toInt := ai_ltlo gc66 bj61l1_l
                    have hF1 := hF1.trans (if_neg (show ¬ (a0_6.toInt ≤ j61l1.toInt) from Int.not_le.mpr gc66))
                    refine lv_aload_n hx hb dX3_takeName_69 rfl (lv_at hl 0 rfl) ?_
                    refine va_get (D := (dC, dI)) (ci := 3) (v := .ref a0_4) (C := RX3) (T := TX3) (N := 14) hx hb hts zi_X3_takeName_3 hown hK hP 0 rfl rfl 4 (by decide) (hts (.fieldLink RX3 15 "WaxTurns$Reade\x72" "names" "[J") (zm_X3_takeName_r1 (List.mem_of_getElem? (i := 2) rfl))) (fun _ h9 => h9) rfl dX3_takeName_70 ?_
                    refine lv_iload_n hx hb dX3_takeName_73 rfl (lv_at hl 1 rfl) ?_
                    refine va_lald hx hb hK hP 1 0 rfl rfl (ai_in bj61l1_l u66f_j61l1 (by decide) (by decide)) dX3_takeName_74 ?_
                    refine lv_topl (fun x74 ex74 => ?_)
                    have fqx74 := congrArg Int64.toInt ex74
                    have hF1 := hF1.trans (fl_lt_eq (show x74.toInt = (fl_L fa0_4) (j61l1.toInt.toNat) from fqx74))
                    refine lv_aload_n hx hb dX3_takeName_75 rfl (lv_at hl 0 rfl) ?_
                    refine va_get (D := (dC, dI)) (ci := 3) (v := .long a0_11) (C := RX3) (T := TX3) (N := 14) hx hb hts zi_X3_takeName_3 hown hK hP 0 rfl rfl 11 (by decide) (hts (.fieldLink RX3 81 "WaxTurns$Reade\x72" "word" "J") (zm_X3_takeName_r1 (List.mem_of_getElem? (i := 3) rfl))) (fun _ h9 => h9) rfl dX3_takeName_76 ?_
                    refine W.lcmp hx hb dX3_takeName_79 ?_
                    refine lv_topi (fun x79 ex79 => ?_)
                    have fqx79 := fl_cmp_eq ex79
                    have hF1 := hF1.trans (fl_lt_eq (show x79.toInt = fl_cmp x74.toInt a0_11.toInt from fqx79))
                    refine lv_if_ne (tgt := 89) hx hb dX3_takeName_80 (by decide) (fun c80 => ?_) (fun c80 => ?_)
                    · have gc80 := ai_ne c80
                      have hF1 := hF1.trans (if_neg (show ¬ (x79.toInt = 0) from  gc80))
                      obtain ⟨x89, ex89⟩ : ∃ y : Int32, y = j61l1 + Int32.ofInt 1 := ⟨_, rfl⟩
                      have qx89 : x89.toInt = j61l1.toInt + 1 := ai_inc ex89 (by decide) (by decide) u66f_j61l1 (by decide)
                      have bx89 : (1 : Int) ≤ x89.toInt ∧ x89.toInt ≤ 12 := ⟨by rw [qx89]; exact Int.add_le_add bj61l1_l (Int.le_refl _), by rw [qx89]; exact Int.add_le_add u66f_j61l1 (Int.le_refl _)⟩
                      refine lv_iinc (v := x89) (lv' := [(1, .int x89), (0, .ref a0)]) hx hb dX3_takeName_89 hl (k := 1) rfl ex89.symm (by decide) rfl (fun ls hl => ?_)
                      have hF1 := hF1.trans (fl_lt_eq (show x89.toInt = j61l1.toInt + 1 from qx89))
                      refine lv_goto (tgt := 61) hx hb dX3_takeName_92 (by decide) ?_
                      exact (hK0 _ _ _).mp (ih61 x89 _ _ _ (by first | exact zg_s hm61 qx89 | (have h0 := qx89; omega)) (Int.le_trans zq4 bx89.1) bx89.2 (hF0.trans (fl_wh_l (hSX61.trans hF1))) hP hD hS (lv_sub hl [1, 0] rfl))
                    · have gc80 := ai_eq c80
                      have u80f_x79 : x79.toInt ≤ (0 : Int) := Int.le_trans (Int.le_of_eq gc80) zq6
                      have l80f_x79 : (0 : Int) ≤ x79.toInt := Int.le_trans zq5 (Int.le_of_eq gc80.symm)
                      have hF1 := hF1.trans (if_pos (show x79.toInt = 0 from gc80))
                      have hF0 := hF0.trans (fl_wh_r (hSX61.trans hF1))
                      refine lv_aload_n hx hb dX3_takeName_83 rfl (lv_at hl 0 rfl) ?_
                      refine lv_iconst (v := 3) hx hb dX3_takeName_84 zk_iconst_3 ?_
                      refine va_calli (va_runV (As := [.int 3]) (rest := []) ⟨hx, hb, hml, hown, hts⟩ (f_X3_fails l dC dI H.size a0 3 a0g_0 (.ref a0_3) (.ref a0_4) a0g_5 (.int a0_6) (.int a0_7) (.int a0_9) (.int a0_10) (.long a0_11) (.int a0_12) a0g_13 a0_1 a0_2 a0_8 ba0_8_l ba0_8_u) (cwV 1 hts gX3_takeName_X3_fails rfl rfl rfl zd_X3_fails ⟨Nat.le_of_ble_eq_true rfl, Nat.le_of_ble_eq_true rfl⟩) ⟨ax_blind (fun _ _ _ _ _ => trivial), zr_3 (zp_K hK) (zp_P1 hP) (q0 := 0) rfl, ax_pre (zp_P1 hP) (zp_K hK) (zp_D1 hD) (fun _ _ => trivial)⟩ rfl rfl hl.1 rfl (lv_room (Nat.le_of_ble_eq_true rfl)) dX3_takeName_85 ⟨Nat.le_of_ble_eq_true rfl, Nat.le_of_ble_eq_true rfl⟩) hS (fun q _ h => zp_F1 hD hS hA q h) (zp_F1 hD hS hA) (fun r85 u t H locs ht hvm hw => zx_2 (fun v85na0_1 v85na0_2 => zy_1 (fun hraw85_0 hB hz1 hk1 hS1 => zo1 hB ht hP hD hk1 (zp_F1 hD hS hA) hS1 (fun hP hK1 hD hS => ?_))))
                      obtain ⟨hw, hfr85⟩ := hw
                      rw [show (3 : Int32).toInt = 3 from by decide] at hfr85 hraw85_0
                      have hc85 : Ff_X3_fails 3 a0_8.toInt = (r85.toInt, v85na0_1.toInt, v85na0_2.toInt) := Prod.ext hfr85.symm hraw85_0
                      have hF0 := hF0.trans (fl_c3_eq hc85)
                      have hw : r85 = 0 := hw
                      have hw := hw.symm
                      subst hw
                      have hFe : FX = (0, v85na0_1.toInt, v85na0_2.toInt, a0_6.toInt, a0_8.toInt, a0_9.toInt, a0_10.toInt, a0_11.toInt, a0_12.toInt, (fl_L fa0_4)) := hF0
                      exact W.zret (v := 0) hx hb hr rfl (fun t ht hW => ⟨⟨0, (), rfl, ⟨(Or.inr (rfl)), (congrArg Prod.fst hFe).symm⟩, v85na0_1, v85na0_2, a0_6, a0_8, a0_9, a0_10, a0_11, a0_12, fa0_4, ⟨Int.le_trans (by decide) l66f_a0_6, ba0_6_u⟩, ⟨ba0_8_l, ba0_8_u⟩, ⟨ba0_9_l, ba0_9_u⟩, ⟨Int.le_trans (by decide) l5f_a0_10, Int.le_trans u5f_a0_10 (by decide)⟩, (congrArg Prod.snd hFe), by rw [ht]; exact hP, va_K.moved hW.alike hK, hD⟩, hS.F ht⟩) hS.2.2 dX3_takeName_88
              exact (hK0 _ _ _).mp (J61 13 0 _ _ _ (by first | decide +kernel | (have h1 : (0 : Int) ≤ (0 : Int32).toInt := zq5; have h2 : (0 : Int32).toInt ≤ (0 : Int) := zq6; omega)) zq5 (Int.le_trans zq6 zq171) (by rw [show (0 : Int32).toInt = 0 from by decide]; exact hF0) hP hD hS (lv_sub hl [1, 0] rfl))
end P311_01_f
section P311_02_f
set_option maxHeartbeats 4000000 in
set_option maxRecDepth 100000 in
theorem f_X3_readHall (l : Launch) (dC : Nat → ClassId) (dI : Nat → Nat → Nat) (sz : Nat) (a0 : Nat) (a0g_0 a0g_4 a0g_6 : Value) (a0_1 : Int32) (a0_2 : Int32) (a0_3 : Nat) (a0_5 : Nat) (a0_7 : Int32) (a0_8 : Int32) (a0_9 : Int32) (a0_10 : Int32) (a0_11 : Int64) (a0_12 : Int32) (a0_13 : Int32) (ka0_3 : ClassId) (fa0_3 : Nat → Int32) (a0_5_0 : Int32) (a0_5_1 : Int32) (a0_5_2 : Int32) (a0_5_3 : Int32) (a0_5g_4 a0_5g_5 a0_5g_6 a0_5g_7 a0_5g_8 a0_5g_9 a0_5g_10 a0_5g_11 a0_5g_12 a0_5g_13 a0_5g_14 : Value) (ad : Nat → Nat) (ba0_7_l : (0 : Int) ≤ a0_7.toInt) (ba0_7_u : a0_7.toInt ≤ (900 : Int)) (ba0_8_l : (0 : Int) ≤ a0_8.toInt) (ba0_8_u : a0_8.toInt ≤ (900 : Int)) (ba0_9_l : (0 : Int) ≤ a0_9.toInt) (ba0_9_u : a0_9.toInt ≤ (900 : Int)) (ba0_10_l : (0 : Int) ≤ a0_10.toInt) (ba0_10_u : a0_10.toInt ≤ (4 : Int)) (ba0_5_0_l : (0 : Int) ≤ a0_5_0.toInt) (ba0_5_0_u : a0_5_0.toInt ≤ (9 : Int)) : zm l yX3_readHall wsX3_readHall ({ frames := 6, cells := 0, slots := 0, locals := 132 }) [.ref a0] dC dI sz [(a0, .inr (3, [a0g_0, .int a0_1, .int a0_2, .ref a0_3, a0g_4, .ref a0_5, a0g_6, .int a0_7, .int a0_8, .int a0_9, .int a0_10, .long a0_11, .int a0_12, .int a0_13])), (a0_3, .inl (ka0_3, 900, .inl (fa0_3))), (a0_5, .inr (0, [.int a0_5_0, .int a0_5_1, .int a0_5_2, .int a0_5_3, a0_5g_4, a0_5g_5, a0_5g_6, a0_5g_7, a0_5g_8, a0_5g_9, a0_5g_10, a0_5g_11, a0_5g_12, a0_5g_13, a0_5g_14]))] [(ka0_3, .byte)] (fun A U => sxc_T ad A U ∧ va_Nw (.methodLinkNest RX3 223 yX7_within RX7) U) (fun A => va_Qi (fun (r : Int32) (_ : Unit) => ((r = 1) ∨ (r = 0)) ∧ r.toInt = (Ff_X3_readHall a0_1.toInt a0_2.toInt a0_7.toInt a0_9.toInt a0_11.toInt a0_12.toInt a0_13.toInt (fl_A fa0_3) a0_5_0.toInt a0_5_1.toInt a0_5_2.toInt a0_5_3.toInt).1) (fun (_ : Unit) (t : State) => ∃ na0_1 : Int32, ∃ na0_2 : Int32, ∃ na0_8 : Int32, ∃ na0_9 : Int32, ∃ na0_10 : Int32, ∃ na0_11 : Int64, ∃ na0_12 : Int32, ∃ na0_13 : Int32, ∃ na0_5_0 : Int32, ∃ na0_5_1 : Int32, ∃ na0_5_2 : Int32, ∃ na0_5_3 : Int32, ((0 : Int) ≤ na0_8.toInt ∧ na0_8.toInt ≤ 900) ∧ ((0 : Int) ≤ na0_9.toInt ∧ na0_9.toInt ≤ 900) ∧ ((0 : Int) ≤ na0_10.toInt ∧ na0_10.toInt ≤ 4) ∧ ((0 : Int) ≤ na0_5_0.toInt ∧ na0_5_0.toInt ≤ 9) ∧ ((Ff_X3_readHall a0_1.toInt a0_2.toInt a0_7.toInt a0_9.toInt a0_11.toInt a0_12.toInt a0_13.toInt (fl_A fa0_3) a0_5_0.toInt a0_5_1.toInt a0_5_2.toInt a0_5_3.toInt).2 = (na0_1.toInt, na0_2.toInt, na0_8.toInt, na0_9.toInt, na0_10.toInt, na0_11.toInt, na0_12.toInt, na0_13.toInt, na0_5_0.toInt, na0_5_1.toInt, na0_5_2.toInt, na0_5_3.toInt)) ∧ ax_B dC dI A [(a0, .inr (3, [a0g_0, .int na0_1, .int na0_2, .ref a0_3, a0g_4, .ref a0_5, a0g_6, .int a0_7, .int na0_8, .int na0_9, .int na0_10, .long na0_11, .int na0_12, .int na0_13])), (a0_3, .inl (ka0_3, 900, .inl (fa0_3))), (a0_5, .inr (0, [.int na0_5_0, .int na0_5_1, .int na0_5_2, .int na0_5_3, a0_5g_4, a0_5g_5, a0_5g_6, a0_5g_7, a0_5g_8, a0_5g_9, a0_5g_10, a0_5g_11, a0_5g_12, a0_5g_13, a0_5g_14]))] [(ka0_3, .byte)] t) A) := by
  refine zh (cc := cX3_readHall) (maxL := 2) (ret := (some .boolean)) zn_RX3 rfl (Nat.le_of_ble_eq_true rfl) (fun p e s m below meth c A ls hx hb hml hr hts (hown : s.vm.findClass RX3 = some m.cls) hlocks hA hS hP hK hD hE (hl : lv_has ls 2 [(0, .ref a0)]) => ?_)
  obtain ⟨hE0, hE1⟩ := hE
  generalize hFX : Ff_X3_readHall a0_1.toInt a0_2.toInt a0_7.toInt a0_9.toInt a0_11.toInt a0_12.toInt a0_13.toInt (fl_A fa0_3) a0_5_0.toInt a0_5_1.toInt a0_5_2.toInt a0_5_3.toInt = FX at ⊢
  have hF0 := hFX.symm.trans (Ff_X3_readHall.eq_1 a0_1.toInt a0_2.toInt a0_7.toInt a0_9.toInt a0_11.toInt a0_12.toInt a0_13.toInt (fl_A fa0_3) a0_5_0.toInt a0_5_1.toInt a0_5_2.toInt a0_5_3.toInt)
  refine lv_aload_n hx hb dX3_readHall_0 rfl (lv_at hl 0 rfl) ?_
  have hKc := hK.sub (tys' := [(ka0_3, .byte)]) [0] rfl
  refine va_callv (va_runV (As := []) (rest := []) ⟨hx, hb, hml, hown, hts⟩ (f_X3_advance l dC dI s.heap.size a0 a0g_0 (.int a0_1) (.int a0_2) a0g_4 (.ref a0_5) a0g_6 (.int a0_13) a0_3 a0_7 a0_8 a0_9 a0_10 a0_11 a0_12 ka0_3 fa0_3 ba0_7_l ba0_7_u ba0_8_l ba0_8_u ba0_9_l ba0_9_u ba0_10_l ba0_10_u) (cwV 0 hts gX3_readHall_X3_advance rfl rfl rfl zd_X3_advance ⟨Nat.le_of_ble_eq_true rfl, Nat.le_of_ble_eq_true rfl⟩) ⟨ax_blind (fun _ _ _ _ _ => trivial), zr_3 hKc (zp_P2 hP) (q0 := 0) rfl, ax_pre (zp_P2 hP) hKc (zp_D2 hD) (fun _ _ => trivial)⟩ rfl rfl hl.1 rfl (lv_room (Nat.le_of_ble_eq_true rfl)) dX3_readHall_1 ⟨Nat.le_of_ble_eq_true rfl, Nat.le_of_ble_eq_true rfl⟩) hS (fun q _ h => zp_F2 hD hS hA q h) (zp_F2 hD hS hA) (fun u t H locs ht hvm hw => zx_5 (fun v1na0_8 v1na0_9 v1na0_10 v1na0_11 v1na0_12 => zy_4 (fun bv1na0_8 bv1na0_9 bv1na0_10 hraw1_0 hB hz1 hk1 hS1 => zo2 hB ht hP hD hk1 (zp_F2 hD hS hA) hS1 (fun hP hK1 hD hS => ?_))))
  have hc1 : Ff_X3_advance a0_7.toInt a0_9.toInt a0_11.toInt a0_12.toInt (fl_A fa0_3) = (v1na0_8.toInt, v1na0_9.toInt, v1na0_10.toInt, v1na0_11.toInt, v1na0_12.toInt) := hraw1_0
  have hF0 := hF0.trans (fl_c5_eq hc1)
  refine lv_aload_n hx hb dX3_readHall_4 rfl (lv_at hl 0 rfl) ?_
  refine va_ldcS hx hb hown (sxc_R5 hE0) dX3_readHall_5 ?_
  refine lv_iconst (v := 2) hx hb dX3_readHall_7 zk_iconst_2 ?_
  refine lv_bipush (v := 9) hx hb dX3_readHall_8 zk_bipush_9 ?_
  have hKc := hK.sub (tys' := [(ka0_3, .byte)]) [0] rfl
  refine va_calli (va_runV (As := [.ref (ad 5), .int 2, .int 9]) (rest := []) ⟨hx, hb, hml, hown, hts⟩ (f_X3_takeWhole l dC dI H.size a0 (ad 5) 2 9 a0g_0 a0g_4 (.ref a0_5) a0g_6 a0_1 a0_2 a0_3 a0_7 v1na0_8 v1na0_9 v1na0_10 v1na0_11 v1na0_12 a0_13 ka0_3 fa0_3 7 (sxc 5) ba0_7_l ba0_7_u bv1na0_8.1 bv1na0_8.2 bv1na0_9.1 bv1na0_9.2 bv1na0_10.1 bv1na0_10.2) (cwV 3 hts gX3_readHall_X3_takeWhole rfl rfl rfl zd_X3_takeWhole ⟨Nat.le_of_ble_eq_true rfl, Nat.le_of_ble_eq_true rfl⟩) ⟨ax_blind (fun _ _ _ _ hq => ⟨sxc_W_same _ _ _ _ (hq.1), va_Nw.same rfl rfl (hq.2)⟩), zr_3 hKc (zp_P2 hP) (q0 := 0) rfl, ax_preE (zp_P2 hP) hKc (zp_D2 hD) (fun U hU hW => ⟨sxc_W_to (sxc_T_w hE0 (i := 5) (by decide)) hS.2.1 (zp_F2 hD hS hA) hU hW, va_Nw.warmM hW hE1⟩)⟩ rfl rfl hl.1 rfl (lv_room (Nat.le_of_ble_eq_true rfl)) dX3_readHall_10 ⟨Nat.le_of_ble_eq_true rfl, Nat.le_of_ble_eq_true rfl⟩) hS (fun q _ h => zp_F2 hD hS hA q h) (zp_F2 hD hS hA) (fun r10 v10na0_13 t H1 locs ht hvm hw => zx_7 (fun v10na0_1 v10na0_2 v10na0_8 v10na0_9 v10na0_10 v10na0_11 v10na0_12 => zy_4 (fun bv10na0_8 bv10na0_9 bv10na0_10 hraw10_0 hB hz1 hk1 hS1 => zo2 hB ht hP hD hk1 (zp_F2 hD hS hA) hS1 (fun hP hK1 hD hS => ?_))))
  generalize H1 = H at hP hS ⊢
  obtain ⟨hw, hfr10⟩ := hw
  rw [show (2 : Int32).toInt = 2 from by decide, show (9 : Int32).toInt = 9 from by decide, show ((7 : Nat) : Int) = 7 from rfl] at hfr10 hraw10_0
  have hc10 : Ff_X3_takeWhole 2 9 a0_1.toInt a0_2.toInt a0_7.toInt v1na0_8.toInt v1na0_9.toInt v1na0_10.toInt v1na0_11.toInt v1na0_12.toInt a0_13.toInt (fl_A fa0_3) 7 (fl_A (sxc 5)) = (r10.toInt, v10na0_1.toInt, v10na0_2.toInt, v10na0_8.toInt, v10na0_9.toInt, v10na0_10.toInt, v10na0_11.toInt, v10na0_12.toInt, v10na0_13.toInt) := Prod.ext hfr10.symm hraw10_0
  have hF0 := hF0.trans (fl_c9_eq hc10)
  rcases hw with hw | hw
  · obtain ⟨hw, h10⟩ := hw
    subst hw
    have l10k0_v10na0_13 : (2 : Int) ≤ v10na0_13.toInt := Int.le_trans zq12 h10.1
    have u10k0_v10na0_13 : v10na0_13.toInt ≤ (9 : Int) := Int.le_trans h10.2 zq3
    have hF0 := hF0.trans (if_pos (by decide))
    refine lv_if_ne (tgt := 18) hx hb dX3_readHall_13 (by decide) (fun _ => ?_) (fun c13 => absurd c13 (by decide +kernel))
    refine lv_aload_n hx hb dX3_readHall_18 rfl (lv_at hl 0 rfl) ?_
    refine va_get (D := (dC, dI)) (ci := 3) (v := .int v10na0_13) (C := RX3) (T := TX3) (N := 14) hx hb hts zi_X3_readHall_3 hown hK hP 0 rfl rfl 13 (by decide) (hts (.fieldLink RX3 156 "WaxTurns$Reade\x72" "taken" "I") (zm_X3_readHall_r1 (List.mem_of_getElem? (i := 0) rfl))) (fun _ h9 => h9) rfl dX3_readHall_19 ?_
    refine lv_istore_n (lv' := [(1, .int v10na0_13), (0, .ref a0)]) hx hb dX3_readHall_22 rfl hl (by decide) rfl (fun ls hl => ?_)
    refine lv_aload_n hx hb dX3_readHall_23 rfl (lv_at hl 1 rfl) ?_
    refine va_ldcS hx hb hown (sxc_R6 hE0) dX3_readHall_24 ?_
    refine lv_iconst (v := 1) hx hb dX3_readHall_26 zk_iconst_1 ?_
    refine lv_bipush (v := 20) hx hb dX3_readHall_27 zk_bipush_20 ?_
    have hKc := hK.sub (tys' := [(ka0_3, .byte)]) [0] rfl
    refine va_calli (va_runV (As := [.ref (ad 6), .int 1, .int 20]) (rest := []) ⟨hx, hb, hml, hown, hts⟩ (f_X3_takeWhole l dC dI H.size a0 (ad 6) 1 20 a0g_0 a0g_4 (.ref a0_5) a0g_6 v10na0_1 v10na0_2 a0_3 a0_7 v10na0_8 v10na0_9 v10na0_10 v10na0_11 v10na0_12 v10na0_13 ka0_3 fa0_3 4 (sxc 6) ba0_7_l ba0_7_u bv10na0_8.1 bv10na0_8.2 bv10na0_9.1 bv10na0_9.2 bv10na0_10.1 bv10na0_10.2) (cwV 3 hts gX3_readHall_X3_takeWhole rfl rfl rfl zd_X3_takeWhole ⟨Nat.le_of_ble_eq_true rfl, Nat.le_of_ble_eq_true rfl⟩) ⟨ax_blind (fun _ _ _ _ hq => ⟨sxc_W_same _ _ _ _ (hq.1), va_Nw.same rfl rfl (hq.2)⟩), zr_3 hKc (zp_P2 hP) (q0 := 0) rfl, ax_preE (zp_P2 hP) hKc (zp_D2 hD) (fun U hU hW => ⟨sxc_W_to (sxc_T_w hE0 (i := 6) (by decide)) hS.2.1 (zp_F2 hD hS hA) hU hW, va_Nw.warmM hW hE1⟩)⟩ rfl rfl hl.1 rfl (lv_room (Nat.le_of_ble_eq_true rfl)) dX3_readHall_29 ⟨Nat.le_of_ble_eq_true rfl, Nat.le_of_ble_eq_true rfl⟩) hS (fun q _ h => zp_F2 hD hS hA q h) (zp_F2 hD hS hA) (fun r29 v29na0_13 t H1 locs ht hvm hw => zx_7 (fun v29na0_1 v29na0_2 v29na0_8 v29na0_9 v29na0_10 v29na0_11 v29na0_12 => zy_4 (fun bv29na0_8 bv29na0_9 bv29na0_10 hraw29_0 hB hz1 hk1 hS1 => zo2 hB ht hP hD hk1 (zp_F2 hD hS hA) hS1 (fun hP hK1 hD hS => ?_))))
    generalize H1 = H at hP hS ⊢
    obtain ⟨hw, hfr29⟩ := hw
    rw [show (1 : Int32).toInt = 1 from by decide, show (20 : Int32).toInt = 20 from by decide, show ((4 : Nat) : Int) = 4 from rfl] at hfr29 hraw29_0
    have hc29 : Ff_X3_takeWhole 1 20 v10na0_1.toInt v10na0_2.toInt a0_7.toInt v10na0_8.toInt v10na0_9.toInt v10na0_10.toInt v10na0_11.toInt v10na0_12.toInt v10na0_13.toInt (fl_A fa0_3) 4 (fl_A (sxc 6)) = (r29.toInt, v29na0_1.toInt, v29na0_2.toInt, v29na0_8.toInt, v29na0_9.toInt, v29na0_10.toInt, v29na0_11.toInt, v29na0_12.toInt, v29na0_13.toInt) := Prod.ext hfr29.symm hraw29_0
    have hF0 := hF0.trans (fl_c9_eq hc29)
    rcases hw with hw | hw
    · obtain ⟨hw, h29⟩ := hw
      subst hw
      have l29k0_v29na0_13 : (1 : Int) ≤ v29na0_13.toInt := Int.le_trans zq1 h29.1
      have u29k0_v29na0_13 : v29na0_13.toInt ≤ (20 : Int) := Int.le_trans h29.2 zq156
      have hF0 := hF0.trans (if_pos (by decide))
      refine lv_if_ne (tgt := 37) hx hb dX3_readHall_32 (by decide) (fun _ => ?_) (fun c32 => absurd c32 (by decide +kernel))
      refine lv_aload_n hx hb dX3_readHall_37 rfl (lv_at hl 1 rfl) ?_
      refine va_get (D := (dC, dI)) (ci := 3) (v := .ref a0_5) (C := RX3) (T := TX3) (N := 14) hx hb hts zi_X3_readHall_3 hown hK hP 0 rfl rfl 5 (by decide) (hts (.fieldLink RX3 22 "WaxTurns$Reade\x72" "draft" "LWaxTurns$Hall;") (zm_X3_readHall_r1 (List.mem_of_getElem? (i := 1) rfl))) (fun _ h9 => h9) rfl dX3_readHall_38 ?_
      refine lv_aload_n hx hb dX3_readHall_41 rfl (lv_at hl 1 rfl) ?_
      refine va_get (D := (dC, dI)) (ci := 3) (v := .int v29na0_13) (C := RX3) (T := TX3) (N := 14) hx hb hts zi_X3_readHall_3 hown hK hP 0 rfl rfl 13 (by decide) (hts (.fieldLink RX3 156 "WaxTurns$Reade\x72" "taken" "I") (zm_X3_readHall_r1 (List.mem_of_getElem? (i := 0) rfl))) (fun _ h9 => h9) rfl dX3_readHall_42 ?_
      refine va_put (D := (dC, dI)) (ci := 0) (v := .int v29na0_13) (ty := .int) (C := RX0) (T := TX0) (N := 15) hx hb hts zi_X3_readHall_0 tyX0 tyX0_ok nmX0 hown hK hP hD hS 2 rfl rfl 1 (by decide) (hts (.fieldLink RX3 161 "WaxTurns$Hall" "span" "I") (zm_X3_readHall_r1 (List.mem_of_getElem? (i := 2) rfl))) (fun _ h9 => h9) rfl (tyX0_ok 1 (by decide)) rfl rfl (Nat.le_of_ble_eq_true rfl) dX3_readHall_45 (fun H locs hP hD hS => ?_)
      refine zs_2 (y := (a0_5, .inr (0, [.int a0_5_0, .int v29na0_13, .int a0_5_2, .int a0_5_3, a0_5g_4, a0_5g_5, a0_5g_6, a0_5g_7, a0_5g_8, a0_5g_9, a0_5g_10, a0_5g_11, a0_5g_12, a0_5g_13, a0_5g_14]))) hP hD rfl (fun hP hD => ?_)
      refine lv_aload_n hx hb dX3_readHall_48 rfl (lv_at hl 1 rfl) ?_
      refine va_ldcS hx hb hown (sxc_R7 hE0) dX3_readHall_49 ?_
      refine lv_iconst (v := 0) hx hb dX3_readHall_51 zk_iconst_0 ?_
      refine lv_iload_n hx hb dX3_readHall_52 rfl (lv_at hl 0 rfl) ?_
      refine lv_iconst (v := 1) hx hb dX3_readHall_53 zk_iconst_1 ?_
      refine lv_isub hx hb dX3_readHall_54 ?_
      refine lv_topi (fun x54 ex54 => ?_)
      have qx54 : x54.toInt = v10na0_13.toInt - (1 : Int32).toInt := ai_sub ex54 ⟨l10k0_v10na0_13, u10k0_v10na0_13⟩ ⟨zq1, zq0⟩ (by decide) (by decide)
      have bx54 : (1 : Int) ≤ x54.toInt ∧ x54.toInt ≤ 8 := ⟨by rw [qx54]; exact Int.sub_le_sub l10k0_v10na0_13 zq0, by rw [qx54]; exact Int.sub_le_sub u10k0_v10na0_13 zq1⟩
      have wx54 : x54.toInt = v10na0_13.toInt - 1 := qx54
      have hF0 := hF0.trans (fl_lt_eq (show x54.toInt = v10na0_13.toInt - 1 from qx54))
      have hKc := hK.sub (tys' := [(ka0_3, .byte)]) [0] rfl
      refine va_calli (va_runV (As := [.ref (ad 7), .int 0, .int x54]) (rest := []) ⟨hx, hb, hml, hown, hts⟩ (f_X3_takeWhole l dC dI H.size a0 (ad 7) 0 x54 a0g_0 a0g_4 (.ref a0_5) a0g_6 v29na0_1 v29na0_2 a0_3 a0_7 v29na0_8 v29na0_9 v29na0_10 v29na0_11 v29na0_12 v29na0_13 ka0_3 fa0_3 6 (sxc 7) ba0_7_l ba0_7_u bv29na0_8.1 bv29na0_8.2 bv29na0_9.1 bv29na0_9.2 bv29na0_10.1 bv29na0_10.2) (cwV 3 hts gX3_readHall_X3_takeWhole rfl rfl rfl zd_X3_takeWhole ⟨Nat.le_of_ble_eq_true rfl, Nat.le_of_ble_eq_true rfl⟩) ⟨ax_blind (fun _ _ _ _ hq => ⟨sxc_W_same _ _ _ _ (hq.1), va_Nw.same rfl rfl (hq.2)⟩), zr_3 hKc (zp_P2 hP) (q0 := 0) rfl, ax_preE (zp_P2 hP) hKc (zp_D2 hD) (fun U hU hW => ⟨sxc_W_to (sxc_T_w hE0 (i := 7) (by decide)) hS.2.1 (zp_F2 hD hS hA) hU hW, va_Nw.warmM hW hE1⟩)⟩ rfl rfl hl.1 rfl (lv_room (Nat.le_of_ble_eq_true rfl)) dX3_readHall_55 ⟨Nat.le_of_ble_eq_true rfl, Nat.le_of_ble_eq_true rfl⟩) hS (fun q _ h => zp_F2 hD hS hA q h) (zp_F2 hD hS hA) (fun r55 v55na0_13 t H1 locs ht hvm hw => zx_7 (fun v55na0_1 v55na0_2 v55na0_8 v55na0_9 v55na0_10 v55na0_11 v55na0_12 => zy_4 (fun bv55na0_8 bv55na0_9 bv55na0_10 hraw55_0 hB hz1 hk1 hS1 => zo2 hB ht hP hD hk1 (zp_F2 hD hS hA) hS1 (fun hP hK1 hD hS => ?_))))
      generalize H1 = H at hP hS ⊢
      obtain ⟨hw, hfr55⟩ := hw
      rw [show (0 : Int32).toInt = 0 from by decide, show ((6 : Nat) : Int) = 6 from rfl] at hfr55 hraw55_0
      have hc55 : Ff_X3_takeWhole 0 x54.toInt v29na0_1.toInt v29na0_2.toInt a0_7.toInt v29na0_8.toInt v29na0_9.toInt v29na0_10.toInt v29na0_11.toInt v29na0_12.toInt v29na0_13.toInt (fl_A fa0_3) 6 (fl_A (sxc 7)) = (r55.toInt, v55na0_1.toInt, v55na0_2.toInt, v55na0_8.toInt, v55na0_9.toInt, v55na0_10.toInt, v55na0_11.toInt, v55na0_12.toInt, v55na0_13.toInt) := Prod.ext hfr55.symm hraw55_0
      have hF0 := hF0.trans (fl_c9_eq hc55)
      rcases hw with hw | hw
      · obtain ⟨hw, h55⟩ := hw
        subst hw
        have l55k0_v55na0_13 : (0 : Int) ≤ v55na0_13.toInt := Int.le_trans zq5 h55.1
        have u55k0_v55na0_13 : v55na0_13.toInt ≤ (8 : Int) := Int.le_trans h55.2 bx54.2
        have hF0 := hF0.trans (if_pos (by decide))
        refine lv_if_ne (tgt := 63) hx hb dX3_readHall_58 (by decide) (fun _ => ?_) (fun c58 => absurd c58 (by decide +kernel))
        refine lv_aload_n hx hb dX3_readHall_63 rfl (lv_at hl 1 rfl) ?_
        refine va_get (D := (dC, dI)) (ci := 3) (v := .ref a0_5) (C := RX3) (T := TX3) (N := 14) hx hb hts zi_X3_readHall_3 hown hK hP 0 rfl rfl 5 (by decide) (hts (.fieldLink RX3 22 "WaxTurns$Reade\x72" "draft" "LWaxTurns$Hall;") (zm_X3_readHall_r1 (List.mem_of_getElem? (i := 1) rfl))) (fun _ h9 => h9) rfl dX3_readHall_64 ?_
        refine lv_aload_n hx hb dX3_readHall_67 rfl (lv_at hl 1 rfl) ?_
        refine va_get (D := (dC, dI)) (ci := 3) (v := .int v55na0_13) (C := RX3) (T := TX3) (N := 14) hx hb hts zi_X3_readHall_3 hown hK hP 0 rfl rfl 13 (by decide) (hts (.fieldLink RX3 156 "WaxTurns$Reade\x72" "taken" "I") (zm_X3_readHall_r1 (List.mem_of_getElem? (i := 0) rfl))) (fun _ h9 => h9) rfl dX3_readHall_68 ?_
        refine va_put (D := (dC, dI)) (ci := 0) (v := .int v55na0_13) (ty := .int) (C := RX0) (T := TX0) (N := 15) hx hb hts zi_X3_readHall_0 tyX0 tyX0_ok nmX0 hown hK hP hD hS 2 rfl rfl 2 (by decide) (hts (.fieldLink RX3 165 "WaxTurns$Hall" "stairsPlace" "I") (zm_X3_readHall_r1 (List.mem_of_getElem? (i := 3) rfl))) (fun _ h9 => h9) rfl (tyX0_ok 2 (by decide)) rfl rfl (Nat.le_of_ble_eq_true rfl) dX3_readHall_71 (fun H locs hP hD hS => ?_)
        refine zs_2 (y := (a0_5, .inr (0, [.int a0_5_0, .int v29na0_13, .int v55na0_13, .int a0_5_3, a0_5g_4, a0_5g_5, a0_5g_6, a0_5g_7, a0_5g_8, a0_5g_9, a0_5g_10, a0_5g_11, a0_5g_12, a0_5g_13, a0_5g_14]))) hP hD rfl (fun hP hD => ?_)
        refine lv_aload_n hx hb dX3_readHall_74 rfl (lv_at hl 1 rfl) ?_
        refine va_ldcS hx hb hown (sxc_R8 hE0) dX3_readHall_75 ?_
        refine lv_iconst (v := 0) hx hb dX3_readHall_77 zk_iconst_0 ?_
        refine lv_bipush (v := 100) hx hb dX3_readHall_78 zk_bipush_100 ?_
        have hKc := hK.sub (tys' := [(ka0_3, .byte)]) [0] rfl
        refine va_calli (va_runV (As := [.ref (ad 8), .int 0, .int 100]) (rest := []) ⟨hx, hb, hml, hown, hts⟩ (f_X3_takeWhole l dC dI H.size a0 (ad 8) 0 100 a0g_0 a0g_4 (.ref a0_5) a0g_6 v55na0_1 v55na0_2 a0_3 a0_7 v55na0_8 v55na0_9 v55na0_10 v55na0_11 v55na0_12 v55na0_13 ka0_3 fa0_3 4 (sxc 8) ba0_7_l ba0_7_u bv55na0_8.1 bv55na0_8.2 bv55na0_9.1 bv55na0_9.2 bv55na0_10.1 bv55na0_10.2) (cwV 3 hts gX3_readHall_X3_takeWhole rfl rfl rfl zd_X3_takeWhole ⟨Nat.le_of_ble_eq_true rfl, Nat.le_of_ble_eq_true rfl⟩) ⟨ax_blind (fun _ _ _ _ hq => ⟨sxc_W_same _ _ _ _ (hq.1), va_Nw.same rfl rfl (hq.2)⟩), zr_3 hKc (zp_P2 hP) (q0 := 0) rfl, ax_preE (zp_P2 hP) hKc (zp_D2 hD) (fun U hU hW => ⟨sxc_W_to (sxc_T_w hE0 (i := 8) (by decide)) hS.2.1 (zp_F2 hD hS hA) hU hW, va_Nw.warmM hW hE1⟩)⟩ rfl rfl hl.1 rfl (lv_room (Nat.le_of_ble_eq_true rfl)) dX3_readHall_80 ⟨Nat.le_of_ble_eq_true rfl, Nat.le_of_ble_eq_true rfl⟩) hS (fun q _ h => zp_F2 hD hS hA q h) (zp_F2 hD hS hA) (fun r80 v80na0_13 t H1 locs ht hvm hw => zx_7 (fun v80na0_1 v80na0_2 v80na0_8 v80na0_9 v80na0_10 v80na0_11 v80na0_12 => zy_4 (fun bv80na0_8 bv80na0_9 bv80na0_10 hraw80_0 hB hz1 hk1 hS1 => zo2 hB ht hP hD hk1 (zp_F2 hD hS hA) hS1 (fun hP hK1 hD hS => ?_))))
        generalize H1 = H at hP hS ⊢
        obtain ⟨hw, hfr80⟩ := hw
        rw [show (0 : Int32).toInt = 0 from by decide, show (100 : Int32).toInt = 100 from by decide, show ((4 : Nat) : Int) = 4 from rfl] at hfr80 hraw80_0
        have hc80 : Ff_X3_takeWhole 0 100 v55na0_1.toInt v55na0_2.toInt a0_7.toInt v55na0_8.toInt v55na0_9.toInt v55na0_10.toInt v55na0_11.toInt v55na0_12.toInt v55na0_13.toInt (fl_A fa0_3) 4 (fl_A (sxc 8)) = (r80.toInt, v80na0_1.toInt, v80na0_2.toInt, v80na0_8.toInt, v80na0_9.toInt, v80na0_10.toInt, v80na0_11.toInt, v80na0_12.toInt, v80na0_13.toInt) := Prod.ext hfr80.symm hraw80_0
        have hF0 := hF0.trans (fl_c9_eq hc80)
        rcases hw with hw | hw
        · obtain ⟨hw, h80⟩ := hw
          subst hw
          have l80k0_v80na0_13 : (0 : Int) ≤ v80na0_13.toInt := Int.le_trans zq5 h80.1
          have u80k0_v80na0_13 : v80na0_13.toInt ≤ (100 : Int) := Int.le_trans h80.2 zq32
          have hF0 := hF0.trans (if_pos (by decide))
          refine lv_if_ne (tgt := 88) hx hb dX3_readHall_83 (by decide) (fun _ => ?_) (fun c83 => absurd c83 (by decide +kernel))
          refine lv_aload_n hx hb dX3_readHall_88 rfl (lv_at hl 1 rfl) ?_
          refine va_get (D := (dC, dI)) (ci := 3) (v := .ref a0_5) (C := RX3) (T := TX3) (N := 14) hx hb hts zi_X3_readHall_3 hown hK hP 0 rfl rfl 5 (by decide) (hts (.fieldLink RX3 22 "WaxTurns$Reade\x72" "draft" "LWaxTurns$Hall;") (zm_X3_readHall_r1 (List.mem_of_getElem? (i := 1) rfl))) (fun _ h9 => h9) rfl dX3_readHall_89 ?_
          refine lv_aload_n hx hb dX3_readHall_92 rfl (lv_at hl 1 rfl) ?_
          refine va_get (D := (dC, dI)) (ci := 3) (v := .int v80na0_13) (C := RX3) (T := TX3) (N := 14) hx hb hts zi_X3_readHall_3 hown hK hP 0 rfl rfl 13 (by decide) (hts (.fieldLink RX3 156 "WaxTurns$Reade\x72" "taken" "I") (zm_X3_readHall_r1 (List.mem_of_getElem? (i := 0) rfl))) (fun _ h9 => h9) rfl dX3_readHall_93 ?_
          refine va_put (D := (dC, dI)) (ci := 0) (v := .int v80na0_13) (ty := .int) (C := RX0) (T := TX0) (N := 15) hx hb hts zi_X3_readHall_0 tyX0 tyX0_ok nmX0 hown hK hP hD hS 2 rfl rfl 3 (by decide) (hts (.fieldLink RX3 170 "WaxTurns$Hall" "shut" "I") (zm_X3_readHall_r1 (List.mem_of_getElem? (i := 4) rfl))) (fun _ h9 => h9) rfl (tyX0_ok 3 (by decide)) rfl rfl (Nat.le_of_ble_eq_true rfl) dX3_readHall_96 (fun H locs hP hD hS => ?_)
          refine zs_2 (y := (a0_5, .inr (0, [.int a0_5_0, .int v29na0_13, .int v55na0_13, .int v80na0_13, a0_5g_4, a0_5g_5, a0_5g_6, a0_5g_7, a0_5g_8, a0_5g_9, a0_5g_10, a0_5g_11, a0_5g_12, a0_5g_13, a0_5g_14]))) hP hD rfl (fun hP hD => ?_)
          refine lv_aload_n hx hb dX3_readHall_99 rfl (lv_at hl 1 rfl) ?_
          refine va_get (D := (dC, dI)) (ci := 3) (v := .ref a0_5) (C := RX3) (T := TX3) (N := 14) hx hb hts zi_X3_readHall_3 hown hK hP 0 rfl rfl 5 (by decide) (hts (.fieldLink RX3 22 "WaxTurns$Reade\x72" "draft" "LWaxTurns$Hall;") (zm_X3_readHall_r1 (List.mem_of_getElem? (i := 1) rfl))) (fun _ h9 => h9) rfl dX3_readHall_100 ?_
          refine lv_iload_n hx hb dX3_readHall_103 rfl (lv_at hl 0 rfl) ?_
          refine va_put (D := (dC, dI)) (ci := 0) (v := .int v10na0_13) (ty := .int) (C := RX0) (T := TX0) (N := 15) hx hb hts zi_X3_readHall_0 tyX0 tyX0_ok nmX0 hown hK hP hD hS 2 rfl rfl 0 (by decide) (hts (.fieldLink RX3 104 "WaxTurns$Hall" "figures" "I") (zm_X3_readHall_r1 (List.mem_of_getElem? (i := 5) rfl))) (fun _ h9 => h9) rfl (tyX0_ok 0 (by decide)) rfl rfl (Nat.le_of_ble_eq_true rfl) dX3_readHall_104 (fun H locs hP hD hS => ?_)
          refine zs_2 (y := (a0_5, .inr (0, [.int v10na0_13, .int v29na0_13, .int v55na0_13, .int v80na0_13, a0_5g_4, a0_5g_5, a0_5g_6, a0_5g_7, a0_5g_8, a0_5g_9, a0_5g_10, a0_5g_11, a0_5g_12, a0_5g_13, a0_5g_14]))) hP hD rfl (fun hP hD => ?_)
          refine lv_iconst (v := 1) hx hb dX3_readHall_107 zk_iconst_1 ?_
          have hFe : FX = (1, v80na0_1.toInt, v80na0_2.toInt, v80na0_8.toInt, v80na0_9.toInt, v80na0_10.toInt, v80na0_11.toInt, v80na0_12.toInt, v80na0_13.toInt, v10na0_13.toInt, v29na0_13.toInt, v55na0_13.toInt, v80na0_13.toInt) := hF0
          exact W.zret (v := 1) hx hb hr rfl (fun t ht hW => ⟨⟨1, (), rfl, ⟨(Or.inl (rfl)), (congrArg Prod.fst hFe).symm⟩, v80na0_1, v80na0_2, v80na0_8, v80na0_9, v80na0_10, v80na0_11, v80na0_12, v80na0_13, v10na0_13, v29na0_13, v55na0_13, v80na0_13, ⟨bv80na0_8.1, bv80na0_8.2⟩, ⟨bv80na0_9.1, bv80na0_9.2⟩, ⟨bv80na0_10.1, bv80na0_10.2⟩, ⟨Int.le_trans (by decide) l10k0_v10na0_13, u10k0_v10na0_13⟩, (congrArg Prod.snd hFe), by rw [ht]; exact hP, va_K.moved hW.alike hK, hD⟩, hS.F ht⟩) hS.2.2 dX3_readHall_108
        · subst hw
          have hF0 := hF0.trans (if_neg (by decide))
          refine lv_if_ne (tgt := 88) hx hb dX3_readHall_83 (by decide) (fun c83 => absurd (by decide +kernel) c83) (fun _ => ?_)
          refine lv_iconst (v := 0) hx hb dX3_readHall_86 zk_iconst_0 ?_
          have hFe : FX = (0, v80na0_1.toInt, v80na0_2.toInt, v80na0_8.toInt, v80na0_9.toInt, v80na0_10.toInt, v80na0_11.toInt, v80na0_12.toInt, v80na0_13.toInt, a0_5_0.toInt, v29na0_13.toInt, v55na0_13.toInt, a0_5_3.toInt) := hF0
          exact W.zret (v := 0) hx hb hr rfl (fun t ht hW => ⟨⟨0, (), rfl, ⟨(Or.inr (rfl)), (congrArg Prod.fst hFe).symm⟩, v80na0_1, v80na0_2, v80na0_8, v80na0_9, v80na0_10, v80na0_11, v80na0_12, v80na0_13, a0_5_0, v29na0_13, v55na0_13, a0_5_3, ⟨bv80na0_8.1, bv80na0_8.2⟩, ⟨bv80na0_9.1, bv80na0_9.2⟩, ⟨bv80na0_10.1, bv80na0_10.2⟩, ⟨ba0_5_0_l, ba0_5_0_u⟩, (congrArg Prod.snd hFe), by rw [ht]; exact hP, va_K.moved hW.alike hK, hD⟩, hS.F ht⟩) hS.2.2 dX3_readHall_87
      · subst hw
        have hF0 := hF0.trans (if_neg (by decide))
        refine lv_if_ne (tgt := 63) hx hb dX3_readHall_58 (by decide) (fun c58 => absurd (by decide +kernel) c58) (fun _ => ?_)
        refine lv_iconst (v := 0) hx hb dX3_readHall_61 zk_iconst_0 ?_
        have hFe : FX = (0, v55na0_1.toInt, v55na0_2.toInt, v55na0_8.toInt, v55na0_9.toInt, v55na0_10.toInt, v55na0_11.toInt, v55na0_12.toInt, v55na0_13.toInt, a0_5_0.toInt, v29na0_13.toInt, a0_5_2.toInt, a0_5_3.toInt) := hF0
        exact W.zret (v := 0) hx hb hr rfl (fun t ht hW => ⟨⟨0, (), rfl, ⟨(Or.inr (rfl)), (congrArg Prod.fst hFe).symm⟩, v55na0_1, v55na0_2, v55na0_8, v55na0_9, v55na0_10, v55na0_11, v55na0_12, v55na0_13, a0_5_0, v29na0_13, a0_5_2, a0_5_3, ⟨bv55na0_8.1, bv55na0_8.2⟩, ⟨bv55na0_9.1, bv55na0_9.2⟩, ⟨bv55na0_10.1, bv55na0_10.2⟩, ⟨ba0_5_0_l, ba0_5_0_u⟩, (congrArg Prod.snd hFe), by rw [ht]; exact hP, va_K.moved hW.alike hK, hD⟩, hS.F ht⟩) hS.2.2 dX3_readHall_62
    · subst hw
      have hF0 := hF0.trans (if_neg (by decide))
      refine lv_if_ne (tgt := 37) hx hb dX3_readHall_32 (by decide) (fun c32 => absurd (by decide +kernel) c32) (fun _ => ?_)
      refine lv_iconst (v := 0) hx hb dX3_readHall_35 zk_iconst_0 ?_
      have hFe : FX = (0, v29na0_1.toInt, v29na0_2.toInt, v29na0_8.toInt, v29na0_9.toInt, v29na0_10.toInt, v29na0_11.toInt, v29na0_12.toInt, v29na0_13.toInt, a0_5_0.toInt, a0_5_1.toInt, a0_5_2.toInt, a0_5_3.toInt) := hF0
      exact W.zret (v := 0) hx hb hr rfl (fun t ht hW => ⟨⟨0, (), rfl, ⟨(Or.inr (rfl)), (congrArg Prod.fst hFe).symm⟩, v29na0_1, v29na0_2, v29na0_8, v29na0_9, v29na0_10, v29na0_11, v29na0_12, v29na0_13, a0_5_0, a0_5_1, a0_5_2, a0_5_3, ⟨bv29na0_8.1, bv29na0_8.2⟩, ⟨bv29na0_9.1, bv29na0_9.2⟩, ⟨bv29na0_10.1, bv29na0_10.2⟩, ⟨ba0_5_0_l, ba0_5_0_u⟩, (congrArg Prod.snd hFe), by rw [ht]; exact hP, va_K.moved hW.alike hK, hD⟩, hS.F ht⟩) hS.2.2 dX3_readHall_36
  · subst hw
    have hF0 := hF0.trans (if_neg (by decide))
    refine lv_if_ne (tgt := 18) hx hb dX3_readHall_13 (by decide) (fun c13 => absurd (by decide +kernel) c13) (fun _ => ?_)
    refine lv_iconst (v := 0) hx hb dX3_readHall_16 zk_iconst_0 ?_
    have hFe : FX = (0, v10na0_1.toInt, v10na0_2.toInt, v10na0_8.toInt, v10na0_9.toInt, v10na0_10.toInt, v10na0_11.toInt, v10na0_12.toInt, v10na0_13.toInt, a0_5_0.toInt, a0_5_1.toInt, a0_5_2.toInt, a0_5_3.toInt) := hF0
    exact W.zret (v := 0) hx hb hr rfl (fun t ht hW => ⟨⟨0, (), rfl, ⟨(Or.inr (rfl)), (congrArg Prod.fst hFe).symm⟩, v10na0_1, v10na0_2, v10na0_8, v10na0_9, v10na0_10, v10na0_11, v10na0_12, v10na0_13, a0_5_0, a0_5_1, a0_5_2, a0_5_3, ⟨bv10na0_8.1, bv10na0_8.2⟩, ⟨bv10na0_9.1, bv10na0_9.2⟩, ⟨bv10na0_10.1, bv10na0_10.2⟩, ⟨ba0_5_0_l, ba0_5_0_u⟩, (congrArg Prod.snd hFe), by rw [ht]; exact hP, va_K.moved hW.alike hK, hD⟩, hS.F ht⟩) hS.2.2 dX3_readHall_17

set_option maxHeartbeats 4000000 in
set_option maxRecDepth 100000 in
theorem f_X3_readLaw (l : Launch) (dC : Nat → ClassId) (dI : Nat → Nat → Nat) (sz : Nat) (a0 : Nat) (a0g_0 a0g_4 a0g_6 : Value) (a0_1 : Int32) (a0_2 : Int32) (a0_3 : Nat) (a0_5 : Nat) (a0_7 : Int32) (a0_8 : Int32) (a0_9 : Int32) (a0_10 : Int32) (a0_11 : Int64) (a0_12 : Int32) (a0_13 : Int32) (ka0_3 : ClassId) (fa0_3 : Nat → Int32) (a0_5_0 : Int32) (a0_5g_1 a0_5g_2 a0_5g_3 a0_5g_8 a0_5g_9 a0_5g_10 a0_5g_11 a0_5g_12 a0_5g_13 a0_5g_14 : Value) (a0_5_4 : Int32) (a0_5_5 : Int32) (a0_5_6 : Int32) (a0_5_7 : Int32) (ad : Nat → Nat) (ba0_7_l : (0 : Int) ≤ a0_7.toInt) (ba0_7_u : a0_7.toInt ≤ (900 : Int)) (ba0_8_l : (0 : Int) ≤ a0_8.toInt) (ba0_8_u : a0_8.toInt ≤ (900 : Int)) (ba0_9_l : (0 : Int) ≤ a0_9.toInt) (ba0_9_u : a0_9.toInt ≤ (900 : Int)) (ba0_10_l : (0 : Int) ≤ a0_10.toInt) (ba0_10_u : a0_10.toInt ≤ (4 : Int)) (ba0_5_0_l : (0 : Int) ≤ a0_5_0.toInt) (ba0_5_0_u : a0_5_0.toInt ≤ (9 : Int)) (ba0_5_4_l : (0 : Int) ≤ a0_5_4.toInt) (ba0_5_4_u : a0_5_4.toInt ≤ (1 : Int)) (ba0_5_5_l : (0 : Int) ≤ a0_5_5.toInt) (ba0_5_5_u : a0_5_5.toInt ≤ (8 : Int)) (ba0_5_6_l : (0 : Int) ≤ a0_5_6.toInt) (ba0_5_6_u : a0_5_6.toInt ≤ (8 : Int)) (ba0_5_7_l : (0 : Int) ≤ a0_5_7.toInt) (ba0_5_7_u : a0_5_7.toInt ≤ (8 : Int)) : zm l yX3_readLaw wsX3_readLaw ({ frames := 6, cells := 0, slots := 0, locals := 132 }) [.ref a0] dC dI sz [(a0, .inr (3, [a0g_0, .int a0_1, .int a0_2, .ref a0_3, a0g_4, .ref a0_5, a0g_6, .int a0_7, .int a0_8, .int a0_9, .int a0_10, .long a0_11, .int a0_12, .int a0_13])), (a0_3, .inl (ka0_3, 900, .inl (fa0_3))), (a0_5, .inr (0, [.int a0_5_0, a0_5g_1, a0_5g_2, a0_5g_3, .int a0_5_4, .int a0_5_5, .int a0_5_6, .int a0_5_7, a0_5g_8, a0_5g_9, a0_5g_10, a0_5g_11, a0_5g_12, a0_5g_13, a0_5g_14]))] [(ka0_3, .byte)] (fun A U => sxc_T ad A U ∧ va_Nw (.methodLinkNest RX3 223 yX7_within RX7) U) (fun A => va_Qi (fun (r : Int32) (_ : Unit) => ((r = 1) ∨ (r = 0)) ∧ r.toInt = (Ff_X3_readLaw a0_1.toInt a0_2.toInt a0_7.toInt a0_9.toInt a0_11.toInt a0_12.toInt a0_13.toInt (fl_A fa0_3) a0_5_0.toInt a0_5_4.toInt a0_5_5.toInt a0_5_6.toInt a0_5_7.toInt).1) (fun (_ : Unit) (t : State) => ∃ na0_1 : Int32, ∃ na0_2 : Int32, ∃ na0_8 : Int32, ∃ na0_9 : Int32, ∃ na0_10 : Int32, ∃ na0_11 : Int64, ∃ na0_12 : Int32, ∃ na0_13 : Int32, ∃ na0_5_4 : Int32, ∃ na0_5_5 : Int32, ∃ na0_5_6 : Int32, ∃ na0_5_7 : Int32, ((0 : Int) ≤ na0_8.toInt ∧ na0_8.toInt ≤ 900) ∧ ((0 : Int) ≤ na0_9.toInt ∧ na0_9.toInt ≤ 900) ∧ ((0 : Int) ≤ na0_10.toInt ∧ na0_10.toInt ≤ 4) ∧ ((0 : Int) ≤ na0_5_4.toInt ∧ na0_5_4.toInt ≤ 1) ∧ ((0 : Int) ≤ na0_5_5.toInt ∧ na0_5_5.toInt ≤ 8) ∧ ((0 : Int) ≤ na0_5_6.toInt ∧ na0_5_6.toInt ≤ 8) ∧ ((0 : Int) ≤ na0_5_7.toInt ∧ na0_5_7.toInt ≤ 8) ∧ ((Ff_X3_readLaw a0_1.toInt a0_2.toInt a0_7.toInt a0_9.toInt a0_11.toInt a0_12.toInt a0_13.toInt (fl_A fa0_3) a0_5_0.toInt a0_5_4.toInt a0_5_5.toInt a0_5_6.toInt a0_5_7.toInt).2 = (na0_1.toInt, na0_2.toInt, na0_8.toInt, na0_9.toInt, na0_10.toInt, na0_11.toInt, na0_12.toInt, na0_13.toInt, na0_5_4.toInt, na0_5_5.toInt, na0_5_6.toInt, na0_5_7.toInt)) ∧ ax_B dC dI A [(a0, .inr (3, [a0g_0, .int na0_1, .int na0_2, .ref a0_3, a0g_4, .ref a0_5, a0g_6, .int a0_7, .int na0_8, .int na0_9, .int na0_10, .long na0_11, .int na0_12, .int na0_13])), (a0_3, .inl (ka0_3, 900, .inl (fa0_3))), (a0_5, .inr (0, [.int a0_5_0, a0_5g_1, a0_5g_2, a0_5g_3, .int na0_5_4, .int na0_5_5, .int na0_5_6, .int na0_5_7, a0_5g_8, a0_5g_9, a0_5g_10, a0_5g_11, a0_5g_12, a0_5g_13, a0_5g_14]))] [(ka0_3, .byte)] t) A) := by
  refine zh (cc := cX3_readLaw) (maxL := 1) (ret := (some .boolean)) zn_RX3 rfl (Nat.le_of_ble_eq_true rfl) (fun p e s m below meth c A ls hx hb hml hr hts (hown : s.vm.findClass RX3 = some m.cls) hlocks hA hS hP hK hD hE (hl : lv_has ls 1 [(0, .ref a0)]) => ?_)
  obtain ⟨hE0, hE1⟩ := hE
  generalize hFX : Ff_X3_readLaw a0_1.toInt a0_2.toInt a0_7.toInt a0_9.toInt a0_11.toInt a0_12.toInt a0_13.toInt (fl_A fa0_3) a0_5_0.toInt a0_5_4.toInt a0_5_5.toInt a0_5_6.toInt a0_5_7.toInt = FX at ⊢
  have hF0 := hFX.symm.trans (Ff_X3_readLaw.eq_1 a0_1.toInt a0_2.toInt a0_7.toInt a0_9.toInt a0_11.toInt a0_12.toInt a0_13.toInt (fl_A fa0_3) a0_5_0.toInt a0_5_4.toInt a0_5_5.toInt a0_5_6.toInt a0_5_7.toInt)
  refine lv_aload_n hx hb dX3_readLaw_0 rfl (lv_at hl 0 rfl) ?_
  have hKc := hK.sub (tys' := [(ka0_3, .byte)]) [0] rfl
  refine va_callv (va_runV (As := []) (rest := []) ⟨hx, hb, hml, hown, hts⟩ (f_X3_advance l dC dI s.heap.size a0 a0g_0 (.int a0_1) (.int a0_2) a0g_4 (.ref a0_5) a0g_6 (.int a0_13) a0_3 a0_7 a0_8 a0_9 a0_10 a0_11 a0_12 ka0_3 fa0_3 ba0_7_l ba0_7_u ba0_8_l ba0_8_u ba0_9_l ba0_9_u ba0_10_l ba0_10_u) (cwV 0 hts gX3_readLaw_X3_advance rfl rfl rfl zd_X3_advance ⟨Nat.le_of_ble_eq_true rfl, Nat.le_of_ble_eq_true rfl⟩) ⟨ax_blind (fun _ _ _ _ _ => trivial), zr_3 hKc (zp_P2 hP) (q0 := 0) rfl, ax_pre (zp_P2 hP) hKc (zp_D2 hD) (fun _ _ => trivial)⟩ rfl rfl hl.1 rfl (lv_room (Nat.le_of_ble_eq_true rfl)) dX3_readLaw_1 ⟨Nat.le_of_ble_eq_true rfl, Nat.le_of_ble_eq_true rfl⟩) hS (fun q _ h => zp_F2 hD hS hA q h) (zp_F2 hD hS hA) (fun u t H locs ht hvm hw => zx_5 (fun v1na0_8 v1na0_9 v1na0_10 v1na0_11 v1na0_12 => zy_4 (fun bv1na0_8 bv1na0_9 bv1na0_10 hraw1_0 hB hz1 hk1 hS1 => zo2 hB ht hP hD hk1 (zp_F2 hD hS hA) hS1 (fun hP hK1 hD hS => ?_))))
  have hc1 : Ff_X3_advance a0_7.toInt a0_9.toInt a0_11.toInt a0_12.toInt (fl_A fa0_3) = (v1na0_8.toInt, v1na0_9.toInt, v1na0_10.toInt, v1na0_11.toInt, v1na0_12.toInt) := hraw1_0
  have hF0 := hF0.trans (fl_c5_eq hc1)
  refine lv_aload_n hx hb dX3_readLaw_4 rfl (lv_at hl 0 rfl) ?_
  refine va_ldcS hx hb hown (sxc_R9 hE0) dX3_readLaw_5 ?_
  refine lv_iconst (v := 0) hx hb dX3_readLaw_7 zk_iconst_0 ?_
  refine lv_aload_n hx hb dX3_readLaw_8 rfl (lv_at hl 0 rfl) ?_
  refine va_get (D := (dC, dI)) (ci := 3) (v := .ref a0_5) (C := RX3) (T := TX3) (N := 14) hx hb hts zi_X3_readLaw_3 hown hK hP 0 rfl rfl 5 (by decide) (hts (.fieldLink RX3 22 "WaxTurns$Reade\x72" "draft" "LWaxTurns$Hall;") (zm_X3_readLaw_r1 (List.mem_of_getElem? (i := 0) rfl))) (fun _ h9 => h9) rfl dX3_readLaw_9 ?_
  refine va_get (D := (dC, dI)) (ci := 0) (v := .int a0_5_0) (C := RX0) (T := TX0) (N := 15) hx hb hts zi_X3_readLaw_0 hown hK hP 2 rfl rfl 0 (by decide) (hts (.fieldLink RX3 104 "WaxTurns$Hall" "figures" "I") (zm_X3_readLaw_r1 (List.mem_of_getElem? (i := 1) rfl))) (fun _ h9 => h9) rfl dX3_readLaw_12 ?_
  refine lv_iconst (v := 1) hx hb dX3_readLaw_15 zk_iconst_1 ?_
  refine lv_isub hx hb dX3_readLaw_16 ?_
  refine lv_topi (fun x16 ex16 => ?_)
  have qx16 : x16.toInt = a0_5_0.toInt - (1 : Int32).toInt := ai_sub ex16 ⟨ba0_5_0_l, ba0_5_0_u⟩ ⟨zq1, zq0⟩ (by decide) (by decide)
  have bx16 : (-1 : Int) ≤ x16.toInt ∧ x16.toInt ≤ 8 := ⟨by rw [qx16]; exact Int.sub_le_sub ba0_5_0_l zq0, by rw [qx16]; exact Int.sub_le_sub ba0_5_0_u zq1⟩
  have wx16 : x16.toInt = a0_5_0.toInt - 1 := qx16
  have hF0 := hF0.trans (fl_lt_eq (show x16.toInt = a0_5_0.toInt - 1 from qx16))
  have hKc := hK.sub (tys' := [(ka0_3, .byte)]) [0] rfl
  refine va_calli (va_runV (As := [.ref (ad 9), .int 0, .int x16]) (rest := []) ⟨hx, hb, hml, hown, hts⟩ (f_X3_takeWhole l dC dI H.size a0 (ad 9) 0 x16 a0g_0 a0g_4 (.ref a0_5) a0g_6 a0_1 a0_2 a0_3 a0_7 v1na0_8 v1na0_9 v1na0_10 v1na0_11 v1na0_12 a0_13 ka0_3 fa0_3 5 (sxc 9) ba0_7_l ba0_7_u bv1na0_8.1 bv1na0_8.2 bv1na0_9.1 bv1na0_9.2 bv1na0_10.1 bv1na0_10.2) (cwV 3 hts gX3_readLaw_X3_takeWhole rfl rfl rfl zd_X3_takeWhole ⟨Nat.le_of_ble_eq_true rfl, Nat.le_of_ble_eq_true rfl⟩) ⟨ax_blind (fun _ _ _ _ hq => ⟨sxc_W_same _ _ _ _ (hq.1), va_Nw.same rfl rfl (hq.2)⟩), zr_3 hKc (zp_P2 hP) (q0 := 0) rfl, ax_preE (zp_P2 hP) hKc (zp_D2 hD) (fun U hU hW => ⟨sxc_W_to (sxc_T_w hE0 (i := 9) (by decide)) hS.2.1 (zp_F2 hD hS hA) hU hW, va_Nw.warmM hW hE1⟩)⟩ rfl rfl hl.1 rfl (lv_room (Nat.le_of_ble_eq_true rfl)) dX3_readLaw_17 ⟨Nat.le_of_ble_eq_true rfl, Nat.le_of_ble_eq_true rfl⟩) hS (fun q _ h => zp_F2 hD hS hA q h) (zp_F2 hD hS hA) (fun r17 v17na0_13 t H1 locs ht hvm hw => zx_7 (fun v17na0_1 v17na0_2 v17na0_8 v17na0_9 v17na0_10 v17na0_11 v17na0_12 => zy_4 (fun bv17na0_8 bv17na0_9 bv17na0_10 hraw17_0 hB hz1 hk1 hS1 => zo2 hB ht hP hD hk1 (zp_F2 hD hS hA) hS1 (fun hP hK1 hD hS => ?_))))
  generalize H1 = H at hP hS ⊢
  obtain ⟨hw, hfr17⟩ := hw
  rw [show (0 : Int32).toInt = 0 from by decide, show ((5 : Nat) : Int) = 5 from rfl] at hfr17 hraw17_0
  have hc17 : Ff_X3_takeWhole 0 x16.toInt a0_1.toInt a0_2.toInt a0_7.toInt v1na0_8.toInt v1na0_9.toInt v1na0_10.toInt v1na0_11.toInt v1na0_12.toInt a0_13.toInt (fl_A fa0_3) 5 (fl_A (sxc 9)) = (r17.toInt, v17na0_1.toInt, v17na0_2.toInt, v17na0_8.toInt, v17na0_9.toInt, v17na0_10.toInt, v17na0_11.toInt, v17na0_12.toInt, v17na0_13.toInt) := Prod.ext hfr17.symm hraw17_0
  have hF0 := hF0.trans (fl_c9_eq hc17)
  rcases hw with hw | hw
  · obtain ⟨hw, h17⟩ := hw
    subst hw
    have l17k0_v17na0_13 : (0 : Int) ≤ v17na0_13.toInt := Int.le_trans zq5 h17.1
    have u17k0_v17na0_13 : v17na0_13.toInt ≤ (8 : Int) := Int.le_trans h17.2 bx16.2
    have hF0 := hF0.trans (if_pos (by decide))
    refine lv_if_ne (tgt := 25) hx hb dX3_readLaw_20 (by decide) (fun _ => ?_) (fun c20 => absurd c20 (by decide +kernel))
    refine lv_aload_n hx hb dX3_readLaw_25 rfl (lv_at hl 0 rfl) ?_
    refine va_get (D := (dC, dI)) (ci := 3) (v := .ref a0_5) (C := RX3) (T := TX3) (N := 14) hx hb hts zi_X3_readLaw_3 hown hK hP 0 rfl rfl 5 (by decide) (hts (.fieldLink RX3 22 "WaxTurns$Reade\x72" "draft" "LWaxTurns$Hall;") (zm_X3_readLaw_r1 (List.mem_of_getElem? (i := 0) rfl))) (fun _ h9 => h9) rfl dX3_readLaw_26 ?_
    refine lv_aload_n hx hb dX3_readLaw_29 rfl (lv_at hl 0 rfl) ?_
    refine va_get (D := (dC, dI)) (ci := 3) (v := .int v17na0_13) (C := RX3) (T := TX3) (N := 14) hx hb hts zi_X3_readLaw_3 hown hK hP 0 rfl rfl 13 (by decide) (hts (.fieldLink RX3 156 "WaxTurns$Reade\x72" "taken" "I") (zm_X3_readLaw_r1 (List.mem_of_getElem? (i := 2) rfl))) (fun _ h9 => h9) rfl dX3_readLaw_30 ?_
    refine va_put (D := (dC, dI)) (ci := 0) (v := .int v17na0_13) (ty := .int) (C := RX0) (T := TX0) (N := 15) hx hb hts zi_X3_readLaw_0 tyX0 tyX0_ok nmX0 hown hK hP hD hS 2 rfl rfl 5 (by decide) (hts (.fieldLink RX3 174 "WaxTurns$Hall" "times" "I") (zm_X3_readLaw_r1 (List.mem_of_getElem? (i := 3) rfl))) (fun _ h9 => h9) rfl (tyX0_ok 5 (by decide)) rfl rfl (Nat.le_of_ble_eq_true rfl) dX3_readLaw_33 (fun H locs hP hD hS => ?_)
    refine zs_2 (y := (a0_5, .inr (0, [.int a0_5_0, a0_5g_1, a0_5g_2, a0_5g_3, .int a0_5_4, .int v17na0_13, .int a0_5_6, .int a0_5_7, a0_5g_8, a0_5g_9, a0_5g_10, a0_5g_11, a0_5g_12, a0_5g_13, a0_5g_14]))) hP hD rfl (fun hP hD => ?_)
    refine lv_aload_n hx hb dX3_readLaw_36 rfl (lv_at hl 0 rfl) ?_
    refine va_ldcS hx hb hown (sxc_R10 hE0) dX3_readLaw_37 ?_
    refine lv_iconst (v := 0) hx hb dX3_readLaw_39 zk_iconst_0 ?_
    refine lv_aload_n hx hb dX3_readLaw_40 rfl (lv_at hl 0 rfl) ?_
    refine va_get (D := (dC, dI)) (ci := 3) (v := .ref a0_5) (C := RX3) (T := TX3) (N := 14) hx hb hts zi_X3_readLaw_3 hown hK hP 0 rfl rfl 5 (by decide) (hts (.fieldLink RX3 22 "WaxTurns$Reade\x72" "draft" "LWaxTurns$Hall;") (zm_X3_readLaw_r1 (List.mem_of_getElem? (i := 0) rfl))) (fun _ h9 => h9) rfl dX3_readLaw_41 ?_
    refine va_get (D := (dC, dI)) (ci := 0) (v := .int a0_5_0) (C := RX0) (T := TX0) (N := 15) hx hb hts zi_X3_readLaw_0 hown hK hP 2 rfl rfl 0 (by decide) (hts (.fieldLink RX3 104 "WaxTurns$Hall" "figures" "I") (zm_X3_readLaw_r1 (List.mem_of_getElem? (i := 1) rfl))) (fun _ h9 => h9) rfl dX3_readLaw_44 ?_
    refine lv_iconst (v := 1) hx hb dX3_readLaw_47 zk_iconst_1 ?_
    refine lv_isub hx hb dX3_readLaw_48 ?_
    refine ax_ti x16 ex16.symm ?_
    have hKc := hK.sub (tys' := [(ka0_3, .byte)]) [0] rfl
    refine va_calli (va_runV (As := [.ref (ad 10), .int 0, .int x16]) (rest := []) ⟨hx, hb, hml, hown, hts⟩ (f_X3_takeWhole l dC dI H.size a0 (ad 10) 0 x16 a0g_0 a0g_4 (.ref a0_5) a0g_6 v17na0_1 v17na0_2 a0_3 a0_7 v17na0_8 v17na0_9 v17na0_10 v17na0_11 v17na0_12 v17na0_13 ka0_3 fa0_3 4 (sxc 10) ba0_7_l ba0_7_u bv17na0_8.1 bv17na0_8.2 bv17na0_9.1 bv17na0_9.2 bv17na0_10.1 bv17na0_10.2) (cwV 3 hts gX3_readLaw_X3_takeWhole rfl rfl rfl zd_X3_takeWhole ⟨Nat.le_of_ble_eq_true rfl, Nat.le_of_ble_eq_true rfl⟩) ⟨ax_blind (fun _ _ _ _ hq => ⟨sxc_W_same _ _ _ _ (hq.1), va_Nw.same rfl rfl (hq.2)⟩), zr_3 hKc (zp_P2 hP) (q0 := 0) rfl, ax_preE (zp_P2 hP) hKc (zp_D2 hD) (fun U hU hW => ⟨sxc_W_to (sxc_T_w hE0 (i := 10) (by decide)) hS.2.1 (zp_F2 hD hS hA) hU hW, va_Nw.warmM hW hE1⟩)⟩ rfl rfl hl.1 rfl (lv_room (Nat.le_of_ble_eq_true rfl)) dX3_readLaw_49 ⟨Nat.le_of_ble_eq_true rfl, Nat.le_of_ble_eq_true rfl⟩) hS (fun q _ h => zp_F2 hD hS hA q h) (zp_F2 hD hS hA) (fun r49 v49na0_13 t H1 locs ht hvm hw => zx_7 (fun v49na0_1 v49na0_2 v49na0_8 v49na0_9 v49na0_10 v49na0_11 v49na0_12 => zy_4 (fun bv49na0_8 bv49na0_9 bv49na0_10 hraw49_0 hB hz1 hk1 hS1 => zo2 hB ht hP hD hk1 (zp_F2 hD hS hA) hS1 (fun hP hK1 hD hS => ?_))))
    generalize H1 = H at hP hS ⊢
    obtain ⟨hw, hfr49⟩ := hw
    rw [show (0 : Int32).toInt = 0 from by decide, show ((4 : Nat) : Int) = 4 from rfl] at hfr49 hraw49_0
    have hc49 : Ff_X3_takeWhole 0 x16.toInt v17na0_1.toInt v17na0_2.toInt a0_7.toInt v17na0_8.toInt v17na0_9.toInt v17na0_10.toInt v17na0_11.toInt v17na0_12.toInt v17na0_13.toInt (fl_A fa0_3) 4 (fl_A (sxc 10)) = (r49.toInt, v49na0_1.toInt, v49na0_2.toInt, v49na0_8.toInt, v49na0_9.toInt, v49na0_10.toInt, v49na0_11.toInt, v49na0_12.toInt, v49na0_13.toInt) := Prod.ext hfr49.symm hraw49_0
    have hF0 := hF0.trans (fl_c9_eq hc49)
    rcases hw with hw | hw
    · obtain ⟨hw, h49⟩ := hw
      subst hw
      have l49k0_v49na0_13 : (0 : Int) ≤ v49na0_13.toInt := Int.le_trans zq5 h49.1
      have u49k0_v49na0_13 : v49na0_13.toInt ≤ (8 : Int) := Int.le_trans h49.2 bx16.2
      have hF0 := hF0.trans (if_pos (by decide))
      refine lv_if_ne (tgt := 57) hx hb dX3_readLaw_52 (by decide) (fun _ => ?_) (fun c52 => absurd c52 (by decide +kernel))
      refine lv_aload_n hx hb dX3_readLaw_57 rfl (lv_at hl 0 rfl) ?_
      refine va_get (D := (dC, dI)) (ci := 3) (v := .ref a0_5) (C := RX3) (T := TX3) (N := 14) hx hb hts zi_X3_readLaw_3 hown hK hP 0 rfl rfl 5 (by decide) (hts (.fieldLink RX3 22 "WaxTurns$Reade\x72" "draft" "LWaxTurns$Hall;") (zm_X3_readLaw_r1 (List.mem_of_getElem? (i := 0) rfl))) (fun _ h9 => h9) rfl dX3_readLaw_58 ?_
      refine lv_aload_n hx hb dX3_readLaw_61 rfl (lv_at hl 0 rfl) ?_
      refine va_get (D := (dC, dI)) (ci := 3) (v := .int v49na0_13) (C := RX3) (T := TX3) (N := 14) hx hb hts zi_X3_readLaw_3 hown hK hP 0 rfl rfl 13 (by decide) (hts (.fieldLink RX3 156 "WaxTurns$Reade\x72" "taken" "I") (zm_X3_readLaw_r1 (List.mem_of_getElem? (i := 2) rfl))) (fun _ h9 => h9) rfl dX3_readLaw_62 ?_
      refine va_put (D := (dC, dI)) (ci := 0) (v := .int v49na0_13) (ty := .int) (C := RX0) (T := TX0) (N := 15) hx hb hts zi_X3_readLaw_0 tyX0 tyX0_ok nmX0 hown hK hP hD hS 2 rfl rfl 6 (by decide) (hts (.fieldLink RX3 178 "WaxTurns$Hall" "plus" "I") (zm_X3_readLaw_r1 (List.mem_of_getElem? (i := 4) rfl))) (fun _ h9 => h9) rfl (tyX0_ok 6 (by decide)) rfl rfl (Nat.le_of_ble_eq_true rfl) dX3_readLaw_65 (fun H locs hP hD hS => ?_)
      refine zs_2 (y := (a0_5, .inr (0, [.int a0_5_0, a0_5g_1, a0_5g_2, a0_5g_3, .int a0_5_4, .int v17na0_13, .int v49na0_13, .int a0_5_7, a0_5g_8, a0_5g_9, a0_5g_10, a0_5g_11, a0_5g_12, a0_5g_13, a0_5g_14]))) hP hD rfl (fun hP hD => ?_)
      refine lv_aload_n hx hb dX3_readLaw_68 rfl (lv_at hl 0 rfl) ?_
      refine va_ldcS hx hb hown (sxc_R11 hE0) dX3_readLaw_69 ?_
      refine lv_iconst (v := 0) hx hb dX3_readLaw_71 zk_iconst_0 ?_
      refine lv_aload_n hx hb dX3_readLaw_72 rfl (lv_at hl 0 rfl) ?_
      refine va_get (D := (dC, dI)) (ci := 3) (v := .ref a0_5) (C := RX3) (T := TX3) (N := 14) hx hb hts zi_X3_readLaw_3 hown hK hP 0 rfl rfl 5 (by decide) (hts (.fieldLink RX3 22 "WaxTurns$Reade\x72" "draft" "LWaxTurns$Hall;") (zm_X3_readLaw_r1 (List.mem_of_getElem? (i := 0) rfl))) (fun _ h9 => h9) rfl dX3_readLaw_73 ?_
      refine va_get (D := (dC, dI)) (ci := 0) (v := .int a0_5_0) (C := RX0) (T := TX0) (N := 15) hx hb hts zi_X3_readLaw_0 hown hK hP 2 rfl rfl 0 (by decide) (hts (.fieldLink RX3 104 "WaxTurns$Hall" "figures" "I") (zm_X3_readLaw_r1 (List.mem_of_getElem? (i := 1) rfl))) (fun _ h9 => h9) rfl dX3_readLaw_76 ?_
      refine lv_iconst (v := 1) hx hb dX3_readLaw_79 zk_iconst_1 ?_
      refine lv_isub hx hb dX3_readLaw_80 ?_
      refine ax_ti x16 ex16.symm ?_
      have hKc := hK.sub (tys' := [(ka0_3, .byte)]) [0] rfl
      refine va_calli (va_runV (As := [.ref (ad 11), .int 0, .int x16]) (rest := []) ⟨hx, hb, hml, hown, hts⟩ (f_X3_takeWhole l dC dI H.size a0 (ad 11) 0 x16 a0g_0 a0g_4 (.ref a0_5) a0g_6 v49na0_1 v49na0_2 a0_3 a0_7 v49na0_8 v49na0_9 v49na0_10 v49na0_11 v49na0_12 v49na0_13 ka0_3 fa0_3 5 (sxc 11) ba0_7_l ba0_7_u bv49na0_8.1 bv49na0_8.2 bv49na0_9.1 bv49na0_9.2 bv49na0_10.1 bv49na0_10.2) (cwV 3 hts gX3_readLaw_X3_takeWhole rfl rfl rfl zd_X3_takeWhole ⟨Nat.le_of_ble_eq_true rfl, Nat.le_of_ble_eq_true rfl⟩) ⟨ax_blind (fun _ _ _ _ hq => ⟨sxc_W_same _ _ _ _ (hq.1), va_Nw.same rfl rfl (hq.2)⟩), zr_3 hKc (zp_P2 hP) (q0 := 0) rfl, ax_preE (zp_P2 hP) hKc (zp_D2 hD) (fun U hU hW => ⟨sxc_W_to (sxc_T_w hE0 (i := 11) (by decide)) hS.2.1 (zp_F2 hD hS hA) hU hW, va_Nw.warmM hW hE1⟩)⟩ rfl rfl hl.1 rfl (lv_room (Nat.le_of_ble_eq_true rfl)) dX3_readLaw_81 ⟨Nat.le_of_ble_eq_true rfl, Nat.le_of_ble_eq_true rfl⟩) hS (fun q _ h => zp_F2 hD hS hA q h) (zp_F2 hD hS hA) (fun r81 v81na0_13 t H1 locs ht hvm hw => zx_7 (fun v81na0_1 v81na0_2 v81na0_8 v81na0_9 v81na0_10 v81na0_11 v81na0_12 => zy_4 (fun bv81na0_8 bv81na0_9 bv81na0_10 hraw81_0 hB hz1 hk1 hS1 => zo2 hB ht hP hD hk1 (zp_F2 hD hS hA) hS1 (fun hP hK1 hD hS => ?_))))
      generalize H1 = H at hP hS ⊢
      obtain ⟨hw, hfr81⟩ := hw
      rw [show (0 : Int32).toInt = 0 from by decide, show ((5 : Nat) : Int) = 5 from rfl] at hfr81 hraw81_0
      have hc81 : Ff_X3_takeWhole 0 x16.toInt v49na0_1.toInt v49na0_2.toInt a0_7.toInt v49na0_8.toInt v49na0_9.toInt v49na0_10.toInt v49na0_11.toInt v49na0_12.toInt v49na0_13.toInt (fl_A fa0_3) 5 (fl_A (sxc 11)) = (r81.toInt, v81na0_1.toInt, v81na0_2.toInt, v81na0_8.toInt, v81na0_9.toInt, v81na0_10.toInt, v81na0_11.toInt, v81na0_12.toInt, v81na0_13.toInt) := Prod.ext hfr81.symm hraw81_0
      have hF0 := hF0.trans (fl_c9_eq hc81)
      rcases hw with hw | hw
      · obtain ⟨hw, h81⟩ := hw
        subst hw
        have l81k0_v81na0_13 : (0 : Int) ≤ v81na0_13.toInt := Int.le_trans zq5 h81.1
        have u81k0_v81na0_13 : v81na0_13.toInt ≤ (8 : Int) := Int.le_trans h81.2 bx16.2
        have hF0 := hF0.trans (if_pos (by decide))
        refine lv_if_ne (tgt := 89) hx hb dX3_readLaw_84 (by decide) (fun _ => ?_) (fun c84 => absurd c84 (by decide +kernel))
        refine lv_aload_n hx hb dX3_readLaw_89 rfl (lv_at hl 0 rfl) ?_
        refine va_get (D := (dC, dI)) (ci := 3) (v := .ref a0_5) (C := RX3) (T := TX3) (N := 14) hx hb hts zi_X3_readLaw_3 hown hK hP 0 rfl rfl 5 (by decide) (hts (.fieldLink RX3 22 "WaxTurns$Reade\x72" "draft" "LWaxTurns$Hall;") (zm_X3_readLaw_r1 (List.mem_of_getElem? (i := 0) rfl))) (fun _ h9 => h9) rfl dX3_readLaw_90 ?_
        refine lv_aload_n hx hb dX3_readLaw_93 rfl (lv_at hl 0 rfl) ?_
        refine va_get (D := (dC, dI)) (ci := 3) (v := .int v81na0_13) (C := RX3) (T := TX3) (N := 14) hx hb hts zi_X3_readLaw_3 hown hK hP 0 rfl rfl 13 (by decide) (hts (.fieldLink RX3 156 "WaxTurns$Reade\x72" "taken" "I") (zm_X3_readLaw_r1 (List.mem_of_getElem? (i := 2) rfl))) (fun _ h9 => h9) rfl dX3_readLaw_94 ?_
        refine va_put (D := (dC, dI)) (ci := 0) (v := .int v81na0_13) (ty := .int) (C := RX0) (T := TX0) (N := 15) hx hb hts zi_X3_readLaw_0 tyX0 tyX0_ok nmX0 hown hK hP hD hS 2 rfl rfl 7 (by decide) (hts (.fieldLink RX3 182 "WaxTurns$Hall" "first" "I") (zm_X3_readLaw_r1 (List.mem_of_getElem? (i := 5) rfl))) (fun _ h9 => h9) rfl (tyX0_ok 7 (by decide)) rfl rfl (Nat.le_of_ble_eq_true rfl) dX3_readLaw_97 (fun H locs hP hD hS => ?_)
        refine zs_2 (y := (a0_5, .inr (0, [.int a0_5_0, a0_5g_1, a0_5g_2, a0_5g_3, .int a0_5_4, .int v17na0_13, .int v49na0_13, .int v81na0_13, a0_5g_8, a0_5g_9, a0_5g_10, a0_5g_11, a0_5g_12, a0_5g_13, a0_5g_14]))) hP hD rfl (fun hP hD => ?_)
        refine lv_aload_n hx hb dX3_readLaw_100 rfl (lv_at hl 0 rfl) ?_
        refine va_get (D := (dC, dI)) (ci := 3) (v := .ref a0_5) (C := RX3) (T := TX3) (N := 14) hx hb hts zi_X3_readLaw_3 hown hK hP 0 rfl rfl 5 (by decide) (hts (.fieldLink RX3 22 "WaxTurns$Reade\x72" "draft" "LWaxTurns$Hall;") (zm_X3_readLaw_r1 (List.mem_of_getElem? (i := 0) rfl))) (fun _ h9 => h9) rfl dX3_readLaw_101 ?_
        refine lv_iconst (v := 1) hx hb dX3_readLaw_104 zk_iconst_1 ?_
        refine va_put (D := (dC, dI)) (ci := 0) (v := .int 1) (ty := .boolean) (C := RX0) (T := TX0) (N := 15) hx hb hts zi_X3_readLaw_0 tyX0 tyX0_ok nmX0 hown hK hP hD hS 2 rfl rfl 4 (by decide) (hts (.fieldLink RX3 68 "WaxTurns$Hall" "lawTold" "Z") (zm_X3_readLaw_r1 (List.mem_of_getElem? (i := 6) rfl))) (fun _ h9 => h9) rfl (tyX0_ok 4 (by decide)) rfl rfl (Nat.le_of_ble_eq_true rfl) dX3_readLaw_105 (fun H locs hP hD hS => ?_)
        refine zs_2 (y := (a0_5, .inr (0, [.int a0_5_0, a0_5g_1, a0_5g_2, a0_5g_3, .int 1, .int v17na0_13, .int v49na0_13, .int v81na0_13, a0_5g_8, a0_5g_9, a0_5g_10, a0_5g_11, a0_5g_12, a0_5g_13, a0_5g_14]))) hP hD rfl (fun hP hD => ?_)
        refine lv_iconst (v := 1) hx hb dX3_readLaw_108 zk_iconst_1 ?_
        have hFe : FX = (1, v81na0_1.toInt, v81na0_2.toInt, v81na0_8.toInt, v81na0_9.toInt, v81na0_10.toInt, v81na0_11.toInt, v81na0_12.toInt, v81na0_13.toInt, 1, v17na0_13.toInt, v49na0_13.toInt, v81na0_13.toInt) := hF0
        exact W.zret (v := 1) hx hb hr rfl (fun t ht hW => ⟨⟨1, (), rfl, ⟨(Or.inl (rfl)), (congrArg Prod.fst hFe).symm⟩, v81na0_1, v81na0_2, v81na0_8, v81na0_9, v81na0_10, v81na0_11, v81na0_12, v81na0_13, 1, v17na0_13, v49na0_13, v81na0_13, ⟨bv81na0_8.1, bv81na0_8.2⟩, ⟨bv81na0_9.1, bv81na0_9.2⟩, ⟨bv81na0_10.1, bv81na0_10.2⟩, ⟨Int.le_trans (by decide) zq1, zq0⟩, ⟨l17k0_v17na0_13, u17k0_v17na0_13⟩, ⟨l49k0_v49na0_13, u49k0_v49na0_13⟩, ⟨l81k0_v81na0_13, u81k0_v81na0_13⟩, (congrArg Prod.snd hFe), by rw [ht]; exact hP, va_K.moved hW.alike hK, hD⟩, hS.F ht⟩) hS.2.2 dX3_readLaw_109
      · subst hw
        have hF0 := hF0.trans (if_neg (by decide))
        refine lv_if_ne (tgt := 89) hx hb dX3_readLaw_84 (by decide) (fun c84 => absurd (by decide +kernel) c84) (fun _ => ?_)
        refine lv_iconst (v := 0) hx hb dX3_readLaw_87 zk_iconst_0 ?_
        have hFe : FX = (0, v81na0_1.toInt, v81na0_2.toInt, v81na0_8.toInt, v81na0_9.toInt, v81na0_10.toInt, v81na0_11.toInt, v81na0_12.toInt, v81na0_13.toInt, a0_5_4.toInt, v17na0_13.toInt, v49na0_13.toInt, a0_5_7.toInt) := hF0
        exact W.zret (v := 0) hx hb hr rfl (fun t ht hW => ⟨⟨0, (), rfl, ⟨(Or.inr (rfl)), (congrArg Prod.fst hFe).symm⟩, v81na0_1, v81na0_2, v81na0_8, v81na0_9, v81na0_10, v81na0_11, v81na0_12, v81na0_13, a0_5_4, v17na0_13, v49na0_13, a0_5_7, ⟨bv81na0_8.1, bv81na0_8.2⟩, ⟨bv81na0_9.1, bv81na0_9.2⟩, ⟨bv81na0_10.1, bv81na0_10.2⟩, ⟨ba0_5_4_l, ba0_5_4_u⟩, ⟨l17k0_v17na0_13, u17k0_v17na0_13⟩, ⟨l49k0_v49na0_13, u49k0_v49na0_13⟩, ⟨ba0_5_7_l, ba0_5_7_u⟩, (congrArg Prod.snd hFe), by rw [ht]; exact hP, va_K.moved hW.alike hK, hD⟩, hS.F ht⟩) hS.2.2 dX3_readLaw_88
    · subst hw
      have hF0 := hF0.trans (if_neg (by decide))
      refine lv_if_ne (tgt := 57) hx hb dX3_readLaw_52 (by decide) (fun c52 => absurd (by decide +kernel) c52) (fun _ => ?_)
      refine lv_iconst (v := 0) hx hb dX3_readLaw_55 zk_iconst_0 ?_
      have hFe : FX = (0, v49na0_1.toInt, v49na0_2.toInt, v49na0_8.toInt, v49na0_9.toInt, v49na0_10.toInt, v49na0_11.toInt, v49na0_12.toInt, v49na0_13.toInt, a0_5_4.toInt, v17na0_13.toInt, a0_5_6.toInt, a0_5_7.toInt) := hF0
      exact W.zret (v := 0) hx hb hr rfl (fun t ht hW => ⟨⟨0, (), rfl, ⟨(Or.inr (rfl)), (congrArg Prod.fst hFe).symm⟩, v49na0_1, v49na0_2, v49na0_8, v49na0_9, v49na0_10, v49na0_11, v49na0_12, v49na0_13, a0_5_4, v17na0_13, a0_5_6, a0_5_7, ⟨bv49na0_8.1, bv49na0_8.2⟩, ⟨bv49na0_9.1, bv49na0_9.2⟩, ⟨bv49na0_10.1, bv49na0_10.2⟩, ⟨ba0_5_4_l, ba0_5_4_u⟩, ⟨l17k0_v17na0_13, u17k0_v17na0_13⟩, ⟨ba0_5_6_l, ba0_5_6_u⟩, ⟨ba0_5_7_l, ba0_5_7_u⟩, (congrArg Prod.snd hFe), by rw [ht]; exact hP, va_K.moved hW.alike hK, hD⟩, hS.F ht⟩) hS.2.2 dX3_readLaw_56
  · subst hw
    have hF0 := hF0.trans (if_neg (by decide))
    refine lv_if_ne (tgt := 25) hx hb dX3_readLaw_20 (by decide) (fun c20 => absurd (by decide +kernel) c20) (fun _ => ?_)
    refine lv_iconst (v := 0) hx hb dX3_readLaw_23 zk_iconst_0 ?_
    have hFe : FX = (0, v17na0_1.toInt, v17na0_2.toInt, v17na0_8.toInt, v17na0_9.toInt, v17na0_10.toInt, v17na0_11.toInt, v17na0_12.toInt, v17na0_13.toInt, a0_5_4.toInt, a0_5_5.toInt, a0_5_6.toInt, a0_5_7.toInt) := hF0
    exact W.zret (v := 0) hx hb hr rfl (fun t ht hW => ⟨⟨0, (), rfl, ⟨(Or.inr (rfl)), (congrArg Prod.fst hFe).symm⟩, v17na0_1, v17na0_2, v17na0_8, v17na0_9, v17na0_10, v17na0_11, v17na0_12, v17na0_13, a0_5_4, a0_5_5, a0_5_6, a0_5_7, ⟨bv17na0_8.1, bv17na0_8.2⟩, ⟨bv17na0_9.1, bv17na0_9.2⟩, ⟨bv17na0_10.1, bv17na0_10.2⟩, ⟨ba0_5_4_l, ba0_5_4_u⟩, ⟨ba0_5_5_l, ba0_5_5_u⟩, ⟨ba0_5_6_l, ba0_5_6_u⟩, ⟨ba0_5_7_l, ba0_5_7_u⟩, (congrArg Prod.snd hFe), by rw [ht]; exact hP, va_K.moved hW.alike hK, hD⟩, hS.F ht⟩) hS.2.2 dX3_readLaw_24

set_option maxHeartbeats 4000000 in
set_option maxRecDepth 100000 in
theorem f_X3_readFigure (l : Launch) (dC : Nat → ClassId) (dI : Nat → Nat → Nat) (sz : Nat) (a0 : Nat) (a0g_0 : Value) (a0_1 : Int32) (a0_2 : Int32) (a0_3 : Nat) (a0_4 : Nat) (a0_5 : Nat) (a0_6 : Int32) (a0_7 : Int32) (a0_8 : Int32) (a0_9 : Int32) (a0_10 : Int32) (a0_11 : Int64) (a0_12 : Int32) (a0_13 : Int32) (ka0_3 : ClassId) (fa0_3 : Nat → Int32) (ka0_4 : ClassId) (fa0_4 : Nat → Int64) (a0_5_0 : Int32) (a0_5g_1 a0_5g_2 a0_5g_3 a0_5g_4 a0_5g_5 a0_5g_6 a0_5g_7 a0_5g_9 a0_5g_12 a0_5g_13 a0_5g_14 : Value) (a0_5_8 : Int32) (a0_5_10 : Nat) (a0_5_11 : Nat) (ka0_5_10 : ClassId) (fa0_5_10 : Nat → Int32) (ka0_5_11 : ClassId) (fa0_5_11 : Nat → Int32) (ad : Nat → Nat) (ba0_6_l : (0 : Int) ≤ a0_6.toInt) (ba0_6_u : a0_6.toInt ≤ (12 : Int)) (ba0_7_l : (0 : Int) ≤ a0_7.toInt) (ba0_7_u : a0_7.toInt ≤ (900 : Int)) (ba0_8_l : (0 : Int) ≤ a0_8.toInt) (ba0_8_u : a0_8.toInt ≤ (900 : Int)) (ba0_9_l : (0 : Int) ≤ a0_9.toInt) (ba0_9_u : a0_9.toInt ≤ (900 : Int)) (ba0_10_l : (0 : Int) ≤ a0_10.toInt) (ba0_10_u : a0_10.toInt ≤ (4 : Int)) (ba0_5_0_l : (0 : Int) ≤ a0_5_0.toInt) (ba0_5_0_u : a0_5_0.toInt ≤ (9 : Int)) : zm l yX3_readFigure wsX3_readFigure ({ frames := 6, cells := 0, slots := 0, locals := 132 }) [.ref a0] dC dI sz [(a0, .inr (3, [a0g_0, .int a0_1, .int a0_2, .ref a0_3, .ref a0_4, .ref a0_5, .int a0_6, .int a0_7, .int a0_8, .int a0_9, .int a0_10, .long a0_11, .int a0_12, .int a0_13])), (a0_3, .inl (ka0_3, 900, .inl (fa0_3))), (a0_4, .inl (ka0_4, 12, .inr (.inl (fa0_4)))), (a0_5, .inr (0, [.int a0_5_0, a0_5g_1, a0_5g_2, a0_5g_3, a0_5g_4, a0_5g_5, a0_5g_6, a0_5g_7, .int a0_5_8, a0_5g_9, .ref a0_5_10, .ref a0_5_11, a0_5g_12, a0_5g_13, a0_5g_14])), (a0_5_10, .inl (ka0_5_10, 9, .inl (fa0_5_10))), (a0_5_11, .inl (ka0_5_11, 9, .inl (fa0_5_11)))] [(ka0_3, .byte), (ka0_4, .long), (ka0_5_10, .int), (ka0_5_11, .int)] (fun A U => sxc_T ad A U ∧ va_Nw (.methodLinkNest RX3 223 yX7_within RX7) U ∧ va_Nw (.methodLinkNest RX3 196 yX7_hasBit RX7) U) (fun A => va_Qi (fun (r : Int32) (_ : Unit) => ((r = 1) ∨ (r = 0)) ∧ r.toInt = (Ff_X3_readFigure a0_1.toInt a0_2.toInt a0_6.toInt a0_7.toInt a0_9.toInt a0_11.toInt a0_12.toInt a0_13.toInt (fl_A fa0_3) (fl_L fa0_4) a0_5_0.toInt a0_5_8.toInt (fl_A fa0_5_10) (fl_A fa0_5_11)).1) (fun (_ : Unit) (t : State) => ∃ na0_1 : Int32, ∃ na0_2 : Int32, ∃ na0_6 : Int32, ∃ na0_8 : Int32, ∃ na0_9 : Int32, ∃ na0_10 : Int32, ∃ na0_11 : Int64, ∃ na0_12 : Int32, ∃ na0_13 : Int32, ∃ nfa0_4 : Nat → Int64, ∃ na0_5_8 : Int32, ∃ nfa0_5_10 : Nat → Int32, ∃ nfa0_5_11 : Nat → Int32, ((0 : Int) ≤ na0_6.toInt ∧ na0_6.toInt ≤ 12) ∧ ((0 : Int) ≤ na0_8.toInt ∧ na0_8.toInt ≤ 900) ∧ ((0 : Int) ≤ na0_9.toInt ∧ na0_9.toInt ≤ 900) ∧ ((0 : Int) ≤ na0_10.toInt ∧ na0_10.toInt ≤ 4) ∧ ((Ff_X3_readFigure a0_1.toInt a0_2.toInt a0_6.toInt a0_7.toInt a0_9.toInt a0_11.toInt a0_12.toInt a0_13.toInt (fl_A fa0_3) (fl_L fa0_4) a0_5_0.toInt a0_5_8.toInt (fl_A fa0_5_10) (fl_A fa0_5_11)).2 = (na0_1.toInt, na0_2.toInt, na0_6.toInt, na0_8.toInt, na0_9.toInt, na0_10.toInt, na0_11.toInt, na0_12.toInt, na0_13.toInt, (fl_L nfa0_4), na0_5_8.toInt, (fl_A nfa0_5_10), (fl_A nfa0_5_11))) ∧ ax_B dC dI A [(a0, .inr (3, [a0g_0, .int na0_1, .int na0_2, .ref a0_3, .ref a0_4, .ref a0_5, .int na0_6, .int a0_7, .int na0_8, .int na0_9, .int na0_10, .long na0_11, .int na0_12, .int na0_13])), (a0_3, .inl (ka0_3, 900, .inl (fa0_3))), (a0_4, .inl (ka0_4, 12, .inr (.inl (nfa0_4)))), (a0_5, .inr (0, [.int a0_5_0, a0_5g_1, a0_5g_2, a0_5g_3, a0_5g_4, a0_5g_5, a0_5g_6, a0_5g_7, .int na0_5_8, a0_5g_9, .ref a0_5_10, .ref a0_5_11, a0_5g_12, a0_5g_13, a0_5g_14])), (a0_5_10, .inl (ka0_5_10, 9, .inl (nfa0_5_10))), (a0_5_11, .inl (ka0_5_11, 9, .inl (nfa0_5_11)))] [(ka0_3, .byte), (ka0_4, .long), (ka0_5_10, .int), (ka0_5_11, .int)] t) A) := by
  refine zh (cc := cX3_readFigure) (maxL := 3) (ret := (some .boolean)) zn_RX3 rfl (Nat.le_of_ble_eq_true rfl) (fun p e s m below meth c A ls hx hb hml hr hts (hown : s.vm.findClass RX3 = some m.cls) hlocks hA hS hP hK hD hE (hl : lv_has ls 3 [(0, .ref a0)]) => ?_)
  obtain ⟨hE0, hE1, hE2⟩ := hE
  generalize hFX : Ff_X3_readFigure a0_1.toInt a0_2.toInt a0_6.toInt a0_7.toInt a0_9.toInt a0_11.toInt a0_12.toInt a0_13.toInt (fl_A fa0_3) (fl_L fa0_4) a0_5_0.toInt a0_5_8.toInt (fl_A fa0_5_10) (fl_A fa0_5_11) = FX at ⊢
  have hF0 := hFX.symm.trans (Ff_X3_readFigure.eq_1 a0_1.toInt a0_2.toInt a0_6.toInt a0_7.toInt a0_9.toInt a0_11.toInt a0_12.toInt a0_13.toInt (fl_A fa0_3) (fl_L fa0_4) a0_5_0.toInt a0_5_8.toInt (fl_A fa0_5_10) (fl_A fa0_5_11))
  refine lv_aload_n hx hb dX3_readFigure_0 rfl (lv_at hl 0 rfl) ?_
  have hKc := hK.sub (tys' := [(ka0_3, .byte)]) [0] rfl
  refine va_callv (va_runV (As := []) (rest := []) ⟨hx, hb, hml, hown, hts⟩ (f_X3_advance l dC dI s.heap.size a0 a0g_0 (.int a0_1) (.int a0_2) (.ref a0_4) (.ref a0_5) (.int a0_6) (.int a0_13) a0_3 a0_7 a0_8 a0_9 a0_10 a0_11 a0_12 ka0_3 fa0_3 ba0_7_l ba0_7_u ba0_8_l ba0_8_u ba0_9_l ba0_9_u ba0_10_l ba0_10_u) (cwV 0 hts gX3_readFigure_X3_advance rfl rfl rfl zd_X3_advance ⟨Nat.le_of_ble_eq_true rfl, Nat.le_of_ble_eq_true rfl⟩) ⟨ax_blind (fun _ _ _ _ _ => trivial), zr_3 hKc (zp_P2 hP) (q0 := 0) rfl, ax_pre (zp_P2 hP) hKc (zp_D2 hD) (fun _ _ => trivial)⟩ rfl rfl hl.1 rfl (lv_room (Nat.le_of_ble_eq_true rfl)) dX3_readFigure_1 ⟨Nat.le_of_ble_eq_true rfl, Nat.le_of_ble_eq_true rfl⟩) hS (fun q _ h => zp_F2 hD hS hA q h) (zp_F2 hD hS hA) (fun u t H locs ht hvm hw => zx_5 (fun v1na0_8 v1na0_9 v1na0_10 v1na0_11 v1na0_12 => zy_4 (fun bv1na0_8 bv1na0_9 bv1na0_10 hraw1_0 hB hz1 hk1 hS1 => zo2 hB ht hP hD hk1 (zp_F2 hD hS hA) hS1 (fun hP hK1 hD hS => ?_))))
  have hc1 : Ff_X3_advance a0_7.toInt a0_9.toInt a0_11.toInt a0_12.toInt (fl_A fa0_3) = (v1na0_8.toInt, v1na0_9.toInt, v1na0_10.toInt, v1na0_11.toInt, v1na0_12.toInt) := hraw1_0
  have hF0 := hF0.trans (fl_c5_eq hc1)
  refine lv_aload_n hx hb dX3_readFigure_4 rfl (lv_at hl 0 rfl) ?_
  refine zc_cutc (wc := [(a0, .inr (3, [a0g_0, .int a0_1, .int a0_2, .ref a0_3, .ref a0_4, .ref a0_5, .int a0_6, .int a0_7, .int v1na0_8, .int v1na0_9, .int v1na0_10, .long v1na0_11, .int v1na0_12, .int a0_13])), (a0_4, .inl (ka0_4, 12, .inr (.inl (fa0_4)))), (a0_3, .inl (ka0_3, 900, .inl (fa0_3)))]) hP hD hS hA [0, 2, 1] (by decide +kernel) rfl (fun hPc hDc hFc hCc => ?_)
  have hKc := hK.sub (tys' := [(ka0_4, .long), (ka0_3, .byte)]) [1, 0] rfl
  refine va_calli (va_runV (As := []) (rest := []) ⟨hx, hb, hml, hown, hts⟩ (f_X3_takeName l dC dI H.size a0 a0g_0 (.ref a0_5) (.int a0_13) a0_1 a0_2 a0_3 a0_4 a0_6 a0_7 v1na0_8 v1na0_9 v1na0_10 v1na0_11 v1na0_12 ka0_4 fa0_4 ka0_3 fa0_3 ad ba0_6_l ba0_6_u ba0_7_l ba0_7_u bv1na0_8.1 bv1na0_8.2 bv1na0_9.1 bv1na0_9.2 bv1na0_10.1 bv1na0_10.2) (cwV 0 hts gX3_readFigure_X3_takeName rfl rfl rfl zd_X3_takeName ⟨Nat.le_of_ble_eq_true rfl, Nat.le_of_ble_eq_true rfl⟩) ⟨ax_blind (fun _ _ _ _ hq => sxc_T_same _ _ _ _ (hq)), zr_3 hKc hPc (q0 := 0) rfl, ax_preE hPc hKc hDc (fun U hU hW => sxc_T_to hE0 hS.2.1 hFc hU hW)⟩ rfl rfl hl.1 rfl (lv_room (Nat.le_of_ble_eq_true rfl)) dX3_readFigure_5 ⟨Nat.le_of_ble_eq_true rfl, Nat.le_of_ble_eq_true rfl⟩) hS (fun q _ h => hFc q h) hFc (fun r5 u t H locs ht hvm hw => zx_9 (fun v5na0_1 v5na0_2 v5na0_6 v5na0_8 v5na0_9 v5na0_10 v5na0_11 v5na0_12 v5nfa0_4 => zy_5 (fun bv5na0_6 bv5na0_8 bv5na0_9 bv5na0_10 hraw5_0 hB hz1 hk1 hS1 => zo hB ht hS1 (fun hP1 hK1 hD1 hS => ?_))))
  refine zc_backc (w := [(a0, .inr (3, [a0g_0, .int v5na0_1, .int v5na0_2, .ref a0_3, .ref a0_4, .ref a0_5, .int v5na0_6, .int a0_7, .int v5na0_8, .int v5na0_9, .int v5na0_10, .long v5na0_11, .int v5na0_12, .int a0_13])), (a0_3, .inl (ka0_3, 900, .inl (fa0_3))), (a0_4, .inl (ka0_4, 12, .inr (.inl (v5nfa0_4)))), (a0_5, .inr (0, [.int a0_5_0, a0_5g_1, a0_5g_2, a0_5g_3, a0_5g_4, a0_5g_5, a0_5g_6, a0_5g_7, .int a0_5_8, a0_5g_9, .ref a0_5_10, .ref a0_5_11, a0_5g_12, a0_5g_13, a0_5g_14])), (a0_5_10, .inl (ka0_5_10, 9, .inl (fa0_5_10))), (a0_5_11, .inl (ka0_5_11, 9, .inl (fa0_5_11)))]) hP hD hCc hk1 hFc hP1 hD1 [.inr 0, .inr 2, .inr 1, .inl 3, .inl 4, .inl 5] (by decide +kernel) rfl (fun hP hD => ?_)
  obtain ⟨hw, hfr5⟩ := hw
  have hc5 : Ff_X3_takeName a0_1.toInt a0_2.toInt a0_6.toInt a0_7.toInt v1na0_8.toInt v1na0_9.toInt v1na0_10.toInt v1na0_11.toInt v1na0_12.toInt (fl_L fa0_4) (fl_A fa0_3) = (r5.toInt, v5na0_1.toInt, v5na0_2.toInt, v5na0_6.toInt, v5na0_8.toInt, v5na0_9.toInt, v5na0_10.toInt, v5na0_11.toInt, v5na0_12.toInt, (fl_L v5nfa0_4)) := Prod.ext hfr5.symm hraw5_0
  have hF0 := hF0.trans (fl_c10_eq hc5)
  rcases hw with hw | hw
  · subst hw
    have hF0 := hF0.trans (if_pos (by decide))
    refine lv_if_eq (tgt := 37) hx hb dX3_readFigure_8 (by decide) (fun c8 => absurd c8 (by decide +kernel)) (fun _ => ?_)
    refine lv_aload_n hx hb dX3_readFigure_11 rfl (lv_at hl 0 rfl) ?_
    refine va_ldcS hx hb hown (sxc_R12 hE0) dX3_readFigure_12 ?_
    have hKc := hK.sub (tys' := [(ka0_3, .byte)]) [0] rfl
    refine va_calli (va_runV (As := [.ref (ad 12)]) (rest := []) ⟨hx, hb, hml, hown, hts⟩ (f_X3_takeWord l dC dI H.size a0 (ad 12) a0g_0 (.ref a0_4) (.ref a0_5) (.int v5na0_6) (.int a0_13) v5na0_1 v5na0_2 a0_3 a0_7 v5na0_8 v5na0_9 v5na0_10 v5na0_11 v5na0_12 ka0_3 fa0_3 2 (sxc 12) ba0_7_l ba0_7_u bv5na0_8.1 bv5na0_8.2 bv5na0_9.1 bv5na0_9.2 bv5na0_10.1 bv5na0_10.2) (cwV 1 hts gX3_readFigure_X3_takeWord rfl rfl rfl zd_X3_takeWord ⟨Nat.le_of_ble_eq_true rfl, Nat.le_of_ble_eq_true rfl⟩) ⟨ax_blind (fun _ _ _ _ hq => sxc_W_same _ _ _ _ (hq)), zr_3 hKc (zp_P2 hP) (q0 := 0) rfl, ax_preE (zp_P2 hP) hKc (zp_D2 hD) (fun U hU hW => sxc_W_to (sxc_T_w hE0 (i := 12) (by decide)) hS.2.1 (zp_F2 hD hS hA) hU hW)⟩ rfl rfl hl.1 rfl (lv_room (Nat.le_of_ble_eq_true rfl)) dX3_readFigure_14 ⟨Nat.le_of_ble_eq_true rfl, Nat.le_of_ble_eq_true rfl⟩) hS (fun q _ h => zp_F2 hD hS hA q h) (zp_F2 hD hS hA) (fun r14 u t H locs ht hvm hw => zx_7 (fun v14na0_1 v14na0_2 v14na0_8 v14na0_9 v14na0_10 v14na0_11 v14na0_12 => zy_4 (fun bv14na0_8 bv14na0_9 bv14na0_10 hraw14_0 hB hz1 hk1 hS1 => zo2 hB ht hP hD hk1 (zp_F2 hD hS hA) hS1 (fun hP hK1 hD hS => ?_))))
    obtain ⟨hw, hfr14⟩ := hw
    rw [show ((2 : Nat) : Int) = 2 from rfl] at hfr14 hraw14_0
    have hc14 : Ff_X3_takeWord v5na0_1.toInt v5na0_2.toInt a0_7.toInt v5na0_8.toInt v5na0_9.toInt v5na0_10.toInt v5na0_11.toInt v5na0_12.toInt (fl_A fa0_3) 2 (fl_A (sxc 12)) = (r14.toInt, v14na0_1.toInt, v14na0_2.toInt, v14na0_8.toInt, v14na0_9.toInt, v14na0_10.toInt, v14na0_11.toInt, v14na0_12.toInt) := Prod.ext hfr14.symm hraw14_0
    have hF0 := hF0.trans (fl_c8_eq hc14)
    rcases hw with hw | hw
    · subst hw
      have hF0 := hF0.trans (if_pos (by decide))
      refine lv_if_eq (tgt := 37) hx hb dX3_readFigure_17 (by decide) (fun c17 => absurd c17 (by decide +kernel)) (fun _ => ?_)
      refine lv_aload_n hx hb dX3_readFigure_20 rfl (lv_at hl 0 rfl) ?_
      refine lv_iconst (v := 0) hx hb dX3_readFigure_21 zk_iconst_0 ?_
      refine lv_aload_n hx hb dX3_readFigure_22 rfl (lv_at hl 0 rfl) ?_
      refine va_get (D := (dC, dI)) (ci := 3) (v := .ref a0_5) (C := RX3) (T := TX3) (N := 14) hx hb hts zi_X3_readFigure_3 hown hK hP 0 rfl rfl 5 (by decide) (hts (.fieldLink RX3 22 "WaxTurns$Reade\x72" "draft" "LWaxTurns$Hall;") (zm_X3_readFigure_r1 (List.mem_of_getElem? (i := 0) rfl))) (fun _ h9 => h9) rfl dX3_readFigure_23 ?_
      refine va_get (D := (dC, dI)) (ci := 0) (v := .int a0_5_0) (C := RX0) (T := TX0) (N := 15) hx hb hts zi_X3_readFigure_0 hown hK hP 3 rfl rfl 0 (by decide) (hts (.fieldLink RX3 104 "WaxTurns$Hall" "figures" "I") (zm_X3_readFigure_r1 (List.mem_of_getElem? (i := 1) rfl))) (fun _ h9 => h9) rfl dX3_readFigure_26 ?_
      refine lv_iconst (v := 1) hx hb dX3_readFigure_29 zk_iconst_1 ?_
      refine lv_isub hx hb dX3_readFigure_30 ?_
      refine lv_topi (fun x30 ex30 => ?_)
      have qx30 : x30.toInt = a0_5_0.toInt - (1 : Int32).toInt := ai_sub ex30 ⟨ba0_5_0_l, ba0_5_0_u⟩ ⟨zq1, zq0⟩ (by decide) (by decide)
      have bx30 : (-1 : Int) ≤ x30.toInt ∧ x30.toInt ≤ 8 := ⟨by rw [qx30]; exact Int.sub_le_sub ba0_5_0_l zq0, by rw [qx30]; exact Int.sub_le_sub ba0_5_0_u zq1⟩
      have wx30 : x30.toInt = a0_5_0.toInt - 1 := qx30
      have hF0 := hF0.trans (fl_lt_eq (show x30.toInt = a0_5_0.toInt - 1 from qx30))
      refine va_calli (va_runV (As := [.int 0, .int x30]) (rest := []) ⟨hx, hb, hml, hown, hts⟩ (f_X3_isWholeWithin l dC dI H.size a0 0 x30 a0g_0 (.ref a0_3) (.ref a0_4) (.ref a0_5) (.int v5na0_6) (.int a0_7) (.int v14na0_9) (.long v14na0_11) (.int a0_13) v14na0_1 v14na0_2 v14na0_8 v14na0_10 v14na0_12 bv14na0_8.1 bv14na0_8.2 bv14na0_10.1 bv14na0_10.2) (cwV 2 hts gX3_readFigure_X3_isWholeWithin rfl rfl rfl zd_X3_isWholeWithin ⟨Nat.le_of_ble_eq_true rfl, Nat.le_of_ble_eq_true rfl⟩) ⟨ax_blind (fun _ _ _ _ hq => va_Nw.same rfl rfl (hq)), zr_3 (zp_K hK) (zp_P1 hP) (q0 := 0) rfl, ax_pre (zp_P1 hP) (zp_K hK) (zp_D1 hD) (fun _ hW => va_Nw.warmM hW hE1)⟩ rfl rfl hl.1 rfl (lv_room (Nat.le_of_ble_eq_true rfl)) dX3_readFigure_31 ⟨Nat.le_of_ble_eq_true rfl, Nat.le_of_ble_eq_true rfl⟩) hS (fun q _ h => zp_F1 hD hS hA q h) (zp_F1 hD hS hA) (fun r31 u t H locs ht hvm hw => zx_2 (fun v31na0_1 v31na0_2 => zy_1 (fun hraw31_0 hB hz1 hk1 hS1 => zo1 hB ht hP hD hk1 (zp_F1 hD hS hA) hS1 (fun hP hK1 hD hS => ?_))))
      obtain ⟨hw, hfr31⟩ := hw
      rw [show (0 : Int32).toInt = 0 from by decide] at hfr31 hraw31_0
      have hc31 : Ff_X3_isWholeWithin 0 x30.toInt v14na0_1.toInt v14na0_2.toInt v14na0_8.toInt v14na0_10.toInt v14na0_12.toInt = (r31.toInt, v31na0_1.toInt, v31na0_2.toInt) := Prod.ext hfr31.symm hraw31_0
      have hF0 := hF0.trans (fl_c3_eq hc31)
      rcases hw with hw | hw
      · obtain ⟨hw, h31⟩ := hw
        subst hw
        have l31k0_v14na0_12 : (0 : Int) ≤ v14na0_12.toInt := Int.le_trans zq5 h31.1
        have u31k0_v14na0_12 : v14na0_12.toInt ≤ (8 : Int) := Int.le_trans h31.2 bx30.2
        have hF0 := hF0.trans (if_pos (by decide))
        refine lv_if_ne (tgt := 39) hx hb dX3_readFigure_34 (by decide) (fun _ => ?_) (fun c34 => absurd c34 (by decide +kernel))
        refine lv_aload_n hx hb dX3_readFigure_39 rfl (lv_at hl 0 rfl) ?_
        refine va_get (D := (dC, dI)) (ci := 3) (v := .int v14na0_12) (C := RX3) (T := TX3) (N := 14) hx hb hts zi_X3_readFigure_3 hown hK hP 0 rfl rfl 12 (by decide) (hts (.fieldLink RX3 85 "WaxTurns$Reade\x72" "whole" "I") (zm_X3_readFigure_r1 (List.mem_of_getElem? (i := 2) rfl))) (fun _ h9 => h9) rfl dX3_readFigure_40 ?_
        refine lv_istore_n (lv' := [(1, .int v14na0_12), (0, .ref a0)]) hx hb dX3_readFigure_43 rfl hl (by decide) rfl (fun ls hl => ?_)
        refine lv_aload_n hx hb dX3_readFigure_44 rfl (lv_at hl 1 rfl) ?_
        refine va_get (D := (dC, dI)) (ci := 3) (v := .ref a0_5) (C := RX3) (T := TX3) (N := 14) hx hb hts zi_X3_readFigure_3 hown hK hP 0 rfl rfl 5 (by decide) (hts (.fieldLink RX3 22 "WaxTurns$Reade\x72" "draft" "LWaxTurns$Hall;") (zm_X3_readFigure_r1 (List.mem_of_getElem? (i := 0) rfl))) (fun _ h9 => h9) rfl dX3_readFigure_45 ?_
        refine va_get (D := (dC, dI)) (ci := 0) (v := .int a0_5_8) (C := RX0) (T := TX0) (N := 15) hx hb hts zi_X3_readFigure_0 hown hK hP 3 rfl rfl 8 (by decide) (hts (.fieldLink RX3 121 "WaxTurns$Hall" "toldBits" "I") (zm_X3_readFigure_r1 (List.mem_of_getElem? (i := 3) rfl))) (fun _ h9 => h9) rfl dX3_readFigure_48 ?_
        refine lv_iload_n hx hb dX3_readFigure_51 rfl (lv_at hl 0 rfl) ?_
        refine va_calli (va_runSN (As := [.int a0_5_8, .int v14na0_12]) (rest := []) ⟨hx, hb, hml, hown, hts⟩ (f_X7_hasBit l dC dI H.size a0_5_8 v14na0_12 ) ⟨va_cnB 2 hts gX3_readFigure_X7_hasBit_n196 rfl rfl rfl hE2 (hts (.initialized RX7) (zm_X3_readFigure_r5 (List.mem_of_getElem? (i := 2) rfl))) zd_X7_hasBit.2 ⟨Nat.le_of_ble_eq_true rfl, Nat.le_of_ble_eq_true rfl⟩, (hts (.static yX7_hasBit) (zm_X3_readFigure_r5 (List.mem_of_getElem? (i := 4) rfl))), trivial⟩ ⟨ax_blind (fun _ _ _ _ _ => trivial), ax_pre (zp_P0 hP) (zp_K hK) (zp_D0 hD) (fun _ _ => trivial)⟩ rfl rfl hl.1 rfl (lv_room (Nat.le_of_ble_eq_true rfl)) dX3_readFigure_52 ⟨Nat.le_of_ble_eq_true rfl, Nat.le_of_ble_eq_true rfl⟩) hS (fun q _ h => zp_F0 hD hS hA q h) (zp_F0 hD hS hA) (fun r52 u t H locs ht hvm hw hB hz1 hk1 hS1 => zo0 hB ht hP hD hk1 (zp_F0 hD hS hA) hS1 (fun hP hK1 hD hS => ?_))
        obtain ⟨hw, hfr52⟩ := hw
        have hc52 : Ff_X7_hasBit a0_5_8.toInt v14na0_12.toInt = r52.toInt := hfr52.symm
        have hF0 := hF0.trans (fl_lt_eq hc52.symm)
        rcases hw with hw | hw
        · subst hw
          have hF0 := hF0.trans (if_pos (by decide))
          refine lv_if_eq (tgt := 64) hx hb dX3_readFigure_55 (by decide) (fun c55 => absurd c55 (by decide +kernel)) (fun _ => ?_)
          refine lv_aload_n hx hb dX3_readFigure_58 rfl (lv_at hl 1 rfl) ?_
          refine lv_iconst (v := 3) hx hb dX3_readFigure_59 zk_iconst_3 ?_
          refine va_calli (va_runV (As := [.int 3]) (rest := []) ⟨hx, hb, hml, hown, hts⟩ (f_X3_fails l dC dI H.size a0 3 a0g_0 (.ref a0_3) (.ref a0_4) (.ref a0_5) (.int v5na0_6) (.int a0_7) (.int v14na0_9) (.int v14na0_10) (.long v14na0_11) (.int v14na0_12) (.int a0_13) v31na0_1 v31na0_2 v14na0_8 bv14na0_8.1 bv14na0_8.2) (cwV 1 hts gX3_readFigure_X3_fails rfl rfl rfl zd_X3_fails ⟨Nat.le_of_ble_eq_true rfl, Nat.le_of_ble_eq_true rfl⟩) ⟨ax_blind (fun _ _ _ _ _ => trivial), zr_3 (zp_K hK) (zp_P1 hP) (q0 := 0) rfl, ax_pre (zp_P1 hP) (zp_K hK) (zp_D1 hD) (fun _ _ => trivial)⟩ rfl rfl hl.1 rfl (lv_room (Nat.le_of_ble_eq_true rfl)) dX3_readFigure_60 ⟨Nat.le_of_ble_eq_true rfl, Nat.le_of_ble_eq_true rfl⟩) hS (fun q _ h => zp_F1 hD hS hA q h) (zp_F1 hD hS hA) (fun r60 u t H locs ht hvm hw => zx_2 (fun v60na0_1 v60na0_2 => zy_1 (fun hraw60_0 hB hz1 hk1 hS1 => zo1 hB ht hP hD hk1 (zp_F1 hD hS hA) hS1 (fun hP hK1 hD hS => ?_))))
          obtain ⟨hw, hfr60⟩ := hw
          rw [show (3 : Int32).toInt = 3 from by decide] at hfr60 hraw60_0
          have hc60 : Ff_X3_fails 3 v14na0_8.toInt = (r60.toInt, v60na0_1.toInt, v60na0_2.toInt) := Prod.ext hfr60.symm hraw60_0
          have hF0 := hF0.trans (fl_c3_eq hc60)
          have hw : r60 = 0 := hw
          have hw := hw.symm
          subst hw
          have hFe : FX = (0, v60na0_1.toInt, v60na0_2.toInt, v5na0_6.toInt, v14na0_8.toInt, v14na0_9.toInt, v14na0_10.toInt, v14na0_11.toInt, v14na0_12.toInt, a0_13.toInt, (fl_L v5nfa0_4), a0_5_8.toInt, (fl_A fa0_5_10), (fl_A fa0_5_11)) := hF0
          exact W.zret (v := 0) hx hb hr rfl (fun t ht hW => ⟨⟨0, (), rfl, ⟨(Or.inr (rfl)), (congrArg Prod.fst hFe).symm⟩, v60na0_1, v60na0_2, v5na0_6, v14na0_8, v14na0_9, v14na0_10, v14na0_11, v14na0_12, a0_13, v5nfa0_4, a0_5_8, fa0_5_10, fa0_5_11, ⟨bv5na0_6.1, bv5na0_6.2⟩, ⟨bv14na0_8.1, bv14na0_8.2⟩, ⟨bv14na0_9.1, bv14na0_9.2⟩, ⟨bv14na0_10.1, bv14na0_10.2⟩, (congrArg Prod.snd hFe), by rw [ht]; exact hP, va_K.moved hW.alike hK, hD⟩, hS.F ht⟩) hS.2.2 dX3_readFigure_63
        · subst hw
          have hF0 := hF0.trans (if_neg (by decide))
          refine lv_if_eq (tgt := 64) hx hb dX3_readFigure_55 (by decide) (fun _ => ?_) (fun c55 => absurd (by decide +kernel) c55)
          refine lv_aload_n hx hb dX3_readFigure_64 rfl (lv_at hl 1 rfl) ?_
          have hKc := hK.sub (tys' := [(ka0_3, .byte)]) [0] rfl
          refine va_callv (va_runV (As := []) (rest := []) ⟨hx, hb, hml, hown, hts⟩ (f_X3_advance l dC dI H.size a0 a0g_0 (.int v31na0_1) (.int v31na0_2) (.ref a0_4) (.ref a0_5) (.int v5na0_6) (.int a0_13) a0_3 a0_7 v14na0_8 v14na0_9 v14na0_10 v14na0_11 v14na0_12 ka0_3 fa0_3 ba0_7_l ba0_7_u bv14na0_8.1 bv14na0_8.2 bv14na0_9.1 bv14na0_9.2 bv14na0_10.1 bv14na0_10.2) (cwV 0 hts gX3_readFigure_X3_advance rfl rfl rfl zd_X3_advance ⟨Nat.le_of_ble_eq_true rfl, Nat.le_of_ble_eq_true rfl⟩) ⟨ax_blind (fun _ _ _ _ _ => trivial), zr_3 hKc (zp_P2 hP) (q0 := 0) rfl, ax_pre (zp_P2 hP) hKc (zp_D2 hD) (fun _ _ => trivial)⟩ rfl rfl hl.1 rfl (lv_room (Nat.le_of_ble_eq_true rfl)) dX3_readFigure_65 ⟨Nat.le_of_ble_eq_true rfl, Nat.le_of_ble_eq_true rfl⟩) hS (fun q _ h => zp_F2 hD hS hA q h) (zp_F2 hD hS hA) (fun u t H locs ht hvm hw => zx_5 (fun v65na0_8 v65na0_9 v65na0_10 v65na0_11 v65na0_12 => zy_4 (fun bv65na0_8 bv65na0_9 bv65na0_10 hraw65_0 hB hz1 hk1 hS1 => zo2 hB ht hP hD hk1 (zp_F2 hD hS hA) hS1 (fun hP hK1 hD hS => ?_))))
          have hc65 : Ff_X3_advance a0_7.toInt v14na0_9.toInt v14na0_11.toInt v14na0_12.toInt (fl_A fa0_3) = (v65na0_8.toInt, v65na0_9.toInt, v65na0_10.toInt, v65na0_11.toInt, v65na0_12.toInt) := hraw65_0
          have hF0 := hF0.trans (fl_c5_eq hc65)
          refine lv_aload_n hx hb dX3_readFigure_68 rfl (lv_at hl 1 rfl) ?_
          refine va_ldcS hx hb hown (sxc_R13 hE0) dX3_readFigure_69 ?_
          refine va_calli (va_runV (As := [.ref (ad 13)]) (rest := []) ⟨hx, hb, hml, hown, hts⟩ (f_X3_isWord l dC dI H.size a0 (ad 13) a0g_0 (.int v31na0_1) (.int v31na0_2) (.ref a0_3) (.ref a0_4) (.ref a0_5) (.int v5na0_6) (.int a0_7) (.int v65na0_8) (.int v65na0_9) (.int v65na0_12) (.int a0_13) v65na0_10 v65na0_11 5 (sxc 13) bv65na0_10.1 bv65na0_10.2) (cwV 1 hts gX3_readFigure_X3_isWord rfl rfl rfl zd_X3_isWord ⟨Nat.le_of_ble_eq_true rfl, Nat.le_of_ble_eq_true rfl⟩) ⟨ax_blind (fun _ _ _ _ hq => sxc_W_same _ _ _ _ (hq)), zr_3 (zp_K hK) (zp_P1 hP) (q0 := 0) rfl, ax_preE (zp_P1 hP) (zp_K hK) (zp_D1 hD) (fun U hU hW => sxc_W_to (sxc_T_w hE0 (i := 13) (by decide)) hS.2.1 (zp_F1 hD hS hA) hU hW)⟩ rfl rfl hl.1 rfl (lv_room (Nat.le_of_ble_eq_true rfl)) dX3_readFigure_71 ⟨Nat.le_of_ble_eq_true rfl, Nat.le_of_ble_eq_true rfl⟩) hS (fun q _ h => zp_F1 hD hS hA q h) (zp_F1 hD hS hA) (fun r71 u t H locs ht hvm hw hB hz1 hk1 hS1 => zo1 hB ht hP hD hk1 (zp_F1 hD hS hA) hS1 (fun hP hK1 hD hS => ?_))
          obtain ⟨hw, hfr71⟩ := hw
          rw [show ((5 : Nat) : Int) = 5 from rfl] at hfr71
          have hc71 : Ff_X3_isWord v65na0_10.toInt v65na0_11.toInt 5 (fl_A (sxc 13)) = r71.toInt := hfr71.symm
          have hF0 := hF0.trans (fl_lt_eq hc71.symm)
          rcases hw with hw | hw
          · obtain ⟨hw, h71_0, h71_1⟩ := hw
            subst hw
            have l71k0_v65na0_10 : (1 : Int) ≤ v65na0_10.toInt := h71_0
            have u71k0_v65na0_10 : v65na0_10.toInt ≤ (1 : Int) := h71_1
            have hF0 := hF0.trans (if_pos (by decide))
            refine lv_if_eq (tgt := 81) hx hb dX3_readFigure_74 (by decide) (fun c74 => absurd c74 (by decide +kernel)) (fun _ => ?_)
            refine lv_iconst (v := 1) hx hb dX3_readFigure_77 zk_iconst_1 ?_
            refine lv_goto (tgt := 82) hx hb dX3_readFigure_78 (by decide) ?_
            refine lv_istore_n (lv' := [(2, .int 1), (1, .int v14na0_12), (0, .ref a0)]) hx hb dX3_readFigure_82 rfl hl (by decide) rfl (fun ls hl => ?_)
            refine lv_aload_n hx hb dX3_readFigure_83 rfl (lv_at hl 2 rfl) ?_
            refine lv_iload_n hx hb dX3_readFigure_84 rfl (lv_at hl 0 rfl) ?_
            refine lv_iconst (v := 1) hx hb dX3_readFigure_85 zk_iconst_1 ?_
            refine lv_icmp_ne (tgt := 94) hx hb dX3_readFigure_86 (by decide) (fun c86 => absurd (by decide +kernel) c86) (fun _ => ?_)
            refine va_ldcS hx hb hown (sxc_R13 hE0) dX3_readFigure_89 ?_
            refine lv_goto (tgt := 96) hx hb dX3_readFigure_91 (by decide) ?_
            refine lv_iconst (v := 1) hx hb dX3_readFigure_96 zk_iconst_1 ?_
            refine lv_bipush (v := 20) hx hb dX3_readFigure_97 zk_bipush_20 ?_
            have hKc := hK.sub (tys' := [(ka0_3, .byte)]) [0] rfl
            refine va_calli (va_runV (As := [.ref (ad 13), .int 1, .int 20]) (rest := []) ⟨hx, hb, hml, hown, hts⟩ (f_X3_takeWhole l dC dI H.size a0 (ad 13) 1 20 a0g_0 (.ref a0_4) (.ref a0_5) (.int v5na0_6) v31na0_1 v31na0_2 a0_3 a0_7 v65na0_8 v65na0_9 v65na0_10 v65na0_11 v65na0_12 a0_13 ka0_3 fa0_3 5 (sxc 13) ba0_7_l ba0_7_u bv65na0_8.1 bv65na0_8.2 bv65na0_9.1 bv65na0_9.2 (Int.le_trans zq4 l71k0_v65na0_10) (Int.le_trans u71k0_v65na0_10 zq137)) (cwV 3 hts gX3_readFigure_X3_takeWhole rfl rfl rfl zd_X3_takeWhole ⟨Nat.le_of_ble_eq_true rfl, Nat.le_of_ble_eq_true rfl⟩) ⟨ax_blind (fun _ _ _ _ hq => ⟨sxc_W_same _ _ _ _ (hq.1), va_Nw.same rfl rfl (hq.2)⟩), zr_3 hKc (zp_P2 hP) (q0 := 0) rfl, ax_preE (zp_P2 hP) hKc (zp_D2 hD) (fun U hU hW => ⟨sxc_W_to (sxc_T_w hE0 (i := 13) (by decide)) hS.2.1 (zp_F2 hD hS hA) hU hW, va_Nw.warmM hW hE1⟩)⟩ rfl rfl hl.1 rfl (lv_room (Nat.le_of_ble_eq_true rfl)) dX3_readFigure_99 ⟨Nat.le_of_ble_eq_true rfl, Nat.le_of_ble_eq_true rfl⟩) hS (fun q _ h => zp_F2 hD hS hA q h) (zp_F2 hD hS hA) (fun r99 v99na0_13 t H1 locs ht hvm hw => zx_7 (fun v99na0_1 v99na0_2 v99na0_8 v99na0_9 v99na0_10 v99na0_11 v99na0_12 => zy_4 (fun bv99na0_8 bv99na0_9 bv99na0_10 hraw99_0 hB hz1 hk1 hS1 => zo2 hB ht hP hD hk1 (zp_F2 hD hS hA) hS1 (fun hP hK1 hD hS => ?_))))
            generalize H1 = H at hP hS ⊢
            obtain ⟨hw, hfr99⟩ := hw
            rw [show (1 : Int32).toInt = 1 from by decide, show (20 : Int32).toInt = 20 from by decide, show ((5 : Nat) : Int) = 5 from rfl] at hfr99 hraw99_0
            have hc99 : Ff_X3_takeWhole 1 20 v31na0_1.toInt v31na0_2.toInt a0_7.toInt v65na0_8.toInt v65na0_9.toInt v65na0_10.toInt v65na0_11.toInt v65na0_12.toInt a0_13.toInt (fl_A fa0_3) 5 (fl_A (sxc 13)) = (r99.toInt, v99na0_1.toInt, v99na0_2.toInt, v99na0_8.toInt, v99na0_9.toInt, v99na0_10.toInt, v99na0_11.toInt, v99na0_12.toInt, v99na0_13.toInt) := Prod.ext hfr99.symm hraw99_0
            have hF0 := hF0.trans (fl_c9_eq hc99)
            rcases hw with hw | hw
            · obtain ⟨hw, h99⟩ := hw
              subst hw
              have l99k0_v99na0_13 : (1 : Int) ≤ v99na0_13.toInt := Int.le_trans zq1 h99.1
              have u99k0_v99na0_13 : v99na0_13.toInt ≤ (20 : Int) := Int.le_trans h99.2 zq156
              have hF0 := hF0.trans (if_pos (by decide))
              refine lv_if_ne (tgt := 107) hx hb dX3_readFigure_102 (by decide) (fun _ => ?_) (fun c102 => absurd c102 (by decide +kernel))
              refine lv_aload_n hx hb dX3_readFigure_107 rfl (lv_at hl 2 rfl) ?_
              refine va_get (D := (dC, dI)) (ci := 3) (v := .ref a0_5) (C := RX3) (T := TX3) (N := 14) hx hb hts zi_X3_readFigure_3 hown hK hP 0 rfl rfl 5 (by decide) (hts (.fieldLink RX3 22 "WaxTurns$Reade\x72" "draft" "LWaxTurns$Hall;") (zm_X3_readFigure_r1 (List.mem_of_getElem? (i := 0) rfl))) (fun _ h9 => h9) rfl dX3_readFigure_108 ?_
              refine lv_iload_n hx hb dX3_readFigure_111 rfl (lv_at hl 1 rfl) ?_
              refine lv_iload_n hx hb dX3_readFigure_112 rfl (lv_at hl 0 rfl) ?_
              refine lv_aload_n hx hb dX3_readFigure_113 rfl (lv_at hl 2 rfl) ?_
              refine va_get (D := (dC, dI)) (ci := 3) (v := .int v99na0_13) (C := RX3) (T := TX3) (N := 14) hx hb hts zi_X3_readFigure_3 hown hK hP 0 rfl rfl 13 (by decide) (hts (.fieldLink RX3 156 "WaxTurns$Reade\x72" "taken" "I") (zm_X3_readFigure_r1 (List.mem_of_getElem? (i := 4) rfl))) (fun _ h9 => h9) rfl dX3_readFigure_114 ?_
              refine zc_cutc (wc := [(a0_5, .inr (0, [.int a0_5_0, a0_5g_1, a0_5g_2, a0_5g_3, a0_5g_4, a0_5g_5, a0_5g_6, a0_5g_7, .int a0_5_8, a0_5g_9, .ref a0_5_10, .ref a0_5_11, a0_5g_12, a0_5g_13, a0_5g_14])), (a0_5_10, .inl (ka0_5_10, 9, .inl (fa0_5_10))), (a0_5_11, .inl (ka0_5_11, 9, .inl (fa0_5_11)))]) hP hD hS hA [3, 4, 5] (by decide +kernel) rfl (fun hPc hDc hFc hCc => ?_)
              have hKc := hK.sub (tys' := [(ka0_5_10, .int), (ka0_5_11, .int)]) [2, 3] rfl
              refine va_callv (va_runV (As := [.int v14na0_12, .int 1, .int v99na0_13]) (rest := []) ⟨hx, hb, hml, hown, hts⟩ (f_X0_addFigure l dC dI H.size a0_5 v14na0_12 1 v99na0_13 (.int a0_5_0) a0_5g_1 a0_5g_2 a0_5g_3 a0_5g_4 a0_5g_5 a0_5g_6 a0_5g_7 a0_5g_9 a0_5g_12 a0_5g_13 a0_5g_14 a0_5_8 a0_5_10 a0_5_11 ka0_5_10 fa0_5_10 ka0_5_11 fa0_5_11 ) (cwV 3 hts gX3_readFigure_X0_addFigure rfl rfl rfl zd_X0_addFigure ⟨Nat.le_of_ble_eq_true rfl, Nat.le_of_ble_eq_true rfl⟩) ⟨ax_blind (fun _ _ _ _ _ => trivial), zr_0 hKc hPc (q0 := 0) rfl, ax_pre hPc hKc hDc (fun _ _ => trivial)⟩ rfl rfl hl.1 rfl (lv_room (Nat.le_of_ble_eq_true rfl)) dX3_readFigure_117 ⟨Nat.le_of_ble_eq_true rfl, Nat.le_of_ble_eq_true rfl⟩) hS (fun q _ h => hFc q h) hFc (fun u t H locs ht hvm hw => zx_3 (fun v117na0_8 v117nfa0_10 v117nfa0_11 => zy_1 (fun hraw117_0 hB hz1 hk1 hS1 => zo hB ht hS1 (fun hP1 hK1 hD1 hS => ?_))))
              refine zc_backc (w := [(a0, .inr (3, [a0g_0, .int v99na0_1, .int v99na0_2, .ref a0_3, .ref a0_4, .ref a0_5, .int v5na0_6, .int a0_7, .int v99na0_8, .int v99na0_9, .int v99na0_10, .long v99na0_11, .int v99na0_12, .int v99na0_13])), (a0_3, .inl (ka0_3, 900, .inl (fa0_3))), (a0_4, .inl (ka0_4, 12, .inr (.inl (v5nfa0_4)))), (a0_5, .inr (0, [.int a0_5_0, a0_5g_1, a0_5g_2, a0_5g_3, a0_5g_4, a0_5g_5, a0_5g_6, a0_5g_7, .int v117na0_8, a0_5g_9, .ref a0_5_10, .ref a0_5_11, a0_5g_12, a0_5g_13, a0_5g_14])), (a0_5_10, .inl (ka0_5_10, 9, .inl (v117nfa0_10))), (a0_5_11, .inl (ka0_5_11, 9, .inl (v117nfa0_11)))]) hP hD hCc hk1 hFc hP1 hD1 [.inl 0, .inl 1, .inl 2, .inr 0, .inr 1, .inr 2] (by decide +kernel) rfl (fun hP hD => ?_)
              rw [show (1 : Int32).toInt = 1 from by decide] at hraw117_0
              have hc117 : Ff_X0_addFigure v14na0_12.toInt 1 v99na0_13.toInt a0_5_8.toInt (fl_A fa0_5_10) (fl_A fa0_5_11) = (v117na0_8.toInt, (fl_A v117nfa0_10), (fl_A v117nfa0_11)) := hraw117_0
              have hF0 := hF0.trans (fl_c3_eq hc117)
              refine lv_iconst (v := 1) hx hb dX3_readFigure_120 zk_iconst_1 ?_
              have hFe : FX = (1, v99na0_1.toInt, v99na0_2.toInt, v5na0_6.toInt, v99na0_8.toInt, v99na0_9.toInt, v99na0_10.toInt, v99na0_11.toInt, v99na0_12.toInt, v99na0_13.toInt, (fl_L v5nfa0_4), v117na0_8.toInt, (fl_A v117nfa0_10), (fl_A v117nfa0_11)) := hF0
              exact W.zret (v := 1) hx hb hr rfl (fun t ht hW => ⟨⟨1, (), rfl, ⟨(Or.inl (rfl)), (congrArg Prod.fst hFe).symm⟩, v99na0_1, v99na0_2, v5na0_6, v99na0_8, v99na0_9, v99na0_10, v99na0_11, v99na0_12, v99na0_13, v5nfa0_4, v117na0_8, v117nfa0_10, v117nfa0_11, ⟨bv5na0_6.1, bv5na0_6.2⟩, ⟨bv99na0_8.1, bv99na0_8.2⟩, ⟨bv99na0_9.1, bv99na0_9.2⟩, ⟨bv99na0_10.1, bv99na0_10.2⟩, (congrArg Prod.snd hFe), by rw [ht]; exact hP, va_K.moved hW.alike hK, hD⟩, hS.F ht⟩) hS.2.2 dX3_readFigure_121
            · subst hw
              have hF0 := hF0.trans (if_neg (by decide))
              refine lv_if_ne (tgt := 107) hx hb dX3_readFigure_102 (by decide) (fun c102 => absurd (by decide +kernel) c102) (fun _ => ?_)
              refine lv_iconst (v := 0) hx hb dX3_readFigure_105 zk_iconst_0 ?_
              have hFe : FX = (0, v99na0_1.toInt, v99na0_2.toInt, v5na0_6.toInt, v99na0_8.toInt, v99na0_9.toInt, v99na0_10.toInt, v99na0_11.toInt, v99na0_12.toInt, v99na0_13.toInt, (fl_L v5nfa0_4), a0_5_8.toInt, (fl_A fa0_5_10), (fl_A fa0_5_11)) := hF0
              exact W.zret (v := 0) hx hb hr rfl (fun t ht hW => ⟨⟨0, (), rfl, ⟨(Or.inr (rfl)), (congrArg Prod.fst hFe).symm⟩, v99na0_1, v99na0_2, v5na0_6, v99na0_8, v99na0_9, v99na0_10, v99na0_11, v99na0_12, v99na0_13, v5nfa0_4, a0_5_8, fa0_5_10, fa0_5_11, ⟨bv5na0_6.1, bv5na0_6.2⟩, ⟨bv99na0_8.1, bv99na0_8.2⟩, ⟨bv99na0_9.1, bv99na0_9.2⟩, ⟨bv99na0_10.1, bv99na0_10.2⟩, (congrArg Prod.snd hFe), by rw [ht]; exact hP, va_K.moved hW.alike hK, hD⟩, hS.F ht⟩) hS.2.2 dX3_readFigure_106
          · subst hw
            have hF0 := hF0.trans (if_neg (by decide))
            refine lv_if_eq (tgt := 81) hx hb dX3_readFigure_74 (by decide) (fun _ => ?_) (fun c74 => absurd (by decide +kernel) c74)
            refine lv_iconst (v := 2) hx hb dX3_readFigure_81 zk_iconst_2 ?_
            refine lv_istore_n (lv' := [(2, .int 2), (1, .int v14na0_12), (0, .ref a0)]) hx hb dX3_readFigure_82 rfl hl (by decide) rfl (fun ls hl => ?_)
            refine lv_aload_n hx hb dX3_readFigure_83 rfl (lv_at hl 2 rfl) ?_
            refine lv_iload_n hx hb dX3_readFigure_84 rfl (lv_at hl 0 rfl) ?_
            refine lv_iconst (v := 1) hx hb dX3_readFigure_85 zk_iconst_1 ?_
            refine lv_icmp_ne (tgt := 94) hx hb dX3_readFigure_86 (by decide) (fun _ => ?_) (fun c86 => absurd c86 (by decide +kernel))
            refine va_ldcS hx hb hown (sxc_R14 hE0) dX3_readFigure_94 ?_
            refine lv_iconst (v := 1) hx hb dX3_readFigure_96 zk_iconst_1 ?_
            refine lv_bipush (v := 20) hx hb dX3_readFigure_97 zk_bipush_20 ?_
            have hKc := hK.sub (tys' := [(ka0_3, .byte)]) [0] rfl
            refine va_calli (va_runV (As := [.ref (ad 14), .int 1, .int 20]) (rest := []) ⟨hx, hb, hml, hown, hts⟩ (f_X3_takeWhole l dC dI H.size a0 (ad 14) 1 20 a0g_0 (.ref a0_4) (.ref a0_5) (.int v5na0_6) v31na0_1 v31na0_2 a0_3 a0_7 v65na0_8 v65na0_9 v65na0_10 v65na0_11 v65na0_12 a0_13 ka0_3 fa0_3 6 (sxc 14) ba0_7_l ba0_7_u bv65na0_8.1 bv65na0_8.2 bv65na0_9.1 bv65na0_9.2 bv65na0_10.1 bv65na0_10.2) (cwV 3 hts gX3_readFigure_X3_takeWhole rfl rfl rfl zd_X3_takeWhole ⟨Nat.le_of_ble_eq_true rfl, Nat.le_of_ble_eq_true rfl⟩) ⟨ax_blind (fun _ _ _ _ hq => ⟨sxc_W_same _ _ _ _ (hq.1), va_Nw.same rfl rfl (hq.2)⟩), zr_3 hKc (zp_P2 hP) (q0 := 0) rfl, ax_preE (zp_P2 hP) hKc (zp_D2 hD) (fun U hU hW => ⟨sxc_W_to (sxc_T_w hE0 (i := 14) (by decide)) hS.2.1 (zp_F2 hD hS hA) hU hW, va_Nw.warmM hW hE1⟩)⟩ rfl rfl hl.1 rfl (lv_room (Nat.le_of_ble_eq_true rfl)) dX3_readFigure_99 ⟨Nat.le_of_ble_eq_true rfl, Nat.le_of_ble_eq_true rfl⟩) hS (fun q _ h => zp_F2 hD hS hA q h) (zp_F2 hD hS hA) (fun r99 v99na0_13 t H1 locs ht hvm hw => zx_7 (fun v99na0_1 v99na0_2 v99na0_8 v99na0_9 v99na0_10 v99na0_11 v99na0_12 => zy_4 (fun bv99na0_8 bv99na0_9 bv99na0_10 hraw99_0 hB hz1 hk1 hS1 => zo2 hB ht hP hD hk1 (zp_F2 hD hS hA) hS1 (fun hP hK1 hD hS => ?_))))
            generalize H1 = H at hP hS ⊢
            obtain ⟨hw, hfr99⟩ := hw
            rw [show (1 : Int32).toInt = 1 from by decide, show (20 : Int32).toInt = 20 from by decide, show ((6 : Nat) : Int) = 6 from rfl] at hfr99 hraw99_0
            have hc99 : Ff_X3_takeWhole 1 20 v31na0_1.toInt v31na0_2.toInt a0_7.toInt v65na0_8.toInt v65na0_9.toInt v65na0_10.toInt v65na0_11.toInt v65na0_12.toInt a0_13.toInt (fl_A fa0_3) 6 (fl_A (sxc 14)) = (r99.toInt, v99na0_1.toInt, v99na0_2.toInt, v99na0_8.toInt, v99na0_9.toInt, v99na0_10.toInt, v99na0_11.toInt, v99na0_12.toInt, v99na0_13.toInt) := Prod.ext hfr99.symm hraw99_0
            have hF0 := hF0.trans (fl_c9_eq hc99)
            rcases hw with hw | hw
            · obtain ⟨hw, h99⟩ := hw
              subst hw
              have l99k0_v99na0_13 : (1 : Int) ≤ v99na0_13.toInt := Int.le_trans zq1 h99.1
              have u99k0_v99na0_13 : v99na0_13.toInt ≤ (20 : Int) := Int.le_trans h99.2 zq156
              have hF0 := hF0.trans (if_pos (by decide))
              refine lv_if_ne (tgt := 107) hx hb dX3_readFigure_102 (by decide) (fun _ => ?_) (fun c102 => absurd c102 (by decide +kernel))
              refine lv_aload_n hx hb dX3_readFigure_107 rfl (lv_at hl 2 rfl) ?_
              refine va_get (D := (dC, dI)) (ci := 3) (v := .ref a0_5) (C := RX3) (T := TX3) (N := 14) hx hb hts zi_X3_readFigure_3 hown hK hP 0 rfl rfl 5 (by decide) (hts (.fieldLink RX3 22 "WaxTurns$Reade\x72" "draft" "LWaxTurns$Hall;") (zm_X3_readFigure_r1 (List.mem_of_getElem? (i := 0) rfl))) (fun _ h9 => h9) rfl dX3_readFigure_108 ?_
              refine lv_iload_n hx hb dX3_readFigure_111 rfl (lv_at hl 1 rfl) ?_
              refine lv_iload_n hx hb dX3_readFigure_112 rfl (lv_at hl 0 rfl) ?_
              refine lv_aload_n hx hb dX3_readFigure_113 rfl (lv_at hl 2 rfl) ?_
              refine va_get (D := (dC, dI)) (ci := 3) (v := .int v99na0_13) (C := RX3) (T := TX3) (N := 14) hx hb hts zi_X3_readFigure_3 hown hK hP 0 rfl rfl 13 (by decide) (hts (.fieldLink RX3 156 "WaxTurns$Reade\x72" "taken" "I") (zm_X3_readFigure_r1 (List.mem_of_getElem? (i := 4) rfl))) (fun _ h9 => h9) rfl dX3_readFigure_114 ?_
              refine zc_cutc (wc := [(a0_5, .inr (0, [.int a0_5_0, a0_5g_1, a0_5g_2, a0_5g_3, a0_5g_4, a0_5g_5, a0_5g_6, a0_5g_7, .int a0_5_8, a0_5g_9, .ref a0_5_10, .ref a0_5_11, a0_5g_12, a0_5g_13, a0_5g_14])), (a0_5_10, .inl (ka0_5_10, 9, .inl (fa0_5_10))), (a0_5_11, .inl (ka0_5_11, 9, .inl (fa0_5_11)))]) hP hD hS hA [3, 4, 5] (by decide +kernel) rfl (fun hPc hDc hFc hCc => ?_)
              have hKc := hK.sub (tys' := [(ka0_5_10, .int), (ka0_5_11, .int)]) [2, 3] rfl
              refine va_callv (va_runV (As := [.int v14na0_12, .int 2, .int v99na0_13]) (rest := []) ⟨hx, hb, hml, hown, hts⟩ (f_X0_addFigure l dC dI H.size a0_5 v14na0_12 2 v99na0_13 (.int a0_5_0) a0_5g_1 a0_5g_2 a0_5g_3 a0_5g_4 a0_5g_5 a0_5g_6 a0_5g_7 a0_5g_9 a0_5g_12 a0_5g_13 a0_5g_14 a0_5_8 a0_5_10 a0_5_11 ka0_5_10 fa0_5_10 ka0_5_11 fa0_5_11 ) (cwV 3 hts gX3_readFigure_X0_addFigure rfl rfl rfl zd_X0_addFigure ⟨Nat.le_of_ble_eq_true rfl, Nat.le_of_ble_eq_true rfl⟩) ⟨ax_blind (fun _ _ _ _ _ => trivial), zr_0 hKc hPc (q0 := 0) rfl, ax_pre hPc hKc hDc (fun _ _ => trivial)⟩ rfl rfl hl.1 rfl (lv_room (Nat.le_of_ble_eq_true rfl)) dX3_readFigure_117 ⟨Nat.le_of_ble_eq_true rfl, Nat.le_of_ble_eq_true rfl⟩) hS (fun q _ h => hFc q h) hFc (fun u t H locs ht hvm hw => zx_3 (fun v117na0_8 v117nfa0_10 v117nfa0_11 => zy_1 (fun hraw117_0 hB hz1 hk1 hS1 => zo hB ht hS1 (fun hP1 hK1 hD1 hS => ?_))))
              refine zc_backc (w := [(a0, .inr (3, [a0g_0, .int v99na0_1, .int v99na0_2, .ref a0_3, .ref a0_4, .ref a0_5, .int v5na0_6, .int a0_7, .int v99na0_8, .int v99na0_9, .int v99na0_10, .long v99na0_11, .int v99na0_12, .int v99na0_13])), (a0_3, .inl (ka0_3, 900, .inl (fa0_3))), (a0_4, .inl (ka0_4, 12, .inr (.inl (v5nfa0_4)))), (a0_5, .inr (0, [.int a0_5_0, a0_5g_1, a0_5g_2, a0_5g_3, a0_5g_4, a0_5g_5, a0_5g_6, a0_5g_7, .int v117na0_8, a0_5g_9, .ref a0_5_10, .ref a0_5_11, a0_5g_12, a0_5g_13, a0_5g_14])), (a0_5_10, .inl (ka0_5_10, 9, .inl (v117nfa0_10))), (a0_5_11, .inl (ka0_5_11, 9, .inl (v117nfa0_11)))]) hP hD hCc hk1 hFc hP1 hD1 [.inl 0, .inl 1, .inl 2, .inr 0, .inr 1, .inr 2] (by decide +kernel) rfl (fun hP hD => ?_)
              rw [show (2 : Int32).toInt = 2 from by decide] at hraw117_0
              have hc117 : Ff_X0_addFigure v14na0_12.toInt 2 v99na0_13.toInt a0_5_8.toInt (fl_A fa0_5_10) (fl_A fa0_5_11) = (v117na0_8.toInt, (fl_A v117nfa0_10), (fl_A v117nfa0_11)) := hraw117_0
              have hF0 := hF0.trans (fl_c3_eq hc117)
              refine lv_iconst (v := 1) hx hb dX3_readFigure_120 zk_iconst_1 ?_
              have hFe : FX = (1, v99na0_1.toInt, v99na0_2.toInt, v5na0_6.toInt, v99na0_8.toInt, v99na0_9.toInt, v99na0_10.toInt, v99na0_11.toInt, v99na0_12.toInt, v99na0_13.toInt, (fl_L v5nfa0_4), v117na0_8.toInt, (fl_A v117nfa0_10), (fl_A v117nfa0_11)) := hF0
              exact W.zret (v := 1) hx hb hr rfl (fun t ht hW => ⟨⟨1, (), rfl, ⟨(Or.inl (rfl)), (congrArg Prod.fst hFe).symm⟩, v99na0_1, v99na0_2, v5na0_6, v99na0_8, v99na0_9, v99na0_10, v99na0_11, v99na0_12, v99na0_13, v5nfa0_4, v117na0_8, v117nfa0_10, v117nfa0_11, ⟨bv5na0_6.1, bv5na0_6.2⟩, ⟨bv99na0_8.1, bv99na0_8.2⟩, ⟨bv99na0_9.1, bv99na0_9.2⟩, ⟨bv99na0_10.1, bv99na0_10.2⟩, (congrArg Prod.snd hFe), by rw [ht]; exact hP, va_K.moved hW.alike hK, hD⟩, hS.F ht⟩) hS.2.2 dX3_readFigure_121
            · subst hw
              have hF0 := hF0.trans (if_neg (by decide))
              refine lv_if_ne (tgt := 107) hx hb dX3_readFigure_102 (by decide) (fun c102 => absurd (by decide +kernel) c102) (fun _ => ?_)
              refine lv_iconst (v := 0) hx hb dX3_readFigure_105 zk_iconst_0 ?_
              have hFe : FX = (0, v99na0_1.toInt, v99na0_2.toInt, v5na0_6.toInt, v99na0_8.toInt, v99na0_9.toInt, v99na0_10.toInt, v99na0_11.toInt, v99na0_12.toInt, v99na0_13.toInt, (fl_L v5nfa0_4), a0_5_8.toInt, (fl_A fa0_5_10), (fl_A fa0_5_11)) := hF0
              exact W.zret (v := 0) hx hb hr rfl (fun t ht hW => ⟨⟨0, (), rfl, ⟨(Or.inr (rfl)), (congrArg Prod.fst hFe).symm⟩, v99na0_1, v99na0_2, v5na0_6, v99na0_8, v99na0_9, v99na0_10, v99na0_11, v99na0_12, v99na0_13, v5nfa0_4, a0_5_8, fa0_5_10, fa0_5_11, ⟨bv5na0_6.1, bv5na0_6.2⟩, ⟨bv99na0_8.1, bv99na0_8.2⟩, ⟨bv99na0_9.1, bv99na0_9.2⟩, ⟨bv99na0_10.1, bv99na0_10.2⟩, (congrArg Prod.snd hFe), by rw [ht]; exact hP, va_K.moved hW.alike hK, hD⟩, hS.F ht⟩) hS.2.2 dX3_readFigure_106
      · subst hw
        have hF0 := hF0.trans (if_neg (by decide))
        refine lv_if_ne (tgt := 39) hx hb dX3_readFigure_34 (by decide) (fun c34 => absurd (by decide +kernel) c34) (fun _ => ?_)
        refine lv_iconst (v := 0) hx hb dX3_readFigure_37 zk_iconst_0 ?_
        have hFe : FX = (0, v31na0_1.toInt, v31na0_2.toInt, v5na0_6.toInt, v14na0_8.toInt, v14na0_9.toInt, v14na0_10.toInt, v14na0_11.toInt, v14na0_12.toInt, a0_13.toInt, (fl_L v5nfa0_4), a0_5_8.toInt, (fl_A fa0_5_10), (fl_A fa0_5_11)) := hF0
        exact W.zret (v := 0) hx hb hr rfl (fun t ht hW => ⟨⟨0, (), rfl, ⟨(Or.inr (rfl)), (congrArg Prod.fst hFe).symm⟩, v31na0_1, v31na0_2, v5na0_6, v14na0_8, v14na0_9, v14na0_10, v14na0_11, v14na0_12, a0_13, v5nfa0_4, a0_5_8, fa0_5_10, fa0_5_11, ⟨bv5na0_6.1, bv5na0_6.2⟩, ⟨bv14na0_8.1, bv14na0_8.2⟩, ⟨bv14na0_9.1, bv14na0_9.2⟩, ⟨bv14na0_10.1, bv14na0_10.2⟩, (congrArg Prod.snd hFe), by rw [ht]; exact hP, va_K.moved hW.alike hK, hD⟩, hS.F ht⟩) hS.2.2 dX3_readFigure_38
    · subst hw
      have hF0 := hF0.trans (if_neg (by decide))
      refine lv_if_eq (tgt := 37) hx hb dX3_readFigure_17 (by decide) (fun _ => ?_) (fun c17 => absurd (by decide +kernel) c17)
      refine lv_iconst (v := 0) hx hb dX3_readFigure_37 zk_iconst_0 ?_
      have hFe : FX = (0, v14na0_1.toInt, v14na0_2.toInt, v5na0_6.toInt, v14na0_8.toInt, v14na0_9.toInt, v14na0_10.toInt, v14na0_11.toInt, v14na0_12.toInt, a0_13.toInt, (fl_L v5nfa0_4), a0_5_8.toInt, (fl_A fa0_5_10), (fl_A fa0_5_11)) := hF0
      exact W.zret (v := 0) hx hb hr rfl (fun t ht hW => ⟨⟨0, (), rfl, ⟨(Or.inr (rfl)), (congrArg Prod.fst hFe).symm⟩, v14na0_1, v14na0_2, v5na0_6, v14na0_8, v14na0_9, v14na0_10, v14na0_11, v14na0_12, a0_13, v5nfa0_4, a0_5_8, fa0_5_10, fa0_5_11, ⟨bv5na0_6.1, bv5na0_6.2⟩, ⟨bv14na0_8.1, bv14na0_8.2⟩, ⟨bv14na0_9.1, bv14na0_9.2⟩, ⟨bv14na0_10.1, bv14na0_10.2⟩, (congrArg Prod.snd hFe), by rw [ht]; exact hP, va_K.moved hW.alike hK, hD⟩, hS.F ht⟩) hS.2.2 dX3_readFigure_38
  · subst hw
    have hF0 := hF0.trans (if_neg (by decide))
    refine lv_if_eq (tgt := 37) hx hb dX3_readFigure_8 (by decide) (fun _ => ?_) (fun c8 => absurd (by decide +kernel) c8)
    refine lv_iconst (v := 0) hx hb dX3_readFigure_37 zk_iconst_0 ?_
    have hFe : FX = (0, v5na0_1.toInt, v5na0_2.toInt, v5na0_6.toInt, v5na0_8.toInt, v5na0_9.toInt, v5na0_10.toInt, v5na0_11.toInt, v5na0_12.toInt, a0_13.toInt, (fl_L v5nfa0_4), a0_5_8.toInt, (fl_A fa0_5_10), (fl_A fa0_5_11)) := hF0
    exact W.zret (v := 0) hx hb hr rfl (fun t ht hW => ⟨⟨0, (), rfl, ⟨(Or.inr (rfl)), (congrArg Prod.fst hFe).symm⟩, v5na0_1, v5na0_2, v5na0_6, v5na0_8, v5na0_9, v5na0_10, v5na0_11, v5na0_12, a0_13, v5nfa0_4, a0_5_8, fa0_5_10, fa0_5_11, ⟨bv5na0_6.1, bv5na0_6.2⟩, ⟨bv5na0_8.1, bv5na0_8.2⟩, ⟨bv5na0_9.1, bv5na0_9.2⟩, ⟨bv5na0_10.1, bv5na0_10.2⟩, (congrArg Prod.snd hFe), by rw [ht]; exact hP, va_K.moved hW.alike hK, hD⟩, hS.F ht⟩) hS.2.2 dX3_readFigure_38
end P311_02_f
section P311_03_f
set_option maxHeartbeats 4000000 in
set_option maxRecDepth 100000 in
theorem f_X3_readWatcher (l : Launch) (dC : Nat → ClassId) (dI : Nat → Nat → Nat) (sz : Nat) (a0 : Nat) (a0g_0 : Value) (a0_1 : Int32) (a0_2 : Int32) (a0_3 : Nat) (a0_4 : Nat) (a0_5 : Nat) (a0_6 : Int32) (a0_7 : Int32) (a0_8 : Int32) (a0_9 : Int32) (a0_10 : Int32) (a0_11 : Int64) (a0_12 : Int32) (a0_13 : Int32) (ka0_3 : ClassId) (fa0_3 : Nat → Int32) (ka0_4 : ClassId) (fa0_4 : Nat → Int64) (a0_5_0 : Int32) (a0_5g_1 a0_5g_2 a0_5g_3 a0_5g_4 a0_5g_5 a0_5g_6 a0_5g_7 a0_5g_8 a0_5g_9 a0_5g_10 a0_5g_11 a0_5g_12 a0_5g_13 : Value) (a0_5_14 : Nat) (a0_5_14_0 : Int32) (a0_5_14g_1 : Value) (a0_5_14_2 : Nat) (a0_5_14_3 : Nat) (ka0_5_14_2 : ClassId) (fa0_5_14_2 : Nat → Int32) (ka0_5_14_3 : ClassId) (fa0_5_14_3 : Nat → Int32) (ad : Nat → Nat) (ba0_6_l : (0 : Int) ≤ a0_6.toInt) (ba0_6_u : a0_6.toInt ≤ (12 : Int)) (ba0_7_l : (0 : Int) ≤ a0_7.toInt) (ba0_7_u : a0_7.toInt ≤ (900 : Int)) (ba0_8_l : (0 : Int) ≤ a0_8.toInt) (ba0_8_u : a0_8.toInt ≤ (900 : Int)) (ba0_9_l : (0 : Int) ≤ a0_9.toInt) (ba0_9_u : a0_9.toInt ≤ (900 : Int)) (ba0_10_l : (0 : Int) ≤ a0_10.toInt) (ba0_10_u : a0_10.toInt ≤ (4 : Int)) (ba0_5_0_l : (0 : Int) ≤ a0_5_0.toInt) (ba0_5_0_u : a0_5_0.toInt ≤ (9 : Int)) (ba0_5_14_0_l : (0 : Int) ≤ a0_5_14_0.toInt) (ba0_5_14_0_u : a0_5_14_0.toInt ≤ (3 : Int)) (bfa0_5_14_2 : (∀ k, (0 : Int) ≤ (fa0_5_14_2 k).toInt ∧ (fa0_5_14_2 k).toInt ≤ 80)) (bfa0_5_14_3 : (∀ k, (0 : Int) ≤ (fa0_5_14_3 k).toInt ∧ (fa0_5_14_3 k).toInt ≤ 80)) : zm l yX3_readWatcher wsX3_readWatcher ({ frames := 6, cells := 0, slots := 0, locals := 132 }) [.ref a0] dC dI sz [(a0, .inr (3, [a0g_0, .int a0_1, .int a0_2, .ref a0_3, .ref a0_4, .ref a0_5, .int a0_6, .int a0_7, .int a0_8, .int a0_9, .int a0_10, .long a0_11, .int a0_12, .int a0_13])), (a0_3, .inl (ka0_3, 900, .inl (fa0_3))), (a0_4, .inl (ka0_4, 12, .inr (.inl (fa0_4)))), (a0_5, .inr (0, [.int a0_5_0, a0_5g_1, a0_5g_2, a0_5g_3, a0_5g_4, a0_5g_5, a0_5g_6, a0_5g_7, a0_5g_8, a0_5g_9, a0_5g_10, a0_5g_11, a0_5g_12, a0_5g_13, .ref a0_5_14])), (a0_5_14, .inr (6, [.int a0_5_14_0, a0_5_14g_1, .ref a0_5_14_2, .ref a0_5_14_3])), (a0_5_14_2, .inl (ka0_5_14_2, 3, .inl (fa0_5_14_2))), (a0_5_14_3, .inl (ka0_5_14_3, 3, .inl (fa0_5_14_3)))] [(ka0_3, .byte), (ka0_4, .long), (ka0_5_14_2, .int), (ka0_5_14_3, .int)] (fun A U => sxc_T ad A U ∧ va_Nw (.methodLinkNest RX3 223 yX7_within RX7) U) (fun A => va_Qi (fun (r : Int32) (_ : Unit) => ((r = 1) ∨ (r = 0)) ∧ r.toInt = (Ff_X3_readWatcher a0_1.toInt a0_2.toInt a0_6.toInt a0_7.toInt a0_9.toInt a0_11.toInt a0_12.toInt a0_13.toInt (fl_A fa0_3) (fl_L fa0_4) a0_5_0.toInt a0_5_14_0.toInt (fl_A fa0_5_14_2) (fl_A fa0_5_14_3)).1) (fun (_ : Unit) (t : State) => ∃ na0_1 : Int32, ∃ na0_2 : Int32, ∃ na0_6 : Int32, ∃ na0_8 : Int32, ∃ na0_9 : Int32, ∃ na0_10 : Int32, ∃ na0_11 : Int64, ∃ na0_12 : Int32, ∃ na0_13 : Int32, ∃ nfa0_4 : Nat → Int64, ∃ na0_5_14_0 : Int32, ∃ nfa0_5_14_2 : Nat → Int32, ∃ nfa0_5_14_3 : Nat → Int32, ((0 : Int) ≤ na0_6.toInt ∧ na0_6.toInt ≤ 12) ∧ ((0 : Int) ≤ na0_8.toInt ∧ na0_8.toInt ≤ 900) ∧ ((0 : Int) ≤ na0_9.toInt ∧ na0_9.toInt ≤ 900) ∧ ((0 : Int) ≤ na0_10.toInt ∧ na0_10.toInt ≤ 4) ∧ ((0 : Int) ≤ na0_5_14_0.toInt ∧ na0_5_14_0.toInt ≤ 3) ∧ (∀ k, (0 : Int) ≤ (nfa0_5_14_2 k).toInt ∧ (nfa0_5_14_2 k).toInt ≤ 80) ∧ (∀ k, (0 : Int) ≤ (nfa0_5_14_3 k).toInt ∧ (nfa0_5_14_3 k).toInt ≤ 80) ∧ ((Ff_X3_readWatcher a0_1.toInt a0_2.toInt a0_6.toInt a0_7.toInt a0_9.toInt a0_11.toInt a0_12.toInt a0_13.toInt (fl_A fa0_3) (fl_L fa0_4) a0_5_0.toInt a0_5_14_0.toInt (fl_A fa0_5_14_2) (fl_A fa0_5_14_3)).2 = (na0_1.toInt, na0_2.toInt, na0_6.toInt, na0_8.toInt, na0_9.toInt, na0_10.toInt, na0_11.toInt, na0_12.toInt, na0_13.toInt, (fl_L nfa0_4), na0_5_14_0.toInt, (fl_A nfa0_5_14_2), (fl_A nfa0_5_14_3))) ∧ ax_B dC dI A [(a0, .inr (3, [a0g_0, .int na0_1, .int na0_2, .ref a0_3, .ref a0_4, .ref a0_5, .int na0_6, .int a0_7, .int na0_8, .int na0_9, .int na0_10, .long na0_11, .int na0_12, .int na0_13])), (a0_3, .inl (ka0_3, 900, .inl (fa0_3))), (a0_4, .inl (ka0_4, 12, .inr (.inl (nfa0_4)))), (a0_5, .inr (0, [.int a0_5_0, a0_5g_1, a0_5g_2, a0_5g_3, a0_5g_4, a0_5g_5, a0_5g_6, a0_5g_7, a0_5g_8, a0_5g_9, a0_5g_10, a0_5g_11, a0_5g_12, a0_5g_13, .ref a0_5_14])), (a0_5_14, .inr (6, [.int na0_5_14_0, a0_5_14g_1, .ref a0_5_14_2, .ref a0_5_14_3])), (a0_5_14_2, .inl (ka0_5_14_2, 3, .inl (nfa0_5_14_2))), (a0_5_14_3, .inl (ka0_5_14_3, 3, .inl (nfa0_5_14_3)))] [(ka0_3, .byte), (ka0_4, .long), (ka0_5_14_2, .int), (ka0_5_14_3, .int)] t) A) := by
  refine zh (cc := cX3_readWatcher) (maxL := 2) (ret := (some .boolean)) zn_RX3 rfl (Nat.le_of_ble_eq_true rfl) (fun p e s m below meth c A ls hx hb hml hr hts (hown : s.vm.findClass RX3 = some m.cls) hlocks hA hS hP hK hD hE (hl : lv_has ls 2 [(0, .ref a0)]) => ?_)
  obtain ⟨hE0, hE1⟩ := hE
  generalize hFX : Ff_X3_readWatcher a0_1.toInt a0_2.toInt a0_6.toInt a0_7.toInt a0_9.toInt a0_11.toInt a0_12.toInt a0_13.toInt (fl_A fa0_3) (fl_L fa0_4) a0_5_0.toInt a0_5_14_0.toInt (fl_A fa0_5_14_2) (fl_A fa0_5_14_3) = FX at ⊢
  have hF0 := hFX.symm.trans (Ff_X3_readWatcher.eq_1 a0_1.toInt a0_2.toInt a0_6.toInt a0_7.toInt a0_9.toInt a0_11.toInt a0_12.toInt a0_13.toInt (fl_A fa0_3) (fl_L fa0_4) a0_5_0.toInt a0_5_14_0.toInt (fl_A fa0_5_14_2) (fl_A fa0_5_14_3))
  refine lv_aload_n hx hb dX3_readWatcher_0 rfl (lv_at hl 0 rfl) ?_
  have hKc := hK.sub (tys' := [(ka0_3, .byte)]) [0] rfl
  refine va_callv (va_runV (As := []) (rest := []) ⟨hx, hb, hml, hown, hts⟩ (f_X3_advance l dC dI s.heap.size a0 a0g_0 (.int a0_1) (.int a0_2) (.ref a0_4) (.ref a0_5) (.int a0_6) (.int a0_13) a0_3 a0_7 a0_8 a0_9 a0_10 a0_11 a0_12 ka0_3 fa0_3 ba0_7_l ba0_7_u ba0_8_l ba0_8_u ba0_9_l ba0_9_u ba0_10_l ba0_10_u) (cwV 0 hts gX3_readWatcher_X3_advance rfl rfl rfl zd_X3_advance ⟨Nat.le_of_ble_eq_true rfl, Nat.le_of_ble_eq_true rfl⟩) ⟨ax_blind (fun _ _ _ _ _ => trivial), zr_3 hKc (zp_P2 hP) (q0 := 0) rfl, ax_pre (zp_P2 hP) hKc (zp_D2 hD) (fun _ _ => trivial)⟩ rfl rfl hl.1 rfl (lv_room (Nat.le_of_ble_eq_true rfl)) dX3_readWatcher_1 ⟨Nat.le_of_ble_eq_true rfl, Nat.le_of_ble_eq_true rfl⟩) hS (fun q _ h => zp_F2 hD hS hA q h) (zp_F2 hD hS hA) (fun u t H locs ht hvm hw => zx_5 (fun v1na0_8 v1na0_9 v1na0_10 v1na0_11 v1na0_12 => zy_4 (fun bv1na0_8 bv1na0_9 bv1na0_10 hraw1_0 hB hz1 hk1 hS1 => zo2 hB ht hP hD hk1 (zp_F2 hD hS hA) hS1 (fun hP hK1 hD hS => ?_))))
  have hc1 : Ff_X3_advance a0_7.toInt a0_9.toInt a0_11.toInt a0_12.toInt (fl_A fa0_3) = (v1na0_8.toInt, v1na0_9.toInt, v1na0_10.toInt, v1na0_11.toInt, v1na0_12.toInt) := hraw1_0
  have hF0 := hF0.trans (fl_c5_eq hc1)
  refine lv_aload_n hx hb dX3_readWatcher_4 rfl (lv_at hl 0 rfl) ?_
  refine zc_cutc (wc := [(a0, .inr (3, [a0g_0, .int a0_1, .int a0_2, .ref a0_3, .ref a0_4, .ref a0_5, .int a0_6, .int a0_7, .int v1na0_8, .int v1na0_9, .int v1na0_10, .long v1na0_11, .int v1na0_12, .int a0_13])), (a0_4, .inl (ka0_4, 12, .inr (.inl (fa0_4)))), (a0_3, .inl (ka0_3, 900, .inl (fa0_3)))]) hP hD hS hA [0, 2, 1] (by decide +kernel) rfl (fun hPc hDc hFc hCc => ?_)
  have hKc := hK.sub (tys' := [(ka0_4, .long), (ka0_3, .byte)]) [1, 0] rfl
  refine va_calli (va_runV (As := []) (rest := []) ⟨hx, hb, hml, hown, hts⟩ (f_X3_takeName l dC dI H.size a0 a0g_0 (.ref a0_5) (.int a0_13) a0_1 a0_2 a0_3 a0_4 a0_6 a0_7 v1na0_8 v1na0_9 v1na0_10 v1na0_11 v1na0_12 ka0_4 fa0_4 ka0_3 fa0_3 ad ba0_6_l ba0_6_u ba0_7_l ba0_7_u bv1na0_8.1 bv1na0_8.2 bv1na0_9.1 bv1na0_9.2 bv1na0_10.1 bv1na0_10.2) (cwV 0 hts gX3_readWatcher_X3_takeName rfl rfl rfl zd_X3_takeName ⟨Nat.le_of_ble_eq_true rfl, Nat.le_of_ble_eq_true rfl⟩) ⟨ax_blind (fun _ _ _ _ hq => sxc_T_same _ _ _ _ (hq)), zr_3 hKc hPc (q0 := 0) rfl, ax_preE hPc hKc hDc (fun U hU hW => sxc_T_to hE0 hS.2.1 hFc hU hW)⟩ rfl rfl hl.1 rfl (lv_room (Nat.le_of_ble_eq_true rfl)) dX3_readWatcher_5 ⟨Nat.le_of_ble_eq_true rfl, Nat.le_of_ble_eq_true rfl⟩) hS (fun q _ h => hFc q h) hFc (fun r5 u t H locs ht hvm hw => zx_9 (fun v5na0_1 v5na0_2 v5na0_6 v5na0_8 v5na0_9 v5na0_10 v5na0_11 v5na0_12 v5nfa0_4 => zy_5 (fun bv5na0_6 bv5na0_8 bv5na0_9 bv5na0_10 hraw5_0 hB hz1 hk1 hS1 => zo hB ht hS1 (fun hP1 hK1 hD1 hS => ?_))))
  refine zc_backc (w := [(a0, .inr (3, [a0g_0, .int v5na0_1, .int v5na0_2, .ref a0_3, .ref a0_4, .ref a0_5, .int v5na0_6, .int a0_7, .int v5na0_8, .int v5na0_9, .int v5na0_10, .long v5na0_11, .int v5na0_12, .int a0_13])), (a0_3, .inl (ka0_3, 900, .inl (fa0_3))), (a0_4, .inl (ka0_4, 12, .inr (.inl (v5nfa0_4)))), (a0_5, .inr (0, [.int a0_5_0, a0_5g_1, a0_5g_2, a0_5g_3, a0_5g_4, a0_5g_5, a0_5g_6, a0_5g_7, a0_5g_8, a0_5g_9, a0_5g_10, a0_5g_11, a0_5g_12, a0_5g_13, .ref a0_5_14])), (a0_5_14, .inr (6, [.int a0_5_14_0, a0_5_14g_1, .ref a0_5_14_2, .ref a0_5_14_3])), (a0_5_14_2, .inl (ka0_5_14_2, 3, .inl (fa0_5_14_2))), (a0_5_14_3, .inl (ka0_5_14_3, 3, .inl (fa0_5_14_3)))]) hP hD hCc hk1 hFc hP1 hD1 [.inr 0, .inr 2, .inr 1, .inl 3, .inl 4, .inl 5, .inl 6] (by decide +kernel) rfl (fun hP hD => ?_)
  obtain ⟨hw, hfr5⟩ := hw
  have hc5 : Ff_X3_takeName a0_1.toInt a0_2.toInt a0_6.toInt a0_7.toInt v1na0_8.toInt v1na0_9.toInt v1na0_10.toInt v1na0_11.toInt v1na0_12.toInt (fl_L fa0_4) (fl_A fa0_3) = (r5.toInt, v5na0_1.toInt, v5na0_2.toInt, v5na0_6.toInt, v5na0_8.toInt, v5na0_9.toInt, v5na0_10.toInt, v5na0_11.toInt, v5na0_12.toInt, (fl_L v5nfa0_4)) := Prod.ext hfr5.symm hraw5_0
  have hF0 := hF0.trans (fl_c10_eq hc5)
  rcases hw with hw | hw
  · subst hw
    have hF0 := hF0.trans (if_pos (by decide))
    refine lv_if_eq (tgt := 30) hx hb dX3_readWatcher_8 (by decide) (fun c8 => absurd c8 (by decide +kernel)) (fun _ => ?_)
    refine lv_aload_n hx hb dX3_readWatcher_11 rfl (lv_at hl 0 rfl) ?_
    refine va_ldcS hx hb hown (sxc_R15 hE0) dX3_readWatcher_12 ?_
    refine lv_iconst (v := 0) hx hb dX3_readWatcher_14 zk_iconst_0 ?_
    refine lv_aload_n hx hb dX3_readWatcher_15 rfl (lv_at hl 0 rfl) ?_
    refine va_get (D := (dC, dI)) (ci := 3) (v := .ref a0_5) (C := RX3) (T := TX3) (N := 14) hx hb hts zi_X3_readWatcher_3 hown hK hP 0 rfl rfl 5 (by decide) (hts (.fieldLink RX3 22 "WaxTurns$Reade\x72" "draft" "LWaxTurns$Hall;") (zm_X3_readWatcher_r1 (List.mem_of_getElem? (i := 0) rfl))) (fun _ h9 => h9) rfl dX3_readWatcher_16 ?_
    refine va_get (D := (dC, dI)) (ci := 0) (v := .int a0_5_0) (C := RX0) (T := TX0) (N := 15) hx hb hts zi_X3_readWatcher_0 hown hK hP 3 rfl rfl 0 (by decide) (hts (.fieldLink RX3 104 "WaxTurns$Hall" "figures" "I") (zm_X3_readWatcher_r1 (List.mem_of_getElem? (i := 1) rfl))) (fun _ h9 => h9) rfl dX3_readWatcher_19 ?_
    refine lv_iconst (v := 1) hx hb dX3_readWatcher_22 zk_iconst_1 ?_
    refine lv_isub hx hb dX3_readWatcher_23 ?_
    refine lv_topi (fun x23 ex23 => ?_)
    have qx23 : x23.toInt = a0_5_0.toInt - (1 : Int32).toInt := ai_sub ex23 ⟨ba0_5_0_l, ba0_5_0_u⟩ ⟨zq1, zq0⟩ (by decide) (by decide)
    have bx23 : (-1 : Int) ≤ x23.toInt ∧ x23.toInt ≤ 8 := ⟨by rw [qx23]; exact Int.sub_le_sub ba0_5_0_l zq0, by rw [qx23]; exact Int.sub_le_sub ba0_5_0_u zq1⟩
    have wx23 : x23.toInt = a0_5_0.toInt - 1 := qx23
    have hF0 := hF0.trans (fl_lt_eq (show x23.toInt = a0_5_0.toInt - 1 from qx23))
    have hKc := hK.sub (tys' := [(ka0_3, .byte)]) [0] rfl
    refine va_calli (va_runV (As := [.ref (ad 15), .int 0, .int x23]) (rest := []) ⟨hx, hb, hml, hown, hts⟩ (f_X3_takeWhole l dC dI H.size a0 (ad 15) 0 x23 a0g_0 (.ref a0_4) (.ref a0_5) (.int v5na0_6) v5na0_1 v5na0_2 a0_3 a0_7 v5na0_8 v5na0_9 v5na0_10 v5na0_11 v5na0_12 a0_13 ka0_3 fa0_3 4 (sxc 15) ba0_7_l ba0_7_u bv5na0_8.1 bv5na0_8.2 bv5na0_9.1 bv5na0_9.2 bv5na0_10.1 bv5na0_10.2) (cwV 3 hts gX3_readWatcher_X3_takeWhole rfl rfl rfl zd_X3_takeWhole ⟨Nat.le_of_ble_eq_true rfl, Nat.le_of_ble_eq_true rfl⟩) ⟨ax_blind (fun _ _ _ _ hq => ⟨sxc_W_same _ _ _ _ (hq.1), va_Nw.same rfl rfl (hq.2)⟩), zr_3 hKc (zp_P2 hP) (q0 := 0) rfl, ax_preE (zp_P2 hP) hKc (zp_D2 hD) (fun U hU hW => ⟨sxc_W_to (sxc_T_w hE0 (i := 15) (by decide)) hS.2.1 (zp_F2 hD hS hA) hU hW, va_Nw.warmM hW hE1⟩)⟩ rfl rfl hl.1 rfl (lv_room (Nat.le_of_ble_eq_true rfl)) dX3_readWatcher_24 ⟨Nat.le_of_ble_eq_true rfl, Nat.le_of_ble_eq_true rfl⟩) hS (fun q _ h => zp_F2 hD hS hA q h) (zp_F2 hD hS hA) (fun r24 v24na0_13 t H1 locs ht hvm hw => zx_7 (fun v24na0_1 v24na0_2 v24na0_8 v24na0_9 v24na0_10 v24na0_11 v24na0_12 => zy_4 (fun bv24na0_8 bv24na0_9 bv24na0_10 hraw24_0 hB hz1 hk1 hS1 => zo2 hB ht hP hD hk1 (zp_F2 hD hS hA) hS1 (fun hP hK1 hD hS => ?_))))
    generalize H1 = H at hP hS ⊢
    obtain ⟨hw, hfr24⟩ := hw
    rw [show (0 : Int32).toInt = 0 from by decide, show ((4 : Nat) : Int) = 4 from rfl] at hfr24 hraw24_0
    have hc24 : Ff_X3_takeWhole 0 x23.toInt v5na0_1.toInt v5na0_2.toInt a0_7.toInt v5na0_8.toInt v5na0_9.toInt v5na0_10.toInt v5na0_11.toInt v5na0_12.toInt a0_13.toInt (fl_A fa0_3) 4 (fl_A (sxc 15)) = (r24.toInt, v24na0_1.toInt, v24na0_2.toInt, v24na0_8.toInt, v24na0_9.toInt, v24na0_10.toInt, v24na0_11.toInt, v24na0_12.toInt, v24na0_13.toInt) := Prod.ext hfr24.symm hraw24_0
    have hF0 := hF0.trans (fl_c9_eq hc24)
    rcases hw with hw | hw
    · obtain ⟨hw, h24⟩ := hw
      subst hw
      have l24k0_v24na0_13 : (0 : Int) ≤ v24na0_13.toInt := Int.le_trans zq5 h24.1
      have u24k0_v24na0_13 : v24na0_13.toInt ≤ (8 : Int) := Int.le_trans h24.2 bx23.2
      have hF0 := hF0.trans (if_pos (by decide))
      refine lv_if_ne (tgt := 32) hx hb dX3_readWatcher_27 (by decide) (fun _ => ?_) (fun c27 => absurd c27 (by decide +kernel))
      refine lv_aload_n hx hb dX3_readWatcher_32 rfl (lv_at hl 0 rfl) ?_
      refine va_get (D := (dC, dI)) (ci := 3) (v := .int v24na0_13) (C := RX3) (T := TX3) (N := 14) hx hb hts zi_X3_readWatcher_3 hown hK hP 0 rfl rfl 13 (by decide) (hts (.fieldLink RX3 156 "WaxTurns$Reade\x72" "taken" "I") (zm_X3_readWatcher_r1 (List.mem_of_getElem? (i := 2) rfl))) (fun _ h9 => h9) rfl dX3_readWatcher_33 ?_
      refine lv_istore_n (lv' := [(1, .int v24na0_13), (0, .ref a0)]) hx hb dX3_readWatcher_36 rfl hl (by decide) rfl (fun ls hl => ?_)
      refine lv_aload_n hx hb dX3_readWatcher_37 rfl (lv_at hl 1 rfl) ?_
      refine va_ldcS hx hb hown (sxc_R16 hE0) dX3_readWatcher_38 ?_
      refine lv_iconst (v := 0) hx hb dX3_readWatcher_40 zk_iconst_0 ?_
      refine lv_aload_n hx hb dX3_readWatcher_41 rfl (lv_at hl 1 rfl) ?_
      refine va_get (D := (dC, dI)) (ci := 3) (v := .ref a0_5) (C := RX3) (T := TX3) (N := 14) hx hb hts zi_X3_readWatcher_3 hown hK hP 0 rfl rfl 5 (by decide) (hts (.fieldLink RX3 22 "WaxTurns$Reade\x72" "draft" "LWaxTurns$Hall;") (zm_X3_readWatcher_r1 (List.mem_of_getElem? (i := 0) rfl))) (fun _ h9 => h9) rfl dX3_readWatcher_42 ?_
      refine va_get (D := (dC, dI)) (ci := 0) (v := .int a0_5_0) (C := RX0) (T := TX0) (N := 15) hx hb hts zi_X3_readWatcher_0 hown hK hP 3 rfl rfl 0 (by decide) (hts (.fieldLink RX3 104 "WaxTurns$Hall" "figures" "I") (zm_X3_readWatcher_r1 (List.mem_of_getElem? (i := 1) rfl))) (fun _ h9 => h9) rfl dX3_readWatcher_45 ?_
      refine lv_iconst (v := 1) hx hb dX3_readWatcher_48 zk_iconst_1 ?_
      refine lv_isub hx hb dX3_readWatcher_49 ?_
      refine ax_ti x23 ex23.symm ?_
      have hKc := hK.sub (tys' := [(ka0_3, .byte)]) [0] rfl
      refine va_calli (va_runV (As := [.ref (ad 16), .int 0, .int x23]) (rest := []) ⟨hx, hb, hml, hown, hts⟩ (f_X3_takeWhole l dC dI H.size a0 (ad 16) 0 x23 a0g_0 (.ref a0_4) (.ref a0_5) (.int v5na0_6) v24na0_1 v24na0_2 a0_3 a0_7 v24na0_8 v24na0_9 v24na0_10 v24na0_11 v24na0_12 v24na0_13 ka0_3 fa0_3 2 (sxc 16) ba0_7_l ba0_7_u bv24na0_8.1 bv24na0_8.2 bv24na0_9.1 bv24na0_9.2 bv24na0_10.1 bv24na0_10.2) (cwV 3 hts gX3_readWatcher_X3_takeWhole rfl rfl rfl zd_X3_takeWhole ⟨Nat.le_of_ble_eq_true rfl, Nat.le_of_ble_eq_true rfl⟩) ⟨ax_blind (fun _ _ _ _ hq => ⟨sxc_W_same _ _ _ _ (hq.1), va_Nw.same rfl rfl (hq.2)⟩), zr_3 hKc (zp_P2 hP) (q0 := 0) rfl, ax_preE (zp_P2 hP) hKc (zp_D2 hD) (fun U hU hW => ⟨sxc_W_to (sxc_T_w hE0 (i := 16) (by decide)) hS.2.1 (zp_F2 hD hS hA) hU hW, va_Nw.warmM hW hE1⟩)⟩ rfl rfl hl.1 rfl (lv_room (Nat.le_of_ble_eq_true rfl)) dX3_readWatcher_50 ⟨Nat.le_of_ble_eq_true rfl, Nat.le_of_ble_eq_true rfl⟩) hS (fun q _ h => zp_F2 hD hS hA q h) (zp_F2 hD hS hA) (fun r50 v50na0_13 t H1 locs ht hvm hw => zx_7 (fun v50na0_1 v50na0_2 v50na0_8 v50na0_9 v50na0_10 v50na0_11 v50na0_12 => zy_4 (fun bv50na0_8 bv50na0_9 bv50na0_10 hraw50_0 hB hz1 hk1 hS1 => zo2 hB ht hP hD hk1 (zp_F2 hD hS hA) hS1 (fun hP hK1 hD hS => ?_))))
      generalize H1 = H at hP hS ⊢
      obtain ⟨hw, hfr50⟩ := hw
      rw [show (0 : Int32).toInt = 0 from by decide, show ((2 : Nat) : Int) = 2 from rfl] at hfr50 hraw50_0
      have hc50 : Ff_X3_takeWhole 0 x23.toInt v24na0_1.toInt v24na0_2.toInt a0_7.toInt v24na0_8.toInt v24na0_9.toInt v24na0_10.toInt v24na0_11.toInt v24na0_12.toInt v24na0_13.toInt (fl_A fa0_3) 2 (fl_A (sxc 16)) = (r50.toInt, v50na0_1.toInt, v50na0_2.toInt, v50na0_8.toInt, v50na0_9.toInt, v50na0_10.toInt, v50na0_11.toInt, v50na0_12.toInt, v50na0_13.toInt) := Prod.ext hfr50.symm hraw50_0
      have hF0 := hF0.trans (fl_c9_eq hc50)
      rcases hw with hw | hw
      · obtain ⟨hw, h50⟩ := hw
        subst hw
        have l50k0_v50na0_13 : (0 : Int) ≤ v50na0_13.toInt := Int.le_trans zq5 h50.1
        have u50k0_v50na0_13 : v50na0_13.toInt ≤ (8 : Int) := Int.le_trans h50.2 bx23.2
        have hF0 := hF0.trans (if_pos (by decide))
        refine lv_if_ne (tgt := 58) hx hb dX3_readWatcher_53 (by decide) (fun _ => ?_) (fun c53 => absurd c53 (by decide +kernel))
        refine lv_aload_n hx hb dX3_readWatcher_58 rfl (lv_at hl 1 rfl) ?_
        refine va_get (D := (dC, dI)) (ci := 3) (v := .ref a0_5) (C := RX3) (T := TX3) (N := 14) hx hb hts zi_X3_readWatcher_3 hown hK hP 0 rfl rfl 5 (by decide) (hts (.fieldLink RX3 22 "WaxTurns$Reade\x72" "draft" "LWaxTurns$Hall;") (zm_X3_readWatcher_r1 (List.mem_of_getElem? (i := 0) rfl))) (fun _ h9 => h9) rfl dX3_readWatcher_59 ?_
        refine va_get (D := (dC, dI)) (ci := 0) (v := .ref a0_5_14) (C := RX0) (T := TX0) (N := 15) hx hb hts zi_X3_readWatcher_0 hown hK hP 3 rfl rfl 14 (by decide) (hts (.fieldLink RX3 133 "WaxTurns$Hall" "watchers" "LWaxTurns$Watchers;") (zm_X3_readWatcher_r1 (List.mem_of_getElem? (i := 3) rfl))) (fun _ h9 => h9) rfl dX3_readWatcher_62 ?_
        refine lv_iload_n hx hb dX3_readWatcher_65 rfl (lv_at hl 0 rfl) ?_
        refine lv_aload_n hx hb dX3_readWatcher_66 rfl (lv_at hl 1 rfl) ?_
        refine va_get (D := (dC, dI)) (ci := 3) (v := .int v50na0_13) (C := RX3) (T := TX3) (N := 14) hx hb hts zi_X3_readWatcher_3 hown hK hP 0 rfl rfl 13 (by decide) (hts (.fieldLink RX3 156 "WaxTurns$Reade\x72" "taken" "I") (zm_X3_readWatcher_r1 (List.mem_of_getElem? (i := 2) rfl))) (fun _ h9 => h9) rfl dX3_readWatcher_67 ?_
        refine zc_cutc (wc := [(a0_5_14, .inr (6, [.int a0_5_14_0, a0_5_14g_1, .ref a0_5_14_2, .ref a0_5_14_3])), (a0_5_14_2, .inl (ka0_5_14_2, 3, .inl (fa0_5_14_2))), (a0_5_14_3, .inl (ka0_5_14_3, 3, .inl (fa0_5_14_3)))]) hP hD hS hA [4, 5, 6] (by decide +kernel) rfl (fun hPc hDc hFc hCc => ?_)
        have hKc := hK.sub (tys' := [(ka0_5_14_2, .int), (ka0_5_14_3, .int)]) [2, 3] rfl
        refine va_callv (va_runV (As := [.int v24na0_13, .int v50na0_13]) (rest := []) ⟨hx, hb, hml, hown, hts⟩ (f_X6_add l dC dI H.size a0_5_14 v24na0_13 v50na0_13 a0_5_14_0 a0_5_14g_1 a0_5_14_2 a0_5_14_3 ka0_5_14_2 fa0_5_14_2 ka0_5_14_3 fa0_5_14_3 l24k0_v24na0_13 u24k0_v24na0_13 l50k0_v50na0_13 u50k0_v50na0_13 ba0_5_14_0_l ba0_5_14_0_u bfa0_5_14_2 bfa0_5_14_3) (cwV 2 hts gX3_readWatcher_X6_add rfl rfl rfl zd_X6_add ⟨Nat.le_of_ble_eq_true rfl, Nat.le_of_ble_eq_true rfl⟩) ⟨ax_blind (fun _ _ _ _ _ => trivial), zr_6 hKc hPc (q0 := 0) rfl, ax_pre hPc hKc hDc (fun _ _ => trivial)⟩ rfl rfl hl.1 rfl (lv_room (Nat.le_of_ble_eq_true rfl)) dX3_readWatcher_70 ⟨Nat.le_of_ble_eq_true rfl, Nat.le_of_ble_eq_true rfl⟩) hS (fun q _ h => hFc q h) hFc (fun u t H locs ht hvm hw => zx_3 (fun v70na0_0 v70nfa0_2 v70nfa0_3 => zy_4 (fun bv70na0_0 bv70nfa0_2 bv70nfa0_3 hraw70_0 hB hz1 hk1 hS1 => zo hB ht hS1 (fun hP1 hK1 hD1 hS => ?_))))
        refine zc_backc (w := [(a0, .inr (3, [a0g_0, .int v50na0_1, .int v50na0_2, .ref a0_3, .ref a0_4, .ref a0_5, .int v5na0_6, .int a0_7, .int v50na0_8, .int v50na0_9, .int v50na0_10, .long v50na0_11, .int v50na0_12, .int v50na0_13])), (a0_3, .inl (ka0_3, 900, .inl (fa0_3))), (a0_4, .inl (ka0_4, 12, .inr (.inl (v5nfa0_4)))), (a0_5, .inr (0, [.int a0_5_0, a0_5g_1, a0_5g_2, a0_5g_3, a0_5g_4, a0_5g_5, a0_5g_6, a0_5g_7, a0_5g_8, a0_5g_9, a0_5g_10, a0_5g_11, a0_5g_12, a0_5g_13, .ref a0_5_14])), (a0_5_14, .inr (6, [.int v70na0_0, a0_5_14g_1, .ref a0_5_14_2, .ref a0_5_14_3])), (a0_5_14_2, .inl (ka0_5_14_2, 3, .inl (v70nfa0_2))), (a0_5_14_3, .inl (ka0_5_14_3, 3, .inl (v70nfa0_3)))]) hP hD hCc hk1 hFc hP1 hD1 [.inl 0, .inl 1, .inl 2, .inl 3, .inr 0, .inr 1, .inr 2] (by decide +kernel) rfl (fun hP hD => ?_)
        have hc70 : Ff_X6_add v24na0_13.toInt v50na0_13.toInt a0_5_14_0.toInt (fl_A fa0_5_14_2) (fl_A fa0_5_14_3) = (v70na0_0.toInt, (fl_A v70nfa0_2), (fl_A v70nfa0_3)) := hraw70_0
        have hF0 := hF0.trans (fl_c3_eq hc70)
        refine lv_iconst (v := 1) hx hb dX3_readWatcher_73 zk_iconst_1 ?_
        have hFe : FX = (1, v50na0_1.toInt, v50na0_2.toInt, v5na0_6.toInt, v50na0_8.toInt, v50na0_9.toInt, v50na0_10.toInt, v50na0_11.toInt, v50na0_12.toInt, v50na0_13.toInt, (fl_L v5nfa0_4), v70na0_0.toInt, (fl_A v70nfa0_2), (fl_A v70nfa0_3)) := hF0
        exact W.zret (v := 1) hx hb hr rfl (fun t ht hW => ⟨⟨1, (), rfl, ⟨(Or.inl (rfl)), (congrArg Prod.fst hFe).symm⟩, v50na0_1, v50na0_2, v5na0_6, v50na0_8, v50na0_9, v50na0_10, v50na0_11, v50na0_12, v50na0_13, v5nfa0_4, v70na0_0, v70nfa0_2, v70nfa0_3, ⟨bv5na0_6.1, bv5na0_6.2⟩, ⟨bv50na0_8.1, bv50na0_8.2⟩, ⟨bv50na0_9.1, bv50na0_9.2⟩, ⟨bv50na0_10.1, bv50na0_10.2⟩, ⟨bv70na0_0.1, bv70na0_0.2⟩, bv70nfa0_2, bv70nfa0_3, (congrArg Prod.snd hFe), by rw [ht]; exact hP, va_K.moved hW.alike hK, hD⟩, hS.F ht⟩) hS.2.2 dX3_readWatcher_74
      · subst hw
        have hF0 := hF0.trans (if_neg (by decide))
        refine lv_if_ne (tgt := 58) hx hb dX3_readWatcher_53 (by decide) (fun c53 => absurd (by decide +kernel) c53) (fun _ => ?_)
        refine lv_iconst (v := 0) hx hb dX3_readWatcher_56 zk_iconst_0 ?_
        have hFe : FX = (0, v50na0_1.toInt, v50na0_2.toInt, v5na0_6.toInt, v50na0_8.toInt, v50na0_9.toInt, v50na0_10.toInt, v50na0_11.toInt, v50na0_12.toInt, v50na0_13.toInt, (fl_L v5nfa0_4), a0_5_14_0.toInt, (fl_A fa0_5_14_2), (fl_A fa0_5_14_3)) := hF0
        exact W.zret (v := 0) hx hb hr rfl (fun t ht hW => ⟨⟨0, (), rfl, ⟨(Or.inr (rfl)), (congrArg Prod.fst hFe).symm⟩, v50na0_1, v50na0_2, v5na0_6, v50na0_8, v50na0_9, v50na0_10, v50na0_11, v50na0_12, v50na0_13, v5nfa0_4, a0_5_14_0, fa0_5_14_2, fa0_5_14_3, ⟨bv5na0_6.1, bv5na0_6.2⟩, ⟨bv50na0_8.1, bv50na0_8.2⟩, ⟨bv50na0_9.1, bv50na0_9.2⟩, ⟨bv50na0_10.1, bv50na0_10.2⟩, ⟨ba0_5_14_0_l, ba0_5_14_0_u⟩, bfa0_5_14_2, bfa0_5_14_3, (congrArg Prod.snd hFe), by rw [ht]; exact hP, va_K.moved hW.alike hK, hD⟩, hS.F ht⟩) hS.2.2 dX3_readWatcher_57
    · subst hw
      have hF0 := hF0.trans (if_neg (by decide))
      refine lv_if_ne (tgt := 32) hx hb dX3_readWatcher_27 (by decide) (fun c27 => absurd (by decide +kernel) c27) (fun _ => ?_)
      refine lv_iconst (v := 0) hx hb dX3_readWatcher_30 zk_iconst_0 ?_
      have hFe : FX = (0, v24na0_1.toInt, v24na0_2.toInt, v5na0_6.toInt, v24na0_8.toInt, v24na0_9.toInt, v24na0_10.toInt, v24na0_11.toInt, v24na0_12.toInt, v24na0_13.toInt, (fl_L v5nfa0_4), a0_5_14_0.toInt, (fl_A fa0_5_14_2), (fl_A fa0_5_14_3)) := hF0
      exact W.zret (v := 0) hx hb hr rfl (fun t ht hW => ⟨⟨0, (), rfl, ⟨(Or.inr (rfl)), (congrArg Prod.fst hFe).symm⟩, v24na0_1, v24na0_2, v5na0_6, v24na0_8, v24na0_9, v24na0_10, v24na0_11, v24na0_12, v24na0_13, v5nfa0_4, a0_5_14_0, fa0_5_14_2, fa0_5_14_3, ⟨bv5na0_6.1, bv5na0_6.2⟩, ⟨bv24na0_8.1, bv24na0_8.2⟩, ⟨bv24na0_9.1, bv24na0_9.2⟩, ⟨bv24na0_10.1, bv24na0_10.2⟩, ⟨ba0_5_14_0_l, ba0_5_14_0_u⟩, bfa0_5_14_2, bfa0_5_14_3, (congrArg Prod.snd hFe), by rw [ht]; exact hP, va_K.moved hW.alike hK, hD⟩, hS.F ht⟩) hS.2.2 dX3_readWatcher_31
  · subst hw
    have hF0 := hF0.trans (if_neg (by decide))
    refine lv_if_eq (tgt := 30) hx hb dX3_readWatcher_8 (by decide) (fun _ => ?_) (fun c8 => absurd (by decide +kernel) c8)
    refine lv_iconst (v := 0) hx hb dX3_readWatcher_30 zk_iconst_0 ?_
    have hFe : FX = (0, v5na0_1.toInt, v5na0_2.toInt, v5na0_6.toInt, v5na0_8.toInt, v5na0_9.toInt, v5na0_10.toInt, v5na0_11.toInt, v5na0_12.toInt, a0_13.toInt, (fl_L v5nfa0_4), a0_5_14_0.toInt, (fl_A fa0_5_14_2), (fl_A fa0_5_14_3)) := hF0
    exact W.zret (v := 0) hx hb hr rfl (fun t ht hW => ⟨⟨0, (), rfl, ⟨(Or.inr (rfl)), (congrArg Prod.fst hFe).symm⟩, v5na0_1, v5na0_2, v5na0_6, v5na0_8, v5na0_9, v5na0_10, v5na0_11, v5na0_12, a0_13, v5nfa0_4, a0_5_14_0, fa0_5_14_2, fa0_5_14_3, ⟨bv5na0_6.1, bv5na0_6.2⟩, ⟨bv5na0_8.1, bv5na0_8.2⟩, ⟨bv5na0_9.1, bv5na0_9.2⟩, ⟨bv5na0_10.1, bv5na0_10.2⟩, ⟨ba0_5_14_0_l, ba0_5_14_0_u⟩, bfa0_5_14_2, bfa0_5_14_3, (congrArg Prod.snd hFe), by rw [ht]; exact hP, va_K.moved hW.alike hK, hD⟩, hS.F ht⟩) hS.2.2 dX3_readWatcher_31

set_option maxHeartbeats 4000000 in
set_option maxRecDepth 100000 in
theorem f_X3_readSeen (l : Launch) (dC : Nat → ClassId) (dI : Nat → Nat → Nat) (sz : Nat) (a0 : Nat) (a0g_0 a0g_4 a0g_6 : Value) (a0_1 : Int32) (a0_2 : Int32) (a0_3 : Nat) (a0_5 : Nat) (a0_7 : Int32) (a0_8 : Int32) (a0_9 : Int32) (a0_10 : Int32) (a0_11 : Int64) (a0_12 : Int32) (a0_13 : Int32) (a0_5_0 : Int32) (a0_5g_1 a0_5g_2 a0_5g_3 a0_5g_4 a0_5g_5 a0_5g_6 a0_5g_7 a0_5g_8 a0_5g_10 a0_5g_11 a0_5g_14 : Value) (a0_5_9 : Int32) (a0_5_12 : Nat) (a0_5_13 : Nat) (ka0_3 : ClassId) (fa0_3 : Nat → Int32) (ka0_5_13 : ClassId) (fa0_5_13 : Nat → Int32) (ka0_5_12 : ClassId) (fa0_5_12 : Nat → Int32) (ad : Nat → Nat) (ba0_7_l : (0 : Int) ≤ a0_7.toInt) (ba0_7_u : a0_7.toInt ≤ (900 : Int)) (ba0_8_l : (0 : Int) ≤ a0_8.toInt) (ba0_8_u : a0_8.toInt ≤ (900 : Int)) (ba0_9_l : (0 : Int) ≤ a0_9.toInt) (ba0_9_u : a0_9.toInt ≤ (900 : Int)) (ba0_10_l : (0 : Int) ≤ a0_10.toInt) (ba0_10_u : a0_10.toInt ≤ (4 : Int)) (ba0_5_0_l : (0 : Int) ≤ a0_5_0.toInt) (ba0_5_0_u : a0_5_0.toInt ≤ (9 : Int)) (ba0_5_9_l : (0 : Int) ≤ a0_5_9.toInt) (ba0_5_9_u : a0_5_9.toInt ≤ (6 : Int)) (bfa0_5_13 : (∀ k, (0 : Int) ≤ (fa0_5_13 k).toInt ∧ (fa0_5_13 k).toInt ≤ 999)) : zm l yX3_readSeen wsX3_readSeen ({ frames := 6, cells := 0, slots := 0, locals := 132 }) [.ref a0] dC dI sz [(a0, .inr (3, [a0g_0, .int a0_1, .int a0_2, .ref a0_3, a0g_4, .ref a0_5, a0g_6, .int a0_7, .int a0_8, .int a0_9, .int a0_10, .long a0_11, .int a0_12, .int a0_13])), (a0_5, .inr (0, [.int a0_5_0, a0_5g_1, a0_5g_2, a0_5g_3, a0_5g_4, a0_5g_5, a0_5g_6, a0_5g_7, a0_5g_8, .int a0_5_9, a0_5g_10, a0_5g_11, .ref a0_5_12, .ref a0_5_13, a0_5g_14])), (a0_3, .inl (ka0_3, 900, .inl (fa0_3))), (a0_5_13, .inl (ka0_5_13, 6, .inl (fa0_5_13))), (a0_5_12, .inl (ka0_5_12, 6, .inl (fa0_5_12)))] [(ka0_3, .byte), (ka0_5_13, .int), (ka0_5_12, .int)] (fun A U => sxc_T ad A U ∧ va_Nw (.methodLinkNest RX3 223 yX7_within RX7) U) (fun A => va_Qi (fun (r : Int32) (_ : Unit) => ((r = 1) ∨ (r = 0)) ∧ r.toInt = (Ff_X3_readSeen a0_1.toInt a0_2.toInt a0_7.toInt a0_8.toInt a0_9.toInt a0_10.toInt a0_11.toInt a0_12.toInt a0_13.toInt a0_5_0.toInt a0_5_9.toInt (fl_A fa0_3) (fl_A fa0_5_13) (fl_A fa0_5_12)).1) (fun (_ : Unit) (t : State) => ∃ na0_1 : Int32, ∃ na0_2 : Int32, ∃ na0_8 : Int32, ∃ na0_9 : Int32, ∃ na0_10 : Int32, ∃ na0_11 : Int64, ∃ na0_12 : Int32, ∃ na0_13 : Int32, ∃ na0_5_9 : Int32, ∃ nfa0_5_13 : Nat → Int32, ∃ nfa0_5_12 : Nat → Int32, ((0 : Int) ≤ na0_8.toInt ∧ na0_8.toInt ≤ 900) ∧ ((0 : Int) ≤ na0_9.toInt ∧ na0_9.toInt ≤ 900) ∧ ((0 : Int) ≤ na0_10.toInt ∧ na0_10.toInt ≤ 4) ∧ ((0 : Int) ≤ na0_5_9.toInt ∧ na0_5_9.toInt ≤ 6) ∧ (∀ k, (0 : Int) ≤ (nfa0_5_13 k).toInt ∧ (nfa0_5_13 k).toInt ≤ 999) ∧ ((Ff_X3_readSeen a0_1.toInt a0_2.toInt a0_7.toInt a0_8.toInt a0_9.toInt a0_10.toInt a0_11.toInt a0_12.toInt a0_13.toInt a0_5_0.toInt a0_5_9.toInt (fl_A fa0_3) (fl_A fa0_5_13) (fl_A fa0_5_12)).2 = (na0_1.toInt, na0_2.toInt, na0_8.toInt, na0_9.toInt, na0_10.toInt, na0_11.toInt, na0_12.toInt, na0_13.toInt, na0_5_9.toInt, (fl_A nfa0_5_13), (fl_A nfa0_5_12))) ∧ ax_B dC dI A [(a0, .inr (3, [a0g_0, .int na0_1, .int na0_2, .ref a0_3, a0g_4, .ref a0_5, a0g_6, .int a0_7, .int na0_8, .int na0_9, .int na0_10, .long na0_11, .int na0_12, .int na0_13])), (a0_5, .inr (0, [.int a0_5_0, a0_5g_1, a0_5g_2, a0_5g_3, a0_5g_4, a0_5g_5, a0_5g_6, a0_5g_7, a0_5g_8, .int na0_5_9, a0_5g_10, a0_5g_11, .ref a0_5_12, .ref a0_5_13, a0_5g_14])), (a0_3, .inl (ka0_3, 900, .inl (fa0_3))), (a0_5_13, .inl (ka0_5_13, 6, .inl (nfa0_5_13))), (a0_5_12, .inl (ka0_5_12, 6, .inl (nfa0_5_12)))] [(ka0_3, .byte), (ka0_5_13, .int), (ka0_5_12, .int)] t) A) := by
  refine zh (cc := cX3_readSeen) (maxL := 2) (ret := (some .boolean)) zn_RX3 rfl (Nat.le_of_ble_eq_true rfl) (fun p e s m below meth c A ls hx hb hml hr hts (hown : s.vm.findClass RX3 = some m.cls) hlocks hA hS hP hK hD hE (hl : lv_has ls 2 [(0, .ref a0)]) => ?_)
  obtain ⟨hE0, hE1⟩ := hE
  generalize hFX : Ff_X3_readSeen a0_1.toInt a0_2.toInt a0_7.toInt a0_8.toInt a0_9.toInt a0_10.toInt a0_11.toInt a0_12.toInt a0_13.toInt a0_5_0.toInt a0_5_9.toInt (fl_A fa0_3) (fl_A fa0_5_13) (fl_A fa0_5_12) = FX at ⊢
  have hF0 := hFX.symm.trans (Ff_X3_readSeen.eq_1 a0_1.toInt a0_2.toInt a0_7.toInt a0_8.toInt a0_9.toInt a0_10.toInt a0_11.toInt a0_12.toInt a0_13.toInt a0_5_0.toInt a0_5_9.toInt (fl_A fa0_3) (fl_A fa0_5_13) (fl_A fa0_5_12))
  refine lv_aload_n hx hb dX3_readSeen_0 rfl (lv_at hl 0 rfl) ?_
  refine va_ldcS hx hb hown (sxc_R4 hE0) dX3_readSeen_1 ?_
  refine lv_iconst (v := 0) hx hb dX3_readSeen_3 zk_iconst_0 ?_
  refine lv_aload_n hx hb dX3_readSeen_4 rfl (lv_at hl 0 rfl) ?_
  refine va_get (D := (dC, dI)) (ci := 3) (v := .ref a0_5) (C := RX3) (T := TX3) (N := 14) hx hb hts zi_X3_readSeen_3 hown hK hP 0 rfl rfl 5 (by decide) (hts (.fieldLink RX3 22 "WaxTurns$Reade\x72" "draft" "LWaxTurns$Hall;") (zm_X3_readSeen_r1 (List.mem_of_getElem? (i := 0) rfl))) (fun _ h9 => h9) rfl dX3_readSeen_5 ?_
  refine va_get (D := (dC, dI)) (ci := 0) (v := .int a0_5_0) (C := RX0) (T := TX0) (N := 15) hx hb hts zi_X3_readSeen_0 hown hK hP 1 rfl rfl 0 (by decide) (hts (.fieldLink RX3 104 "WaxTurns$Hall" "figures" "I") (zm_X3_readSeen_r1 (List.mem_of_getElem? (i := 1) rfl))) (fun _ h9 => h9) rfl dX3_readSeen_8 ?_
  refine lv_iconst (v := 1) hx hb dX3_readSeen_11 zk_iconst_1 ?_
  refine lv_isub hx hb dX3_readSeen_12 ?_
  refine lv_topi (fun x12 ex12 => ?_)
  have qx12 : x12.toInt = a0_5_0.toInt - (1 : Int32).toInt := ai_sub ex12 ⟨ba0_5_0_l, ba0_5_0_u⟩ ⟨zq1, zq0⟩ (by decide) (by decide)
  have bx12 : (-1 : Int) ≤ x12.toInt ∧ x12.toInt ≤ 8 := ⟨by rw [qx12]; exact Int.sub_le_sub ba0_5_0_l zq0, by rw [qx12]; exact Int.sub_le_sub ba0_5_0_u zq1⟩
  have wx12 : x12.toInt = a0_5_0.toInt - 1 := qx12
  have hF0 := hF0.trans (fl_lt_eq (show x12.toInt = a0_5_0.toInt - 1 from qx12))
  refine zc_cutc (wc := [(a0, .inr (3, [a0g_0, .int a0_1, .int a0_2, .ref a0_3, a0g_4, .ref a0_5, a0g_6, .int a0_7, .int a0_8, .int a0_9, .int a0_10, .long a0_11, .int a0_12, .int a0_13])), (a0_3, .inl (ka0_3, 900, .inl (fa0_3)))]) hP hD hS hA [0, 2] (by decide +kernel) rfl (fun hPc hDc hFc hCc => ?_)
  have hKc := hK.sub (tys' := [(ka0_3, .byte)]) [0] rfl
  refine va_calli (va_runV (As := [.ref (ad 4), .int 0, .int x12]) (rest := []) ⟨hx, hb, hml, hown, hts⟩ (f_X3_takeWhole l dC dI s.heap.size a0 (ad 4) 0 x12 a0g_0 a0g_4 (.ref a0_5) a0g_6 a0_1 a0_2 a0_3 a0_7 a0_8 a0_9 a0_10 a0_11 a0_12 a0_13 ka0_3 fa0_3 4 (sxc 4) ba0_7_l ba0_7_u ba0_8_l ba0_8_u ba0_9_l ba0_9_u ba0_10_l ba0_10_u) (cwV 3 hts gX3_readSeen_X3_takeWhole rfl rfl rfl zd_X3_takeWhole ⟨Nat.le_of_ble_eq_true rfl, Nat.le_of_ble_eq_true rfl⟩) ⟨ax_blind (fun _ _ _ _ hq => ⟨sxc_W_same _ _ _ _ (hq.1), va_Nw.same rfl rfl (hq.2)⟩), zr_3 hKc hPc (q0 := 0) rfl, ax_preE hPc hKc hDc (fun U hU hW => ⟨sxc_W_to (sxc_T_w hE0 (i := 4) (by decide)) hS.2.1 hFc hU hW, va_Nw.warmM hW hE1⟩)⟩ rfl rfl hl.1 rfl (lv_room (Nat.le_of_ble_eq_true rfl)) dX3_readSeen_13 ⟨Nat.le_of_ble_eq_true rfl, Nat.le_of_ble_eq_true rfl⟩) hS (fun q _ h => hFc q h) hFc (fun r13 v13na0_13 t H1 locs ht hvm hw => zx_7 (fun v13na0_1 v13na0_2 v13na0_8 v13na0_9 v13na0_10 v13na0_11 v13na0_12 => zy_4 (fun bv13na0_8 bv13na0_9 bv13na0_10 hraw13_0 hB hz1 hk1 hS1 => zo hB ht hS1 (fun hP1 hK1 hD1 hS => ?_))))
  refine zc_backc (w := [(a0, .inr (3, [a0g_0, .int v13na0_1, .int v13na0_2, .ref a0_3, a0g_4, .ref a0_5, a0g_6, .int a0_7, .int v13na0_8, .int v13na0_9, .int v13na0_10, .long v13na0_11, .int v13na0_12, .int v13na0_13])), (a0_5, .inr (0, [.int a0_5_0, a0_5g_1, a0_5g_2, a0_5g_3, a0_5g_4, a0_5g_5, a0_5g_6, a0_5g_7, a0_5g_8, .int a0_5_9, a0_5g_10, a0_5g_11, .ref a0_5_12, .ref a0_5_13, a0_5g_14])), (a0_3, .inl (ka0_3, 900, .inl (fa0_3))), (a0_5_13, .inl (ka0_5_13, 6, .inl (fa0_5_13))), (a0_5_12, .inl (ka0_5_12, 6, .inl (fa0_5_12)))]) hP hD hCc hk1 hFc hP1 hD1 [.inr 0, .inl 1, .inr 1, .inl 3, .inl 4] (by decide +kernel) rfl (fun hP hD => ?_)
  generalize H1 = H at hP hS ⊢
  obtain ⟨hw, hfr13⟩ := hw
  rw [show (0 : Int32).toInt = 0 from by decide, show ((4 : Nat) : Int) = 4 from rfl] at hfr13 hraw13_0
  have hc13 : Ff_X3_takeWhole 0 x12.toInt a0_1.toInt a0_2.toInt a0_7.toInt a0_8.toInt a0_9.toInt a0_10.toInt a0_11.toInt a0_12.toInt a0_13.toInt (fl_A fa0_3) 4 (fl_A (sxc 4)) = (r13.toInt, v13na0_1.toInt, v13na0_2.toInt, v13na0_8.toInt, v13na0_9.toInt, v13na0_10.toInt, v13na0_11.toInt, v13na0_12.toInt, v13na0_13.toInt) := Prod.ext hfr13.symm hraw13_0
  have hF0 := hF0.trans (fl_c9_eq hc13)
  rcases hw with hw | hw
  · obtain ⟨hw, h13⟩ := hw
    subst hw
    have l13k0_v13na0_13 : (0 : Int) ≤ v13na0_13.toInt := Int.le_trans zq5 h13.1
    have u13k0_v13na0_13 : v13na0_13.toInt ≤ (8 : Int) := Int.le_trans h13.2 bx12.2
    have hF0 := hF0.trans (if_pos (by decide))
    refine lv_if_ne (tgt := 21) hx hb dX3_readSeen_16 (by decide) (fun _ => ?_) (fun c16 => absurd c16 (by decide +kernel))
    refine lv_aload_n hx hb dX3_readSeen_21 rfl (lv_at hl 0 rfl) ?_
    refine va_get (D := (dC, dI)) (ci := 3) (v := .int v13na0_13) (C := RX3) (T := TX3) (N := 14) hx hb hts zi_X3_readSeen_3 hown hK hP 0 rfl rfl 13 (by decide) (hts (.fieldLink RX3 156 "WaxTurns$Reade\x72" "taken" "I") (zm_X3_readSeen_r1 (List.mem_of_getElem? (i := 2) rfl))) (fun _ h9 => h9) rfl dX3_readSeen_22 ?_
    refine lv_istore_n (lv' := [(1, .int v13na0_13), (0, .ref a0)]) hx hb dX3_readSeen_25 rfl hl (by decide) rfl (fun ls hl => ?_)
    refine lv_aload_n hx hb dX3_readSeen_26 rfl (lv_at hl 1 rfl) ?_
    refine va_ldcS hx hb hown (sxc_R17 hE0) dX3_readSeen_27 ?_
    refine zc_cutc (wc := [(a0, .inr (3, [a0g_0, .int v13na0_1, .int v13na0_2, .ref a0_3, a0g_4, .ref a0_5, a0g_6, .int a0_7, .int v13na0_8, .int v13na0_9, .int v13na0_10, .long v13na0_11, .int v13na0_12, .int v13na0_13])), (a0_3, .inl (ka0_3, 900, .inl (fa0_3)))]) hP hD hS hA [0, 2] (by decide +kernel) rfl (fun hPc hDc hFc hCc => ?_)
    have hKc := hK.sub (tys' := [(ka0_3, .byte)]) [0] rfl
    refine va_calli (va_runV (As := [.ref (ad 17)]) (rest := []) ⟨hx, hb, hml, hown, hts⟩ (f_X3_takeWord l dC dI H.size a0 (ad 17) a0g_0 a0g_4 (.ref a0_5) a0g_6 (.int v13na0_13) v13na0_1 v13na0_2 a0_3 a0_7 v13na0_8 v13na0_9 v13na0_10 v13na0_11 v13na0_12 ka0_3 fa0_3 2 (sxc 17) ba0_7_l ba0_7_u bv13na0_8.1 bv13na0_8.2 bv13na0_9.1 bv13na0_9.2 bv13na0_10.1 bv13na0_10.2) (cwV 1 hts gX3_readSeen_X3_takeWord rfl rfl rfl zd_X3_takeWord ⟨Nat.le_of_ble_eq_true rfl, Nat.le_of_ble_eq_true rfl⟩) ⟨ax_blind (fun _ _ _ _ hq => sxc_W_same _ _ _ _ (hq)), zr_3 hKc hPc (q0 := 0) rfl, ax_preE hPc hKc hDc (fun U hU hW => sxc_W_to (sxc_T_w hE0 (i := 17) (by decide)) hS.2.1 hFc hU hW)⟩ rfl rfl hl.1 rfl (lv_room (Nat.le_of_ble_eq_true rfl)) dX3_readSeen_29 ⟨Nat.le_of_ble_eq_true rfl, Nat.le_of_ble_eq_true rfl⟩) hS (fun q _ h => hFc q h) hFc (fun r29 u t H locs ht hvm hw => zx_7 (fun v29na0_1 v29na0_2 v29na0_8 v29na0_9 v29na0_10 v29na0_11 v29na0_12 => zy_4 (fun bv29na0_8 bv29na0_9 bv29na0_10 hraw29_0 hB hz1 hk1 hS1 => zo hB ht hS1 (fun hP1 hK1 hD1 hS => ?_))))
    refine zc_backc (w := [(a0, .inr (3, [a0g_0, .int v29na0_1, .int v29na0_2, .ref a0_3, a0g_4, .ref a0_5, a0g_6, .int a0_7, .int v29na0_8, .int v29na0_9, .int v29na0_10, .long v29na0_11, .int v29na0_12, .int v13na0_13])), (a0_5, .inr (0, [.int a0_5_0, a0_5g_1, a0_5g_2, a0_5g_3, a0_5g_4, a0_5g_5, a0_5g_6, a0_5g_7, a0_5g_8, .int a0_5_9, a0_5g_10, a0_5g_11, .ref a0_5_12, .ref a0_5_13, a0_5g_14])), (a0_3, .inl (ka0_3, 900, .inl (fa0_3))), (a0_5_13, .inl (ka0_5_13, 6, .inl (fa0_5_13))), (a0_5_12, .inl (ka0_5_12, 6, .inl (fa0_5_12)))]) hP hD hCc hk1 hFc hP1 hD1 [.inr 0, .inl 1, .inr 1, .inl 3, .inl 4] (by decide +kernel) rfl (fun hP hD => ?_)
    obtain ⟨hw, hfr29⟩ := hw
    rw [show ((2 : Nat) : Int) = 2 from rfl] at hfr29 hraw29_0
    have hc29 : Ff_X3_takeWord v13na0_1.toInt v13na0_2.toInt a0_7.toInt v13na0_8.toInt v13na0_9.toInt v13na0_10.toInt v13na0_11.toInt v13na0_12.toInt (fl_A fa0_3) 2 (fl_A (sxc 17)) = (r29.toInt, v29na0_1.toInt, v29na0_2.toInt, v29na0_8.toInt, v29na0_9.toInt, v29na0_10.toInt, v29na0_11.toInt, v29na0_12.toInt) := Prod.ext hfr29.symm hraw29_0
    have hF0 := hF0.trans (fl_c8_eq hc29)
    rcases hw with hw | hw
    · subst hw
      have hF0 := hF0.trans (if_pos (by decide))
      refine lv_if_eq (tgt := 46) hx hb dX3_readSeen_32 (by decide) (fun c32 => absurd c32 (by decide +kernel)) (fun _ => ?_)
      refine lv_aload_n hx hb dX3_readSeen_35 rfl (lv_at hl 1 rfl) ?_
      refine lv_iconst (v := 0) hx hb dX3_readSeen_36 zk_iconst_0 ?_
      refine lv_sipush (v := 999) hx hb dX3_readSeen_37 zk_sipush_999 ?_
      refine va_calli (va_runV (As := [.int 0, .int 999]) (rest := []) ⟨hx, hb, hml, hown, hts⟩ (f_X3_isWholeWithin l dC dI H.size a0 0 999 a0g_0 (.ref a0_3) a0g_4 (.ref a0_5) a0g_6 (.int a0_7) (.int v29na0_9) (.long v29na0_11) (.int v13na0_13) v29na0_1 v29na0_2 v29na0_8 v29na0_10 v29na0_12 bv29na0_8.1 bv29na0_8.2 bv29na0_10.1 bv29na0_10.2) (cwV 2 hts gX3_readSeen_X3_isWholeWithin rfl rfl rfl zd_X3_isWholeWithin ⟨Nat.le_of_ble_eq_true rfl, Nat.le_of_ble_eq_true rfl⟩) ⟨ax_blind (fun _ _ _ _ hq => va_Nw.same rfl rfl (hq)), zr_3 (zp_K hK) (zp_P1 hP) (q0 := 0) rfl, ax_pre (zp_P1 hP) (zp_K hK) (zp_D1 hD) (fun _ hW => va_Nw.warmM hW hE1)⟩ rfl rfl hl.1 rfl (lv_room (Nat.le_of_ble_eq_true rfl)) dX3_readSeen_40 ⟨Nat.le_of_ble_eq_true rfl, Nat.le_of_ble_eq_true rfl⟩) hS (fun q _ h => zp_F1 hD hS hA q h) (zp_F1 hD hS hA) (fun r40 u t H locs ht hvm hw => zx_2 (fun v40na0_1 v40na0_2 => zy_1 (fun hraw40_0 hB hz1 hk1 hS1 => zo1 hB ht hP hD hk1 (zp_F1 hD hS hA) hS1 (fun hP hK1 hD hS => ?_))))
      obtain ⟨hw, hfr40⟩ := hw
      rw [show (0 : Int32).toInt = 0 from by decide, show (999 : Int32).toInt = 999 from by decide] at hfr40 hraw40_0
      have hc40 : Ff_X3_isWholeWithin 0 999 v29na0_1.toInt v29na0_2.toInt v29na0_8.toInt v29na0_10.toInt v29na0_12.toInt = (r40.toInt, v40na0_1.toInt, v40na0_2.toInt) := Prod.ext hfr40.symm hraw40_0
      have hF0 := hF0.trans (fl_c3_eq hc40)
      rcases hw with hw | hw
      · obtain ⟨hw, h40⟩ := hw
        subst hw
        have l40k0_v29na0_12 : (0 : Int) ≤ v29na0_12.toInt := Int.le_trans zq5 h40.1
        have u40k0_v29na0_12 : v29na0_12.toInt ≤ (999 : Int) := Int.le_trans h40.2 zq81
        have hF0 := hF0.trans (if_pos (by decide))
        refine lv_if_ne (tgt := 48) hx hb dX3_readSeen_43 (by decide) (fun _ => ?_) (fun c43 => absurd c43 (by decide +kernel))
        refine lv_aload_n hx hb dX3_readSeen_48 rfl (lv_at hl 1 rfl) ?_
        refine va_get (D := (dC, dI)) (ci := 3) (v := .ref a0_5) (C := RX3) (T := TX3) (N := 14) hx hb hts zi_X3_readSeen_3 hown hK hP 0 rfl rfl 5 (by decide) (hts (.fieldLink RX3 22 "WaxTurns$Reade\x72" "draft" "LWaxTurns$Hall;") (zm_X3_readSeen_r1 (List.mem_of_getElem? (i := 0) rfl))) (fun _ h9 => h9) rfl dX3_readSeen_49 ?_
        refine lv_aload_n hx hb dX3_readSeen_52 rfl (lv_at hl 1 rfl) ?_
        refine va_get (D := (dC, dI)) (ci := 3) (v := .int v29na0_12) (C := RX3) (T := TX3) (N := 14) hx hb hts zi_X3_readSeen_3 hown hK hP 0 rfl rfl 12 (by decide) (hts (.fieldLink RX3 85 "WaxTurns$Reade\x72" "whole" "I") (zm_X3_readSeen_r1 (List.mem_of_getElem? (i := 3) rfl))) (fun _ h9 => h9) rfl dX3_readSeen_53 ?_
        refine zc_cutc (wc := [(a0_5, .inr (0, [.int a0_5_0, a0_5g_1, a0_5g_2, a0_5g_3, a0_5g_4, a0_5g_5, a0_5g_6, a0_5g_7, a0_5g_8, .int a0_5_9, a0_5g_10, a0_5g_11, .ref a0_5_12, .ref a0_5_13, a0_5g_14])), (a0_5_13, .inl (ka0_5_13, 6, .inl (fa0_5_13)))]) hP hD hS hA [1, 3] (by decide +kernel) rfl (fun hPc hDc hFc hCc => ?_)
        have hKc := hK.sub (tys' := [(ka0_5_13, .int)]) [1] rfl
        refine va_calli (va_runV (As := [.int v29na0_12]) (rest := []) ⟨hx, hb, hml, hown, hts⟩ (f_X0_isSeenMinute l dC dI H.size a0_5 v29na0_12 (.int a0_5_0) a0_5g_1 a0_5g_2 a0_5g_3 a0_5g_4 a0_5g_5 a0_5g_6 a0_5g_7 a0_5g_8 a0_5g_10 a0_5g_11 (.ref a0_5_12) a0_5g_14 a0_5_9 a0_5_13 ka0_5_13 fa0_5_13 ba0_5_9_l ba0_5_9_u bfa0_5_13) (cwV 1 hts gX3_readSeen_X0_isSeenMinute rfl rfl rfl zd_X0_isSeenMinute ⟨Nat.le_of_ble_eq_true rfl, Nat.le_of_ble_eq_true rfl⟩) ⟨ax_blind (fun _ _ _ _ _ => trivial), zr_0 hKc hPc (q0 := 0) rfl, ax_pre hPc hKc hDc (fun _ _ => trivial)⟩ rfl rfl hl.1 rfl (lv_room (Nat.le_of_ble_eq_true rfl)) dX3_readSeen_56 ⟨Nat.le_of_ble_eq_true rfl, Nat.le_of_ble_eq_true rfl⟩) hS (fun q _ h => hFc q h) hFc (fun r56 u t H locs ht hvm hw hB hz1 hk1 hS1 => zo hB ht hS1 (fun hP1 hK1 hD1 hS => ?_))
        refine zc_backc (w := [(a0, .inr (3, [a0g_0, .int v40na0_1, .int v40na0_2, .ref a0_3, a0g_4, .ref a0_5, a0g_6, .int a0_7, .int v29na0_8, .int v29na0_9, .int v29na0_10, .long v29na0_11, .int v29na0_12, .int v13na0_13])), (a0_5, .inr (0, [.int a0_5_0, a0_5g_1, a0_5g_2, a0_5g_3, a0_5g_4, a0_5g_5, a0_5g_6, a0_5g_7, a0_5g_8, .int a0_5_9, a0_5g_10, a0_5g_11, .ref a0_5_12, .ref a0_5_13, a0_5g_14])), (a0_3, .inl (ka0_3, 900, .inl (fa0_3))), (a0_5_13, .inl (ka0_5_13, 6, .inl (fa0_5_13))), (a0_5_12, .inl (ka0_5_12, 6, .inl (fa0_5_12)))]) hP hD hCc hk1 hFc hP1 hD1 [.inl 0, .inr 0, .inl 2, .inr 1, .inl 4] (by decide +kernel) rfl (fun hP hD => ?_)
        obtain ⟨hw, hfr56⟩ := hw
        have hc56 : Ff_X0_isSeenMinute v29na0_12.toInt a0_5_9.toInt (fl_A fa0_5_13) = r56.toInt := hfr56.symm
        have hF0 := hF0.trans (fl_lt_eq hc56.symm)
        rcases hw with hw | hw
        · obtain ⟨hw, h56_0, h56_1, h56_2, h56_3⟩ := hw
          subst hw
          have l56k0_v29na0_12 : (0 : Int) ≤ v29na0_12.toInt := l40k0_v29na0_12
          have u56k0_v29na0_12 : v29na0_12.toInt ≤ (999 : Int) := u40k0_v29na0_12
          have l56k0_a0_5_9 : (1 : Int) ≤ a0_5_9.toInt := h56_2
          have u56k0_a0_5_9 : a0_5_9.toInt ≤ (6 : Int) := ba0_5_9_u
          have hF0 := hF0.trans (if_pos (by decide))
          refine lv_if_eq (tgt := 68) hx hb dX3_readSeen_59 (by decide) (fun c59 => absurd c59 (by decide +kernel)) (fun _ => ?_)
          refine lv_aload_n hx hb dX3_readSeen_62 rfl (lv_at hl 1 rfl) ?_
          refine lv_iconst (v := 3) hx hb dX3_readSeen_63 zk_iconst_3 ?_
          refine va_calli (va_runV (As := [.int 3]) (rest := []) ⟨hx, hb, hml, hown, hts⟩ (f_X3_fails l dC dI H.size a0 3 a0g_0 (.ref a0_3) a0g_4 (.ref a0_5) a0g_6 (.int a0_7) (.int v29na0_9) (.int v29na0_10) (.long v29na0_11) (.int v29na0_12) (.int v13na0_13) v40na0_1 v40na0_2 v29na0_8 bv29na0_8.1 bv29na0_8.2) (cwV 1 hts gX3_readSeen_X3_fails rfl rfl rfl zd_X3_fails ⟨Nat.le_of_ble_eq_true rfl, Nat.le_of_ble_eq_true rfl⟩) ⟨ax_blind (fun _ _ _ _ _ => trivial), zr_3 (zp_K hK) (zp_P1 hP) (q0 := 0) rfl, ax_pre (zp_P1 hP) (zp_K hK) (zp_D1 hD) (fun _ _ => trivial)⟩ rfl rfl hl.1 rfl (lv_room (Nat.le_of_ble_eq_true rfl)) dX3_readSeen_64 ⟨Nat.le_of_ble_eq_true rfl, Nat.le_of_ble_eq_true rfl⟩) hS (fun q _ h => zp_F1 hD hS hA q h) (zp_F1 hD hS hA) (fun r64 u t H locs ht hvm hw => zx_2 (fun v64na0_1 v64na0_2 => zy_1 (fun hraw64_0 hB hz1 hk1 hS1 => zo1 hB ht hP hD hk1 (zp_F1 hD hS hA) hS1 (fun hP hK1 hD hS => ?_))))
          obtain ⟨hw, hfr64⟩ := hw
          rw [show (3 : Int32).toInt = 3 from by decide] at hfr64 hraw64_0
          have hc64 : Ff_X3_fails 3 v29na0_8.toInt = (r64.toInt, v64na0_1.toInt, v64na0_2.toInt) := Prod.ext hfr64.symm hraw64_0
          have hF0 := hF0.trans (fl_c3_eq hc64)
          have hw : r64 = 0 := hw
          have hw := hw.symm
          subst hw
          have hFe : FX = (0, v64na0_1.toInt, v64na0_2.toInt, v29na0_8.toInt, v29na0_9.toInt, v29na0_10.toInt, v29na0_11.toInt, v29na0_12.toInt, v13na0_13.toInt, a0_5_9.toInt, (fl_A fa0_5_13), (fl_A fa0_5_12)) := hF0
          exact W.zret (v := 0) hx hb hr rfl (fun t ht hW => ⟨⟨0, (), rfl, ⟨(Or.inr (rfl)), (congrArg Prod.fst hFe).symm⟩, v64na0_1, v64na0_2, v29na0_8, v29na0_9, v29na0_10, v29na0_11, v29na0_12, v13na0_13, a0_5_9, fa0_5_13, fa0_5_12, ⟨bv29na0_8.1, bv29na0_8.2⟩, ⟨bv29na0_9.1, bv29na0_9.2⟩, ⟨bv29na0_10.1, bv29na0_10.2⟩, ⟨Int.le_trans (by decide) l56k0_a0_5_9, u56k0_a0_5_9⟩, bfa0_5_13, (congrArg Prod.snd hFe), by rw [ht]; exact hP, va_K.moved hW.alike hK, hD⟩, hS.F ht⟩) hS.2.2 dX3_readSeen_67
        · subst hw
          have hF0 := hF0.trans (if_neg (by decide))
          refine lv_if_eq (tgt := 68) hx hb dX3_readSeen_59 (by decide) (fun _ => ?_) (fun c59 => absurd (by decide +kernel) c59)
          refine lv_aload_n hx hb dX3_readSeen_68 rfl (lv_at hl 1 rfl) ?_
          refine va_get (D := (dC, dI)) (ci := 3) (v := .ref a0_5) (C := RX3) (T := TX3) (N := 14) hx hb hts zi_X3_readSeen_3 hown hK hP 0 rfl rfl 5 (by decide) (hts (.fieldLink RX3 22 "WaxTurns$Reade\x72" "draft" "LWaxTurns$Hall;") (zm_X3_readSeen_r1 (List.mem_of_getElem? (i := 0) rfl))) (fun _ h9 => h9) rfl dX3_readSeen_69 ?_
          refine lv_iload_n hx hb dX3_readSeen_72 rfl (lv_at hl 0 rfl) ?_
          refine lv_aload_n hx hb dX3_readSeen_73 rfl (lv_at hl 1 rfl) ?_
          refine va_get (D := (dC, dI)) (ci := 3) (v := .int v29na0_12) (C := RX3) (T := TX3) (N := 14) hx hb hts zi_X3_readSeen_3 hown hK hP 0 rfl rfl 12 (by decide) (hts (.fieldLink RX3 85 "WaxTurns$Reade\x72" "whole" "I") (zm_X3_readSeen_r1 (List.mem_of_getElem? (i := 3) rfl))) (fun _ h9 => h9) rfl dX3_readSeen_74 ?_
          refine zc_cutc (wc := [(a0_5, .inr (0, [.int a0_5_0, a0_5g_1, a0_5g_2, a0_5g_3, a0_5g_4, a0_5g_5, a0_5g_6, a0_5g_7, a0_5g_8, .int a0_5_9, a0_5g_10, a0_5g_11, .ref a0_5_12, .ref a0_5_13, a0_5g_14])), (a0_5_12, .inl (ka0_5_12, 6, .inl (fa0_5_12))), (a0_5_13, .inl (ka0_5_13, 6, .inl (fa0_5_13)))]) hP hD hS hA [1, 4, 3] (by decide +kernel) rfl (fun hPc hDc hFc hCc => ?_)
          have hKc := hK.sub (tys' := [(ka0_5_12, .int), (ka0_5_13, .int)]) [2, 1] rfl
          refine va_callv (va_runV (As := [.int v13na0_13, .int v29na0_12]) (rest := []) ⟨hx, hb, hml, hown, hts⟩ (f_X0_addSeen l dC dI H.size a0_5 v13na0_13 v29na0_12 (.int a0_5_0) a0_5g_1 a0_5g_2 a0_5g_3 a0_5g_4 a0_5g_5 a0_5g_6 a0_5g_7 a0_5g_8 a0_5g_10 a0_5g_11 a0_5g_14 a0_5_9 a0_5_12 a0_5_13 ka0_5_12 fa0_5_12 ka0_5_13 fa0_5_13 l40k0_v29na0_12 u40k0_v29na0_12 ba0_5_9_l ba0_5_9_u bfa0_5_13) (cwV 2 hts gX3_readSeen_X0_addSeen rfl rfl rfl zd_X0_addSeen ⟨Nat.le_of_ble_eq_true rfl, Nat.le_of_ble_eq_true rfl⟩) ⟨ax_blind (fun _ _ _ _ _ => trivial), zr_0 hKc hPc (q0 := 0) rfl, ax_pre hPc hKc hDc (fun _ _ => trivial)⟩ rfl rfl hl.1 rfl (lv_room (Nat.le_of_ble_eq_true rfl)) dX3_readSeen_77 ⟨Nat.le_of_ble_eq_true rfl, Nat.le_of_ble_eq_true rfl⟩) hS (fun q _ h => hFc q h) hFc (fun u t H locs ht hvm hw => zx_3 (fun v77na0_9 v77nfa0_12 v77nfa0_13 => zy_3 (fun bv77na0_9 bv77nfa0_13 hraw77_0 hB hz1 hk1 hS1 => zo hB ht hS1 (fun hP1 hK1 hD1 hS => ?_))))
          refine zc_backc (w := [(a0, .inr (3, [a0g_0, .int v40na0_1, .int v40na0_2, .ref a0_3, a0g_4, .ref a0_5, a0g_6, .int a0_7, .int v29na0_8, .int v29na0_9, .int v29na0_10, .long v29na0_11, .int v29na0_12, .int v13na0_13])), (a0_5, .inr (0, [.int a0_5_0, a0_5g_1, a0_5g_2, a0_5g_3, a0_5g_4, a0_5g_5, a0_5g_6, a0_5g_7, a0_5g_8, .int v77na0_9, a0_5g_10, a0_5g_11, .ref a0_5_12, .ref a0_5_13, a0_5g_14])), (a0_3, .inl (ka0_3, 900, .inl (fa0_3))), (a0_5_13, .inl (ka0_5_13, 6, .inl (v77nfa0_13))), (a0_5_12, .inl (ka0_5_12, 6, .inl (v77nfa0_12)))]) hP hD hCc hk1 hFc hP1 hD1 [.inl 0, .inr 0, .inl 2, .inr 2, .inr 1] (by decide +kernel) rfl (fun hP hD => ?_)
          have hc77 : Ff_X0_addSeen v13na0_13.toInt v29na0_12.toInt a0_5_9.toInt (fl_A fa0_5_12) (fl_A fa0_5_13) = (v77na0_9.toInt, (fl_A v77nfa0_12), (fl_A v77nfa0_13)) := hraw77_0
          have hF0 := hF0.trans (fl_c3_eq hc77)
          refine lv_aload_n hx hb dX3_readSeen_80 rfl (lv_at hl 1 rfl) ?_
          refine zc_cutc (wc := [(a0, .inr (3, [a0g_0, .int v40na0_1, .int v40na0_2, .ref a0_3, a0g_4, .ref a0_5, a0g_6, .int a0_7, .int v29na0_8, .int v29na0_9, .int v29na0_10, .long v29na0_11, .int v29na0_12, .int v13na0_13])), (a0_3, .inl (ka0_3, 900, .inl (fa0_3)))]) hP hD hS hA [0, 2] (by decide +kernel) rfl (fun hPc hDc hFc hCc => ?_)
          have hKc := hK.sub (tys' := [(ka0_3, .byte)]) [0] rfl
          refine va_callv (va_runV (As := []) (rest := []) ⟨hx, hb, hml, hown, hts⟩ (f_X3_advance l dC dI H.size a0 a0g_0 (.int v40na0_1) (.int v40na0_2) a0g_4 (.ref a0_5) a0g_6 (.int v13na0_13) a0_3 a0_7 v29na0_8 v29na0_9 v29na0_10 v29na0_11 v29na0_12 ka0_3 fa0_3 ba0_7_l ba0_7_u bv29na0_8.1 bv29na0_8.2 bv29na0_9.1 bv29na0_9.2 bv29na0_10.1 bv29na0_10.2) (cwV 0 hts gX3_readSeen_X3_advance rfl rfl rfl zd_X3_advance ⟨Nat.le_of_ble_eq_true rfl, Nat.le_of_ble_eq_true rfl⟩) ⟨ax_blind (fun _ _ _ _ _ => trivial), zr_3 hKc hPc (q0 := 0) rfl, ax_pre hPc hKc hDc (fun _ _ => trivial)⟩ rfl rfl hl.1 rfl (lv_room (Nat.le_of_ble_eq_true rfl)) dX3_readSeen_81 ⟨Nat.le_of_ble_eq_true rfl, Nat.le_of_ble_eq_true rfl⟩) hS (fun q _ h => hFc q h) hFc (fun u t H locs ht hvm hw => zx_5 (fun v81na0_8 v81na0_9 v81na0_10 v81na0_11 v81na0_12 => zy_4 (fun bv81na0_8 bv81na0_9 bv81na0_10 hraw81_0 hB hz1 hk1 hS1 => zo hB ht hS1 (fun hP1 hK1 hD1 hS => ?_))))
          refine zc_backc (w := [(a0, .inr (3, [a0g_0, .int v40na0_1, .int v40na0_2, .ref a0_3, a0g_4, .ref a0_5, a0g_6, .int a0_7, .int v81na0_8, .int v81na0_9, .int v81na0_10, .long v81na0_11, .int v81na0_12, .int v13na0_13])), (a0_5, .inr (0, [.int a0_5_0, a0_5g_1, a0_5g_2, a0_5g_3, a0_5g_4, a0_5g_5, a0_5g_6, a0_5g_7, a0_5g_8, .int v77na0_9, a0_5g_10, a0_5g_11, .ref a0_5_12, .ref a0_5_13, a0_5g_14])), (a0_3, .inl (ka0_3, 900, .inl (fa0_3))), (a0_5_13, .inl (ka0_5_13, 6, .inl (v77nfa0_13))), (a0_5_12, .inl (ka0_5_12, 6, .inl (v77nfa0_12)))]) hP hD hCc hk1 hFc hP1 hD1 [.inr 0, .inl 1, .inr 1, .inl 3, .inl 4] (by decide +kernel) rfl (fun hP hD => ?_)
          have hc81 : Ff_X3_advance a0_7.toInt v29na0_9.toInt v29na0_11.toInt v29na0_12.toInt (fl_A fa0_3) = (v81na0_8.toInt, v81na0_9.toInt, v81na0_10.toInt, v81na0_11.toInt, v81na0_12.toInt) := hraw81_0
          have hF0 := hF0.trans (fl_c5_eq hc81)
          refine lv_iconst (v := 1) hx hb dX3_readSeen_84 zk_iconst_1 ?_
          have hFe : FX = (1, v40na0_1.toInt, v40na0_2.toInt, v81na0_8.toInt, v81na0_9.toInt, v81na0_10.toInt, v81na0_11.toInt, v81na0_12.toInt, v13na0_13.toInt, v77na0_9.toInt, (fl_A v77nfa0_13), (fl_A v77nfa0_12)) := hF0
          exact W.zret (v := 1) hx hb hr rfl (fun t ht hW => ⟨⟨1, (), rfl, ⟨(Or.inl (rfl)), (congrArg Prod.fst hFe).symm⟩, v40na0_1, v40na0_2, v81na0_8, v81na0_9, v81na0_10, v81na0_11, v81na0_12, v13na0_13, v77na0_9, v77nfa0_13, v77nfa0_12, ⟨bv81na0_8.1, bv81na0_8.2⟩, ⟨bv81na0_9.1, bv81na0_9.2⟩, ⟨bv81na0_10.1, bv81na0_10.2⟩, ⟨bv77na0_9.1, bv77na0_9.2⟩, bv77nfa0_13, (congrArg Prod.snd hFe), by rw [ht]; exact hP, va_K.moved hW.alike hK, hD⟩, hS.F ht⟩) hS.2.2 dX3_readSeen_85
      · subst hw
        have hF0 := hF0.trans (if_neg (by decide))
        refine lv_if_ne (tgt := 48) hx hb dX3_readSeen_43 (by decide) (fun c43 => absurd (by decide +kernel) c43) (fun _ => ?_)
        refine lv_iconst (v := 0) hx hb dX3_readSeen_46 zk_iconst_0 ?_
        have hFe : FX = (0, v40na0_1.toInt, v40na0_2.toInt, v29na0_8.toInt, v29na0_9.toInt, v29na0_10.toInt, v29na0_11.toInt, v29na0_12.toInt, v13na0_13.toInt, a0_5_9.toInt, (fl_A fa0_5_13), (fl_A fa0_5_12)) := hF0
        exact W.zret (v := 0) hx hb hr rfl (fun t ht hW => ⟨⟨0, (), rfl, ⟨(Or.inr (rfl)), (congrArg Prod.fst hFe).symm⟩, v40na0_1, v40na0_2, v29na0_8, v29na0_9, v29na0_10, v29na0_11, v29na0_12, v13na0_13, a0_5_9, fa0_5_13, fa0_5_12, ⟨bv29na0_8.1, bv29na0_8.2⟩, ⟨bv29na0_9.1, bv29na0_9.2⟩, ⟨bv29na0_10.1, bv29na0_10.2⟩, ⟨ba0_5_9_l, ba0_5_9_u⟩, bfa0_5_13, (congrArg Prod.snd hFe), by rw [ht]; exact hP, va_K.moved hW.alike hK, hD⟩, hS.F ht⟩) hS.2.2 dX3_readSeen_47
    · subst hw
      have hF0 := hF0.trans (if_neg (by decide))
      refine lv_if_eq (tgt := 46) hx hb dX3_readSeen_32 (by decide) (fun _ => ?_) (fun c32 => absurd (by decide +kernel) c32)
      refine lv_iconst (v := 0) hx hb dX3_readSeen_46 zk_iconst_0 ?_
      have hFe : FX = (0, v29na0_1.toInt, v29na0_2.toInt, v29na0_8.toInt, v29na0_9.toInt, v29na0_10.toInt, v29na0_11.toInt, v29na0_12.toInt, v13na0_13.toInt, a0_5_9.toInt, (fl_A fa0_5_13), (fl_A fa0_5_12)) := hF0
      exact W.zret (v := 0) hx hb hr rfl (fun t ht hW => ⟨⟨0, (), rfl, ⟨(Or.inr (rfl)), (congrArg Prod.fst hFe).symm⟩, v29na0_1, v29na0_2, v29na0_8, v29na0_9, v29na0_10, v29na0_11, v29na0_12, v13na0_13, a0_5_9, fa0_5_13, fa0_5_12, ⟨bv29na0_8.1, bv29na0_8.2⟩, ⟨bv29na0_9.1, bv29na0_9.2⟩, ⟨bv29na0_10.1, bv29na0_10.2⟩, ⟨ba0_5_9_l, ba0_5_9_u⟩, bfa0_5_13, (congrArg Prod.snd hFe), by rw [ht]; exact hP, va_K.moved hW.alike hK, hD⟩, hS.F ht⟩) hS.2.2 dX3_readSeen_47
  · subst hw
    have hF0 := hF0.trans (if_neg (by decide))
    refine lv_if_ne (tgt := 21) hx hb dX3_readSeen_16 (by decide) (fun c16 => absurd (by decide +kernel) c16) (fun _ => ?_)
    refine lv_iconst (v := 0) hx hb dX3_readSeen_19 zk_iconst_0 ?_
    have hFe : FX = (0, v13na0_1.toInt, v13na0_2.toInt, v13na0_8.toInt, v13na0_9.toInt, v13na0_10.toInt, v13na0_11.toInt, v13na0_12.toInt, v13na0_13.toInt, a0_5_9.toInt, (fl_A fa0_5_13), (fl_A fa0_5_12)) := hF0
    exact W.zret (v := 0) hx hb hr rfl (fun t ht hW => ⟨⟨0, (), rfl, ⟨(Or.inr (rfl)), (congrArg Prod.fst hFe).symm⟩, v13na0_1, v13na0_2, v13na0_8, v13na0_9, v13na0_10, v13na0_11, v13na0_12, v13na0_13, a0_5_9, fa0_5_13, fa0_5_12, ⟨bv13na0_8.1, bv13na0_8.2⟩, ⟨bv13na0_9.1, bv13na0_9.2⟩, ⟨bv13na0_10.1, bv13na0_10.2⟩, ⟨ba0_5_9_l, ba0_5_9_u⟩, bfa0_5_13, (congrArg Prod.snd hFe), by rw [ht]; exact hP, va_K.moved hW.alike hK, hD⟩, hS.F ht⟩) hS.2.2 dX3_readSeen_20

set_option maxHeartbeats 4000000 in
set_option maxRecDepth 100000 in
theorem f_X3_readLine (l : Launch) (dC : Nat → ClassId) (dI : Nat → Nat → Nat) (sz : Nat) (a0 : Nat) (a0g_0 : Value) (a0_1 : Int32) (a0_2 : Int32) (a0_3 : Nat) (a0_4 : Nat) (a0_5 : Nat) (a0_6 : Int32) (a0_7 : Int32) (a0_8 : Int32) (a0_9 : Int32) (a0_10 : Int32) (a0_11 : Int64) (a0_12 : Int32) (a0_13 : Int32) (a0_5_0 : Int32) (a0_5_1 : Int32) (a0_5_2 : Int32) (a0_5_3 : Int32) (a0_5_4 : Int32) (a0_5_5 : Int32) (a0_5_6 : Int32) (a0_5_7 : Int32) (a0_5_8 : Int32) (a0_5_9 : Int32) (a0_5_10 : Nat) (a0_5_11 : Nat) (a0_5_12 : Nat) (a0_5_13 : Nat) (a0_5_14 : Nat) (ka0_3 : ClassId) (fa0_3 : Nat → Int32) (ka0_4 : ClassId) (fa0_4 : Nat → Int64) (ka0_5_10 : ClassId) (fa0_5_10 : Nat → Int32) (ka0_5_11 : ClassId) (fa0_5_11 : Nat → Int32) (a0_5_14_0 : Int32) (a0_5_14g_1 : Value) (a0_5_14_2 : Nat) (a0_5_14_3 : Nat) (ka0_5_14_2 : ClassId) (fa0_5_14_2 : Nat → Int32) (ka0_5_14_3 : ClassId) (fa0_5_14_3 : Nat → Int32) (ka0_5_13 : ClassId) (fa0_5_13 : Nat → Int32) (ka0_5_12 : ClassId) (fa0_5_12 : Nat → Int32) (ad : Nat → Nat) (ba0_6_l : (0 : Int) ≤ a0_6.toInt) (ba0_6_u : a0_6.toInt ≤ (12 : Int)) (ba0_7_l : (0 : Int) ≤ a0_7.toInt) (ba0_7_u : a0_7.toInt ≤ (900 : Int)) (ba0_8_l : (0 : Int) ≤ a0_8.toInt) (ba0_8_u : a0_8.toInt ≤ (900 : Int)) (ba0_9_l : (0 : Int) ≤ a0_9.toInt) (ba0_9_u : a0_9.toInt ≤ (900 : Int)) (ba0_10_l : (0 : Int) ≤ a0_10.toInt) (ba0_10_u : a0_10.toInt ≤ (4 : Int)) (ba0_5_0_l : (0 : Int) ≤ a0_5_0.toInt) (ba0_5_0_u : a0_5_0.toInt ≤ (9 : Int)) (ba0_5_4_l : (0 : Int) ≤ a0_5_4.toInt) (ba0_5_4_u : a0_5_4.toInt ≤ (1 : Int)) (ba0_5_5_l : (0 : Int) ≤ a0_5_5.toInt) (ba0_5_5_u : a0_5_5.toInt ≤ (8 : Int)) (ba0_5_6_l : (0 : Int) ≤ a0_5_6.toInt) (ba0_5_6_u : a0_5_6.toInt ≤ (8 : Int)) (ba0_5_7_l : (0 : Int) ≤ a0_5_7.toInt) (ba0_5_7_u : a0_5_7.toInt ≤ (8 : Int)) (ba0_5_9_l : (0 : Int) ≤ a0_5_9.toInt) (ba0_5_9_u : a0_5_9.toInt ≤ (6 : Int)) (ba0_5_14_0_l : (0 : Int) ≤ a0_5_14_0.toInt) (ba0_5_14_0_u : a0_5_14_0.toInt ≤ (3 : Int)) (bfa0_5_14_2 : (∀ k, (0 : Int) ≤ (fa0_5_14_2 k).toInt ∧ (fa0_5_14_2 k).toInt ≤ 80)) (bfa0_5_14_3 : (∀ k, (0 : Int) ≤ (fa0_5_14_3 k).toInt ∧ (fa0_5_14_3 k).toInt ≤ 80)) (bfa0_5_13 : (∀ k, (0 : Int) ≤ (fa0_5_13 k).toInt ∧ (fa0_5_13 k).toInt ≤ 999)) : zm l yX3_readLine wsX3_readLine ({ frames := 7, cells := 0, slots := 0, locals := 154 }) [.ref a0] dC dI sz [(a0, .inr (3, [a0g_0, .int a0_1, .int a0_2, .ref a0_3, .ref a0_4, .ref a0_5, .int a0_6, .int a0_7, .int a0_8, .int a0_9, .int a0_10, .long a0_11, .int a0_12, .int a0_13])), (a0_5, .inr (0, [.int a0_5_0, .int a0_5_1, .int a0_5_2, .int a0_5_3, .int a0_5_4, .int a0_5_5, .int a0_5_6, .int a0_5_7, .int a0_5_8, .int a0_5_9, .ref a0_5_10, .ref a0_5_11, .ref a0_5_12, .ref a0_5_13, .ref a0_5_14])), (a0_3, .inl (ka0_3, 900, .inl (fa0_3))), (a0_4, .inl (ka0_4, 12, .inr (.inl (fa0_4)))), (a0_5_10, .inl (ka0_5_10, 9, .inl (fa0_5_10))), (a0_5_11, .inl (ka0_5_11, 9, .inl (fa0_5_11))), (a0_5_14, .inr (6, [.int a0_5_14_0, a0_5_14g_1, .ref a0_5_14_2, .ref a0_5_14_3])), (a0_5_14_2, .inl (ka0_5_14_2, 3, .inl (fa0_5_14_2))), (a0_5_14_3, .inl (ka0_5_14_3, 3, .inl (fa0_5_14_3))), (a0_5_13, .inl (ka0_5_13, 6, .inl (fa0_5_13))), (a0_5_12, .inl (ka0_5_12, 6, .inl (fa0_5_12)))] [(ka0_3, .byte), (ka0_4, .long), (ka0_5_10, .int), (ka0_5_11, .int), (ka0_5_14_2, .int), (ka0_5_14_3, .int), (ka0_5_13, .int), (ka0_5_12, .int)] (fun A U => sxc_T ad A U ∧ va_Nw (.methodLinkNest RX3 223 yX7_within RX7) U ∧ va_Nw (.methodLinkNest RX3 196 yX7_hasBit RX7) U) (fun A => va_Qi (fun (r : Int32) (_ : Unit) => ((r = 1) ∨ (r = 0)) ∧ r.toInt = (Ff_X3_readLine a0_1.toInt a0_2.toInt a0_6.toInt a0_7.toInt a0_8.toInt a0_9.toInt a0_10.toInt a0_11.toInt a0_12.toInt a0_13.toInt a0_5_0.toInt a0_5_1.toInt a0_5_2.toInt a0_5_3.toInt a0_5_4.toInt a0_5_5.toInt a0_5_6.toInt a0_5_7.toInt a0_5_8.toInt a0_5_9.toInt (fl_A fa0_3) (fl_L fa0_4) (fl_A fa0_5_10) (fl_A fa0_5_11) a0_5_14_0.toInt (fl_A fa0_5_14_2) (fl_A fa0_5_14_3) (fl_A fa0_5_13) (fl_A fa0_5_12)).1) (fun (_ : Unit) (t : State) => ∃ na0_1 : Int32, ∃ na0_2 : Int32, ∃ na0_6 : Int32, ∃ na0_8 : Int32, ∃ na0_9 : Int32, ∃ na0_10 : Int32, ∃ na0_11 : Int64, ∃ na0_12 : Int32, ∃ na0_13 : Int32, ∃ na0_5_0 : Int32, ∃ na0_5_1 : Int32, ∃ na0_5_2 : Int32, ∃ na0_5_3 : Int32, ∃ na0_5_4 : Int32, ∃ na0_5_5 : Int32, ∃ na0_5_6 : Int32, ∃ na0_5_7 : Int32, ∃ na0_5_8 : Int32, ∃ na0_5_9 : Int32, ∃ nfa0_4 : Nat → Int64, ∃ nfa0_5_10 : Nat → Int32, ∃ nfa0_5_11 : Nat → Int32, ∃ na0_5_14_0 : Int32, ∃ nfa0_5_14_2 : Nat → Int32, ∃ nfa0_5_14_3 : Nat → Int32, ∃ nfa0_5_13 : Nat → Int32, ∃ nfa0_5_12 : Nat → Int32, ((0 : Int) ≤ na0_6.toInt ∧ na0_6.toInt ≤ 12) ∧ ((0 : Int) ≤ na0_8.toInt ∧ na0_8.toInt ≤ 900) ∧ ((0 : Int) ≤ na0_9.toInt ∧ na0_9.toInt ≤ 900) ∧ ((0 : Int) ≤ na0_10.toInt ∧ na0_10.toInt ≤ 4) ∧ ((0 : Int) ≤ na0_5_0.toInt ∧ na0_5_0.toInt ≤ 9) ∧ ((0 : Int) ≤ na0_5_4.toInt ∧ na0_5_4.toInt ≤ 1) ∧ ((0 : Int) ≤ na0_5_5.toInt ∧ na0_5_5.toInt ≤ 8) ∧ ((0 : Int) ≤ na0_5_6.toInt ∧ na0_5_6.toInt ≤ 8) ∧ ((0 : Int) ≤ na0_5_7.toInt ∧ na0_5_7.toInt ≤ 8) ∧ ((0 : Int) ≤ na0_5_9.toInt ∧ na0_5_9.toInt ≤ 6) ∧ ((0 : Int) ≤ na0_5_14_0.toInt ∧ na0_5_14_0.toInt ≤ 3) ∧ (∀ k, (0 : Int) ≤ (nfa0_5_14_2 k).toInt ∧ (nfa0_5_14_2 k).toInt ≤ 80) ∧ (∀ k, (0 : Int) ≤ (nfa0_5_14_3 k).toInt ∧ (nfa0_5_14_3 k).toInt ≤ 80) ∧ (∀ k, (0 : Int) ≤ (nfa0_5_13 k).toInt ∧ (nfa0_5_13 k).toInt ≤ 999) ∧ ((Ff_X3_readLine a0_1.toInt a0_2.toInt a0_6.toInt a0_7.toInt a0_8.toInt a0_9.toInt a0_10.toInt a0_11.toInt a0_12.toInt a0_13.toInt a0_5_0.toInt a0_5_1.toInt a0_5_2.toInt a0_5_3.toInt a0_5_4.toInt a0_5_5.toInt a0_5_6.toInt a0_5_7.toInt a0_5_8.toInt a0_5_9.toInt (fl_A fa0_3) (fl_L fa0_4) (fl_A fa0_5_10) (fl_A fa0_5_11) a0_5_14_0.toInt (fl_A fa0_5_14_2) (fl_A fa0_5_14_3) (fl_A fa0_5_13) (fl_A fa0_5_12)).2 = (na0_1.toInt, na0_2.toInt, na0_6.toInt, na0_8.toInt, na0_9.toInt, na0_10.toInt, na0_11.toInt, na0_12.toInt, na0_13.toInt, na0_5_0.toInt, na0_5_1.toInt, na0_5_2.toInt, na0_5_3.toInt, na0_5_4.toInt, na0_5_5.toInt, na0_5_6.toInt, na0_5_7.toInt, na0_5_8.toInt, na0_5_9.toInt, (fl_L nfa0_4), (fl_A nfa0_5_10), (fl_A nfa0_5_11), na0_5_14_0.toInt, (fl_A nfa0_5_14_2), (fl_A nfa0_5_14_3), (fl_A nfa0_5_13), (fl_A nfa0_5_12))) ∧ ax_B dC dI A [(a0, .inr (3, [a0g_0, .int na0_1, .int na0_2, .ref a0_3, .ref a0_4, .ref a0_5, .int na0_6, .int a0_7, .int na0_8, .int na0_9, .int na0_10, .long na0_11, .int na0_12, .int na0_13])), (a0_5, .inr (0, [.int na0_5_0, .int na0_5_1, .int na0_5_2, .int na0_5_3, .int na0_5_4, .int na0_5_5, .int na0_5_6, .int na0_5_7, .int na0_5_8, .int na0_5_9, .ref a0_5_10, .ref a0_5_11, .ref a0_5_12, .ref a0_5_13, .ref a0_5_14])), (a0_3, .inl (ka0_3, 900, .inl (fa0_3))), (a0_4, .inl (ka0_4, 12, .inr (.inl (nfa0_4)))), (a0_5_10, .inl (ka0_5_10, 9, .inl (nfa0_5_10))), (a0_5_11, .inl (ka0_5_11, 9, .inl (nfa0_5_11))), (a0_5_14, .inr (6, [.int na0_5_14_0, a0_5_14g_1, .ref a0_5_14_2, .ref a0_5_14_3])), (a0_5_14_2, .inl (ka0_5_14_2, 3, .inl (nfa0_5_14_2))), (a0_5_14_3, .inl (ka0_5_14_3, 3, .inl (nfa0_5_14_3))), (a0_5_13, .inl (ka0_5_13, 6, .inl (nfa0_5_13))), (a0_5_12, .inl (ka0_5_12, 6, .inl (nfa0_5_12)))] [(ka0_3, .byte), (ka0_4, .long), (ka0_5_10, .int), (ka0_5_11, .int), (ka0_5_14_2, .int), (ka0_5_14_3, .int), (ka0_5_13, .int), (ka0_5_12, .int)] t) A) := by
  refine zh (cc := cX3_readLine) (maxL := 1) (ret := (some .boolean)) zn_RX3 rfl (Nat.le_of_ble_eq_true rfl) (fun p e s m below meth c A ls hx hb hml hr hts (hown : s.vm.findClass RX3 = some m.cls) hlocks hA hS hP hK hD hE (hl : lv_has ls 1 [(0, .ref a0)]) => ?_)
  obtain ⟨hE0, hE1, hE2⟩ := hE
  generalize hFX : Ff_X3_readLine a0_1.toInt a0_2.toInt a0_6.toInt a0_7.toInt a0_8.toInt a0_9.toInt a0_10.toInt a0_11.toInt a0_12.toInt a0_13.toInt a0_5_0.toInt a0_5_1.toInt a0_5_2.toInt a0_5_3.toInt a0_5_4.toInt a0_5_5.toInt a0_5_6.toInt a0_5_7.toInt a0_5_8.toInt a0_5_9.toInt (fl_A fa0_3) (fl_L fa0_4) (fl_A fa0_5_10) (fl_A fa0_5_11) a0_5_14_0.toInt (fl_A fa0_5_14_2) (fl_A fa0_5_14_3) (fl_A fa0_5_13) (fl_A fa0_5_12) = FX at ⊢
  have hF0 := hFX.symm.trans (Ff_X3_readLine.eq_1 a0_1.toInt a0_2.toInt a0_6.toInt a0_7.toInt a0_8.toInt a0_9.toInt a0_10.toInt a0_11.toInt a0_12.toInt a0_13.toInt a0_5_0.toInt a0_5_1.toInt a0_5_2.toInt a0_5_3.toInt a0_5_4.toInt a0_5_5.toInt a0_5_6.toInt a0_5_7.toInt a0_5_8.toInt a0_5_9.toInt (fl_A fa0_3) (fl_L fa0_4) (fl_A fa0_5_10) (fl_A fa0_5_11) a0_5_14_0.toInt (fl_A fa0_5_14_2) (fl_A fa0_5_14_3) (fl_A fa0_5_13) (fl_A fa0_5_12))
  refine ai_open (fun K hK0 => ?_)
  refine (hK0 _ _ _).mpr ?_
  refine lv_aload_n hx hb dX3_readLine_0 rfl (lv_at hl 0 rfl) ?_
  refine va_ldcS hx hb hown (sxc_R0 hE0) dX3_readLine_1 ?_
  refine va_calli (va_runV (As := [.ref (ad 0)]) (rest := []) ⟨hx, hb, hml, hown, hts⟩ (f_X3_isWord l dC dI s.heap.size a0 (ad 0) a0g_0 (.int a0_1) (.int a0_2) (.ref a0_3) (.ref a0_4) (.ref a0_5) (.int a0_6) (.int a0_7) (.int a0_8) (.int a0_9) (.int a0_12) (.int a0_13) a0_10 a0_11 7 (sxc 0) ba0_10_l ba0_10_u) (cwV 1 hts gX3_readLine_X3_isWord rfl rfl rfl zd_X3_isWord ⟨Nat.le_of_ble_eq_true rfl, Nat.le_of_ble_eq_true rfl⟩) ⟨ax_blind (fun _ _ _ _ hq => sxc_W_same _ _ _ _ (hq)), zr_3 (zp_K hK) (zp_P1 hP) (q0 := 0) rfl, ax_preE (zp_P1 hP) (zp_K hK) (zp_D1 hD) (fun U hU hW => sxc_W_to (sxc_T_w hE0 (i := 0) (by decide)) hS.2.1 (zp_F1 hD hS hA) hU hW)⟩ rfl rfl hl.1 rfl (lv_room (Nat.le_of_ble_eq_true rfl)) dX3_readLine_3 ⟨Nat.le_of_ble_eq_true rfl, Nat.le_of_ble_eq_true rfl⟩) hS (fun q _ h => zp_F1 hD hS hA q h) (zp_F1 hD hS hA) (fun r3 u t H locs ht hvm hw hB hz1 hk1 hS1 => zo1 hB ht hP hD hk1 (zp_F1 hD hS hA) hS1 (fun hP hK1 hD hS => ?_))
  obtain ⟨hw, hfr3⟩ := hw
  rw [show ((7 : Nat) : Int) = 7 from rfl] at hfr3
  have hc3 : Ff_X3_isWord a0_10.toInt a0_11.toInt 7 (fl_A (sxc 0)) = r3.toInt := hfr3.symm
  have hF0 := hF0.trans (fl_lt_eq hc3.symm)
  rcases hw with hw | hw
  · obtain ⟨hw, h3_0, h3_1⟩ := hw
    subst hw
    have l3k0_a0_10 : (1 : Int) ≤ a0_10.toInt := h3_0
    have u3k0_a0_10 : a0_10.toInt ≤ (1 : Int) := h3_1
    have hF0 := hF0.trans (if_pos (by decide))
    refine lv_if_eq (tgt := 32) hx hb dX3_readLine_6 (by decide) (fun c6 => absurd c6 (by decide +kernel)) (fun _ => ?_)
    refine lv_aload_n hx hb dX3_readLine_9 rfl (lv_at hl 0 rfl) ?_
    refine va_get (D := (dC, dI)) (ci := 3) (v := .ref a0_5) (C := RX3) (T := TX3) (N := 14) hx hb hts zi_X3_readLine_3 hown hK hP 0 rfl rfl 5 (by decide) (hts (.fieldLink RX3 22 "WaxTurns$Reade\x72" "draft" "LWaxTurns$Hall;") (zm_X3_readLine_r1 (List.mem_of_getElem? (i := 0) rfl))) (fun _ h9 => h9) rfl dX3_readLine_10 ?_
    refine va_get (D := (dC, dI)) (ci := 0) (v := .int a0_5_0) (C := RX0) (T := TX0) (N := 15) hx hb hts zi_X3_readLine_0 hown hK hP 1 rfl rfl 0 (by decide) (hts (.fieldLink RX3 104 "WaxTurns$Hall" "figures" "I") (zm_X3_readLine_r1 (List.mem_of_getElem? (i := 1) rfl))) (fun _ h9 => h9) rfl dX3_readLine_13 ?_
    refine lv_if_le (tgt := 27) hx hb dX3_readLine_16 (by decide) (fun c16 => ?_) (fun c16 => ?_)
    · have gc16 := ai_le c16
      have u16t_a0_5_0 : a0_5_0.toInt ≤ (0 : Int) := Int.le_trans gc16 zq6
      have hF0 := hF0.trans (if_pos (show a0_5_0.toInt ≤ 0 from gc16))
      refine lv_aload_n hx hb dX3_readLine_27 rfl (lv_at hl 0 rfl) ?_
      refine zc_cutc (wc := [(a0, .inr (3, [a0g_0, .int a0_1, .int a0_2, .ref a0_3, .ref a0_4, .ref a0_5, .int a0_6, .int a0_7, .int a0_8, .int a0_9, .int a0_10, .long a0_11, .int a0_12, .int a0_13])), (a0_3, .inl (ka0_3, 900, .inl (fa0_3))), (a0_5, .inr (0, [.int a0_5_0, .int a0_5_1, .int a0_5_2, .int a0_5_3, .int a0_5_4, .int a0_5_5, .int a0_5_6, .int a0_5_7, .int a0_5_8, .int a0_5_9, .ref a0_5_10, .ref a0_5_11, .ref a0_5_12, .ref a0_5_13, .ref a0_5_14]))]) hP hD hS hA [0, 2, 1] (by decide +kernel) rfl (fun hPc hDc hFc hCc => ?_)
      have hKc := hK.sub (tys' := [(ka0_3, .byte)]) [0] rfl
      refine va_calli (va_runV (As := []) (rest := []) ⟨hx, hb, hml, hown, hts⟩ (f_X3_readHall l dC dI H.size a0 a0g_0 (.ref a0_4) (.int a0_6) a0_1 a0_2 a0_3 a0_5 a0_7 a0_8 a0_9 a0_10 a0_11 a0_12 a0_13 ka0_3 fa0_3 a0_5_0 a0_5_1 a0_5_2 a0_5_3 (.int a0_5_4) (.int a0_5_5) (.int a0_5_6) (.int a0_5_7) (.int a0_5_8) (.int a0_5_9) (.ref a0_5_10) (.ref a0_5_11) (.ref a0_5_12) (.ref a0_5_13) (.ref a0_5_14) ad ba0_7_l ba0_7_u ba0_8_l ba0_8_u ba0_9_l ba0_9_u (Int.le_trans zq4 l3k0_a0_10) (Int.le_trans u3k0_a0_10 zq137) ba0_5_0_l (Int.le_trans u16t_a0_5_0 zq7)) (cwV 0 hts gX3_readLine_X3_readHall rfl rfl rfl zd_X3_readHall ⟨Nat.le_of_ble_eq_true rfl, Nat.le_of_ble_eq_true rfl⟩) ⟨ax_blind (fun _ _ _ _ hq => ⟨sxc_T_same _ _ _ _ (hq.1), va_Nw.same rfl rfl (hq.2)⟩), zr_3 hKc hPc (q0 := 0) rfl, ax_preE hPc hKc hDc (fun U hU hW => ⟨sxc_T_to hE0 hS.2.1 hFc hU hW, va_Nw.warmM hW hE1⟩)⟩ rfl rfl hl.1 rfl (lv_room (Nat.le_of_ble_eq_true rfl)) dX3_readLine_28 ⟨Nat.le_of_ble_eq_true rfl, Nat.le_of_ble_eq_true rfl⟩) hS (fun q _ h => hFc q h) hFc (fun r28 u t H locs ht hvm hw => zx_12 (fun v28na0_1 v28na0_2 v28na0_8 v28na0_9 v28na0_10 v28na0_11 v28na0_12 v28na0_13 v28na0_5_0 v28na0_5_1 v28na0_5_2 v28na0_5_3 => zy_5 (fun bv28na0_8 bv28na0_9 bv28na0_10 bv28na0_5_0 hraw28_0 hB hz1 hk1 hS1 => zo hB ht hS1 (fun hP1 hK1 hD1 hS => ?_))))
      refine zc_backc (w := [(a0, .inr (3, [a0g_0, .int v28na0_1, .int v28na0_2, .ref a0_3, .ref a0_4, .ref a0_5, .int a0_6, .int a0_7, .int v28na0_8, .int v28na0_9, .int v28na0_10, .long v28na0_11, .int v28na0_12, .int v28na0_13])), (a0_5, .inr (0, [.int v28na0_5_0, .int v28na0_5_1, .int v28na0_5_2, .int v28na0_5_3, .int a0_5_4, .int a0_5_5, .int a0_5_6, .int a0_5_7, .int a0_5_8, .int a0_5_9, .ref a0_5_10, .ref a0_5_11, .ref a0_5_12, .ref a0_5_13, .ref a0_5_14])), (a0_3, .inl (ka0_3, 900, .inl (fa0_3))), (a0_4, .inl (ka0_4, 12, .inr (.inl (fa0_4)))), (a0_5_10, .inl (ka0_5_10, 9, .inl (fa0_5_10))), (a0_5_11, .inl (ka0_5_11, 9, .inl (fa0_5_11))), (a0_5_14, .inr (6, [.int a0_5_14_0, a0_5_14g_1, .ref a0_5_14_2, .ref a0_5_14_3])), (a0_5_14_2, .inl (ka0_5_14_2, 3, .inl (fa0_5_14_2))), (a0_5_14_3, .inl (ka0_5_14_3, 3, .inl (fa0_5_14_3))), (a0_5_13, .inl (ka0_5_13, 6, .inl (fa0_5_13))), (a0_5_12, .inl (ka0_5_12, 6, .inl (fa0_5_12)))]) hP hD hCc hk1 hFc hP1 hD1 [.inr 0, .inr 2, .inr 1, .inl 3, .inl 4, .inl 5, .inl 6, .inl 7, .inl 8, .inl 9, .inl 10] (by decide +kernel) rfl (fun hP hD => ?_)
      obtain ⟨hw, hfr28⟩ := hw
      have hc28 : Ff_X3_readHall a0_1.toInt a0_2.toInt a0_7.toInt a0_9.toInt a0_11.toInt a0_12.toInt a0_13.toInt (fl_A fa0_3) a0_5_0.toInt a0_5_1.toInt a0_5_2.toInt a0_5_3.toInt = (r28.toInt, v28na0_1.toInt, v28na0_2.toInt, v28na0_8.toInt, v28na0_9.toInt, v28na0_10.toInt, v28na0_11.toInt, v28na0_12.toInt, v28na0_13.toInt, v28na0_5_0.toInt, v28na0_5_1.toInt, v28na0_5_2.toInt, v28na0_5_3.toInt) := Prod.ext hfr28.symm hraw28_0
      have hF0 := hF0.trans (fl_c13_eq hc28)
      rcases hw with hw | hw
      · subst hw
        have hF0 := hF0.trans (if_pos (by decide))
        have hFe : FX = (1, v28na0_1.toInt, v28na0_2.toInt, a0_6.toInt, v28na0_8.toInt, v28na0_9.toInt, v28na0_10.toInt, v28na0_11.toInt, v28na0_12.toInt, v28na0_13.toInt, v28na0_5_0.toInt, v28na0_5_1.toInt, v28na0_5_2.toInt, v28na0_5_3.toInt, a0_5_4.toInt, a0_5_5.toInt, a0_5_6.toInt, a0_5_7.toInt, a0_5_8.toInt, a0_5_9.toInt, (fl_L fa0_4), (fl_A fa0_5_10), (fl_A fa0_5_11), a0_5_14_0.toInt, (fl_A fa0_5_14_2), (fl_A fa0_5_14_3), (fl_A fa0_5_13), (fl_A fa0_5_12)) := hF0
        exact W.zret (v := 1) hx hb hr rfl (fun t ht hW => ⟨⟨1, (), rfl, ⟨(Or.inl (rfl)), (congrArg Prod.fst hFe).symm⟩, v28na0_1, v28na0_2, a0_6, v28na0_8, v28na0_9, v28na0_10, v28na0_11, v28na0_12, v28na0_13, v28na0_5_0, v28na0_5_1, v28na0_5_2, v28na0_5_3, a0_5_4, a0_5_5, a0_5_6, a0_5_7, a0_5_8, a0_5_9, fa0_4, fa0_5_10, fa0_5_11, a0_5_14_0, fa0_5_14_2, fa0_5_14_3, fa0_5_13, fa0_5_12, ⟨ba0_6_l, ba0_6_u⟩, ⟨bv28na0_8.1, bv28na0_8.2⟩, ⟨bv28na0_9.1, bv28na0_9.2⟩, ⟨bv28na0_10.1, bv28na0_10.2⟩, ⟨bv28na0_5_0.1, bv28na0_5_0.2⟩, ⟨ba0_5_4_l, ba0_5_4_u⟩, ⟨ba0_5_5_l, ba0_5_5_u⟩, ⟨ba0_5_6_l, ba0_5_6_u⟩, ⟨ba0_5_7_l, ba0_5_7_u⟩, ⟨ba0_5_9_l, ba0_5_9_u⟩, ⟨ba0_5_14_0_l, ba0_5_14_0_u⟩, bfa0_5_14_2, bfa0_5_14_3, bfa0_5_13, (congrArg Prod.snd hFe), by rw [ht]; exact hP, va_K.moved hW.alike hK, hD⟩, hS.F ht⟩) hS.2.2 dX3_readLine_31
      · subst hw
        have hF0 := hF0.trans (if_neg (by decide))
        have hFe : FX = (0, v28na0_1.toInt, v28na0_2.toInt, a0_6.toInt, v28na0_8.toInt, v28na0_9.toInt, v28na0_10.toInt, v28na0_11.toInt, v28na0_12.toInt, v28na0_13.toInt, v28na0_5_0.toInt, v28na0_5_1.toInt, v28na0_5_2.toInt, v28na0_5_3.toInt, a0_5_4.toInt, a0_5_5.toInt, a0_5_6.toInt, a0_5_7.toInt, a0_5_8.toInt, a0_5_9.toInt, (fl_L fa0_4), (fl_A fa0_5_10), (fl_A fa0_5_11), a0_5_14_0.toInt, (fl_A fa0_5_14_2), (fl_A fa0_5_14_3), (fl_A fa0_5_13), (fl_A fa0_5_12)) := hF0
        exact W.zret (v := 0) hx hb hr rfl (fun t ht hW => ⟨⟨0, (), rfl, ⟨(Or.inr (rfl)), (congrArg Prod.fst hFe).symm⟩, v28na0_1, v28na0_2, a0_6, v28na0_8, v28na0_9, v28na0_10, v28na0_11, v28na0_12, v28na0_13, v28na0_5_0, v28na0_5_1, v28na0_5_2, v28na0_5_3, a0_5_4, a0_5_5, a0_5_6, a0_5_7, a0_5_8, a0_5_9, fa0_4, fa0_5_10, fa0_5_11, a0_5_14_0, fa0_5_14_2, fa0_5_14_3, fa0_5_13, fa0_5_12, ⟨ba0_6_l, ba0_6_u⟩, ⟨bv28na0_8.1, bv28na0_8.2⟩, ⟨bv28na0_9.1, bv28na0_9.2⟩, ⟨bv28na0_10.1, bv28na0_10.2⟩, ⟨bv28na0_5_0.1, bv28na0_5_0.2⟩, ⟨ba0_5_4_l, ba0_5_4_u⟩, ⟨ba0_5_5_l, ba0_5_5_u⟩, ⟨ba0_5_6_l, ba0_5_6_u⟩, ⟨ba0_5_7_l, ba0_5_7_u⟩, ⟨ba0_5_9_l, ba0_5_9_u⟩, ⟨ba0_5_14_0_l, ba0_5_14_0_u⟩, bfa0_5_14_2, bfa0_5_14_3, bfa0_5_13, (congrArg Prod.snd hFe), by rw [ht]; exact hP, va_K.moved hW.alike hK, hD⟩, hS.F ht⟩) hS.2.2 dX3_readLine_31
    · have gc16 := ai_nle c16
      have l16f_a0_5_0 : (1 : Int) ≤ a0_5_0.toInt := ai_ltlo gc16 zq5
      have hF0 := hF0.trans (if_neg (show ¬ (a0_5_0.toInt ≤ 0) from Int.not_le.mpr gc16))
      refine lv_aload_n hx hb dX3_readLine_19 rfl (lv_at hl 0 rfl) ?_
      refine lv_iconst (v := 3) hx hb dX3_readLine_20 zk_iconst_3 ?_
      refine va_calli (va_runV (As := [.int 3]) (rest := []) ⟨hx, hb, hml, hown, hts⟩ (f_X3_fails l dC dI H.size a0 3 a0g_0 (.ref a0_3) (.ref a0_4) (.ref a0_5) (.int a0_6) (.int a0_7) (.int a0_9) (.int a0_10) (.long a0_11) (.int a0_12) (.int a0_13) a0_1 a0_2 a0_8 ba0_8_l ba0_8_u) (cwV 1 hts gX3_readLine_X3_fails rfl rfl rfl zd_X3_fails ⟨Nat.le_of_ble_eq_true rfl, Nat.le_of_ble_eq_true rfl⟩) ⟨ax_blind (fun _ _ _ _ _ => trivial), zr_3 (zp_K hK) (zp_P1 hP) (q0 := 0) rfl, ax_pre (zp_P1 hP) (zp_K hK) (zp_D1 hD) (fun _ _ => trivial)⟩ rfl rfl hl.1 rfl (lv_room (Nat.le_of_ble_eq_true rfl)) dX3_readLine_21 ⟨Nat.le_of_ble_eq_true rfl, Nat.le_of_ble_eq_true rfl⟩) hS (fun q _ h => zp_F1 hD hS hA q h) (zp_F1 hD hS hA) (fun r21 u t H locs ht hvm hw => zx_2 (fun v21na0_1 v21na0_2 => zy_1 (fun hraw21_0 hB hz1 hk1 hS1 => zo1 hB ht hP hD hk1 (zp_F1 hD hS hA) hS1 (fun hP hK1 hD hS => ?_))))
      obtain ⟨hw, hfr21⟩ := hw
      rw [show (3 : Int32).toInt = 3 from by decide] at hfr21 hraw21_0
      have hc21 : Ff_X3_fails 3 a0_8.toInt = (r21.toInt, v21na0_1.toInt, v21na0_2.toInt) := Prod.ext hfr21.symm hraw21_0
      have hF0 := hF0.trans (fl_c3_eq hc21)
      have hw : r21 = 0 := hw
      have hw := hw.symm
      subst hw
      refine lv_goto (tgt := 31) hx hb dX3_readLine_24 (by decide) ?_
      have hFe : FX = (0, v21na0_1.toInt, v21na0_2.toInt, a0_6.toInt, a0_8.toInt, a0_9.toInt, a0_10.toInt, a0_11.toInt, a0_12.toInt, a0_13.toInt, a0_5_0.toInt, a0_5_1.toInt, a0_5_2.toInt, a0_5_3.toInt, a0_5_4.toInt, a0_5_5.toInt, a0_5_6.toInt, a0_5_7.toInt, a0_5_8.toInt, a0_5_9.toInt, (fl_L fa0_4), (fl_A fa0_5_10), (fl_A fa0_5_11), a0_5_14_0.toInt, (fl_A fa0_5_14_2), (fl_A fa0_5_14_3), (fl_A fa0_5_13), (fl_A fa0_5_12)) := hF0
      exact W.zret (v := 0) hx hb hr rfl (fun t ht hW => ⟨⟨0, (), rfl, ⟨(Or.inr (rfl)), (congrArg Prod.fst hFe).symm⟩, v21na0_1, v21na0_2, a0_6, a0_8, a0_9, a0_10, a0_11, a0_12, a0_13, a0_5_0, a0_5_1, a0_5_2, a0_5_3, a0_5_4, a0_5_5, a0_5_6, a0_5_7, a0_5_8, a0_5_9, fa0_4, fa0_5_10, fa0_5_11, a0_5_14_0, fa0_5_14_2, fa0_5_14_3, fa0_5_13, fa0_5_12, ⟨ba0_6_l, ba0_6_u⟩, ⟨ba0_8_l, ba0_8_u⟩, ⟨ba0_9_l, ba0_9_u⟩, ⟨Int.le_trans (by decide) l3k0_a0_10, Int.le_trans u3k0_a0_10 (by decide)⟩, ⟨Int.le_trans (by decide) l16f_a0_5_0, ba0_5_0_u⟩, ⟨ba0_5_4_l, ba0_5_4_u⟩, ⟨ba0_5_5_l, ba0_5_5_u⟩, ⟨ba0_5_6_l, ba0_5_6_u⟩, ⟨ba0_5_7_l, ba0_5_7_u⟩, ⟨ba0_5_9_l, ba0_5_9_u⟩, ⟨ba0_5_14_0_l, ba0_5_14_0_u⟩, bfa0_5_14_2, bfa0_5_14_3, bfa0_5_13, (congrArg Prod.snd hFe), by rw [ht]; exact hP, va_K.moved hW.alike hK, hD⟩, hS.F ht⟩) hS.2.2 dX3_readLine_31
  · subst hw
    have hF0 := hF0.trans (if_neg (by decide))
    refine lv_if_eq (tgt := 32) hx hb dX3_readLine_6 (by decide) (fun _ => ?_) (fun c6 => absurd (by decide +kernel) c6)
    refine lv_aload_n hx hb dX3_readLine_32 rfl (lv_at hl 0 rfl) ?_
    refine va_ldcS hx hb hown (sxc_R1 hE0) dX3_readLine_33 ?_
    refine va_calli (va_runV (As := [.ref (ad 1)]) (rest := []) ⟨hx, hb, hml, hown, hts⟩ (f_X3_isWord l dC dI H.size a0 (ad 1) a0g_0 (.int a0_1) (.int a0_2) (.ref a0_3) (.ref a0_4) (.ref a0_5) (.int a0_6) (.int a0_7) (.int a0_8) (.int a0_9) (.int a0_12) (.int a0_13) a0_10 a0_11 3 (sxc 1) ba0_10_l ba0_10_u) (cwV 1 hts gX3_readLine_X3_isWord rfl rfl rfl zd_X3_isWord ⟨Nat.le_of_ble_eq_true rfl, Nat.le_of_ble_eq_true rfl⟩) ⟨ax_blind (fun _ _ _ _ hq => sxc_W_same _ _ _ _ (hq)), zr_3 (zp_K hK) (zp_P1 hP) (q0 := 0) rfl, ax_preE (zp_P1 hP) (zp_K hK) (zp_D1 hD) (fun U hU hW => sxc_W_to (sxc_T_w hE0 (i := 1) (by decide)) hS.2.1 (zp_F1 hD hS hA) hU hW)⟩ rfl rfl hl.1 rfl (lv_room (Nat.le_of_ble_eq_true rfl)) dX3_readLine_35 ⟨Nat.le_of_ble_eq_true rfl, Nat.le_of_ble_eq_true rfl⟩) hS (fun q _ h => zp_F1 hD hS hA q h) (zp_F1 hD hS hA) (fun r35 u t H locs ht hvm hw hB hz1 hk1 hS1 => zo1 hB ht hP hD hk1 (zp_F1 hD hS hA) hS1 (fun hP hK1 hD hS => ?_))
    obtain ⟨hw, hfr35⟩ := hw
    rw [show ((3 : Nat) : Int) = 3 from rfl] at hfr35
    have hc35 : Ff_X3_isWord a0_10.toInt a0_11.toInt 3 (fl_A (sxc 1)) = r35.toInt := hfr35.symm
    have hF0 := hF0.trans (fl_lt_eq hc35.symm)
    rcases hw with hw | hw
    · obtain ⟨hw, h35_0, h35_1⟩ := hw
      subst hw
      have l35k0_a0_10 : (1 : Int) ≤ a0_10.toInt := h35_0
      have u35k0_a0_10 : a0_10.toInt ≤ (1 : Int) := h35_1
      have hF0 := hF0.trans (if_pos (by decide))
      refine lv_if_ne (tgt := 74) hx hb dX3_readLine_38 (by decide) (fun _ => ?_) (fun c38 => absurd c38 (by decide +kernel))
      have J74 : ∀ (H : Heap) (locs : List Loc) (ls : Array Slot), (FX = Gf_X3_readLine_74_1 a0_1.toInt a0_2.toInt a0_6.toInt a0_7.toInt a0_8.toInt a0_9.toInt a0_10.toInt a0_11.toInt a0_12.toInt a0_13.toInt a0_5_0.toInt a0_5_1.toInt a0_5_2.toInt a0_5_3.toInt a0_5_4.toInt a0_5_5.toInt a0_5_6.toInt a0_5_7.toInt a0_5_8.toInt a0_5_9.toInt (fl_A fa0_3) (fl_L fa0_4) (fl_A fa0_5_10) (fl_A fa0_5_11) a0_5_14_0.toInt (fl_A fa0_5_14_2) (fl_A fa0_5_14_3) (fl_A fa0_5_13) (fl_A fa0_5_12)) → va_P (dC, dI) vwCl [(a0, .inr (3, [a0g_0, .int a0_1, .int a0_2, .ref a0_3, .ref a0_4, .ref a0_5, .int a0_6, .int a0_7, .int a0_8, .int a0_9, .int a0_10, .long a0_11, .int a0_12, .int a0_13])), (a0_5, .inr (0, [.int a0_5_0, .int a0_5_1, .int a0_5_2, .int a0_5_3, .int a0_5_4, .int a0_5_5, .int a0_5_6, .int a0_5_7, .int a0_5_8, .int a0_5_9, .ref a0_5_10, .ref a0_5_11, .ref a0_5_12, .ref a0_5_13, .ref a0_5_14])), (a0_3, .inl (ka0_3, 900, .inl (fa0_3))), (a0_4, .inl (ka0_4, 12, .inr (.inl (fa0_4)))), (a0_5_10, .inl (ka0_5_10, 9, .inl (fa0_5_10))), (a0_5_11, .inl (ka0_5_11, 9, .inl (fa0_5_11))), (a0_5_14, .inr (6, [.int a0_5_14_0, a0_5_14g_1, .ref a0_5_14_2, .ref a0_5_14_3])), (a0_5_14_2, .inl (ka0_5_14_2, 3, .inl (fa0_5_14_2))), (a0_5_14_3, .inl (ka0_5_14_3, 3, .inl (fa0_5_14_3))), (a0_5_13, .inl (ka0_5_13, 6, .inl (fa0_5_13))), (a0_5_12, .inl (ka0_5_12, 6, .inl (fa0_5_12)))] H → va_D A [(a0, .inr (3, [a0g_0, .int a0_1, .int a0_2, .ref a0_3, .ref a0_4, .ref a0_5, .int a0_6, .int a0_7, .int a0_8, .int a0_9, .int a0_10, .long a0_11, .int a0_12, .int a0_13])), (a0_5, .inr (0, [.int a0_5_0, .int a0_5_1, .int a0_5_2, .int a0_5_3, .int a0_5_4, .int a0_5_5, .int a0_5_6, .int a0_5_7, .int a0_5_8, .int a0_5_9, .ref a0_5_10, .ref a0_5_11, .ref a0_5_12, .ref a0_5_13, .ref a0_5_14])), (a0_3, .inl (ka0_3, 900, .inl (fa0_3))), (a0_4, .inl (ka0_4, 12, .inr (.inl (fa0_4)))), (a0_5_10, .inl (ka0_5_10, 9, .inl (fa0_5_10))), (a0_5_11, .inl (ka0_5_11, 9, .inl (fa0_5_11))), (a0_5_14, .inr (6, [.int a0_5_14_0, a0_5_14g_1, .ref a0_5_14_2, .ref a0_5_14_3])), (a0_5_14_2, .inl (ka0_5_14_2, 3, .inl (fa0_5_14_2))), (a0_5_14_3, .inl (ka0_5_14_3, 3, .inl (fa0_5_14_3))), (a0_5_13, .inl (ka0_5_13, 6, .inl (fa0_5_13))), (a0_5_12, .inl (ka0_5_12, 6, .inl (fa0_5_12)))] → va_S A s.heap H locs → lv_has ls 1 [(0, .ref a0)] → K H locs (F0 m 74 ls []) := by
        intro  H locs ls  hF0 hP hD hS hl
        refine (hK0 _ _ _).mpr ?_
        have hF0 := hF0.trans (Gf_X3_readLine_74_1.eq_1 a0_1.toInt a0_2.toInt a0_6.toInt a0_7.toInt a0_8.toInt a0_9.toInt a0_10.toInt a0_11.toInt a0_12.toInt a0_13.toInt a0_5_0.toInt a0_5_1.toInt a0_5_2.toInt a0_5_3.toInt a0_5_4.toInt a0_5_5.toInt a0_5_6.toInt a0_5_7.toInt a0_5_8.toInt a0_5_9.toInt (fl_A fa0_3) (fl_L fa0_4) (fl_A fa0_5_10) (fl_A fa0_5_11) a0_5_14_0.toInt (fl_A fa0_5_14_2) (fl_A fa0_5_14_3) (fl_A fa0_5_13) (fl_A fa0_5_12))
        refine lv_aload_n hx hb dX3_readLine_74 rfl (lv_at hl 0 rfl) ?_
        refine va_get (D := (dC, dI)) (ci := 3) (v := .ref a0_5) (C := RX3) (T := TX3) (N := 14) hx hb hts zi_X3_readLine_3 hown hK hP 0 rfl rfl 5 (by decide) (hts (.fieldLink RX3 22 "WaxTurns$Reade\x72" "draft" "LWaxTurns$Hall;") (zm_X3_readLine_r1 (List.mem_of_getElem? (i := 0) rfl))) (fun _ h9 => h9) rfl dX3_readLine_75 ?_
        refine va_get (D := (dC, dI)) (ci := 0) (v := .int a0_5_0) (C := RX0) (T := TX0) (N := 15) hx hb hts zi_X3_readLine_0 hown hK hP 1 rfl rfl 0 (by decide) (hts (.fieldLink RX3 104 "WaxTurns$Hall" "figures" "I") (zm_X3_readLine_r1 (List.mem_of_getElem? (i := 1) rfl))) (fun _ h9 => h9) rfl dX3_readLine_78 ?_
        refine lv_if_ne (tgt := 91) hx hb dX3_readLine_81 (by decide) (fun c81 => ?_) (fun c81 => ?_)
        · have gc81 := ai_ne c81
          have l81t_a0_5_0 : (1 : Int) ≤ a0_5_0.toInt := (by first | exact zg_l ba0_5_0_l gc81 (by decide) (by decide) | (have h1 := ba0_5_0_l; have h2 : (0 : Int32).toInt = 0 := (by decide); rw [h2] at gc81; omega))
          have hF0 := hF0.trans (if_neg (show ¬ (a0_5_0.toInt = 0) from  gc81))
          refine lv_aload_n hx hb dX3_readLine_91 rfl (lv_at hl 0 rfl) ?_
          refine va_ldcS hx hb hown (sxc_R1 hE0) dX3_readLine_92 ?_
          refine va_calli (va_runV (As := [.ref (ad 1)]) (rest := []) ⟨hx, hb, hml, hown, hts⟩ (f_X3_isWord l dC dI H.size a0 (ad 1) a0g_0 (.int a0_1) (.int a0_2) (.ref a0_3) (.ref a0_4) (.ref a0_5) (.int a0_6) (.int a0_7) (.int a0_8) (.int a0_9) (.int a0_12) (.int a0_13) a0_10 a0_11 3 (sxc 1) ba0_10_l ba0_10_u) (cwV 1 hts gX3_readLine_X3_isWord rfl rfl rfl zd_X3_isWord ⟨Nat.le_of_ble_eq_true rfl, Nat.le_of_ble_eq_true rfl⟩) ⟨ax_blind (fun _ _ _ _ hq => sxc_W_same _ _ _ _ (hq)), zr_3 (zp_K hK) (zp_P1 hP) (q0 := 0) rfl, ax_preE (zp_P1 hP) (zp_K hK) (zp_D1 hD) (fun U hU hW => sxc_W_to (sxc_T_w hE0 (i := 1) (by decide)) hS.2.1 (zp_F1 hD hS hA) hU hW)⟩ rfl rfl hl.1 rfl (lv_room (Nat.le_of_ble_eq_true rfl)) dX3_readLine_94 ⟨Nat.le_of_ble_eq_true rfl, Nat.le_of_ble_eq_true rfl⟩) hS (fun q _ h => zp_F1 hD hS hA q h) (zp_F1 hD hS hA) (fun r94 u t H locs ht hvm hw hB hz1 hk1 hS1 => zo1 hB ht hP hD hk1 (zp_F1 hD hS hA) hS1 (fun hP hK1 hD hS => ?_))
          obtain ⟨hw, hfr94⟩ := hw
          rw [show ((3 : Nat) : Int) = 3 from rfl] at hfr94
          have hc94 : Ff_X3_isWord a0_10.toInt a0_11.toInt 3 (fl_A (sxc 1)) = r94.toInt := hfr94.symm
          have hF0 := hF0.trans (fl_lt_eq hc94.symm)
          rcases hw with hw | hw
          · obtain ⟨hw, h94_0, h94_1⟩ := hw
            subst hw
            have l94k0_a0_10 : (1 : Int) ≤ a0_10.toInt := h94_0
            have u94k0_a0_10 : a0_10.toInt ≤ (1 : Int) := h94_1
            have hF0 := hF0.trans (if_pos (by decide))
            refine lv_if_eq (tgt := 123) hx hb dX3_readLine_97 (by decide) (fun c97 => absurd c97 (by decide +kernel)) (fun _ => ?_)
            refine lv_aload_n hx hb dX3_readLine_100 rfl (lv_at hl 0 rfl) ?_
            refine va_get (D := (dC, dI)) (ci := 3) (v := .ref a0_5) (C := RX3) (T := TX3) (N := 14) hx hb hts zi_X3_readLine_3 hown hK hP 0 rfl rfl 5 (by decide) (hts (.fieldLink RX3 22 "WaxTurns$Reade\x72" "draft" "LWaxTurns$Hall;") (zm_X3_readLine_r1 (List.mem_of_getElem? (i := 0) rfl))) (fun _ h9 => h9) rfl dX3_readLine_101 ?_
            refine va_get (D := (dC, dI)) (ci := 0) (v := .int a0_5_4) (C := RX0) (T := TX0) (N := 15) hx hb hts zi_X3_readLine_0 hown hK hP 1 rfl rfl 4 (by decide) (hts (.fieldLink RX3 68 "WaxTurns$Hall" "lawTold" "Z") (zm_X3_readLine_r1 (List.mem_of_getElem? (i := 2) rfl))) (fun _ h9 => h9) rfl dX3_readLine_104 ?_
            refine lv_if_eq (tgt := 118) hx hb dX3_readLine_107 (by decide) (fun c107 => ?_) (fun c107 => ?_)
            · have gc107 := ai_eq c107
              have u107t_a0_5_4 : a0_5_4.toInt ≤ (0 : Int) := Int.le_trans (Int.le_of_eq gc107) zq6
              have l107t_a0_5_4 : (0 : Int) ≤ a0_5_4.toInt := ba0_5_4_l
              have hF0 := hF0.trans (if_pos (show a0_5_4.toInt = 0 from gc107))
              refine lv_aload_n hx hb dX3_readLine_118 rfl (lv_at hl 0 rfl) ?_
              refine zc_cutc (wc := [(a0, .inr (3, [a0g_0, .int a0_1, .int a0_2, .ref a0_3, .ref a0_4, .ref a0_5, .int a0_6, .int a0_7, .int a0_8, .int a0_9, .int a0_10, .long a0_11, .int a0_12, .int a0_13])), (a0_3, .inl (ka0_3, 900, .inl (fa0_3))), (a0_5, .inr (0, [.int a0_5_0, .int a0_5_1, .int a0_5_2, .int a0_5_3, .int a0_5_4, .int a0_5_5, .int a0_5_6, .int a0_5_7, .int a0_5_8, .int a0_5_9, .ref a0_5_10, .ref a0_5_11, .ref a0_5_12, .ref a0_5_13, .ref a0_5_14]))]) hP hD hS hA [0, 2, 1] (by decide +kernel) rfl (fun hPc hDc hFc hCc => ?_)
              have hKc := hK.sub (tys' := [(ka0_3, .byte)]) [0] rfl
              refine va_calli (va_runV (As := []) (rest := []) ⟨hx, hb, hml, hown, hts⟩ (f_X3_readLaw l dC dI H.size a0 a0g_0 (.ref a0_4) (.int a0_6) a0_1 a0_2 a0_3 a0_5 a0_7 a0_8 a0_9 a0_10 a0_11 a0_12 a0_13 ka0_3 fa0_3 a0_5_0 (.int a0_5_1) (.int a0_5_2) (.int a0_5_3) (.int a0_5_8) (.int a0_5_9) (.ref a0_5_10) (.ref a0_5_11) (.ref a0_5_12) (.ref a0_5_13) (.ref a0_5_14) a0_5_4 a0_5_5 a0_5_6 a0_5_7 ad ba0_7_l ba0_7_u ba0_8_l ba0_8_u ba0_9_l ba0_9_u (Int.le_trans zq4 l94k0_a0_10) (Int.le_trans u94k0_a0_10 zq137) (Int.le_trans zq4 l81t_a0_5_0) ba0_5_0_u l107t_a0_5_4 (Int.le_trans u107t_a0_5_4 zq4) ba0_5_5_l ba0_5_5_u ba0_5_6_l ba0_5_6_u ba0_5_7_l ba0_5_7_u) (cwV 0 hts gX3_readLine_X3_readLaw rfl rfl rfl zd_X3_readLaw ⟨Nat.le_of_ble_eq_true rfl, Nat.le_of_ble_eq_true rfl⟩) ⟨ax_blind (fun _ _ _ _ hq => ⟨sxc_T_same _ _ _ _ (hq.1), va_Nw.same rfl rfl (hq.2)⟩), zr_3 hKc hPc (q0 := 0) rfl, ax_preE hPc hKc hDc (fun U hU hW => ⟨sxc_T_to hE0 hS.2.1 hFc hU hW, va_Nw.warmM hW hE1⟩)⟩ rfl rfl hl.1 rfl (lv_room (Nat.le_of_ble_eq_true rfl)) dX3_readLine_119 ⟨Nat.le_of_ble_eq_true rfl, Nat.le_of_ble_eq_true rfl⟩) hS (fun q _ h => hFc q h) hFc (fun r119 u t H locs ht hvm hw => zx_12 (fun v119na0_1 v119na0_2 v119na0_8 v119na0_9 v119na0_10 v119na0_11 v119na0_12 v119na0_13 v119na0_5_4 v119na0_5_5 v119na0_5_6 v119na0_5_7 => zy_8 (fun bv119na0_8 bv119na0_9 bv119na0_10 bv119na0_5_4 bv119na0_5_5 bv119na0_5_6 bv119na0_5_7 hraw119_0 hB hz1 hk1 hS1 => zo hB ht hS1 (fun hP1 hK1 hD1 hS => ?_))))
              refine zc_backc (w := [(a0, .inr (3, [a0g_0, .int v119na0_1, .int v119na0_2, .ref a0_3, .ref a0_4, .ref a0_5, .int a0_6, .int a0_7, .int v119na0_8, .int v119na0_9, .int v119na0_10, .long v119na0_11, .int v119na0_12, .int v119na0_13])), (a0_5, .inr (0, [.int a0_5_0, .int a0_5_1, .int a0_5_2, .int a0_5_3, .int v119na0_5_4, .int v119na0_5_5, .int v119na0_5_6, .int v119na0_5_7, .int a0_5_8, .int a0_5_9, .ref a0_5_10, .ref a0_5_11, .ref a0_5_12, .ref a0_5_13, .ref a0_5_14])), (a0_3, .inl (ka0_3, 900, .inl (fa0_3))), (a0_4, .inl (ka0_4, 12, .inr (.inl (fa0_4)))), (a0_5_10, .inl (ka0_5_10, 9, .inl (fa0_5_10))), (a0_5_11, .inl (ka0_5_11, 9, .inl (fa0_5_11))), (a0_5_14, .inr (6, [.int a0_5_14_0, a0_5_14g_1, .ref a0_5_14_2, .ref a0_5_14_3])), (a0_5_14_2, .inl (ka0_5_14_2, 3, .inl (fa0_5_14_2))), (a0_5_14_3, .inl (ka0_5_14_3, 3, .inl (fa0_5_14_3))), (a0_5_13, .inl (ka0_5_13, 6, .inl (fa0_5_13))), (a0_5_12, .inl (ka0_5_12, 6, .inl (fa0_5_12)))]) hP hD hCc hk1 hFc hP1 hD1 [.inr 0, .inr 2, .inr 1, .inl 3, .inl 4, .inl 5, .inl 6, .inl 7, .inl 8, .inl 9, .inl 10] (by decide +kernel) rfl (fun hP hD => ?_)
              obtain ⟨hw, hfr119⟩ := hw
              have hc119 : Ff_X3_readLaw a0_1.toInt a0_2.toInt a0_7.toInt a0_9.toInt a0_11.toInt a0_12.toInt a0_13.toInt (fl_A fa0_3) a0_5_0.toInt a0_5_4.toInt a0_5_5.toInt a0_5_6.toInt a0_5_7.toInt = (r119.toInt, v119na0_1.toInt, v119na0_2.toInt, v119na0_8.toInt, v119na0_9.toInt, v119na0_10.toInt, v119na0_11.toInt, v119na0_12.toInt, v119na0_13.toInt, v119na0_5_4.toInt, v119na0_5_5.toInt, v119na0_5_6.toInt, v119na0_5_7.toInt) := Prod.ext hfr119.symm hraw119_0
              have hF0 := hF0.trans (fl_c13_eq hc119)
              rcases hw with hw | hw
              · subst hw
                have hF0 := hF0.trans (if_pos (by decide))
                have hFe : FX = (1, v119na0_1.toInt, v119na0_2.toInt, a0_6.toInt, v119na0_8.toInt, v119na0_9.toInt, v119na0_10.toInt, v119na0_11.toInt, v119na0_12.toInt, v119na0_13.toInt, a0_5_0.toInt, a0_5_1.toInt, a0_5_2.toInt, a0_5_3.toInt, v119na0_5_4.toInt, v119na0_5_5.toInt, v119na0_5_6.toInt, v119na0_5_7.toInt, a0_5_8.toInt, a0_5_9.toInt, (fl_L fa0_4), (fl_A fa0_5_10), (fl_A fa0_5_11), a0_5_14_0.toInt, (fl_A fa0_5_14_2), (fl_A fa0_5_14_3), (fl_A fa0_5_13), (fl_A fa0_5_12)) := hF0
                exact W.zret (v := 1) hx hb hr rfl (fun t ht hW => ⟨⟨1, (), rfl, ⟨(Or.inl (rfl)), (congrArg Prod.fst hFe).symm⟩, v119na0_1, v119na0_2, a0_6, v119na0_8, v119na0_9, v119na0_10, v119na0_11, v119na0_12, v119na0_13, a0_5_0, a0_5_1, a0_5_2, a0_5_3, v119na0_5_4, v119na0_5_5, v119na0_5_6, v119na0_5_7, a0_5_8, a0_5_9, fa0_4, fa0_5_10, fa0_5_11, a0_5_14_0, fa0_5_14_2, fa0_5_14_3, fa0_5_13, fa0_5_12, ⟨ba0_6_l, ba0_6_u⟩, ⟨bv119na0_8.1, bv119na0_8.2⟩, ⟨bv119na0_9.1, bv119na0_9.2⟩, ⟨bv119na0_10.1, bv119na0_10.2⟩, ⟨Int.le_trans (by decide) l81t_a0_5_0, ba0_5_0_u⟩, ⟨bv119na0_5_4.1, bv119na0_5_4.2⟩, ⟨bv119na0_5_5.1, bv119na0_5_5.2⟩, ⟨bv119na0_5_6.1, bv119na0_5_6.2⟩, ⟨bv119na0_5_7.1, bv119na0_5_7.2⟩, ⟨ba0_5_9_l, ba0_5_9_u⟩, ⟨ba0_5_14_0_l, ba0_5_14_0_u⟩, bfa0_5_14_2, bfa0_5_14_3, bfa0_5_13, (congrArg Prod.snd hFe), by rw [ht]; exact hP, va_K.moved hW.alike hK, hD⟩, hS.F ht⟩) hS.2.2 dX3_readLine_122
              · subst hw
                have hF0 := hF0.trans (if_neg (by decide))
                have hFe : FX = (0, v119na0_1.toInt, v119na0_2.toInt, a0_6.toInt, v119na0_8.toInt, v119na0_9.toInt, v119na0_10.toInt, v119na0_11.toInt, v119na0_12.toInt, v119na0_13.toInt, a0_5_0.toInt, a0_5_1.toInt, a0_5_2.toInt, a0_5_3.toInt, v119na0_5_4.toInt, v119na0_5_5.toInt, v119na0_5_6.toInt, v119na0_5_7.toInt, a0_5_8.toInt, a0_5_9.toInt, (fl_L fa0_4), (fl_A fa0_5_10), (fl_A fa0_5_11), a0_5_14_0.toInt, (fl_A fa0_5_14_2), (fl_A fa0_5_14_3), (fl_A fa0_5_13), (fl_A fa0_5_12)) := hF0
                exact W.zret (v := 0) hx hb hr rfl (fun t ht hW => ⟨⟨0, (), rfl, ⟨(Or.inr (rfl)), (congrArg Prod.fst hFe).symm⟩, v119na0_1, v119na0_2, a0_6, v119na0_8, v119na0_9, v119na0_10, v119na0_11, v119na0_12, v119na0_13, a0_5_0, a0_5_1, a0_5_2, a0_5_3, v119na0_5_4, v119na0_5_5, v119na0_5_6, v119na0_5_7, a0_5_8, a0_5_9, fa0_4, fa0_5_10, fa0_5_11, a0_5_14_0, fa0_5_14_2, fa0_5_14_3, fa0_5_13, fa0_5_12, ⟨ba0_6_l, ba0_6_u⟩, ⟨bv119na0_8.1, bv119na0_8.2⟩, ⟨bv119na0_9.1, bv119na0_9.2⟩, ⟨bv119na0_10.1, bv119na0_10.2⟩, ⟨Int.le_trans (by decide) l81t_a0_5_0, ba0_5_0_u⟩, ⟨bv119na0_5_4.1, bv119na0_5_4.2⟩, ⟨bv119na0_5_5.1, bv119na0_5_5.2⟩, ⟨bv119na0_5_6.1, bv119na0_5_6.2⟩, ⟨bv119na0_5_7.1, bv119na0_5_7.2⟩, ⟨ba0_5_9_l, ba0_5_9_u⟩, ⟨ba0_5_14_0_l, ba0_5_14_0_u⟩, bfa0_5_14_2, bfa0_5_14_3, bfa0_5_13, (congrArg Prod.snd hFe), by rw [ht]; exact hP, va_K.moved hW.alike hK, hD⟩, hS.F ht⟩) hS.2.2 dX3_readLine_122
            · have gc107 := ai_ne c107
              have l107f_a0_5_4 : (1 : Int) ≤ a0_5_4.toInt := (by first | exact zg_l ba0_5_4_l gc107 (by decide) (by decide) | (have h1 := ba0_5_4_l; have h2 : (0 : Int32).toInt = 0 := (by decide); rw [h2] at gc107; omega))
              have hF0 := hF0.trans (if_neg (show ¬ (a0_5_4.toInt = 0) from  gc107))
              refine lv_aload_n hx hb dX3_readLine_110 rfl (lv_at hl 0 rfl) ?_
              refine lv_iconst (v := 3) hx hb dX3_readLine_111 zk_iconst_3 ?_
              refine va_calli (va_runV (As := [.int 3]) (rest := []) ⟨hx, hb, hml, hown, hts⟩ (f_X3_fails l dC dI H.size a0 3 a0g_0 (.ref a0_3) (.ref a0_4) (.ref a0_5) (.int a0_6) (.int a0_7) (.int a0_9) (.int a0_10) (.long a0_11) (.int a0_12) (.int a0_13) a0_1 a0_2 a0_8 ba0_8_l ba0_8_u) (cwV 1 hts gX3_readLine_X3_fails rfl rfl rfl zd_X3_fails ⟨Nat.le_of_ble_eq_true rfl, Nat.le_of_ble_eq_true rfl⟩) ⟨ax_blind (fun _ _ _ _ _ => trivial), zr_3 (zp_K hK) (zp_P1 hP) (q0 := 0) rfl, ax_pre (zp_P1 hP) (zp_K hK) (zp_D1 hD) (fun _ _ => trivial)⟩ rfl rfl hl.1 rfl (lv_room (Nat.le_of_ble_eq_true rfl)) dX3_readLine_112 ⟨Nat.le_of_ble_eq_true rfl, Nat.le_of_ble_eq_true rfl⟩) hS (fun q _ h => zp_F1 hD hS hA q h) (zp_F1 hD hS hA) (fun r112 u t H locs ht hvm hw => zx_2 (fun v112na0_1 v112na0_2 => zy_1 (fun hraw112_0 hB hz1 hk1 hS1 => zo1 hB ht hP hD hk1 (zp_F1 hD hS hA) hS1 (fun hP hK1 hD hS => ?_))))
              obtain ⟨hw, hfr112⟩ := hw
              rw [show (3 : Int32).toInt = 3 from by decide] at hfr112 hraw112_0
              have hc112 : Ff_X3_fails 3 a0_8.toInt = (r112.toInt, v112na0_1.toInt, v112na0_2.toInt) := Prod.ext hfr112.symm hraw112_0
              have hF0 := hF0.trans (fl_c3_eq hc112)
              have hw : r112 = 0 := hw
              have hw := hw.symm
              subst hw
              refine lv_goto (tgt := 122) hx hb dX3_readLine_115 (by decide) ?_
              have hFe : FX = (0, v112na0_1.toInt, v112na0_2.toInt, a0_6.toInt, a0_8.toInt, a0_9.toInt, a0_10.toInt, a0_11.toInt, a0_12.toInt, a0_13.toInt, a0_5_0.toInt, a0_5_1.toInt, a0_5_2.toInt, a0_5_3.toInt, a0_5_4.toInt, a0_5_5.toInt, a0_5_6.toInt, a0_5_7.toInt, a0_5_8.toInt, a0_5_9.toInt, (fl_L fa0_4), (fl_A fa0_5_10), (fl_A fa0_5_11), a0_5_14_0.toInt, (fl_A fa0_5_14_2), (fl_A fa0_5_14_3), (fl_A fa0_5_13), (fl_A fa0_5_12)) := hF0
              exact W.zret (v := 0) hx hb hr rfl (fun t ht hW => ⟨⟨0, (), rfl, ⟨(Or.inr (rfl)), (congrArg Prod.fst hFe).symm⟩, v112na0_1, v112na0_2, a0_6, a0_8, a0_9, a0_10, a0_11, a0_12, a0_13, a0_5_0, a0_5_1, a0_5_2, a0_5_3, a0_5_4, a0_5_5, a0_5_6, a0_5_7, a0_5_8, a0_5_9, fa0_4, fa0_5_10, fa0_5_11, a0_5_14_0, fa0_5_14_2, fa0_5_14_3, fa0_5_13, fa0_5_12, ⟨ba0_6_l, ba0_6_u⟩, ⟨ba0_8_l, ba0_8_u⟩, ⟨ba0_9_l, ba0_9_u⟩, ⟨Int.le_trans (by decide) l94k0_a0_10, Int.le_trans u94k0_a0_10 (by decide)⟩, ⟨Int.le_trans (by decide) l81t_a0_5_0, ba0_5_0_u⟩, ⟨Int.le_trans (by decide) l107f_a0_5_4, ba0_5_4_u⟩, ⟨ba0_5_5_l, ba0_5_5_u⟩, ⟨ba0_5_6_l, ba0_5_6_u⟩, ⟨ba0_5_7_l, ba0_5_7_u⟩, ⟨ba0_5_9_l, ba0_5_9_u⟩, ⟨ba0_5_14_0_l, ba0_5_14_0_u⟩, bfa0_5_14_2, bfa0_5_14_3, bfa0_5_13, (congrArg Prod.snd hFe), by rw [ht]; exact hP, va_K.moved hW.alike hK, hD⟩, hS.F ht⟩) hS.2.2 dX3_readLine_122
          · subst hw
            have hF0 := hF0.trans (if_neg (by decide))
            refine lv_if_eq (tgt := 123) hx hb dX3_readLine_97 (by decide) (fun _ => ?_) (fun c97 => absurd (by decide +kernel) c97)
            refine lv_aload_n hx hb dX3_readLine_123 rfl (lv_at hl 0 rfl) ?_
            refine va_ldcS hx hb hown (sxc_R2 hE0) dX3_readLine_124 ?_
            refine va_calli (va_runV (As := [.ref (ad 2)]) (rest := []) ⟨hx, hb, hml, hown, hts⟩ (f_X3_isWord l dC dI H.size a0 (ad 2) a0g_0 (.int a0_1) (.int a0_2) (.ref a0_3) (.ref a0_4) (.ref a0_5) (.int a0_6) (.int a0_7) (.int a0_8) (.int a0_9) (.int a0_12) (.int a0_13) a0_10 a0_11 6 (sxc 2) ba0_10_l ba0_10_u) (cwV 1 hts gX3_readLine_X3_isWord rfl rfl rfl zd_X3_isWord ⟨Nat.le_of_ble_eq_true rfl, Nat.le_of_ble_eq_true rfl⟩) ⟨ax_blind (fun _ _ _ _ hq => sxc_W_same _ _ _ _ (hq)), zr_3 (zp_K hK) (zp_P1 hP) (q0 := 0) rfl, ax_preE (zp_P1 hP) (zp_K hK) (zp_D1 hD) (fun U hU hW => sxc_W_to (sxc_T_w hE0 (i := 2) (by decide)) hS.2.1 (zp_F1 hD hS hA) hU hW)⟩ rfl rfl hl.1 rfl (lv_room (Nat.le_of_ble_eq_true rfl)) dX3_readLine_126 ⟨Nat.le_of_ble_eq_true rfl, Nat.le_of_ble_eq_true rfl⟩) hS (fun q _ h => zp_F1 hD hS hA q h) (zp_F1 hD hS hA) (fun r126 u t H locs ht hvm hw hB hz1 hk1 hS1 => zo1 hB ht hP hD hk1 (zp_F1 hD hS hA) hS1 (fun hP hK1 hD hS => ?_))
            obtain ⟨hw, hfr126⟩ := hw
            rw [show ((6 : Nat) : Int) = 6 from rfl] at hfr126
            have hc126 : Ff_X3_isWord a0_10.toInt a0_11.toInt 6 (fl_A (sxc 2)) = r126.toInt := hfr126.symm
            have hF0 := hF0.trans (fl_lt_eq hc126.symm)
            rcases hw with hw | hw
            · obtain ⟨hw, h126_0, h126_1⟩ := hw
              subst hw
              have l126k0_a0_10 : (1 : Int) ≤ a0_10.toInt := h126_0
              have u126k0_a0_10 : a0_10.toInt ≤ (1 : Int) := h126_1
              have hF0 := hF0.trans (if_pos (by decide))
              refine lv_if_eq (tgt := 160) hx hb dX3_readLine_129 (by decide) (fun c129 => absurd c129 (by decide +kernel)) (fun _ => ?_)
              refine lv_aload_n hx hb dX3_readLine_132 rfl (lv_at hl 0 rfl) ?_
              refine va_get (D := (dC, dI)) (ci := 3) (v := .ref a0_5) (C := RX3) (T := TX3) (N := 14) hx hb hts zi_X3_readLine_3 hown hK hP 0 rfl rfl 5 (by decide) (hts (.fieldLink RX3 22 "WaxTurns$Reade\x72" "draft" "LWaxTurns$Hall;") (zm_X3_readLine_r1 (List.mem_of_getElem? (i := 0) rfl))) (fun _ h9 => h9) rfl dX3_readLine_133 ?_
              refine va_get (D := (dC, dI)) (ci := 0) (v := .int a0_5_8) (C := RX0) (T := TX0) (N := 15) hx hb hts zi_X3_readLine_0 hown hK hP 1 rfl rfl 8 (by decide) (hts (.fieldLink RX3 121 "WaxTurns$Hall" "toldBits" "I") (zm_X3_readLine_r1 (List.mem_of_getElem? (i := 3) rfl))) (fun _ h9 => h9) rfl dX3_readLine_136 ?_
              refine va_calli (va_runS (As := [.int a0_5_8]) (rest := []) ⟨hx, hb, hml, hown, hts⟩ (f_J6_bitCount_0f7a4 l dC dI H.size a0_5_8 ) (va_cwS 1 hts gX3_readLine_J6_bitCount_0f7a4 rfl rfl rfl zd_J6_bitCount_0f7a4.2 ⟨Nat.le_of_ble_eq_true rfl, Nat.le_of_ble_eq_true rfl⟩) ⟨ax_blind (fun _ _ _ _ _ => trivial), ax_pre (zp_P0 hP) (zp_K hK) (zp_D0 hD) (fun _ _ => trivial)⟩ rfl rfl hl.1 rfl (lv_room (Nat.le_of_ble_eq_true rfl)) dX3_readLine_139 ⟨Nat.le_of_ble_eq_true rfl, Nat.le_of_ble_eq_true rfl⟩) hS (fun q _ h => zp_F0 hD hS hA q h) (zp_F0 hD hS hA) (fun r139 u t H locs ht hvm hw hB hz1 hk1 hS1 => zo0 hB ht hP hD hk1 (zp_F0 hD hS hA) hS1 (fun hP hK1 hD hS => ?_))
              obtain ⟨hw, hfr139⟩ := hw
              have hc139 : Ff_J6_bitCount_0f7a4 a0_5_8.toInt = r139.toInt := hfr139.symm
              have hF0 := hF0.trans (fl_lt_eq hc139.symm)
              refine lv_bipush (v := 9) hx hb dX3_readLine_142 zk_bipush_9 ?_
              refine lv_icmp_lt (tgt := 155) hx hb dX3_readLine_144 (by decide) (fun c144 => ?_) (fun c144 => ?_)
              · have gc144 := ai_lt c144
                have u144t_r139 : r139.toInt ≤ (8 : Int) := ai_lthi gc144 zq3
                have hF0 := hF0.trans (if_pos (show r139.toInt < 9 from gc144))
                refine lv_aload_n hx hb dX3_readLine_155 rfl (lv_at hl 0 rfl) ?_
                refine zc_cutc (wc := [(a0, .inr (3, [a0g_0, .int a0_1, .int a0_2, .ref a0_3, .ref a0_4, .ref a0_5, .int a0_6, .int a0_7, .int a0_8, .int a0_9, .int a0_10, .long a0_11, .int a0_12, .int a0_13])), (a0_3, .inl (ka0_3, 900, .inl (fa0_3))), (a0_4, .inl (ka0_4, 12, .inr (.inl (fa0_4)))), (a0_5, .inr (0, [.int a0_5_0, .int a0_5_1, .int a0_5_2, .int a0_5_3, .int a0_5_4, .int a0_5_5, .int a0_5_6, .int a0_5_7, .int a0_5_8, .int a0_5_9, .ref a0_5_10, .ref a0_5_11, .ref a0_5_12, .ref a0_5_13, .ref a0_5_14])), (a0_5_10, .inl (ka0_5_10, 9, .inl (fa0_5_10))), (a0_5_11, .inl (ka0_5_11, 9, .inl (fa0_5_11)))]) hP hD hS hA [0, 2, 3, 1, 4, 5] (by decide +kernel) rfl (fun hPc hDc hFc hCc => ?_)
                have hKc := hK.sub (tys' := [(ka0_3, .byte), (ka0_4, .long), (ka0_5_10, .int), (ka0_5_11, .int)]) [0, 1, 2, 3] rfl
                refine va_calli (va_runV (As := []) (rest := []) ⟨hx, hb, hml, hown, hts⟩ (f_X3_readFigure l dC dI H.size a0 a0g_0 a0_1 a0_2 a0_3 a0_4 a0_5 a0_6 a0_7 a0_8 a0_9 a0_10 a0_11 a0_12 a0_13 ka0_3 fa0_3 ka0_4 fa0_4 a0_5_0 (.int a0_5_1) (.int a0_5_2) (.int a0_5_3) (.int a0_5_4) (.int a0_5_5) (.int a0_5_6) (.int a0_5_7) (.int a0_5_9) (.ref a0_5_12) (.ref a0_5_13) (.ref a0_5_14) a0_5_8 a0_5_10 a0_5_11 ka0_5_10 fa0_5_10 ka0_5_11 fa0_5_11 ad ba0_6_l ba0_6_u ba0_7_l ba0_7_u ba0_8_l ba0_8_u ba0_9_l ba0_9_u (Int.le_trans zq4 l126k0_a0_10) (Int.le_trans u126k0_a0_10 zq137) (Int.le_trans zq4 l81t_a0_5_0) ba0_5_0_u) (cwV 0 hts gX3_readLine_X3_readFigure rfl rfl rfl zd_X3_readFigure ⟨Nat.le_of_ble_eq_true rfl, Nat.le_of_ble_eq_true rfl⟩) ⟨ax_blind (fun _ _ _ _ hq => ⟨sxc_T_same _ _ _ _ (hq.1), va_Nw.same rfl rfl (hq.2.1), va_Nw.same rfl rfl (hq.2.2)⟩), zr_3 hKc hPc (q0 := 0) rfl, ax_preE hPc hKc hDc (fun U hU hW => ⟨sxc_T_to hE0 hS.2.1 hFc hU hW, va_Nw.warmM hW hE1, va_Nw.warmM hW hE2⟩)⟩ rfl rfl hl.1 rfl (lv_room (Nat.le_of_ble_eq_true rfl)) dX3_readLine_156 ⟨Nat.le_of_ble_eq_true rfl, Nat.le_of_ble_eq_true rfl⟩) hS (fun q _ h => hFc q h) hFc (fun r156 u t H locs ht hvm hw => zx_13 (fun v156na0_1 v156na0_2 v156na0_6 v156na0_8 v156na0_9 v156na0_10 v156na0_11 v156na0_12 v156na0_13 v156nfa0_4 v156na0_5_8 v156nfa0_5_10 v156nfa0_5_11 => zy_5 (fun bv156na0_6 bv156na0_8 bv156na0_9 bv156na0_10 hraw156_0 hB hz1 hk1 hS1 => zo hB ht hS1 (fun hP1 hK1 hD1 hS => ?_))))
                refine zc_backc (w := [(a0, .inr (3, [a0g_0, .int v156na0_1, .int v156na0_2, .ref a0_3, .ref a0_4, .ref a0_5, .int v156na0_6, .int a0_7, .int v156na0_8, .int v156na0_9, .int v156na0_10, .long v156na0_11, .int v156na0_12, .int v156na0_13])), (a0_5, .inr (0, [.int a0_5_0, .int a0_5_1, .int a0_5_2, .int a0_5_3, .int a0_5_4, .int a0_5_5, .int a0_5_6, .int a0_5_7, .int v156na0_5_8, .int a0_5_9, .ref a0_5_10, .ref a0_5_11, .ref a0_5_12, .ref a0_5_13, .ref a0_5_14])), (a0_3, .inl (ka0_3, 900, .inl (fa0_3))), (a0_4, .inl (ka0_4, 12, .inr (.inl (v156nfa0_4)))), (a0_5_10, .inl (ka0_5_10, 9, .inl (v156nfa0_5_10))), (a0_5_11, .inl (ka0_5_11, 9, .inl (v156nfa0_5_11))), (a0_5_14, .inr (6, [.int a0_5_14_0, a0_5_14g_1, .ref a0_5_14_2, .ref a0_5_14_3])), (a0_5_14_2, .inl (ka0_5_14_2, 3, .inl (fa0_5_14_2))), (a0_5_14_3, .inl (ka0_5_14_3, 3, .inl (fa0_5_14_3))), (a0_5_13, .inl (ka0_5_13, 6, .inl (fa0_5_13))), (a0_5_12, .inl (ka0_5_12, 6, .inl (fa0_5_12)))]) hP hD hCc hk1 hFc hP1 hD1 [.inr 0, .inr 3, .inr 1, .inr 2, .inr 4, .inr 5, .inl 6, .inl 7, .inl 8, .inl 9, .inl 10] (by decide +kernel) rfl (fun hP hD => ?_)
                obtain ⟨hw, hfr156⟩ := hw
                have hc156 : Ff_X3_readFigure a0_1.toInt a0_2.toInt a0_6.toInt a0_7.toInt a0_9.toInt a0_11.toInt a0_12.toInt a0_13.toInt (fl_A fa0_3) (fl_L fa0_4) a0_5_0.toInt a0_5_8.toInt (fl_A fa0_5_10) (fl_A fa0_5_11) = (r156.toInt, v156na0_1.toInt, v156na0_2.toInt, v156na0_6.toInt, v156na0_8.toInt, v156na0_9.toInt, v156na0_10.toInt, v156na0_11.toInt, v156na0_12.toInt, v156na0_13.toInt, (fl_L v156nfa0_4), v156na0_5_8.toInt, (fl_A v156nfa0_5_10), (fl_A v156nfa0_5_11)) := Prod.ext hfr156.symm hraw156_0
                have hF0 := hF0.trans (fl_c14_eq hc156)
                rcases hw with hw | hw
                · subst hw
                  have hF0 := hF0.trans (if_pos (by decide))
                  have hFe : FX = (1, v156na0_1.toInt, v156na0_2.toInt, v156na0_6.toInt, v156na0_8.toInt, v156na0_9.toInt, v156na0_10.toInt, v156na0_11.toInt, v156na0_12.toInt, v156na0_13.toInt, a0_5_0.toInt, a0_5_1.toInt, a0_5_2.toInt, a0_5_3.toInt, a0_5_4.toInt, a0_5_5.toInt, a0_5_6.toInt, a0_5_7.toInt, v156na0_5_8.toInt, a0_5_9.toInt, (fl_L v156nfa0_4), (fl_A v156nfa0_5_10), (fl_A v156nfa0_5_11), a0_5_14_0.toInt, (fl_A fa0_5_14_2), (fl_A fa0_5_14_3), (fl_A fa0_5_13), (fl_A fa0_5_12)) := hF0
                  exact W.zret (v := 1) hx hb hr rfl (fun t ht hW => ⟨⟨1, (), rfl, ⟨(Or.inl (rfl)), (congrArg Prod.fst hFe).symm⟩, v156na0_1, v156na0_2, v156na0_6, v156na0_8, v156na0_9, v156na0_10, v156na0_11, v156na0_12, v156na0_13, a0_5_0, a0_5_1, a0_5_2, a0_5_3, a0_5_4, a0_5_5, a0_5_6, a0_5_7, v156na0_5_8, a0_5_9, v156nfa0_4, v156nfa0_5_10, v156nfa0_5_11, a0_5_14_0, fa0_5_14_2, fa0_5_14_3, fa0_5_13, fa0_5_12, ⟨bv156na0_6.1, bv156na0_6.2⟩, ⟨bv156na0_8.1, bv156na0_8.2⟩, ⟨bv156na0_9.1, bv156na0_9.2⟩, ⟨bv156na0_10.1, bv156na0_10.2⟩, ⟨Int.le_trans (by decide) l81t_a0_5_0, ba0_5_0_u⟩, ⟨ba0_5_4_l, ba0_5_4_u⟩, ⟨ba0_5_5_l, ba0_5_5_u⟩, ⟨ba0_5_6_l, ba0_5_6_u⟩, ⟨ba0_5_7_l, ba0_5_7_u⟩, ⟨ba0_5_9_l, ba0_5_9_u⟩, ⟨ba0_5_14_0_l, ba0_5_14_0_u⟩, bfa0_5_14_2, bfa0_5_14_3, bfa0_5_13, (congrArg Prod.snd hFe), by rw [ht]; exact hP, va_K.moved hW.alike hK, hD⟩, hS.F ht⟩) hS.2.2 dX3_readLine_159
                · subst hw
                  have hF0 := hF0.trans (if_neg (by decide))
                  have hFe : FX = (0, v156na0_1.toInt, v156na0_2.toInt, v156na0_6.toInt, v156na0_8.toInt, v156na0_9.toInt, v156na0_10.toInt, v156na0_11.toInt, v156na0_12.toInt, v156na0_13.toInt, a0_5_0.toInt, a0_5_1.toInt, a0_5_2.toInt, a0_5_3.toInt, a0_5_4.toInt, a0_5_5.toInt, a0_5_6.toInt, a0_5_7.toInt, v156na0_5_8.toInt, a0_5_9.toInt, (fl_L v156nfa0_4), (fl_A v156nfa0_5_10), (fl_A v156nfa0_5_11), a0_5_14_0.toInt, (fl_A fa0_5_14_2), (fl_A fa0_5_14_3), (fl_A fa0_5_13), (fl_A fa0_5_12)) := hF0
                  exact W.zret (v := 0) hx hb hr rfl (fun t ht hW => ⟨⟨0, (), rfl, ⟨(Or.inr (rfl)), (congrArg Prod.fst hFe).symm⟩, v156na0_1, v156na0_2, v156na0_6, v156na0_8, v156na0_9, v156na0_10, v156na0_11, v156na0_12, v156na0_13, a0_5_0, a0_5_1, a0_5_2, a0_5_3, a0_5_4, a0_5_5, a0_5_6, a0_5_7, v156na0_5_8, a0_5_9, v156nfa0_4, v156nfa0_5_10, v156nfa0_5_11, a0_5_14_0, fa0_5_14_2, fa0_5_14_3, fa0_5_13, fa0_5_12, ⟨bv156na0_6.1, bv156na0_6.2⟩, ⟨bv156na0_8.1, bv156na0_8.2⟩, ⟨bv156na0_9.1, bv156na0_9.2⟩, ⟨bv156na0_10.1, bv156na0_10.2⟩, ⟨Int.le_trans (by decide) l81t_a0_5_0, ba0_5_0_u⟩, ⟨ba0_5_4_l, ba0_5_4_u⟩, ⟨ba0_5_5_l, ba0_5_5_u⟩, ⟨ba0_5_6_l, ba0_5_6_u⟩, ⟨ba0_5_7_l, ba0_5_7_u⟩, ⟨ba0_5_9_l, ba0_5_9_u⟩, ⟨ba0_5_14_0_l, ba0_5_14_0_u⟩, bfa0_5_14_2, bfa0_5_14_3, bfa0_5_13, (congrArg Prod.snd hFe), by rw [ht]; exact hP, va_K.moved hW.alike hK, hD⟩, hS.F ht⟩) hS.2.2 dX3_readLine_159
              · have gc144 := ai_nlt c144
                have l144f_r139 : (9 : Int) ≤ r139.toInt := Int.le_trans zq2 gc144
                have hF0 := hF0.trans (if_neg (show ¬ (r139.toInt < 9) from Int.not_lt.mpr gc144))
                refine lv_aload_n hx hb dX3_readLine_147 rfl (lv_at hl 0 rfl) ?_
                refine lv_iconst (v := 5) hx hb dX3_readLine_148 zk_iconst_5 ?_
                refine va_calli (va_runV (As := [.int 5]) (rest := []) ⟨hx, hb, hml, hown, hts⟩ (f_X3_fails l dC dI H.size a0 5 a0g_0 (.ref a0_3) (.ref a0_4) (.ref a0_5) (.int a0_6) (.int a0_7) (.int a0_9) (.int a0_10) (.long a0_11) (.int a0_12) (.int a0_13) a0_1 a0_2 a0_8 ba0_8_l ba0_8_u) (cwV 1 hts gX3_readLine_X3_fails rfl rfl rfl zd_X3_fails ⟨Nat.le_of_ble_eq_true rfl, Nat.le_of_ble_eq_true rfl⟩) ⟨ax_blind (fun _ _ _ _ _ => trivial), zr_3 (zp_K hK) (zp_P1 hP) (q0 := 0) rfl, ax_pre (zp_P1 hP) (zp_K hK) (zp_D1 hD) (fun _ _ => trivial)⟩ rfl rfl hl.1 rfl (lv_room (Nat.le_of_ble_eq_true rfl)) dX3_readLine_149 ⟨Nat.le_of_ble_eq_true rfl, Nat.le_of_ble_eq_true rfl⟩) hS (fun q _ h => zp_F1 hD hS hA q h) (zp_F1 hD hS hA) (fun r149 u t H locs ht hvm hw => zx_2 (fun v149na0_1 v149na0_2 => zy_1 (fun hraw149_0 hB hz1 hk1 hS1 => zo1 hB ht hP hD hk1 (zp_F1 hD hS hA) hS1 (fun hP hK1 hD hS => ?_))))
                obtain ⟨hw, hfr149⟩ := hw
                rw [show (5 : Int32).toInt = 5 from by decide] at hfr149 hraw149_0
                have hc149 : Ff_X3_fails 5 a0_8.toInt = (r149.toInt, v149na0_1.toInt, v149na0_2.toInt) := Prod.ext hfr149.symm hraw149_0
                have hF0 := hF0.trans (fl_c3_eq hc149)
                have hw : r149 = 0 := hw
                have hw := hw.symm
                subst hw
                refine lv_goto (tgt := 159) hx hb dX3_readLine_152 (by decide) ?_
                have hFe : FX = (0, v149na0_1.toInt, v149na0_2.toInt, a0_6.toInt, a0_8.toInt, a0_9.toInt, a0_10.toInt, a0_11.toInt, a0_12.toInt, a0_13.toInt, a0_5_0.toInt, a0_5_1.toInt, a0_5_2.toInt, a0_5_3.toInt, a0_5_4.toInt, a0_5_5.toInt, a0_5_6.toInt, a0_5_7.toInt, a0_5_8.toInt, a0_5_9.toInt, (fl_L fa0_4), (fl_A fa0_5_10), (fl_A fa0_5_11), a0_5_14_0.toInt, (fl_A fa0_5_14_2), (fl_A fa0_5_14_3), (fl_A fa0_5_13), (fl_A fa0_5_12)) := hF0
                exact W.zret (v := 0) hx hb hr rfl (fun t ht hW => ⟨⟨0, (), rfl, ⟨(Or.inr (rfl)), (congrArg Prod.fst hFe).symm⟩, v149na0_1, v149na0_2, a0_6, a0_8, a0_9, a0_10, a0_11, a0_12, a0_13, a0_5_0, a0_5_1, a0_5_2, a0_5_3, a0_5_4, a0_5_5, a0_5_6, a0_5_7, a0_5_8, a0_5_9, fa0_4, fa0_5_10, fa0_5_11, a0_5_14_0, fa0_5_14_2, fa0_5_14_3, fa0_5_13, fa0_5_12, ⟨ba0_6_l, ba0_6_u⟩, ⟨ba0_8_l, ba0_8_u⟩, ⟨ba0_9_l, ba0_9_u⟩, ⟨Int.le_trans (by decide) l126k0_a0_10, Int.le_trans u126k0_a0_10 (by decide)⟩, ⟨Int.le_trans (by decide) l81t_a0_5_0, ba0_5_0_u⟩, ⟨ba0_5_4_l, ba0_5_4_u⟩, ⟨ba0_5_5_l, ba0_5_5_u⟩, ⟨ba0_5_6_l, ba0_5_6_u⟩, ⟨ba0_5_7_l, ba0_5_7_u⟩, ⟨ba0_5_9_l, ba0_5_9_u⟩, ⟨ba0_5_14_0_l, ba0_5_14_0_u⟩, bfa0_5_14_2, bfa0_5_14_3, bfa0_5_13, (congrArg Prod.snd hFe), by rw [ht]; exact hP, va_K.moved hW.alike hK, hD⟩, hS.F ht⟩) hS.2.2 dX3_readLine_159
            · subst hw
              have hF0 := hF0.trans (if_neg (by decide))
              refine lv_if_eq (tgt := 160) hx hb dX3_readLine_129 (by decide) (fun _ => ?_) (fun c129 => absurd (by decide +kernel) c129)
              refine lv_aload_n hx hb dX3_readLine_160 rfl (lv_at hl 0 rfl) ?_
              refine va_ldcS hx hb hown (sxc_R3 hE0) dX3_readLine_161 ?_
              refine va_calli (va_runV (As := [.ref (ad 3)]) (rest := []) ⟨hx, hb, hml, hown, hts⟩ (f_X3_isWord l dC dI H.size a0 (ad 3) a0g_0 (.int a0_1) (.int a0_2) (.ref a0_3) (.ref a0_4) (.ref a0_5) (.int a0_6) (.int a0_7) (.int a0_8) (.int a0_9) (.int a0_12) (.int a0_13) a0_10 a0_11 7 (sxc 3) ba0_10_l ba0_10_u) (cwV 1 hts gX3_readLine_X3_isWord rfl rfl rfl zd_X3_isWord ⟨Nat.le_of_ble_eq_true rfl, Nat.le_of_ble_eq_true rfl⟩) ⟨ax_blind (fun _ _ _ _ hq => sxc_W_same _ _ _ _ (hq)), zr_3 (zp_K hK) (zp_P1 hP) (q0 := 0) rfl, ax_preE (zp_P1 hP) (zp_K hK) (zp_D1 hD) (fun U hU hW => sxc_W_to (sxc_T_w hE0 (i := 3) (by decide)) hS.2.1 (zp_F1 hD hS hA) hU hW)⟩ rfl rfl hl.1 rfl (lv_room (Nat.le_of_ble_eq_true rfl)) dX3_readLine_163 ⟨Nat.le_of_ble_eq_true rfl, Nat.le_of_ble_eq_true rfl⟩) hS (fun q _ h => zp_F1 hD hS hA q h) (zp_F1 hD hS hA) (fun r163 u t H locs ht hvm hw hB hz1 hk1 hS1 => zo1 hB ht hP hD hk1 (zp_F1 hD hS hA) hS1 (fun hP hK1 hD hS => ?_))
              obtain ⟨hw, hfr163⟩ := hw
              rw [show ((7 : Nat) : Int) = 7 from rfl] at hfr163
              have hc163 : Ff_X3_isWord a0_10.toInt a0_11.toInt 7 (fl_A (sxc 3)) = r163.toInt := hfr163.symm
              have hF0 := hF0.trans (fl_lt_eq hc163.symm)
              rcases hw with hw | hw
              · obtain ⟨hw, h163_0, h163_1⟩ := hw
                subst hw
                have l163k0_a0_10 : (1 : Int) ≤ a0_10.toInt := h163_0
                have u163k0_a0_10 : a0_10.toInt ≤ (1 : Int) := h163_1
                have hF0 := hF0.trans (if_pos (by decide))
                refine lv_if_eq (tgt := 196) hx hb dX3_readLine_166 (by decide) (fun c166 => absurd c166 (by decide +kernel)) (fun _ => ?_)
                refine lv_aload_n hx hb dX3_readLine_169 rfl (lv_at hl 0 rfl) ?_
                refine va_get (D := (dC, dI)) (ci := 3) (v := .ref a0_5) (C := RX3) (T := TX3) (N := 14) hx hb hts zi_X3_readLine_3 hown hK hP 0 rfl rfl 5 (by decide) (hts (.fieldLink RX3 22 "WaxTurns$Reade\x72" "draft" "LWaxTurns$Hall;") (zm_X3_readLine_r1 (List.mem_of_getElem? (i := 0) rfl))) (fun _ h9 => h9) rfl dX3_readLine_170 ?_
                refine va_get (D := (dC, dI)) (ci := 0) (v := .ref a0_5_14) (C := RX0) (T := TX0) (N := 15) hx hb hts zi_X3_readLine_0 hown hK hP 1 rfl rfl 14 (by decide) (hts (.fieldLink RX3 133 "WaxTurns$Hall" "watchers" "LWaxTurns$Watchers;") (zm_X3_readLine_r1 (List.mem_of_getElem? (i := 4) rfl))) (fun _ h9 => h9) rfl dX3_readLine_173 ?_
                refine va_get (D := (dC, dI)) (ci := 6) (v := .int a0_5_14_0) (C := RX6) (T := TX6) (N := 4) hx hb hts zi_X3_readLine_6 hown hK hP 6 rfl rfl 0 (by decide) (hts (.fieldLink RX3 137 "WaxTurns$Watchers" "count" "I") (zm_X3_readLine_r1 (List.mem_of_getElem? (i := 5) rfl))) (fun _ h9 => h9) rfl dX3_readLine_176 ?_
                refine lv_iconst (v := 3) hx hb dX3_readLine_179 zk_iconst_3 ?_
                refine lv_icmp_lt (tgt := 191) hx hb dX3_readLine_180 (by decide) (fun c180 => ?_) (fun c180 => ?_)
                · have gc180 := ai_lt c180
                  have u180t_a0_5_14_0 : a0_5_14_0.toInt ≤ (2 : Int) := ai_lthi gc180 zq9
                  have hF0 := hF0.trans (if_pos (show a0_5_14_0.toInt < 3 from gc180))
                  refine lv_aload_n hx hb dX3_readLine_191 rfl (lv_at hl 0 rfl) ?_
                  refine zc_cutc (wc := [(a0, .inr (3, [a0g_0, .int a0_1, .int a0_2, .ref a0_3, .ref a0_4, .ref a0_5, .int a0_6, .int a0_7, .int a0_8, .int a0_9, .int a0_10, .long a0_11, .int a0_12, .int a0_13])), (a0_3, .inl (ka0_3, 900, .inl (fa0_3))), (a0_4, .inl (ka0_4, 12, .inr (.inl (fa0_4)))), (a0_5, .inr (0, [.int a0_5_0, .int a0_5_1, .int a0_5_2, .int a0_5_3, .int a0_5_4, .int a0_5_5, .int a0_5_6, .int a0_5_7, .int a0_5_8, .int a0_5_9, .ref a0_5_10, .ref a0_5_11, .ref a0_5_12, .ref a0_5_13, .ref a0_5_14])), (a0_5_14, .inr (6, [.int a0_5_14_0, a0_5_14g_1, .ref a0_5_14_2, .ref a0_5_14_3])), (a0_5_14_2, .inl (ka0_5_14_2, 3, .inl (fa0_5_14_2))), (a0_5_14_3, .inl (ka0_5_14_3, 3, .inl (fa0_5_14_3)))]) hP hD hS hA [0, 2, 3, 1, 6, 7, 8] (by decide +kernel) rfl (fun hPc hDc hFc hCc => ?_)
                  have hKc := hK.sub (tys' := [(ka0_3, .byte), (ka0_4, .long), (ka0_5_14_2, .int), (ka0_5_14_3, .int)]) [0, 1, 4, 5] rfl
                  refine va_calli (va_runV (As := []) (rest := []) ⟨hx, hb, hml, hown, hts⟩ (f_X3_readWatcher l dC dI H.size a0 a0g_0 a0_1 a0_2 a0_3 a0_4 a0_5 a0_6 a0_7 a0_8 a0_9 a0_10 a0_11 a0_12 a0_13 ka0_3 fa0_3 ka0_4 fa0_4 a0_5_0 (.int a0_5_1) (.int a0_5_2) (.int a0_5_3) (.int a0_5_4) (.int a0_5_5) (.int a0_5_6) (.int a0_5_7) (.int a0_5_8) (.int a0_5_9) (.ref a0_5_10) (.ref a0_5_11) (.ref a0_5_12) (.ref a0_5_13) a0_5_14 a0_5_14_0 a0_5_14g_1 a0_5_14_2 a0_5_14_3 ka0_5_14_2 fa0_5_14_2 ka0_5_14_3 fa0_5_14_3 ad ba0_6_l ba0_6_u ba0_7_l ba0_7_u ba0_8_l ba0_8_u ba0_9_l ba0_9_u (Int.le_trans zq4 l163k0_a0_10) (Int.le_trans u163k0_a0_10 zq137) (Int.le_trans zq4 l81t_a0_5_0) ba0_5_0_u ba0_5_14_0_l (Int.le_trans u180t_a0_5_14_0 zq75) bfa0_5_14_2 bfa0_5_14_3) (cwV 0 hts gX3_readLine_X3_readWatcher rfl rfl rfl zd_X3_readWatcher ⟨Nat.le_of_ble_eq_true rfl, Nat.le_of_ble_eq_true rfl⟩) ⟨ax_blind (fun _ _ _ _ hq => ⟨sxc_T_same _ _ _ _ (hq.1), va_Nw.same rfl rfl (hq.2)⟩), zr_3 hKc hPc (q0 := 0) rfl, ax_preE hPc hKc hDc (fun U hU hW => ⟨sxc_T_to hE0 hS.2.1 hFc hU hW, va_Nw.warmM hW hE1⟩)⟩ rfl rfl hl.1 rfl (lv_room (Nat.le_of_ble_eq_true rfl)) dX3_readLine_192 ⟨Nat.le_of_ble_eq_true rfl, Nat.le_of_ble_eq_true rfl⟩) hS (fun q _ h => hFc q h) hFc (fun r192 u t H locs ht hvm hw => zx_13 (fun v192na0_1 v192na0_2 v192na0_6 v192na0_8 v192na0_9 v192na0_10 v192na0_11 v192na0_12 v192na0_13 v192nfa0_4 v192na0_5_14_0 v192nfa0_5_14_2 v192nfa0_5_14_3 => zy_8 (fun bv192na0_6 bv192na0_8 bv192na0_9 bv192na0_10 bv192na0_5_14_0 bv192nfa0_5_14_2 bv192nfa0_5_14_3 hraw192_0 hB hz1 hk1 hS1 => zo hB ht hS1 (fun hP1 hK1 hD1 hS => ?_))))
                  refine zc_backc (w := [(a0, .inr (3, [a0g_0, .int v192na0_1, .int v192na0_2, .ref a0_3, .ref a0_4, .ref a0_5, .int v192na0_6, .int a0_7, .int v192na0_8, .int v192na0_9, .int v192na0_10, .long v192na0_11, .int v192na0_12, .int v192na0_13])), (a0_5, .inr (0, [.int a0_5_0, .int a0_5_1, .int a0_5_2, .int a0_5_3, .int a0_5_4, .int a0_5_5, .int a0_5_6, .int a0_5_7, .int a0_5_8, .int a0_5_9, .ref a0_5_10, .ref a0_5_11, .ref a0_5_12, .ref a0_5_13, .ref a0_5_14])), (a0_3, .inl (ka0_3, 900, .inl (fa0_3))), (a0_4, .inl (ka0_4, 12, .inr (.inl (v192nfa0_4)))), (a0_5_10, .inl (ka0_5_10, 9, .inl (fa0_5_10))), (a0_5_11, .inl (ka0_5_11, 9, .inl (fa0_5_11))), (a0_5_14, .inr (6, [.int v192na0_5_14_0, a0_5_14g_1, .ref a0_5_14_2, .ref a0_5_14_3])), (a0_5_14_2, .inl (ka0_5_14_2, 3, .inl (v192nfa0_5_14_2))), (a0_5_14_3, .inl (ka0_5_14_3, 3, .inl (v192nfa0_5_14_3))), (a0_5_13, .inl (ka0_5_13, 6, .inl (fa0_5_13))), (a0_5_12, .inl (ka0_5_12, 6, .inl (fa0_5_12)))]) hP hD hCc hk1 hFc hP1 hD1 [.inr 0, .inr 3, .inr 1, .inr 2, .inl 4, .inl 5, .inr 4, .inr 5, .inr 6, .inl 9, .inl 10] (by decide +kernel) rfl (fun hP hD => ?_)
                  obtain ⟨hw, hfr192⟩ := hw
                  have hc192 : Ff_X3_readWatcher a0_1.toInt a0_2.toInt a0_6.toInt a0_7.toInt a0_9.toInt a0_11.toInt a0_12.toInt a0_13.toInt (fl_A fa0_3) (fl_L fa0_4) a0_5_0.toInt a0_5_14_0.toInt (fl_A fa0_5_14_2) (fl_A fa0_5_14_3) = (r192.toInt, v192na0_1.toInt, v192na0_2.toInt, v192na0_6.toInt, v192na0_8.toInt, v192na0_9.toInt, v192na0_10.toInt, v192na0_11.toInt, v192na0_12.toInt, v192na0_13.toInt, (fl_L v192nfa0_4), v192na0_5_14_0.toInt, (fl_A v192nfa0_5_14_2), (fl_A v192nfa0_5_14_3)) := Prod.ext hfr192.symm hraw192_0
                  have hF0 := hF0.trans (fl_c14_eq hc192)
                  rcases hw with hw | hw
                  · subst hw
                    have hF0 := hF0.trans (if_pos (by decide))
                    have hFe : FX = (1, v192na0_1.toInt, v192na0_2.toInt, v192na0_6.toInt, v192na0_8.toInt, v192na0_9.toInt, v192na0_10.toInt, v192na0_11.toInt, v192na0_12.toInt, v192na0_13.toInt, a0_5_0.toInt, a0_5_1.toInt, a0_5_2.toInt, a0_5_3.toInt, a0_5_4.toInt, a0_5_5.toInt, a0_5_6.toInt, a0_5_7.toInt, a0_5_8.toInt, a0_5_9.toInt, (fl_L v192nfa0_4), (fl_A fa0_5_10), (fl_A fa0_5_11), v192na0_5_14_0.toInt, (fl_A v192nfa0_5_14_2), (fl_A v192nfa0_5_14_3), (fl_A fa0_5_13), (fl_A fa0_5_12)) := hF0
                    exact W.zret (v := 1) hx hb hr rfl (fun t ht hW => ⟨⟨1, (), rfl, ⟨(Or.inl (rfl)), (congrArg Prod.fst hFe).symm⟩, v192na0_1, v192na0_2, v192na0_6, v192na0_8, v192na0_9, v192na0_10, v192na0_11, v192na0_12, v192na0_13, a0_5_0, a0_5_1, a0_5_2, a0_5_3, a0_5_4, a0_5_5, a0_5_6, a0_5_7, a0_5_8, a0_5_9, v192nfa0_4, fa0_5_10, fa0_5_11, v192na0_5_14_0, v192nfa0_5_14_2, v192nfa0_5_14_3, fa0_5_13, fa0_5_12, ⟨bv192na0_6.1, bv192na0_6.2⟩, ⟨bv192na0_8.1, bv192na0_8.2⟩, ⟨bv192na0_9.1, bv192na0_9.2⟩, ⟨bv192na0_10.1, bv192na0_10.2⟩, ⟨Int.le_trans (by decide) l81t_a0_5_0, ba0_5_0_u⟩, ⟨ba0_5_4_l, ba0_5_4_u⟩, ⟨ba0_5_5_l, ba0_5_5_u⟩, ⟨ba0_5_6_l, ba0_5_6_u⟩, ⟨ba0_5_7_l, ba0_5_7_u⟩, ⟨ba0_5_9_l, ba0_5_9_u⟩, ⟨bv192na0_5_14_0.1, bv192na0_5_14_0.2⟩, bv192nfa0_5_14_2, bv192nfa0_5_14_3, bfa0_5_13, (congrArg Prod.snd hFe), by rw [ht]; exact hP, va_K.moved hW.alike hK, hD⟩, hS.F ht⟩) hS.2.2 dX3_readLine_195
                  · subst hw
                    have hF0 := hF0.trans (if_neg (by decide))
                    have hFe : FX = (0, v192na0_1.toInt, v192na0_2.toInt, v192na0_6.toInt, v192na0_8.toInt, v192na0_9.toInt, v192na0_10.toInt, v192na0_11.toInt, v192na0_12.toInt, v192na0_13.toInt, a0_5_0.toInt, a0_5_1.toInt, a0_5_2.toInt, a0_5_3.toInt, a0_5_4.toInt, a0_5_5.toInt, a0_5_6.toInt, a0_5_7.toInt, a0_5_8.toInt, a0_5_9.toInt, (fl_L v192nfa0_4), (fl_A fa0_5_10), (fl_A fa0_5_11), v192na0_5_14_0.toInt, (fl_A v192nfa0_5_14_2), (fl_A v192nfa0_5_14_3), (fl_A fa0_5_13), (fl_A fa0_5_12)) := hF0
                    exact W.zret (v := 0) hx hb hr rfl (fun t ht hW => ⟨⟨0, (), rfl, ⟨(Or.inr (rfl)), (congrArg Prod.fst hFe).symm⟩, v192na0_1, v192na0_2, v192na0_6, v192na0_8, v192na0_9, v192na0_10, v192na0_11, v192na0_12, v192na0_13, a0_5_0, a0_5_1, a0_5_2, a0_5_3, a0_5_4, a0_5_5, a0_5_6, a0_5_7, a0_5_8, a0_5_9, v192nfa0_4, fa0_5_10, fa0_5_11, v192na0_5_14_0, v192nfa0_5_14_2, v192nfa0_5_14_3, fa0_5_13, fa0_5_12, ⟨bv192na0_6.1, bv192na0_6.2⟩, ⟨bv192na0_8.1, bv192na0_8.2⟩, ⟨bv192na0_9.1, bv192na0_9.2⟩, ⟨bv192na0_10.1, bv192na0_10.2⟩, ⟨Int.le_trans (by decide) l81t_a0_5_0, ba0_5_0_u⟩, ⟨ba0_5_4_l, ba0_5_4_u⟩, ⟨ba0_5_5_l, ba0_5_5_u⟩, ⟨ba0_5_6_l, ba0_5_6_u⟩, ⟨ba0_5_7_l, ba0_5_7_u⟩, ⟨ba0_5_9_l, ba0_5_9_u⟩, ⟨bv192na0_5_14_0.1, bv192na0_5_14_0.2⟩, bv192nfa0_5_14_2, bv192nfa0_5_14_3, bfa0_5_13, (congrArg Prod.snd hFe), by rw [ht]; exact hP, va_K.moved hW.alike hK, hD⟩, hS.F ht⟩) hS.2.2 dX3_readLine_195
                · have gc180 := ai_nlt c180
                  have l180f_a0_5_14_0 : (3 : Int) ≤ a0_5_14_0.toInt := Int.le_trans zq8 gc180
                  have hF0 := hF0.trans (if_neg (show ¬ (a0_5_14_0.toInt < 3) from Int.not_lt.mpr gc180))
                  refine lv_aload_n hx hb dX3_readLine_183 rfl (lv_at hl 0 rfl) ?_
                  refine lv_iconst (v := 5) hx hb dX3_readLine_184 zk_iconst_5 ?_
                  refine va_calli (va_runV (As := [.int 5]) (rest := []) ⟨hx, hb, hml, hown, hts⟩ (f_X3_fails l dC dI H.size a0 5 a0g_0 (.ref a0_3) (.ref a0_4) (.ref a0_5) (.int a0_6) (.int a0_7) (.int a0_9) (.int a0_10) (.long a0_11) (.int a0_12) (.int a0_13) a0_1 a0_2 a0_8 ba0_8_l ba0_8_u) (cwV 1 hts gX3_readLine_X3_fails rfl rfl rfl zd_X3_fails ⟨Nat.le_of_ble_eq_true rfl, Nat.le_of_ble_eq_true rfl⟩) ⟨ax_blind (fun _ _ _ _ _ => trivial), zr_3 (zp_K hK) (zp_P1 hP) (q0 := 0) rfl, ax_pre (zp_P1 hP) (zp_K hK) (zp_D1 hD) (fun _ _ => trivial)⟩ rfl rfl hl.1 rfl (lv_room (Nat.le_of_ble_eq_true rfl)) dX3_readLine_185 ⟨Nat.le_of_ble_eq_true rfl, Nat.le_of_ble_eq_true rfl⟩) hS (fun q _ h => zp_F1 hD hS hA q h) (zp_F1 hD hS hA) (fun r185 u t H locs ht hvm hw => zx_2 (fun v185na0_1 v185na0_2 => zy_1 (fun hraw185_0 hB hz1 hk1 hS1 => zo1 hB ht hP hD hk1 (zp_F1 hD hS hA) hS1 (fun hP hK1 hD hS => ?_))))
                  obtain ⟨hw, hfr185⟩ := hw
                  rw [show (5 : Int32).toInt = 5 from by decide] at hfr185 hraw185_0
                  have hc185 : Ff_X3_fails 5 a0_8.toInt = (r185.toInt, v185na0_1.toInt, v185na0_2.toInt) := Prod.ext hfr185.symm hraw185_0
                  have hF0 := hF0.trans (fl_c3_eq hc185)
                  have hw : r185 = 0 := hw
                  have hw := hw.symm
                  subst hw
                  refine lv_goto (tgt := 195) hx hb dX3_readLine_188 (by decide) ?_
                  have hFe : FX = (0, v185na0_1.toInt, v185na0_2.toInt, a0_6.toInt, a0_8.toInt, a0_9.toInt, a0_10.toInt, a0_11.toInt, a0_12.toInt, a0_13.toInt, a0_5_0.toInt, a0_5_1.toInt, a0_5_2.toInt, a0_5_3.toInt, a0_5_4.toInt, a0_5_5.toInt, a0_5_6.toInt, a0_5_7.toInt, a0_5_8.toInt, a0_5_9.toInt, (fl_L fa0_4), (fl_A fa0_5_10), (fl_A fa0_5_11), a0_5_14_0.toInt, (fl_A fa0_5_14_2), (fl_A fa0_5_14_3), (fl_A fa0_5_13), (fl_A fa0_5_12)) := hF0
                  exact W.zret (v := 0) hx hb hr rfl (fun t ht hW => ⟨⟨0, (), rfl, ⟨(Or.inr (rfl)), (congrArg Prod.fst hFe).symm⟩, v185na0_1, v185na0_2, a0_6, a0_8, a0_9, a0_10, a0_11, a0_12, a0_13, a0_5_0, a0_5_1, a0_5_2, a0_5_3, a0_5_4, a0_5_5, a0_5_6, a0_5_7, a0_5_8, a0_5_9, fa0_4, fa0_5_10, fa0_5_11, a0_5_14_0, fa0_5_14_2, fa0_5_14_3, fa0_5_13, fa0_5_12, ⟨ba0_6_l, ba0_6_u⟩, ⟨ba0_8_l, ba0_8_u⟩, ⟨ba0_9_l, ba0_9_u⟩, ⟨Int.le_trans (by decide) l163k0_a0_10, Int.le_trans u163k0_a0_10 (by decide)⟩, ⟨Int.le_trans (by decide) l81t_a0_5_0, ba0_5_0_u⟩, ⟨ba0_5_4_l, ba0_5_4_u⟩, ⟨ba0_5_5_l, ba0_5_5_u⟩, ⟨ba0_5_6_l, ba0_5_6_u⟩, ⟨ba0_5_7_l, ba0_5_7_u⟩, ⟨ba0_5_9_l, ba0_5_9_u⟩, ⟨Int.le_trans (by decide) l180f_a0_5_14_0, ba0_5_14_0_u⟩, bfa0_5_14_2, bfa0_5_14_3, bfa0_5_13, (congrArg Prod.snd hFe), by rw [ht]; exact hP, va_K.moved hW.alike hK, hD⟩, hS.F ht⟩) hS.2.2 dX3_readLine_195
              · subst hw
                have hF0 := hF0.trans (if_neg (by decide))
                refine lv_if_eq (tgt := 196) hx hb dX3_readLine_166 (by decide) (fun _ => ?_) (fun c166 => absurd (by decide +kernel) c166)
                refine lv_aload_n hx hb dX3_readLine_196 rfl (lv_at hl 0 rfl) ?_
                refine va_get (D := (dC, dI)) (ci := 3) (v := .ref a0_5) (C := RX3) (T := TX3) (N := 14) hx hb hts zi_X3_readLine_3 hown hK hP 0 rfl rfl 5 (by decide) (hts (.fieldLink RX3 22 "WaxTurns$Reade\x72" "draft" "LWaxTurns$Hall;") (zm_X3_readLine_r1 (List.mem_of_getElem? (i := 0) rfl))) (fun _ h9 => h9) rfl dX3_readLine_197 ?_
                refine va_get (D := (dC, dI)) (ci := 0) (v := .int a0_5_9) (C := RX0) (T := TX0) (N := 15) hx hb hts zi_X3_readLine_0 hown hK hP 1 rfl rfl 9 (by decide) (hts (.fieldLink RX3 145 "WaxTurns$Hall" "seenCount" "I") (zm_X3_readLine_r1 (List.mem_of_getElem? (i := 6) rfl))) (fun _ h9 => h9) rfl dX3_readLine_200 ?_
                refine lv_bipush (v := 6) hx hb dX3_readLine_203 zk_bipush_6 ?_
                refine lv_icmp_lt (tgt := 216) hx hb dX3_readLine_205 (by decide) (fun c205 => ?_) (fun c205 => ?_)
                · have gc205 := ai_lt c205
                  have u205t_a0_5_9 : a0_5_9.toInt ≤ (5 : Int) := ai_lthi gc205 zq16
                  have hF0 := hF0.trans (if_pos (show a0_5_9.toInt < 6 from gc205))
                  refine lv_aload_n hx hb dX3_readLine_216 rfl (lv_at hl 0 rfl) ?_
                  refine zc_cutc (wc := [(a0, .inr (3, [a0g_0, .int a0_1, .int a0_2, .ref a0_3, .ref a0_4, .ref a0_5, .int a0_6, .int a0_7, .int a0_8, .int a0_9, .int a0_10, .long a0_11, .int a0_12, .int a0_13])), (a0_5, .inr (0, [.int a0_5_0, .int a0_5_1, .int a0_5_2, .int a0_5_3, .int a0_5_4, .int a0_5_5, .int a0_5_6, .int a0_5_7, .int a0_5_8, .int a0_5_9, .ref a0_5_10, .ref a0_5_11, .ref a0_5_12, .ref a0_5_13, .ref a0_5_14])), (a0_3, .inl (ka0_3, 900, .inl (fa0_3))), (a0_5_13, .inl (ka0_5_13, 6, .inl (fa0_5_13))), (a0_5_12, .inl (ka0_5_12, 6, .inl (fa0_5_12)))]) hP hD hS hA [0, 1, 2, 9, 10] (by decide +kernel) rfl (fun hPc hDc hFc hCc => ?_)
                  have hKc := hK.sub (tys' := [(ka0_3, .byte), (ka0_5_13, .int), (ka0_5_12, .int)]) [0, 6, 7] rfl
                  refine va_calli (va_runV (As := []) (rest := []) ⟨hx, hb, hml, hown, hts⟩ (f_X3_readSeen l dC dI H.size a0 a0g_0 (.ref a0_4) (.int a0_6) a0_1 a0_2 a0_3 a0_5 a0_7 a0_8 a0_9 a0_10 a0_11 a0_12 a0_13 a0_5_0 (.int a0_5_1) (.int a0_5_2) (.int a0_5_3) (.int a0_5_4) (.int a0_5_5) (.int a0_5_6) (.int a0_5_7) (.int a0_5_8) (.ref a0_5_10) (.ref a0_5_11) (.ref a0_5_14) a0_5_9 a0_5_12 a0_5_13 ka0_3 fa0_3 ka0_5_13 fa0_5_13 ka0_5_12 fa0_5_12 ad ba0_7_l ba0_7_u ba0_8_l ba0_8_u ba0_9_l ba0_9_u ba0_10_l ba0_10_u (Int.le_trans zq4 l81t_a0_5_0) ba0_5_0_u ba0_5_9_l (Int.le_trans u205t_a0_5_9 zq218) bfa0_5_13) (cwV 0 hts gX3_readLine_X3_readSeen rfl rfl rfl zd_X3_readSeen ⟨Nat.le_of_ble_eq_true rfl, Nat.le_of_ble_eq_true rfl⟩) ⟨ax_blind (fun _ _ _ _ hq => ⟨sxc_T_same _ _ _ _ (hq.1), va_Nw.same rfl rfl (hq.2)⟩), zr_3 hKc hPc (q0 := 0) rfl, ax_preE hPc hKc hDc (fun U hU hW => ⟨sxc_T_to hE0 hS.2.1 hFc hU hW, va_Nw.warmM hW hE1⟩)⟩ rfl rfl hl.1 rfl (lv_room (Nat.le_of_ble_eq_true rfl)) dX3_readLine_217 ⟨Nat.le_of_ble_eq_true rfl, Nat.le_of_ble_eq_true rfl⟩) hS (fun q _ h => hFc q h) hFc (fun r217 u t H locs ht hvm hw => zx_11 (fun v217na0_1 v217na0_2 v217na0_8 v217na0_9 v217na0_10 v217na0_11 v217na0_12 v217na0_13 v217na0_5_9 v217nfa0_5_13 v217nfa0_5_12 => zy_6 (fun bv217na0_8 bv217na0_9 bv217na0_10 bv217na0_5_9 bv217nfa0_5_13 hraw217_0 hB hz1 hk1 hS1 => zo hB ht hS1 (fun hP1 hK1 hD1 hS => ?_))))
                  refine zc_backc (w := [(a0, .inr (3, [a0g_0, .int v217na0_1, .int v217na0_2, .ref a0_3, .ref a0_4, .ref a0_5, .int a0_6, .int a0_7, .int v217na0_8, .int v217na0_9, .int v217na0_10, .long v217na0_11, .int v217na0_12, .int v217na0_13])), (a0_5, .inr (0, [.int a0_5_0, .int a0_5_1, .int a0_5_2, .int a0_5_3, .int a0_5_4, .int a0_5_5, .int a0_5_6, .int a0_5_7, .int a0_5_8, .int v217na0_5_9, .ref a0_5_10, .ref a0_5_11, .ref a0_5_12, .ref a0_5_13, .ref a0_5_14])), (a0_3, .inl (ka0_3, 900, .inl (fa0_3))), (a0_4, .inl (ka0_4, 12, .inr (.inl (fa0_4)))), (a0_5_10, .inl (ka0_5_10, 9, .inl (fa0_5_10))), (a0_5_11, .inl (ka0_5_11, 9, .inl (fa0_5_11))), (a0_5_14, .inr (6, [.int a0_5_14_0, a0_5_14g_1, .ref a0_5_14_2, .ref a0_5_14_3])), (a0_5_14_2, .inl (ka0_5_14_2, 3, .inl (fa0_5_14_2))), (a0_5_14_3, .inl (ka0_5_14_3, 3, .inl (fa0_5_14_3))), (a0_5_13, .inl (ka0_5_13, 6, .inl (v217nfa0_5_13))), (a0_5_12, .inl (ka0_5_12, 6, .inl (v217nfa0_5_12)))]) hP hD hCc hk1 hFc hP1 hD1 [.inr 0, .inr 1, .inr 2, .inl 3, .inl 4, .inl 5, .inl 6, .inl 7, .inl 8, .inr 3, .inr 4] (by decide +kernel) rfl (fun hP hD => ?_)
                  obtain ⟨hw, hfr217⟩ := hw
                  have hc217 : Ff_X3_readSeen a0_1.toInt a0_2.toInt a0_7.toInt a0_8.toInt a0_9.toInt a0_10.toInt a0_11.toInt a0_12.toInt a0_13.toInt a0_5_0.toInt a0_5_9.toInt (fl_A fa0_3) (fl_A fa0_5_13) (fl_A fa0_5_12) = (r217.toInt, v217na0_1.toInt, v217na0_2.toInt, v217na0_8.toInt, v217na0_9.toInt, v217na0_10.toInt, v217na0_11.toInt, v217na0_12.toInt, v217na0_13.toInt, v217na0_5_9.toInt, (fl_A v217nfa0_5_13), (fl_A v217nfa0_5_12)) := Prod.ext hfr217.symm hraw217_0
                  have hF0 := hF0.trans (fl_c12_eq hc217)
                  rcases hw with hw | hw
                  · subst hw
                    have hF0 := hF0.trans (if_pos (by decide))
                    have hFe : FX = (1, v217na0_1.toInt, v217na0_2.toInt, a0_6.toInt, v217na0_8.toInt, v217na0_9.toInt, v217na0_10.toInt, v217na0_11.toInt, v217na0_12.toInt, v217na0_13.toInt, a0_5_0.toInt, a0_5_1.toInt, a0_5_2.toInt, a0_5_3.toInt, a0_5_4.toInt, a0_5_5.toInt, a0_5_6.toInt, a0_5_7.toInt, a0_5_8.toInt, v217na0_5_9.toInt, (fl_L fa0_4), (fl_A fa0_5_10), (fl_A fa0_5_11), a0_5_14_0.toInt, (fl_A fa0_5_14_2), (fl_A fa0_5_14_3), (fl_A v217nfa0_5_13), (fl_A v217nfa0_5_12)) := hF0
                    exact W.zret (v := 1) hx hb hr rfl (fun t ht hW => ⟨⟨1, (), rfl, ⟨(Or.inl (rfl)), (congrArg Prod.fst hFe).symm⟩, v217na0_1, v217na0_2, a0_6, v217na0_8, v217na0_9, v217na0_10, v217na0_11, v217na0_12, v217na0_13, a0_5_0, a0_5_1, a0_5_2, a0_5_3, a0_5_4, a0_5_5, a0_5_6, a0_5_7, a0_5_8, v217na0_5_9, fa0_4, fa0_5_10, fa0_5_11, a0_5_14_0, fa0_5_14_2, fa0_5_14_3, v217nfa0_5_13, v217nfa0_5_12, ⟨ba0_6_l, ba0_6_u⟩, ⟨bv217na0_8.1, bv217na0_8.2⟩, ⟨bv217na0_9.1, bv217na0_9.2⟩, ⟨bv217na0_10.1, bv217na0_10.2⟩, ⟨Int.le_trans (by decide) l81t_a0_5_0, ba0_5_0_u⟩, ⟨ba0_5_4_l, ba0_5_4_u⟩, ⟨ba0_5_5_l, ba0_5_5_u⟩, ⟨ba0_5_6_l, ba0_5_6_u⟩, ⟨ba0_5_7_l, ba0_5_7_u⟩, ⟨bv217na0_5_9.1, bv217na0_5_9.2⟩, ⟨ba0_5_14_0_l, ba0_5_14_0_u⟩, bfa0_5_14_2, bfa0_5_14_3, bv217nfa0_5_13, (congrArg Prod.snd hFe), by rw [ht]; exact hP, va_K.moved hW.alike hK, hD⟩, hS.F ht⟩) hS.2.2 dX3_readLine_220
                  · subst hw
                    have hF0 := hF0.trans (if_neg (by decide))
                    have hFe : FX = (0, v217na0_1.toInt, v217na0_2.toInt, a0_6.toInt, v217na0_8.toInt, v217na0_9.toInt, v217na0_10.toInt, v217na0_11.toInt, v217na0_12.toInt, v217na0_13.toInt, a0_5_0.toInt, a0_5_1.toInt, a0_5_2.toInt, a0_5_3.toInt, a0_5_4.toInt, a0_5_5.toInt, a0_5_6.toInt, a0_5_7.toInt, a0_5_8.toInt, v217na0_5_9.toInt, (fl_L fa0_4), (fl_A fa0_5_10), (fl_A fa0_5_11), a0_5_14_0.toInt, (fl_A fa0_5_14_2), (fl_A fa0_5_14_3), (fl_A v217nfa0_5_13), (fl_A v217nfa0_5_12)) := hF0
                    exact W.zret (v := 0) hx hb hr rfl (fun t ht hW => ⟨⟨0, (), rfl, ⟨(Or.inr (rfl)), (congrArg Prod.fst hFe).symm⟩, v217na0_1, v217na0_2, a0_6, v217na0_8, v217na0_9, v217na0_10, v217na0_11, v217na0_12, v217na0_13, a0_5_0, a0_5_1, a0_5_2, a0_5_3, a0_5_4, a0_5_5, a0_5_6, a0_5_7, a0_5_8, v217na0_5_9, fa0_4, fa0_5_10, fa0_5_11, a0_5_14_0, fa0_5_14_2, fa0_5_14_3, v217nfa0_5_13, v217nfa0_5_12, ⟨ba0_6_l, ba0_6_u⟩, ⟨bv217na0_8.1, bv217na0_8.2⟩, ⟨bv217na0_9.1, bv217na0_9.2⟩, ⟨bv217na0_10.1, bv217na0_10.2⟩, ⟨Int.le_trans (by decide) l81t_a0_5_0, ba0_5_0_u⟩, ⟨ba0_5_4_l, ba0_5_4_u⟩, ⟨ba0_5_5_l, ba0_5_5_u⟩, ⟨ba0_5_6_l, ba0_5_6_u⟩, ⟨ba0_5_7_l, ba0_5_7_u⟩, ⟨bv217na0_5_9.1, bv217na0_5_9.2⟩, ⟨ba0_5_14_0_l, ba0_5_14_0_u⟩, bfa0_5_14_2, bfa0_5_14_3, bv217nfa0_5_13, (congrArg Prod.snd hFe), by rw [ht]; exact hP, va_K.moved hW.alike hK, hD⟩, hS.F ht⟩) hS.2.2 dX3_readLine_220
                · have gc205 := ai_nlt c205
                  have l205f_a0_5_9 : (6 : Int) ≤ a0_5_9.toInt := Int.le_trans zq15 gc205
                  have hF0 := hF0.trans (if_neg (show ¬ (a0_5_9.toInt < 6) from Int.not_lt.mpr gc205))
                  refine lv_aload_n hx hb dX3_readLine_208 rfl (lv_at hl 0 rfl) ?_
                  refine lv_iconst (v := 5) hx hb dX3_readLine_209 zk_iconst_5 ?_
                  refine va_calli (va_runV (As := [.int 5]) (rest := []) ⟨hx, hb, hml, hown, hts⟩ (f_X3_fails l dC dI H.size a0 5 a0g_0 (.ref a0_3) (.ref a0_4) (.ref a0_5) (.int a0_6) (.int a0_7) (.int a0_9) (.int a0_10) (.long a0_11) (.int a0_12) (.int a0_13) a0_1 a0_2 a0_8 ba0_8_l ba0_8_u) (cwV 1 hts gX3_readLine_X3_fails rfl rfl rfl zd_X3_fails ⟨Nat.le_of_ble_eq_true rfl, Nat.le_of_ble_eq_true rfl⟩) ⟨ax_blind (fun _ _ _ _ _ => trivial), zr_3 (zp_K hK) (zp_P1 hP) (q0 := 0) rfl, ax_pre (zp_P1 hP) (zp_K hK) (zp_D1 hD) (fun _ _ => trivial)⟩ rfl rfl hl.1 rfl (lv_room (Nat.le_of_ble_eq_true rfl)) dX3_readLine_210 ⟨Nat.le_of_ble_eq_true rfl, Nat.le_of_ble_eq_true rfl⟩) hS (fun q _ h => zp_F1 hD hS hA q h) (zp_F1 hD hS hA) (fun r210 u t H locs ht hvm hw => zx_2 (fun v210na0_1 v210na0_2 => zy_1 (fun hraw210_0 hB hz1 hk1 hS1 => zo1 hB ht hP hD hk1 (zp_F1 hD hS hA) hS1 (fun hP hK1 hD hS => ?_))))
                  obtain ⟨hw, hfr210⟩ := hw
                  rw [show (5 : Int32).toInt = 5 from by decide] at hfr210 hraw210_0
                  have hc210 : Ff_X3_fails 5 a0_8.toInt = (r210.toInt, v210na0_1.toInt, v210na0_2.toInt) := Prod.ext hfr210.symm hraw210_0
                  have hF0 := hF0.trans (fl_c3_eq hc210)
                  have hw : r210 = 0 := hw
                  have hw := hw.symm
                  subst hw
                  refine lv_goto (tgt := 220) hx hb dX3_readLine_213 (by decide) ?_
                  have hFe : FX = (0, v210na0_1.toInt, v210na0_2.toInt, a0_6.toInt, a0_8.toInt, a0_9.toInt, a0_10.toInt, a0_11.toInt, a0_12.toInt, a0_13.toInt, a0_5_0.toInt, a0_5_1.toInt, a0_5_2.toInt, a0_5_3.toInt, a0_5_4.toInt, a0_5_5.toInt, a0_5_6.toInt, a0_5_7.toInt, a0_5_8.toInt, a0_5_9.toInt, (fl_L fa0_4), (fl_A fa0_5_10), (fl_A fa0_5_11), a0_5_14_0.toInt, (fl_A fa0_5_14_2), (fl_A fa0_5_14_3), (fl_A fa0_5_13), (fl_A fa0_5_12)) := hF0
                  exact W.zret (v := 0) hx hb hr rfl (fun t ht hW => ⟨⟨0, (), rfl, ⟨(Or.inr (rfl)), (congrArg Prod.fst hFe).symm⟩, v210na0_1, v210na0_2, a0_6, a0_8, a0_9, a0_10, a0_11, a0_12, a0_13, a0_5_0, a0_5_1, a0_5_2, a0_5_3, a0_5_4, a0_5_5, a0_5_6, a0_5_7, a0_5_8, a0_5_9, fa0_4, fa0_5_10, fa0_5_11, a0_5_14_0, fa0_5_14_2, fa0_5_14_3, fa0_5_13, fa0_5_12, ⟨ba0_6_l, ba0_6_u⟩, ⟨ba0_8_l, ba0_8_u⟩, ⟨ba0_9_l, ba0_9_u⟩, ⟨ba0_10_l, ba0_10_u⟩, ⟨Int.le_trans (by decide) l81t_a0_5_0, ba0_5_0_u⟩, ⟨ba0_5_4_l, ba0_5_4_u⟩, ⟨ba0_5_5_l, ba0_5_5_u⟩, ⟨ba0_5_6_l, ba0_5_6_u⟩, ⟨ba0_5_7_l, ba0_5_7_u⟩, ⟨Int.le_trans (by decide) l205f_a0_5_9, ba0_5_9_u⟩, ⟨ba0_5_14_0_l, ba0_5_14_0_u⟩, bfa0_5_14_2, bfa0_5_14_3, bfa0_5_13, (congrArg Prod.snd hFe), by rw [ht]; exact hP, va_K.moved hW.alike hK, hD⟩, hS.F ht⟩) hS.2.2 dX3_readLine_220
        · have gc81 := ai_eq c81
          have u81f_a0_5_0 : a0_5_0.toInt ≤ (0 : Int) := Int.le_trans (Int.le_of_eq gc81) zq6
          have l81f_a0_5_0 : (0 : Int) ≤ a0_5_0.toInt := ba0_5_0_l
          have hF0 := hF0.trans (if_pos (show a0_5_0.toInt = 0 from gc81))
          refine lv_aload_n hx hb dX3_readLine_84 rfl (lv_at hl 0 rfl) ?_
          refine lv_bipush (v := 6) hx hb dX3_readLine_85 zk_bipush_6 ?_
          refine va_calli (va_runV (As := [.int 6]) (rest := []) ⟨hx, hb, hml, hown, hts⟩ (f_X3_fails l dC dI H.size a0 6 a0g_0 (.ref a0_3) (.ref a0_4) (.ref a0_5) (.int a0_6) (.int a0_7) (.int a0_9) (.int a0_10) (.long a0_11) (.int a0_12) (.int a0_13) a0_1 a0_2 a0_8 ba0_8_l ba0_8_u) (cwV 1 hts gX3_readLine_X3_fails rfl rfl rfl zd_X3_fails ⟨Nat.le_of_ble_eq_true rfl, Nat.le_of_ble_eq_true rfl⟩) ⟨ax_blind (fun _ _ _ _ _ => trivial), zr_3 (zp_K hK) (zp_P1 hP) (q0 := 0) rfl, ax_pre (zp_P1 hP) (zp_K hK) (zp_D1 hD) (fun _ _ => trivial)⟩ rfl rfl hl.1 rfl (lv_room (Nat.le_of_ble_eq_true rfl)) dX3_readLine_87 ⟨Nat.le_of_ble_eq_true rfl, Nat.le_of_ble_eq_true rfl⟩) hS (fun q _ h => zp_F1 hD hS hA q h) (zp_F1 hD hS hA) (fun r87 u t H locs ht hvm hw => zx_2 (fun v87na0_1 v87na0_2 => zy_1 (fun hraw87_0 hB hz1 hk1 hS1 => zo1 hB ht hP hD hk1 (zp_F1 hD hS hA) hS1 (fun hP hK1 hD hS => ?_))))
          obtain ⟨hw, hfr87⟩ := hw
          rw [show (6 : Int32).toInt = 6 from by decide] at hfr87 hraw87_0
          have hc87 : Ff_X3_fails 6 a0_8.toInt = (r87.toInt, v87na0_1.toInt, v87na0_2.toInt) := Prod.ext hfr87.symm hraw87_0
          have hF0 := hF0.trans (fl_c3_eq hc87)
          have hw : r87 = 0 := hw
          have hw := hw.symm
          subst hw
          have hFe : FX = (0, v87na0_1.toInt, v87na0_2.toInt, a0_6.toInt, a0_8.toInt, a0_9.toInt, a0_10.toInt, a0_11.toInt, a0_12.toInt, a0_13.toInt, a0_5_0.toInt, a0_5_1.toInt, a0_5_2.toInt, a0_5_3.toInt, a0_5_4.toInt, a0_5_5.toInt, a0_5_6.toInt, a0_5_7.toInt, a0_5_8.toInt, a0_5_9.toInt, (fl_L fa0_4), (fl_A fa0_5_10), (fl_A fa0_5_11), a0_5_14_0.toInt, (fl_A fa0_5_14_2), (fl_A fa0_5_14_3), (fl_A fa0_5_13), (fl_A fa0_5_12)) := hF0
          exact W.zret (v := 0) hx hb hr rfl (fun t ht hW => ⟨⟨0, (), rfl, ⟨(Or.inr (rfl)), (congrArg Prod.fst hFe).symm⟩, v87na0_1, v87na0_2, a0_6, a0_8, a0_9, a0_10, a0_11, a0_12, a0_13, a0_5_0, a0_5_1, a0_5_2, a0_5_3, a0_5_4, a0_5_5, a0_5_6, a0_5_7, a0_5_8, a0_5_9, fa0_4, fa0_5_10, fa0_5_11, a0_5_14_0, fa0_5_14_2, fa0_5_14_3, fa0_5_13, fa0_5_12, ⟨ba0_6_l, ba0_6_u⟩, ⟨ba0_8_l, ba0_8_u⟩, ⟨ba0_9_l, ba0_9_u⟩, ⟨ba0_10_l, ba0_10_u⟩, ⟨l81f_a0_5_0, Int.le_trans u81f_a0_5_0 (by decide)⟩, ⟨ba0_5_4_l, ba0_5_4_u⟩, ⟨ba0_5_5_l, ba0_5_5_u⟩, ⟨ba0_5_6_l, ba0_5_6_u⟩, ⟨ba0_5_7_l, ba0_5_7_u⟩, ⟨ba0_5_9_l, ba0_5_9_u⟩, ⟨ba0_5_14_0_l, ba0_5_14_0_u⟩, bfa0_5_14_2, bfa0_5_14_3, bfa0_5_13, (congrArg Prod.snd hFe), by rw [ht]; exact hP, va_K.moved hW.alike hK, hD⟩, hS.F ht⟩) hS.2.2 dX3_readLine_90
      exact (hK0 _ _ _).mp (J74  _ _ _   hF0 hP hD hS (lv_sub hl [0] rfl))
    · subst hw
      have hF0 := hF0.trans (if_neg (by decide))
      refine lv_if_ne (tgt := 74) hx hb dX3_readLine_38 (by decide) (fun c38 => absurd (by decide +kernel) c38) (fun _ => ?_)
      have J74 : ∀ (H : Heap) (locs : List Loc) (ls : Array Slot), (FX = Gf_X3_readLine_74_2 a0_1.toInt a0_2.toInt a0_6.toInt a0_7.toInt a0_8.toInt a0_9.toInt a0_10.toInt a0_11.toInt a0_12.toInt a0_13.toInt a0_5_0.toInt a0_5_1.toInt a0_5_2.toInt a0_5_3.toInt a0_5_4.toInt a0_5_5.toInt a0_5_6.toInt a0_5_7.toInt a0_5_8.toInt a0_5_9.toInt (fl_A fa0_3) (fl_L fa0_4) (fl_A fa0_5_10) (fl_A fa0_5_11) a0_5_14_0.toInt (fl_A fa0_5_14_2) (fl_A fa0_5_14_3) (fl_A fa0_5_13) (fl_A fa0_5_12)) → va_P (dC, dI) vwCl [(a0, .inr (3, [a0g_0, .int a0_1, .int a0_2, .ref a0_3, .ref a0_4, .ref a0_5, .int a0_6, .int a0_7, .int a0_8, .int a0_9, .int a0_10, .long a0_11, .int a0_12, .int a0_13])), (a0_5, .inr (0, [.int a0_5_0, .int a0_5_1, .int a0_5_2, .int a0_5_3, .int a0_5_4, .int a0_5_5, .int a0_5_6, .int a0_5_7, .int a0_5_8, .int a0_5_9, .ref a0_5_10, .ref a0_5_11, .ref a0_5_12, .ref a0_5_13, .ref a0_5_14])), (a0_3, .inl (ka0_3, 900, .inl (fa0_3))), (a0_4, .inl (ka0_4, 12, .inr (.inl (fa0_4)))), (a0_5_10, .inl (ka0_5_10, 9, .inl (fa0_5_10))), (a0_5_11, .inl (ka0_5_11, 9, .inl (fa0_5_11))), (a0_5_14, .inr (6, [.int a0_5_14_0, a0_5_14g_1, .ref a0_5_14_2, .ref a0_5_14_3])), (a0_5_14_2, .inl (ka0_5_14_2, 3, .inl (fa0_5_14_2))), (a0_5_14_3, .inl (ka0_5_14_3, 3, .inl (fa0_5_14_3))), (a0_5_13, .inl (ka0_5_13, 6, .inl (fa0_5_13))), (a0_5_12, .inl (ka0_5_12, 6, .inl (fa0_5_12)))] H → va_D A [(a0, .inr (3, [a0g_0, .int a0_1, .int a0_2, .ref a0_3, .ref a0_4, .ref a0_5, .int a0_6, .int a0_7, .int a0_8, .int a0_9, .int a0_10, .long a0_11, .int a0_12, .int a0_13])), (a0_5, .inr (0, [.int a0_5_0, .int a0_5_1, .int a0_5_2, .int a0_5_3, .int a0_5_4, .int a0_5_5, .int a0_5_6, .int a0_5_7, .int a0_5_8, .int a0_5_9, .ref a0_5_10, .ref a0_5_11, .ref a0_5_12, .ref a0_5_13, .ref a0_5_14])), (a0_3, .inl (ka0_3, 900, .inl (fa0_3))), (a0_4, .inl (ka0_4, 12, .inr (.inl (fa0_4)))), (a0_5_10, .inl (ka0_5_10, 9, .inl (fa0_5_10))), (a0_5_11, .inl (ka0_5_11, 9, .inl (fa0_5_11))), (a0_5_14, .inr (6, [.int a0_5_14_0, a0_5_14g_1, .ref a0_5_14_2, .ref a0_5_14_3])), (a0_5_14_2, .inl (ka0_5_14_2, 3, .inl (fa0_5_14_2))), (a0_5_14_3, .inl (ka0_5_14_3, 3, .inl (fa0_5_14_3))), (a0_5_13, .inl (ka0_5_13, 6, .inl (fa0_5_13))), (a0_5_12, .inl (ka0_5_12, 6, .inl (fa0_5_12)))] → va_S A s.heap H locs → lv_has ls 1 [(0, .ref a0)] → K H locs (F0 m 74 ls []) := by
        intro  H locs ls  hF0 hP hD hS hl
        refine (hK0 _ _ _).mpr ?_
        have hF0 := hF0.trans (Gf_X3_readLine_74_2.eq_1 a0_1.toInt a0_2.toInt a0_6.toInt a0_7.toInt a0_8.toInt a0_9.toInt a0_10.toInt a0_11.toInt a0_12.toInt a0_13.toInt a0_5_0.toInt a0_5_1.toInt a0_5_2.toInt a0_5_3.toInt a0_5_4.toInt a0_5_5.toInt a0_5_6.toInt a0_5_7.toInt a0_5_8.toInt a0_5_9.toInt (fl_A fa0_3) (fl_L fa0_4) (fl_A fa0_5_10) (fl_A fa0_5_11) a0_5_14_0.toInt (fl_A fa0_5_14_2) (fl_A fa0_5_14_3) (fl_A fa0_5_13) (fl_A fa0_5_12))
        refine lv_aload_n hx hb dX3_readLine_74 rfl (lv_at hl 0 rfl) ?_
        refine va_get (D := (dC, dI)) (ci := 3) (v := .ref a0_5) (C := RX3) (T := TX3) (N := 14) hx hb hts zi_X3_readLine_3 hown hK hP 0 rfl rfl 5 (by decide) (hts (.fieldLink RX3 22 "WaxTurns$Reade\x72" "draft" "LWaxTurns$Hall;") (zm_X3_readLine_r1 (List.mem_of_getElem? (i := 0) rfl))) (fun _ h9 => h9) rfl dX3_readLine_75 ?_
        refine va_get (D := (dC, dI)) (ci := 0) (v := .int a0_5_0) (C := RX0) (T := TX0) (N := 15) hx hb hts zi_X3_readLine_0 hown hK hP 1 rfl rfl 0 (by decide) (hts (.fieldLink RX3 104 "WaxTurns$Hall" "figures" "I") (zm_X3_readLine_r1 (List.mem_of_getElem? (i := 1) rfl))) (fun _ h9 => h9) rfl dX3_readLine_78 ?_
        refine lv_if_ne (tgt := 91) hx hb dX3_readLine_81 (by decide) (fun c81 => ?_) (fun c81 => ?_)
        · have gc81 := ai_ne c81
          have l81t_a0_5_0 : (1 : Int) ≤ a0_5_0.toInt := (by first | exact zg_l ba0_5_0_l gc81 (by decide) (by decide) | (have h1 := ba0_5_0_l; have h2 : (0 : Int32).toInt = 0 := (by decide); rw [h2] at gc81; omega))
          have hF0 := hF0.trans (if_neg (show ¬ (a0_5_0.toInt = 0) from  gc81))
          refine lv_aload_n hx hb dX3_readLine_91 rfl (lv_at hl 0 rfl) ?_
          refine va_ldcS hx hb hown (sxc_R1 hE0) dX3_readLine_92 ?_
          refine va_calli (va_runV (As := [.ref (ad 1)]) (rest := []) ⟨hx, hb, hml, hown, hts⟩ (f_X3_isWord l dC dI H.size a0 (ad 1) a0g_0 (.int a0_1) (.int a0_2) (.ref a0_3) (.ref a0_4) (.ref a0_5) (.int a0_6) (.int a0_7) (.int a0_8) (.int a0_9) (.int a0_12) (.int a0_13) a0_10 a0_11 3 (sxc 1) ba0_10_l ba0_10_u) (cwV 1 hts gX3_readLine_X3_isWord rfl rfl rfl zd_X3_isWord ⟨Nat.le_of_ble_eq_true rfl, Nat.le_of_ble_eq_true rfl⟩) ⟨ax_blind (fun _ _ _ _ hq => sxc_W_same _ _ _ _ (hq)), zr_3 (zp_K hK) (zp_P1 hP) (q0 := 0) rfl, ax_preE (zp_P1 hP) (zp_K hK) (zp_D1 hD) (fun U hU hW => sxc_W_to (sxc_T_w hE0 (i := 1) (by decide)) hS.2.1 (zp_F1 hD hS hA) hU hW)⟩ rfl rfl hl.1 rfl (lv_room (Nat.le_of_ble_eq_true rfl)) dX3_readLine_94 ⟨Nat.le_of_ble_eq_true rfl, Nat.le_of_ble_eq_true rfl⟩) hS (fun q _ h => zp_F1 hD hS hA q h) (zp_F1 hD hS hA) (fun r94 u t H locs ht hvm hw hB hz1 hk1 hS1 => zo1 hB ht hP hD hk1 (zp_F1 hD hS hA) hS1 (fun hP hK1 hD hS => ?_))
          obtain ⟨hw, hfr94⟩ := hw
          rw [show ((3 : Nat) : Int) = 3 from rfl] at hfr94
          have hc94 : Ff_X3_isWord a0_10.toInt a0_11.toInt 3 (fl_A (sxc 1)) = r94.toInt := hfr94.symm
          have hF0 := hF0.trans (fl_lt_eq hc94.symm)
          rcases hw with hw | hw
          · obtain ⟨hw, h94_0, h94_1⟩ := hw
            subst hw
            have l94k0_a0_10 : (1 : Int) ≤ a0_10.toInt := h94_0
            have u94k0_a0_10 : a0_10.toInt ≤ (1 : Int) := h94_1
            have hF0 := hF0.trans (if_pos (by decide))
            refine lv_if_eq (tgt := 123) hx hb dX3_readLine_97 (by decide) (fun c97 => absurd c97 (by decide +kernel)) (fun _ => ?_)
            refine lv_aload_n hx hb dX3_readLine_100 rfl (lv_at hl 0 rfl) ?_
            refine va_get (D := (dC, dI)) (ci := 3) (v := .ref a0_5) (C := RX3) (T := TX3) (N := 14) hx hb hts zi_X3_readLine_3 hown hK hP 0 rfl rfl 5 (by decide) (hts (.fieldLink RX3 22 "WaxTurns$Reade\x72" "draft" "LWaxTurns$Hall;") (zm_X3_readLine_r1 (List.mem_of_getElem? (i := 0) rfl))) (fun _ h9 => h9) rfl dX3_readLine_101 ?_
            refine va_get (D := (dC, dI)) (ci := 0) (v := .int a0_5_4) (C := RX0) (T := TX0) (N := 15) hx hb hts zi_X3_readLine_0 hown hK hP 1 rfl rfl 4 (by decide) (hts (.fieldLink RX3 68 "WaxTurns$Hall" "lawTold" "Z") (zm_X3_readLine_r1 (List.mem_of_getElem? (i := 2) rfl))) (fun _ h9 => h9) rfl dX3_readLine_104 ?_
            refine lv_if_eq (tgt := 118) hx hb dX3_readLine_107 (by decide) (fun c107 => ?_) (fun c107 => ?_)
            · have gc107 := ai_eq c107
              have u107t_a0_5_4 : a0_5_4.toInt ≤ (0 : Int) := Int.le_trans (Int.le_of_eq gc107) zq6
              have l107t_a0_5_4 : (0 : Int) ≤ a0_5_4.toInt := ba0_5_4_l
              have hF0 := hF0.trans (if_pos (show a0_5_4.toInt = 0 from gc107))
              refine lv_aload_n hx hb dX3_readLine_118 rfl (lv_at hl 0 rfl) ?_
              refine zc_cutc (wc := [(a0, .inr (3, [a0g_0, .int a0_1, .int a0_2, .ref a0_3, .ref a0_4, .ref a0_5, .int a0_6, .int a0_7, .int a0_8, .int a0_9, .int a0_10, .long a0_11, .int a0_12, .int a0_13])), (a0_3, .inl (ka0_3, 900, .inl (fa0_3))), (a0_5, .inr (0, [.int a0_5_0, .int a0_5_1, .int a0_5_2, .int a0_5_3, .int a0_5_4, .int a0_5_5, .int a0_5_6, .int a0_5_7, .int a0_5_8, .int a0_5_9, .ref a0_5_10, .ref a0_5_11, .ref a0_5_12, .ref a0_5_13, .ref a0_5_14]))]) hP hD hS hA [0, 2, 1] (by decide +kernel) rfl (fun hPc hDc hFc hCc => ?_)
              have hKc := hK.sub (tys' := [(ka0_3, .byte)]) [0] rfl
              refine va_calli (va_runV (As := []) (rest := []) ⟨hx, hb, hml, hown, hts⟩ (f_X3_readLaw l dC dI H.size a0 a0g_0 (.ref a0_4) (.int a0_6) a0_1 a0_2 a0_3 a0_5 a0_7 a0_8 a0_9 a0_10 a0_11 a0_12 a0_13 ka0_3 fa0_3 a0_5_0 (.int a0_5_1) (.int a0_5_2) (.int a0_5_3) (.int a0_5_8) (.int a0_5_9) (.ref a0_5_10) (.ref a0_5_11) (.ref a0_5_12) (.ref a0_5_13) (.ref a0_5_14) a0_5_4 a0_5_5 a0_5_6 a0_5_7 ad ba0_7_l ba0_7_u ba0_8_l ba0_8_u ba0_9_l ba0_9_u (Int.le_trans zq4 l94k0_a0_10) (Int.le_trans u94k0_a0_10 zq137) (Int.le_trans zq4 l81t_a0_5_0) ba0_5_0_u l107t_a0_5_4 (Int.le_trans u107t_a0_5_4 zq4) ba0_5_5_l ba0_5_5_u ba0_5_6_l ba0_5_6_u ba0_5_7_l ba0_5_7_u) (cwV 0 hts gX3_readLine_X3_readLaw rfl rfl rfl zd_X3_readLaw ⟨Nat.le_of_ble_eq_true rfl, Nat.le_of_ble_eq_true rfl⟩) ⟨ax_blind (fun _ _ _ _ hq => ⟨sxc_T_same _ _ _ _ (hq.1), va_Nw.same rfl rfl (hq.2)⟩), zr_3 hKc hPc (q0 := 0) rfl, ax_preE hPc hKc hDc (fun U hU hW => ⟨sxc_T_to hE0 hS.2.1 hFc hU hW, va_Nw.warmM hW hE1⟩)⟩ rfl rfl hl.1 rfl (lv_room (Nat.le_of_ble_eq_true rfl)) dX3_readLine_119 ⟨Nat.le_of_ble_eq_true rfl, Nat.le_of_ble_eq_true rfl⟩) hS (fun q _ h => hFc q h) hFc (fun r119 u t H locs ht hvm hw => zx_12 (fun v119na0_1 v119na0_2 v119na0_8 v119na0_9 v119na0_10 v119na0_11 v119na0_12 v119na0_13 v119na0_5_4 v119na0_5_5 v119na0_5_6 v119na0_5_7 => zy_8 (fun bv119na0_8 bv119na0_9 bv119na0_10 bv119na0_5_4 bv119na0_5_5 bv119na0_5_6 bv119na0_5_7 hraw119_0 hB hz1 hk1 hS1 => zo hB ht hS1 (fun hP1 hK1 hD1 hS => ?_))))
              refine zc_backc (w := [(a0, .inr (3, [a0g_0, .int v119na0_1, .int v119na0_2, .ref a0_3, .ref a0_4, .ref a0_5, .int a0_6, .int a0_7, .int v119na0_8, .int v119na0_9, .int v119na0_10, .long v119na0_11, .int v119na0_12, .int v119na0_13])), (a0_5, .inr (0, [.int a0_5_0, .int a0_5_1, .int a0_5_2, .int a0_5_3, .int v119na0_5_4, .int v119na0_5_5, .int v119na0_5_6, .int v119na0_5_7, .int a0_5_8, .int a0_5_9, .ref a0_5_10, .ref a0_5_11, .ref a0_5_12, .ref a0_5_13, .ref a0_5_14])), (a0_3, .inl (ka0_3, 900, .inl (fa0_3))), (a0_4, .inl (ka0_4, 12, .inr (.inl (fa0_4)))), (a0_5_10, .inl (ka0_5_10, 9, .inl (fa0_5_10))), (a0_5_11, .inl (ka0_5_11, 9, .inl (fa0_5_11))), (a0_5_14, .inr (6, [.int a0_5_14_0, a0_5_14g_1, .ref a0_5_14_2, .ref a0_5_14_3])), (a0_5_14_2, .inl (ka0_5_14_2, 3, .inl (fa0_5_14_2))), (a0_5_14_3, .inl (ka0_5_14_3, 3, .inl (fa0_5_14_3))), (a0_5_13, .inl (ka0_5_13, 6, .inl (fa0_5_13))), (a0_5_12, .inl (ka0_5_12, 6, .inl (fa0_5_12)))]) hP hD hCc hk1 hFc hP1 hD1 [.inr 0, .inr 2, .inr 1, .inl 3, .inl 4, .inl 5, .inl 6, .inl 7, .inl 8, .inl 9, .inl 10] (by decide +kernel) rfl (fun hP hD => ?_)
              obtain ⟨hw, hfr119⟩ := hw
              have hc119 : Ff_X3_readLaw a0_1.toInt a0_2.toInt a0_7.toInt a0_9.toInt a0_11.toInt a0_12.toInt a0_13.toInt (fl_A fa0_3) a0_5_0.toInt a0_5_4.toInt a0_5_5.toInt a0_5_6.toInt a0_5_7.toInt = (r119.toInt, v119na0_1.toInt, v119na0_2.toInt, v119na0_8.toInt, v119na0_9.toInt, v119na0_10.toInt, v119na0_11.toInt, v119na0_12.toInt, v119na0_13.toInt, v119na0_5_4.toInt, v119na0_5_5.toInt, v119na0_5_6.toInt, v119na0_5_7.toInt) := Prod.ext hfr119.symm hraw119_0
              have hF0 := hF0.trans (fl_c13_eq hc119)
              rcases hw with hw | hw
              · subst hw
                have hF0 := hF0.trans (if_pos (by decide))
                have hFe : FX = (1, v119na0_1.toInt, v119na0_2.toInt, a0_6.toInt, v119na0_8.toInt, v119na0_9.toInt, v119na0_10.toInt, v119na0_11.toInt, v119na0_12.toInt, v119na0_13.toInt, a0_5_0.toInt, a0_5_1.toInt, a0_5_2.toInt, a0_5_3.toInt, v119na0_5_4.toInt, v119na0_5_5.toInt, v119na0_5_6.toInt, v119na0_5_7.toInt, a0_5_8.toInt, a0_5_9.toInt, (fl_L fa0_4), (fl_A fa0_5_10), (fl_A fa0_5_11), a0_5_14_0.toInt, (fl_A fa0_5_14_2), (fl_A fa0_5_14_3), (fl_A fa0_5_13), (fl_A fa0_5_12)) := hF0
                exact W.zret (v := 1) hx hb hr rfl (fun t ht hW => ⟨⟨1, (), rfl, ⟨(Or.inl (rfl)), (congrArg Prod.fst hFe).symm⟩, v119na0_1, v119na0_2, a0_6, v119na0_8, v119na0_9, v119na0_10, v119na0_11, v119na0_12, v119na0_13, a0_5_0, a0_5_1, a0_5_2, a0_5_3, v119na0_5_4, v119na0_5_5, v119na0_5_6, v119na0_5_7, a0_5_8, a0_5_9, fa0_4, fa0_5_10, fa0_5_11, a0_5_14_0, fa0_5_14_2, fa0_5_14_3, fa0_5_13, fa0_5_12, ⟨ba0_6_l, ba0_6_u⟩, ⟨bv119na0_8.1, bv119na0_8.2⟩, ⟨bv119na0_9.1, bv119na0_9.2⟩, ⟨bv119na0_10.1, bv119na0_10.2⟩, ⟨Int.le_trans (by decide) l81t_a0_5_0, ba0_5_0_u⟩, ⟨bv119na0_5_4.1, bv119na0_5_4.2⟩, ⟨bv119na0_5_5.1, bv119na0_5_5.2⟩, ⟨bv119na0_5_6.1, bv119na0_5_6.2⟩, ⟨bv119na0_5_7.1, bv119na0_5_7.2⟩, ⟨ba0_5_9_l, ba0_5_9_u⟩, ⟨ba0_5_14_0_l, ba0_5_14_0_u⟩, bfa0_5_14_2, bfa0_5_14_3, bfa0_5_13, (congrArg Prod.snd hFe), by rw [ht]; exact hP, va_K.moved hW.alike hK, hD⟩, hS.F ht⟩) hS.2.2 dX3_readLine_122
              · subst hw
                have hF0 := hF0.trans (if_neg (by decide))
                have hFe : FX = (0, v119na0_1.toInt, v119na0_2.toInt, a0_6.toInt, v119na0_8.toInt, v119na0_9.toInt, v119na0_10.toInt, v119na0_11.toInt, v119na0_12.toInt, v119na0_13.toInt, a0_5_0.toInt, a0_5_1.toInt, a0_5_2.toInt, a0_5_3.toInt, v119na0_5_4.toInt, v119na0_5_5.toInt, v119na0_5_6.toInt, v119na0_5_7.toInt, a0_5_8.toInt, a0_5_9.toInt, (fl_L fa0_4), (fl_A fa0_5_10), (fl_A fa0_5_11), a0_5_14_0.toInt, (fl_A fa0_5_14_2), (fl_A fa0_5_14_3), (fl_A fa0_5_13), (fl_A fa0_5_12)) := hF0
                exact W.zret (v := 0) hx hb hr rfl (fun t ht hW => ⟨⟨0, (), rfl, ⟨(Or.inr (rfl)), (congrArg Prod.fst hFe).symm⟩, v119na0_1, v119na0_2, a0_6, v119na0_8, v119na0_9, v119na0_10, v119na0_11, v119na0_12, v119na0_13, a0_5_0, a0_5_1, a0_5_2, a0_5_3, v119na0_5_4, v119na0_5_5, v119na0_5_6, v119na0_5_7, a0_5_8, a0_5_9, fa0_4, fa0_5_10, fa0_5_11, a0_5_14_0, fa0_5_14_2, fa0_5_14_3, fa0_5_13, fa0_5_12, ⟨ba0_6_l, ba0_6_u⟩, ⟨bv119na0_8.1, bv119na0_8.2⟩, ⟨bv119na0_9.1, bv119na0_9.2⟩, ⟨bv119na0_10.1, bv119na0_10.2⟩, ⟨Int.le_trans (by decide) l81t_a0_5_0, ba0_5_0_u⟩, ⟨bv119na0_5_4.1, bv119na0_5_4.2⟩, ⟨bv119na0_5_5.1, bv119na0_5_5.2⟩, ⟨bv119na0_5_6.1, bv119na0_5_6.2⟩, ⟨bv119na0_5_7.1, bv119na0_5_7.2⟩, ⟨ba0_5_9_l, ba0_5_9_u⟩, ⟨ba0_5_14_0_l, ba0_5_14_0_u⟩, bfa0_5_14_2, bfa0_5_14_3, bfa0_5_13, (congrArg Prod.snd hFe), by rw [ht]; exact hP, va_K.moved hW.alike hK, hD⟩, hS.F ht⟩) hS.2.2 dX3_readLine_122
            · have gc107 := ai_ne c107
              have l107f_a0_5_4 : (1 : Int) ≤ a0_5_4.toInt := (by first | exact zg_l ba0_5_4_l gc107 (by decide) (by decide) | (have h1 := ba0_5_4_l; have h2 : (0 : Int32).toInt = 0 := (by decide); rw [h2] at gc107; omega))
              have hF0 := hF0.trans (if_neg (show ¬ (a0_5_4.toInt = 0) from  gc107))
              refine lv_aload_n hx hb dX3_readLine_110 rfl (lv_at hl 0 rfl) ?_
              refine lv_iconst (v := 3) hx hb dX3_readLine_111 zk_iconst_3 ?_
              refine va_calli (va_runV (As := [.int 3]) (rest := []) ⟨hx, hb, hml, hown, hts⟩ (f_X3_fails l dC dI H.size a0 3 a0g_0 (.ref a0_3) (.ref a0_4) (.ref a0_5) (.int a0_6) (.int a0_7) (.int a0_9) (.int a0_10) (.long a0_11) (.int a0_12) (.int a0_13) a0_1 a0_2 a0_8 ba0_8_l ba0_8_u) (cwV 1 hts gX3_readLine_X3_fails rfl rfl rfl zd_X3_fails ⟨Nat.le_of_ble_eq_true rfl, Nat.le_of_ble_eq_true rfl⟩) ⟨ax_blind (fun _ _ _ _ _ => trivial), zr_3 (zp_K hK) (zp_P1 hP) (q0 := 0) rfl, ax_pre (zp_P1 hP) (zp_K hK) (zp_D1 hD) (fun _ _ => trivial)⟩ rfl rfl hl.1 rfl (lv_room (Nat.le_of_ble_eq_true rfl)) dX3_readLine_112 ⟨Nat.le_of_ble_eq_true rfl, Nat.le_of_ble_eq_true rfl⟩) hS (fun q _ h => zp_F1 hD hS hA q h) (zp_F1 hD hS hA) (fun r112 u t H locs ht hvm hw => zx_2 (fun v112na0_1 v112na0_2 => zy_1 (fun hraw112_0 hB hz1 hk1 hS1 => zo1 hB ht hP hD hk1 (zp_F1 hD hS hA) hS1 (fun hP hK1 hD hS => ?_))))
              obtain ⟨hw, hfr112⟩ := hw
              rw [show (3 : Int32).toInt = 3 from by decide] at hfr112 hraw112_0
              have hc112 : Ff_X3_fails 3 a0_8.toInt = (r112.toInt, v112na0_1.toInt, v112na0_2.toInt) := Prod.ext hfr112.symm hraw112_0
              have hF0 := hF0.trans (fl_c3_eq hc112)
              have hw : r112 = 0 := hw
              have hw := hw.symm
              subst hw
              refine lv_goto (tgt := 122) hx hb dX3_readLine_115 (by decide) ?_
              have hFe : FX = (0, v112na0_1.toInt, v112na0_2.toInt, a0_6.toInt, a0_8.toInt, a0_9.toInt, a0_10.toInt, a0_11.toInt, a0_12.toInt, a0_13.toInt, a0_5_0.toInt, a0_5_1.toInt, a0_5_2.toInt, a0_5_3.toInt, a0_5_4.toInt, a0_5_5.toInt, a0_5_6.toInt, a0_5_7.toInt, a0_5_8.toInt, a0_5_9.toInt, (fl_L fa0_4), (fl_A fa0_5_10), (fl_A fa0_5_11), a0_5_14_0.toInt, (fl_A fa0_5_14_2), (fl_A fa0_5_14_3), (fl_A fa0_5_13), (fl_A fa0_5_12)) := hF0
              exact W.zret (v := 0) hx hb hr rfl (fun t ht hW => ⟨⟨0, (), rfl, ⟨(Or.inr (rfl)), (congrArg Prod.fst hFe).symm⟩, v112na0_1, v112na0_2, a0_6, a0_8, a0_9, a0_10, a0_11, a0_12, a0_13, a0_5_0, a0_5_1, a0_5_2, a0_5_3, a0_5_4, a0_5_5, a0_5_6, a0_5_7, a0_5_8, a0_5_9, fa0_4, fa0_5_10, fa0_5_11, a0_5_14_0, fa0_5_14_2, fa0_5_14_3, fa0_5_13, fa0_5_12, ⟨ba0_6_l, ba0_6_u⟩, ⟨ba0_8_l, ba0_8_u⟩, ⟨ba0_9_l, ba0_9_u⟩, ⟨Int.le_trans (by decide) l94k0_a0_10, Int.le_trans u94k0_a0_10 (by decide)⟩, ⟨Int.le_trans (by decide) l81t_a0_5_0, ba0_5_0_u⟩, ⟨Int.le_trans (by decide) l107f_a0_5_4, ba0_5_4_u⟩, ⟨ba0_5_5_l, ba0_5_5_u⟩, ⟨ba0_5_6_l, ba0_5_6_u⟩, ⟨ba0_5_7_l, ba0_5_7_u⟩, ⟨ba0_5_9_l, ba0_5_9_u⟩, ⟨ba0_5_14_0_l, ba0_5_14_0_u⟩, bfa0_5_14_2, bfa0_5_14_3, bfa0_5_13, (congrArg Prod.snd hFe), by rw [ht]; exact hP, va_K.moved hW.alike hK, hD⟩, hS.F ht⟩) hS.2.2 dX3_readLine_122
          · subst hw
            have hF0 := hF0.trans (if_neg (by decide))
            refine lv_if_eq (tgt := 123) hx hb dX3_readLine_97 (by decide) (fun _ => ?_) (fun c97 => absurd (by decide +kernel) c97)
            refine lv_aload_n hx hb dX3_readLine_123 rfl (lv_at hl 0 rfl) ?_
            refine va_ldcS hx hb hown (sxc_R2 hE0) dX3_readLine_124 ?_
            refine va_calli (va_runV (As := [.ref (ad 2)]) (rest := []) ⟨hx, hb, hml, hown, hts⟩ (f_X3_isWord l dC dI H.size a0 (ad 2) a0g_0 (.int a0_1) (.int a0_2) (.ref a0_3) (.ref a0_4) (.ref a0_5) (.int a0_6) (.int a0_7) (.int a0_8) (.int a0_9) (.int a0_12) (.int a0_13) a0_10 a0_11 6 (sxc 2) ba0_10_l ba0_10_u) (cwV 1 hts gX3_readLine_X3_isWord rfl rfl rfl zd_X3_isWord ⟨Nat.le_of_ble_eq_true rfl, Nat.le_of_ble_eq_true rfl⟩) ⟨ax_blind (fun _ _ _ _ hq => sxc_W_same _ _ _ _ (hq)), zr_3 (zp_K hK) (zp_P1 hP) (q0 := 0) rfl, ax_preE (zp_P1 hP) (zp_K hK) (zp_D1 hD) (fun U hU hW => sxc_W_to (sxc_T_w hE0 (i := 2) (by decide)) hS.2.1 (zp_F1 hD hS hA) hU hW)⟩ rfl rfl hl.1 rfl (lv_room (Nat.le_of_ble_eq_true rfl)) dX3_readLine_126 ⟨Nat.le_of_ble_eq_true rfl, Nat.le_of_ble_eq_true rfl⟩) hS (fun q _ h => zp_F1 hD hS hA q h) (zp_F1 hD hS hA) (fun r126 u t H locs ht hvm hw hB hz1 hk1 hS1 => zo1 hB ht hP hD hk1 (zp_F1 hD hS hA) hS1 (fun hP hK1 hD hS => ?_))
            obtain ⟨hw, hfr126⟩ := hw
            rw [show ((6 : Nat) : Int) = 6 from rfl] at hfr126
            have hc126 : Ff_X3_isWord a0_10.toInt a0_11.toInt 6 (fl_A (sxc 2)) = r126.toInt := hfr126.symm
            have hF0 := hF0.trans (fl_lt_eq hc126.symm)
            rcases hw with hw | hw
            · obtain ⟨hw, h126_0, h126_1⟩ := hw
              subst hw
              have l126k0_a0_10 : (1 : Int) ≤ a0_10.toInt := h126_0
              have u126k0_a0_10 : a0_10.toInt ≤ (1 : Int) := h126_1
              have hF0 := hF0.trans (if_pos (by decide))
              refine lv_if_eq (tgt := 160) hx hb dX3_readLine_129 (by decide) (fun c129 => absurd c129 (by decide +kernel)) (fun _ => ?_)
              refine lv_aload_n hx hb dX3_readLine_132 rfl (lv_at hl 0 rfl) ?_
              refine va_get (D := (dC, dI)) (ci := 3) (v := .ref a0_5) (C := RX3) (T := TX3) (N := 14) hx hb hts zi_X3_readLine_3 hown hK hP 0 rfl rfl 5 (by decide) (hts (.fieldLink RX3 22 "WaxTurns$Reade\x72" "draft" "LWaxTurns$Hall;") (zm_X3_readLine_r1 (List.mem_of_getElem? (i := 0) rfl))) (fun _ h9 => h9) rfl dX3_readLine_133 ?_
              refine va_get (D := (dC, dI)) (ci := 0) (v := .int a0_5_8) (C := RX0) (T := TX0) (N := 15) hx hb hts zi_X3_readLine_0 hown hK hP 1 rfl rfl 8 (by decide) (hts (.fieldLink RX3 121 "WaxTurns$Hall" "toldBits" "I") (zm_X3_readLine_r1 (List.mem_of_getElem? (i := 3) rfl))) (fun _ h9 => h9) rfl dX3_readLine_136 ?_
              refine va_calli (va_runS (As := [.int a0_5_8]) (rest := []) ⟨hx, hb, hml, hown, hts⟩ (f_J6_bitCount_0f7a4 l dC dI H.size a0_5_8 ) (va_cwS 1 hts gX3_readLine_J6_bitCount_0f7a4 rfl rfl rfl zd_J6_bitCount_0f7a4.2 ⟨Nat.le_of_ble_eq_true rfl, Nat.le_of_ble_eq_true rfl⟩) ⟨ax_blind (fun _ _ _ _ _ => trivial), ax_pre (zp_P0 hP) (zp_K hK) (zp_D0 hD) (fun _ _ => trivial)⟩ rfl rfl hl.1 rfl (lv_room (Nat.le_of_ble_eq_true rfl)) dX3_readLine_139 ⟨Nat.le_of_ble_eq_true rfl, Nat.le_of_ble_eq_true rfl⟩) hS (fun q _ h => zp_F0 hD hS hA q h) (zp_F0 hD hS hA) (fun r139 u t H locs ht hvm hw hB hz1 hk1 hS1 => zo0 hB ht hP hD hk1 (zp_F0 hD hS hA) hS1 (fun hP hK1 hD hS => ?_))
              obtain ⟨hw, hfr139⟩ := hw
              have hc139 : Ff_J6_bitCount_0f7a4 a0_5_8.toInt = r139.toInt := hfr139.symm
              have hF0 := hF0.trans (fl_lt_eq hc139.symm)
              refine lv_bipush (v := 9) hx hb dX3_readLine_142 zk_bipush_9 ?_
              refine lv_icmp_lt (tgt := 155) hx hb dX3_readLine_144 (by decide) (fun c144 => ?_) (fun c144 => ?_)
              · have gc144 := ai_lt c144
                have u144t_r139 : r139.toInt ≤ (8 : Int) := ai_lthi gc144 zq3
                have hF0 := hF0.trans (if_pos (show r139.toInt < 9 from gc144))
                refine lv_aload_n hx hb dX3_readLine_155 rfl (lv_at hl 0 rfl) ?_
                refine zc_cutc (wc := [(a0, .inr (3, [a0g_0, .int a0_1, .int a0_2, .ref a0_3, .ref a0_4, .ref a0_5, .int a0_6, .int a0_7, .int a0_8, .int a0_9, .int a0_10, .long a0_11, .int a0_12, .int a0_13])), (a0_3, .inl (ka0_3, 900, .inl (fa0_3))), (a0_4, .inl (ka0_4, 12, .inr (.inl (fa0_4)))), (a0_5, .inr (0, [.int a0_5_0, .int a0_5_1, .int a0_5_2, .int a0_5_3, .int a0_5_4, .int a0_5_5, .int a0_5_6, .int a0_5_7, .int a0_5_8, .int a0_5_9, .ref a0_5_10, .ref a0_5_11, .ref a0_5_12, .ref a0_5_13, .ref a0_5_14])), (a0_5_10, .inl (ka0_5_10, 9, .inl (fa0_5_10))), (a0_5_11, .inl (ka0_5_11, 9, .inl (fa0_5_11)))]) hP hD hS hA [0, 2, 3, 1, 4, 5] (by decide +kernel) rfl (fun hPc hDc hFc hCc => ?_)
                have hKc := hK.sub (tys' := [(ka0_3, .byte), (ka0_4, .long), (ka0_5_10, .int), (ka0_5_11, .int)]) [0, 1, 2, 3] rfl
                refine va_calli (va_runV (As := []) (rest := []) ⟨hx, hb, hml, hown, hts⟩ (f_X3_readFigure l dC dI H.size a0 a0g_0 a0_1 a0_2 a0_3 a0_4 a0_5 a0_6 a0_7 a0_8 a0_9 a0_10 a0_11 a0_12 a0_13 ka0_3 fa0_3 ka0_4 fa0_4 a0_5_0 (.int a0_5_1) (.int a0_5_2) (.int a0_5_3) (.int a0_5_4) (.int a0_5_5) (.int a0_5_6) (.int a0_5_7) (.int a0_5_9) (.ref a0_5_12) (.ref a0_5_13) (.ref a0_5_14) a0_5_8 a0_5_10 a0_5_11 ka0_5_10 fa0_5_10 ka0_5_11 fa0_5_11 ad ba0_6_l ba0_6_u ba0_7_l ba0_7_u ba0_8_l ba0_8_u ba0_9_l ba0_9_u (Int.le_trans zq4 l126k0_a0_10) (Int.le_trans u126k0_a0_10 zq137) (Int.le_trans zq4 l81t_a0_5_0) ba0_5_0_u) (cwV 0 hts gX3_readLine_X3_readFigure rfl rfl rfl zd_X3_readFigure ⟨Nat.le_of_ble_eq_true rfl, Nat.le_of_ble_eq_true rfl⟩) ⟨ax_blind (fun _ _ _ _ hq => ⟨sxc_T_same _ _ _ _ (hq.1), va_Nw.same rfl rfl (hq.2.1), va_Nw.same rfl rfl (hq.2.2)⟩), zr_3 hKc hPc (q0 := 0) rfl, ax_preE hPc hKc hDc (fun U hU hW => ⟨sxc_T_to hE0 hS.2.1 hFc hU hW, va_Nw.warmM hW hE1, va_Nw.warmM hW hE2⟩)⟩ rfl rfl hl.1 rfl (lv_room (Nat.le_of_ble_eq_true rfl)) dX3_readLine_156 ⟨Nat.le_of_ble_eq_true rfl, Nat.le_of_ble_eq_true rfl⟩) hS (fun q _ h => hFc q h) hFc (fun r156 u t H locs ht hvm hw => zx_13 (fun v156na0_1 v156na0_2 v156na0_6 v156na0_8 v156na0_9 v156na0_10 v156na0_11 v156na0_12 v156na0_13 v156nfa0_4 v156na0_5_8 v156nfa0_5_10 v156nfa0_5_11 => zy_5 (fun bv156na0_6 bv156na0_8 bv156na0_9 bv156na0_10 hraw156_0 hB hz1 hk1 hS1 => zo hB ht hS1 (fun hP1 hK1 hD1 hS => ?_))))
                refine zc_backc (w := [(a0, .inr (3, [a0g_0, .int v156na0_1, .int v156na0_2, .ref a0_3, .ref a0_4, .ref a0_5, .int v156na0_6, .int a0_7, .int v156na0_8, .int v156na0_9, .int v156na0_10, .long v156na0_11, .int v156na0_12, .int v156na0_13])), (a0_5, .inr (0, [.int a0_5_0, .int a0_5_1, .int a0_5_2, .int a0_5_3, .int a0_5_4, .int a0_5_5, .int a0_5_6, .int a0_5_7, .int v156na0_5_8, .int a0_5_9, .ref a0_5_10, .ref a0_5_11, .ref a0_5_12, .ref a0_5_13, .ref a0_5_14])), (a0_3, .inl (ka0_3, 900, .inl (fa0_3))), (a0_4, .inl (ka0_4, 12, .inr (.inl (v156nfa0_4)))), (a0_5_10, .inl (ka0_5_10, 9, .inl (v156nfa0_5_10))), (a0_5_11, .inl (ka0_5_11, 9, .inl (v156nfa0_5_11))), (a0_5_14, .inr (6, [.int a0_5_14_0, a0_5_14g_1, .ref a0_5_14_2, .ref a0_5_14_3])), (a0_5_14_2, .inl (ka0_5_14_2, 3, .inl (fa0_5_14_2))), (a0_5_14_3, .inl (ka0_5_14_3, 3, .inl (fa0_5_14_3))), (a0_5_13, .inl (ka0_5_13, 6, .inl (fa0_5_13))), (a0_5_12, .inl (ka0_5_12, 6, .inl (fa0_5_12)))]) hP hD hCc hk1 hFc hP1 hD1 [.inr 0, .inr 3, .inr 1, .inr 2, .inr 4, .inr 5, .inl 6, .inl 7, .inl 8, .inl 9, .inl 10] (by decide +kernel) rfl (fun hP hD => ?_)
                obtain ⟨hw, hfr156⟩ := hw
                have hc156 : Ff_X3_readFigure a0_1.toInt a0_2.toInt a0_6.toInt a0_7.toInt a0_9.toInt a0_11.toInt a0_12.toInt a0_13.toInt (fl_A fa0_3) (fl_L fa0_4) a0_5_0.toInt a0_5_8.toInt (fl_A fa0_5_10) (fl_A fa0_5_11) = (r156.toInt, v156na0_1.toInt, v156na0_2.toInt, v156na0_6.toInt, v156na0_8.toInt, v156na0_9.toInt, v156na0_10.toInt, v156na0_11.toInt, v156na0_12.toInt, v156na0_13.toInt, (fl_L v156nfa0_4), v156na0_5_8.toInt, (fl_A v156nfa0_5_10), (fl_A v156nfa0_5_11)) := Prod.ext hfr156.symm hraw156_0
                have hF0 := hF0.trans (fl_c14_eq hc156)
                rcases hw with hw | hw
                · subst hw
                  have hF0 := hF0.trans (if_pos (by decide))
                  have hFe : FX = (1, v156na0_1.toInt, v156na0_2.toInt, v156na0_6.toInt, v156na0_8.toInt, v156na0_9.toInt, v156na0_10.toInt, v156na0_11.toInt, v156na0_12.toInt, v156na0_13.toInt, a0_5_0.toInt, a0_5_1.toInt, a0_5_2.toInt, a0_5_3.toInt, a0_5_4.toInt, a0_5_5.toInt, a0_5_6.toInt, a0_5_7.toInt, v156na0_5_8.toInt, a0_5_9.toInt, (fl_L v156nfa0_4), (fl_A v156nfa0_5_10), (fl_A v156nfa0_5_11), a0_5_14_0.toInt, (fl_A fa0_5_14_2), (fl_A fa0_5_14_3), (fl_A fa0_5_13), (fl_A fa0_5_12)) := hF0
                  exact W.zret (v := 1) hx hb hr rfl (fun t ht hW => ⟨⟨1, (), rfl, ⟨(Or.inl (rfl)), (congrArg Prod.fst hFe).symm⟩, v156na0_1, v156na0_2, v156na0_6, v156na0_8, v156na0_9, v156na0_10, v156na0_11, v156na0_12, v156na0_13, a0_5_0, a0_5_1, a0_5_2, a0_5_3, a0_5_4, a0_5_5, a0_5_6, a0_5_7, v156na0_5_8, a0_5_9, v156nfa0_4, v156nfa0_5_10, v156nfa0_5_11, a0_5_14_0, fa0_5_14_2, fa0_5_14_3, fa0_5_13, fa0_5_12, ⟨bv156na0_6.1, bv156na0_6.2⟩, ⟨bv156na0_8.1, bv156na0_8.2⟩, ⟨bv156na0_9.1, bv156na0_9.2⟩, ⟨bv156na0_10.1, bv156na0_10.2⟩, ⟨Int.le_trans (by decide) l81t_a0_5_0, ba0_5_0_u⟩, ⟨ba0_5_4_l, ba0_5_4_u⟩, ⟨ba0_5_5_l, ba0_5_5_u⟩, ⟨ba0_5_6_l, ba0_5_6_u⟩, ⟨ba0_5_7_l, ba0_5_7_u⟩, ⟨ba0_5_9_l, ba0_5_9_u⟩, ⟨ba0_5_14_0_l, ba0_5_14_0_u⟩, bfa0_5_14_2, bfa0_5_14_3, bfa0_5_13, (congrArg Prod.snd hFe), by rw [ht]; exact hP, va_K.moved hW.alike hK, hD⟩, hS.F ht⟩) hS.2.2 dX3_readLine_159
                · subst hw
                  have hF0 := hF0.trans (if_neg (by decide))
                  have hFe : FX = (0, v156na0_1.toInt, v156na0_2.toInt, v156na0_6.toInt, v156na0_8.toInt, v156na0_9.toInt, v156na0_10.toInt, v156na0_11.toInt, v156na0_12.toInt, v156na0_13.toInt, a0_5_0.toInt, a0_5_1.toInt, a0_5_2.toInt, a0_5_3.toInt, a0_5_4.toInt, a0_5_5.toInt, a0_5_6.toInt, a0_5_7.toInt, v156na0_5_8.toInt, a0_5_9.toInt, (fl_L v156nfa0_4), (fl_A v156nfa0_5_10), (fl_A v156nfa0_5_11), a0_5_14_0.toInt, (fl_A fa0_5_14_2), (fl_A fa0_5_14_3), (fl_A fa0_5_13), (fl_A fa0_5_12)) := hF0
                  exact W.zret (v := 0) hx hb hr rfl (fun t ht hW => ⟨⟨0, (), rfl, ⟨(Or.inr (rfl)), (congrArg Prod.fst hFe).symm⟩, v156na0_1, v156na0_2, v156na0_6, v156na0_8, v156na0_9, v156na0_10, v156na0_11, v156na0_12, v156na0_13, a0_5_0, a0_5_1, a0_5_2, a0_5_3, a0_5_4, a0_5_5, a0_5_6, a0_5_7, v156na0_5_8, a0_5_9, v156nfa0_4, v156nfa0_5_10, v156nfa0_5_11, a0_5_14_0, fa0_5_14_2, fa0_5_14_3, fa0_5_13, fa0_5_12, ⟨bv156na0_6.1, bv156na0_6.2⟩, ⟨bv156na0_8.1, bv156na0_8.2⟩, ⟨bv156na0_9.1, bv156na0_9.2⟩, ⟨bv156na0_10.1, bv156na0_10.2⟩, ⟨Int.le_trans (by decide) l81t_a0_5_0, ba0_5_0_u⟩, ⟨ba0_5_4_l, ba0_5_4_u⟩, ⟨ba0_5_5_l, ba0_5_5_u⟩, ⟨ba0_5_6_l, ba0_5_6_u⟩, ⟨ba0_5_7_l, ba0_5_7_u⟩, ⟨ba0_5_9_l, ba0_5_9_u⟩, ⟨ba0_5_14_0_l, ba0_5_14_0_u⟩, bfa0_5_14_2, bfa0_5_14_3, bfa0_5_13, (congrArg Prod.snd hFe), by rw [ht]; exact hP, va_K.moved hW.alike hK, hD⟩, hS.F ht⟩) hS.2.2 dX3_readLine_159
              · have gc144 := ai_nlt c144
                have l144f_r139 : (9 : Int) ≤ r139.toInt := Int.le_trans zq2 gc144
                have hF0 := hF0.trans (if_neg (show ¬ (r139.toInt < 9) from Int.not_lt.mpr gc144))
                refine lv_aload_n hx hb dX3_readLine_147 rfl (lv_at hl 0 rfl) ?_
                refine lv_iconst (v := 5) hx hb dX3_readLine_148 zk_iconst_5 ?_
                refine va_calli (va_runV (As := [.int 5]) (rest := []) ⟨hx, hb, hml, hown, hts⟩ (f_X3_fails l dC dI H.size a0 5 a0g_0 (.ref a0_3) (.ref a0_4) (.ref a0_5) (.int a0_6) (.int a0_7) (.int a0_9) (.int a0_10) (.long a0_11) (.int a0_12) (.int a0_13) a0_1 a0_2 a0_8 ba0_8_l ba0_8_u) (cwV 1 hts gX3_readLine_X3_fails rfl rfl rfl zd_X3_fails ⟨Nat.le_of_ble_eq_true rfl, Nat.le_of_ble_eq_true rfl⟩) ⟨ax_blind (fun _ _ _ _ _ => trivial), zr_3 (zp_K hK) (zp_P1 hP) (q0 := 0) rfl, ax_pre (zp_P1 hP) (zp_K hK) (zp_D1 hD) (fun _ _ => trivial)⟩ rfl rfl hl.1 rfl (lv_room (Nat.le_of_ble_eq_true rfl)) dX3_readLine_149 ⟨Nat.le_of_ble_eq_true rfl, Nat.le_of_ble_eq_true rfl⟩) hS (fun q _ h => zp_F1 hD hS hA q h) (zp_F1 hD hS hA) (fun r149 u t H locs ht hvm hw => zx_2 (fun v149na0_1 v149na0_2 => zy_1 (fun hraw149_0 hB hz1 hk1 hS1 => zo1 hB ht hP hD hk1 (zp_F1 hD hS hA) hS1 (fun hP hK1 hD hS => ?_))))
                obtain ⟨hw, hfr149⟩ := hw
                rw [show (5 : Int32).toInt = 5 from by decide] at hfr149 hraw149_0
                have hc149 : Ff_X3_fails 5 a0_8.toInt = (r149.toInt, v149na0_1.toInt, v149na0_2.toInt) := Prod.ext hfr149.symm hraw149_0
                have hF0 := hF0.trans (fl_c3_eq hc149)
                have hw : r149 = 0 := hw
                have hw := hw.symm
                subst hw
                refine lv_goto (tgt := 159) hx hb dX3_readLine_152 (by decide) ?_
                have hFe : FX = (0, v149na0_1.toInt, v149na0_2.toInt, a0_6.toInt, a0_8.toInt, a0_9.toInt, a0_10.toInt, a0_11.toInt, a0_12.toInt, a0_13.toInt, a0_5_0.toInt, a0_5_1.toInt, a0_5_2.toInt, a0_5_3.toInt, a0_5_4.toInt, a0_5_5.toInt, a0_5_6.toInt, a0_5_7.toInt, a0_5_8.toInt, a0_5_9.toInt, (fl_L fa0_4), (fl_A fa0_5_10), (fl_A fa0_5_11), a0_5_14_0.toInt, (fl_A fa0_5_14_2), (fl_A fa0_5_14_3), (fl_A fa0_5_13), (fl_A fa0_5_12)) := hF0
                exact W.zret (v := 0) hx hb hr rfl (fun t ht hW => ⟨⟨0, (), rfl, ⟨(Or.inr (rfl)), (congrArg Prod.fst hFe).symm⟩, v149na0_1, v149na0_2, a0_6, a0_8, a0_9, a0_10, a0_11, a0_12, a0_13, a0_5_0, a0_5_1, a0_5_2, a0_5_3, a0_5_4, a0_5_5, a0_5_6, a0_5_7, a0_5_8, a0_5_9, fa0_4, fa0_5_10, fa0_5_11, a0_5_14_0, fa0_5_14_2, fa0_5_14_3, fa0_5_13, fa0_5_12, ⟨ba0_6_l, ba0_6_u⟩, ⟨ba0_8_l, ba0_8_u⟩, ⟨ba0_9_l, ba0_9_u⟩, ⟨Int.le_trans (by decide) l126k0_a0_10, Int.le_trans u126k0_a0_10 (by decide)⟩, ⟨Int.le_trans (by decide) l81t_a0_5_0, ba0_5_0_u⟩, ⟨ba0_5_4_l, ba0_5_4_u⟩, ⟨ba0_5_5_l, ba0_5_5_u⟩, ⟨ba0_5_6_l, ba0_5_6_u⟩, ⟨ba0_5_7_l, ba0_5_7_u⟩, ⟨ba0_5_9_l, ba0_5_9_u⟩, ⟨ba0_5_14_0_l, ba0_5_14_0_u⟩, bfa0_5_14_2, bfa0_5_14_3, bfa0_5_13, (congrArg Prod.snd hFe), by rw [ht]; exact hP, va_K.moved hW.alike hK, hD⟩, hS.F ht⟩) hS.2.2 dX3_readLine_159
            · subst hw
              have hF0 := hF0.trans (if_neg (by decide))
              refine lv_if_eq (tgt := 160) hx hb dX3_readLine_129 (by decide) (fun _ => ?_) (fun c129 => absurd (by decide +kernel) c129)
              refine lv_aload_n hx hb dX3_readLine_160 rfl (lv_at hl 0 rfl) ?_
              refine va_ldcS hx hb hown (sxc_R3 hE0) dX3_readLine_161 ?_
              refine va_calli (va_runV (As := [.ref (ad 3)]) (rest := []) ⟨hx, hb, hml, hown, hts⟩ (f_X3_isWord l dC dI H.size a0 (ad 3) a0g_0 (.int a0_1) (.int a0_2) (.ref a0_3) (.ref a0_4) (.ref a0_5) (.int a0_6) (.int a0_7) (.int a0_8) (.int a0_9) (.int a0_12) (.int a0_13) a0_10 a0_11 7 (sxc 3) ba0_10_l ba0_10_u) (cwV 1 hts gX3_readLine_X3_isWord rfl rfl rfl zd_X3_isWord ⟨Nat.le_of_ble_eq_true rfl, Nat.le_of_ble_eq_true rfl⟩) ⟨ax_blind (fun _ _ _ _ hq => sxc_W_same _ _ _ _ (hq)), zr_3 (zp_K hK) (zp_P1 hP) (q0 := 0) rfl, ax_preE (zp_P1 hP) (zp_K hK) (zp_D1 hD) (fun U hU hW => sxc_W_to (sxc_T_w hE0 (i := 3) (by decide)) hS.2.1 (zp_F1 hD hS hA) hU hW)⟩ rfl rfl hl.1 rfl (lv_room (Nat.le_of_ble_eq_true rfl)) dX3_readLine_163 ⟨Nat.le_of_ble_eq_true rfl, Nat.le_of_ble_eq_true rfl⟩) hS (fun q _ h => zp_F1 hD hS hA q h) (zp_F1 hD hS hA) (fun r163 u t H locs ht hvm hw hB hz1 hk1 hS1 => zo1 hB ht hP hD hk1 (zp_F1 hD hS hA) hS1 (fun hP hK1 hD hS => ?_))
              obtain ⟨hw, hfr163⟩ := hw
              rw [show ((7 : Nat) : Int) = 7 from rfl] at hfr163
              have hc163 : Ff_X3_isWord a0_10.toInt a0_11.toInt 7 (fl_A (sxc 3)) = r163.toInt := hfr163.symm
              have hF0 := hF0.trans (fl_lt_eq hc163.symm)
              rcases hw with hw | hw
              · obtain ⟨hw, h163_0, h163_1⟩ := hw
                subst hw
                have l163k0_a0_10 : (1 : Int) ≤ a0_10.toInt := h163_0
                have u163k0_a0_10 : a0_10.toInt ≤ (1 : Int) := h163_1
                have hF0 := hF0.trans (if_pos (by decide))
                refine lv_if_eq (tgt := 196) hx hb dX3_readLine_166 (by decide) (fun c166 => absurd c166 (by decide +kernel)) (fun _ => ?_)
                refine lv_aload_n hx hb dX3_readLine_169 rfl (lv_at hl 0 rfl) ?_
                refine va_get (D := (dC, dI)) (ci := 3) (v := .ref a0_5) (C := RX3) (T := TX3) (N := 14) hx hb hts zi_X3_readLine_3 hown hK hP 0 rfl rfl 5 (by decide) (hts (.fieldLink RX3 22 "WaxTurns$Reade\x72" "draft" "LWaxTurns$Hall;") (zm_X3_readLine_r1 (List.mem_of_getElem? (i := 0) rfl))) (fun _ h9 => h9) rfl dX3_readLine_170 ?_
                refine va_get (D := (dC, dI)) (ci := 0) (v := .ref a0_5_14) (C := RX0) (T := TX0) (N := 15) hx hb hts zi_X3_readLine_0 hown hK hP 1 rfl rfl 14 (by decide) (hts (.fieldLink RX3 133 "WaxTurns$Hall" "watchers" "LWaxTurns$Watchers;") (zm_X3_readLine_r1 (List.mem_of_getElem? (i := 4) rfl))) (fun _ h9 => h9) rfl dX3_readLine_173 ?_
                refine va_get (D := (dC, dI)) (ci := 6) (v := .int a0_5_14_0) (C := RX6) (T := TX6) (N := 4) hx hb hts zi_X3_readLine_6 hown hK hP 6 rfl rfl 0 (by decide) (hts (.fieldLink RX3 137 "WaxTurns$Watchers" "count" "I") (zm_X3_readLine_r1 (List.mem_of_getElem? (i := 5) rfl))) (fun _ h9 => h9) rfl dX3_readLine_176 ?_
                refine lv_iconst (v := 3) hx hb dX3_readLine_179 zk_iconst_3 ?_
                refine lv_icmp_lt (tgt := 191) hx hb dX3_readLine_180 (by decide) (fun c180 => ?_) (fun c180 => ?_)
                · have gc180 := ai_lt c180
                  have u180t_a0_5_14_0 : a0_5_14_0.toInt ≤ (2 : Int) := ai_lthi gc180 zq9
                  have hF0 := hF0.trans (if_pos (show a0_5_14_0.toInt < 3 from gc180))
                  refine lv_aload_n hx hb dX3_readLine_191 rfl (lv_at hl 0 rfl) ?_
                  refine zc_cutc (wc := [(a0, .inr (3, [a0g_0, .int a0_1, .int a0_2, .ref a0_3, .ref a0_4, .ref a0_5, .int a0_6, .int a0_7, .int a0_8, .int a0_9, .int a0_10, .long a0_11, .int a0_12, .int a0_13])), (a0_3, .inl (ka0_3, 900, .inl (fa0_3))), (a0_4, .inl (ka0_4, 12, .inr (.inl (fa0_4)))), (a0_5, .inr (0, [.int a0_5_0, .int a0_5_1, .int a0_5_2, .int a0_5_3, .int a0_5_4, .int a0_5_5, .int a0_5_6, .int a0_5_7, .int a0_5_8, .int a0_5_9, .ref a0_5_10, .ref a0_5_11, .ref a0_5_12, .ref a0_5_13, .ref a0_5_14])), (a0_5_14, .inr (6, [.int a0_5_14_0, a0_5_14g_1, .ref a0_5_14_2, .ref a0_5_14_3])), (a0_5_14_2, .inl (ka0_5_14_2, 3, .inl (fa0_5_14_2))), (a0_5_14_3, .inl (ka0_5_14_3, 3, .inl (fa0_5_14_3)))]) hP hD hS hA [0, 2, 3, 1, 6, 7, 8] (by decide +kernel) rfl (fun hPc hDc hFc hCc => ?_)
                  have hKc := hK.sub (tys' := [(ka0_3, .byte), (ka0_4, .long), (ka0_5_14_2, .int), (ka0_5_14_3, .int)]) [0, 1, 4, 5] rfl
                  refine va_calli (va_runV (As := []) (rest := []) ⟨hx, hb, hml, hown, hts⟩ (f_X3_readWatcher l dC dI H.size a0 a0g_0 a0_1 a0_2 a0_3 a0_4 a0_5 a0_6 a0_7 a0_8 a0_9 a0_10 a0_11 a0_12 a0_13 ka0_3 fa0_3 ka0_4 fa0_4 a0_5_0 (.int a0_5_1) (.int a0_5_2) (.int a0_5_3) (.int a0_5_4) (.int a0_5_5) (.int a0_5_6) (.int a0_5_7) (.int a0_5_8) (.int a0_5_9) (.ref a0_5_10) (.ref a0_5_11) (.ref a0_5_12) (.ref a0_5_13) a0_5_14 a0_5_14_0 a0_5_14g_1 a0_5_14_2 a0_5_14_3 ka0_5_14_2 fa0_5_14_2 ka0_5_14_3 fa0_5_14_3 ad ba0_6_l ba0_6_u ba0_7_l ba0_7_u ba0_8_l ba0_8_u ba0_9_l ba0_9_u (Int.le_trans zq4 l163k0_a0_10) (Int.le_trans u163k0_a0_10 zq137) (Int.le_trans zq4 l81t_a0_5_0) ba0_5_0_u ba0_5_14_0_l (Int.le_trans u180t_a0_5_14_0 zq75) bfa0_5_14_2 bfa0_5_14_3) (cwV 0 hts gX3_readLine_X3_readWatcher rfl rfl rfl zd_X3_readWatcher ⟨Nat.le_of_ble_eq_true rfl, Nat.le_of_ble_eq_true rfl⟩) ⟨ax_blind (fun _ _ _ _ hq => ⟨sxc_T_same _ _ _ _ (hq.1), va_Nw.same rfl rfl (hq.2)⟩), zr_3 hKc hPc (q0 := 0) rfl, ax_preE hPc hKc hDc (fun U hU hW => ⟨sxc_T_to hE0 hS.2.1 hFc hU hW, va_Nw.warmM hW hE1⟩)⟩ rfl rfl hl.1 rfl (lv_room (Nat.le_of_ble_eq_true rfl)) dX3_readLine_192 ⟨Nat.le_of_ble_eq_true rfl, Nat.le_of_ble_eq_true rfl⟩) hS (fun q _ h => hFc q h) hFc (fun r192 u t H locs ht hvm hw => zx_13 (fun v192na0_1 v192na0_2 v192na0_6 v192na0_8 v192na0_9 v192na0_10 v192na0_11 v192na0_12 v192na0_13 v192nfa0_4 v192na0_5_14_0 v192nfa0_5_14_2 v192nfa0_5_14_3 => zy_8 (fun bv192na0_6 bv192na0_8 bv192na0_9 bv192na0_10 bv192na0_5_14_0 bv192nfa0_5_14_2 bv192nfa0_5_14_3 hraw192_0 hB hz1 hk1 hS1 => zo hB ht hS1 (fun hP1 hK1 hD1 hS => ?_))))
                  refine zc_backc (w := [(a0, .inr (3, [a0g_0, .int v192na0_1, .int v192na0_2, .ref a0_3, .ref a0_4, .ref a0_5, .int v192na0_6, .int a0_7, .int v192na0_8, .int v192na0_9, .int v192na0_10, .long v192na0_11, .int v192na0_12, .int v192na0_13])), (a0_5, .inr (0, [.int a0_5_0, .int a0_5_1, .int a0_5_2, .int a0_5_3, .int a0_5_4, .int a0_5_5, .int a0_5_6, .int a0_5_7, .int a0_5_8, .int a0_5_9, .ref a0_5_10, .ref a0_5_11, .ref a0_5_12, .ref a0_5_13, .ref a0_5_14])), (a0_3, .inl (ka0_3, 900, .inl (fa0_3))), (a0_4, .inl (ka0_4, 12, .inr (.inl (v192nfa0_4)))), (a0_5_10, .inl (ka0_5_10, 9, .inl (fa0_5_10))), (a0_5_11, .inl (ka0_5_11, 9, .inl (fa0_5_11))), (a0_5_14, .inr (6, [.int v192na0_5_14_0, a0_5_14g_1, .ref a0_5_14_2, .ref a0_5_14_3])), (a0_5_14_2, .inl (ka0_5_14_2, 3, .inl (v192nfa0_5_14_2))), (a0_5_14_3, .inl (ka0_5_14_3, 3, .inl (v192nfa0_5_14_3))), (a0_5_13, .inl (ka0_5_13, 6, .inl (fa0_5_13))), (a0_5_12, .inl (ka0_5_12, 6, .inl (fa0_5_12)))]) hP hD hCc hk1 hFc hP1 hD1 [.inr 0, .inr 3, .inr 1, .inr 2, .inl 4, .inl 5, .inr 4, .inr 5, .inr 6, .inl 9, .inl 10] (by decide +kernel) rfl (fun hP hD => ?_)
                  obtain ⟨hw, hfr192⟩ := hw
                  have hc192 : Ff_X3_readWatcher a0_1.toInt a0_2.toInt a0_6.toInt a0_7.toInt a0_9.toInt a0_11.toInt a0_12.toInt a0_13.toInt (fl_A fa0_3) (fl_L fa0_4) a0_5_0.toInt a0_5_14_0.toInt (fl_A fa0_5_14_2) (fl_A fa0_5_14_3) = (r192.toInt, v192na0_1.toInt, v192na0_2.toInt, v192na0_6.toInt, v192na0_8.toInt, v192na0_9.toInt, v192na0_10.toInt, v192na0_11.toInt, v192na0_12.toInt, v192na0_13.toInt, (fl_L v192nfa0_4), v192na0_5_14_0.toInt, (fl_A v192nfa0_5_14_2), (fl_A v192nfa0_5_14_3)) := Prod.ext hfr192.symm hraw192_0
                  have hF0 := hF0.trans (fl_c14_eq hc192)
                  rcases hw with hw | hw
                  · subst hw
                    have hF0 := hF0.trans (if_pos (by decide))
                    have hFe : FX = (1, v192na0_1.toInt, v192na0_2.toInt, v192na0_6.toInt, v192na0_8.toInt, v192na0_9.toInt, v192na0_10.toInt, v192na0_11.toInt, v192na0_12.toInt, v192na0_13.toInt, a0_5_0.toInt, a0_5_1.toInt, a0_5_2.toInt, a0_5_3.toInt, a0_5_4.toInt, a0_5_5.toInt, a0_5_6.toInt, a0_5_7.toInt, a0_5_8.toInt, a0_5_9.toInt, (fl_L v192nfa0_4), (fl_A fa0_5_10), (fl_A fa0_5_11), v192na0_5_14_0.toInt, (fl_A v192nfa0_5_14_2), (fl_A v192nfa0_5_14_3), (fl_A fa0_5_13), (fl_A fa0_5_12)) := hF0
                    exact W.zret (v := 1) hx hb hr rfl (fun t ht hW => ⟨⟨1, (), rfl, ⟨(Or.inl (rfl)), (congrArg Prod.fst hFe).symm⟩, v192na0_1, v192na0_2, v192na0_6, v192na0_8, v192na0_9, v192na0_10, v192na0_11, v192na0_12, v192na0_13, a0_5_0, a0_5_1, a0_5_2, a0_5_3, a0_5_4, a0_5_5, a0_5_6, a0_5_7, a0_5_8, a0_5_9, v192nfa0_4, fa0_5_10, fa0_5_11, v192na0_5_14_0, v192nfa0_5_14_2, v192nfa0_5_14_3, fa0_5_13, fa0_5_12, ⟨bv192na0_6.1, bv192na0_6.2⟩, ⟨bv192na0_8.1, bv192na0_8.2⟩, ⟨bv192na0_9.1, bv192na0_9.2⟩, ⟨bv192na0_10.1, bv192na0_10.2⟩, ⟨Int.le_trans (by decide) l81t_a0_5_0, ba0_5_0_u⟩, ⟨ba0_5_4_l, ba0_5_4_u⟩, ⟨ba0_5_5_l, ba0_5_5_u⟩, ⟨ba0_5_6_l, ba0_5_6_u⟩, ⟨ba0_5_7_l, ba0_5_7_u⟩, ⟨ba0_5_9_l, ba0_5_9_u⟩, ⟨bv192na0_5_14_0.1, bv192na0_5_14_0.2⟩, bv192nfa0_5_14_2, bv192nfa0_5_14_3, bfa0_5_13, (congrArg Prod.snd hFe), by rw [ht]; exact hP, va_K.moved hW.alike hK, hD⟩, hS.F ht⟩) hS.2.2 dX3_readLine_195
                  · subst hw
                    have hF0 := hF0.trans (if_neg (by decide))
                    have hFe : FX = (0, v192na0_1.toInt, v192na0_2.toInt, v192na0_6.toInt, v192na0_8.toInt, v192na0_9.toInt, v192na0_10.toInt, v192na0_11.toInt, v192na0_12.toInt, v192na0_13.toInt, a0_5_0.toInt, a0_5_1.toInt, a0_5_2.toInt, a0_5_3.toInt, a0_5_4.toInt, a0_5_5.toInt, a0_5_6.toInt, a0_5_7.toInt, a0_5_8.toInt, a0_5_9.toInt, (fl_L v192nfa0_4), (fl_A fa0_5_10), (fl_A fa0_5_11), v192na0_5_14_0.toInt, (fl_A v192nfa0_5_14_2), (fl_A v192nfa0_5_14_3), (fl_A fa0_5_13), (fl_A fa0_5_12)) := hF0
                    exact W.zret (v := 0) hx hb hr rfl (fun t ht hW => ⟨⟨0, (), rfl, ⟨(Or.inr (rfl)), (congrArg Prod.fst hFe).symm⟩, v192na0_1, v192na0_2, v192na0_6, v192na0_8, v192na0_9, v192na0_10, v192na0_11, v192na0_12, v192na0_13, a0_5_0, a0_5_1, a0_5_2, a0_5_3, a0_5_4, a0_5_5, a0_5_6, a0_5_7, a0_5_8, a0_5_9, v192nfa0_4, fa0_5_10, fa0_5_11, v192na0_5_14_0, v192nfa0_5_14_2, v192nfa0_5_14_3, fa0_5_13, fa0_5_12, ⟨bv192na0_6.1, bv192na0_6.2⟩, ⟨bv192na0_8.1, bv192na0_8.2⟩, ⟨bv192na0_9.1, bv192na0_9.2⟩, ⟨bv192na0_10.1, bv192na0_10.2⟩, ⟨Int.le_trans (by decide) l81t_a0_5_0, ba0_5_0_u⟩, ⟨ba0_5_4_l, ba0_5_4_u⟩, ⟨ba0_5_5_l, ba0_5_5_u⟩, ⟨ba0_5_6_l, ba0_5_6_u⟩, ⟨ba0_5_7_l, ba0_5_7_u⟩, ⟨ba0_5_9_l, ba0_5_9_u⟩, ⟨bv192na0_5_14_0.1, bv192na0_5_14_0.2⟩, bv192nfa0_5_14_2, bv192nfa0_5_14_3, bfa0_5_13, (congrArg Prod.snd hFe), by rw [ht]; exact hP, va_K.moved hW.alike hK, hD⟩, hS.F ht⟩) hS.2.2 dX3_readLine_195
                · have gc180 := ai_nlt c180
                  have l180f_a0_5_14_0 : (3 : Int) ≤ a0_5_14_0.toInt := Int.le_trans zq8 gc180
                  have hF0 := hF0.trans (if_neg (show ¬ (a0_5_14_0.toInt < 3) from Int.not_lt.mpr gc180))
                  refine lv_aload_n hx hb dX3_readLine_183 rfl (lv_at hl 0 rfl) ?_
                  refine lv_iconst (v := 5) hx hb dX3_readLine_184 zk_iconst_5 ?_
                  refine va_calli (va_runV (As := [.int 5]) (rest := []) ⟨hx, hb, hml, hown, hts⟩ (f_X3_fails l dC dI H.size a0 5 a0g_0 (.ref a0_3) (.ref a0_4) (.ref a0_5) (.int a0_6) (.int a0_7) (.int a0_9) (.int a0_10) (.long a0_11) (.int a0_12) (.int a0_13) a0_1 a0_2 a0_8 ba0_8_l ba0_8_u) (cwV 1 hts gX3_readLine_X3_fails rfl rfl rfl zd_X3_fails ⟨Nat.le_of_ble_eq_true rfl, Nat.le_of_ble_eq_true rfl⟩) ⟨ax_blind (fun _ _ _ _ _ => trivial), zr_3 (zp_K hK) (zp_P1 hP) (q0 := 0) rfl, ax_pre (zp_P1 hP) (zp_K hK) (zp_D1 hD) (fun _ _ => trivial)⟩ rfl rfl hl.1 rfl (lv_room (Nat.le_of_ble_eq_true rfl)) dX3_readLine_185 ⟨Nat.le_of_ble_eq_true rfl, Nat.le_of_ble_eq_true rfl⟩) hS (fun q _ h => zp_F1 hD hS hA q h) (zp_F1 hD hS hA) (fun r185 u t H locs ht hvm hw => zx_2 (fun v185na0_1 v185na0_2 => zy_1 (fun hraw185_0 hB hz1 hk1 hS1 => zo1 hB ht hP hD hk1 (zp_F1 hD hS hA) hS1 (fun hP hK1 hD hS => ?_))))
                  obtain ⟨hw, hfr185⟩ := hw
                  rw [show (5 : Int32).toInt = 5 from by decide] at hfr185 hraw185_0
                  have hc185 : Ff_X3_fails 5 a0_8.toInt = (r185.toInt, v185na0_1.toInt, v185na0_2.toInt) := Prod.ext hfr185.symm hraw185_0
                  have hF0 := hF0.trans (fl_c3_eq hc185)
                  have hw : r185 = 0 := hw
                  have hw := hw.symm
                  subst hw
                  refine lv_goto (tgt := 195) hx hb dX3_readLine_188 (by decide) ?_
                  have hFe : FX = (0, v185na0_1.toInt, v185na0_2.toInt, a0_6.toInt, a0_8.toInt, a0_9.toInt, a0_10.toInt, a0_11.toInt, a0_12.toInt, a0_13.toInt, a0_5_0.toInt, a0_5_1.toInt, a0_5_2.toInt, a0_5_3.toInt, a0_5_4.toInt, a0_5_5.toInt, a0_5_6.toInt, a0_5_7.toInt, a0_5_8.toInt, a0_5_9.toInt, (fl_L fa0_4), (fl_A fa0_5_10), (fl_A fa0_5_11), a0_5_14_0.toInt, (fl_A fa0_5_14_2), (fl_A fa0_5_14_3), (fl_A fa0_5_13), (fl_A fa0_5_12)) := hF0
                  exact W.zret (v := 0) hx hb hr rfl (fun t ht hW => ⟨⟨0, (), rfl, ⟨(Or.inr (rfl)), (congrArg Prod.fst hFe).symm⟩, v185na0_1, v185na0_2, a0_6, a0_8, a0_9, a0_10, a0_11, a0_12, a0_13, a0_5_0, a0_5_1, a0_5_2, a0_5_3, a0_5_4, a0_5_5, a0_5_6, a0_5_7, a0_5_8, a0_5_9, fa0_4, fa0_5_10, fa0_5_11, a0_5_14_0, fa0_5_14_2, fa0_5_14_3, fa0_5_13, fa0_5_12, ⟨ba0_6_l, ba0_6_u⟩, ⟨ba0_8_l, ba0_8_u⟩, ⟨ba0_9_l, ba0_9_u⟩, ⟨Int.le_trans (by decide) l163k0_a0_10, Int.le_trans u163k0_a0_10 (by decide)⟩, ⟨Int.le_trans (by decide) l81t_a0_5_0, ba0_5_0_u⟩, ⟨ba0_5_4_l, ba0_5_4_u⟩, ⟨ba0_5_5_l, ba0_5_5_u⟩, ⟨ba0_5_6_l, ba0_5_6_u⟩, ⟨ba0_5_7_l, ba0_5_7_u⟩, ⟨ba0_5_9_l, ba0_5_9_u⟩, ⟨Int.le_trans (by decide) l180f_a0_5_14_0, ba0_5_14_0_u⟩, bfa0_5_14_2, bfa0_5_14_3, bfa0_5_13, (congrArg Prod.snd hFe), by rw [ht]; exact hP, va_K.moved hW.alike hK, hD⟩, hS.F ht⟩) hS.2.2 dX3_readLine_195
              · subst hw
                have hF0 := hF0.trans (if_neg (by decide))
                refine lv_if_eq (tgt := 196) hx hb dX3_readLine_166 (by decide) (fun _ => ?_) (fun c166 => absurd (by decide +kernel) c166)
                refine lv_aload_n hx hb dX3_readLine_196 rfl (lv_at hl 0 rfl) ?_
                refine va_get (D := (dC, dI)) (ci := 3) (v := .ref a0_5) (C := RX3) (T := TX3) (N := 14) hx hb hts zi_X3_readLine_3 hown hK hP 0 rfl rfl 5 (by decide) (hts (.fieldLink RX3 22 "WaxTurns$Reade\x72" "draft" "LWaxTurns$Hall;") (zm_X3_readLine_r1 (List.mem_of_getElem? (i := 0) rfl))) (fun _ h9 => h9) rfl dX3_readLine_197 ?_
                refine va_get (D := (dC, dI)) (ci := 0) (v := .int a0_5_9) (C := RX0) (T := TX0) (N := 15) hx hb hts zi_X3_readLine_0 hown hK hP 1 rfl rfl 9 (by decide) (hts (.fieldLink RX3 145 "WaxTurns$Hall" "seenCount" "I") (zm_X3_readLine_r1 (List.mem_of_getElem? (i := 6) rfl))) (fun _ h9 => h9) rfl dX3_readLine_200 ?_
                refine lv_bipush (v := 6) hx hb dX3_readLine_203 zk_bipush_6 ?_
                refine lv_icmp_lt (tgt := 216) hx hb dX3_readLine_205 (by decide) (fun c205 => ?_) (fun c205 => ?_)
                · have gc205 := ai_lt c205
                  have u205t_a0_5_9 : a0_5_9.toInt ≤ (5 : Int) := ai_lthi gc205 zq16
                  have hF0 := hF0.trans (if_pos (show a0_5_9.toInt < 6 from gc205))
                  refine lv_aload_n hx hb dX3_readLine_216 rfl (lv_at hl 0 rfl) ?_
                  refine zc_cutc (wc := [(a0, .inr (3, [a0g_0, .int a0_1, .int a0_2, .ref a0_3, .ref a0_4, .ref a0_5, .int a0_6, .int a0_7, .int a0_8, .int a0_9, .int a0_10, .long a0_11, .int a0_12, .int a0_13])), (a0_5, .inr (0, [.int a0_5_0, .int a0_5_1, .int a0_5_2, .int a0_5_3, .int a0_5_4, .int a0_5_5, .int a0_5_6, .int a0_5_7, .int a0_5_8, .int a0_5_9, .ref a0_5_10, .ref a0_5_11, .ref a0_5_12, .ref a0_5_13, .ref a0_5_14])), (a0_3, .inl (ka0_3, 900, .inl (fa0_3))), (a0_5_13, .inl (ka0_5_13, 6, .inl (fa0_5_13))), (a0_5_12, .inl (ka0_5_12, 6, .inl (fa0_5_12)))]) hP hD hS hA [0, 1, 2, 9, 10] (by decide +kernel) rfl (fun hPc hDc hFc hCc => ?_)
                  have hKc := hK.sub (tys' := [(ka0_3, .byte), (ka0_5_13, .int), (ka0_5_12, .int)]) [0, 6, 7] rfl
                  refine va_calli (va_runV (As := []) (rest := []) ⟨hx, hb, hml, hown, hts⟩ (f_X3_readSeen l dC dI H.size a0 a0g_0 (.ref a0_4) (.int a0_6) a0_1 a0_2 a0_3 a0_5 a0_7 a0_8 a0_9 a0_10 a0_11 a0_12 a0_13 a0_5_0 (.int a0_5_1) (.int a0_5_2) (.int a0_5_3) (.int a0_5_4) (.int a0_5_5) (.int a0_5_6) (.int a0_5_7) (.int a0_5_8) (.ref a0_5_10) (.ref a0_5_11) (.ref a0_5_14) a0_5_9 a0_5_12 a0_5_13 ka0_3 fa0_3 ka0_5_13 fa0_5_13 ka0_5_12 fa0_5_12 ad ba0_7_l ba0_7_u ba0_8_l ba0_8_u ba0_9_l ba0_9_u ba0_10_l ba0_10_u (Int.le_trans zq4 l81t_a0_5_0) ba0_5_0_u ba0_5_9_l (Int.le_trans u205t_a0_5_9 zq218) bfa0_5_13) (cwV 0 hts gX3_readLine_X3_readSeen rfl rfl rfl zd_X3_readSeen ⟨Nat.le_of_ble_eq_true rfl, Nat.le_of_ble_eq_true rfl⟩) ⟨ax_blind (fun _ _ _ _ hq => ⟨sxc_T_same _ _ _ _ (hq.1), va_Nw.same rfl rfl (hq.2)⟩), zr_3 hKc hPc (q0 := 0) rfl, ax_preE hPc hKc hDc (fun U hU hW => ⟨sxc_T_to hE0 hS.2.1 hFc hU hW, va_Nw.warmM hW hE1⟩)⟩ rfl rfl hl.1 rfl (lv_room (Nat.le_of_ble_eq_true rfl)) dX3_readLine_217 ⟨Nat.le_of_ble_eq_true rfl, Nat.le_of_ble_eq_true rfl⟩) hS (fun q _ h => hFc q h) hFc (fun r217 u t H locs ht hvm hw => zx_11 (fun v217na0_1 v217na0_2 v217na0_8 v217na0_9 v217na0_10 v217na0_11 v217na0_12 v217na0_13 v217na0_5_9 v217nfa0_5_13 v217nfa0_5_12 => zy_6 (fun bv217na0_8 bv217na0_9 bv217na0_10 bv217na0_5_9 bv217nfa0_5_13 hraw217_0 hB hz1 hk1 hS1 => zo hB ht hS1 (fun hP1 hK1 hD1 hS => ?_))))
                  refine zc_backc (w := [(a0, .inr (3, [a0g_0, .int v217na0_1, .int v217na0_2, .ref a0_3, .ref a0_4, .ref a0_5, .int a0_6, .int a0_7, .int v217na0_8, .int v217na0_9, .int v217na0_10, .long v217na0_11, .int v217na0_12, .int v217na0_13])), (a0_5, .inr (0, [.int a0_5_0, .int a0_5_1, .int a0_5_2, .int a0_5_3, .int a0_5_4, .int a0_5_5, .int a0_5_6, .int a0_5_7, .int a0_5_8, .int v217na0_5_9, .ref a0_5_10, .ref a0_5_11, .ref a0_5_12, .ref a0_5_13, .ref a0_5_14])), (a0_3, .inl (ka0_3, 900, .inl (fa0_3))), (a0_4, .inl (ka0_4, 12, .inr (.inl (fa0_4)))), (a0_5_10, .inl (ka0_5_10, 9, .inl (fa0_5_10))), (a0_5_11, .inl (ka0_5_11, 9, .inl (fa0_5_11))), (a0_5_14, .inr (6, [.int a0_5_14_0, a0_5_14g_1, .ref a0_5_14_2, .ref a0_5_14_3])), (a0_5_14_2, .inl (ka0_5_14_2, 3, .inl (fa0_5_14_2))), (a0_5_14_3, .inl (ka0_5_14_3, 3, .inl (fa0_5_14_3))), (a0_5_13, .inl (ka0_5_13, 6, .inl (v217nfa0_5_13))), (a0_5_12, .inl (ka0_5_12, 6, .inl (v217nfa0_5_12)))]) hP hD hCc hk1 hFc hP1 hD1 [.inr 0, .inr 1, .inr 2, .inl 3, .inl 4, .inl 5, .inl 6, .inl 7, .inl 8, .inr 3, .inr 4] (by decide +kernel) rfl (fun hP hD => ?_)
                  obtain ⟨hw, hfr217⟩ := hw
                  have hc217 : Ff_X3_readSeen a0_1.toInt a0_2.toInt a0_7.toInt a0_8.toInt a0_9.toInt a0_10.toInt a0_11.toInt a0_12.toInt a0_13.toInt a0_5_0.toInt a0_5_9.toInt (fl_A fa0_3) (fl_A fa0_5_13) (fl_A fa0_5_12) = (r217.toInt, v217na0_1.toInt, v217na0_2.toInt, v217na0_8.toInt, v217na0_9.toInt, v217na0_10.toInt, v217na0_11.toInt, v217na0_12.toInt, v217na0_13.toInt, v217na0_5_9.toInt, (fl_A v217nfa0_5_13), (fl_A v217nfa0_5_12)) := Prod.ext hfr217.symm hraw217_0
                  have hF0 := hF0.trans (fl_c12_eq hc217)
                  rcases hw with hw | hw
                  · subst hw
                    have hF0 := hF0.trans (if_pos (by decide))
                    have hFe : FX = (1, v217na0_1.toInt, v217na0_2.toInt, a0_6.toInt, v217na0_8.toInt, v217na0_9.toInt, v217na0_10.toInt, v217na0_11.toInt, v217na0_12.toInt, v217na0_13.toInt, a0_5_0.toInt, a0_5_1.toInt, a0_5_2.toInt, a0_5_3.toInt, a0_5_4.toInt, a0_5_5.toInt, a0_5_6.toInt, a0_5_7.toInt, a0_5_8.toInt, v217na0_5_9.toInt, (fl_L fa0_4), (fl_A fa0_5_10), (fl_A fa0_5_11), a0_5_14_0.toInt, (fl_A fa0_5_14_2), (fl_A fa0_5_14_3), (fl_A v217nfa0_5_13), (fl_A v217nfa0_5_12)) := hF0
                    exact W.zret (v := 1) hx hb hr rfl (fun t ht hW => ⟨⟨1, (), rfl, ⟨(Or.inl (rfl)), (congrArg Prod.fst hFe).symm⟩, v217na0_1, v217na0_2, a0_6, v217na0_8, v217na0_9, v217na0_10, v217na0_11, v217na0_12, v217na0_13, a0_5_0, a0_5_1, a0_5_2, a0_5_3, a0_5_4, a0_5_5, a0_5_6, a0_5_7, a0_5_8, v217na0_5_9, fa0_4, fa0_5_10, fa0_5_11, a0_5_14_0, fa0_5_14_2, fa0_5_14_3, v217nfa0_5_13, v217nfa0_5_12, ⟨ba0_6_l, ba0_6_u⟩, ⟨bv217na0_8.1, bv217na0_8.2⟩, ⟨bv217na0_9.1, bv217na0_9.2⟩, ⟨bv217na0_10.1, bv217na0_10.2⟩, ⟨Int.le_trans (by decide) l81t_a0_5_0, ba0_5_0_u⟩, ⟨ba0_5_4_l, ba0_5_4_u⟩, ⟨ba0_5_5_l, ba0_5_5_u⟩, ⟨ba0_5_6_l, ba0_5_6_u⟩, ⟨ba0_5_7_l, ba0_5_7_u⟩, ⟨bv217na0_5_9.1, bv217na0_5_9.2⟩, ⟨ba0_5_14_0_l, ba0_5_14_0_u⟩, bfa0_5_14_2, bfa0_5_14_3, bv217nfa0_5_13, (congrArg Prod.snd hFe), by rw [ht]; exact hP, va_K.moved hW.alike hK, hD⟩, hS.F ht⟩) hS.2.2 dX3_readLine_220
                  · subst hw
                    have hF0 := hF0.trans (if_neg (by decide))
                    have hFe : FX = (0, v217na0_1.toInt, v217na0_2.toInt, a0_6.toInt, v217na0_8.toInt, v217na0_9.toInt, v217na0_10.toInt, v217na0_11.toInt, v217na0_12.toInt, v217na0_13.toInt, a0_5_0.toInt, a0_5_1.toInt, a0_5_2.toInt, a0_5_3.toInt, a0_5_4.toInt, a0_5_5.toInt, a0_5_6.toInt, a0_5_7.toInt, a0_5_8.toInt, v217na0_5_9.toInt, (fl_L fa0_4), (fl_A fa0_5_10), (fl_A fa0_5_11), a0_5_14_0.toInt, (fl_A fa0_5_14_2), (fl_A fa0_5_14_3), (fl_A v217nfa0_5_13), (fl_A v217nfa0_5_12)) := hF0
                    exact W.zret (v := 0) hx hb hr rfl (fun t ht hW => ⟨⟨0, (), rfl, ⟨(Or.inr (rfl)), (congrArg Prod.fst hFe).symm⟩, v217na0_1, v217na0_2, a0_6, v217na0_8, v217na0_9, v217na0_10, v217na0_11, v217na0_12, v217na0_13, a0_5_0, a0_5_1, a0_5_2, a0_5_3, a0_5_4, a0_5_5, a0_5_6, a0_5_7, a0_5_8, v217na0_5_9, fa0_4, fa0_5_10, fa0_5_11, a0_5_14_0, fa0_5_14_2, fa0_5_14_3, v217nfa0_5_13, v217nfa0_5_12, ⟨ba0_6_l, ba0_6_u⟩, ⟨bv217na0_8.1, bv217na0_8.2⟩, ⟨bv217na0_9.1, bv217na0_9.2⟩, ⟨bv217na0_10.1, bv217na0_10.2⟩, ⟨Int.le_trans (by decide) l81t_a0_5_0, ba0_5_0_u⟩, ⟨ba0_5_4_l, ba0_5_4_u⟩, ⟨ba0_5_5_l, ba0_5_5_u⟩, ⟨ba0_5_6_l, ba0_5_6_u⟩, ⟨ba0_5_7_l, ba0_5_7_u⟩, ⟨bv217na0_5_9.1, bv217na0_5_9.2⟩, ⟨ba0_5_14_0_l, ba0_5_14_0_u⟩, bfa0_5_14_2, bfa0_5_14_3, bv217nfa0_5_13, (congrArg Prod.snd hFe), by rw [ht]; exact hP, va_K.moved hW.alike hK, hD⟩, hS.F ht⟩) hS.2.2 dX3_readLine_220
                · have gc205 := ai_nlt c205
                  have l205f_a0_5_9 : (6 : Int) ≤ a0_5_9.toInt := Int.le_trans zq15 gc205
                  have hF0 := hF0.trans (if_neg (show ¬ (a0_5_9.toInt < 6) from Int.not_lt.mpr gc205))
                  refine lv_aload_n hx hb dX3_readLine_208 rfl (lv_at hl 0 rfl) ?_
                  refine lv_iconst (v := 5) hx hb dX3_readLine_209 zk_iconst_5 ?_
                  refine va_calli (va_runV (As := [.int 5]) (rest := []) ⟨hx, hb, hml, hown, hts⟩ (f_X3_fails l dC dI H.size a0 5 a0g_0 (.ref a0_3) (.ref a0_4) (.ref a0_5) (.int a0_6) (.int a0_7) (.int a0_9) (.int a0_10) (.long a0_11) (.int a0_12) (.int a0_13) a0_1 a0_2 a0_8 ba0_8_l ba0_8_u) (cwV 1 hts gX3_readLine_X3_fails rfl rfl rfl zd_X3_fails ⟨Nat.le_of_ble_eq_true rfl, Nat.le_of_ble_eq_true rfl⟩) ⟨ax_blind (fun _ _ _ _ _ => trivial), zr_3 (zp_K hK) (zp_P1 hP) (q0 := 0) rfl, ax_pre (zp_P1 hP) (zp_K hK) (zp_D1 hD) (fun _ _ => trivial)⟩ rfl rfl hl.1 rfl (lv_room (Nat.le_of_ble_eq_true rfl)) dX3_readLine_210 ⟨Nat.le_of_ble_eq_true rfl, Nat.le_of_ble_eq_true rfl⟩) hS (fun q _ h => zp_F1 hD hS hA q h) (zp_F1 hD hS hA) (fun r210 u t H locs ht hvm hw => zx_2 (fun v210na0_1 v210na0_2 => zy_1 (fun hraw210_0 hB hz1 hk1 hS1 => zo1 hB ht hP hD hk1 (zp_F1 hD hS hA) hS1 (fun hP hK1 hD hS => ?_))))
                  obtain ⟨hw, hfr210⟩ := hw
                  rw [show (5 : Int32).toInt = 5 from by decide] at hfr210 hraw210_0
                  have hc210 : Ff_X3_fails 5 a0_8.toInt = (r210.toInt, v210na0_1.toInt, v210na0_2.toInt) := Prod.ext hfr210.symm hraw210_0
                  have hF0 := hF0.trans (fl_c3_eq hc210)
                  have hw : r210 = 0 := hw
                  have hw := hw.symm
                  subst hw
                  refine lv_goto (tgt := 220) hx hb dX3_readLine_213 (by decide) ?_
                  have hFe : FX = (0, v210na0_1.toInt, v210na0_2.toInt, a0_6.toInt, a0_8.toInt, a0_9.toInt, a0_10.toInt, a0_11.toInt, a0_12.toInt, a0_13.toInt, a0_5_0.toInt, a0_5_1.toInt, a0_5_2.toInt, a0_5_3.toInt, a0_5_4.toInt, a0_5_5.toInt, a0_5_6.toInt, a0_5_7.toInt, a0_5_8.toInt, a0_5_9.toInt, (fl_L fa0_4), (fl_A fa0_5_10), (fl_A fa0_5_11), a0_5_14_0.toInt, (fl_A fa0_5_14_2), (fl_A fa0_5_14_3), (fl_A fa0_5_13), (fl_A fa0_5_12)) := hF0
                  exact W.zret (v := 0) hx hb hr rfl (fun t ht hW => ⟨⟨0, (), rfl, ⟨(Or.inr (rfl)), (congrArg Prod.fst hFe).symm⟩, v210na0_1, v210na0_2, a0_6, a0_8, a0_9, a0_10, a0_11, a0_12, a0_13, a0_5_0, a0_5_1, a0_5_2, a0_5_3, a0_5_4, a0_5_5, a0_5_6, a0_5_7, a0_5_8, a0_5_9, fa0_4, fa0_5_10, fa0_5_11, a0_5_14_0, fa0_5_14_2, fa0_5_14_3, fa0_5_13, fa0_5_12, ⟨ba0_6_l, ba0_6_u⟩, ⟨ba0_8_l, ba0_8_u⟩, ⟨ba0_9_l, ba0_9_u⟩, ⟨ba0_10_l, ba0_10_u⟩, ⟨Int.le_trans (by decide) l81t_a0_5_0, ba0_5_0_u⟩, ⟨ba0_5_4_l, ba0_5_4_u⟩, ⟨ba0_5_5_l, ba0_5_5_u⟩, ⟨ba0_5_6_l, ba0_5_6_u⟩, ⟨ba0_5_7_l, ba0_5_7_u⟩, ⟨Int.le_trans (by decide) l205f_a0_5_9, ba0_5_9_u⟩, ⟨ba0_5_14_0_l, ba0_5_14_0_u⟩, bfa0_5_14_2, bfa0_5_14_3, bfa0_5_13, (congrArg Prod.snd hFe), by rw [ht]; exact hP, va_K.moved hW.alike hK, hD⟩, hS.F ht⟩) hS.2.2 dX3_readLine_220
        · have gc81 := ai_eq c81
          have u81f_a0_5_0 : a0_5_0.toInt ≤ (0 : Int) := Int.le_trans (Int.le_of_eq gc81) zq6
          have l81f_a0_5_0 : (0 : Int) ≤ a0_5_0.toInt := ba0_5_0_l
          have hF0 := hF0.trans (if_pos (show a0_5_0.toInt = 0 from gc81))
          refine lv_aload_n hx hb dX3_readLine_84 rfl (lv_at hl 0 rfl) ?_
          refine lv_bipush (v := 6) hx hb dX3_readLine_85 zk_bipush_6 ?_
          refine va_calli (va_runV (As := [.int 6]) (rest := []) ⟨hx, hb, hml, hown, hts⟩ (f_X3_fails l dC dI H.size a0 6 a0g_0 (.ref a0_3) (.ref a0_4) (.ref a0_5) (.int a0_6) (.int a0_7) (.int a0_9) (.int a0_10) (.long a0_11) (.int a0_12) (.int a0_13) a0_1 a0_2 a0_8 ba0_8_l ba0_8_u) (cwV 1 hts gX3_readLine_X3_fails rfl rfl rfl zd_X3_fails ⟨Nat.le_of_ble_eq_true rfl, Nat.le_of_ble_eq_true rfl⟩) ⟨ax_blind (fun _ _ _ _ _ => trivial), zr_3 (zp_K hK) (zp_P1 hP) (q0 := 0) rfl, ax_pre (zp_P1 hP) (zp_K hK) (zp_D1 hD) (fun _ _ => trivial)⟩ rfl rfl hl.1 rfl (lv_room (Nat.le_of_ble_eq_true rfl)) dX3_readLine_87 ⟨Nat.le_of_ble_eq_true rfl, Nat.le_of_ble_eq_true rfl⟩) hS (fun q _ h => zp_F1 hD hS hA q h) (zp_F1 hD hS hA) (fun r87 u t H locs ht hvm hw => zx_2 (fun v87na0_1 v87na0_2 => zy_1 (fun hraw87_0 hB hz1 hk1 hS1 => zo1 hB ht hP hD hk1 (zp_F1 hD hS hA) hS1 (fun hP hK1 hD hS => ?_))))
          obtain ⟨hw, hfr87⟩ := hw
          rw [show (6 : Int32).toInt = 6 from by decide] at hfr87 hraw87_0
          have hc87 : Ff_X3_fails 6 a0_8.toInt = (r87.toInt, v87na0_1.toInt, v87na0_2.toInt) := Prod.ext hfr87.symm hraw87_0
          have hF0 := hF0.trans (fl_c3_eq hc87)
          have hw : r87 = 0 := hw
          have hw := hw.symm
          subst hw
          have hFe : FX = (0, v87na0_1.toInt, v87na0_2.toInt, a0_6.toInt, a0_8.toInt, a0_9.toInt, a0_10.toInt, a0_11.toInt, a0_12.toInt, a0_13.toInt, a0_5_0.toInt, a0_5_1.toInt, a0_5_2.toInt, a0_5_3.toInt, a0_5_4.toInt, a0_5_5.toInt, a0_5_6.toInt, a0_5_7.toInt, a0_5_8.toInt, a0_5_9.toInt, (fl_L fa0_4), (fl_A fa0_5_10), (fl_A fa0_5_11), a0_5_14_0.toInt, (fl_A fa0_5_14_2), (fl_A fa0_5_14_3), (fl_A fa0_5_13), (fl_A fa0_5_12)) := hF0
          exact W.zret (v := 0) hx hb hr rfl (fun t ht hW => ⟨⟨0, (), rfl, ⟨(Or.inr (rfl)), (congrArg Prod.fst hFe).symm⟩, v87na0_1, v87na0_2, a0_6, a0_8, a0_9, a0_10, a0_11, a0_12, a0_13, a0_5_0, a0_5_1, a0_5_2, a0_5_3, a0_5_4, a0_5_5, a0_5_6, a0_5_7, a0_5_8, a0_5_9, fa0_4, fa0_5_10, fa0_5_11, a0_5_14_0, fa0_5_14_2, fa0_5_14_3, fa0_5_13, fa0_5_12, ⟨ba0_6_l, ba0_6_u⟩, ⟨ba0_8_l, ba0_8_u⟩, ⟨ba0_9_l, ba0_9_u⟩, ⟨ba0_10_l, ba0_10_u⟩, ⟨l81f_a0_5_0, Int.le_trans u81f_a0_5_0 (by decide)⟩, ⟨ba0_5_4_l, ba0_5_4_u⟩, ⟨ba0_5_5_l, ba0_5_5_u⟩, ⟨ba0_5_6_l, ba0_5_6_u⟩, ⟨ba0_5_7_l, ba0_5_7_u⟩, ⟨ba0_5_9_l, ba0_5_9_u⟩, ⟨ba0_5_14_0_l, ba0_5_14_0_u⟩, bfa0_5_14_2, bfa0_5_14_3, bfa0_5_13, (congrArg Prod.snd hFe), by rw [ht]; exact hP, va_K.moved hW.alike hK, hD⟩, hS.F ht⟩) hS.2.2 dX3_readLine_90
      refine lv_aload_n hx hb dX3_readLine_41 rfl (lv_at hl 0 rfl) ?_
      refine va_ldcS hx hb hown (sxc_R2 hE0) dX3_readLine_42 ?_
      refine va_calli (va_runV (As := [.ref (ad 2)]) (rest := []) ⟨hx, hb, hml, hown, hts⟩ (f_X3_isWord l dC dI H.size a0 (ad 2) a0g_0 (.int a0_1) (.int a0_2) (.ref a0_3) (.ref a0_4) (.ref a0_5) (.int a0_6) (.int a0_7) (.int a0_8) (.int a0_9) (.int a0_12) (.int a0_13) a0_10 a0_11 6 (sxc 2) ba0_10_l ba0_10_u) (cwV 1 hts gX3_readLine_X3_isWord rfl rfl rfl zd_X3_isWord ⟨Nat.le_of_ble_eq_true rfl, Nat.le_of_ble_eq_true rfl⟩) ⟨ax_blind (fun _ _ _ _ hq => sxc_W_same _ _ _ _ (hq)), zr_3 (zp_K hK) (zp_P1 hP) (q0 := 0) rfl, ax_preE (zp_P1 hP) (zp_K hK) (zp_D1 hD) (fun U hU hW => sxc_W_to (sxc_T_w hE0 (i := 2) (by decide)) hS.2.1 (zp_F1 hD hS hA) hU hW)⟩ rfl rfl hl.1 rfl (lv_room (Nat.le_of_ble_eq_true rfl)) dX3_readLine_44 ⟨Nat.le_of_ble_eq_true rfl, Nat.le_of_ble_eq_true rfl⟩) hS (fun q _ h => zp_F1 hD hS hA q h) (zp_F1 hD hS hA) (fun r44 u t H locs ht hvm hw hB hz1 hk1 hS1 => zo1 hB ht hP hD hk1 (zp_F1 hD hS hA) hS1 (fun hP hK1 hD hS => ?_))
      obtain ⟨hw, hfr44⟩ := hw
      rw [show ((6 : Nat) : Int) = 6 from rfl] at hfr44
      have hc44 : Ff_X3_isWord a0_10.toInt a0_11.toInt 6 (fl_A (sxc 2)) = r44.toInt := hfr44.symm
      have hF0 := hF0.trans (fl_lt_eq hc44.symm)
      rcases hw with hw | hw
      · obtain ⟨hw, h44_0, h44_1⟩ := hw
        subst hw
        have l44k0_a0_10 : (1 : Int) ≤ a0_10.toInt := h44_0
        have u44k0_a0_10 : a0_10.toInt ≤ (1 : Int) := h44_1
        have hF0 := hF0.trans (if_pos (by decide))
        refine lv_if_ne (tgt := 74) hx hb dX3_readLine_47 (by decide) (fun _ => ?_) (fun c47 => absurd c47 (by decide +kernel))
        exact (hK0 _ _ _).mp (J74  _ _ _   hF0 hP hD hS (lv_sub hl [0] rfl))
      · subst hw
        have hF0 := hF0.trans (if_neg (by decide))
        refine lv_if_ne (tgt := 74) hx hb dX3_readLine_47 (by decide) (fun c47 => absurd (by decide +kernel) c47) (fun _ => ?_)
        refine lv_aload_n hx hb dX3_readLine_50 rfl (lv_at hl 0 rfl) ?_
        refine va_ldcS hx hb hown (sxc_R3 hE0) dX3_readLine_51 ?_
        refine va_calli (va_runV (As := [.ref (ad 3)]) (rest := []) ⟨hx, hb, hml, hown, hts⟩ (f_X3_isWord l dC dI H.size a0 (ad 3) a0g_0 (.int a0_1) (.int a0_2) (.ref a0_3) (.ref a0_4) (.ref a0_5) (.int a0_6) (.int a0_7) (.int a0_8) (.int a0_9) (.int a0_12) (.int a0_13) a0_10 a0_11 7 (sxc 3) ba0_10_l ba0_10_u) (cwV 1 hts gX3_readLine_X3_isWord rfl rfl rfl zd_X3_isWord ⟨Nat.le_of_ble_eq_true rfl, Nat.le_of_ble_eq_true rfl⟩) ⟨ax_blind (fun _ _ _ _ hq => sxc_W_same _ _ _ _ (hq)), zr_3 (zp_K hK) (zp_P1 hP) (q0 := 0) rfl, ax_preE (zp_P1 hP) (zp_K hK) (zp_D1 hD) (fun U hU hW => sxc_W_to (sxc_T_w hE0 (i := 3) (by decide)) hS.2.1 (zp_F1 hD hS hA) hU hW)⟩ rfl rfl hl.1 rfl (lv_room (Nat.le_of_ble_eq_true rfl)) dX3_readLine_53 ⟨Nat.le_of_ble_eq_true rfl, Nat.le_of_ble_eq_true rfl⟩) hS (fun q _ h => zp_F1 hD hS hA q h) (zp_F1 hD hS hA) (fun r53 u t H locs ht hvm hw hB hz1 hk1 hS1 => zo1 hB ht hP hD hk1 (zp_F1 hD hS hA) hS1 (fun hP hK1 hD hS => ?_))
        obtain ⟨hw, hfr53⟩ := hw
        rw [show ((7 : Nat) : Int) = 7 from rfl] at hfr53
        have hc53 : Ff_X3_isWord a0_10.toInt a0_11.toInt 7 (fl_A (sxc 3)) = r53.toInt := hfr53.symm
        have hF0 := hF0.trans (fl_lt_eq hc53.symm)
        rcases hw with hw | hw
        · obtain ⟨hw, h53_0, h53_1⟩ := hw
          subst hw
          have l53k0_a0_10 : (1 : Int) ≤ a0_10.toInt := h53_0
          have u53k0_a0_10 : a0_10.toInt ≤ (1 : Int) := h53_1
          have hF0 := hF0.trans (if_pos (by decide))
          refine lv_if_ne (tgt := 74) hx hb dX3_readLine_56 (by decide) (fun _ => ?_) (fun c56 => absurd c56 (by decide +kernel))
          exact (hK0 _ _ _).mp (J74  _ _ _   hF0 hP hD hS (lv_sub hl [0] rfl))
        · subst hw
          have hF0 := hF0.trans (if_neg (by decide))
          refine lv_if_ne (tgt := 74) hx hb dX3_readLine_56 (by decide) (fun c56 => absurd (by decide +kernel) c56) (fun _ => ?_)
          refine lv_aload_n hx hb dX3_readLine_59 rfl (lv_at hl 0 rfl) ?_
          refine va_ldcS hx hb hown (sxc_R4 hE0) dX3_readLine_60 ?_
          refine va_calli (va_runV (As := [.ref (ad 4)]) (rest := []) ⟨hx, hb, hml, hown, hts⟩ (f_X3_isWord l dC dI H.size a0 (ad 4) a0g_0 (.int a0_1) (.int a0_2) (.ref a0_3) (.ref a0_4) (.ref a0_5) (.int a0_6) (.int a0_7) (.int a0_8) (.int a0_9) (.int a0_12) (.int a0_13) a0_10 a0_11 4 (sxc 4) ba0_10_l ba0_10_u) (cwV 1 hts gX3_readLine_X3_isWord rfl rfl rfl zd_X3_isWord ⟨Nat.le_of_ble_eq_true rfl, Nat.le_of_ble_eq_true rfl⟩) ⟨ax_blind (fun _ _ _ _ hq => sxc_W_same _ _ _ _ (hq)), zr_3 (zp_K hK) (zp_P1 hP) (q0 := 0) rfl, ax_preE (zp_P1 hP) (zp_K hK) (zp_D1 hD) (fun U hU hW => sxc_W_to (sxc_T_w hE0 (i := 4) (by decide)) hS.2.1 (zp_F1 hD hS hA) hU hW)⟩ rfl rfl hl.1 rfl (lv_room (Nat.le_of_ble_eq_true rfl)) dX3_readLine_62 ⟨Nat.le_of_ble_eq_true rfl, Nat.le_of_ble_eq_true rfl⟩) hS (fun q _ h => zp_F1 hD hS hA q h) (zp_F1 hD hS hA) (fun r62 u t H locs ht hvm hw hB hz1 hk1 hS1 => zo1 hB ht hP hD hk1 (zp_F1 hD hS hA) hS1 (fun hP hK1 hD hS => ?_))
          obtain ⟨hw, hfr62⟩ := hw
          rw [show ((4 : Nat) : Int) = 4 from rfl] at hfr62
          have hc62 : Ff_X3_isWord a0_10.toInt a0_11.toInt 4 (fl_A (sxc 4)) = r62.toInt := hfr62.symm
          have hF0 := hF0.trans (fl_lt_eq hc62.symm)
          rcases hw with hw | hw
          · obtain ⟨hw, h62_0, h62_1⟩ := hw
            subst hw
            have l62k0_a0_10 : (1 : Int) ≤ a0_10.toInt := h62_0
            have u62k0_a0_10 : a0_10.toInt ≤ (1 : Int) := h62_1
            have hF0 := hF0.trans (if_pos (by decide))
            refine lv_if_ne (tgt := 74) hx hb dX3_readLine_65 (by decide) (fun _ => ?_) (fun c65 => absurd c65 (by decide +kernel))
            exact (hK0 _ _ _).mp (J74  _ _ _   hF0 hP hD hS (lv_sub hl [0] rfl))
          · subst hw
            have hF0 := hF0.trans (if_neg (by decide))
            refine lv_if_ne (tgt := 74) hx hb dX3_readLine_65 (by decide) (fun c65 => absurd (by decide +kernel) c65) (fun _ => ?_)
            refine lv_aload_n hx hb dX3_readLine_68 rfl (lv_at hl 0 rfl) ?_
            refine lv_iconst (v := 1) hx hb dX3_readLine_69 zk_iconst_1 ?_
            refine va_calli (va_runV (As := [.int 1]) (rest := []) ⟨hx, hb, hml, hown, hts⟩ (f_X3_fails l dC dI H.size a0 1 a0g_0 (.ref a0_3) (.ref a0_4) (.ref a0_5) (.int a0_6) (.int a0_7) (.int a0_9) (.int a0_10) (.long a0_11) (.int a0_12) (.int a0_13) a0_1 a0_2 a0_8 ba0_8_l ba0_8_u) (cwV 1 hts gX3_readLine_X3_fails rfl rfl rfl zd_X3_fails ⟨Nat.le_of_ble_eq_true rfl, Nat.le_of_ble_eq_true rfl⟩) ⟨ax_blind (fun _ _ _ _ _ => trivial), zr_3 (zp_K hK) (zp_P1 hP) (q0 := 0) rfl, ax_pre (zp_P1 hP) (zp_K hK) (zp_D1 hD) (fun _ _ => trivial)⟩ rfl rfl hl.1 rfl (lv_room (Nat.le_of_ble_eq_true rfl)) dX3_readLine_70 ⟨Nat.le_of_ble_eq_true rfl, Nat.le_of_ble_eq_true rfl⟩) hS (fun q _ h => zp_F1 hD hS hA q h) (zp_F1 hD hS hA) (fun r70 u t H locs ht hvm hw => zx_2 (fun v70na0_1 v70na0_2 => zy_1 (fun hraw70_0 hB hz1 hk1 hS1 => zo1 hB ht hP hD hk1 (zp_F1 hD hS hA) hS1 (fun hP hK1 hD hS => ?_))))
            obtain ⟨hw, hfr70⟩ := hw
            rw [show (1 : Int32).toInt = 1 from by decide] at hfr70 hraw70_0
            have hc70 : Ff_X3_fails 1 a0_8.toInt = (r70.toInt, v70na0_1.toInt, v70na0_2.toInt) := Prod.ext hfr70.symm hraw70_0
            have hF0 := hF0.trans (fl_c3_eq hc70)
            have hw : r70 = 0 := hw
            have hw := hw.symm
            subst hw
            have hFe : FX = (0, v70na0_1.toInt, v70na0_2.toInt, a0_6.toInt, a0_8.toInt, a0_9.toInt, a0_10.toInt, a0_11.toInt, a0_12.toInt, a0_13.toInt, a0_5_0.toInt, a0_5_1.toInt, a0_5_2.toInt, a0_5_3.toInt, a0_5_4.toInt, a0_5_5.toInt, a0_5_6.toInt, a0_5_7.toInt, a0_5_8.toInt, a0_5_9.toInt, (fl_L fa0_4), (fl_A fa0_5_10), (fl_A fa0_5_11), a0_5_14_0.toInt, (fl_A fa0_5_14_2), (fl_A fa0_5_14_3), (fl_A fa0_5_13), (fl_A fa0_5_12)) := hF0
            exact W.zret (v := 0) hx hb hr rfl (fun t ht hW => ⟨⟨0, (), rfl, ⟨(Or.inr (rfl)), (congrArg Prod.fst hFe).symm⟩, v70na0_1, v70na0_2, a0_6, a0_8, a0_9, a0_10, a0_11, a0_12, a0_13, a0_5_0, a0_5_1, a0_5_2, a0_5_3, a0_5_4, a0_5_5, a0_5_6, a0_5_7, a0_5_8, a0_5_9, fa0_4, fa0_5_10, fa0_5_11, a0_5_14_0, fa0_5_14_2, fa0_5_14_3, fa0_5_13, fa0_5_12, ⟨ba0_6_l, ba0_6_u⟩, ⟨ba0_8_l, ba0_8_u⟩, ⟨ba0_9_l, ba0_9_u⟩, ⟨ba0_10_l, ba0_10_u⟩, ⟨ba0_5_0_l, ba0_5_0_u⟩, ⟨ba0_5_4_l, ba0_5_4_u⟩, ⟨ba0_5_5_l, ba0_5_5_u⟩, ⟨ba0_5_6_l, ba0_5_6_u⟩, ⟨ba0_5_7_l, ba0_5_7_u⟩, ⟨ba0_5_9_l, ba0_5_9_u⟩, ⟨ba0_5_14_0_l, ba0_5_14_0_u⟩, bfa0_5_14_2, bfa0_5_14_3, bfa0_5_13, (congrArg Prod.snd hFe), by rw [ht]; exact hP, va_K.moved hW.alike hK, hD⟩, hS.F ht⟩) hS.2.2 dX3_readLine_73
end P311_03_f
section P311_04_f
set_option maxHeartbeats 4000000 in
set_option maxRecDepth 100000 in
theorem f_X3_read (l : Launch) (dC : Nat → ClassId) (dI : Nat → Nat → Nat) (sz : Nat) (a0 : Nat) (a1 : Int32) (a0_0 : Int32) (a0_1 : Int32) (a0_2 : Int32) (a0_3 : Nat) (a0_4 : Nat) (a0_5 : Nat) (a0_6 : Int32) (a0_7 : Int32) (a0_8 : Int32) (a0_9 : Int32) (a0_10 : Int32) (a0_11 : Int64) (a0_12 : Int32) (a0_13 : Int32) (a0_5_0 : Int32) (a0_5_1 : Int32) (a0_5_2 : Int32) (a0_5_3 : Int32) (a0_5_4 : Int32) (a0_5_5 : Int32) (a0_5_6 : Int32) (a0_5_7 : Int32) (a0_5_8 : Int32) (a0_5_9 : Int32) (a0_5_10 : Nat) (a0_5_11 : Nat) (a0_5_12 : Nat) (a0_5_13 : Nat) (a0_5_14 : Nat) (a0_5_14_0 : Int32) (a0_5_14g_1 : Value) (a0_5_14_2 : Nat) (a0_5_14_3 : Nat) (ka0_5_10 : ClassId) (fa0_5_10 : Nat → Int32) (ka0_5_11 : ClassId) (fa0_5_11 : Nat → Int32) (ka0_3 : ClassId) (fa0_3 : Nat → Int32) (ka0_4 : ClassId) (fa0_4 : Nat → Int64) (ka0_5_14_2 : ClassId) (fa0_5_14_2 : Nat → Int32) (ka0_5_14_3 : ClassId) (fa0_5_14_3 : Nat → Int32) (ka0_5_13 : ClassId) (fa0_5_13 : Nat → Int32) (ka0_5_12 : ClassId) (fa0_5_12 : Nat → Int32) (ad : Nat → Nat) (ba1_l : (0 : Int) ≤ a1.toInt) (ba1_u : a1.toInt ≤ (900 : Int)) (ba0_0_l : (0 : Int) ≤ a0_0.toInt) (ba0_0_u : a0_0.toInt ≤ (900 : Int)) (ba0_6_l : (0 : Int) ≤ a0_6.toInt) (ba0_6_u : a0_6.toInt ≤ (12 : Int)) (ba0_7_l : (0 : Int) ≤ a0_7.toInt) (ba0_7_u : a0_7.toInt ≤ (900 : Int)) (ba0_8_l : (0 : Int) ≤ a0_8.toInt) (ba0_8_u : a0_8.toInt ≤ (900 : Int)) (ba0_9_l : (0 : Int) ≤ a0_9.toInt) (ba0_9_u : a0_9.toInt ≤ (900 : Int)) (ba0_10_l : (0 : Int) ≤ a0_10.toInt) (ba0_10_u : a0_10.toInt ≤ (4 : Int)) (ba0_5_0_l : (0 : Int) ≤ a0_5_0.toInt) (ba0_5_0_u : a0_5_0.toInt ≤ (9 : Int)) (ba0_5_4_l : (0 : Int) ≤ a0_5_4.toInt) (ba0_5_4_u : a0_5_4.toInt ≤ (1 : Int)) (ba0_5_5_l : (0 : Int) ≤ a0_5_5.toInt) (ba0_5_5_u : a0_5_5.toInt ≤ (8 : Int)) (ba0_5_6_l : (0 : Int) ≤ a0_5_6.toInt) (ba0_5_6_u : a0_5_6.toInt ≤ (8 : Int)) (ba0_5_7_l : (0 : Int) ≤ a0_5_7.toInt) (ba0_5_7_u : a0_5_7.toInt ≤ (8 : Int)) (ba0_5_9_l : (0 : Int) ≤ a0_5_9.toInt) (ba0_5_9_u : a0_5_9.toInt ≤ (6 : Int)) (ba0_5_14_0_l : (0 : Int) ≤ a0_5_14_0.toInt) (ba0_5_14_0_u : a0_5_14_0.toInt ≤ (3 : Int)) (bfa0_5_14_2 : (∀ k, (0 : Int) ≤ (fa0_5_14_2 k).toInt ∧ (fa0_5_14_2 k).toInt ≤ 80)) (bfa0_5_14_3 : (∀ k, (0 : Int) ≤ (fa0_5_14_3 k).toInt ∧ (fa0_5_14_3 k).toInt ≤ 80)) (bfa0_5_13 : (∀ k, (0 : Int) ≤ (fa0_5_13 k).toInt ∧ (fa0_5_13 k).toInt ≤ 999)) : zm l yX3_read wsX3_read ({ frames := 8, cells := 0, slots := 0, locals := 174 }) [.ref a0, .int a1] dC dI sz [(a0, .inr (3, [.int a0_0, .int a0_1, .int a0_2, .ref a0_3, .ref a0_4, .ref a0_5, .int a0_6, .int a0_7, .int a0_8, .int a0_9, .int a0_10, .long a0_11, .int a0_12, .int a0_13])), (a0_5, .inr (0, [.int a0_5_0, .int a0_5_1, .int a0_5_2, .int a0_5_3, .int a0_5_4, .int a0_5_5, .int a0_5_6, .int a0_5_7, .int a0_5_8, .int a0_5_9, .ref a0_5_10, .ref a0_5_11, .ref a0_5_12, .ref a0_5_13, .ref a0_5_14])), (a0_5_14, .inr (6, [.int a0_5_14_0, a0_5_14g_1, .ref a0_5_14_2, .ref a0_5_14_3])), (a0_5_10, .inl (ka0_5_10, 9, .inl (fa0_5_10))), (a0_5_11, .inl (ka0_5_11, 9, .inl (fa0_5_11))), (a0_3, .inl (ka0_3, 900, .inl (fa0_3))), (a0_4, .inl (ka0_4, 12, .inr (.inl (fa0_4)))), (a0_5_14_2, .inl (ka0_5_14_2, 3, .inl (fa0_5_14_2))), (a0_5_14_3, .inl (ka0_5_14_3, 3, .inl (fa0_5_14_3))), (a0_5_13, .inl (ka0_5_13, 6, .inl (fa0_5_13))), (a0_5_12, .inl (ka0_5_12, 6, .inl (fa0_5_12)))] [(ka0_5_10, .int), (ka0_5_11, .int), (ka0_3, .byte), (ka0_4, .long), (ka0_5_14_2, .int), (ka0_5_14_3, .int), (ka0_5_13, .int), (ka0_5_12, .int)] (fun A U => sxc_T ad A U ∧ va_Nw (.methodLinkNest RX3 223 yX7_within RX7) U ∧ va_Nw (.methodLinkNest RX3 196 yX7_hasBit RX7) U) (fun A => va_Qi (fun (r : Int32) (_ : Unit) => ((r = 1) ∨ (r = 0)) ∧ r.toInt = (Ff_X3_read a1.toInt a0_0.toInt a0_11.toInt a0_12.toInt a0_13.toInt a0_5_1.toInt a0_5_2.toInt a0_5_3.toInt a0_5_5.toInt a0_5_6.toInt a0_5_7.toInt (fl_A fa0_5_10) (fl_A fa0_5_11) (fl_A fa0_3) (fl_L fa0_4) (fl_A fa0_5_14_2) (fl_A fa0_5_14_3) (fl_A fa0_5_13) (fl_A fa0_5_12)).1) (fun (_ : Unit) (t : State) => ∃ na0_1 : Int32, ∃ na0_2 : Int32, ∃ na0_6 : Int32, ∃ na0_7 : Int32, ∃ na0_8 : Int32, ∃ na0_9 : Int32, ∃ na0_10 : Int32, ∃ na0_11 : Int64, ∃ na0_12 : Int32, ∃ na0_13 : Int32, ∃ na0_5_0 : Int32, ∃ na0_5_1 : Int32, ∃ na0_5_2 : Int32, ∃ na0_5_3 : Int32, ∃ na0_5_4 : Int32, ∃ na0_5_5 : Int32, ∃ na0_5_6 : Int32, ∃ na0_5_7 : Int32, ∃ na0_5_8 : Int32, ∃ na0_5_9 : Int32, ∃ na0_5_14_0 : Int32, ∃ nfa0_5_10 : Nat → Int32, ∃ nfa0_5_11 : Nat → Int32, ∃ nfa0_4 : Nat → Int64, ∃ nfa0_5_14_2 : Nat → Int32, ∃ nfa0_5_14_3 : Nat → Int32, ∃ nfa0_5_13 : Nat → Int32, ∃ nfa0_5_12 : Nat → Int32, ((0 : Int) ≤ na0_6.toInt ∧ na0_6.toInt ≤ 12) ∧ ((0 : Int) ≤ na0_7.toInt ∧ na0_7.toInt ≤ 900) ∧ ((0 : Int) ≤ na0_8.toInt ∧ na0_8.toInt ≤ 900) ∧ ((0 : Int) ≤ na0_9.toInt ∧ na0_9.toInt ≤ 900) ∧ ((0 : Int) ≤ na0_10.toInt ∧ na0_10.toInt ≤ 4) ∧ ((0 : Int) ≤ na0_5_0.toInt ∧ na0_5_0.toInt ≤ 9) ∧ ((0 : Int) ≤ na0_5_4.toInt ∧ na0_5_4.toInt ≤ 1) ∧ ((0 : Int) ≤ na0_5_5.toInt ∧ na0_5_5.toInt ≤ 8) ∧ ((0 : Int) ≤ na0_5_6.toInt ∧ na0_5_6.toInt ≤ 8) ∧ ((0 : Int) ≤ na0_5_7.toInt ∧ na0_5_7.toInt ≤ 8) ∧ ((0 : Int) ≤ na0_5_9.toInt ∧ na0_5_9.toInt ≤ 6) ∧ ((0 : Int) ≤ na0_5_14_0.toInt ∧ na0_5_14_0.toInt ≤ 3) ∧ (∀ k, (0 : Int) ≤ (nfa0_5_14_2 k).toInt ∧ (nfa0_5_14_2 k).toInt ≤ 80) ∧ (∀ k, (0 : Int) ≤ (nfa0_5_14_3 k).toInt ∧ (nfa0_5_14_3 k).toInt ≤ 80) ∧ (∀ k, (0 : Int) ≤ (nfa0_5_13 k).toInt ∧ (nfa0_5_13 k).toInt ≤ 999) ∧ ((Ff_X3_read a1.toInt a0_0.toInt a0_11.toInt a0_12.toInt a0_13.toInt a0_5_1.toInt a0_5_2.toInt a0_5_3.toInt a0_5_5.toInt a0_5_6.toInt a0_5_7.toInt (fl_A fa0_5_10) (fl_A fa0_5_11) (fl_A fa0_3) (fl_L fa0_4) (fl_A fa0_5_14_2) (fl_A fa0_5_14_3) (fl_A fa0_5_13) (fl_A fa0_5_12)).2 = (na0_1.toInt, na0_2.toInt, na0_6.toInt, na0_7.toInt, na0_8.toInt, na0_9.toInt, na0_10.toInt, na0_11.toInt, na0_12.toInt, na0_13.toInt, na0_5_0.toInt, na0_5_1.toInt, na0_5_2.toInt, na0_5_3.toInt, na0_5_4.toInt, na0_5_5.toInt, na0_5_6.toInt, na0_5_7.toInt, na0_5_8.toInt, na0_5_9.toInt, na0_5_14_0.toInt, (fl_A nfa0_5_10), (fl_A nfa0_5_11), (fl_L nfa0_4), (fl_A nfa0_5_14_2), (fl_A nfa0_5_14_3), (fl_A nfa0_5_13), (fl_A nfa0_5_12))) ∧ ax_B dC dI A [(a0, .inr (3, [.int 0, .int na0_1, .int na0_2, .ref a0_3, .ref a0_4, .ref a0_5, .int na0_6, .int na0_7, .int na0_8, .int na0_9, .int na0_10, .long na0_11, .int na0_12, .int na0_13])), (a0_5, .inr (0, [.int na0_5_0, .int na0_5_1, .int na0_5_2, .int na0_5_3, .int na0_5_4, .int na0_5_5, .int na0_5_6, .int na0_5_7, .int na0_5_8, .int na0_5_9, .ref a0_5_10, .ref a0_5_11, .ref a0_5_12, .ref a0_5_13, .ref a0_5_14])), (a0_5_14, .inr (6, [.int na0_5_14_0, a0_5_14g_1, .ref a0_5_14_2, .ref a0_5_14_3])), (a0_5_10, .inl (ka0_5_10, 9, .inl (nfa0_5_10))), (a0_5_11, .inl (ka0_5_11, 9, .inl (nfa0_5_11))), (a0_3, .inl (ka0_3, 900, .inl (fa0_3))), (a0_4, .inl (ka0_4, 12, .inr (.inl (nfa0_4)))), (a0_5_14_2, .inl (ka0_5_14_2, 3, .inl (nfa0_5_14_2))), (a0_5_14_3, .inl (ka0_5_14_3, 3, .inl (nfa0_5_14_3))), (a0_5_13, .inl (ka0_5_13, 6, .inl (nfa0_5_13))), (a0_5_12, .inl (ka0_5_12, 6, .inl (nfa0_5_12)))] [(ka0_5_10, .int), (ka0_5_11, .int), (ka0_3, .byte), (ka0_4, .long), (ka0_5_14_2, .int), (ka0_5_14_3, .int), (ka0_5_13, .int), (ka0_5_12, .int)] t) A) := by
  refine zh (cc := cX3_read) (maxL := 4) (ret := (some .boolean)) zn_RX3 rfl (Nat.le_of_ble_eq_true rfl) (fun p e s m below meth c A ls hx hb hml hr hts (hown : s.vm.findClass RX3 = some m.cls) hlocks hA hS hP hK hD hE (hl : lv_has ls 4 [(0, .ref a0), (1, .int a1)]) => ?_)
  obtain ⟨hE0, hE1, hE2⟩ := hE
  generalize hFX : Ff_X3_read a1.toInt a0_0.toInt a0_11.toInt a0_12.toInt a0_13.toInt a0_5_1.toInt a0_5_2.toInt a0_5_3.toInt a0_5_5.toInt a0_5_6.toInt a0_5_7.toInt (fl_A fa0_5_10) (fl_A fa0_5_11) (fl_A fa0_3) (fl_L fa0_4) (fl_A fa0_5_14_2) (fl_A fa0_5_14_3) (fl_A fa0_5_13) (fl_A fa0_5_12) = FX at ⊢
  have hF0 := hFX.symm.trans (Ff_X3_read.eq_1 a1.toInt a0_0.toInt a0_11.toInt a0_12.toInt a0_13.toInt a0_5_1.toInt a0_5_2.toInt a0_5_3.toInt a0_5_5.toInt a0_5_6.toInt a0_5_7.toInt (fl_A fa0_5_10) (fl_A fa0_5_11) (fl_A fa0_3) (fl_L fa0_4) (fl_A fa0_5_14_2) (fl_A fa0_5_14_3) (fl_A fa0_5_13) (fl_A fa0_5_12))
  refine ai_open (fun K hK0 => ?_)
  refine (hK0 _ _ _).mpr ?_
  refine lv_aload_n hx hb dX3_read_0 rfl (lv_at hl 0 rfl) ?_
  refine lv_iload_n hx hb dX3_read_1 rfl (lv_at hl 1 rfl) ?_
  refine lv_aload_n hx hb dX3_read_2 rfl (lv_at hl 0 rfl) ?_
  refine va_get (D := (dC, dI)) (ci := 3) (v := .int a0_0) (C := RX3) (T := TX3) (N := 14) hx hb hts zi_X3_read_3 hown hK hP 0 rfl rfl 0 (by decide) (hts (.fieldLink RX3 26 "WaxTurns$Reade\x72" "tapeSize" "I") (zm_X3_read_r1 (List.mem_of_getElem? (i := 0) rfl))) (fun _ h9 => h9) rfl dX3_read_3 ?_
  refine va_mmin hx hb (by rw [hml]; exact hl.1.symm) hown (hts (.methodLink RX3 30 Lib.Math.min.name) (zm_X3_read_r1 (List.mem_of_getElem? (i := 1) rfl))) (hts (.static Lib.Math.min.name) (zm_X3_read_r1 (List.mem_of_getElem? (i := 2) rfl))) (hts (.initialized "java/lang/Math") (zm_X3_read_r1 (List.mem_of_getElem? (i := 3) rfl))) (hts _ mnX3_read) (Nat.le_of_ble_eq_true rfl) (Nat.le_of_ble_eq_true rfl) (Nat.le_of_ble_eq_true rfl) (Nat.le_of_ble_eq_true rfl) dX3_read_6 ?_
  refine lv_topi (fun x6 ex6 => ?_)
  have qx6 := ai_mmin ex6
  have bx6 : (0 : Int) ≤ x6.toInt ∧ x6.toInt ≤ 900 := by have h1 := ba1_l; have h2 := ba0_0_l; have h3 := ba1_u; have h4 := ba0_0_u; omega
  have fqx6 := fl_min_eq ex6
  have hF0 := hF0.trans (fl_lt_eq (show x6.toInt = fl_min a1.toInt a0_0.toInt from fqx6))
  refine va_put (D := (dC, dI)) (ci := 3) (v := .int x6) (ty := .int) (C := RX3) (T := TX3) (N := 14) hx hb hts zi_X3_read_3 tyX3 tyX3_ok nmX3 hown hK hP hD hS 0 rfl rfl 7 (by decide) (hts (.fieldLink RX3 36 "WaxTurns$Reade\x72" "end" "I") (zm_X3_read_r1 (List.mem_of_getElem? (i := 5) rfl))) (fun _ h9 => h9) rfl (tyX3_ok 7 (by decide)) rfl rfl (Nat.le_of_ble_eq_true rfl) dX3_read_9 (fun H locs hP hD hS => ?_)
  refine zs_0 (y := (a0, .inr (3, [.int a0_0, .int a0_1, .int a0_2, .ref a0_3, .ref a0_4, .ref a0_5, .int a0_6, .int x6, .int a0_8, .int a0_9, .int a0_10, .long a0_11, .int a0_12, .int a0_13]))) hP hD rfl (fun hP hD => ?_)
  refine lv_aload_n hx hb dX3_read_12 rfl (lv_at hl 0 rfl) ?_
  refine lv_iconst (v := 0) hx hb dX3_read_13 zk_iconst_0 ?_
  refine va_put (D := (dC, dI)) (ci := 3) (v := .int 0) (ty := .int) (C := RX3) (T := TX3) (N := 14) hx hb hts zi_X3_read_3 tyX3 tyX3_ok nmX3 hown hK hP hD hS 0 rfl rfl 0 (by decide) (hts (.fieldLink RX3 26 "WaxTurns$Reade\x72" "tapeSize" "I") (zm_X3_read_r1 (List.mem_of_getElem? (i := 0) rfl))) (fun _ h9 => h9) rfl (tyX3_ok 0 (by decide)) rfl rfl (Nat.le_of_ble_eq_true rfl) dX3_read_14 (fun H locs hP hD hS => ?_)
  refine zs_0 (y := (a0, .inr (3, [.int 0, .int a0_1, .int a0_2, .ref a0_3, .ref a0_4, .ref a0_5, .int a0_6, .int x6, .int a0_8, .int a0_9, .int a0_10, .long a0_11, .int a0_12, .int a0_13]))) hP hD rfl (fun hP hD => ?_)
  refine lv_aload_n hx hb dX3_read_17 rfl (lv_at hl 0 rfl) ?_
  refine va_get (D := (dC, dI)) (ci := 3) (v := .ref a0_5) (C := RX3) (T := TX3) (N := 14) hx hb hts zi_X3_read_3 hown hK hP 0 rfl rfl 5 (by decide) (hts (.fieldLink RX3 22 "WaxTurns$Reade\x72" "draft" "LWaxTurns$Hall;") (zm_X3_read_r1 (List.mem_of_getElem? (i := 6) rfl))) (fun _ h9 => h9) rfl dX3_read_18 ?_
  refine zc_cutc (wc := [(a0_5, .inr (0, [.int a0_5_0, .int a0_5_1, .int a0_5_2, .int a0_5_3, .int a0_5_4, .int a0_5_5, .int a0_5_6, .int a0_5_7, .int a0_5_8, .int a0_5_9, .ref a0_5_10, .ref a0_5_11, .ref a0_5_12, .ref a0_5_13, .ref a0_5_14])), (a0_5_14, .inr (6, [.int a0_5_14_0, a0_5_14g_1, .ref a0_5_14_2, .ref a0_5_14_3])), (a0_5_10, .inl (ka0_5_10, 9, .inl (fa0_5_10))), (a0_5_11, .inl (ka0_5_11, 9, .inl (fa0_5_11)))]) hP hD hS hA [1, 2, 3, 4] (by decide +kernel) rfl (fun hPc hDc hFc hCc => ?_)
  have hKc := hK.sub (tys' := [(ka0_5_10, .int), (ka0_5_11, .int)]) [0, 1] rfl
  refine va_callv (va_runV (As := []) (rest := []) ⟨hx, hb, hml, hown, hts⟩ (f_X0_clear l dC dI H.size a0_5 a0_5_0 (.int a0_5_1) (.int a0_5_2) (.int a0_5_3) (.int a0_5_5) (.int a0_5_6) (.int a0_5_7) (.ref a0_5_12) (.ref a0_5_13) a0_5_4 a0_5_8 a0_5_9 a0_5_10 a0_5_11 a0_5_14 a0_5_14_0 a0_5_14g_1 (.ref a0_5_14_2) (.ref a0_5_14_3) ka0_5_10 fa0_5_10 ka0_5_11 fa0_5_11 ba0_5_0_l ba0_5_0_u ba0_5_4_l ba0_5_4_u ba0_5_9_l ba0_5_9_u ba0_5_14_0_l ba0_5_14_0_u) (cwV 0 hts gX3_read_X0_clear rfl rfl rfl zd_X0_clear ⟨Nat.le_of_ble_eq_true rfl, Nat.le_of_ble_eq_true rfl⟩) ⟨ax_blind (fun _ _ _ _ _ => trivial), zr_0 hKc hPc (q0 := 0) rfl, ax_pre hPc hKc hDc (fun _ _ => trivial)⟩ rfl rfl hl.1 rfl (lv_room (Nat.le_of_ble_eq_true rfl)) dX3_read_21 ⟨Nat.le_of_ble_eq_true rfl, Nat.le_of_ble_eq_true rfl⟩) hS (fun q _ h => hFc q h) hFc (fun u t H locs ht hvm hw => zx_7 (fun v21na0_0 v21na0_4 v21na0_8 v21na0_9 v21na0_14_0 v21nfa0_10 v21nfa0_11 => zy_5 (fun bv21na0_0 bv21na0_4 bv21na0_9 bv21na0_14_0 hraw21_0 hB hz1 hk1 hS1 => zo hB ht hS1 (fun hP1 hK1 hD1 hS => ?_))))
  refine zc_backc (w := [(a0, .inr (3, [.int 0, .int a0_1, .int a0_2, .ref a0_3, .ref a0_4, .ref a0_5, .int a0_6, .int x6, .int a0_8, .int a0_9, .int a0_10, .long a0_11, .int a0_12, .int a0_13])), (a0_5, .inr (0, [.int v21na0_0, .int a0_5_1, .int a0_5_2, .int a0_5_3, .int v21na0_4, .int a0_5_5, .int a0_5_6, .int a0_5_7, .int v21na0_8, .int v21na0_9, .ref a0_5_10, .ref a0_5_11, .ref a0_5_12, .ref a0_5_13, .ref a0_5_14])), (a0_5_14, .inr (6, [.int v21na0_14_0, a0_5_14g_1, .ref a0_5_14_2, .ref a0_5_14_3])), (a0_5_10, .inl (ka0_5_10, 9, .inl (v21nfa0_10))), (a0_5_11, .inl (ka0_5_11, 9, .inl (v21nfa0_11))), (a0_3, .inl (ka0_3, 900, .inl (fa0_3))), (a0_4, .inl (ka0_4, 12, .inr (.inl (fa0_4)))), (a0_5_14_2, .inl (ka0_5_14_2, 3, .inl (fa0_5_14_2))), (a0_5_14_3, .inl (ka0_5_14_3, 3, .inl (fa0_5_14_3))), (a0_5_13, .inl (ka0_5_13, 6, .inl (fa0_5_13))), (a0_5_12, .inl (ka0_5_12, 6, .inl (fa0_5_12)))]) hP hD hCc hk1 hFc hP1 hD1 [.inl 0, .inr 0, .inr 1, .inr 2, .inr 3, .inl 5, .inl 6, .inl 7, .inl 8, .inl 9, .inl 10] (by decide +kernel) rfl (fun hP hD => ?_)
  have hc21 : Ff_X0_clear (fl_A fa0_5_10) (fl_A fa0_5_11) = (v21na0_0.toInt, v21na0_4.toInt, v21na0_8.toInt, v21na0_9.toInt, v21na0_14_0.toInt, (fl_A v21nfa0_10), (fl_A v21nfa0_11)) := hraw21_0
  have hF0 := hF0.trans (fl_c7_eq hc21)
  refine lv_aload_n hx hb dX3_read_24 rfl (lv_at hl 0 rfl) ?_
  refine lv_iconst (v := 0) hx hb dX3_read_25 zk_iconst_0 ?_
  refine va_put (D := (dC, dI)) (ci := 3) (v := .int 0) (ty := .int) (C := RX3) (T := TX3) (N := 14) hx hb hts zi_X3_read_3 tyX3 tyX3_ok nmX3 hown hK hP hD hS 0 rfl rfl 6 (by decide) (hts (.fieldLink RX3 42 "WaxTurns$Reade\x72" "nameCount" "I") (zm_X3_read_r1 (List.mem_of_getElem? (i := 7) rfl))) (fun _ h9 => h9) rfl (tyX3_ok 6 (by decide)) rfl rfl (Nat.le_of_ble_eq_true rfl) dX3_read_26 (fun H locs hP hD hS => ?_)
  refine zs_0 (y := (a0, .inr (3, [.int 0, .int a0_1, .int a0_2, .ref a0_3, .ref a0_4, .ref a0_5, .int 0, .int x6, .int a0_8, .int a0_9, .int a0_10, .long a0_11, .int a0_12, .int a0_13]))) hP hD rfl (fun hP hD => ?_)
  refine lv_aload_n hx hb dX3_read_29 rfl (lv_at hl 0 rfl) ?_
  refine lv_iconst (v := 0) hx hb dX3_read_30 zk_iconst_0 ?_
  refine va_put (D := (dC, dI)) (ci := 3) (v := .int 0) (ty := .int) (C := RX3) (T := TX3) (N := 14) hx hb hts zi_X3_read_3 tyX3 tyX3_ok nmX3 hown hK hP hD hS 0 rfl rfl 1 (by decide) (hts (.fieldLink RX3 45 "WaxTurns$Reade\x72" "faultNumbe\x72" "I") (zm_X3_read_r1 (List.mem_of_getElem? (i := 8) rfl))) (fun _ h9 => h9) rfl (tyX3_ok 1 (by decide)) rfl rfl (Nat.le_of_ble_eq_true rfl) dX3_read_31 (fun H locs hP hD hS => ?_)
  refine zs_0 (y := (a0, .inr (3, [.int 0, .int 0, .int a0_2, .ref a0_3, .ref a0_4, .ref a0_5, .int 0, .int x6, .int a0_8, .int a0_9, .int a0_10, .long a0_11, .int a0_12, .int a0_13]))) hP hD rfl (fun hP hD => ?_)
  refine lv_aload_n hx hb dX3_read_34 rfl (lv_at hl 0 rfl) ?_
  refine lv_iconst (v := (-1)) hx hb dX3_read_35 zk_iconst_n1 ?_
  refine va_put (D := (dC, dI)) (ci := 3) (v := .int (-1)) (ty := .int) (C := RX3) (T := TX3) (N := 14) hx hb hts zi_X3_read_3 tyX3 tyX3_ok nmX3 hown hK hP hD hS 0 rfl rfl 2 (by decide) (hts (.fieldLink RX3 48 "WaxTurns$Reade\x72" "faultPlace" "I") (zm_X3_read_r1 (List.mem_of_getElem? (i := 9) rfl))) (fun _ h9 => h9) rfl (tyX3_ok 2 (by decide)) rfl rfl (Nat.le_of_ble_eq_true rfl) dX3_read_36 (fun H locs hP hD hS => ?_)
  refine zs_0 (y := (a0, .inr (3, [.int 0, .int 0, .int (-1), .ref a0_3, .ref a0_4, .ref a0_5, .int 0, .int x6, .int a0_8, .int a0_9, .int a0_10, .long a0_11, .int a0_12, .int a0_13]))) hP hD rfl (fun hP hD => ?_)
  refine lv_aload_n hx hb dX3_read_39 rfl (lv_at hl 0 rfl) ?_
  refine lv_iconst (v := 0) hx hb dX3_read_40 zk_iconst_0 ?_
  refine va_put (D := (dC, dI)) (ci := 3) (v := .int 0) (ty := .int) (C := RX3) (T := TX3) (N := 14) hx hb hts zi_X3_read_3 tyX3 tyX3_ok nmX3 hown hK hP hD hS 0 rfl rfl 9 (by decide) (hts (.fieldLink RX3 51 "WaxTurns$Reade\x72" "behind" "I") (zm_X3_read_r1 (List.mem_of_getElem? (i := 10) rfl))) (fun _ h9 => h9) rfl (tyX3_ok 9 (by decide)) rfl rfl (Nat.le_of_ble_eq_true rfl) dX3_read_41 (fun H locs hP hD hS => ?_)
  refine zs_0 (y := (a0, .inr (3, [.int 0, .int 0, .int (-1), .ref a0_3, .ref a0_4, .ref a0_5, .int 0, .int x6, .int a0_8, .int 0, .int a0_10, .long a0_11, .int a0_12, .int a0_13]))) hP hD rfl (fun hP hD => ?_)
  refine lv_aload_n hx hb dX3_read_44 rfl (lv_at hl 0 rfl) ?_
  refine zc_cutc (wc := [(a0, .inr (3, [.int 0, .int 0, .int (-1), .ref a0_3, .ref a0_4, .ref a0_5, .int 0, .int x6, .int a0_8, .int 0, .int a0_10, .long a0_11, .int a0_12, .int a0_13])), (a0_3, .inl (ka0_3, 900, .inl (fa0_3)))]) hP hD hS hA [0, 5] (by decide +kernel) rfl (fun hPc hDc hFc hCc => ?_)
  have hKc := hK.sub (tys' := [(ka0_3, .byte)]) [2] rfl
  refine va_callv (va_runV (As := []) (rest := []) ⟨hx, hb, hml, hown, hts⟩ (f_X3_advance l dC dI H.size a0 (.int 0) (.int 0) (.int (-1)) (.ref a0_4) (.ref a0_5) (.int 0) (.int a0_13) a0_3 x6 a0_8 0 a0_10 a0_11 a0_12 ka0_3 fa0_3 bx6.1 bx6.2 ba0_8_l ba0_8_u zq5 (Int.le_trans zq6 zq40) ba0_10_l ba0_10_u) (cwV 0 hts gX3_read_X3_advance rfl rfl rfl zd_X3_advance ⟨Nat.le_of_ble_eq_true rfl, Nat.le_of_ble_eq_true rfl⟩) ⟨ax_blind (fun _ _ _ _ _ => trivial), zr_3 hKc hPc (q0 := 0) rfl, ax_pre hPc hKc hDc (fun _ _ => trivial)⟩ rfl rfl hl.1 rfl (lv_room (Nat.le_of_ble_eq_true rfl)) dX3_read_45 ⟨Nat.le_of_ble_eq_true rfl, Nat.le_of_ble_eq_true rfl⟩) hS (fun q _ h => hFc q h) hFc (fun u t H locs ht hvm hw => zx_5 (fun v45na0_8 v45na0_9 v45na0_10 v45na0_11 v45na0_12 => zy_4 (fun bv45na0_8 bv45na0_9 bv45na0_10 hraw45_0 hB hz1 hk1 hS1 => zo hB ht hS1 (fun hP1 hK1 hD1 hS => ?_))))
  refine zc_backc (w := [(a0, .inr (3, [.int 0, .int 0, .int (-1), .ref a0_3, .ref a0_4, .ref a0_5, .int 0, .int x6, .int v45na0_8, .int v45na0_9, .int v45na0_10, .long v45na0_11, .int v45na0_12, .int a0_13])), (a0_5, .inr (0, [.int v21na0_0, .int a0_5_1, .int a0_5_2, .int a0_5_3, .int v21na0_4, .int a0_5_5, .int a0_5_6, .int a0_5_7, .int v21na0_8, .int v21na0_9, .ref a0_5_10, .ref a0_5_11, .ref a0_5_12, .ref a0_5_13, .ref a0_5_14])), (a0_5_14, .inr (6, [.int v21na0_14_0, a0_5_14g_1, .ref a0_5_14_2, .ref a0_5_14_3])), (a0_5_10, .inl (ka0_5_10, 9, .inl (v21nfa0_10))), (a0_5_11, .inl (ka0_5_11, 9, .inl (v21nfa0_11))), (a0_3, .inl (ka0_3, 900, .inl (fa0_3))), (a0_4, .inl (ka0_4, 12, .inr (.inl (fa0_4)))), (a0_5_14_2, .inl (ka0_5_14_2, 3, .inl (fa0_5_14_2))), (a0_5_14_3, .inl (ka0_5_14_3, 3, .inl (fa0_5_14_3))), (a0_5_13, .inl (ka0_5_13, 6, .inl (fa0_5_13))), (a0_5_12, .inl (ka0_5_12, 6, .inl (fa0_5_12)))]) hP hD hCc hk1 hFc hP1 hD1 [.inr 0, .inl 1, .inl 2, .inl 3, .inl 4, .inr 1, .inl 6, .inl 7, .inl 8, .inl 9, .inl 10] (by decide +kernel) rfl (fun hP hD => ?_)
  rw [show (0 : Int32).toInt = 0 from by decide] at hraw45_0
  have hc45 : Ff_X3_advance x6.toInt 0 a0_11.toInt a0_12.toInt (fl_A fa0_3) = (v45na0_8.toInt, v45na0_9.toInt, v45na0_10.toInt, v45na0_11.toInt, v45na0_12.toInt) := hraw45_0
  have hF0 := hF0.trans (fl_c5_eq hc45)
  refine lv_aload_n hx hb dX3_read_48 rfl (lv_at hl 0 rfl) ?_
  refine zc_cutc (wc := [(a0, .inr (3, [.int 0, .int 0, .int (-1), .ref a0_3, .ref a0_4, .ref a0_5, .int 0, .int x6, .int v45na0_8, .int v45na0_9, .int v45na0_10, .long v45na0_11, .int v45na0_12, .int a0_13])), (a0_5, .inr (0, [.int v21na0_0, .int a0_5_1, .int a0_5_2, .int a0_5_3, .int v21na0_4, .int a0_5_5, .int a0_5_6, .int a0_5_7, .int v21na0_8, .int v21na0_9, .ref a0_5_10, .ref a0_5_11, .ref a0_5_12, .ref a0_5_13, .ref a0_5_14])), (a0_3, .inl (ka0_3, 900, .inl (fa0_3))), (a0_4, .inl (ka0_4, 12, .inr (.inl (fa0_4)))), (a0_5_10, .inl (ka0_5_10, 9, .inl (v21nfa0_10))), (a0_5_11, .inl (ka0_5_11, 9, .inl (v21nfa0_11))), (a0_5_14, .inr (6, [.int v21na0_14_0, a0_5_14g_1, .ref a0_5_14_2, .ref a0_5_14_3])), (a0_5_14_2, .inl (ka0_5_14_2, 3, .inl (fa0_5_14_2))), (a0_5_14_3, .inl (ka0_5_14_3, 3, .inl (fa0_5_14_3))), (a0_5_13, .inl (ka0_5_13, 6, .inl (fa0_5_13))), (a0_5_12, .inl (ka0_5_12, 6, .inl (fa0_5_12)))]) hP hD hS hA [0, 1, 5, 6, 3, 4, 2, 7, 8, 9, 10] (by decide +kernel) rfl (fun hPc hDc hFc hCc => ?_)
  have hKc := hK.sub (tys' := [(ka0_3, .byte), (ka0_4, .long), (ka0_5_10, .int), (ka0_5_11, .int), (ka0_5_14_2, .int), (ka0_5_14_3, .int), (ka0_5_13, .int), (ka0_5_12, .int)]) [2, 3, 0, 1, 4, 5, 6, 7] rfl
  refine va_calli (va_runV (As := []) (rest := []) ⟨hx, hb, hml, hown, hts⟩ (f_X3_readLine l dC dI H.size a0 (.int 0) 0 (-1) a0_3 a0_4 a0_5 0 x6 v45na0_8 v45na0_9 v45na0_10 v45na0_11 v45na0_12 a0_13 v21na0_0 a0_5_1 a0_5_2 a0_5_3 v21na0_4 a0_5_5 a0_5_6 a0_5_7 v21na0_8 v21na0_9 a0_5_10 a0_5_11 a0_5_12 a0_5_13 a0_5_14 ka0_3 fa0_3 ka0_4 fa0_4 ka0_5_10 v21nfa0_10 ka0_5_11 v21nfa0_11 v21na0_14_0 a0_5_14g_1 a0_5_14_2 a0_5_14_3 ka0_5_14_2 fa0_5_14_2 ka0_5_14_3 fa0_5_14_3 ka0_5_13 fa0_5_13 ka0_5_12 fa0_5_12 ad zq5 (Int.le_trans zq6 zq171) bx6.1 bx6.2 bv45na0_8.1 bv45na0_8.2 bv45na0_9.1 bv45na0_9.2 bv45na0_10.1 bv45na0_10.2 bv21na0_0.1 bv21na0_0.2 bv21na0_4.1 bv21na0_4.2 ba0_5_5_l ba0_5_5_u ba0_5_6_l ba0_5_6_u ba0_5_7_l ba0_5_7_u bv21na0_9.1 bv21na0_9.2 bv21na0_14_0.1 bv21na0_14_0.2 bfa0_5_14_2 bfa0_5_14_3 bfa0_5_13) (cwV 0 hts gX3_read_X3_readLine rfl rfl rfl zd_X3_readLine ⟨Nat.le_of_ble_eq_true rfl, Nat.le_of_ble_eq_true rfl⟩) ⟨ax_blind (fun _ _ _ _ hq => ⟨sxc_T_same _ _ _ _ (hq.1), va_Nw.same rfl rfl (hq.2.1), va_Nw.same rfl rfl (hq.2.2)⟩), zr_3 hKc hPc (q0 := 0) rfl, ax_preE hPc hKc hDc (fun U hU hW => ⟨sxc_T_to hE0 hS.2.1 hFc hU hW, va_Nw.warmM hW hE1, va_Nw.warmM hW hE2⟩)⟩ rfl rfl hl.1 rfl (lv_room (Nat.le_of_ble_eq_true rfl)) dX3_read_49 ⟨Nat.le_of_ble_eq_true rfl, Nat.le_of_ble_eq_true rfl⟩) hS (fun q _ h => hFc q h) hFc (fun r49 u t H locs ht hvm hw => zx_27 (fun v49na0_1 v49na0_2 v49na0_6 v49na0_8 v49na0_9 v49na0_10 v49na0_11 v49na0_12 v49na0_13 v49na0_5_0 v49na0_5_1 v49na0_5_2 v49na0_5_3 v49na0_5_4 v49na0_5_5 v49na0_5_6 v49na0_5_7 v49na0_5_8 v49na0_5_9 v49nfa0_4 v49nfa0_5_10 v49nfa0_5_11 v49na0_5_14_0 v49nfa0_5_14_2 v49nfa0_5_14_3 v49nfa0_5_13 v49nfa0_5_12 => zy_15 (fun bv49na0_6 bv49na0_8 bv49na0_9 bv49na0_10 bv49na0_5_0 bv49na0_5_4 bv49na0_5_5 bv49na0_5_6 bv49na0_5_7 bv49na0_5_9 bv49na0_5_14_0 bv49nfa0_5_14_2 bv49nfa0_5_14_3 bv49nfa0_5_13 hraw49_0 hB hz1 hk1 hS1 => zo hB ht hS1 (fun hP1 hK1 hD1 hS => ?_))))
  refine zc_backc (w := [(a0, .inr (3, [.int 0, .int v49na0_1, .int v49na0_2, .ref a0_3, .ref a0_4, .ref a0_5, .int v49na0_6, .int x6, .int v49na0_8, .int v49na0_9, .int v49na0_10, .long v49na0_11, .int v49na0_12, .int v49na0_13])), (a0_5, .inr (0, [.int v49na0_5_0, .int v49na0_5_1, .int v49na0_5_2, .int v49na0_5_3, .int v49na0_5_4, .int v49na0_5_5, .int v49na0_5_6, .int v49na0_5_7, .int v49na0_5_8, .int v49na0_5_9, .ref a0_5_10, .ref a0_5_11, .ref a0_5_12, .ref a0_5_13, .ref a0_5_14])), (a0_5_14, .inr (6, [.int v49na0_5_14_0, a0_5_14g_1, .ref a0_5_14_2, .ref a0_5_14_3])), (a0_5_10, .inl (ka0_5_10, 9, .inl (v49nfa0_5_10))), (a0_5_11, .inl (ka0_5_11, 9, .inl (v49nfa0_5_11))), (a0_3, .inl (ka0_3, 900, .inl (fa0_3))), (a0_4, .inl (ka0_4, 12, .inr (.inl (v49nfa0_4)))), (a0_5_14_2, .inl (ka0_5_14_2, 3, .inl (v49nfa0_5_14_2))), (a0_5_14_3, .inl (ka0_5_14_3, 3, .inl (v49nfa0_5_14_3))), (a0_5_13, .inl (ka0_5_13, 6, .inl (v49nfa0_5_13))), (a0_5_12, .inl (ka0_5_12, 6, .inl (v49nfa0_5_12)))]) hP hD hCc hk1 hFc hP1 hD1 [.inr 0, .inr 1, .inr 6, .inr 4, .inr 5, .inr 2, .inr 3, .inr 7, .inr 8, .inr 9, .inr 10] (by decide +kernel) rfl (fun hP hD => ?_)
  obtain ⟨hw, hfr49⟩ := hw
  rw [show (0 : Int32).toInt = 0 from by decide, show ((-1) : Int32).toInt = (-1) from by decide] at hfr49 hraw49_0
  have hc49 : Ff_X3_readLine 0 (-1) 0 x6.toInt v45na0_8.toInt v45na0_9.toInt v45na0_10.toInt v45na0_11.toInt v45na0_12.toInt a0_13.toInt v21na0_0.toInt a0_5_1.toInt a0_5_2.toInt a0_5_3.toInt v21na0_4.toInt a0_5_5.toInt a0_5_6.toInt a0_5_7.toInt v21na0_8.toInt v21na0_9.toInt (fl_A fa0_3) (fl_L fa0_4) (fl_A v21nfa0_10) (fl_A v21nfa0_11) v21na0_14_0.toInt (fl_A fa0_5_14_2) (fl_A fa0_5_14_3) (fl_A fa0_5_13) (fl_A fa0_5_12) = (r49.toInt, v49na0_1.toInt, v49na0_2.toInt, v49na0_6.toInt, v49na0_8.toInt, v49na0_9.toInt, v49na0_10.toInt, v49na0_11.toInt, v49na0_12.toInt, v49na0_13.toInt, v49na0_5_0.toInt, v49na0_5_1.toInt, v49na0_5_2.toInt, v49na0_5_3.toInt, v49na0_5_4.toInt, v49na0_5_5.toInt, v49na0_5_6.toInt, v49na0_5_7.toInt, v49na0_5_8.toInt, v49na0_5_9.toInt, (fl_L v49nfa0_4), (fl_A v49nfa0_5_10), (fl_A v49nfa0_5_11), v49na0_5_14_0.toInt, (fl_A v49nfa0_5_14_2), (fl_A v49nfa0_5_14_3), (fl_A v49nfa0_5_13), (fl_A v49nfa0_5_12)) := Prod.ext hfr49.symm hraw49_0
  have hF0 := hF0.trans (fl_c28_eq hc49)
  rcases hw with hw | hw
  · subst hw
    have hF0 := hF0.trans (if_pos (by decide))
    refine lv_istore_n (lv' := [(2, .int 1), (0, .ref a0), (1, .int a1)]) hx hb dX3_read_52 rfl hl (by decide) rfl (fun ls hl => ?_)
    refine lv_iconst (v := 1) hx hb dX3_read_53 zk_iconst_1 ?_
    refine lv_istore_n (lv' := [(3, .int 1), (2, .int 1), (0, .ref a0), (1, .int a1)]) hx hb dX3_read_54 rfl hl (by decide) rfl (fun ls hl => ?_)
    have J55 : ∀ (n : Nat) (j55l3 : Int32) (j55l2 : Int32) (j55a0_1 : Int32) (j55a0_2 : Int32) (j55a0_6 : Int32) (j55a0_8 : Int32) (j55a0_9 : Int32) (j55a0_10 : Int32) (j55a0_11 : Int64) (j55a0_12 : Int32) (j55a0_13 : Int32) (j55a0_5_0 : Int32) (j55a0_5_1 : Int32) (j55a0_5_2 : Int32) (j55a0_5_3 : Int32) (j55a0_5_4 : Int32) (j55a0_5_5 : Int32) (j55a0_5_6 : Int32) (j55a0_5_7 : Int32) (j55a0_5_8 : Int32) (j55a0_5_9 : Int32) (j55a0_5_14_0 : Int32) (j55a0_5_10_a : Nat → Int32) (j55a0_5_11_a : Nat → Int32) (j55a0_4_a : Nat → Int64) (j55a0_5_14_2_a : Nat → Int32) (j55a0_5_14_3_a : Nat → Int32) (j55a0_5_13_a : Nat → Int32) (j55a0_5_12_a : Nat → Int32) (H : Heap) (locs : List Loc) (ls : Array Slot), (901 : Int) - j55l3.toInt ≤ (n : Int) → (1 : Int) ≤ j55l3.toInt → j55l3.toInt ≤ (900 : Int) → (0 : Int) ≤ j55l2.toInt → j55l2.toInt ≤ (1 : Int) → (0 : Int) ≤ j55a0_6.toInt → j55a0_6.toInt ≤ (12 : Int) → (0 : Int) ≤ j55a0_8.toInt → j55a0_8.toInt ≤ (900 : Int) → (0 : Int) ≤ j55a0_9.toInt → j55a0_9.toInt ≤ (900 : Int) → (0 : Int) ≤ j55a0_10.toInt → j55a0_10.toInt ≤ (4 : Int) → (0 : Int) ≤ j55a0_5_0.toInt → j55a0_5_0.toInt ≤ (9 : Int) → (0 : Int) ≤ j55a0_5_4.toInt → j55a0_5_4.toInt ≤ (1 : Int) → (0 : Int) ≤ j55a0_5_5.toInt → j55a0_5_5.toInt ≤ (8 : Int) → (0 : Int) ≤ j55a0_5_6.toInt → j55a0_5_6.toInt ≤ (8 : Int) → (0 : Int) ≤ j55a0_5_7.toInt → j55a0_5_7.toInt ≤ (8 : Int) → (0 : Int) ≤ j55a0_5_9.toInt → j55a0_5_9.toInt ≤ (6 : Int) → (0 : Int) ≤ j55a0_5_14_0.toInt → j55a0_5_14_0.toInt ≤ (3 : Int) → (∀ k, (0 : Int) ≤ (j55a0_5_14_2_a k).toInt ∧ (j55a0_5_14_2_a k).toInt ≤ 80) → (∀ k, (0 : Int) ≤ (j55a0_5_14_3_a k).toInt ∧ (j55a0_5_14_3_a k).toInt ≤ 80) → (∀ k, (0 : Int) ≤ (j55a0_5_13_a k).toInt ∧ (j55a0_5_13_a k).toInt ≤ 999) → (FX = fl_wh (fun t9 => Sf_X3_read_55_1 (fl_A fa0_3) x6.toInt t9.1 t9.2.1 t9.2.2.1 t9.2.2.2.1 t9.2.2.2.2.1 t9.2.2.2.2.2.1 t9.2.2.2.2.2.2.1 t9.2.2.2.2.2.2.2.1 t9.2.2.2.2.2.2.2.2.1 t9.2.2.2.2.2.2.2.2.2.1 t9.2.2.2.2.2.2.2.2.2.2.1 t9.2.2.2.2.2.2.2.2.2.2.2.1 t9.2.2.2.2.2.2.2.2.2.2.2.2.1 t9.2.2.2.2.2.2.2.2.2.2.2.2.2.1 t9.2.2.2.2.2.2.2.2.2.2.2.2.2.2.1 t9.2.2.2.2.2.2.2.2.2.2.2.2.2.2.2.1 t9.2.2.2.2.2.2.2.2.2.2.2.2.2.2.2.2.1 t9.2.2.2.2.2.2.2.2.2.2.2.2.2.2.2.2.2.1 t9.2.2.2.2.2.2.2.2.2.2.2.2.2.2.2.2.2.2.1 t9.2.2.2.2.2.2.2.2.2.2.2.2.2.2.2.2.2.2.2.1 t9.2.2.2.2.2.2.2.2.2.2.2.2.2.2.2.2.2.2.2.2.1 t9.2.2.2.2.2.2.2.2.2.2.2.2.2.2.2.2.2.2.2.2.2.1 t9.2.2.2.2.2.2.2.2.2.2.2.2.2.2.2.2.2.2.2.2.2.2.1 t9.2.2.2.2.2.2.2.2.2.2.2.2.2.2.2.2.2.2.2.2.2.2.2.1 t9.2.2.2.2.2.2.2.2.2.2.2.2.2.2.2.2.2.2.2.2.2.2.2.2.1 t9.2.2.2.2.2.2.2.2.2.2.2.2.2.2.2.2.2.2.2.2.2.2.2.2.2.1 t9.2.2.2.2.2.2.2.2.2.2.2.2.2.2.2.2.2.2.2.2.2.2.2.2.2.2.1 t9.2.2.2.2.2.2.2.2.2.2.2.2.2.2.2.2.2.2.2.2.2.2.2.2.2.2.2.1 t9.2.2.2.2.2.2.2.2.2.2.2.2.2.2.2.2.2.2.2.2.2.2.2.2.2.2.2.2) (0, 0, 0, 0, 0, 0, 0, 0, 0, 0, 0, 0, 0, 0, 0, 0, 0, 0, 0, 0, 0, 0, (fun _ => 0), (fun _ => 0), (fun _ => 0), (fun _ => 0), (fun _ => 0), (fun _ => 0), (fun _ => 0)) n (j55l3.toInt, j55l2.toInt, j55a0_1.toInt, j55a0_2.toInt, j55a0_6.toInt, j55a0_8.toInt, j55a0_9.toInt, j55a0_10.toInt, j55a0_11.toInt, j55a0_12.toInt, j55a0_13.toInt, j55a0_5_0.toInt, j55a0_5_1.toInt, j55a0_5_2.toInt, j55a0_5_3.toInt, j55a0_5_4.toInt, j55a0_5_5.toInt, j55a0_5_6.toInt, j55a0_5_7.toInt, j55a0_5_8.toInt, j55a0_5_9.toInt, j55a0_5_14_0.toInt, (fl_A j55a0_5_10_a), (fl_A j55a0_5_11_a), (fl_L j55a0_4_a), (fl_A j55a0_5_14_2_a), (fl_A j55a0_5_14_3_a), (fl_A j55a0_5_13_a), (fl_A j55a0_5_12_a))) → va_P (dC, dI) vwCl [(a0, .inr (3, [.int 0, .int j55a0_1, .int j55a0_2, .ref a0_3, .ref a0_4, .ref a0_5, .int j55a0_6, .int x6, .int j55a0_8, .int j55a0_9, .int j55a0_10, .long j55a0_11, .int j55a0_12, .int j55a0_13])), (a0_5, .inr (0, [.int j55a0_5_0, .int j55a0_5_1, .int j55a0_5_2, .int j55a0_5_3, .int j55a0_5_4, .int j55a0_5_5, .int j55a0_5_6, .int j55a0_5_7, .int j55a0_5_8, .int j55a0_5_9, .ref a0_5_10, .ref a0_5_11, .ref a0_5_12, .ref a0_5_13, .ref a0_5_14])), (a0_5_14, .inr (6, [.int j55a0_5_14_0, a0_5_14g_1, .ref a0_5_14_2, .ref a0_5_14_3])), (a0_5_10, .inl (ka0_5_10, 9, .inl (j55a0_5_10_a))), (a0_5_11, .inl (ka0_5_11, 9, .inl (j55a0_5_11_a))), (a0_3, .inl (ka0_3, 900, .inl (fa0_3))), (a0_4, .inl (ka0_4, 12, .inr (.inl (j55a0_4_a)))), (a0_5_14_2, .inl (ka0_5_14_2, 3, .inl (j55a0_5_14_2_a))), (a0_5_14_3, .inl (ka0_5_14_3, 3, .inl (j55a0_5_14_3_a))), (a0_5_13, .inl (ka0_5_13, 6, .inl (j55a0_5_13_a))), (a0_5_12, .inl (ka0_5_12, 6, .inl (j55a0_5_12_a)))] H → va_D A [(a0, .inr (3, [.int 0, .int j55a0_1, .int j55a0_2, .ref a0_3, .ref a0_4, .ref a0_5, .int j55a0_6, .int x6, .int j55a0_8, .int j55a0_9, .int j55a0_10, .long j55a0_11, .int j55a0_12, .int j55a0_13])), (a0_5, .inr (0, [.int j55a0_5_0, .int j55a0_5_1, .int j55a0_5_2, .int j55a0_5_3, .int j55a0_5_4, .int j55a0_5_5, .int j55a0_5_6, .int j55a0_5_7, .int j55a0_5_8, .int j55a0_5_9, .ref a0_5_10, .ref a0_5_11, .ref a0_5_12, .ref a0_5_13, .ref a0_5_14])), (a0_5_14, .inr (6, [.int j55a0_5_14_0, a0_5_14g_1, .ref a0_5_14_2, .ref a0_5_14_3])), (a0_5_10, .inl (ka0_5_10, 9, .inl (j55a0_5_10_a))), (a0_5_11, .inl (ka0_5_11, 9, .inl (j55a0_5_11_a))), (a0_3, .inl (ka0_3, 900, .inl (fa0_3))), (a0_4, .inl (ka0_4, 12, .inr (.inl (j55a0_4_a)))), (a0_5_14_2, .inl (ka0_5_14_2, 3, .inl (j55a0_5_14_2_a))), (a0_5_14_3, .inl (ka0_5_14_3, 3, .inl (j55a0_5_14_3_a))), (a0_5_13, .inl (ka0_5_13, 6, .inl (j55a0_5_13_a))), (a0_5_12, .inl (ka0_5_12, 6, .inl (j55a0_5_12_a)))] → va_S A s.heap H locs → lv_has ls 4 [(0, .ref a0), (2, .int j55l2), (3, .int j55l3)] → K H locs (F0 m 55 ls []) := by
      intro n
      induction n with
      | zero =>
        intro j55l3 j55l2 j55a0_1 j55a0_2 j55a0_6 j55a0_8 j55a0_9 j55a0_10 j55a0_11 j55a0_12 j55a0_13 j55a0_5_0 j55a0_5_1 j55a0_5_2 j55a0_5_3 j55a0_5_4 j55a0_5_5 j55a0_5_6 j55a0_5_7 j55a0_5_8 j55a0_5_9 j55a0_5_14_0 j55a0_5_10_a j55a0_5_11_a j55a0_4_a j55a0_5_14_2_a j55a0_5_14_3_a j55a0_5_13_a j55a0_5_12_a H locs ls hm bj55l3_l bj55l3_u bj55l2_l bj55l2_u bj55a0_6_l bj55a0_6_u bj55a0_8_l bj55a0_8_u bj55a0_9_l bj55a0_9_u bj55a0_10_l bj55a0_10_u bj55a0_5_0_l bj55a0_5_0_u bj55a0_5_4_l bj55a0_5_4_u bj55a0_5_5_l bj55a0_5_5_u bj55a0_5_6_l bj55a0_5_6_u bj55a0_5_7_l bj55a0_5_7_u bj55a0_5_9_l bj55a0_5_9_u bj55a0_5_14_0_l bj55a0_5_14_0_u bj55a0_5_14_2_a bj55a0_5_14_3_a bj55a0_5_13_a hF0 hP hD hS hl
        first | exact zg_0 hm bj55l3_u (by decide) | (have h8 := ai_min j55l3; have h9 := ai_max j55l3; exact absurd hm (by omega))
      | succ n ih55 =>
        intro j55l3 j55l2 j55a0_1 j55a0_2 j55a0_6 j55a0_8 j55a0_9 j55a0_10 j55a0_11 j55a0_12 j55a0_13 j55a0_5_0 j55a0_5_1 j55a0_5_2 j55a0_5_3 j55a0_5_4 j55a0_5_5 j55a0_5_6 j55a0_5_7 j55a0_5_8 j55a0_5_9 j55a0_5_14_0 j55a0_5_10_a j55a0_5_11_a j55a0_4_a j55a0_5_14_2_a j55a0_5_14_3_a j55a0_5_13_a j55a0_5_12_a H locs ls hm bj55l3_l bj55l3_u bj55l2_l bj55l2_u bj55a0_6_l bj55a0_6_u bj55a0_8_l bj55a0_8_u bj55a0_9_l bj55a0_9_u bj55a0_10_l bj55a0_10_u bj55a0_5_0_l bj55a0_5_0_u bj55a0_5_4_l bj55a0_5_4_u bj55a0_5_5_l bj55a0_5_5_u bj55a0_5_6_l bj55a0_5_6_u bj55a0_5_7_l bj55a0_5_7_u bj55a0_5_9_l bj55a0_5_9_u bj55a0_5_14_0_l bj55a0_5_14_0_u bj55a0_5_14_2_a bj55a0_5_14_3_a bj55a0_5_13_a hF0 hP hD hS hl
        refine (hK0 _ _ _).mpr ?_
        have hm55 := hm
        obtain ⟨SX55, hSX55⟩ : ∃ q9, Sf_X3_read_55_1 (fl_A fa0_3) x6.toInt j55l3.toInt j55l2.toInt j55a0_1.toInt j55a0_2.toInt j55a0_6.toInt j55a0_8.toInt j55a0_9.toInt j55a0_10.toInt j55a0_11.toInt j55a0_12.toInt j55a0_13.toInt j55a0_5_0.toInt j55a0_5_1.toInt j55a0_5_2.toInt j55a0_5_3.toInt j55a0_5_4.toInt j55a0_5_5.toInt j55a0_5_6.toInt j55a0_5_7.toInt j55a0_5_8.toInt j55a0_5_9.toInt j55a0_5_14_0.toInt (fl_A j55a0_5_10_a) (fl_A j55a0_5_11_a) (fl_L j55a0_4_a) (fl_A j55a0_5_14_2_a) (fl_A j55a0_5_14_3_a) (fl_A j55a0_5_13_a) (fl_A j55a0_5_12_a) = q9 := ⟨_, rfl⟩
        have hF1 := hSX55.symm.trans (Sf_X3_read_55_1.eq_1 (fl_A fa0_3) x6.toInt j55l3.toInt j55l2.toInt j55a0_1.toInt j55a0_2.toInt j55a0_6.toInt j55a0_8.toInt j55a0_9.toInt j55a0_10.toInt j55a0_11.toInt j55a0_12.toInt j55a0_13.toInt j55a0_5_0.toInt j55a0_5_1.toInt j55a0_5_2.toInt j55a0_5_3.toInt j55a0_5_4.toInt j55a0_5_5.toInt j55a0_5_6.toInt j55a0_5_7.toInt j55a0_5_8.toInt j55a0_5_9.toInt j55a0_5_14_0.toInt (fl_A j55a0_5_10_a) (fl_A j55a0_5_11_a) (fl_L j55a0_4_a) (fl_A j55a0_5_14_2_a) (fl_A j55a0_5_14_3_a) (fl_A j55a0_5_13_a) (fl_A j55a0_5_12_a))
        refine lv_iload_n hx hb dX3_read_55 rfl (lv_at hl 1 rfl) ?_
        have J89 : ∀ (H : Heap) (locs : List Loc) (ls : Array Slot), (FX = Gf_X3_read_89_1 x6.toInt j55l2.toInt j55a0_1.toInt j55a0_2.toInt j55a0_6.toInt j55a0_8.toInt j55a0_9.toInt j55a0_10.toInt j55a0_11.toInt j55a0_12.toInt j55a0_13.toInt j55a0_5_0.toInt j55a0_5_1.toInt j55a0_5_2.toInt j55a0_5_3.toInt j55a0_5_4.toInt j55a0_5_5.toInt j55a0_5_6.toInt j55a0_5_7.toInt j55a0_5_8.toInt j55a0_5_9.toInt j55a0_5_14_0.toInt (fl_A j55a0_5_10_a) (fl_A j55a0_5_11_a) (fl_L j55a0_4_a) (fl_A j55a0_5_14_2_a) (fl_A j55a0_5_14_3_a) (fl_A j55a0_5_13_a) (fl_A j55a0_5_12_a)) → va_P (dC, dI) vwCl [(a0, .inr (3, [.int 0, .int j55a0_1, .int j55a0_2, .ref a0_3, .ref a0_4, .ref a0_5, .int j55a0_6, .int x6, .int j55a0_8, .int j55a0_9, .int j55a0_10, .long j55a0_11, .int j55a0_12, .int j55a0_13])), (a0_5, .inr (0, [.int j55a0_5_0, .int j55a0_5_1, .int j55a0_5_2, .int j55a0_5_3, .int j55a0_5_4, .int j55a0_5_5, .int j55a0_5_6, .int j55a0_5_7, .int j55a0_5_8, .int j55a0_5_9, .ref a0_5_10, .ref a0_5_11, .ref a0_5_12, .ref a0_5_13, .ref a0_5_14])), (a0_5_14, .inr (6, [.int j55a0_5_14_0, a0_5_14g_1, .ref a0_5_14_2, .ref a0_5_14_3])), (a0_5_10, .inl (ka0_5_10, 9, .inl (j55a0_5_10_a))), (a0_5_11, .inl (ka0_5_11, 9, .inl (j55a0_5_11_a))), (a0_3, .inl (ka0_3, 900, .inl (fa0_3))), (a0_4, .inl (ka0_4, 12, .inr (.inl (j55a0_4_a)))), (a0_5_14_2, .inl (ka0_5_14_2, 3, .inl (j55a0_5_14_2_a))), (a0_5_14_3, .inl (ka0_5_14_3, 3, .inl (j55a0_5_14_3_a))), (a0_5_13, .inl (ka0_5_13, 6, .inl (j55a0_5_13_a))), (a0_5_12, .inl (ka0_5_12, 6, .inl (j55a0_5_12_a)))] H → va_D A [(a0, .inr (3, [.int 0, .int j55a0_1, .int j55a0_2, .ref a0_3, .ref a0_4, .ref a0_5, .int j55a0_6, .int x6, .int j55a0_8, .int j55a0_9, .int j55a0_10, .long j55a0_11, .int j55a0_12, .int j55a0_13])), (a0_5, .inr (0, [.int j55a0_5_0, .int j55a0_5_1, .int j55a0_5_2, .int j55a0_5_3, .int j55a0_5_4, .int j55a0_5_5, .int j55a0_5_6, .int j55a0_5_7, .int j55a0_5_8, .int j55a0_5_9, .ref a0_5_10, .ref a0_5_11, .ref a0_5_12, .ref a0_5_13, .ref a0_5_14])), (a0_5_14, .inr (6, [.int j55a0_5_14_0, a0_5_14g_1, .ref a0_5_14_2, .ref a0_5_14_3])), (a0_5_10, .inl (ka0_5_10, 9, .inl (j55a0_5_10_a))), (a0_5_11, .inl (ka0_5_11, 9, .inl (j55a0_5_11_a))), (a0_3, .inl (ka0_3, 900, .inl (fa0_3))), (a0_4, .inl (ka0_4, 12, .inr (.inl (j55a0_4_a)))), (a0_5_14_2, .inl (ka0_5_14_2, 3, .inl (j55a0_5_14_2_a))), (a0_5_14_3, .inl (ka0_5_14_3, 3, .inl (j55a0_5_14_3_a))), (a0_5_13, .inl (ka0_5_13, 6, .inl (j55a0_5_13_a))), (a0_5_12, .inl (ka0_5_12, 6, .inl (j55a0_5_12_a)))] → va_S A s.heap H locs → lv_has ls 4 [(0, .ref a0), (2, .int j55l2)] → K H locs (F0 m 89 ls []) := by
          intro  H locs ls  hF0 hP hD hS hl
          refine (hK0 _ _ _).mpr ?_
          have hF0 := hF0.trans (Gf_X3_read_89_1.eq_1 x6.toInt j55l2.toInt j55a0_1.toInt j55a0_2.toInt j55a0_6.toInt j55a0_8.toInt j55a0_9.toInt j55a0_10.toInt j55a0_11.toInt j55a0_12.toInt j55a0_13.toInt j55a0_5_0.toInt j55a0_5_1.toInt j55a0_5_2.toInt j55a0_5_3.toInt j55a0_5_4.toInt j55a0_5_5.toInt j55a0_5_6.toInt j55a0_5_7.toInt j55a0_5_8.toInt j55a0_5_9.toInt j55a0_5_14_0.toInt (fl_A j55a0_5_10_a) (fl_A j55a0_5_11_a) (fl_L j55a0_4_a) (fl_A j55a0_5_14_2_a) (fl_A j55a0_5_14_3_a) (fl_A j55a0_5_13_a) (fl_A j55a0_5_12_a))
          refine lv_iload_n hx hb dX3_read_89 rfl (lv_at hl 1 rfl) ?_
          refine lv_if_ne (tgt := 95) hx hb dX3_read_90 (by decide) (fun c90 => ?_) (fun c90 => ?_)
          · have gc90 := ai_ne c90
            have l90t_j55l2 : (1 : Int) ≤ j55l2.toInt := (by first | exact zg_l bj55l2_l gc90 (by decide) (by decide) | (have h1 := bj55l2_l; have h2 : (0 : Int32).toInt = 0 := (by decide); rw [h2] at gc90; omega))
            have hF0 := hF0.trans (if_neg (show ¬ (j55l2.toInt = 0) from  gc90))
            refine lv_aload_n hx hb dX3_read_95 rfl (lv_at hl 0 rfl) ?_
            refine va_get (D := (dC, dI)) (ci := 3) (v := .int j55a0_10) (C := RX3) (T := TX3) (N := 14) hx hb hts zi_X3_read_3 hown hK hP 0 rfl rfl 10 (by decide) (hts (.fieldLink RX3 61 "WaxTurns$Reade\x72" "token" "I") (zm_X3_read_r1 (List.mem_of_getElem? (i := 11) rfl))) (fun _ h9 => h9) rfl dX3_read_96 ?_
            refine lv_if_eq (tgt := 108) hx hb dX3_read_99 (by decide) (fun c99 => ?_) (fun c99 => ?_)
            · have gc99 := ai_eq c99
              have u99t_j55a0_10 : j55a0_10.toInt ≤ (0 : Int) := Int.le_trans (Int.le_of_eq gc99) zq6
              have l99t_j55a0_10 : (0 : Int) ≤ j55a0_10.toInt := bj55a0_10_l
              have hF0 := hF0.trans (if_pos (show j55a0_10.toInt = 0 from gc99))
              refine lv_aload_n hx hb dX3_read_108 rfl (lv_at hl 0 rfl) ?_
              refine va_get (D := (dC, dI)) (ci := 3) (v := .ref a0_5) (C := RX3) (T := TX3) (N := 14) hx hb hts zi_X3_read_3 hown hK hP 0 rfl rfl 5 (by decide) (hts (.fieldLink RX3 22 "WaxTurns$Reade\x72" "draft" "LWaxTurns$Hall;") (zm_X3_read_r1 (List.mem_of_getElem? (i := 6) rfl))) (fun _ h9 => h9) rfl dX3_read_109 ?_
              refine va_get (D := (dC, dI)) (ci := 0) (v := .int j55a0_5_4) (C := RX0) (T := TX0) (N := 15) hx hb hts zi_X3_read_0 hown hK hP 1 rfl rfl 4 (by decide) (hts (.fieldLink RX3 68 "WaxTurns$Hall" "lawTold" "Z") (zm_X3_read_r1 (List.mem_of_getElem? (i := 12) rfl))) (fun _ h9 => h9) rfl dX3_read_112 ?_
              refine lv_if_ne (tgt := 127) hx hb dX3_read_115 (by decide) (fun c115 => ?_) (fun c115 => ?_)
              · have gc115 := ai_ne c115
                have l115t_j55a0_5_4 : (1 : Int) ≤ j55a0_5_4.toInt := (by first | exact zg_l bj55a0_5_4_l gc115 (by decide) (by decide) | (have h1 := bj55a0_5_4_l; have h2 : (0 : Int32).toInt = 0 := (by decide); rw [h2] at gc115; omega))
                have hF0 := hF0.trans (if_neg (show ¬ (j55a0_5_4.toInt = 0) from  gc115))
                refine lv_iconst (v := 1) hx hb dX3_read_127 zk_iconst_1 ?_
                refine lv_goto (tgt := 132) hx hb dX3_read_128 (by decide) ?_
                have hFe : FX = (1, j55a0_1.toInt, j55a0_2.toInt, j55a0_6.toInt, x6.toInt, j55a0_8.toInt, j55a0_9.toInt, j55a0_10.toInt, j55a0_11.toInt, j55a0_12.toInt, j55a0_13.toInt, j55a0_5_0.toInt, j55a0_5_1.toInt, j55a0_5_2.toInt, j55a0_5_3.toInt, j55a0_5_4.toInt, j55a0_5_5.toInt, j55a0_5_6.toInt, j55a0_5_7.toInt, j55a0_5_8.toInt, j55a0_5_9.toInt, j55a0_5_14_0.toInt, (fl_A j55a0_5_10_a), (fl_A j55a0_5_11_a), (fl_L j55a0_4_a), (fl_A j55a0_5_14_2_a), (fl_A j55a0_5_14_3_a), (fl_A j55a0_5_13_a), (fl_A j55a0_5_12_a)) := hF0
                exact W.zret (v := 1) hx hb hr rfl (fun t ht hW => ⟨⟨1, (), rfl, ⟨(Or.inl (rfl)), (congrArg Prod.fst hFe).symm⟩, j55a0_1, j55a0_2, j55a0_6, x6, j55a0_8, j55a0_9, j55a0_10, j55a0_11, j55a0_12, j55a0_13, j55a0_5_0, j55a0_5_1, j55a0_5_2, j55a0_5_3, j55a0_5_4, j55a0_5_5, j55a0_5_6, j55a0_5_7, j55a0_5_8, j55a0_5_9, j55a0_5_14_0, j55a0_5_10_a, j55a0_5_11_a, j55a0_4_a, j55a0_5_14_2_a, j55a0_5_14_3_a, j55a0_5_13_a, j55a0_5_12_a, ⟨bj55a0_6_l, bj55a0_6_u⟩, ⟨bx6.1, bx6.2⟩, ⟨bj55a0_8_l, bj55a0_8_u⟩, ⟨bj55a0_9_l, bj55a0_9_u⟩, ⟨l99t_j55a0_10, Int.le_trans u99t_j55a0_10 (by decide)⟩, ⟨bj55a0_5_0_l, bj55a0_5_0_u⟩, ⟨Int.le_trans (by decide) l115t_j55a0_5_4, bj55a0_5_4_u⟩, ⟨bj55a0_5_5_l, bj55a0_5_5_u⟩, ⟨bj55a0_5_6_l, bj55a0_5_6_u⟩, ⟨bj55a0_5_7_l, bj55a0_5_7_u⟩, ⟨bj55a0_5_9_l, bj55a0_5_9_u⟩, ⟨bj55a0_5_14_0_l, bj55a0_5_14_0_u⟩, bj55a0_5_14_2_a, bj55a0_5_14_3_a, bj55a0_5_13_a, (congrArg Prod.snd hFe), by rw [ht]; exact hP, va_K.moved hW.alike hK, hD⟩, hS.F ht⟩) hS.2.2 dX3_read_132
              · have gc115 := ai_eq c115
                have u115f_j55a0_5_4 : j55a0_5_4.toInt ≤ (0 : Int) := Int.le_trans (Int.le_of_eq gc115) zq6
                have l115f_j55a0_5_4 : (0 : Int) ≤ j55a0_5_4.toInt := bj55a0_5_4_l
                have hF0 := hF0.trans (if_pos (show j55a0_5_4.toInt = 0 from gc115))
                refine lv_aload_n hx hb dX3_read_118 rfl (lv_at hl 0 rfl) ?_
                refine lv_bipush (v := 6) hx hb dX3_read_119 zk_bipush_6 ?_
                refine va_calli (va_runV (As := [.int 6]) (rest := []) ⟨hx, hb, hml, hown, hts⟩ (f_X3_fails l dC dI H.size a0 6 (.int 0) (.ref a0_3) (.ref a0_4) (.ref a0_5) (.int j55a0_6) (.int x6) (.int j55a0_9) (.int j55a0_10) (.long j55a0_11) (.int j55a0_12) (.int j55a0_13) j55a0_1 j55a0_2 j55a0_8 bj55a0_8_l bj55a0_8_u) (cwV 1 hts gX3_read_X3_fails rfl rfl rfl zd_X3_fails ⟨Nat.le_of_ble_eq_true rfl, Nat.le_of_ble_eq_true rfl⟩) ⟨ax_blind (fun _ _ _ _ _ => trivial), zr_3 (zp_K hK) (zp_P1 hP) (q0 := 0) rfl, ax_pre (zp_P1 hP) (zp_K hK) (zp_D1 hD) (fun _ _ => trivial)⟩ rfl rfl hl.1 rfl (lv_room (Nat.le_of_ble_eq_true rfl)) dX3_read_121 ⟨Nat.le_of_ble_eq_true rfl, Nat.le_of_ble_eq_true rfl⟩) hS (fun q _ h => zp_F1 hD hS hA q h) (zp_F1 hD hS hA) (fun r121 u t H locs ht hvm hw => zx_2 (fun v121na0_1 v121na0_2 => zy_1 (fun hraw121_0 hB hz1 hk1 hS1 => zo1 hB ht hP hD hk1 (zp_F1 hD hS hA) hS1 (fun hP hK1 hD hS => ?_))))
                obtain ⟨hw, hfr121⟩ := hw
                rw [show (6 : Int32).toInt = 6 from by decide] at hfr121 hraw121_0
                have hc121 : Ff_X3_fails 6 j55a0_8.toInt = (r121.toInt, v121na0_1.toInt, v121na0_2.toInt) := Prod.ext hfr121.symm hraw121_0
                have hF0 := hF0.trans (fl_c3_eq hc121)
                have hw : r121 = 0 := hw
                have hw := hw.symm
                subst hw
                refine lv_if_eq (tgt := 131) hx hb dX3_read_124 (by decide) (fun _ => ?_) (fun c124 => absurd (by decide +kernel) c124)
                refine lv_iconst (v := 0) hx hb dX3_read_131 zk_iconst_0 ?_
                have hFe : FX = (0, v121na0_1.toInt, v121na0_2.toInt, j55a0_6.toInt, x6.toInt, j55a0_8.toInt, j55a0_9.toInt, j55a0_10.toInt, j55a0_11.toInt, j55a0_12.toInt, j55a0_13.toInt, j55a0_5_0.toInt, j55a0_5_1.toInt, j55a0_5_2.toInt, j55a0_5_3.toInt, j55a0_5_4.toInt, j55a0_5_5.toInt, j55a0_5_6.toInt, j55a0_5_7.toInt, j55a0_5_8.toInt, j55a0_5_9.toInt, j55a0_5_14_0.toInt, (fl_A j55a0_5_10_a), (fl_A j55a0_5_11_a), (fl_L j55a0_4_a), (fl_A j55a0_5_14_2_a), (fl_A j55a0_5_14_3_a), (fl_A j55a0_5_13_a), (fl_A j55a0_5_12_a)) := hF0
                exact W.zret (v := 0) hx hb hr rfl (fun t ht hW => ⟨⟨0, (), rfl, ⟨(Or.inr (rfl)), (congrArg Prod.fst hFe).symm⟩, v121na0_1, v121na0_2, j55a0_6, x6, j55a0_8, j55a0_9, j55a0_10, j55a0_11, j55a0_12, j55a0_13, j55a0_5_0, j55a0_5_1, j55a0_5_2, j55a0_5_3, j55a0_5_4, j55a0_5_5, j55a0_5_6, j55a0_5_7, j55a0_5_8, j55a0_5_9, j55a0_5_14_0, j55a0_5_10_a, j55a0_5_11_a, j55a0_4_a, j55a0_5_14_2_a, j55a0_5_14_3_a, j55a0_5_13_a, j55a0_5_12_a, ⟨bj55a0_6_l, bj55a0_6_u⟩, ⟨bx6.1, bx6.2⟩, ⟨bj55a0_8_l, bj55a0_8_u⟩, ⟨bj55a0_9_l, bj55a0_9_u⟩, ⟨l99t_j55a0_10, Int.le_trans u99t_j55a0_10 (by decide)⟩, ⟨bj55a0_5_0_l, bj55a0_5_0_u⟩, ⟨l115f_j55a0_5_4, Int.le_trans u115f_j55a0_5_4 (by decide)⟩, ⟨bj55a0_5_5_l, bj55a0_5_5_u⟩, ⟨bj55a0_5_6_l, bj55a0_5_6_u⟩, ⟨bj55a0_5_7_l, bj55a0_5_7_u⟩, ⟨bj55a0_5_9_l, bj55a0_5_9_u⟩, ⟨bj55a0_5_14_0_l, bj55a0_5_14_0_u⟩, bj55a0_5_14_2_a, bj55a0_5_14_3_a, bj55a0_5_13_a, (congrArg Prod.snd hFe), by rw [ht]; exact hP, va_K.moved hW.alike hK, hD⟩, hS.F ht⟩) hS.2.2 dX3_read_132
            · have gc99 := ai_ne c99
              have l99f_j55a0_10 : (1 : Int) ≤ j55a0_10.toInt := (by first | exact zg_l bj55a0_10_l gc99 (by decide) (by decide) | (have h1 := bj55a0_10_l; have h2 : (0 : Int32).toInt = 0 := (by decide); rw [h2] at gc99; omega))
              have hF0 := hF0.trans (if_neg (show ¬ (j55a0_10.toInt = 0) from  gc99))
              refine lv_aload_n hx hb dX3_read_102 rfl (lv_at hl 0 rfl) ?_
              refine lv_iconst (v := 1) hx hb dX3_read_103 zk_iconst_1 ?_
              refine va_calli (va_runV (As := [.int 1]) (rest := []) ⟨hx, hb, hml, hown, hts⟩ (f_X3_fails l dC dI H.size a0 1 (.int 0) (.ref a0_3) (.ref a0_4) (.ref a0_5) (.int j55a0_6) (.int x6) (.int j55a0_9) (.int j55a0_10) (.long j55a0_11) (.int j55a0_12) (.int j55a0_13) j55a0_1 j55a0_2 j55a0_8 bj55a0_8_l bj55a0_8_u) (cwV 1 hts gX3_read_X3_fails rfl rfl rfl zd_X3_fails ⟨Nat.le_of_ble_eq_true rfl, Nat.le_of_ble_eq_true rfl⟩) ⟨ax_blind (fun _ _ _ _ _ => trivial), zr_3 (zp_K hK) (zp_P1 hP) (q0 := 0) rfl, ax_pre (zp_P1 hP) (zp_K hK) (zp_D1 hD) (fun _ _ => trivial)⟩ rfl rfl hl.1 rfl (lv_room (Nat.le_of_ble_eq_true rfl)) dX3_read_104 ⟨Nat.le_of_ble_eq_true rfl, Nat.le_of_ble_eq_true rfl⟩) hS (fun q _ h => zp_F1 hD hS hA q h) (zp_F1 hD hS hA) (fun r104 u t H locs ht hvm hw => zx_2 (fun v104na0_1 v104na0_2 => zy_1 (fun hraw104_0 hB hz1 hk1 hS1 => zo1 hB ht hP hD hk1 (zp_F1 hD hS hA) hS1 (fun hP hK1 hD hS => ?_))))
              obtain ⟨hw, hfr104⟩ := hw
              rw [show (1 : Int32).toInt = 1 from by decide] at hfr104 hraw104_0
              have hc104 : Ff_X3_fails 1 j55a0_8.toInt = (r104.toInt, v104na0_1.toInt, v104na0_2.toInt) := Prod.ext hfr104.symm hraw104_0
              have hF0 := hF0.trans (fl_c3_eq hc104)
              have hw : r104 = 0 := hw
              have hw := hw.symm
              subst hw
              have hFe : FX = (0, v104na0_1.toInt, v104na0_2.toInt, j55a0_6.toInt, x6.toInt, j55a0_8.toInt, j55a0_9.toInt, j55a0_10.toInt, j55a0_11.toInt, j55a0_12.toInt, j55a0_13.toInt, j55a0_5_0.toInt, j55a0_5_1.toInt, j55a0_5_2.toInt, j55a0_5_3.toInt, j55a0_5_4.toInt, j55a0_5_5.toInt, j55a0_5_6.toInt, j55a0_5_7.toInt, j55a0_5_8.toInt, j55a0_5_9.toInt, j55a0_5_14_0.toInt, (fl_A j55a0_5_10_a), (fl_A j55a0_5_11_a), (fl_L j55a0_4_a), (fl_A j55a0_5_14_2_a), (fl_A j55a0_5_14_3_a), (fl_A j55a0_5_13_a), (fl_A j55a0_5_12_a)) := hF0
              exact W.zret (v := 0) hx hb hr rfl (fun t ht hW => ⟨⟨0, (), rfl, ⟨(Or.inr (rfl)), (congrArg Prod.fst hFe).symm⟩, v104na0_1, v104na0_2, j55a0_6, x6, j55a0_8, j55a0_9, j55a0_10, j55a0_11, j55a0_12, j55a0_13, j55a0_5_0, j55a0_5_1, j55a0_5_2, j55a0_5_3, j55a0_5_4, j55a0_5_5, j55a0_5_6, j55a0_5_7, j55a0_5_8, j55a0_5_9, j55a0_5_14_0, j55a0_5_10_a, j55a0_5_11_a, j55a0_4_a, j55a0_5_14_2_a, j55a0_5_14_3_a, j55a0_5_13_a, j55a0_5_12_a, ⟨bj55a0_6_l, bj55a0_6_u⟩, ⟨bx6.1, bx6.2⟩, ⟨bj55a0_8_l, bj55a0_8_u⟩, ⟨bj55a0_9_l, bj55a0_9_u⟩, ⟨Int.le_trans (by decide) l99f_j55a0_10, bj55a0_10_u⟩, ⟨bj55a0_5_0_l, bj55a0_5_0_u⟩, ⟨bj55a0_5_4_l, bj55a0_5_4_u⟩, ⟨bj55a0_5_5_l, bj55a0_5_5_u⟩, ⟨bj55a0_5_6_l, bj55a0_5_6_u⟩, ⟨bj55a0_5_7_l, bj55a0_5_7_u⟩, ⟨bj55a0_5_9_l, bj55a0_5_9_u⟩, ⟨bj55a0_5_14_0_l, bj55a0_5_14_0_u⟩, bj55a0_5_14_2_a, bj55a0_5_14_3_a, bj55a0_5_13_a, (congrArg Prod.snd hFe), by rw [ht]; exact hP, va_K.moved hW.alike hK, hD⟩, hS.F ht⟩) hS.2.2 dX3_read_107
          · have gc90 := ai_eq c90
            have u90f_j55l2 : j55l2.toInt ≤ (0 : Int) := Int.le_trans (Int.le_of_eq gc90) zq6
            have l90f_j55l2 : (0 : Int) ≤ j55l2.toInt := bj55l2_l
            have hF0 := hF0.trans (if_pos (show j55l2.toInt = 0 from gc90))
            refine lv_iconst (v := 0) hx hb dX3_read_93 zk_iconst_0 ?_
            have hFe : FX = (0, j55a0_1.toInt, j55a0_2.toInt, j55a0_6.toInt, x6.toInt, j55a0_8.toInt, j55a0_9.toInt, j55a0_10.toInt, j55a0_11.toInt, j55a0_12.toInt, j55a0_13.toInt, j55a0_5_0.toInt, j55a0_5_1.toInt, j55a0_5_2.toInt, j55a0_5_3.toInt, j55a0_5_4.toInt, j55a0_5_5.toInt, j55a0_5_6.toInt, j55a0_5_7.toInt, j55a0_5_8.toInt, j55a0_5_9.toInt, j55a0_5_14_0.toInt, (fl_A j55a0_5_10_a), (fl_A j55a0_5_11_a), (fl_L j55a0_4_a), (fl_A j55a0_5_14_2_a), (fl_A j55a0_5_14_3_a), (fl_A j55a0_5_13_a), (fl_A j55a0_5_12_a)) := hF0
            exact W.zret (v := 0) hx hb hr rfl (fun t ht hW => ⟨⟨0, (), rfl, ⟨(Or.inr (rfl)), (congrArg Prod.fst hFe).symm⟩, j55a0_1, j55a0_2, j55a0_6, x6, j55a0_8, j55a0_9, j55a0_10, j55a0_11, j55a0_12, j55a0_13, j55a0_5_0, j55a0_5_1, j55a0_5_2, j55a0_5_3, j55a0_5_4, j55a0_5_5, j55a0_5_6, j55a0_5_7, j55a0_5_8, j55a0_5_9, j55a0_5_14_0, j55a0_5_10_a, j55a0_5_11_a, j55a0_4_a, j55a0_5_14_2_a, j55a0_5_14_3_a, j55a0_5_13_a, j55a0_5_12_a, ⟨bj55a0_6_l, bj55a0_6_u⟩, ⟨bx6.1, bx6.2⟩, ⟨bj55a0_8_l, bj55a0_8_u⟩, ⟨bj55a0_9_l, bj55a0_9_u⟩, ⟨bj55a0_10_l, bj55a0_10_u⟩, ⟨bj55a0_5_0_l, bj55a0_5_0_u⟩, ⟨bj55a0_5_4_l, bj55a0_5_4_u⟩, ⟨bj55a0_5_5_l, bj55a0_5_5_u⟩, ⟨bj55a0_5_6_l, bj55a0_5_6_u⟩, ⟨bj55a0_5_7_l, bj55a0_5_7_u⟩, ⟨bj55a0_5_9_l, bj55a0_5_9_u⟩, ⟨bj55a0_5_14_0_l, bj55a0_5_14_0_u⟩, bj55a0_5_14_2_a, bj55a0_5_14_3_a, bj55a0_5_13_a, (congrArg Prod.snd hFe), by rw [ht]; exact hP, va_K.moved hW.alike hK, hD⟩, hS.F ht⟩) hS.2.2 dX3_read_94
        refine lv_if_eq (tgt := 89) hx hb dX3_read_56 (by decide) (fun c56 => ?_) (fun c56 => ?_)
        · have gc56 := ai_eq c56
          have u56t_j55l2 : j55l2.toInt ≤ (0 : Int) := Int.le_trans (Int.le_of_eq gc56) zq6
          have l56t_j55l2 : (0 : Int) ≤ j55l2.toInt := bj55l2_l
          have hF1 := hF1.trans (if_pos (show j55l2.toInt = 0 from gc56))
          have hF0 := hF0.trans (fl_wh_r (hSX55.trans hF1))
          exact (hK0 _ _ _).mp (J89  _ _ _   hF0 hP hD hS (lv_sub hl [0, 1] rfl))
        · have gc56 := ai_ne c56
          have l56f_j55l2 : (1 : Int) ≤ j55l2.toInt := (by first | exact zg_l bj55l2_l gc56 (by decide) (by decide) | (have h1 := bj55l2_l; have h2 : (0 : Int32).toInt = 0 := (by decide); rw [h2] at gc56; omega))
          have hF1 := hF1.trans (if_neg (show ¬ (j55l2.toInt = 0) from  gc56))
          refine lv_aload_n hx hb dX3_read_59 rfl (lv_at hl 0 rfl) ?_
          refine va_get (D := (dC, dI)) (ci := 3) (v := .int j55a0_10) (C := RX3) (T := TX3) (N := 14) hx hb hts zi_X3_read_3 hown hK hP 0 rfl rfl 10 (by decide) (hts (.fieldLink RX3 61 "WaxTurns$Reade\x72" "token" "I") (zm_X3_read_r1 (List.mem_of_getElem? (i := 11) rfl))) (fun _ h9 => h9) rfl dX3_read_60 ?_
          refine lv_iconst (v := 3) hx hb dX3_read_63 zk_iconst_3 ?_
          refine lv_icmp_ne (tgt := 89) hx hb dX3_read_64 (by decide) (fun c64 => ?_) (fun c64 => ?_)
          · have gc64 := ai_ne c64
            have hF1 := hF1.trans (if_neg (show ¬ (j55a0_10.toInt = 3) from  gc64))
            have hF0 := hF0.trans (fl_wh_r (hSX55.trans hF1))
            exact (hK0 _ _ _).mp (J89  _ _ _   hF0 hP hD hS (lv_sub hl [0, 1] rfl))
          · have gc64 := ai_eq c64
            have u64f_j55a0_10 : j55a0_10.toInt ≤ (3 : Int) := Int.le_trans (Int.le_of_eq gc64) zq9
            have l64f_j55a0_10 : (3 : Int) ≤ j55a0_10.toInt := Int.le_trans zq8 (Int.le_of_eq gc64.symm)
            have hF1 := hF1.trans (if_pos (show j55a0_10.toInt = 3 from gc64))
            refine lv_iload_n hx hb dX3_read_67 rfl (lv_at hl 2 rfl) ?_
            refine lv_sipush (v := 900) hx hb dX3_read_68 zk_sipush_900 ?_
            refine lv_icmp_ge (tgt := 89) hx hb dX3_read_71 (by decide) (fun c71 => ?_) (fun c71 => ?_)
            · have gc71 := ai_le c71
              have l71t_j55l3 : (900 : Int) ≤ j55l3.toInt := Int.le_trans zq37 gc71
              have hF1 := hF1.trans (if_pos (show 900 ≤ j55l3.toInt from gc71))
              have hF0 := hF0.trans (fl_wh_r (hSX55.trans hF1))
              exact (hK0 _ _ _).mp (J89  _ _ _   hF0 hP hD hS (lv_sub hl [0, 1] rfl))
            · have gc71 := ai_nle c71
              have u71f_j55l3 : j55l3.toInt ≤ (899 : Int) := ai_lthi gc71 zq39
              have hF1 := hF1.trans (if_neg (show ¬ (900 ≤ j55l3.toInt) from Int.not_le.mpr gc71))
              refine lv_aload_n hx hb dX3_read_74 rfl (lv_at hl 0 rfl) ?_
              refine zc_cutc (wc := [(a0, .inr (3, [.int 0, .int j55a0_1, .int j55a0_2, .ref a0_3, .ref a0_4, .ref a0_5, .int j55a0_6, .int x6, .int j55a0_8, .int j55a0_9, .int j55a0_10, .long j55a0_11, .int j55a0_12, .int j55a0_13])), (a0_3, .inl (ka0_3, 900, .inl (fa0_3)))]) hP hD hS hA [0, 5] (by decide +kernel) rfl (fun hPc hDc hFc hCc => ?_)
              have hKc := hK.sub (tys' := [(ka0_3, .byte)]) [2] rfl
              refine va_callv (va_runV (As := []) (rest := []) ⟨hx, hb, hml, hown, hts⟩ (f_X3_advance l dC dI H.size a0 (.int 0) (.int j55a0_1) (.int j55a0_2) (.ref a0_4) (.ref a0_5) (.int j55a0_6) (.int j55a0_13) a0_3 x6 j55a0_8 j55a0_9 j55a0_10 j55a0_11 j55a0_12 ka0_3 fa0_3 bx6.1 bx6.2 bj55a0_8_l bj55a0_8_u bj55a0_9_l bj55a0_9_u (Int.le_trans zq11 l64f_j55a0_10) (Int.le_trans u64f_j55a0_10 zq233)) (cwV 0 hts gX3_read_X3_advance rfl rfl rfl zd_X3_advance ⟨Nat.le_of_ble_eq_true rfl, Nat.le_of_ble_eq_true rfl⟩) ⟨ax_blind (fun _ _ _ _ _ => trivial), zr_3 hKc hPc (q0 := 0) rfl, ax_pre hPc hKc hDc (fun _ _ => trivial)⟩ rfl rfl hl.1 rfl (lv_room (Nat.le_of_ble_eq_true rfl)) dX3_read_75 ⟨Nat.le_of_ble_eq_true rfl, Nat.le_of_ble_eq_true rfl⟩) hS (fun q _ h => hFc q h) hFc (fun u t H locs ht hvm hw => zx_5 (fun v75na0_8 v75na0_9 v75na0_10 v75na0_11 v75na0_12 => zy_4 (fun bv75na0_8 bv75na0_9 bv75na0_10 hraw75_0 hB hz1 hk1 hS1 => zo hB ht hS1 (fun hP1 hK1 hD1 hS => ?_))))
              refine zc_backc (w := [(a0, .inr (3, [.int 0, .int j55a0_1, .int j55a0_2, .ref a0_3, .ref a0_4, .ref a0_5, .int j55a0_6, .int x6, .int v75na0_8, .int v75na0_9, .int v75na0_10, .long v75na0_11, .int v75na0_12, .int j55a0_13])), (a0_5, .inr (0, [.int j55a0_5_0, .int j55a0_5_1, .int j55a0_5_2, .int j55a0_5_3, .int j55a0_5_4, .int j55a0_5_5, .int j55a0_5_6, .int j55a0_5_7, .int j55a0_5_8, .int j55a0_5_9, .ref a0_5_10, .ref a0_5_11, .ref a0_5_12, .ref a0_5_13, .ref a0_5_14])), (a0_5_14, .inr (6, [.int j55a0_5_14_0, a0_5_14g_1, .ref a0_5_14_2, .ref a0_5_14_3])), (a0_5_10, .inl (ka0_5_10, 9, .inl (j55a0_5_10_a))), (a0_5_11, .inl (ka0_5_11, 9, .inl (j55a0_5_11_a))), (a0_3, .inl (ka0_3, 900, .inl (fa0_3))), (a0_4, .inl (ka0_4, 12, .inr (.inl (j55a0_4_a)))), (a0_5_14_2, .inl (ka0_5_14_2, 3, .inl (j55a0_5_14_2_a))), (a0_5_14_3, .inl (ka0_5_14_3, 3, .inl (j55a0_5_14_3_a))), (a0_5_13, .inl (ka0_5_13, 6, .inl (j55a0_5_13_a))), (a0_5_12, .inl (ka0_5_12, 6, .inl (j55a0_5_12_a)))]) hP hD hCc hk1 hFc hP1 hD1 [.inr 0, .inl 1, .inl 2, .inl 3, .inl 4, .inr 1, .inl 6, .inl 7, .inl 8, .inl 9, .inl 10] (by decide +kernel) rfl (fun hP hD => ?_)
              have hc75 : Ff_X3_advance x6.toInt j55a0_9.toInt j55a0_11.toInt j55a0_12.toInt (fl_A fa0_3) = (v75na0_8.toInt, v75na0_9.toInt, v75na0_10.toInt, v75na0_11.toInt, v75na0_12.toInt) := hraw75_0
              have hF1 := hF1.trans (fl_c5_eq hc75)
              refine lv_aload_n hx hb dX3_read_78 rfl (lv_at hl 0 rfl) ?_
              refine zc_cutc (wc := [(a0, .inr (3, [.int 0, .int j55a0_1, .int j55a0_2, .ref a0_3, .ref a0_4, .ref a0_5, .int j55a0_6, .int x6, .int v75na0_8, .int v75na0_9, .int v75na0_10, .long v75na0_11, .int v75na0_12, .int j55a0_13])), (a0_5, .inr (0, [.int j55a0_5_0, .int j55a0_5_1, .int j55a0_5_2, .int j55a0_5_3, .int j55a0_5_4, .int j55a0_5_5, .int j55a0_5_6, .int j55a0_5_7, .int j55a0_5_8, .int j55a0_5_9, .ref a0_5_10, .ref a0_5_11, .ref a0_5_12, .ref a0_5_13, .ref a0_5_14])), (a0_3, .inl (ka0_3, 900, .inl (fa0_3))), (a0_4, .inl (ka0_4, 12, .inr (.inl (j55a0_4_a)))), (a0_5_10, .inl (ka0_5_10, 9, .inl (j55a0_5_10_a))), (a0_5_11, .inl (ka0_5_11, 9, .inl (j55a0_5_11_a))), (a0_5_14, .inr (6, [.int j55a0_5_14_0, a0_5_14g_1, .ref a0_5_14_2, .ref a0_5_14_3])), (a0_5_14_2, .inl (ka0_5_14_2, 3, .inl (j55a0_5_14_2_a))), (a0_5_14_3, .inl (ka0_5_14_3, 3, .inl (j55a0_5_14_3_a))), (a0_5_13, .inl (ka0_5_13, 6, .inl (j55a0_5_13_a))), (a0_5_12, .inl (ka0_5_12, 6, .inl (j55a0_5_12_a)))]) hP hD hS hA [0, 1, 5, 6, 3, 4, 2, 7, 8, 9, 10] (by decide +kernel) rfl (fun hPc hDc hFc hCc => ?_)
              have hKc := hK.sub (tys' := [(ka0_3, .byte), (ka0_4, .long), (ka0_5_10, .int), (ka0_5_11, .int), (ka0_5_14_2, .int), (ka0_5_14_3, .int), (ka0_5_13, .int), (ka0_5_12, .int)]) [2, 3, 0, 1, 4, 5, 6, 7] rfl
              refine va_calli (va_runV (As := []) (rest := []) ⟨hx, hb, hml, hown, hts⟩ (f_X3_readLine l dC dI H.size a0 (.int 0) j55a0_1 j55a0_2 a0_3 a0_4 a0_5 j55a0_6 x6 v75na0_8 v75na0_9 v75na0_10 v75na0_11 v75na0_12 j55a0_13 j55a0_5_0 j55a0_5_1 j55a0_5_2 j55a0_5_3 j55a0_5_4 j55a0_5_5 j55a0_5_6 j55a0_5_7 j55a0_5_8 j55a0_5_9 a0_5_10 a0_5_11 a0_5_12 a0_5_13 a0_5_14 ka0_3 fa0_3 ka0_4 j55a0_4_a ka0_5_10 j55a0_5_10_a ka0_5_11 j55a0_5_11_a j55a0_5_14_0 a0_5_14g_1 a0_5_14_2 a0_5_14_3 ka0_5_14_2 j55a0_5_14_2_a ka0_5_14_3 j55a0_5_14_3_a ka0_5_13 j55a0_5_13_a ka0_5_12 j55a0_5_12_a ad bj55a0_6_l bj55a0_6_u bx6.1 bx6.2 bv75na0_8.1 bv75na0_8.2 bv75na0_9.1 bv75na0_9.2 bv75na0_10.1 bv75na0_10.2 bj55a0_5_0_l bj55a0_5_0_u bj55a0_5_4_l bj55a0_5_4_u bj55a0_5_5_l bj55a0_5_5_u bj55a0_5_6_l bj55a0_5_6_u bj55a0_5_7_l bj55a0_5_7_u bj55a0_5_9_l bj55a0_5_9_u bj55a0_5_14_0_l bj55a0_5_14_0_u bj55a0_5_14_2_a bj55a0_5_14_3_a bj55a0_5_13_a) (cwV 0 hts gX3_read_X3_readLine rfl rfl rfl zd_X3_readLine ⟨Nat.le_of_ble_eq_true rfl, Nat.le_of_ble_eq_true rfl⟩) ⟨ax_blind (fun _ _ _ _ hq => ⟨sxc_T_same _ _ _ _ (hq.1), va_Nw.same rfl rfl (hq.2.1), va_Nw.same rfl rfl (hq.2.2)⟩), zr_3 hKc hPc (q0 := 0) rfl, ax_preE hPc hKc hDc (fun U hU hW => ⟨sxc_T_to hE0 hS.2.1 hFc hU hW, va_Nw.warmM hW hE1, va_Nw.warmM hW hE2⟩)⟩ rfl rfl hl.1 rfl (lv_room (Nat.le_of_ble_eq_true rfl)) dX3_read_79 ⟨Nat.le_of_ble_eq_true rfl, Nat.le_of_ble_eq_true rfl⟩) hS (fun q _ h => hFc q h) hFc (fun r79 u t H locs ht hvm hw => zx_27 (fun v79na0_1 v79na0_2 v79na0_6 v79na0_8 v79na0_9 v79na0_10 v79na0_11 v79na0_12 v79na0_13 v79na0_5_0 v79na0_5_1 v79na0_5_2 v79na0_5_3 v79na0_5_4 v79na0_5_5 v79na0_5_6 v79na0_5_7 v79na0_5_8 v79na0_5_9 v79nfa0_4 v79nfa0_5_10 v79nfa0_5_11 v79na0_5_14_0 v79nfa0_5_14_2 v79nfa0_5_14_3 v79nfa0_5_13 v79nfa0_5_12 => zy_15 (fun bv79na0_6 bv79na0_8 bv79na0_9 bv79na0_10 bv79na0_5_0 bv79na0_5_4 bv79na0_5_5 bv79na0_5_6 bv79na0_5_7 bv79na0_5_9 bv79na0_5_14_0 bv79nfa0_5_14_2 bv79nfa0_5_14_3 bv79nfa0_5_13 hraw79_0 hB hz1 hk1 hS1 => zo hB ht hS1 (fun hP1 hK1 hD1 hS => ?_))))
              refine zc_backc (w := [(a0, .inr (3, [.int 0, .int v79na0_1, .int v79na0_2, .ref a0_3, .ref a0_4, .ref a0_5, .int v79na0_6, .int x6, .int v79na0_8, .int v79na0_9, .int v79na0_10, .long v79na0_11, .int v79na0_12, .int v79na0_13])), (a0_5, .inr (0, [.int v79na0_5_0, .int v79na0_5_1, .int v79na0_5_2, .int v79na0_5_3, .int v79na0_5_4, .int v79na0_5_5, .int v79na0_5_6, .int v79na0_5_7, .int v79na0_5_8, .int v79na0_5_9, .ref a0_5_10, .ref a0_5_11, .ref a0_5_12, .ref a0_5_13, .ref a0_5_14])), (a0_5_14, .inr (6, [.int v79na0_5_14_0, a0_5_14g_1, .ref a0_5_14_2, .ref a0_5_14_3])), (a0_5_10, .inl (ka0_5_10, 9, .inl (v79nfa0_5_10))), (a0_5_11, .inl (ka0_5_11, 9, .inl (v79nfa0_5_11))), (a0_3, .inl (ka0_3, 900, .inl (fa0_3))), (a0_4, .inl (ka0_4, 12, .inr (.inl (v79nfa0_4)))), (a0_5_14_2, .inl (ka0_5_14_2, 3, .inl (v79nfa0_5_14_2))), (a0_5_14_3, .inl (ka0_5_14_3, 3, .inl (v79nfa0_5_14_3))), (a0_5_13, .inl (ka0_5_13, 6, .inl (v79nfa0_5_13))), (a0_5_12, .inl (ka0_5_12, 6, .inl (v79nfa0_5_12)))]) hP hD hCc hk1 hFc hP1 hD1 [.inr 0, .inr 1, .inr 6, .inr 4, .inr 5, .inr 2, .inr 3, .inr 7, .inr 8, .inr 9, .inr 10] (by decide +kernel) rfl (fun hP hD => ?_)
              obtain ⟨hw, hfr79⟩ := hw
              have hc79 : Ff_X3_readLine j55a0_1.toInt j55a0_2.toInt j55a0_6.toInt x6.toInt v75na0_8.toInt v75na0_9.toInt v75na0_10.toInt v75na0_11.toInt v75na0_12.toInt j55a0_13.toInt j55a0_5_0.toInt j55a0_5_1.toInt j55a0_5_2.toInt j55a0_5_3.toInt j55a0_5_4.toInt j55a0_5_5.toInt j55a0_5_6.toInt j55a0_5_7.toInt j55a0_5_8.toInt j55a0_5_9.toInt (fl_A fa0_3) (fl_L j55a0_4_a) (fl_A j55a0_5_10_a) (fl_A j55a0_5_11_a) j55a0_5_14_0.toInt (fl_A j55a0_5_14_2_a) (fl_A j55a0_5_14_3_a) (fl_A j55a0_5_13_a) (fl_A j55a0_5_12_a) = (r79.toInt, v79na0_1.toInt, v79na0_2.toInt, v79na0_6.toInt, v79na0_8.toInt, v79na0_9.toInt, v79na0_10.toInt, v79na0_11.toInt, v79na0_12.toInt, v79na0_13.toInt, v79na0_5_0.toInt, v79na0_5_1.toInt, v79na0_5_2.toInt, v79na0_5_3.toInt, v79na0_5_4.toInt, v79na0_5_5.toInt, v79na0_5_6.toInt, v79na0_5_7.toInt, v79na0_5_8.toInt, v79na0_5_9.toInt, (fl_L v79nfa0_4), (fl_A v79nfa0_5_10), (fl_A v79nfa0_5_11), v79na0_5_14_0.toInt, (fl_A v79nfa0_5_14_2), (fl_A v79nfa0_5_14_3), (fl_A v79nfa0_5_13), (fl_A v79nfa0_5_12)) := Prod.ext hfr79.symm hraw79_0
              have hF1 := hF1.trans (fl_c28_eq hc79)
              rcases hw with hw | hw
              · subst hw
                have hF1 := hF1.trans (if_pos (by decide))
                refine lv_istore_n (lv' := [(2, .int 1), (0, .ref a0), (3, .int j55l3)]) hx hb dX3_read_82 rfl hl (by decide) rfl (fun ls hl => ?_)
                obtain ⟨x83, ex83⟩ : ∃ y : Int32, y = j55l3 + Int32.ofInt 1 := ⟨_, rfl⟩
                have qx83 : x83.toInt = j55l3.toInt + 1 := ai_inc ex83 (by decide) (by decide) u71f_j55l3 (by decide)
                have bx83 : (2 : Int) ≤ x83.toInt ∧ x83.toInt ≤ 900 := ⟨by rw [qx83]; exact Int.add_le_add bj55l3_l (Int.le_refl _), by rw [qx83]; exact Int.add_le_add u71f_j55l3 (Int.le_refl _)⟩
                refine lv_iinc (v := x83) (lv' := [(3, .int x83), (2, .int 1), (0, .ref a0)]) hx hb dX3_read_83 hl (k := 2) rfl ex83.symm (by decide) rfl (fun ls hl => ?_)
                have hF1 := hF1.trans (fl_lt_eq (show x83.toInt = j55l3.toInt + 1 from qx83))
                refine lv_goto (tgt := 55) hx hb dX3_read_86 (by decide) ?_
                exact (hK0 _ _ _).mp (ih55 x83 1 v79na0_1 v79na0_2 v79na0_6 v79na0_8 v79na0_9 v79na0_10 v79na0_11 v79na0_12 v79na0_13 v79na0_5_0 v79na0_5_1 v79na0_5_2 v79na0_5_3 v79na0_5_4 v79na0_5_5 v79na0_5_6 v79na0_5_7 v79na0_5_8 v79na0_5_9 v79na0_5_14_0 v79nfa0_5_10 v79nfa0_5_11 v79nfa0_4 v79nfa0_5_14_2 v79nfa0_5_14_3 v79nfa0_5_13 v79nfa0_5_12 _ _ _ (by first | exact zg_s hm55 qx83 | (have h0 := qx83; omega)) (Int.le_trans zq54 bx83.1) bx83.2 (Int.le_trans zq4 zq1) zq0 bv79na0_6.1 bv79na0_6.2 bv79na0_8.1 bv79na0_8.2 bv79na0_9.1 bv79na0_9.2 bv79na0_10.1 bv79na0_10.2 bv79na0_5_0.1 bv79na0_5_0.2 bv79na0_5_4.1 bv79na0_5_4.2 bv79na0_5_5.1 bv79na0_5_5.2 bv79na0_5_6.1 bv79na0_5_6.2 bv79na0_5_7.1 bv79na0_5_7.2 bv79na0_5_9.1 bv79na0_5_9.2 bv79na0_5_14_0.1 bv79na0_5_14_0.2 bv79nfa0_5_14_2 bv79nfa0_5_14_3 bv79nfa0_5_13 (by rw [show (1 : Int32).toInt = 1 from by decide]; exact (hF0.trans (fl_wh_l (hSX55.trans hF1)))) hP hD hS (lv_sub hl [2, 1, 0] rfl))
              · subst hw
                have hF1 := hF1.trans (if_neg (by decide))
                refine lv_istore_n (lv' := [(2, .int 0), (0, .ref a0), (3, .int j55l3)]) hx hb dX3_read_82 rfl hl (by decide) rfl (fun ls hl => ?_)
                obtain ⟨x83, ex83⟩ : ∃ y : Int32, y = j55l3 + Int32.ofInt 1 := ⟨_, rfl⟩
                have qx83 : x83.toInt = j55l3.toInt + 1 := ai_inc ex83 (by decide) (by decide) u71f_j55l3 (by decide)
                have bx83 : (2 : Int) ≤ x83.toInt ∧ x83.toInt ≤ 900 := ⟨by rw [qx83]; exact Int.add_le_add bj55l3_l (Int.le_refl _), by rw [qx83]; exact Int.add_le_add u71f_j55l3 (Int.le_refl _)⟩
                refine lv_iinc (v := x83) (lv' := [(3, .int x83), (2, .int 0), (0, .ref a0)]) hx hb dX3_read_83 hl (k := 2) rfl ex83.symm (by decide) rfl (fun ls hl => ?_)
                have hF1 := hF1.trans (fl_lt_eq (show x83.toInt = j55l3.toInt + 1 from qx83))
                refine lv_goto (tgt := 55) hx hb dX3_read_86 (by decide) ?_
                exact (hK0 _ _ _).mp (ih55 x83 0 v79na0_1 v79na0_2 v79na0_6 v79na0_8 v79na0_9 v79na0_10 v79na0_11 v79na0_12 v79na0_13 v79na0_5_0 v79na0_5_1 v79na0_5_2 v79na0_5_3 v79na0_5_4 v79na0_5_5 v79na0_5_6 v79na0_5_7 v79na0_5_8 v79na0_5_9 v79na0_5_14_0 v79nfa0_5_10 v79nfa0_5_11 v79nfa0_4 v79nfa0_5_14_2 v79nfa0_5_14_3 v79nfa0_5_13 v79nfa0_5_12 _ _ _ (by first | exact zg_s hm55 qx83 | (have h0 := qx83; omega)) (Int.le_trans zq54 bx83.1) bx83.2 zq5 (Int.le_trans zq6 zq4) bv79na0_6.1 bv79na0_6.2 bv79na0_8.1 bv79na0_8.2 bv79na0_9.1 bv79na0_9.2 bv79na0_10.1 bv79na0_10.2 bv79na0_5_0.1 bv79na0_5_0.2 bv79na0_5_4.1 bv79na0_5_4.2 bv79na0_5_5.1 bv79na0_5_5.2 bv79na0_5_6.1 bv79na0_5_6.2 bv79na0_5_7.1 bv79na0_5_7.2 bv79na0_5_9.1 bv79na0_5_9.2 bv79na0_5_14_0.1 bv79na0_5_14_0.2 bv79nfa0_5_14_2 bv79nfa0_5_14_3 bv79nfa0_5_13 (by rw [show (0 : Int32).toInt = 0 from by decide]; exact (hF0.trans (fl_wh_l (hSX55.trans hF1)))) hP hD hS (lv_sub hl [2, 1, 0] rfl))
    exact (hK0 _ _ _).mp (J55 900 1 1 v49na0_1 v49na0_2 v49na0_6 v49na0_8 v49na0_9 v49na0_10 v49na0_11 v49na0_12 v49na0_13 v49na0_5_0 v49na0_5_1 v49na0_5_2 v49na0_5_3 v49na0_5_4 v49na0_5_5 v49na0_5_6 v49na0_5_7 v49na0_5_8 v49na0_5_9 v49na0_5_14_0 v49nfa0_5_10 v49nfa0_5_11 v49nfa0_4 v49nfa0_5_14_2 v49nfa0_5_14_3 v49nfa0_5_13 v49nfa0_5_12 _ _ _ (by first | decide +kernel | (have h1 : (1 : Int) ≤ (1 : Int32).toInt := zq1; have h2 : (1 : Int32).toInt ≤ (1 : Int) := zq0; omega)) zq1 (Int.le_trans zq0 zq234) (Int.le_trans zq4 zq1) zq0 bv49na0_6.1 bv49na0_6.2 bv49na0_8.1 bv49na0_8.2 bv49na0_9.1 bv49na0_9.2 bv49na0_10.1 bv49na0_10.2 bv49na0_5_0.1 bv49na0_5_0.2 bv49na0_5_4.1 bv49na0_5_4.2 bv49na0_5_5.1 bv49na0_5_5.2 bv49na0_5_6.1 bv49na0_5_6.2 bv49na0_5_7.1 bv49na0_5_7.2 bv49na0_5_9.1 bv49na0_5_9.2 bv49na0_5_14_0.1 bv49na0_5_14_0.2 bv49nfa0_5_14_2 bv49nfa0_5_14_3 bv49nfa0_5_13 (by rw [show (1 : Int32).toInt = 1 from by decide]; exact hF0) hP hD hS (lv_sub hl [2, 1, 0] rfl))
  · subst hw
    have hF0 := hF0.trans (if_neg (by decide))
    refine lv_istore_n (lv' := [(2, .int 0), (0, .ref a0), (1, .int a1)]) hx hb dX3_read_52 rfl hl (by decide) rfl (fun ls hl => ?_)
    refine lv_iconst (v := 1) hx hb dX3_read_53 zk_iconst_1 ?_
    refine lv_istore_n (lv' := [(3, .int 1), (2, .int 0), (0, .ref a0), (1, .int a1)]) hx hb dX3_read_54 rfl hl (by decide) rfl (fun ls hl => ?_)
    have J55 : ∀ (n : Nat) (j55l3 : Int32) (j55l2 : Int32) (j55a0_1 : Int32) (j55a0_2 : Int32) (j55a0_6 : Int32) (j55a0_8 : Int32) (j55a0_9 : Int32) (j55a0_10 : Int32) (j55a0_11 : Int64) (j55a0_12 : Int32) (j55a0_13 : Int32) (j55a0_5_0 : Int32) (j55a0_5_1 : Int32) (j55a0_5_2 : Int32) (j55a0_5_3 : Int32) (j55a0_5_4 : Int32) (j55a0_5_5 : Int32) (j55a0_5_6 : Int32) (j55a0_5_7 : Int32) (j55a0_5_8 : Int32) (j55a0_5_9 : Int32) (j55a0_5_14_0 : Int32) (j55a0_5_10_a : Nat → Int32) (j55a0_5_11_a : Nat → Int32) (j55a0_4_a : Nat → Int64) (j55a0_5_14_2_a : Nat → Int32) (j55a0_5_14_3_a : Nat → Int32) (j55a0_5_13_a : Nat → Int32) (j55a0_5_12_a : Nat → Int32) (H : Heap) (locs : List Loc) (ls : Array Slot), (901 : Int) - j55l3.toInt ≤ (n : Int) → (1 : Int) ≤ j55l3.toInt → j55l3.toInt ≤ (900 : Int) → (0 : Int) ≤ j55l2.toInt → j55l2.toInt ≤ (1 : Int) → (0 : Int) ≤ j55a0_6.toInt → j55a0_6.toInt ≤ (12 : Int) → (0 : Int) ≤ j55a0_8.toInt → j55a0_8.toInt ≤ (900 : Int) → (0 : Int) ≤ j55a0_9.toInt → j55a0_9.toInt ≤ (900 : Int) → (0 : Int) ≤ j55a0_10.toInt → j55a0_10.toInt ≤ (4 : Int) → (0 : Int) ≤ j55a0_5_0.toInt → j55a0_5_0.toInt ≤ (9 : Int) → (0 : Int) ≤ j55a0_5_4.toInt → j55a0_5_4.toInt ≤ (1 : Int) → (0 : Int) ≤ j55a0_5_5.toInt → j55a0_5_5.toInt ≤ (8 : Int) → (0 : Int) ≤ j55a0_5_6.toInt → j55a0_5_6.toInt ≤ (8 : Int) → (0 : Int) ≤ j55a0_5_7.toInt → j55a0_5_7.toInt ≤ (8 : Int) → (0 : Int) ≤ j55a0_5_9.toInt → j55a0_5_9.toInt ≤ (6 : Int) → (0 : Int) ≤ j55a0_5_14_0.toInt → j55a0_5_14_0.toInt ≤ (3 : Int) → (∀ k, (0 : Int) ≤ (j55a0_5_14_2_a k).toInt ∧ (j55a0_5_14_2_a k).toInt ≤ 80) → (∀ k, (0 : Int) ≤ (j55a0_5_14_3_a k).toInt ∧ (j55a0_5_14_3_a k).toInt ≤ 80) → (∀ k, (0 : Int) ≤ (j55a0_5_13_a k).toInt ∧ (j55a0_5_13_a k).toInt ≤ 999) → (FX = fl_wh (fun t9 => Sf_X3_read_55_2 (fl_A fa0_3) x6.toInt t9.1 t9.2.1 t9.2.2.1 t9.2.2.2.1 t9.2.2.2.2.1 t9.2.2.2.2.2.1 t9.2.2.2.2.2.2.1 t9.2.2.2.2.2.2.2.1 t9.2.2.2.2.2.2.2.2.1 t9.2.2.2.2.2.2.2.2.2.1 t9.2.2.2.2.2.2.2.2.2.2.1 t9.2.2.2.2.2.2.2.2.2.2.2.1 t9.2.2.2.2.2.2.2.2.2.2.2.2.1 t9.2.2.2.2.2.2.2.2.2.2.2.2.2.1 t9.2.2.2.2.2.2.2.2.2.2.2.2.2.2.1 t9.2.2.2.2.2.2.2.2.2.2.2.2.2.2.2.1 t9.2.2.2.2.2.2.2.2.2.2.2.2.2.2.2.2.1 t9.2.2.2.2.2.2.2.2.2.2.2.2.2.2.2.2.2.1 t9.2.2.2.2.2.2.2.2.2.2.2.2.2.2.2.2.2.2.1 t9.2.2.2.2.2.2.2.2.2.2.2.2.2.2.2.2.2.2.2.1 t9.2.2.2.2.2.2.2.2.2.2.2.2.2.2.2.2.2.2.2.2.1 t9.2.2.2.2.2.2.2.2.2.2.2.2.2.2.2.2.2.2.2.2.2.1 t9.2.2.2.2.2.2.2.2.2.2.2.2.2.2.2.2.2.2.2.2.2.2.1 t9.2.2.2.2.2.2.2.2.2.2.2.2.2.2.2.2.2.2.2.2.2.2.2.1 t9.2.2.2.2.2.2.2.2.2.2.2.2.2.2.2.2.2.2.2.2.2.2.2.2.1 t9.2.2.2.2.2.2.2.2.2.2.2.2.2.2.2.2.2.2.2.2.2.2.2.2.2.1 t9.2.2.2.2.2.2.2.2.2.2.2.2.2.2.2.2.2.2.2.2.2.2.2.2.2.2.1 t9.2.2.2.2.2.2.2.2.2.2.2.2.2.2.2.2.2.2.2.2.2.2.2.2.2.2.2.1 t9.2.2.2.2.2.2.2.2.2.2.2.2.2.2.2.2.2.2.2.2.2.2.2.2.2.2.2.2) (0, 0, 0, 0, 0, 0, 0, 0, 0, 0, 0, 0, 0, 0, 0, 0, 0, 0, 0, 0, 0, 0, (fun _ => 0), (fun _ => 0), (fun _ => 0), (fun _ => 0), (fun _ => 0), (fun _ => 0), (fun _ => 0)) n (j55l3.toInt, j55l2.toInt, j55a0_1.toInt, j55a0_2.toInt, j55a0_6.toInt, j55a0_8.toInt, j55a0_9.toInt, j55a0_10.toInt, j55a0_11.toInt, j55a0_12.toInt, j55a0_13.toInt, j55a0_5_0.toInt, j55a0_5_1.toInt, j55a0_5_2.toInt, j55a0_5_3.toInt, j55a0_5_4.toInt, j55a0_5_5.toInt, j55a0_5_6.toInt, j55a0_5_7.toInt, j55a0_5_8.toInt, j55a0_5_9.toInt, j55a0_5_14_0.toInt, (fl_A j55a0_5_10_a), (fl_A j55a0_5_11_a), (fl_L j55a0_4_a), (fl_A j55a0_5_14_2_a), (fl_A j55a0_5_14_3_a), (fl_A j55a0_5_13_a), (fl_A j55a0_5_12_a))) → va_P (dC, dI) vwCl [(a0, .inr (3, [.int 0, .int j55a0_1, .int j55a0_2, .ref a0_3, .ref a0_4, .ref a0_5, .int j55a0_6, .int x6, .int j55a0_8, .int j55a0_9, .int j55a0_10, .long j55a0_11, .int j55a0_12, .int j55a0_13])), (a0_5, .inr (0, [.int j55a0_5_0, .int j55a0_5_1, .int j55a0_5_2, .int j55a0_5_3, .int j55a0_5_4, .int j55a0_5_5, .int j55a0_5_6, .int j55a0_5_7, .int j55a0_5_8, .int j55a0_5_9, .ref a0_5_10, .ref a0_5_11, .ref a0_5_12, .ref a0_5_13, .ref a0_5_14])), (a0_5_14, .inr (6, [.int j55a0_5_14_0, a0_5_14g_1, .ref a0_5_14_2, .ref a0_5_14_3])), (a0_5_10, .inl (ka0_5_10, 9, .inl (j55a0_5_10_a))), (a0_5_11, .inl (ka0_5_11, 9, .inl (j55a0_5_11_a))), (a0_3, .inl (ka0_3, 900, .inl (fa0_3))), (a0_4, .inl (ka0_4, 12, .inr (.inl (j55a0_4_a)))), (a0_5_14_2, .inl (ka0_5_14_2, 3, .inl (j55a0_5_14_2_a))), (a0_5_14_3, .inl (ka0_5_14_3, 3, .inl (j55a0_5_14_3_a))), (a0_5_13, .inl (ka0_5_13, 6, .inl (j55a0_5_13_a))), (a0_5_12, .inl (ka0_5_12, 6, .inl (j55a0_5_12_a)))] H → va_D A [(a0, .inr (3, [.int 0, .int j55a0_1, .int j55a0_2, .ref a0_3, .ref a0_4, .ref a0_5, .int j55a0_6, .int x6, .int j55a0_8, .int j55a0_9, .int j55a0_10, .long j55a0_11, .int j55a0_12, .int j55a0_13])), (a0_5, .inr (0, [.int j55a0_5_0, .int j55a0_5_1, .int j55a0_5_2, .int j55a0_5_3, .int j55a0_5_4, .int j55a0_5_5, .int j55a0_5_6, .int j55a0_5_7, .int j55a0_5_8, .int j55a0_5_9, .ref a0_5_10, .ref a0_5_11, .ref a0_5_12, .ref a0_5_13, .ref a0_5_14])), (a0_5_14, .inr (6, [.int j55a0_5_14_0, a0_5_14g_1, .ref a0_5_14_2, .ref a0_5_14_3])), (a0_5_10, .inl (ka0_5_10, 9, .inl (j55a0_5_10_a))), (a0_5_11, .inl (ka0_5_11, 9, .inl (j55a0_5_11_a))), (a0_3, .inl (ka0_3, 900, .inl (fa0_3))), (a0_4, .inl (ka0_4, 12, .inr (.inl (j55a0_4_a)))), (a0_5_14_2, .inl (ka0_5_14_2, 3, .inl (j55a0_5_14_2_a))), (a0_5_14_3, .inl (ka0_5_14_3, 3, .inl (j55a0_5_14_3_a))), (a0_5_13, .inl (ka0_5_13, 6, .inl (j55a0_5_13_a))), (a0_5_12, .inl (ka0_5_12, 6, .inl (j55a0_5_12_a)))] → va_S A s.heap H locs → lv_has ls 4 [(0, .ref a0), (2, .int j55l2), (3, .int j55l3)] → K H locs (F0 m 55 ls []) := by
      intro n
      induction n with
      | zero =>
        intro j55l3 j55l2 j55a0_1 j55a0_2 j55a0_6 j55a0_8 j55a0_9 j55a0_10 j55a0_11 j55a0_12 j55a0_13 j55a0_5_0 j55a0_5_1 j55a0_5_2 j55a0_5_3 j55a0_5_4 j55a0_5_5 j55a0_5_6 j55a0_5_7 j55a0_5_8 j55a0_5_9 j55a0_5_14_0 j55a0_5_10_a j55a0_5_11_a j55a0_4_a j55a0_5_14_2_a j55a0_5_14_3_a j55a0_5_13_a j55a0_5_12_a H locs ls hm bj55l3_l bj55l3_u bj55l2_l bj55l2_u bj55a0_6_l bj55a0_6_u bj55a0_8_l bj55a0_8_u bj55a0_9_l bj55a0_9_u bj55a0_10_l bj55a0_10_u bj55a0_5_0_l bj55a0_5_0_u bj55a0_5_4_l bj55a0_5_4_u bj55a0_5_5_l bj55a0_5_5_u bj55a0_5_6_l bj55a0_5_6_u bj55a0_5_7_l bj55a0_5_7_u bj55a0_5_9_l bj55a0_5_9_u bj55a0_5_14_0_l bj55a0_5_14_0_u bj55a0_5_14_2_a bj55a0_5_14_3_a bj55a0_5_13_a hF0 hP hD hS hl
        first | exact zg_0 hm bj55l3_u (by decide) | (have h8 := ai_min j55l3; have h9 := ai_max j55l3; exact absurd hm (by omega))
      | succ n ih55 =>
        intro j55l3 j55l2 j55a0_1 j55a0_2 j55a0_6 j55a0_8 j55a0_9 j55a0_10 j55a0_11 j55a0_12 j55a0_13 j55a0_5_0 j55a0_5_1 j55a0_5_2 j55a0_5_3 j55a0_5_4 j55a0_5_5 j55a0_5_6 j55a0_5_7 j55a0_5_8 j55a0_5_9 j55a0_5_14_0 j55a0_5_10_a j55a0_5_11_a j55a0_4_a j55a0_5_14_2_a j55a0_5_14_3_a j55a0_5_13_a j55a0_5_12_a H locs ls hm bj55l3_l bj55l3_u bj55l2_l bj55l2_u bj55a0_6_l bj55a0_6_u bj55a0_8_l bj55a0_8_u bj55a0_9_l bj55a0_9_u bj55a0_10_l bj55a0_10_u bj55a0_5_0_l bj55a0_5_0_u bj55a0_5_4_l bj55a0_5_4_u bj55a0_5_5_l bj55a0_5_5_u bj55a0_5_6_l bj55a0_5_6_u bj55a0_5_7_l bj55a0_5_7_u bj55a0_5_9_l bj55a0_5_9_u bj55a0_5_14_0_l bj55a0_5_14_0_u bj55a0_5_14_2_a bj55a0_5_14_3_a bj55a0_5_13_a hF0 hP hD hS hl
        refine (hK0 _ _ _).mpr ?_
        have hm55 := hm
        obtain ⟨SX55, hSX55⟩ : ∃ q9, Sf_X3_read_55_2 (fl_A fa0_3) x6.toInt j55l3.toInt j55l2.toInt j55a0_1.toInt j55a0_2.toInt j55a0_6.toInt j55a0_8.toInt j55a0_9.toInt j55a0_10.toInt j55a0_11.toInt j55a0_12.toInt j55a0_13.toInt j55a0_5_0.toInt j55a0_5_1.toInt j55a0_5_2.toInt j55a0_5_3.toInt j55a0_5_4.toInt j55a0_5_5.toInt j55a0_5_6.toInt j55a0_5_7.toInt j55a0_5_8.toInt j55a0_5_9.toInt j55a0_5_14_0.toInt (fl_A j55a0_5_10_a) (fl_A j55a0_5_11_a) (fl_L j55a0_4_a) (fl_A j55a0_5_14_2_a) (fl_A j55a0_5_14_3_a) (fl_A j55a0_5_13_a) (fl_A j55a0_5_12_a) = q9 := ⟨_, rfl⟩
        have hF1 := hSX55.symm.trans (Sf_X3_read_55_2.eq_1 (fl_A fa0_3) x6.toInt j55l3.toInt j55l2.toInt j55a0_1.toInt j55a0_2.toInt j55a0_6.toInt j55a0_8.toInt j55a0_9.toInt j55a0_10.toInt j55a0_11.toInt j55a0_12.toInt j55a0_13.toInt j55a0_5_0.toInt j55a0_5_1.toInt j55a0_5_2.toInt j55a0_5_3.toInt j55a0_5_4.toInt j55a0_5_5.toInt j55a0_5_6.toInt j55a0_5_7.toInt j55a0_5_8.toInt j55a0_5_9.toInt j55a0_5_14_0.toInt (fl_A j55a0_5_10_a) (fl_A j55a0_5_11_a) (fl_L j55a0_4_a) (fl_A j55a0_5_14_2_a) (fl_A j55a0_5_14_3_a) (fl_A j55a0_5_13_a) (fl_A j55a0_5_12_a))
        refine lv_iload_n hx hb dX3_read_55 rfl (lv_at hl 1 rfl) ?_
        have J89 : ∀ (H : Heap) (locs : List Loc) (ls : Array Slot), (FX = Gf_X3_read_89_2 x6.toInt j55l2.toInt j55a0_1.toInt j55a0_2.toInt j55a0_6.toInt j55a0_8.toInt j55a0_9.toInt j55a0_10.toInt j55a0_11.toInt j55a0_12.toInt j55a0_13.toInt j55a0_5_0.toInt j55a0_5_1.toInt j55a0_5_2.toInt j55a0_5_3.toInt j55a0_5_4.toInt j55a0_5_5.toInt j55a0_5_6.toInt j55a0_5_7.toInt j55a0_5_8.toInt j55a0_5_9.toInt j55a0_5_14_0.toInt (fl_A j55a0_5_10_a) (fl_A j55a0_5_11_a) (fl_L j55a0_4_a) (fl_A j55a0_5_14_2_a) (fl_A j55a0_5_14_3_a) (fl_A j55a0_5_13_a) (fl_A j55a0_5_12_a)) → va_P (dC, dI) vwCl [(a0, .inr (3, [.int 0, .int j55a0_1, .int j55a0_2, .ref a0_3, .ref a0_4, .ref a0_5, .int j55a0_6, .int x6, .int j55a0_8, .int j55a0_9, .int j55a0_10, .long j55a0_11, .int j55a0_12, .int j55a0_13])), (a0_5, .inr (0, [.int j55a0_5_0, .int j55a0_5_1, .int j55a0_5_2, .int j55a0_5_3, .int j55a0_5_4, .int j55a0_5_5, .int j55a0_5_6, .int j55a0_5_7, .int j55a0_5_8, .int j55a0_5_9, .ref a0_5_10, .ref a0_5_11, .ref a0_5_12, .ref a0_5_13, .ref a0_5_14])), (a0_5_14, .inr (6, [.int j55a0_5_14_0, a0_5_14g_1, .ref a0_5_14_2, .ref a0_5_14_3])), (a0_5_10, .inl (ka0_5_10, 9, .inl (j55a0_5_10_a))), (a0_5_11, .inl (ka0_5_11, 9, .inl (j55a0_5_11_a))), (a0_3, .inl (ka0_3, 900, .inl (fa0_3))), (a0_4, .inl (ka0_4, 12, .inr (.inl (j55a0_4_a)))), (a0_5_14_2, .inl (ka0_5_14_2, 3, .inl (j55a0_5_14_2_a))), (a0_5_14_3, .inl (ka0_5_14_3, 3, .inl (j55a0_5_14_3_a))), (a0_5_13, .inl (ka0_5_13, 6, .inl (j55a0_5_13_a))), (a0_5_12, .inl (ka0_5_12, 6, .inl (j55a0_5_12_a)))] H → va_D A [(a0, .inr (3, [.int 0, .int j55a0_1, .int j55a0_2, .ref a0_3, .ref a0_4, .ref a0_5, .int j55a0_6, .int x6, .int j55a0_8, .int j55a0_9, .int j55a0_10, .long j55a0_11, .int j55a0_12, .int j55a0_13])), (a0_5, .inr (0, [.int j55a0_5_0, .int j55a0_5_1, .int j55a0_5_2, .int j55a0_5_3, .int j55a0_5_4, .int j55a0_5_5, .int j55a0_5_6, .int j55a0_5_7, .int j55a0_5_8, .int j55a0_5_9, .ref a0_5_10, .ref a0_5_11, .ref a0_5_12, .ref a0_5_13, .ref a0_5_14])), (a0_5_14, .inr (6, [.int j55a0_5_14_0, a0_5_14g_1, .ref a0_5_14_2, .ref a0_5_14_3])), (a0_5_10, .inl (ka0_5_10, 9, .inl (j55a0_5_10_a))), (a0_5_11, .inl (ka0_5_11, 9, .inl (j55a0_5_11_a))), (a0_3, .inl (ka0_3, 900, .inl (fa0_3))), (a0_4, .inl (ka0_4, 12, .inr (.inl (j55a0_4_a)))), (a0_5_14_2, .inl (ka0_5_14_2, 3, .inl (j55a0_5_14_2_a))), (a0_5_14_3, .inl (ka0_5_14_3, 3, .inl (j55a0_5_14_3_a))), (a0_5_13, .inl (ka0_5_13, 6, .inl (j55a0_5_13_a))), (a0_5_12, .inl (ka0_5_12, 6, .inl (j55a0_5_12_a)))] → va_S A s.heap H locs → lv_has ls 4 [(0, .ref a0), (2, .int j55l2)] → K H locs (F0 m 89 ls []) := by
          intro  H locs ls  hF0 hP hD hS hl
          refine (hK0 _ _ _).mpr ?_
          have hF0 := hF0.trans (Gf_X3_read_89_2.eq_1 x6.toInt j55l2.toInt j55a0_1.toInt j55a0_2.toInt j55a0_6.toInt j55a0_8.toInt j55a0_9.toInt j55a0_10.toInt j55a0_11.toInt j55a0_12.toInt j55a0_13.toInt j55a0_5_0.toInt j55a0_5_1.toInt j55a0_5_2.toInt j55a0_5_3.toInt j55a0_5_4.toInt j55a0_5_5.toInt j55a0_5_6.toInt j55a0_5_7.toInt j55a0_5_8.toInt j55a0_5_9.toInt j55a0_5_14_0.toInt (fl_A j55a0_5_10_a) (fl_A j55a0_5_11_a) (fl_L j55a0_4_a) (fl_A j55a0_5_14_2_a) (fl_A j55a0_5_14_3_a) (fl_A j55a0_5_13_a) (fl_A j55a0_5_12_a))
          refine lv_iload_n hx hb dX3_read_89 rfl (lv_at hl 1 rfl) ?_
          refine lv_if_ne (tgt := 95) hx hb dX3_read_90 (by decide) (fun c90 => ?_) (fun c90 => ?_)
          · have gc90 := ai_ne c90
            have l90t_j55l2 : (1 : Int) ≤ j55l2.toInt := (by first | exact zg_l bj55l2_l gc90 (by decide) (by decide) | (have h1 := bj55l2_l; have h2 : (0 : Int32).toInt = 0 := (by decide); rw [h2] at gc90; omega))
            have hF0 := hF0.trans (if_neg (show ¬ (j55l2.toInt = 0) from  gc90))
            refine lv_aload_n hx hb dX3_read_95 rfl (lv_at hl 0 rfl) ?_
            refine va_get (D := (dC, dI)) (ci := 3) (v := .int j55a0_10) (C := RX3) (T := TX3) (N := 14) hx hb hts zi_X3_read_3 hown hK hP 0 rfl rfl 10 (by decide) (hts (.fieldLink RX3 61 "WaxTurns$Reade\x72" "token" "I") (zm_X3_read_r1 (List.mem_of_getElem? (i := 11) rfl))) (fun _ h9 => h9) rfl dX3_read_96 ?_
            refine lv_if_eq (tgt := 108) hx hb dX3_read_99 (by decide) (fun c99 => ?_) (fun c99 => ?_)
            · have gc99 := ai_eq c99
              have u99t_j55a0_10 : j55a0_10.toInt ≤ (0 : Int) := Int.le_trans (Int.le_of_eq gc99) zq6
              have l99t_j55a0_10 : (0 : Int) ≤ j55a0_10.toInt := bj55a0_10_l
              have hF0 := hF0.trans (if_pos (show j55a0_10.toInt = 0 from gc99))
              refine lv_aload_n hx hb dX3_read_108 rfl (lv_at hl 0 rfl) ?_
              refine va_get (D := (dC, dI)) (ci := 3) (v := .ref a0_5) (C := RX3) (T := TX3) (N := 14) hx hb hts zi_X3_read_3 hown hK hP 0 rfl rfl 5 (by decide) (hts (.fieldLink RX3 22 "WaxTurns$Reade\x72" "draft" "LWaxTurns$Hall;") (zm_X3_read_r1 (List.mem_of_getElem? (i := 6) rfl))) (fun _ h9 => h9) rfl dX3_read_109 ?_
              refine va_get (D := (dC, dI)) (ci := 0) (v := .int j55a0_5_4) (C := RX0) (T := TX0) (N := 15) hx hb hts zi_X3_read_0 hown hK hP 1 rfl rfl 4 (by decide) (hts (.fieldLink RX3 68 "WaxTurns$Hall" "lawTold" "Z") (zm_X3_read_r1 (List.mem_of_getElem? (i := 12) rfl))) (fun _ h9 => h9) rfl dX3_read_112 ?_
              refine lv_if_ne (tgt := 127) hx hb dX3_read_115 (by decide) (fun c115 => ?_) (fun c115 => ?_)
              · have gc115 := ai_ne c115
                have l115t_j55a0_5_4 : (1 : Int) ≤ j55a0_5_4.toInt := (by first | exact zg_l bj55a0_5_4_l gc115 (by decide) (by decide) | (have h1 := bj55a0_5_4_l; have h2 : (0 : Int32).toInt = 0 := (by decide); rw [h2] at gc115; omega))
                have hF0 := hF0.trans (if_neg (show ¬ (j55a0_5_4.toInt = 0) from  gc115))
                refine lv_iconst (v := 1) hx hb dX3_read_127 zk_iconst_1 ?_
                refine lv_goto (tgt := 132) hx hb dX3_read_128 (by decide) ?_
                have hFe : FX = (1, j55a0_1.toInt, j55a0_2.toInt, j55a0_6.toInt, x6.toInt, j55a0_8.toInt, j55a0_9.toInt, j55a0_10.toInt, j55a0_11.toInt, j55a0_12.toInt, j55a0_13.toInt, j55a0_5_0.toInt, j55a0_5_1.toInt, j55a0_5_2.toInt, j55a0_5_3.toInt, j55a0_5_4.toInt, j55a0_5_5.toInt, j55a0_5_6.toInt, j55a0_5_7.toInt, j55a0_5_8.toInt, j55a0_5_9.toInt, j55a0_5_14_0.toInt, (fl_A j55a0_5_10_a), (fl_A j55a0_5_11_a), (fl_L j55a0_4_a), (fl_A j55a0_5_14_2_a), (fl_A j55a0_5_14_3_a), (fl_A j55a0_5_13_a), (fl_A j55a0_5_12_a)) := hF0
                exact W.zret (v := 1) hx hb hr rfl (fun t ht hW => ⟨⟨1, (), rfl, ⟨(Or.inl (rfl)), (congrArg Prod.fst hFe).symm⟩, j55a0_1, j55a0_2, j55a0_6, x6, j55a0_8, j55a0_9, j55a0_10, j55a0_11, j55a0_12, j55a0_13, j55a0_5_0, j55a0_5_1, j55a0_5_2, j55a0_5_3, j55a0_5_4, j55a0_5_5, j55a0_5_6, j55a0_5_7, j55a0_5_8, j55a0_5_9, j55a0_5_14_0, j55a0_5_10_a, j55a0_5_11_a, j55a0_4_a, j55a0_5_14_2_a, j55a0_5_14_3_a, j55a0_5_13_a, j55a0_5_12_a, ⟨bj55a0_6_l, bj55a0_6_u⟩, ⟨bx6.1, bx6.2⟩, ⟨bj55a0_8_l, bj55a0_8_u⟩, ⟨bj55a0_9_l, bj55a0_9_u⟩, ⟨l99t_j55a0_10, Int.le_trans u99t_j55a0_10 (by decide)⟩, ⟨bj55a0_5_0_l, bj55a0_5_0_u⟩, ⟨Int.le_trans (by decide) l115t_j55a0_5_4, bj55a0_5_4_u⟩, ⟨bj55a0_5_5_l, bj55a0_5_5_u⟩, ⟨bj55a0_5_6_l, bj55a0_5_6_u⟩, ⟨bj55a0_5_7_l, bj55a0_5_7_u⟩, ⟨bj55a0_5_9_l, bj55a0_5_9_u⟩, ⟨bj55a0_5_14_0_l, bj55a0_5_14_0_u⟩, bj55a0_5_14_2_a, bj55a0_5_14_3_a, bj55a0_5_13_a, (congrArg Prod.snd hFe), by rw [ht]; exact hP, va_K.moved hW.alike hK, hD⟩, hS.F ht⟩) hS.2.2 dX3_read_132
              · have gc115 := ai_eq c115
                have u115f_j55a0_5_4 : j55a0_5_4.toInt ≤ (0 : Int) := Int.le_trans (Int.le_of_eq gc115) zq6
                have l115f_j55a0_5_4 : (0 : Int) ≤ j55a0_5_4.toInt := bj55a0_5_4_l
                have hF0 := hF0.trans (if_pos (show j55a0_5_4.toInt = 0 from gc115))
                refine lv_aload_n hx hb dX3_read_118 rfl (lv_at hl 0 rfl) ?_
                refine lv_bipush (v := 6) hx hb dX3_read_119 zk_bipush_6 ?_
                refine va_calli (va_runV (As := [.int 6]) (rest := []) ⟨hx, hb, hml, hown, hts⟩ (f_X3_fails l dC dI H.size a0 6 (.int 0) (.ref a0_3) (.ref a0_4) (.ref a0_5) (.int j55a0_6) (.int x6) (.int j55a0_9) (.int j55a0_10) (.long j55a0_11) (.int j55a0_12) (.int j55a0_13) j55a0_1 j55a0_2 j55a0_8 bj55a0_8_l bj55a0_8_u) (cwV 1 hts gX3_read_X3_fails rfl rfl rfl zd_X3_fails ⟨Nat.le_of_ble_eq_true rfl, Nat.le_of_ble_eq_true rfl⟩) ⟨ax_blind (fun _ _ _ _ _ => trivial), zr_3 (zp_K hK) (zp_P1 hP) (q0 := 0) rfl, ax_pre (zp_P1 hP) (zp_K hK) (zp_D1 hD) (fun _ _ => trivial)⟩ rfl rfl hl.1 rfl (lv_room (Nat.le_of_ble_eq_true rfl)) dX3_read_121 ⟨Nat.le_of_ble_eq_true rfl, Nat.le_of_ble_eq_true rfl⟩) hS (fun q _ h => zp_F1 hD hS hA q h) (zp_F1 hD hS hA) (fun r121 u t H locs ht hvm hw => zx_2 (fun v121na0_1 v121na0_2 => zy_1 (fun hraw121_0 hB hz1 hk1 hS1 => zo1 hB ht hP hD hk1 (zp_F1 hD hS hA) hS1 (fun hP hK1 hD hS => ?_))))
                obtain ⟨hw, hfr121⟩ := hw
                rw [show (6 : Int32).toInt = 6 from by decide] at hfr121 hraw121_0
                have hc121 : Ff_X3_fails 6 j55a0_8.toInt = (r121.toInt, v121na0_1.toInt, v121na0_2.toInt) := Prod.ext hfr121.symm hraw121_0
                have hF0 := hF0.trans (fl_c3_eq hc121)
                have hw : r121 = 0 := hw
                have hw := hw.symm
                subst hw
                refine lv_if_eq (tgt := 131) hx hb dX3_read_124 (by decide) (fun _ => ?_) (fun c124 => absurd (by decide +kernel) c124)
                refine lv_iconst (v := 0) hx hb dX3_read_131 zk_iconst_0 ?_
                have hFe : FX = (0, v121na0_1.toInt, v121na0_2.toInt, j55a0_6.toInt, x6.toInt, j55a0_8.toInt, j55a0_9.toInt, j55a0_10.toInt, j55a0_11.toInt, j55a0_12.toInt, j55a0_13.toInt, j55a0_5_0.toInt, j55a0_5_1.toInt, j55a0_5_2.toInt, j55a0_5_3.toInt, j55a0_5_4.toInt, j55a0_5_5.toInt, j55a0_5_6.toInt, j55a0_5_7.toInt, j55a0_5_8.toInt, j55a0_5_9.toInt, j55a0_5_14_0.toInt, (fl_A j55a0_5_10_a), (fl_A j55a0_5_11_a), (fl_L j55a0_4_a), (fl_A j55a0_5_14_2_a), (fl_A j55a0_5_14_3_a), (fl_A j55a0_5_13_a), (fl_A j55a0_5_12_a)) := hF0
                exact W.zret (v := 0) hx hb hr rfl (fun t ht hW => ⟨⟨0, (), rfl, ⟨(Or.inr (rfl)), (congrArg Prod.fst hFe).symm⟩, v121na0_1, v121na0_2, j55a0_6, x6, j55a0_8, j55a0_9, j55a0_10, j55a0_11, j55a0_12, j55a0_13, j55a0_5_0, j55a0_5_1, j55a0_5_2, j55a0_5_3, j55a0_5_4, j55a0_5_5, j55a0_5_6, j55a0_5_7, j55a0_5_8, j55a0_5_9, j55a0_5_14_0, j55a0_5_10_a, j55a0_5_11_a, j55a0_4_a, j55a0_5_14_2_a, j55a0_5_14_3_a, j55a0_5_13_a, j55a0_5_12_a, ⟨bj55a0_6_l, bj55a0_6_u⟩, ⟨bx6.1, bx6.2⟩, ⟨bj55a0_8_l, bj55a0_8_u⟩, ⟨bj55a0_9_l, bj55a0_9_u⟩, ⟨l99t_j55a0_10, Int.le_trans u99t_j55a0_10 (by decide)⟩, ⟨bj55a0_5_0_l, bj55a0_5_0_u⟩, ⟨l115f_j55a0_5_4, Int.le_trans u115f_j55a0_5_4 (by decide)⟩, ⟨bj55a0_5_5_l, bj55a0_5_5_u⟩, ⟨bj55a0_5_6_l, bj55a0_5_6_u⟩, ⟨bj55a0_5_7_l, bj55a0_5_7_u⟩, ⟨bj55a0_5_9_l, bj55a0_5_9_u⟩, ⟨bj55a0_5_14_0_l, bj55a0_5_14_0_u⟩, bj55a0_5_14_2_a, bj55a0_5_14_3_a, bj55a0_5_13_a, (congrArg Prod.snd hFe), by rw [ht]; exact hP, va_K.moved hW.alike hK, hD⟩, hS.F ht⟩) hS.2.2 dX3_read_132
            · have gc99 := ai_ne c99
              have l99f_j55a0_10 : (1 : Int) ≤ j55a0_10.toInt := (by first | exact zg_l bj55a0_10_l gc99 (by decide) (by decide) | (have h1 := bj55a0_10_l; have h2 : (0 : Int32).toInt = 0 := (by decide); rw [h2] at gc99; omega))
              have hF0 := hF0.trans (if_neg (show ¬ (j55a0_10.toInt = 0) from  gc99))
              refine lv_aload_n hx hb dX3_read_102 rfl (lv_at hl 0 rfl) ?_
              refine lv_iconst (v := 1) hx hb dX3_read_103 zk_iconst_1 ?_
              refine va_calli (va_runV (As := [.int 1]) (rest := []) ⟨hx, hb, hml, hown, hts⟩ (f_X3_fails l dC dI H.size a0 1 (.int 0) (.ref a0_3) (.ref a0_4) (.ref a0_5) (.int j55a0_6) (.int x6) (.int j55a0_9) (.int j55a0_10) (.long j55a0_11) (.int j55a0_12) (.int j55a0_13) j55a0_1 j55a0_2 j55a0_8 bj55a0_8_l bj55a0_8_u) (cwV 1 hts gX3_read_X3_fails rfl rfl rfl zd_X3_fails ⟨Nat.le_of_ble_eq_true rfl, Nat.le_of_ble_eq_true rfl⟩) ⟨ax_blind (fun _ _ _ _ _ => trivial), zr_3 (zp_K hK) (zp_P1 hP) (q0 := 0) rfl, ax_pre (zp_P1 hP) (zp_K hK) (zp_D1 hD) (fun _ _ => trivial)⟩ rfl rfl hl.1 rfl (lv_room (Nat.le_of_ble_eq_true rfl)) dX3_read_104 ⟨Nat.le_of_ble_eq_true rfl, Nat.le_of_ble_eq_true rfl⟩) hS (fun q _ h => zp_F1 hD hS hA q h) (zp_F1 hD hS hA) (fun r104 u t H locs ht hvm hw => zx_2 (fun v104na0_1 v104na0_2 => zy_1 (fun hraw104_0 hB hz1 hk1 hS1 => zo1 hB ht hP hD hk1 (zp_F1 hD hS hA) hS1 (fun hP hK1 hD hS => ?_))))
              obtain ⟨hw, hfr104⟩ := hw
              rw [show (1 : Int32).toInt = 1 from by decide] at hfr104 hraw104_0
              have hc104 : Ff_X3_fails 1 j55a0_8.toInt = (r104.toInt, v104na0_1.toInt, v104na0_2.toInt) := Prod.ext hfr104.symm hraw104_0
              have hF0 := hF0.trans (fl_c3_eq hc104)
              have hw : r104 = 0 := hw
              have hw := hw.symm
              subst hw
              have hFe : FX = (0, v104na0_1.toInt, v104na0_2.toInt, j55a0_6.toInt, x6.toInt, j55a0_8.toInt, j55a0_9.toInt, j55a0_10.toInt, j55a0_11.toInt, j55a0_12.toInt, j55a0_13.toInt, j55a0_5_0.toInt, j55a0_5_1.toInt, j55a0_5_2.toInt, j55a0_5_3.toInt, j55a0_5_4.toInt, j55a0_5_5.toInt, j55a0_5_6.toInt, j55a0_5_7.toInt, j55a0_5_8.toInt, j55a0_5_9.toInt, j55a0_5_14_0.toInt, (fl_A j55a0_5_10_a), (fl_A j55a0_5_11_a), (fl_L j55a0_4_a), (fl_A j55a0_5_14_2_a), (fl_A j55a0_5_14_3_a), (fl_A j55a0_5_13_a), (fl_A j55a0_5_12_a)) := hF0
              exact W.zret (v := 0) hx hb hr rfl (fun t ht hW => ⟨⟨0, (), rfl, ⟨(Or.inr (rfl)), (congrArg Prod.fst hFe).symm⟩, v104na0_1, v104na0_2, j55a0_6, x6, j55a0_8, j55a0_9, j55a0_10, j55a0_11, j55a0_12, j55a0_13, j55a0_5_0, j55a0_5_1, j55a0_5_2, j55a0_5_3, j55a0_5_4, j55a0_5_5, j55a0_5_6, j55a0_5_7, j55a0_5_8, j55a0_5_9, j55a0_5_14_0, j55a0_5_10_a, j55a0_5_11_a, j55a0_4_a, j55a0_5_14_2_a, j55a0_5_14_3_a, j55a0_5_13_a, j55a0_5_12_a, ⟨bj55a0_6_l, bj55a0_6_u⟩, ⟨bx6.1, bx6.2⟩, ⟨bj55a0_8_l, bj55a0_8_u⟩, ⟨bj55a0_9_l, bj55a0_9_u⟩, ⟨Int.le_trans (by decide) l99f_j55a0_10, bj55a0_10_u⟩, ⟨bj55a0_5_0_l, bj55a0_5_0_u⟩, ⟨bj55a0_5_4_l, bj55a0_5_4_u⟩, ⟨bj55a0_5_5_l, bj55a0_5_5_u⟩, ⟨bj55a0_5_6_l, bj55a0_5_6_u⟩, ⟨bj55a0_5_7_l, bj55a0_5_7_u⟩, ⟨bj55a0_5_9_l, bj55a0_5_9_u⟩, ⟨bj55a0_5_14_0_l, bj55a0_5_14_0_u⟩, bj55a0_5_14_2_a, bj55a0_5_14_3_a, bj55a0_5_13_a, (congrArg Prod.snd hFe), by rw [ht]; exact hP, va_K.moved hW.alike hK, hD⟩, hS.F ht⟩) hS.2.2 dX3_read_107
          · have gc90 := ai_eq c90
            have u90f_j55l2 : j55l2.toInt ≤ (0 : Int) := Int.le_trans (Int.le_of_eq gc90) zq6
            have l90f_j55l2 : (0 : Int) ≤ j55l2.toInt := bj55l2_l
            have hF0 := hF0.trans (if_pos (show j55l2.toInt = 0 from gc90))
            refine lv_iconst (v := 0) hx hb dX3_read_93 zk_iconst_0 ?_
            have hFe : FX = (0, j55a0_1.toInt, j55a0_2.toInt, j55a0_6.toInt, x6.toInt, j55a0_8.toInt, j55a0_9.toInt, j55a0_10.toInt, j55a0_11.toInt, j55a0_12.toInt, j55a0_13.toInt, j55a0_5_0.toInt, j55a0_5_1.toInt, j55a0_5_2.toInt, j55a0_5_3.toInt, j55a0_5_4.toInt, j55a0_5_5.toInt, j55a0_5_6.toInt, j55a0_5_7.toInt, j55a0_5_8.toInt, j55a0_5_9.toInt, j55a0_5_14_0.toInt, (fl_A j55a0_5_10_a), (fl_A j55a0_5_11_a), (fl_L j55a0_4_a), (fl_A j55a0_5_14_2_a), (fl_A j55a0_5_14_3_a), (fl_A j55a0_5_13_a), (fl_A j55a0_5_12_a)) := hF0
            exact W.zret (v := 0) hx hb hr rfl (fun t ht hW => ⟨⟨0, (), rfl, ⟨(Or.inr (rfl)), (congrArg Prod.fst hFe).symm⟩, j55a0_1, j55a0_2, j55a0_6, x6, j55a0_8, j55a0_9, j55a0_10, j55a0_11, j55a0_12, j55a0_13, j55a0_5_0, j55a0_5_1, j55a0_5_2, j55a0_5_3, j55a0_5_4, j55a0_5_5, j55a0_5_6, j55a0_5_7, j55a0_5_8, j55a0_5_9, j55a0_5_14_0, j55a0_5_10_a, j55a0_5_11_a, j55a0_4_a, j55a0_5_14_2_a, j55a0_5_14_3_a, j55a0_5_13_a, j55a0_5_12_a, ⟨bj55a0_6_l, bj55a0_6_u⟩, ⟨bx6.1, bx6.2⟩, ⟨bj55a0_8_l, bj55a0_8_u⟩, ⟨bj55a0_9_l, bj55a0_9_u⟩, ⟨bj55a0_10_l, bj55a0_10_u⟩, ⟨bj55a0_5_0_l, bj55a0_5_0_u⟩, ⟨bj55a0_5_4_l, bj55a0_5_4_u⟩, ⟨bj55a0_5_5_l, bj55a0_5_5_u⟩, ⟨bj55a0_5_6_l, bj55a0_5_6_u⟩, ⟨bj55a0_5_7_l, bj55a0_5_7_u⟩, ⟨bj55a0_5_9_l, bj55a0_5_9_u⟩, ⟨bj55a0_5_14_0_l, bj55a0_5_14_0_u⟩, bj55a0_5_14_2_a, bj55a0_5_14_3_a, bj55a0_5_13_a, (congrArg Prod.snd hFe), by rw [ht]; exact hP, va_K.moved hW.alike hK, hD⟩, hS.F ht⟩) hS.2.2 dX3_read_94
        refine lv_if_eq (tgt := 89) hx hb dX3_read_56 (by decide) (fun c56 => ?_) (fun c56 => ?_)
        · have gc56 := ai_eq c56
          have u56t_j55l2 : j55l2.toInt ≤ (0 : Int) := Int.le_trans (Int.le_of_eq gc56) zq6
          have l56t_j55l2 : (0 : Int) ≤ j55l2.toInt := bj55l2_l
          have hF1 := hF1.trans (if_pos (show j55l2.toInt = 0 from gc56))
          have hF0 := hF0.trans (fl_wh_r (hSX55.trans hF1))
          exact (hK0 _ _ _).mp (J89  _ _ _   hF0 hP hD hS (lv_sub hl [0, 1] rfl))
        · have gc56 := ai_ne c56
          have l56f_j55l2 : (1 : Int) ≤ j55l2.toInt := (by first | exact zg_l bj55l2_l gc56 (by decide) (by decide) | (have h1 := bj55l2_l; have h2 : (0 : Int32).toInt = 0 := (by decide); rw [h2] at gc56; omega))
          have hF1 := hF1.trans (if_neg (show ¬ (j55l2.toInt = 0) from  gc56))
          refine lv_aload_n hx hb dX3_read_59 rfl (lv_at hl 0 rfl) ?_
          refine va_get (D := (dC, dI)) (ci := 3) (v := .int j55a0_10) (C := RX3) (T := TX3) (N := 14) hx hb hts zi_X3_read_3 hown hK hP 0 rfl rfl 10 (by decide) (hts (.fieldLink RX3 61 "WaxTurns$Reade\x72" "token" "I") (zm_X3_read_r1 (List.mem_of_getElem? (i := 11) rfl))) (fun _ h9 => h9) rfl dX3_read_60 ?_
          refine lv_iconst (v := 3) hx hb dX3_read_63 zk_iconst_3 ?_
          refine lv_icmp_ne (tgt := 89) hx hb dX3_read_64 (by decide) (fun c64 => ?_) (fun c64 => ?_)
          · have gc64 := ai_ne c64
            have hF1 := hF1.trans (if_neg (show ¬ (j55a0_10.toInt = 3) from  gc64))
            have hF0 := hF0.trans (fl_wh_r (hSX55.trans hF1))
            exact (hK0 _ _ _).mp (J89  _ _ _   hF0 hP hD hS (lv_sub hl [0, 1] rfl))
          · have gc64 := ai_eq c64
            have u64f_j55a0_10 : j55a0_10.toInt ≤ (3 : Int) := Int.le_trans (Int.le_of_eq gc64) zq9
            have l64f_j55a0_10 : (3 : Int) ≤ j55a0_10.toInt := Int.le_trans zq8 (Int.le_of_eq gc64.symm)
            have hF1 := hF1.trans (if_pos (show j55a0_10.toInt = 3 from gc64))
            refine lv_iload_n hx hb dX3_read_67 rfl (lv_at hl 2 rfl) ?_
            refine lv_sipush (v := 900) hx hb dX3_read_68 zk_sipush_900 ?_
            refine lv_icmp_ge (tgt := 89) hx hb dX3_read_71 (by decide) (fun c71 => ?_) (fun c71 => ?_)
            · have gc71 := ai_le c71
              have l71t_j55l3 : (900 : Int) ≤ j55l3.toInt := Int.le_trans zq37 gc71
              have hF1 := hF1.trans (if_pos (show 900 ≤ j55l3.toInt from gc71))
              have hF0 := hF0.trans (fl_wh_r (hSX55.trans hF1))
              exact (hK0 _ _ _).mp (J89  _ _ _   hF0 hP hD hS (lv_sub hl [0, 1] rfl))
            · have gc71 := ai_nle c71
              have u71f_j55l3 : j55l3.toInt ≤ (899 : Int) := ai_lthi gc71 zq39
              have hF1 := hF1.trans (if_neg (show ¬ (900 ≤ j55l3.toInt) from Int.not_le.mpr gc71))
              refine lv_aload_n hx hb dX3_read_74 rfl (lv_at hl 0 rfl) ?_
              refine zc_cutc (wc := [(a0, .inr (3, [.int 0, .int j55a0_1, .int j55a0_2, .ref a0_3, .ref a0_4, .ref a0_5, .int j55a0_6, .int x6, .int j55a0_8, .int j55a0_9, .int j55a0_10, .long j55a0_11, .int j55a0_12, .int j55a0_13])), (a0_3, .inl (ka0_3, 900, .inl (fa0_3)))]) hP hD hS hA [0, 5] (by decide +kernel) rfl (fun hPc hDc hFc hCc => ?_)
              have hKc := hK.sub (tys' := [(ka0_3, .byte)]) [2] rfl
              refine va_callv (va_runV (As := []) (rest := []) ⟨hx, hb, hml, hown, hts⟩ (f_X3_advance l dC dI H.size a0 (.int 0) (.int j55a0_1) (.int j55a0_2) (.ref a0_4) (.ref a0_5) (.int j55a0_6) (.int j55a0_13) a0_3 x6 j55a0_8 j55a0_9 j55a0_10 j55a0_11 j55a0_12 ka0_3 fa0_3 bx6.1 bx6.2 bj55a0_8_l bj55a0_8_u bj55a0_9_l bj55a0_9_u (Int.le_trans zq11 l64f_j55a0_10) (Int.le_trans u64f_j55a0_10 zq233)) (cwV 0 hts gX3_read_X3_advance rfl rfl rfl zd_X3_advance ⟨Nat.le_of_ble_eq_true rfl, Nat.le_of_ble_eq_true rfl⟩) ⟨ax_blind (fun _ _ _ _ _ => trivial), zr_3 hKc hPc (q0 := 0) rfl, ax_pre hPc hKc hDc (fun _ _ => trivial)⟩ rfl rfl hl.1 rfl (lv_room (Nat.le_of_ble_eq_true rfl)) dX3_read_75 ⟨Nat.le_of_ble_eq_true rfl, Nat.le_of_ble_eq_true rfl⟩) hS (fun q _ h => hFc q h) hFc (fun u t H locs ht hvm hw => zx_5 (fun v75na0_8 v75na0_9 v75na0_10 v75na0_11 v75na0_12 => zy_4 (fun bv75na0_8 bv75na0_9 bv75na0_10 hraw75_0 hB hz1 hk1 hS1 => zo hB ht hS1 (fun hP1 hK1 hD1 hS => ?_))))
              refine zc_backc (w := [(a0, .inr (3, [.int 0, .int j55a0_1, .int j55a0_2, .ref a0_3, .ref a0_4, .ref a0_5, .int j55a0_6, .int x6, .int v75na0_8, .int v75na0_9, .int v75na0_10, .long v75na0_11, .int v75na0_12, .int j55a0_13])), (a0_5, .inr (0, [.int j55a0_5_0, .int j55a0_5_1, .int j55a0_5_2, .int j55a0_5_3, .int j55a0_5_4, .int j55a0_5_5, .int j55a0_5_6, .int j55a0_5_7, .int j55a0_5_8, .int j55a0_5_9, .ref a0_5_10, .ref a0_5_11, .ref a0_5_12, .ref a0_5_13, .ref a0_5_14])), (a0_5_14, .inr (6, [.int j55a0_5_14_0, a0_5_14g_1, .ref a0_5_14_2, .ref a0_5_14_3])), (a0_5_10, .inl (ka0_5_10, 9, .inl (j55a0_5_10_a))), (a0_5_11, .inl (ka0_5_11, 9, .inl (j55a0_5_11_a))), (a0_3, .inl (ka0_3, 900, .inl (fa0_3))), (a0_4, .inl (ka0_4, 12, .inr (.inl (j55a0_4_a)))), (a0_5_14_2, .inl (ka0_5_14_2, 3, .inl (j55a0_5_14_2_a))), (a0_5_14_3, .inl (ka0_5_14_3, 3, .inl (j55a0_5_14_3_a))), (a0_5_13, .inl (ka0_5_13, 6, .inl (j55a0_5_13_a))), (a0_5_12, .inl (ka0_5_12, 6, .inl (j55a0_5_12_a)))]) hP hD hCc hk1 hFc hP1 hD1 [.inr 0, .inl 1, .inl 2, .inl 3, .inl 4, .inr 1, .inl 6, .inl 7, .inl 8, .inl 9, .inl 10] (by decide +kernel) rfl (fun hP hD => ?_)
              have hc75 : Ff_X3_advance x6.toInt j55a0_9.toInt j55a0_11.toInt j55a0_12.toInt (fl_A fa0_3) = (v75na0_8.toInt, v75na0_9.toInt, v75na0_10.toInt, v75na0_11.toInt, v75na0_12.toInt) := hraw75_0
              have hF1 := hF1.trans (fl_c5_eq hc75)
              refine lv_aload_n hx hb dX3_read_78 rfl (lv_at hl 0 rfl) ?_
              refine zc_cutc (wc := [(a0, .inr (3, [.int 0, .int j55a0_1, .int j55a0_2, .ref a0_3, .ref a0_4, .ref a0_5, .int j55a0_6, .int x6, .int v75na0_8, .int v75na0_9, .int v75na0_10, .long v75na0_11, .int v75na0_12, .int j55a0_13])), (a0_5, .inr (0, [.int j55a0_5_0, .int j55a0_5_1, .int j55a0_5_2, .int j55a0_5_3, .int j55a0_5_4, .int j55a0_5_5, .int j55a0_5_6, .int j55a0_5_7, .int j55a0_5_8, .int j55a0_5_9, .ref a0_5_10, .ref a0_5_11, .ref a0_5_12, .ref a0_5_13, .ref a0_5_14])), (a0_3, .inl (ka0_3, 900, .inl (fa0_3))), (a0_4, .inl (ka0_4, 12, .inr (.inl (j55a0_4_a)))), (a0_5_10, .inl (ka0_5_10, 9, .inl (j55a0_5_10_a))), (a0_5_11, .inl (ka0_5_11, 9, .inl (j55a0_5_11_a))), (a0_5_14, .inr (6, [.int j55a0_5_14_0, a0_5_14g_1, .ref a0_5_14_2, .ref a0_5_14_3])), (a0_5_14_2, .inl (ka0_5_14_2, 3, .inl (j55a0_5_14_2_a))), (a0_5_14_3, .inl (ka0_5_14_3, 3, .inl (j55a0_5_14_3_a))), (a0_5_13, .inl (ka0_5_13, 6, .inl (j55a0_5_13_a))), (a0_5_12, .inl (ka0_5_12, 6, .inl (j55a0_5_12_a)))]) hP hD hS hA [0, 1, 5, 6, 3, 4, 2, 7, 8, 9, 10] (by decide +kernel) rfl (fun hPc hDc hFc hCc => ?_)
              have hKc := hK.sub (tys' := [(ka0_3, .byte), (ka0_4, .long), (ka0_5_10, .int), (ka0_5_11, .int), (ka0_5_14_2, .int), (ka0_5_14_3, .int), (ka0_5_13, .int), (ka0_5_12, .int)]) [2, 3, 0, 1, 4, 5, 6, 7] rfl
              refine va_calli (va_runV (As := []) (rest := []) ⟨hx, hb, hml, hown, hts⟩ (f_X3_readLine l dC dI H.size a0 (.int 0) j55a0_1 j55a0_2 a0_3 a0_4 a0_5 j55a0_6 x6 v75na0_8 v75na0_9 v75na0_10 v75na0_11 v75na0_12 j55a0_13 j55a0_5_0 j55a0_5_1 j55a0_5_2 j55a0_5_3 j55a0_5_4 j55a0_5_5 j55a0_5_6 j55a0_5_7 j55a0_5_8 j55a0_5_9 a0_5_10 a0_5_11 a0_5_12 a0_5_13 a0_5_14 ka0_3 fa0_3 ka0_4 j55a0_4_a ka0_5_10 j55a0_5_10_a ka0_5_11 j55a0_5_11_a j55a0_5_14_0 a0_5_14g_1 a0_5_14_2 a0_5_14_3 ka0_5_14_2 j55a0_5_14_2_a ka0_5_14_3 j55a0_5_14_3_a ka0_5_13 j55a0_5_13_a ka0_5_12 j55a0_5_12_a ad bj55a0_6_l bj55a0_6_u bx6.1 bx6.2 bv75na0_8.1 bv75na0_8.2 bv75na0_9.1 bv75na0_9.2 bv75na0_10.1 bv75na0_10.2 bj55a0_5_0_l bj55a0_5_0_u bj55a0_5_4_l bj55a0_5_4_u bj55a0_5_5_l bj55a0_5_5_u bj55a0_5_6_l bj55a0_5_6_u bj55a0_5_7_l bj55a0_5_7_u bj55a0_5_9_l bj55a0_5_9_u bj55a0_5_14_0_l bj55a0_5_14_0_u bj55a0_5_14_2_a bj55a0_5_14_3_a bj55a0_5_13_a) (cwV 0 hts gX3_read_X3_readLine rfl rfl rfl zd_X3_readLine ⟨Nat.le_of_ble_eq_true rfl, Nat.le_of_ble_eq_true rfl⟩) ⟨ax_blind (fun _ _ _ _ hq => ⟨sxc_T_same _ _ _ _ (hq.1), va_Nw.same rfl rfl (hq.2.1), va_Nw.same rfl rfl (hq.2.2)⟩), zr_3 hKc hPc (q0 := 0) rfl, ax_preE hPc hKc hDc (fun U hU hW => ⟨sxc_T_to hE0 hS.2.1 hFc hU hW, va_Nw.warmM hW hE1, va_Nw.warmM hW hE2⟩)⟩ rfl rfl hl.1 rfl (lv_room (Nat.le_of_ble_eq_true rfl)) dX3_read_79 ⟨Nat.le_of_ble_eq_true rfl, Nat.le_of_ble_eq_true rfl⟩) hS (fun q _ h => hFc q h) hFc (fun r79 u t H locs ht hvm hw => zx_27 (fun v79na0_1 v79na0_2 v79na0_6 v79na0_8 v79na0_9 v79na0_10 v79na0_11 v79na0_12 v79na0_13 v79na0_5_0 v79na0_5_1 v79na0_5_2 v79na0_5_3 v79na0_5_4 v79na0_5_5 v79na0_5_6 v79na0_5_7 v79na0_5_8 v79na0_5_9 v79nfa0_4 v79nfa0_5_10 v79nfa0_5_11 v79na0_5_14_0 v79nfa0_5_14_2 v79nfa0_5_14_3 v79nfa0_5_13 v79nfa0_5_12 => zy_15 (fun bv79na0_6 bv79na0_8 bv79na0_9 bv79na0_10 bv79na0_5_0 bv79na0_5_4 bv79na0_5_5 bv79na0_5_6 bv79na0_5_7 bv79na0_5_9 bv79na0_5_14_0 bv79nfa0_5_14_2 bv79nfa0_5_14_3 bv79nfa0_5_13 hraw79_0 hB hz1 hk1 hS1 => zo hB ht hS1 (fun hP1 hK1 hD1 hS => ?_))))
              refine zc_backc (w := [(a0, .inr (3, [.int 0, .int v79na0_1, .int v79na0_2, .ref a0_3, .ref a0_4, .ref a0_5, .int v79na0_6, .int x6, .int v79na0_8, .int v79na0_9, .int v79na0_10, .long v79na0_11, .int v79na0_12, .int v79na0_13])), (a0_5, .inr (0, [.int v79na0_5_0, .int v79na0_5_1, .int v79na0_5_2, .int v79na0_5_3, .int v79na0_5_4, .int v79na0_5_5, .int v79na0_5_6, .int v79na0_5_7, .int v79na0_5_8, .int v79na0_5_9, .ref a0_5_10, .ref a0_5_11, .ref a0_5_12, .ref a0_5_13, .ref a0_5_14])), (a0_5_14, .inr (6, [.int v79na0_5_14_0, a0_5_14g_1, .ref a0_5_14_2, .ref a0_5_14_3])), (a0_5_10, .inl (ka0_5_10, 9, .inl (v79nfa0_5_10))), (a0_5_11, .inl (ka0_5_11, 9, .inl (v79nfa0_5_11))), (a0_3, .inl (ka0_3, 900, .inl (fa0_3))), (a0_4, .inl (ka0_4, 12, .inr (.inl (v79nfa0_4)))), (a0_5_14_2, .inl (ka0_5_14_2, 3, .inl (v79nfa0_5_14_2))), (a0_5_14_3, .inl (ka0_5_14_3, 3, .inl (v79nfa0_5_14_3))), (a0_5_13, .inl (ka0_5_13, 6, .inl (v79nfa0_5_13))), (a0_5_12, .inl (ka0_5_12, 6, .inl (v79nfa0_5_12)))]) hP hD hCc hk1 hFc hP1 hD1 [.inr 0, .inr 1, .inr 6, .inr 4, .inr 5, .inr 2, .inr 3, .inr 7, .inr 8, .inr 9, .inr 10] (by decide +kernel) rfl (fun hP hD => ?_)
              obtain ⟨hw, hfr79⟩ := hw
              have hc79 : Ff_X3_readLine j55a0_1.toInt j55a0_2.toInt j55a0_6.toInt x6.toInt v75na0_8.toInt v75na0_9.toInt v75na0_10.toInt v75na0_11.toInt v75na0_12.toInt j55a0_13.toInt j55a0_5_0.toInt j55a0_5_1.toInt j55a0_5_2.toInt j55a0_5_3.toInt j55a0_5_4.toInt j55a0_5_5.toInt j55a0_5_6.toInt j55a0_5_7.toInt j55a0_5_8.toInt j55a0_5_9.toInt (fl_A fa0_3) (fl_L j55a0_4_a) (fl_A j55a0_5_10_a) (fl_A j55a0_5_11_a) j55a0_5_14_0.toInt (fl_A j55a0_5_14_2_a) (fl_A j55a0_5_14_3_a) (fl_A j55a0_5_13_a) (fl_A j55a0_5_12_a) = (r79.toInt, v79na0_1.toInt, v79na0_2.toInt, v79na0_6.toInt, v79na0_8.toInt, v79na0_9.toInt, v79na0_10.toInt, v79na0_11.toInt, v79na0_12.toInt, v79na0_13.toInt, v79na0_5_0.toInt, v79na0_5_1.toInt, v79na0_5_2.toInt, v79na0_5_3.toInt, v79na0_5_4.toInt, v79na0_5_5.toInt, v79na0_5_6.toInt, v79na0_5_7.toInt, v79na0_5_8.toInt, v79na0_5_9.toInt, (fl_L v79nfa0_4), (fl_A v79nfa0_5_10), (fl_A v79nfa0_5_11), v79na0_5_14_0.toInt, (fl_A v79nfa0_5_14_2), (fl_A v79nfa0_5_14_3), (fl_A v79nfa0_5_13), (fl_A v79nfa0_5_12)) := Prod.ext hfr79.symm hraw79_0
              have hF1 := hF1.trans (fl_c28_eq hc79)
              rcases hw with hw | hw
              · subst hw
                have hF1 := hF1.trans (if_pos (by decide))
                refine lv_istore_n (lv' := [(2, .int 1), (0, .ref a0), (3, .int j55l3)]) hx hb dX3_read_82 rfl hl (by decide) rfl (fun ls hl => ?_)
                obtain ⟨x83, ex83⟩ : ∃ y : Int32, y = j55l3 + Int32.ofInt 1 := ⟨_, rfl⟩
                have qx83 : x83.toInt = j55l3.toInt + 1 := ai_inc ex83 (by decide) (by decide) u71f_j55l3 (by decide)
                have bx83 : (2 : Int) ≤ x83.toInt ∧ x83.toInt ≤ 900 := ⟨by rw [qx83]; exact Int.add_le_add bj55l3_l (Int.le_refl _), by rw [qx83]; exact Int.add_le_add u71f_j55l3 (Int.le_refl _)⟩
                refine lv_iinc (v := x83) (lv' := [(3, .int x83), (2, .int 1), (0, .ref a0)]) hx hb dX3_read_83 hl (k := 2) rfl ex83.symm (by decide) rfl (fun ls hl => ?_)
                have hF1 := hF1.trans (fl_lt_eq (show x83.toInt = j55l3.toInt + 1 from qx83))
                refine lv_goto (tgt := 55) hx hb dX3_read_86 (by decide) ?_
                exact (hK0 _ _ _).mp (ih55 x83 1 v79na0_1 v79na0_2 v79na0_6 v79na0_8 v79na0_9 v79na0_10 v79na0_11 v79na0_12 v79na0_13 v79na0_5_0 v79na0_5_1 v79na0_5_2 v79na0_5_3 v79na0_5_4 v79na0_5_5 v79na0_5_6 v79na0_5_7 v79na0_5_8 v79na0_5_9 v79na0_5_14_0 v79nfa0_5_10 v79nfa0_5_11 v79nfa0_4 v79nfa0_5_14_2 v79nfa0_5_14_3 v79nfa0_5_13 v79nfa0_5_12 _ _ _ (by first | exact zg_s hm55 qx83 | (have h0 := qx83; omega)) (Int.le_trans zq54 bx83.1) bx83.2 (Int.le_trans zq4 zq1) zq0 bv79na0_6.1 bv79na0_6.2 bv79na0_8.1 bv79na0_8.2 bv79na0_9.1 bv79na0_9.2 bv79na0_10.1 bv79na0_10.2 bv79na0_5_0.1 bv79na0_5_0.2 bv79na0_5_4.1 bv79na0_5_4.2 bv79na0_5_5.1 bv79na0_5_5.2 bv79na0_5_6.1 bv79na0_5_6.2 bv79na0_5_7.1 bv79na0_5_7.2 bv79na0_5_9.1 bv79na0_5_9.2 bv79na0_5_14_0.1 bv79na0_5_14_0.2 bv79nfa0_5_14_2 bv79nfa0_5_14_3 bv79nfa0_5_13 (by rw [show (1 : Int32).toInt = 1 from by decide]; exact (hF0.trans (fl_wh_l (hSX55.trans hF1)))) hP hD hS (lv_sub hl [2, 1, 0] rfl))
              · subst hw
                have hF1 := hF1.trans (if_neg (by decide))
                refine lv_istore_n (lv' := [(2, .int 0), (0, .ref a0), (3, .int j55l3)]) hx hb dX3_read_82 rfl hl (by decide) rfl (fun ls hl => ?_)
                obtain ⟨x83, ex83⟩ : ∃ y : Int32, y = j55l3 + Int32.ofInt 1 := ⟨_, rfl⟩
                have qx83 : x83.toInt = j55l3.toInt + 1 := ai_inc ex83 (by decide) (by decide) u71f_j55l3 (by decide)
                have bx83 : (2 : Int) ≤ x83.toInt ∧ x83.toInt ≤ 900 := ⟨by rw [qx83]; exact Int.add_le_add bj55l3_l (Int.le_refl _), by rw [qx83]; exact Int.add_le_add u71f_j55l3 (Int.le_refl _)⟩
                refine lv_iinc (v := x83) (lv' := [(3, .int x83), (2, .int 0), (0, .ref a0)]) hx hb dX3_read_83 hl (k := 2) rfl ex83.symm (by decide) rfl (fun ls hl => ?_)
                have hF1 := hF1.trans (fl_lt_eq (show x83.toInt = j55l3.toInt + 1 from qx83))
                refine lv_goto (tgt := 55) hx hb dX3_read_86 (by decide) ?_
                exact (hK0 _ _ _).mp (ih55 x83 0 v79na0_1 v79na0_2 v79na0_6 v79na0_8 v79na0_9 v79na0_10 v79na0_11 v79na0_12 v79na0_13 v79na0_5_0 v79na0_5_1 v79na0_5_2 v79na0_5_3 v79na0_5_4 v79na0_5_5 v79na0_5_6 v79na0_5_7 v79na0_5_8 v79na0_5_9 v79na0_5_14_0 v79nfa0_5_10 v79nfa0_5_11 v79nfa0_4 v79nfa0_5_14_2 v79nfa0_5_14_3 v79nfa0_5_13 v79nfa0_5_12 _ _ _ (by first | exact zg_s hm55 qx83 | (have h0 := qx83; omega)) (Int.le_trans zq54 bx83.1) bx83.2 zq5 (Int.le_trans zq6 zq4) bv79na0_6.1 bv79na0_6.2 bv79na0_8.1 bv79na0_8.2 bv79na0_9.1 bv79na0_9.2 bv79na0_10.1 bv79na0_10.2 bv79na0_5_0.1 bv79na0_5_0.2 bv79na0_5_4.1 bv79na0_5_4.2 bv79na0_5_5.1 bv79na0_5_5.2 bv79na0_5_6.1 bv79na0_5_6.2 bv79na0_5_7.1 bv79na0_5_7.2 bv79na0_5_9.1 bv79na0_5_9.2 bv79na0_5_14_0.1 bv79na0_5_14_0.2 bv79nfa0_5_14_2 bv79nfa0_5_14_3 bv79nfa0_5_13 (by rw [show (0 : Int32).toInt = 0 from by decide]; exact (hF0.trans (fl_wh_l (hSX55.trans hF1)))) hP hD hS (lv_sub hl [2, 1, 0] rfl))
    exact (hK0 _ _ _).mp (J55 900 1 0 v49na0_1 v49na0_2 v49na0_6 v49na0_8 v49na0_9 v49na0_10 v49na0_11 v49na0_12 v49na0_13 v49na0_5_0 v49na0_5_1 v49na0_5_2 v49na0_5_3 v49na0_5_4 v49na0_5_5 v49na0_5_6 v49na0_5_7 v49na0_5_8 v49na0_5_9 v49na0_5_14_0 v49nfa0_5_10 v49nfa0_5_11 v49nfa0_4 v49nfa0_5_14_2 v49nfa0_5_14_3 v49nfa0_5_13 v49nfa0_5_12 _ _ _ (by first | decide +kernel | (have h1 : (1 : Int) ≤ (1 : Int32).toInt := zq1; have h2 : (1 : Int32).toInt ≤ (1 : Int) := zq0; omega)) zq1 (Int.le_trans zq0 zq234) zq5 (Int.le_trans zq6 zq4) bv49na0_6.1 bv49na0_6.2 bv49na0_8.1 bv49na0_8.2 bv49na0_9.1 bv49na0_9.2 bv49na0_10.1 bv49na0_10.2 bv49na0_5_0.1 bv49na0_5_0.2 bv49na0_5_4.1 bv49na0_5_4.2 bv49na0_5_5.1 bv49na0_5_5.2 bv49na0_5_6.1 bv49na0_5_6.2 bv49na0_5_7.1 bv49na0_5_7.2 bv49na0_5_9.1 bv49na0_5_9.2 bv49na0_5_14_0.1 bv49na0_5_14_0.2 bv49nfa0_5_14_2 bv49nfa0_5_14_3 bv49nfa0_5_13 (by rw [show (1 : Int32).toInt = 1 from by decide, show (0 : Int32).toInt = 0 from by decide]; exact hF0) hP hD hS (lv_sub hl [2, 1, 0] rfl))
end P311_04_f
section P312_00_f
set_option maxHeartbeats 4000000 in
set_option maxRecDepth 100000 in
theorem f_X8_good (l : Launch) (dC : Nat → ClassId) (dI : Nat → Nat → Nat) (sz : Nat) (a0 : Nat) (a0_0 : Int32) (a0g_1 a0g_2 a0g_3 a0g_4 a0g_5 a0g_6 a0g_7 a0g_8 a0g_9 a0g_10 a0g_12 a0g_13 a0g_14 a0g_15 a0g_16 a0g_17 a0g_18 a0g_19 a0g_20 a0g_21 a0g_22 a0g_23 a0g_24 a0g_25 a0g_26 a0g_27 a0g_28 a0g_29 a0g_30 a0g_31 a0g_32 a0g_33 a0g_34 a0g_35 a0g_36 a0g_37 a0g_38 a0g_39 : Value) (a0_11 : Int32)  : zm l yX8_good wsX8_good ({ frames := 0, cells := 0, slots := 0, locals := 0 }) [.ref a0] dC dI sz [(a0, .inr (8, [Value.int a0_0, a0g_1, a0g_2, a0g_3, a0g_4, a0g_5, a0g_6, a0g_7, a0g_8, a0g_9, a0g_10, Value.int a0_11, a0g_12, a0g_13, a0g_14, a0g_15, a0g_16, a0g_17, a0g_18, a0g_19, a0g_20, a0g_21, a0g_22, a0g_23, a0g_24, a0g_25, a0g_26, a0g_27, a0g_28, a0g_29, a0g_30, a0g_31, a0g_32, a0g_33, a0g_34, a0g_35, a0g_36, a0g_37, a0g_38, a0g_39]))] [] (fun A _ => True) (fun A => va_Qv (fun (_ : Unit) => True) (fun (_ : Unit) (t : State) => ∃ na0_0 : Int32, ∃ na0_11 : Int32, (Ff_X8_good = (na0_0.toInt, na0_11.toInt)) ∧ ax_B dC dI A [(a0, .inr (8, [Value.int na0_0, a0g_1, a0g_2, a0g_3, a0g_4, a0g_5, a0g_6, a0g_7, a0g_8, a0g_9, a0g_10, Value.int na0_11, a0g_12, a0g_13, a0g_14, a0g_15, a0g_16, a0g_17, a0g_18, a0g_19, a0g_20, a0g_21, a0g_22, a0g_23, a0g_24, a0g_25, a0g_26, a0g_27, a0g_28, a0g_29, a0g_30, a0g_31, a0g_32, a0g_33, a0g_34, a0g_35, a0g_36, a0g_37, a0g_38, a0g_39]))] [] t) A) := by
  refine zh (cc := cX8_good) (maxL := 1) (ret := none) zn_RX8 rfl (Nat.le_of_ble_eq_true rfl) (fun p e s m below meth c A ls hx hb hml hr hts (hown : s.vm.findClass RX8 = some m.cls) hlocks hA hS hP hK hD hE (hl : lv_has ls 1 [(0, .ref a0)]) => ?_)
  generalize hFX : Ff_X8_good = FX at ⊢
  have hF0 := hFX.symm.trans (Ff_X8_good.eq_1)
  refine lv_aload_n hx hb dX8_good_0 rfl (lv_at hl 0 rfl) ?_
  refine lv_iconst (v := 0) hx hb dX8_good_1 zk_iconst_0 ?_
  refine va_put (D := (dC, dI)) (ci := 8) (v := .int 0) (ty := .int) (C := RX8) (T := TX8) (N := 40) hx hb hts zi_X8_good_8 tyX8 tyX8_ok nmX8 hown hK hP hD hS 0 rfl rfl 0 (by decide) (hts (.fieldLink RX8 59 "WaxTurnsModel" "thrown" "I") (List.mem_cons_of_mem _ (List.mem_append_left _ (List.mem_of_getElem? (i := 0) rfl)))) (fun _ h9 => h9) rfl (tyX8_ok 0 (by decide)) rfl rfl (Nat.le_of_ble_eq_true rfl) dX8_good_2 (fun H locs hP hD hS => ?_)
  refine zs_0 (y := (a0, .inr (8, [Value.int 0, a0g_1, a0g_2, a0g_3, a0g_4, a0g_5, a0g_6, a0g_7, a0g_8, a0g_9, a0g_10, Value.int a0_11, a0g_12, a0g_13, a0g_14, a0g_15, a0g_16, a0g_17, a0g_18, a0g_19, a0g_20, a0g_21, a0g_22, a0g_23, a0g_24, a0g_25, a0g_26, a0g_27, a0g_28, a0g_29, a0g_30, a0g_31, a0g_32, a0g_33, a0g_34, a0g_35, a0g_36, a0g_37, a0g_38, a0g_39]))) hP hD rfl (fun hP hD => ?_)
  refine lv_aload_n hx hb dX8_good_5 rfl (lv_at hl 0 rfl) ?_
  refine lv_iconst (v := 0) hx hb dX8_good_6 zk_iconst_0 ?_
  refine va_put (D := (dC, dI)) (ci := 8) (v := .int 0) (ty := .int) (C := RX8) (T := TX8) (N := 40) hx hb hts zi_X8_good_8 tyX8 tyX8_ok nmX8 hown hK hP hD hS 0 rfl rfl 11 (by decide) (hts (.fieldLink RX8 62 "WaxTurnsModel" "trouble" "I") (List.mem_cons_of_mem _ (List.mem_append_left _ (List.mem_of_getElem? (i := 1) rfl)))) (fun _ h9 => h9) rfl (tyX8_ok 11 (by decide)) rfl rfl (Nat.le_of_ble_eq_true rfl) dX8_good_7 (fun H locs hP hD hS => ?_)
  refine zs_0 (y := (a0, .inr (8, [Value.int 0, a0g_1, a0g_2, a0g_3, a0g_4, a0g_5, a0g_6, a0g_7, a0g_8, a0g_9, a0g_10, Value.int 0, a0g_12, a0g_13, a0g_14, a0g_15, a0g_16, a0g_17, a0g_18, a0g_19, a0g_20, a0g_21, a0g_22, a0g_23, a0g_24, a0g_25, a0g_26, a0g_27, a0g_28, a0g_29, a0g_30, a0g_31, a0g_32, a0g_33, a0g_34, a0g_35, a0g_36, a0g_37, a0g_38, a0g_39]))) hP hD rfl (fun hP hD => ?_)
  have hFe : FX = (0, 0) := hF0
  exact W.vret hx hb hr (fun t ht hW => ⟨⟨(), rfl, trivial, 0, 0, hFe, by rw [ht]; exact hP, va_K.moved hW.alike hK, hD⟩, hS.F ht⟩) hS.2.2 dX8_good_10

set_option maxHeartbeats 4000000 in
set_option maxRecDepth 100000 in
theorem f_X8_no (l : Launch) (dC : Nat → ClassId) (dI : Nat → Nat → Nat) (sz : Nat) (a0 : Nat) (a1 : Int32) (a0g_0 a0g_1 a0g_2 a0g_3 a0g_4 a0g_5 a0g_6 a0g_7 a0g_8 a0g_9 a0g_10 a0g_12 a0g_13 a0g_14 a0g_15 a0g_16 a0g_17 a0g_18 a0g_19 a0g_20 a0g_21 a0g_22 a0g_23 a0g_24 a0g_25 a0g_26 a0g_27 a0g_28 a0g_29 a0g_30 a0g_31 a0g_32 a0g_33 a0g_34 a0g_35 a0g_36 a0g_37 a0g_38 a0g_39 : Value) (a0_11 : Int32)  : zm l yX8_no wsX8_no ({ frames := 0, cells := 0, slots := 0, locals := 0 }) [.ref a0, .int a1] dC dI sz [(a0, .inr (8, [a0g_0, a0g_1, a0g_2, a0g_3, a0g_4, a0g_5, a0g_6, a0g_7, a0g_8, a0g_9, a0g_10, Value.int a0_11, a0g_12, a0g_13, a0g_14, a0g_15, a0g_16, a0g_17, a0g_18, a0g_19, a0g_20, a0g_21, a0g_22, a0g_23, a0g_24, a0g_25, a0g_26, a0g_27, a0g_28, a0g_29, a0g_30, a0g_31, a0g_32, a0g_33, a0g_34, a0g_35, a0g_36, a0g_37, a0g_38, a0g_39]))] [] (fun A _ => True) (fun A => va_Qi (fun (r : Int32) (_ : Unit) => (r = (-1)) ∧ r.toInt = (Ff_X8_no a1.toInt).1) (fun (_ : Unit) (t : State) => ∃ na0_11 : Int32, ((Ff_X8_no a1.toInt).2 = na0_11.toInt) ∧ ax_B dC dI A [(a0, .inr (8, [a0g_0, a0g_1, a0g_2, a0g_3, a0g_4, a0g_5, a0g_6, a0g_7, a0g_8, a0g_9, a0g_10, Value.int na0_11, a0g_12, a0g_13, a0g_14, a0g_15, a0g_16, a0g_17, a0g_18, a0g_19, a0g_20, a0g_21, a0g_22, a0g_23, a0g_24, a0g_25, a0g_26, a0g_27, a0g_28, a0g_29, a0g_30, a0g_31, a0g_32, a0g_33, a0g_34, a0g_35, a0g_36, a0g_37, a0g_38, a0g_39]))] [] t) A) := by
  refine zh (cc := cX8_no) (maxL := 2) (ret := (some .int)) zn_RX8 rfl (Nat.le_of_ble_eq_true rfl) (fun p e s m below meth c A ls hx hb hml hr hts (hown : s.vm.findClass RX8 = some m.cls) hlocks hA hS hP hK hD hE (hl : lv_has ls 2 [(0, .ref a0), (1, .int a1)]) => ?_)
  generalize hFX : Ff_X8_no a1.toInt = FX at ⊢
  have hF0 := hFX.symm.trans (Ff_X8_no.eq_1 a1.toInt)
  refine lv_aload_n hx hb dX8_no_0 rfl (lv_at hl 0 rfl) ?_
  refine lv_iload_n hx hb dX8_no_1 rfl (lv_at hl 1 rfl) ?_
  refine va_put (D := (dC, dI)) (ci := 8) (v := .int a1) (ty := .int) (C := RX8) (T := TX8) (N := 40) hx hb hts zi_X8_no_8 tyX8 tyX8_ok nmX8 hown hK hP hD hS 0 rfl rfl 11 (by decide) (hts (.fieldLink RX8 62 "WaxTurnsModel" "trouble" "I") (List.mem_cons_of_mem _ (List.mem_append_left _ (List.mem_of_getElem? (i := 0) rfl)))) (fun _ h9 => h9) rfl (tyX8_ok 11 (by decide)) rfl rfl (Nat.le_of_ble_eq_true rfl) dX8_no_2 (fun H locs hP hD hS => ?_)
  refine zs_0 (y := (a0, .inr (8, [a0g_0, a0g_1, a0g_2, a0g_3, a0g_4, a0g_5, a0g_6, a0g_7, a0g_8, a0g_9, a0g_10, Value.int a1, a0g_12, a0g_13, a0g_14, a0g_15, a0g_16, a0g_17, a0g_18, a0g_19, a0g_20, a0g_21, a0g_22, a0g_23, a0g_24, a0g_25, a0g_26, a0g_27, a0g_28, a0g_29, a0g_30, a0g_31, a0g_32, a0g_33, a0g_34, a0g_35, a0g_36, a0g_37, a0g_38, a0g_39]))) hP hD rfl (fun hP hD => ?_)
  refine lv_iconst (v := (-1)) hx hb dX8_no_5 zk_iconst_n1 ?_
  have hFe : FX = ((-1), a1.toInt) := hF0
  exact W.iret (v := (-1)) hx hb hr (fun t ht hW => ⟨⟨(-1), (), rfl, ⟨rfl, (congrArg Prod.fst hFe).symm⟩, a1, (congrArg Prod.snd hFe), by rw [ht]; exact hP, va_K.moved hW.alike hK, hD⟩, hS.F ht⟩) hS.2.2 dX8_no_6

set_option maxHeartbeats 4000000 in
set_option maxRecDepth 100000 in
theorem f_X8_in (l : Launch) (dC : Nat → ClassId) (dI : Nat → Nat → Nat) (sz : Nat) (a1 : Int32) (a2 : Int32) (a3 : Int32)  : zm l yX8_in wsX8_in ({ frames := 0, cells := 0, slots := 0, locals := 0 }) [.int a1, .int a2, .int a3] dC dI sz [] [] (fun A _ => True) (fun A => va_Qi (fun (r : Int32) (_ : Unit) => ((r = 1 ∧ a2.toInt ≤ a1.toInt ∧ a1.toInt ≤ a3.toInt) ∨ (r = 0 ∧ (a1.toInt < a2.toInt ∨ a3.toInt < a1.toInt))) ∧ r.toInt = Ff_X8_in a1.toInt a2.toInt a3.toInt) (fun (_ : Unit) (t : State) => ax_B dC dI A [] [] t) A) := by
  refine zh (cc := cX8_in) (maxL := 3) (ret := (some .boolean)) zn_RX8 rfl (Nat.le_of_ble_eq_true rfl) (fun p e s m below meth c A ls hx hb hml hr hts (hown : s.vm.findClass RX8 = some m.cls) hlocks hA hS hP hK hD hE (hl : lv_has ls 3 [(0, .int a1), (1, .int a2), (2, .int a3)]) => ?_)
  generalize hFX : Ff_X8_in a1.toInt a2.toInt a3.toInt = FX at ⊢
  have hF0 := hFX.symm.trans (Ff_X8_in.eq_1 a1.toInt a2.toInt a3.toInt)
  refine lv_iload_n hx hb dX8_in_0 rfl (lv_at hl 0 rfl) ?_
  refine lv_iload_n hx hb dX8_in_1 rfl (lv_at hl 1 rfl) ?_
  refine lv_icmp_lt (tgt := 14) hx hb dX8_in_2 (by decide) (fun c2 => ?_) (fun c2 => ?_)
  · have gc2 := ai_lt c2
    have u2t_a1 : a1.toInt ≤ (2147483646 : Int) := ai_lthi gc2 (ai_max a2)
    have l2t_a2 : (-2147483647 : Int) ≤ a2.toInt := ai_ltlo gc2 (ai_min a1)
    have hF0 := hF0.trans (if_pos (show a1.toInt < a2.toInt from gc2))
    refine lv_iconst (v := 0) hx hb dX8_in_14 zk_iconst_0 ?_
    have hFe : FX = 0 := hF0
    exact W.zret (v := 0) hx hb hr rfl (fun t ht hW => ⟨⟨0, (), rfl, ⟨(Or.inr ⟨rfl, Or.inl gc2⟩), hFe.symm⟩, by rw [ht]; exact hP, va_K.moved hW.alike hK, hD⟩, hS.F ht⟩) hS.2.2 dX8_in_15
  · have gc2 := ai_nlt c2
    have hF0 := hF0.trans (if_neg (show ¬ (a1.toInt < a2.toInt) from Int.not_lt.mpr gc2))
    refine lv_iload_n hx hb dX8_in_5 rfl (lv_at hl 0 rfl) ?_
    refine lv_iload_n hx hb dX8_in_6 rfl (lv_at hl 2 rfl) ?_
    refine lv_icmp_gt (tgt := 14) hx hb dX8_in_7 (by decide) (fun c7 => ?_) (fun c7 => ?_)
    · have gc7 := ai_lt c7
      have u7t_a3 : a3.toInt ≤ (2147483646 : Int) := ai_lthi gc7 (ai_max a1)
      have l7t_a1 : (-2147483647 : Int) ≤ a1.toInt := ai_ltlo gc7 (ai_min a3)
      have hF0 := hF0.trans (if_pos (show a3.toInt < a1.toInt from gc7))
      refine lv_iconst (v := 0) hx hb dX8_in_14 zk_iconst_0 ?_
      have hFe : FX = 0 := hF0
      exact W.zret (v := 0) hx hb hr rfl (fun t ht hW => ⟨⟨0, (), rfl, ⟨(Or.inr ⟨rfl, Or.inr gc7⟩), hFe.symm⟩, by rw [ht]; exact hP, va_K.moved hW.alike hK, hD⟩, hS.F ht⟩) hS.2.2 dX8_in_15
    · have gc7 := ai_nlt c7
      have hF0 := hF0.trans (if_neg (show ¬ (a3.toInt < a1.toInt) from Int.not_lt.mpr gc7))
      refine lv_iconst (v := 1) hx hb dX8_in_10 zk_iconst_1 ?_
      refine lv_goto (tgt := 15) hx hb dX8_in_11 (by decide) ?_
      have hFe : FX = 1 := hF0
      exact W.zret (v := 1) hx hb hr rfl (fun t ht hW => ⟨⟨1, (), rfl, ⟨(Or.inl ⟨rfl, gc2, gc7⟩), hFe.symm⟩, by rw [ht]; exact hP, va_K.moved hW.alike hK, hD⟩, hS.F ht⟩) hS.2.2 dX8_in_15

set_option maxHeartbeats 4000000 in
set_option maxRecDepth 100000 in
theorem f_X8_isSmall (l : Launch) (dC : Nat → ClassId) (dI : Nat → Nat → Nat) (sz : Nat) (a1 : Int32)  : zm l yX8_isSmall wsX8_isSmall ({ frames := 0, cells := 0, slots := 0, locals := 0 }) [.int a1] dC dI sz [] [] (fun A _ => True) (fun A => va_Qi (fun (r : Int32) (_ : Unit) => ((r = 1 ∧ (97 : Int) ≤ a1.toInt ∧ a1.toInt ≤ (122 : Int)) ∨ (r = 0)) ∧ r.toInt = Ff_X8_isSmall a1.toInt) (fun (_ : Unit) (t : State) => ax_B dC dI A [] [] t) A) := by
  refine zh (cc := cX8_isSmall) (maxL := 1) (ret := (some .boolean)) zn_RX8 rfl (Nat.le_of_ble_eq_true rfl) (fun p e s m below meth c A ls hx hb hml hr hts (hown : s.vm.findClass RX8 = some m.cls) hlocks hA hS hP hK hD hE (hl : lv_has ls 1 [(0, .int a1)]) => ?_)
  generalize hFX : Ff_X8_isSmall a1.toInt = FX at ⊢
  have hF0 := hFX.symm.trans (Ff_X8_isSmall.eq_1 a1.toInt)
  refine lv_iload_n hx hb dX8_isSmall_0 rfl (lv_at hl 0 rfl) ?_
  refine lv_bipush (v := 97) hx hb dX8_isSmall_1 zk_bipush_97 ?_
  refine lv_icmp_lt (tgt := 16) hx hb dX8_isSmall_3 (by decide) (fun c3 => ?_) (fun c3 => ?_)
  · have gc3 := ai_lt c3
    have u3t_a1 : a1.toInt ≤ (96 : Int) := ai_lthi gc3 zq138
    have hF0 := hF0.trans (if_pos (show a1.toInt < 97 from gc3))
    refine lv_iconst (v := 0) hx hb dX8_isSmall_16 zk_iconst_0 ?_
    have hFe : FX = 0 := hF0
    exact W.zret (v := 0) hx hb hr rfl (fun t ht hW => ⟨⟨0, (), rfl, ⟨(Or.inr (rfl)), hFe.symm⟩, by rw [ht]; exact hP, va_K.moved hW.alike hK, hD⟩, hS.F ht⟩) hS.2.2 dX8_isSmall_17
  · have gc3 := ai_nlt c3
    have l3f_a1 : (97 : Int) ≤ a1.toInt := Int.le_trans zq139 gc3
    have hF0 := hF0.trans (if_neg (show ¬ (a1.toInt < 97) from Int.not_lt.mpr gc3))
    refine lv_iload_n hx hb dX8_isSmall_6 rfl (lv_at hl 0 rfl) ?_
    refine lv_bipush (v := 122) hx hb dX8_isSmall_7 zk_bipush_122 ?_
    refine lv_icmp_gt (tgt := 16) hx hb dX8_isSmall_9 (by decide) (fun c9 => ?_) (fun c9 => ?_)
    · have gc9 := ai_lt c9
      have l9t_a1 : (123 : Int) ≤ a1.toInt := ai_ltlo gc9 zq140
      have hF0 := hF0.trans (if_pos (show 122 < a1.toInt from gc9))
      refine lv_iconst (v := 0) hx hb dX8_isSmall_16 zk_iconst_0 ?_
      have hFe : FX = 0 := hF0
      exact W.zret (v := 0) hx hb hr rfl (fun t ht hW => ⟨⟨0, (), rfl, ⟨(Or.inr (rfl)), hFe.symm⟩, by rw [ht]; exact hP, va_K.moved hW.alike hK, hD⟩, hS.F ht⟩) hS.2.2 dX8_isSmall_17
    · have gc9 := ai_nlt c9
      have u9f_a1 : a1.toInt ≤ (122 : Int) := Int.le_trans gc9 zq141
      have hF0 := hF0.trans (if_neg (show ¬ (122 < a1.toInt) from Int.not_lt.mpr gc9))
      refine lv_iconst (v := 1) hx hb dX8_isSmall_12 zk_iconst_1 ?_
      refine lv_goto (tgt := 17) hx hb dX8_isSmall_13 (by decide) ?_
      have hFe : FX = 1 := hF0
      exact W.zret (v := 1) hx hb hr rfl (fun t ht hW => ⟨⟨1, (), rfl, ⟨(Or.inl ⟨rfl, l3f_a1, u9f_a1⟩), hFe.symm⟩, by rw [ht]; exact hP, va_K.moved hW.alike hK, hD⟩, hS.F ht⟩) hS.2.2 dX8_isSmall_17

set_option maxHeartbeats 4000000 in
set_option maxRecDepth 100000 in
theorem f_X8_isDigit (l : Launch) (dC : Nat → ClassId) (dI : Nat → Nat → Nat) (sz : Nat) (a1 : Int32)  : zm l yX8_isDigit wsX8_isDigit ({ frames := 0, cells := 0, slots := 0, locals := 0 }) [.int a1] dC dI sz [] [] (fun A _ => True) (fun A => va_Qi (fun (r : Int32) (_ : Unit) => ((r = 1 ∧ (48 : Int) ≤ a1.toInt ∧ a1.toInt ≤ (57 : Int)) ∨ (r = 0)) ∧ r.toInt = Ff_X8_isDigit a1.toInt) (fun (_ : Unit) (t : State) => ax_B dC dI A [] [] t) A) := by
  refine zh (cc := cX8_isDigit) (maxL := 1) (ret := (some .boolean)) zn_RX8 rfl (Nat.le_of_ble_eq_true rfl) (fun p e s m below meth c A ls hx hb hml hr hts (hown : s.vm.findClass RX8 = some m.cls) hlocks hA hS hP hK hD hE (hl : lv_has ls 1 [(0, .int a1)]) => ?_)
  generalize hFX : Ff_X8_isDigit a1.toInt = FX at ⊢
  have hF0 := hFX.symm.trans (Ff_X8_isDigit.eq_1 a1.toInt)
  refine lv_iload_n hx hb dX8_isDigit_0 rfl (lv_at hl 0 rfl) ?_
  refine lv_bipush (v := 48) hx hb dX8_isDigit_1 zk_bipush_48 ?_
  refine lv_icmp_lt (tgt := 16) hx hb dX8_isDigit_3 (by decide) (fun c3 => ?_) (fun c3 => ?_)
  · have gc3 := ai_lt c3
    have u3t_a1 : a1.toInt ≤ (47 : Int) := ai_lthi gc3 zq143
    have hF0 := hF0.trans (if_pos (show a1.toInt < 48 from gc3))
    refine lv_iconst (v := 0) hx hb dX8_isDigit_16 zk_iconst_0 ?_
    have hFe : FX = 0 := hF0
    exact W.zret (v := 0) hx hb hr rfl (fun t ht hW => ⟨⟨0, (), rfl, ⟨(Or.inr (rfl)), hFe.symm⟩, by rw [ht]; exact hP, va_K.moved hW.alike hK, hD⟩, hS.F ht⟩) hS.2.2 dX8_isDigit_17
  · have gc3 := ai_nlt c3
    have l3f_a1 : (48 : Int) ≤ a1.toInt := Int.le_trans zq144 gc3
    have hF0 := hF0.trans (if_neg (show ¬ (a1.toInt < 48) from Int.not_lt.mpr gc3))
    refine lv_iload_n hx hb dX8_isDigit_6 rfl (lv_at hl 0 rfl) ?_
    refine lv_bipush (v := 57) hx hb dX8_isDigit_7 zk_bipush_57 ?_
    refine lv_icmp_gt (tgt := 16) hx hb dX8_isDigit_9 (by decide) (fun c9 => ?_) (fun c9 => ?_)
    · have gc9 := ai_lt c9
      have l9t_a1 : (58 : Int) ≤ a1.toInt := ai_ltlo gc9 zq145
      have hF0 := hF0.trans (if_pos (show 57 < a1.toInt from gc9))
      refine lv_iconst (v := 0) hx hb dX8_isDigit_16 zk_iconst_0 ?_
      have hFe : FX = 0 := hF0
      exact W.zret (v := 0) hx hb hr rfl (fun t ht hW => ⟨⟨0, (), rfl, ⟨(Or.inr (rfl)), hFe.symm⟩, by rw [ht]; exact hP, va_K.moved hW.alike hK, hD⟩, hS.F ht⟩) hS.2.2 dX8_isDigit_17
    · have gc9 := ai_nlt c9
      have u9f_a1 : a1.toInt ≤ (57 : Int) := Int.le_trans gc9 zq146
      have hF0 := hF0.trans (if_neg (show ¬ (57 < a1.toInt) from Int.not_lt.mpr gc9))
      refine lv_iconst (v := 1) hx hb dX8_isDigit_12 zk_iconst_1 ?_
      refine lv_goto (tgt := 17) hx hb dX8_isDigit_13 (by decide) ?_
      have hFe : FX = 1 := hF0
      exact W.zret (v := 1) hx hb hr rfl (fun t ht hW => ⟨⟨1, (), rfl, ⟨(Or.inl ⟨rfl, l3f_a1, u9f_a1⟩), hFe.symm⟩, by rw [ht]; exact hP, va_K.moved hW.alike hK, hD⟩, hS.F ht⟩) hS.2.2 dX8_isDigit_17

set_option maxHeartbeats 4000000 in
set_option maxRecDepth 100000 in
theorem f_X8_see (l : Launch) (dC : Nat → ClassId) (dI : Nat → Nat → Nat) (sz : Nat) (a0 : Nat) (a1 : Int32) (a0g_0 a0g_2 a0g_4 a0g_5 a0g_6 a0g_7 a0g_8 a0g_9 a0g_10 a0g_11 a0g_12 a0g_13 a0g_14 a0g_15 a0g_16 a0g_17 a0g_18 a0g_19 a0g_20 a0g_21 a0g_22 a0g_23 a0g_24 a0g_25 a0g_26 a0g_27 a0g_28 a0g_29 a0g_30 a0g_31 a0g_32 a0g_33 a0g_34 a0g_35 a0g_36 a0g_37 a0g_38 a0g_39 : Value) (a0_1 : Nat) (a0_3 : Int32) (ka0_1 : ClassId) (fa0_1 : Nat → Int32) (ba1_l : (0 : Int) ≤ a1.toInt) (ba1_u : a1.toInt ≤ (900 : Int)) (ba0_3_l : (0 : Int) ≤ a0_3.toInt) (ba0_3_u : a0_3.toInt ≤ (900 : Int)) : zm l yX8_see wsX8_see ({ frames := 0, cells := 0, slots := 0, locals := 0 }) [.ref a0, .int a1] dC dI sz [(a0, .inr (8, [a0g_0, Value.ref a0_1, a0g_2, Value.int a0_3, a0g_4, a0g_5, a0g_6, a0g_7, a0g_8, a0g_9, a0g_10, a0g_11, a0g_12, a0g_13, a0g_14, a0g_15, a0g_16, a0g_17, a0g_18, a0g_19, a0g_20, a0g_21, a0g_22, a0g_23, a0g_24, a0g_25, a0g_26, a0g_27, a0g_28, a0g_29, a0g_30, a0g_31, a0g_32, a0g_33, a0g_34, a0g_35, a0g_36, a0g_37, a0g_38, a0g_39])), (a0_1, .inl (ka0_1, 900, .inl (fa0_1)))] [(ka0_1, .int)] (fun A _ => True) (fun A => va_Qi (fun (r : Int32) (_ : Unit) => ((r = (-1) ∧ a0_3.toInt ≤ a1.toInt) ∨ (a1.toInt < a0_3.toInt)) ∧ r.toInt = Ff_X8_see a1.toInt a0_3.toInt (fl_A fa0_1)) (fun (_ : Unit) (t : State) => ax_B dC dI A [(a0, .inr (8, [a0g_0, Value.ref a0_1, a0g_2, Value.int a0_3, a0g_4, a0g_5, a0g_6, a0g_7, a0g_8, a0g_9, a0g_10, a0g_11, a0g_12, a0g_13, a0g_14, a0g_15, a0g_16, a0g_17, a0g_18, a0g_19, a0g_20, a0g_21, a0g_22, a0g_23, a0g_24, a0g_25, a0g_26, a0g_27, a0g_28, a0g_29, a0g_30, a0g_31, a0g_32, a0g_33, a0g_34, a0g_35, a0g_36, a0g_37, a0g_38, a0g_39])), (a0_1, .inl (ka0_1, 900, .inl (fa0_1)))] [(ka0_1, .int)] t) A) := by
  refine zh (cc := cX8_see) (maxL := 2) (ret := (some .int)) zn_RX8 rfl (Nat.le_of_ble_eq_true rfl) (fun p e s m below meth c A ls hx hb hml hr hts (hown : s.vm.findClass RX8 = some m.cls) hlocks hA hS hP hK hD hE (hl : lv_has ls 2 [(0, .ref a0), (1, .int a1)]) => ?_)
  generalize hFX : Ff_X8_see a1.toInt a0_3.toInt (fl_A fa0_1) = FX at ⊢
  have hF0 := hFX.symm.trans (Ff_X8_see.eq_1 a1.toInt a0_3.toInt (fl_A fa0_1))
  refine lv_iload_n hx hb dX8_see_0 rfl (lv_at hl 1 rfl) ?_
  refine lv_aload_n hx hb dX8_see_1 rfl (lv_at hl 0 rfl) ?_
  refine va_get (D := (dC, dI)) (ci := 8) (v := .int a0_3) (C := RX8) (T := TX8) (N := 40) hx hb hts zi_X8_see_8 hown hK hP 0 rfl rfl 3 (by decide) (hts (.fieldLink RX8 68 "WaxTurnsModel" "size" "I") (List.mem_cons_of_mem _ (List.mem_append_left _ (List.mem_of_getElem? (i := 0) rfl)))) (fun _ h9 => h9) rfl dX8_see_2 ?_
  refine lv_icmp_ge (tgt := 17) hx hb dX8_see_5 (by decide) (fun c5 => ?_) (fun c5 => ?_)
  · have gc5 := ai_le c5
    have u5t_a0_3 : a0_3.toInt ≤ (900 : Int) := ba0_3_u
    have l5t_a1 : (0 : Int) ≤ a1.toInt := ba1_l
    have hF0 := hF0.trans (if_pos (show a0_3.toInt ≤ a1.toInt from gc5))
    refine lv_iconst (v := (-1)) hx hb dX8_see_17 zk_iconst_n1 ?_
    have hFe : FX = (-1) := hF0
    exact W.iret (v := (-1)) hx hb hr (fun t ht hW => ⟨⟨(-1), (), rfl, ⟨(Or.inl ⟨rfl, by omega⟩), hFe.symm⟩, by rw [ht]; exact hP, va_K.moved hW.alike hK, hD⟩, hS.F ht⟩) hS.2.2 dX8_see_18
  · have gc5 := ai_nle c5
    have u5f_a1 : a1.toInt ≤ (899 : Int) := ai_lthi gc5 ba0_3_u
    have l5f_a0_3 : (1 : Int) ≤ a0_3.toInt := ai_ltlo gc5 ba1_l
    have hF0 := hF0.trans (if_neg (show ¬ (a0_3.toInt ≤ a1.toInt) from Int.not_le.mpr gc5))
    refine lv_aload_n hx hb dX8_see_8 rfl (lv_at hl 0 rfl) ?_
    refine va_get (D := (dC, dI)) (ci := 8) (v := .ref a0_1) (C := RX8) (T := TX8) (N := 40) hx hb hts zi_X8_see_8 hown hK hP 0 rfl rfl 1 (by decide) (hts (.fieldLink RX8 7 "WaxTurnsModel" "tape" "[I") (List.mem_cons_of_mem _ (List.mem_append_left _ (List.mem_of_getElem? (i := 1) rfl)))) (fun _ h9 => h9) rfl dX8_see_9 ?_
    refine lv_iload_n hx hb dX8_see_12 rfl (lv_at hl 1 rfl) ?_
    refine va_iald hx hb hK hP 1 0 rfl rfl (ai_in ba1_l u5f_a1 (by decide) (by decide)) dX8_see_13 ?_
    refine lv_topi (fun x13 ex13 => ?_)
    have fqx13 := congrArg Int32.toInt ex13
    have hF0 := hF0.trans (fl_lt_eq (show x13.toInt = (fl_A fa0_1) (a1.toInt.toNat) from fqx13))
    refine lv_goto (tgt := 18) hx hb dX8_see_14 (by decide) ?_
    have hFe : FX = x13.toInt := hF0
    exact W.iret (v := x13) hx hb hr (fun t ht hW => ⟨⟨x13, (), rfl, ⟨(Or.inr (by omega)), hFe.symm⟩, by rw [ht]; exact hP, va_K.moved hW.alike hK, hD⟩, hS.F ht⟩) hS.2.2 dX8_see_18

set_option maxHeartbeats 4000000 in
set_option maxRecDepth 100000 in
theorem f_X8_next (l : Launch) (dC : Nat → ClassId) (dI : Nat → Nat → Nat) (sz : Nat) (a0 : Nat) (a0g_0 a0g_2 a0g_9 a0g_10 a0g_11 a0g_13 a0g_14 a0g_15 a0g_16 a0g_17 a0g_18 a0g_19 a0g_20 a0g_21 a0g_22 a0g_23 a0g_24 a0g_25 a0g_26 a0g_27 a0g_28 a0g_29 a0g_30 a0g_31 a0g_32 a0g_33 a0g_34 a0g_35 a0g_36 a0g_37 a0g_38 a0g_39 : Value) (a0_1 : Nat) (a0_3 : Int32) (a0_4 : Int32) (a0_5 : Int32) (a0_6 : Int32) (a0_7 : Int32) (a0_8 : Int32) (a0_12 : Nat) (ka0_1 : ClassId) (fa0_1 : Nat → Int32) (ka0_12 : ClassId) (fa0_12 : Nat → Int32) (ba0_3_l : (0 : Int) ≤ a0_3.toInt) (ba0_3_u : a0_3.toInt ≤ (900 : Int)) (ba0_5_l : (0 : Int) ≤ a0_5.toInt) (ba0_5_u : a0_5.toInt ≤ (900 : Int)) (ba0_8_l : (0 : Int) ≤ a0_8.toInt) (ba0_8_u : a0_8.toInt ≤ (900 : Int)) : zm l yX8_next wsX8_next ({ frames := 1, cells := 0, slots := 0, locals := 21 }) [.ref a0] dC dI sz [(a0, .inr (8, [a0g_0, Value.ref a0_1, a0g_2, Value.int a0_3, Value.int a0_4, Value.int a0_5, Value.int a0_6, Value.int a0_7, Value.int a0_8, a0g_9, a0g_10, a0g_11, Value.ref a0_12, a0g_13, a0g_14, a0g_15, a0g_16, a0g_17, a0g_18, a0g_19, a0g_20, a0g_21, a0g_22, a0g_23, a0g_24, a0g_25, a0g_26, a0g_27, a0g_28, a0g_29, a0g_30, a0g_31, a0g_32, a0g_33, a0g_34, a0g_35, a0g_36, a0g_37, a0g_38, a0g_39])), (a0_1, .inl (ka0_1, 900, .inl (fa0_1))), (a0_12, .inl (ka0_12, 8, .inl (fa0_12)))] [(ka0_1, .int), (ka0_12, .int)] (fun A _ => True) (fun A => va_Qv (fun (_ : Unit) => True) (fun (_ : Unit) (t : State) => ∃ na0_4 : Int32, ∃ na0_5 : Int32, ∃ na0_6 : Int32, ∃ na0_7 : Int32, ∃ na0_8 : Int32, ∃ nfa0_12 : Nat → Int32, ((0 : Int) ≤ na0_5.toInt ∧ na0_5.toInt ≤ 900) ∧ ((0 : Int) ≤ na0_8.toInt ∧ na0_8.toInt ≤ 900) ∧ (na0_6.toInt = 2 → na0_8.toInt ≤ 8) ∧ (a0_5.toInt ≤ na0_5.toInt ∧ (na0_6.toInt ≠ 59 ∨ a0_5.toInt < na0_5.toInt)) ∧ (Ff_X8_next a0_3.toInt a0_5.toInt (fl_A fa0_1) (fl_A fa0_12) = (na0_4.toInt, na0_5.toInt, na0_6.toInt, na0_7.toInt, na0_8.toInt, (fl_A nfa0_12))) ∧ ax_B dC dI A [(a0, .inr (8, [a0g_0, Value.ref a0_1, a0g_2, Value.int a0_3, Value.int na0_4, Value.int na0_5, Value.int na0_6, Value.int na0_7, Value.int na0_8, a0g_9, a0g_10, a0g_11, Value.ref a0_12, a0g_13, a0g_14, a0g_15, a0g_16, a0g_17, a0g_18, a0g_19, a0g_20, a0g_21, a0g_22, a0g_23, a0g_24, a0g_25, a0g_26, a0g_27, a0g_28, a0g_29, a0g_30, a0g_31, a0g_32, a0g_33, a0g_34, a0g_35, a0g_36, a0g_37, a0g_38, a0g_39])), (a0_1, .inl (ka0_1, 900, .inl (fa0_1))), (a0_12, .inl (ka0_12, 8, .inl (nfa0_12)))] [(ka0_1, .int), (ka0_12, .int)] t) A) := by
  refine zh (cc := cX8_next) (maxL := 4) (ret := none) zn_RX8 rfl (Nat.le_of_ble_eq_true rfl) (fun p e s m below meth c A ls hx hb hml hr hts (hown : s.vm.findClass RX8 = some m.cls) hlocks hA hS hP hK hD hE (hl : lv_has ls 4 [(0, .ref a0)]) => ?_)
  generalize hFX : Ff_X8_next a0_3.toInt a0_5.toInt (fl_A fa0_1) (fl_A fa0_12) = FX at ⊢
  have hF0 := hFX.symm.trans (Ff_X8_next.eq_1 a0_3.toInt a0_5.toInt (fl_A fa0_1) (fl_A fa0_12))
  refine ai_open (fun K hK0 => ?_)
  refine (hK0 _ _ _).mpr ?_
  refine lv_aload_n hx hb dX8_next_0 rfl (lv_at hl 0 rfl) ?_
  refine va_get (D := (dC, dI)) (ci := 8) (v := .int a0_5) (C := RX8) (T := TX8) (N := 40) hx hb hts zi_X8_next_8 hown hK hP 0 rfl rfl 5 (by decide) (hts (.fieldLink RX8 71 "WaxTurnsModel" "end" "I") (List.mem_cons_of_mem _ (List.mem_append_left _ (List.mem_of_getElem? (i := 0) rfl)))) (fun _ h9 => h9) rfl dX8_next_1 ?_
  refine lv_istore_n (lv' := [(1, .int a0_5), (0, .ref a0)]) hx hb dX8_next_4 rfl hl (by decide) rfl (fun ls hl => ?_)
  have J5 : ∀ (n : Nat) (j5l1 : Int32) (H : Heap) (locs : List Loc) (ls : Array Slot), (901 : Int) - j5l1.toInt ≤ (n : Int) → (0 : Int) ≤ j5l1.toInt → j5l1.toInt ≤ (900 : Int) → (a0_5.toInt ≤ j5l1.toInt) → (FX = fl_wh (Sf_X8_next_5_1 a0_3.toInt (fl_A fa0_1) (fl_A fa0_12)) (0, 0, 0, 0, 0, (fun _ => 0)) n j5l1.toInt) → va_P (dC, dI) vwCl [(a0, .inr (8, [a0g_0, Value.ref a0_1, a0g_2, Value.int a0_3, Value.int a0_4, Value.int a0_5, Value.int a0_6, Value.int a0_7, Value.int a0_8, a0g_9, a0g_10, a0g_11, Value.ref a0_12, a0g_13, a0g_14, a0g_15, a0g_16, a0g_17, a0g_18, a0g_19, a0g_20, a0g_21, a0g_22, a0g_23, a0g_24, a0g_25, a0g_26, a0g_27, a0g_28, a0g_29, a0g_30, a0g_31, a0g_32, a0g_33, a0g_34, a0g_35, a0g_36, a0g_37, a0g_38, a0g_39])), (a0_1, .inl (ka0_1, 900, .inl (fa0_1))), (a0_12, .inl (ka0_12, 8, .inl (fa0_12)))] H → va_D A [(a0, .inr (8, [a0g_0, Value.ref a0_1, a0g_2, Value.int a0_3, Value.int a0_4, Value.int a0_5, Value.int a0_6, Value.int a0_7, Value.int a0_8, a0g_9, a0g_10, a0g_11, Value.ref a0_12, a0g_13, a0g_14, a0g_15, a0g_16, a0g_17, a0g_18, a0g_19, a0g_20, a0g_21, a0g_22, a0g_23, a0g_24, a0g_25, a0g_26, a0g_27, a0g_28, a0g_29, a0g_30, a0g_31, a0g_32, a0g_33, a0g_34, a0g_35, a0g_36, a0g_37, a0g_38, a0g_39])), (a0_1, .inl (ka0_1, 900, .inl (fa0_1))), (a0_12, .inl (ka0_12, 8, .inl (fa0_12)))] → va_S A s.heap H locs → lv_has ls 4 [(0, .ref a0), (1, .int j5l1)] → K H locs (F0 m 5 ls []) := by
    intro n
    induction n with
    | zero =>
      intro j5l1 H locs ls hm bj5l1_l bj5l1_u ke5 hF0 hP hD hS hl
      first | exact zg_0 hm bj5l1_u (by decide) | (have h8 := ai_min j5l1; have h9 := ai_max j5l1; exact absurd hm (by omega))
    | succ n ih5 =>
      intro j5l1 H locs ls hm bj5l1_l bj5l1_u ke5 hF0 hP hD hS hl
      refine (hK0 _ _ _).mpr ?_
      have hm5 := hm
      obtain ⟨SX5, hSX5⟩ : ∃ q9, Sf_X8_next_5_1 a0_3.toInt (fl_A fa0_1) (fl_A fa0_12) j5l1.toInt = q9 := ⟨_, rfl⟩
      have hF1 := hSX5.symm.trans (Sf_X8_next_5_1.eq_1 a0_3.toInt (fl_A fa0_1) (fl_A fa0_12) j5l1.toInt)
      refine lv_aload_n hx hb dX8_next_5 rfl (lv_at hl 0 rfl) ?_
      refine lv_iload_n hx hb dX8_next_6 rfl (lv_at hl 1 rfl) ?_
      have hKc := hK.sub (tys' := [(ka0_1, .int)]) [0] rfl
      refine va_calli (va_runV (As := [.int j5l1]) (rest := []) ⟨hx, hb, hml, hown, hts⟩ (f_X8_see l dC dI H.size a0 j5l1 a0g_0 a0g_2 (Value.int a0_4) (Value.int a0_5) (Value.int a0_6) (Value.int a0_7) (Value.int a0_8) a0g_9 a0g_10 a0g_11 (Value.ref a0_12) a0g_13 a0g_14 a0g_15 a0g_16 a0g_17 a0g_18 a0g_19 a0g_20 a0g_21 a0g_22 a0g_23 a0g_24 a0g_25 a0g_26 a0g_27 a0g_28 a0g_29 a0g_30 a0g_31 a0g_32 a0g_33 a0g_34 a0g_35 a0g_36 a0g_37 a0g_38 a0g_39 a0_1 a0_3 ka0_1 fa0_1 bj5l1_l bj5l1_u ba0_3_l ba0_3_u) (cwV 1 hts gX8_next_X8_see rfl rfl rfl zd_X8_see ⟨Nat.le_of_ble_eq_true rfl, Nat.le_of_ble_eq_true rfl⟩) ⟨ax_blind (fun _ _ _ _ _ => trivial), zr_8 hKc (zp_P2 hP) (q0 := 0) rfl, ax_pre (zp_P2 hP) hKc (zp_D2 hD) (fun _ _ => trivial)⟩ rfl rfl hl.1 rfl (lv_room (Nat.le_of_ble_eq_true rfl)) dX8_next_7 ⟨Nat.le_of_ble_eq_true rfl, Nat.le_of_ble_eq_true rfl⟩) hS (fun q _ h => zp_F2 hD hS hA q h) (zp_F2 hD hS hA) (fun r7 u t H locs ht hvm hw hB hz1 hk1 hS1 => zo2 hB ht hP hD hk1 (zp_F2 hD hS hA) hS1 (fun hP hK1 hD hS => ?_))
      obtain ⟨hw, hfr7⟩ := hw
      have hc7 : Ff_X8_see j5l1.toInt a0_3.toInt (fl_A fa0_1) = r7.toInt := hfr7.symm
      have hF1 := hF1.trans (fl_lt_eq hc7.symm)
      rcases hw with hw | hw
      · obtain ⟨hw, h7⟩ := hw
        subst hw
        have hF1 := hF1.trans (if_pos (show a0_3.toInt ≤ j5l1.toInt from h7))
        refine lv_bipush (v := 32) hx hb dX8_next_10 zk_bipush_32 ?_
        refine lv_icmp_ne (tgt := 21) hx hb dX8_next_12 (by decide) (fun _ => ?_) (fun c12 => absurd c12 (by decide +kernel))
        have hF0 := hF0.trans (fl_wh_r (hSX5.trans hF1))
        refine lv_aload_n hx hb dX8_next_21 rfl (lv_at hl 0 rfl) ?_
        refine lv_iload_n hx hb dX8_next_22 rfl (lv_at hl 1 rfl) ?_
        refine va_put (D := (dC, dI)) (ci := 8) (v := .int j5l1) (ty := .int) (C := RX8) (T := TX8) (N := 40) hx hb hts zi_X8_next_8 tyX8 tyX8_ok nmX8 hown hK hP hD hS 0 rfl rfl 4 (by decide) (hts (.fieldLink RX8 78 "WaxTurnsModel" "at" "I") (List.mem_cons_of_mem _ (List.mem_append_left _ (List.mem_of_getElem? (i := 1) rfl)))) (fun _ h9 => h9) rfl (tyX8_ok 4 (by decide)) rfl rfl (Nat.le_of_ble_eq_true rfl) dX8_next_23 (fun H locs hP hD hS => ?_)
        refine zs_0 (y := (a0, .inr (8, [a0g_0, Value.ref a0_1, a0g_2, Value.int a0_3, Value.int j5l1, Value.int a0_5, Value.int a0_6, Value.int a0_7, Value.int a0_8, a0g_9, a0g_10, a0g_11, Value.ref a0_12, a0g_13, a0g_14, a0g_15, a0g_16, a0g_17, a0g_18, a0g_19, a0g_20, a0g_21, a0g_22, a0g_23, a0g_24, a0g_25, a0g_26, a0g_27, a0g_28, a0g_29, a0g_30, a0g_31, a0g_32, a0g_33, a0g_34, a0g_35, a0g_36, a0g_37, a0g_38, a0g_39]))) hP hD rfl (fun hP hD => ?_)
        refine lv_aload_n hx hb dX8_next_26 rfl (lv_at hl 0 rfl) ?_
        refine lv_iload_n hx hb dX8_next_27 rfl (lv_at hl 1 rfl) ?_
        have hKc := hK.sub (tys' := [(ka0_1, .int)]) [0] rfl
        refine va_calli (va_runV (As := [.int j5l1]) (rest := []) ⟨hx, hb, hml, hown, hts⟩ (f_X8_see l dC dI H.size a0 j5l1 a0g_0 a0g_2 (Value.int j5l1) (Value.int a0_5) (Value.int a0_6) (Value.int a0_7) (Value.int a0_8) a0g_9 a0g_10 a0g_11 (Value.ref a0_12) a0g_13 a0g_14 a0g_15 a0g_16 a0g_17 a0g_18 a0g_19 a0g_20 a0g_21 a0g_22 a0g_23 a0g_24 a0g_25 a0g_26 a0g_27 a0g_28 a0g_29 a0g_30 a0g_31 a0g_32 a0g_33 a0g_34 a0g_35 a0g_36 a0g_37 a0g_38 a0g_39 a0_1 a0_3 ka0_1 fa0_1 bj5l1_l bj5l1_u ba0_3_l ba0_3_u) (cwV 1 hts gX8_next_X8_see rfl rfl rfl zd_X8_see ⟨Nat.le_of_ble_eq_true rfl, Nat.le_of_ble_eq_true rfl⟩) ⟨ax_blind (fun _ _ _ _ _ => trivial), zr_8 hKc (zp_P2 hP) (q0 := 0) rfl, ax_pre (zp_P2 hP) hKc (zp_D2 hD) (fun _ _ => trivial)⟩ rfl rfl hl.1 rfl (lv_room (Nat.le_of_ble_eq_true rfl)) dX8_next_28 ⟨Nat.le_of_ble_eq_true rfl, Nat.le_of_ble_eq_true rfl⟩) hS (fun q _ h => zp_F2 hD hS hA q h) (zp_F2 hD hS hA) (fun r28 u t H locs ht hvm hw hB hz1 hk1 hS1 => zo2 hB ht hP hD hk1 (zp_F2 hD hS hA) hS1 (fun hP hK1 hD hS => ?_))
        obtain ⟨hw, hfr28⟩ := hw
        have hc28 : Ff_X8_see j5l1.toInt a0_3.toInt (fl_A fa0_1) = r28.toInt := hfr28.symm
        have hF0 := hF0.trans (fl_lt_eq hc28.symm)
        rcases hw with hw | hw
        · obtain ⟨hw, h28⟩ := hw
          subst hw
          have hF0 := hF0.trans (if_pos (show a0_3.toInt ≤ j5l1.toInt from h28))
          refine lv_istore_n (lv' := [(2, .int (-1)), (0, .ref a0), (1, .int j5l1)]) hx hb dX8_next_31 rfl hl (by decide) rfl (fun ls hl => ?_)
          refine lv_aload_n hx hb dX8_next_32 rfl (lv_at hl 1 rfl) ?_
          refine lv_iconst (v := 0) hx hb dX8_next_33 zk_iconst_0 ?_
          refine va_put (D := (dC, dI)) (ci := 8) (v := .int 0) (ty := .int) (C := RX8) (T := TX8) (N := 40) hx hb hts zi_X8_next_8 tyX8 tyX8_ok nmX8 hown hK hP hD hS 0 rfl rfl 8 (by decide) (hts (.fieldLink RX8 81 "WaxTurnsModel" "nameSize" "I") (List.mem_cons_of_mem _ (List.mem_append_left _ (List.mem_of_getElem? (i := 2) rfl)))) (fun _ h9 => h9) rfl (tyX8_ok 8 (by decide)) rfl rfl (Nat.le_of_ble_eq_true rfl) dX8_next_34 (fun H locs hP hD hS => ?_)
          refine zs_0 (y := (a0, .inr (8, [a0g_0, Value.ref a0_1, a0g_2, Value.int a0_3, Value.int j5l1, Value.int a0_5, Value.int a0_6, Value.int a0_7, Value.int 0, a0g_9, a0g_10, a0g_11, Value.ref a0_12, a0g_13, a0g_14, a0g_15, a0g_16, a0g_17, a0g_18, a0g_19, a0g_20, a0g_21, a0g_22, a0g_23, a0g_24, a0g_25, a0g_26, a0g_27, a0g_28, a0g_29, a0g_30, a0g_31, a0g_32, a0g_33, a0g_34, a0g_35, a0g_36, a0g_37, a0g_38, a0g_39]))) hP hD rfl (fun hP hD => ?_)
          refine lv_aload_n hx hb dX8_next_37 rfl (lv_at hl 1 rfl) ?_
          refine lv_iconst (v := 0) hx hb dX8_next_38 zk_iconst_0 ?_
          refine va_put (D := (dC, dI)) (ci := 8) (v := .int 0) (ty := .int) (C := RX8) (T := TX8) (N := 40) hx hb hts zi_X8_next_8 tyX8 tyX8_ok nmX8 hown hK hP hD hS 0 rfl rfl 7 (by decide) (hts (.fieldLink RX8 84 "WaxTurnsModel" "whole" "I") (List.mem_cons_of_mem _ (List.mem_append_left _ (List.mem_of_getElem? (i := 3) rfl)))) (fun _ h9 => h9) rfl (tyX8_ok 7 (by decide)) rfl rfl (Nat.le_of_ble_eq_true rfl) dX8_next_39 (fun H locs hP hD hS => ?_)
          refine zs_0 (y := (a0, .inr (8, [a0g_0, Value.ref a0_1, a0g_2, Value.int a0_3, Value.int j5l1, Value.int a0_5, Value.int a0_6, Value.int 0, Value.int 0, a0g_9, a0g_10, a0g_11, Value.ref a0_12, a0g_13, a0g_14, a0g_15, a0g_16, a0g_17, a0g_18, a0g_19, a0g_20, a0g_21, a0g_22, a0g_23, a0g_24, a0g_25, a0g_26, a0g_27, a0g_28, a0g_29, a0g_30, a0g_31, a0g_32, a0g_33, a0g_34, a0g_35, a0g_36, a0g_37, a0g_38, a0g_39]))) hP hD rfl (fun hP hD => ?_)
          refine lv_iload_n hx hb dX8_next_42 rfl (lv_at hl 0 rfl) ?_
          refine lv_iconst (v := (-1)) hx hb dX8_next_43 zk_iconst_n1 ?_
          refine lv_icmp_ne (tgt := 60) hx hb dX8_next_44 (by decide) (fun c44 => absurd (by decide +kernel) c44) (fun _ => ?_)
          refine lv_aload_n hx hb dX8_next_47 rfl (lv_at hl 1 rfl) ?_
          refine lv_iconst (v := 0) hx hb dX8_next_48 zk_iconst_0 ?_
          refine va_put (D := (dC, dI)) (ci := 8) (v := .int 0) (ty := .int) (C := RX8) (T := TX8) (N := 40) hx hb hts zi_X8_next_8 tyX8 tyX8_ok nmX8 hown hK hP hD hS 0 rfl rfl 6 (by decide) (hts (.fieldLink RX8 87 "WaxTurnsModel" "token" "I") (List.mem_cons_of_mem _ (List.mem_append_left _ (List.mem_of_getElem? (i := 4) rfl)))) (fun _ h9 => h9) rfl (tyX8_ok 6 (by decide)) rfl rfl (Nat.le_of_ble_eq_true rfl) dX8_next_49 (fun H locs hP hD hS => ?_)
          refine zs_0 (y := (a0, .inr (8, [a0g_0, Value.ref a0_1, a0g_2, Value.int a0_3, Value.int j5l1, Value.int a0_5, Value.int 0, Value.int 0, Value.int 0, a0g_9, a0g_10, a0g_11, Value.ref a0_12, a0g_13, a0g_14, a0g_15, a0g_16, a0g_17, a0g_18, a0g_19, a0g_20, a0g_21, a0g_22, a0g_23, a0g_24, a0g_25, a0g_26, a0g_27, a0g_28, a0g_29, a0g_30, a0g_31, a0g_32, a0g_33, a0g_34, a0g_35, a0g_36, a0g_37, a0g_38, a0g_39]))) hP hD rfl (fun hP hD => ?_)
          refine lv_aload_n hx hb dX8_next_52 rfl (lv_at hl 1 rfl) ?_
          refine lv_iload_n hx hb dX8_next_53 rfl (lv_at hl 2 rfl) ?_
          refine va_put (D := (dC, dI)) (ci := 8) (v := .int j5l1) (ty := .int) (C := RX8) (T := TX8) (N := 40) hx hb hts zi_X8_next_8 tyX8 tyX8_ok nmX8 hown hK hP hD hS 0 rfl rfl 5 (by decide) (hts (.fieldLink RX8 71 "WaxTurnsModel" "end" "I") (List.mem_cons_of_mem _ (List.mem_append_left _ (List.mem_of_getElem? (i := 0) rfl)))) (fun _ h9 => h9) rfl (tyX8_ok 5 (by decide)) rfl rfl (Nat.le_of_ble_eq_true rfl) dX8_next_54 (fun H locs hP hD hS => ?_)
          refine zs_0 (y := (a0, .inr (8, [a0g_0, Value.ref a0_1, a0g_2, Value.int a0_3, Value.int j5l1, Value.int j5l1, Value.int 0, Value.int 0, Value.int 0, a0g_9, a0g_10, a0g_11, Value.ref a0_12, a0g_13, a0g_14, a0g_15, a0g_16, a0g_17, a0g_18, a0g_19, a0g_20, a0g_21, a0g_22, a0g_23, a0g_24, a0g_25, a0g_26, a0g_27, a0g_28, a0g_29, a0g_30, a0g_31, a0g_32, a0g_33, a0g_34, a0g_35, a0g_36, a0g_37, a0g_38, a0g_39]))) hP hD rfl (fun hP hD => ?_)
          refine lv_goto (tgt := 241) hx hb dX8_next_57 (by decide) ?_
          have hFe : FX = (j5l1.toInt, j5l1.toInt, 0, 0, 0, (fl_A fa0_12)) := hF0
          exact W.vret hx hb hr (fun t ht hW => ⟨⟨(), rfl, trivial, j5l1, j5l1, 0, 0, 0, fa0_12, ⟨bj5l1_l, bj5l1_u⟩, ⟨zq5, Int.le_trans zq6 (by decide)⟩, (fun h9 => absurd h9 (by decide)), ⟨by omega, Or.inl (by decide)⟩, hFe, by rw [ht]; exact hP, va_K.moved hW.alike hK, hD⟩, hS.F ht⟩) hS.2.2 dX8_next_241
        · have h28 := hw
          have u28k1_j5l1 : j5l1.toInt ≤ (899 : Int) := by have h1 := h28; have h2 := ba0_3_u; omega
          have hF0 := hF0.trans (if_neg (show ¬ (a0_3.toInt ≤ j5l1.toInt) from Int.not_le.mpr h28))
          refine lv_istore_n (lv' := [(2, .int r28), (0, .ref a0), (1, .int j5l1)]) hx hb dX8_next_31 rfl hl (by decide) rfl (fun ls hl => ?_)
          refine lv_aload_n hx hb dX8_next_32 rfl (lv_at hl 1 rfl) ?_
          refine lv_iconst (v := 0) hx hb dX8_next_33 zk_iconst_0 ?_
          refine va_put (D := (dC, dI)) (ci := 8) (v := .int 0) (ty := .int) (C := RX8) (T := TX8) (N := 40) hx hb hts zi_X8_next_8 tyX8 tyX8_ok nmX8 hown hK hP hD hS 0 rfl rfl 8 (by decide) (hts (.fieldLink RX8 81 "WaxTurnsModel" "nameSize" "I") (List.mem_cons_of_mem _ (List.mem_append_left _ (List.mem_of_getElem? (i := 2) rfl)))) (fun _ h9 => h9) rfl (tyX8_ok 8 (by decide)) rfl rfl (Nat.le_of_ble_eq_true rfl) dX8_next_34 (fun H locs hP hD hS => ?_)
          refine zs_0 (y := (a0, .inr (8, [a0g_0, Value.ref a0_1, a0g_2, Value.int a0_3, Value.int j5l1, Value.int a0_5, Value.int a0_6, Value.int a0_7, Value.int 0, a0g_9, a0g_10, a0g_11, Value.ref a0_12, a0g_13, a0g_14, a0g_15, a0g_16, a0g_17, a0g_18, a0g_19, a0g_20, a0g_21, a0g_22, a0g_23, a0g_24, a0g_25, a0g_26, a0g_27, a0g_28, a0g_29, a0g_30, a0g_31, a0g_32, a0g_33, a0g_34, a0g_35, a0g_36, a0g_37, a0g_38, a0g_39]))) hP hD rfl (fun hP hD => ?_)
          refine lv_aload_n hx hb dX8_next_37 rfl (lv_at hl 1 rfl) ?_
          refine lv_iconst (v := 0) hx hb dX8_next_38 zk_iconst_0 ?_
          refine va_put (D := (dC, dI)) (ci := 8) (v := .int 0) (ty := .int) (C := RX8) (T := TX8) (N := 40) hx hb hts zi_X8_next_8 tyX8 tyX8_ok nmX8 hown hK hP hD hS 0 rfl rfl 7 (by decide) (hts (.fieldLink RX8 84 "WaxTurnsModel" "whole" "I") (List.mem_cons_of_mem _ (List.mem_append_left _ (List.mem_of_getElem? (i := 3) rfl)))) (fun _ h9 => h9) rfl (tyX8_ok 7 (by decide)) rfl rfl (Nat.le_of_ble_eq_true rfl) dX8_next_39 (fun H locs hP hD hS => ?_)
          refine zs_0 (y := (a0, .inr (8, [a0g_0, Value.ref a0_1, a0g_2, Value.int a0_3, Value.int j5l1, Value.int a0_5, Value.int a0_6, Value.int 0, Value.int 0, a0g_9, a0g_10, a0g_11, Value.ref a0_12, a0g_13, a0g_14, a0g_15, a0g_16, a0g_17, a0g_18, a0g_19, a0g_20, a0g_21, a0g_22, a0g_23, a0g_24, a0g_25, a0g_26, a0g_27, a0g_28, a0g_29, a0g_30, a0g_31, a0g_32, a0g_33, a0g_34, a0g_35, a0g_36, a0g_37, a0g_38, a0g_39]))) hP hD rfl (fun hP hD => ?_)
          refine lv_iload_n hx hb dX8_next_42 rfl (lv_at hl 0 rfl) ?_
          refine lv_iconst (v := (-1)) hx hb dX8_next_43 zk_iconst_n1 ?_
          refine lv_icmp_ne (tgt := 60) hx hb dX8_next_44 (by decide) (fun c44 => ?_) (fun c44 => ?_)
          · have gc44 := ai_ne c44
            have hF0 := hF0.trans (if_neg (show ¬ (r28.toInt = (-1)) from  gc44))
            refine lv_iload_n hx hb dX8_next_60 rfl (lv_at hl 0 rfl) ?_
            refine va_calli (va_runS (As := [.int r28]) (rest := []) ⟨hx, hb, hml, hown, hts⟩ (f_X8_isSmall l dC dI H.size r28 ) (va_cwS 1 hts gX8_next_X8_isSmall rfl rfl rfl zd_X8_isSmall.2 ⟨Nat.le_of_ble_eq_true rfl, Nat.le_of_ble_eq_true rfl⟩) ⟨ax_blind (fun _ _ _ _ _ => trivial), ax_pre (zp_P0 hP) (zp_K hK) (zp_D0 hD) (fun _ _ => trivial)⟩ rfl rfl hl.1 rfl (lv_room (Nat.le_of_ble_eq_true rfl)) dX8_next_61 ⟨Nat.le_of_ble_eq_true rfl, Nat.le_of_ble_eq_true rfl⟩) hS (fun q _ h => zp_F0 hD hS hA q h) (zp_F0 hD hS hA) (fun r61 u t H locs ht hvm hw hB hz1 hk1 hS1 => zo0 hB ht hP hD hk1 (zp_F0 hD hS hA) hS1 (fun hP hK1 hD hS => ?_))
            obtain ⟨hw, hfr61⟩ := hw
            have hc61 : Ff_X8_isSmall r28.toInt = r61.toInt := hfr61.symm
            have hF0 := hF0.trans (fl_lt_eq hc61.symm)
            rcases hw with hw | hw
            · obtain ⟨hw, h61_0, h61_1⟩ := hw
              subst hw
              have l61k0_r28 : (97 : Int) ≤ r28.toInt := h61_0
              have u61k0_r28 : r28.toInt ≤ (122 : Int) := h61_1
              have hF0 := hF0.trans (if_pos (by decide))
              refine lv_if_eq (tgt := 143) hx hb dX8_next_64 (by decide) (fun c64 => absurd c64 (by decide +kernel)) (fun _ => ?_)
              have J67 : ∀ (n : Nat) (j67l1 : Int32) (j67a0_8 : Int32) (j67a0_12_a : Nat → Int32) (H : Heap) (locs : List Loc) (ls : Array Slot), (901 : Int) - j67l1.toInt ≤ (n : Int) → (0 : Int) ≤ j67l1.toInt → j67l1.toInt ≤ (900 : Int) → (0 : Int) ≤ j67a0_8.toInt → j67a0_8.toInt ≤ (900 : Int) → (a0_5.toInt ≤ j67l1.toInt) → (j67a0_8.toInt ≤ j67l1.toInt) → (FX = fl_wh (fun t9 => Sf_X8_next_67_1 a0_3.toInt (fl_A fa0_1) j5l1.toInt t9.1 t9.2.1 t9.2.2) (0, 0, 0, 0, 0, (fun _ => 0)) n (j67l1.toInt, j67a0_8.toInt, (fl_A j67a0_12_a))) → va_P (dC, dI) vwCl [(a0, .inr (8, [a0g_0, Value.ref a0_1, a0g_2, Value.int a0_3, Value.int j5l1, Value.int a0_5, Value.int a0_6, Value.int 0, Value.int j67a0_8, a0g_9, a0g_10, a0g_11, Value.ref a0_12, a0g_13, a0g_14, a0g_15, a0g_16, a0g_17, a0g_18, a0g_19, a0g_20, a0g_21, a0g_22, a0g_23, a0g_24, a0g_25, a0g_26, a0g_27, a0g_28, a0g_29, a0g_30, a0g_31, a0g_32, a0g_33, a0g_34, a0g_35, a0g_36, a0g_37, a0g_38, a0g_39])), (a0_1, .inl (ka0_1, 900, .inl (fa0_1))), (a0_12, .inl (ka0_12, 8, .inl (j67a0_12_a)))] H → va_D A [(a0, .inr (8, [a0g_0, Value.ref a0_1, a0g_2, Value.int a0_3, Value.int j5l1, Value.int a0_5, Value.int a0_6, Value.int 0, Value.int j67a0_8, a0g_9, a0g_10, a0g_11, Value.ref a0_12, a0g_13, a0g_14, a0g_15, a0g_16, a0g_17, a0g_18, a0g_19, a0g_20, a0g_21, a0g_22, a0g_23, a0g_24, a0g_25, a0g_26, a0g_27, a0g_28, a0g_29, a0g_30, a0g_31, a0g_32, a0g_33, a0g_34, a0g_35, a0g_36, a0g_37, a0g_38, a0g_39])), (a0_1, .inl (ka0_1, 900, .inl (fa0_1))), (a0_12, .inl (ka0_12, 8, .inl (j67a0_12_a)))] → va_S A s.heap H locs → lv_has ls 4 [(0, .ref a0), (1, .int j67l1)] → K H locs (F0 m 67 ls []) := by
                intro n
                induction n with
                | zero =>
                  intro j67l1 j67a0_8 j67a0_12_a H locs ls hm bj67l1_l bj67l1_u bj67a0_8_l bj67a0_8_u ke67 nk67 hF0 hP hD hS hl
                  first | exact zg_0 hm bj67l1_u (by decide) | (have h8 := ai_min j67l1; have h9 := ai_max j67l1; exact absurd hm (by omega))
                | succ n ih67 =>
                  intro j67l1 j67a0_8 j67a0_12_a H locs ls hm bj67l1_l bj67l1_u bj67a0_8_l bj67a0_8_u ke67 nk67 hF0 hP hD hS hl
                  refine (hK0 _ _ _).mpr ?_
                  have hm67 := hm
                  obtain ⟨SX67, hSX67⟩ : ∃ q9, Sf_X8_next_67_1 a0_3.toInt (fl_A fa0_1) j5l1.toInt j67l1.toInt j67a0_8.toInt (fl_A j67a0_12_a) = q9 := ⟨_, rfl⟩
                  have hF1 := hSX67.symm.trans (Sf_X8_next_67_1.eq_1 a0_3.toInt (fl_A fa0_1) j5l1.toInt j67l1.toInt j67a0_8.toInt (fl_A j67a0_12_a))
                  refine lv_aload_n hx hb dX8_next_67 rfl (lv_at hl 0 rfl) ?_
                  refine lv_iload_n hx hb dX8_next_68 rfl (lv_at hl 1 rfl) ?_
                  have hKc := hK.sub (tys' := [(ka0_1, .int)]) [0] rfl
                  refine va_calli (va_runV (As := [.int j67l1]) (rest := []) ⟨hx, hb, hml, hown, hts⟩ (f_X8_see l dC dI H.size a0 j67l1 a0g_0 a0g_2 (Value.int j5l1) (Value.int a0_5) (Value.int a0_6) (Value.int 0) (Value.int j67a0_8) a0g_9 a0g_10 a0g_11 (Value.ref a0_12) a0g_13 a0g_14 a0g_15 a0g_16 a0g_17 a0g_18 a0g_19 a0g_20 a0g_21 a0g_22 a0g_23 a0g_24 a0g_25 a0g_26 a0g_27 a0g_28 a0g_29 a0g_30 a0g_31 a0g_32 a0g_33 a0g_34 a0g_35 a0g_36 a0g_37 a0g_38 a0g_39 a0_1 a0_3 ka0_1 fa0_1 bj67l1_l bj67l1_u ba0_3_l ba0_3_u) (cwV 1 hts gX8_next_X8_see rfl rfl rfl zd_X8_see ⟨Nat.le_of_ble_eq_true rfl, Nat.le_of_ble_eq_true rfl⟩) ⟨ax_blind (fun _ _ _ _ _ => trivial), zr_8 hKc (zp_P2 hP) (q0 := 0) rfl, ax_pre (zp_P2 hP) hKc (zp_D2 hD) (fun _ _ => trivial)⟩ rfl rfl hl.1 rfl (lv_room (Nat.le_of_ble_eq_true rfl)) dX8_next_69 ⟨Nat.le_of_ble_eq_true rfl, Nat.le_of_ble_eq_true rfl⟩) hS (fun q _ h => zp_F2 hD hS hA q h) (zp_F2 hD hS hA) (fun r69 u t H locs ht hvm hw hB hz1 hk1 hS1 => zo2 hB ht hP hD hk1 (zp_F2 hD hS hA) hS1 (fun hP hK1 hD hS => ?_))
                  obtain ⟨hw, hfr69⟩ := hw
                  have hc69 : Ff_X8_see j67l1.toInt a0_3.toInt (fl_A fa0_1) = r69.toInt := hfr69.symm
                  have hF1 := hF1.trans (fl_lt_eq hc69.symm)
                  rcases hw with hw | hw
                  · obtain ⟨hw, h69⟩ := hw
                    subst hw
                    have hF1 := hF1.trans (if_pos (show a0_3.toInt ≤ j67l1.toInt from h69))
                    refine va_calli (va_runS (As := [.int (-1)]) (rest := []) ⟨hx, hb, hml, hown, hts⟩ (f_X8_isSmall l dC dI H.size (-1) ) (va_cwS 1 hts gX8_next_X8_isSmall rfl rfl rfl zd_X8_isSmall.2 ⟨Nat.le_of_ble_eq_true rfl, Nat.le_of_ble_eq_true rfl⟩) ⟨ax_blind (fun _ _ _ _ _ => trivial), ax_pre (zp_P0 hP) (zp_K hK) (zp_D0 hD) (fun _ _ => trivial)⟩ rfl rfl hl.1 rfl (lv_room (Nat.le_of_ble_eq_true rfl)) dX8_next_72 ⟨Nat.le_of_ble_eq_true rfl, Nat.le_of_ble_eq_true rfl⟩) hS (fun q _ h => zp_F0 hD hS hA q h) (zp_F0 hD hS hA) (fun r72 u t H locs ht hvm hw hB hz1 hk1 hS1 => zo0 hB ht hP hD hk1 (zp_F0 hD hS hA) hS1 (fun hP hK1 hD hS => ?_))
                    obtain ⟨hw, hfr72⟩ := hw
                    rw [show ((-1) : Int32).toInt = (-1) from by decide] at hfr72
                    have hc72 : Ff_X8_isSmall (-1) = r72.toInt := hfr72.symm
                    have hF1 := hF1.trans (fl_lt_eq hc72.symm)
                    rcases hw with hw | hw
                    · obtain ⟨hw, h72_0, h72_1⟩ := hw
                      subst hw
                      exact absurd h72_0 (by decide)
                    · subst hw
                      have hF1 := hF1.trans (if_neg (by decide))
                      refine lv_if_eq (tgt := 117) hx hb dX8_next_75 (by decide) (fun _ => ?_) (fun c75 => absurd (by decide +kernel) c75)
                      have hF0 := hF0.trans (fl_wh_r (hSX67.trans hF1))
                      refine lv_aload_n hx hb dX8_next_117 rfl (lv_at hl 0 rfl) ?_
                      refine lv_iload_n hx hb dX8_next_118 rfl (lv_at hl 1 rfl) ?_
                      refine va_put (D := (dC, dI)) (ci := 8) (v := .int j67l1) (ty := .int) (C := RX8) (T := TX8) (N := 40) hx hb hts zi_X8_next_8 tyX8 tyX8_ok nmX8 hown hK hP hD hS 0 rfl rfl 5 (by decide) (hts (.fieldLink RX8 71 "WaxTurnsModel" "end" "I") (List.mem_cons_of_mem _ (List.mem_append_left _ (List.mem_of_getElem? (i := 0) rfl)))) (fun _ h9 => h9) rfl (tyX8_ok 5 (by decide)) rfl rfl (Nat.le_of_ble_eq_true rfl) dX8_next_119 (fun H locs hP hD hS => ?_)
                      refine zs_0 (y := (a0, .inr (8, [a0g_0, Value.ref a0_1, a0g_2, Value.int a0_3, Value.int j5l1, Value.int j67l1, Value.int a0_6, Value.int 0, Value.int j67a0_8, a0g_9, a0g_10, a0g_11, Value.ref a0_12, a0g_13, a0g_14, a0g_15, a0g_16, a0g_17, a0g_18, a0g_19, a0g_20, a0g_21, a0g_22, a0g_23, a0g_24, a0g_25, a0g_26, a0g_27, a0g_28, a0g_29, a0g_30, a0g_31, a0g_32, a0g_33, a0g_34, a0g_35, a0g_36, a0g_37, a0g_38, a0g_39]))) hP hD rfl (fun hP hD => ?_)
                      refine lv_aload_n hx hb dX8_next_122 rfl (lv_at hl 0 rfl) ?_
                      refine lv_aload_n hx hb dX8_next_123 rfl (lv_at hl 0 rfl) ?_
                      refine va_get (D := (dC, dI)) (ci := 8) (v := .int j67a0_8) (C := RX8) (T := TX8) (N := 40) hx hb hts zi_X8_next_8 hown hK hP 0 rfl rfl 8 (by decide) (hts (.fieldLink RX8 81 "WaxTurnsModel" "nameSize" "I") (List.mem_cons_of_mem _ (List.mem_append_left _ (List.mem_of_getElem? (i := 2) rfl)))) (fun _ h9 => h9) rfl dX8_next_124 ?_
                      refine lv_bipush (v := 8) hx hb dX8_next_127 zk_bipush_8 ?_
                      refine lv_icmp_le (tgt := 136) hx hb dX8_next_129 (by decide) (fun c129 => ?_) (fun c129 => ?_)
                      · have gc129 := ai_le c129
                        have u129t_j67a0_8 : j67a0_8.toInt ≤ (8 : Int) := Int.le_trans gc129 zq28
                        have hF0 := hF0.trans (if_pos (show j67a0_8.toInt ≤ 8 from gc129))
                        refine lv_iconst (v := 2) hx hb dX8_next_136 zk_iconst_2 ?_
                        refine va_put (D := (dC, dI)) (ci := 8) (v := .int 2) (ty := .int) (C := RX8) (T := TX8) (N := 40) hx hb hts zi_X8_next_8 tyX8 tyX8_ok nmX8 hown hK hP hD hS 0 rfl rfl 6 (by decide) (hts (.fieldLink RX8 87 "WaxTurnsModel" "token" "I") (List.mem_cons_of_mem _ (List.mem_append_left _ (List.mem_of_getElem? (i := 4) rfl)))) (fun _ h9 => h9) rfl (tyX8_ok 6 (by decide)) rfl rfl (Nat.le_of_ble_eq_true rfl) dX8_next_137 (fun H locs hP hD hS => ?_)
                        refine zs_0 (y := (a0, .inr (8, [a0g_0, Value.ref a0_1, a0g_2, Value.int a0_3, Value.int j5l1, Value.int j67l1, Value.int 2, Value.int 0, Value.int j67a0_8, a0g_9, a0g_10, a0g_11, Value.ref a0_12, a0g_13, a0g_14, a0g_15, a0g_16, a0g_17, a0g_18, a0g_19, a0g_20, a0g_21, a0g_22, a0g_23, a0g_24, a0g_25, a0g_26, a0g_27, a0g_28, a0g_29, a0g_30, a0g_31, a0g_32, a0g_33, a0g_34, a0g_35, a0g_36, a0g_37, a0g_38, a0g_39]))) hP hD rfl (fun hP hD => ?_)
                        refine lv_goto (tgt := 241) hx hb dX8_next_140 (by decide) ?_
                        have hFe : FX = (j5l1.toInt, j67l1.toInt, 2, 0, j67a0_8.toInt, (fl_A j67a0_12_a)) := hF0
                        exact W.vret hx hb hr (fun t ht hW => ⟨⟨(), rfl, trivial, j5l1, j67l1, 2, 0, j67a0_8, j67a0_12_a, ⟨bj67l1_l, bj67l1_u⟩, ⟨bj67a0_8_l, Int.le_trans u129t_j67a0_8 (by decide)⟩, (fun _ => u129t_j67a0_8), ⟨by omega, Or.inl (by decide)⟩, hFe, by rw [ht]; exact hP, va_K.moved hW.alike hK, hD⟩, hS.F ht⟩) hS.2.2 dX8_next_241
                      · have gc129 := ai_nle c129
                        have l129f_j67a0_8 : (9 : Int) ≤ j67a0_8.toInt := ai_ltlo gc129 zq118
                        have hF0 := hF0.trans (if_neg (show ¬ (j67a0_8.toInt ≤ 8) from Int.not_le.mpr gc129))
                        refine lv_iconst (v := 1) hx hb dX8_next_132 zk_iconst_1 ?_
                        refine lv_goto (tgt := 137) hx hb dX8_next_133 (by decide) ?_
                        refine va_put (D := (dC, dI)) (ci := 8) (v := .int 1) (ty := .int) (C := RX8) (T := TX8) (N := 40) hx hb hts zi_X8_next_8 tyX8 tyX8_ok nmX8 hown hK hP hD hS 0 rfl rfl 6 (by decide) (hts (.fieldLink RX8 87 "WaxTurnsModel" "token" "I") (List.mem_cons_of_mem _ (List.mem_append_left _ (List.mem_of_getElem? (i := 4) rfl)))) (fun _ h9 => h9) rfl (tyX8_ok 6 (by decide)) rfl rfl (Nat.le_of_ble_eq_true rfl) dX8_next_137 (fun H locs hP hD hS => ?_)
                        refine zs_0 (y := (a0, .inr (8, [a0g_0, Value.ref a0_1, a0g_2, Value.int a0_3, Value.int j5l1, Value.int j67l1, Value.int 1, Value.int 0, Value.int j67a0_8, a0g_9, a0g_10, a0g_11, Value.ref a0_12, a0g_13, a0g_14, a0g_15, a0g_16, a0g_17, a0g_18, a0g_19, a0g_20, a0g_21, a0g_22, a0g_23, a0g_24, a0g_25, a0g_26, a0g_27, a0g_28, a0g_29, a0g_30, a0g_31, a0g_32, a0g_33, a0g_34, a0g_35, a0g_36, a0g_37, a0g_38, a0g_39]))) hP hD rfl (fun hP hD => ?_)
                        refine lv_goto (tgt := 241) hx hb dX8_next_140 (by decide) ?_
                        have hFe : FX = (j5l1.toInt, j67l1.toInt, 1, 0, j67a0_8.toInt, (fl_A j67a0_12_a)) := hF0
                        exact W.vret hx hb hr (fun t ht hW => ⟨⟨(), rfl, trivial, j5l1, j67l1, 1, 0, j67a0_8, j67a0_12_a, ⟨bj67l1_l, bj67l1_u⟩, ⟨Int.le_trans (by decide) l129f_j67a0_8, bj67a0_8_u⟩, (fun h9 => absurd h9 (by decide)), ⟨by omega, Or.inl (by decide)⟩, hFe, by rw [ht]; exact hP, va_K.moved hW.alike hK, hD⟩, hS.F ht⟩) hS.2.2 dX8_next_241
                  · have h69 := hw
                    have u69k1_j67l1 : j67l1.toInt ≤ (899 : Int) := by have h1 := h69; have h2 := ba0_3_u; omega
                    have hF1 := hF1.trans (if_neg (show ¬ (a0_3.toInt ≤ j67l1.toInt) from Int.not_le.mpr h69))
                    refine va_calli (va_runS (As := [.int r69]) (rest := []) ⟨hx, hb, hml, hown, hts⟩ (f_X8_isSmall l dC dI H.size r69 ) (va_cwS 1 hts gX8_next_X8_isSmall rfl rfl rfl zd_X8_isSmall.2 ⟨Nat.le_of_ble_eq_true rfl, Nat.le_of_ble_eq_true rfl⟩) ⟨ax_blind (fun _ _ _ _ _ => trivial), ax_pre (zp_P0 hP) (zp_K hK) (zp_D0 hD) (fun _ _ => trivial)⟩ rfl rfl hl.1 rfl (lv_room (Nat.le_of_ble_eq_true rfl)) dX8_next_72 ⟨Nat.le_of_ble_eq_true rfl, Nat.le_of_ble_eq_true rfl⟩) hS (fun q _ h => zp_F0 hD hS hA q h) (zp_F0 hD hS hA) (fun r72 u t H locs ht hvm hw hB hz1 hk1 hS1 => zo0 hB ht hP hD hk1 (zp_F0 hD hS hA) hS1 (fun hP hK1 hD hS => ?_))
                    obtain ⟨hw, hfr72⟩ := hw
                    have hc72 : Ff_X8_isSmall r69.toInt = r72.toInt := hfr72.symm
                    have hF1 := hF1.trans (fl_lt_eq hc72.symm)
                    rcases hw with hw | hw
                    · obtain ⟨hw, h72_0, h72_1⟩ := hw
                      subst hw
                      have l72k0_r69 : (97 : Int) ≤ r69.toInt := h72_0
                      have u72k0_r69 : r69.toInt ≤ (122 : Int) := h72_1
                      have hF1 := hF1.trans (if_pos (by decide))
                      refine lv_if_eq (tgt := 117) hx hb dX8_next_75 (by decide) (fun c75 => absurd c75 (by decide +kernel)) (fun _ => ?_)
                      refine lv_aload_n hx hb dX8_next_78 rfl (lv_at hl 0 rfl) ?_
                      refine va_get (D := (dC, dI)) (ci := 8) (v := .int j67a0_8) (C := RX8) (T := TX8) (N := 40) hx hb hts zi_X8_next_8 hown hK hP 0 rfl rfl 8 (by decide) (hts (.fieldLink RX8 81 "WaxTurnsModel" "nameSize" "I") (List.mem_cons_of_mem _ (List.mem_append_left _ (List.mem_of_getElem? (i := 2) rfl)))) (fun _ h9 => h9) rfl dX8_next_79 ?_
                      refine lv_bipush (v := 8) hx hb dX8_next_82 zk_bipush_8 ?_
                      have J101 : ∀ (j101a0_12_a : Nat → Int32) (H : Heap) (locs : List Loc) (ls : Array Slot), (SX67 = Gf_X8_next_101_1 j67l1.toInt j67a0_8.toInt (fl_A j101a0_12_a)) → va_P (dC, dI) vwCl [(a0, .inr (8, [a0g_0, Value.ref a0_1, a0g_2, Value.int a0_3, Value.int j5l1, Value.int a0_5, Value.int a0_6, Value.int 0, Value.int j67a0_8, a0g_9, a0g_10, a0g_11, Value.ref a0_12, a0g_13, a0g_14, a0g_15, a0g_16, a0g_17, a0g_18, a0g_19, a0g_20, a0g_21, a0g_22, a0g_23, a0g_24, a0g_25, a0g_26, a0g_27, a0g_28, a0g_29, a0g_30, a0g_31, a0g_32, a0g_33, a0g_34, a0g_35, a0g_36, a0g_37, a0g_38, a0g_39])), (a0_1, .inl (ka0_1, 900, .inl (fa0_1))), (a0_12, .inl (ka0_12, 8, .inl (j101a0_12_a)))] H → va_D A [(a0, .inr (8, [a0g_0, Value.ref a0_1, a0g_2, Value.int a0_3, Value.int j5l1, Value.int a0_5, Value.int a0_6, Value.int 0, Value.int j67a0_8, a0g_9, a0g_10, a0g_11, Value.ref a0_12, a0g_13, a0g_14, a0g_15, a0g_16, a0g_17, a0g_18, a0g_19, a0g_20, a0g_21, a0g_22, a0g_23, a0g_24, a0g_25, a0g_26, a0g_27, a0g_28, a0g_29, a0g_30, a0g_31, a0g_32, a0g_33, a0g_34, a0g_35, a0g_36, a0g_37, a0g_38, a0g_39])), (a0_1, .inl (ka0_1, 900, .inl (fa0_1))), (a0_12, .inl (ka0_12, 8, .inl (j101a0_12_a)))] → va_S A s.heap H locs → lv_has ls 4 [(0, .ref a0), (1, .int j67l1)] → K H locs (F0 m 101 ls []) := by
                        intro j101a0_12_a H locs ls  hF1 hP hD hS hl
                        refine (hK0 _ _ _).mpr ?_
                        have hF1 := hF1.trans (Gf_X8_next_101_1.eq_1 j67l1.toInt j67a0_8.toInt (fl_A j101a0_12_a))
                        refine lv_aload_n hx hb dX8_next_101 rfl (lv_at hl 0 rfl) ?_
                        refine lv_dup hx hb dX8_next_102 rfl ?_
                        refine va_get (D := (dC, dI)) (ci := 8) (v := .int j67a0_8) (C := RX8) (T := TX8) (N := 40) hx hb hts zi_X8_next_8 hown hK hP 0 rfl rfl 8 (by decide) (hts (.fieldLink RX8 81 "WaxTurnsModel" "nameSize" "I") (List.mem_cons_of_mem _ (List.mem_append_left _ (List.mem_of_getElem? (i := 2) rfl)))) (fun _ h9 => h9) rfl dX8_next_103 ?_
                        have u103z_j67a0_8 : j67a0_8.toInt ≤ (899 : Int) := by omega
                        refine lv_iconst (v := 1) hx hb dX8_next_106 zk_iconst_1 ?_
                        refine lv_iadd hx hb dX8_next_107 ?_
                        refine lv_topi (fun x107 ex107 => ?_)
                        have qx107 : x107.toInt = j67a0_8.toInt + (1 : Int32).toInt := ai_add ex107 ⟨bj67a0_8_l, u103z_j67a0_8⟩ ⟨zq1, zq0⟩ (by decide) (by decide)
                        have bx107 : (1 : Int) ≤ x107.toInt ∧ x107.toInt ≤ 900 := ⟨by rw [qx107]; exact Int.add_le_add bj67a0_8_l zq1, by rw [qx107]; exact Int.add_le_add u103z_j67a0_8 zq0⟩
                        have wx107 : x107.toInt = j67a0_8.toInt + 1 := qx107
                        have hF1 := hF1.trans (fl_lt_eq (show x107.toInt = j67a0_8.toInt + 1 from qx107))
                        refine va_put (D := (dC, dI)) (ci := 8) (v := .int x107) (ty := .int) (C := RX8) (T := TX8) (N := 40) hx hb hts zi_X8_next_8 tyX8 tyX8_ok nmX8 hown hK hP hD hS 0 rfl rfl 8 (by decide) (hts (.fieldLink RX8 81 "WaxTurnsModel" "nameSize" "I") (List.mem_cons_of_mem _ (List.mem_append_left _ (List.mem_of_getElem? (i := 2) rfl)))) (fun _ h9 => h9) rfl (tyX8_ok 8 (by decide)) rfl rfl (Nat.le_of_ble_eq_true rfl) dX8_next_108 (fun H locs hP hD hS => ?_)
                        refine zs_0 (y := (a0, .inr (8, [a0g_0, Value.ref a0_1, a0g_2, Value.int a0_3, Value.int j5l1, Value.int a0_5, Value.int a0_6, Value.int 0, Value.int x107, a0g_9, a0g_10, a0g_11, Value.ref a0_12, a0g_13, a0g_14, a0g_15, a0g_16, a0g_17, a0g_18, a0g_19, a0g_20, a0g_21, a0g_22, a0g_23, a0g_24, a0g_25, a0g_26, a0g_27, a0g_28, a0g_29, a0g_30, a0g_31, a0g_32, a0g_33, a0g_34, a0g_35, a0g_36, a0g_37, a0g_38, a0g_39]))) hP hD rfl (fun hP hD => ?_)
                        obtain ⟨x111, ex111⟩ : ∃ y : Int32, y = j67l1 + Int32.ofInt 1 := ⟨_, rfl⟩
                        have qx111 : x111.toInt = j67l1.toInt + 1 := ai_inc ex111 (by decide) (by decide) u69k1_j67l1 (by decide)
                        have bx111 : (1 : Int) ≤ x111.toInt ∧ x111.toInt ≤ 900 := ⟨by rw [qx111]; exact Int.add_le_add bj67l1_l (Int.le_refl _), by rw [qx111]; exact Int.add_le_add u69k1_j67l1 (Int.le_refl _)⟩
                        refine lv_iinc (v := x111) (lv' := [(1, .int x111), (0, .ref a0)]) hx hb dX8_next_111 hl (k := 1) rfl ex111.symm (by decide) rfl (fun ls hl => ?_)
                        have hF1 := hF1.trans (fl_lt_eq (show x111.toInt = j67l1.toInt + 1 from qx111))
                        refine lv_goto (tgt := 67) hx hb dX8_next_114 (by decide) ?_
                        exact (hK0 _ _ _).mp (ih67 x111 x107 j101a0_12_a _ _ _ (by first | exact zg_s hm67 qx111 | (have h0 := qx111; omega)) (Int.le_trans zq4 bx111.1) bx111.2 (Int.le_trans zq4 bx107.1) bx107.2 (by omega) (by omega) (hF0.trans (fl_wh_l (hSX67.trans hF1))) hP hD hS (lv_sub hl [1, 0] rfl))
                      refine lv_icmp_ge (tgt := 101) hx hb dX8_next_84 (by decide) (fun c84 => ?_) (fun c84 => ?_)
                      · have gc84 := ai_le c84
                        have l84t_j67a0_8 : (8 : Int) ≤ j67a0_8.toInt := Int.le_trans zq118 gc84
                        have hF1 := hF1.trans (if_pos (show 8 ≤ j67a0_8.toInt from gc84))
                        exact (hK0 _ _ _).mp (J101 j67a0_12_a _ _ _   hF1 hP hD hS (lv_sub hl [0, 1] rfl))
                      · have gc84 := ai_nle c84
                        have u84f_j67a0_8 : j67a0_8.toInt ≤ (7 : Int) := ai_lthi gc84 zq28
                        have hF1 := hF1.trans (if_neg (show ¬ (8 ≤ j67a0_8.toInt) from Int.not_le.mpr gc84))
                        refine lv_aload_n hx hb dX8_next_87 rfl (lv_at hl 0 rfl) ?_
                        refine va_get (D := (dC, dI)) (ci := 8) (v := .ref a0_12) (C := RX8) (T := TX8) (N := 40) hx hb hts zi_X8_next_8 hown hK hP 0 rfl rfl 12 (by decide) (hts (.fieldLink RX8 17 "WaxTurnsModel" "letters" "[I") (List.mem_cons_of_mem _ (List.mem_append_left _ (List.mem_of_getElem? (i := 5) rfl)))) (fun _ h9 => h9) rfl dX8_next_88 ?_
                        refine lv_aload_n hx hb dX8_next_91 rfl (lv_at hl 0 rfl) ?_
                        refine va_get (D := (dC, dI)) (ci := 8) (v := .int j67a0_8) (C := RX8) (T := TX8) (N := 40) hx hb hts zi_X8_next_8 hown hK hP 0 rfl rfl 8 (by decide) (hts (.fieldLink RX8 81 "WaxTurnsModel" "nameSize" "I") (List.mem_cons_of_mem _ (List.mem_append_left _ (List.mem_of_getElem? (i := 2) rfl)))) (fun _ h9 => h9) rfl dX8_next_92 ?_
                        refine lv_aload_n hx hb dX8_next_95 rfl (lv_at hl 0 rfl) ?_
                        refine lv_iload_n hx hb dX8_next_96 rfl (lv_at hl 1 rfl) ?_
                        have hKc := hK.sub (tys' := [(ka0_1, .int)]) [0] rfl
                        refine va_calli (va_runV (As := [.int j67l1]) (rest := [.int j67a0_8, .ref a0_12]) ⟨hx, hb, hml, hown, hts⟩ (f_X8_see l dC dI H.size a0 j67l1 a0g_0 a0g_2 (Value.int j5l1) (Value.int a0_5) (Value.int a0_6) (Value.int 0) (Value.int j67a0_8) a0g_9 a0g_10 a0g_11 (Value.ref a0_12) a0g_13 a0g_14 a0g_15 a0g_16 a0g_17 a0g_18 a0g_19 a0g_20 a0g_21 a0g_22 a0g_23 a0g_24 a0g_25 a0g_26 a0g_27 a0g_28 a0g_29 a0g_30 a0g_31 a0g_32 a0g_33 a0g_34 a0g_35 a0g_36 a0g_37 a0g_38 a0g_39 a0_1 a0_3 ka0_1 fa0_1 bj67l1_l (Int.le_trans u69k1_j67l1 zq147) ba0_3_l ba0_3_u) (cwV 1 hts gX8_next_X8_see rfl rfl rfl zd_X8_see ⟨Nat.le_of_ble_eq_true rfl, Nat.le_of_ble_eq_true rfl⟩) ⟨ax_blind (fun _ _ _ _ _ => trivial), zr_8 hKc (zp_P2 hP) (q0 := 0) rfl, ax_pre (zp_P2 hP) hKc (zp_D2 hD) (fun _ _ => trivial)⟩ rfl rfl hl.1 rfl (lv_room (Nat.le_of_ble_eq_true rfl)) dX8_next_97 ⟨Nat.le_of_ble_eq_true rfl, Nat.le_of_ble_eq_true rfl⟩) hS (fun q _ h => zp_F2 hD hS hA q h) (zp_F2 hD hS hA) (fun r97 u t H locs ht hvm hw hB hz1 hk1 hS1 => zo2 hB ht hP hD hk1 (zp_F2 hD hS hA) hS1 (fun hP hK1 hD hS => ?_))
                        obtain ⟨hw, hfr97⟩ := hw
                        have hc97 : Ff_X8_see j67l1.toInt a0_3.toInt (fl_A fa0_1) = r97.toInt := hfr97.symm
                        have hF1 := hF1.trans (fl_lt_eq hc97.symm)
                        rcases hw with hw | hw
                        · obtain ⟨hw, h97⟩ := hw
                          subst hw
                          have hF1 := hF1.trans (if_pos (show a0_3.toInt ≤ j67l1.toInt from h97))
                          refine va_iast hx hb hK hP hD hS 2 1 rfl rfl (ai_in bj67a0_8_l u84f_j67a0_8 (by decide) (by decide)) dX8_next_100 (fun H locs hP hD hS => ?_)
                          obtain ⟨f100, ef100⟩ : ∃ g9 : Nat → Int32, g9 = upd j67a0_12_a (j67a0_8 : Int32).toNatClampNeg ((-1) : Int32) := ⟨_, rfl⟩
                          refine zs_2 (y := (a0_12, .inl (ka0_12, 8, .inl (f100)))) hP hD (by rw [ef100]) (fun hP hD => ?_)
                          have fqf100 := fl_up_eq ef100
                          have hF1 := hF1.trans (fl_lt_eq (show (fl_A f100) = fl_up (fl_A j67a0_12_a) (j67a0_8.toInt.toNat) (-1) from fqf100))
                          exact (hK0 _ _ _).mp (J101 f100 _ _ _   hF1 hP hD hS (lv_sub hl [0, 1] rfl))
                        · have h97 := hw
                          have u97k1_j67l1 : j67l1.toInt ≤ (899 : Int) := u69k1_j67l1
                          have hF1 := hF1.trans (if_neg (show ¬ (a0_3.toInt ≤ j67l1.toInt) from Int.not_le.mpr h97))
                          refine va_iast hx hb hK hP hD hS 2 1 rfl rfl (ai_in bj67a0_8_l u84f_j67a0_8 (by decide) (by decide)) dX8_next_100 (fun H locs hP hD hS => ?_)
                          obtain ⟨f100, ef100⟩ : ∃ g9 : Nat → Int32, g9 = upd j67a0_12_a (j67a0_8 : Int32).toNatClampNeg r97 := ⟨_, rfl⟩
                          refine zs_2 (y := (a0_12, .inl (ka0_12, 8, .inl (f100)))) hP hD (by rw [ef100]) (fun hP hD => ?_)
                          have fqf100 := fl_up_eq ef100
                          have hF1 := hF1.trans (fl_lt_eq (show (fl_A f100) = fl_up (fl_A j67a0_12_a) (j67a0_8.toInt.toNat) r97.toInt from fqf100))
                          exact (hK0 _ _ _).mp (J101 f100 _ _ _   hF1 hP hD hS (lv_sub hl [0, 1] rfl))
                    · subst hw
                      have hF1 := hF1.trans (if_neg (by decide))
                      refine lv_if_eq (tgt := 117) hx hb dX8_next_75 (by decide) (fun _ => ?_) (fun c75 => absurd (by decide +kernel) c75)
                      have hF0 := hF0.trans (fl_wh_r (hSX67.trans hF1))
                      refine lv_aload_n hx hb dX8_next_117 rfl (lv_at hl 0 rfl) ?_
                      refine lv_iload_n hx hb dX8_next_118 rfl (lv_at hl 1 rfl) ?_
                      refine va_put (D := (dC, dI)) (ci := 8) (v := .int j67l1) (ty := .int) (C := RX8) (T := TX8) (N := 40) hx hb hts zi_X8_next_8 tyX8 tyX8_ok nmX8 hown hK hP hD hS 0 rfl rfl 5 (by decide) (hts (.fieldLink RX8 71 "WaxTurnsModel" "end" "I") (List.mem_cons_of_mem _ (List.mem_append_left _ (List.mem_of_getElem? (i := 0) rfl)))) (fun _ h9 => h9) rfl (tyX8_ok 5 (by decide)) rfl rfl (Nat.le_of_ble_eq_true rfl) dX8_next_119 (fun H locs hP hD hS => ?_)
                      refine zs_0 (y := (a0, .inr (8, [a0g_0, Value.ref a0_1, a0g_2, Value.int a0_3, Value.int j5l1, Value.int j67l1, Value.int a0_6, Value.int 0, Value.int j67a0_8, a0g_9, a0g_10, a0g_11, Value.ref a0_12, a0g_13, a0g_14, a0g_15, a0g_16, a0g_17, a0g_18, a0g_19, a0g_20, a0g_21, a0g_22, a0g_23, a0g_24, a0g_25, a0g_26, a0g_27, a0g_28, a0g_29, a0g_30, a0g_31, a0g_32, a0g_33, a0g_34, a0g_35, a0g_36, a0g_37, a0g_38, a0g_39]))) hP hD rfl (fun hP hD => ?_)
                      refine lv_aload_n hx hb dX8_next_122 rfl (lv_at hl 0 rfl) ?_
                      refine lv_aload_n hx hb dX8_next_123 rfl (lv_at hl 0 rfl) ?_
                      refine va_get (D := (dC, dI)) (ci := 8) (v := .int j67a0_8) (C := RX8) (T := TX8) (N := 40) hx hb hts zi_X8_next_8 hown hK hP 0 rfl rfl 8 (by decide) (hts (.fieldLink RX8 81 "WaxTurnsModel" "nameSize" "I") (List.mem_cons_of_mem _ (List.mem_append_left _ (List.mem_of_getElem? (i := 2) rfl)))) (fun _ h9 => h9) rfl dX8_next_124 ?_
                      refine lv_bipush (v := 8) hx hb dX8_next_127 zk_bipush_8 ?_
                      refine lv_icmp_le (tgt := 136) hx hb dX8_next_129 (by decide) (fun c129 => ?_) (fun c129 => ?_)
                      · have gc129 := ai_le c129
                        have u129t_j67a0_8 : j67a0_8.toInt ≤ (8 : Int) := Int.le_trans gc129 zq28
                        have hF0 := hF0.trans (if_pos (show j67a0_8.toInt ≤ 8 from gc129))
                        refine lv_iconst (v := 2) hx hb dX8_next_136 zk_iconst_2 ?_
                        refine va_put (D := (dC, dI)) (ci := 8) (v := .int 2) (ty := .int) (C := RX8) (T := TX8) (N := 40) hx hb hts zi_X8_next_8 tyX8 tyX8_ok nmX8 hown hK hP hD hS 0 rfl rfl 6 (by decide) (hts (.fieldLink RX8 87 "WaxTurnsModel" "token" "I") (List.mem_cons_of_mem _ (List.mem_append_left _ (List.mem_of_getElem? (i := 4) rfl)))) (fun _ h9 => h9) rfl (tyX8_ok 6 (by decide)) rfl rfl (Nat.le_of_ble_eq_true rfl) dX8_next_137 (fun H locs hP hD hS => ?_)
                        refine zs_0 (y := (a0, .inr (8, [a0g_0, Value.ref a0_1, a0g_2, Value.int a0_3, Value.int j5l1, Value.int j67l1, Value.int 2, Value.int 0, Value.int j67a0_8, a0g_9, a0g_10, a0g_11, Value.ref a0_12, a0g_13, a0g_14, a0g_15, a0g_16, a0g_17, a0g_18, a0g_19, a0g_20, a0g_21, a0g_22, a0g_23, a0g_24, a0g_25, a0g_26, a0g_27, a0g_28, a0g_29, a0g_30, a0g_31, a0g_32, a0g_33, a0g_34, a0g_35, a0g_36, a0g_37, a0g_38, a0g_39]))) hP hD rfl (fun hP hD => ?_)
                        refine lv_goto (tgt := 241) hx hb dX8_next_140 (by decide) ?_
                        have hFe : FX = (j5l1.toInt, j67l1.toInt, 2, 0, j67a0_8.toInt, (fl_A j67a0_12_a)) := hF0
                        exact W.vret hx hb hr (fun t ht hW => ⟨⟨(), rfl, trivial, j5l1, j67l1, 2, 0, j67a0_8, j67a0_12_a, ⟨bj67l1_l, Int.le_trans u69k1_j67l1 (by decide)⟩, ⟨bj67a0_8_l, Int.le_trans u129t_j67a0_8 (by decide)⟩, (fun _ => u129t_j67a0_8), ⟨by omega, Or.inl (by decide)⟩, hFe, by rw [ht]; exact hP, va_K.moved hW.alike hK, hD⟩, hS.F ht⟩) hS.2.2 dX8_next_241
                      · have gc129 := ai_nle c129
                        have l129f_j67a0_8 : (9 : Int) ≤ j67a0_8.toInt := ai_ltlo gc129 zq118
                        have hF0 := hF0.trans (if_neg (show ¬ (j67a0_8.toInt ≤ 8) from Int.not_le.mpr gc129))
                        refine lv_iconst (v := 1) hx hb dX8_next_132 zk_iconst_1 ?_
                        refine lv_goto (tgt := 137) hx hb dX8_next_133 (by decide) ?_
                        refine va_put (D := (dC, dI)) (ci := 8) (v := .int 1) (ty := .int) (C := RX8) (T := TX8) (N := 40) hx hb hts zi_X8_next_8 tyX8 tyX8_ok nmX8 hown hK hP hD hS 0 rfl rfl 6 (by decide) (hts (.fieldLink RX8 87 "WaxTurnsModel" "token" "I") (List.mem_cons_of_mem _ (List.mem_append_left _ (List.mem_of_getElem? (i := 4) rfl)))) (fun _ h9 => h9) rfl (tyX8_ok 6 (by decide)) rfl rfl (Nat.le_of_ble_eq_true rfl) dX8_next_137 (fun H locs hP hD hS => ?_)
                        refine zs_0 (y := (a0, .inr (8, [a0g_0, Value.ref a0_1, a0g_2, Value.int a0_3, Value.int j5l1, Value.int j67l1, Value.int 1, Value.int 0, Value.int j67a0_8, a0g_9, a0g_10, a0g_11, Value.ref a0_12, a0g_13, a0g_14, a0g_15, a0g_16, a0g_17, a0g_18, a0g_19, a0g_20, a0g_21, a0g_22, a0g_23, a0g_24, a0g_25, a0g_26, a0g_27, a0g_28, a0g_29, a0g_30, a0g_31, a0g_32, a0g_33, a0g_34, a0g_35, a0g_36, a0g_37, a0g_38, a0g_39]))) hP hD rfl (fun hP hD => ?_)
                        refine lv_goto (tgt := 241) hx hb dX8_next_140 (by decide) ?_
                        have hFe : FX = (j5l1.toInt, j67l1.toInt, 1, 0, j67a0_8.toInt, (fl_A j67a0_12_a)) := hF0
                        exact W.vret hx hb hr (fun t ht hW => ⟨⟨(), rfl, trivial, j5l1, j67l1, 1, 0, j67a0_8, j67a0_12_a, ⟨bj67l1_l, Int.le_trans u69k1_j67l1 (by decide)⟩, ⟨Int.le_trans (by decide) l129f_j67a0_8, bj67a0_8_u⟩, (fun h9 => absurd h9 (by decide)), ⟨by omega, Or.inl (by decide)⟩, hFe, by rw [ht]; exact hP, va_K.moved hW.alike hK, hD⟩, hS.F ht⟩) hS.2.2 dX8_next_241
              exact (hK0 _ _ _).mp (J67 901 j5l1 0 fa0_12 _ _ _ (by have h1 : (0 : Int) ≤ j5l1.toInt := bj5l1_l; have h2 : j5l1.toInt ≤ (899 : Int) := u28k1_j5l1; omega) bj5l1_l (Int.le_trans u28k1_j5l1 zq147) zq5 (Int.le_trans zq6 zq40) (by omega) (by have h1 : (0 : Int32).toInt = 0 := (by decide); omega) (by rw [show (0 : Int32).toInt = 0 from by decide]; exact hF0) hP hD hS (lv_sub hl [1, 2] rfl))
            · subst hw
              have hF0 := hF0.trans (if_neg (by decide))
              refine lv_if_eq (tgt := 143) hx hb dX8_next_64 (by decide) (fun _ => ?_) (fun c64 => absurd (by decide +kernel) c64)
              have J67 : ∀ (n : Nat) (j67l1 : Int32) (j67a0_8 : Int32) (j67a0_12_a : Nat → Int32) (H : Heap) (locs : List Loc) (ls : Array Slot), (901 : Int) - j67l1.toInt ≤ (n : Int) → (0 : Int) ≤ j67l1.toInt → j67l1.toInt ≤ (900 : Int) → (0 : Int) ≤ j67a0_8.toInt → j67a0_8.toInt ≤ (900 : Int) → (a0_5.toInt ≤ j67l1.toInt) → (j67a0_8.toInt ≤ j67l1.toInt) → (FX = fl_wh (fun t9 => Sf_X8_next_67_2 a0_3.toInt (fl_A fa0_1) j5l1.toInt t9.1 t9.2.1 t9.2.2) (0, 0, 0, 0, 0, (fun _ => 0)) n (j67l1.toInt, j67a0_8.toInt, (fl_A j67a0_12_a))) → va_P (dC, dI) vwCl [(a0, .inr (8, [a0g_0, Value.ref a0_1, a0g_2, Value.int a0_3, Value.int j5l1, Value.int a0_5, Value.int a0_6, Value.int 0, Value.int j67a0_8, a0g_9, a0g_10, a0g_11, Value.ref a0_12, a0g_13, a0g_14, a0g_15, a0g_16, a0g_17, a0g_18, a0g_19, a0g_20, a0g_21, a0g_22, a0g_23, a0g_24, a0g_25, a0g_26, a0g_27, a0g_28, a0g_29, a0g_30, a0g_31, a0g_32, a0g_33, a0g_34, a0g_35, a0g_36, a0g_37, a0g_38, a0g_39])), (a0_1, .inl (ka0_1, 900, .inl (fa0_1))), (a0_12, .inl (ka0_12, 8, .inl (j67a0_12_a)))] H → va_D A [(a0, .inr (8, [a0g_0, Value.ref a0_1, a0g_2, Value.int a0_3, Value.int j5l1, Value.int a0_5, Value.int a0_6, Value.int 0, Value.int j67a0_8, a0g_9, a0g_10, a0g_11, Value.ref a0_12, a0g_13, a0g_14, a0g_15, a0g_16, a0g_17, a0g_18, a0g_19, a0g_20, a0g_21, a0g_22, a0g_23, a0g_24, a0g_25, a0g_26, a0g_27, a0g_28, a0g_29, a0g_30, a0g_31, a0g_32, a0g_33, a0g_34, a0g_35, a0g_36, a0g_37, a0g_38, a0g_39])), (a0_1, .inl (ka0_1, 900, .inl (fa0_1))), (a0_12, .inl (ka0_12, 8, .inl (j67a0_12_a)))] → va_S A s.heap H locs → lv_has ls 4 [(0, .ref a0), (1, .int j67l1)] → K H locs (F0 m 67 ls []) := by
                intro n
                induction n with
                | zero =>
                  intro j67l1 j67a0_8 j67a0_12_a H locs ls hm bj67l1_l bj67l1_u bj67a0_8_l bj67a0_8_u ke67 nk67 hF0 hP hD hS hl
                  first | exact zg_0 hm bj67l1_u (by decide) | (have h8 := ai_min j67l1; have h9 := ai_max j67l1; exact absurd hm (by omega))
                | succ n ih67 =>
                  intro j67l1 j67a0_8 j67a0_12_a H locs ls hm bj67l1_l bj67l1_u bj67a0_8_l bj67a0_8_u ke67 nk67 hF0 hP hD hS hl
                  refine (hK0 _ _ _).mpr ?_
                  have hm67 := hm
                  obtain ⟨SX67, hSX67⟩ : ∃ q9, Sf_X8_next_67_2 a0_3.toInt (fl_A fa0_1) j5l1.toInt j67l1.toInt j67a0_8.toInt (fl_A j67a0_12_a) = q9 := ⟨_, rfl⟩
                  have hF1 := hSX67.symm.trans (Sf_X8_next_67_2.eq_1 a0_3.toInt (fl_A fa0_1) j5l1.toInt j67l1.toInt j67a0_8.toInt (fl_A j67a0_12_a))
                  refine lv_aload_n hx hb dX8_next_67 rfl (lv_at hl 0 rfl) ?_
                  refine lv_iload_n hx hb dX8_next_68 rfl (lv_at hl 1 rfl) ?_
                  have hKc := hK.sub (tys' := [(ka0_1, .int)]) [0] rfl
                  refine va_calli (va_runV (As := [.int j67l1]) (rest := []) ⟨hx, hb, hml, hown, hts⟩ (f_X8_see l dC dI H.size a0 j67l1 a0g_0 a0g_2 (Value.int j5l1) (Value.int a0_5) (Value.int a0_6) (Value.int 0) (Value.int j67a0_8) a0g_9 a0g_10 a0g_11 (Value.ref a0_12) a0g_13 a0g_14 a0g_15 a0g_16 a0g_17 a0g_18 a0g_19 a0g_20 a0g_21 a0g_22 a0g_23 a0g_24 a0g_25 a0g_26 a0g_27 a0g_28 a0g_29 a0g_30 a0g_31 a0g_32 a0g_33 a0g_34 a0g_35 a0g_36 a0g_37 a0g_38 a0g_39 a0_1 a0_3 ka0_1 fa0_1 bj67l1_l bj67l1_u ba0_3_l ba0_3_u) (cwV 1 hts gX8_next_X8_see rfl rfl rfl zd_X8_see ⟨Nat.le_of_ble_eq_true rfl, Nat.le_of_ble_eq_true rfl⟩) ⟨ax_blind (fun _ _ _ _ _ => trivial), zr_8 hKc (zp_P2 hP) (q0 := 0) rfl, ax_pre (zp_P2 hP) hKc (zp_D2 hD) (fun _ _ => trivial)⟩ rfl rfl hl.1 rfl (lv_room (Nat.le_of_ble_eq_true rfl)) dX8_next_69 ⟨Nat.le_of_ble_eq_true rfl, Nat.le_of_ble_eq_true rfl⟩) hS (fun q _ h => zp_F2 hD hS hA q h) (zp_F2 hD hS hA) (fun r69 u t H locs ht hvm hw hB hz1 hk1 hS1 => zo2 hB ht hP hD hk1 (zp_F2 hD hS hA) hS1 (fun hP hK1 hD hS => ?_))
                  obtain ⟨hw, hfr69⟩ := hw
                  have hc69 : Ff_X8_see j67l1.toInt a0_3.toInt (fl_A fa0_1) = r69.toInt := hfr69.symm
                  have hF1 := hF1.trans (fl_lt_eq hc69.symm)
                  rcases hw with hw | hw
                  · obtain ⟨hw, h69⟩ := hw
                    subst hw
                    have hF1 := hF1.trans (if_pos (show a0_3.toInt ≤ j67l1.toInt from h69))
                    refine va_calli (va_runS (As := [.int (-1)]) (rest := []) ⟨hx, hb, hml, hown, hts⟩ (f_X8_isSmall l dC dI H.size (-1) ) (va_cwS 1 hts gX8_next_X8_isSmall rfl rfl rfl zd_X8_isSmall.2 ⟨Nat.le_of_ble_eq_true rfl, Nat.le_of_ble_eq_true rfl⟩) ⟨ax_blind (fun _ _ _ _ _ => trivial), ax_pre (zp_P0 hP) (zp_K hK) (zp_D0 hD) (fun _ _ => trivial)⟩ rfl rfl hl.1 rfl (lv_room (Nat.le_of_ble_eq_true rfl)) dX8_next_72 ⟨Nat.le_of_ble_eq_true rfl, Nat.le_of_ble_eq_true rfl⟩) hS (fun q _ h => zp_F0 hD hS hA q h) (zp_F0 hD hS hA) (fun r72 u t H locs ht hvm hw hB hz1 hk1 hS1 => zo0 hB ht hP hD hk1 (zp_F0 hD hS hA) hS1 (fun hP hK1 hD hS => ?_))
                    obtain ⟨hw, hfr72⟩ := hw
                    rw [show ((-1) : Int32).toInt = (-1) from by decide] at hfr72
                    have hc72 : Ff_X8_isSmall (-1) = r72.toInt := hfr72.symm
                    have hF1 := hF1.trans (fl_lt_eq hc72.symm)
                    rcases hw with hw | hw
                    · obtain ⟨hw, h72_0, h72_1⟩ := hw
                      subst hw
                      exact absurd h72_0 (by decide)
                    · subst hw
                      have hF1 := hF1.trans (if_neg (by decide))
                      refine lv_if_eq (tgt := 117) hx hb dX8_next_75 (by decide) (fun _ => ?_) (fun c75 => absurd (by decide +kernel) c75)
                      have hF0 := hF0.trans (fl_wh_r (hSX67.trans hF1))
                      refine lv_aload_n hx hb dX8_next_117 rfl (lv_at hl 0 rfl) ?_
                      refine lv_iload_n hx hb dX8_next_118 rfl (lv_at hl 1 rfl) ?_
                      refine va_put (D := (dC, dI)) (ci := 8) (v := .int j67l1) (ty := .int) (C := RX8) (T := TX8) (N := 40) hx hb hts zi_X8_next_8 tyX8 tyX8_ok nmX8 hown hK hP hD hS 0 rfl rfl 5 (by decide) (hts (.fieldLink RX8 71 "WaxTurnsModel" "end" "I") (List.mem_cons_of_mem _ (List.mem_append_left _ (List.mem_of_getElem? (i := 0) rfl)))) (fun _ h9 => h9) rfl (tyX8_ok 5 (by decide)) rfl rfl (Nat.le_of_ble_eq_true rfl) dX8_next_119 (fun H locs hP hD hS => ?_)
                      refine zs_0 (y := (a0, .inr (8, [a0g_0, Value.ref a0_1, a0g_2, Value.int a0_3, Value.int j5l1, Value.int j67l1, Value.int a0_6, Value.int 0, Value.int j67a0_8, a0g_9, a0g_10, a0g_11, Value.ref a0_12, a0g_13, a0g_14, a0g_15, a0g_16, a0g_17, a0g_18, a0g_19, a0g_20, a0g_21, a0g_22, a0g_23, a0g_24, a0g_25, a0g_26, a0g_27, a0g_28, a0g_29, a0g_30, a0g_31, a0g_32, a0g_33, a0g_34, a0g_35, a0g_36, a0g_37, a0g_38, a0g_39]))) hP hD rfl (fun hP hD => ?_)
                      refine lv_aload_n hx hb dX8_next_122 rfl (lv_at hl 0 rfl) ?_
                      refine lv_aload_n hx hb dX8_next_123 rfl (lv_at hl 0 rfl) ?_
                      refine va_get (D := (dC, dI)) (ci := 8) (v := .int j67a0_8) (C := RX8) (T := TX8) (N := 40) hx hb hts zi_X8_next_8 hown hK hP 0 rfl rfl 8 (by decide) (hts (.fieldLink RX8 81 "WaxTurnsModel" "nameSize" "I") (List.mem_cons_of_mem _ (List.mem_append_left _ (List.mem_of_getElem? (i := 2) rfl)))) (fun _ h9 => h9) rfl dX8_next_124 ?_
                      refine lv_bipush (v := 8) hx hb dX8_next_127 zk_bipush_8 ?_
                      refine lv_icmp_le (tgt := 136) hx hb dX8_next_129 (by decide) (fun c129 => ?_) (fun c129 => ?_)
                      · have gc129 := ai_le c129
                        have u129t_j67a0_8 : j67a0_8.toInt ≤ (8 : Int) := Int.le_trans gc129 zq28
                        have hF0 := hF0.trans (if_pos (show j67a0_8.toInt ≤ 8 from gc129))
                        refine lv_iconst (v := 2) hx hb dX8_next_136 zk_iconst_2 ?_
                        refine va_put (D := (dC, dI)) (ci := 8) (v := .int 2) (ty := .int) (C := RX8) (T := TX8) (N := 40) hx hb hts zi_X8_next_8 tyX8 tyX8_ok nmX8 hown hK hP hD hS 0 rfl rfl 6 (by decide) (hts (.fieldLink RX8 87 "WaxTurnsModel" "token" "I") (List.mem_cons_of_mem _ (List.mem_append_left _ (List.mem_of_getElem? (i := 4) rfl)))) (fun _ h9 => h9) rfl (tyX8_ok 6 (by decide)) rfl rfl (Nat.le_of_ble_eq_true rfl) dX8_next_137 (fun H locs hP hD hS => ?_)
                        refine zs_0 (y := (a0, .inr (8, [a0g_0, Value.ref a0_1, a0g_2, Value.int a0_3, Value.int j5l1, Value.int j67l1, Value.int 2, Value.int 0, Value.int j67a0_8, a0g_9, a0g_10, a0g_11, Value.ref a0_12, a0g_13, a0g_14, a0g_15, a0g_16, a0g_17, a0g_18, a0g_19, a0g_20, a0g_21, a0g_22, a0g_23, a0g_24, a0g_25, a0g_26, a0g_27, a0g_28, a0g_29, a0g_30, a0g_31, a0g_32, a0g_33, a0g_34, a0g_35, a0g_36, a0g_37, a0g_38, a0g_39]))) hP hD rfl (fun hP hD => ?_)
                        refine lv_goto (tgt := 241) hx hb dX8_next_140 (by decide) ?_
                        have hFe : FX = (j5l1.toInt, j67l1.toInt, 2, 0, j67a0_8.toInt, (fl_A j67a0_12_a)) := hF0
                        exact W.vret hx hb hr (fun t ht hW => ⟨⟨(), rfl, trivial, j5l1, j67l1, 2, 0, j67a0_8, j67a0_12_a, ⟨bj67l1_l, bj67l1_u⟩, ⟨bj67a0_8_l, Int.le_trans u129t_j67a0_8 (by decide)⟩, (fun _ => u129t_j67a0_8), ⟨by omega, Or.inl (by decide)⟩, hFe, by rw [ht]; exact hP, va_K.moved hW.alike hK, hD⟩, hS.F ht⟩) hS.2.2 dX8_next_241
                      · have gc129 := ai_nle c129
                        have l129f_j67a0_8 : (9 : Int) ≤ j67a0_8.toInt := ai_ltlo gc129 zq118
                        have hF0 := hF0.trans (if_neg (show ¬ (j67a0_8.toInt ≤ 8) from Int.not_le.mpr gc129))
                        refine lv_iconst (v := 1) hx hb dX8_next_132 zk_iconst_1 ?_
                        refine lv_goto (tgt := 137) hx hb dX8_next_133 (by decide) ?_
                        refine va_put (D := (dC, dI)) (ci := 8) (v := .int 1) (ty := .int) (C := RX8) (T := TX8) (N := 40) hx hb hts zi_X8_next_8 tyX8 tyX8_ok nmX8 hown hK hP hD hS 0 rfl rfl 6 (by decide) (hts (.fieldLink RX8 87 "WaxTurnsModel" "token" "I") (List.mem_cons_of_mem _ (List.mem_append_left _ (List.mem_of_getElem? (i := 4) rfl)))) (fun _ h9 => h9) rfl (tyX8_ok 6 (by decide)) rfl rfl (Nat.le_of_ble_eq_true rfl) dX8_next_137 (fun H locs hP hD hS => ?_)
                        refine zs_0 (y := (a0, .inr (8, [a0g_0, Value.ref a0_1, a0g_2, Value.int a0_3, Value.int j5l1, Value.int j67l1, Value.int 1, Value.int 0, Value.int j67a0_8, a0g_9, a0g_10, a0g_11, Value.ref a0_12, a0g_13, a0g_14, a0g_15, a0g_16, a0g_17, a0g_18, a0g_19, a0g_20, a0g_21, a0g_22, a0g_23, a0g_24, a0g_25, a0g_26, a0g_27, a0g_28, a0g_29, a0g_30, a0g_31, a0g_32, a0g_33, a0g_34, a0g_35, a0g_36, a0g_37, a0g_38, a0g_39]))) hP hD rfl (fun hP hD => ?_)
                        refine lv_goto (tgt := 241) hx hb dX8_next_140 (by decide) ?_
                        have hFe : FX = (j5l1.toInt, j67l1.toInt, 1, 0, j67a0_8.toInt, (fl_A j67a0_12_a)) := hF0
                        exact W.vret hx hb hr (fun t ht hW => ⟨⟨(), rfl, trivial, j5l1, j67l1, 1, 0, j67a0_8, j67a0_12_a, ⟨bj67l1_l, bj67l1_u⟩, ⟨Int.le_trans (by decide) l129f_j67a0_8, bj67a0_8_u⟩, (fun h9 => absurd h9 (by decide)), ⟨by omega, Or.inl (by decide)⟩, hFe, by rw [ht]; exact hP, va_K.moved hW.alike hK, hD⟩, hS.F ht⟩) hS.2.2 dX8_next_241
                  · have h69 := hw
                    have u69k1_j67l1 : j67l1.toInt ≤ (899 : Int) := by have h1 := h69; have h2 := ba0_3_u; omega
                    have hF1 := hF1.trans (if_neg (show ¬ (a0_3.toInt ≤ j67l1.toInt) from Int.not_le.mpr h69))
                    refine va_calli (va_runS (As := [.int r69]) (rest := []) ⟨hx, hb, hml, hown, hts⟩ (f_X8_isSmall l dC dI H.size r69 ) (va_cwS 1 hts gX8_next_X8_isSmall rfl rfl rfl zd_X8_isSmall.2 ⟨Nat.le_of_ble_eq_true rfl, Nat.le_of_ble_eq_true rfl⟩) ⟨ax_blind (fun _ _ _ _ _ => trivial), ax_pre (zp_P0 hP) (zp_K hK) (zp_D0 hD) (fun _ _ => trivial)⟩ rfl rfl hl.1 rfl (lv_room (Nat.le_of_ble_eq_true rfl)) dX8_next_72 ⟨Nat.le_of_ble_eq_true rfl, Nat.le_of_ble_eq_true rfl⟩) hS (fun q _ h => zp_F0 hD hS hA q h) (zp_F0 hD hS hA) (fun r72 u t H locs ht hvm hw hB hz1 hk1 hS1 => zo0 hB ht hP hD hk1 (zp_F0 hD hS hA) hS1 (fun hP hK1 hD hS => ?_))
                    obtain ⟨hw, hfr72⟩ := hw
                    have hc72 : Ff_X8_isSmall r69.toInt = r72.toInt := hfr72.symm
                    have hF1 := hF1.trans (fl_lt_eq hc72.symm)
                    rcases hw with hw | hw
                    · obtain ⟨hw, h72_0, h72_1⟩ := hw
                      subst hw
                      have l72k0_r69 : (97 : Int) ≤ r69.toInt := h72_0
                      have u72k0_r69 : r69.toInt ≤ (122 : Int) := h72_1
                      have hF1 := hF1.trans (if_pos (by decide))
                      refine lv_if_eq (tgt := 117) hx hb dX8_next_75 (by decide) (fun c75 => absurd c75 (by decide +kernel)) (fun _ => ?_)
                      refine lv_aload_n hx hb dX8_next_78 rfl (lv_at hl 0 rfl) ?_
                      refine va_get (D := (dC, dI)) (ci := 8) (v := .int j67a0_8) (C := RX8) (T := TX8) (N := 40) hx hb hts zi_X8_next_8 hown hK hP 0 rfl rfl 8 (by decide) (hts (.fieldLink RX8 81 "WaxTurnsModel" "nameSize" "I") (List.mem_cons_of_mem _ (List.mem_append_left _ (List.mem_of_getElem? (i := 2) rfl)))) (fun _ h9 => h9) rfl dX8_next_79 ?_
                      refine lv_bipush (v := 8) hx hb dX8_next_82 zk_bipush_8 ?_
                      have J101 : ∀ (j101a0_12_a : Nat → Int32) (H : Heap) (locs : List Loc) (ls : Array Slot), (SX67 = Gf_X8_next_101_2 j67l1.toInt j67a0_8.toInt (fl_A j101a0_12_a)) → va_P (dC, dI) vwCl [(a0, .inr (8, [a0g_0, Value.ref a0_1, a0g_2, Value.int a0_3, Value.int j5l1, Value.int a0_5, Value.int a0_6, Value.int 0, Value.int j67a0_8, a0g_9, a0g_10, a0g_11, Value.ref a0_12, a0g_13, a0g_14, a0g_15, a0g_16, a0g_17, a0g_18, a0g_19, a0g_20, a0g_21, a0g_22, a0g_23, a0g_24, a0g_25, a0g_26, a0g_27, a0g_28, a0g_29, a0g_30, a0g_31, a0g_32, a0g_33, a0g_34, a0g_35, a0g_36, a0g_37, a0g_38, a0g_39])), (a0_1, .inl (ka0_1, 900, .inl (fa0_1))), (a0_12, .inl (ka0_12, 8, .inl (j101a0_12_a)))] H → va_D A [(a0, .inr (8, [a0g_0, Value.ref a0_1, a0g_2, Value.int a0_3, Value.int j5l1, Value.int a0_5, Value.int a0_6, Value.int 0, Value.int j67a0_8, a0g_9, a0g_10, a0g_11, Value.ref a0_12, a0g_13, a0g_14, a0g_15, a0g_16, a0g_17, a0g_18, a0g_19, a0g_20, a0g_21, a0g_22, a0g_23, a0g_24, a0g_25, a0g_26, a0g_27, a0g_28, a0g_29, a0g_30, a0g_31, a0g_32, a0g_33, a0g_34, a0g_35, a0g_36, a0g_37, a0g_38, a0g_39])), (a0_1, .inl (ka0_1, 900, .inl (fa0_1))), (a0_12, .inl (ka0_12, 8, .inl (j101a0_12_a)))] → va_S A s.heap H locs → lv_has ls 4 [(0, .ref a0), (1, .int j67l1)] → K H locs (F0 m 101 ls []) := by
                        intro j101a0_12_a H locs ls  hF1 hP hD hS hl
                        refine (hK0 _ _ _).mpr ?_
                        have hF1 := hF1.trans (Gf_X8_next_101_2.eq_1 j67l1.toInt j67a0_8.toInt (fl_A j101a0_12_a))
                        refine lv_aload_n hx hb dX8_next_101 rfl (lv_at hl 0 rfl) ?_
                        refine lv_dup hx hb dX8_next_102 rfl ?_
                        refine va_get (D := (dC, dI)) (ci := 8) (v := .int j67a0_8) (C := RX8) (T := TX8) (N := 40) hx hb hts zi_X8_next_8 hown hK hP 0 rfl rfl 8 (by decide) (hts (.fieldLink RX8 81 "WaxTurnsModel" "nameSize" "I") (List.mem_cons_of_mem _ (List.mem_append_left _ (List.mem_of_getElem? (i := 2) rfl)))) (fun _ h9 => h9) rfl dX8_next_103 ?_
                        have u103z_j67a0_8 : j67a0_8.toInt ≤ (899 : Int) := by omega
                        refine lv_iconst (v := 1) hx hb dX8_next_106 zk_iconst_1 ?_
                        refine lv_iadd hx hb dX8_next_107 ?_
                        refine lv_topi (fun x107 ex107 => ?_)
                        have qx107 : x107.toInt = j67a0_8.toInt + (1 : Int32).toInt := ai_add ex107 ⟨bj67a0_8_l, u103z_j67a0_8⟩ ⟨zq1, zq0⟩ (by decide) (by decide)
                        have bx107 : (1 : Int) ≤ x107.toInt ∧ x107.toInt ≤ 900 := ⟨by rw [qx107]; exact Int.add_le_add bj67a0_8_l zq1, by rw [qx107]; exact Int.add_le_add u103z_j67a0_8 zq0⟩
                        have wx107 : x107.toInt = j67a0_8.toInt + 1 := qx107
                        have hF1 := hF1.trans (fl_lt_eq (show x107.toInt = j67a0_8.toInt + 1 from qx107))
                        refine va_put (D := (dC, dI)) (ci := 8) (v := .int x107) (ty := .int) (C := RX8) (T := TX8) (N := 40) hx hb hts zi_X8_next_8 tyX8 tyX8_ok nmX8 hown hK hP hD hS 0 rfl rfl 8 (by decide) (hts (.fieldLink RX8 81 "WaxTurnsModel" "nameSize" "I") (List.mem_cons_of_mem _ (List.mem_append_left _ (List.mem_of_getElem? (i := 2) rfl)))) (fun _ h9 => h9) rfl (tyX8_ok 8 (by decide)) rfl rfl (Nat.le_of_ble_eq_true rfl) dX8_next_108 (fun H locs hP hD hS => ?_)
                        refine zs_0 (y := (a0, .inr (8, [a0g_0, Value.ref a0_1, a0g_2, Value.int a0_3, Value.int j5l1, Value.int a0_5, Value.int a0_6, Value.int 0, Value.int x107, a0g_9, a0g_10, a0g_11, Value.ref a0_12, a0g_13, a0g_14, a0g_15, a0g_16, a0g_17, a0g_18, a0g_19, a0g_20, a0g_21, a0g_22, a0g_23, a0g_24, a0g_25, a0g_26, a0g_27, a0g_28, a0g_29, a0g_30, a0g_31, a0g_32, a0g_33, a0g_34, a0g_35, a0g_36, a0g_37, a0g_38, a0g_39]))) hP hD rfl (fun hP hD => ?_)
                        obtain ⟨x111, ex111⟩ : ∃ y : Int32, y = j67l1 + Int32.ofInt 1 := ⟨_, rfl⟩
                        have qx111 : x111.toInt = j67l1.toInt + 1 := ai_inc ex111 (by decide) (by decide) u69k1_j67l1 (by decide)
                        have bx111 : (1 : Int) ≤ x111.toInt ∧ x111.toInt ≤ 900 := ⟨by rw [qx111]; exact Int.add_le_add bj67l1_l (Int.le_refl _), by rw [qx111]; exact Int.add_le_add u69k1_j67l1 (Int.le_refl _)⟩
                        refine lv_iinc (v := x111) (lv' := [(1, .int x111), (0, .ref a0)]) hx hb dX8_next_111 hl (k := 1) rfl ex111.symm (by decide) rfl (fun ls hl => ?_)
                        have hF1 := hF1.trans (fl_lt_eq (show x111.toInt = j67l1.toInt + 1 from qx111))
                        refine lv_goto (tgt := 67) hx hb dX8_next_114 (by decide) ?_
                        exact (hK0 _ _ _).mp (ih67 x111 x107 j101a0_12_a _ _ _ (by first | exact zg_s hm67 qx111 | (have h0 := qx111; omega)) (Int.le_trans zq4 bx111.1) bx111.2 (Int.le_trans zq4 bx107.1) bx107.2 (by omega) (by omega) (hF0.trans (fl_wh_l (hSX67.trans hF1))) hP hD hS (lv_sub hl [1, 0] rfl))
                      refine lv_icmp_ge (tgt := 101) hx hb dX8_next_84 (by decide) (fun c84 => ?_) (fun c84 => ?_)
                      · have gc84 := ai_le c84
                        have l84t_j67a0_8 : (8 : Int) ≤ j67a0_8.toInt := Int.le_trans zq118 gc84
                        have hF1 := hF1.trans (if_pos (show 8 ≤ j67a0_8.toInt from gc84))
                        exact (hK0 _ _ _).mp (J101 j67a0_12_a _ _ _   hF1 hP hD hS (lv_sub hl [0, 1] rfl))
                      · have gc84 := ai_nle c84
                        have u84f_j67a0_8 : j67a0_8.toInt ≤ (7 : Int) := ai_lthi gc84 zq28
                        have hF1 := hF1.trans (if_neg (show ¬ (8 ≤ j67a0_8.toInt) from Int.not_le.mpr gc84))
                        refine lv_aload_n hx hb dX8_next_87 rfl (lv_at hl 0 rfl) ?_
                        refine va_get (D := (dC, dI)) (ci := 8) (v := .ref a0_12) (C := RX8) (T := TX8) (N := 40) hx hb hts zi_X8_next_8 hown hK hP 0 rfl rfl 12 (by decide) (hts (.fieldLink RX8 17 "WaxTurnsModel" "letters" "[I") (List.mem_cons_of_mem _ (List.mem_append_left _ (List.mem_of_getElem? (i := 5) rfl)))) (fun _ h9 => h9) rfl dX8_next_88 ?_
                        refine lv_aload_n hx hb dX8_next_91 rfl (lv_at hl 0 rfl) ?_
                        refine va_get (D := (dC, dI)) (ci := 8) (v := .int j67a0_8) (C := RX8) (T := TX8) (N := 40) hx hb hts zi_X8_next_8 hown hK hP 0 rfl rfl 8 (by decide) (hts (.fieldLink RX8 81 "WaxTurnsModel" "nameSize" "I") (List.mem_cons_of_mem _ (List.mem_append_left _ (List.mem_of_getElem? (i := 2) rfl)))) (fun _ h9 => h9) rfl dX8_next_92 ?_
                        refine lv_aload_n hx hb dX8_next_95 rfl (lv_at hl 0 rfl) ?_
                        refine lv_iload_n hx hb dX8_next_96 rfl (lv_at hl 1 rfl) ?_
                        have hKc := hK.sub (tys' := [(ka0_1, .int)]) [0] rfl
                        refine va_calli (va_runV (As := [.int j67l1]) (rest := [.int j67a0_8, .ref a0_12]) ⟨hx, hb, hml, hown, hts⟩ (f_X8_see l dC dI H.size a0 j67l1 a0g_0 a0g_2 (Value.int j5l1) (Value.int a0_5) (Value.int a0_6) (Value.int 0) (Value.int j67a0_8) a0g_9 a0g_10 a0g_11 (Value.ref a0_12) a0g_13 a0g_14 a0g_15 a0g_16 a0g_17 a0g_18 a0g_19 a0g_20 a0g_21 a0g_22 a0g_23 a0g_24 a0g_25 a0g_26 a0g_27 a0g_28 a0g_29 a0g_30 a0g_31 a0g_32 a0g_33 a0g_34 a0g_35 a0g_36 a0g_37 a0g_38 a0g_39 a0_1 a0_3 ka0_1 fa0_1 bj67l1_l (Int.le_trans u69k1_j67l1 zq147) ba0_3_l ba0_3_u) (cwV 1 hts gX8_next_X8_see rfl rfl rfl zd_X8_see ⟨Nat.le_of_ble_eq_true rfl, Nat.le_of_ble_eq_true rfl⟩) ⟨ax_blind (fun _ _ _ _ _ => trivial), zr_8 hKc (zp_P2 hP) (q0 := 0) rfl, ax_pre (zp_P2 hP) hKc (zp_D2 hD) (fun _ _ => trivial)⟩ rfl rfl hl.1 rfl (lv_room (Nat.le_of_ble_eq_true rfl)) dX8_next_97 ⟨Nat.le_of_ble_eq_true rfl, Nat.le_of_ble_eq_true rfl⟩) hS (fun q _ h => zp_F2 hD hS hA q h) (zp_F2 hD hS hA) (fun r97 u t H locs ht hvm hw hB hz1 hk1 hS1 => zo2 hB ht hP hD hk1 (zp_F2 hD hS hA) hS1 (fun hP hK1 hD hS => ?_))
                        obtain ⟨hw, hfr97⟩ := hw
                        have hc97 : Ff_X8_see j67l1.toInt a0_3.toInt (fl_A fa0_1) = r97.toInt := hfr97.symm
                        have hF1 := hF1.trans (fl_lt_eq hc97.symm)
                        rcases hw with hw | hw
                        · obtain ⟨hw, h97⟩ := hw
                          subst hw
                          have hF1 := hF1.trans (if_pos (show a0_3.toInt ≤ j67l1.toInt from h97))
                          refine va_iast hx hb hK hP hD hS 2 1 rfl rfl (ai_in bj67a0_8_l u84f_j67a0_8 (by decide) (by decide)) dX8_next_100 (fun H locs hP hD hS => ?_)
                          obtain ⟨f100, ef100⟩ : ∃ g9 : Nat → Int32, g9 = upd j67a0_12_a (j67a0_8 : Int32).toNatClampNeg ((-1) : Int32) := ⟨_, rfl⟩
                          refine zs_2 (y := (a0_12, .inl (ka0_12, 8, .inl (f100)))) hP hD (by rw [ef100]) (fun hP hD => ?_)
                          have fqf100 := fl_up_eq ef100
                          have hF1 := hF1.trans (fl_lt_eq (show (fl_A f100) = fl_up (fl_A j67a0_12_a) (j67a0_8.toInt.toNat) (-1) from fqf100))
                          exact (hK0 _ _ _).mp (J101 f100 _ _ _   hF1 hP hD hS (lv_sub hl [0, 1] rfl))
                        · have h97 := hw
                          have u97k1_j67l1 : j67l1.toInt ≤ (899 : Int) := u69k1_j67l1
                          have hF1 := hF1.trans (if_neg (show ¬ (a0_3.toInt ≤ j67l1.toInt) from Int.not_le.mpr h97))
                          refine va_iast hx hb hK hP hD hS 2 1 rfl rfl (ai_in bj67a0_8_l u84f_j67a0_8 (by decide) (by decide)) dX8_next_100 (fun H locs hP hD hS => ?_)
                          obtain ⟨f100, ef100⟩ : ∃ g9 : Nat → Int32, g9 = upd j67a0_12_a (j67a0_8 : Int32).toNatClampNeg r97 := ⟨_, rfl⟩
                          refine zs_2 (y := (a0_12, .inl (ka0_12, 8, .inl (f100)))) hP hD (by rw [ef100]) (fun hP hD => ?_)
                          have fqf100 := fl_up_eq ef100
                          have hF1 := hF1.trans (fl_lt_eq (show (fl_A f100) = fl_up (fl_A j67a0_12_a) (j67a0_8.toInt.toNat) r97.toInt from fqf100))
                          exact (hK0 _ _ _).mp (J101 f100 _ _ _   hF1 hP hD hS (lv_sub hl [0, 1] rfl))
                    · subst hw
                      have hF1 := hF1.trans (if_neg (by decide))
                      refine lv_if_eq (tgt := 117) hx hb dX8_next_75 (by decide) (fun _ => ?_) (fun c75 => absurd (by decide +kernel) c75)
                      have hF0 := hF0.trans (fl_wh_r (hSX67.trans hF1))
                      refine lv_aload_n hx hb dX8_next_117 rfl (lv_at hl 0 rfl) ?_
                      refine lv_iload_n hx hb dX8_next_118 rfl (lv_at hl 1 rfl) ?_
                      refine va_put (D := (dC, dI)) (ci := 8) (v := .int j67l1) (ty := .int) (C := RX8) (T := TX8) (N := 40) hx hb hts zi_X8_next_8 tyX8 tyX8_ok nmX8 hown hK hP hD hS 0 rfl rfl 5 (by decide) (hts (.fieldLink RX8 71 "WaxTurnsModel" "end" "I") (List.mem_cons_of_mem _ (List.mem_append_left _ (List.mem_of_getElem? (i := 0) rfl)))) (fun _ h9 => h9) rfl (tyX8_ok 5 (by decide)) rfl rfl (Nat.le_of_ble_eq_true rfl) dX8_next_119 (fun H locs hP hD hS => ?_)
                      refine zs_0 (y := (a0, .inr (8, [a0g_0, Value.ref a0_1, a0g_2, Value.int a0_3, Value.int j5l1, Value.int j67l1, Value.int a0_6, Value.int 0, Value.int j67a0_8, a0g_9, a0g_10, a0g_11, Value.ref a0_12, a0g_13, a0g_14, a0g_15, a0g_16, a0g_17, a0g_18, a0g_19, a0g_20, a0g_21, a0g_22, a0g_23, a0g_24, a0g_25, a0g_26, a0g_27, a0g_28, a0g_29, a0g_30, a0g_31, a0g_32, a0g_33, a0g_34, a0g_35, a0g_36, a0g_37, a0g_38, a0g_39]))) hP hD rfl (fun hP hD => ?_)
                      refine lv_aload_n hx hb dX8_next_122 rfl (lv_at hl 0 rfl) ?_
                      refine lv_aload_n hx hb dX8_next_123 rfl (lv_at hl 0 rfl) ?_
                      refine va_get (D := (dC, dI)) (ci := 8) (v := .int j67a0_8) (C := RX8) (T := TX8) (N := 40) hx hb hts zi_X8_next_8 hown hK hP 0 rfl rfl 8 (by decide) (hts (.fieldLink RX8 81 "WaxTurnsModel" "nameSize" "I") (List.mem_cons_of_mem _ (List.mem_append_left _ (List.mem_of_getElem? (i := 2) rfl)))) (fun _ h9 => h9) rfl dX8_next_124 ?_
                      refine lv_bipush (v := 8) hx hb dX8_next_127 zk_bipush_8 ?_
                      refine lv_icmp_le (tgt := 136) hx hb dX8_next_129 (by decide) (fun c129 => ?_) (fun c129 => ?_)
                      · have gc129 := ai_le c129
                        have u129t_j67a0_8 : j67a0_8.toInt ≤ (8 : Int) := Int.le_trans gc129 zq28
                        have hF0 := hF0.trans (if_pos (show j67a0_8.toInt ≤ 8 from gc129))
                        refine lv_iconst (v := 2) hx hb dX8_next_136 zk_iconst_2 ?_
                        refine va_put (D := (dC, dI)) (ci := 8) (v := .int 2) (ty := .int) (C := RX8) (T := TX8) (N := 40) hx hb hts zi_X8_next_8 tyX8 tyX8_ok nmX8 hown hK hP hD hS 0 rfl rfl 6 (by decide) (hts (.fieldLink RX8 87 "WaxTurnsModel" "token" "I") (List.mem_cons_of_mem _ (List.mem_append_left _ (List.mem_of_getElem? (i := 4) rfl)))) (fun _ h9 => h9) rfl (tyX8_ok 6 (by decide)) rfl rfl (Nat.le_of_ble_eq_true rfl) dX8_next_137 (fun H locs hP hD hS => ?_)
                        refine zs_0 (y := (a0, .inr (8, [a0g_0, Value.ref a0_1, a0g_2, Value.int a0_3, Value.int j5l1, Value.int j67l1, Value.int 2, Value.int 0, Value.int j67a0_8, a0g_9, a0g_10, a0g_11, Value.ref a0_12, a0g_13, a0g_14, a0g_15, a0g_16, a0g_17, a0g_18, a0g_19, a0g_20, a0g_21, a0g_22, a0g_23, a0g_24, a0g_25, a0g_26, a0g_27, a0g_28, a0g_29, a0g_30, a0g_31, a0g_32, a0g_33, a0g_34, a0g_35, a0g_36, a0g_37, a0g_38, a0g_39]))) hP hD rfl (fun hP hD => ?_)
                        refine lv_goto (tgt := 241) hx hb dX8_next_140 (by decide) ?_
                        have hFe : FX = (j5l1.toInt, j67l1.toInt, 2, 0, j67a0_8.toInt, (fl_A j67a0_12_a)) := hF0
                        exact W.vret hx hb hr (fun t ht hW => ⟨⟨(), rfl, trivial, j5l1, j67l1, 2, 0, j67a0_8, j67a0_12_a, ⟨bj67l1_l, Int.le_trans u69k1_j67l1 (by decide)⟩, ⟨bj67a0_8_l, Int.le_trans u129t_j67a0_8 (by decide)⟩, (fun _ => u129t_j67a0_8), ⟨by omega, Or.inl (by decide)⟩, hFe, by rw [ht]; exact hP, va_K.moved hW.alike hK, hD⟩, hS.F ht⟩) hS.2.2 dX8_next_241
                      · have gc129 := ai_nle c129
                        have l129f_j67a0_8 : (9 : Int) ≤ j67a0_8.toInt := ai_ltlo gc129 zq118
                        have hF0 := hF0.trans (if_neg (show ¬ (j67a0_8.toInt ≤ 8) from Int.not_le.mpr gc129))
                        refine lv_iconst (v := 1) hx hb dX8_next_132 zk_iconst_1 ?_
                        refine lv_goto (tgt := 137) hx hb dX8_next_133 (by decide) ?_
                        refine va_put (D := (dC, dI)) (ci := 8) (v := .int 1) (ty := .int) (C := RX8) (T := TX8) (N := 40) hx hb hts zi_X8_next_8 tyX8 tyX8_ok nmX8 hown hK hP hD hS 0 rfl rfl 6 (by decide) (hts (.fieldLink RX8 87 "WaxTurnsModel" "token" "I") (List.mem_cons_of_mem _ (List.mem_append_left _ (List.mem_of_getElem? (i := 4) rfl)))) (fun _ h9 => h9) rfl (tyX8_ok 6 (by decide)) rfl rfl (Nat.le_of_ble_eq_true rfl) dX8_next_137 (fun H locs hP hD hS => ?_)
                        refine zs_0 (y := (a0, .inr (8, [a0g_0, Value.ref a0_1, a0g_2, Value.int a0_3, Value.int j5l1, Value.int j67l1, Value.int 1, Value.int 0, Value.int j67a0_8, a0g_9, a0g_10, a0g_11, Value.ref a0_12, a0g_13, a0g_14, a0g_15, a0g_16, a0g_17, a0g_18, a0g_19, a0g_20, a0g_21, a0g_22, a0g_23, a0g_24, a0g_25, a0g_26, a0g_27, a0g_28, a0g_29, a0g_30, a0g_31, a0g_32, a0g_33, a0g_34, a0g_35, a0g_36, a0g_37, a0g_38, a0g_39]))) hP hD rfl (fun hP hD => ?_)
                        refine lv_goto (tgt := 241) hx hb dX8_next_140 (by decide) ?_
                        have hFe : FX = (j5l1.toInt, j67l1.toInt, 1, 0, j67a0_8.toInt, (fl_A j67a0_12_a)) := hF0
                        exact W.vret hx hb hr (fun t ht hW => ⟨⟨(), rfl, trivial, j5l1, j67l1, 1, 0, j67a0_8, j67a0_12_a, ⟨bj67l1_l, Int.le_trans u69k1_j67l1 (by decide)⟩, ⟨Int.le_trans (by decide) l129f_j67a0_8, bj67a0_8_u⟩, (fun h9 => absurd h9 (by decide)), ⟨by omega, Or.inl (by decide)⟩, hFe, by rw [ht]; exact hP, va_K.moved hW.alike hK, hD⟩, hS.F ht⟩) hS.2.2 dX8_next_241
              refine lv_iload_n hx hb dX8_next_143 rfl (lv_at hl 0 rfl) ?_
              refine va_calli (va_runS (As := [.int r28]) (rest := []) ⟨hx, hb, hml, hown, hts⟩ (f_X8_isDigit l dC dI H.size r28 ) (va_cwS 1 hts gX8_next_X8_isDigit rfl rfl rfl zd_X8_isDigit.2 ⟨Nat.le_of_ble_eq_true rfl, Nat.le_of_ble_eq_true rfl⟩) ⟨ax_blind (fun _ _ _ _ _ => trivial), ax_pre (zp_P0 hP) (zp_K hK) (zp_D0 hD) (fun _ _ => trivial)⟩ rfl rfl hl.1 rfl (lv_room (Nat.le_of_ble_eq_true rfl)) dX8_next_144 ⟨Nat.le_of_ble_eq_true rfl, Nat.le_of_ble_eq_true rfl⟩) hS (fun q _ h => zp_F0 hD hS hA q h) (zp_F0 hD hS hA) (fun r144 u t H locs ht hvm hw hB hz1 hk1 hS1 => zo0 hB ht hP hD hk1 (zp_F0 hD hS hA) hS1 (fun hP hK1 hD hS => ?_))
              obtain ⟨hw, hfr144⟩ := hw
              have hc144 : Ff_X8_isDigit r28.toInt = r144.toInt := hfr144.symm
              have hF0 := hF0.trans (fl_lt_eq hc144.symm)
              rcases hw with hw | hw
              · obtain ⟨hw, h144_0, h144_1⟩ := hw
                subst hw
                have l144k0_r28 : (48 : Int) ≤ r28.toInt := h144_0
                have u144k0_r28 : r28.toInt ≤ (57 : Int) := h144_1
                have hF0 := hF0.trans (if_pos (by decide))
                refine lv_if_eq (tgt := 219) hx hb dX8_next_147 (by decide) (fun c147 => absurd c147 (by decide +kernel)) (fun _ => ?_)
                refine lv_iconst (v := 0) hx hb dX8_next_150 zk_iconst_0 ?_
                refine lv_istore_n (lv' := [(3, .int 0), (2, .int r28), (0, .ref a0), (1, .int j5l1)]) hx hb dX8_next_151 rfl hl (by decide) rfl (fun ls hl => ?_)
                have J152 : ∀ (n : Nat) (j152l3 : Int32) (j152l1 : Int32) (j152a0_7 : Int32) (H : Heap) (locs : List Loc) (ls : Array Slot), (901 : Int) - j152l1.toInt ≤ (n : Int) → (0 : Int) ≤ j152l1.toInt → j152l1.toInt ≤ (900 : Int) → (a0_5.toInt ≤ j152l1.toInt) → (FX = fl_wh (fun t9 => Sf_X8_next_152_1 a0_3.toInt (fl_A fa0_1) (fl_A fa0_12) j5l1.toInt t9.1 t9.2.1 t9.2.2) (0, 0, 0, 0, 0, (fun _ => 0)) n (j152l3.toInt, j152l1.toInt, j152a0_7.toInt)) → va_P (dC, dI) vwCl [(a0, .inr (8, [a0g_0, Value.ref a0_1, a0g_2, Value.int a0_3, Value.int j5l1, Value.int a0_5, Value.int a0_6, Value.int j152a0_7, Value.int 0, a0g_9, a0g_10, a0g_11, Value.ref a0_12, a0g_13, a0g_14, a0g_15, a0g_16, a0g_17, a0g_18, a0g_19, a0g_20, a0g_21, a0g_22, a0g_23, a0g_24, a0g_25, a0g_26, a0g_27, a0g_28, a0g_29, a0g_30, a0g_31, a0g_32, a0g_33, a0g_34, a0g_35, a0g_36, a0g_37, a0g_38, a0g_39])), (a0_1, .inl (ka0_1, 900, .inl (fa0_1))), (a0_12, .inl (ka0_12, 8, .inl (fa0_12)))] H → va_D A [(a0, .inr (8, [a0g_0, Value.ref a0_1, a0g_2, Value.int a0_3, Value.int j5l1, Value.int a0_5, Value.int a0_6, Value.int j152a0_7, Value.int 0, a0g_9, a0g_10, a0g_11, Value.ref a0_12, a0g_13, a0g_14, a0g_15, a0g_16, a0g_17, a0g_18, a0g_19, a0g_20, a0g_21, a0g_22, a0g_23, a0g_24, a0g_25, a0g_26, a0g_27, a0g_28, a0g_29, a0g_30, a0g_31, a0g_32, a0g_33, a0g_34, a0g_35, a0g_36, a0g_37, a0g_38, a0g_39])), (a0_1, .inl (ka0_1, 900, .inl (fa0_1))), (a0_12, .inl (ka0_12, 8, .inl (fa0_12)))] → va_S A s.heap H locs → lv_has ls 4 [(0, .ref a0), (1, .int j152l1), (3, .int j152l3)] → K H locs (F0 m 152 ls []) := by
                  intro n
                  induction n with
                  | zero =>
                    intro j152l3 j152l1 j152a0_7 H locs ls hm bj152l1_l bj152l1_u ke152 hF0 hP hD hS hl
                    first | exact zg_0 hm bj152l1_u (by decide) | (have h8 := ai_min j152l1; have h9 := ai_max j152l1; exact absurd hm (by omega))
                  | succ n ih152 =>
                    intro j152l3 j152l1 j152a0_7 H locs ls hm bj152l1_l bj152l1_u ke152 hF0 hP hD hS hl
                    refine (hK0 _ _ _).mpr ?_
                    have hm152 := hm
                    obtain ⟨SX152, hSX152⟩ : ∃ q9, Sf_X8_next_152_1 a0_3.toInt (fl_A fa0_1) (fl_A fa0_12) j5l1.toInt j152l3.toInt j152l1.toInt j152a0_7.toInt = q9 := ⟨_, rfl⟩
                    have hF1 := hSX152.symm.trans (Sf_X8_next_152_1.eq_1 a0_3.toInt (fl_A fa0_1) (fl_A fa0_12) j5l1.toInt j152l3.toInt j152l1.toInt j152a0_7.toInt)
                    refine lv_aload_n hx hb dX8_next_152 rfl (lv_at hl 0 rfl) ?_
                    refine lv_iload_n hx hb dX8_next_153 rfl (lv_at hl 1 rfl) ?_
                    have hKc := hK.sub (tys' := [(ka0_1, .int)]) [0] rfl
                    refine va_calli (va_runV (As := [.int j152l1]) (rest := []) ⟨hx, hb, hml, hown, hts⟩ (f_X8_see l dC dI H.size a0 j152l1 a0g_0 a0g_2 (Value.int j5l1) (Value.int a0_5) (Value.int a0_6) (Value.int j152a0_7) (Value.int 0) a0g_9 a0g_10 a0g_11 (Value.ref a0_12) a0g_13 a0g_14 a0g_15 a0g_16 a0g_17 a0g_18 a0g_19 a0g_20 a0g_21 a0g_22 a0g_23 a0g_24 a0g_25 a0g_26 a0g_27 a0g_28 a0g_29 a0g_30 a0g_31 a0g_32 a0g_33 a0g_34 a0g_35 a0g_36 a0g_37 a0g_38 a0g_39 a0_1 a0_3 ka0_1 fa0_1 bj152l1_l bj152l1_u ba0_3_l ba0_3_u) (cwV 1 hts gX8_next_X8_see rfl rfl rfl zd_X8_see ⟨Nat.le_of_ble_eq_true rfl, Nat.le_of_ble_eq_true rfl⟩) ⟨ax_blind (fun _ _ _ _ _ => trivial), zr_8 hKc (zp_P2 hP) (q0 := 0) rfl, ax_pre (zp_P2 hP) hKc (zp_D2 hD) (fun _ _ => trivial)⟩ rfl rfl hl.1 rfl (lv_room (Nat.le_of_ble_eq_true rfl)) dX8_next_154 ⟨Nat.le_of_ble_eq_true rfl, Nat.le_of_ble_eq_true rfl⟩) hS (fun q _ h => zp_F2 hD hS hA q h) (zp_F2 hD hS hA) (fun r154 u t H locs ht hvm hw hB hz1 hk1 hS1 => zo2 hB ht hP hD hk1 (zp_F2 hD hS hA) hS1 (fun hP hK1 hD hS => ?_))
                    obtain ⟨hw, hfr154⟩ := hw
                    have hc154 : Ff_X8_see j152l1.toInt a0_3.toInt (fl_A fa0_1) = r154.toInt := hfr154.symm
                    have hF1 := hF1.trans (fl_lt_eq hc154.symm)
                    rcases hw with hw | hw
                    · obtain ⟨hw, h154⟩ := hw
                      subst hw
                      have hF1 := hF1.trans (if_pos (show a0_3.toInt ≤ j152l1.toInt from h154))
                      refine va_calli (va_runS (As := [.int (-1)]) (rest := []) ⟨hx, hb, hml, hown, hts⟩ (f_X8_isDigit l dC dI H.size (-1) ) (va_cwS 1 hts gX8_next_X8_isDigit rfl rfl rfl zd_X8_isDigit.2 ⟨Nat.le_of_ble_eq_true rfl, Nat.le_of_ble_eq_true rfl⟩) ⟨ax_blind (fun _ _ _ _ _ => trivial), ax_pre (zp_P0 hP) (zp_K hK) (zp_D0 hD) (fun _ _ => trivial)⟩ rfl rfl hl.1 rfl (lv_room (Nat.le_of_ble_eq_true rfl)) dX8_next_157 ⟨Nat.le_of_ble_eq_true rfl, Nat.le_of_ble_eq_true rfl⟩) hS (fun q _ h => zp_F0 hD hS hA q h) (zp_F0 hD hS hA) (fun r157 u t H locs ht hvm hw hB hz1 hk1 hS1 => zo0 hB ht hP hD hk1 (zp_F0 hD hS hA) hS1 (fun hP hK1 hD hS => ?_))
                      obtain ⟨hw, hfr157⟩ := hw
                      rw [show ((-1) : Int32).toInt = (-1) from by decide] at hfr157
                      have hc157 : Ff_X8_isDigit (-1) = r157.toInt := hfr157.symm
                      have hF1 := hF1.trans (fl_lt_eq hc157.symm)
                      rcases hw with hw | hw
                      · obtain ⟨hw, h157_0, h157_1⟩ := hw
                        subst hw
                        exact absurd h157_0 (by decide)
                      · subst hw
                        have hF1 := hF1.trans (if_neg (by decide))
                        refine lv_if_eq (tgt := 197) hx hb dX8_next_160 (by decide) (fun _ => ?_) (fun c160 => absurd (by decide +kernel) c160)
                        have hF0 := hF0.trans (fl_wh_r (hSX152.trans hF1))
                        refine lv_aload_n hx hb dX8_next_197 rfl (lv_at hl 0 rfl) ?_
                        refine lv_iload_n hx hb dX8_next_198 rfl (lv_at hl 1 rfl) ?_
                        refine va_put (D := (dC, dI)) (ci := 8) (v := .int j152l1) (ty := .int) (C := RX8) (T := TX8) (N := 40) hx hb hts zi_X8_next_8 tyX8 tyX8_ok nmX8 hown hK hP hD hS 0 rfl rfl 5 (by decide) (hts (.fieldLink RX8 71 "WaxTurnsModel" "end" "I") (List.mem_cons_of_mem _ (List.mem_append_left _ (List.mem_of_getElem? (i := 0) rfl)))) (fun _ h9 => h9) rfl (tyX8_ok 5 (by decide)) rfl rfl (Nat.le_of_ble_eq_true rfl) dX8_next_199 (fun H locs hP hD hS => ?_)
                        refine zs_0 (y := (a0, .inr (8, [a0g_0, Value.ref a0_1, a0g_2, Value.int a0_3, Value.int j5l1, Value.int j152l1, Value.int a0_6, Value.int j152a0_7, Value.int 0, a0g_9, a0g_10, a0g_11, Value.ref a0_12, a0g_13, a0g_14, a0g_15, a0g_16, a0g_17, a0g_18, a0g_19, a0g_20, a0g_21, a0g_22, a0g_23, a0g_24, a0g_25, a0g_26, a0g_27, a0g_28, a0g_29, a0g_30, a0g_31, a0g_32, a0g_33, a0g_34, a0g_35, a0g_36, a0g_37, a0g_38, a0g_39]))) hP hD rfl (fun hP hD => ?_)
                        refine lv_aload_n hx hb dX8_next_202 rfl (lv_at hl 0 rfl) ?_
                        refine lv_iload_n hx hb dX8_next_203 rfl (lv_at hl 2 rfl) ?_
                        refine lv_iconst (v := 3) hx hb dX8_next_204 zk_iconst_3 ?_
                        refine lv_icmp_le (tgt := 212) hx hb dX8_next_205 (by decide) (fun c205 => ?_) (fun c205 => ?_)
                        · have gc205 := ai_le c205
                          have u205t_j152l3 : j152l3.toInt ≤ (3 : Int) := Int.le_trans gc205 zq9
                          have hF0 := hF0.trans (if_pos (show j152l3.toInt ≤ 3 from gc205))
                          refine lv_iconst (v := 3) hx hb dX8_next_212 zk_iconst_3 ?_
                          refine va_put (D := (dC, dI)) (ci := 8) (v := .int 3) (ty := .int) (C := RX8) (T := TX8) (N := 40) hx hb hts zi_X8_next_8 tyX8 tyX8_ok nmX8 hown hK hP hD hS 0 rfl rfl 6 (by decide) (hts (.fieldLink RX8 87 "WaxTurnsModel" "token" "I") (List.mem_cons_of_mem _ (List.mem_append_left _ (List.mem_of_getElem? (i := 4) rfl)))) (fun _ h9 => h9) rfl (tyX8_ok 6 (by decide)) rfl rfl (Nat.le_of_ble_eq_true rfl) dX8_next_213 (fun H locs hP hD hS => ?_)
                          refine zs_0 (y := (a0, .inr (8, [a0g_0, Value.ref a0_1, a0g_2, Value.int a0_3, Value.int j5l1, Value.int j152l1, Value.int 3, Value.int j152a0_7, Value.int 0, a0g_9, a0g_10, a0g_11, Value.ref a0_12, a0g_13, a0g_14, a0g_15, a0g_16, a0g_17, a0g_18, a0g_19, a0g_20, a0g_21, a0g_22, a0g_23, a0g_24, a0g_25, a0g_26, a0g_27, a0g_28, a0g_29, a0g_30, a0g_31, a0g_32, a0g_33, a0g_34, a0g_35, a0g_36, a0g_37, a0g_38, a0g_39]))) hP hD rfl (fun hP hD => ?_)
                          refine lv_goto (tgt := 241) hx hb dX8_next_216 (by decide) ?_
                          have hFe : FX = (j5l1.toInt, j152l1.toInt, 3, j152a0_7.toInt, 0, (fl_A fa0_12)) := hF0
                          exact W.vret hx hb hr (fun t ht hW => ⟨⟨(), rfl, trivial, j5l1, j152l1, 3, j152a0_7, 0, fa0_12, ⟨bj152l1_l, bj152l1_u⟩, ⟨zq5, Int.le_trans zq6 (by decide)⟩, (fun h9 => absurd h9 (by decide)), ⟨by omega, Or.inl (by decide)⟩, hFe, by rw [ht]; exact hP, va_K.moved hW.alike hK, hD⟩, hS.F ht⟩) hS.2.2 dX8_next_241
                        · have gc205 := ai_nle c205
                          have l205f_j152l3 : (4 : Int) ≤ j152l3.toInt := ai_ltlo gc205 zq8
                          have hF0 := hF0.trans (if_neg (show ¬ (j152l3.toInt ≤ 3) from Int.not_le.mpr gc205))
                          refine lv_iconst (v := 1) hx hb dX8_next_208 zk_iconst_1 ?_
                          refine lv_goto (tgt := 213) hx hb dX8_next_209 (by decide) ?_
                          refine va_put (D := (dC, dI)) (ci := 8) (v := .int 1) (ty := .int) (C := RX8) (T := TX8) (N := 40) hx hb hts zi_X8_next_8 tyX8 tyX8_ok nmX8 hown hK hP hD hS 0 rfl rfl 6 (by decide) (hts (.fieldLink RX8 87 "WaxTurnsModel" "token" "I") (List.mem_cons_of_mem _ (List.mem_append_left _ (List.mem_of_getElem? (i := 4) rfl)))) (fun _ h9 => h9) rfl (tyX8_ok 6 (by decide)) rfl rfl (Nat.le_of_ble_eq_true rfl) dX8_next_213 (fun H locs hP hD hS => ?_)
                          refine zs_0 (y := (a0, .inr (8, [a0g_0, Value.ref a0_1, a0g_2, Value.int a0_3, Value.int j5l1, Value.int j152l1, Value.int 1, Value.int j152a0_7, Value.int 0, a0g_9, a0g_10, a0g_11, Value.ref a0_12, a0g_13, a0g_14, a0g_15, a0g_16, a0g_17, a0g_18, a0g_19, a0g_20, a0g_21, a0g_22, a0g_23, a0g_24, a0g_25, a0g_26, a0g_27, a0g_28, a0g_29, a0g_30, a0g_31, a0g_32, a0g_33, a0g_34, a0g_35, a0g_36, a0g_37, a0g_38, a0g_39]))) hP hD rfl (fun hP hD => ?_)
                          refine lv_goto (tgt := 241) hx hb dX8_next_216 (by decide) ?_
                          have hFe : FX = (j5l1.toInt, j152l1.toInt, 1, j152a0_7.toInt, 0, (fl_A fa0_12)) := hF0
                          exact W.vret hx hb hr (fun t ht hW => ⟨⟨(), rfl, trivial, j5l1, j152l1, 1, j152a0_7, 0, fa0_12, ⟨bj152l1_l, bj152l1_u⟩, ⟨zq5, Int.le_trans zq6 (by decide)⟩, (fun h9 => absurd h9 (by decide)), ⟨by omega, Or.inl (by decide)⟩, hFe, by rw [ht]; exact hP, va_K.moved hW.alike hK, hD⟩, hS.F ht⟩) hS.2.2 dX8_next_241
                    · have h154 := hw
                      have u154k1_j152l1 : j152l1.toInt ≤ (899 : Int) := by have h1 := h154; have h2 := ba0_3_u; omega
                      have hF1 := hF1.trans (if_neg (show ¬ (a0_3.toInt ≤ j152l1.toInt) from Int.not_le.mpr h154))
                      refine va_calli (va_runS (As := [.int r154]) (rest := []) ⟨hx, hb, hml, hown, hts⟩ (f_X8_isDigit l dC dI H.size r154 ) (va_cwS 1 hts gX8_next_X8_isDigit rfl rfl rfl zd_X8_isDigit.2 ⟨Nat.le_of_ble_eq_true rfl, Nat.le_of_ble_eq_true rfl⟩) ⟨ax_blind (fun _ _ _ _ _ => trivial), ax_pre (zp_P0 hP) (zp_K hK) (zp_D0 hD) (fun _ _ => trivial)⟩ rfl rfl hl.1 rfl (lv_room (Nat.le_of_ble_eq_true rfl)) dX8_next_157 ⟨Nat.le_of_ble_eq_true rfl, Nat.le_of_ble_eq_true rfl⟩) hS (fun q _ h => zp_F0 hD hS hA q h) (zp_F0 hD hS hA) (fun r157 u t H locs ht hvm hw hB hz1 hk1 hS1 => zo0 hB ht hP hD hk1 (zp_F0 hD hS hA) hS1 (fun hP hK1 hD hS => ?_))
                      obtain ⟨hw, hfr157⟩ := hw
                      have hc157 : Ff_X8_isDigit r154.toInt = r157.toInt := hfr157.symm
                      have hF1 := hF1.trans (fl_lt_eq hc157.symm)
                      rcases hw with hw | hw
                      · obtain ⟨hw, h157_0, h157_1⟩ := hw
                        subst hw
                        have l157k0_r154 : (48 : Int) ≤ r154.toInt := h157_0
                        have u157k0_r154 : r154.toInt ≤ (57 : Int) := h157_1
                        have hF1 := hF1.trans (if_pos (by decide))
                        refine lv_if_eq (tgt := 197) hx hb dX8_next_160 (by decide) (fun c160 => absurd c160 (by decide +kernel)) (fun _ => ?_)
                        refine lv_iload_n hx hb dX8_next_163 rfl (lv_at hl 2 rfl) ?_
                        refine lv_iconst (v := 3) hx hb dX8_next_164 zk_iconst_3 ?_
                        have J188 : ∀ (j188a0_7 : Int32) (H : Heap) (locs : List Loc) (ls : Array Slot), (SX152 = Gf_X8_next_188_1 j152l3.toInt j152l1.toInt j188a0_7.toInt) → va_P (dC, dI) vwCl [(a0, .inr (8, [a0g_0, Value.ref a0_1, a0g_2, Value.int a0_3, Value.int j5l1, Value.int a0_5, Value.int a0_6, Value.int j188a0_7, Value.int 0, a0g_9, a0g_10, a0g_11, Value.ref a0_12, a0g_13, a0g_14, a0g_15, a0g_16, a0g_17, a0g_18, a0g_19, a0g_20, a0g_21, a0g_22, a0g_23, a0g_24, a0g_25, a0g_26, a0g_27, a0g_28, a0g_29, a0g_30, a0g_31, a0g_32, a0g_33, a0g_34, a0g_35, a0g_36, a0g_37, a0g_38, a0g_39])), (a0_1, .inl (ka0_1, 900, .inl (fa0_1))), (a0_12, .inl (ka0_12, 8, .inl (fa0_12)))] H → va_D A [(a0, .inr (8, [a0g_0, Value.ref a0_1, a0g_2, Value.int a0_3, Value.int j5l1, Value.int a0_5, Value.int a0_6, Value.int j188a0_7, Value.int 0, a0g_9, a0g_10, a0g_11, Value.ref a0_12, a0g_13, a0g_14, a0g_15, a0g_16, a0g_17, a0g_18, a0g_19, a0g_20, a0g_21, a0g_22, a0g_23, a0g_24, a0g_25, a0g_26, a0g_27, a0g_28, a0g_29, a0g_30, a0g_31, a0g_32, a0g_33, a0g_34, a0g_35, a0g_36, a0g_37, a0g_38, a0g_39])), (a0_1, .inl (ka0_1, 900, .inl (fa0_1))), (a0_12, .inl (ka0_12, 8, .inl (fa0_12)))] → va_S A s.heap H locs → lv_has ls 4 [(0, .ref a0), (1, .int j152l1), (3, .int j152l3)] → K H locs (F0 m 188 ls []) := by
                          intro j188a0_7 H locs ls  hF1 hP hD hS hl
                          refine (hK0 _ _ _).mpr ?_
                          have hF1 := hF1.trans (Gf_X8_next_188_1.eq_1 j152l3.toInt j152l1.toInt j188a0_7.toInt)
                          obtain ⟨x188, ex188⟩ : ∃ y : Int32, y = j152l3 + Int32.ofInt 1 := ⟨_, rfl⟩
                          refine lv_iinc (v := x188) (lv' := [(3, .int x188), (0, .ref a0), (1, .int j152l1)]) hx hb dX8_next_188 hl (k := 2) rfl ex188.symm (by decide) rfl (fun ls hl => ?_)
                          have fqx188 := fl_iadd_eq ex188
                          have hF1 := hF1.trans (fl_lt_eq (show x188.toInt = fl_iadd j152l3.toInt 1 from fqx188))
                          obtain ⟨x191, ex191⟩ : ∃ y : Int32, y = j152l1 + Int32.ofInt 1 := ⟨_, rfl⟩
                          have qx191 : x191.toInt = j152l1.toInt + 1 := ai_inc ex191 (by decide) (by decide) u154k1_j152l1 (by decide)
                          have bx191 : (1 : Int) ≤ x191.toInt ∧ x191.toInt ≤ 900 := ⟨by rw [qx191]; exact Int.add_le_add bj152l1_l (Int.le_refl _), by rw [qx191]; exact Int.add_le_add u154k1_j152l1 (Int.le_refl _)⟩
                          refine lv_iinc (v := x191) (lv' := [(1, .int x191), (3, .int x188), (0, .ref a0)]) hx hb dX8_next_191 hl (k := 2) rfl ex191.symm (by decide) rfl (fun ls hl => ?_)
                          have hF1 := hF1.trans (fl_lt_eq (show x191.toInt = j152l1.toInt + 1 from qx191))
                          refine lv_goto (tgt := 152) hx hb dX8_next_194 (by decide) ?_
                          exact (hK0 _ _ _).mp (ih152 x188 x191 j188a0_7 _ _ _ (by first | exact zg_s hm152 qx191 | (have h0 := qx191; omega)) (Int.le_trans zq4 bx191.1) bx191.2 (by omega) (hF0.trans (fl_wh_l (hSX152.trans hF1))) hP hD hS (lv_sub hl [2, 0, 1] rfl))
                        refine lv_icmp_ge (tgt := 188) hx hb dX8_next_165 (by decide) (fun c165 => ?_) (fun c165 => ?_)
                        · have gc165 := ai_le c165
                          have l165t_j152l3 : (3 : Int) ≤ j152l3.toInt := Int.le_trans zq8 gc165
                          have hF1 := hF1.trans (if_pos (show 3 ≤ j152l3.toInt from gc165))
                          exact (hK0 _ _ _).mp (J188 j152a0_7 _ _ _   hF1 hP hD hS (lv_sub hl [0, 1, 2] rfl))
                        · have gc165 := ai_nle c165
                          have u165f_j152l3 : j152l3.toInt ≤ (2 : Int) := ai_lthi gc165 zq9
                          have hF1 := hF1.trans (if_neg (show ¬ (3 ≤ j152l3.toInt) from Int.not_le.mpr gc165))
                          refine lv_aload_n hx hb dX8_next_168 rfl (lv_at hl 0 rfl) ?_
                          refine lv_bipush (v := 10) hx hb dX8_next_169 zk_bipush_10 ?_
                          refine lv_aload_n hx hb dX8_next_171 rfl (lv_at hl 0 rfl) ?_
                          refine va_get (D := (dC, dI)) (ci := 8) (v := .int j152a0_7) (C := RX8) (T := TX8) (N := 40) hx hb hts zi_X8_next_8 hown hK hP 0 rfl rfl 7 (by decide) (hts (.fieldLink RX8 84 "WaxTurnsModel" "whole" "I") (List.mem_cons_of_mem _ (List.mem_append_left _ (List.mem_of_getElem? (i := 3) rfl)))) (fun _ h9 => h9) rfl dX8_next_172 ?_
                          refine lv_imul hx hb dX8_next_175 ?_
                          refine lv_topi (fun x175 ex175 => ?_)
                          have fqx175 := fl_imul_eq ex175
                          have hF1 := hF1.trans (fl_lt_eq (show x175.toInt = fl_imul 10 j152a0_7.toInt from fqx175))
                          refine lv_aload_n hx hb dX8_next_176 rfl (lv_at hl 0 rfl) ?_
                          refine lv_iload_n hx hb dX8_next_177 rfl (lv_at hl 1 rfl) ?_
                          have hKc := hK.sub (tys' := [(ka0_1, .int)]) [0] rfl
                          refine va_calli (va_runV (As := [.int j152l1]) (rest := [.int x175, .ref a0]) ⟨hx, hb, hml, hown, hts⟩ (f_X8_see l dC dI H.size a0 j152l1 a0g_0 a0g_2 (Value.int j5l1) (Value.int a0_5) (Value.int a0_6) (Value.int j152a0_7) (Value.int 0) a0g_9 a0g_10 a0g_11 (Value.ref a0_12) a0g_13 a0g_14 a0g_15 a0g_16 a0g_17 a0g_18 a0g_19 a0g_20 a0g_21 a0g_22 a0g_23 a0g_24 a0g_25 a0g_26 a0g_27 a0g_28 a0g_29 a0g_30 a0g_31 a0g_32 a0g_33 a0g_34 a0g_35 a0g_36 a0g_37 a0g_38 a0g_39 a0_1 a0_3 ka0_1 fa0_1 bj152l1_l (Int.le_trans u154k1_j152l1 zq147) ba0_3_l ba0_3_u) (cwV 1 hts gX8_next_X8_see rfl rfl rfl zd_X8_see ⟨Nat.le_of_ble_eq_true rfl, Nat.le_of_ble_eq_true rfl⟩) ⟨ax_blind (fun _ _ _ _ _ => trivial), zr_8 hKc (zp_P2 hP) (q0 := 0) rfl, ax_pre (zp_P2 hP) hKc (zp_D2 hD) (fun _ _ => trivial)⟩ rfl rfl hl.1 rfl (lv_room (Nat.le_of_ble_eq_true rfl)) dX8_next_178 ⟨Nat.le_of_ble_eq_true rfl, Nat.le_of_ble_eq_true rfl⟩) hS (fun q _ h => zp_F2 hD hS hA q h) (zp_F2 hD hS hA) (fun r178 u t H locs ht hvm hw hB hz1 hk1 hS1 => zo2 hB ht hP hD hk1 (zp_F2 hD hS hA) hS1 (fun hP hK1 hD hS => ?_))
                          obtain ⟨hw, hfr178⟩ := hw
                          have hc178 : Ff_X8_see j152l1.toInt a0_3.toInt (fl_A fa0_1) = r178.toInt := hfr178.symm
                          have hF1 := hF1.trans (fl_lt_eq hc178.symm)
                          rcases hw with hw | hw
                          · obtain ⟨hw, h178⟩ := hw
                            subst hw
                            have hF1 := hF1.trans (if_pos (show a0_3.toInt ≤ j152l1.toInt from h178))
                            refine lv_iadd hx hb dX8_next_181 ?_
                            refine lv_topi (fun x181 ex181 => ?_)
                            have fqx181 := fl_iadd_eq ex181
                            have hF1 := hF1.trans (fl_lt_eq (show x181.toInt = fl_iadd x175.toInt (-1) from fqx181))
                            refine lv_bipush (v := 48) hx hb dX8_next_182 zk_bipush_48 ?_
                            refine lv_isub hx hb dX8_next_184 ?_
                            refine lv_topi (fun x184 ex184 => ?_)
                            have fqx184 := fl_isub_eq ex184
                            have hF1 := hF1.trans (fl_lt_eq (show x184.toInt = fl_isub x181.toInt 48 from fqx184))
                            refine va_put (D := (dC, dI)) (ci := 8) (v := .int x184) (ty := .int) (C := RX8) (T := TX8) (N := 40) hx hb hts zi_X8_next_8 tyX8 tyX8_ok nmX8 hown hK hP hD hS 0 rfl rfl 7 (by decide) (hts (.fieldLink RX8 84 "WaxTurnsModel" "whole" "I") (List.mem_cons_of_mem _ (List.mem_append_left _ (List.mem_of_getElem? (i := 3) rfl)))) (fun _ h9 => h9) rfl (tyX8_ok 7 (by decide)) rfl rfl (Nat.le_of_ble_eq_true rfl) dX8_next_185 (fun H locs hP hD hS => ?_)
                            refine zs_0 (y := (a0, .inr (8, [a0g_0, Value.ref a0_1, a0g_2, Value.int a0_3, Value.int j5l1, Value.int a0_5, Value.int a0_6, Value.int x184, Value.int 0, a0g_9, a0g_10, a0g_11, Value.ref a0_12, a0g_13, a0g_14, a0g_15, a0g_16, a0g_17, a0g_18, a0g_19, a0g_20, a0g_21, a0g_22, a0g_23, a0g_24, a0g_25, a0g_26, a0g_27, a0g_28, a0g_29, a0g_30, a0g_31, a0g_32, a0g_33, a0g_34, a0g_35, a0g_36, a0g_37, a0g_38, a0g_39]))) hP hD rfl (fun hP hD => ?_)
                            exact (hK0 _ _ _).mp (J188 x184 _ _ _   hF1 hP hD hS (lv_sub hl [0, 1, 2] rfl))
                          · have h178 := hw
                            have u178k1_j152l1 : j152l1.toInt ≤ (899 : Int) := u154k1_j152l1
                            have hF1 := hF1.trans (if_neg (show ¬ (a0_3.toInt ≤ j152l1.toInt) from Int.not_le.mpr h178))
                            refine lv_iadd hx hb dX8_next_181 ?_
                            refine lv_topi (fun x181 ex181 => ?_)
                            have fqx181 := fl_iadd_eq ex181
                            have hF1 := hF1.trans (fl_lt_eq (show x181.toInt = fl_iadd x175.toInt r178.toInt from fqx181))
                            refine lv_bipush (v := 48) hx hb dX8_next_182 zk_bipush_48 ?_
                            refine lv_isub hx hb dX8_next_184 ?_
                            refine lv_topi (fun x184 ex184 => ?_)
                            have fqx184 := fl_isub_eq ex184
                            have hF1 := hF1.trans (fl_lt_eq (show x184.toInt = fl_isub x181.toInt 48 from fqx184))
                            refine va_put (D := (dC, dI)) (ci := 8) (v := .int x184) (ty := .int) (C := RX8) (T := TX8) (N := 40) hx hb hts zi_X8_next_8 tyX8 tyX8_ok nmX8 hown hK hP hD hS 0 rfl rfl 7 (by decide) (hts (.fieldLink RX8 84 "WaxTurnsModel" "whole" "I") (List.mem_cons_of_mem _ (List.mem_append_left _ (List.mem_of_getElem? (i := 3) rfl)))) (fun _ h9 => h9) rfl (tyX8_ok 7 (by decide)) rfl rfl (Nat.le_of_ble_eq_true rfl) dX8_next_185 (fun H locs hP hD hS => ?_)
                            refine zs_0 (y := (a0, .inr (8, [a0g_0, Value.ref a0_1, a0g_2, Value.int a0_3, Value.int j5l1, Value.int a0_5, Value.int a0_6, Value.int x184, Value.int 0, a0g_9, a0g_10, a0g_11, Value.ref a0_12, a0g_13, a0g_14, a0g_15, a0g_16, a0g_17, a0g_18, a0g_19, a0g_20, a0g_21, a0g_22, a0g_23, a0g_24, a0g_25, a0g_26, a0g_27, a0g_28, a0g_29, a0g_30, a0g_31, a0g_32, a0g_33, a0g_34, a0g_35, a0g_36, a0g_37, a0g_38, a0g_39]))) hP hD rfl (fun hP hD => ?_)
                            exact (hK0 _ _ _).mp (J188 x184 _ _ _   hF1 hP hD hS (lv_sub hl [0, 1, 2] rfl))
                      · subst hw
                        have hF1 := hF1.trans (if_neg (by decide))
                        refine lv_if_eq (tgt := 197) hx hb dX8_next_160 (by decide) (fun _ => ?_) (fun c160 => absurd (by decide +kernel) c160)
                        have hF0 := hF0.trans (fl_wh_r (hSX152.trans hF1))
                        refine lv_aload_n hx hb dX8_next_197 rfl (lv_at hl 0 rfl) ?_
                        refine lv_iload_n hx hb dX8_next_198 rfl (lv_at hl 1 rfl) ?_
                        refine va_put (D := (dC, dI)) (ci := 8) (v := .int j152l1) (ty := .int) (C := RX8) (T := TX8) (N := 40) hx hb hts zi_X8_next_8 tyX8 tyX8_ok nmX8 hown hK hP hD hS 0 rfl rfl 5 (by decide) (hts (.fieldLink RX8 71 "WaxTurnsModel" "end" "I") (List.mem_cons_of_mem _ (List.mem_append_left _ (List.mem_of_getElem? (i := 0) rfl)))) (fun _ h9 => h9) rfl (tyX8_ok 5 (by decide)) rfl rfl (Nat.le_of_ble_eq_true rfl) dX8_next_199 (fun H locs hP hD hS => ?_)
                        refine zs_0 (y := (a0, .inr (8, [a0g_0, Value.ref a0_1, a0g_2, Value.int a0_3, Value.int j5l1, Value.int j152l1, Value.int a0_6, Value.int j152a0_7, Value.int 0, a0g_9, a0g_10, a0g_11, Value.ref a0_12, a0g_13, a0g_14, a0g_15, a0g_16, a0g_17, a0g_18, a0g_19, a0g_20, a0g_21, a0g_22, a0g_23, a0g_24, a0g_25, a0g_26, a0g_27, a0g_28, a0g_29, a0g_30, a0g_31, a0g_32, a0g_33, a0g_34, a0g_35, a0g_36, a0g_37, a0g_38, a0g_39]))) hP hD rfl (fun hP hD => ?_)
                        refine lv_aload_n hx hb dX8_next_202 rfl (lv_at hl 0 rfl) ?_
                        refine lv_iload_n hx hb dX8_next_203 rfl (lv_at hl 2 rfl) ?_
                        refine lv_iconst (v := 3) hx hb dX8_next_204 zk_iconst_3 ?_
                        refine lv_icmp_le (tgt := 212) hx hb dX8_next_205 (by decide) (fun c205 => ?_) (fun c205 => ?_)
                        · have gc205 := ai_le c205
                          have u205t_j152l3 : j152l3.toInt ≤ (3 : Int) := Int.le_trans gc205 zq9
                          have hF0 := hF0.trans (if_pos (show j152l3.toInt ≤ 3 from gc205))
                          refine lv_iconst (v := 3) hx hb dX8_next_212 zk_iconst_3 ?_
                          refine va_put (D := (dC, dI)) (ci := 8) (v := .int 3) (ty := .int) (C := RX8) (T := TX8) (N := 40) hx hb hts zi_X8_next_8 tyX8 tyX8_ok nmX8 hown hK hP hD hS 0 rfl rfl 6 (by decide) (hts (.fieldLink RX8 87 "WaxTurnsModel" "token" "I") (List.mem_cons_of_mem _ (List.mem_append_left _ (List.mem_of_getElem? (i := 4) rfl)))) (fun _ h9 => h9) rfl (tyX8_ok 6 (by decide)) rfl rfl (Nat.le_of_ble_eq_true rfl) dX8_next_213 (fun H locs hP hD hS => ?_)
                          refine zs_0 (y := (a0, .inr (8, [a0g_0, Value.ref a0_1, a0g_2, Value.int a0_3, Value.int j5l1, Value.int j152l1, Value.int 3, Value.int j152a0_7, Value.int 0, a0g_9, a0g_10, a0g_11, Value.ref a0_12, a0g_13, a0g_14, a0g_15, a0g_16, a0g_17, a0g_18, a0g_19, a0g_20, a0g_21, a0g_22, a0g_23, a0g_24, a0g_25, a0g_26, a0g_27, a0g_28, a0g_29, a0g_30, a0g_31, a0g_32, a0g_33, a0g_34, a0g_35, a0g_36, a0g_37, a0g_38, a0g_39]))) hP hD rfl (fun hP hD => ?_)
                          refine lv_goto (tgt := 241) hx hb dX8_next_216 (by decide) ?_
                          have hFe : FX = (j5l1.toInt, j152l1.toInt, 3, j152a0_7.toInt, 0, (fl_A fa0_12)) := hF0
                          exact W.vret hx hb hr (fun t ht hW => ⟨⟨(), rfl, trivial, j5l1, j152l1, 3, j152a0_7, 0, fa0_12, ⟨bj152l1_l, Int.le_trans u154k1_j152l1 (by decide)⟩, ⟨zq5, Int.le_trans zq6 (by decide)⟩, (fun h9 => absurd h9 (by decide)), ⟨by omega, Or.inl (by decide)⟩, hFe, by rw [ht]; exact hP, va_K.moved hW.alike hK, hD⟩, hS.F ht⟩) hS.2.2 dX8_next_241
                        · have gc205 := ai_nle c205
                          have l205f_j152l3 : (4 : Int) ≤ j152l3.toInt := ai_ltlo gc205 zq8
                          have hF0 := hF0.trans (if_neg (show ¬ (j152l3.toInt ≤ 3) from Int.not_le.mpr gc205))
                          refine lv_iconst (v := 1) hx hb dX8_next_208 zk_iconst_1 ?_
                          refine lv_goto (tgt := 213) hx hb dX8_next_209 (by decide) ?_
                          refine va_put (D := (dC, dI)) (ci := 8) (v := .int 1) (ty := .int) (C := RX8) (T := TX8) (N := 40) hx hb hts zi_X8_next_8 tyX8 tyX8_ok nmX8 hown hK hP hD hS 0 rfl rfl 6 (by decide) (hts (.fieldLink RX8 87 "WaxTurnsModel" "token" "I") (List.mem_cons_of_mem _ (List.mem_append_left _ (List.mem_of_getElem? (i := 4) rfl)))) (fun _ h9 => h9) rfl (tyX8_ok 6 (by decide)) rfl rfl (Nat.le_of_ble_eq_true rfl) dX8_next_213 (fun H locs hP hD hS => ?_)
                          refine zs_0 (y := (a0, .inr (8, [a0g_0, Value.ref a0_1, a0g_2, Value.int a0_3, Value.int j5l1, Value.int j152l1, Value.int 1, Value.int j152a0_7, Value.int 0, a0g_9, a0g_10, a0g_11, Value.ref a0_12, a0g_13, a0g_14, a0g_15, a0g_16, a0g_17, a0g_18, a0g_19, a0g_20, a0g_21, a0g_22, a0g_23, a0g_24, a0g_25, a0g_26, a0g_27, a0g_28, a0g_29, a0g_30, a0g_31, a0g_32, a0g_33, a0g_34, a0g_35, a0g_36, a0g_37, a0g_38, a0g_39]))) hP hD rfl (fun hP hD => ?_)
                          refine lv_goto (tgt := 241) hx hb dX8_next_216 (by decide) ?_
                          have hFe : FX = (j5l1.toInt, j152l1.toInt, 1, j152a0_7.toInt, 0, (fl_A fa0_12)) := hF0
                          exact W.vret hx hb hr (fun t ht hW => ⟨⟨(), rfl, trivial, j5l1, j152l1, 1, j152a0_7, 0, fa0_12, ⟨bj152l1_l, Int.le_trans u154k1_j152l1 (by decide)⟩, ⟨zq5, Int.le_trans zq6 (by decide)⟩, (fun h9 => absurd h9 (by decide)), ⟨by omega, Or.inl (by decide)⟩, hFe, by rw [ht]; exact hP, va_K.moved hW.alike hK, hD⟩, hS.F ht⟩) hS.2.2 dX8_next_241
                exact (hK0 _ _ _).mp (J152 901 0 j5l1 0 _ _ _ (by have h1 : (0 : Int) ≤ j5l1.toInt := bj5l1_l; have h2 : j5l1.toInt ≤ (899 : Int) := u28k1_j5l1; omega) bj5l1_l (Int.le_trans u28k1_j5l1 zq147) (by omega) (by rw [show (0 : Int32).toInt = 0 from by decide]; exact hF0) hP hD hS (lv_sub hl [2, 3, 0] rfl))
              · subst hw
                have hF0 := hF0.trans (if_neg (by decide))
                refine lv_if_eq (tgt := 219) hx hb dX8_next_147 (by decide) (fun _ => ?_) (fun c147 => absurd (by decide +kernel) c147)
                refine lv_aload_n hx hb dX8_next_219 rfl (lv_at hl 1 rfl) ?_
                refine lv_iload_n hx hb dX8_next_220 rfl (lv_at hl 2 rfl) ?_
                refine lv_iconst (v := 1) hx hb dX8_next_221 zk_iconst_1 ?_
                refine lv_iadd hx hb dX8_next_222 ?_
                refine lv_topi (fun x222 ex222 => ?_)
                have qx222 : x222.toInt = j5l1.toInt + (1 : Int32).toInt := ai_add ex222 ⟨bj5l1_l, u28k1_j5l1⟩ ⟨zq1, zq0⟩ (by decide) (by decide)
                have bx222 : (1 : Int) ≤ x222.toInt ∧ x222.toInt ≤ 900 := ⟨by rw [qx222]; exact Int.add_le_add bj5l1_l zq1, by rw [qx222]; exact Int.add_le_add u28k1_j5l1 zq0⟩
                have wx222 : x222.toInt = j5l1.toInt + 1 := qx222
                have hF0 := hF0.trans (fl_lt_eq (show x222.toInt = j5l1.toInt + 1 from qx222))
                refine va_put (D := (dC, dI)) (ci := 8) (v := .int x222) (ty := .int) (C := RX8) (T := TX8) (N := 40) hx hb hts zi_X8_next_8 tyX8 tyX8_ok nmX8 hown hK hP hD hS 0 rfl rfl 5 (by decide) (hts (.fieldLink RX8 71 "WaxTurnsModel" "end" "I") (List.mem_cons_of_mem _ (List.mem_append_left _ (List.mem_of_getElem? (i := 0) rfl)))) (fun _ h9 => h9) rfl (tyX8_ok 5 (by decide)) rfl rfl (Nat.le_of_ble_eq_true rfl) dX8_next_223 (fun H locs hP hD hS => ?_)
                refine zs_0 (y := (a0, .inr (8, [a0g_0, Value.ref a0_1, a0g_2, Value.int a0_3, Value.int j5l1, Value.int x222, Value.int a0_6, Value.int 0, Value.int 0, a0g_9, a0g_10, a0g_11, Value.ref a0_12, a0g_13, a0g_14, a0g_15, a0g_16, a0g_17, a0g_18, a0g_19, a0g_20, a0g_21, a0g_22, a0g_23, a0g_24, a0g_25, a0g_26, a0g_27, a0g_28, a0g_29, a0g_30, a0g_31, a0g_32, a0g_33, a0g_34, a0g_35, a0g_36, a0g_37, a0g_38, a0g_39]))) hP hD rfl (fun hP hD => ?_)
                refine lv_aload_n hx hb dX8_next_226 rfl (lv_at hl 1 rfl) ?_
                refine lv_iload_n hx hb dX8_next_227 rfl (lv_at hl 0 rfl) ?_
                refine lv_bipush (v := 59) hx hb dX8_next_228 zk_bipush_59 ?_
                refine lv_icmp_ne (tgt := 237) hx hb dX8_next_230 (by decide) (fun c230 => ?_) (fun c230 => ?_)
                · have gc230 := ai_ne c230
                  have hF0 := hF0.trans (if_neg (show ¬ (r28.toInt = 59) from  gc230))
                  refine lv_iconst (v := 1) hx hb dX8_next_237 zk_iconst_1 ?_
                  refine va_put (D := (dC, dI)) (ci := 8) (v := .int 1) (ty := .int) (C := RX8) (T := TX8) (N := 40) hx hb hts zi_X8_next_8 tyX8 tyX8_ok nmX8 hown hK hP hD hS 0 rfl rfl 6 (by decide) (hts (.fieldLink RX8 87 "WaxTurnsModel" "token" "I") (List.mem_cons_of_mem _ (List.mem_append_left _ (List.mem_of_getElem? (i := 4) rfl)))) (fun _ h9 => h9) rfl (tyX8_ok 6 (by decide)) rfl rfl (Nat.le_of_ble_eq_true rfl) dX8_next_238 (fun H locs hP hD hS => ?_)
                  refine zs_0 (y := (a0, .inr (8, [a0g_0, Value.ref a0_1, a0g_2, Value.int a0_3, Value.int j5l1, Value.int x222, Value.int 1, Value.int 0, Value.int 0, a0g_9, a0g_10, a0g_11, Value.ref a0_12, a0g_13, a0g_14, a0g_15, a0g_16, a0g_17, a0g_18, a0g_19, a0g_20, a0g_21, a0g_22, a0g_23, a0g_24, a0g_25, a0g_26, a0g_27, a0g_28, a0g_29, a0g_30, a0g_31, a0g_32, a0g_33, a0g_34, a0g_35, a0g_36, a0g_37, a0g_38, a0g_39]))) hP hD rfl (fun hP hD => ?_)
                  have hFe : FX = (j5l1.toInt, x222.toInt, 1, 0, 0, (fl_A fa0_12)) := hF0
                  exact W.vret hx hb hr (fun t ht hW => ⟨⟨(), rfl, trivial, j5l1, x222, 1, 0, 0, fa0_12, ⟨Int.le_trans (by decide) bx222.1, bx222.2⟩, ⟨zq5, Int.le_trans zq6 (by decide)⟩, (fun h9 => absurd h9 (by decide)), ⟨by omega, Or.inl (by decide)⟩, hFe, by rw [ht]; exact hP, va_K.moved hW.alike hK, hD⟩, hS.F ht⟩) hS.2.2 dX8_next_241
                · have gc230 := ai_eq c230
                  have u230f_r28 : r28.toInt ≤ (59 : Int) := Int.le_trans (Int.le_of_eq gc230) zq148
                  have l230f_r28 : (59 : Int) ≤ r28.toInt := Int.le_trans zq149 (Int.le_of_eq gc230.symm)
                  have hF0 := hF0.trans (if_pos (show r28.toInt = 59 from gc230))
                  refine lv_iload_n hx hb dX8_next_233 rfl (lv_at hl 0 rfl) ?_
                  refine lv_goto (tgt := 238) hx hb dX8_next_234 (by decide) ?_
                  refine va_put (D := (dC, dI)) (ci := 8) (v := .int r28) (ty := .int) (C := RX8) (T := TX8) (N := 40) hx hb hts zi_X8_next_8 tyX8 tyX8_ok nmX8 hown hK hP hD hS 0 rfl rfl 6 (by decide) (hts (.fieldLink RX8 87 "WaxTurnsModel" "token" "I") (List.mem_cons_of_mem _ (List.mem_append_left _ (List.mem_of_getElem? (i := 4) rfl)))) (fun _ h9 => h9) rfl (tyX8_ok 6 (by decide)) rfl rfl (Nat.le_of_ble_eq_true rfl) dX8_next_238 (fun H locs hP hD hS => ?_)
                  refine zs_0 (y := (a0, .inr (8, [a0g_0, Value.ref a0_1, a0g_2, Value.int a0_3, Value.int j5l1, Value.int x222, Value.int r28, Value.int 0, Value.int 0, a0g_9, a0g_10, a0g_11, Value.ref a0_12, a0g_13, a0g_14, a0g_15, a0g_16, a0g_17, a0g_18, a0g_19, a0g_20, a0g_21, a0g_22, a0g_23, a0g_24, a0g_25, a0g_26, a0g_27, a0g_28, a0g_29, a0g_30, a0g_31, a0g_32, a0g_33, a0g_34, a0g_35, a0g_36, a0g_37, a0g_38, a0g_39]))) hP hD rfl (fun hP hD => ?_)
                  have hFe : FX = (j5l1.toInt, x222.toInt, r28.toInt, 0, 0, (fl_A fa0_12)) := hF0
                  exact W.vret hx hb hr (fun t ht hW => ⟨⟨(), rfl, trivial, j5l1, x222, r28, 0, 0, fa0_12, ⟨Int.le_trans (by decide) bx222.1, bx222.2⟩, ⟨zq5, Int.le_trans zq6 (by decide)⟩, (fun _ => by decide), ⟨by omega, Or.inr (by omega)⟩, hFe, by rw [ht]; exact hP, va_K.moved hW.alike hK, hD⟩, hS.F ht⟩) hS.2.2 dX8_next_241
          · have gc44 := ai_eq c44
            have u44f_r28 : r28.toInt ≤ (-1 : Int) := Int.le_trans (Int.le_of_eq gc44) zq72
            have l44f_r28 : (-1 : Int) ≤ r28.toInt := Int.le_trans zq71 (Int.le_of_eq gc44.symm)
            have hF0 := hF0.trans (if_pos (show r28.toInt = (-1) from gc44))
            refine lv_aload_n hx hb dX8_next_47 rfl (lv_at hl 1 rfl) ?_
            refine lv_iconst (v := 0) hx hb dX8_next_48 zk_iconst_0 ?_
            refine va_put (D := (dC, dI)) (ci := 8) (v := .int 0) (ty := .int) (C := RX8) (T := TX8) (N := 40) hx hb hts zi_X8_next_8 tyX8 tyX8_ok nmX8 hown hK hP hD hS 0 rfl rfl 6 (by decide) (hts (.fieldLink RX8 87 "WaxTurnsModel" "token" "I") (List.mem_cons_of_mem _ (List.mem_append_left _ (List.mem_of_getElem? (i := 4) rfl)))) (fun _ h9 => h9) rfl (tyX8_ok 6 (by decide)) rfl rfl (Nat.le_of_ble_eq_true rfl) dX8_next_49 (fun H locs hP hD hS => ?_)
            refine zs_0 (y := (a0, .inr (8, [a0g_0, Value.ref a0_1, a0g_2, Value.int a0_3, Value.int j5l1, Value.int a0_5, Value.int 0, Value.int 0, Value.int 0, a0g_9, a0g_10, a0g_11, Value.ref a0_12, a0g_13, a0g_14, a0g_15, a0g_16, a0g_17, a0g_18, a0g_19, a0g_20, a0g_21, a0g_22, a0g_23, a0g_24, a0g_25, a0g_26, a0g_27, a0g_28, a0g_29, a0g_30, a0g_31, a0g_32, a0g_33, a0g_34, a0g_35, a0g_36, a0g_37, a0g_38, a0g_39]))) hP hD rfl (fun hP hD => ?_)
            refine lv_aload_n hx hb dX8_next_52 rfl (lv_at hl 1 rfl) ?_
            refine lv_iload_n hx hb dX8_next_53 rfl (lv_at hl 2 rfl) ?_
            refine va_put (D := (dC, dI)) (ci := 8) (v := .int j5l1) (ty := .int) (C := RX8) (T := TX8) (N := 40) hx hb hts zi_X8_next_8 tyX8 tyX8_ok nmX8 hown hK hP hD hS 0 rfl rfl 5 (by decide) (hts (.fieldLink RX8 71 "WaxTurnsModel" "end" "I") (List.mem_cons_of_mem _ (List.mem_append_left _ (List.mem_of_getElem? (i := 0) rfl)))) (fun _ h9 => h9) rfl (tyX8_ok 5 (by decide)) rfl rfl (Nat.le_of_ble_eq_true rfl) dX8_next_54 (fun H locs hP hD hS => ?_)
            refine zs_0 (y := (a0, .inr (8, [a0g_0, Value.ref a0_1, a0g_2, Value.int a0_3, Value.int j5l1, Value.int j5l1, Value.int 0, Value.int 0, Value.int 0, a0g_9, a0g_10, a0g_11, Value.ref a0_12, a0g_13, a0g_14, a0g_15, a0g_16, a0g_17, a0g_18, a0g_19, a0g_20, a0g_21, a0g_22, a0g_23, a0g_24, a0g_25, a0g_26, a0g_27, a0g_28, a0g_29, a0g_30, a0g_31, a0g_32, a0g_33, a0g_34, a0g_35, a0g_36, a0g_37, a0g_38, a0g_39]))) hP hD rfl (fun hP hD => ?_)
            refine lv_goto (tgt := 241) hx hb dX8_next_57 (by decide) ?_
            have hFe : FX = (j5l1.toInt, j5l1.toInt, 0, 0, 0, (fl_A fa0_12)) := hF0
            exact W.vret hx hb hr (fun t ht hW => ⟨⟨(), rfl, trivial, j5l1, j5l1, 0, 0, 0, fa0_12, ⟨bj5l1_l, Int.le_trans u28k1_j5l1 (by decide)⟩, ⟨zq5, Int.le_trans zq6 (by decide)⟩, (fun h9 => absurd h9 (by decide)), ⟨by omega, Or.inl (by decide)⟩, hFe, by rw [ht]; exact hP, va_K.moved hW.alike hK, hD⟩, hS.F ht⟩) hS.2.2 dX8_next_241
      · have h7 := hw
        have u7k1_j5l1 : j5l1.toInt ≤ (899 : Int) := by have h1 := h7; have h2 := ba0_3_u; omega
        have hF1 := hF1.trans (if_neg (show ¬ (a0_3.toInt ≤ j5l1.toInt) from Int.not_le.mpr h7))
        refine lv_bipush (v := 32) hx hb dX8_next_10 zk_bipush_32 ?_
        refine lv_icmp_ne (tgt := 21) hx hb dX8_next_12 (by decide) (fun c12 => ?_) (fun c12 => ?_)
        · have gc12 := ai_ne c12
          have hF1 := hF1.trans (if_neg (show ¬ (r7.toInt = 32) from  gc12))
          have hF0 := hF0.trans (fl_wh_r (hSX5.trans hF1))
          refine lv_aload_n hx hb dX8_next_21 rfl (lv_at hl 0 rfl) ?_
          refine lv_iload_n hx hb dX8_next_22 rfl (lv_at hl 1 rfl) ?_
          refine va_put (D := (dC, dI)) (ci := 8) (v := .int j5l1) (ty := .int) (C := RX8) (T := TX8) (N := 40) hx hb hts zi_X8_next_8 tyX8 tyX8_ok nmX8 hown hK hP hD hS 0 rfl rfl 4 (by decide) (hts (.fieldLink RX8 78 "WaxTurnsModel" "at" "I") (List.mem_cons_of_mem _ (List.mem_append_left _ (List.mem_of_getElem? (i := 1) rfl)))) (fun _ h9 => h9) rfl (tyX8_ok 4 (by decide)) rfl rfl (Nat.le_of_ble_eq_true rfl) dX8_next_23 (fun H locs hP hD hS => ?_)
          refine zs_0 (y := (a0, .inr (8, [a0g_0, Value.ref a0_1, a0g_2, Value.int a0_3, Value.int j5l1, Value.int a0_5, Value.int a0_6, Value.int a0_7, Value.int a0_8, a0g_9, a0g_10, a0g_11, Value.ref a0_12, a0g_13, a0g_14, a0g_15, a0g_16, a0g_17, a0g_18, a0g_19, a0g_20, a0g_21, a0g_22, a0g_23, a0g_24, a0g_25, a0g_26, a0g_27, a0g_28, a0g_29, a0g_30, a0g_31, a0g_32, a0g_33, a0g_34, a0g_35, a0g_36, a0g_37, a0g_38, a0g_39]))) hP hD rfl (fun hP hD => ?_)
          refine lv_aload_n hx hb dX8_next_26 rfl (lv_at hl 0 rfl) ?_
          refine lv_iload_n hx hb dX8_next_27 rfl (lv_at hl 1 rfl) ?_
          have hKc := hK.sub (tys' := [(ka0_1, .int)]) [0] rfl
          refine va_calli (va_runV (As := [.int j5l1]) (rest := []) ⟨hx, hb, hml, hown, hts⟩ (f_X8_see l dC dI H.size a0 j5l1 a0g_0 a0g_2 (Value.int j5l1) (Value.int a0_5) (Value.int a0_6) (Value.int a0_7) (Value.int a0_8) a0g_9 a0g_10 a0g_11 (Value.ref a0_12) a0g_13 a0g_14 a0g_15 a0g_16 a0g_17 a0g_18 a0g_19 a0g_20 a0g_21 a0g_22 a0g_23 a0g_24 a0g_25 a0g_26 a0g_27 a0g_28 a0g_29 a0g_30 a0g_31 a0g_32 a0g_33 a0g_34 a0g_35 a0g_36 a0g_37 a0g_38 a0g_39 a0_1 a0_3 ka0_1 fa0_1 bj5l1_l (Int.le_trans u7k1_j5l1 zq147) ba0_3_l ba0_3_u) (cwV 1 hts gX8_next_X8_see rfl rfl rfl zd_X8_see ⟨Nat.le_of_ble_eq_true rfl, Nat.le_of_ble_eq_true rfl⟩) ⟨ax_blind (fun _ _ _ _ _ => trivial), zr_8 hKc (zp_P2 hP) (q0 := 0) rfl, ax_pre (zp_P2 hP) hKc (zp_D2 hD) (fun _ _ => trivial)⟩ rfl rfl hl.1 rfl (lv_room (Nat.le_of_ble_eq_true rfl)) dX8_next_28 ⟨Nat.le_of_ble_eq_true rfl, Nat.le_of_ble_eq_true rfl⟩) hS (fun q _ h => zp_F2 hD hS hA q h) (zp_F2 hD hS hA) (fun r28 u t H locs ht hvm hw hB hz1 hk1 hS1 => zo2 hB ht hP hD hk1 (zp_F2 hD hS hA) hS1 (fun hP hK1 hD hS => ?_))
          obtain ⟨hw, hfr28⟩ := hw
          have hc28 : Ff_X8_see j5l1.toInt a0_3.toInt (fl_A fa0_1) = r28.toInt := hfr28.symm
          have hF0 := hF0.trans (fl_lt_eq hc28.symm)
          rcases hw with hw | hw
          · obtain ⟨hw, h28⟩ := hw
            subst hw
            have hF0 := hF0.trans (if_pos (show a0_3.toInt ≤ j5l1.toInt from h28))
            refine lv_istore_n (lv' := [(2, .int (-1)), (0, .ref a0), (1, .int j5l1)]) hx hb dX8_next_31 rfl hl (by decide) rfl (fun ls hl => ?_)
            refine lv_aload_n hx hb dX8_next_32 rfl (lv_at hl 1 rfl) ?_
            refine lv_iconst (v := 0) hx hb dX8_next_33 zk_iconst_0 ?_
            refine va_put (D := (dC, dI)) (ci := 8) (v := .int 0) (ty := .int) (C := RX8) (T := TX8) (N := 40) hx hb hts zi_X8_next_8 tyX8 tyX8_ok nmX8 hown hK hP hD hS 0 rfl rfl 8 (by decide) (hts (.fieldLink RX8 81 "WaxTurnsModel" "nameSize" "I") (List.mem_cons_of_mem _ (List.mem_append_left _ (List.mem_of_getElem? (i := 2) rfl)))) (fun _ h9 => h9) rfl (tyX8_ok 8 (by decide)) rfl rfl (Nat.le_of_ble_eq_true rfl) dX8_next_34 (fun H locs hP hD hS => ?_)
            refine zs_0 (y := (a0, .inr (8, [a0g_0, Value.ref a0_1, a0g_2, Value.int a0_3, Value.int j5l1, Value.int a0_5, Value.int a0_6, Value.int a0_7, Value.int 0, a0g_9, a0g_10, a0g_11, Value.ref a0_12, a0g_13, a0g_14, a0g_15, a0g_16, a0g_17, a0g_18, a0g_19, a0g_20, a0g_21, a0g_22, a0g_23, a0g_24, a0g_25, a0g_26, a0g_27, a0g_28, a0g_29, a0g_30, a0g_31, a0g_32, a0g_33, a0g_34, a0g_35, a0g_36, a0g_37, a0g_38, a0g_39]))) hP hD rfl (fun hP hD => ?_)
            refine lv_aload_n hx hb dX8_next_37 rfl (lv_at hl 1 rfl) ?_
            refine lv_iconst (v := 0) hx hb dX8_next_38 zk_iconst_0 ?_
            refine va_put (D := (dC, dI)) (ci := 8) (v := .int 0) (ty := .int) (C := RX8) (T := TX8) (N := 40) hx hb hts zi_X8_next_8 tyX8 tyX8_ok nmX8 hown hK hP hD hS 0 rfl rfl 7 (by decide) (hts (.fieldLink RX8 84 "WaxTurnsModel" "whole" "I") (List.mem_cons_of_mem _ (List.mem_append_left _ (List.mem_of_getElem? (i := 3) rfl)))) (fun _ h9 => h9) rfl (tyX8_ok 7 (by decide)) rfl rfl (Nat.le_of_ble_eq_true rfl) dX8_next_39 (fun H locs hP hD hS => ?_)
            refine zs_0 (y := (a0, .inr (8, [a0g_0, Value.ref a0_1, a0g_2, Value.int a0_3, Value.int j5l1, Value.int a0_5, Value.int a0_6, Value.int 0, Value.int 0, a0g_9, a0g_10, a0g_11, Value.ref a0_12, a0g_13, a0g_14, a0g_15, a0g_16, a0g_17, a0g_18, a0g_19, a0g_20, a0g_21, a0g_22, a0g_23, a0g_24, a0g_25, a0g_26, a0g_27, a0g_28, a0g_29, a0g_30, a0g_31, a0g_32, a0g_33, a0g_34, a0g_35, a0g_36, a0g_37, a0g_38, a0g_39]))) hP hD rfl (fun hP hD => ?_)
            refine lv_iload_n hx hb dX8_next_42 rfl (lv_at hl 0 rfl) ?_
            refine lv_iconst (v := (-1)) hx hb dX8_next_43 zk_iconst_n1 ?_
            refine lv_icmp_ne (tgt := 60) hx hb dX8_next_44 (by decide) (fun c44 => absurd (by decide +kernel) c44) (fun _ => ?_)
            refine lv_aload_n hx hb dX8_next_47 rfl (lv_at hl 1 rfl) ?_
            refine lv_iconst (v := 0) hx hb dX8_next_48 zk_iconst_0 ?_
            refine va_put (D := (dC, dI)) (ci := 8) (v := .int 0) (ty := .int) (C := RX8) (T := TX8) (N := 40) hx hb hts zi_X8_next_8 tyX8 tyX8_ok nmX8 hown hK hP hD hS 0 rfl rfl 6 (by decide) (hts (.fieldLink RX8 87 "WaxTurnsModel" "token" "I") (List.mem_cons_of_mem _ (List.mem_append_left _ (List.mem_of_getElem? (i := 4) rfl)))) (fun _ h9 => h9) rfl (tyX8_ok 6 (by decide)) rfl rfl (Nat.le_of_ble_eq_true rfl) dX8_next_49 (fun H locs hP hD hS => ?_)
            refine zs_0 (y := (a0, .inr (8, [a0g_0, Value.ref a0_1, a0g_2, Value.int a0_3, Value.int j5l1, Value.int a0_5, Value.int 0, Value.int 0, Value.int 0, a0g_9, a0g_10, a0g_11, Value.ref a0_12, a0g_13, a0g_14, a0g_15, a0g_16, a0g_17, a0g_18, a0g_19, a0g_20, a0g_21, a0g_22, a0g_23, a0g_24, a0g_25, a0g_26, a0g_27, a0g_28, a0g_29, a0g_30, a0g_31, a0g_32, a0g_33, a0g_34, a0g_35, a0g_36, a0g_37, a0g_38, a0g_39]))) hP hD rfl (fun hP hD => ?_)
            refine lv_aload_n hx hb dX8_next_52 rfl (lv_at hl 1 rfl) ?_
            refine lv_iload_n hx hb dX8_next_53 rfl (lv_at hl 2 rfl) ?_
            refine va_put (D := (dC, dI)) (ci := 8) (v := .int j5l1) (ty := .int) (C := RX8) (T := TX8) (N := 40) hx hb hts zi_X8_next_8 tyX8 tyX8_ok nmX8 hown hK hP hD hS 0 rfl rfl 5 (by decide) (hts (.fieldLink RX8 71 "WaxTurnsModel" "end" "I") (List.mem_cons_of_mem _ (List.mem_append_left _ (List.mem_of_getElem? (i := 0) rfl)))) (fun _ h9 => h9) rfl (tyX8_ok 5 (by decide)) rfl rfl (Nat.le_of_ble_eq_true rfl) dX8_next_54 (fun H locs hP hD hS => ?_)
            refine zs_0 (y := (a0, .inr (8, [a0g_0, Value.ref a0_1, a0g_2, Value.int a0_3, Value.int j5l1, Value.int j5l1, Value.int 0, Value.int 0, Value.int 0, a0g_9, a0g_10, a0g_11, Value.ref a0_12, a0g_13, a0g_14, a0g_15, a0g_16, a0g_17, a0g_18, a0g_19, a0g_20, a0g_21, a0g_22, a0g_23, a0g_24, a0g_25, a0g_26, a0g_27, a0g_28, a0g_29, a0g_30, a0g_31, a0g_32, a0g_33, a0g_34, a0g_35, a0g_36, a0g_37, a0g_38, a0g_39]))) hP hD rfl (fun hP hD => ?_)
            refine lv_goto (tgt := 241) hx hb dX8_next_57 (by decide) ?_
            have hFe : FX = (j5l1.toInt, j5l1.toInt, 0, 0, 0, (fl_A fa0_12)) := hF0
            exact W.vret hx hb hr (fun t ht hW => ⟨⟨(), rfl, trivial, j5l1, j5l1, 0, 0, 0, fa0_12, ⟨bj5l1_l, Int.le_trans u7k1_j5l1 (by decide)⟩, ⟨zq5, Int.le_trans zq6 (by decide)⟩, (fun h9 => absurd h9 (by decide)), ⟨by omega, Or.inl (by decide)⟩, hFe, by rw [ht]; exact hP, va_K.moved hW.alike hK, hD⟩, hS.F ht⟩) hS.2.2 dX8_next_241
          · have h28 := hw
            have u28k1_j5l1 : j5l1.toInt ≤ (899 : Int) := u7k1_j5l1
            have hF0 := hF0.trans (if_neg (show ¬ (a0_3.toInt ≤ j5l1.toInt) from Int.not_le.mpr h28))
            refine lv_istore_n (lv' := [(2, .int r28), (0, .ref a0), (1, .int j5l1)]) hx hb dX8_next_31 rfl hl (by decide) rfl (fun ls hl => ?_)
            refine lv_aload_n hx hb dX8_next_32 rfl (lv_at hl 1 rfl) ?_
            refine lv_iconst (v := 0) hx hb dX8_next_33 zk_iconst_0 ?_
            refine va_put (D := (dC, dI)) (ci := 8) (v := .int 0) (ty := .int) (C := RX8) (T := TX8) (N := 40) hx hb hts zi_X8_next_8 tyX8 tyX8_ok nmX8 hown hK hP hD hS 0 rfl rfl 8 (by decide) (hts (.fieldLink RX8 81 "WaxTurnsModel" "nameSize" "I") (List.mem_cons_of_mem _ (List.mem_append_left _ (List.mem_of_getElem? (i := 2) rfl)))) (fun _ h9 => h9) rfl (tyX8_ok 8 (by decide)) rfl rfl (Nat.le_of_ble_eq_true rfl) dX8_next_34 (fun H locs hP hD hS => ?_)
            refine zs_0 (y := (a0, .inr (8, [a0g_0, Value.ref a0_1, a0g_2, Value.int a0_3, Value.int j5l1, Value.int a0_5, Value.int a0_6, Value.int a0_7, Value.int 0, a0g_9, a0g_10, a0g_11, Value.ref a0_12, a0g_13, a0g_14, a0g_15, a0g_16, a0g_17, a0g_18, a0g_19, a0g_20, a0g_21, a0g_22, a0g_23, a0g_24, a0g_25, a0g_26, a0g_27, a0g_28, a0g_29, a0g_30, a0g_31, a0g_32, a0g_33, a0g_34, a0g_35, a0g_36, a0g_37, a0g_38, a0g_39]))) hP hD rfl (fun hP hD => ?_)
            refine lv_aload_n hx hb dX8_next_37 rfl (lv_at hl 1 rfl) ?_
            refine lv_iconst (v := 0) hx hb dX8_next_38 zk_iconst_0 ?_
            refine va_put (D := (dC, dI)) (ci := 8) (v := .int 0) (ty := .int) (C := RX8) (T := TX8) (N := 40) hx hb hts zi_X8_next_8 tyX8 tyX8_ok nmX8 hown hK hP hD hS 0 rfl rfl 7 (by decide) (hts (.fieldLink RX8 84 "WaxTurnsModel" "whole" "I") (List.mem_cons_of_mem _ (List.mem_append_left _ (List.mem_of_getElem? (i := 3) rfl)))) (fun _ h9 => h9) rfl (tyX8_ok 7 (by decide)) rfl rfl (Nat.le_of_ble_eq_true rfl) dX8_next_39 (fun H locs hP hD hS => ?_)
            refine zs_0 (y := (a0, .inr (8, [a0g_0, Value.ref a0_1, a0g_2, Value.int a0_3, Value.int j5l1, Value.int a0_5, Value.int a0_6, Value.int 0, Value.int 0, a0g_9, a0g_10, a0g_11, Value.ref a0_12, a0g_13, a0g_14, a0g_15, a0g_16, a0g_17, a0g_18, a0g_19, a0g_20, a0g_21, a0g_22, a0g_23, a0g_24, a0g_25, a0g_26, a0g_27, a0g_28, a0g_29, a0g_30, a0g_31, a0g_32, a0g_33, a0g_34, a0g_35, a0g_36, a0g_37, a0g_38, a0g_39]))) hP hD rfl (fun hP hD => ?_)
            refine lv_iload_n hx hb dX8_next_42 rfl (lv_at hl 0 rfl) ?_
            refine lv_iconst (v := (-1)) hx hb dX8_next_43 zk_iconst_n1 ?_
            refine lv_icmp_ne (tgt := 60) hx hb dX8_next_44 (by decide) (fun c44 => ?_) (fun c44 => ?_)
            · have gc44 := ai_ne c44
              have hF0 := hF0.trans (if_neg (show ¬ (r28.toInt = (-1)) from  gc44))
              refine lv_iload_n hx hb dX8_next_60 rfl (lv_at hl 0 rfl) ?_
              refine va_calli (va_runS (As := [.int r28]) (rest := []) ⟨hx, hb, hml, hown, hts⟩ (f_X8_isSmall l dC dI H.size r28 ) (va_cwS 1 hts gX8_next_X8_isSmall rfl rfl rfl zd_X8_isSmall.2 ⟨Nat.le_of_ble_eq_true rfl, Nat.le_of_ble_eq_true rfl⟩) ⟨ax_blind (fun _ _ _ _ _ => trivial), ax_pre (zp_P0 hP) (zp_K hK) (zp_D0 hD) (fun _ _ => trivial)⟩ rfl rfl hl.1 rfl (lv_room (Nat.le_of_ble_eq_true rfl)) dX8_next_61 ⟨Nat.le_of_ble_eq_true rfl, Nat.le_of_ble_eq_true rfl⟩) hS (fun q _ h => zp_F0 hD hS hA q h) (zp_F0 hD hS hA) (fun r61 u t H locs ht hvm hw hB hz1 hk1 hS1 => zo0 hB ht hP hD hk1 (zp_F0 hD hS hA) hS1 (fun hP hK1 hD hS => ?_))
              obtain ⟨hw, hfr61⟩ := hw
              have hc61 : Ff_X8_isSmall r28.toInt = r61.toInt := hfr61.symm
              have hF0 := hF0.trans (fl_lt_eq hc61.symm)
              rcases hw with hw | hw
              · obtain ⟨hw, h61_0, h61_1⟩ := hw
                subst hw
                have l61k0_r28 : (97 : Int) ≤ r28.toInt := h61_0
                have u61k0_r28 : r28.toInt ≤ (122 : Int) := h61_1
                have hF0 := hF0.trans (if_pos (by decide))
                refine lv_if_eq (tgt := 143) hx hb dX8_next_64 (by decide) (fun c64 => absurd c64 (by decide +kernel)) (fun _ => ?_)
                have J67 : ∀ (n : Nat) (j67l1 : Int32) (j67a0_8 : Int32) (j67a0_12_a : Nat → Int32) (H : Heap) (locs : List Loc) (ls : Array Slot), (901 : Int) - j67l1.toInt ≤ (n : Int) → (0 : Int) ≤ j67l1.toInt → j67l1.toInt ≤ (900 : Int) → (0 : Int) ≤ j67a0_8.toInt → j67a0_8.toInt ≤ (900 : Int) → (a0_5.toInt ≤ j67l1.toInt) → (j67a0_8.toInt ≤ j67l1.toInt) → (FX = fl_wh (fun t9 => Sf_X8_next_67_3 a0_3.toInt (fl_A fa0_1) j5l1.toInt t9.1 t9.2.1 t9.2.2) (0, 0, 0, 0, 0, (fun _ => 0)) n (j67l1.toInt, j67a0_8.toInt, (fl_A j67a0_12_a))) → va_P (dC, dI) vwCl [(a0, .inr (8, [a0g_0, Value.ref a0_1, a0g_2, Value.int a0_3, Value.int j5l1, Value.int a0_5, Value.int a0_6, Value.int 0, Value.int j67a0_8, a0g_9, a0g_10, a0g_11, Value.ref a0_12, a0g_13, a0g_14, a0g_15, a0g_16, a0g_17, a0g_18, a0g_19, a0g_20, a0g_21, a0g_22, a0g_23, a0g_24, a0g_25, a0g_26, a0g_27, a0g_28, a0g_29, a0g_30, a0g_31, a0g_32, a0g_33, a0g_34, a0g_35, a0g_36, a0g_37, a0g_38, a0g_39])), (a0_1, .inl (ka0_1, 900, .inl (fa0_1))), (a0_12, .inl (ka0_12, 8, .inl (j67a0_12_a)))] H → va_D A [(a0, .inr (8, [a0g_0, Value.ref a0_1, a0g_2, Value.int a0_3, Value.int j5l1, Value.int a0_5, Value.int a0_6, Value.int 0, Value.int j67a0_8, a0g_9, a0g_10, a0g_11, Value.ref a0_12, a0g_13, a0g_14, a0g_15, a0g_16, a0g_17, a0g_18, a0g_19, a0g_20, a0g_21, a0g_22, a0g_23, a0g_24, a0g_25, a0g_26, a0g_27, a0g_28, a0g_29, a0g_30, a0g_31, a0g_32, a0g_33, a0g_34, a0g_35, a0g_36, a0g_37, a0g_38, a0g_39])), (a0_1, .inl (ka0_1, 900, .inl (fa0_1))), (a0_12, .inl (ka0_12, 8, .inl (j67a0_12_a)))] → va_S A s.heap H locs → lv_has ls 4 [(0, .ref a0), (1, .int j67l1)] → K H locs (F0 m 67 ls []) := by
                  intro n
                  induction n with
                  | zero =>
                    intro j67l1 j67a0_8 j67a0_12_a H locs ls hm bj67l1_l bj67l1_u bj67a0_8_l bj67a0_8_u ke67 nk67 hF0 hP hD hS hl
                    first | exact zg_0 hm bj67l1_u (by decide) | (have h8 := ai_min j67l1; have h9 := ai_max j67l1; exact absurd hm (by omega))
                  | succ n ih67 =>
                    intro j67l1 j67a0_8 j67a0_12_a H locs ls hm bj67l1_l bj67l1_u bj67a0_8_l bj67a0_8_u ke67 nk67 hF0 hP hD hS hl
                    refine (hK0 _ _ _).mpr ?_
                    have hm67 := hm
                    obtain ⟨SX67, hSX67⟩ : ∃ q9, Sf_X8_next_67_3 a0_3.toInt (fl_A fa0_1) j5l1.toInt j67l1.toInt j67a0_8.toInt (fl_A j67a0_12_a) = q9 := ⟨_, rfl⟩
                    have hF1 := hSX67.symm.trans (Sf_X8_next_67_3.eq_1 a0_3.toInt (fl_A fa0_1) j5l1.toInt j67l1.toInt j67a0_8.toInt (fl_A j67a0_12_a))
                    refine lv_aload_n hx hb dX8_next_67 rfl (lv_at hl 0 rfl) ?_
                    refine lv_iload_n hx hb dX8_next_68 rfl (lv_at hl 1 rfl) ?_
                    have hKc := hK.sub (tys' := [(ka0_1, .int)]) [0] rfl
                    refine va_calli (va_runV (As := [.int j67l1]) (rest := []) ⟨hx, hb, hml, hown, hts⟩ (f_X8_see l dC dI H.size a0 j67l1 a0g_0 a0g_2 (Value.int j5l1) (Value.int a0_5) (Value.int a0_6) (Value.int 0) (Value.int j67a0_8) a0g_9 a0g_10 a0g_11 (Value.ref a0_12) a0g_13 a0g_14 a0g_15 a0g_16 a0g_17 a0g_18 a0g_19 a0g_20 a0g_21 a0g_22 a0g_23 a0g_24 a0g_25 a0g_26 a0g_27 a0g_28 a0g_29 a0g_30 a0g_31 a0g_32 a0g_33 a0g_34 a0g_35 a0g_36 a0g_37 a0g_38 a0g_39 a0_1 a0_3 ka0_1 fa0_1 bj67l1_l bj67l1_u ba0_3_l ba0_3_u) (cwV 1 hts gX8_next_X8_see rfl rfl rfl zd_X8_see ⟨Nat.le_of_ble_eq_true rfl, Nat.le_of_ble_eq_true rfl⟩) ⟨ax_blind (fun _ _ _ _ _ => trivial), zr_8 hKc (zp_P2 hP) (q0 := 0) rfl, ax_pre (zp_P2 hP) hKc (zp_D2 hD) (fun _ _ => trivial)⟩ rfl rfl hl.1 rfl (lv_room (Nat.le_of_ble_eq_true rfl)) dX8_next_69 ⟨Nat.le_of_ble_eq_true rfl, Nat.le_of_ble_eq_true rfl⟩) hS (fun q _ h => zp_F2 hD hS hA q h) (zp_F2 hD hS hA) (fun r69 u t H locs ht hvm hw hB hz1 hk1 hS1 => zo2 hB ht hP hD hk1 (zp_F2 hD hS hA) hS1 (fun hP hK1 hD hS => ?_))
                    obtain ⟨hw, hfr69⟩ := hw
                    have hc69 : Ff_X8_see j67l1.toInt a0_3.toInt (fl_A fa0_1) = r69.toInt := hfr69.symm
                    have hF1 := hF1.trans (fl_lt_eq hc69.symm)
                    rcases hw with hw | hw
                    · obtain ⟨hw, h69⟩ := hw
                      subst hw
                      have hF1 := hF1.trans (if_pos (show a0_3.toInt ≤ j67l1.toInt from h69))
                      refine va_calli (va_runS (As := [.int (-1)]) (rest := []) ⟨hx, hb, hml, hown, hts⟩ (f_X8_isSmall l dC dI H.size (-1) ) (va_cwS 1 hts gX8_next_X8_isSmall rfl rfl rfl zd_X8_isSmall.2 ⟨Nat.le_of_ble_eq_true rfl, Nat.le_of_ble_eq_true rfl⟩) ⟨ax_blind (fun _ _ _ _ _ => trivial), ax_pre (zp_P0 hP) (zp_K hK) (zp_D0 hD) (fun _ _ => trivial)⟩ rfl rfl hl.1 rfl (lv_room (Nat.le_of_ble_eq_true rfl)) dX8_next_72 ⟨Nat.le_of_ble_eq_true rfl, Nat.le_of_ble_eq_true rfl⟩) hS (fun q _ h => zp_F0 hD hS hA q h) (zp_F0 hD hS hA) (fun r72 u t H locs ht hvm hw hB hz1 hk1 hS1 => zo0 hB ht hP hD hk1 (zp_F0 hD hS hA) hS1 (fun hP hK1 hD hS => ?_))
                      obtain ⟨hw, hfr72⟩ := hw
                      rw [show ((-1) : Int32).toInt = (-1) from by decide] at hfr72
                      have hc72 : Ff_X8_isSmall (-1) = r72.toInt := hfr72.symm
                      have hF1 := hF1.trans (fl_lt_eq hc72.symm)
                      rcases hw with hw | hw
                      · obtain ⟨hw, h72_0, h72_1⟩ := hw
                        subst hw
                        exact absurd h72_0 (by decide)
                      · subst hw
                        have hF1 := hF1.trans (if_neg (by decide))
                        refine lv_if_eq (tgt := 117) hx hb dX8_next_75 (by decide) (fun _ => ?_) (fun c75 => absurd (by decide +kernel) c75)
                        have hF0 := hF0.trans (fl_wh_r (hSX67.trans hF1))
                        refine lv_aload_n hx hb dX8_next_117 rfl (lv_at hl 0 rfl) ?_
                        refine lv_iload_n hx hb dX8_next_118 rfl (lv_at hl 1 rfl) ?_
                        refine va_put (D := (dC, dI)) (ci := 8) (v := .int j67l1) (ty := .int) (C := RX8) (T := TX8) (N := 40) hx hb hts zi_X8_next_8 tyX8 tyX8_ok nmX8 hown hK hP hD hS 0 rfl rfl 5 (by decide) (hts (.fieldLink RX8 71 "WaxTurnsModel" "end" "I") (List.mem_cons_of_mem _ (List.mem_append_left _ (List.mem_of_getElem? (i := 0) rfl)))) (fun _ h9 => h9) rfl (tyX8_ok 5 (by decide)) rfl rfl (Nat.le_of_ble_eq_true rfl) dX8_next_119 (fun H locs hP hD hS => ?_)
                        refine zs_0 (y := (a0, .inr (8, [a0g_0, Value.ref a0_1, a0g_2, Value.int a0_3, Value.int j5l1, Value.int j67l1, Value.int a0_6, Value.int 0, Value.int j67a0_8, a0g_9, a0g_10, a0g_11, Value.ref a0_12, a0g_13, a0g_14, a0g_15, a0g_16, a0g_17, a0g_18, a0g_19, a0g_20, a0g_21, a0g_22, a0g_23, a0g_24, a0g_25, a0g_26, a0g_27, a0g_28, a0g_29, a0g_30, a0g_31, a0g_32, a0g_33, a0g_34, a0g_35, a0g_36, a0g_37, a0g_38, a0g_39]))) hP hD rfl (fun hP hD => ?_)
                        refine lv_aload_n hx hb dX8_next_122 rfl (lv_at hl 0 rfl) ?_
                        refine lv_aload_n hx hb dX8_next_123 rfl (lv_at hl 0 rfl) ?_
                        refine va_get (D := (dC, dI)) (ci := 8) (v := .int j67a0_8) (C := RX8) (T := TX8) (N := 40) hx hb hts zi_X8_next_8 hown hK hP 0 rfl rfl 8 (by decide) (hts (.fieldLink RX8 81 "WaxTurnsModel" "nameSize" "I") (List.mem_cons_of_mem _ (List.mem_append_left _ (List.mem_of_getElem? (i := 2) rfl)))) (fun _ h9 => h9) rfl dX8_next_124 ?_
                        refine lv_bipush (v := 8) hx hb dX8_next_127 zk_bipush_8 ?_
                        refine lv_icmp_le (tgt := 136) hx hb dX8_next_129 (by decide) (fun c129 => ?_) (fun c129 => ?_)
                        · have gc129 := ai_le c129
                          have u129t_j67a0_8 : j67a0_8.toInt ≤ (8 : Int) := Int.le_trans gc129 zq28
                          have hF0 := hF0.trans (if_pos (show j67a0_8.toInt ≤ 8 from gc129))
                          refine lv_iconst (v := 2) hx hb dX8_next_136 zk_iconst_2 ?_
                          refine va_put (D := (dC, dI)) (ci := 8) (v := .int 2) (ty := .int) (C := RX8) (T := TX8) (N := 40) hx hb hts zi_X8_next_8 tyX8 tyX8_ok nmX8 hown hK hP hD hS 0 rfl rfl 6 (by decide) (hts (.fieldLink RX8 87 "WaxTurnsModel" "token" "I") (List.mem_cons_of_mem _ (List.mem_append_left _ (List.mem_of_getElem? (i := 4) rfl)))) (fun _ h9 => h9) rfl (tyX8_ok 6 (by decide)) rfl rfl (Nat.le_of_ble_eq_true rfl) dX8_next_137 (fun H locs hP hD hS => ?_)
                          refine zs_0 (y := (a0, .inr (8, [a0g_0, Value.ref a0_1, a0g_2, Value.int a0_3, Value.int j5l1, Value.int j67l1, Value.int 2, Value.int 0, Value.int j67a0_8, a0g_9, a0g_10, a0g_11, Value.ref a0_12, a0g_13, a0g_14, a0g_15, a0g_16, a0g_17, a0g_18, a0g_19, a0g_20, a0g_21, a0g_22, a0g_23, a0g_24, a0g_25, a0g_26, a0g_27, a0g_28, a0g_29, a0g_30, a0g_31, a0g_32, a0g_33, a0g_34, a0g_35, a0g_36, a0g_37, a0g_38, a0g_39]))) hP hD rfl (fun hP hD => ?_)
                          refine lv_goto (tgt := 241) hx hb dX8_next_140 (by decide) ?_
                          have hFe : FX = (j5l1.toInt, j67l1.toInt, 2, 0, j67a0_8.toInt, (fl_A j67a0_12_a)) := hF0
                          exact W.vret hx hb hr (fun t ht hW => ⟨⟨(), rfl, trivial, j5l1, j67l1, 2, 0, j67a0_8, j67a0_12_a, ⟨bj67l1_l, bj67l1_u⟩, ⟨bj67a0_8_l, Int.le_trans u129t_j67a0_8 (by decide)⟩, (fun _ => u129t_j67a0_8), ⟨by omega, Or.inl (by decide)⟩, hFe, by rw [ht]; exact hP, va_K.moved hW.alike hK, hD⟩, hS.F ht⟩) hS.2.2 dX8_next_241
                        · have gc129 := ai_nle c129
                          have l129f_j67a0_8 : (9 : Int) ≤ j67a0_8.toInt := ai_ltlo gc129 zq118
                          have hF0 := hF0.trans (if_neg (show ¬ (j67a0_8.toInt ≤ 8) from Int.not_le.mpr gc129))
                          refine lv_iconst (v := 1) hx hb dX8_next_132 zk_iconst_1 ?_
                          refine lv_goto (tgt := 137) hx hb dX8_next_133 (by decide) ?_
                          refine va_put (D := (dC, dI)) (ci := 8) (v := .int 1) (ty := .int) (C := RX8) (T := TX8) (N := 40) hx hb hts zi_X8_next_8 tyX8 tyX8_ok nmX8 hown hK hP hD hS 0 rfl rfl 6 (by decide) (hts (.fieldLink RX8 87 "WaxTurnsModel" "token" "I") (List.mem_cons_of_mem _ (List.mem_append_left _ (List.mem_of_getElem? (i := 4) rfl)))) (fun _ h9 => h9) rfl (tyX8_ok 6 (by decide)) rfl rfl (Nat.le_of_ble_eq_true rfl) dX8_next_137 (fun H locs hP hD hS => ?_)
                          refine zs_0 (y := (a0, .inr (8, [a0g_0, Value.ref a0_1, a0g_2, Value.int a0_3, Value.int j5l1, Value.int j67l1, Value.int 1, Value.int 0, Value.int j67a0_8, a0g_9, a0g_10, a0g_11, Value.ref a0_12, a0g_13, a0g_14, a0g_15, a0g_16, a0g_17, a0g_18, a0g_19, a0g_20, a0g_21, a0g_22, a0g_23, a0g_24, a0g_25, a0g_26, a0g_27, a0g_28, a0g_29, a0g_30, a0g_31, a0g_32, a0g_33, a0g_34, a0g_35, a0g_36, a0g_37, a0g_38, a0g_39]))) hP hD rfl (fun hP hD => ?_)
                          refine lv_goto (tgt := 241) hx hb dX8_next_140 (by decide) ?_
                          have hFe : FX = (j5l1.toInt, j67l1.toInt, 1, 0, j67a0_8.toInt, (fl_A j67a0_12_a)) := hF0
                          exact W.vret hx hb hr (fun t ht hW => ⟨⟨(), rfl, trivial, j5l1, j67l1, 1, 0, j67a0_8, j67a0_12_a, ⟨bj67l1_l, bj67l1_u⟩, ⟨Int.le_trans (by decide) l129f_j67a0_8, bj67a0_8_u⟩, (fun h9 => absurd h9 (by decide)), ⟨by omega, Or.inl (by decide)⟩, hFe, by rw [ht]; exact hP, va_K.moved hW.alike hK, hD⟩, hS.F ht⟩) hS.2.2 dX8_next_241
                    · have h69 := hw
                      have u69k1_j67l1 : j67l1.toInt ≤ (899 : Int) := by have h1 := h69; have h2 := ba0_3_u; omega
                      have hF1 := hF1.trans (if_neg (show ¬ (a0_3.toInt ≤ j67l1.toInt) from Int.not_le.mpr h69))
                      refine va_calli (va_runS (As := [.int r69]) (rest := []) ⟨hx, hb, hml, hown, hts⟩ (f_X8_isSmall l dC dI H.size r69 ) (va_cwS 1 hts gX8_next_X8_isSmall rfl rfl rfl zd_X8_isSmall.2 ⟨Nat.le_of_ble_eq_true rfl, Nat.le_of_ble_eq_true rfl⟩) ⟨ax_blind (fun _ _ _ _ _ => trivial), ax_pre (zp_P0 hP) (zp_K hK) (zp_D0 hD) (fun _ _ => trivial)⟩ rfl rfl hl.1 rfl (lv_room (Nat.le_of_ble_eq_true rfl)) dX8_next_72 ⟨Nat.le_of_ble_eq_true rfl, Nat.le_of_ble_eq_true rfl⟩) hS (fun q _ h => zp_F0 hD hS hA q h) (zp_F0 hD hS hA) (fun r72 u t H locs ht hvm hw hB hz1 hk1 hS1 => zo0 hB ht hP hD hk1 (zp_F0 hD hS hA) hS1 (fun hP hK1 hD hS => ?_))
                      obtain ⟨hw, hfr72⟩ := hw
                      have hc72 : Ff_X8_isSmall r69.toInt = r72.toInt := hfr72.symm
                      have hF1 := hF1.trans (fl_lt_eq hc72.symm)
                      rcases hw with hw | hw
                      · obtain ⟨hw, h72_0, h72_1⟩ := hw
                        subst hw
                        have l72k0_r69 : (97 : Int) ≤ r69.toInt := h72_0
                        have u72k0_r69 : r69.toInt ≤ (122 : Int) := h72_1
                        have hF1 := hF1.trans (if_pos (by decide))
                        refine lv_if_eq (tgt := 117) hx hb dX8_next_75 (by decide) (fun c75 => absurd c75 (by decide +kernel)) (fun _ => ?_)
                        refine lv_aload_n hx hb dX8_next_78 rfl (lv_at hl 0 rfl) ?_
                        refine va_get (D := (dC, dI)) (ci := 8) (v := .int j67a0_8) (C := RX8) (T := TX8) (N := 40) hx hb hts zi_X8_next_8 hown hK hP 0 rfl rfl 8 (by decide) (hts (.fieldLink RX8 81 "WaxTurnsModel" "nameSize" "I") (List.mem_cons_of_mem _ (List.mem_append_left _ (List.mem_of_getElem? (i := 2) rfl)))) (fun _ h9 => h9) rfl dX8_next_79 ?_
                        refine lv_bipush (v := 8) hx hb dX8_next_82 zk_bipush_8 ?_
                        have J101 : ∀ (j101a0_12_a : Nat → Int32) (H : Heap) (locs : List Loc) (ls : Array Slot), (SX67 = Gf_X8_next_101_3 j67l1.toInt j67a0_8.toInt (fl_A j101a0_12_a)) → va_P (dC, dI) vwCl [(a0, .inr (8, [a0g_0, Value.ref a0_1, a0g_2, Value.int a0_3, Value.int j5l1, Value.int a0_5, Value.int a0_6, Value.int 0, Value.int j67a0_8, a0g_9, a0g_10, a0g_11, Value.ref a0_12, a0g_13, a0g_14, a0g_15, a0g_16, a0g_17, a0g_18, a0g_19, a0g_20, a0g_21, a0g_22, a0g_23, a0g_24, a0g_25, a0g_26, a0g_27, a0g_28, a0g_29, a0g_30, a0g_31, a0g_32, a0g_33, a0g_34, a0g_35, a0g_36, a0g_37, a0g_38, a0g_39])), (a0_1, .inl (ka0_1, 900, .inl (fa0_1))), (a0_12, .inl (ka0_12, 8, .inl (j101a0_12_a)))] H → va_D A [(a0, .inr (8, [a0g_0, Value.ref a0_1, a0g_2, Value.int a0_3, Value.int j5l1, Value.int a0_5, Value.int a0_6, Value.int 0, Value.int j67a0_8, a0g_9, a0g_10, a0g_11, Value.ref a0_12, a0g_13, a0g_14, a0g_15, a0g_16, a0g_17, a0g_18, a0g_19, a0g_20, a0g_21, a0g_22, a0g_23, a0g_24, a0g_25, a0g_26, a0g_27, a0g_28, a0g_29, a0g_30, a0g_31, a0g_32, a0g_33, a0g_34, a0g_35, a0g_36, a0g_37, a0g_38, a0g_39])), (a0_1, .inl (ka0_1, 900, .inl (fa0_1))), (a0_12, .inl (ka0_12, 8, .inl (j101a0_12_a)))] → va_S A s.heap H locs → lv_has ls 4 [(0, .ref a0), (1, .int j67l1)] → K H locs (F0 m 101 ls []) := by
                          intro j101a0_12_a H locs ls  hF1 hP hD hS hl
                          refine (hK0 _ _ _).mpr ?_
                          have hF1 := hF1.trans (Gf_X8_next_101_3.eq_1 j67l1.toInt j67a0_8.toInt (fl_A j101a0_12_a))
                          refine lv_aload_n hx hb dX8_next_101 rfl (lv_at hl 0 rfl) ?_
                          refine lv_dup hx hb dX8_next_102 rfl ?_
                          refine va_get (D := (dC, dI)) (ci := 8) (v := .int j67a0_8) (C := RX8) (T := TX8) (N := 40) hx hb hts zi_X8_next_8 hown hK hP 0 rfl rfl 8 (by decide) (hts (.fieldLink RX8 81 "WaxTurnsModel" "nameSize" "I") (List.mem_cons_of_mem _ (List.mem_append_left _ (List.mem_of_getElem? (i := 2) rfl)))) (fun _ h9 => h9) rfl dX8_next_103 ?_
                          have u103z_j67a0_8 : j67a0_8.toInt ≤ (899 : Int) := by omega
                          refine lv_iconst (v := 1) hx hb dX8_next_106 zk_iconst_1 ?_
                          refine lv_iadd hx hb dX8_next_107 ?_
                          refine lv_topi (fun x107 ex107 => ?_)
                          have qx107 : x107.toInt = j67a0_8.toInt + (1 : Int32).toInt := ai_add ex107 ⟨bj67a0_8_l, u103z_j67a0_8⟩ ⟨zq1, zq0⟩ (by decide) (by decide)
                          have bx107 : (1 : Int) ≤ x107.toInt ∧ x107.toInt ≤ 900 := ⟨by rw [qx107]; exact Int.add_le_add bj67a0_8_l zq1, by rw [qx107]; exact Int.add_le_add u103z_j67a0_8 zq0⟩
                          have wx107 : x107.toInt = j67a0_8.toInt + 1 := qx107
                          have hF1 := hF1.trans (fl_lt_eq (show x107.toInt = j67a0_8.toInt + 1 from qx107))
                          refine va_put (D := (dC, dI)) (ci := 8) (v := .int x107) (ty := .int) (C := RX8) (T := TX8) (N := 40) hx hb hts zi_X8_next_8 tyX8 tyX8_ok nmX8 hown hK hP hD hS 0 rfl rfl 8 (by decide) (hts (.fieldLink RX8 81 "WaxTurnsModel" "nameSize" "I") (List.mem_cons_of_mem _ (List.mem_append_left _ (List.mem_of_getElem? (i := 2) rfl)))) (fun _ h9 => h9) rfl (tyX8_ok 8 (by decide)) rfl rfl (Nat.le_of_ble_eq_true rfl) dX8_next_108 (fun H locs hP hD hS => ?_)
                          refine zs_0 (y := (a0, .inr (8, [a0g_0, Value.ref a0_1, a0g_2, Value.int a0_3, Value.int j5l1, Value.int a0_5, Value.int a0_6, Value.int 0, Value.int x107, a0g_9, a0g_10, a0g_11, Value.ref a0_12, a0g_13, a0g_14, a0g_15, a0g_16, a0g_17, a0g_18, a0g_19, a0g_20, a0g_21, a0g_22, a0g_23, a0g_24, a0g_25, a0g_26, a0g_27, a0g_28, a0g_29, a0g_30, a0g_31, a0g_32, a0g_33, a0g_34, a0g_35, a0g_36, a0g_37, a0g_38, a0g_39]))) hP hD rfl (fun hP hD => ?_)
                          obtain ⟨x111, ex111⟩ : ∃ y : Int32, y = j67l1 + Int32.ofInt 1 := ⟨_, rfl⟩
                          have qx111 : x111.toInt = j67l1.toInt + 1 := ai_inc ex111 (by decide) (by decide) u69k1_j67l1 (by decide)
                          have bx111 : (1 : Int) ≤ x111.toInt ∧ x111.toInt ≤ 900 := ⟨by rw [qx111]; exact Int.add_le_add bj67l1_l (Int.le_refl _), by rw [qx111]; exact Int.add_le_add u69k1_j67l1 (Int.le_refl _)⟩
                          refine lv_iinc (v := x111) (lv' := [(1, .int x111), (0, .ref a0)]) hx hb dX8_next_111 hl (k := 1) rfl ex111.symm (by decide) rfl (fun ls hl => ?_)
                          have hF1 := hF1.trans (fl_lt_eq (show x111.toInt = j67l1.toInt + 1 from qx111))
                          refine lv_goto (tgt := 67) hx hb dX8_next_114 (by decide) ?_
                          exact (hK0 _ _ _).mp (ih67 x111 x107 j101a0_12_a _ _ _ (by first | exact zg_s hm67 qx111 | (have h0 := qx111; omega)) (Int.le_trans zq4 bx111.1) bx111.2 (Int.le_trans zq4 bx107.1) bx107.2 (by omega) (by omega) (hF0.trans (fl_wh_l (hSX67.trans hF1))) hP hD hS (lv_sub hl [1, 0] rfl))
                        refine lv_icmp_ge (tgt := 101) hx hb dX8_next_84 (by decide) (fun c84 => ?_) (fun c84 => ?_)
                        · have gc84 := ai_le c84
                          have l84t_j67a0_8 : (8 : Int) ≤ j67a0_8.toInt := Int.le_trans zq118 gc84
                          have hF1 := hF1.trans (if_pos (show 8 ≤ j67a0_8.toInt from gc84))
                          exact (hK0 _ _ _).mp (J101 j67a0_12_a _ _ _   hF1 hP hD hS (lv_sub hl [0, 1] rfl))
                        · have gc84 := ai_nle c84
                          have u84f_j67a0_8 : j67a0_8.toInt ≤ (7 : Int) := ai_lthi gc84 zq28
                          have hF1 := hF1.trans (if_neg (show ¬ (8 ≤ j67a0_8.toInt) from Int.not_le.mpr gc84))
                          refine lv_aload_n hx hb dX8_next_87 rfl (lv_at hl 0 rfl) ?_
                          refine va_get (D := (dC, dI)) (ci := 8) (v := .ref a0_12) (C := RX8) (T := TX8) (N := 40) hx hb hts zi_X8_next_8 hown hK hP 0 rfl rfl 12 (by decide) (hts (.fieldLink RX8 17 "WaxTurnsModel" "letters" "[I") (List.mem_cons_of_mem _ (List.mem_append_left _ (List.mem_of_getElem? (i := 5) rfl)))) (fun _ h9 => h9) rfl dX8_next_88 ?_
                          refine lv_aload_n hx hb dX8_next_91 rfl (lv_at hl 0 rfl) ?_
                          refine va_get (D := (dC, dI)) (ci := 8) (v := .int j67a0_8) (C := RX8) (T := TX8) (N := 40) hx hb hts zi_X8_next_8 hown hK hP 0 rfl rfl 8 (by decide) (hts (.fieldLink RX8 81 "WaxTurnsModel" "nameSize" "I") (List.mem_cons_of_mem _ (List.mem_append_left _ (List.mem_of_getElem? (i := 2) rfl)))) (fun _ h9 => h9) rfl dX8_next_92 ?_
                          refine lv_aload_n hx hb dX8_next_95 rfl (lv_at hl 0 rfl) ?_
                          refine lv_iload_n hx hb dX8_next_96 rfl (lv_at hl 1 rfl) ?_
                          have hKc := hK.sub (tys' := [(ka0_1, .int)]) [0] rfl
                          refine va_calli (va_runV (As := [.int j67l1]) (rest := [.int j67a0_8, .ref a0_12]) ⟨hx, hb, hml, hown, hts⟩ (f_X8_see l dC dI H.size a0 j67l1 a0g_0 a0g_2 (Value.int j5l1) (Value.int a0_5) (Value.int a0_6) (Value.int 0) (Value.int j67a0_8) a0g_9 a0g_10 a0g_11 (Value.ref a0_12) a0g_13 a0g_14 a0g_15 a0g_16 a0g_17 a0g_18 a0g_19 a0g_20 a0g_21 a0g_22 a0g_23 a0g_24 a0g_25 a0g_26 a0g_27 a0g_28 a0g_29 a0g_30 a0g_31 a0g_32 a0g_33 a0g_34 a0g_35 a0g_36 a0g_37 a0g_38 a0g_39 a0_1 a0_3 ka0_1 fa0_1 bj67l1_l (Int.le_trans u69k1_j67l1 zq147) ba0_3_l ba0_3_u) (cwV 1 hts gX8_next_X8_see rfl rfl rfl zd_X8_see ⟨Nat.le_of_ble_eq_true rfl, Nat.le_of_ble_eq_true rfl⟩) ⟨ax_blind (fun _ _ _ _ _ => trivial), zr_8 hKc (zp_P2 hP) (q0 := 0) rfl, ax_pre (zp_P2 hP) hKc (zp_D2 hD) (fun _ _ => trivial)⟩ rfl rfl hl.1 rfl (lv_room (Nat.le_of_ble_eq_true rfl)) dX8_next_97 ⟨Nat.le_of_ble_eq_true rfl, Nat.le_of_ble_eq_true rfl⟩) hS (fun q _ h => zp_F2 hD hS hA q h) (zp_F2 hD hS hA) (fun r97 u t H locs ht hvm hw hB hz1 hk1 hS1 => zo2 hB ht hP hD hk1 (zp_F2 hD hS hA) hS1 (fun hP hK1 hD hS => ?_))
                          obtain ⟨hw, hfr97⟩ := hw
                          have hc97 : Ff_X8_see j67l1.toInt a0_3.toInt (fl_A fa0_1) = r97.toInt := hfr97.symm
                          have hF1 := hF1.trans (fl_lt_eq hc97.symm)
                          rcases hw with hw | hw
                          · obtain ⟨hw, h97⟩ := hw
                            subst hw
                            have hF1 := hF1.trans (if_pos (show a0_3.toInt ≤ j67l1.toInt from h97))
                            refine va_iast hx hb hK hP hD hS 2 1 rfl rfl (ai_in bj67a0_8_l u84f_j67a0_8 (by decide) (by decide)) dX8_next_100 (fun H locs hP hD hS => ?_)
                            obtain ⟨f100, ef100⟩ : ∃ g9 : Nat → Int32, g9 = upd j67a0_12_a (j67a0_8 : Int32).toNatClampNeg ((-1) : Int32) := ⟨_, rfl⟩
                            refine zs_2 (y := (a0_12, .inl (ka0_12, 8, .inl (f100)))) hP hD (by rw [ef100]) (fun hP hD => ?_)
                            have fqf100 := fl_up_eq ef100
                            have hF1 := hF1.trans (fl_lt_eq (show (fl_A f100) = fl_up (fl_A j67a0_12_a) (j67a0_8.toInt.toNat) (-1) from fqf100))
                            exact (hK0 _ _ _).mp (J101 f100 _ _ _   hF1 hP hD hS (lv_sub hl [0, 1] rfl))
                          · have h97 := hw
                            have u97k1_j67l1 : j67l1.toInt ≤ (899 : Int) := u69k1_j67l1
                            have hF1 := hF1.trans (if_neg (show ¬ (a0_3.toInt ≤ j67l1.toInt) from Int.not_le.mpr h97))
                            refine va_iast hx hb hK hP hD hS 2 1 rfl rfl (ai_in bj67a0_8_l u84f_j67a0_8 (by decide) (by decide)) dX8_next_100 (fun H locs hP hD hS => ?_)
                            obtain ⟨f100, ef100⟩ : ∃ g9 : Nat → Int32, g9 = upd j67a0_12_a (j67a0_8 : Int32).toNatClampNeg r97 := ⟨_, rfl⟩
                            refine zs_2 (y := (a0_12, .inl (ka0_12, 8, .inl (f100)))) hP hD (by rw [ef100]) (fun hP hD => ?_)
                            have fqf100 := fl_up_eq ef100
                            have hF1 := hF1.trans (fl_lt_eq (show (fl_A f100) = fl_up (fl_A j67a0_12_a) (j67a0_8.toInt.toNat) r97.toInt from fqf100))
                            exact (hK0 _ _ _).mp (J101 f100 _ _ _   hF1 hP hD hS (lv_sub hl [0, 1] rfl))
                      · subst hw
                        have hF1 := hF1.trans (if_neg (by decide))
                        refine lv_if_eq (tgt := 117) hx hb dX8_next_75 (by decide) (fun _ => ?_) (fun c75 => absurd (by decide +kernel) c75)
                        have hF0 := hF0.trans (fl_wh_r (hSX67.trans hF1))
                        refine lv_aload_n hx hb dX8_next_117 rfl (lv_at hl 0 rfl) ?_
                        refine lv_iload_n hx hb dX8_next_118 rfl (lv_at hl 1 rfl) ?_
                        refine va_put (D := (dC, dI)) (ci := 8) (v := .int j67l1) (ty := .int) (C := RX8) (T := TX8) (N := 40) hx hb hts zi_X8_next_8 tyX8 tyX8_ok nmX8 hown hK hP hD hS 0 rfl rfl 5 (by decide) (hts (.fieldLink RX8 71 "WaxTurnsModel" "end" "I") (List.mem_cons_of_mem _ (List.mem_append_left _ (List.mem_of_getElem? (i := 0) rfl)))) (fun _ h9 => h9) rfl (tyX8_ok 5 (by decide)) rfl rfl (Nat.le_of_ble_eq_true rfl) dX8_next_119 (fun H locs hP hD hS => ?_)
                        refine zs_0 (y := (a0, .inr (8, [a0g_0, Value.ref a0_1, a0g_2, Value.int a0_3, Value.int j5l1, Value.int j67l1, Value.int a0_6, Value.int 0, Value.int j67a0_8, a0g_9, a0g_10, a0g_11, Value.ref a0_12, a0g_13, a0g_14, a0g_15, a0g_16, a0g_17, a0g_18, a0g_19, a0g_20, a0g_21, a0g_22, a0g_23, a0g_24, a0g_25, a0g_26, a0g_27, a0g_28, a0g_29, a0g_30, a0g_31, a0g_32, a0g_33, a0g_34, a0g_35, a0g_36, a0g_37, a0g_38, a0g_39]))) hP hD rfl (fun hP hD => ?_)
                        refine lv_aload_n hx hb dX8_next_122 rfl (lv_at hl 0 rfl) ?_
                        refine lv_aload_n hx hb dX8_next_123 rfl (lv_at hl 0 rfl) ?_
                        refine va_get (D := (dC, dI)) (ci := 8) (v := .int j67a0_8) (C := RX8) (T := TX8) (N := 40) hx hb hts zi_X8_next_8 hown hK hP 0 rfl rfl 8 (by decide) (hts (.fieldLink RX8 81 "WaxTurnsModel" "nameSize" "I") (List.mem_cons_of_mem _ (List.mem_append_left _ (List.mem_of_getElem? (i := 2) rfl)))) (fun _ h9 => h9) rfl dX8_next_124 ?_
                        refine lv_bipush (v := 8) hx hb dX8_next_127 zk_bipush_8 ?_
                        refine lv_icmp_le (tgt := 136) hx hb dX8_next_129 (by decide) (fun c129 => ?_) (fun c129 => ?_)
                        · have gc129 := ai_le c129
                          have u129t_j67a0_8 : j67a0_8.toInt ≤ (8 : Int) := Int.le_trans gc129 zq28
                          have hF0 := hF0.trans (if_pos (show j67a0_8.toInt ≤ 8 from gc129))
                          refine lv_iconst (v := 2) hx hb dX8_next_136 zk_iconst_2 ?_
                          refine va_put (D := (dC, dI)) (ci := 8) (v := .int 2) (ty := .int) (C := RX8) (T := TX8) (N := 40) hx hb hts zi_X8_next_8 tyX8 tyX8_ok nmX8 hown hK hP hD hS 0 rfl rfl 6 (by decide) (hts (.fieldLink RX8 87 "WaxTurnsModel" "token" "I") (List.mem_cons_of_mem _ (List.mem_append_left _ (List.mem_of_getElem? (i := 4) rfl)))) (fun _ h9 => h9) rfl (tyX8_ok 6 (by decide)) rfl rfl (Nat.le_of_ble_eq_true rfl) dX8_next_137 (fun H locs hP hD hS => ?_)
                          refine zs_0 (y := (a0, .inr (8, [a0g_0, Value.ref a0_1, a0g_2, Value.int a0_3, Value.int j5l1, Value.int j67l1, Value.int 2, Value.int 0, Value.int j67a0_8, a0g_9, a0g_10, a0g_11, Value.ref a0_12, a0g_13, a0g_14, a0g_15, a0g_16, a0g_17, a0g_18, a0g_19, a0g_20, a0g_21, a0g_22, a0g_23, a0g_24, a0g_25, a0g_26, a0g_27, a0g_28, a0g_29, a0g_30, a0g_31, a0g_32, a0g_33, a0g_34, a0g_35, a0g_36, a0g_37, a0g_38, a0g_39]))) hP hD rfl (fun hP hD => ?_)
                          refine lv_goto (tgt := 241) hx hb dX8_next_140 (by decide) ?_
                          have hFe : FX = (j5l1.toInt, j67l1.toInt, 2, 0, j67a0_8.toInt, (fl_A j67a0_12_a)) := hF0
                          exact W.vret hx hb hr (fun t ht hW => ⟨⟨(), rfl, trivial, j5l1, j67l1, 2, 0, j67a0_8, j67a0_12_a, ⟨bj67l1_l, Int.le_trans u69k1_j67l1 (by decide)⟩, ⟨bj67a0_8_l, Int.le_trans u129t_j67a0_8 (by decide)⟩, (fun _ => u129t_j67a0_8), ⟨by omega, Or.inl (by decide)⟩, hFe, by rw [ht]; exact hP, va_K.moved hW.alike hK, hD⟩, hS.F ht⟩) hS.2.2 dX8_next_241
                        · have gc129 := ai_nle c129
                          have l129f_j67a0_8 : (9 : Int) ≤ j67a0_8.toInt := ai_ltlo gc129 zq118
                          have hF0 := hF0.trans (if_neg (show ¬ (j67a0_8.toInt ≤ 8) from Int.not_le.mpr gc129))
                          refine lv_iconst (v := 1) hx hb dX8_next_132 zk_iconst_1 ?_
                          refine lv_goto (tgt := 137) hx hb dX8_next_133 (by decide) ?_
                          refine va_put (D := (dC, dI)) (ci := 8) (v := .int 1) (ty := .int) (C := RX8) (T := TX8) (N := 40) hx hb hts zi_X8_next_8 tyX8 tyX8_ok nmX8 hown hK hP hD hS 0 rfl rfl 6 (by decide) (hts (.fieldLink RX8 87 "WaxTurnsModel" "token" "I") (List.mem_cons_of_mem _ (List.mem_append_left _ (List.mem_of_getElem? (i := 4) rfl)))) (fun _ h9 => h9) rfl (tyX8_ok 6 (by decide)) rfl rfl (Nat.le_of_ble_eq_true rfl) dX8_next_137 (fun H locs hP hD hS => ?_)
                          refine zs_0 (y := (a0, .inr (8, [a0g_0, Value.ref a0_1, a0g_2, Value.int a0_3, Value.int j5l1, Value.int j67l1, Value.int 1, Value.int 0, Value.int j67a0_8, a0g_9, a0g_10, a0g_11, Value.ref a0_12, a0g_13, a0g_14, a0g_15, a0g_16, a0g_17, a0g_18, a0g_19, a0g_20, a0g_21, a0g_22, a0g_23, a0g_24, a0g_25, a0g_26, a0g_27, a0g_28, a0g_29, a0g_30, a0g_31, a0g_32, a0g_33, a0g_34, a0g_35, a0g_36, a0g_37, a0g_38, a0g_39]))) hP hD rfl (fun hP hD => ?_)
                          refine lv_goto (tgt := 241) hx hb dX8_next_140 (by decide) ?_
                          have hFe : FX = (j5l1.toInt, j67l1.toInt, 1, 0, j67a0_8.toInt, (fl_A j67a0_12_a)) := hF0
                          exact W.vret hx hb hr (fun t ht hW => ⟨⟨(), rfl, trivial, j5l1, j67l1, 1, 0, j67a0_8, j67a0_12_a, ⟨bj67l1_l, Int.le_trans u69k1_j67l1 (by decide)⟩, ⟨Int.le_trans (by decide) l129f_j67a0_8, bj67a0_8_u⟩, (fun h9 => absurd h9 (by decide)), ⟨by omega, Or.inl (by decide)⟩, hFe, by rw [ht]; exact hP, va_K.moved hW.alike hK, hD⟩, hS.F ht⟩) hS.2.2 dX8_next_241
                exact (hK0 _ _ _).mp (J67 901 j5l1 0 fa0_12 _ _ _ (by have h1 : (0 : Int) ≤ j5l1.toInt := bj5l1_l; have h2 : j5l1.toInt ≤ (899 : Int) := u28k1_j5l1; omega) bj5l1_l (Int.le_trans u28k1_j5l1 zq147) zq5 (Int.le_trans zq6 zq40) (by omega) (by have h1 : (0 : Int32).toInt = 0 := (by decide); omega) (by rw [show (0 : Int32).toInt = 0 from by decide]; exact hF0) hP hD hS (lv_sub hl [1, 2] rfl))
              · subst hw
                have hF0 := hF0.trans (if_neg (by decide))
                refine lv_if_eq (tgt := 143) hx hb dX8_next_64 (by decide) (fun _ => ?_) (fun c64 => absurd (by decide +kernel) c64)
                have J67 : ∀ (n : Nat) (j67l1 : Int32) (j67a0_8 : Int32) (j67a0_12_a : Nat → Int32) (H : Heap) (locs : List Loc) (ls : Array Slot), (901 : Int) - j67l1.toInt ≤ (n : Int) → (0 : Int) ≤ j67l1.toInt → j67l1.toInt ≤ (900 : Int) → (0 : Int) ≤ j67a0_8.toInt → j67a0_8.toInt ≤ (900 : Int) → (a0_5.toInt ≤ j67l1.toInt) → (j67a0_8.toInt ≤ j67l1.toInt) → (FX = fl_wh (fun t9 => Sf_X8_next_67_4 a0_3.toInt (fl_A fa0_1) j5l1.toInt t9.1 t9.2.1 t9.2.2) (0, 0, 0, 0, 0, (fun _ => 0)) n (j67l1.toInt, j67a0_8.toInt, (fl_A j67a0_12_a))) → va_P (dC, dI) vwCl [(a0, .inr (8, [a0g_0, Value.ref a0_1, a0g_2, Value.int a0_3, Value.int j5l1, Value.int a0_5, Value.int a0_6, Value.int 0, Value.int j67a0_8, a0g_9, a0g_10, a0g_11, Value.ref a0_12, a0g_13, a0g_14, a0g_15, a0g_16, a0g_17, a0g_18, a0g_19, a0g_20, a0g_21, a0g_22, a0g_23, a0g_24, a0g_25, a0g_26, a0g_27, a0g_28, a0g_29, a0g_30, a0g_31, a0g_32, a0g_33, a0g_34, a0g_35, a0g_36, a0g_37, a0g_38, a0g_39])), (a0_1, .inl (ka0_1, 900, .inl (fa0_1))), (a0_12, .inl (ka0_12, 8, .inl (j67a0_12_a)))] H → va_D A [(a0, .inr (8, [a0g_0, Value.ref a0_1, a0g_2, Value.int a0_3, Value.int j5l1, Value.int a0_5, Value.int a0_6, Value.int 0, Value.int j67a0_8, a0g_9, a0g_10, a0g_11, Value.ref a0_12, a0g_13, a0g_14, a0g_15, a0g_16, a0g_17, a0g_18, a0g_19, a0g_20, a0g_21, a0g_22, a0g_23, a0g_24, a0g_25, a0g_26, a0g_27, a0g_28, a0g_29, a0g_30, a0g_31, a0g_32, a0g_33, a0g_34, a0g_35, a0g_36, a0g_37, a0g_38, a0g_39])), (a0_1, .inl (ka0_1, 900, .inl (fa0_1))), (a0_12, .inl (ka0_12, 8, .inl (j67a0_12_a)))] → va_S A s.heap H locs → lv_has ls 4 [(0, .ref a0), (1, .int j67l1)] → K H locs (F0 m 67 ls []) := by
                  intro n
                  induction n with
                  | zero =>
                    intro j67l1 j67a0_8 j67a0_12_a H locs ls hm bj67l1_l bj67l1_u bj67a0_8_l bj67a0_8_u ke67 nk67 hF0 hP hD hS hl
                    first | exact zg_0 hm bj67l1_u (by decide) | (have h8 := ai_min j67l1; have h9 := ai_max j67l1; exact absurd hm (by omega))
                  | succ n ih67 =>
                    intro j67l1 j67a0_8 j67a0_12_a H locs ls hm bj67l1_l bj67l1_u bj67a0_8_l bj67a0_8_u ke67 nk67 hF0 hP hD hS hl
                    refine (hK0 _ _ _).mpr ?_
                    have hm67 := hm
                    obtain ⟨SX67, hSX67⟩ : ∃ q9, Sf_X8_next_67_4 a0_3.toInt (fl_A fa0_1) j5l1.toInt j67l1.toInt j67a0_8.toInt (fl_A j67a0_12_a) = q9 := ⟨_, rfl⟩
                    have hF1 := hSX67.symm.trans (Sf_X8_next_67_4.eq_1 a0_3.toInt (fl_A fa0_1) j5l1.toInt j67l1.toInt j67a0_8.toInt (fl_A j67a0_12_a))
                    refine lv_aload_n hx hb dX8_next_67 rfl (lv_at hl 0 rfl) ?_
                    refine lv_iload_n hx hb dX8_next_68 rfl (lv_at hl 1 rfl) ?_
                    have hKc := hK.sub (tys' := [(ka0_1, .int)]) [0] rfl
                    refine va_calli (va_runV (As := [.int j67l1]) (rest := []) ⟨hx, hb, hml, hown, hts⟩ (f_X8_see l dC dI H.size a0 j67l1 a0g_0 a0g_2 (Value.int j5l1) (Value.int a0_5) (Value.int a0_6) (Value.int 0) (Value.int j67a0_8) a0g_9 a0g_10 a0g_11 (Value.ref a0_12) a0g_13 a0g_14 a0g_15 a0g_16 a0g_17 a0g_18 a0g_19 a0g_20 a0g_21 a0g_22 a0g_23 a0g_24 a0g_25 a0g_26 a0g_27 a0g_28 a0g_29 a0g_30 a0g_31 a0g_32 a0g_33 a0g_34 a0g_35 a0g_36 a0g_37 a0g_38 a0g_39 a0_1 a0_3 ka0_1 fa0_1 bj67l1_l bj67l1_u ba0_3_l ba0_3_u) (cwV 1 hts gX8_next_X8_see rfl rfl rfl zd_X8_see ⟨Nat.le_of_ble_eq_true rfl, Nat.le_of_ble_eq_true rfl⟩) ⟨ax_blind (fun _ _ _ _ _ => trivial), zr_8 hKc (zp_P2 hP) (q0 := 0) rfl, ax_pre (zp_P2 hP) hKc (zp_D2 hD) (fun _ _ => trivial)⟩ rfl rfl hl.1 rfl (lv_room (Nat.le_of_ble_eq_true rfl)) dX8_next_69 ⟨Nat.le_of_ble_eq_true rfl, Nat.le_of_ble_eq_true rfl⟩) hS (fun q _ h => zp_F2 hD hS hA q h) (zp_F2 hD hS hA) (fun r69 u t H locs ht hvm hw hB hz1 hk1 hS1 => zo2 hB ht hP hD hk1 (zp_F2 hD hS hA) hS1 (fun hP hK1 hD hS => ?_))
                    obtain ⟨hw, hfr69⟩ := hw
                    have hc69 : Ff_X8_see j67l1.toInt a0_3.toInt (fl_A fa0_1) = r69.toInt := hfr69.symm
                    have hF1 := hF1.trans (fl_lt_eq hc69.symm)
                    rcases hw with hw | hw
                    · obtain ⟨hw, h69⟩ := hw
                      subst hw
                      have hF1 := hF1.trans (if_pos (show a0_3.toInt ≤ j67l1.toInt from h69))
                      refine va_calli (va_runS (As := [.int (-1)]) (rest := []) ⟨hx, hb, hml, hown, hts⟩ (f_X8_isSmall l dC dI H.size (-1) ) (va_cwS 1 hts gX8_next_X8_isSmall rfl rfl rfl zd_X8_isSmall.2 ⟨Nat.le_of_ble_eq_true rfl, Nat.le_of_ble_eq_true rfl⟩) ⟨ax_blind (fun _ _ _ _ _ => trivial), ax_pre (zp_P0 hP) (zp_K hK) (zp_D0 hD) (fun _ _ => trivial)⟩ rfl rfl hl.1 rfl (lv_room (Nat.le_of_ble_eq_true rfl)) dX8_next_72 ⟨Nat.le_of_ble_eq_true rfl, Nat.le_of_ble_eq_true rfl⟩) hS (fun q _ h => zp_F0 hD hS hA q h) (zp_F0 hD hS hA) (fun r72 u t H locs ht hvm hw hB hz1 hk1 hS1 => zo0 hB ht hP hD hk1 (zp_F0 hD hS hA) hS1 (fun hP hK1 hD hS => ?_))
                      obtain ⟨hw, hfr72⟩ := hw
                      rw [show ((-1) : Int32).toInt = (-1) from by decide] at hfr72
                      have hc72 : Ff_X8_isSmall (-1) = r72.toInt := hfr72.symm
                      have hF1 := hF1.trans (fl_lt_eq hc72.symm)
                      rcases hw with hw | hw
                      · obtain ⟨hw, h72_0, h72_1⟩ := hw
                        subst hw
                        exact absurd h72_0 (by decide)
                      · subst hw
                        have hF1 := hF1.trans (if_neg (by decide))
                        refine lv_if_eq (tgt := 117) hx hb dX8_next_75 (by decide) (fun _ => ?_) (fun c75 => absurd (by decide +kernel) c75)
                        have hF0 := hF0.trans (fl_wh_r (hSX67.trans hF1))
                        refine lv_aload_n hx hb dX8_next_117 rfl (lv_at hl 0 rfl) ?_
                        refine lv_iload_n hx hb dX8_next_118 rfl (lv_at hl 1 rfl) ?_
                        refine va_put (D := (dC, dI)) (ci := 8) (v := .int j67l1) (ty := .int) (C := RX8) (T := TX8) (N := 40) hx hb hts zi_X8_next_8 tyX8 tyX8_ok nmX8 hown hK hP hD hS 0 rfl rfl 5 (by decide) (hts (.fieldLink RX8 71 "WaxTurnsModel" "end" "I") (List.mem_cons_of_mem _ (List.mem_append_left _ (List.mem_of_getElem? (i := 0) rfl)))) (fun _ h9 => h9) rfl (tyX8_ok 5 (by decide)) rfl rfl (Nat.le_of_ble_eq_true rfl) dX8_next_119 (fun H locs hP hD hS => ?_)
                        refine zs_0 (y := (a0, .inr (8, [a0g_0, Value.ref a0_1, a0g_2, Value.int a0_3, Value.int j5l1, Value.int j67l1, Value.int a0_6, Value.int 0, Value.int j67a0_8, a0g_9, a0g_10, a0g_11, Value.ref a0_12, a0g_13, a0g_14, a0g_15, a0g_16, a0g_17, a0g_18, a0g_19, a0g_20, a0g_21, a0g_22, a0g_23, a0g_24, a0g_25, a0g_26, a0g_27, a0g_28, a0g_29, a0g_30, a0g_31, a0g_32, a0g_33, a0g_34, a0g_35, a0g_36, a0g_37, a0g_38, a0g_39]))) hP hD rfl (fun hP hD => ?_)
                        refine lv_aload_n hx hb dX8_next_122 rfl (lv_at hl 0 rfl) ?_
                        refine lv_aload_n hx hb dX8_next_123 rfl (lv_at hl 0 rfl) ?_
                        refine va_get (D := (dC, dI)) (ci := 8) (v := .int j67a0_8) (C := RX8) (T := TX8) (N := 40) hx hb hts zi_X8_next_8 hown hK hP 0 rfl rfl 8 (by decide) (hts (.fieldLink RX8 81 "WaxTurnsModel" "nameSize" "I") (List.mem_cons_of_mem _ (List.mem_append_left _ (List.mem_of_getElem? (i := 2) rfl)))) (fun _ h9 => h9) rfl dX8_next_124 ?_
                        refine lv_bipush (v := 8) hx hb dX8_next_127 zk_bipush_8 ?_
                        refine lv_icmp_le (tgt := 136) hx hb dX8_next_129 (by decide) (fun c129 => ?_) (fun c129 => ?_)
                        · have gc129 := ai_le c129
                          have u129t_j67a0_8 : j67a0_8.toInt ≤ (8 : Int) := Int.le_trans gc129 zq28
                          have hF0 := hF0.trans (if_pos (show j67a0_8.toInt ≤ 8 from gc129))
                          refine lv_iconst (v := 2) hx hb dX8_next_136 zk_iconst_2 ?_
                          refine va_put (D := (dC, dI)) (ci := 8) (v := .int 2) (ty := .int) (C := RX8) (T := TX8) (N := 40) hx hb hts zi_X8_next_8 tyX8 tyX8_ok nmX8 hown hK hP hD hS 0 rfl rfl 6 (by decide) (hts (.fieldLink RX8 87 "WaxTurnsModel" "token" "I") (List.mem_cons_of_mem _ (List.mem_append_left _ (List.mem_of_getElem? (i := 4) rfl)))) (fun _ h9 => h9) rfl (tyX8_ok 6 (by decide)) rfl rfl (Nat.le_of_ble_eq_true rfl) dX8_next_137 (fun H locs hP hD hS => ?_)
                          refine zs_0 (y := (a0, .inr (8, [a0g_0, Value.ref a0_1, a0g_2, Value.int a0_3, Value.int j5l1, Value.int j67l1, Value.int 2, Value.int 0, Value.int j67a0_8, a0g_9, a0g_10, a0g_11, Value.ref a0_12, a0g_13, a0g_14, a0g_15, a0g_16, a0g_17, a0g_18, a0g_19, a0g_20, a0g_21, a0g_22, a0g_23, a0g_24, a0g_25, a0g_26, a0g_27, a0g_28, a0g_29, a0g_30, a0g_31, a0g_32, a0g_33, a0g_34, a0g_35, a0g_36, a0g_37, a0g_38, a0g_39]))) hP hD rfl (fun hP hD => ?_)
                          refine lv_goto (tgt := 241) hx hb dX8_next_140 (by decide) ?_
                          have hFe : FX = (j5l1.toInt, j67l1.toInt, 2, 0, j67a0_8.toInt, (fl_A j67a0_12_a)) := hF0
                          exact W.vret hx hb hr (fun t ht hW => ⟨⟨(), rfl, trivial, j5l1, j67l1, 2, 0, j67a0_8, j67a0_12_a, ⟨bj67l1_l, bj67l1_u⟩, ⟨bj67a0_8_l, Int.le_trans u129t_j67a0_8 (by decide)⟩, (fun _ => u129t_j67a0_8), ⟨by omega, Or.inl (by decide)⟩, hFe, by rw [ht]; exact hP, va_K.moved hW.alike hK, hD⟩, hS.F ht⟩) hS.2.2 dX8_next_241
                        · have gc129 := ai_nle c129
                          have l129f_j67a0_8 : (9 : Int) ≤ j67a0_8.toInt := ai_ltlo gc129 zq118
                          have hF0 := hF0.trans (if_neg (show ¬ (j67a0_8.toInt ≤ 8) from Int.not_le.mpr gc129))
                          refine lv_iconst (v := 1) hx hb dX8_next_132 zk_iconst_1 ?_
                          refine lv_goto (tgt := 137) hx hb dX8_next_133 (by decide) ?_
                          refine va_put (D := (dC, dI)) (ci := 8) (v := .int 1) (ty := .int) (C := RX8) (T := TX8) (N := 40) hx hb hts zi_X8_next_8 tyX8 tyX8_ok nmX8 hown hK hP hD hS 0 rfl rfl 6 (by decide) (hts (.fieldLink RX8 87 "WaxTurnsModel" "token" "I") (List.mem_cons_of_mem _ (List.mem_append_left _ (List.mem_of_getElem? (i := 4) rfl)))) (fun _ h9 => h9) rfl (tyX8_ok 6 (by decide)) rfl rfl (Nat.le_of_ble_eq_true rfl) dX8_next_137 (fun H locs hP hD hS => ?_)
                          refine zs_0 (y := (a0, .inr (8, [a0g_0, Value.ref a0_1, a0g_2, Value.int a0_3, Value.int j5l1, Value.int j67l1, Value.int 1, Value.int 0, Value.int j67a0_8, a0g_9, a0g_10, a0g_11, Value.ref a0_12, a0g_13, a0g_14, a0g_15, a0g_16, a0g_17, a0g_18, a0g_19, a0g_20, a0g_21, a0g_22, a0g_23, a0g_24, a0g_25, a0g_26, a0g_27, a0g_28, a0g_29, a0g_30, a0g_31, a0g_32, a0g_33, a0g_34, a0g_35, a0g_36, a0g_37, a0g_38, a0g_39]))) hP hD rfl (fun hP hD => ?_)
                          refine lv_goto (tgt := 241) hx hb dX8_next_140 (by decide) ?_
                          have hFe : FX = (j5l1.toInt, j67l1.toInt, 1, 0, j67a0_8.toInt, (fl_A j67a0_12_a)) := hF0
                          exact W.vret hx hb hr (fun t ht hW => ⟨⟨(), rfl, trivial, j5l1, j67l1, 1, 0, j67a0_8, j67a0_12_a, ⟨bj67l1_l, bj67l1_u⟩, ⟨Int.le_trans (by decide) l129f_j67a0_8, bj67a0_8_u⟩, (fun h9 => absurd h9 (by decide)), ⟨by omega, Or.inl (by decide)⟩, hFe, by rw [ht]; exact hP, va_K.moved hW.alike hK, hD⟩, hS.F ht⟩) hS.2.2 dX8_next_241
                    · have h69 := hw
                      have u69k1_j67l1 : j67l1.toInt ≤ (899 : Int) := by have h1 := h69; have h2 := ba0_3_u; omega
                      have hF1 := hF1.trans (if_neg (show ¬ (a0_3.toInt ≤ j67l1.toInt) from Int.not_le.mpr h69))
                      refine va_calli (va_runS (As := [.int r69]) (rest := []) ⟨hx, hb, hml, hown, hts⟩ (f_X8_isSmall l dC dI H.size r69 ) (va_cwS 1 hts gX8_next_X8_isSmall rfl rfl rfl zd_X8_isSmall.2 ⟨Nat.le_of_ble_eq_true rfl, Nat.le_of_ble_eq_true rfl⟩) ⟨ax_blind (fun _ _ _ _ _ => trivial), ax_pre (zp_P0 hP) (zp_K hK) (zp_D0 hD) (fun _ _ => trivial)⟩ rfl rfl hl.1 rfl (lv_room (Nat.le_of_ble_eq_true rfl)) dX8_next_72 ⟨Nat.le_of_ble_eq_true rfl, Nat.le_of_ble_eq_true rfl⟩) hS (fun q _ h => zp_F0 hD hS hA q h) (zp_F0 hD hS hA) (fun r72 u t H locs ht hvm hw hB hz1 hk1 hS1 => zo0 hB ht hP hD hk1 (zp_F0 hD hS hA) hS1 (fun hP hK1 hD hS => ?_))
                      obtain ⟨hw, hfr72⟩ := hw
                      have hc72 : Ff_X8_isSmall r69.toInt = r72.toInt := hfr72.symm
                      have hF1 := hF1.trans (fl_lt_eq hc72.symm)
                      rcases hw with hw | hw
                      · obtain ⟨hw, h72_0, h72_1⟩ := hw
                        subst hw
                        have l72k0_r69 : (97 : Int) ≤ r69.toInt := h72_0
                        have u72k0_r69 : r69.toInt ≤ (122 : Int) := h72_1
                        have hF1 := hF1.trans (if_pos (by decide))
                        refine lv_if_eq (tgt := 117) hx hb dX8_next_75 (by decide) (fun c75 => absurd c75 (by decide +kernel)) (fun _ => ?_)
                        refine lv_aload_n hx hb dX8_next_78 rfl (lv_at hl 0 rfl) ?_
                        refine va_get (D := (dC, dI)) (ci := 8) (v := .int j67a0_8) (C := RX8) (T := TX8) (N := 40) hx hb hts zi_X8_next_8 hown hK hP 0 rfl rfl 8 (by decide) (hts (.fieldLink RX8 81 "WaxTurnsModel" "nameSize" "I") (List.mem_cons_of_mem _ (List.mem_append_left _ (List.mem_of_getElem? (i := 2) rfl)))) (fun _ h9 => h9) rfl dX8_next_79 ?_
                        refine lv_bipush (v := 8) hx hb dX8_next_82 zk_bipush_8 ?_
                        have J101 : ∀ (j101a0_12_a : Nat → Int32) (H : Heap) (locs : List Loc) (ls : Array Slot), (SX67 = Gf_X8_next_101_4 j67l1.toInt j67a0_8.toInt (fl_A j101a0_12_a)) → va_P (dC, dI) vwCl [(a0, .inr (8, [a0g_0, Value.ref a0_1, a0g_2, Value.int a0_3, Value.int j5l1, Value.int a0_5, Value.int a0_6, Value.int 0, Value.int j67a0_8, a0g_9, a0g_10, a0g_11, Value.ref a0_12, a0g_13, a0g_14, a0g_15, a0g_16, a0g_17, a0g_18, a0g_19, a0g_20, a0g_21, a0g_22, a0g_23, a0g_24, a0g_25, a0g_26, a0g_27, a0g_28, a0g_29, a0g_30, a0g_31, a0g_32, a0g_33, a0g_34, a0g_35, a0g_36, a0g_37, a0g_38, a0g_39])), (a0_1, .inl (ka0_1, 900, .inl (fa0_1))), (a0_12, .inl (ka0_12, 8, .inl (j101a0_12_a)))] H → va_D A [(a0, .inr (8, [a0g_0, Value.ref a0_1, a0g_2, Value.int a0_3, Value.int j5l1, Value.int a0_5, Value.int a0_6, Value.int 0, Value.int j67a0_8, a0g_9, a0g_10, a0g_11, Value.ref a0_12, a0g_13, a0g_14, a0g_15, a0g_16, a0g_17, a0g_18, a0g_19, a0g_20, a0g_21, a0g_22, a0g_23, a0g_24, a0g_25, a0g_26, a0g_27, a0g_28, a0g_29, a0g_30, a0g_31, a0g_32, a0g_33, a0g_34, a0g_35, a0g_36, a0g_37, a0g_38, a0g_39])), (a0_1, .inl (ka0_1, 900, .inl (fa0_1))), (a0_12, .inl (ka0_12, 8, .inl (j101a0_12_a)))] → va_S A s.heap H locs → lv_has ls 4 [(0, .ref a0), (1, .int j67l1)] → K H locs (F0 m 101 ls []) := by
                          intro j101a0_12_a H locs ls  hF1 hP hD hS hl
                          refine (hK0 _ _ _).mpr ?_
                          have hF1 := hF1.trans (Gf_X8_next_101_4.eq_1 j67l1.toInt j67a0_8.toInt (fl_A j101a0_12_a))
                          refine lv_aload_n hx hb dX8_next_101 rfl (lv_at hl 0 rfl) ?_
                          refine lv_dup hx hb dX8_next_102 rfl ?_
                          refine va_get (D := (dC, dI)) (ci := 8) (v := .int j67a0_8) (C := RX8) (T := TX8) (N := 40) hx hb hts zi_X8_next_8 hown hK hP 0 rfl rfl 8 (by decide) (hts (.fieldLink RX8 81 "WaxTurnsModel" "nameSize" "I") (List.mem_cons_of_mem _ (List.mem_append_left _ (List.mem_of_getElem? (i := 2) rfl)))) (fun _ h9 => h9) rfl dX8_next_103 ?_
                          have u103z_j67a0_8 : j67a0_8.toInt ≤ (899 : Int) := by omega
                          refine lv_iconst (v := 1) hx hb dX8_next_106 zk_iconst_1 ?_
                          refine lv_iadd hx hb dX8_next_107 ?_
                          refine lv_topi (fun x107 ex107 => ?_)
                          have qx107 : x107.toInt = j67a0_8.toInt + (1 : Int32).toInt := ai_add ex107 ⟨bj67a0_8_l, u103z_j67a0_8⟩ ⟨zq1, zq0⟩ (by decide) (by decide)
                          have bx107 : (1 : Int) ≤ x107.toInt ∧ x107.toInt ≤ 900 := ⟨by rw [qx107]; exact Int.add_le_add bj67a0_8_l zq1, by rw [qx107]; exact Int.add_le_add u103z_j67a0_8 zq0⟩
                          have wx107 : x107.toInt = j67a0_8.toInt + 1 := qx107
                          have hF1 := hF1.trans (fl_lt_eq (show x107.toInt = j67a0_8.toInt + 1 from qx107))
                          refine va_put (D := (dC, dI)) (ci := 8) (v := .int x107) (ty := .int) (C := RX8) (T := TX8) (N := 40) hx hb hts zi_X8_next_8 tyX8 tyX8_ok nmX8 hown hK hP hD hS 0 rfl rfl 8 (by decide) (hts (.fieldLink RX8 81 "WaxTurnsModel" "nameSize" "I") (List.mem_cons_of_mem _ (List.mem_append_left _ (List.mem_of_getElem? (i := 2) rfl)))) (fun _ h9 => h9) rfl (tyX8_ok 8 (by decide)) rfl rfl (Nat.le_of_ble_eq_true rfl) dX8_next_108 (fun H locs hP hD hS => ?_)
                          refine zs_0 (y := (a0, .inr (8, [a0g_0, Value.ref a0_1, a0g_2, Value.int a0_3, Value.int j5l1, Value.int a0_5, Value.int a0_6, Value.int 0, Value.int x107, a0g_9, a0g_10, a0g_11, Value.ref a0_12, a0g_13, a0g_14, a0g_15, a0g_16, a0g_17, a0g_18, a0g_19, a0g_20, a0g_21, a0g_22, a0g_23, a0g_24, a0g_25, a0g_26, a0g_27, a0g_28, a0g_29, a0g_30, a0g_31, a0g_32, a0g_33, a0g_34, a0g_35, a0g_36, a0g_37, a0g_38, a0g_39]))) hP hD rfl (fun hP hD => ?_)
                          obtain ⟨x111, ex111⟩ : ∃ y : Int32, y = j67l1 + Int32.ofInt 1 := ⟨_, rfl⟩
                          have qx111 : x111.toInt = j67l1.toInt + 1 := ai_inc ex111 (by decide) (by decide) u69k1_j67l1 (by decide)
                          have bx111 : (1 : Int) ≤ x111.toInt ∧ x111.toInt ≤ 900 := ⟨by rw [qx111]; exact Int.add_le_add bj67l1_l (Int.le_refl _), by rw [qx111]; exact Int.add_le_add u69k1_j67l1 (Int.le_refl _)⟩
                          refine lv_iinc (v := x111) (lv' := [(1, .int x111), (0, .ref a0)]) hx hb dX8_next_111 hl (k := 1) rfl ex111.symm (by decide) rfl (fun ls hl => ?_)
                          have hF1 := hF1.trans (fl_lt_eq (show x111.toInt = j67l1.toInt + 1 from qx111))
                          refine lv_goto (tgt := 67) hx hb dX8_next_114 (by decide) ?_
                          exact (hK0 _ _ _).mp (ih67 x111 x107 j101a0_12_a _ _ _ (by first | exact zg_s hm67 qx111 | (have h0 := qx111; omega)) (Int.le_trans zq4 bx111.1) bx111.2 (Int.le_trans zq4 bx107.1) bx107.2 (by omega) (by omega) (hF0.trans (fl_wh_l (hSX67.trans hF1))) hP hD hS (lv_sub hl [1, 0] rfl))
                        refine lv_icmp_ge (tgt := 101) hx hb dX8_next_84 (by decide) (fun c84 => ?_) (fun c84 => ?_)
                        · have gc84 := ai_le c84
                          have l84t_j67a0_8 : (8 : Int) ≤ j67a0_8.toInt := Int.le_trans zq118 gc84
                          have hF1 := hF1.trans (if_pos (show 8 ≤ j67a0_8.toInt from gc84))
                          exact (hK0 _ _ _).mp (J101 j67a0_12_a _ _ _   hF1 hP hD hS (lv_sub hl [0, 1] rfl))
                        · have gc84 := ai_nle c84
                          have u84f_j67a0_8 : j67a0_8.toInt ≤ (7 : Int) := ai_lthi gc84 zq28
                          have hF1 := hF1.trans (if_neg (show ¬ (8 ≤ j67a0_8.toInt) from Int.not_le.mpr gc84))
                          refine lv_aload_n hx hb dX8_next_87 rfl (lv_at hl 0 rfl) ?_
                          refine va_get (D := (dC, dI)) (ci := 8) (v := .ref a0_12) (C := RX8) (T := TX8) (N := 40) hx hb hts zi_X8_next_8 hown hK hP 0 rfl rfl 12 (by decide) (hts (.fieldLink RX8 17 "WaxTurnsModel" "letters" "[I") (List.mem_cons_of_mem _ (List.mem_append_left _ (List.mem_of_getElem? (i := 5) rfl)))) (fun _ h9 => h9) rfl dX8_next_88 ?_
                          refine lv_aload_n hx hb dX8_next_91 rfl (lv_at hl 0 rfl) ?_
                          refine va_get (D := (dC, dI)) (ci := 8) (v := .int j67a0_8) (C := RX8) (T := TX8) (N := 40) hx hb hts zi_X8_next_8 hown hK hP 0 rfl rfl 8 (by decide) (hts (.fieldLink RX8 81 "WaxTurnsModel" "nameSize" "I") (List.mem_cons_of_mem _ (List.mem_append_left _ (List.mem_of_getElem? (i := 2) rfl)))) (fun _ h9 => h9) rfl dX8_next_92 ?_
                          refine lv_aload_n hx hb dX8_next_95 rfl (lv_at hl 0 rfl) ?_
                          refine lv_iload_n hx hb dX8_next_96 rfl (lv_at hl 1 rfl) ?_
                          have hKc := hK.sub (tys' := [(ka0_1, .int)]) [0] rfl
                          refine va_calli (va_runV (As := [.int j67l1]) (rest := [.int j67a0_8, .ref a0_12]) ⟨hx, hb, hml, hown, hts⟩ (f_X8_see l dC dI H.size a0 j67l1 a0g_0 a0g_2 (Value.int j5l1) (Value.int a0_5) (Value.int a0_6) (Value.int 0) (Value.int j67a0_8) a0g_9 a0g_10 a0g_11 (Value.ref a0_12) a0g_13 a0g_14 a0g_15 a0g_16 a0g_17 a0g_18 a0g_19 a0g_20 a0g_21 a0g_22 a0g_23 a0g_24 a0g_25 a0g_26 a0g_27 a0g_28 a0g_29 a0g_30 a0g_31 a0g_32 a0g_33 a0g_34 a0g_35 a0g_36 a0g_37 a0g_38 a0g_39 a0_1 a0_3 ka0_1 fa0_1 bj67l1_l (Int.le_trans u69k1_j67l1 zq147) ba0_3_l ba0_3_u) (cwV 1 hts gX8_next_X8_see rfl rfl rfl zd_X8_see ⟨Nat.le_of_ble_eq_true rfl, Nat.le_of_ble_eq_true rfl⟩) ⟨ax_blind (fun _ _ _ _ _ => trivial), zr_8 hKc (zp_P2 hP) (q0 := 0) rfl, ax_pre (zp_P2 hP) hKc (zp_D2 hD) (fun _ _ => trivial)⟩ rfl rfl hl.1 rfl (lv_room (Nat.le_of_ble_eq_true rfl)) dX8_next_97 ⟨Nat.le_of_ble_eq_true rfl, Nat.le_of_ble_eq_true rfl⟩) hS (fun q _ h => zp_F2 hD hS hA q h) (zp_F2 hD hS hA) (fun r97 u t H locs ht hvm hw hB hz1 hk1 hS1 => zo2 hB ht hP hD hk1 (zp_F2 hD hS hA) hS1 (fun hP hK1 hD hS => ?_))
                          obtain ⟨hw, hfr97⟩ := hw
                          have hc97 : Ff_X8_see j67l1.toInt a0_3.toInt (fl_A fa0_1) = r97.toInt := hfr97.symm
                          have hF1 := hF1.trans (fl_lt_eq hc97.symm)
                          rcases hw with hw | hw
                          · obtain ⟨hw, h97⟩ := hw
                            subst hw
                            have hF1 := hF1.trans (if_pos (show a0_3.toInt ≤ j67l1.toInt from h97))
                            refine va_iast hx hb hK hP hD hS 2 1 rfl rfl (ai_in bj67a0_8_l u84f_j67a0_8 (by decide) (by decide)) dX8_next_100 (fun H locs hP hD hS => ?_)
                            obtain ⟨f100, ef100⟩ : ∃ g9 : Nat → Int32, g9 = upd j67a0_12_a (j67a0_8 : Int32).toNatClampNeg ((-1) : Int32) := ⟨_, rfl⟩
                            refine zs_2 (y := (a0_12, .inl (ka0_12, 8, .inl (f100)))) hP hD (by rw [ef100]) (fun hP hD => ?_)
                            have fqf100 := fl_up_eq ef100
                            have hF1 := hF1.trans (fl_lt_eq (show (fl_A f100) = fl_up (fl_A j67a0_12_a) (j67a0_8.toInt.toNat) (-1) from fqf100))
                            exact (hK0 _ _ _).mp (J101 f100 _ _ _   hF1 hP hD hS (lv_sub hl [0, 1] rfl))
                          · have h97 := hw
                            have u97k1_j67l1 : j67l1.toInt ≤ (899 : Int) := u69k1_j67l1
                            have hF1 := hF1.trans (if_neg (show ¬ (a0_3.toInt ≤ j67l1.toInt) from Int.not_le.mpr h97))
                            refine va_iast hx hb hK hP hD hS 2 1 rfl rfl (ai_in bj67a0_8_l u84f_j67a0_8 (by decide) (by decide)) dX8_next_100 (fun H locs hP hD hS => ?_)
                            obtain ⟨f100, ef100⟩ : ∃ g9 : Nat → Int32, g9 = upd j67a0_12_a (j67a0_8 : Int32).toNatClampNeg r97 := ⟨_, rfl⟩
                            refine zs_2 (y := (a0_12, .inl (ka0_12, 8, .inl (f100)))) hP hD (by rw [ef100]) (fun hP hD => ?_)
                            have fqf100 := fl_up_eq ef100
                            have hF1 := hF1.trans (fl_lt_eq (show (fl_A f100) = fl_up (fl_A j67a0_12_a) (j67a0_8.toInt.toNat) r97.toInt from fqf100))
                            exact (hK0 _ _ _).mp (J101 f100 _ _ _   hF1 hP hD hS (lv_sub hl [0, 1] rfl))
                      · subst hw
                        have hF1 := hF1.trans (if_neg (by decide))
                        refine lv_if_eq (tgt := 117) hx hb dX8_next_75 (by decide) (fun _ => ?_) (fun c75 => absurd (by decide +kernel) c75)
                        have hF0 := hF0.trans (fl_wh_r (hSX67.trans hF1))
                        refine lv_aload_n hx hb dX8_next_117 rfl (lv_at hl 0 rfl) ?_
                        refine lv_iload_n hx hb dX8_next_118 rfl (lv_at hl 1 rfl) ?_
                        refine va_put (D := (dC, dI)) (ci := 8) (v := .int j67l1) (ty := .int) (C := RX8) (T := TX8) (N := 40) hx hb hts zi_X8_next_8 tyX8 tyX8_ok nmX8 hown hK hP hD hS 0 rfl rfl 5 (by decide) (hts (.fieldLink RX8 71 "WaxTurnsModel" "end" "I") (List.mem_cons_of_mem _ (List.mem_append_left _ (List.mem_of_getElem? (i := 0) rfl)))) (fun _ h9 => h9) rfl (tyX8_ok 5 (by decide)) rfl rfl (Nat.le_of_ble_eq_true rfl) dX8_next_119 (fun H locs hP hD hS => ?_)
                        refine zs_0 (y := (a0, .inr (8, [a0g_0, Value.ref a0_1, a0g_2, Value.int a0_3, Value.int j5l1, Value.int j67l1, Value.int a0_6, Value.int 0, Value.int j67a0_8, a0g_9, a0g_10, a0g_11, Value.ref a0_12, a0g_13, a0g_14, a0g_15, a0g_16, a0g_17, a0g_18, a0g_19, a0g_20, a0g_21, a0g_22, a0g_23, a0g_24, a0g_25, a0g_26, a0g_27, a0g_28, a0g_29, a0g_30, a0g_31, a0g_32, a0g_33, a0g_34, a0g_35, a0g_36, a0g_37, a0g_38, a0g_39]))) hP hD rfl (fun hP hD => ?_)
                        refine lv_aload_n hx hb dX8_next_122 rfl (lv_at hl 0 rfl) ?_
                        refine lv_aload_n hx hb dX8_next_123 rfl (lv_at hl 0 rfl) ?_
                        refine va_get (D := (dC, dI)) (ci := 8) (v := .int j67a0_8) (C := RX8) (T := TX8) (N := 40) hx hb hts zi_X8_next_8 hown hK hP 0 rfl rfl 8 (by decide) (hts (.fieldLink RX8 81 "WaxTurnsModel" "nameSize" "I") (List.mem_cons_of_mem _ (List.mem_append_left _ (List.mem_of_getElem? (i := 2) rfl)))) (fun _ h9 => h9) rfl dX8_next_124 ?_
                        refine lv_bipush (v := 8) hx hb dX8_next_127 zk_bipush_8 ?_
                        refine lv_icmp_le (tgt := 136) hx hb dX8_next_129 (by decide) (fun c129 => ?_) (fun c129 => ?_)
                        · have gc129 := ai_le c129
                          have u129t_j67a0_8 : j67a0_8.toInt ≤ (8 : Int) := Int.le_trans gc129 zq28
                          have hF0 := hF0.trans (if_pos (show j67a0_8.toInt ≤ 8 from gc129))
                          refine lv_iconst (v := 2) hx hb dX8_next_136 zk_iconst_2 ?_
                          refine va_put (D := (dC, dI)) (ci := 8) (v := .int 2) (ty := .int) (C := RX8) (T := TX8) (N := 40) hx hb hts zi_X8_next_8 tyX8 tyX8_ok nmX8 hown hK hP hD hS 0 rfl rfl 6 (by decide) (hts (.fieldLink RX8 87 "WaxTurnsModel" "token" "I") (List.mem_cons_of_mem _ (List.mem_append_left _ (List.mem_of_getElem? (i := 4) rfl)))) (fun _ h9 => h9) rfl (tyX8_ok 6 (by decide)) rfl rfl (Nat.le_of_ble_eq_true rfl) dX8_next_137 (fun H locs hP hD hS => ?_)
                          refine zs_0 (y := (a0, .inr (8, [a0g_0, Value.ref a0_1, a0g_2, Value.int a0_3, Value.int j5l1, Value.int j67l1, Value.int 2, Value.int 0, Value.int j67a0_8, a0g_9, a0g_10, a0g_11, Value.ref a0_12, a0g_13, a0g_14, a0g_15, a0g_16, a0g_17, a0g_18, a0g_19, a0g_20, a0g_21, a0g_22, a0g_23, a0g_24, a0g_25, a0g_26, a0g_27, a0g_28, a0g_29, a0g_30, a0g_31, a0g_32, a0g_33, a0g_34, a0g_35, a0g_36, a0g_37, a0g_38, a0g_39]))) hP hD rfl (fun hP hD => ?_)
                          refine lv_goto (tgt := 241) hx hb dX8_next_140 (by decide) ?_
                          have hFe : FX = (j5l1.toInt, j67l1.toInt, 2, 0, j67a0_8.toInt, (fl_A j67a0_12_a)) := hF0
                          exact W.vret hx hb hr (fun t ht hW => ⟨⟨(), rfl, trivial, j5l1, j67l1, 2, 0, j67a0_8, j67a0_12_a, ⟨bj67l1_l, Int.le_trans u69k1_j67l1 (by decide)⟩, ⟨bj67a0_8_l, Int.le_trans u129t_j67a0_8 (by decide)⟩, (fun _ => u129t_j67a0_8), ⟨by omega, Or.inl (by decide)⟩, hFe, by rw [ht]; exact hP, va_K.moved hW.alike hK, hD⟩, hS.F ht⟩) hS.2.2 dX8_next_241
                        · have gc129 := ai_nle c129
                          have l129f_j67a0_8 : (9 : Int) ≤ j67a0_8.toInt := ai_ltlo gc129 zq118
                          have hF0 := hF0.trans (if_neg (show ¬ (j67a0_8.toInt ≤ 8) from Int.not_le.mpr gc129))
                          refine lv_iconst (v := 1) hx hb dX8_next_132 zk_iconst_1 ?_
                          refine lv_goto (tgt := 137) hx hb dX8_next_133 (by decide) ?_
                          refine va_put (D := (dC, dI)) (ci := 8) (v := .int 1) (ty := .int) (C := RX8) (T := TX8) (N := 40) hx hb hts zi_X8_next_8 tyX8 tyX8_ok nmX8 hown hK hP hD hS 0 rfl rfl 6 (by decide) (hts (.fieldLink RX8 87 "WaxTurnsModel" "token" "I") (List.mem_cons_of_mem _ (List.mem_append_left _ (List.mem_of_getElem? (i := 4) rfl)))) (fun _ h9 => h9) rfl (tyX8_ok 6 (by decide)) rfl rfl (Nat.le_of_ble_eq_true rfl) dX8_next_137 (fun H locs hP hD hS => ?_)
                          refine zs_0 (y := (a0, .inr (8, [a0g_0, Value.ref a0_1, a0g_2, Value.int a0_3, Value.int j5l1, Value.int j67l1, Value.int 1, Value.int 0, Value.int j67a0_8, a0g_9, a0g_10, a0g_11, Value.ref a0_12, a0g_13, a0g_14, a0g_15, a0g_16, a0g_17, a0g_18, a0g_19, a0g_20, a0g_21, a0g_22, a0g_23, a0g_24, a0g_25, a0g_26, a0g_27, a0g_28, a0g_29, a0g_30, a0g_31, a0g_32, a0g_33, a0g_34, a0g_35, a0g_36, a0g_37, a0g_38, a0g_39]))) hP hD rfl (fun hP hD => ?_)
                          refine lv_goto (tgt := 241) hx hb dX8_next_140 (by decide) ?_
                          have hFe : FX = (j5l1.toInt, j67l1.toInt, 1, 0, j67a0_8.toInt, (fl_A j67a0_12_a)) := hF0
                          exact W.vret hx hb hr (fun t ht hW => ⟨⟨(), rfl, trivial, j5l1, j67l1, 1, 0, j67a0_8, j67a0_12_a, ⟨bj67l1_l, Int.le_trans u69k1_j67l1 (by decide)⟩, ⟨Int.le_trans (by decide) l129f_j67a0_8, bj67a0_8_u⟩, (fun h9 => absurd h9 (by decide)), ⟨by omega, Or.inl (by decide)⟩, hFe, by rw [ht]; exact hP, va_K.moved hW.alike hK, hD⟩, hS.F ht⟩) hS.2.2 dX8_next_241
                refine lv_iload_n hx hb dX8_next_143 rfl (lv_at hl 0 rfl) ?_
                refine va_calli (va_runS (As := [.int r28]) (rest := []) ⟨hx, hb, hml, hown, hts⟩ (f_X8_isDigit l dC dI H.size r28 ) (va_cwS 1 hts gX8_next_X8_isDigit rfl rfl rfl zd_X8_isDigit.2 ⟨Nat.le_of_ble_eq_true rfl, Nat.le_of_ble_eq_true rfl⟩) ⟨ax_blind (fun _ _ _ _ _ => trivial), ax_pre (zp_P0 hP) (zp_K hK) (zp_D0 hD) (fun _ _ => trivial)⟩ rfl rfl hl.1 rfl (lv_room (Nat.le_of_ble_eq_true rfl)) dX8_next_144 ⟨Nat.le_of_ble_eq_true rfl, Nat.le_of_ble_eq_true rfl⟩) hS (fun q _ h => zp_F0 hD hS hA q h) (zp_F0 hD hS hA) (fun r144 u t H locs ht hvm hw hB hz1 hk1 hS1 => zo0 hB ht hP hD hk1 (zp_F0 hD hS hA) hS1 (fun hP hK1 hD hS => ?_))
                obtain ⟨hw, hfr144⟩ := hw
                have hc144 : Ff_X8_isDigit r28.toInt = r144.toInt := hfr144.symm
                have hF0 := hF0.trans (fl_lt_eq hc144.symm)
                rcases hw with hw | hw
                · obtain ⟨hw, h144_0, h144_1⟩ := hw
                  subst hw
                  have l144k0_r28 : (48 : Int) ≤ r28.toInt := h144_0
                  have u144k0_r28 : r28.toInt ≤ (57 : Int) := h144_1
                  have hF0 := hF0.trans (if_pos (by decide))
                  refine lv_if_eq (tgt := 219) hx hb dX8_next_147 (by decide) (fun c147 => absurd c147 (by decide +kernel)) (fun _ => ?_)
                  refine lv_iconst (v := 0) hx hb dX8_next_150 zk_iconst_0 ?_
                  refine lv_istore_n (lv' := [(3, .int 0), (2, .int r28), (0, .ref a0), (1, .int j5l1)]) hx hb dX8_next_151 rfl hl (by decide) rfl (fun ls hl => ?_)
                  have J152 : ∀ (n : Nat) (j152l3 : Int32) (j152l1 : Int32) (j152a0_7 : Int32) (H : Heap) (locs : List Loc) (ls : Array Slot), (901 : Int) - j152l1.toInt ≤ (n : Int) → (0 : Int) ≤ j152l1.toInt → j152l1.toInt ≤ (900 : Int) → (a0_5.toInt ≤ j152l1.toInt) → (FX = fl_wh (fun t9 => Sf_X8_next_152_2 a0_3.toInt (fl_A fa0_1) (fl_A fa0_12) j5l1.toInt t9.1 t9.2.1 t9.2.2) (0, 0, 0, 0, 0, (fun _ => 0)) n (j152l3.toInt, j152l1.toInt, j152a0_7.toInt)) → va_P (dC, dI) vwCl [(a0, .inr (8, [a0g_0, Value.ref a0_1, a0g_2, Value.int a0_3, Value.int j5l1, Value.int a0_5, Value.int a0_6, Value.int j152a0_7, Value.int 0, a0g_9, a0g_10, a0g_11, Value.ref a0_12, a0g_13, a0g_14, a0g_15, a0g_16, a0g_17, a0g_18, a0g_19, a0g_20, a0g_21, a0g_22, a0g_23, a0g_24, a0g_25, a0g_26, a0g_27, a0g_28, a0g_29, a0g_30, a0g_31, a0g_32, a0g_33, a0g_34, a0g_35, a0g_36, a0g_37, a0g_38, a0g_39])), (a0_1, .inl (ka0_1, 900, .inl (fa0_1))), (a0_12, .inl (ka0_12, 8, .inl (fa0_12)))] H → va_D A [(a0, .inr (8, [a0g_0, Value.ref a0_1, a0g_2, Value.int a0_3, Value.int j5l1, Value.int a0_5, Value.int a0_6, Value.int j152a0_7, Value.int 0, a0g_9, a0g_10, a0g_11, Value.ref a0_12, a0g_13, a0g_14, a0g_15, a0g_16, a0g_17, a0g_18, a0g_19, a0g_20, a0g_21, a0g_22, a0g_23, a0g_24, a0g_25, a0g_26, a0g_27, a0g_28, a0g_29, a0g_30, a0g_31, a0g_32, a0g_33, a0g_34, a0g_35, a0g_36, a0g_37, a0g_38, a0g_39])), (a0_1, .inl (ka0_1, 900, .inl (fa0_1))), (a0_12, .inl (ka0_12, 8, .inl (fa0_12)))] → va_S A s.heap H locs → lv_has ls 4 [(0, .ref a0), (1, .int j152l1), (3, .int j152l3)] → K H locs (F0 m 152 ls []) := by
                    intro n
                    induction n with
                    | zero =>
                      intro j152l3 j152l1 j152a0_7 H locs ls hm bj152l1_l bj152l1_u ke152 hF0 hP hD hS hl
                      first | exact zg_0 hm bj152l1_u (by decide) | (have h8 := ai_min j152l1; have h9 := ai_max j152l1; exact absurd hm (by omega))
                    | succ n ih152 =>
                      intro j152l3 j152l1 j152a0_7 H locs ls hm bj152l1_l bj152l1_u ke152 hF0 hP hD hS hl
                      refine (hK0 _ _ _).mpr ?_
                      have hm152 := hm
                      obtain ⟨SX152, hSX152⟩ : ∃ q9, Sf_X8_next_152_2 a0_3.toInt (fl_A fa0_1) (fl_A fa0_12) j5l1.toInt j152l3.toInt j152l1.toInt j152a0_7.toInt = q9 := ⟨_, rfl⟩
                      have hF1 := hSX152.symm.trans (Sf_X8_next_152_2.eq_1 a0_3.toInt (fl_A fa0_1) (fl_A fa0_12) j5l1.toInt j152l3.toInt j152l1.toInt j152a0_7.toInt)
                      refine lv_aload_n hx hb dX8_next_152 rfl (lv_at hl 0 rfl) ?_
                      refine lv_iload_n hx hb dX8_next_153 rfl (lv_at hl 1 rfl) ?_
                      have hKc := hK.sub (tys' := [(ka0_1, .int)]) [0] rfl
                      refine va_calli (va_runV (As := [.int j152l1]) (rest := []) ⟨hx, hb, hml, hown, hts⟩ (f_X8_see l dC dI H.size a0 j152l1 a0g_0 a0g_2 (Value.int j5l1) (Value.int a0_5) (Value.int a0_6) (Value.int j152a0_7) (Value.int 0) a0g_9 a0g_10 a0g_11 (Value.ref a0_12) a0g_13 a0g_14 a0g_15 a0g_16 a0g_17 a0g_18 a0g_19 a0g_20 a0g_21 a0g_22 a0g_23 a0g_24 a0g_25 a0g_26 a0g_27 a0g_28 a0g_29 a0g_30 a0g_31 a0g_32 a0g_33 a0g_34 a0g_35 a0g_36 a0g_37 a0g_38 a0g_39 a0_1 a0_3 ka0_1 fa0_1 bj152l1_l bj152l1_u ba0_3_l ba0_3_u) (cwV 1 hts gX8_next_X8_see rfl rfl rfl zd_X8_see ⟨Nat.le_of_ble_eq_true rfl, Nat.le_of_ble_eq_true rfl⟩) ⟨ax_blind (fun _ _ _ _ _ => trivial), zr_8 hKc (zp_P2 hP) (q0 := 0) rfl, ax_pre (zp_P2 hP) hKc (zp_D2 hD) (fun _ _ => trivial)⟩ rfl rfl hl.1 rfl (lv_room (Nat.le_of_ble_eq_true rfl)) dX8_next_154 ⟨Nat.le_of_ble_eq_true rfl, Nat.le_of_ble_eq_true rfl⟩) hS (fun q _ h => zp_F2 hD hS hA q h) (zp_F2 hD hS hA) (fun r154 u t H locs ht hvm hw hB hz1 hk1 hS1 => zo2 hB ht hP hD hk1 (zp_F2 hD hS hA) hS1 (fun hP hK1 hD hS => ?_))
                      obtain ⟨hw, hfr154⟩ := hw
                      have hc154 : Ff_X8_see j152l1.toInt a0_3.toInt (fl_A fa0_1) = r154.toInt := hfr154.symm
                      have hF1 := hF1.trans (fl_lt_eq hc154.symm)
                      rcases hw with hw | hw
                      · obtain ⟨hw, h154⟩ := hw
                        subst hw
                        have hF1 := hF1.trans (if_pos (show a0_3.toInt ≤ j152l1.toInt from h154))
                        refine va_calli (va_runS (As := [.int (-1)]) (rest := []) ⟨hx, hb, hml, hown, hts⟩ (f_X8_isDigit l dC dI H.size (-1) ) (va_cwS 1 hts gX8_next_X8_isDigit rfl rfl rfl zd_X8_isDigit.2 ⟨Nat.le_of_ble_eq_true rfl, Nat.le_of_ble_eq_true rfl⟩) ⟨ax_blind (fun _ _ _ _ _ => trivial), ax_pre (zp_P0 hP) (zp_K hK) (zp_D0 hD) (fun _ _ => trivial)⟩ rfl rfl hl.1 rfl (lv_room (Nat.le_of_ble_eq_true rfl)) dX8_next_157 ⟨Nat.le_of_ble_eq_true rfl, Nat.le_of_ble_eq_true rfl⟩) hS (fun q _ h => zp_F0 hD hS hA q h) (zp_F0 hD hS hA) (fun r157 u t H locs ht hvm hw hB hz1 hk1 hS1 => zo0 hB ht hP hD hk1 (zp_F0 hD hS hA) hS1 (fun hP hK1 hD hS => ?_))
                        obtain ⟨hw, hfr157⟩ := hw
                        rw [show ((-1) : Int32).toInt = (-1) from by decide] at hfr157
                        have hc157 : Ff_X8_isDigit (-1) = r157.toInt := hfr157.symm
                        have hF1 := hF1.trans (fl_lt_eq hc157.symm)
                        rcases hw with hw | hw
                        · obtain ⟨hw, h157_0, h157_1⟩ := hw
                          subst hw
                          exact absurd h157_0 (by decide)
                        · subst hw
                          have hF1 := hF1.trans (if_neg (by decide))
                          refine lv_if_eq (tgt := 197) hx hb dX8_next_160 (by decide) (fun _ => ?_) (fun c160 => absurd (by decide +kernel) c160)
                          have hF0 := hF0.trans (fl_wh_r (hSX152.trans hF1))
                          refine lv_aload_n hx hb dX8_next_197 rfl (lv_at hl 0 rfl) ?_
                          refine lv_iload_n hx hb dX8_next_198 rfl (lv_at hl 1 rfl) ?_
                          refine va_put (D := (dC, dI)) (ci := 8) (v := .int j152l1) (ty := .int) (C := RX8) (T := TX8) (N := 40) hx hb hts zi_X8_next_8 tyX8 tyX8_ok nmX8 hown hK hP hD hS 0 rfl rfl 5 (by decide) (hts (.fieldLink RX8 71 "WaxTurnsModel" "end" "I") (List.mem_cons_of_mem _ (List.mem_append_left _ (List.mem_of_getElem? (i := 0) rfl)))) (fun _ h9 => h9) rfl (tyX8_ok 5 (by decide)) rfl rfl (Nat.le_of_ble_eq_true rfl) dX8_next_199 (fun H locs hP hD hS => ?_)
                          refine zs_0 (y := (a0, .inr (8, [a0g_0, Value.ref a0_1, a0g_2, Value.int a0_3, Value.int j5l1, Value.int j152l1, Value.int a0_6, Value.int j152a0_7, Value.int 0, a0g_9, a0g_10, a0g_11, Value.ref a0_12, a0g_13, a0g_14, a0g_15, a0g_16, a0g_17, a0g_18, a0g_19, a0g_20, a0g_21, a0g_22, a0g_23, a0g_24, a0g_25, a0g_26, a0g_27, a0g_28, a0g_29, a0g_30, a0g_31, a0g_32, a0g_33, a0g_34, a0g_35, a0g_36, a0g_37, a0g_38, a0g_39]))) hP hD rfl (fun hP hD => ?_)
                          refine lv_aload_n hx hb dX8_next_202 rfl (lv_at hl 0 rfl) ?_
                          refine lv_iload_n hx hb dX8_next_203 rfl (lv_at hl 2 rfl) ?_
                          refine lv_iconst (v := 3) hx hb dX8_next_204 zk_iconst_3 ?_
                          refine lv_icmp_le (tgt := 212) hx hb dX8_next_205 (by decide) (fun c205 => ?_) (fun c205 => ?_)
                          · have gc205 := ai_le c205
                            have u205t_j152l3 : j152l3.toInt ≤ (3 : Int) := Int.le_trans gc205 zq9
                            have hF0 := hF0.trans (if_pos (show j152l3.toInt ≤ 3 from gc205))
                            refine lv_iconst (v := 3) hx hb dX8_next_212 zk_iconst_3 ?_
                            refine va_put (D := (dC, dI)) (ci := 8) (v := .int 3) (ty := .int) (C := RX8) (T := TX8) (N := 40) hx hb hts zi_X8_next_8 tyX8 tyX8_ok nmX8 hown hK hP hD hS 0 rfl rfl 6 (by decide) (hts (.fieldLink RX8 87 "WaxTurnsModel" "token" "I") (List.mem_cons_of_mem _ (List.mem_append_left _ (List.mem_of_getElem? (i := 4) rfl)))) (fun _ h9 => h9) rfl (tyX8_ok 6 (by decide)) rfl rfl (Nat.le_of_ble_eq_true rfl) dX8_next_213 (fun H locs hP hD hS => ?_)
                            refine zs_0 (y := (a0, .inr (8, [a0g_0, Value.ref a0_1, a0g_2, Value.int a0_3, Value.int j5l1, Value.int j152l1, Value.int 3, Value.int j152a0_7, Value.int 0, a0g_9, a0g_10, a0g_11, Value.ref a0_12, a0g_13, a0g_14, a0g_15, a0g_16, a0g_17, a0g_18, a0g_19, a0g_20, a0g_21, a0g_22, a0g_23, a0g_24, a0g_25, a0g_26, a0g_27, a0g_28, a0g_29, a0g_30, a0g_31, a0g_32, a0g_33, a0g_34, a0g_35, a0g_36, a0g_37, a0g_38, a0g_39]))) hP hD rfl (fun hP hD => ?_)
                            refine lv_goto (tgt := 241) hx hb dX8_next_216 (by decide) ?_
                            have hFe : FX = (j5l1.toInt, j152l1.toInt, 3, j152a0_7.toInt, 0, (fl_A fa0_12)) := hF0
                            exact W.vret hx hb hr (fun t ht hW => ⟨⟨(), rfl, trivial, j5l1, j152l1, 3, j152a0_7, 0, fa0_12, ⟨bj152l1_l, bj152l1_u⟩, ⟨zq5, Int.le_trans zq6 (by decide)⟩, (fun h9 => absurd h9 (by decide)), ⟨by omega, Or.inl (by decide)⟩, hFe, by rw [ht]; exact hP, va_K.moved hW.alike hK, hD⟩, hS.F ht⟩) hS.2.2 dX8_next_241
                          · have gc205 := ai_nle c205
                            have l205f_j152l3 : (4 : Int) ≤ j152l3.toInt := ai_ltlo gc205 zq8
                            have hF0 := hF0.trans (if_neg (show ¬ (j152l3.toInt ≤ 3) from Int.not_le.mpr gc205))
                            refine lv_iconst (v := 1) hx hb dX8_next_208 zk_iconst_1 ?_
                            refine lv_goto (tgt := 213) hx hb dX8_next_209 (by decide) ?_
                            refine va_put (D := (dC, dI)) (ci := 8) (v := .int 1) (ty := .int) (C := RX8) (T := TX8) (N := 40) hx hb hts zi_X8_next_8 tyX8 tyX8_ok nmX8 hown hK hP hD hS 0 rfl rfl 6 (by decide) (hts (.fieldLink RX8 87 "WaxTurnsModel" "token" "I") (List.mem_cons_of_mem _ (List.mem_append_left _ (List.mem_of_getElem? (i := 4) rfl)))) (fun _ h9 => h9) rfl (tyX8_ok 6 (by decide)) rfl rfl (Nat.le_of_ble_eq_true rfl) dX8_next_213 (fun H locs hP hD hS => ?_)
                            refine zs_0 (y := (a0, .inr (8, [a0g_0, Value.ref a0_1, a0g_2, Value.int a0_3, Value.int j5l1, Value.int j152l1, Value.int 1, Value.int j152a0_7, Value.int 0, a0g_9, a0g_10, a0g_11, Value.ref a0_12, a0g_13, a0g_14, a0g_15, a0g_16, a0g_17, a0g_18, a0g_19, a0g_20, a0g_21, a0g_22, a0g_23, a0g_24, a0g_25, a0g_26, a0g_27, a0g_28, a0g_29, a0g_30, a0g_31, a0g_32, a0g_33, a0g_34, a0g_35, a0g_36, a0g_37, a0g_38, a0g_39]))) hP hD rfl (fun hP hD => ?_)
                            refine lv_goto (tgt := 241) hx hb dX8_next_216 (by decide) ?_
                            have hFe : FX = (j5l1.toInt, j152l1.toInt, 1, j152a0_7.toInt, 0, (fl_A fa0_12)) := hF0
                            exact W.vret hx hb hr (fun t ht hW => ⟨⟨(), rfl, trivial, j5l1, j152l1, 1, j152a0_7, 0, fa0_12, ⟨bj152l1_l, bj152l1_u⟩, ⟨zq5, Int.le_trans zq6 (by decide)⟩, (fun h9 => absurd h9 (by decide)), ⟨by omega, Or.inl (by decide)⟩, hFe, by rw [ht]; exact hP, va_K.moved hW.alike hK, hD⟩, hS.F ht⟩) hS.2.2 dX8_next_241
                      · have h154 := hw
                        have u154k1_j152l1 : j152l1.toInt ≤ (899 : Int) := by have h1 := h154; have h2 := ba0_3_u; omega
                        have hF1 := hF1.trans (if_neg (show ¬ (a0_3.toInt ≤ j152l1.toInt) from Int.not_le.mpr h154))
                        refine va_calli (va_runS (As := [.int r154]) (rest := []) ⟨hx, hb, hml, hown, hts⟩ (f_X8_isDigit l dC dI H.size r154 ) (va_cwS 1 hts gX8_next_X8_isDigit rfl rfl rfl zd_X8_isDigit.2 ⟨Nat.le_of_ble_eq_true rfl, Nat.le_of_ble_eq_true rfl⟩) ⟨ax_blind (fun _ _ _ _ _ => trivial), ax_pre (zp_P0 hP) (zp_K hK) (zp_D0 hD) (fun _ _ => trivial)⟩ rfl rfl hl.1 rfl (lv_room (Nat.le_of_ble_eq_true rfl)) dX8_next_157 ⟨Nat.le_of_ble_eq_true rfl, Nat.le_of_ble_eq_true rfl⟩) hS (fun q _ h => zp_F0 hD hS hA q h) (zp_F0 hD hS hA) (fun r157 u t H locs ht hvm hw hB hz1 hk1 hS1 => zo0 hB ht hP hD hk1 (zp_F0 hD hS hA) hS1 (fun hP hK1 hD hS => ?_))
                        obtain ⟨hw, hfr157⟩ := hw
                        have hc157 : Ff_X8_isDigit r154.toInt = r157.toInt := hfr157.symm
                        have hF1 := hF1.trans (fl_lt_eq hc157.symm)
                        rcases hw with hw | hw
                        · obtain ⟨hw, h157_0, h157_1⟩ := hw
                          subst hw
                          have l157k0_r154 : (48 : Int) ≤ r154.toInt := h157_0
                          have u157k0_r154 : r154.toInt ≤ (57 : Int) := h157_1
                          have hF1 := hF1.trans (if_pos (by decide))
                          refine lv_if_eq (tgt := 197) hx hb dX8_next_160 (by decide) (fun c160 => absurd c160 (by decide +kernel)) (fun _ => ?_)
                          refine lv_iload_n hx hb dX8_next_163 rfl (lv_at hl 2 rfl) ?_
                          refine lv_iconst (v := 3) hx hb dX8_next_164 zk_iconst_3 ?_
                          have J188 : ∀ (j188a0_7 : Int32) (H : Heap) (locs : List Loc) (ls : Array Slot), (SX152 = Gf_X8_next_188_2 j152l3.toInt j152l1.toInt j188a0_7.toInt) → va_P (dC, dI) vwCl [(a0, .inr (8, [a0g_0, Value.ref a0_1, a0g_2, Value.int a0_3, Value.int j5l1, Value.int a0_5, Value.int a0_6, Value.int j188a0_7, Value.int 0, a0g_9, a0g_10, a0g_11, Value.ref a0_12, a0g_13, a0g_14, a0g_15, a0g_16, a0g_17, a0g_18, a0g_19, a0g_20, a0g_21, a0g_22, a0g_23, a0g_24, a0g_25, a0g_26, a0g_27, a0g_28, a0g_29, a0g_30, a0g_31, a0g_32, a0g_33, a0g_34, a0g_35, a0g_36, a0g_37, a0g_38, a0g_39])), (a0_1, .inl (ka0_1, 900, .inl (fa0_1))), (a0_12, .inl (ka0_12, 8, .inl (fa0_12)))] H → va_D A [(a0, .inr (8, [a0g_0, Value.ref a0_1, a0g_2, Value.int a0_3, Value.int j5l1, Value.int a0_5, Value.int a0_6, Value.int j188a0_7, Value.int 0, a0g_9, a0g_10, a0g_11, Value.ref a0_12, a0g_13, a0g_14, a0g_15, a0g_16, a0g_17, a0g_18, a0g_19, a0g_20, a0g_21, a0g_22, a0g_23, a0g_24, a0g_25, a0g_26, a0g_27, a0g_28, a0g_29, a0g_30, a0g_31, a0g_32, a0g_33, a0g_34, a0g_35, a0g_36, a0g_37, a0g_38, a0g_39])), (a0_1, .inl (ka0_1, 900, .inl (fa0_1))), (a0_12, .inl (ka0_12, 8, .inl (fa0_12)))] → va_S A s.heap H locs → lv_has ls 4 [(0, .ref a0), (1, .int j152l1), (3, .int j152l3)] → K H locs (F0 m 188 ls []) := by
                            intro j188a0_7 H locs ls  hF1 hP hD hS hl
                            refine (hK0 _ _ _).mpr ?_
                            have hF1 := hF1.trans (Gf_X8_next_188_2.eq_1 j152l3.toInt j152l1.toInt j188a0_7.toInt)
                            obtain ⟨x188, ex188⟩ : ∃ y : Int32, y = j152l3 + Int32.ofInt 1 := ⟨_, rfl⟩
                            refine lv_iinc (v := x188) (lv' := [(3, .int x188), (0, .ref a0), (1, .int j152l1)]) hx hb dX8_next_188 hl (k := 2) rfl ex188.symm (by decide) rfl (fun ls hl => ?_)
                            have fqx188 := fl_iadd_eq ex188
                            have hF1 := hF1.trans (fl_lt_eq (show x188.toInt = fl_iadd j152l3.toInt 1 from fqx188))
                            obtain ⟨x191, ex191⟩ : ∃ y : Int32, y = j152l1 + Int32.ofInt 1 := ⟨_, rfl⟩
                            have qx191 : x191.toInt = j152l1.toInt + 1 := ai_inc ex191 (by decide) (by decide) u154k1_j152l1 (by decide)
                            have bx191 : (1 : Int) ≤ x191.toInt ∧ x191.toInt ≤ 900 := ⟨by rw [qx191]; exact Int.add_le_add bj152l1_l (Int.le_refl _), by rw [qx191]; exact Int.add_le_add u154k1_j152l1 (Int.le_refl _)⟩
                            refine lv_iinc (v := x191) (lv' := [(1, .int x191), (3, .int x188), (0, .ref a0)]) hx hb dX8_next_191 hl (k := 2) rfl ex191.symm (by decide) rfl (fun ls hl => ?_)
                            have hF1 := hF1.trans (fl_lt_eq (show x191.toInt = j152l1.toInt + 1 from qx191))
                            refine lv_goto (tgt := 152) hx hb dX8_next_194 (by decide) ?_
                            exact (hK0 _ _ _).mp (ih152 x188 x191 j188a0_7 _ _ _ (by first | exact zg_s hm152 qx191 | (have h0 := qx191; omega)) (Int.le_trans zq4 bx191.1) bx191.2 (by omega) (hF0.trans (fl_wh_l (hSX152.trans hF1))) hP hD hS (lv_sub hl [2, 0, 1] rfl))
                          refine lv_icmp_ge (tgt := 188) hx hb dX8_next_165 (by decide) (fun c165 => ?_) (fun c165 => ?_)
                          · have gc165 := ai_le c165
                            have l165t_j152l3 : (3 : Int) ≤ j152l3.toInt := Int.le_trans zq8 gc165
                            have hF1 := hF1.trans (if_pos (show 3 ≤ j152l3.toInt from gc165))
                            exact (hK0 _ _ _).mp (J188 j152a0_7 _ _ _   hF1 hP hD hS (lv_sub hl [0, 1, 2] rfl))
                          · have gc165 := ai_nle c165
                            have u165f_j152l3 : j152l3.toInt ≤ (2 : Int) := ai_lthi gc165 zq9
                            have hF1 := hF1.trans (if_neg (show ¬ (3 ≤ j152l3.toInt) from Int.not_le.mpr gc165))
                            refine lv_aload_n hx hb dX8_next_168 rfl (lv_at hl 0 rfl) ?_
                            refine lv_bipush (v := 10) hx hb dX8_next_169 zk_bipush_10 ?_
                            refine lv_aload_n hx hb dX8_next_171 rfl (lv_at hl 0 rfl) ?_
                            refine va_get (D := (dC, dI)) (ci := 8) (v := .int j152a0_7) (C := RX8) (T := TX8) (N := 40) hx hb hts zi_X8_next_8 hown hK hP 0 rfl rfl 7 (by decide) (hts (.fieldLink RX8 84 "WaxTurnsModel" "whole" "I") (List.mem_cons_of_mem _ (List.mem_append_left _ (List.mem_of_getElem? (i := 3) rfl)))) (fun _ h9 => h9) rfl dX8_next_172 ?_
                            refine lv_imul hx hb dX8_next_175 ?_
                            refine lv_topi (fun x175 ex175 => ?_)
                            have fqx175 := fl_imul_eq ex175
                            have hF1 := hF1.trans (fl_lt_eq (show x175.toInt = fl_imul 10 j152a0_7.toInt from fqx175))
                            refine lv_aload_n hx hb dX8_next_176 rfl (lv_at hl 0 rfl) ?_
                            refine lv_iload_n hx hb dX8_next_177 rfl (lv_at hl 1 rfl) ?_
                            have hKc := hK.sub (tys' := [(ka0_1, .int)]) [0] rfl
                            refine va_calli (va_runV (As := [.int j152l1]) (rest := [.int x175, .ref a0]) ⟨hx, hb, hml, hown, hts⟩ (f_X8_see l dC dI H.size a0 j152l1 a0g_0 a0g_2 (Value.int j5l1) (Value.int a0_5) (Value.int a0_6) (Value.int j152a0_7) (Value.int 0) a0g_9 a0g_10 a0g_11 (Value.ref a0_12) a0g_13 a0g_14 a0g_15 a0g_16 a0g_17 a0g_18 a0g_19 a0g_20 a0g_21 a0g_22 a0g_23 a0g_24 a0g_25 a0g_26 a0g_27 a0g_28 a0g_29 a0g_30 a0g_31 a0g_32 a0g_33 a0g_34 a0g_35 a0g_36 a0g_37 a0g_38 a0g_39 a0_1 a0_3 ka0_1 fa0_1 bj152l1_l (Int.le_trans u154k1_j152l1 zq147) ba0_3_l ba0_3_u) (cwV 1 hts gX8_next_X8_see rfl rfl rfl zd_X8_see ⟨Nat.le_of_ble_eq_true rfl, Nat.le_of_ble_eq_true rfl⟩) ⟨ax_blind (fun _ _ _ _ _ => trivial), zr_8 hKc (zp_P2 hP) (q0 := 0) rfl, ax_pre (zp_P2 hP) hKc (zp_D2 hD) (fun _ _ => trivial)⟩ rfl rfl hl.1 rfl (lv_room (Nat.le_of_ble_eq_true rfl)) dX8_next_178 ⟨Nat.le_of_ble_eq_true rfl, Nat.le_of_ble_eq_true rfl⟩) hS (fun q _ h => zp_F2 hD hS hA q h) (zp_F2 hD hS hA) (fun r178 u t H locs ht hvm hw hB hz1 hk1 hS1 => zo2 hB ht hP hD hk1 (zp_F2 hD hS hA) hS1 (fun hP hK1 hD hS => ?_))
                            obtain ⟨hw, hfr178⟩ := hw
                            have hc178 : Ff_X8_see j152l1.toInt a0_3.toInt (fl_A fa0_1) = r178.toInt := hfr178.symm
                            have hF1 := hF1.trans (fl_lt_eq hc178.symm)
                            rcases hw with hw | hw
                            · obtain ⟨hw, h178⟩ := hw
                              subst hw
                              have hF1 := hF1.trans (if_pos (show a0_3.toInt ≤ j152l1.toInt from h178))
                              refine lv_iadd hx hb dX8_next_181 ?_
                              refine lv_topi (fun x181 ex181 => ?_)
                              have fqx181 := fl_iadd_eq ex181
                              have hF1 := hF1.trans (fl_lt_eq (show x181.toInt = fl_iadd x175.toInt (-1) from fqx181))
                              refine lv_bipush (v := 48) hx hb dX8_next_182 zk_bipush_48 ?_
                              refine lv_isub hx hb dX8_next_184 ?_
                              refine lv_topi (fun x184 ex184 => ?_)
                              have fqx184 := fl_isub_eq ex184
                              have hF1 := hF1.trans (fl_lt_eq (show x184.toInt = fl_isub x181.toInt 48 from fqx184))
                              refine va_put (D := (dC, dI)) (ci := 8) (v := .int x184) (ty := .int) (C := RX8) (T := TX8) (N := 40) hx hb hts zi_X8_next_8 tyX8 tyX8_ok nmX8 hown hK hP hD hS 0 rfl rfl 7 (by decide) (hts (.fieldLink RX8 84 "WaxTurnsModel" "whole" "I") (List.mem_cons_of_mem _ (List.mem_append_left _ (List.mem_of_getElem? (i := 3) rfl)))) (fun _ h9 => h9) rfl (tyX8_ok 7 (by decide)) rfl rfl (Nat.le_of_ble_eq_true rfl) dX8_next_185 (fun H locs hP hD hS => ?_)
                              refine zs_0 (y := (a0, .inr (8, [a0g_0, Value.ref a0_1, a0g_2, Value.int a0_3, Value.int j5l1, Value.int a0_5, Value.int a0_6, Value.int x184, Value.int 0, a0g_9, a0g_10, a0g_11, Value.ref a0_12, a0g_13, a0g_14, a0g_15, a0g_16, a0g_17, a0g_18, a0g_19, a0g_20, a0g_21, a0g_22, a0g_23, a0g_24, a0g_25, a0g_26, a0g_27, a0g_28, a0g_29, a0g_30, a0g_31, a0g_32, a0g_33, a0g_34, a0g_35, a0g_36, a0g_37, a0g_38, a0g_39]))) hP hD rfl (fun hP hD => ?_)
                              exact (hK0 _ _ _).mp (J188 x184 _ _ _   hF1 hP hD hS (lv_sub hl [0, 1, 2] rfl))
                            · have h178 := hw
                              have u178k1_j152l1 : j152l1.toInt ≤ (899 : Int) := u154k1_j152l1
                              have hF1 := hF1.trans (if_neg (show ¬ (a0_3.toInt ≤ j152l1.toInt) from Int.not_le.mpr h178))
                              refine lv_iadd hx hb dX8_next_181 ?_
                              refine lv_topi (fun x181 ex181 => ?_)
                              have fqx181 := fl_iadd_eq ex181
                              have hF1 := hF1.trans (fl_lt_eq (show x181.toInt = fl_iadd x175.toInt r178.toInt from fqx181))
                              refine lv_bipush (v := 48) hx hb dX8_next_182 zk_bipush_48 ?_
                              refine lv_isub hx hb dX8_next_184 ?_
                              refine lv_topi (fun x184 ex184 => ?_)
                              have fqx184 := fl_isub_eq ex184
                              have hF1 := hF1.trans (fl_lt_eq (show x184.toInt = fl_isub x181.toInt 48 from fqx184))
                              refine va_put (D := (dC, dI)) (ci := 8) (v := .int x184) (ty := .int) (C := RX8) (T := TX8) (N := 40) hx hb hts zi_X8_next_8 tyX8 tyX8_ok nmX8 hown hK hP hD hS 0 rfl rfl 7 (by decide) (hts (.fieldLink RX8 84 "WaxTurnsModel" "whole" "I") (List.mem_cons_of_mem _ (List.mem_append_left _ (List.mem_of_getElem? (i := 3) rfl)))) (fun _ h9 => h9) rfl (tyX8_ok 7 (by decide)) rfl rfl (Nat.le_of_ble_eq_true rfl) dX8_next_185 (fun H locs hP hD hS => ?_)
                              refine zs_0 (y := (a0, .inr (8, [a0g_0, Value.ref a0_1, a0g_2, Value.int a0_3, Value.int j5l1, Value.int a0_5, Value.int a0_6, Value.int x184, Value.int 0, a0g_9, a0g_10, a0g_11, Value.ref a0_12, a0g_13, a0g_14, a0g_15, a0g_16, a0g_17, a0g_18, a0g_19, a0g_20, a0g_21, a0g_22, a0g_23, a0g_24, a0g_25, a0g_26, a0g_27, a0g_28, a0g_29, a0g_30, a0g_31, a0g_32, a0g_33, a0g_34, a0g_35, a0g_36, a0g_37, a0g_38, a0g_39]))) hP hD rfl (fun hP hD => ?_)
                              exact (hK0 _ _ _).mp (J188 x184 _ _ _   hF1 hP hD hS (lv_sub hl [0, 1, 2] rfl))
                        · subst hw
                          have hF1 := hF1.trans (if_neg (by decide))
                          refine lv_if_eq (tgt := 197) hx hb dX8_next_160 (by decide) (fun _ => ?_) (fun c160 => absurd (by decide +kernel) c160)
                          have hF0 := hF0.trans (fl_wh_r (hSX152.trans hF1))
                          refine lv_aload_n hx hb dX8_next_197 rfl (lv_at hl 0 rfl) ?_
                          refine lv_iload_n hx hb dX8_next_198 rfl (lv_at hl 1 rfl) ?_
                          refine va_put (D := (dC, dI)) (ci := 8) (v := .int j152l1) (ty := .int) (C := RX8) (T := TX8) (N := 40) hx hb hts zi_X8_next_8 tyX8 tyX8_ok nmX8 hown hK hP hD hS 0 rfl rfl 5 (by decide) (hts (.fieldLink RX8 71 "WaxTurnsModel" "end" "I") (List.mem_cons_of_mem _ (List.mem_append_left _ (List.mem_of_getElem? (i := 0) rfl)))) (fun _ h9 => h9) rfl (tyX8_ok 5 (by decide)) rfl rfl (Nat.le_of_ble_eq_true rfl) dX8_next_199 (fun H locs hP hD hS => ?_)
                          refine zs_0 (y := (a0, .inr (8, [a0g_0, Value.ref a0_1, a0g_2, Value.int a0_3, Value.int j5l1, Value.int j152l1, Value.int a0_6, Value.int j152a0_7, Value.int 0, a0g_9, a0g_10, a0g_11, Value.ref a0_12, a0g_13, a0g_14, a0g_15, a0g_16, a0g_17, a0g_18, a0g_19, a0g_20, a0g_21, a0g_22, a0g_23, a0g_24, a0g_25, a0g_26, a0g_27, a0g_28, a0g_29, a0g_30, a0g_31, a0g_32, a0g_33, a0g_34, a0g_35, a0g_36, a0g_37, a0g_38, a0g_39]))) hP hD rfl (fun hP hD => ?_)
                          refine lv_aload_n hx hb dX8_next_202 rfl (lv_at hl 0 rfl) ?_
                          refine lv_iload_n hx hb dX8_next_203 rfl (lv_at hl 2 rfl) ?_
                          refine lv_iconst (v := 3) hx hb dX8_next_204 zk_iconst_3 ?_
                          refine lv_icmp_le (tgt := 212) hx hb dX8_next_205 (by decide) (fun c205 => ?_) (fun c205 => ?_)
                          · have gc205 := ai_le c205
                            have u205t_j152l3 : j152l3.toInt ≤ (3 : Int) := Int.le_trans gc205 zq9
                            have hF0 := hF0.trans (if_pos (show j152l3.toInt ≤ 3 from gc205))
                            refine lv_iconst (v := 3) hx hb dX8_next_212 zk_iconst_3 ?_
                            refine va_put (D := (dC, dI)) (ci := 8) (v := .int 3) (ty := .int) (C := RX8) (T := TX8) (N := 40) hx hb hts zi_X8_next_8 tyX8 tyX8_ok nmX8 hown hK hP hD hS 0 rfl rfl 6 (by decide) (hts (.fieldLink RX8 87 "WaxTurnsModel" "token" "I") (List.mem_cons_of_mem _ (List.mem_append_left _ (List.mem_of_getElem? (i := 4) rfl)))) (fun _ h9 => h9) rfl (tyX8_ok 6 (by decide)) rfl rfl (Nat.le_of_ble_eq_true rfl) dX8_next_213 (fun H locs hP hD hS => ?_)
                            refine zs_0 (y := (a0, .inr (8, [a0g_0, Value.ref a0_1, a0g_2, Value.int a0_3, Value.int j5l1, Value.int j152l1, Value.int 3, Value.int j152a0_7, Value.int 0, a0g_9, a0g_10, a0g_11, Value.ref a0_12, a0g_13, a0g_14, a0g_15, a0g_16, a0g_17, a0g_18, a0g_19, a0g_20, a0g_21, a0g_22, a0g_23, a0g_24, a0g_25, a0g_26, a0g_27, a0g_28, a0g_29, a0g_30, a0g_31, a0g_32, a0g_33, a0g_34, a0g_35, a0g_36, a0g_37, a0g_38, a0g_39]))) hP hD rfl (fun hP hD => ?_)
                            refine lv_goto (tgt := 241) hx hb dX8_next_216 (by decide) ?_
                            have hFe : FX = (j5l1.toInt, j152l1.toInt, 3, j152a0_7.toInt, 0, (fl_A fa0_12)) := hF0
                            exact W.vret hx hb hr (fun t ht hW => ⟨⟨(), rfl, trivial, j5l1, j152l1, 3, j152a0_7, 0, fa0_12, ⟨bj152l1_l, Int.le_trans u154k1_j152l1 (by decide)⟩, ⟨zq5, Int.le_trans zq6 (by decide)⟩, (fun h9 => absurd h9 (by decide)), ⟨by omega, Or.inl (by decide)⟩, hFe, by rw [ht]; exact hP, va_K.moved hW.alike hK, hD⟩, hS.F ht⟩) hS.2.2 dX8_next_241
                          · have gc205 := ai_nle c205
                            have l205f_j152l3 : (4 : Int) ≤ j152l3.toInt := ai_ltlo gc205 zq8
                            have hF0 := hF0.trans (if_neg (show ¬ (j152l3.toInt ≤ 3) from Int.not_le.mpr gc205))
                            refine lv_iconst (v := 1) hx hb dX8_next_208 zk_iconst_1 ?_
                            refine lv_goto (tgt := 213) hx hb dX8_next_209 (by decide) ?_
                            refine va_put (D := (dC, dI)) (ci := 8) (v := .int 1) (ty := .int) (C := RX8) (T := TX8) (N := 40) hx hb hts zi_X8_next_8 tyX8 tyX8_ok nmX8 hown hK hP hD hS 0 rfl rfl 6 (by decide) (hts (.fieldLink RX8 87 "WaxTurnsModel" "token" "I") (List.mem_cons_of_mem _ (List.mem_append_left _ (List.mem_of_getElem? (i := 4) rfl)))) (fun _ h9 => h9) rfl (tyX8_ok 6 (by decide)) rfl rfl (Nat.le_of_ble_eq_true rfl) dX8_next_213 (fun H locs hP hD hS => ?_)
                            refine zs_0 (y := (a0, .inr (8, [a0g_0, Value.ref a0_1, a0g_2, Value.int a0_3, Value.int j5l1, Value.int j152l1, Value.int 1, Value.int j152a0_7, Value.int 0, a0g_9, a0g_10, a0g_11, Value.ref a0_12, a0g_13, a0g_14, a0g_15, a0g_16, a0g_17, a0g_18, a0g_19, a0g_20, a0g_21, a0g_22, a0g_23, a0g_24, a0g_25, a0g_26, a0g_27, a0g_28, a0g_29, a0g_30, a0g_31, a0g_32, a0g_33, a0g_34, a0g_35, a0g_36, a0g_37, a0g_38, a0g_39]))) hP hD rfl (fun hP hD => ?_)
                            refine lv_goto (tgt := 241) hx hb dX8_next_216 (by decide) ?_
                            have hFe : FX = (j5l1.toInt, j152l1.toInt, 1, j152a0_7.toInt, 0, (fl_A fa0_12)) := hF0
                            exact W.vret hx hb hr (fun t ht hW => ⟨⟨(), rfl, trivial, j5l1, j152l1, 1, j152a0_7, 0, fa0_12, ⟨bj152l1_l, Int.le_trans u154k1_j152l1 (by decide)⟩, ⟨zq5, Int.le_trans zq6 (by decide)⟩, (fun h9 => absurd h9 (by decide)), ⟨by omega, Or.inl (by decide)⟩, hFe, by rw [ht]; exact hP, va_K.moved hW.alike hK, hD⟩, hS.F ht⟩) hS.2.2 dX8_next_241
                  exact (hK0 _ _ _).mp (J152 901 0 j5l1 0 _ _ _ (by have h1 : (0 : Int) ≤ j5l1.toInt := bj5l1_l; have h2 : j5l1.toInt ≤ (899 : Int) := u28k1_j5l1; omega) bj5l1_l (Int.le_trans u28k1_j5l1 zq147) (by omega) (by rw [show (0 : Int32).toInt = 0 from by decide]; exact hF0) hP hD hS (lv_sub hl [2, 3, 0] rfl))
                · subst hw
                  have hF0 := hF0.trans (if_neg (by decide))
                  refine lv_if_eq (tgt := 219) hx hb dX8_next_147 (by decide) (fun _ => ?_) (fun c147 => absurd (by decide +kernel) c147)
                  refine lv_aload_n hx hb dX8_next_219 rfl (lv_at hl 1 rfl) ?_
                  refine lv_iload_n hx hb dX8_next_220 rfl (lv_at hl 2 rfl) ?_
                  refine lv_iconst (v := 1) hx hb dX8_next_221 zk_iconst_1 ?_
                  refine lv_iadd hx hb dX8_next_222 ?_
                  refine lv_topi (fun x222 ex222 => ?_)
                  have qx222 : x222.toInt = j5l1.toInt + (1 : Int32).toInt := ai_add ex222 ⟨bj5l1_l, u28k1_j5l1⟩ ⟨zq1, zq0⟩ (by decide) (by decide)
                  have bx222 : (1 : Int) ≤ x222.toInt ∧ x222.toInt ≤ 900 := ⟨by rw [qx222]; exact Int.add_le_add bj5l1_l zq1, by rw [qx222]; exact Int.add_le_add u28k1_j5l1 zq0⟩
                  have wx222 : x222.toInt = j5l1.toInt + 1 := qx222
                  have hF0 := hF0.trans (fl_lt_eq (show x222.toInt = j5l1.toInt + 1 from qx222))
                  refine va_put (D := (dC, dI)) (ci := 8) (v := .int x222) (ty := .int) (C := RX8) (T := TX8) (N := 40) hx hb hts zi_X8_next_8 tyX8 tyX8_ok nmX8 hown hK hP hD hS 0 rfl rfl 5 (by decide) (hts (.fieldLink RX8 71 "WaxTurnsModel" "end" "I") (List.mem_cons_of_mem _ (List.mem_append_left _ (List.mem_of_getElem? (i := 0) rfl)))) (fun _ h9 => h9) rfl (tyX8_ok 5 (by decide)) rfl rfl (Nat.le_of_ble_eq_true rfl) dX8_next_223 (fun H locs hP hD hS => ?_)
                  refine zs_0 (y := (a0, .inr (8, [a0g_0, Value.ref a0_1, a0g_2, Value.int a0_3, Value.int j5l1, Value.int x222, Value.int a0_6, Value.int 0, Value.int 0, a0g_9, a0g_10, a0g_11, Value.ref a0_12, a0g_13, a0g_14, a0g_15, a0g_16, a0g_17, a0g_18, a0g_19, a0g_20, a0g_21, a0g_22, a0g_23, a0g_24, a0g_25, a0g_26, a0g_27, a0g_28, a0g_29, a0g_30, a0g_31, a0g_32, a0g_33, a0g_34, a0g_35, a0g_36, a0g_37, a0g_38, a0g_39]))) hP hD rfl (fun hP hD => ?_)
                  refine lv_aload_n hx hb dX8_next_226 rfl (lv_at hl 1 rfl) ?_
                  refine lv_iload_n hx hb dX8_next_227 rfl (lv_at hl 0 rfl) ?_
                  refine lv_bipush (v := 59) hx hb dX8_next_228 zk_bipush_59 ?_
                  refine lv_icmp_ne (tgt := 237) hx hb dX8_next_230 (by decide) (fun c230 => ?_) (fun c230 => ?_)
                  · have gc230 := ai_ne c230
                    have hF0 := hF0.trans (if_neg (show ¬ (r28.toInt = 59) from  gc230))
                    refine lv_iconst (v := 1) hx hb dX8_next_237 zk_iconst_1 ?_
                    refine va_put (D := (dC, dI)) (ci := 8) (v := .int 1) (ty := .int) (C := RX8) (T := TX8) (N := 40) hx hb hts zi_X8_next_8 tyX8 tyX8_ok nmX8 hown hK hP hD hS 0 rfl rfl 6 (by decide) (hts (.fieldLink RX8 87 "WaxTurnsModel" "token" "I") (List.mem_cons_of_mem _ (List.mem_append_left _ (List.mem_of_getElem? (i := 4) rfl)))) (fun _ h9 => h9) rfl (tyX8_ok 6 (by decide)) rfl rfl (Nat.le_of_ble_eq_true rfl) dX8_next_238 (fun H locs hP hD hS => ?_)
                    refine zs_0 (y := (a0, .inr (8, [a0g_0, Value.ref a0_1, a0g_2, Value.int a0_3, Value.int j5l1, Value.int x222, Value.int 1, Value.int 0, Value.int 0, a0g_9, a0g_10, a0g_11, Value.ref a0_12, a0g_13, a0g_14, a0g_15, a0g_16, a0g_17, a0g_18, a0g_19, a0g_20, a0g_21, a0g_22, a0g_23, a0g_24, a0g_25, a0g_26, a0g_27, a0g_28, a0g_29, a0g_30, a0g_31, a0g_32, a0g_33, a0g_34, a0g_35, a0g_36, a0g_37, a0g_38, a0g_39]))) hP hD rfl (fun hP hD => ?_)
                    have hFe : FX = (j5l1.toInt, x222.toInt, 1, 0, 0, (fl_A fa0_12)) := hF0
                    exact W.vret hx hb hr (fun t ht hW => ⟨⟨(), rfl, trivial, j5l1, x222, 1, 0, 0, fa0_12, ⟨Int.le_trans (by decide) bx222.1, bx222.2⟩, ⟨zq5, Int.le_trans zq6 (by decide)⟩, (fun h9 => absurd h9 (by decide)), ⟨by omega, Or.inl (by decide)⟩, hFe, by rw [ht]; exact hP, va_K.moved hW.alike hK, hD⟩, hS.F ht⟩) hS.2.2 dX8_next_241
                  · have gc230 := ai_eq c230
                    have u230f_r28 : r28.toInt ≤ (59 : Int) := Int.le_trans (Int.le_of_eq gc230) zq148
                    have l230f_r28 : (59 : Int) ≤ r28.toInt := Int.le_trans zq149 (Int.le_of_eq gc230.symm)
                    have hF0 := hF0.trans (if_pos (show r28.toInt = 59 from gc230))
                    refine lv_iload_n hx hb dX8_next_233 rfl (lv_at hl 0 rfl) ?_
                    refine lv_goto (tgt := 238) hx hb dX8_next_234 (by decide) ?_
                    refine va_put (D := (dC, dI)) (ci := 8) (v := .int r28) (ty := .int) (C := RX8) (T := TX8) (N := 40) hx hb hts zi_X8_next_8 tyX8 tyX8_ok nmX8 hown hK hP hD hS 0 rfl rfl 6 (by decide) (hts (.fieldLink RX8 87 "WaxTurnsModel" "token" "I") (List.mem_cons_of_mem _ (List.mem_append_left _ (List.mem_of_getElem? (i := 4) rfl)))) (fun _ h9 => h9) rfl (tyX8_ok 6 (by decide)) rfl rfl (Nat.le_of_ble_eq_true rfl) dX8_next_238 (fun H locs hP hD hS => ?_)
                    refine zs_0 (y := (a0, .inr (8, [a0g_0, Value.ref a0_1, a0g_2, Value.int a0_3, Value.int j5l1, Value.int x222, Value.int r28, Value.int 0, Value.int 0, a0g_9, a0g_10, a0g_11, Value.ref a0_12, a0g_13, a0g_14, a0g_15, a0g_16, a0g_17, a0g_18, a0g_19, a0g_20, a0g_21, a0g_22, a0g_23, a0g_24, a0g_25, a0g_26, a0g_27, a0g_28, a0g_29, a0g_30, a0g_31, a0g_32, a0g_33, a0g_34, a0g_35, a0g_36, a0g_37, a0g_38, a0g_39]))) hP hD rfl (fun hP hD => ?_)
                    have hFe : FX = (j5l1.toInt, x222.toInt, r28.toInt, 0, 0, (fl_A fa0_12)) := hF0
                    exact W.vret hx hb hr (fun t ht hW => ⟨⟨(), rfl, trivial, j5l1, x222, r28, 0, 0, fa0_12, ⟨Int.le_trans (by decide) bx222.1, bx222.2⟩, ⟨zq5, Int.le_trans zq6 (by decide)⟩, (fun _ => by decide), ⟨by omega, Or.inr (by omega)⟩, hFe, by rw [ht]; exact hP, va_K.moved hW.alike hK, hD⟩, hS.F ht⟩) hS.2.2 dX8_next_241
            · have gc44 := ai_eq c44
              have u44f_r28 : r28.toInt ≤ (-1 : Int) := Int.le_trans (Int.le_of_eq gc44) zq72
              have l44f_r28 : (-1 : Int) ≤ r28.toInt := Int.le_trans zq71 (Int.le_of_eq gc44.symm)
              have hF0 := hF0.trans (if_pos (show r28.toInt = (-1) from gc44))
              refine lv_aload_n hx hb dX8_next_47 rfl (lv_at hl 1 rfl) ?_
              refine lv_iconst (v := 0) hx hb dX8_next_48 zk_iconst_0 ?_
              refine va_put (D := (dC, dI)) (ci := 8) (v := .int 0) (ty := .int) (C := RX8) (T := TX8) (N := 40) hx hb hts zi_X8_next_8 tyX8 tyX8_ok nmX8 hown hK hP hD hS 0 rfl rfl 6 (by decide) (hts (.fieldLink RX8 87 "WaxTurnsModel" "token" "I") (List.mem_cons_of_mem _ (List.mem_append_left _ (List.mem_of_getElem? (i := 4) rfl)))) (fun _ h9 => h9) rfl (tyX8_ok 6 (by decide)) rfl rfl (Nat.le_of_ble_eq_true rfl) dX8_next_49 (fun H locs hP hD hS => ?_)
              refine zs_0 (y := (a0, .inr (8, [a0g_0, Value.ref a0_1, a0g_2, Value.int a0_3, Value.int j5l1, Value.int a0_5, Value.int 0, Value.int 0, Value.int 0, a0g_9, a0g_10, a0g_11, Value.ref a0_12, a0g_13, a0g_14, a0g_15, a0g_16, a0g_17, a0g_18, a0g_19, a0g_20, a0g_21, a0g_22, a0g_23, a0g_24, a0g_25, a0g_26, a0g_27, a0g_28, a0g_29, a0g_30, a0g_31, a0g_32, a0g_33, a0g_34, a0g_35, a0g_36, a0g_37, a0g_38, a0g_39]))) hP hD rfl (fun hP hD => ?_)
              refine lv_aload_n hx hb dX8_next_52 rfl (lv_at hl 1 rfl) ?_
              refine lv_iload_n hx hb dX8_next_53 rfl (lv_at hl 2 rfl) ?_
              refine va_put (D := (dC, dI)) (ci := 8) (v := .int j5l1) (ty := .int) (C := RX8) (T := TX8) (N := 40) hx hb hts zi_X8_next_8 tyX8 tyX8_ok nmX8 hown hK hP hD hS 0 rfl rfl 5 (by decide) (hts (.fieldLink RX8 71 "WaxTurnsModel" "end" "I") (List.mem_cons_of_mem _ (List.mem_append_left _ (List.mem_of_getElem? (i := 0) rfl)))) (fun _ h9 => h9) rfl (tyX8_ok 5 (by decide)) rfl rfl (Nat.le_of_ble_eq_true rfl) dX8_next_54 (fun H locs hP hD hS => ?_)
              refine zs_0 (y := (a0, .inr (8, [a0g_0, Value.ref a0_1, a0g_2, Value.int a0_3, Value.int j5l1, Value.int j5l1, Value.int 0, Value.int 0, Value.int 0, a0g_9, a0g_10, a0g_11, Value.ref a0_12, a0g_13, a0g_14, a0g_15, a0g_16, a0g_17, a0g_18, a0g_19, a0g_20, a0g_21, a0g_22, a0g_23, a0g_24, a0g_25, a0g_26, a0g_27, a0g_28, a0g_29, a0g_30, a0g_31, a0g_32, a0g_33, a0g_34, a0g_35, a0g_36, a0g_37, a0g_38, a0g_39]))) hP hD rfl (fun hP hD => ?_)
              refine lv_goto (tgt := 241) hx hb dX8_next_57 (by decide) ?_
              have hFe : FX = (j5l1.toInt, j5l1.toInt, 0, 0, 0, (fl_A fa0_12)) := hF0
              exact W.vret hx hb hr (fun t ht hW => ⟨⟨(), rfl, trivial, j5l1, j5l1, 0, 0, 0, fa0_12, ⟨bj5l1_l, Int.le_trans u28k1_j5l1 (by decide)⟩, ⟨zq5, Int.le_trans zq6 (by decide)⟩, (fun h9 => absurd h9 (by decide)), ⟨by omega, Or.inl (by decide)⟩, hFe, by rw [ht]; exact hP, va_K.moved hW.alike hK, hD⟩, hS.F ht⟩) hS.2.2 dX8_next_241
        · have gc12 := ai_eq c12
          have u12f_r7 : r7.toInt ≤ (32 : Int) := Int.le_trans (Int.le_of_eq gc12) zq150
          have l12f_r7 : (32 : Int) ≤ r7.toInt := Int.le_trans zq151 (Int.le_of_eq gc12.symm)
          have hF1 := hF1.trans (if_pos (show r7.toInt = 32 from gc12))
          obtain ⟨x15, ex15⟩ : ∃ y : Int32, y = j5l1 + Int32.ofInt 1 := ⟨_, rfl⟩
          have qx15 : x15.toInt = j5l1.toInt + 1 := ai_inc ex15 (by decide) (by decide) u7k1_j5l1 (by decide)
          have bx15 : (1 : Int) ≤ x15.toInt ∧ x15.toInt ≤ 900 := ⟨by rw [qx15]; exact Int.add_le_add bj5l1_l (Int.le_refl _), by rw [qx15]; exact Int.add_le_add u7k1_j5l1 (Int.le_refl _)⟩
          refine lv_iinc (v := x15) (lv' := [(1, .int x15), (0, .ref a0)]) hx hb dX8_next_15 hl (k := 1) rfl ex15.symm (by decide) rfl (fun ls hl => ?_)
          have hF1 := hF1.trans (fl_lt_eq (show x15.toInt = j5l1.toInt + 1 from qx15))
          refine lv_goto (tgt := 5) hx hb dX8_next_18 (by decide) ?_
          exact (hK0 _ _ _).mp (ih5 x15 _ _ _ (by first | exact zg_s hm5 qx15 | (have h0 := qx15; omega)) (Int.le_trans zq4 bx15.1) bx15.2 (by omega) (hF0.trans (fl_wh_l (hSX5.trans hF1))) hP hD hS (lv_sub hl [1, 0] rfl))
  exact (hK0 _ _ _).mp (J5 901 a0_5 _ _ _ (by have h1 : (0 : Int) ≤ a0_5.toInt := ba0_5_l; have h2 : a0_5.toInt ≤ (900 : Int) := ba0_5_u; omega) ba0_5_l ba0_5_u (by omega) hF0 hP hD hS (lv_sub hl [1, 0] rfl))
end P312_00_f
