section P314_12_f
set_option maxHeartbeats 4000000 in
set_option maxRecDepth 100000 in
theorem f_X8_note (l : Launch) (dC : Nat → ClassId) (dI : Nat → Nat → Nat) (sz : Nat) (a0 : Nat) (a0g_0 a0g_1 a0g_2 a0g_3 a0g_4 a0g_5 a0g_6 a0g_7 a0g_8 a0g_9 a0g_10 a0g_11 a0g_12 a0g_13 a0g_14 a0g_15 a0g_16 a0g_18 a0g_20 a0g_22 a0g_23 a0g_24 a0g_25 a0g_26 a0g_27 a0g_28 a0g_29 a0g_30 a0g_31 a0g_32 a0g_33 a0g_34 a0g_35 a0g_36 a0g_37 a0g_38 a0g_39 : Value) (a0_17 : Nat) (a0_19 : Nat) (a0_21 : Int32) (ka0_17 : ClassId) (fa0_17 : Nat → Int32) (ka0_19 : ClassId) (fa0_19 : Nat → Int32) (ba0_21_l : (0 : Int) ≤ a0_21.toInt) (ba0_21_u : a0_21.toInt ≤ (16 : Int)) (bfa0_17 : ((∀ k : Nat, 0 ≤ k → k ≤ 8 → (0 : Int) ≤ (fa0_17 k).toInt ∧ (fa0_17 k).toInt ≤ 8) ∧ (∀ k : Nat, 19 ≤ k → k ≤ 19 → (0 : Int) ≤ (fa0_17 k).toInt ∧ (fa0_17 k).toInt ≤ 8) ∧ (∀ k : Nat, 20 ≤ k → k ≤ 20 → (0 : Int) ≤ (fa0_17 k).toInt ∧ (fa0_17 k).toInt ≤ 19))) (bfa0_19 : (md_S fa0_19)) : zm l yX8_note wsX8_note ({ frames := 1, cells := 0, slots := 0, locals := 25 }) [.ref a0] dC dI sz [(a0, .inr (8, [a0g_0, a0g_1, a0g_2, a0g_3, a0g_4, a0g_5, a0g_6, a0g_7, a0g_8, a0g_9, a0g_10, a0g_11, a0g_12, a0g_13, a0g_14, a0g_15, a0g_16, Value.ref a0_17, a0g_18, Value.ref a0_19, a0g_20, Value.int a0_21, a0g_22, a0g_23, a0g_24, a0g_25, a0g_26, a0g_27, a0g_28, a0g_29, a0g_30, a0g_31, a0g_32, a0g_33, a0g_34, a0g_35, a0g_36, a0g_37, a0g_38, a0g_39])), (a0_17, .inl (ka0_17, 23, .inl (fa0_17))), (a0_19, .inl (ka0_19, 368, .inl (fa0_19)))] [(ka0_17, .int), (ka0_19, .int)] (fun A _ => True) (fun A => va_Qv (fun (_ : Unit) => True) (fun (_ : Unit) (t : State) => ∃ na0_21 : Int32, ∃ nfa0_19 : Nat → Int32, ((0 : Int) ≤ na0_21.toInt ∧ na0_21.toInt ≤ 16) ∧ (md_S nfa0_19) ∧ (Ff_X8_note a0_21.toInt (fl_A fa0_17) (fl_A fa0_19) = (na0_21.toInt, (fl_A nfa0_19))) ∧ ax_B dC dI A [(a0, .inr (8, [a0g_0, a0g_1, a0g_2, a0g_3, a0g_4, a0g_5, a0g_6, a0g_7, a0g_8, a0g_9, a0g_10, a0g_11, a0g_12, a0g_13, a0g_14, a0g_15, a0g_16, Value.ref a0_17, a0g_18, Value.ref a0_19, a0g_20, Value.int na0_21, a0g_22, a0g_23, a0g_24, a0g_25, a0g_26, a0g_27, a0g_28, a0g_29, a0g_30, a0g_31, a0g_32, a0g_33, a0g_34, a0g_35, a0g_36, a0g_37, a0g_38, a0g_39])), (a0_17, .inl (ka0_17, 23, .inl (fa0_17))), (a0_19, .inl (ka0_19, 368, .inl (nfa0_19)))] [(ka0_17, .int), (ka0_19, .int)] t) A) := by
  refine zh (cc := cX8_note) (maxL := 2) (ret := none) zn_RX8 rfl (Nat.le_of_ble_eq_true rfl) (fun p e s m below meth c A ls hx hb hml hr hts (hown : s.vm.findClass RX8 = some m.cls) hlocks hA hS hP hK hD hE (hl : lv_has ls 2 [(0, .ref a0)]) => ?_)
  generalize hFX : Ff_X8_note a0_21.toInt (fl_A fa0_17) (fl_A fa0_19) = FX at ⊢
  have hF0 := hFX.symm.trans (Ff_X8_note.eq_1 a0_21.toInt (fl_A fa0_17) (fl_A fa0_19))
  refine ai_open (fun K hK0 => ?_)
  refine (hK0 _ _ _).mpr ?_
  refine lv_aload_n hx hb dX8_note_0 rfl (lv_at hl 0 rfl) ?_
  refine va_get (D := (dC, dI)) (ci := 8) (v := .int a0_21) (C := RX8) (T := TX8) (N := 40) hx hb hts zi_X8_note_8 hown hK hP 0 rfl rfl 21 (by decide) (hts (.fieldLink RX8 176 "WaxTurnsModel" "undos" "I") (List.mem_cons_of_mem _ (List.mem_append_left _ (List.mem_of_getElem? (i := 0) rfl)))) (fun _ h9 => h9) rfl dX8_note_1 ?_
  refine lv_bipush (v := 16) hx hb dX8_note_4 zk_bipush_16 ?_
  refine lv_icmp_ne (tgt := 49) hx hb dX8_note_6 (by decide) (fun c6 => ?_) (fun c6 => ?_)
  · have gc6 := ai_ne c6
    have u6t_a0_21 : a0_21.toInt ≤ (15 : Int) := (by first | exact zg_u ba0_21_u gc6 (by decide) (by decide) | (have h1 := ba0_21_u; have h2 : (16 : Int32).toInt = 16 := (by decide); rw [h2] at gc6; omega))
    have hF0 := hF0.trans (if_neg (show ¬ (a0_21.toInt = 16) from  gc6))
    refine lv_aload_n hx hb dX8_note_49 rfl (lv_at hl 0 rfl) ?_
    refine va_get (D := (dC, dI)) (ci := 8) (v := .ref a0_17) (C := RX8) (T := TX8) (N := 40) hx hb hts zi_X8_note_8 hown hK hP 0 rfl rfl 17 (by decide) (hts (.fieldLink RX8 26 "WaxTurnsModel" "st" "[I") (List.mem_cons_of_mem _ (List.mem_append_left _ (List.mem_of_getElem? (i := 2) rfl)))) (fun _ h9 => h9) rfl dX8_note_50 ?_
    refine lv_iconst (v := 0) hx hb dX8_note_53 zk_iconst_0 ?_
    refine lv_aload_n hx hb dX8_note_54 rfl (lv_at hl 0 rfl) ?_
    refine va_get (D := (dC, dI)) (ci := 8) (v := .ref a0_19) (C := RX8) (T := TX8) (N := 40) hx hb hts zi_X8_note_8 hown hK hP 0 rfl rfl 19 (by decide) (hts (.fieldLink RX8 32 "WaxTurnsModel" "undone" "[I") (List.mem_cons_of_mem _ (List.mem_append_left _ (List.mem_of_getElem? (i := 1) rfl)))) (fun _ h9 => h9) rfl dX8_note_55 ?_
    refine lv_bipush (v := 23) hx hb dX8_note_58 zk_bipush_23 ?_
    refine lv_aload_n hx hb dX8_note_60 rfl (lv_at hl 0 rfl) ?_
    refine va_get (D := (dC, dI)) (ci := 8) (v := .int a0_21) (C := RX8) (T := TX8) (N := 40) hx hb hts zi_X8_note_8 hown hK hP 0 rfl rfl 21 (by decide) (hts (.fieldLink RX8 176 "WaxTurnsModel" "undos" "I") (List.mem_cons_of_mem _ (List.mem_append_left _ (List.mem_of_getElem? (i := 0) rfl)))) (fun _ h9 => h9) rfl dX8_note_61 ?_
    refine lv_imul hx hb dX8_note_64 ?_
    refine lv_topi (fun x64 ex64 => ?_)
    have qx64 : x64.toInt = (23 : Int32).toInt * a0_21.toInt ∧ (0 : Int) ≤ x64.toInt ∧ x64.toInt ≤ 345 := ai_mul ex64 ⟨zq170, zq171⟩ ⟨ba0_21_l, u6t_a0_21⟩ (by decide) (by decide) zq211
    have wx64 : x64.toInt = 23 * a0_21.toInt := qx64.1
    have hF0 := hF0.trans (fl_lt_eq (show x64.toInt = 23 * a0_21.toInt from qx64.1))
    refine lv_bipush (v := 23) hx hb dX8_note_65 zk_bipush_23 ?_
    refine zc_cutc (wc := [(a0_17, .inl (ka0_17, 23, .inl (fa0_17))), (a0_19, .inl (ka0_19, 368, .inl (fa0_19)))]) hP hD hS hA [1, 2] (by decide +kernel) rfl (fun hPc hDc hFc hCc => ?_)
    have hKc := hK.sub (tys' := [(ka0_17, .int), (ka0_19, .int)]) [0, 1] rfl
    refine va_callv (va_runS (As := [.ref a0_17, .int 0, .ref a0_19, .int x64, .int 23]) (rest := []) ⟨hx, hb, hml, hown, hts⟩ (c_X8_copy_23_368 l dC dI s.heap.size a0_17 0 a0_19 x64 23 ka0_17 fa0_17 ka0_19 fa0_19 zq5 zq6 qx64.2.1 qx64.2.2 zq170 zq171) (va_cwS 5 hts gX8_note_X8_copy rfl rfl rfl zd_X8_copy.2 ⟨Nat.le_of_ble_eq_true rfl, Nat.le_of_ble_eq_true rfl⟩) ⟨ax_blind (fun _ _ _ _ _ => trivial), ax_pre hPc hKc hDc (fun _ _ => trivial)⟩ rfl rfl hl.1 rfl (lv_room (Nat.le_of_ble_eq_true rfl)) dX8_note_67 ⟨Nat.le_of_ble_eq_true rfl, Nat.le_of_ble_eq_true rfl⟩) hS (fun q _ h => hFc q h) hFc (fun u t H locs ht hvm hw => zx_1 (fun v67nfa3 => zy_1 (fun hraw67_0 hB hz1 hk1 hS1 => zo hB ht hS1 (fun hP1 hK1 hD1 hS => ?_))))
    refine zc_backc (w := [(a0, .inr (8, [a0g_0, a0g_1, a0g_2, a0g_3, a0g_4, a0g_5, a0g_6, a0g_7, a0g_8, a0g_9, a0g_10, a0g_11, a0g_12, a0g_13, a0g_14, a0g_15, a0g_16, Value.ref a0_17, a0g_18, Value.ref a0_19, a0g_20, Value.int a0_21, a0g_22, a0g_23, a0g_24, a0g_25, a0g_26, a0g_27, a0g_28, a0g_29, a0g_30, a0g_31, a0g_32, a0g_33, a0g_34, a0g_35, a0g_36, a0g_37, a0g_38, a0g_39])), (a0_17, .inl (ka0_17, 23, .inl (fa0_17))), (a0_19, .inl (ka0_19, 368, .inl (v67nfa3)))]) hP hD hCc hk1 hFc hP1 hD1 [.inl 0, .inr 0, .inr 1] (by decide +kernel) rfl (fun hP hD => ?_)
    have hc67 : va_cpy (fl_A fa0_17) (fl_A fa0_19) (0) (x64.toInt.toNat) 23 = (fl_A v67nfa3) := (fl_cpy hraw67_0).symm
    have hF0 := hF0.trans (fl_lt_eq hc67.symm)
    have bv67nfa3 : (md_S v67nfa3) := cp_SM hraw67_0 (by decide) (md_ix (u := a0_21) wx64 ba0_21_l) bfa0_17 bfa0_19
    refine lv_aload_n hx hb dX8_note_70 rfl (lv_at hl 0 rfl) ?_
    refine lv_dup hx hb dX8_note_71 rfl ?_
    refine va_get (D := (dC, dI)) (ci := 8) (v := .int a0_21) (C := RX8) (T := TX8) (N := 40) hx hb hts zi_X8_note_8 hown hK hP 0 rfl rfl 21 (by decide) (hts (.fieldLink RX8 176 "WaxTurnsModel" "undos" "I") (List.mem_cons_of_mem _ (List.mem_append_left _ (List.mem_of_getElem? (i := 0) rfl)))) (fun _ h9 => h9) rfl dX8_note_72 ?_
    refine lv_iconst (v := 1) hx hb dX8_note_75 zk_iconst_1 ?_
    refine lv_iadd hx hb dX8_note_76 ?_
    refine lv_topi (fun x76 ex76 => ?_)
    have qx76 : x76.toInt = a0_21.toInt + (1 : Int32).toInt := ai_add ex76 ⟨ba0_21_l, u6t_a0_21⟩ ⟨zq1, zq0⟩ (by decide) (by decide)
    have bx76 : (1 : Int) ≤ x76.toInt ∧ x76.toInt ≤ 16 := ⟨by rw [qx76]; exact Int.add_le_add ba0_21_l zq1, by rw [qx76]; exact Int.add_le_add u6t_a0_21 zq0⟩
    have wx76 : x76.toInt = a0_21.toInt + 1 := qx76
    have hF0 := hF0.trans (fl_lt_eq (show x76.toInt = a0_21.toInt + 1 from qx76))
    refine va_put (D := (dC, dI)) (ci := 8) (v := .int x76) (ty := .int) (C := RX8) (T := TX8) (N := 40) hx hb hts zi_X8_note_8 tyX8 tyX8_ok nmX8 hown hK hP hD hS 0 rfl rfl 21 (by decide) (hts (.fieldLink RX8 176 "WaxTurnsModel" "undos" "I") (List.mem_cons_of_mem _ (List.mem_append_left _ (List.mem_of_getElem? (i := 0) rfl)))) (fun _ h9 => h9) rfl (tyX8_ok 21 (by decide)) rfl rfl (Nat.le_of_ble_eq_true rfl) dX8_note_77 (fun H locs hP hD hS => ?_)
    refine zs_0 (y := (a0, .inr (8, [a0g_0, a0g_1, a0g_2, a0g_3, a0g_4, a0g_5, a0g_6, a0g_7, a0g_8, a0g_9, a0g_10, a0g_11, a0g_12, a0g_13, a0g_14, a0g_15, a0g_16, Value.ref a0_17, a0g_18, Value.ref a0_19, a0g_20, Value.int x76, a0g_22, a0g_23, a0g_24, a0g_25, a0g_26, a0g_27, a0g_28, a0g_29, a0g_30, a0g_31, a0g_32, a0g_33, a0g_34, a0g_35, a0g_36, a0g_37, a0g_38, a0g_39]))) hP hD rfl (fun hP hD => ?_)
    have hFe : FX = (x76.toInt, (fl_A v67nfa3)) := hF0
    exact W.vret hx hb hr (fun t ht hW => ⟨⟨(), rfl, trivial, x76, v67nfa3, ⟨Int.le_trans (by decide) bx76.1, bx76.2⟩, bv67nfa3, hFe, by rw [ht]; exact hP, va_K.moved hW.alike hK, hD⟩, hS.F ht⟩) hS.2.2 dX8_note_80
  · have gc6 := ai_eq c6
    have u6f_a0_21 : a0_21.toInt ≤ (16 : Int) := ba0_21_u
    have l6f_a0_21 : (16 : Int) ≤ a0_21.toInt := Int.le_trans zq110 (Int.le_of_eq gc6.symm)
    have hF0 := hF0.trans (if_pos (show a0_21.toInt = 16 from gc6))
    refine lv_iconst (v := 0) hx hb dX8_note_9 zk_iconst_0 ?_
    refine lv_istore_n (lv' := [(1, .int 0), (0, .ref a0)]) hx hb dX8_note_10 rfl hl (by decide) rfl (fun ls hl => ?_)
    have J11 : ∀ (n : Nat) (j11l1 : Int32) (j11a0_19_a : Nat → Int32) (H : Heap) (locs : List Loc) (ls : Array Slot), (346 : Int) - j11l1.toInt ≤ (n : Int) → (0 : Int) ≤ j11l1.toInt → j11l1.toInt ≤ (345 : Int) → (md_S j11a0_19_a) → (FX = fl_wh (fun t9 => Sf_X8_note_11_1 a0_21.toInt (fl_A fa0_17) t9.1 t9.2) (0, (fun _ => 0)) n (j11l1.toInt, (fl_A j11a0_19_a))) → va_P (dC, dI) vwCl [(a0, .inr (8, [a0g_0, a0g_1, a0g_2, a0g_3, a0g_4, a0g_5, a0g_6, a0g_7, a0g_8, a0g_9, a0g_10, a0g_11, a0g_12, a0g_13, a0g_14, a0g_15, a0g_16, Value.ref a0_17, a0g_18, Value.ref a0_19, a0g_20, Value.int a0_21, a0g_22, a0g_23, a0g_24, a0g_25, a0g_26, a0g_27, a0g_28, a0g_29, a0g_30, a0g_31, a0g_32, a0g_33, a0g_34, a0g_35, a0g_36, a0g_37, a0g_38, a0g_39])), (a0_17, .inl (ka0_17, 23, .inl (fa0_17))), (a0_19, .inl (ka0_19, 368, .inl (j11a0_19_a)))] H → va_D A [(a0, .inr (8, [a0g_0, a0g_1, a0g_2, a0g_3, a0g_4, a0g_5, a0g_6, a0g_7, a0g_8, a0g_9, a0g_10, a0g_11, a0g_12, a0g_13, a0g_14, a0g_15, a0g_16, Value.ref a0_17, a0g_18, Value.ref a0_19, a0g_20, Value.int a0_21, a0g_22, a0g_23, a0g_24, a0g_25, a0g_26, a0g_27, a0g_28, a0g_29, a0g_30, a0g_31, a0g_32, a0g_33, a0g_34, a0g_35, a0g_36, a0g_37, a0g_38, a0g_39])), (a0_17, .inl (ka0_17, 23, .inl (fa0_17))), (a0_19, .inl (ka0_19, 368, .inl (j11a0_19_a)))] → va_S A s.heap H locs → lv_has ls 2 [(0, .ref a0), (1, .int j11l1)] → K H locs (F0 m 11 ls []) := by
      intro n
      induction n with
      | zero =>
        intro j11l1 j11a0_19_a H locs ls hm bj11l1_l bj11l1_u bj11a0_19_a hF0 hP hD hS hl
        first | exact zg_0 hm bj11l1_u (by decide) | (have h8 := ai_min j11l1; have h9 := ai_max j11l1; exact absurd hm (by omega))
      | succ n ih11 =>
        intro j11l1 j11a0_19_a H locs ls hm bj11l1_l bj11l1_u bj11a0_19_a hF0 hP hD hS hl
        refine (hK0 _ _ _).mpr ?_
        have hm11 := hm
        obtain ⟨SX11, hSX11⟩ : ∃ q9, Sf_X8_note_11_1 a0_21.toInt (fl_A fa0_17) j11l1.toInt (fl_A j11a0_19_a) = q9 := ⟨_, rfl⟩
        have hF1 := hSX11.symm.trans (Sf_X8_note_11_1.eq_1 a0_21.toInt (fl_A fa0_17) j11l1.toInt (fl_A j11a0_19_a))
        refine lv_iload_n hx hb dX8_note_11 rfl (lv_at hl 1 rfl) ?_
        refine lv_sipush (v := 345) hx hb dX8_note_12 zk_sipush_345 ?_
        refine lv_icmp_ge (tgt := 39) hx hb dX8_note_15 (by decide) (fun c15 => ?_) (fun c15 => ?_)
        · have gc15 := ai_le c15
          have l15t_j11l1 : (345 : Int) ≤ j11l1.toInt := Int.le_trans zq212 gc15
          have hF1 := hF1.trans (if_pos (show 345 ≤ j11l1.toInt from gc15))
          have hF0 := hF0.trans (fl_wh_r (hSX11.trans hF1))
          refine lv_aload_n hx hb dX8_note_39 rfl (lv_at hl 0 rfl) ?_
          refine lv_dup hx hb dX8_note_40 rfl ?_
          refine va_get (D := (dC, dI)) (ci := 8) (v := .int a0_21) (C := RX8) (T := TX8) (N := 40) hx hb hts zi_X8_note_8 hown hK hP 0 rfl rfl 21 (by decide) (hts (.fieldLink RX8 176 "WaxTurnsModel" "undos" "I") (List.mem_cons_of_mem _ (List.mem_append_left _ (List.mem_of_getElem? (i := 0) rfl)))) (fun _ h9 => h9) rfl dX8_note_41 ?_
          refine lv_iconst (v := 1) hx hb dX8_note_44 zk_iconst_1 ?_
          refine lv_isub hx hb dX8_note_45 ?_
          refine lv_topi (fun x45 ex45 => ?_)
          have qx45 : x45.toInt = a0_21.toInt - (1 : Int32).toInt := ai_sub ex45 ⟨l6f_a0_21, u6f_a0_21⟩ ⟨zq1, zq0⟩ (by decide) (by decide)
          have bx45 : (15 : Int) ≤ x45.toInt ∧ x45.toInt ≤ 15 := ⟨by rw [qx45]; exact Int.sub_le_sub l6f_a0_21 zq0, by rw [qx45]; exact Int.sub_le_sub u6f_a0_21 zq1⟩
          have wx45 : x45.toInt = a0_21.toInt - 1 := qx45
          have hF0 := hF0.trans (fl_lt_eq (show x45.toInt = a0_21.toInt - 1 from qx45))
          refine va_put (D := (dC, dI)) (ci := 8) (v := .int x45) (ty := .int) (C := RX8) (T := TX8) (N := 40) hx hb hts zi_X8_note_8 tyX8 tyX8_ok nmX8 hown hK hP hD hS 0 rfl rfl 21 (by decide) (hts (.fieldLink RX8 176 "WaxTurnsModel" "undos" "I") (List.mem_cons_of_mem _ (List.mem_append_left _ (List.mem_of_getElem? (i := 0) rfl)))) (fun _ h9 => h9) rfl (tyX8_ok 21 (by decide)) rfl rfl (Nat.le_of_ble_eq_true rfl) dX8_note_46 (fun H locs hP hD hS => ?_)
          refine zs_0 (y := (a0, .inr (8, [a0g_0, a0g_1, a0g_2, a0g_3, a0g_4, a0g_5, a0g_6, a0g_7, a0g_8, a0g_9, a0g_10, a0g_11, a0g_12, a0g_13, a0g_14, a0g_15, a0g_16, Value.ref a0_17, a0g_18, Value.ref a0_19, a0g_20, Value.int x45, a0g_22, a0g_23, a0g_24, a0g_25, a0g_26, a0g_27, a0g_28, a0g_29, a0g_30, a0g_31, a0g_32, a0g_33, a0g_34, a0g_35, a0g_36, a0g_37, a0g_38, a0g_39]))) hP hD rfl (fun hP hD => ?_)
          refine lv_aload_n hx hb dX8_note_49 rfl (lv_at hl 0 rfl) ?_
          refine va_get (D := (dC, dI)) (ci := 8) (v := .ref a0_17) (C := RX8) (T := TX8) (N := 40) hx hb hts zi_X8_note_8 hown hK hP 0 rfl rfl 17 (by decide) (hts (.fieldLink RX8 26 "WaxTurnsModel" "st" "[I") (List.mem_cons_of_mem _ (List.mem_append_left _ (List.mem_of_getElem? (i := 2) rfl)))) (fun _ h9 => h9) rfl dX8_note_50 ?_
          refine lv_iconst (v := 0) hx hb dX8_note_53 zk_iconst_0 ?_
          refine lv_aload_n hx hb dX8_note_54 rfl (lv_at hl 0 rfl) ?_
          refine va_get (D := (dC, dI)) (ci := 8) (v := .ref a0_19) (C := RX8) (T := TX8) (N := 40) hx hb hts zi_X8_note_8 hown hK hP 0 rfl rfl 19 (by decide) (hts (.fieldLink RX8 32 "WaxTurnsModel" "undone" "[I") (List.mem_cons_of_mem _ (List.mem_append_left _ (List.mem_of_getElem? (i := 1) rfl)))) (fun _ h9 => h9) rfl dX8_note_55 ?_
          refine lv_bipush (v := 23) hx hb dX8_note_58 zk_bipush_23 ?_
          refine lv_aload_n hx hb dX8_note_60 rfl (lv_at hl 0 rfl) ?_
          refine va_get (D := (dC, dI)) (ci := 8) (v := .int x45) (C := RX8) (T := TX8) (N := 40) hx hb hts zi_X8_note_8 hown hK hP 0 rfl rfl 21 (by decide) (hts (.fieldLink RX8 176 "WaxTurnsModel" "undos" "I") (List.mem_cons_of_mem _ (List.mem_append_left _ (List.mem_of_getElem? (i := 0) rfl)))) (fun _ h9 => h9) rfl dX8_note_61 ?_
          refine lv_imul hx hb dX8_note_64 ?_
          refine lv_topi (fun x64 ex64 => ?_)
          have qx64 : x64.toInt = (23 : Int32).toInt * x45.toInt ∧ (345 : Int) ≤ x64.toInt ∧ x64.toInt ≤ 345 := ai_mul ex64 ⟨zq170, zq171⟩ ⟨bx45.1, bx45.2⟩ (by decide) (by decide) zq211
          have wx64 : x64.toInt = 23 * x45.toInt := qx64.1
          have hF0 := hF0.trans (fl_lt_eq (show x64.toInt = 23 * x45.toInt from qx64.1))
          refine lv_bipush (v := 23) hx hb dX8_note_65 zk_bipush_23 ?_
          refine zc_cutc (wc := [(a0_17, .inl (ka0_17, 23, .inl (fa0_17))), (a0_19, .inl (ka0_19, 368, .inl (j11a0_19_a)))]) hP hD hS hA [1, 2] (by decide +kernel) rfl (fun hPc hDc hFc hCc => ?_)
          have hKc := hK.sub (tys' := [(ka0_17, .int), (ka0_19, .int)]) [0, 1] rfl
          refine va_callv (va_runS (As := [.ref a0_17, .int 0, .ref a0_19, .int x64, .int 23]) (rest := []) ⟨hx, hb, hml, hown, hts⟩ (c_X8_copy_23_368 l dC dI H.size a0_17 0 a0_19 x64 23 ka0_17 fa0_17 ka0_19 j11a0_19_a zq5 zq6 (Int.le_trans zq213 qx64.2.1) qx64.2.2 zq170 zq171) (va_cwS 5 hts gX8_note_X8_copy rfl rfl rfl zd_X8_copy.2 ⟨Nat.le_of_ble_eq_true rfl, Nat.le_of_ble_eq_true rfl⟩) ⟨ax_blind (fun _ _ _ _ _ => trivial), ax_pre hPc hKc hDc (fun _ _ => trivial)⟩ rfl rfl hl.1 rfl (lv_room (Nat.le_of_ble_eq_true rfl)) dX8_note_67 ⟨Nat.le_of_ble_eq_true rfl, Nat.le_of_ble_eq_true rfl⟩) hS (fun q _ h => hFc q h) hFc (fun u t H locs ht hvm hw => zx_1 (fun v67nfa3 => zy_1 (fun hraw67_0 hB hz1 hk1 hS1 => zo hB ht hS1 (fun hP1 hK1 hD1 hS => ?_))))
          refine zc_backc (w := [(a0, .inr (8, [a0g_0, a0g_1, a0g_2, a0g_3, a0g_4, a0g_5, a0g_6, a0g_7, a0g_8, a0g_9, a0g_10, a0g_11, a0g_12, a0g_13, a0g_14, a0g_15, a0g_16, Value.ref a0_17, a0g_18, Value.ref a0_19, a0g_20, Value.int x45, a0g_22, a0g_23, a0g_24, a0g_25, a0g_26, a0g_27, a0g_28, a0g_29, a0g_30, a0g_31, a0g_32, a0g_33, a0g_34, a0g_35, a0g_36, a0g_37, a0g_38, a0g_39])), (a0_17, .inl (ka0_17, 23, .inl (fa0_17))), (a0_19, .inl (ka0_19, 368, .inl (v67nfa3)))]) hP hD hCc hk1 hFc hP1 hD1 [.inl 0, .inr 0, .inr 1] (by decide +kernel) rfl (fun hP hD => ?_)
          have hc67 : va_cpy (fl_A fa0_17) (fl_A j11a0_19_a) (0) (x64.toInt.toNat) 23 = (fl_A v67nfa3) := (fl_cpy hraw67_0).symm
          have hF0 := hF0.trans (fl_lt_eq hc67.symm)
          have bv67nfa3 : (md_S v67nfa3) := cp_SM hraw67_0 (by decide) (md_ix (u := x45) wx64 (Int.le_trans zq214 bx45.1)) bfa0_17 bj11a0_19_a
          refine lv_aload_n hx hb dX8_note_70 rfl (lv_at hl 0 rfl) ?_
          refine lv_dup hx hb dX8_note_71 rfl ?_
          refine va_get (D := (dC, dI)) (ci := 8) (v := .int x45) (C := RX8) (T := TX8) (N := 40) hx hb hts zi_X8_note_8 hown hK hP 0 rfl rfl 21 (by decide) (hts (.fieldLink RX8 176 "WaxTurnsModel" "undos" "I") (List.mem_cons_of_mem _ (List.mem_append_left _ (List.mem_of_getElem? (i := 0) rfl)))) (fun _ h9 => h9) rfl dX8_note_72 ?_
          refine lv_iconst (v := 1) hx hb dX8_note_75 zk_iconst_1 ?_
          refine lv_iadd hx hb dX8_note_76 ?_
          refine lv_topi (fun x76 ex76 => ?_)
          have qx76 : x76.toInt = x45.toInt + (1 : Int32).toInt := ai_add ex76 ⟨bx45.1, bx45.2⟩ ⟨zq1, zq0⟩ (by decide) (by decide)
          have bx76 : (16 : Int) ≤ x76.toInt ∧ x76.toInt ≤ 16 := ⟨by rw [qx76]; exact Int.add_le_add bx45.1 zq1, by rw [qx76]; exact Int.add_le_add bx45.2 zq0⟩
          have wx76 : x76.toInt = x45.toInt + 1 := qx76
          have hF0 := hF0.trans (fl_lt_eq (show x76.toInt = x45.toInt + 1 from qx76))
          refine va_put (D := (dC, dI)) (ci := 8) (v := .int x76) (ty := .int) (C := RX8) (T := TX8) (N := 40) hx hb hts zi_X8_note_8 tyX8 tyX8_ok nmX8 hown hK hP hD hS 0 rfl rfl 21 (by decide) (hts (.fieldLink RX8 176 "WaxTurnsModel" "undos" "I") (List.mem_cons_of_mem _ (List.mem_append_left _ (List.mem_of_getElem? (i := 0) rfl)))) (fun _ h9 => h9) rfl (tyX8_ok 21 (by decide)) rfl rfl (Nat.le_of_ble_eq_true rfl) dX8_note_77 (fun H locs hP hD hS => ?_)
          refine zs_0 (y := (a0, .inr (8, [a0g_0, a0g_1, a0g_2, a0g_3, a0g_4, a0g_5, a0g_6, a0g_7, a0g_8, a0g_9, a0g_10, a0g_11, a0g_12, a0g_13, a0g_14, a0g_15, a0g_16, Value.ref a0_17, a0g_18, Value.ref a0_19, a0g_20, Value.int x76, a0g_22, a0g_23, a0g_24, a0g_25, a0g_26, a0g_27, a0g_28, a0g_29, a0g_30, a0g_31, a0g_32, a0g_33, a0g_34, a0g_35, a0g_36, a0g_37, a0g_38, a0g_39]))) hP hD rfl (fun hP hD => ?_)
          have hFe : FX = (x76.toInt, (fl_A v67nfa3)) := hF0
          exact W.vret hx hb hr (fun t ht hW => ⟨⟨(), rfl, trivial, x76, v67nfa3, ⟨Int.le_trans (by decide) bx76.1, bx76.2⟩, bv67nfa3, hFe, by rw [ht]; exact hP, va_K.moved hW.alike hK, hD⟩, hS.F ht⟩) hS.2.2 dX8_note_80
        · have gc15 := ai_nle c15
          have u15f_j11l1 : j11l1.toInt ≤ (344 : Int) := ai_lthi gc15 zq215
          have hF1 := hF1.trans (if_neg (show ¬ (345 ≤ j11l1.toInt) from Int.not_le.mpr gc15))
          refine lv_aload_n hx hb dX8_note_18 rfl (lv_at hl 0 rfl) ?_
          refine va_get (D := (dC, dI)) (ci := 8) (v := .ref a0_19) (C := RX8) (T := TX8) (N := 40) hx hb hts zi_X8_note_8 hown hK hP 0 rfl rfl 19 (by decide) (hts (.fieldLink RX8 32 "WaxTurnsModel" "undone" "[I") (List.mem_cons_of_mem _ (List.mem_append_left _ (List.mem_of_getElem? (i := 1) rfl)))) (fun _ h9 => h9) rfl dX8_note_19 ?_
          refine lv_iload_n hx hb dX8_note_22 rfl (lv_at hl 1 rfl) ?_
          refine lv_aload_n hx hb dX8_note_23 rfl (lv_at hl 0 rfl) ?_
          refine va_get (D := (dC, dI)) (ci := 8) (v := .ref a0_19) (C := RX8) (T := TX8) (N := 40) hx hb hts zi_X8_note_8 hown hK hP 0 rfl rfl 19 (by decide) (hts (.fieldLink RX8 32 "WaxTurnsModel" "undone" "[I") (List.mem_cons_of_mem _ (List.mem_append_left _ (List.mem_of_getElem? (i := 1) rfl)))) (fun _ h9 => h9) rfl dX8_note_24 ?_
          refine lv_iload_n hx hb dX8_note_27 rfl (lv_at hl 1 rfl) ?_
          refine lv_bipush (v := 23) hx hb dX8_note_28 zk_bipush_23 ?_
          refine lv_iadd hx hb dX8_note_30 ?_
          refine lv_topi (fun x30 ex30 => ?_)
          have qx30 : x30.toInt = j11l1.toInt + (23 : Int32).toInt := ai_add ex30 ⟨bj11l1_l, u15f_j11l1⟩ ⟨zq170, zq171⟩ (by decide) (by decide)
          have bx30 : (23 : Int) ≤ x30.toInt ∧ x30.toInt ≤ 367 := ⟨by rw [qx30]; exact Int.add_le_add bj11l1_l zq170, by rw [qx30]; exact Int.add_le_add u15f_j11l1 zq171⟩
          have wx30 : x30.toInt = j11l1.toInt + 23 := qx30
          have hF1 := hF1.trans (fl_lt_eq (show x30.toInt = j11l1.toInt + 23 from qx30))
          refine va_iald hx hb hK hP 2 1 rfl rfl (ai_in bx30.1 bx30.2 (by decide) (by decide)) dX8_note_31 ?_
          refine lv_topi (fun x31 ex31 => ?_)
          have fqx31 := congrArg Int32.toInt ex31
          have hF1 := hF1.trans (fl_lt_eq (show x31.toInt = (fl_A j11a0_19_a) (x30.toInt.toNat) from fqx31))
          refine va_iast hx hb hK hP hD hS 2 1 rfl rfl (ai_in bj11l1_l u15f_j11l1 (by decide) (by decide)) dX8_note_32 (fun H locs hP hD hS => ?_)
          obtain ⟨f32, ef32⟩ : ∃ g9 : Nat → Int32, g9 = upd j11a0_19_a (j11l1 : Int32).toNatClampNeg x31 := ⟨_, rfl⟩
          refine zs_2 (y := (a0_19, .inl (ka0_19, 368, .inl (f32)))) hP hD (by rw [ef32]) (fun hP hD => ?_)
          have bf32 : (md_S f32) := by rw [ef32]; exact md_sh bj11a0_19_a ex31 (by omega) bj11l1_l
          have fqf32 := fl_up_eq ef32
          have hF1 := hF1.trans (fl_lt_eq (show (fl_A f32) = fl_up (fl_A j11a0_19_a) (j11l1.toInt.toNat) x31.toInt from fqf32))
          obtain ⟨x33, ex33⟩ : ∃ y : Int32, y = j11l1 + Int32.ofInt 1 := ⟨_, rfl⟩
          have qx33 : x33.toInt = j11l1.toInt + 1 := ai_inc ex33 (by decide) (by decide) u15f_j11l1 (by decide)
          have bx33 : (1 : Int) ≤ x33.toInt ∧ x33.toInt ≤ 345 := ⟨by rw [qx33]; exact Int.add_le_add bj11l1_l (Int.le_refl _), by rw [qx33]; exact Int.add_le_add u15f_j11l1 (Int.le_refl _)⟩
          refine lv_iinc (v := x33) (lv' := [(1, .int x33), (0, .ref a0)]) hx hb dX8_note_33 hl (k := 1) rfl ex33.symm (by decide) rfl (fun ls hl => ?_)
          have hF1 := hF1.trans (fl_lt_eq (show x33.toInt = j11l1.toInt + 1 from qx33))
          refine lv_goto (tgt := 11) hx hb dX8_note_36 (by decide) ?_
          exact (hK0 _ _ _).mp (ih11 x33 f32 _ _ _ (by first | exact zg_s hm11 qx33 | (have h0 := qx33; omega)) (Int.le_trans zq4 bx33.1) bx33.2 bf32 (hF0.trans (fl_wh_l (hSX11.trans hF1))) hP hD hS (lv_sub hl [1, 0] rfl))
    exact (hK0 _ _ _).mp (J11 346 0 fa0_19 _ _ _ (by first | decide +kernel | (have h1 : (0 : Int) ≤ (0 : Int32).toInt := zq5; have h2 : (0 : Int32).toInt ≤ (0 : Int) := zq6; omega)) zq5 (Int.le_trans zq6 zq213) bfa0_19 (by rw [show (0 : Int32).toInt = 0 from by decide]; exact hF0) hP hD hS (lv_sub hl [1, 0] rfl))

set_option maxHeartbeats 4000000 in
set_option maxRecDepth 100000 in
theorem f_X8_isFigure (l : Launch) (dC : Nat → ClassId) (dI : Nat → Nat → Nat) (sz : Nat) (a0 : Nat) (a1 : Int32) (a0g_0 a0g_1 a0g_2 a0g_3 a0g_4 a0g_5 a0g_6 a0g_7 a0g_8 a0g_9 a0g_10 a0g_11 a0g_12 a0g_13 a0g_16 a0g_17 a0g_18 a0g_19 a0g_20 a0g_21 a0g_22 a0g_23 a0g_24 a0g_25 a0g_26 a0g_27 a0g_28 a0g_29 a0g_30 a0g_31 a0g_32 a0g_33 a0g_34 a0g_35 a0g_36 a0g_37 a0g_38 a0g_39 : Value) (a0_14 : Int32) (a0_15 : Nat) (ka0_15 : ClassId) (fa0_15 : Nat → Int32) (ba0_14_l : (1 : Int) ≤ a0_14.toInt) (ba0_14_u : a0_14.toInt ≤ (1 : Int)) (bfa0_15 : ((∀ k : Nat, 0 ≤ k → k ≤ 0 → (2 : Int) ≤ (fa0_15 k).toInt ∧ (fa0_15 k).toInt ≤ 9) ∧ (∀ k : Nat, 1 ≤ k → k ≤ 1 → (1 : Int) ≤ (fa0_15 k).toInt ∧ (fa0_15 k).toInt ≤ 20) ∧ (∀ k : Nat, 2 ≤ k → k ≤ 2 → (0 : Int) ≤ (fa0_15 k).toInt ∧ (fa0_15 k).toInt ≤ 8) ∧ (∀ k : Nat, 3 ≤ k → k ≤ 3 → (0 : Int) ≤ (fa0_15 k).toInt ∧ (fa0_15 k).toInt ≤ 100) ∧ (∀ k : Nat, 4 ≤ k → k ≤ 4 → (0 : Int) ≤ (fa0_15 k).toInt ∧ (fa0_15 k).toInt ≤ 9) ∧ (∀ k : Nat, 5 ≤ k → k ≤ 5 → (0 : Int) ≤ (fa0_15 k).toInt ∧ (fa0_15 k).toInt ≤ 3) ∧ (∀ k : Nat, 6 ≤ k → k ≤ 6 → (0 : Int) ≤ (fa0_15 k).toInt ∧ (fa0_15 k).toInt ≤ 6) ∧ (∀ k : Nat, 7 ≤ k → k ≤ 9 → (0 : Int) ≤ (fa0_15 k).toInt ∧ (fa0_15 k).toInt ≤ 8) ∧ (∀ k : Nat, 12 ≤ k → k ≤ 29 → (0 : Int) ≤ (fa0_15 k).toInt ∧ (fa0_15 k).toInt ≤ 20) ∧ (∀ k : Nat, 30 ≤ k → k ≤ 35 → (0 : Int) ≤ (fa0_15 k).toInt ∧ (fa0_15 k).toInt ≤ 8) ∧ (∀ k : Nat, 36 ≤ k → k ≤ 47 → (0 : Int) ≤ (fa0_15 k).toInt ∧ (fa0_15 k).toInt ≤ 999))) : zm l yX8_isFigure wsX8_isFigure ({ frames := 1, cells := 0, slots := 0, locals := 22 }) [.ref a0, .int a1] dC dI sz [(a0, .inr (8, [a0g_0, a0g_1, a0g_2, a0g_3, a0g_4, a0g_5, a0g_6, a0g_7, a0g_8, a0g_9, a0g_10, a0g_11, a0g_12, a0g_13, Value.int a0_14, Value.ref a0_15, a0g_16, a0g_17, a0g_18, a0g_19, a0g_20, a0g_21, a0g_22, a0g_23, a0g_24, a0g_25, a0g_26, a0g_27, a0g_28, a0g_29, a0g_30, a0g_31, a0g_32, a0g_33, a0g_34, a0g_35, a0g_36, a0g_37, a0g_38, a0g_39])), (a0_15, .inl (ka0_15, 156, .inl (fa0_15)))] [(ka0_15, .int)] (fun A _ => True) (fun A => va_Qi (fun (r : Int32) (_ : Unit) => ((r = 1 ∧ (0 : Int) ≤ a1.toInt ∧ a1.toInt ≤ (8 : Int)) ∨ (r = 0)) ∧ r.toInt = Ff_X8_isFigure a1.toInt a0_14.toInt (fl_A fa0_15)) (fun (_ : Unit) (t : State) => ax_B dC dI A [(a0, .inr (8, [a0g_0, a0g_1, a0g_2, a0g_3, a0g_4, a0g_5, a0g_6, a0g_7, a0g_8, a0g_9, a0g_10, a0g_11, a0g_12, a0g_13, Value.int a0_14, Value.ref a0_15, a0g_16, a0g_17, a0g_18, a0g_19, a0g_20, a0g_21, a0g_22, a0g_23, a0g_24, a0g_25, a0g_26, a0g_27, a0g_28, a0g_29, a0g_30, a0g_31, a0g_32, a0g_33, a0g_34, a0g_35, a0g_36, a0g_37, a0g_38, a0g_39])), (a0_15, .inl (ka0_15, 156, .inl (fa0_15)))] [(ka0_15, .int)] t) A) := by
  refine zh (cc := cX8_isFigure) (maxL := 2) (ret := (some .boolean)) zn_RX8 rfl (Nat.le_of_ble_eq_true rfl) (fun p e s m below meth c A ls hx hb hml hr hts (hown : s.vm.findClass RX8 = some m.cls) hlocks hA hS hP hK hD hE (hl : lv_has ls 2 [(0, .ref a0), (1, .int a1)]) => ?_)
  generalize hFX : Ff_X8_isFigure a1.toInt a0_14.toInt (fl_A fa0_15) = FX at ⊢
  have hF0 := hFX.symm.trans (Ff_X8_isFigure.eq_1 a1.toInt a0_14.toInt (fl_A fa0_15))
  refine lv_aload_n hx hb dX8_isFigure_0 rfl (lv_at hl 0 rfl) ?_
  refine va_get (D := (dC, dI)) (ci := 8) (v := .int a0_14) (C := RX8) (T := TX8) (N := 40) hx hb hts zi_X8_isFigure_8 hown hK hP 0 rfl rfl 14 (by decide) (hts (.fieldLink RX8 173 "WaxTurnsModel" "hasGallery" "Z") (List.mem_cons_of_mem _ (List.mem_append_left _ (List.mem_of_getElem? (i := 0) rfl)))) (fun _ h9 => h9) rfl dX8_isFigure_1 ?_
  refine lv_if_eq (tgt := 27) hx hb dX8_isFigure_4 (by decide) (fun c4 => ?_) (fun c4 => ?_)
  · have gc4 := ai_eq c4
    have u4t_a0_14 : a0_14.toInt ≤ (0 : Int) := Int.le_trans (Int.le_of_eq gc4) zq6
    have l4t_a0_14 : (1 : Int) ≤ a0_14.toInt := ba0_14_l
    exact absurd (Int.le_trans l4t_a0_14 u4t_a0_14) (by decide)
  · have gc4 := ai_ne c4
    have hF0 := hF0.trans (if_neg (show ¬ (a0_14.toInt = 0) from  gc4))
    refine lv_iload_n hx hb dX8_isFigure_7 rfl (lv_at hl 1 rfl) ?_
    refine lv_iconst (v := 0) hx hb dX8_isFigure_8 zk_iconst_0 ?_
    refine lv_aload_n hx hb dX8_isFigure_9 rfl (lv_at hl 0 rfl) ?_
    refine va_get (D := (dC, dI)) (ci := 8) (v := .ref a0_15) (C := RX8) (T := TX8) (N := 40) hx hb hts zi_X8_isFigure_8 hown hK hP 0 rfl rfl 15 (by decide) (hts (.fieldLink RX8 20 "WaxTurnsModel" "\x72" "[I") (List.mem_cons_of_mem _ (List.mem_append_left _ (List.mem_of_getElem? (i := 1) rfl)))) (fun _ h9 => h9) rfl dX8_isFigure_10 ?_
    refine lv_iconst (v := 0) hx hb dX8_isFigure_13 zk_iconst_0 ?_
    refine va_iald hx hb hK hP 1 0 rfl rfl (by unfold vp_in; decide +kernel) dX8_isFigure_14 ?_
    refine lv_topi (fun x14 ex14 => ?_)
    have bx14 : (2 : Int) ≤ x14.toInt ∧ x14.toInt ≤ 9 := by rw [ex14]; exact ai_rd bfa0_15.1 zq5 zq6 (by decide) (by decide) (by decide)
    have fqx14 := congrArg Int32.toInt ex14
    have hF0 := hF0.trans (fl_lt_eq (show x14.toInt = (fl_A fa0_15) (0) from fqx14))
    refine lv_iconst (v := 1) hx hb dX8_isFigure_15 zk_iconst_1 ?_
    refine lv_isub hx hb dX8_isFigure_16 ?_
    refine lv_topi (fun x16 ex16 => ?_)
    have qx16 : x16.toInt = x14.toInt - (1 : Int32).toInt := ai_sub ex16 ⟨bx14.1, bx14.2⟩ ⟨zq1, zq0⟩ (by decide) (by decide)
    have bx16 : (1 : Int) ≤ x16.toInt ∧ x16.toInt ≤ 8 := ⟨by rw [qx16]; exact Int.sub_le_sub bx14.1 zq0, by rw [qx16]; exact Int.sub_le_sub bx14.2 zq1⟩
    have wx16 : x16.toInt = x14.toInt - 1 := qx16
    have hF0 := hF0.trans (fl_lt_eq (show x16.toInt = x14.toInt - 1 from qx16))
    refine va_calli (va_runS (As := [.int a1, .int 0, .int x16]) (rest := []) ⟨hx, hb, hml, hown, hts⟩ (f_X8_in l dC dI s.heap.size a1 0 x16 ) (va_cwS 3 hts gX8_isFigure_X8_in rfl rfl rfl zd_X8_in.2 ⟨Nat.le_of_ble_eq_true rfl, Nat.le_of_ble_eq_true rfl⟩) ⟨ax_blind (fun _ _ _ _ _ => trivial), ax_pre (zp_P0 hP) (zp_K hK) (zp_D0 hD) (fun _ _ => trivial)⟩ rfl rfl hl.1 rfl (lv_room (Nat.le_of_ble_eq_true rfl)) dX8_isFigure_17 ⟨Nat.le_of_ble_eq_true rfl, Nat.le_of_ble_eq_true rfl⟩) hS (fun q _ h => zp_F0 hD hS hA q h) (zp_F0 hD hS hA) (fun r17 u t H locs ht hvm hw hB hz1 hk1 hS1 => zo0 hB ht hP hD hk1 (zp_F0 hD hS hA) hS1 (fun hP hK1 hD hS => ?_))
    obtain ⟨hw, hfr17⟩ := hw
    rw [show (0 : Int32).toInt = 0 from by decide] at hfr17
    have hc17 : Ff_X8_in a1.toInt 0 x16.toInt = r17.toInt := hfr17.symm
    have hF0 := hF0.trans (fl_lt_eq hc17.symm)
    rcases hw with hw | hw
    · obtain ⟨hw, h17⟩ := hw
      subst hw
      have l17k0_a1 : (0 : Int) ≤ a1.toInt := Int.le_trans zq5 h17.1
      have u17k0_a1 : a1.toInt ≤ (8 : Int) := Int.le_trans h17.2 bx16.2
      have l17k0_x16 : (1 : Int) ≤ x16.toInt := bx16.1
      have hF0 := hF0.trans (if_pos (by decide))
      refine lv_if_eq (tgt := 27) hx hb dX8_isFigure_20 (by decide) (fun c20 => absurd c20 (by decide +kernel)) (fun _ => ?_)
      refine lv_iconst (v := 1) hx hb dX8_isFigure_23 zk_iconst_1 ?_
      refine lv_goto (tgt := 28) hx hb dX8_isFigure_24 (by decide) ?_
      have hFe : FX = 1 := hF0
      exact W.zret (v := 1) hx hb hr rfl (fun t ht hW => ⟨⟨1, (), rfl, ⟨(Or.inl ⟨rfl, l17k0_a1, u17k0_a1⟩), hFe.symm⟩, by rw [ht]; exact hP, va_K.moved hW.alike hK, hD⟩, hS.F ht⟩) hS.2.2 dX8_isFigure_28
    · obtain ⟨hw, h17⟩ := hw
      subst hw
      have hF0 := hF0.trans (if_neg (by decide))
      refine lv_if_eq (tgt := 27) hx hb dX8_isFigure_20 (by decide) (fun _ => ?_) (fun c20 => absurd (by decide +kernel) c20)
      refine lv_iconst (v := 0) hx hb dX8_isFigure_27 zk_iconst_0 ?_
      have hFe : FX = 0 := hF0
      exact W.zret (v := 0) hx hb hr rfl (fun t ht hW => ⟨⟨0, (), rfl, ⟨(Or.inr (rfl)), hFe.symm⟩, by rw [ht]; exact hP, va_K.moved hW.alike hK, hD⟩, hS.F ht⟩) hS.2.2 dX8_isFigure_28

set_option maxHeartbeats 4000000 in
set_option maxRecDepth 100000 in
theorem f_X8_why (l : Launch) (dC : Nat → ClassId) (dI : Nat → Nat → Nat) (sz : Nat) (a0 : Nat) (a1 : Int32) (a2 : Int32) (a0g_0 a0g_1 a0g_2 a0g_3 a0g_4 a0g_5 a0g_6 a0g_7 a0g_8 a0g_9 a0g_10 a0g_11 a0g_12 a0g_13 a0g_14 a0g_15 a0g_16 a0g_17 a0g_18 a0g_19 a0g_20 a0g_21 a0g_22 a0g_23 a0g_24 a0g_25 a0g_26 a0g_27 a0g_28 a0g_29 a0g_30 a0g_31 a0g_32 a0g_33 a0g_34 a0g_35 a0g_36 a0g_37 a0g_38 a0g_39 : Value) (ba1_l : (0 : Int) ≤ a1.toInt) (ba1_u : a1.toInt ≤ (1 : Int)) (ba2_l : (0 : Int) ≤ a2.toInt) (ba2_u : a2.toInt ≤ (1 : Int)) : zm l yX8_why wsX8_why ({ frames := 0, cells := 0, slots := 0, locals := 0 }) [.ref a0, .int a1, .int a2] dC dI sz [(a0, .inr (8, [a0g_0, a0g_1, a0g_2, a0g_3, a0g_4, a0g_5, a0g_6, a0g_7, a0g_8, a0g_9, a0g_10, a0g_11, a0g_12, a0g_13, a0g_14, a0g_15, a0g_16, a0g_17, a0g_18, a0g_19, a0g_20, a0g_21, a0g_22, a0g_23, a0g_24, a0g_25, a0g_26, a0g_27, a0g_28, a0g_29, a0g_30, a0g_31, a0g_32, a0g_33, a0g_34, a0g_35, a0g_36, a0g_37, a0g_38, a0g_39]))] [] (fun A _ => True) (fun A => va_Qi (fun (r : Int32) (_ : Unit) => ((r = 2 ∧ (1 : Int) ≤ a1.toInt ∧ a1.toInt ≤ (1 : Int) ∧ (0 : Int) ≤ a2.toInt ∧ a2.toInt ≤ (0 : Int)) ∨ (r = 1 ∧ (0 : Int) ≤ a1.toInt ∧ a1.toInt ≤ (0 : Int)) ∨ (r = 0 ∧ (1 : Int) ≤ a1.toInt ∧ a1.toInt ≤ (1 : Int) ∧ (1 : Int) ≤ a2.toInt ∧ a2.toInt ≤ (1 : Int))) ∧ r.toInt = Ff_X8_why a1.toInt a2.toInt) (fun (_ : Unit) (t : State) => ax_B dC dI A [(a0, .inr (8, [a0g_0, a0g_1, a0g_2, a0g_3, a0g_4, a0g_5, a0g_6, a0g_7, a0g_8, a0g_9, a0g_10, a0g_11, a0g_12, a0g_13, a0g_14, a0g_15, a0g_16, a0g_17, a0g_18, a0g_19, a0g_20, a0g_21, a0g_22, a0g_23, a0g_24, a0g_25, a0g_26, a0g_27, a0g_28, a0g_29, a0g_30, a0g_31, a0g_32, a0g_33, a0g_34, a0g_35, a0g_36, a0g_37, a0g_38, a0g_39]))] [] t) A) := by
  refine zh (cc := cX8_why) (maxL := 3) (ret := (some .int)) zn_RX8 rfl (Nat.le_of_ble_eq_true rfl) (fun p e s m below meth c A ls hx hb hml hr hts (hown : s.vm.findClass RX8 = some m.cls) hlocks hA hS hP hK hD hE (hl : lv_has ls 3 [(0, .ref a0), (1, .int a1), (2, .int a2)]) => ?_)
  generalize hFX : Ff_X8_why a1.toInt a2.toInt = FX at ⊢
  have hF0 := hFX.symm.trans (Ff_X8_why.eq_1 a1.toInt a2.toInt)
  refine lv_iload_n hx hb dX8_why_0 rfl (lv_at hl 1 rfl) ?_
  refine lv_if_ne (tgt := 8) hx hb dX8_why_1 (by decide) (fun c1 => ?_) (fun c1 => ?_)
  · have gc1 := ai_ne c1
    have l1t_a1 : (1 : Int) ≤ a1.toInt := (by first | exact zg_l ba1_l gc1 (by decide) (by decide) | (have h1 := ba1_l; have h2 : (0 : Int32).toInt = 0 := (by decide); rw [h2] at gc1; omega))
    have hF0 := hF0.trans (if_neg (show ¬ (a1.toInt = 0) from  gc1))
    refine lv_iload_n hx hb dX8_why_8 rfl (lv_at hl 2 rfl) ?_
    refine lv_if_eq (tgt := 16) hx hb dX8_why_9 (by decide) (fun c9 => ?_) (fun c9 => ?_)
    · have gc9 := ai_eq c9
      have u9t_a2 : a2.toInt ≤ (0 : Int) := Int.le_trans (Int.le_of_eq gc9) zq6
      have l9t_a2 : (0 : Int) ≤ a2.toInt := ba2_l
      have hF0 := hF0.trans (if_pos (show a2.toInt = 0 from gc9))
      refine lv_iconst (v := 2) hx hb dX8_why_16 zk_iconst_2 ?_
      have hFe : FX = 2 := hF0
      exact W.iret (v := 2) hx hb hr (fun t ht hW => ⟨⟨2, (), rfl, ⟨(Or.inl ⟨rfl, l1t_a1, ba1_u, l9t_a2, u9t_a2⟩), hFe.symm⟩, by rw [ht]; exact hP, va_K.moved hW.alike hK, hD⟩, hS.F ht⟩) hS.2.2 dX8_why_17
    · have gc9 := ai_ne c9
      have l9f_a2 : (1 : Int) ≤ a2.toInt := (by first | exact zg_l ba2_l gc9 (by decide) (by decide) | (have h1 := ba2_l; have h2 : (0 : Int32).toInt = 0 := (by decide); rw [h2] at gc9; omega))
      have hF0 := hF0.trans (if_neg (show ¬ (a2.toInt = 0) from  gc9))
      refine lv_iconst (v := 0) hx hb dX8_why_12 zk_iconst_0 ?_
      refine lv_goto (tgt := 17) hx hb dX8_why_13 (by decide) ?_
      have hFe : FX = 0 := hF0
      exact W.iret (v := 0) hx hb hr (fun t ht hW => ⟨⟨0, (), rfl, ⟨(Or.inr (Or.inr (⟨rfl, l1t_a1, ba1_u, l9f_a2, ba2_u⟩))), hFe.symm⟩, by rw [ht]; exact hP, va_K.moved hW.alike hK, hD⟩, hS.F ht⟩) hS.2.2 dX8_why_17
  · have gc1 := ai_eq c1
    have u1f_a1 : a1.toInt ≤ (0 : Int) := Int.le_trans (Int.le_of_eq gc1) zq6
    have l1f_a1 : (0 : Int) ≤ a1.toInt := ba1_l
    have hF0 := hF0.trans (if_pos (show a1.toInt = 0 from gc1))
    refine lv_iconst (v := 1) hx hb dX8_why_4 zk_iconst_1 ?_
    refine lv_goto (tgt := 17) hx hb dX8_why_5 (by decide) ?_
    have hFe : FX = 1 := hF0
    exact W.iret (v := 1) hx hb hr (fun t ht hW => ⟨⟨1, (), rfl, ⟨(Or.inr (Or.inl ⟨rfl, l1f_a1, u1f_a1⟩)), hFe.symm⟩, by rw [ht]; exact hP, va_K.moved hW.alike hK, hD⟩, hS.F ht⟩) hS.2.2 dX8_why_17

set_option maxHeartbeats 4000000 in
set_option maxRecDepth 100000 in
theorem f_X8_go (l : Launch) (dC : Nat → ClassId) (dI : Nat → Nat → Nat) (sz : Nat) (a0 : Nat) (a1 : Int32) (a0_0 : Int32) (a0g_1 a0g_2 a0g_3 a0g_4 a0g_5 a0g_6 a0g_7 a0g_8 a0g_9 a0g_10 a0g_12 a0g_13 a0g_16 a0g_18 a0g_20 a0g_22 a0g_29 a0g_30 a0g_31 a0g_32 a0g_33 a0g_34 a0g_35 a0g_36 a0g_37 a0g_38 a0g_39 : Value) (a0_11 : Int32) (a0_14 : Int32) (a0_15 : Nat) (a0_17 : Nat) (a0_19 : Nat) (a0_21 : Int32) (a0_23 : Nat) (a0_24 : Nat) (a0_25 : Int32) (a0_26 : Int32) (a0_27 : Int32) (a0_28 : Int32) (ka0_17 : ClassId) (fa0_17 : Nat → Int32) (ka0_19 : ClassId) (fa0_19 : Nat → Int32) (ka0_15 : ClassId) (fa0_15 : Nat → Int32) (ka0_23 : ClassId) (fa0_23 : Nat → Int32) (ka0_24 : ClassId) (fa0_24 : Nat → Int32) (ba0_14_l : (1 : Int) ≤ a0_14.toInt) (ba0_14_u : a0_14.toInt ≤ (1 : Int)) (ba0_21_l : (0 : Int) ≤ a0_21.toInt) (ba0_21_u : a0_21.toInt ≤ (16 : Int)) (bfa0_17 : ((∀ k : Nat, 0 ≤ k → k ≤ 8 → (0 : Int) ≤ (fa0_17 k).toInt ∧ (fa0_17 k).toInt ≤ 8) ∧ (∀ k : Nat, 19 ≤ k → k ≤ 19 → (0 : Int) ≤ (fa0_17 k).toInt ∧ (fa0_17 k).toInt ≤ 8) ∧ (∀ k : Nat, 20 ≤ k → k ≤ 20 → (0 : Int) ≤ (fa0_17 k).toInt ∧ (fa0_17 k).toInt ≤ 19))) (bfa0_19 : (md_S fa0_19)) (bfa0_15 : ((∀ k : Nat, 0 ≤ k → k ≤ 0 → (2 : Int) ≤ (fa0_15 k).toInt ∧ (fa0_15 k).toInt ≤ 9) ∧ (∀ k : Nat, 1 ≤ k → k ≤ 1 → (1 : Int) ≤ (fa0_15 k).toInt ∧ (fa0_15 k).toInt ≤ 20) ∧ (∀ k : Nat, 2 ≤ k → k ≤ 2 → (0 : Int) ≤ (fa0_15 k).toInt ∧ (fa0_15 k).toInt ≤ 8) ∧ (∀ k : Nat, 3 ≤ k → k ≤ 3 → (0 : Int) ≤ (fa0_15 k).toInt ∧ (fa0_15 k).toInt ≤ 100) ∧ (∀ k : Nat, 4 ≤ k → k ≤ 4 → (0 : Int) ≤ (fa0_15 k).toInt ∧ (fa0_15 k).toInt ≤ 9) ∧ (∀ k : Nat, 5 ≤ k → k ≤ 5 → (0 : Int) ≤ (fa0_15 k).toInt ∧ (fa0_15 k).toInt ≤ 3) ∧ (∀ k : Nat, 6 ≤ k → k ≤ 6 → (0 : Int) ≤ (fa0_15 k).toInt ∧ (fa0_15 k).toInt ≤ 6) ∧ (∀ k : Nat, 7 ≤ k → k ≤ 9 → (0 : Int) ≤ (fa0_15 k).toInt ∧ (fa0_15 k).toInt ≤ 8) ∧ (∀ k : Nat, 12 ≤ k → k ≤ 29 → (0 : Int) ≤ (fa0_15 k).toInt ∧ (fa0_15 k).toInt ≤ 20) ∧ (∀ k : Nat, 30 ≤ k → k ≤ 35 → (0 : Int) ≤ (fa0_15 k).toInt ∧ (fa0_15 k).toInt ≤ 8) ∧ (∀ k : Nat, 36 ≤ k → k ≤ 47 → (0 : Int) ≤ (fa0_15 k).toInt ∧ (fa0_15 k).toInt ≤ 999))) (bfa0_23 : (∀ k, (0 : Int) ≤ (fa0_23 k).toInt ∧ (fa0_23 k).toInt ≤ 80)) (bfa0_24 : (∀ k, (0 : Int) ≤ (fa0_24 k).toInt ∧ (fa0_24 k).toInt ≤ 80)) (hkm : ∀ (j i0 i : Int32), (0 : Int) ≤ j.toInt → j.toInt ≤ 8 → i0.toInt = 12 + 2 * j.toInt → i.toInt = 13 + 2 * j.toInt → (fa0_15 i0.toNatClampNeg).toInt = (1 : Int32).toInt → (1 : Int) ≤ (fa0_15 i.toNatClampNeg).toInt) : zm l yX8_go wsX8_go ({ frames := 4, cells := 0, slots := 0, locals := 95 }) [.ref a0, .int a1] dC dI sz [(a0, .inr (8, [Value.int a0_0, a0g_1, a0g_2, a0g_3, a0g_4, a0g_5, a0g_6, a0g_7, a0g_8, a0g_9, a0g_10, Value.int a0_11, a0g_12, a0g_13, Value.int a0_14, Value.ref a0_15, a0g_16, Value.ref a0_17, a0g_18, Value.ref a0_19, a0g_20, Value.int a0_21, a0g_22, Value.ref a0_23, Value.ref a0_24, Value.int a0_25, Value.int a0_26, Value.int a0_27, Value.int a0_28, a0g_29, a0g_30, a0g_31, a0g_32, a0g_33, a0g_34, a0g_35, a0g_36, a0g_37, a0g_38, a0g_39])), (a0_17, .inl (ka0_17, 23, .inl (fa0_17))), (a0_19, .inl (ka0_19, 368, .inl (fa0_19))), (a0_15, .inl (ka0_15, 156, .inl (fa0_15))), (a0_23, .inl (ka0_23, 3, .inl (fa0_23))), (a0_24, .inl (ka0_24, 3, .inl (fa0_24)))] [(ka0_17, .int), (ka0_19, .int), (ka0_15, .int), (ka0_23, .int), (ka0_24, .int)] (fun A _ => True) (fun A => va_Qi (fun (r : Int32) (_ : Unit) => (True) ∧ r.toInt = (Ff_X8_go a1.toInt a0_14.toInt a0_21.toInt a0_25.toInt a0_26.toInt a0_27.toInt a0_28.toInt (fl_A fa0_17) (fl_A fa0_19) (fl_A fa0_15) (fl_A fa0_23) (fl_A fa0_24)).1) (fun (_ : Unit) (t : State) => ∃ na0_0 : Int32, ∃ na0_11 : Int32, ∃ na0_21 : Int32, ∃ na0_25 : Int32, ∃ na0_26 : Int32, ∃ na0_27 : Int32, ∃ na0_28 : Int32, ∃ nfa0_17 : Nat → Int32, ∃ nfa0_19 : Nat → Int32, ∃ nfa0_23 : Nat → Int32, ∃ nfa0_24 : Nat → Int32, ((0 : Int) ≤ na0_21.toInt ∧ na0_21.toInt ≤ 16) ∧ ((∀ k : Nat, 0 ≤ k → k ≤ 8 → (0 : Int) ≤ (nfa0_17 k).toInt ∧ (nfa0_17 k).toInt ≤ 8) ∧ (∀ k : Nat, 19 ≤ k → k ≤ 19 → (0 : Int) ≤ (nfa0_17 k).toInt ∧ (nfa0_17 k).toInt ≤ 8) ∧ (∀ k : Nat, 20 ≤ k → k ≤ 20 → (0 : Int) ≤ (nfa0_17 k).toInt ∧ (nfa0_17 k).toInt ≤ 19)) ∧ (md_S nfa0_19) ∧ (∀ k, (0 : Int) ≤ (nfa0_23 k).toInt ∧ (nfa0_23 k).toInt ≤ 80) ∧ (∀ k, (0 : Int) ≤ (nfa0_24 k).toInt ∧ (nfa0_24 k).toInt ≤ 80) ∧ ((Ff_X8_go a1.toInt a0_14.toInt a0_21.toInt a0_25.toInt a0_26.toInt a0_27.toInt a0_28.toInt (fl_A fa0_17) (fl_A fa0_19) (fl_A fa0_15) (fl_A fa0_23) (fl_A fa0_24)).2 = (na0_0.toInt, na0_11.toInt, na0_21.toInt, na0_25.toInt, na0_26.toInt, na0_27.toInt, na0_28.toInt, (fl_A nfa0_17), (fl_A nfa0_19), (fl_A nfa0_23), (fl_A nfa0_24))) ∧ ax_B dC dI A [(a0, .inr (8, [Value.int na0_0, a0g_1, a0g_2, a0g_3, a0g_4, a0g_5, a0g_6, a0g_7, a0g_8, a0g_9, a0g_10, Value.int na0_11, a0g_12, a0g_13, Value.int a0_14, Value.ref a0_15, a0g_16, Value.ref a0_17, a0g_18, Value.ref a0_19, a0g_20, Value.int na0_21, a0g_22, Value.ref a0_23, Value.ref a0_24, Value.int na0_25, Value.int na0_26, Value.int na0_27, Value.int na0_28, a0g_29, a0g_30, a0g_31, a0g_32, a0g_33, a0g_34, a0g_35, a0g_36, a0g_37, a0g_38, a0g_39])), (a0_17, .inl (ka0_17, 23, .inl (nfa0_17))), (a0_19, .inl (ka0_19, 368, .inl (nfa0_19))), (a0_15, .inl (ka0_15, 156, .inl (fa0_15))), (a0_23, .inl (ka0_23, 3, .inl (nfa0_23))), (a0_24, .inl (ka0_24, 3, .inl (nfa0_24)))] [(ka0_17, .int), (ka0_19, .int), (ka0_15, .int), (ka0_23, .int), (ka0_24, .int)] t) A) := by
  refine zh (cc := cX8_go) (maxL := 5) (ret := (some .int)) zn_RX8 rfl (Nat.le_of_ble_eq_true rfl) (fun p e s m below meth c A ls hx hb hml hr hts (hown : s.vm.findClass RX8 = some m.cls) hlocks hA hS hP hK hD hE (hl : lv_has ls 5 [(0, .ref a0), (1, .int a1)]) => ?_)
  generalize hFX : Ff_X8_go a1.toInt a0_14.toInt a0_21.toInt a0_25.toInt a0_26.toInt a0_27.toInt a0_28.toInt (fl_A fa0_17) (fl_A fa0_19) (fl_A fa0_15) (fl_A fa0_23) (fl_A fa0_24) = FX at ⊢
  have hF0 := hFX.symm.trans (Ff_X8_go.eq_1 a1.toInt a0_14.toInt a0_21.toInt a0_25.toInt a0_26.toInt a0_27.toInt a0_28.toInt (fl_A fa0_17) (fl_A fa0_19) (fl_A fa0_15) (fl_A fa0_23) (fl_A fa0_24))
  refine ai_open (fun K hK0 => ?_)
  refine (hK0 _ _ _).mpr ?_
  refine lv_aload_n hx hb dX8_go_0 rfl (lv_at hl 0 rfl) ?_
  refine va_callv (va_runV (As := []) (rest := []) ⟨hx, hb, hml, hown, hts⟩ (f_X8_good l dC dI s.heap.size a0 a0_0 a0g_1 a0g_2 a0g_3 a0g_4 a0g_5 a0g_6 a0g_7 a0g_8 a0g_9 a0g_10 a0g_12 a0g_13 (Value.int a0_14) (Value.ref a0_15) a0g_16 (Value.ref a0_17) a0g_18 (Value.ref a0_19) a0g_20 (Value.int a0_21) a0g_22 (Value.ref a0_23) (Value.ref a0_24) (Value.int a0_25) (Value.int a0_26) (Value.int a0_27) (Value.int a0_28) a0g_29 a0g_30 a0g_31 a0g_32 a0g_33 a0g_34 a0g_35 a0g_36 a0g_37 a0g_38 a0g_39 a0_11 ) (cwV 0 hts gX8_go_X8_good rfl rfl rfl zd_X8_good ⟨Nat.le_of_ble_eq_true rfl, Nat.le_of_ble_eq_true rfl⟩) ⟨ax_blind (fun _ _ _ _ _ => trivial), zr_8 (zp_K hK) (zp_P1 hP) (q0 := 0) rfl, ax_pre (zp_P1 hP) (zp_K hK) (zp_D1 hD) (fun _ _ => trivial)⟩ rfl rfl hl.1 rfl (lv_room (Nat.le_of_ble_eq_true rfl)) dX8_go_1 ⟨Nat.le_of_ble_eq_true rfl, Nat.le_of_ble_eq_true rfl⟩) hS (fun q _ h => zp_F1 hD hS hA q h) (zp_F1 hD hS hA) (fun u t H locs ht hvm hw => zx_2 (fun v1na0_0 v1na0_11 => zy_1 (fun hraw1_0 hB hz1 hk1 hS1 => zo1 hB ht hP hD hk1 (zp_F1 hD hS hA) hS1 (fun hP hK1 hD hS => ?_))))
  have hc1 : Ff_X8_good = (v1na0_0.toInt, v1na0_11.toInt) := hraw1_0
  have hF0 := hF0.trans (fl_c2_eq hc1)
  refine lv_aload_n hx hb dX8_go_4 rfl (lv_at hl 0 rfl) ?_
  refine lv_aload_n hx hb dX8_go_5 rfl (lv_at hl 0 rfl) ?_
  refine va_get (D := (dC, dI)) (ci := 8) (v := .int a0_14) (C := RX8) (T := TX8) (N := 40) hx hb hts zi_X8_go_8 hown hK hP 0 rfl rfl 14 (by decide) (hts (.fieldLink RX8 173 "WaxTurnsModel" "hasGallery" "Z") (zm_X8_go_r1 (List.mem_of_getElem? (i := 0) rfl))) (fun _ h9 => h9) rfl dX8_go_6 ?_
  refine lv_iload_n hx hb dX8_go_9 rfl (lv_at hl 1 rfl) ?_
  refine lv_iconst (v := 1) hx hb dX8_go_10 zk_iconst_1 ?_
  refine lv_bipush (v := 60) hx hb dX8_go_11 zk_bipush_60 ?_
  refine va_calli (va_runS (As := [.int a1, .int 1, .int 60]) (rest := [.int a0_14, .ref a0]) ⟨hx, hb, hml, hown, hts⟩ (f_X8_in l dC dI H.size a1 1 60 ) (va_cwS 3 hts gX8_go_X8_in rfl rfl rfl zd_X8_in.2 ⟨Nat.le_of_ble_eq_true rfl, Nat.le_of_ble_eq_true rfl⟩) ⟨ax_blind (fun _ _ _ _ _ => trivial), ax_pre (zp_P0 hP) (zp_K hK) (zp_D0 hD) (fun _ _ => trivial)⟩ rfl rfl hl.1 rfl (lv_room (Nat.le_of_ble_eq_true rfl)) dX8_go_13 ⟨Nat.le_of_ble_eq_true rfl, Nat.le_of_ble_eq_true rfl⟩) hS (fun q _ h => zp_F0 hD hS hA q h) (zp_F0 hD hS hA) (fun r13 u t H locs ht hvm hw hB hz1 hk1 hS1 => zo0 hB ht hP hD hk1 (zp_F0 hD hS hA) hS1 (fun hP hK1 hD hS => ?_))
  obtain ⟨hw, hfr13⟩ := hw
  rw [show (1 : Int32).toInt = 1 from by decide, show (60 : Int32).toInt = 60 from by decide] at hfr13
  have hc13 : Ff_X8_in a1.toInt 1 60 = r13.toInt := hfr13.symm
  have hF0 := hF0.trans (fl_lt_eq hc13.symm)
  rcases hw with hw | hw
  · obtain ⟨hw, h13⟩ := hw
    subst hw
    have l13k0_a1 : (1 : Int) ≤ a1.toInt := Int.le_trans zq1 h13.1
    have u13k0_a1 : a1.toInt ≤ (60 : Int) := Int.le_trans h13.2 zq46
    have hF0 := hF0.trans (if_pos (by decide))
    refine va_calli (va_runV (As := [.int a0_14, .int 1]) (rest := []) ⟨hx, hb, hml, hown, hts⟩ (f_X8_why l dC dI H.size a0 a0_14 1 (Value.int v1na0_0) a0g_1 a0g_2 a0g_3 a0g_4 a0g_5 a0g_6 a0g_7 a0g_8 a0g_9 a0g_10 (Value.int v1na0_11) a0g_12 a0g_13 (Value.int a0_14) (Value.ref a0_15) a0g_16 (Value.ref a0_17) a0g_18 (Value.ref a0_19) a0g_20 (Value.int a0_21) a0g_22 (Value.ref a0_23) (Value.ref a0_24) (Value.int a0_25) (Value.int a0_26) (Value.int a0_27) (Value.int a0_28) a0g_29 a0g_30 a0g_31 a0g_32 a0g_33 a0g_34 a0g_35 a0g_36 a0g_37 a0g_38 a0g_39 (Int.le_trans zq4 ba0_14_l) ba0_14_u (Int.le_trans zq4 zq1) zq0) (cwV 2 hts gX8_go_X8_why rfl rfl rfl zd_X8_why ⟨Nat.le_of_ble_eq_true rfl, Nat.le_of_ble_eq_true rfl⟩) ⟨ax_blind (fun _ _ _ _ _ => trivial), zr_8 (zp_K hK) (zp_P1 hP) (q0 := 0) rfl, ax_pre (zp_P1 hP) (zp_K hK) (zp_D1 hD) (fun _ _ => trivial)⟩ rfl rfl hl.1 rfl (lv_room (Nat.le_of_ble_eq_true rfl)) dX8_go_16 ⟨Nat.le_of_ble_eq_true rfl, Nat.le_of_ble_eq_true rfl⟩) hS (fun q _ h => zp_F1 hD hS hA q h) (zp_F1 hD hS hA) (fun r16 u t H locs ht hvm hw hB hz1 hk1 hS1 => zo1 hB ht hP hD hk1 (zp_F1 hD hS hA) hS1 (fun hP hK1 hD hS => ?_))
    obtain ⟨hw, hfr16⟩ := hw
    rw [show (1 : Int32).toInt = 1 from by decide] at hfr16
    have hc16 : Ff_X8_why a0_14.toInt 1 = r16.toInt := hfr16.symm
    have hF0 := hF0.trans (fl_lt_eq hc16.symm)
    rcases hw with hw | hw | hw
    · obtain ⟨hw, h16_0, h16_1, h16_2, h16_3⟩ := hw
      subst hw
      have l16k0_a0_14 : (1 : Int) ≤ a0_14.toInt := ba0_14_l
      have u16k0_a0_14 : a0_14.toInt ≤ (1 : Int) := ba0_14_u
      exact absurd h16_3 (by decide)
    · obtain ⟨hw, h16_0, h16_1⟩ := hw
      subst hw
      have l16k1_a0_14 : (1 : Int) ≤ a0_14.toInt := ba0_14_l
      have u16k1_a0_14 : a0_14.toInt ≤ (0 : Int) := h16_1
      exact absurd (Int.le_trans l16k1_a0_14 u16k1_a0_14) (by decide)
    · obtain ⟨hw, h16_0, h16_1, h16_2, h16_3⟩ := hw
      subst hw
      have l16k2_a0_14 : (1 : Int) ≤ a0_14.toInt := ba0_14_l
      have u16k2_a0_14 : a0_14.toInt ≤ (1 : Int) := ba0_14_u
      have hF0 := hF0.trans (if_neg (by decide))
      have hF0 := hF0.trans (if_neg (by decide))
      refine lv_istore_n (lv' := [(2, .int 0), (0, .ref a0), (1, .int a1)]) hx hb dX8_go_19 rfl hl (by decide) rfl (fun ls hl => ?_)
      refine lv_iload_n hx hb dX8_go_20 rfl (lv_at hl 0 rfl) ?_
      refine lv_if_ne (tgt := 41) hx hb dX8_go_21 (by decide) (fun c21 => absurd (by decide +kernel) c21) (fun _ => ?_)
      have J41 : ∀ (j41l2 : Int32) (H : Heap) (locs : List Loc) (ls : Array Slot), (0 : Int) ≤ j41l2.toInt → j41l2.toInt ≤ (3 : Int) → (FX = Gf_X8_go_41_1 a1.toInt a0_21.toInt a0_25.toInt a0_26.toInt a0_27.toInt a0_28.toInt (fl_A fa0_17) (fl_A fa0_19) (fl_A fa0_15) (fl_A fa0_23) (fl_A fa0_24) v1na0_0.toInt v1na0_11.toInt j41l2.toInt) → va_P (dC, dI) vwCl [(a0, .inr (8, [Value.int v1na0_0, a0g_1, a0g_2, a0g_3, a0g_4, a0g_5, a0g_6, a0g_7, a0g_8, a0g_9, a0g_10, Value.int v1na0_11, a0g_12, a0g_13, Value.int a0_14, Value.ref a0_15, a0g_16, Value.ref a0_17, a0g_18, Value.ref a0_19, a0g_20, Value.int a0_21, a0g_22, Value.ref a0_23, Value.ref a0_24, Value.int a0_25, Value.int a0_26, Value.int a0_27, Value.int a0_28, a0g_29, a0g_30, a0g_31, a0g_32, a0g_33, a0g_34, a0g_35, a0g_36, a0g_37, a0g_38, a0g_39])), (a0_17, .inl (ka0_17, 23, .inl (fa0_17))), (a0_19, .inl (ka0_19, 368, .inl (fa0_19))), (a0_15, .inl (ka0_15, 156, .inl (fa0_15))), (a0_23, .inl (ka0_23, 3, .inl (fa0_23))), (a0_24, .inl (ka0_24, 3, .inl (fa0_24)))] H → va_D A [(a0, .inr (8, [Value.int v1na0_0, a0g_1, a0g_2, a0g_3, a0g_4, a0g_5, a0g_6, a0g_7, a0g_8, a0g_9, a0g_10, Value.int v1na0_11, a0g_12, a0g_13, Value.int a0_14, Value.ref a0_15, a0g_16, Value.ref a0_17, a0g_18, Value.ref a0_19, a0g_20, Value.int a0_21, a0g_22, Value.ref a0_23, Value.ref a0_24, Value.int a0_25, Value.int a0_26, Value.int a0_27, Value.int a0_28, a0g_29, a0g_30, a0g_31, a0g_32, a0g_33, a0g_34, a0g_35, a0g_36, a0g_37, a0g_38, a0g_39])), (a0_17, .inl (ka0_17, 23, .inl (fa0_17))), (a0_19, .inl (ka0_19, 368, .inl (fa0_19))), (a0_15, .inl (ka0_15, 156, .inl (fa0_15))), (a0_23, .inl (ka0_23, 3, .inl (fa0_23))), (a0_24, .inl (ka0_24, 3, .inl (fa0_24)))] → va_S A s.heap H locs → lv_has ls 5 [(0, .ref a0), (1, .int a1), (2, .int j41l2)] → K H locs (F0 m 41 ls []) := by
        intro j41l2 H locs ls  bj41l2_l bj41l2_u hF0 hP hD hS hl
        refine (hK0 _ _ _).mpr ?_
        have hF0 := hF0.trans (Gf_X8_go_41_1.eq_1 a1.toInt a0_21.toInt a0_25.toInt a0_26.toInt a0_27.toInt a0_28.toInt (fl_A fa0_17) (fl_A fa0_19) (fl_A fa0_15) (fl_A fa0_23) (fl_A fa0_24) v1na0_0.toInt v1na0_11.toInt j41l2.toInt)
        refine lv_iload_n hx hb dX8_go_41 rfl (lv_at hl 2 rfl) ?_
        refine lv_if_eq (tgt := 51) hx hb dX8_go_42 (by decide) (fun c42 => ?_) (fun c42 => ?_)
        · have gc42 := ai_eq c42
          have u42t_j41l2 : j41l2.toInt ≤ (0 : Int) := Int.le_trans (Int.le_of_eq gc42) zq6
          have l42t_j41l2 : (0 : Int) ≤ j41l2.toInt := bj41l2_l
          have hF0 := hF0.trans (if_pos (show j41l2.toInt = 0 from gc42))
          refine lv_aload_n hx hb dX8_go_51 rfl (lv_at hl 0 rfl) ?_
          have hKc := hK.sub (tys' := [(ka0_17, .int), (ka0_19, .int)]) [0, 1] rfl
          refine va_callv (va_runV (As := []) (rest := []) ⟨hx, hb, hml, hown, hts⟩ (f_X8_note l dC dI H.size a0 (Value.int v1na0_0) a0g_1 a0g_2 a0g_3 a0g_4 a0g_5 a0g_6 a0g_7 a0g_8 a0g_9 a0g_10 (Value.int v1na0_11) a0g_12 a0g_13 (Value.int a0_14) (Value.ref a0_15) a0g_16 a0g_18 a0g_20 a0g_22 (Value.ref a0_23) (Value.ref a0_24) (Value.int a0_25) (Value.int a0_26) (Value.int a0_27) (Value.int a0_28) a0g_29 a0g_30 a0g_31 a0g_32 a0g_33 a0g_34 a0g_35 a0g_36 a0g_37 a0g_38 a0g_39 a0_17 a0_19 a0_21 ka0_17 fa0_17 ka0_19 fa0_19 ba0_21_l ba0_21_u bfa0_17 bfa0_19) (cwV 0 hts gX8_go_X8_note rfl rfl rfl zd_X8_note ⟨Nat.le_of_ble_eq_true rfl, Nat.le_of_ble_eq_true rfl⟩) ⟨ax_blind (fun _ _ _ _ _ => trivial), zr_8 hKc (zp_P3 hP) (q0 := 0) rfl, ax_pre (zp_P3 hP) hKc (zp_D3 hD) (fun _ _ => trivial)⟩ rfl rfl hl.1 rfl (lv_room (Nat.le_of_ble_eq_true rfl)) dX8_go_52 ⟨Nat.le_of_ble_eq_true rfl, Nat.le_of_ble_eq_true rfl⟩) hS (fun q _ h => zp_F3 hD hS hA q h) (zp_F3 hD hS hA) (fun u t H locs ht hvm hw => zx_2 (fun v52na0_21 v52nfa0_19 => zy_3 (fun bv52na0_21 bv52nfa0_19 hraw52_0 hB hz1 hk1 hS1 => zo3 hB ht hP hD hk1 (zp_F3 hD hS hA) hS1 (fun hP hK1 hD hS => ?_))))
          have hc52 : Ff_X8_note a0_21.toInt (fl_A fa0_17) (fl_A fa0_19) = (v52na0_21.toInt, (fl_A v52nfa0_19)) := hraw52_0
          have hF0 := hF0.trans (fl_c2_eq hc52)
          refine lv_aload_n hx hb dX8_go_55 rfl (lv_at hl 0 rfl) ?_
          refine zc_cutc (wc := [(a0, .inr (8, [Value.int v1na0_0, a0g_1, a0g_2, a0g_3, a0g_4, a0g_5, a0g_6, a0g_7, a0g_8, a0g_9, a0g_10, Value.int v1na0_11, a0g_12, a0g_13, Value.int a0_14, Value.ref a0_15, a0g_16, Value.ref a0_17, a0g_18, Value.ref a0_19, a0g_20, Value.int v52na0_21, a0g_22, Value.ref a0_23, Value.ref a0_24, Value.int a0_25, Value.int a0_26, Value.int a0_27, Value.int a0_28, a0g_29, a0g_30, a0g_31, a0g_32, a0g_33, a0g_34, a0g_35, a0g_36, a0g_37, a0g_38, a0g_39])), (a0_15, .inl (ka0_15, 156, .inl (fa0_15))), (a0_23, .inl (ka0_23, 3, .inl (fa0_23))), (a0_24, .inl (ka0_24, 3, .inl (fa0_24)))]) hP hD hS hA [0, 3, 4, 5] (by decide +kernel) rfl (fun hPc hDc hFc hCc => ?_)
          have hKc := hK.sub (tys' := [(ka0_15, .int), (ka0_23, .int), (ka0_24, .int)]) [2, 3, 4] rfl
          refine va_callv (va_runV (As := []) (rest := []) ⟨hx, hb, hml, hown, hts⟩ (f_X8_watchAsTold l dC dI H.size a0 (Value.int v1na0_0) a0g_1 a0g_2 a0g_3 a0g_4 a0g_5 a0g_6 a0g_7 a0g_8 a0g_9 a0g_10 (Value.int v1na0_11) a0g_12 a0g_13 (Value.int a0_14) a0g_16 (Value.ref a0_17) a0g_18 (Value.ref a0_19) a0g_20 (Value.int v52na0_21) a0g_22 (Value.int a0_26) (Value.int a0_27) (Value.int a0_28) a0g_29 a0g_30 a0g_31 a0g_32 a0g_33 a0g_34 a0g_35 a0g_36 a0g_37 a0g_38 a0g_39 a0_15 a0_23 a0_24 a0_25 ka0_15 fa0_15 ka0_23 fa0_23 ka0_24 fa0_24 bfa0_15 bfa0_23 bfa0_24) (cwV 0 hts gX8_go_X8_watchAsTold rfl rfl rfl zd_X8_watchAsTold ⟨Nat.le_of_ble_eq_true rfl, Nat.le_of_ble_eq_true rfl⟩) ⟨ax_blind (fun _ _ _ _ _ => trivial), zr_8 hKc hPc (q0 := 0) rfl, ax_pre hPc hKc hDc (fun _ _ => trivial)⟩ rfl rfl hl.1 rfl (lv_room (Nat.le_of_ble_eq_true rfl)) dX8_go_56 ⟨Nat.le_of_ble_eq_true rfl, Nat.le_of_ble_eq_true rfl⟩) hS (fun q _ h => hFc q h) hFc (fun u t H locs ht hvm hw => zx_3 (fun v56na0_25 v56nfa0_23 v56nfa0_24 => zy_3 (fun bv56nfa0_23 bv56nfa0_24 hraw56_0 hB hz1 hk1 hS1 => zo hB ht hS1 (fun hP1 hK1 hD1 hS => ?_))))
          refine zc_backc (w := [(a0, .inr (8, [Value.int v1na0_0, a0g_1, a0g_2, a0g_3, a0g_4, a0g_5, a0g_6, a0g_7, a0g_8, a0g_9, a0g_10, Value.int v1na0_11, a0g_12, a0g_13, Value.int a0_14, Value.ref a0_15, a0g_16, Value.ref a0_17, a0g_18, Value.ref a0_19, a0g_20, Value.int v52na0_21, a0g_22, Value.ref a0_23, Value.ref a0_24, Value.int v56na0_25, Value.int a0_26, Value.int a0_27, Value.int a0_28, a0g_29, a0g_30, a0g_31, a0g_32, a0g_33, a0g_34, a0g_35, a0g_36, a0g_37, a0g_38, a0g_39])), (a0_17, .inl (ka0_17, 23, .inl (fa0_17))), (a0_19, .inl (ka0_19, 368, .inl (v52nfa0_19))), (a0_15, .inl (ka0_15, 156, .inl (fa0_15))), (a0_23, .inl (ka0_23, 3, .inl (v56nfa0_23))), (a0_24, .inl (ka0_24, 3, .inl (v56nfa0_24)))]) hP hD hCc hk1 hFc hP1 hD1 [.inr 0, .inl 1, .inl 2, .inr 1, .inr 2, .inr 3] (by decide +kernel) rfl (fun hP hD => ?_)
          have hc56 : Ff_X8_watchAsTold (fl_A fa0_15) (fl_A fa0_23) (fl_A fa0_24) = (v56na0_25.toInt, (fl_A v56nfa0_23), (fl_A v56nfa0_24)) := hraw56_0
          have hF0 := hF0.trans (fl_c3_eq hc56)
          refine lv_aload_n hx hb dX8_go_59 rfl (lv_at hl 0 rfl) ?_
          refine va_get (D := (dC, dI)) (ci := 8) (v := .ref a0_17) (C := RX8) (T := TX8) (N := 40) hx hb hts zi_X8_go_8 hown hK hP 0 rfl rfl 17 (by decide) (hts (.fieldLink RX8 26 "WaxTurnsModel" "st" "[I") (zm_X8_go_r1 (List.mem_of_getElem? (i := 1) rfl))) (fun _ h9 => h9) rfl dX8_go_60 ?_
          refine lv_bipush (v := 18) hx hb dX8_go_63 zk_bipush_18 ?_
          refine va_iald hx hb hK hP 1 0 rfl rfl (by unfold vp_in; decide +kernel) dX8_go_65 ?_
          refine lv_topi (fun x65 ex65 => ?_)
          have fqx65 := congrArg Int32.toInt ex65
          have hF0 := hF0.trans (fl_lt_eq (show x65.toInt = (fl_A fa0_17) (18) from fqx65))
          refine lv_istore_n (lv' := [(3, .int x65), (0, .ref a0), (1, .int a1), (2, .int j41l2)]) hx hb dX8_go_66 rfl hl (by decide) rfl (fun ls hl => ?_)
          refine lv_iconst (v := 0) hx hb dX8_go_67 zk_iconst_0 ?_
          refine lv_istore (lv' := [(4, .int 0), (3, .int x65), (0, .ref a0), (1, .int a1), (2, .int j41l2)]) hx hb dX8_go_68 hl (by decide) rfl (fun ls hl => ?_)
          have J70 : ∀ (n : Nat) (j70l4 : Int32) (j70a0_26 : Int32) (j70a0_27 : Int32) (j70a0_28 : Int32) (j70a0_17_a : Nat → Int32) (H : Heap) (locs : List Loc) (ls : Array Slot), (2147483648 : Int) - j70l4.toInt ≤ (n : Int) → (0 : Int) ≤ j70l4.toInt → ((∀ k : Nat, 0 ≤ k → k ≤ 8 → (0 : Int) ≤ (j70a0_17_a k).toInt ∧ (j70a0_17_a k).toInt ≤ 8) ∧ (∀ k : Nat, 19 ≤ k → k ≤ 19 → (0 : Int) ≤ (j70a0_17_a k).toInt ∧ (j70a0_17_a k).toInt ≤ 8) ∧ (∀ k : Nat, 20 ≤ k → k ≤ 20 → (0 : Int) ≤ (j70a0_17_a k).toInt ∧ (j70a0_17_a k).toInt ≤ 19)) → (FX = fl_wh (fun t9 => Sf_X8_go_70_1 a1.toInt (fl_A fa0_15) v1na0_0.toInt v1na0_11.toInt v52na0_21.toInt (fl_A v52nfa0_19) v56na0_25.toInt (fl_A v56nfa0_23) (fl_A v56nfa0_24) x65.toInt t9.1 t9.2.1 t9.2.2.1 t9.2.2.2.1 t9.2.2.2.2) (0, 0, 0, 0, 0, 0, 0, 0, (fun _ => 0), (fun _ => 0), (fun _ => 0), (fun _ => 0)) n (j70l4.toInt, j70a0_26.toInt, j70a0_27.toInt, j70a0_28.toInt, (fl_A j70a0_17_a))) → va_P (dC, dI) vwCl [(a0, .inr (8, [Value.int v1na0_0, a0g_1, a0g_2, a0g_3, a0g_4, a0g_5, a0g_6, a0g_7, a0g_8, a0g_9, a0g_10, Value.int v1na0_11, a0g_12, a0g_13, Value.int a0_14, Value.ref a0_15, a0g_16, Value.ref a0_17, a0g_18, Value.ref a0_19, a0g_20, Value.int v52na0_21, a0g_22, Value.ref a0_23, Value.ref a0_24, Value.int v56na0_25, Value.int j70a0_26, Value.int j70a0_27, Value.int j70a0_28, a0g_29, a0g_30, a0g_31, a0g_32, a0g_33, a0g_34, a0g_35, a0g_36, a0g_37, a0g_38, a0g_39])), (a0_17, .inl (ka0_17, 23, .inl (j70a0_17_a))), (a0_19, .inl (ka0_19, 368, .inl (v52nfa0_19))), (a0_15, .inl (ka0_15, 156, .inl (fa0_15))), (a0_23, .inl (ka0_23, 3, .inl (v56nfa0_23))), (a0_24, .inl (ka0_24, 3, .inl (v56nfa0_24)))] H → va_D A [(a0, .inr (8, [Value.int v1na0_0, a0g_1, a0g_2, a0g_3, a0g_4, a0g_5, a0g_6, a0g_7, a0g_8, a0g_9, a0g_10, Value.int v1na0_11, a0g_12, a0g_13, Value.int a0_14, Value.ref a0_15, a0g_16, Value.ref a0_17, a0g_18, Value.ref a0_19, a0g_20, Value.int v52na0_21, a0g_22, Value.ref a0_23, Value.ref a0_24, Value.int v56na0_25, Value.int j70a0_26, Value.int j70a0_27, Value.int j70a0_28, a0g_29, a0g_30, a0g_31, a0g_32, a0g_33, a0g_34, a0g_35, a0g_36, a0g_37, a0g_38, a0g_39])), (a0_17, .inl (ka0_17, 23, .inl (j70a0_17_a))), (a0_19, .inl (ka0_19, 368, .inl (v52nfa0_19))), (a0_15, .inl (ka0_15, 156, .inl (fa0_15))), (a0_23, .inl (ka0_23, 3, .inl (v56nfa0_23))), (a0_24, .inl (ka0_24, 3, .inl (v56nfa0_24)))] → va_S A s.heap H locs → lv_has ls 5 [(0, .ref a0), (1, .int a1), (3, .int x65), (4, .int j70l4)] → K H locs (F0 m 70 ls []) := by
            intro n
            induction n with
            | zero =>
              intro j70l4 j70a0_26 j70a0_27 j70a0_28 j70a0_17_a H locs ls hm bj70l4_l bj70a0_17_a hF0 hP hD hS hl
              have h8 := ai_min j70l4
              have h9 := ai_max j70l4
              exact absurd hm (by omega)
            | succ n ih70 =>
              intro j70l4 j70a0_26 j70a0_27 j70a0_28 j70a0_17_a H locs ls hm bj70l4_l bj70a0_17_a hF0 hP hD hS hl
              refine (hK0 _ _ _).mpr ?_
              have hm70 := hm
              obtain ⟨SX70, hSX70⟩ : ∃ q9, Sf_X8_go_70_1 a1.toInt (fl_A fa0_15) v1na0_0.toInt v1na0_11.toInt v52na0_21.toInt (fl_A v52nfa0_19) v56na0_25.toInt (fl_A v56nfa0_23) (fl_A v56nfa0_24) x65.toInt j70l4.toInt j70a0_26.toInt j70a0_27.toInt j70a0_28.toInt (fl_A j70a0_17_a) = q9 := ⟨_, rfl⟩
              have hF1 := hSX70.symm.trans (Sf_X8_go_70_1.eq_1 a1.toInt (fl_A fa0_15) v1na0_0.toInt v1na0_11.toInt v52na0_21.toInt (fl_A v52nfa0_19) v56na0_25.toInt (fl_A v56nfa0_23) (fl_A v56nfa0_24) x65.toInt j70l4.toInt j70a0_26.toInt j70a0_27.toInt j70a0_28.toInt (fl_A j70a0_17_a))
              refine lv_iload hx hb dX8_go_70 (lv_at hl 3 rfl) ?_
              refine lv_iload_n hx hb dX8_go_72 rfl (lv_at hl 1 rfl) ?_
              refine lv_icmp_ge (tgt := 90) hx hb dX8_go_73 (by decide) (fun c73 => ?_) (fun c73 => ?_)
              · have gc73 := ai_le c73
                have hF1 := hF1.trans (if_pos (show a1.toInt ≤ j70l4.toInt from gc73))
                have hF0 := hF0.trans (fl_wh_r (hSX70.trans hF1))
                refine lv_aload_n hx hb dX8_go_90 rfl (lv_at hl 0 rfl) ?_
                refine va_get (D := (dC, dI)) (ci := 8) (v := .ref a0_17) (C := RX8) (T := TX8) (N := 40) hx hb hts zi_X8_go_8 hown hK hP 0 rfl rfl 17 (by decide) (hts (.fieldLink RX8 26 "WaxTurnsModel" "st" "[I") (zm_X8_go_r1 (List.mem_of_getElem? (i := 1) rfl))) (fun _ h9 => h9) rfl dX8_go_91 ?_
                refine lv_bipush (v := 18) hx hb dX8_go_94 zk_bipush_18 ?_
                refine va_iald hx hb hK hP 1 0 rfl rfl (by unfold vp_in; decide +kernel) dX8_go_96 ?_
                refine lv_topi (fun x96 ex96 => ?_)
                have fqx96 := congrArg Int32.toInt ex96
                have hF0 := hF0.trans (fl_lt_eq (show x96.toInt = (fl_A j70a0_17_a) (18) from fqx96))
                refine lv_iload_n hx hb dX8_go_97 rfl (lv_at hl 2 rfl) ?_
                refine lv_iconst (v := (-1)) hx hb dX8_go_98 zk_iconst_n1 ?_
                refine lv_ixor hx hb dX8_go_99 ?_
                refine lv_topi (fun x99 ex99 => ?_)
                have fqx99 := fl_xor_eq ex99
                have hF0 := hF0.trans (fl_lt_eq (show x99.toInt = fl_xor x65.toInt (-1) from fqx99))
                refine lv_iand hx hb dX8_go_100 ?_
                refine lv_topi (fun x100 ex100 => ?_)
                have fqx100 := fl_and_eq ex100
                have hF0 := hF0.trans (fl_lt_eq (show x100.toInt = fl_and x96.toInt x99.toInt from fqx100))
                have hFe : FX = (x100.toInt, v1na0_0.toInt, v1na0_11.toInt, v52na0_21.toInt, v56na0_25.toInt, j70a0_26.toInt, j70a0_27.toInt, j70a0_28.toInt, (fl_A j70a0_17_a), (fl_A v52nfa0_19), (fl_A v56nfa0_23), (fl_A v56nfa0_24)) := hF0
                exact W.iret (v := x100) hx hb hr (fun t ht hW => ⟨⟨x100, (), rfl, ⟨trivial, (congrArg Prod.fst hFe).symm⟩, v1na0_0, v1na0_11, v52na0_21, v56na0_25, j70a0_26, j70a0_27, j70a0_28, j70a0_17_a, v52nfa0_19, v56nfa0_23, v56nfa0_24, ⟨bv52na0_21.1, bv52na0_21.2⟩, bj70a0_17_a, bv52nfa0_19, bv56nfa0_23, bv56nfa0_24, (congrArg Prod.snd hFe), by rw [ht]; exact hP, va_K.moved hW.alike hK, hD⟩, hS.F ht⟩) hS.2.2 dX8_go_101
              · have gc73 := ai_nle c73
                have u73f_j70l4 : j70l4.toInt ≤ (2147483646 : Int) := ai_lthi gc73 (ai_max a1)
                have l73f_a1 : (1 : Int) ≤ a1.toInt := ai_ltlo gc73 bj70l4_l
                have hF1 := hF1.trans (if_neg (show ¬ (a1.toInt ≤ j70l4.toInt) from Int.not_le.mpr gc73))
                refine lv_aload_n hx hb dX8_go_76 rfl (lv_at hl 0 rfl) ?_
                refine lv_aload_n hx hb dX8_go_77 rfl (lv_at hl 0 rfl) ?_
                refine va_get (D := (dC, dI)) (ci := 8) (v := .ref a0_17) (C := RX8) (T := TX8) (N := 40) hx hb hts zi_X8_go_8 hown hK hP 0 rfl rfl 17 (by decide) (hts (.fieldLink RX8 26 "WaxTurnsModel" "st" "[I") (zm_X8_go_r1 (List.mem_of_getElem? (i := 1) rfl))) (fun _ h9 => h9) rfl dX8_go_78 ?_
                refine zc_cutc (wc := [(a0, .inr (8, [Value.int v1na0_0, a0g_1, a0g_2, a0g_3, a0g_4, a0g_5, a0g_6, a0g_7, a0g_8, a0g_9, a0g_10, Value.int v1na0_11, a0g_12, a0g_13, Value.int a0_14, Value.ref a0_15, a0g_16, Value.ref a0_17, a0g_18, Value.ref a0_19, a0g_20, Value.int v52na0_21, a0g_22, Value.ref a0_23, Value.ref a0_24, Value.int v56na0_25, Value.int j70a0_26, Value.int j70a0_27, Value.int j70a0_28, a0g_29, a0g_30, a0g_31, a0g_32, a0g_33, a0g_34, a0g_35, a0g_36, a0g_37, a0g_38, a0g_39])), (a0_17, .inl (ka0_17, 23, .inl (j70a0_17_a))), (a0_15, .inl (ka0_15, 156, .inl (fa0_15))), (a0_24, .inl (ka0_24, 3, .inl (v56nfa0_24))), (a0_23, .inl (ka0_23, 3, .inl (v56nfa0_23)))]) hP hD hS hA [0, 1, 3, 5, 4] (by decide +kernel) rfl (fun hPc hDc hFc hCc => ?_)
                have hKc := hK.sub (tys' := [(ka0_17, .int), (ka0_15, .int), (ka0_24, .int), (ka0_23, .int)]) [0, 2, 4, 3] rfl
                refine va_callv (va_runV (As := [.ref a0_17]) (rest := []) ⟨hx, hb, hml, hown, hts⟩ (f_X8_minuteOn l dC dI H.size a0 a0_17 (Value.int v1na0_0) a0g_1 a0g_2 a0g_3 a0g_4 a0g_5 a0g_6 a0g_7 a0g_8 a0g_9 a0g_10 (Value.int v1na0_11) a0g_12 a0g_13 (Value.int a0_14) a0g_16 (Value.ref a0_17) a0g_18 (Value.ref a0_19) a0g_20 (Value.int v52na0_21) a0g_22 a0g_29 a0g_30 a0g_31 a0g_32 a0g_33 a0g_34 a0g_35 a0g_36 a0g_37 a0g_38 a0g_39 a0_15 a0_23 a0_24 v56na0_25 j70a0_26 j70a0_27 j70a0_28 ka0_17 j70a0_17_a ka0_15 fa0_15 ka0_24 v56nfa0_24 ka0_23 v56nfa0_23 bj70a0_17_a bfa0_15 bv56nfa0_24 bv56nfa0_23 hkm) (cwV 1 hts gX8_go_X8_minuteOn rfl rfl rfl zd_X8_minuteOn ⟨Nat.le_of_ble_eq_true rfl, Nat.le_of_ble_eq_true rfl⟩) ⟨ax_blind (fun _ _ _ _ _ => trivial), zr_8 hKc hPc (q0 := 0) rfl, ax_pre hPc hKc hDc (fun _ _ => trivial)⟩ rfl rfl hl.1 rfl (lv_room (Nat.le_of_ble_eq_true rfl)) dX8_go_81 ⟨Nat.le_of_ble_eq_true rfl, Nat.le_of_ble_eq_true rfl⟩) hS (fun q _ h => hFc q h) hFc (fun u t H locs ht hvm hw => zx_4 (fun v81na0_26 v81na0_27 v81na0_28 v81nfa1 => zy_2 (fun bv81nfa1 hraw81_0 hB hz1 hk1 hS1 => zo hB ht hS1 (fun hP1 hK1 hD1 hS => ?_))))
                refine zc_backc (w := [(a0, .inr (8, [Value.int v1na0_0, a0g_1, a0g_2, a0g_3, a0g_4, a0g_5, a0g_6, a0g_7, a0g_8, a0g_9, a0g_10, Value.int v1na0_11, a0g_12, a0g_13, Value.int a0_14, Value.ref a0_15, a0g_16, Value.ref a0_17, a0g_18, Value.ref a0_19, a0g_20, Value.int v52na0_21, a0g_22, Value.ref a0_23, Value.ref a0_24, Value.int v56na0_25, Value.int v81na0_26, Value.int v81na0_27, Value.int v81na0_28, a0g_29, a0g_30, a0g_31, a0g_32, a0g_33, a0g_34, a0g_35, a0g_36, a0g_37, a0g_38, a0g_39])), (a0_17, .inl (ka0_17, 23, .inl (v81nfa1))), (a0_19, .inl (ka0_19, 368, .inl (v52nfa0_19))), (a0_15, .inl (ka0_15, 156, .inl (fa0_15))), (a0_23, .inl (ka0_23, 3, .inl (v56nfa0_23))), (a0_24, .inl (ka0_24, 3, .inl (v56nfa0_24)))]) hP hD hCc hk1 hFc hP1 hD1 [.inr 0, .inr 1, .inl 2, .inr 2, .inr 4, .inr 3] (by decide +kernel) rfl (fun hP hD => ?_)
                have hc81 : Ff_X8_minuteOn v56na0_25.toInt (fl_A j70a0_17_a) (fl_A fa0_15) (fl_A v56nfa0_24) (fl_A v56nfa0_23) = (v81na0_26.toInt, v81na0_27.toInt, v81na0_28.toInt, (fl_A v81nfa1)) := hraw81_0
                have hF1 := hF1.trans (fl_c4_eq hc81)
                obtain ⟨x84, ex84⟩ : ∃ y : Int32, y = j70l4 + Int32.ofInt 1 := ⟨_, rfl⟩
                have qx84 : x84.toInt = j70l4.toInt + 1 := ai_inc ex84 (by decide) (by decide) u73f_j70l4 (by decide)
                have bx84 : (1 : Int) ≤ x84.toInt ∧ x84.toInt ≤ 2147483647 := ⟨by rw [qx84]; exact Int.add_le_add bj70l4_l (Int.le_refl _), by rw [qx84]; exact Int.add_le_add u73f_j70l4 (Int.le_refl _)⟩
                refine lv_iinc (v := x84) (lv' := [(4, .int x84), (0, .ref a0), (1, .int a1), (3, .int x65)]) hx hb dX8_go_84 hl (k := 3) rfl ex84.symm (by decide) rfl (fun ls hl => ?_)
                have hF1 := hF1.trans (fl_lt_eq (show x84.toInt = j70l4.toInt + 1 from qx84))
                refine lv_goto (tgt := 70) hx hb dX8_go_87 (by decide) ?_
                exact (hK0 _ _ _).mp (ih70 x84 v81na0_26 v81na0_27 v81na0_28 v81nfa1 _ _ _ (by first | exact zg_s hm70 qx84 | (have h0 := qx84; omega)) (Int.le_trans zq4 bx84.1) bv81nfa1 (hF0.trans (fl_wh_l (hSX70.trans hF1))) hP hD hS (lv_sub hl [1, 2, 3, 0] rfl))
          exact (hK0 _ _ _).mp (J70 2147483648 0 a0_26 a0_27 a0_28 fa0_17 _ _ _ (by first | decide +kernel | (have h1 : (0 : Int) ≤ (0 : Int32).toInt := zq5; have h2 : (0 : Int32).toInt ≤ (0 : Int) := zq6; omega)) zq5 bfa0_17 (by rw [show (0 : Int32).toInt = 0 from by decide]; exact hF0) hP hD hS (lv_sub hl [2, 3, 1, 0] rfl))
        · have gc42 := ai_ne c42
          have l42f_j41l2 : (1 : Int) ≤ j41l2.toInt := (by first | exact zg_l bj41l2_l gc42 (by decide) (by decide) | (have h1 := bj41l2_l; have h2 : (0 : Int32).toInt = 0 := (by decide); rw [h2] at gc42; omega))
          have hF0 := hF0.trans (if_neg (show ¬ (j41l2.toInt = 0) from  gc42))
          refine lv_aload_n hx hb dX8_go_45 rfl (lv_at hl 0 rfl) ?_
          refine lv_iload_n hx hb dX8_go_46 rfl (lv_at hl 2 rfl) ?_
          refine va_calli (va_runV (As := [.int j41l2]) (rest := []) ⟨hx, hb, hml, hown, hts⟩ (f_X8_no l dC dI H.size a0 j41l2 (Value.int v1na0_0) a0g_1 a0g_2 a0g_3 a0g_4 a0g_5 a0g_6 a0g_7 a0g_8 a0g_9 a0g_10 a0g_12 a0g_13 (Value.int a0_14) (Value.ref a0_15) a0g_16 (Value.ref a0_17) a0g_18 (Value.ref a0_19) a0g_20 (Value.int a0_21) a0g_22 (Value.ref a0_23) (Value.ref a0_24) (Value.int a0_25) (Value.int a0_26) (Value.int a0_27) (Value.int a0_28) a0g_29 a0g_30 a0g_31 a0g_32 a0g_33 a0g_34 a0g_35 a0g_36 a0g_37 a0g_38 a0g_39 v1na0_11 ) (cwV 1 hts gX8_go_X8_no rfl rfl rfl zd_X8_no ⟨Nat.le_of_ble_eq_true rfl, Nat.le_of_ble_eq_true rfl⟩) ⟨ax_blind (fun _ _ _ _ _ => trivial), zr_8 (zp_K hK) (zp_P1 hP) (q0 := 0) rfl, ax_pre (zp_P1 hP) (zp_K hK) (zp_D1 hD) (fun _ _ => trivial)⟩ rfl rfl hl.1 rfl (lv_room (Nat.le_of_ble_eq_true rfl)) dX8_go_47 ⟨Nat.le_of_ble_eq_true rfl, Nat.le_of_ble_eq_true rfl⟩) hS (fun q _ h => zp_F1 hD hS hA q h) (zp_F1 hD hS hA) (fun r47 u t H locs ht hvm hw => zx_1 (fun v47na0_11 => zy_1 (fun hraw47_0 hB hz1 hk1 hS1 => zo1 hB ht hP hD hk1 (zp_F1 hD hS hA) hS1 (fun hP hK1 hD hS => ?_))))
          obtain ⟨hw, hfr47⟩ := hw
          have hc47 : Ff_X8_no j41l2.toInt = (r47.toInt, v47na0_11.toInt) := Prod.ext hfr47.symm hraw47_0
          have hF0 := hF0.trans (fl_c2_eq hc47)
          have hw : r47 = (-1) := hw
          have hw := hw.symm
          subst hw
          have hFe : FX = ((-1), v1na0_0.toInt, v47na0_11.toInt, a0_21.toInt, a0_25.toInt, a0_26.toInt, a0_27.toInt, a0_28.toInt, (fl_A fa0_17), (fl_A fa0_19), (fl_A fa0_23), (fl_A fa0_24)) := hF0
          exact W.iret (v := (-1)) hx hb hr (fun t ht hW => ⟨⟨(-1), (), rfl, ⟨trivial, (congrArg Prod.fst hFe).symm⟩, v1na0_0, v47na0_11, a0_21, a0_25, a0_26, a0_27, a0_28, fa0_17, fa0_19, fa0_23, fa0_24, ⟨ba0_21_l, ba0_21_u⟩, bfa0_17, bfa0_19, bfa0_23, bfa0_24, (congrArg Prod.snd hFe), by rw [ht]; exact hP, va_K.moved hW.alike hK, hD⟩, hS.F ht⟩) hS.2.2 dX8_go_50
      refine lv_aload_n hx hb dX8_go_24 rfl (lv_at hl 1 rfl) ?_
      refine va_get (D := (dC, dI)) (ci := 8) (v := .ref a0_17) (C := RX8) (T := TX8) (N := 40) hx hb hts zi_X8_go_8 hown hK hP 0 rfl rfl 17 (by decide) (hts (.fieldLink RX8 26 "WaxTurnsModel" "st" "[I") (zm_X8_go_r1 (List.mem_of_getElem? (i := 1) rfl))) (fun _ h9 => h9) rfl dX8_go_25 ?_
      refine lv_bipush (v := 21) hx hb dX8_go_28 zk_bipush_21 ?_
      refine va_iald hx hb hK hP 1 0 rfl rfl (by unfold vp_in; decide +kernel) dX8_go_30 ?_
      refine lv_topi (fun x30 ex30 => ?_)
      have fqx30 := congrArg Int32.toInt ex30
      have hF0 := hF0.trans (fl_lt_eq (show x30.toInt = (fl_A fa0_17) (21) from fqx30))
      refine lv_iload_n hx hb dX8_go_31 rfl (lv_at hl 2 rfl) ?_
      refine lv_iadd hx hb dX8_go_32 ?_
      refine lv_topi (fun x32 ex32 => ?_)
      have fqx32 := fl_iadd_eq ex32
      have hF0 := hF0.trans (fl_lt_eq (show x32.toInt = fl_iadd x30.toInt a1.toInt from fqx32))
      refine lv_sipush (v := 9999) hx hb dX8_go_33 zk_sipush_9999 ?_
      refine lv_icmp_le (tgt := 41) hx hb dX8_go_36 (by decide) (fun c36 => ?_) (fun c36 => ?_)
      · have gc36 := ai_le c36
        have u36t_x32 : x32.toInt ≤ (9999 : Int) := Int.le_trans gc36 zq127
        have hF0 := hF0.trans (if_pos (show x32.toInt ≤ 9999 from gc36))
        exact (hK0 _ _ _).mp (J41 0 _ _ _  zq5 (Int.le_trans zq6 zq11) (by rw [show (0 : Int32).toInt = 0 from by decide]; exact hF0) hP hD hS (lv_sub hl [1, 2, 0] rfl))
      · have gc36 := ai_nle c36
        have l36f_x32 : (10000 : Int) ≤ x32.toInt := ai_ltlo gc36 zq129
        have hF0 := hF0.trans (if_neg (show ¬ (x32.toInt ≤ 9999) from Int.not_le.mpr gc36))
        refine lv_iconst (v := 3) hx hb dX8_go_39 zk_iconst_3 ?_
        refine lv_istore_n (lv' := [(2, .int 3), (0, .ref a0), (1, .int a1)]) hx hb dX8_go_40 rfl hl (by decide) rfl (fun ls hl => ?_)
        exact (hK0 _ _ _).mp (J41 3 _ _ _  (Int.le_trans zq11 zq8) zq9 (by rw [show (3 : Int32).toInt = 3 from by decide]; exact hF0) hP hD hS (lv_sub hl [1, 2, 0] rfl))
  · obtain ⟨hw, h13⟩ := hw
    subst hw
    have hF0 := hF0.trans (if_neg (by decide))
    refine va_calli (va_runV (As := [.int a0_14, .int 0]) (rest := []) ⟨hx, hb, hml, hown, hts⟩ (f_X8_why l dC dI H.size a0 a0_14 0 (Value.int v1na0_0) a0g_1 a0g_2 a0g_3 a0g_4 a0g_5 a0g_6 a0g_7 a0g_8 a0g_9 a0g_10 (Value.int v1na0_11) a0g_12 a0g_13 (Value.int a0_14) (Value.ref a0_15) a0g_16 (Value.ref a0_17) a0g_18 (Value.ref a0_19) a0g_20 (Value.int a0_21) a0g_22 (Value.ref a0_23) (Value.ref a0_24) (Value.int a0_25) (Value.int a0_26) (Value.int a0_27) (Value.int a0_28) a0g_29 a0g_30 a0g_31 a0g_32 a0g_33 a0g_34 a0g_35 a0g_36 a0g_37 a0g_38 a0g_39 (Int.le_trans zq4 ba0_14_l) ba0_14_u zq5 (Int.le_trans zq6 zq4)) (cwV 2 hts gX8_go_X8_why rfl rfl rfl zd_X8_why ⟨Nat.le_of_ble_eq_true rfl, Nat.le_of_ble_eq_true rfl⟩) ⟨ax_blind (fun _ _ _ _ _ => trivial), zr_8 (zp_K hK) (zp_P1 hP) (q0 := 0) rfl, ax_pre (zp_P1 hP) (zp_K hK) (zp_D1 hD) (fun _ _ => trivial)⟩ rfl rfl hl.1 rfl (lv_room (Nat.le_of_ble_eq_true rfl)) dX8_go_16 ⟨Nat.le_of_ble_eq_true rfl, Nat.le_of_ble_eq_true rfl⟩) hS (fun q _ h => zp_F1 hD hS hA q h) (zp_F1 hD hS hA) (fun r16 u t H locs ht hvm hw hB hz1 hk1 hS1 => zo1 hB ht hP hD hk1 (zp_F1 hD hS hA) hS1 (fun hP hK1 hD hS => ?_))
    obtain ⟨hw, hfr16⟩ := hw
    rw [show (0 : Int32).toInt = 0 from by decide] at hfr16
    have hc16 : Ff_X8_why a0_14.toInt 0 = r16.toInt := hfr16.symm
    have hF0 := hF0.trans (fl_lt_eq hc16.symm)
    rcases hw with hw | hw | hw
    · obtain ⟨hw, h16_0, h16_1, h16_2, h16_3⟩ := hw
      subst hw
      have l16k0_a0_14 : (1 : Int) ≤ a0_14.toInt := ba0_14_l
      have u16k0_a0_14 : a0_14.toInt ≤ (1 : Int) := ba0_14_u
      have hF0 := hF0.trans (if_pos (by decide))
      refine lv_istore_n (lv' := [(2, .int 2), (0, .ref a0), (1, .int a1)]) hx hb dX8_go_19 rfl hl (by decide) rfl (fun ls hl => ?_)
      refine lv_iload_n hx hb dX8_go_20 rfl (lv_at hl 0 rfl) ?_
      refine lv_if_ne (tgt := 41) hx hb dX8_go_21 (by decide) (fun _ => ?_) (fun c21 => absurd c21 (by decide +kernel))
      have J41 : ∀ (j41l2 : Int32) (H : Heap) (locs : List Loc) (ls : Array Slot), (0 : Int) ≤ j41l2.toInt → j41l2.toInt ≤ (3 : Int) → (FX = Gf_X8_go_41_2 a1.toInt a0_21.toInt a0_25.toInt a0_26.toInt a0_27.toInt a0_28.toInt (fl_A fa0_17) (fl_A fa0_19) (fl_A fa0_15) (fl_A fa0_23) (fl_A fa0_24) v1na0_0.toInt v1na0_11.toInt j41l2.toInt) → va_P (dC, dI) vwCl [(a0, .inr (8, [Value.int v1na0_0, a0g_1, a0g_2, a0g_3, a0g_4, a0g_5, a0g_6, a0g_7, a0g_8, a0g_9, a0g_10, Value.int v1na0_11, a0g_12, a0g_13, Value.int a0_14, Value.ref a0_15, a0g_16, Value.ref a0_17, a0g_18, Value.ref a0_19, a0g_20, Value.int a0_21, a0g_22, Value.ref a0_23, Value.ref a0_24, Value.int a0_25, Value.int a0_26, Value.int a0_27, Value.int a0_28, a0g_29, a0g_30, a0g_31, a0g_32, a0g_33, a0g_34, a0g_35, a0g_36, a0g_37, a0g_38, a0g_39])), (a0_17, .inl (ka0_17, 23, .inl (fa0_17))), (a0_19, .inl (ka0_19, 368, .inl (fa0_19))), (a0_15, .inl (ka0_15, 156, .inl (fa0_15))), (a0_23, .inl (ka0_23, 3, .inl (fa0_23))), (a0_24, .inl (ka0_24, 3, .inl (fa0_24)))] H → va_D A [(a0, .inr (8, [Value.int v1na0_0, a0g_1, a0g_2, a0g_3, a0g_4, a0g_5, a0g_6, a0g_7, a0g_8, a0g_9, a0g_10, Value.int v1na0_11, a0g_12, a0g_13, Value.int a0_14, Value.ref a0_15, a0g_16, Value.ref a0_17, a0g_18, Value.ref a0_19, a0g_20, Value.int a0_21, a0g_22, Value.ref a0_23, Value.ref a0_24, Value.int a0_25, Value.int a0_26, Value.int a0_27, Value.int a0_28, a0g_29, a0g_30, a0g_31, a0g_32, a0g_33, a0g_34, a0g_35, a0g_36, a0g_37, a0g_38, a0g_39])), (a0_17, .inl (ka0_17, 23, .inl (fa0_17))), (a0_19, .inl (ka0_19, 368, .inl (fa0_19))), (a0_15, .inl (ka0_15, 156, .inl (fa0_15))), (a0_23, .inl (ka0_23, 3, .inl (fa0_23))), (a0_24, .inl (ka0_24, 3, .inl (fa0_24)))] → va_S A s.heap H locs → lv_has ls 5 [(0, .ref a0), (1, .int a1), (2, .int j41l2)] → K H locs (F0 m 41 ls []) := by
        intro j41l2 H locs ls  bj41l2_l bj41l2_u hF0 hP hD hS hl
        refine (hK0 _ _ _).mpr ?_
        have hF0 := hF0.trans (Gf_X8_go_41_2.eq_1 a1.toInt a0_21.toInt a0_25.toInt a0_26.toInt a0_27.toInt a0_28.toInt (fl_A fa0_17) (fl_A fa0_19) (fl_A fa0_15) (fl_A fa0_23) (fl_A fa0_24) v1na0_0.toInt v1na0_11.toInt j41l2.toInt)
        refine lv_iload_n hx hb dX8_go_41 rfl (lv_at hl 2 rfl) ?_
        refine lv_if_eq (tgt := 51) hx hb dX8_go_42 (by decide) (fun c42 => ?_) (fun c42 => ?_)
        · have gc42 := ai_eq c42
          have u42t_j41l2 : j41l2.toInt ≤ (0 : Int) := Int.le_trans (Int.le_of_eq gc42) zq6
          have l42t_j41l2 : (0 : Int) ≤ j41l2.toInt := bj41l2_l
          have hF0 := hF0.trans (if_pos (show j41l2.toInt = 0 from gc42))
          refine lv_aload_n hx hb dX8_go_51 rfl (lv_at hl 0 rfl) ?_
          have hKc := hK.sub (tys' := [(ka0_17, .int), (ka0_19, .int)]) [0, 1] rfl
          refine va_callv (va_runV (As := []) (rest := []) ⟨hx, hb, hml, hown, hts⟩ (f_X8_note l dC dI H.size a0 (Value.int v1na0_0) a0g_1 a0g_2 a0g_3 a0g_4 a0g_5 a0g_6 a0g_7 a0g_8 a0g_9 a0g_10 (Value.int v1na0_11) a0g_12 a0g_13 (Value.int a0_14) (Value.ref a0_15) a0g_16 a0g_18 a0g_20 a0g_22 (Value.ref a0_23) (Value.ref a0_24) (Value.int a0_25) (Value.int a0_26) (Value.int a0_27) (Value.int a0_28) a0g_29 a0g_30 a0g_31 a0g_32 a0g_33 a0g_34 a0g_35 a0g_36 a0g_37 a0g_38 a0g_39 a0_17 a0_19 a0_21 ka0_17 fa0_17 ka0_19 fa0_19 ba0_21_l ba0_21_u bfa0_17 bfa0_19) (cwV 0 hts gX8_go_X8_note rfl rfl rfl zd_X8_note ⟨Nat.le_of_ble_eq_true rfl, Nat.le_of_ble_eq_true rfl⟩) ⟨ax_blind (fun _ _ _ _ _ => trivial), zr_8 hKc (zp_P3 hP) (q0 := 0) rfl, ax_pre (zp_P3 hP) hKc (zp_D3 hD) (fun _ _ => trivial)⟩ rfl rfl hl.1 rfl (lv_room (Nat.le_of_ble_eq_true rfl)) dX8_go_52 ⟨Nat.le_of_ble_eq_true rfl, Nat.le_of_ble_eq_true rfl⟩) hS (fun q _ h => zp_F3 hD hS hA q h) (zp_F3 hD hS hA) (fun u t H locs ht hvm hw => zx_2 (fun v52na0_21 v52nfa0_19 => zy_3 (fun bv52na0_21 bv52nfa0_19 hraw52_0 hB hz1 hk1 hS1 => zo3 hB ht hP hD hk1 (zp_F3 hD hS hA) hS1 (fun hP hK1 hD hS => ?_))))
          have hc52 : Ff_X8_note a0_21.toInt (fl_A fa0_17) (fl_A fa0_19) = (v52na0_21.toInt, (fl_A v52nfa0_19)) := hraw52_0
          have hF0 := hF0.trans (fl_c2_eq hc52)
          refine lv_aload_n hx hb dX8_go_55 rfl (lv_at hl 0 rfl) ?_
          refine zc_cutc (wc := [(a0, .inr (8, [Value.int v1na0_0, a0g_1, a0g_2, a0g_3, a0g_4, a0g_5, a0g_6, a0g_7, a0g_8, a0g_9, a0g_10, Value.int v1na0_11, a0g_12, a0g_13, Value.int a0_14, Value.ref a0_15, a0g_16, Value.ref a0_17, a0g_18, Value.ref a0_19, a0g_20, Value.int v52na0_21, a0g_22, Value.ref a0_23, Value.ref a0_24, Value.int a0_25, Value.int a0_26, Value.int a0_27, Value.int a0_28, a0g_29, a0g_30, a0g_31, a0g_32, a0g_33, a0g_34, a0g_35, a0g_36, a0g_37, a0g_38, a0g_39])), (a0_15, .inl (ka0_15, 156, .inl (fa0_15))), (a0_23, .inl (ka0_23, 3, .inl (fa0_23))), (a0_24, .inl (ka0_24, 3, .inl (fa0_24)))]) hP hD hS hA [0, 3, 4, 5] (by decide +kernel) rfl (fun hPc hDc hFc hCc => ?_)
          have hKc := hK.sub (tys' := [(ka0_15, .int), (ka0_23, .int), (ka0_24, .int)]) [2, 3, 4] rfl
          refine va_callv (va_runV (As := []) (rest := []) ⟨hx, hb, hml, hown, hts⟩ (f_X8_watchAsTold l dC dI H.size a0 (Value.int v1na0_0) a0g_1 a0g_2 a0g_3 a0g_4 a0g_5 a0g_6 a0g_7 a0g_8 a0g_9 a0g_10 (Value.int v1na0_11) a0g_12 a0g_13 (Value.int a0_14) a0g_16 (Value.ref a0_17) a0g_18 (Value.ref a0_19) a0g_20 (Value.int v52na0_21) a0g_22 (Value.int a0_26) (Value.int a0_27) (Value.int a0_28) a0g_29 a0g_30 a0g_31 a0g_32 a0g_33 a0g_34 a0g_35 a0g_36 a0g_37 a0g_38 a0g_39 a0_15 a0_23 a0_24 a0_25 ka0_15 fa0_15 ka0_23 fa0_23 ka0_24 fa0_24 bfa0_15 bfa0_23 bfa0_24) (cwV 0 hts gX8_go_X8_watchAsTold rfl rfl rfl zd_X8_watchAsTold ⟨Nat.le_of_ble_eq_true rfl, Nat.le_of_ble_eq_true rfl⟩) ⟨ax_blind (fun _ _ _ _ _ => trivial), zr_8 hKc hPc (q0 := 0) rfl, ax_pre hPc hKc hDc (fun _ _ => trivial)⟩ rfl rfl hl.1 rfl (lv_room (Nat.le_of_ble_eq_true rfl)) dX8_go_56 ⟨Nat.le_of_ble_eq_true rfl, Nat.le_of_ble_eq_true rfl⟩) hS (fun q _ h => hFc q h) hFc (fun u t H locs ht hvm hw => zx_3 (fun v56na0_25 v56nfa0_23 v56nfa0_24 => zy_3 (fun bv56nfa0_23 bv56nfa0_24 hraw56_0 hB hz1 hk1 hS1 => zo hB ht hS1 (fun hP1 hK1 hD1 hS => ?_))))
          refine zc_backc (w := [(a0, .inr (8, [Value.int v1na0_0, a0g_1, a0g_2, a0g_3, a0g_4, a0g_5, a0g_6, a0g_7, a0g_8, a0g_9, a0g_10, Value.int v1na0_11, a0g_12, a0g_13, Value.int a0_14, Value.ref a0_15, a0g_16, Value.ref a0_17, a0g_18, Value.ref a0_19, a0g_20, Value.int v52na0_21, a0g_22, Value.ref a0_23, Value.ref a0_24, Value.int v56na0_25, Value.int a0_26, Value.int a0_27, Value.int a0_28, a0g_29, a0g_30, a0g_31, a0g_32, a0g_33, a0g_34, a0g_35, a0g_36, a0g_37, a0g_38, a0g_39])), (a0_17, .inl (ka0_17, 23, .inl (fa0_17))), (a0_19, .inl (ka0_19, 368, .inl (v52nfa0_19))), (a0_15, .inl (ka0_15, 156, .inl (fa0_15))), (a0_23, .inl (ka0_23, 3, .inl (v56nfa0_23))), (a0_24, .inl (ka0_24, 3, .inl (v56nfa0_24)))]) hP hD hCc hk1 hFc hP1 hD1 [.inr 0, .inl 1, .inl 2, .inr 1, .inr 2, .inr 3] (by decide +kernel) rfl (fun hP hD => ?_)
          have hc56 : Ff_X8_watchAsTold (fl_A fa0_15) (fl_A fa0_23) (fl_A fa0_24) = (v56na0_25.toInt, (fl_A v56nfa0_23), (fl_A v56nfa0_24)) := hraw56_0
          have hF0 := hF0.trans (fl_c3_eq hc56)
          refine lv_aload_n hx hb dX8_go_59 rfl (lv_at hl 0 rfl) ?_
          refine va_get (D := (dC, dI)) (ci := 8) (v := .ref a0_17) (C := RX8) (T := TX8) (N := 40) hx hb hts zi_X8_go_8 hown hK hP 0 rfl rfl 17 (by decide) (hts (.fieldLink RX8 26 "WaxTurnsModel" "st" "[I") (zm_X8_go_r1 (List.mem_of_getElem? (i := 1) rfl))) (fun _ h9 => h9) rfl dX8_go_60 ?_
          refine lv_bipush (v := 18) hx hb dX8_go_63 zk_bipush_18 ?_
          refine va_iald hx hb hK hP 1 0 rfl rfl (by unfold vp_in; decide +kernel) dX8_go_65 ?_
          refine lv_topi (fun x65 ex65 => ?_)
          have fqx65 := congrArg Int32.toInt ex65
          have hF0 := hF0.trans (fl_lt_eq (show x65.toInt = (fl_A fa0_17) (18) from fqx65))
          refine lv_istore_n (lv' := [(3, .int x65), (0, .ref a0), (1, .int a1), (2, .int j41l2)]) hx hb dX8_go_66 rfl hl (by decide) rfl (fun ls hl => ?_)
          refine lv_iconst (v := 0) hx hb dX8_go_67 zk_iconst_0 ?_
          refine lv_istore (lv' := [(4, .int 0), (3, .int x65), (0, .ref a0), (1, .int a1), (2, .int j41l2)]) hx hb dX8_go_68 hl (by decide) rfl (fun ls hl => ?_)
          have J70 : ∀ (n : Nat) (j70l4 : Int32) (j70a0_26 : Int32) (j70a0_27 : Int32) (j70a0_28 : Int32) (j70a0_17_a : Nat → Int32) (H : Heap) (locs : List Loc) (ls : Array Slot), (2147483648 : Int) - j70l4.toInt ≤ (n : Int) → (0 : Int) ≤ j70l4.toInt → ((∀ k : Nat, 0 ≤ k → k ≤ 8 → (0 : Int) ≤ (j70a0_17_a k).toInt ∧ (j70a0_17_a k).toInt ≤ 8) ∧ (∀ k : Nat, 19 ≤ k → k ≤ 19 → (0 : Int) ≤ (j70a0_17_a k).toInt ∧ (j70a0_17_a k).toInt ≤ 8) ∧ (∀ k : Nat, 20 ≤ k → k ≤ 20 → (0 : Int) ≤ (j70a0_17_a k).toInt ∧ (j70a0_17_a k).toInt ≤ 19)) → (FX = fl_wh (fun t9 => Sf_X8_go_70_2 a1.toInt (fl_A fa0_15) v1na0_0.toInt v1na0_11.toInt v52na0_21.toInt (fl_A v52nfa0_19) v56na0_25.toInt (fl_A v56nfa0_23) (fl_A v56nfa0_24) x65.toInt t9.1 t9.2.1 t9.2.2.1 t9.2.2.2.1 t9.2.2.2.2) (0, 0, 0, 0, 0, 0, 0, 0, (fun _ => 0), (fun _ => 0), (fun _ => 0), (fun _ => 0)) n (j70l4.toInt, j70a0_26.toInt, j70a0_27.toInt, j70a0_28.toInt, (fl_A j70a0_17_a))) → va_P (dC, dI) vwCl [(a0, .inr (8, [Value.int v1na0_0, a0g_1, a0g_2, a0g_3, a0g_4, a0g_5, a0g_6, a0g_7, a0g_8, a0g_9, a0g_10, Value.int v1na0_11, a0g_12, a0g_13, Value.int a0_14, Value.ref a0_15, a0g_16, Value.ref a0_17, a0g_18, Value.ref a0_19, a0g_20, Value.int v52na0_21, a0g_22, Value.ref a0_23, Value.ref a0_24, Value.int v56na0_25, Value.int j70a0_26, Value.int j70a0_27, Value.int j70a0_28, a0g_29, a0g_30, a0g_31, a0g_32, a0g_33, a0g_34, a0g_35, a0g_36, a0g_37, a0g_38, a0g_39])), (a0_17, .inl (ka0_17, 23, .inl (j70a0_17_a))), (a0_19, .inl (ka0_19, 368, .inl (v52nfa0_19))), (a0_15, .inl (ka0_15, 156, .inl (fa0_15))), (a0_23, .inl (ka0_23, 3, .inl (v56nfa0_23))), (a0_24, .inl (ka0_24, 3, .inl (v56nfa0_24)))] H → va_D A [(a0, .inr (8, [Value.int v1na0_0, a0g_1, a0g_2, a0g_3, a0g_4, a0g_5, a0g_6, a0g_7, a0g_8, a0g_9, a0g_10, Value.int v1na0_11, a0g_12, a0g_13, Value.int a0_14, Value.ref a0_15, a0g_16, Value.ref a0_17, a0g_18, Value.ref a0_19, a0g_20, Value.int v52na0_21, a0g_22, Value.ref a0_23, Value.ref a0_24, Value.int v56na0_25, Value.int j70a0_26, Value.int j70a0_27, Value.int j70a0_28, a0g_29, a0g_30, a0g_31, a0g_32, a0g_33, a0g_34, a0g_35, a0g_36, a0g_37, a0g_38, a0g_39])), (a0_17, .inl (ka0_17, 23, .inl (j70a0_17_a))), (a0_19, .inl (ka0_19, 368, .inl (v52nfa0_19))), (a0_15, .inl (ka0_15, 156, .inl (fa0_15))), (a0_23, .inl (ka0_23, 3, .inl (v56nfa0_23))), (a0_24, .inl (ka0_24, 3, .inl (v56nfa0_24)))] → va_S A s.heap H locs → lv_has ls 5 [(0, .ref a0), (1, .int a1), (3, .int x65), (4, .int j70l4)] → K H locs (F0 m 70 ls []) := by
            intro n
            induction n with
            | zero =>
              intro j70l4 j70a0_26 j70a0_27 j70a0_28 j70a0_17_a H locs ls hm bj70l4_l bj70a0_17_a hF0 hP hD hS hl
              have h8 := ai_min j70l4
              have h9 := ai_max j70l4
              exact absurd hm (by omega)
            | succ n ih70 =>
              intro j70l4 j70a0_26 j70a0_27 j70a0_28 j70a0_17_a H locs ls hm bj70l4_l bj70a0_17_a hF0 hP hD hS hl
              refine (hK0 _ _ _).mpr ?_
              have hm70 := hm
              obtain ⟨SX70, hSX70⟩ : ∃ q9, Sf_X8_go_70_2 a1.toInt (fl_A fa0_15) v1na0_0.toInt v1na0_11.toInt v52na0_21.toInt (fl_A v52nfa0_19) v56na0_25.toInt (fl_A v56nfa0_23) (fl_A v56nfa0_24) x65.toInt j70l4.toInt j70a0_26.toInt j70a0_27.toInt j70a0_28.toInt (fl_A j70a0_17_a) = q9 := ⟨_, rfl⟩
              have hF1 := hSX70.symm.trans (Sf_X8_go_70_2.eq_1 a1.toInt (fl_A fa0_15) v1na0_0.toInt v1na0_11.toInt v52na0_21.toInt (fl_A v52nfa0_19) v56na0_25.toInt (fl_A v56nfa0_23) (fl_A v56nfa0_24) x65.toInt j70l4.toInt j70a0_26.toInt j70a0_27.toInt j70a0_28.toInt (fl_A j70a0_17_a))
              refine lv_iload hx hb dX8_go_70 (lv_at hl 3 rfl) ?_
              refine lv_iload_n hx hb dX8_go_72 rfl (lv_at hl 1 rfl) ?_
              refine lv_icmp_ge (tgt := 90) hx hb dX8_go_73 (by decide) (fun c73 => ?_) (fun c73 => ?_)
              · have gc73 := ai_le c73
                have hF1 := hF1.trans (if_pos (show a1.toInt ≤ j70l4.toInt from gc73))
                have hF0 := hF0.trans (fl_wh_r (hSX70.trans hF1))
                refine lv_aload_n hx hb dX8_go_90 rfl (lv_at hl 0 rfl) ?_
                refine va_get (D := (dC, dI)) (ci := 8) (v := .ref a0_17) (C := RX8) (T := TX8) (N := 40) hx hb hts zi_X8_go_8 hown hK hP 0 rfl rfl 17 (by decide) (hts (.fieldLink RX8 26 "WaxTurnsModel" "st" "[I") (zm_X8_go_r1 (List.mem_of_getElem? (i := 1) rfl))) (fun _ h9 => h9) rfl dX8_go_91 ?_
                refine lv_bipush (v := 18) hx hb dX8_go_94 zk_bipush_18 ?_
                refine va_iald hx hb hK hP 1 0 rfl rfl (by unfold vp_in; decide +kernel) dX8_go_96 ?_
                refine lv_topi (fun x96 ex96 => ?_)
                have fqx96 := congrArg Int32.toInt ex96
                have hF0 := hF0.trans (fl_lt_eq (show x96.toInt = (fl_A j70a0_17_a) (18) from fqx96))
                refine lv_iload_n hx hb dX8_go_97 rfl (lv_at hl 2 rfl) ?_
                refine lv_iconst (v := (-1)) hx hb dX8_go_98 zk_iconst_n1 ?_
                refine lv_ixor hx hb dX8_go_99 ?_
                refine lv_topi (fun x99 ex99 => ?_)
                have fqx99 := fl_xor_eq ex99
                have hF0 := hF0.trans (fl_lt_eq (show x99.toInt = fl_xor x65.toInt (-1) from fqx99))
                refine lv_iand hx hb dX8_go_100 ?_
                refine lv_topi (fun x100 ex100 => ?_)
                have fqx100 := fl_and_eq ex100
                have hF0 := hF0.trans (fl_lt_eq (show x100.toInt = fl_and x96.toInt x99.toInt from fqx100))
                have hFe : FX = (x100.toInt, v1na0_0.toInt, v1na0_11.toInt, v52na0_21.toInt, v56na0_25.toInt, j70a0_26.toInt, j70a0_27.toInt, j70a0_28.toInt, (fl_A j70a0_17_a), (fl_A v52nfa0_19), (fl_A v56nfa0_23), (fl_A v56nfa0_24)) := hF0
                exact W.iret (v := x100) hx hb hr (fun t ht hW => ⟨⟨x100, (), rfl, ⟨trivial, (congrArg Prod.fst hFe).symm⟩, v1na0_0, v1na0_11, v52na0_21, v56na0_25, j70a0_26, j70a0_27, j70a0_28, j70a0_17_a, v52nfa0_19, v56nfa0_23, v56nfa0_24, ⟨bv52na0_21.1, bv52na0_21.2⟩, bj70a0_17_a, bv52nfa0_19, bv56nfa0_23, bv56nfa0_24, (congrArg Prod.snd hFe), by rw [ht]; exact hP, va_K.moved hW.alike hK, hD⟩, hS.F ht⟩) hS.2.2 dX8_go_101
              · have gc73 := ai_nle c73
                have u73f_j70l4 : j70l4.toInt ≤ (2147483646 : Int) := ai_lthi gc73 (ai_max a1)
                have l73f_a1 : (1 : Int) ≤ a1.toInt := ai_ltlo gc73 bj70l4_l
                have hF1 := hF1.trans (if_neg (show ¬ (a1.toInt ≤ j70l4.toInt) from Int.not_le.mpr gc73))
                refine lv_aload_n hx hb dX8_go_76 rfl (lv_at hl 0 rfl) ?_
                refine lv_aload_n hx hb dX8_go_77 rfl (lv_at hl 0 rfl) ?_
                refine va_get (D := (dC, dI)) (ci := 8) (v := .ref a0_17) (C := RX8) (T := TX8) (N := 40) hx hb hts zi_X8_go_8 hown hK hP 0 rfl rfl 17 (by decide) (hts (.fieldLink RX8 26 "WaxTurnsModel" "st" "[I") (zm_X8_go_r1 (List.mem_of_getElem? (i := 1) rfl))) (fun _ h9 => h9) rfl dX8_go_78 ?_
                refine zc_cutc (wc := [(a0, .inr (8, [Value.int v1na0_0, a0g_1, a0g_2, a0g_3, a0g_4, a0g_5, a0g_6, a0g_7, a0g_8, a0g_9, a0g_10, Value.int v1na0_11, a0g_12, a0g_13, Value.int a0_14, Value.ref a0_15, a0g_16, Value.ref a0_17, a0g_18, Value.ref a0_19, a0g_20, Value.int v52na0_21, a0g_22, Value.ref a0_23, Value.ref a0_24, Value.int v56na0_25, Value.int j70a0_26, Value.int j70a0_27, Value.int j70a0_28, a0g_29, a0g_30, a0g_31, a0g_32, a0g_33, a0g_34, a0g_35, a0g_36, a0g_37, a0g_38, a0g_39])), (a0_17, .inl (ka0_17, 23, .inl (j70a0_17_a))), (a0_15, .inl (ka0_15, 156, .inl (fa0_15))), (a0_24, .inl (ka0_24, 3, .inl (v56nfa0_24))), (a0_23, .inl (ka0_23, 3, .inl (v56nfa0_23)))]) hP hD hS hA [0, 1, 3, 5, 4] (by decide +kernel) rfl (fun hPc hDc hFc hCc => ?_)
                have hKc := hK.sub (tys' := [(ka0_17, .int), (ka0_15, .int), (ka0_24, .int), (ka0_23, .int)]) [0, 2, 4, 3] rfl
                refine va_callv (va_runV (As := [.ref a0_17]) (rest := []) ⟨hx, hb, hml, hown, hts⟩ (f_X8_minuteOn l dC dI H.size a0 a0_17 (Value.int v1na0_0) a0g_1 a0g_2 a0g_3 a0g_4 a0g_5 a0g_6 a0g_7 a0g_8 a0g_9 a0g_10 (Value.int v1na0_11) a0g_12 a0g_13 (Value.int a0_14) a0g_16 (Value.ref a0_17) a0g_18 (Value.ref a0_19) a0g_20 (Value.int v52na0_21) a0g_22 a0g_29 a0g_30 a0g_31 a0g_32 a0g_33 a0g_34 a0g_35 a0g_36 a0g_37 a0g_38 a0g_39 a0_15 a0_23 a0_24 v56na0_25 j70a0_26 j70a0_27 j70a0_28 ka0_17 j70a0_17_a ka0_15 fa0_15 ka0_24 v56nfa0_24 ka0_23 v56nfa0_23 bj70a0_17_a bfa0_15 bv56nfa0_24 bv56nfa0_23 hkm) (cwV 1 hts gX8_go_X8_minuteOn rfl rfl rfl zd_X8_minuteOn ⟨Nat.le_of_ble_eq_true rfl, Nat.le_of_ble_eq_true rfl⟩) ⟨ax_blind (fun _ _ _ _ _ => trivial), zr_8 hKc hPc (q0 := 0) rfl, ax_pre hPc hKc hDc (fun _ _ => trivial)⟩ rfl rfl hl.1 rfl (lv_room (Nat.le_of_ble_eq_true rfl)) dX8_go_81 ⟨Nat.le_of_ble_eq_true rfl, Nat.le_of_ble_eq_true rfl⟩) hS (fun q _ h => hFc q h) hFc (fun u t H locs ht hvm hw => zx_4 (fun v81na0_26 v81na0_27 v81na0_28 v81nfa1 => zy_2 (fun bv81nfa1 hraw81_0 hB hz1 hk1 hS1 => zo hB ht hS1 (fun hP1 hK1 hD1 hS => ?_))))
                refine zc_backc (w := [(a0, .inr (8, [Value.int v1na0_0, a0g_1, a0g_2, a0g_3, a0g_4, a0g_5, a0g_6, a0g_7, a0g_8, a0g_9, a0g_10, Value.int v1na0_11, a0g_12, a0g_13, Value.int a0_14, Value.ref a0_15, a0g_16, Value.ref a0_17, a0g_18, Value.ref a0_19, a0g_20, Value.int v52na0_21, a0g_22, Value.ref a0_23, Value.ref a0_24, Value.int v56na0_25, Value.int v81na0_26, Value.int v81na0_27, Value.int v81na0_28, a0g_29, a0g_30, a0g_31, a0g_32, a0g_33, a0g_34, a0g_35, a0g_36, a0g_37, a0g_38, a0g_39])), (a0_17, .inl (ka0_17, 23, .inl (v81nfa1))), (a0_19, .inl (ka0_19, 368, .inl (v52nfa0_19))), (a0_15, .inl (ka0_15, 156, .inl (fa0_15))), (a0_23, .inl (ka0_23, 3, .inl (v56nfa0_23))), (a0_24, .inl (ka0_24, 3, .inl (v56nfa0_24)))]) hP hD hCc hk1 hFc hP1 hD1 [.inr 0, .inr 1, .inl 2, .inr 2, .inr 4, .inr 3] (by decide +kernel) rfl (fun hP hD => ?_)
                have hc81 : Ff_X8_minuteOn v56na0_25.toInt (fl_A j70a0_17_a) (fl_A fa0_15) (fl_A v56nfa0_24) (fl_A v56nfa0_23) = (v81na0_26.toInt, v81na0_27.toInt, v81na0_28.toInt, (fl_A v81nfa1)) := hraw81_0
                have hF1 := hF1.trans (fl_c4_eq hc81)
                obtain ⟨x84, ex84⟩ : ∃ y : Int32, y = j70l4 + Int32.ofInt 1 := ⟨_, rfl⟩
                have qx84 : x84.toInt = j70l4.toInt + 1 := ai_inc ex84 (by decide) (by decide) u73f_j70l4 (by decide)
                have bx84 : (1 : Int) ≤ x84.toInt ∧ x84.toInt ≤ 2147483647 := ⟨by rw [qx84]; exact Int.add_le_add bj70l4_l (Int.le_refl _), by rw [qx84]; exact Int.add_le_add u73f_j70l4 (Int.le_refl _)⟩
                refine lv_iinc (v := x84) (lv' := [(4, .int x84), (0, .ref a0), (1, .int a1), (3, .int x65)]) hx hb dX8_go_84 hl (k := 3) rfl ex84.symm (by decide) rfl (fun ls hl => ?_)
                have hF1 := hF1.trans (fl_lt_eq (show x84.toInt = j70l4.toInt + 1 from qx84))
                refine lv_goto (tgt := 70) hx hb dX8_go_87 (by decide) ?_
                exact (hK0 _ _ _).mp (ih70 x84 v81na0_26 v81na0_27 v81na0_28 v81nfa1 _ _ _ (by first | exact zg_s hm70 qx84 | (have h0 := qx84; omega)) (Int.le_trans zq4 bx84.1) bv81nfa1 (hF0.trans (fl_wh_l (hSX70.trans hF1))) hP hD hS (lv_sub hl [1, 2, 3, 0] rfl))
          exact (hK0 _ _ _).mp (J70 2147483648 0 a0_26 a0_27 a0_28 fa0_17 _ _ _ (by first | decide +kernel | (have h1 : (0 : Int) ≤ (0 : Int32).toInt := zq5; have h2 : (0 : Int32).toInt ≤ (0 : Int) := zq6; omega)) zq5 bfa0_17 (by rw [show (0 : Int32).toInt = 0 from by decide]; exact hF0) hP hD hS (lv_sub hl [2, 3, 1, 0] rfl))
        · have gc42 := ai_ne c42
          have l42f_j41l2 : (1 : Int) ≤ j41l2.toInt := (by first | exact zg_l bj41l2_l gc42 (by decide) (by decide) | (have h1 := bj41l2_l; have h2 : (0 : Int32).toInt = 0 := (by decide); rw [h2] at gc42; omega))
          have hF0 := hF0.trans (if_neg (show ¬ (j41l2.toInt = 0) from  gc42))
          refine lv_aload_n hx hb dX8_go_45 rfl (lv_at hl 0 rfl) ?_
          refine lv_iload_n hx hb dX8_go_46 rfl (lv_at hl 2 rfl) ?_
          refine va_calli (va_runV (As := [.int j41l2]) (rest := []) ⟨hx, hb, hml, hown, hts⟩ (f_X8_no l dC dI H.size a0 j41l2 (Value.int v1na0_0) a0g_1 a0g_2 a0g_3 a0g_4 a0g_5 a0g_6 a0g_7 a0g_8 a0g_9 a0g_10 a0g_12 a0g_13 (Value.int a0_14) (Value.ref a0_15) a0g_16 (Value.ref a0_17) a0g_18 (Value.ref a0_19) a0g_20 (Value.int a0_21) a0g_22 (Value.ref a0_23) (Value.ref a0_24) (Value.int a0_25) (Value.int a0_26) (Value.int a0_27) (Value.int a0_28) a0g_29 a0g_30 a0g_31 a0g_32 a0g_33 a0g_34 a0g_35 a0g_36 a0g_37 a0g_38 a0g_39 v1na0_11 ) (cwV 1 hts gX8_go_X8_no rfl rfl rfl zd_X8_no ⟨Nat.le_of_ble_eq_true rfl, Nat.le_of_ble_eq_true rfl⟩) ⟨ax_blind (fun _ _ _ _ _ => trivial), zr_8 (zp_K hK) (zp_P1 hP) (q0 := 0) rfl, ax_pre (zp_P1 hP) (zp_K hK) (zp_D1 hD) (fun _ _ => trivial)⟩ rfl rfl hl.1 rfl (lv_room (Nat.le_of_ble_eq_true rfl)) dX8_go_47 ⟨Nat.le_of_ble_eq_true rfl, Nat.le_of_ble_eq_true rfl⟩) hS (fun q _ h => zp_F1 hD hS hA q h) (zp_F1 hD hS hA) (fun r47 u t H locs ht hvm hw => zx_1 (fun v47na0_11 => zy_1 (fun hraw47_0 hB hz1 hk1 hS1 => zo1 hB ht hP hD hk1 (zp_F1 hD hS hA) hS1 (fun hP hK1 hD hS => ?_))))
          obtain ⟨hw, hfr47⟩ := hw
          have hc47 : Ff_X8_no j41l2.toInt = (r47.toInt, v47na0_11.toInt) := Prod.ext hfr47.symm hraw47_0
          have hF0 := hF0.trans (fl_c2_eq hc47)
          have hw : r47 = (-1) := hw
          have hw := hw.symm
          subst hw
          have hFe : FX = ((-1), v1na0_0.toInt, v47na0_11.toInt, a0_21.toInt, a0_25.toInt, a0_26.toInt, a0_27.toInt, a0_28.toInt, (fl_A fa0_17), (fl_A fa0_19), (fl_A fa0_23), (fl_A fa0_24)) := hF0
          exact W.iret (v := (-1)) hx hb hr (fun t ht hW => ⟨⟨(-1), (), rfl, ⟨trivial, (congrArg Prod.fst hFe).symm⟩, v1na0_0, v47na0_11, a0_21, a0_25, a0_26, a0_27, a0_28, fa0_17, fa0_19, fa0_23, fa0_24, ⟨ba0_21_l, ba0_21_u⟩, bfa0_17, bfa0_19, bfa0_23, bfa0_24, (congrArg Prod.snd hFe), by rw [ht]; exact hP, va_K.moved hW.alike hK, hD⟩, hS.F ht⟩) hS.2.2 dX8_go_50
      exact (hK0 _ _ _).mp (J41 2 _ _ _  (Int.le_trans zq50 zq12) (Int.le_trans zq13 zq130) (by rw [show (2 : Int32).toInt = 2 from by decide]; exact hF0) hP hD hS (lv_sub hl [1, 2, 0] rfl))
    · obtain ⟨hw, h16_0, h16_1⟩ := hw
      subst hw
      have l16k1_a0_14 : (1 : Int) ≤ a0_14.toInt := ba0_14_l
      have u16k1_a0_14 : a0_14.toInt ≤ (0 : Int) := h16_1
      exact absurd (Int.le_trans l16k1_a0_14 u16k1_a0_14) (by decide)
    · obtain ⟨hw, h16_0, h16_1, h16_2, h16_3⟩ := hw
      subst hw
      have l16k2_a0_14 : (1 : Int) ≤ a0_14.toInt := ba0_14_l
      have u16k2_a0_14 : a0_14.toInt ≤ (1 : Int) := ba0_14_u
      exact absurd h16_2 (by decide)
end P314_12_f
section P314_13_f
set_option maxHeartbeats 4000000 in
set_option maxRecDepth 100000 in
theorem f_X8_put (l : Launch) (dC : Nat → ClassId) (dI : Nat → Nat → Nat) (sz : Nat) (a0 : Nat) (a1 : Int32) (a0_0 : Int32) (a0g_1 a0g_2 a0g_3 a0g_4 a0g_5 a0g_6 a0g_7 a0g_8 a0g_9 a0g_10 a0g_12 a0g_13 a0g_16 a0g_18 a0g_20 a0g_22 a0g_23 a0g_24 a0g_25 a0g_26 a0g_27 a0g_28 a0g_29 a0g_30 a0g_31 a0g_32 a0g_33 a0g_34 a0g_35 a0g_36 a0g_37 a0g_38 a0g_39 : Value) (a0_11 : Int32) (a0_14 : Int32) (a0_15 : Nat) (a0_17 : Nat) (a0_19 : Nat) (a0_21 : Int32) (ka0_15 : ClassId) (fa0_15 : Nat → Int32) (ka0_17 : ClassId) (fa0_17 : Nat → Int32) (ka0_19 : ClassId) (fa0_19 : Nat → Int32) (ba0_14_l : (1 : Int) ≤ a0_14.toInt) (ba0_14_u : a0_14.toInt ≤ (1 : Int)) (ba0_21_l : (0 : Int) ≤ a0_21.toInt) (ba0_21_u : a0_21.toInt ≤ (16 : Int)) (bfa0_15 : ((∀ k : Nat, 0 ≤ k → k ≤ 0 → (2 : Int) ≤ (fa0_15 k).toInt ∧ (fa0_15 k).toInt ≤ 9) ∧ (∀ k : Nat, 1 ≤ k → k ≤ 1 → (1 : Int) ≤ (fa0_15 k).toInt ∧ (fa0_15 k).toInt ≤ 20) ∧ (∀ k : Nat, 2 ≤ k → k ≤ 2 → (0 : Int) ≤ (fa0_15 k).toInt ∧ (fa0_15 k).toInt ≤ 8) ∧ (∀ k : Nat, 3 ≤ k → k ≤ 3 → (0 : Int) ≤ (fa0_15 k).toInt ∧ (fa0_15 k).toInt ≤ 100) ∧ (∀ k : Nat, 4 ≤ k → k ≤ 4 → (0 : Int) ≤ (fa0_15 k).toInt ∧ (fa0_15 k).toInt ≤ 9) ∧ (∀ k : Nat, 5 ≤ k → k ≤ 5 → (0 : Int) ≤ (fa0_15 k).toInt ∧ (fa0_15 k).toInt ≤ 3) ∧ (∀ k : Nat, 6 ≤ k → k ≤ 6 → (0 : Int) ≤ (fa0_15 k).toInt ∧ (fa0_15 k).toInt ≤ 6) ∧ (∀ k : Nat, 7 ≤ k → k ≤ 9 → (0 : Int) ≤ (fa0_15 k).toInt ∧ (fa0_15 k).toInt ≤ 8) ∧ (∀ k : Nat, 12 ≤ k → k ≤ 29 → (0 : Int) ≤ (fa0_15 k).toInt ∧ (fa0_15 k).toInt ≤ 20) ∧ (∀ k : Nat, 30 ≤ k → k ≤ 35 → (0 : Int) ≤ (fa0_15 k).toInt ∧ (fa0_15 k).toInt ≤ 8) ∧ (∀ k : Nat, 36 ≤ k → k ≤ 47 → (0 : Int) ≤ (fa0_15 k).toInt ∧ (fa0_15 k).toInt ≤ 999))) (bfa0_17 : ((∀ k : Nat, 0 ≤ k → k ≤ 8 → (0 : Int) ≤ (fa0_17 k).toInt ∧ (fa0_17 k).toInt ≤ 8) ∧ (∀ k : Nat, 19 ≤ k → k ≤ 19 → (0 : Int) ≤ (fa0_17 k).toInt ∧ (fa0_17 k).toInt ≤ 8) ∧ (∀ k : Nat, 20 ≤ k → k ≤ 20 → (0 : Int) ≤ (fa0_17 k).toInt ∧ (fa0_17 k).toInt ≤ 19))) (bfa0_19 : (md_S fa0_19)) : zm l yX8_put wsX8_put ({ frames := 2, cells := 0, slots := 0, locals := 46 }) [.ref a0, .int a1] dC dI sz [(a0, .inr (8, [Value.int a0_0, a0g_1, a0g_2, a0g_3, a0g_4, a0g_5, a0g_6, a0g_7, a0g_8, a0g_9, a0g_10, Value.int a0_11, a0g_12, a0g_13, Value.int a0_14, Value.ref a0_15, a0g_16, Value.ref a0_17, a0g_18, Value.ref a0_19, a0g_20, Value.int a0_21, a0g_22, a0g_23, a0g_24, a0g_25, a0g_26, a0g_27, a0g_28, a0g_29, a0g_30, a0g_31, a0g_32, a0g_33, a0g_34, a0g_35, a0g_36, a0g_37, a0g_38, a0g_39])), (a0_15, .inl (ka0_15, 156, .inl (fa0_15))), (a0_17, .inl (ka0_17, 23, .inl (fa0_17))), (a0_19, .inl (ka0_19, 368, .inl (fa0_19)))] [(ka0_15, .int), (ka0_17, .int), (ka0_19, .int)] (fun A _ => True) (fun A => va_Qi (fun (r : Int32) (_ : Unit) => ((-1 : Int) ≤ r.toInt ∧ r.toInt ≤ (8 : Int)) ∧ r.toInt = (Ff_X8_put a1.toInt a0_14.toInt a0_21.toInt (fl_A fa0_15) (fl_A fa0_17) (fl_A fa0_19)).1) (fun (_ : Unit) (t : State) => ∃ na0_0 : Int32, ∃ na0_11 : Int32, ∃ na0_21 : Int32, ∃ nfa0_17 : Nat → Int32, ∃ nfa0_19 : Nat → Int32, ((0 : Int) ≤ na0_21.toInt ∧ na0_21.toInt ≤ 16) ∧ ((∀ k : Nat, 0 ≤ k → k ≤ 8 → (0 : Int) ≤ (nfa0_17 k).toInt ∧ (nfa0_17 k).toInt ≤ 8) ∧ (∀ k : Nat, 19 ≤ k → k ≤ 19 → (0 : Int) ≤ (nfa0_17 k).toInt ∧ (nfa0_17 k).toInt ≤ 8) ∧ (∀ k : Nat, 20 ≤ k → k ≤ 20 → (0 : Int) ≤ (nfa0_17 k).toInt ∧ (nfa0_17 k).toInt ≤ 19)) ∧ (md_S nfa0_19) ∧ ((Ff_X8_put a1.toInt a0_14.toInt a0_21.toInt (fl_A fa0_15) (fl_A fa0_17) (fl_A fa0_19)).2 = (na0_0.toInt, na0_11.toInt, na0_21.toInt, (fl_A nfa0_17), (fl_A nfa0_19))) ∧ ax_B dC dI A [(a0, .inr (8, [Value.int na0_0, a0g_1, a0g_2, a0g_3, a0g_4, a0g_5, a0g_6, a0g_7, a0g_8, a0g_9, a0g_10, Value.int na0_11, a0g_12, a0g_13, Value.int a0_14, Value.ref a0_15, a0g_16, Value.ref a0_17, a0g_18, Value.ref a0_19, a0g_20, Value.int na0_21, a0g_22, a0g_23, a0g_24, a0g_25, a0g_26, a0g_27, a0g_28, a0g_29, a0g_30, a0g_31, a0g_32, a0g_33, a0g_34, a0g_35, a0g_36, a0g_37, a0g_38, a0g_39])), (a0_15, .inl (ka0_15, 156, .inl (fa0_15))), (a0_17, .inl (ka0_17, 23, .inl (nfa0_17))), (a0_19, .inl (ka0_19, 368, .inl (nfa0_19)))] [(ka0_15, .int), (ka0_17, .int), (ka0_19, .int)] t) A) := by
  refine zh (cc := cX8_put) (maxL := 3) (ret := (some .int)) zn_RX8 rfl (Nat.le_of_ble_eq_true rfl) (fun p e s m below meth c A ls hx hb hml hr hts (hown : s.vm.findClass RX8 = some m.cls) hlocks hA hS hP hK hD hE (hl : lv_has ls 3 [(0, .ref a0), (1, .int a1)]) => ?_)
  generalize hFX : Ff_X8_put a1.toInt a0_14.toInt a0_21.toInt (fl_A fa0_15) (fl_A fa0_17) (fl_A fa0_19) = FX at ⊢
  have hF0 := hFX.symm.trans (Ff_X8_put.eq_1 a1.toInt a0_14.toInt a0_21.toInt (fl_A fa0_15) (fl_A fa0_17) (fl_A fa0_19))
  refine lv_aload_n hx hb dX8_put_0 rfl (lv_at hl 0 rfl) ?_
  refine va_callv (va_runV (As := []) (rest := []) ⟨hx, hb, hml, hown, hts⟩ (f_X8_good l dC dI s.heap.size a0 a0_0 a0g_1 a0g_2 a0g_3 a0g_4 a0g_5 a0g_6 a0g_7 a0g_8 a0g_9 a0g_10 a0g_12 a0g_13 (Value.int a0_14) (Value.ref a0_15) a0g_16 (Value.ref a0_17) a0g_18 (Value.ref a0_19) a0g_20 (Value.int a0_21) a0g_22 a0g_23 a0g_24 a0g_25 a0g_26 a0g_27 a0g_28 a0g_29 a0g_30 a0g_31 a0g_32 a0g_33 a0g_34 a0g_35 a0g_36 a0g_37 a0g_38 a0g_39 a0_11 ) (cwV 0 hts gX8_put_X8_good rfl rfl rfl zd_X8_good ⟨Nat.le_of_ble_eq_true rfl, Nat.le_of_ble_eq_true rfl⟩) ⟨ax_blind (fun _ _ _ _ _ => trivial), zr_8 (zp_K hK) (zp_P1 hP) (q0 := 0) rfl, ax_pre (zp_P1 hP) (zp_K hK) (zp_D1 hD) (fun _ _ => trivial)⟩ rfl rfl hl.1 rfl (lv_room (Nat.le_of_ble_eq_true rfl)) dX8_put_1 ⟨Nat.le_of_ble_eq_true rfl, Nat.le_of_ble_eq_true rfl⟩) hS (fun q _ h => zp_F1 hD hS hA q h) (zp_F1 hD hS hA) (fun u t H locs ht hvm hw => zx_2 (fun v1na0_0 v1na0_11 => zy_1 (fun hraw1_0 hB hz1 hk1 hS1 => zo1 hB ht hP hD hk1 (zp_F1 hD hS hA) hS1 (fun hP hK1 hD hS => ?_))))
  have hc1 : Ff_X8_good = (v1na0_0.toInt, v1na0_11.toInt) := hraw1_0
  have hF0 := hF0.trans (fl_c2_eq hc1)
  refine lv_aload_n hx hb dX8_put_4 rfl (lv_at hl 0 rfl) ?_
  refine lv_iload_n hx hb dX8_put_5 rfl (lv_at hl 1 rfl) ?_
  have hKc := hK.sub (tys' := [(ka0_15, .int)]) [0] rfl
  refine va_calli (va_runV (As := [.int a1]) (rest := []) ⟨hx, hb, hml, hown, hts⟩ (f_X8_isFigure l dC dI H.size a0 a1 (Value.int v1na0_0) a0g_1 a0g_2 a0g_3 a0g_4 a0g_5 a0g_6 a0g_7 a0g_8 a0g_9 a0g_10 (Value.int v1na0_11) a0g_12 a0g_13 a0g_16 (Value.ref a0_17) a0g_18 (Value.ref a0_19) a0g_20 (Value.int a0_21) a0g_22 a0g_23 a0g_24 a0g_25 a0g_26 a0g_27 a0g_28 a0g_29 a0g_30 a0g_31 a0g_32 a0g_33 a0g_34 a0g_35 a0g_36 a0g_37 a0g_38 a0g_39 a0_14 a0_15 ka0_15 fa0_15 ba0_14_l ba0_14_u bfa0_15) (cwV 1 hts gX8_put_X8_isFigure rfl rfl rfl zd_X8_isFigure ⟨Nat.le_of_ble_eq_true rfl, Nat.le_of_ble_eq_true rfl⟩) ⟨ax_blind (fun _ _ _ _ _ => trivial), zr_8 hKc (zp_P2 hP) (q0 := 0) rfl, ax_pre (zp_P2 hP) hKc (zp_D2 hD) (fun _ _ => trivial)⟩ rfl rfl hl.1 rfl (lv_room (Nat.le_of_ble_eq_true rfl)) dX8_put_6 ⟨Nat.le_of_ble_eq_true rfl, Nat.le_of_ble_eq_true rfl⟩) hS (fun q _ h => zp_F2 hD hS hA q h) (zp_F2 hD hS hA) (fun r6 u t H locs ht hvm hw hB hz1 hk1 hS1 => zo2 hB ht hP hD hk1 (zp_F2 hD hS hA) hS1 (fun hP hK1 hD hS => ?_))
  obtain ⟨hw, hfr6⟩ := hw
  have hc6 : Ff_X8_isFigure a1.toInt a0_14.toInt (fl_A fa0_15) = r6.toInt := hfr6.symm
  have hF0 := hF0.trans (fl_lt_eq hc6.symm)
  rcases hw with hw | hw
  · obtain ⟨hw, h6_0, h6_1⟩ := hw
    subst hw
    have l6k0_a1 : (0 : Int) ≤ a1.toInt := h6_0
    have u6k0_a1 : a1.toInt ≤ (8 : Int) := h6_1
    have hF0 := hF0.trans (if_pos (by decide))
    refine lv_if_ne (tgt := 18) hx hb dX8_put_9 (by decide) (fun _ => ?_) (fun c9 => absurd c9 (by decide +kernel))
    refine lv_aload_n hx hb dX8_put_18 rfl (lv_at hl 0 rfl) ?_
    refine va_get (D := (dC, dI)) (ci := 8) (v := .ref a0_17) (C := RX8) (T := TX8) (N := 40) hx hb hts zi_X8_put_8 hown hK hP 0 rfl rfl 17 (by decide) (hts (.fieldLink RX8 26 "WaxTurnsModel" "st" "[I") (zm_X8_put_r1 (List.mem_of_getElem? (i := 0) rfl))) (fun _ h9 => h9) rfl dX8_put_19 ?_
    refine lv_bipush (v := 18) hx hb dX8_put_22 zk_bipush_18 ?_
    refine va_iald hx hb hK hP 2 1 rfl rfl (by unfold vp_in; decide +kernel) dX8_put_24 ?_
    refine lv_topi (fun x24 ex24 => ?_)
    have fqx24 := congrArg Int32.toInt ex24
    have hF0 := hF0.trans (fl_lt_eq (show x24.toInt = (fl_A fa0_17) (18) from fqx24))
    refine lv_iload_n hx hb dX8_put_25 rfl (lv_at hl 1 rfl) ?_
    refine va_calli (va_runS (As := [.int x24, .int a1]) (rest := []) ⟨hx, hb, hml, hown, hts⟩ (f_X8_hasBit l dC dI H.size x24 a1 ) (va_cwS 2 hts gX8_put_X8_hasBit rfl rfl rfl zd_X8_hasBit.2 ⟨Nat.le_of_ble_eq_true rfl, Nat.le_of_ble_eq_true rfl⟩) ⟨ax_blind (fun _ _ _ _ _ => trivial), ax_pre (zp_P0 hP) (zp_K hK) (zp_D0 hD) (fun _ _ => trivial)⟩ rfl rfl hl.1 rfl (lv_room (Nat.le_of_ble_eq_true rfl)) dX8_put_26 ⟨Nat.le_of_ble_eq_true rfl, Nat.le_of_ble_eq_true rfl⟩) hS (fun q _ h => zp_F0 hD hS hA q h) (zp_F0 hD hS hA) (fun r26 u t H locs ht hvm hw hB hz1 hk1 hS1 => zo0 hB ht hP hD hk1 (zp_F0 hD hS hA) hS1 (fun hP hK1 hD hS => ?_))
    obtain ⟨hw, hfr26⟩ := hw
    have hc26 : Ff_X8_hasBit x24.toInt a1.toInt = r26.toInt := hfr26.symm
    have hF0 := hF0.trans (fl_lt_eq hc26.symm)
    rcases hw with hw | hw
    · subst hw
      have hF0 := hF0.trans (if_pos (by decide))
      refine lv_if_ne (tgt := 42) hx hb dX8_put_29 (by decide) (fun _ => ?_) (fun c29 => absurd c29 (by decide +kernel))
      refine lv_aload_n hx hb dX8_put_42 rfl (lv_at hl 0 rfl) ?_
      refine lv_iconst (v := 5) hx hb dX8_put_43 zk_iconst_5 ?_
      refine va_calli (va_runV (As := [.int 5]) (rest := []) ⟨hx, hb, hml, hown, hts⟩ (f_X8_no l dC dI H.size a0 5 (Value.int v1na0_0) a0g_1 a0g_2 a0g_3 a0g_4 a0g_5 a0g_6 a0g_7 a0g_8 a0g_9 a0g_10 a0g_12 a0g_13 (Value.int a0_14) (Value.ref a0_15) a0g_16 (Value.ref a0_17) a0g_18 (Value.ref a0_19) a0g_20 (Value.int a0_21) a0g_22 a0g_23 a0g_24 a0g_25 a0g_26 a0g_27 a0g_28 a0g_29 a0g_30 a0g_31 a0g_32 a0g_33 a0g_34 a0g_35 a0g_36 a0g_37 a0g_38 a0g_39 v1na0_11 ) (cwV 1 hts gX8_put_X8_no rfl rfl rfl zd_X8_no ⟨Nat.le_of_ble_eq_true rfl, Nat.le_of_ble_eq_true rfl⟩) ⟨ax_blind (fun _ _ _ _ _ => trivial), zr_8 (zp_K hK) (zp_P1 hP) (q0 := 0) rfl, ax_pre (zp_P1 hP) (zp_K hK) (zp_D1 hD) (fun _ _ => trivial)⟩ rfl rfl hl.1 rfl (lv_room (Nat.le_of_ble_eq_true rfl)) dX8_put_44 ⟨Nat.le_of_ble_eq_true rfl, Nat.le_of_ble_eq_true rfl⟩) hS (fun q _ h => zp_F1 hD hS hA q h) (zp_F1 hD hS hA) (fun r44 u t H locs ht hvm hw => zx_1 (fun v44na0_11 => zy_1 (fun hraw44_0 hB hz1 hk1 hS1 => zo1 hB ht hP hD hk1 (zp_F1 hD hS hA) hS1 (fun hP hK1 hD hS => ?_))))
      obtain ⟨hw, hfr44⟩ := hw
      rw [show (5 : Int32).toInt = 5 from by decide] at hfr44 hraw44_0
      have hc44 : Ff_X8_no 5 = (r44.toInt, v44na0_11.toInt) := Prod.ext hfr44.symm hraw44_0
      have hF0 := hF0.trans (fl_c2_eq hc44)
      have hw : r44 = (-1) := hw
      have hw := hw.symm
      subst hw
      have hFe : FX = ((-1), v1na0_0.toInt, v44na0_11.toInt, a0_21.toInt, (fl_A fa0_17), (fl_A fa0_19)) := hF0
      exact W.iret (v := (-1)) hx hb hr (fun t ht hW => ⟨⟨(-1), (), rfl, ⟨⟨zq70, (Int.le_trans zq71 zq72)⟩, (congrArg Prod.fst hFe).symm⟩, v1na0_0, v44na0_11, a0_21, fa0_17, fa0_19, ⟨ba0_21_l, ba0_21_u⟩, bfa0_17, bfa0_19, (congrArg Prod.snd hFe), by rw [ht]; exact hP, va_K.moved hW.alike hK, hD⟩, hS.F ht⟩) hS.2.2 dX8_put_47
    · subst hw
      have hF0 := hF0.trans (if_neg (by decide))
      refine lv_if_ne (tgt := 42) hx hb dX8_put_29 (by decide) (fun c29 => absurd (by decide +kernel) c29) (fun _ => ?_)
      refine lv_aload_n hx hb dX8_put_32 rfl (lv_at hl 0 rfl) ?_
      refine va_get (D := (dC, dI)) (ci := 8) (v := .ref a0_17) (C := RX8) (T := TX8) (N := 40) hx hb hts zi_X8_put_8 hown hK hP 0 rfl rfl 17 (by decide) (hts (.fieldLink RX8 26 "WaxTurnsModel" "st" "[I") (zm_X8_put_r1 (List.mem_of_getElem? (i := 0) rfl))) (fun _ h9 => h9) rfl dX8_put_33 ?_
      refine lv_iload_n hx hb dX8_put_36 rfl (lv_at hl 1 rfl) ?_
      refine va_iald hx hb hK hP 2 1 rfl rfl (ai_in l6k0_a1 u6k0_a1 (by decide) (by decide)) dX8_put_37 ?_
      refine lv_topi (fun x37 ex37 => ?_)
      have bx37 : (0 : Int) ≤ x37.toInt ∧ x37.toInt ≤ 8 := by rw [ex37]; exact ai_rd bfa0_17.1 l6k0_a1 u6k0_a1 (by decide) (by decide) (by decide)
      have fqx37 := congrArg Int32.toInt ex37
      have hF0 := hF0.trans (fl_lt_eq (show x37.toInt = (fl_A fa0_17) (a1.toInt.toNat) from fqx37))
      refine lv_iload_n hx hb dX8_put_38 rfl (lv_at hl 1 rfl) ?_
      refine lv_icmp_ne (tgt := 48) hx hb dX8_put_39 (by decide) (fun c39 => ?_) (fun c39 => ?_)
      · have gc39 := ai_ne c39
        have hF0 := hF0.trans (if_neg (show ¬ (x37.toInt = a1.toInt) from  gc39))
        refine lv_aload_n hx hb dX8_put_48 rfl (lv_at hl 0 rfl) ?_
        refine zc_cutc (wc := [(a0, .inr (8, [Value.int v1na0_0, a0g_1, a0g_2, a0g_3, a0g_4, a0g_5, a0g_6, a0g_7, a0g_8, a0g_9, a0g_10, Value.int v1na0_11, a0g_12, a0g_13, Value.int a0_14, Value.ref a0_15, a0g_16, Value.ref a0_17, a0g_18, Value.ref a0_19, a0g_20, Value.int a0_21, a0g_22, a0g_23, a0g_24, a0g_25, a0g_26, a0g_27, a0g_28, a0g_29, a0g_30, a0g_31, a0g_32, a0g_33, a0g_34, a0g_35, a0g_36, a0g_37, a0g_38, a0g_39])), (a0_17, .inl (ka0_17, 23, .inl (fa0_17))), (a0_19, .inl (ka0_19, 368, .inl (fa0_19)))]) hP hD hS hA [0, 2, 3] (by decide +kernel) rfl (fun hPc hDc hFc hCc => ?_)
        have hKc := hK.sub (tys' := [(ka0_17, .int), (ka0_19, .int)]) [1, 2] rfl
        refine va_callv (va_runV (As := []) (rest := []) ⟨hx, hb, hml, hown, hts⟩ (f_X8_note l dC dI H.size a0 (Value.int v1na0_0) a0g_1 a0g_2 a0g_3 a0g_4 a0g_5 a0g_6 a0g_7 a0g_8 a0g_9 a0g_10 (Value.int v1na0_11) a0g_12 a0g_13 (Value.int a0_14) (Value.ref a0_15) a0g_16 a0g_18 a0g_20 a0g_22 a0g_23 a0g_24 a0g_25 a0g_26 a0g_27 a0g_28 a0g_29 a0g_30 a0g_31 a0g_32 a0g_33 a0g_34 a0g_35 a0g_36 a0g_37 a0g_38 a0g_39 a0_17 a0_19 a0_21 ka0_17 fa0_17 ka0_19 fa0_19 ba0_21_l ba0_21_u bfa0_17 bfa0_19) (cwV 0 hts gX8_put_X8_note rfl rfl rfl zd_X8_note ⟨Nat.le_of_ble_eq_true rfl, Nat.le_of_ble_eq_true rfl⟩) ⟨ax_blind (fun _ _ _ _ _ => trivial), zr_8 hKc hPc (q0 := 0) rfl, ax_pre hPc hKc hDc (fun _ _ => trivial)⟩ rfl rfl hl.1 rfl (lv_room (Nat.le_of_ble_eq_true rfl)) dX8_put_49 ⟨Nat.le_of_ble_eq_true rfl, Nat.le_of_ble_eq_true rfl⟩) hS (fun q _ h => hFc q h) hFc (fun u t H locs ht hvm hw => zx_2 (fun v49na0_21 v49nfa0_19 => zy_3 (fun bv49na0_21 bv49nfa0_19 hraw49_0 hB hz1 hk1 hS1 => zo hB ht hS1 (fun hP1 hK1 hD1 hS => ?_))))
        refine zc_backc (w := [(a0, .inr (8, [Value.int v1na0_0, a0g_1, a0g_2, a0g_3, a0g_4, a0g_5, a0g_6, a0g_7, a0g_8, a0g_9, a0g_10, Value.int v1na0_11, a0g_12, a0g_13, Value.int a0_14, Value.ref a0_15, a0g_16, Value.ref a0_17, a0g_18, Value.ref a0_19, a0g_20, Value.int v49na0_21, a0g_22, a0g_23, a0g_24, a0g_25, a0g_26, a0g_27, a0g_28, a0g_29, a0g_30, a0g_31, a0g_32, a0g_33, a0g_34, a0g_35, a0g_36, a0g_37, a0g_38, a0g_39])), (a0_15, .inl (ka0_15, 156, .inl (fa0_15))), (a0_17, .inl (ka0_17, 23, .inl (fa0_17))), (a0_19, .inl (ka0_19, 368, .inl (v49nfa0_19)))]) hP hD hCc hk1 hFc hP1 hD1 [.inr 0, .inl 1, .inr 1, .inr 2] (by decide +kernel) rfl (fun hP hD => ?_)
        have hc49 : Ff_X8_note a0_21.toInt (fl_A fa0_17) (fl_A fa0_19) = (v49na0_21.toInt, (fl_A v49nfa0_19)) := hraw49_0
        have hF0 := hF0.trans (fl_c2_eq hc49)
        refine lv_aload_n hx hb dX8_put_52 rfl (lv_at hl 0 rfl) ?_
        refine va_get (D := (dC, dI)) (ci := 8) (v := .ref a0_17) (C := RX8) (T := TX8) (N := 40) hx hb hts zi_X8_put_8 hown hK hP 0 rfl rfl 17 (by decide) (hts (.fieldLink RX8 26 "WaxTurnsModel" "st" "[I") (zm_X8_put_r1 (List.mem_of_getElem? (i := 0) rfl))) (fun _ h9 => h9) rfl dX8_put_53 ?_
        refine lv_iload_n hx hb dX8_put_56 rfl (lv_at hl 1 rfl) ?_
        refine va_iald hx hb hK hP 2 1 rfl rfl (ai_in l6k0_a1 u6k0_a1 (by decide) (by decide)) dX8_put_57 ?_
        refine ax_ti x37 ex37.symm ?_
        refine lv_istore_n (lv' := [(2, .int x37), (0, .ref a0), (1, .int a1)]) hx hb dX8_put_58 rfl hl (by decide) rfl (fun ls hl => ?_)
        refine lv_aload_n hx hb dX8_put_59 rfl (lv_at hl 1 rfl) ?_
        refine va_get (D := (dC, dI)) (ci := 8) (v := .ref a0_17) (C := RX8) (T := TX8) (N := 40) hx hb hts zi_X8_put_8 hown hK hP 0 rfl rfl 17 (by decide) (hts (.fieldLink RX8 26 "WaxTurnsModel" "st" "[I") (zm_X8_put_r1 (List.mem_of_getElem? (i := 0) rfl))) (fun _ h9 => h9) rfl dX8_put_60 ?_
        refine lv_iload_n hx hb dX8_put_63 rfl (lv_at hl 2 rfl) ?_
        refine lv_iload_n hx hb dX8_put_64 rfl (lv_at hl 2 rfl) ?_
        refine va_iast hx hb hK hP hD hS 2 1 rfl rfl (ai_in l6k0_a1 u6k0_a1 (by decide) (by decide)) dX8_put_65 (fun H locs hP hD hS => ?_)
        obtain ⟨f65, ef65⟩ : ∃ g9 : Nat → Int32, g9 = upd fa0_17 (a1 : Int32).toNatClampNeg a1 := ⟨_, rfl⟩
        refine zs_2 (y := (a0_17, .inl (ka0_17, 23, .inl (f65)))) hP hD (by rw [ef65]) (fun hP hD => ?_)
        have bf65 : ((∀ k : Nat, 0 ≤ k → k ≤ 8 → (0 : Int) ≤ (f65 k).toInt ∧ (f65 k).toInt ≤ 8) ∧ (∀ k : Nat, 19 ≤ k → k ≤ 19 → (0 : Int) ≤ (f65 k).toInt ∧ (f65 k).toInt ≤ 8) ∧ (∀ k : Nat, 20 ≤ k → k ≤ 20 → (0 : Int) ≤ (f65 k).toInt ∧ (f65 k).toInt ≤ 19)) := by rw [ef65]; exact ⟨ai_updS bfa0_17.1 _ ⟨l6k0_a1, u6k0_a1⟩, ai_updO bfa0_17.2.1 _ (Or.inl (ai_nlt_of l6k0_a1 u6k0_a1 (by decide) (by decide))), ai_updO bfa0_17.2.2 _ (Or.inl (ai_nlt_of l6k0_a1 u6k0_a1 (by decide) (by decide)))⟩
        have fqf65 := fl_up_eq ef65
        have hF0 := hF0.trans (fl_lt_eq (show (fl_A f65) = fl_up (fl_A fa0_17) (a1.toInt.toNat) a1.toInt from fqf65))
        refine lv_iload_n hx hb dX8_put_66 rfl (lv_at hl 0 rfl) ?_
        have hFe : FX = (x37.toInt, v1na0_0.toInt, v1na0_11.toInt, v49na0_21.toInt, (fl_A f65), (fl_A v49nfa0_19)) := hF0
        exact W.iret (v := x37) hx hb hr (fun t ht hW => ⟨⟨x37, (), rfl, ⟨⟨(Int.le_trans zq69 bx37.1), bx37.2⟩, (congrArg Prod.fst hFe).symm⟩, v1na0_0, v1na0_11, v49na0_21, f65, v49nfa0_19, ⟨bv49na0_21.1, bv49na0_21.2⟩, bf65, bv49nfa0_19, (congrArg Prod.snd hFe), by rw [ht]; exact hP, va_K.moved hW.alike hK, hD⟩, hS.F ht⟩) hS.2.2 dX8_put_67
      · have gc39 := ai_eq c39
        have u39f_x37 : x37.toInt ≤ (8 : Int) := bx37.2
        have l39f_x37 : (0 : Int) ≤ x37.toInt := bx37.1
        have u39f_a1 : a1.toInt ≤ (8 : Int) := u6k0_a1
        have l39f_a1 : (0 : Int) ≤ a1.toInt := l6k0_a1
        have hF0 := hF0.trans (if_pos (show x37.toInt = a1.toInt from gc39))
        refine lv_aload_n hx hb dX8_put_42 rfl (lv_at hl 0 rfl) ?_
        refine lv_iconst (v := 5) hx hb dX8_put_43 zk_iconst_5 ?_
        refine va_calli (va_runV (As := [.int 5]) (rest := []) ⟨hx, hb, hml, hown, hts⟩ (f_X8_no l dC dI H.size a0 5 (Value.int v1na0_0) a0g_1 a0g_2 a0g_3 a0g_4 a0g_5 a0g_6 a0g_7 a0g_8 a0g_9 a0g_10 a0g_12 a0g_13 (Value.int a0_14) (Value.ref a0_15) a0g_16 (Value.ref a0_17) a0g_18 (Value.ref a0_19) a0g_20 (Value.int a0_21) a0g_22 a0g_23 a0g_24 a0g_25 a0g_26 a0g_27 a0g_28 a0g_29 a0g_30 a0g_31 a0g_32 a0g_33 a0g_34 a0g_35 a0g_36 a0g_37 a0g_38 a0g_39 v1na0_11 ) (cwV 1 hts gX8_put_X8_no rfl rfl rfl zd_X8_no ⟨Nat.le_of_ble_eq_true rfl, Nat.le_of_ble_eq_true rfl⟩) ⟨ax_blind (fun _ _ _ _ _ => trivial), zr_8 (zp_K hK) (zp_P1 hP) (q0 := 0) rfl, ax_pre (zp_P1 hP) (zp_K hK) (zp_D1 hD) (fun _ _ => trivial)⟩ rfl rfl hl.1 rfl (lv_room (Nat.le_of_ble_eq_true rfl)) dX8_put_44 ⟨Nat.le_of_ble_eq_true rfl, Nat.le_of_ble_eq_true rfl⟩) hS (fun q _ h => zp_F1 hD hS hA q h) (zp_F1 hD hS hA) (fun r44 u t H locs ht hvm hw => zx_1 (fun v44na0_11 => zy_1 (fun hraw44_0 hB hz1 hk1 hS1 => zo1 hB ht hP hD hk1 (zp_F1 hD hS hA) hS1 (fun hP hK1 hD hS => ?_))))
        obtain ⟨hw, hfr44⟩ := hw
        rw [show (5 : Int32).toInt = 5 from by decide] at hfr44 hraw44_0
        have hc44 : Ff_X8_no 5 = (r44.toInt, v44na0_11.toInt) := Prod.ext hfr44.symm hraw44_0
        have hF0 := hF0.trans (fl_c2_eq hc44)
        have hw : r44 = (-1) := hw
        have hw := hw.symm
        subst hw
        have hFe : FX = ((-1), v1na0_0.toInt, v44na0_11.toInt, a0_21.toInt, (fl_A fa0_17), (fl_A fa0_19)) := hF0
        exact W.iret (v := (-1)) hx hb hr (fun t ht hW => ⟨⟨(-1), (), rfl, ⟨⟨zq70, (Int.le_trans zq71 zq72)⟩, (congrArg Prod.fst hFe).symm⟩, v1na0_0, v44na0_11, a0_21, fa0_17, fa0_19, ⟨ba0_21_l, ba0_21_u⟩, bfa0_17, bfa0_19, (congrArg Prod.snd hFe), by rw [ht]; exact hP, va_K.moved hW.alike hK, hD⟩, hS.F ht⟩) hS.2.2 dX8_put_47
  · subst hw
    have hF0 := hF0.trans (if_neg (by decide))
    refine lv_if_ne (tgt := 18) hx hb dX8_put_9 (by decide) (fun c9 => absurd (by decide +kernel) c9) (fun _ => ?_)
    refine lv_aload_n hx hb dX8_put_12 rfl (lv_at hl 0 rfl) ?_
    refine lv_iconst (v := 1) hx hb dX8_put_13 zk_iconst_1 ?_
    refine va_calli (va_runV (As := [.int 1]) (rest := []) ⟨hx, hb, hml, hown, hts⟩ (f_X8_no l dC dI H.size a0 1 (Value.int v1na0_0) a0g_1 a0g_2 a0g_3 a0g_4 a0g_5 a0g_6 a0g_7 a0g_8 a0g_9 a0g_10 a0g_12 a0g_13 (Value.int a0_14) (Value.ref a0_15) a0g_16 (Value.ref a0_17) a0g_18 (Value.ref a0_19) a0g_20 (Value.int a0_21) a0g_22 a0g_23 a0g_24 a0g_25 a0g_26 a0g_27 a0g_28 a0g_29 a0g_30 a0g_31 a0g_32 a0g_33 a0g_34 a0g_35 a0g_36 a0g_37 a0g_38 a0g_39 v1na0_11 ) (cwV 1 hts gX8_put_X8_no rfl rfl rfl zd_X8_no ⟨Nat.le_of_ble_eq_true rfl, Nat.le_of_ble_eq_true rfl⟩) ⟨ax_blind (fun _ _ _ _ _ => trivial), zr_8 (zp_K hK) (zp_P1 hP) (q0 := 0) rfl, ax_pre (zp_P1 hP) (zp_K hK) (zp_D1 hD) (fun _ _ => trivial)⟩ rfl rfl hl.1 rfl (lv_room (Nat.le_of_ble_eq_true rfl)) dX8_put_14 ⟨Nat.le_of_ble_eq_true rfl, Nat.le_of_ble_eq_true rfl⟩) hS (fun q _ h => zp_F1 hD hS hA q h) (zp_F1 hD hS hA) (fun r14 u t H locs ht hvm hw => zx_1 (fun v14na0_11 => zy_1 (fun hraw14_0 hB hz1 hk1 hS1 => zo1 hB ht hP hD hk1 (zp_F1 hD hS hA) hS1 (fun hP hK1 hD hS => ?_))))
    obtain ⟨hw, hfr14⟩ := hw
    rw [show (1 : Int32).toInt = 1 from by decide] at hfr14 hraw14_0
    have hc14 : Ff_X8_no 1 = (r14.toInt, v14na0_11.toInt) := Prod.ext hfr14.symm hraw14_0
    have hF0 := hF0.trans (fl_c2_eq hc14)
    have hw : r14 = (-1) := hw
    have hw := hw.symm
    subst hw
    have hFe : FX = ((-1), v1na0_0.toInt, v14na0_11.toInt, a0_21.toInt, (fl_A fa0_17), (fl_A fa0_19)) := hF0
    exact W.iret (v := (-1)) hx hb hr (fun t ht hW => ⟨⟨(-1), (), rfl, ⟨⟨zq70, (Int.le_trans zq71 zq72)⟩, (congrArg Prod.fst hFe).symm⟩, v1na0_0, v14na0_11, a0_21, fa0_17, fa0_19, ⟨ba0_21_l, ba0_21_u⟩, bfa0_17, bfa0_19, (congrArg Prod.snd hFe), by rw [ht]; exact hP, va_K.moved hW.alike hK, hD⟩, hS.F ht⟩) hS.2.2 dX8_put_17

set_option maxHeartbeats 4000000 in
set_option maxRecDepth 100000 in
theorem f_X8_wind (l : Launch) (dC : Nat → ClassId) (dI : Nat → Nat → Nat) (sz : Nat) (a0 : Nat) (a1 : Int32) (a0_0 : Int32) (a0g_1 a0g_2 a0g_3 a0g_4 a0g_5 a0g_6 a0g_7 a0g_8 a0g_9 a0g_10 a0g_12 a0g_13 a0g_16 a0g_18 a0g_20 a0g_22 a0g_23 a0g_24 a0g_25 a0g_26 a0g_27 a0g_28 a0g_29 a0g_30 a0g_31 a0g_32 a0g_33 a0g_34 a0g_35 a0g_36 a0g_37 a0g_38 a0g_39 : Value) (a0_11 : Int32) (a0_14 : Int32) (a0_15 : Nat) (a0_17 : Nat) (a0_19 : Nat) (a0_21 : Int32) (ka0_15 : ClassId) (fa0_15 : Nat → Int32) (ka0_17 : ClassId) (fa0_17 : Nat → Int32) (ka0_19 : ClassId) (fa0_19 : Nat → Int32) (ba0_14_l : (1 : Int) ≤ a0_14.toInt) (ba0_14_u : a0_14.toInt ≤ (1 : Int)) (ba0_21_l : (0 : Int) ≤ a0_21.toInt) (ba0_21_u : a0_21.toInt ≤ (16 : Int)) (bfa0_15 : ((∀ k : Nat, 0 ≤ k → k ≤ 0 → (2 : Int) ≤ (fa0_15 k).toInt ∧ (fa0_15 k).toInt ≤ 9) ∧ (∀ k : Nat, 1 ≤ k → k ≤ 1 → (1 : Int) ≤ (fa0_15 k).toInt ∧ (fa0_15 k).toInt ≤ 20) ∧ (∀ k : Nat, 2 ≤ k → k ≤ 2 → (0 : Int) ≤ (fa0_15 k).toInt ∧ (fa0_15 k).toInt ≤ 8) ∧ (∀ k : Nat, 3 ≤ k → k ≤ 3 → (0 : Int) ≤ (fa0_15 k).toInt ∧ (fa0_15 k).toInt ≤ 100) ∧ (∀ k : Nat, 4 ≤ k → k ≤ 4 → (0 : Int) ≤ (fa0_15 k).toInt ∧ (fa0_15 k).toInt ≤ 9) ∧ (∀ k : Nat, 5 ≤ k → k ≤ 5 → (0 : Int) ≤ (fa0_15 k).toInt ∧ (fa0_15 k).toInt ≤ 3) ∧ (∀ k : Nat, 6 ≤ k → k ≤ 6 → (0 : Int) ≤ (fa0_15 k).toInt ∧ (fa0_15 k).toInt ≤ 6) ∧ (∀ k : Nat, 7 ≤ k → k ≤ 9 → (0 : Int) ≤ (fa0_15 k).toInt ∧ (fa0_15 k).toInt ≤ 8) ∧ (∀ k : Nat, 12 ≤ k → k ≤ 29 → (0 : Int) ≤ (fa0_15 k).toInt ∧ (fa0_15 k).toInt ≤ 20) ∧ (∀ k : Nat, 30 ≤ k → k ≤ 35 → (0 : Int) ≤ (fa0_15 k).toInt ∧ (fa0_15 k).toInt ≤ 8) ∧ (∀ k : Nat, 36 ≤ k → k ≤ 47 → (0 : Int) ≤ (fa0_15 k).toInt ∧ (fa0_15 k).toInt ≤ 999))) (bfa0_17 : ((∀ k : Nat, 0 ≤ k → k ≤ 8 → (0 : Int) ≤ (fa0_17 k).toInt ∧ (fa0_17 k).toInt ≤ 8) ∧ (∀ k : Nat, 19 ≤ k → k ≤ 19 → (0 : Int) ≤ (fa0_17 k).toInt ∧ (fa0_17 k).toInt ≤ 8) ∧ (∀ k : Nat, 20 ≤ k → k ≤ 20 → (0 : Int) ≤ (fa0_17 k).toInt ∧ (fa0_17 k).toInt ≤ 19))) (bfa0_19 : (md_S fa0_19)) : zm l yX8_wind wsX8_wind ({ frames := 2, cells := 0, slots := 0, locals := 46 }) [.ref a0, .int a1] dC dI sz [(a0, .inr (8, [Value.int a0_0, a0g_1, a0g_2, a0g_3, a0g_4, a0g_5, a0g_6, a0g_7, a0g_8, a0g_9, a0g_10, Value.int a0_11, a0g_12, a0g_13, Value.int a0_14, Value.ref a0_15, a0g_16, Value.ref a0_17, a0g_18, Value.ref a0_19, a0g_20, Value.int a0_21, a0g_22, a0g_23, a0g_24, a0g_25, a0g_26, a0g_27, a0g_28, a0g_29, a0g_30, a0g_31, a0g_32, a0g_33, a0g_34, a0g_35, a0g_36, a0g_37, a0g_38, a0g_39])), (a0_15, .inl (ka0_15, 156, .inl (fa0_15))), (a0_17, .inl (ka0_17, 23, .inl (fa0_17))), (a0_19, .inl (ka0_19, 368, .inl (fa0_19)))] [(ka0_15, .int), (ka0_17, .int), (ka0_19, .int)] (fun A _ => True) (fun A => va_Qi (fun (r : Int32) (_ : Unit) => ((-1 : Int) ≤ r.toInt ∧ r.toInt ≤ (8 : Int)) ∧ r.toInt = (Ff_X8_wind a1.toInt a0_14.toInt a0_21.toInt (fl_A fa0_15) (fl_A fa0_17) (fl_A fa0_19)).1) (fun (_ : Unit) (t : State) => ∃ na0_0 : Int32, ∃ na0_11 : Int32, ∃ na0_21 : Int32, ∃ nfa0_17 : Nat → Int32, ∃ nfa0_19 : Nat → Int32, ((0 : Int) ≤ na0_21.toInt ∧ na0_21.toInt ≤ 16) ∧ ((∀ k : Nat, 0 ≤ k → k ≤ 8 → (0 : Int) ≤ (nfa0_17 k).toInt ∧ (nfa0_17 k).toInt ≤ 8) ∧ (∀ k : Nat, 19 ≤ k → k ≤ 19 → (0 : Int) ≤ (nfa0_17 k).toInt ∧ (nfa0_17 k).toInt ≤ 8) ∧ (∀ k : Nat, 20 ≤ k → k ≤ 20 → (0 : Int) ≤ (nfa0_17 k).toInt ∧ (nfa0_17 k).toInt ≤ 19)) ∧ (md_S nfa0_19) ∧ ((Ff_X8_wind a1.toInt a0_14.toInt a0_21.toInt (fl_A fa0_15) (fl_A fa0_17) (fl_A fa0_19)).2 = (na0_0.toInt, na0_11.toInt, na0_21.toInt, (fl_A nfa0_17), (fl_A nfa0_19))) ∧ ax_B dC dI A [(a0, .inr (8, [Value.int na0_0, a0g_1, a0g_2, a0g_3, a0g_4, a0g_5, a0g_6, a0g_7, a0g_8, a0g_9, a0g_10, Value.int na0_11, a0g_12, a0g_13, Value.int a0_14, Value.ref a0_15, a0g_16, Value.ref a0_17, a0g_18, Value.ref a0_19, a0g_20, Value.int na0_21, a0g_22, a0g_23, a0g_24, a0g_25, a0g_26, a0g_27, a0g_28, a0g_29, a0g_30, a0g_31, a0g_32, a0g_33, a0g_34, a0g_35, a0g_36, a0g_37, a0g_38, a0g_39])), (a0_15, .inl (ka0_15, 156, .inl (fa0_15))), (a0_17, .inl (ka0_17, 23, .inl (nfa0_17))), (a0_19, .inl (ka0_19, 368, .inl (nfa0_19)))] [(ka0_15, .int), (ka0_17, .int), (ka0_19, .int)] t) A) := by
  refine zh (cc := cX8_wind) (maxL := 3) (ret := (some .int)) zn_RX8 rfl (Nat.le_of_ble_eq_true rfl) (fun p e s m below meth c A ls hx hb hml hr hts (hown : s.vm.findClass RX8 = some m.cls) hlocks hA hS hP hK hD hE (hl : lv_has ls 3 [(0, .ref a0), (1, .int a1)]) => ?_)
  generalize hFX : Ff_X8_wind a1.toInt a0_14.toInt a0_21.toInt (fl_A fa0_15) (fl_A fa0_17) (fl_A fa0_19) = FX at ⊢
  have hF0 := hFX.symm.trans (Ff_X8_wind.eq_1 a1.toInt a0_14.toInt a0_21.toInt (fl_A fa0_15) (fl_A fa0_17) (fl_A fa0_19))
  refine lv_aload_n hx hb dX8_wind_0 rfl (lv_at hl 0 rfl) ?_
  refine va_callv (va_runV (As := []) (rest := []) ⟨hx, hb, hml, hown, hts⟩ (f_X8_good l dC dI s.heap.size a0 a0_0 a0g_1 a0g_2 a0g_3 a0g_4 a0g_5 a0g_6 a0g_7 a0g_8 a0g_9 a0g_10 a0g_12 a0g_13 (Value.int a0_14) (Value.ref a0_15) a0g_16 (Value.ref a0_17) a0g_18 (Value.ref a0_19) a0g_20 (Value.int a0_21) a0g_22 a0g_23 a0g_24 a0g_25 a0g_26 a0g_27 a0g_28 a0g_29 a0g_30 a0g_31 a0g_32 a0g_33 a0g_34 a0g_35 a0g_36 a0g_37 a0g_38 a0g_39 a0_11 ) (cwV 0 hts gX8_wind_X8_good rfl rfl rfl zd_X8_good ⟨Nat.le_of_ble_eq_true rfl, Nat.le_of_ble_eq_true rfl⟩) ⟨ax_blind (fun _ _ _ _ _ => trivial), zr_8 (zp_K hK) (zp_P1 hP) (q0 := 0) rfl, ax_pre (zp_P1 hP) (zp_K hK) (zp_D1 hD) (fun _ _ => trivial)⟩ rfl rfl hl.1 rfl (lv_room (Nat.le_of_ble_eq_true rfl)) dX8_wind_1 ⟨Nat.le_of_ble_eq_true rfl, Nat.le_of_ble_eq_true rfl⟩) hS (fun q _ h => zp_F1 hD hS hA q h) (zp_F1 hD hS hA) (fun u t H locs ht hvm hw => zx_2 (fun v1na0_0 v1na0_11 => zy_1 (fun hraw1_0 hB hz1 hk1 hS1 => zo1 hB ht hP hD hk1 (zp_F1 hD hS hA) hS1 (fun hP hK1 hD hS => ?_))))
  have hc1 : Ff_X8_good = (v1na0_0.toInt, v1na0_11.toInt) := hraw1_0
  have hF0 := hF0.trans (fl_c2_eq hc1)
  refine lv_aload_n hx hb dX8_wind_4 rfl (lv_at hl 0 rfl) ?_
  refine lv_iload_n hx hb dX8_wind_5 rfl (lv_at hl 1 rfl) ?_
  have hKc := hK.sub (tys' := [(ka0_15, .int)]) [0] rfl
  refine va_calli (va_runV (As := [.int a1]) (rest := []) ⟨hx, hb, hml, hown, hts⟩ (f_X8_isFigure l dC dI H.size a0 a1 (Value.int v1na0_0) a0g_1 a0g_2 a0g_3 a0g_4 a0g_5 a0g_6 a0g_7 a0g_8 a0g_9 a0g_10 (Value.int v1na0_11) a0g_12 a0g_13 a0g_16 (Value.ref a0_17) a0g_18 (Value.ref a0_19) a0g_20 (Value.int a0_21) a0g_22 a0g_23 a0g_24 a0g_25 a0g_26 a0g_27 a0g_28 a0g_29 a0g_30 a0g_31 a0g_32 a0g_33 a0g_34 a0g_35 a0g_36 a0g_37 a0g_38 a0g_39 a0_14 a0_15 ka0_15 fa0_15 ba0_14_l ba0_14_u bfa0_15) (cwV 1 hts gX8_wind_X8_isFigure rfl rfl rfl zd_X8_isFigure ⟨Nat.le_of_ble_eq_true rfl, Nat.le_of_ble_eq_true rfl⟩) ⟨ax_blind (fun _ _ _ _ _ => trivial), zr_8 hKc (zp_P2 hP) (q0 := 0) rfl, ax_pre (zp_P2 hP) hKc (zp_D2 hD) (fun _ _ => trivial)⟩ rfl rfl hl.1 rfl (lv_room (Nat.le_of_ble_eq_true rfl)) dX8_wind_6 ⟨Nat.le_of_ble_eq_true rfl, Nat.le_of_ble_eq_true rfl⟩) hS (fun q _ h => zp_F2 hD hS hA q h) (zp_F2 hD hS hA) (fun r6 u t H locs ht hvm hw hB hz1 hk1 hS1 => zo2 hB ht hP hD hk1 (zp_F2 hD hS hA) hS1 (fun hP hK1 hD hS => ?_))
  obtain ⟨hw, hfr6⟩ := hw
  have hc6 : Ff_X8_isFigure a1.toInt a0_14.toInt (fl_A fa0_15) = r6.toInt := hfr6.symm
  have hF0 := hF0.trans (fl_lt_eq hc6.symm)
  rcases hw with hw | hw
  · obtain ⟨hw, h6_0, h6_1⟩ := hw
    subst hw
    have l6k0_a1 : (0 : Int) ≤ a1.toInt := h6_0
    have u6k0_a1 : a1.toInt ≤ (8 : Int) := h6_1
    have hF0 := hF0.trans (if_pos (by decide))
    refine lv_if_ne (tgt := 18) hx hb dX8_wind_9 (by decide) (fun _ => ?_) (fun c9 => absurd c9 (by decide +kernel))
    refine lv_aload_n hx hb dX8_wind_18 rfl (lv_at hl 0 rfl) ?_
    refine va_get (D := (dC, dI)) (ci := 8) (v := .ref a0_17) (C := RX8) (T := TX8) (N := 40) hx hb hts zi_X8_wind_8 hown hK hP 0 rfl rfl 17 (by decide) (hts (.fieldLink RX8 26 "WaxTurnsModel" "st" "[I") (zm_X8_wind_r1 (List.mem_of_getElem? (i := 0) rfl))) (fun _ h9 => h9) rfl dX8_wind_19 ?_
    refine lv_bipush (v := 19) hx hb dX8_wind_22 zk_bipush_19 ?_
    refine va_iald hx hb hK hP 2 1 rfl rfl (by unfold vp_in; decide +kernel) dX8_wind_24 ?_
    refine lv_topi (fun x24 ex24 => ?_)
    have bx24 : (0 : Int) ≤ x24.toInt ∧ x24.toInt ≤ 8 := by rw [ex24]; exact ai_rd bfa0_17.2.1 zq160 zq161 (by decide) (by decide) (by decide)
    have fqx24 := congrArg Int32.toInt ex24
    have hF0 := hF0.trans (fl_lt_eq (show x24.toInt = (fl_A fa0_17) (19) from fqx24))
    refine lv_iload_n hx hb dX8_wind_25 rfl (lv_at hl 1 rfl) ?_
    refine lv_icmp_ne (tgt := 45) hx hb dX8_wind_26 (by decide) (fun c26 => ?_) (fun c26 => ?_)
    · have gc26 := ai_ne c26
      have hF0 := hF0.trans (if_neg (show ¬ (x24.toInt = a1.toInt) from  gc26))
      refine lv_aload_n hx hb dX8_wind_45 rfl (lv_at hl 0 rfl) ?_
      refine zc_cutc (wc := [(a0, .inr (8, [Value.int v1na0_0, a0g_1, a0g_2, a0g_3, a0g_4, a0g_5, a0g_6, a0g_7, a0g_8, a0g_9, a0g_10, Value.int v1na0_11, a0g_12, a0g_13, Value.int a0_14, Value.ref a0_15, a0g_16, Value.ref a0_17, a0g_18, Value.ref a0_19, a0g_20, Value.int a0_21, a0g_22, a0g_23, a0g_24, a0g_25, a0g_26, a0g_27, a0g_28, a0g_29, a0g_30, a0g_31, a0g_32, a0g_33, a0g_34, a0g_35, a0g_36, a0g_37, a0g_38, a0g_39])), (a0_17, .inl (ka0_17, 23, .inl (fa0_17))), (a0_19, .inl (ka0_19, 368, .inl (fa0_19)))]) hP hD hS hA [0, 2, 3] (by decide +kernel) rfl (fun hPc hDc hFc hCc => ?_)
      have hKc := hK.sub (tys' := [(ka0_17, .int), (ka0_19, .int)]) [1, 2] rfl
      refine va_callv (va_runV (As := []) (rest := []) ⟨hx, hb, hml, hown, hts⟩ (f_X8_note l dC dI H.size a0 (Value.int v1na0_0) a0g_1 a0g_2 a0g_3 a0g_4 a0g_5 a0g_6 a0g_7 a0g_8 a0g_9 a0g_10 (Value.int v1na0_11) a0g_12 a0g_13 (Value.int a0_14) (Value.ref a0_15) a0g_16 a0g_18 a0g_20 a0g_22 a0g_23 a0g_24 a0g_25 a0g_26 a0g_27 a0g_28 a0g_29 a0g_30 a0g_31 a0g_32 a0g_33 a0g_34 a0g_35 a0g_36 a0g_37 a0g_38 a0g_39 a0_17 a0_19 a0_21 ka0_17 fa0_17 ka0_19 fa0_19 ba0_21_l ba0_21_u bfa0_17 bfa0_19) (cwV 0 hts gX8_wind_X8_note rfl rfl rfl zd_X8_note ⟨Nat.le_of_ble_eq_true rfl, Nat.le_of_ble_eq_true rfl⟩) ⟨ax_blind (fun _ _ _ _ _ => trivial), zr_8 hKc hPc (q0 := 0) rfl, ax_pre hPc hKc hDc (fun _ _ => trivial)⟩ rfl rfl hl.1 rfl (lv_room (Nat.le_of_ble_eq_true rfl)) dX8_wind_46 ⟨Nat.le_of_ble_eq_true rfl, Nat.le_of_ble_eq_true rfl⟩) hS (fun q _ h => hFc q h) hFc (fun u t H locs ht hvm hw => zx_2 (fun v46na0_21 v46nfa0_19 => zy_3 (fun bv46na0_21 bv46nfa0_19 hraw46_0 hB hz1 hk1 hS1 => zo hB ht hS1 (fun hP1 hK1 hD1 hS => ?_))))
      refine zc_backc (w := [(a0, .inr (8, [Value.int v1na0_0, a0g_1, a0g_2, a0g_3, a0g_4, a0g_5, a0g_6, a0g_7, a0g_8, a0g_9, a0g_10, Value.int v1na0_11, a0g_12, a0g_13, Value.int a0_14, Value.ref a0_15, a0g_16, Value.ref a0_17, a0g_18, Value.ref a0_19, a0g_20, Value.int v46na0_21, a0g_22, a0g_23, a0g_24, a0g_25, a0g_26, a0g_27, a0g_28, a0g_29, a0g_30, a0g_31, a0g_32, a0g_33, a0g_34, a0g_35, a0g_36, a0g_37, a0g_38, a0g_39])), (a0_15, .inl (ka0_15, 156, .inl (fa0_15))), (a0_17, .inl (ka0_17, 23, .inl (fa0_17))), (a0_19, .inl (ka0_19, 368, .inl (v46nfa0_19)))]) hP hD hCc hk1 hFc hP1 hD1 [.inr 0, .inl 1, .inr 1, .inr 2] (by decide +kernel) rfl (fun hP hD => ?_)
      have hc46 : Ff_X8_note a0_21.toInt (fl_A fa0_17) (fl_A fa0_19) = (v46na0_21.toInt, (fl_A v46nfa0_19)) := hraw46_0
      have hF0 := hF0.trans (fl_c2_eq hc46)
      refine lv_aload_n hx hb dX8_wind_49 rfl (lv_at hl 0 rfl) ?_
      refine va_get (D := (dC, dI)) (ci := 8) (v := .ref a0_17) (C := RX8) (T := TX8) (N := 40) hx hb hts zi_X8_wind_8 hown hK hP 0 rfl rfl 17 (by decide) (hts (.fieldLink RX8 26 "WaxTurnsModel" "st" "[I") (zm_X8_wind_r1 (List.mem_of_getElem? (i := 0) rfl))) (fun _ h9 => h9) rfl dX8_wind_50 ?_
      refine lv_bipush (v := 19) hx hb dX8_wind_53 zk_bipush_19 ?_
      refine va_iald hx hb hK hP 2 1 rfl rfl (by unfold vp_in; decide +kernel) dX8_wind_55 ?_
      refine ax_ti x24 ex24.symm ?_
      refine lv_istore_n (lv' := [(2, .int x24), (0, .ref a0), (1, .int a1)]) hx hb dX8_wind_56 rfl hl (by decide) rfl (fun ls hl => ?_)
      refine lv_aload_n hx hb dX8_wind_57 rfl (lv_at hl 1 rfl) ?_
      refine va_get (D := (dC, dI)) (ci := 8) (v := .ref a0_17) (C := RX8) (T := TX8) (N := 40) hx hb hts zi_X8_wind_8 hown hK hP 0 rfl rfl 17 (by decide) (hts (.fieldLink RX8 26 "WaxTurnsModel" "st" "[I") (zm_X8_wind_r1 (List.mem_of_getElem? (i := 0) rfl))) (fun _ h9 => h9) rfl dX8_wind_58 ?_
      refine lv_bipush (v := 19) hx hb dX8_wind_61 zk_bipush_19 ?_
      refine lv_iload_n hx hb dX8_wind_63 rfl (lv_at hl 2 rfl) ?_
      refine va_iast hx hb hK hP hD hS 2 1 rfl rfl (by unfold vp_in; decide +kernel) dX8_wind_64 (fun H locs hP hD hS => ?_)
      obtain ⟨f64, ef64⟩ : ∃ g9 : Nat → Int32, g9 = upd fa0_17 (19 : Int32).toNatClampNeg a1 := ⟨_, rfl⟩
      refine zs_2 (y := (a0_17, .inl (ka0_17, 23, .inl (f64)))) hP hD (by rw [ef64]) (fun hP hD => ?_)
      have bf64 : ((∀ k : Nat, 0 ≤ k → k ≤ 8 → (0 : Int) ≤ (f64 k).toInt ∧ (f64 k).toInt ≤ 8) ∧ (∀ k : Nat, 19 ≤ k → k ≤ 19 → (0 : Int) ≤ (f64 k).toInt ∧ (f64 k).toInt ≤ 8) ∧ (∀ k : Nat, 20 ≤ k → k ≤ 20 → (0 : Int) ≤ (f64 k).toInt ∧ (f64 k).toInt ≤ 19)) := by rw [ef64]; exact ⟨ai_updO bfa0_17.1 _ (Or.inr (ai_ngt_of zq160 (by decide) (by decide))), ai_updS bfa0_17.2.1 _ ⟨l6k0_a1, u6k0_a1⟩, ai_updO bfa0_17.2.2 _ (Or.inl (ai_nlt_of zq160 zq161 (by decide) (by decide)))⟩
      have kf64_19 : f64 19 = a1 := by rw [ef64]; exact ai_k1 (by decide +kernel)
      have fqf64 := fl_up_eq ef64
      have hF0 := hF0.trans (fl_lt_eq (show (fl_A f64) = fl_up (fl_A fa0_17) (19) a1.toInt from fqf64))
      refine lv_aload_n hx hb dX8_wind_65 rfl (lv_at hl 1 rfl) ?_
      refine va_get (D := (dC, dI)) (ci := 8) (v := .ref a0_17) (C := RX8) (T := TX8) (N := 40) hx hb hts zi_X8_wind_8 hown hK hP 0 rfl rfl 17 (by decide) (hts (.fieldLink RX8 26 "WaxTurnsModel" "st" "[I") (zm_X8_wind_r1 (List.mem_of_getElem? (i := 0) rfl))) (fun _ h9 => h9) rfl dX8_wind_66 ?_
      refine lv_bipush (v := 20) hx hb dX8_wind_69 zk_bipush_20 ?_
      refine lv_iconst (v := 0) hx hb dX8_wind_71 zk_iconst_0 ?_
      refine va_iast hx hb hK hP hD hS 2 1 rfl rfl (by unfold vp_in; decide +kernel) dX8_wind_72 (fun H locs hP hD hS => ?_)
      obtain ⟨f72, ef72⟩ : ∃ g9 : Nat → Int32, g9 = upd f64 (20 : Int32).toNatClampNeg (0 : Int32) := ⟨_, rfl⟩
      refine zs_2 (y := (a0_17, .inl (ka0_17, 23, .inl (f72)))) hP hD (by rw [ef72]) (fun hP hD => ?_)
      have bf72 : ((∀ k : Nat, 0 ≤ k → k ≤ 8 → (0 : Int) ≤ (f72 k).toInt ∧ (f72 k).toInt ≤ 8) ∧ (∀ k : Nat, 19 ≤ k → k ≤ 19 → (0 : Int) ≤ (f72 k).toInt ∧ (f72 k).toInt ≤ 8) ∧ (∀ k : Nat, 20 ≤ k → k ≤ 20 → (0 : Int) ≤ (f72 k).toInt ∧ (f72 k).toInt ≤ 19)) := by rw [ef72]; exact ⟨ai_updO bf64.1 _ (Or.inr (ai_ngt_of zq153 (by decide) (by decide))), ai_updO bf64.2.1 _ (Or.inr (ai_ngt_of zq153 (by decide) (by decide))), ai_updS bf64.2.2 _ ⟨zq5, (Int.le_trans zq6 zq163)⟩⟩
      have kf72_19 : f72 19 = a1 := by rw [ef72]; exact ai_k2 (by decide +kernel) kf64_19
      have kf72_20 : f72 20 = 0 := by rw [ef72]; exact ai_k1 (by decide +kernel)
      have fqf72 := fl_up_eq ef72
      have hF0 := hF0.trans (fl_lt_eq (show (fl_A f72) = fl_up (fl_A f64) (20) 0 from fqf72))
      refine lv_iload_n hx hb dX8_wind_73 rfl (lv_at hl 0 rfl) ?_
      have hFe : FX = (x24.toInt, v1na0_0.toInt, v1na0_11.toInt, v46na0_21.toInt, (fl_A f72), (fl_A v46nfa0_19)) := hF0
      exact W.iret (v := x24) hx hb hr (fun t ht hW => ⟨⟨x24, (), rfl, ⟨⟨(Int.le_trans zq69 bx24.1), bx24.2⟩, (congrArg Prod.fst hFe).symm⟩, v1na0_0, v1na0_11, v46na0_21, f72, v46nfa0_19, ⟨bv46na0_21.1, bv46na0_21.2⟩, bf72, bv46nfa0_19, (congrArg Prod.snd hFe), by rw [ht]; exact hP, va_K.moved hW.alike hK, hD⟩, hS.F ht⟩) hS.2.2 dX8_wind_74
    · have gc26 := ai_eq c26
      have u26f_x24 : x24.toInt ≤ (8 : Int) := bx24.2
      have l26f_x24 : (0 : Int) ≤ x24.toInt := bx24.1
      have u26f_a1 : a1.toInt ≤ (8 : Int) := u6k0_a1
      have l26f_a1 : (0 : Int) ≤ a1.toInt := l6k0_a1
      have hF0 := hF0.trans (if_pos (show x24.toInt = a1.toInt from gc26))
      refine lv_aload_n hx hb dX8_wind_29 rfl (lv_at hl 0 rfl) ?_
      refine va_get (D := (dC, dI)) (ci := 8) (v := .ref a0_17) (C := RX8) (T := TX8) (N := 40) hx hb hts zi_X8_wind_8 hown hK hP 0 rfl rfl 17 (by decide) (hts (.fieldLink RX8 26 "WaxTurnsModel" "st" "[I") (zm_X8_wind_r1 (List.mem_of_getElem? (i := 0) rfl))) (fun _ h9 => h9) rfl dX8_wind_30 ?_
      refine lv_bipush (v := 20) hx hb dX8_wind_33 zk_bipush_20 ?_
      refine va_iald hx hb hK hP 2 1 rfl rfl (by unfold vp_in; decide +kernel) dX8_wind_35 ?_
      refine lv_topi (fun x35 ex35 => ?_)
      have bx35 : (0 : Int) ≤ x35.toInt ∧ x35.toInt ≤ 19 := by rw [ex35]; exact ai_rd bfa0_17.2.2 zq153 zq154 (by decide) (by decide) (by decide)
      have fqx35 := congrArg Int32.toInt ex35
      have hF0 := hF0.trans (fl_lt_eq (show x35.toInt = (fl_A fa0_17) (20) from fqx35))
      refine lv_if_ne (tgt := 45) hx hb dX8_wind_36 (by decide) (fun c36 => ?_) (fun c36 => ?_)
      · have gc36 := ai_ne c36
        have l36t_x35 : (1 : Int) ≤ x35.toInt := (by first | exact zg_l bx35.1 gc36 (by decide) (by decide) | (have h1 := bx35.1; have h2 : (0 : Int32).toInt = 0 := (by decide); rw [h2] at gc36; omega))
        have hF0 := hF0.trans (if_neg (show ¬ (x35.toInt = 0) from  gc36))
        refine lv_aload_n hx hb dX8_wind_45 rfl (lv_at hl 0 rfl) ?_
        refine zc_cutc (wc := [(a0, .inr (8, [Value.int v1na0_0, a0g_1, a0g_2, a0g_3, a0g_4, a0g_5, a0g_6, a0g_7, a0g_8, a0g_9, a0g_10, Value.int v1na0_11, a0g_12, a0g_13, Value.int a0_14, Value.ref a0_15, a0g_16, Value.ref a0_17, a0g_18, Value.ref a0_19, a0g_20, Value.int a0_21, a0g_22, a0g_23, a0g_24, a0g_25, a0g_26, a0g_27, a0g_28, a0g_29, a0g_30, a0g_31, a0g_32, a0g_33, a0g_34, a0g_35, a0g_36, a0g_37, a0g_38, a0g_39])), (a0_17, .inl (ka0_17, 23, .inl (fa0_17))), (a0_19, .inl (ka0_19, 368, .inl (fa0_19)))]) hP hD hS hA [0, 2, 3] (by decide +kernel) rfl (fun hPc hDc hFc hCc => ?_)
        have hKc := hK.sub (tys' := [(ka0_17, .int), (ka0_19, .int)]) [1, 2] rfl
        refine va_callv (va_runV (As := []) (rest := []) ⟨hx, hb, hml, hown, hts⟩ (f_X8_note l dC dI H.size a0 (Value.int v1na0_0) a0g_1 a0g_2 a0g_3 a0g_4 a0g_5 a0g_6 a0g_7 a0g_8 a0g_9 a0g_10 (Value.int v1na0_11) a0g_12 a0g_13 (Value.int a0_14) (Value.ref a0_15) a0g_16 a0g_18 a0g_20 a0g_22 a0g_23 a0g_24 a0g_25 a0g_26 a0g_27 a0g_28 a0g_29 a0g_30 a0g_31 a0g_32 a0g_33 a0g_34 a0g_35 a0g_36 a0g_37 a0g_38 a0g_39 a0_17 a0_19 a0_21 ka0_17 fa0_17 ka0_19 fa0_19 ba0_21_l ba0_21_u bfa0_17 bfa0_19) (cwV 0 hts gX8_wind_X8_note rfl rfl rfl zd_X8_note ⟨Nat.le_of_ble_eq_true rfl, Nat.le_of_ble_eq_true rfl⟩) ⟨ax_blind (fun _ _ _ _ _ => trivial), zr_8 hKc hPc (q0 := 0) rfl, ax_pre hPc hKc hDc (fun _ _ => trivial)⟩ rfl rfl hl.1 rfl (lv_room (Nat.le_of_ble_eq_true rfl)) dX8_wind_46 ⟨Nat.le_of_ble_eq_true rfl, Nat.le_of_ble_eq_true rfl⟩) hS (fun q _ h => hFc q h) hFc (fun u t H locs ht hvm hw => zx_2 (fun v46na0_21 v46nfa0_19 => zy_3 (fun bv46na0_21 bv46nfa0_19 hraw46_0 hB hz1 hk1 hS1 => zo hB ht hS1 (fun hP1 hK1 hD1 hS => ?_))))
        refine zc_backc (w := [(a0, .inr (8, [Value.int v1na0_0, a0g_1, a0g_2, a0g_3, a0g_4, a0g_5, a0g_6, a0g_7, a0g_8, a0g_9, a0g_10, Value.int v1na0_11, a0g_12, a0g_13, Value.int a0_14, Value.ref a0_15, a0g_16, Value.ref a0_17, a0g_18, Value.ref a0_19, a0g_20, Value.int v46na0_21, a0g_22, a0g_23, a0g_24, a0g_25, a0g_26, a0g_27, a0g_28, a0g_29, a0g_30, a0g_31, a0g_32, a0g_33, a0g_34, a0g_35, a0g_36, a0g_37, a0g_38, a0g_39])), (a0_15, .inl (ka0_15, 156, .inl (fa0_15))), (a0_17, .inl (ka0_17, 23, .inl (fa0_17))), (a0_19, .inl (ka0_19, 368, .inl (v46nfa0_19)))]) hP hD hCc hk1 hFc hP1 hD1 [.inr 0, .inl 1, .inr 1, .inr 2] (by decide +kernel) rfl (fun hP hD => ?_)
        have hc46 : Ff_X8_note a0_21.toInt (fl_A fa0_17) (fl_A fa0_19) = (v46na0_21.toInt, (fl_A v46nfa0_19)) := hraw46_0
        have hF0 := hF0.trans (fl_c2_eq hc46)
        refine lv_aload_n hx hb dX8_wind_49 rfl (lv_at hl 0 rfl) ?_
        refine va_get (D := (dC, dI)) (ci := 8) (v := .ref a0_17) (C := RX8) (T := TX8) (N := 40) hx hb hts zi_X8_wind_8 hown hK hP 0 rfl rfl 17 (by decide) (hts (.fieldLink RX8 26 "WaxTurnsModel" "st" "[I") (zm_X8_wind_r1 (List.mem_of_getElem? (i := 0) rfl))) (fun _ h9 => h9) rfl dX8_wind_50 ?_
        refine lv_bipush (v := 19) hx hb dX8_wind_53 zk_bipush_19 ?_
        refine va_iald hx hb hK hP 2 1 rfl rfl (by unfold vp_in; decide +kernel) dX8_wind_55 ?_
        refine ax_ti x24 ex24.symm ?_
        refine lv_istore_n (lv' := [(2, .int x24), (0, .ref a0), (1, .int a1)]) hx hb dX8_wind_56 rfl hl (by decide) rfl (fun ls hl => ?_)
        refine lv_aload_n hx hb dX8_wind_57 rfl (lv_at hl 1 rfl) ?_
        refine va_get (D := (dC, dI)) (ci := 8) (v := .ref a0_17) (C := RX8) (T := TX8) (N := 40) hx hb hts zi_X8_wind_8 hown hK hP 0 rfl rfl 17 (by decide) (hts (.fieldLink RX8 26 "WaxTurnsModel" "st" "[I") (zm_X8_wind_r1 (List.mem_of_getElem? (i := 0) rfl))) (fun _ h9 => h9) rfl dX8_wind_58 ?_
        refine lv_bipush (v := 19) hx hb dX8_wind_61 zk_bipush_19 ?_
        refine lv_iload_n hx hb dX8_wind_63 rfl (lv_at hl 2 rfl) ?_
        refine va_iast hx hb hK hP hD hS 2 1 rfl rfl (by unfold vp_in; decide +kernel) dX8_wind_64 (fun H locs hP hD hS => ?_)
        obtain ⟨f64, ef64⟩ : ∃ g9 : Nat → Int32, g9 = upd fa0_17 (19 : Int32).toNatClampNeg a1 := ⟨_, rfl⟩
        refine zs_2 (y := (a0_17, .inl (ka0_17, 23, .inl (f64)))) hP hD (by rw [ef64]) (fun hP hD => ?_)
        have bf64 : ((∀ k : Nat, 0 ≤ k → k ≤ 8 → (0 : Int) ≤ (f64 k).toInt ∧ (f64 k).toInt ≤ 8) ∧ (∀ k : Nat, 19 ≤ k → k ≤ 19 → (0 : Int) ≤ (f64 k).toInt ∧ (f64 k).toInt ≤ 8) ∧ (∀ k : Nat, 20 ≤ k → k ≤ 20 → (0 : Int) ≤ (f64 k).toInt ∧ (f64 k).toInt ≤ 19)) := by rw [ef64]; exact ⟨ai_updO bfa0_17.1 _ (Or.inr (ai_ngt_of zq160 (by decide) (by decide))), ai_updS bfa0_17.2.1 _ ⟨l26f_a1, u26f_a1⟩, ai_updO bfa0_17.2.2 _ (Or.inl (ai_nlt_of zq160 zq161 (by decide) (by decide)))⟩
        have kf64_19 : f64 19 = a1 := by rw [ef64]; exact ai_k1 (by decide +kernel)
        have fqf64 := fl_up_eq ef64
        have hF0 := hF0.trans (fl_lt_eq (show (fl_A f64) = fl_up (fl_A fa0_17) (19) a1.toInt from fqf64))
        refine lv_aload_n hx hb dX8_wind_65 rfl (lv_at hl 1 rfl) ?_
        refine va_get (D := (dC, dI)) (ci := 8) (v := .ref a0_17) (C := RX8) (T := TX8) (N := 40) hx hb hts zi_X8_wind_8 hown hK hP 0 rfl rfl 17 (by decide) (hts (.fieldLink RX8 26 "WaxTurnsModel" "st" "[I") (zm_X8_wind_r1 (List.mem_of_getElem? (i := 0) rfl))) (fun _ h9 => h9) rfl dX8_wind_66 ?_
        refine lv_bipush (v := 20) hx hb dX8_wind_69 zk_bipush_20 ?_
        refine lv_iconst (v := 0) hx hb dX8_wind_71 zk_iconst_0 ?_
        refine va_iast hx hb hK hP hD hS 2 1 rfl rfl (by unfold vp_in; decide +kernel) dX8_wind_72 (fun H locs hP hD hS => ?_)
        obtain ⟨f72, ef72⟩ : ∃ g9 : Nat → Int32, g9 = upd f64 (20 : Int32).toNatClampNeg (0 : Int32) := ⟨_, rfl⟩
        refine zs_2 (y := (a0_17, .inl (ka0_17, 23, .inl (f72)))) hP hD (by rw [ef72]) (fun hP hD => ?_)
        have bf72 : ((∀ k : Nat, 0 ≤ k → k ≤ 8 → (0 : Int) ≤ (f72 k).toInt ∧ (f72 k).toInt ≤ 8) ∧ (∀ k : Nat, 19 ≤ k → k ≤ 19 → (0 : Int) ≤ (f72 k).toInt ∧ (f72 k).toInt ≤ 8) ∧ (∀ k : Nat, 20 ≤ k → k ≤ 20 → (0 : Int) ≤ (f72 k).toInt ∧ (f72 k).toInt ≤ 19)) := by rw [ef72]; exact ⟨ai_updO bf64.1 _ (Or.inr (ai_ngt_of zq153 (by decide) (by decide))), ai_updO bf64.2.1 _ (Or.inr (ai_ngt_of zq153 (by decide) (by decide))), ai_updS bf64.2.2 _ ⟨zq5, (Int.le_trans zq6 zq163)⟩⟩
        have kf72_19 : f72 19 = a1 := by rw [ef72]; exact ai_k2 (by decide +kernel) kf64_19
        have kf72_20 : f72 20 = 0 := by rw [ef72]; exact ai_k1 (by decide +kernel)
        have fqf72 := fl_up_eq ef72
        have hF0 := hF0.trans (fl_lt_eq (show (fl_A f72) = fl_up (fl_A f64) (20) 0 from fqf72))
        refine lv_iload_n hx hb dX8_wind_73 rfl (lv_at hl 0 rfl) ?_
        have hFe : FX = (x24.toInt, v1na0_0.toInt, v1na0_11.toInt, v46na0_21.toInt, (fl_A f72), (fl_A v46nfa0_19)) := hF0
        exact W.iret (v := x24) hx hb hr (fun t ht hW => ⟨⟨x24, (), rfl, ⟨⟨(Int.le_trans zq69 l26f_x24), u26f_x24⟩, (congrArg Prod.fst hFe).symm⟩, v1na0_0, v1na0_11, v46na0_21, f72, v46nfa0_19, ⟨bv46na0_21.1, bv46na0_21.2⟩, bf72, bv46nfa0_19, (congrArg Prod.snd hFe), by rw [ht]; exact hP, va_K.moved hW.alike hK, hD⟩, hS.F ht⟩) hS.2.2 dX8_wind_74
      · have gc36 := ai_eq c36
        have u36f_x35 : x35.toInt ≤ (0 : Int) := Int.le_trans (Int.le_of_eq gc36) zq6
        have l36f_x35 : (0 : Int) ≤ x35.toInt := bx35.1
        have hF0 := hF0.trans (if_pos (show x35.toInt = 0 from gc36))
        refine lv_aload_n hx hb dX8_wind_39 rfl (lv_at hl 0 rfl) ?_
        refine lv_iconst (v := 5) hx hb dX8_wind_40 zk_iconst_5 ?_
        refine va_calli (va_runV (As := [.int 5]) (rest := []) ⟨hx, hb, hml, hown, hts⟩ (f_X8_no l dC dI H.size a0 5 (Value.int v1na0_0) a0g_1 a0g_2 a0g_3 a0g_4 a0g_5 a0g_6 a0g_7 a0g_8 a0g_9 a0g_10 a0g_12 a0g_13 (Value.int a0_14) (Value.ref a0_15) a0g_16 (Value.ref a0_17) a0g_18 (Value.ref a0_19) a0g_20 (Value.int a0_21) a0g_22 a0g_23 a0g_24 a0g_25 a0g_26 a0g_27 a0g_28 a0g_29 a0g_30 a0g_31 a0g_32 a0g_33 a0g_34 a0g_35 a0g_36 a0g_37 a0g_38 a0g_39 v1na0_11 ) (cwV 1 hts gX8_wind_X8_no rfl rfl rfl zd_X8_no ⟨Nat.le_of_ble_eq_true rfl, Nat.le_of_ble_eq_true rfl⟩) ⟨ax_blind (fun _ _ _ _ _ => trivial), zr_8 (zp_K hK) (zp_P1 hP) (q0 := 0) rfl, ax_pre (zp_P1 hP) (zp_K hK) (zp_D1 hD) (fun _ _ => trivial)⟩ rfl rfl hl.1 rfl (lv_room (Nat.le_of_ble_eq_true rfl)) dX8_wind_41 ⟨Nat.le_of_ble_eq_true rfl, Nat.le_of_ble_eq_true rfl⟩) hS (fun q _ h => zp_F1 hD hS hA q h) (zp_F1 hD hS hA) (fun r41 u t H locs ht hvm hw => zx_1 (fun v41na0_11 => zy_1 (fun hraw41_0 hB hz1 hk1 hS1 => zo1 hB ht hP hD hk1 (zp_F1 hD hS hA) hS1 (fun hP hK1 hD hS => ?_))))
        obtain ⟨hw, hfr41⟩ := hw
        rw [show (5 : Int32).toInt = 5 from by decide] at hfr41 hraw41_0
        have hc41 : Ff_X8_no 5 = (r41.toInt, v41na0_11.toInt) := Prod.ext hfr41.symm hraw41_0
        have hF0 := hF0.trans (fl_c2_eq hc41)
        have hw : r41 = (-1) := hw
        have hw := hw.symm
        subst hw
        have hFe : FX = ((-1), v1na0_0.toInt, v41na0_11.toInt, a0_21.toInt, (fl_A fa0_17), (fl_A fa0_19)) := hF0
        exact W.iret (v := (-1)) hx hb hr (fun t ht hW => ⟨⟨(-1), (), rfl, ⟨⟨zq70, (Int.le_trans zq71 zq72)⟩, (congrArg Prod.fst hFe).symm⟩, v1na0_0, v41na0_11, a0_21, fa0_17, fa0_19, ⟨ba0_21_l, ba0_21_u⟩, bfa0_17, bfa0_19, (congrArg Prod.snd hFe), by rw [ht]; exact hP, va_K.moved hW.alike hK, hD⟩, hS.F ht⟩) hS.2.2 dX8_wind_44
  · subst hw
    have hF0 := hF0.trans (if_neg (by decide))
    refine lv_if_ne (tgt := 18) hx hb dX8_wind_9 (by decide) (fun c9 => absurd (by decide +kernel) c9) (fun _ => ?_)
    refine lv_aload_n hx hb dX8_wind_12 rfl (lv_at hl 0 rfl) ?_
    refine lv_iconst (v := 1) hx hb dX8_wind_13 zk_iconst_1 ?_
    refine va_calli (va_runV (As := [.int 1]) (rest := []) ⟨hx, hb, hml, hown, hts⟩ (f_X8_no l dC dI H.size a0 1 (Value.int v1na0_0) a0g_1 a0g_2 a0g_3 a0g_4 a0g_5 a0g_6 a0g_7 a0g_8 a0g_9 a0g_10 a0g_12 a0g_13 (Value.int a0_14) (Value.ref a0_15) a0g_16 (Value.ref a0_17) a0g_18 (Value.ref a0_19) a0g_20 (Value.int a0_21) a0g_22 a0g_23 a0g_24 a0g_25 a0g_26 a0g_27 a0g_28 a0g_29 a0g_30 a0g_31 a0g_32 a0g_33 a0g_34 a0g_35 a0g_36 a0g_37 a0g_38 a0g_39 v1na0_11 ) (cwV 1 hts gX8_wind_X8_no rfl rfl rfl zd_X8_no ⟨Nat.le_of_ble_eq_true rfl, Nat.le_of_ble_eq_true rfl⟩) ⟨ax_blind (fun _ _ _ _ _ => trivial), zr_8 (zp_K hK) (zp_P1 hP) (q0 := 0) rfl, ax_pre (zp_P1 hP) (zp_K hK) (zp_D1 hD) (fun _ _ => trivial)⟩ rfl rfl hl.1 rfl (lv_room (Nat.le_of_ble_eq_true rfl)) dX8_wind_14 ⟨Nat.le_of_ble_eq_true rfl, Nat.le_of_ble_eq_true rfl⟩) hS (fun q _ h => zp_F1 hD hS hA q h) (zp_F1 hD hS hA) (fun r14 u t H locs ht hvm hw => zx_1 (fun v14na0_11 => zy_1 (fun hraw14_0 hB hz1 hk1 hS1 => zo1 hB ht hP hD hk1 (zp_F1 hD hS hA) hS1 (fun hP hK1 hD hS => ?_))))
    obtain ⟨hw, hfr14⟩ := hw
    rw [show (1 : Int32).toInt = 1 from by decide] at hfr14 hraw14_0
    have hc14 : Ff_X8_no 1 = (r14.toInt, v14na0_11.toInt) := Prod.ext hfr14.symm hraw14_0
    have hF0 := hF0.trans (fl_c2_eq hc14)
    have hw : r14 = (-1) := hw
    have hw := hw.symm
    subst hw
    have hFe : FX = ((-1), v1na0_0.toInt, v14na0_11.toInt, a0_21.toInt, (fl_A fa0_17), (fl_A fa0_19)) := hF0
    exact W.iret (v := (-1)) hx hb hr (fun t ht hW => ⟨⟨(-1), (), rfl, ⟨⟨zq70, (Int.le_trans zq71 zq72)⟩, (congrArg Prod.fst hFe).symm⟩, v1na0_0, v14na0_11, a0_21, fa0_17, fa0_19, ⟨ba0_21_l, ba0_21_u⟩, bfa0_17, bfa0_19, (congrArg Prod.snd hFe), by rw [ht]; exact hP, va_K.moved hW.alike hK, hD⟩, hS.F ht⟩) hS.2.2 dX8_wind_17

set_option maxHeartbeats 4000000 in
set_option maxRecDepth 100000 in
theorem f_X8_undo (l : Launch) (dC : Nat → ClassId) (dI : Nat → Nat → Nat) (sz : Nat) (a0 : Nat) (a0_0 : Int32) (a0g_1 a0g_2 a0g_3 a0g_4 a0g_5 a0g_6 a0g_7 a0g_8 a0g_9 a0g_10 a0g_12 a0g_13 a0g_14 a0g_15 a0g_16 a0g_18 a0g_20 a0g_22 a0g_23 a0g_24 a0g_25 a0g_26 a0g_27 a0g_28 a0g_29 a0g_30 a0g_31 a0g_32 a0g_33 a0g_34 a0g_35 a0g_36 a0g_37 a0g_38 a0g_39 : Value) (a0_11 : Int32) (a0_17 : Nat) (a0_19 : Nat) (a0_21 : Int32) (ka0_19 : ClassId) (fa0_19 : Nat → Int32) (ka0_17 : ClassId) (fa0_17 : Nat → Int32) (ba0_21_l : (0 : Int) ≤ a0_21.toInt) (ba0_21_u : a0_21.toInt ≤ (16 : Int)) (bfa0_19 : (md_S fa0_19)) (bfa0_17 : ((∀ k : Nat, 0 ≤ k → k ≤ 8 → (0 : Int) ≤ (fa0_17 k).toInt ∧ (fa0_17 k).toInt ≤ 8) ∧ (∀ k : Nat, 19 ≤ k → k ≤ 19 → (0 : Int) ≤ (fa0_17 k).toInt ∧ (fa0_17 k).toInt ≤ 8) ∧ (∀ k : Nat, 20 ≤ k → k ≤ 20 → (0 : Int) ≤ (fa0_17 k).toInt ∧ (fa0_17 k).toInt ≤ 19))) : zm l yX8_undo wsX8_undo ({ frames := 1, cells := 0, slots := 0, locals := 25 }) [.ref a0] dC dI sz [(a0, .inr (8, [Value.int a0_0, a0g_1, a0g_2, a0g_3, a0g_4, a0g_5, a0g_6, a0g_7, a0g_8, a0g_9, a0g_10, Value.int a0_11, a0g_12, a0g_13, a0g_14, a0g_15, a0g_16, Value.ref a0_17, a0g_18, Value.ref a0_19, a0g_20, Value.int a0_21, a0g_22, a0g_23, a0g_24, a0g_25, a0g_26, a0g_27, a0g_28, a0g_29, a0g_30, a0g_31, a0g_32, a0g_33, a0g_34, a0g_35, a0g_36, a0g_37, a0g_38, a0g_39])), (a0_19, .inl (ka0_19, 368, .inl (fa0_19))), (a0_17, .inl (ka0_17, 23, .inl (fa0_17)))] [(ka0_19, .int), (ka0_17, .int)] (fun A _ => True) (fun A => va_Qi (fun (r : Int32) (_ : Unit) => ((r = 1) ∨ (r = 0)) ∧ r.toInt = (Ff_X8_undo a0_21.toInt (fl_A fa0_19) (fl_A fa0_17)).1) (fun (_ : Unit) (t : State) => ∃ na0_0 : Int32, ∃ na0_11 : Int32, ∃ na0_21 : Int32, ∃ nfa0_17 : Nat → Int32, ((0 : Int) ≤ na0_21.toInt ∧ na0_21.toInt ≤ 16) ∧ ((∀ k : Nat, 0 ≤ k → k ≤ 8 → (0 : Int) ≤ (nfa0_17 k).toInt ∧ (nfa0_17 k).toInt ≤ 8) ∧ (∀ k : Nat, 19 ≤ k → k ≤ 19 → (0 : Int) ≤ (nfa0_17 k).toInt ∧ (nfa0_17 k).toInt ≤ 8) ∧ (∀ k : Nat, 20 ≤ k → k ≤ 20 → (0 : Int) ≤ (nfa0_17 k).toInt ∧ (nfa0_17 k).toInt ≤ 19)) ∧ ((Ff_X8_undo a0_21.toInt (fl_A fa0_19) (fl_A fa0_17)).2 = (na0_0.toInt, na0_11.toInt, na0_21.toInt, (fl_A nfa0_17))) ∧ ax_B dC dI A [(a0, .inr (8, [Value.int na0_0, a0g_1, a0g_2, a0g_3, a0g_4, a0g_5, a0g_6, a0g_7, a0g_8, a0g_9, a0g_10, Value.int na0_11, a0g_12, a0g_13, a0g_14, a0g_15, a0g_16, Value.ref a0_17, a0g_18, Value.ref a0_19, a0g_20, Value.int na0_21, a0g_22, a0g_23, a0g_24, a0g_25, a0g_26, a0g_27, a0g_28, a0g_29, a0g_30, a0g_31, a0g_32, a0g_33, a0g_34, a0g_35, a0g_36, a0g_37, a0g_38, a0g_39])), (a0_19, .inl (ka0_19, 368, .inl (fa0_19))), (a0_17, .inl (ka0_17, 23, .inl (nfa0_17)))] [(ka0_19, .int), (ka0_17, .int)] t) A) := by
  refine zh (cc := cX8_undo) (maxL := 1) (ret := (some .boolean)) zn_RX8 rfl (Nat.le_of_ble_eq_true rfl) (fun p e s m below meth c A ls hx hb hml hr hts (hown : s.vm.findClass RX8 = some m.cls) hlocks hA hS hP hK hD hE (hl : lv_has ls 1 [(0, .ref a0)]) => ?_)
  generalize hFX : Ff_X8_undo a0_21.toInt (fl_A fa0_19) (fl_A fa0_17) = FX at ⊢
  have hF0 := hFX.symm.trans (Ff_X8_undo.eq_1 a0_21.toInt (fl_A fa0_19) (fl_A fa0_17))
  refine lv_aload_n hx hb dX8_undo_0 rfl (lv_at hl 0 rfl) ?_
  refine va_callv (va_runV (As := []) (rest := []) ⟨hx, hb, hml, hown, hts⟩ (f_X8_good l dC dI s.heap.size a0 a0_0 a0g_1 a0g_2 a0g_3 a0g_4 a0g_5 a0g_6 a0g_7 a0g_8 a0g_9 a0g_10 a0g_12 a0g_13 a0g_14 a0g_15 a0g_16 (Value.ref a0_17) a0g_18 (Value.ref a0_19) a0g_20 (Value.int a0_21) a0g_22 a0g_23 a0g_24 a0g_25 a0g_26 a0g_27 a0g_28 a0g_29 a0g_30 a0g_31 a0g_32 a0g_33 a0g_34 a0g_35 a0g_36 a0g_37 a0g_38 a0g_39 a0_11 ) (cwV 0 hts gX8_undo_X8_good rfl rfl rfl zd_X8_good ⟨Nat.le_of_ble_eq_true rfl, Nat.le_of_ble_eq_true rfl⟩) ⟨ax_blind (fun _ _ _ _ _ => trivial), zr_8 (zp_K hK) (zp_P1 hP) (q0 := 0) rfl, ax_pre (zp_P1 hP) (zp_K hK) (zp_D1 hD) (fun _ _ => trivial)⟩ rfl rfl hl.1 rfl (lv_room (Nat.le_of_ble_eq_true rfl)) dX8_undo_1 ⟨Nat.le_of_ble_eq_true rfl, Nat.le_of_ble_eq_true rfl⟩) hS (fun q _ h => zp_F1 hD hS hA q h) (zp_F1 hD hS hA) (fun u t H locs ht hvm hw => zx_2 (fun v1na0_0 v1na0_11 => zy_1 (fun hraw1_0 hB hz1 hk1 hS1 => zo1 hB ht hP hD hk1 (zp_F1 hD hS hA) hS1 (fun hP hK1 hD hS => ?_))))
  have hc1 : Ff_X8_good = (v1na0_0.toInt, v1na0_11.toInt) := hraw1_0
  have hF0 := hF0.trans (fl_c2_eq hc1)
  refine lv_aload_n hx hb dX8_undo_4 rfl (lv_at hl 0 rfl) ?_
  refine va_get (D := (dC, dI)) (ci := 8) (v := .int a0_21) (C := RX8) (T := TX8) (N := 40) hx hb hts zi_X8_undo_8 hown hK hP 0 rfl rfl 21 (by decide) (hts (.fieldLink RX8 176 "WaxTurnsModel" "undos" "I") (List.mem_cons_of_mem _ (List.mem_append_left _ (List.mem_of_getElem? (i := 0) rfl)))) (fun _ h9 => h9) rfl dX8_undo_5 ?_
  refine lv_if_ne (tgt := 18) hx hb dX8_undo_8 (by decide) (fun c8 => ?_) (fun c8 => ?_)
  · have gc8 := ai_ne c8
    have l8t_a0_21 : (1 : Int) ≤ a0_21.toInt := (by first | exact zg_l ba0_21_l gc8 (by decide) (by decide) | (have h1 := ba0_21_l; have h2 : (0 : Int32).toInt = 0 := (by decide); rw [h2] at gc8; omega))
    have hF0 := hF0.trans (if_neg (show ¬ (a0_21.toInt = 0) from  gc8))
    refine lv_aload_n hx hb dX8_undo_18 rfl (lv_at hl 0 rfl) ?_
    refine lv_dup hx hb dX8_undo_19 rfl ?_
    refine va_get (D := (dC, dI)) (ci := 8) (v := .int a0_21) (C := RX8) (T := TX8) (N := 40) hx hb hts zi_X8_undo_8 hown hK hP 0 rfl rfl 21 (by decide) (hts (.fieldLink RX8 176 "WaxTurnsModel" "undos" "I") (List.mem_cons_of_mem _ (List.mem_append_left _ (List.mem_of_getElem? (i := 0) rfl)))) (fun _ h9 => h9) rfl dX8_undo_20 ?_
    refine lv_iconst (v := 1) hx hb dX8_undo_23 zk_iconst_1 ?_
    refine lv_isub hx hb dX8_undo_24 ?_
    refine lv_topi (fun x24 ex24 => ?_)
    have qx24 : x24.toInt = a0_21.toInt - (1 : Int32).toInt := ai_sub ex24 ⟨l8t_a0_21, ba0_21_u⟩ ⟨zq1, zq0⟩ (by decide) (by decide)
    have bx24 : (0 : Int) ≤ x24.toInt ∧ x24.toInt ≤ 15 := ⟨by rw [qx24]; exact Int.sub_le_sub l8t_a0_21 zq0, by rw [qx24]; exact Int.sub_le_sub ba0_21_u zq1⟩
    have wx24 : x24.toInt = a0_21.toInt - 1 := qx24
    have hF0 := hF0.trans (fl_lt_eq (show x24.toInt = a0_21.toInt - 1 from qx24))
    refine va_put (D := (dC, dI)) (ci := 8) (v := .int x24) (ty := .int) (C := RX8) (T := TX8) (N := 40) hx hb hts zi_X8_undo_8 tyX8 tyX8_ok nmX8 hown hK hP hD hS 0 rfl rfl 21 (by decide) (hts (.fieldLink RX8 176 "WaxTurnsModel" "undos" "I") (List.mem_cons_of_mem _ (List.mem_append_left _ (List.mem_of_getElem? (i := 0) rfl)))) (fun _ h9 => h9) rfl (tyX8_ok 21 (by decide)) rfl rfl (Nat.le_of_ble_eq_true rfl) dX8_undo_25 (fun H locs hP hD hS => ?_)
    refine zs_0 (y := (a0, .inr (8, [Value.int v1na0_0, a0g_1, a0g_2, a0g_3, a0g_4, a0g_5, a0g_6, a0g_7, a0g_8, a0g_9, a0g_10, Value.int v1na0_11, a0g_12, a0g_13, a0g_14, a0g_15, a0g_16, Value.ref a0_17, a0g_18, Value.ref a0_19, a0g_20, Value.int x24, a0g_22, a0g_23, a0g_24, a0g_25, a0g_26, a0g_27, a0g_28, a0g_29, a0g_30, a0g_31, a0g_32, a0g_33, a0g_34, a0g_35, a0g_36, a0g_37, a0g_38, a0g_39]))) hP hD rfl (fun hP hD => ?_)
    refine lv_aload_n hx hb dX8_undo_28 rfl (lv_at hl 0 rfl) ?_
    refine va_get (D := (dC, dI)) (ci := 8) (v := .ref a0_19) (C := RX8) (T := TX8) (N := 40) hx hb hts zi_X8_undo_8 hown hK hP 0 rfl rfl 19 (by decide) (hts (.fieldLink RX8 32 "WaxTurnsModel" "undone" "[I") (List.mem_cons_of_mem _ (List.mem_append_left _ (List.mem_of_getElem? (i := 1) rfl)))) (fun _ h9 => h9) rfl dX8_undo_29 ?_
    refine lv_bipush (v := 23) hx hb dX8_undo_32 zk_bipush_23 ?_
    refine lv_aload_n hx hb dX8_undo_34 rfl (lv_at hl 0 rfl) ?_
    refine va_get (D := (dC, dI)) (ci := 8) (v := .int x24) (C := RX8) (T := TX8) (N := 40) hx hb hts zi_X8_undo_8 hown hK hP 0 rfl rfl 21 (by decide) (hts (.fieldLink RX8 176 "WaxTurnsModel" "undos" "I") (List.mem_cons_of_mem _ (List.mem_append_left _ (List.mem_of_getElem? (i := 0) rfl)))) (fun _ h9 => h9) rfl dX8_undo_35 ?_
    refine lv_imul hx hb dX8_undo_38 ?_
    refine lv_topi (fun x38 ex38 => ?_)
    have qx38 : x38.toInt = (23 : Int32).toInt * x24.toInt ∧ (0 : Int) ≤ x38.toInt ∧ x38.toInt ≤ 345 := ai_mul ex38 ⟨zq170, zq171⟩ ⟨bx24.1, bx24.2⟩ (by decide) (by decide) zq211
    have wx38 : x38.toInt = 23 * x24.toInt := qx38.1
    have hF0 := hF0.trans (fl_lt_eq (show x38.toInt = 23 * x24.toInt from qx38.1))
    refine lv_aload_n hx hb dX8_undo_39 rfl (lv_at hl 0 rfl) ?_
    refine va_get (D := (dC, dI)) (ci := 8) (v := .ref a0_17) (C := RX8) (T := TX8) (N := 40) hx hb hts zi_X8_undo_8 hown hK hP 0 rfl rfl 17 (by decide) (hts (.fieldLink RX8 26 "WaxTurnsModel" "st" "[I") (List.mem_cons_of_mem _ (List.mem_append_left _ (List.mem_of_getElem? (i := 2) rfl)))) (fun _ h9 => h9) rfl dX8_undo_40 ?_
    refine lv_iconst (v := 0) hx hb dX8_undo_43 zk_iconst_0 ?_
    refine lv_bipush (v := 23) hx hb dX8_undo_44 zk_bipush_23 ?_
    refine zc_cutc (wc := [(a0_19, .inl (ka0_19, 368, .inl (fa0_19))), (a0_17, .inl (ka0_17, 23, .inl (fa0_17)))]) hP hD hS hA [1, 2] (by decide +kernel) rfl (fun hPc hDc hFc hCc => ?_)
    have hKc := hK.sub (tys' := [(ka0_19, .int), (ka0_17, .int)]) [0, 1] rfl
    refine va_callv (va_runS (As := [.ref a0_19, .int x38, .ref a0_17, .int 0, .int 23]) (rest := []) ⟨hx, hb, hml, hown, hts⟩ (c_X8_copy_368_23 l dC dI H.size a0_19 x38 a0_17 0 23 ka0_19 fa0_19 ka0_17 fa0_17 qx38.2.1 qx38.2.2 zq5 zq6 zq170 zq171) (va_cwS 5 hts gX8_undo_X8_copy rfl rfl rfl zd_X8_copy.2 ⟨Nat.le_of_ble_eq_true rfl, Nat.le_of_ble_eq_true rfl⟩) ⟨ax_blind (fun _ _ _ _ _ => trivial), ax_pre hPc hKc hDc (fun _ _ => trivial)⟩ rfl rfl hl.1 rfl (lv_room (Nat.le_of_ble_eq_true rfl)) dX8_undo_46 ⟨Nat.le_of_ble_eq_true rfl, Nat.le_of_ble_eq_true rfl⟩) hS (fun q _ h => hFc q h) hFc (fun u t H locs ht hvm hw => zx_1 (fun v46nfa3 => zy_1 (fun hraw46_0 hB hz1 hk1 hS1 => zo hB ht hS1 (fun hP1 hK1 hD1 hS => ?_))))
    refine zc_backc (w := [(a0, .inr (8, [Value.int v1na0_0, a0g_1, a0g_2, a0g_3, a0g_4, a0g_5, a0g_6, a0g_7, a0g_8, a0g_9, a0g_10, Value.int v1na0_11, a0g_12, a0g_13, a0g_14, a0g_15, a0g_16, Value.ref a0_17, a0g_18, Value.ref a0_19, a0g_20, Value.int x24, a0g_22, a0g_23, a0g_24, a0g_25, a0g_26, a0g_27, a0g_28, a0g_29, a0g_30, a0g_31, a0g_32, a0g_33, a0g_34, a0g_35, a0g_36, a0g_37, a0g_38, a0g_39])), (a0_19, .inl (ka0_19, 368, .inl (fa0_19))), (a0_17, .inl (ka0_17, 23, .inl (v46nfa3)))]) hP hD hCc hk1 hFc hP1 hD1 [.inl 0, .inr 0, .inr 1] (by decide +kernel) rfl (fun hP hD => ?_)
    have hc46 : va_cpy (fl_A fa0_19) (fl_A fa0_17) (x38.toInt.toNat) (0) 23 = (fl_A v46nfa3) := (fl_cpy hraw46_0).symm
    have hF0 := hF0.trans (fl_lt_eq hc46.symm)
    have bv46nfa3 : ((∀ k : Nat, 0 ≤ k → k ≤ 8 → (0 : Int) ≤ (v46nfa3 k).toInt ∧ (v46nfa3 k).toInt ≤ 8) ∧ (∀ k : Nat, 19 ≤ k → k ≤ 19 → (0 : Int) ≤ (v46nfa3 k).toInt ∧ (v46nfa3 k).toInt ≤ 8) ∧ (∀ k : Nat, 20 ≤ k → k ≤ 20 → (0 : Int) ≤ (v46nfa3 k).toInt ∧ (v46nfa3 k).toInt ≤ 19)) := cp_MS hraw46_0 (md_ix (u := x24) wx38 bx24.1) (by decide) bfa0_19
    refine lv_iconst (v := 1) hx hb dX8_undo_49 zk_iconst_1 ?_
    have hFe : FX = (1, v1na0_0.toInt, v1na0_11.toInt, x24.toInt, (fl_A v46nfa3)) := hF0
    exact W.zret (v := 1) hx hb hr rfl (fun t ht hW => ⟨⟨1, (), rfl, ⟨(Or.inl (rfl)), (congrArg Prod.fst hFe).symm⟩, v1na0_0, v1na0_11, x24, v46nfa3, ⟨bx24.1, Int.le_trans bx24.2 (by decide)⟩, bv46nfa3, (congrArg Prod.snd hFe), by rw [ht]; exact hP, va_K.moved hW.alike hK, hD⟩, hS.F ht⟩) hS.2.2 dX8_undo_50
  · have gc8 := ai_eq c8
    have u8f_a0_21 : a0_21.toInt ≤ (0 : Int) := Int.le_trans (Int.le_of_eq gc8) zq6
    have l8f_a0_21 : (0 : Int) ≤ a0_21.toInt := ba0_21_l
    have hF0 := hF0.trans (if_pos (show a0_21.toInt = 0 from gc8))
    refine lv_aload_n hx hb dX8_undo_11 rfl (lv_at hl 0 rfl) ?_
    refine lv_bipush (v := 6) hx hb dX8_undo_12 zk_bipush_6 ?_
    refine va_calli (va_runV (As := [.int 6]) (rest := []) ⟨hx, hb, hml, hown, hts⟩ (f_X8_isNot l dC dI H.size a0 6 (Value.int v1na0_0) a0g_1 a0g_2 a0g_3 a0g_4 a0g_5 a0g_6 a0g_7 a0g_8 a0g_9 a0g_10 a0g_12 a0g_13 a0g_14 a0g_15 a0g_16 (Value.ref a0_17) a0g_18 (Value.ref a0_19) a0g_20 (Value.int a0_21) a0g_22 a0g_23 a0g_24 a0g_25 a0g_26 a0g_27 a0g_28 a0g_29 a0g_30 a0g_31 a0g_32 a0g_33 a0g_34 a0g_35 a0g_36 a0g_37 a0g_38 a0g_39 v1na0_11 ) (cwV 1 hts gX8_undo_X8_isNot rfl rfl rfl zd_X8_isNot ⟨Nat.le_of_ble_eq_true rfl, Nat.le_of_ble_eq_true rfl⟩) ⟨ax_blind (fun _ _ _ _ _ => trivial), zr_8 (zp_K hK) (zp_P1 hP) (q0 := 0) rfl, ax_pre (zp_P1 hP) (zp_K hK) (zp_D1 hD) (fun _ _ => trivial)⟩ rfl rfl hl.1 rfl (lv_room (Nat.le_of_ble_eq_true rfl)) dX8_undo_14 ⟨Nat.le_of_ble_eq_true rfl, Nat.le_of_ble_eq_true rfl⟩) hS (fun q _ h => zp_F1 hD hS hA q h) (zp_F1 hD hS hA) (fun r14 u t H locs ht hvm hw => zx_1 (fun v14na0_11 => zy_1 (fun hraw14_0 hB hz1 hk1 hS1 => zo1 hB ht hP hD hk1 (zp_F1 hD hS hA) hS1 (fun hP hK1 hD hS => ?_))))
    obtain ⟨hw, hfr14⟩ := hw
    rw [show (6 : Int32).toInt = 6 from by decide] at hfr14 hraw14_0
    have hc14 : Ff_X8_isNot 6 = (r14.toInt, v14na0_11.toInt) := Prod.ext hfr14.symm hraw14_0
    have hF0 := hF0.trans (fl_c2_eq hc14)
    have hw : r14 = 0 := hw
    have hw := hw.symm
    subst hw
    have hFe : FX = (0, v1na0_0.toInt, v14na0_11.toInt, a0_21.toInt, (fl_A fa0_17)) := hF0
    exact W.zret (v := 0) hx hb hr rfl (fun t ht hW => ⟨⟨0, (), rfl, ⟨(Or.inr (rfl)), (congrArg Prod.fst hFe).symm⟩, v1na0_0, v14na0_11, a0_21, fa0_17, ⟨l8f_a0_21, Int.le_trans u8f_a0_21 (by decide)⟩, bfa0_17, (congrArg Prod.snd hFe), by rw [ht]; exact hP, va_K.moved hW.alike hK, hD⟩, hS.F ht⟩) hS.2.2 dX8_undo_17
end P314_13_f
section P314_14_f
set_option maxHeartbeats 4000000 in
set_option maxRecDepth 100000 in
theorem f_X8_image (l : Launch) (dC : Nat → ClassId) (dI : Nat → Nat → Nat) (sz : Nat) (a0 : Nat) (a0_0 : Int32) (a0g_1 a0g_2 a0g_3 a0g_4 a0g_5 a0g_6 a0g_7 a0g_8 a0g_9 a0g_10 a0g_12 a0g_13 a0g_15 a0g_16 a0g_18 a0g_19 a0g_21 a0g_23 a0g_24 a0g_25 a0g_26 a0g_27 a0g_28 a0g_29 a0g_30 a0g_31 a0g_32 a0g_33 a0g_34 a0g_35 a0g_36 a0g_37 a0g_38 a0g_39 : Value) (a0_11 : Int32) (a0_14 : Int32) (a0_17 : Nat) (a0_20 : Nat) (a0_22 : Int32) (ka0_17 : ClassId) (fa0_17 : Nat → Int32) (ka0_20 : ClassId) (fa0_20 : Nat → Int32) (ba0_14_l : (1 : Int) ≤ a0_14.toInt) (ba0_14_u : a0_14.toInt ≤ (1 : Int)) (ba0_22_l : (0 : Int) ≤ a0_22.toInt) (ba0_22_u : a0_22.toInt ≤ (3 : Int)) (bfa0_17 : ((∀ k : Nat, 0 ≤ k → k ≤ 8 → (0 : Int) ≤ (fa0_17 k).toInt ∧ (fa0_17 k).toInt ≤ 8) ∧ (∀ k : Nat, 19 ≤ k → k ≤ 19 → (0 : Int) ≤ (fa0_17 k).toInt ∧ (fa0_17 k).toInt ≤ 8) ∧ (∀ k : Nat, 20 ≤ k → k ≤ 20 → (0 : Int) ≤ (fa0_17 k).toInt ∧ (fa0_17 k).toInt ≤ 19))) (bfa0_20 : (md_S fa0_20)) : zm l yX8_image wsX8_image ({ frames := 1, cells := 0, slots := 0, locals := 25 }) [.ref a0] dC dI sz [(a0, .inr (8, [Value.int a0_0, a0g_1, a0g_2, a0g_3, a0g_4, a0g_5, a0g_6, a0g_7, a0g_8, a0g_9, a0g_10, Value.int a0_11, a0g_12, a0g_13, Value.int a0_14, a0g_15, a0g_16, Value.ref a0_17, a0g_18, a0g_19, Value.ref a0_20, a0g_21, Value.int a0_22, a0g_23, a0g_24, a0g_25, a0g_26, a0g_27, a0g_28, a0g_29, a0g_30, a0g_31, a0g_32, a0g_33, a0g_34, a0g_35, a0g_36, a0g_37, a0g_38, a0g_39])), (a0_17, .inl (ka0_17, 23, .inl (fa0_17))), (a0_20, .inl (ka0_20, 69, .inl (fa0_20)))] [(ka0_17, .int), (ka0_20, .int)] (fun A _ => True) (fun A => va_Qi (fun (r : Int32) (_ : Unit) => ((-1 : Int) ≤ r.toInt ∧ r.toInt ≤ (2 : Int)) ∧ r.toInt = (Ff_X8_image a0_14.toInt a0_22.toInt (fl_A fa0_17) (fl_A fa0_20)).1) (fun (_ : Unit) (t : State) => ∃ na0_0 : Int32, ∃ na0_11 : Int32, ∃ na0_22 : Int32, ∃ nfa0_20 : Nat → Int32, ((0 : Int) ≤ na0_22.toInt ∧ na0_22.toInt ≤ 3) ∧ (md_S nfa0_20) ∧ ((Ff_X8_image a0_14.toInt a0_22.toInt (fl_A fa0_17) (fl_A fa0_20)).2 = (na0_0.toInt, na0_11.toInt, na0_22.toInt, (fl_A nfa0_20))) ∧ ax_B dC dI A [(a0, .inr (8, [Value.int na0_0, a0g_1, a0g_2, a0g_3, a0g_4, a0g_5, a0g_6, a0g_7, a0g_8, a0g_9, a0g_10, Value.int na0_11, a0g_12, a0g_13, Value.int a0_14, a0g_15, a0g_16, Value.ref a0_17, a0g_18, a0g_19, Value.ref a0_20, a0g_21, Value.int na0_22, a0g_23, a0g_24, a0g_25, a0g_26, a0g_27, a0g_28, a0g_29, a0g_30, a0g_31, a0g_32, a0g_33, a0g_34, a0g_35, a0g_36, a0g_37, a0g_38, a0g_39])), (a0_17, .inl (ka0_17, 23, .inl (fa0_17))), (a0_20, .inl (ka0_20, 69, .inl (nfa0_20)))] [(ka0_17, .int), (ka0_20, .int)] t) A) := by
  refine zh (cc := cX8_image) (maxL := 1) (ret := (some .int)) zn_RX8 rfl (Nat.le_of_ble_eq_true rfl) (fun p e s m below meth c A ls hx hb hml hr hts (hown : s.vm.findClass RX8 = some m.cls) hlocks hA hS hP hK hD hE (hl : lv_has ls 1 [(0, .ref a0)]) => ?_)
  generalize hFX : Ff_X8_image a0_14.toInt a0_22.toInt (fl_A fa0_17) (fl_A fa0_20) = FX at ⊢
  have hF0 := hFX.symm.trans (Ff_X8_image.eq_1 a0_14.toInt a0_22.toInt (fl_A fa0_17) (fl_A fa0_20))
  refine lv_aload_n hx hb dX8_image_0 rfl (lv_at hl 0 rfl) ?_
  refine va_callv (va_runV (As := []) (rest := []) ⟨hx, hb, hml, hown, hts⟩ (f_X8_good l dC dI s.heap.size a0 a0_0 a0g_1 a0g_2 a0g_3 a0g_4 a0g_5 a0g_6 a0g_7 a0g_8 a0g_9 a0g_10 a0g_12 a0g_13 (Value.int a0_14) a0g_15 a0g_16 (Value.ref a0_17) a0g_18 a0g_19 (Value.ref a0_20) a0g_21 (Value.int a0_22) a0g_23 a0g_24 a0g_25 a0g_26 a0g_27 a0g_28 a0g_29 a0g_30 a0g_31 a0g_32 a0g_33 a0g_34 a0g_35 a0g_36 a0g_37 a0g_38 a0g_39 a0_11 ) (cwV 0 hts gX8_image_X8_good rfl rfl rfl zd_X8_good ⟨Nat.le_of_ble_eq_true rfl, Nat.le_of_ble_eq_true rfl⟩) ⟨ax_blind (fun _ _ _ _ _ => trivial), zr_8 (zp_K hK) (zp_P1 hP) (q0 := 0) rfl, ax_pre (zp_P1 hP) (zp_K hK) (zp_D1 hD) (fun _ _ => trivial)⟩ rfl rfl hl.1 rfl (lv_room (Nat.le_of_ble_eq_true rfl)) dX8_image_1 ⟨Nat.le_of_ble_eq_true rfl, Nat.le_of_ble_eq_true rfl⟩) hS (fun q _ h => zp_F1 hD hS hA q h) (zp_F1 hD hS hA) (fun u t H locs ht hvm hw => zx_2 (fun v1na0_0 v1na0_11 => zy_1 (fun hraw1_0 hB hz1 hk1 hS1 => zo1 hB ht hP hD hk1 (zp_F1 hD hS hA) hS1 (fun hP hK1 hD hS => ?_))))
  have hc1 : Ff_X8_good = (v1na0_0.toInt, v1na0_11.toInt) := hraw1_0
  have hF0 := hF0.trans (fl_c2_eq hc1)
  refine lv_aload_n hx hb dX8_image_4 rfl (lv_at hl 0 rfl) ?_
  refine va_get (D := (dC, dI)) (ci := 8) (v := .int a0_14) (C := RX8) (T := TX8) (N := 40) hx hb hts zi_X8_image_8 hown hK hP 0 rfl rfl 14 (by decide) (hts (.fieldLink RX8 173 "WaxTurnsModel" "hasGallery" "Z") (List.mem_cons_of_mem _ (List.mem_append_left _ (List.mem_of_getElem? (i := 0) rfl)))) (fun _ h9 => h9) rfl dX8_image_5 ?_
  refine lv_if_ne (tgt := 17) hx hb dX8_image_8 (by decide) (fun c8 => ?_) (fun c8 => ?_)
  · have gc8 := ai_ne c8
    have hF0 := hF0.trans (if_neg (show ¬ (a0_14.toInt = 0) from  gc8))
    refine lv_aload_n hx hb dX8_image_17 rfl (lv_at hl 0 rfl) ?_
    refine va_get (D := (dC, dI)) (ci := 8) (v := .int a0_22) (C := RX8) (T := TX8) (N := 40) hx hb hts zi_X8_image_8 hown hK hP 0 rfl rfl 22 (by decide) (hts (.fieldLink RX8 179 "WaxTurnsModel" "images" "I") (List.mem_cons_of_mem _ (List.mem_append_left _ (List.mem_of_getElem? (i := 1) rfl)))) (fun _ h9 => h9) rfl dX8_image_18 ?_
    refine lv_iconst (v := 3) hx hb dX8_image_21 zk_iconst_3 ?_
    refine lv_icmp_ne (tgt := 31) hx hb dX8_image_22 (by decide) (fun c22 => ?_) (fun c22 => ?_)
    · have gc22 := ai_ne c22
      have u22t_a0_22 : a0_22.toInt ≤ (2 : Int) := (by first | exact zg_u ba0_22_u gc22 (by decide) (by decide) | (have h1 := ba0_22_u; have h2 : (3 : Int32).toInt = 3 := (by decide); rw [h2] at gc22; omega))
      have hF0 := hF0.trans (if_neg (show ¬ (a0_22.toInt = 3) from  gc22))
      refine lv_aload_n hx hb dX8_image_31 rfl (lv_at hl 0 rfl) ?_
      refine va_get (D := (dC, dI)) (ci := 8) (v := .ref a0_17) (C := RX8) (T := TX8) (N := 40) hx hb hts zi_X8_image_8 hown hK hP 0 rfl rfl 17 (by decide) (hts (.fieldLink RX8 26 "WaxTurnsModel" "st" "[I") (List.mem_cons_of_mem _ (List.mem_append_left _ (List.mem_of_getElem? (i := 2) rfl)))) (fun _ h9 => h9) rfl dX8_image_32 ?_
      refine lv_iconst (v := 0) hx hb dX8_image_35 zk_iconst_0 ?_
      refine lv_aload_n hx hb dX8_image_36 rfl (lv_at hl 0 rfl) ?_
      refine va_get (D := (dC, dI)) (ci := 8) (v := .ref a0_20) (C := RX8) (T := TX8) (N := 40) hx hb hts zi_X8_image_8 hown hK hP 0 rfl rfl 20 (by decide) (hts (.fieldLink RX8 35 "WaxTurnsModel" "kept" "[I") (List.mem_cons_of_mem _ (List.mem_append_left _ (List.mem_of_getElem? (i := 3) rfl)))) (fun _ h9 => h9) rfl dX8_image_37 ?_
      refine lv_bipush (v := 23) hx hb dX8_image_40 zk_bipush_23 ?_
      refine lv_aload_n hx hb dX8_image_42 rfl (lv_at hl 0 rfl) ?_
      refine va_get (D := (dC, dI)) (ci := 8) (v := .int a0_22) (C := RX8) (T := TX8) (N := 40) hx hb hts zi_X8_image_8 hown hK hP 0 rfl rfl 22 (by decide) (hts (.fieldLink RX8 179 "WaxTurnsModel" "images" "I") (List.mem_cons_of_mem _ (List.mem_append_left _ (List.mem_of_getElem? (i := 1) rfl)))) (fun _ h9 => h9) rfl dX8_image_43 ?_
      refine lv_imul hx hb dX8_image_46 ?_
      refine lv_topi (fun x46 ex46 => ?_)
      have qx46 : x46.toInt = (23 : Int32).toInt * a0_22.toInt ∧ (0 : Int) ≤ x46.toInt ∧ x46.toInt ≤ 46 := ai_mul ex46 ⟨zq170, zq171⟩ ⟨ba0_22_l, u22t_a0_22⟩ (by decide) (by decide) zq216
      have wx46 : x46.toInt = 23 * a0_22.toInt := qx46.1
      have hF0 := hF0.trans (fl_lt_eq (show x46.toInt = 23 * a0_22.toInt from qx46.1))
      refine lv_bipush (v := 23) hx hb dX8_image_47 zk_bipush_23 ?_
      refine zc_cutc (wc := [(a0_17, .inl (ka0_17, 23, .inl (fa0_17))), (a0_20, .inl (ka0_20, 69, .inl (fa0_20)))]) hP hD hS hA [1, 2] (by decide +kernel) rfl (fun hPc hDc hFc hCc => ?_)
      have hKc := hK.sub (tys' := [(ka0_17, .int), (ka0_20, .int)]) [0, 1] rfl
      refine va_callv (va_runS (As := [.ref a0_17, .int 0, .ref a0_20, .int x46, .int 23]) (rest := []) ⟨hx, hb, hml, hown, hts⟩ (c_X8_copy_23_69 l dC dI H.size a0_17 0 a0_20 x46 23 ka0_17 fa0_17 ka0_20 fa0_20 zq5 zq6 qx46.2.1 qx46.2.2 zq170 zq171) (va_cwS 5 hts gX8_image_X8_copy rfl rfl rfl zd_X8_copy.2 ⟨Nat.le_of_ble_eq_true rfl, Nat.le_of_ble_eq_true rfl⟩) ⟨ax_blind (fun _ _ _ _ _ => trivial), ax_pre hPc hKc hDc (fun _ _ => trivial)⟩ rfl rfl hl.1 rfl (lv_room (Nat.le_of_ble_eq_true rfl)) dX8_image_49 ⟨Nat.le_of_ble_eq_true rfl, Nat.le_of_ble_eq_true rfl⟩) hS (fun q _ h => hFc q h) hFc (fun u t H locs ht hvm hw => zx_1 (fun v49nfa3 => zy_1 (fun hraw49_0 hB hz1 hk1 hS1 => zo hB ht hS1 (fun hP1 hK1 hD1 hS => ?_))))
      refine zc_backc (w := [(a0, .inr (8, [Value.int v1na0_0, a0g_1, a0g_2, a0g_3, a0g_4, a0g_5, a0g_6, a0g_7, a0g_8, a0g_9, a0g_10, Value.int v1na0_11, a0g_12, a0g_13, Value.int a0_14, a0g_15, a0g_16, Value.ref a0_17, a0g_18, a0g_19, Value.ref a0_20, a0g_21, Value.int a0_22, a0g_23, a0g_24, a0g_25, a0g_26, a0g_27, a0g_28, a0g_29, a0g_30, a0g_31, a0g_32, a0g_33, a0g_34, a0g_35, a0g_36, a0g_37, a0g_38, a0g_39])), (a0_17, .inl (ka0_17, 23, .inl (fa0_17))), (a0_20, .inl (ka0_20, 69, .inl (v49nfa3)))]) hP hD hCc hk1 hFc hP1 hD1 [.inl 0, .inr 0, .inr 1] (by decide +kernel) rfl (fun hP hD => ?_)
      have hc49 : va_cpy (fl_A fa0_17) (fl_A fa0_20) (0) (x46.toInt.toNat) 23 = (fl_A v49nfa3) := (fl_cpy hraw49_0).symm
      have hF0 := hF0.trans (fl_lt_eq hc49.symm)
      have bv49nfa3 : (md_S v49nfa3) := cp_SM hraw49_0 (by decide) (md_ix (u := a0_22) wx46 ba0_22_l) bfa0_17 bfa0_20
      refine lv_aload_n hx hb dX8_image_52 rfl (lv_at hl 0 rfl) ?_
      refine lv_dup hx hb dX8_image_53 rfl ?_
      refine va_get (D := (dC, dI)) (ci := 8) (v := .int a0_22) (C := RX8) (T := TX8) (N := 40) hx hb hts zi_X8_image_8 hown hK hP 0 rfl rfl 22 (by decide) (hts (.fieldLink RX8 179 "WaxTurnsModel" "images" "I") (List.mem_cons_of_mem _ (List.mem_append_left _ (List.mem_of_getElem? (i := 1) rfl)))) (fun _ h9 => h9) rfl dX8_image_54 ?_
      refine lv_iconst (v := 1) hx hb dX8_image_57 zk_iconst_1 ?_
      refine lv_iadd hx hb dX8_image_58 ?_
      refine lv_topi (fun x58 ex58 => ?_)
      have qx58 : x58.toInt = a0_22.toInt + (1 : Int32).toInt := ai_add ex58 ⟨ba0_22_l, u22t_a0_22⟩ ⟨zq1, zq0⟩ (by decide) (by decide)
      have bx58 : (1 : Int) ≤ x58.toInt ∧ x58.toInt ≤ 3 := ⟨by rw [qx58]; exact Int.add_le_add ba0_22_l zq1, by rw [qx58]; exact Int.add_le_add u22t_a0_22 zq0⟩
      have wx58 : x58.toInt = a0_22.toInt + 1 := qx58
      have hF0 := hF0.trans (fl_lt_eq (show x58.toInt = a0_22.toInt + 1 from qx58))
      refine va_put (D := (dC, dI)) (ci := 8) (v := .int x58) (ty := .int) (C := RX8) (T := TX8) (N := 40) hx hb hts zi_X8_image_8 tyX8 tyX8_ok nmX8 hown hK hP hD hS 0 rfl rfl 22 (by decide) (hts (.fieldLink RX8 179 "WaxTurnsModel" "images" "I") (List.mem_cons_of_mem _ (List.mem_append_left _ (List.mem_of_getElem? (i := 1) rfl)))) (fun _ h9 => h9) rfl (tyX8_ok 22 (by decide)) rfl rfl (Nat.le_of_ble_eq_true rfl) dX8_image_59 (fun H locs hP hD hS => ?_)
      refine zs_0 (y := (a0, .inr (8, [Value.int v1na0_0, a0g_1, a0g_2, a0g_3, a0g_4, a0g_5, a0g_6, a0g_7, a0g_8, a0g_9, a0g_10, Value.int v1na0_11, a0g_12, a0g_13, Value.int a0_14, a0g_15, a0g_16, Value.ref a0_17, a0g_18, a0g_19, Value.ref a0_20, a0g_21, Value.int x58, a0g_23, a0g_24, a0g_25, a0g_26, a0g_27, a0g_28, a0g_29, a0g_30, a0g_31, a0g_32, a0g_33, a0g_34, a0g_35, a0g_36, a0g_37, a0g_38, a0g_39]))) hP hD rfl (fun hP hD => ?_)
      refine lv_aload_n hx hb dX8_image_62 rfl (lv_at hl 0 rfl) ?_
      refine va_get (D := (dC, dI)) (ci := 8) (v := .int x58) (C := RX8) (T := TX8) (N := 40) hx hb hts zi_X8_image_8 hown hK hP 0 rfl rfl 22 (by decide) (hts (.fieldLink RX8 179 "WaxTurnsModel" "images" "I") (List.mem_cons_of_mem _ (List.mem_append_left _ (List.mem_of_getElem? (i := 1) rfl)))) (fun _ h9 => h9) rfl dX8_image_63 ?_
      refine lv_iconst (v := 1) hx hb dX8_image_66 zk_iconst_1 ?_
      refine lv_isub hx hb dX8_image_67 ?_
      refine lv_topi (fun x67 ex67 => ?_)
      have qx67 : x67.toInt = x58.toInt - (1 : Int32).toInt := ai_sub ex67 ⟨bx58.1, bx58.2⟩ ⟨zq1, zq0⟩ (by decide) (by decide)
      have bx67 : (0 : Int) ≤ x67.toInt ∧ x67.toInt ≤ 2 := ⟨by rw [qx67]; exact Int.sub_le_sub bx58.1 zq0, by rw [qx67]; exact Int.sub_le_sub bx58.2 zq1⟩
      have wx67 : x67.toInt = x58.toInt - 1 := qx67
      have hF0 := hF0.trans (fl_lt_eq (show x67.toInt = x58.toInt - 1 from qx67))
      have hFe : FX = (x67.toInt, v1na0_0.toInt, v1na0_11.toInt, x58.toInt, (fl_A v49nfa3)) := hF0
      exact W.iret (v := x67) hx hb hr (fun t ht hW => ⟨⟨x67, (), rfl, ⟨⟨(Int.le_trans zq69 bx67.1), bx67.2⟩, (congrArg Prod.fst hFe).symm⟩, v1na0_0, v1na0_11, x58, v49nfa3, ⟨Int.le_trans (by decide) bx58.1, bx58.2⟩, bv49nfa3, (congrArg Prod.snd hFe), by rw [ht]; exact hP, va_K.moved hW.alike hK, hD⟩, hS.F ht⟩) hS.2.2 dX8_image_68
    · have gc22 := ai_eq c22
      have u22f_a0_22 : a0_22.toInt ≤ (3 : Int) := ba0_22_u
      have l22f_a0_22 : (3 : Int) ≤ a0_22.toInt := Int.le_trans zq8 (Int.le_of_eq gc22.symm)
      have hF0 := hF0.trans (if_pos (show a0_22.toInt = 3 from gc22))
      refine lv_aload_n hx hb dX8_image_25 rfl (lv_at hl 0 rfl) ?_
      refine lv_iconst (v := 3) hx hb dX8_image_26 zk_iconst_3 ?_
      refine va_calli (va_runV (As := [.int 3]) (rest := []) ⟨hx, hb, hml, hown, hts⟩ (f_X8_no l dC dI H.size a0 3 (Value.int v1na0_0) a0g_1 a0g_2 a0g_3 a0g_4 a0g_5 a0g_6 a0g_7 a0g_8 a0g_9 a0g_10 a0g_12 a0g_13 (Value.int a0_14) a0g_15 a0g_16 (Value.ref a0_17) a0g_18 a0g_19 (Value.ref a0_20) a0g_21 (Value.int a0_22) a0g_23 a0g_24 a0g_25 a0g_26 a0g_27 a0g_28 a0g_29 a0g_30 a0g_31 a0g_32 a0g_33 a0g_34 a0g_35 a0g_36 a0g_37 a0g_38 a0g_39 v1na0_11 ) (cwV 1 hts gX8_image_X8_no rfl rfl rfl zd_X8_no ⟨Nat.le_of_ble_eq_true rfl, Nat.le_of_ble_eq_true rfl⟩) ⟨ax_blind (fun _ _ _ _ _ => trivial), zr_8 (zp_K hK) (zp_P1 hP) (q0 := 0) rfl, ax_pre (zp_P1 hP) (zp_K hK) (zp_D1 hD) (fun _ _ => trivial)⟩ rfl rfl hl.1 rfl (lv_room (Nat.le_of_ble_eq_true rfl)) dX8_image_27 ⟨Nat.le_of_ble_eq_true rfl, Nat.le_of_ble_eq_true rfl⟩) hS (fun q _ h => zp_F1 hD hS hA q h) (zp_F1 hD hS hA) (fun r27 u t H locs ht hvm hw => zx_1 (fun v27na0_11 => zy_1 (fun hraw27_0 hB hz1 hk1 hS1 => zo1 hB ht hP hD hk1 (zp_F1 hD hS hA) hS1 (fun hP hK1 hD hS => ?_))))
      obtain ⟨hw, hfr27⟩ := hw
      rw [show (3 : Int32).toInt = 3 from by decide] at hfr27 hraw27_0
      have hc27 : Ff_X8_no 3 = (r27.toInt, v27na0_11.toInt) := Prod.ext hfr27.symm hraw27_0
      have hF0 := hF0.trans (fl_c2_eq hc27)
      have hw : r27 = (-1) := hw
      have hw := hw.symm
      subst hw
      have hFe : FX = ((-1), v1na0_0.toInt, v27na0_11.toInt, a0_22.toInt, (fl_A fa0_20)) := hF0
      exact W.iret (v := (-1)) hx hb hr (fun t ht hW => ⟨⟨(-1), (), rfl, ⟨⟨zq70, (Int.le_trans zq71 zq217)⟩, (congrArg Prod.fst hFe).symm⟩, v1na0_0, v27na0_11, a0_22, fa0_20, ⟨Int.le_trans (by decide) l22f_a0_22, u22f_a0_22⟩, bfa0_20, (congrArg Prod.snd hFe), by rw [ht]; exact hP, va_K.moved hW.alike hK, hD⟩, hS.F ht⟩) hS.2.2 dX8_image_30
  · have gc8 := ai_eq c8
    have u8f_a0_14 : a0_14.toInt ≤ (0 : Int) := Int.le_trans (Int.le_of_eq gc8) zq6
    have l8f_a0_14 : (1 : Int) ≤ a0_14.toInt := ba0_14_l
    exact absurd (Int.le_trans l8f_a0_14 u8f_a0_14) (by decide)

set_option maxHeartbeats 4000000 in
set_option maxRecDepth 100000 in
theorem f_X8_back (l : Launch) (dC : Nat → ClassId) (dI : Nat → Nat → Nat) (sz : Nat) (a0 : Nat) (a1 : Int32) (a0_0 : Int32) (a0g_1 a0g_2 a0g_3 a0g_4 a0g_5 a0g_6 a0g_7 a0g_8 a0g_9 a0g_10 a0g_12 a0g_13 a0g_14 a0g_15 a0g_16 a0g_18 a0g_19 a0g_23 a0g_24 a0g_25 a0g_26 a0g_27 a0g_28 a0g_29 a0g_30 a0g_31 a0g_32 a0g_33 a0g_34 a0g_35 a0g_36 a0g_37 a0g_38 a0g_39 : Value) (a0_11 : Int32) (a0_17 : Nat) (a0_20 : Nat) (a0_21 : Int32) (a0_22 : Int32) (ka0_20 : ClassId) (fa0_20 : Nat → Int32) (ka0_17 : ClassId) (fa0_17 : Nat → Int32) (ba0_21_l : (0 : Int) ≤ a0_21.toInt) (ba0_21_u : a0_21.toInt ≤ (16 : Int)) (ba0_22_l : (0 : Int) ≤ a0_22.toInt) (ba0_22_u : a0_22.toInt ≤ (3 : Int)) (bfa0_20 : (md_S fa0_20)) (bfa0_17 : ((∀ k : Nat, 0 ≤ k → k ≤ 8 → (0 : Int) ≤ (fa0_17 k).toInt ∧ (fa0_17 k).toInt ≤ 8) ∧ (∀ k : Nat, 19 ≤ k → k ≤ 19 → (0 : Int) ≤ (fa0_17 k).toInt ∧ (fa0_17 k).toInt ≤ 8) ∧ (∀ k : Nat, 20 ≤ k → k ≤ 20 → (0 : Int) ≤ (fa0_17 k).toInt ∧ (fa0_17 k).toInt ≤ 19))) : zm l yX8_back wsX8_back ({ frames := 1, cells := 0, slots := 0, locals := 25 }) [.ref a0, .int a1] dC dI sz [(a0, .inr (8, [Value.int a0_0, a0g_1, a0g_2, a0g_3, a0g_4, a0g_5, a0g_6, a0g_7, a0g_8, a0g_9, a0g_10, Value.int a0_11, a0g_12, a0g_13, a0g_14, a0g_15, a0g_16, Value.ref a0_17, a0g_18, a0g_19, Value.ref a0_20, Value.int a0_21, Value.int a0_22, a0g_23, a0g_24, a0g_25, a0g_26, a0g_27, a0g_28, a0g_29, a0g_30, a0g_31, a0g_32, a0g_33, a0g_34, a0g_35, a0g_36, a0g_37, a0g_38, a0g_39])), (a0_20, .inl (ka0_20, 69, .inl (fa0_20))), (a0_17, .inl (ka0_17, 23, .inl (fa0_17)))] [(ka0_20, .int), (ka0_17, .int)] (fun A _ => True) (fun A => va_Qi (fun (r : Int32) (_ : Unit) => ((r = 1 ∧ (0 : Int) ≤ a1.toInt ∧ a1.toInt ≤ (2 : Int) ∧ (1 : Int) ≤ a0_22.toInt ∧ a0_22.toInt ≤ (3 : Int)) ∨ (r = 0)) ∧ r.toInt = (Ff_X8_back a1.toInt a0_21.toInt a0_22.toInt (fl_A fa0_20) (fl_A fa0_17)).1) (fun (_ : Unit) (t : State) => ∃ na0_0 : Int32, ∃ na0_11 : Int32, ∃ na0_21 : Int32, ∃ nfa0_17 : Nat → Int32, ((0 : Int) ≤ na0_21.toInt ∧ na0_21.toInt ≤ 16) ∧ ((∀ k : Nat, 0 ≤ k → k ≤ 8 → (0 : Int) ≤ (nfa0_17 k).toInt ∧ (nfa0_17 k).toInt ≤ 8) ∧ (∀ k : Nat, 19 ≤ k → k ≤ 19 → (0 : Int) ≤ (nfa0_17 k).toInt ∧ (nfa0_17 k).toInt ≤ 8) ∧ (∀ k : Nat, 20 ≤ k → k ≤ 20 → (0 : Int) ≤ (nfa0_17 k).toInt ∧ (nfa0_17 k).toInt ≤ 19)) ∧ ((Ff_X8_back a1.toInt a0_21.toInt a0_22.toInt (fl_A fa0_20) (fl_A fa0_17)).2 = (na0_0.toInt, na0_11.toInt, na0_21.toInt, (fl_A nfa0_17))) ∧ ax_B dC dI A [(a0, .inr (8, [Value.int na0_0, a0g_1, a0g_2, a0g_3, a0g_4, a0g_5, a0g_6, a0g_7, a0g_8, a0g_9, a0g_10, Value.int na0_11, a0g_12, a0g_13, a0g_14, a0g_15, a0g_16, Value.ref a0_17, a0g_18, a0g_19, Value.ref a0_20, Value.int na0_21, Value.int a0_22, a0g_23, a0g_24, a0g_25, a0g_26, a0g_27, a0g_28, a0g_29, a0g_30, a0g_31, a0g_32, a0g_33, a0g_34, a0g_35, a0g_36, a0g_37, a0g_38, a0g_39])), (a0_20, .inl (ka0_20, 69, .inl (fa0_20))), (a0_17, .inl (ka0_17, 23, .inl (nfa0_17)))] [(ka0_20, .int), (ka0_17, .int)] t) A) := by
  refine zh (cc := cX8_back) (maxL := 2) (ret := (some .boolean)) zn_RX8 rfl (Nat.le_of_ble_eq_true rfl) (fun p e s m below meth c A ls hx hb hml hr hts (hown : s.vm.findClass RX8 = some m.cls) hlocks hA hS hP hK hD hE (hl : lv_has ls 2 [(0, .ref a0), (1, .int a1)]) => ?_)
  generalize hFX : Ff_X8_back a1.toInt a0_21.toInt a0_22.toInt (fl_A fa0_20) (fl_A fa0_17) = FX at ⊢
  have hF0 := hFX.symm.trans (Ff_X8_back.eq_1 a1.toInt a0_21.toInt a0_22.toInt (fl_A fa0_20) (fl_A fa0_17))
  refine lv_aload_n hx hb dX8_back_0 rfl (lv_at hl 0 rfl) ?_
  refine va_callv (va_runV (As := []) (rest := []) ⟨hx, hb, hml, hown, hts⟩ (f_X8_good l dC dI s.heap.size a0 a0_0 a0g_1 a0g_2 a0g_3 a0g_4 a0g_5 a0g_6 a0g_7 a0g_8 a0g_9 a0g_10 a0g_12 a0g_13 a0g_14 a0g_15 a0g_16 (Value.ref a0_17) a0g_18 a0g_19 (Value.ref a0_20) (Value.int a0_21) (Value.int a0_22) a0g_23 a0g_24 a0g_25 a0g_26 a0g_27 a0g_28 a0g_29 a0g_30 a0g_31 a0g_32 a0g_33 a0g_34 a0g_35 a0g_36 a0g_37 a0g_38 a0g_39 a0_11 ) (cwV 0 hts gX8_back_X8_good rfl rfl rfl zd_X8_good ⟨Nat.le_of_ble_eq_true rfl, Nat.le_of_ble_eq_true rfl⟩) ⟨ax_blind (fun _ _ _ _ _ => trivial), zr_8 (zp_K hK) (zp_P1 hP) (q0 := 0) rfl, ax_pre (zp_P1 hP) (zp_K hK) (zp_D1 hD) (fun _ _ => trivial)⟩ rfl rfl hl.1 rfl (lv_room (Nat.le_of_ble_eq_true rfl)) dX8_back_1 ⟨Nat.le_of_ble_eq_true rfl, Nat.le_of_ble_eq_true rfl⟩) hS (fun q _ h => zp_F1 hD hS hA q h) (zp_F1 hD hS hA) (fun u t H locs ht hvm hw => zx_2 (fun v1na0_0 v1na0_11 => zy_1 (fun hraw1_0 hB hz1 hk1 hS1 => zo1 hB ht hP hD hk1 (zp_F1 hD hS hA) hS1 (fun hP hK1 hD hS => ?_))))
  have hc1 : Ff_X8_good = (v1na0_0.toInt, v1na0_11.toInt) := hraw1_0
  have hF0 := hF0.trans (fl_c2_eq hc1)
  refine lv_iload_n hx hb dX8_back_4 rfl (lv_at hl 1 rfl) ?_
  refine lv_iconst (v := 0) hx hb dX8_back_5 zk_iconst_0 ?_
  refine lv_aload_n hx hb dX8_back_6 rfl (lv_at hl 0 rfl) ?_
  refine va_get (D := (dC, dI)) (ci := 8) (v := .int a0_22) (C := RX8) (T := TX8) (N := 40) hx hb hts zi_X8_back_8 hown hK hP 0 rfl rfl 22 (by decide) (hts (.fieldLink RX8 179 "WaxTurnsModel" "images" "I") (List.mem_cons_of_mem _ (List.mem_append_left _ (List.mem_of_getElem? (i := 0) rfl)))) (fun _ h9 => h9) rfl dX8_back_7 ?_
  refine lv_iconst (v := 1) hx hb dX8_back_10 zk_iconst_1 ?_
  refine lv_isub hx hb dX8_back_11 ?_
  refine lv_topi (fun x11 ex11 => ?_)
  have qx11 : x11.toInt = a0_22.toInt - (1 : Int32).toInt := ai_sub ex11 ⟨ba0_22_l, ba0_22_u⟩ ⟨zq1, zq0⟩ (by decide) (by decide)
  have bx11 : (-1 : Int) ≤ x11.toInt ∧ x11.toInt ≤ 2 := ⟨by rw [qx11]; exact Int.sub_le_sub ba0_22_l zq0, by rw [qx11]; exact Int.sub_le_sub ba0_22_u zq1⟩
  have wx11 : x11.toInt = a0_22.toInt - 1 := qx11
  have hF0 := hF0.trans (fl_lt_eq (show x11.toInt = a0_22.toInt - 1 from qx11))
  refine va_calli (va_runS (As := [.int a1, .int 0, .int x11]) (rest := []) ⟨hx, hb, hml, hown, hts⟩ (f_X8_in l dC dI H.size a1 0 x11 ) (va_cwS 3 hts gX8_back_X8_in rfl rfl rfl zd_X8_in.2 ⟨Nat.le_of_ble_eq_true rfl, Nat.le_of_ble_eq_true rfl⟩) ⟨ax_blind (fun _ _ _ _ _ => trivial), ax_pre (zp_P0 hP) (zp_K hK) (zp_D0 hD) (fun _ _ => trivial)⟩ rfl rfl hl.1 rfl (lv_room (Nat.le_of_ble_eq_true rfl)) dX8_back_12 ⟨Nat.le_of_ble_eq_true rfl, Nat.le_of_ble_eq_true rfl⟩) hS (fun q _ h => zp_F0 hD hS hA q h) (zp_F0 hD hS hA) (fun r12 u t H locs ht hvm hw hB hz1 hk1 hS1 => zo0 hB ht hP hD hk1 (zp_F0 hD hS hA) hS1 (fun hP hK1 hD hS => ?_))
  obtain ⟨hw, hfr12⟩ := hw
  rw [show (0 : Int32).toInt = 0 from by decide] at hfr12
  have hc12 : Ff_X8_in a1.toInt 0 x11.toInt = r12.toInt := hfr12.symm
  have hF0 := hF0.trans (fl_lt_eq hc12.symm)
  rcases hw with hw | hw
  · obtain ⟨hw, h12⟩ := hw
    subst hw
    have l12k0_a1 : (0 : Int) ≤ a1.toInt := Int.le_trans zq5 h12.1
    have u12k0_a1 : a1.toInt ≤ (2 : Int) := Int.le_trans h12.2 bx11.2
    have l12k0_x11 : (0 : Int) ≤ x11.toInt := Int.le_trans zq5 (Int.le_trans h12.1 h12.2)
    have l12k0_a0_22 : (1 : Int) ≤ a0_22.toInt := by have h1 := wx11; have h2 := l12k0_x11; omega
    have hF0 := hF0.trans (if_pos (by decide))
    refine lv_if_ne (tgt := 24) hx hb dX8_back_15 (by decide) (fun _ => ?_) (fun c15 => absurd c15 (by decide +kernel))
    refine lv_aload_n hx hb dX8_back_24 rfl (lv_at hl 0 rfl) ?_
    refine va_get (D := (dC, dI)) (ci := 8) (v := .ref a0_20) (C := RX8) (T := TX8) (N := 40) hx hb hts zi_X8_back_8 hown hK hP 0 rfl rfl 20 (by decide) (hts (.fieldLink RX8 35 "WaxTurnsModel" "kept" "[I") (List.mem_cons_of_mem _ (List.mem_append_left _ (List.mem_of_getElem? (i := 1) rfl)))) (fun _ h9 => h9) rfl dX8_back_25 ?_
    refine lv_bipush (v := 23) hx hb dX8_back_28 zk_bipush_23 ?_
    refine lv_iload_n hx hb dX8_back_30 rfl (lv_at hl 1 rfl) ?_
    refine lv_imul hx hb dX8_back_31 ?_
    refine lv_topi (fun x31 ex31 => ?_)
    have qx31 : x31.toInt = (23 : Int32).toInt * a1.toInt ∧ (0 : Int) ≤ x31.toInt ∧ x31.toInt ≤ 46 := ai_mul ex31 ⟨zq170, zq171⟩ ⟨l12k0_a1, u12k0_a1⟩ (by decide) (by decide) zq216
    have wx31 : x31.toInt = 23 * a1.toInt := qx31.1
    have hF0 := hF0.trans (fl_lt_eq (show x31.toInt = 23 * a1.toInt from qx31.1))
    refine lv_aload_n hx hb dX8_back_32 rfl (lv_at hl 0 rfl) ?_
    refine va_get (D := (dC, dI)) (ci := 8) (v := .ref a0_17) (C := RX8) (T := TX8) (N := 40) hx hb hts zi_X8_back_8 hown hK hP 0 rfl rfl 17 (by decide) (hts (.fieldLink RX8 26 "WaxTurnsModel" "st" "[I") (List.mem_cons_of_mem _ (List.mem_append_left _ (List.mem_of_getElem? (i := 2) rfl)))) (fun _ h9 => h9) rfl dX8_back_33 ?_
    refine lv_iconst (v := 0) hx hb dX8_back_36 zk_iconst_0 ?_
    refine lv_bipush (v := 23) hx hb dX8_back_37 zk_bipush_23 ?_
    refine zc_cutc (wc := [(a0_20, .inl (ka0_20, 69, .inl (fa0_20))), (a0_17, .inl (ka0_17, 23, .inl (fa0_17)))]) hP hD hS hA [1, 2] (by decide +kernel) rfl (fun hPc hDc hFc hCc => ?_)
    have hKc := hK.sub (tys' := [(ka0_20, .int), (ka0_17, .int)]) [0, 1] rfl
    refine va_callv (va_runS (As := [.ref a0_20, .int x31, .ref a0_17, .int 0, .int 23]) (rest := []) ⟨hx, hb, hml, hown, hts⟩ (c_X8_copy_69_23 l dC dI H.size a0_20 x31 a0_17 0 23 ka0_20 fa0_20 ka0_17 fa0_17 qx31.2.1 qx31.2.2 zq5 zq6 zq170 zq171) (va_cwS 5 hts gX8_back_X8_copy rfl rfl rfl zd_X8_copy.2 ⟨Nat.le_of_ble_eq_true rfl, Nat.le_of_ble_eq_true rfl⟩) ⟨ax_blind (fun _ _ _ _ _ => trivial), ax_pre hPc hKc hDc (fun _ _ => trivial)⟩ rfl rfl hl.1 rfl (lv_room (Nat.le_of_ble_eq_true rfl)) dX8_back_39 ⟨Nat.le_of_ble_eq_true rfl, Nat.le_of_ble_eq_true rfl⟩) hS (fun q _ h => hFc q h) hFc (fun u t H locs ht hvm hw => zx_1 (fun v39nfa3 => zy_1 (fun hraw39_0 hB hz1 hk1 hS1 => zo hB ht hS1 (fun hP1 hK1 hD1 hS => ?_))))
    refine zc_backc (w := [(a0, .inr (8, [Value.int v1na0_0, a0g_1, a0g_2, a0g_3, a0g_4, a0g_5, a0g_6, a0g_7, a0g_8, a0g_9, a0g_10, Value.int v1na0_11, a0g_12, a0g_13, a0g_14, a0g_15, a0g_16, Value.ref a0_17, a0g_18, a0g_19, Value.ref a0_20, Value.int a0_21, Value.int a0_22, a0g_23, a0g_24, a0g_25, a0g_26, a0g_27, a0g_28, a0g_29, a0g_30, a0g_31, a0g_32, a0g_33, a0g_34, a0g_35, a0g_36, a0g_37, a0g_38, a0g_39])), (a0_20, .inl (ka0_20, 69, .inl (fa0_20))), (a0_17, .inl (ka0_17, 23, .inl (v39nfa3)))]) hP hD hCc hk1 hFc hP1 hD1 [.inl 0, .inr 0, .inr 1] (by decide +kernel) rfl (fun hP hD => ?_)
    have hc39 : va_cpy (fl_A fa0_20) (fl_A fa0_17) (x31.toInt.toNat) (0) 23 = (fl_A v39nfa3) := (fl_cpy hraw39_0).symm
    have hF0 := hF0.trans (fl_lt_eq hc39.symm)
    have bv39nfa3 : ((∀ k : Nat, 0 ≤ k → k ≤ 8 → (0 : Int) ≤ (v39nfa3 k).toInt ∧ (v39nfa3 k).toInt ≤ 8) ∧ (∀ k : Nat, 19 ≤ k → k ≤ 19 → (0 : Int) ≤ (v39nfa3 k).toInt ∧ (v39nfa3 k).toInt ≤ 8) ∧ (∀ k : Nat, 20 ≤ k → k ≤ 20 → (0 : Int) ≤ (v39nfa3 k).toInt ∧ (v39nfa3 k).toInt ≤ 19)) := cp_MS hraw39_0 (md_ix (u := a1) wx31 l12k0_a1) (by decide) bfa0_20
    refine lv_aload_n hx hb dX8_back_42 rfl (lv_at hl 0 rfl) ?_
    refine lv_iconst (v := 0) hx hb dX8_back_43 zk_iconst_0 ?_
    refine va_put (D := (dC, dI)) (ci := 8) (v := .int 0) (ty := .int) (C := RX8) (T := TX8) (N := 40) hx hb hts zi_X8_back_8 tyX8 tyX8_ok nmX8 hown hK hP hD hS 0 rfl rfl 21 (by decide) (hts (.fieldLink RX8 176 "WaxTurnsModel" "undos" "I") (List.mem_cons_of_mem _ (List.mem_append_left _ (List.mem_of_getElem? (i := 3) rfl)))) (fun _ h9 => h9) rfl (tyX8_ok 21 (by decide)) rfl rfl (Nat.le_of_ble_eq_true rfl) dX8_back_44 (fun H locs hP hD hS => ?_)
    refine zs_0 (y := (a0, .inr (8, [Value.int v1na0_0, a0g_1, a0g_2, a0g_3, a0g_4, a0g_5, a0g_6, a0g_7, a0g_8, a0g_9, a0g_10, Value.int v1na0_11, a0g_12, a0g_13, a0g_14, a0g_15, a0g_16, Value.ref a0_17, a0g_18, a0g_19, Value.ref a0_20, Value.int 0, Value.int a0_22, a0g_23, a0g_24, a0g_25, a0g_26, a0g_27, a0g_28, a0g_29, a0g_30, a0g_31, a0g_32, a0g_33, a0g_34, a0g_35, a0g_36, a0g_37, a0g_38, a0g_39]))) hP hD rfl (fun hP hD => ?_)
    refine lv_iconst (v := 1) hx hb dX8_back_47 zk_iconst_1 ?_
    have hFe : FX = (1, v1na0_0.toInt, v1na0_11.toInt, 0, (fl_A v39nfa3)) := hF0
    exact W.zret (v := 1) hx hb hr rfl (fun t ht hW => ⟨⟨1, (), rfl, ⟨(Or.inl ⟨rfl, l12k0_a1, u12k0_a1, l12k0_a0_22, ba0_22_u⟩), (congrArg Prod.fst hFe).symm⟩, v1na0_0, v1na0_11, 0, v39nfa3, ⟨zq5, Int.le_trans zq6 (by decide)⟩, bv39nfa3, (congrArg Prod.snd hFe), by rw [ht]; exact hP, va_K.moved hW.alike hK, hD⟩, hS.F ht⟩) hS.2.2 dX8_back_48
  · obtain ⟨hw, h12⟩ := hw
    subst hw
    have hF0 := hF0.trans (if_neg (by decide))
    refine lv_if_ne (tgt := 24) hx hb dX8_back_15 (by decide) (fun c15 => absurd (by decide +kernel) c15) (fun _ => ?_)
    refine lv_aload_n hx hb dX8_back_18 rfl (lv_at hl 0 rfl) ?_
    refine lv_iconst (v := 1) hx hb dX8_back_19 zk_iconst_1 ?_
    refine va_calli (va_runV (As := [.int 1]) (rest := []) ⟨hx, hb, hml, hown, hts⟩ (f_X8_isNot l dC dI H.size a0 1 (Value.int v1na0_0) a0g_1 a0g_2 a0g_3 a0g_4 a0g_5 a0g_6 a0g_7 a0g_8 a0g_9 a0g_10 a0g_12 a0g_13 a0g_14 a0g_15 a0g_16 (Value.ref a0_17) a0g_18 a0g_19 (Value.ref a0_20) (Value.int a0_21) (Value.int a0_22) a0g_23 a0g_24 a0g_25 a0g_26 a0g_27 a0g_28 a0g_29 a0g_30 a0g_31 a0g_32 a0g_33 a0g_34 a0g_35 a0g_36 a0g_37 a0g_38 a0g_39 v1na0_11 ) (cwV 1 hts gX8_back_X8_isNot rfl rfl rfl zd_X8_isNot ⟨Nat.le_of_ble_eq_true rfl, Nat.le_of_ble_eq_true rfl⟩) ⟨ax_blind (fun _ _ _ _ _ => trivial), zr_8 (zp_K hK) (zp_P1 hP) (q0 := 0) rfl, ax_pre (zp_P1 hP) (zp_K hK) (zp_D1 hD) (fun _ _ => trivial)⟩ rfl rfl hl.1 rfl (lv_room (Nat.le_of_ble_eq_true rfl)) dX8_back_20 ⟨Nat.le_of_ble_eq_true rfl, Nat.le_of_ble_eq_true rfl⟩) hS (fun q _ h => zp_F1 hD hS hA q h) (zp_F1 hD hS hA) (fun r20 u t H locs ht hvm hw => zx_1 (fun v20na0_11 => zy_1 (fun hraw20_0 hB hz1 hk1 hS1 => zo1 hB ht hP hD hk1 (zp_F1 hD hS hA) hS1 (fun hP hK1 hD hS => ?_))))
    obtain ⟨hw, hfr20⟩ := hw
    rw [show (1 : Int32).toInt = 1 from by decide] at hfr20 hraw20_0
    have hc20 : Ff_X8_isNot 1 = (r20.toInt, v20na0_11.toInt) := Prod.ext hfr20.symm hraw20_0
    have hF0 := hF0.trans (fl_c2_eq hc20)
    have hw : r20 = 0 := hw
    have hw := hw.symm
    subst hw
    have hFe : FX = (0, v1na0_0.toInt, v20na0_11.toInt, a0_21.toInt, (fl_A fa0_17)) := hF0
    exact W.zret (v := 0) hx hb hr rfl (fun t ht hW => ⟨⟨0, (), rfl, ⟨(Or.inr (rfl)), (congrArg Prod.fst hFe).symm⟩, v1na0_0, v20na0_11, a0_21, fa0_17, ⟨ba0_21_l, ba0_21_u⟩, bfa0_17, (congrArg Prod.snd hFe), by rw [ht]; exact hP, va_K.moved hW.alike hK, hD⟩, hS.F ht⟩) hS.2.2 dX8_back_23

set_option maxHeartbeats 4000000 in
set_option maxRecDepth 100000 in
theorem f_X7_troubleOfFigureWithin (l : Launch) (dC : Nat → ClassId) (dI : Nat → Nat → Nat) (sz : Nat) (a0 : Nat) (a1 : Int32) (a2 : Int32) (a3 : Int32) (a0g_0 a0g_1 a0g_2 a0g_3 a0g_4 a0g_5 a0g_6 a0g_8 a0g_9 a0g_10 : Value) (a0_7 : Nat) (a0_7_0 : Int32) (a0_7g_1 a0_7g_2 a0_7g_3 a0_7g_4 a0_7g_5 a0_7g_6 a0_7g_7 a0_7g_8 a0_7g_9 a0_7g_10 a0_7g_11 a0_7g_12 a0_7g_13 a0_7g_14 : Value) (ba0_7_0_l : (0 : Int) ≤ a0_7_0.toInt) (ba0_7_0_u : a0_7_0.toInt ≤ (9 : Int)) : zm l yX7_troubleOfFigureWithin wsX7_troubleOfFigureWithin ({ frames := 2, cells := 0, slots := 0, locals := 43 }) [.ref a0, .int a1, .int a2, .int a3] dC dI sz [(a0, .inr (7, [a0g_0, a0g_1, a0g_2, a0g_3, a0g_4, a0g_5, a0g_6, .ref a0_7, a0g_8, a0g_9, a0g_10])), (a0_7, .inr (0, [.int a0_7_0, a0_7g_1, a0_7g_2, a0_7g_3, a0_7g_4, a0_7g_5, a0_7g_6, a0_7g_7, a0_7g_8, a0_7g_9, a0_7g_10, a0_7g_11, a0_7g_12, a0_7g_13, a0_7g_14]))] [] (fun A _ => True) (fun A => va_Qi (fun (r : Int32) (_ : Unit) => ((r = 0 ∧ (1 : Int) ≤ a0_7_0.toInt ∧ (0 : Int) ≤ a1.toInt ∧ a1.toInt ≤ (8 : Int) ∧ (0 : Int32).toInt ≤ a2.toInt ∧ a2.toInt ≤ a3.toInt) ∨ r = 1 ∨ r = 2) ∧ r.toInt = Ff_X7_troubleOfFigureWithin a1.toInt a2.toInt a3.toInt a0_7_0.toInt) (fun (_ : Unit) (t : State) => ax_B dC dI A [(a0, .inr (7, [a0g_0, a0g_1, a0g_2, a0g_3, a0g_4, a0g_5, a0g_6, .ref a0_7, a0g_8, a0g_9, a0g_10])), (a0_7, .inr (0, [.int a0_7_0, a0_7g_1, a0_7g_2, a0_7g_3, a0_7g_4, a0_7g_5, a0_7g_6, a0_7g_7, a0_7g_8, a0_7g_9, a0_7g_10, a0_7g_11, a0_7g_12, a0_7g_13, a0_7g_14]))] [] t) A) := by
  refine zh (cc := cX7_troubleOfFigureWithin) (maxL := 4) (ret := (some .int)) zn_RX7 rfl (Nat.le_of_ble_eq_true rfl) (fun p e s m below meth c A ls hx hb hml hr hts (hown : s.vm.findClass RX7 = some m.cls) hlocks hA hS hP hK hD hE (hl : lv_has ls 4 [(0, .ref a0), (1, .int a1), (2, .int a2), (3, .int a3)]) => ?_)
  generalize hFX : Ff_X7_troubleOfFigureWithin a1.toInt a2.toInt a3.toInt a0_7_0.toInt = FX at ⊢
  have hF0 := hFX.symm.trans (Ff_X7_troubleOfFigureWithin.eq_1 a1.toInt a2.toInt a3.toInt a0_7_0.toInt)
  refine lv_aload_n hx hb dX7_troubleOfFigureWithin_0 rfl (lv_at hl 0 rfl) ?_
  refine lv_iload_n hx hb dX7_troubleOfFigureWithin_1 rfl (lv_at hl 1 rfl) ?_
  refine va_calli (va_runV (As := [.int a1]) (rest := []) ⟨hx, hb, hml, hown, hts⟩ (f_X7_isFigure l dC dI s.heap.size a0 a1 a0g_0 a0g_1 a0g_2 a0g_3 a0g_4 a0g_5 a0g_6 a0g_8 a0g_9 a0g_10 a0_7 a0_7_0 a0_7g_1 a0_7g_2 a0_7g_3 a0_7g_4 a0_7g_5 a0_7g_6 a0_7g_7 a0_7g_8 a0_7g_9 a0_7g_10 a0_7g_11 a0_7g_12 a0_7g_13 a0_7g_14 ba0_7_0_l ba0_7_0_u) (cwV 1 hts gX7_troubleOfFigureWithin_X7_isFigure rfl rfl rfl zd_X7_isFigure ⟨Nat.le_of_ble_eq_true rfl, Nat.le_of_ble_eq_true rfl⟩) ⟨ax_blind (fun _ _ _ _ _ => trivial), zr_7 (zp_K hK) (zp_P2 hP) (q0 := 0) rfl, ax_pre (zp_P2 hP) (zp_K hK) (zp_D2 hD) (fun _ _ => trivial)⟩ rfl rfl hl.1 rfl (lv_room (Nat.le_of_ble_eq_true rfl)) dX7_troubleOfFigureWithin_2 ⟨Nat.le_of_ble_eq_true rfl, Nat.le_of_ble_eq_true rfl⟩) hS (fun q _ h => zp_F2 hD hS hA q h) (zp_F2 hD hS hA) (fun r2 u t H locs ht hvm hw hB hz1 hk1 hS1 => zo2 hB ht hP hD hk1 (zp_F2 hD hS hA) hS1 (fun hP hK1 hD hS => ?_))
  obtain ⟨hw, hfr2⟩ := hw
  have hc2 : Ff_X7_isFigure a1.toInt a0_7_0.toInt = r2.toInt := hfr2.symm
  have hF0 := hF0.trans (fl_lt_eq hc2.symm)
  rcases hw with hw | hw
  · obtain ⟨hw, h2_0, h2_1, h2_2, h2_3⟩ := hw
    subst hw
    have l2k0_a1 : (0 : Int) ≤ a1.toInt := h2_0
    have u2k0_a1 : a1.toInt ≤ (8 : Int) := h2_1
    have l2k0_a0_7_0 : (1 : Int) ≤ a0_7_0.toInt := h2_2
    have u2k0_a0_7_0 : a0_7_0.toInt ≤ (9 : Int) := ba0_7_0_u
    have hF0 := hF0.trans (if_pos (by decide))
    refine lv_if_ne (tgt := 10) hx hb dX7_troubleOfFigureWithin_5 (by decide) (fun _ => ?_) (fun c5 => absurd c5 (by decide +kernel))
    refine lv_iload_n hx hb dX7_troubleOfFigureWithin_10 rfl (lv_at hl 2 rfl) ?_
    refine lv_iconst (v := 0) hx hb dX7_troubleOfFigureWithin_11 zk_iconst_0 ?_
    refine lv_iload_n hx hb dX7_troubleOfFigureWithin_12 rfl (lv_at hl 3 rfl) ?_
    refine va_calli (va_runS (As := [.int a2, .int 0, .int a3]) (rest := []) ⟨hx, hb, hml, hown, hts⟩ (f_X7_within l dC dI H.size a2 0 a3 ) (va_cwS 3 hts gX7_troubleOfFigureWithin_X7_within rfl rfl rfl zd_X7_within.2 ⟨Nat.le_of_ble_eq_true rfl, Nat.le_of_ble_eq_true rfl⟩) ⟨ax_blind (fun _ _ _ _ _ => trivial), ax_pre (zp_P0 hP) (zp_K hK) (zp_D0 hD) (fun _ _ => trivial)⟩ rfl rfl hl.1 rfl (lv_room (Nat.le_of_ble_eq_true rfl)) dX7_troubleOfFigureWithin_13 ⟨Nat.le_of_ble_eq_true rfl, Nat.le_of_ble_eq_true rfl⟩) hS (fun q _ h => zp_F0 hD hS hA q h) (zp_F0 hD hS hA) (fun r13 u t H locs ht hvm hw hB hz1 hk1 hS1 => zo0 hB ht hP hD hk1 (zp_F0 hD hS hA) hS1 (fun hP hK1 hD hS => ?_))
    obtain ⟨hw, hfr13⟩ := hw
    rw [show (0 : Int32).toInt = 0 from by decide] at hfr13
    have hc13 : Ff_X7_within a2.toInt 0 a3.toInt = r13.toInt := hfr13.symm
    have hF0 := hF0.trans (fl_lt_eq hc13.symm)
    rcases hw with hw | hw
    · obtain ⟨hw, h13⟩ := hw
      subst hw
      have l13k0_a2 : (0 : Int) ≤ a2.toInt := Int.le_trans zq5 h13.1
      have l13k0_a3 : (0 : Int) ≤ a3.toInt := Int.le_trans zq5 (Int.le_trans h13.1 h13.2)
      have hF0 := hF0.trans (if_pos (by decide))
      refine lv_if_eq (tgt := 23) hx hb dX7_troubleOfFigureWithin_16 (by decide) (fun c16 => absurd c16 (by decide +kernel)) (fun _ => ?_)
      refine lv_iconst (v := 0) hx hb dX7_troubleOfFigureWithin_19 zk_iconst_0 ?_
      refine lv_goto (tgt := 24) hx hb dX7_troubleOfFigureWithin_20 (by decide) ?_
      have hFe : FX = 0 := hF0
      exact W.iret (v := 0) hx hb hr (fun t ht hW => ⟨⟨0, (), rfl, ⟨(Or.inl ⟨rfl, l2k0_a0_7_0, l2k0_a1, u2k0_a1, h13⟩), hFe.symm⟩, by rw [ht]; exact hP, va_K.moved hW.alike hK, hD⟩, hS.F ht⟩) hS.2.2 dX7_troubleOfFigureWithin_24
    · obtain ⟨hw, h13⟩ := hw
      subst hw
      have hF0 := hF0.trans (if_neg (by decide))
      refine lv_if_eq (tgt := 23) hx hb dX7_troubleOfFigureWithin_16 (by decide) (fun _ => ?_) (fun c16 => absurd (by decide +kernel) c16)
      refine lv_iconst (v := 2) hx hb dX7_troubleOfFigureWithin_23 zk_iconst_2 ?_
      have hFe : FX = 2 := hF0
      exact W.iret (v := 2) hx hb hr (fun t ht hW => ⟨⟨2, (), rfl, ⟨(Or.inr (Or.inr rfl)), hFe.symm⟩, by rw [ht]; exact hP, va_K.moved hW.alike hK, hD⟩, hS.F ht⟩) hS.2.2 dX7_troubleOfFigureWithin_24
  · subst hw
    have hF0 := hF0.trans (if_neg (by decide))
    refine lv_if_ne (tgt := 10) hx hb dX7_troubleOfFigureWithin_5 (by decide) (fun c5 => absurd (by decide +kernel) c5) (fun _ => ?_)
    refine lv_iconst (v := 1) hx hb dX7_troubleOfFigureWithin_8 zk_iconst_1 ?_
    have hFe : FX = 1 := hF0
    exact W.iret (v := 1) hx hb hr (fun t ht hW => ⟨⟨1, (), rfl, ⟨(Or.inr (Or.inl rfl)), hFe.symm⟩, by rw [ht]; exact hP, va_K.moved hW.alike hK, hD⟩, hS.F ht⟩) hS.2.2 dX7_troubleOfFigureWithin_9

set_option maxHeartbeats 4000000 in
set_option maxRecDepth 100000 in
theorem f_X7_laterTurn (l : Launch) (dC : Nat → ClassId) (dI : Nat → Nat → Nat) (sz : Nat) (a1 : Int32) (a2 : Int32) (a3 : Int32) (a4 : Int32) (a5 : Int32) (ba1_l : (0 : Int) ≤ a1.toInt) (ba1_u : a1.toInt ≤ (9 : Int)) (ba2_l : (0 : Int) ≤ a2.toInt) (ba2_u : a2.toInt ≤ (9 : Int)) (ba3_l : (0 : Int) ≤ a3.toInt) (ba3_u : a3.toInt ≤ (9 : Int)) (ba4_l : (0 : Int) ≤ a4.toInt) (ba4_u : a4.toInt ≤ (9 : Int)) : zm l yX7_laterTurn wsX7_laterTurn ({ frames := 0, cells := 0, slots := 0, locals := 0 }) [.int a1, .int a2, .int a3, .int a4, .int a5] dC dI sz [] [] (fun A _ => True) (fun A => va_Qi (fun (r : Int32) (_ : Unit) => ((0 : Int) ≤ r.toInt ∧ r.toInt ≤ (9 : Int)) ∧ r.toInt = Ff_X7_laterTurn a1.toInt a2.toInt a3.toInt a4.toInt a5.toInt) (fun (_ : Unit) (t : State) => ax_B dC dI A [] [] t) A) := by
  refine zh (cc := cX7_laterTurn) (maxL := 9) (ret := (some .int)) zn_RX7 rfl (Nat.le_of_ble_eq_true rfl) (fun p e s m below meth c A ls hx hb hml hr hts (hown : s.vm.findClass RX7 = some m.cls) hlocks hA hS hP hK hD hE (hl : lv_has ls 9 [(0, .int a1), (1, .int a2), (2, .int a3), (3, .int a4), (4, .int a5)]) => ?_)
  generalize hFX : Ff_X7_laterTurn a1.toInt a2.toInt a3.toInt a4.toInt a5.toInt = FX at ⊢
  have hF0 := hFX.symm.trans (Ff_X7_laterTurn.eq_1 a1.toInt a2.toInt a3.toInt a4.toInt a5.toInt)
  refine ai_open (fun K hK0 => ?_)
  refine (hK0 _ _ _).mpr ?_
  refine lv_iload_n hx hb dX7_laterTurn_0 rfl (lv_at hl 0 rfl) ?_
  refine lv_if_gt (tgt := 6) hx hb dX7_laterTurn_1 (by decide) (fun c1 => ?_) (fun c1 => ?_)
  · have gc1 := ai_lt c1
    have l1t_a1 : (1 : Int) ≤ a1.toInt := ai_ltlo gc1 zq5
    have hF0 := hF0.trans (if_pos (show 0 < a1.toInt from gc1))
    refine lv_iload_n hx hb dX7_laterTurn_6 rfl (lv_at hl 1 rfl) ?_
    refine lv_istore (lv' := [(5, .int a2), (0, .int a1), (1, .int a2), (2, .int a3), (3, .int a4), (4, .int a5)]) hx hb dX7_laterTurn_7 hl (by decide) rfl (fun ls hl => ?_)
    refine lv_iload_n hx hb dX7_laterTurn_9 rfl (lv_at hl 3 rfl) ?_
    refine lv_istore (lv' := [(6, .int a3), (5, .int a2), (0, .int a1), (1, .int a2), (2, .int a3), (3, .int a4), (4, .int a5)]) hx hb dX7_laterTurn_10 hl (by decide) rfl (fun ls hl => ?_)
    refine lv_iload_n hx hb dX7_laterTurn_12 rfl (lv_at hl 5 rfl) ?_
    refine lv_istore (lv' := [(7, .int a4), (6, .int a3), (5, .int a2), (0, .int a1), (1, .int a2), (2, .int a3), (3, .int a4), (4, .int a5)]) hx hb dX7_laterTurn_13 hl (by decide) rfl (fun ls hl => ?_)
    refine lv_iload hx hb dX7_laterTurn_15 (lv_at hl 7 rfl) ?_
    refine lv_istore (lv' := [(8, .int a5), (7, .int a4), (6, .int a3), (5, .int a2), (0, .int a1), (1, .int a2), (2, .int a3), (3, .int a4), (4, .int a5)]) hx hb dX7_laterTurn_17 hl (by decide) rfl (fun ls hl => ?_)
    have J19 : ∀ (n : Nat) (j19l8 : Int32) (j19l7 : Int32) (j19l6 : Int32) (j19l5 : Int32) (H : Heap) (locs : List Loc) (ls : Array Slot), j19l8.toInt - (-2147483649 : Int) ≤ (n : Int) → (0 : Int) ≤ j19l7.toInt → j19l7.toInt ≤ (9 : Int) → (0 : Int) ≤ j19l6.toInt → j19l6.toInt ≤ (9 : Int) → (0 : Int) ≤ j19l5.toInt → j19l5.toInt ≤ (9 : Int) → (FX = fl_wh (fun t9 => Sf_X7_laterTurn_19_1 a1.toInt t9.1 t9.2.1 t9.2.2.1 t9.2.2.2) 0 n (j19l8.toInt, j19l7.toInt, j19l6.toInt, j19l5.toInt)) → va_P (dC, dI) vwCl [] H → va_D A [] → va_S A s.heap H locs → lv_has ls 9 [(0, .int a1), (5, .int j19l5), (6, .int j19l6), (7, .int j19l7), (8, .int j19l8)] → K H locs (F0 m 19 ls []) := by
      intro n
      induction n with
      | zero =>
        intro j19l8 j19l7 j19l6 j19l5 H locs ls hm bj19l7_l bj19l7_u bj19l6_l bj19l6_u bj19l5_l bj19l5_u hF0 hP hD hS hl
        have h8 := ai_min j19l8
        have h9 := ai_max j19l8
        exact absurd hm (by omega)
      | succ n ih19 =>
        intro j19l8 j19l7 j19l6 j19l5 H locs ls hm bj19l7_l bj19l7_u bj19l6_l bj19l6_u bj19l5_l bj19l5_u hF0 hP hD hS hl
        refine (hK0 _ _ _).mpr ?_
        have hm19 := hm
        obtain ⟨SX19, hSX19⟩ : ∃ q9, Sf_X7_laterTurn_19_1 a1.toInt j19l8.toInt j19l7.toInt j19l6.toInt j19l5.toInt = q9 := ⟨_, rfl⟩
        have hF1 := hSX19.symm.trans (Sf_X7_laterTurn_19_1.eq_1 a1.toInt j19l8.toInt j19l7.toInt j19l6.toInt j19l5.toInt)
        refine lv_iload hx hb dX7_laterTurn_19 (lv_at hl 4 rfl) ?_
        refine lv_if_le (tgt := 74) hx hb dX7_laterTurn_21 (by decide) (fun c21 => ?_) (fun c21 => ?_)
        · have gc21 := ai_le c21
          have u21t_j19l8 : j19l8.toInt ≤ (0 : Int) := Int.le_trans gc21 zq6
          have hF1 := hF1.trans (if_pos (show j19l8.toInt ≤ 0 from gc21))
          have hF0 := hF0.trans (fl_wh_r (hSX19.trans hF1))
          refine lv_iload hx hb dX7_laterTurn_74 (lv_at hl 3 rfl) ?_
          have hFe : FX = j19l7.toInt := hF0
          exact W.iret (v := j19l7) hx hb hr (fun t ht hW => ⟨⟨j19l7, (), rfl, ⟨⟨bj19l7_l, bj19l7_u⟩, hFe.symm⟩, by rw [ht]; exact hP, va_K.moved hW.alike hK, hD⟩, hS.F ht⟩) hS.2.2 dX7_laterTurn_76
        · have gc21 := ai_nle c21
          have l21f_j19l8 : (1 : Int) ≤ j19l8.toInt := ai_ltlo gc21 zq5
          have hF1 := hF1.trans (if_neg (show ¬ (j19l8.toInt ≤ 0) from Int.not_le.mpr gc21))
          refine lv_iload hx hb dX7_laterTurn_24 (lv_at hl 4 rfl) ?_
          refine lv_iconst (v := 1) hx hb dX7_laterTurn_26 zk_iconst_1 ?_
          refine lv_iand hx hb dX7_laterTurn_27 ?_
          refine lv_topi (fun x27 ex27 => ?_)
          have fqx27 := fl_and_eq ex27
          have hF1 := hF1.trans (fl_lt_eq (show x27.toInt = fl_and j19l8.toInt 1 from fqx27))
          refine lv_iconst (v := 1) hx hb dX7_laterTurn_28 zk_iconst_1 ?_
          have J44 : ∀ (j44l7 : Int32) (H : Heap) (locs : List Loc) (ls : Array Slot), (0 : Int) ≤ j44l7.toInt → j44l7.toInt ≤ (9 : Int) → (SX19 = Gf_X7_laterTurn_44_1 a1.toInt j19l8.toInt j19l6.toInt j19l5.toInt j44l7.toInt) → va_P (dC, dI) vwCl [] H → va_D A [] → va_S A s.heap H locs → lv_has ls 9 [(0, .int a1), (5, .int j19l5), (6, .int j19l6), (7, .int j44l7), (8, .int j19l8)] → K H locs (F0 m 44 ls []) := by
            intro j44l7 H locs ls  bj44l7_l bj44l7_u hF1 hP hD hS hl
            refine (hK0 _ _ _).mpr ?_
            have hF1 := hF1.trans (Gf_X7_laterTurn_44_1.eq_1 a1.toInt j19l8.toInt j19l6.toInt j19l5.toInt j44l7.toInt)
            refine lv_iload hx hb dX7_laterTurn_44 (lv_at hl 2 rfl) ?_
            refine lv_iload hx hb dX7_laterTurn_46 (lv_at hl 1 rfl) ?_
            refine lv_imul hx hb dX7_laterTurn_48 ?_
            refine lv_topi (fun x48 ex48 => ?_)
            have qx48 : x48.toInt = j19l6.toInt * j19l5.toInt ∧ (0 : Int) ≤ x48.toInt ∧ x48.toInt ≤ 81 := ai_mul ex48 ⟨bj19l6_l, bj19l6_u⟩ ⟨bj19l5_l, bj19l5_u⟩ (by decide) (by decide) zq21
            have hF1 := hF1.trans (fl_lt_eq (show x48.toInt = j19l6.toInt * j19l5.toInt from qx48.1))
            refine lv_iload hx hb dX7_laterTurn_49 (lv_at hl 2 rfl) ?_
            refine lv_iadd hx hb dX7_laterTurn_51 ?_
            refine lv_topi (fun x51 ex51 => ?_)
            have qx51 : x51.toInt = x48.toInt + j19l6.toInt := ai_add ex51 ⟨qx48.2.1, qx48.2.2⟩ ⟨bj19l6_l, bj19l6_u⟩ (by decide) (by decide)
            have bx51 : (0 : Int) ≤ x51.toInt ∧ x51.toInt ≤ 90 := ⟨by rw [qx51]; exact Int.add_le_add qx48.2.1 bj19l6_l, by rw [qx51]; exact Int.add_le_add qx48.2.2 bj19l6_u⟩
            have hF1 := hF1.trans (fl_lt_eq (show x51.toInt = x48.toInt + j19l6.toInt from qx51))
            refine lv_iload_n hx hb dX7_laterTurn_52 rfl (lv_at hl 0 rfl) ?_
            refine lv_irem hx hb dX7_laterTurn_53 (ai_nz l1t_a1 (by decide)) ?_
            refine lv_topi (fun x53 ex53 => ?_)
            have qx53 := ai_rem2 ex53 bx51.1 (Int.lt_of_lt_of_le zq19 l1t_a1) ba1_u
            have hF1 := hF1.trans (fl_lt_eq (show x53.toInt = x51.toInt % a1.toInt from qx53.1))
            refine lv_istore (lv' := [(6, .int x53), (0, .int a1), (5, .int j19l5), (7, .int j44l7), (8, .int j19l8)]) hx hb dX7_laterTurn_54 hl (by decide) rfl (fun ls hl => ?_)
            refine lv_iload hx hb dX7_laterTurn_56 (lv_at hl 2 rfl) ?_
            refine lv_iload hx hb dX7_laterTurn_58 (lv_at hl 2 rfl) ?_
            refine lv_imul hx hb dX7_laterTurn_60 ?_
            refine lv_topi (fun x60 ex60 => ?_)
            have qx60 : x60.toInt = j19l5.toInt * j19l5.toInt ∧ (0 : Int) ≤ x60.toInt ∧ x60.toInt ≤ 81 := ai_mul ex60 ⟨bj19l5_l, bj19l5_u⟩ ⟨bj19l5_l, bj19l5_u⟩ (by decide) (by decide) zq21
            have hF1 := hF1.trans (fl_lt_eq (show x60.toInt = j19l5.toInt * j19l5.toInt from qx60.1))
            refine lv_iload_n hx hb dX7_laterTurn_61 rfl (lv_at hl 1 rfl) ?_
            refine lv_irem hx hb dX7_laterTurn_62 (ai_nz l1t_a1 (by decide)) ?_
            refine lv_topi (fun x62 ex62 => ?_)
            have qx62 := ai_rem2 ex62 qx60.2.1 (Int.lt_of_lt_of_le zq19 l1t_a1) ba1_u
            have hF1 := hF1.trans (fl_lt_eq (show x62.toInt = x60.toInt % a1.toInt from qx62.1))
            refine lv_istore (lv' := [(5, .int x62), (6, .int x53), (0, .int a1), (7, .int j44l7), (8, .int j19l8)]) hx hb dX7_laterTurn_63 hl (by decide) rfl (fun ls hl => ?_)
            refine lv_iload hx hb dX7_laterTurn_65 (lv_at hl 4 rfl) ?_
            refine lv_iconst (v := 1) hx hb dX7_laterTurn_67 zk_iconst_1 ?_
            refine lv_ishr hx hb dX7_laterTurn_68 ?_
            refine lv_topi (fun x68 ex68 => ?_)
            have qx68 : x68.toInt = j19l8.toInt / 2 := ai_shr1 ex68
            have bx68 : (0 : Int) ≤ x68.toInt ∧ x68.toInt ≤ 1073741823 := by have h1 : (1 : Int) ≤ j19l8.toInt := l21f_j19l8; have h2 : j19l8.toInt ≤ (2147483647 : Int) := (ai_max j19l8); omega
            have hF1 := hF1.trans (fl_lt_eq (show x68.toInt = j19l8.toInt / 2 from qx68))
            refine lv_istore (lv' := [(8, .int x68), (5, .int x62), (6, .int x53), (0, .int a1), (7, .int j44l7)]) hx hb dX7_laterTurn_69 hl (by decide) rfl (fun ls hl => ?_)
            refine lv_goto (tgt := 19) hx hb dX7_laterTurn_71 (by decide) ?_
            exact (hK0 _ _ _).mp (ih19 x68 j44l7 x53 x62 _ _ _ (by have h0 := qx68; omega) bj44l7_l bj44l7_u qx53.2.1 (Int.le_trans qx53.2.2 zq22) qx62.2.1 (Int.le_trans qx62.2.2 zq22) (hF0.trans (fl_wh_l (hSX19.trans hF1))) hP hD hS (lv_sub hl [3, 1, 2, 4, 0] rfl))
          refine lv_icmp_ne (tgt := 44) hx hb dX7_laterTurn_29 (by decide) (fun c29 => ?_) (fun c29 => ?_)
          · have gc29 := ai_ne c29
            have hF1 := hF1.trans (if_neg (show ¬ (x27.toInt = 1) from  gc29))
            exact (hK0 _ _ _).mp (J44 j19l7 _ _ _  bj19l7_l bj19l7_u hF1 hP hD hS (lv_sub hl [0, 1, 2, 3, 4] rfl))
          · have gc29 := ai_eq c29
            have u29f_x27 : x27.toInt ≤ (1 : Int) := Int.le_trans (Int.le_of_eq gc29) zq0
            have l29f_x27 : (1 : Int) ≤ x27.toInt := Int.le_trans zq1 (Int.le_of_eq gc29.symm)
            have hF1 := hF1.trans (if_pos (show x27.toInt = 1 from gc29))
            refine lv_iload hx hb dX7_laterTurn_32 (lv_at hl 3 rfl) ?_
            refine lv_iload hx hb dX7_laterTurn_34 (lv_at hl 1 rfl) ?_
            refine lv_imul hx hb dX7_laterTurn_36 ?_
            refine lv_topi (fun x36 ex36 => ?_)
            have qx36 : x36.toInt = j19l7.toInt * j19l5.toInt ∧ (0 : Int) ≤ x36.toInt ∧ x36.toInt ≤ 81 := ai_mul ex36 ⟨bj19l7_l, bj19l7_u⟩ ⟨bj19l5_l, bj19l5_u⟩ (by decide) (by decide) zq21
            have hF1 := hF1.trans (fl_lt_eq (show x36.toInt = j19l7.toInt * j19l5.toInt from qx36.1))
            refine lv_iload hx hb dX7_laterTurn_37 (lv_at hl 2 rfl) ?_
            refine lv_iadd hx hb dX7_laterTurn_39 ?_
            refine lv_topi (fun x39 ex39 => ?_)
            have qx39 : x39.toInt = x36.toInt + j19l6.toInt := ai_add ex39 ⟨qx36.2.1, qx36.2.2⟩ ⟨bj19l6_l, bj19l6_u⟩ (by decide) (by decide)
            have bx39 : (0 : Int) ≤ x39.toInt ∧ x39.toInt ≤ 90 := ⟨by rw [qx39]; exact Int.add_le_add qx36.2.1 bj19l6_l, by rw [qx39]; exact Int.add_le_add qx36.2.2 bj19l6_u⟩
            have hF1 := hF1.trans (fl_lt_eq (show x39.toInt = x36.toInt + j19l6.toInt from qx39))
            refine lv_iload_n hx hb dX7_laterTurn_40 rfl (lv_at hl 0 rfl) ?_
            refine lv_irem hx hb dX7_laterTurn_41 (ai_nz l1t_a1 (by decide)) ?_
            refine lv_topi (fun x41 ex41 => ?_)
            have qx41 := ai_rem2 ex41 bx39.1 (Int.lt_of_lt_of_le zq19 l1t_a1) ba1_u
            have hF1 := hF1.trans (fl_lt_eq (show x41.toInt = x39.toInt % a1.toInt from qx41.1))
            refine lv_istore (lv' := [(7, .int x41), (0, .int a1), (5, .int j19l5), (6, .int j19l6), (8, .int j19l8)]) hx hb dX7_laterTurn_42 hl (by decide) rfl (fun ls hl => ?_)
            exact (hK0 _ _ _).mp (J44 x41 _ _ _  qx41.2.1 (Int.le_trans qx41.2.2 zq22) hF1 hP hD hS (lv_sub hl [1, 2, 3, 0, 4] rfl))
    exact (hK0 _ _ _).mp (J19 4294967296 a5 a4 a3 a2 _ _ _ (by have h1 : (-2147483648 : Int) ≤ a5.toInt := (ai_min a5); have h2 : a5.toInt ≤ (2147483647 : Int) := (ai_max a5); omega) ba4_l ba4_u ba3_l ba3_u ba2_l ba2_u hF0 hP hD hS (lv_sub hl [4, 3, 2, 1, 0] rfl))
  · have gc1 := ai_nlt c1
    have u1f_a1 : a1.toInt ≤ (0 : Int) := Int.le_trans gc1 zq6
    have hF0 := hF0.trans (if_neg (show ¬ (0 < a1.toInt) from Int.not_lt.mpr gc1))
    refine lv_iconst (v := 0) hx hb dX7_laterTurn_4 zk_iconst_0 ?_
    have hFe : FX = 0 := hF0
    exact W.iret (v := 0) hx hb hr (fun t ht hW => ⟨⟨0, (), rfl, ⟨⟨zq5, (Int.le_trans zq6 zq7)⟩, hFe.symm⟩, by rw [ht]; exact hP, va_K.moved hW.alike hK, hD⟩, hS.F ht⟩) hS.2.2 dX7_laterTurn_5

set_option maxHeartbeats 4000000 in
set_option maxRecDepth 100000 in
theorem f_X0_aliveByLaw (l : Launch) (dC : Nat → ClassId) (dI : Nat → Nat → Nat) (sz : Nat) (a0 : Nat) (a1 : Int32) (a2 : Int32) (a0_0 : Int32) (a0_1 : Int32) (a0g_2 a0g_3 a0g_4 a0g_5 a0g_6 a0g_7 a0g_8 a0g_9 a0g_10 a0g_11 a0g_12 a0g_13 a0g_14 : Value) (ba1_l : (0 : Int) ≤ a1.toInt) (ba1_u : a1.toInt ≤ (999 : Int)) (ba2_l : (0 : Int) ≤ a2.toInt) (ba2_u : a2.toInt ≤ (999 : Int)) (ba0_0_l : (0 : Int) ≤ a0_0.toInt) (ba0_0_u : a0_0.toInt ≤ (9 : Int)) : zm l yX0_aliveByLaw wsX0_aliveByLaw ({ frames := 1, cells := 0, slots := 0, locals := 28 }) [.ref a0, .int a1, .int a2] dC dI sz [(a0, .inr (0, [.int a0_0, .int a0_1, a0g_2, a0g_3, a0g_4, a0g_5, a0g_6, a0g_7, a0g_8, a0g_9, a0g_10, a0g_11, a0g_12, a0g_13, a0g_14]))] [] (fun A U => va_Nw (.methodLinkNest RX0 72 yX7_laterTurn RX7) U) (fun A => va_Qi (fun (r : Int32) (_ : Unit) => ((0 : Int) ≤ r.toInt ∧ r.toInt ≤ (9 : Int)) ∧ r.toInt = Ff_X0_aliveByLaw a1.toInt a2.toInt a0_0.toInt a0_1.toInt) (fun (_ : Unit) (t : State) => ax_B dC dI A [(a0, .inr (0, [.int a0_0, .int a0_1, a0g_2, a0g_3, a0g_4, a0g_5, a0g_6, a0g_7, a0g_8, a0g_9, a0g_10, a0g_11, a0g_12, a0g_13, a0g_14]))] [] t) A) := by
  refine zh (cc := cX0_aliveByLaw) (maxL := 4) (ret := (some .int)) zn_RX0 rfl (Nat.le_of_ble_eq_true rfl) (fun p e s m below meth c A ls hx hb hml hr hts (hown : s.vm.findClass RX0 = some m.cls) hlocks hA hS hP hK hD hE (hl : lv_has ls 4 [(0, .ref a0), (1, .int a1), (2, .int a2)]) => ?_)
  have hE0 := hE
  generalize hFX : Ff_X0_aliveByLaw a1.toInt a2.toInt a0_0.toInt a0_1.toInt = FX at ⊢
  have hF0 := hFX.symm.trans (Ff_X0_aliveByLaw.eq_1 a1.toInt a2.toInt a0_0.toInt a0_1.toInt)
  refine lv_aload_n hx hb dX0_aliveByLaw_0 rfl (lv_at hl 0 rfl) ?_
  refine va_get (D := (dC, dI)) (ci := 0) (v := .int a0_1) (C := RX0) (T := TX0) (N := 15) hx hb hts zi_X0_aliveByLaw_0 hown hK hP 0 rfl rfl 1 (by decide) (hts (.fieldLink RX0 48 "WaxTurns$Hall" "span" "I") (List.mem_cons_of_mem _ (List.mem_append_left _ (List.mem_of_getElem? (i := 0) rfl)))) (fun _ h9 => h9) rfl dX0_aliveByLaw_1 ?_
  refine lv_if_gt (tgt := 11) hx hb dX0_aliveByLaw_4 (by decide) (fun c4 => ?_) (fun c4 => ?_)
  · have gc4 := ai_lt c4
    have l4t_a0_1 : (1 : Int) ≤ a0_1.toInt := ai_ltlo gc4 zq5
    have hF0 := hF0.trans (if_pos (show 0 < a0_1.toInt from gc4))
    refine lv_iload_n hx hb dX0_aliveByLaw_11 rfl (lv_at hl 2 rfl) ?_
    refine lv_aload_n hx hb dX0_aliveByLaw_12 rfl (lv_at hl 0 rfl) ?_
    refine va_get (D := (dC, dI)) (ci := 0) (v := .int a0_1) (C := RX0) (T := TX0) (N := 15) hx hb hts zi_X0_aliveByLaw_0 hown hK hP 0 rfl rfl 1 (by decide) (hts (.fieldLink RX0 48 "WaxTurns$Hall" "span" "I") (List.mem_cons_of_mem _ (List.mem_append_left _ (List.mem_of_getElem? (i := 0) rfl)))) (fun _ h9 => h9) rfl dX0_aliveByLaw_13 ?_
    refine lv_idiv hx hb dX0_aliveByLaw_16 (ai_nz l4t_a0_1 (by decide)) ?_
    refine lv_topi (fun x16 ex16 => ?_)
    have qx16 := ai_div ex16 ⟨ba2_l, ba2_u⟩ (Int.lt_of_lt_of_le zq19 l4t_a0_1)
    have hF0 := hF0.trans (fl_lt_eq (show x16.toInt = a2.toInt / a0_1.toInt from qx16.1))
    refine lv_istore_n (lv' := [(3, .int x16), (0, .ref a0), (1, .int a1), (2, .int a2)]) hx hb dX0_aliveByLaw_17 rfl hl (by decide) rfl (fun ls hl => ?_)
    refine lv_aload_n hx hb dX0_aliveByLaw_18 rfl (lv_at hl 1 rfl) ?_
    refine va_get (D := (dC, dI)) (ci := 0) (v := .int a0_0) (C := RX0) (T := TX0) (N := 15) hx hb hts zi_X0_aliveByLaw_0 hown hK hP 0 rfl rfl 0 (by decide) (hts (.fieldLink RX0 31 "WaxTurns$Hall" "figures" "I") (List.mem_cons_of_mem _ (List.mem_append_left _ (List.mem_of_getElem? (i := 1) rfl)))) (fun _ h9 => h9) rfl dX0_aliveByLaw_19 ?_
    refine lv_iload_n hx hb dX0_aliveByLaw_22 rfl (lv_at hl 2 rfl) ?_
    refine lv_bipush (v := 100) hx hb dX0_aliveByLaw_23 zk_bipush_100 ?_
    refine lv_idiv hx hb dX0_aliveByLaw_25 (by decide +kernel) ?_
    refine lv_topi (fun x25 ex25 => ?_)
    have qx25 := ai_div ex25 ⟨ba1_l, ba1_u⟩ (Int.lt_of_lt_of_le zq23 zq24)
    have u25z_x25 : x25.toInt ≤ (9 : Int) := (by have h1 := qx25.1; have h2 := ba1_u; have h3 : (100 : Int32).toInt = 100 := (by decide); rw [h3] at h1; omega)
    have hF0 := hF0.trans (fl_lt_eq (show x25.toInt = a1.toInt / 100 from qx25.1))
    refine lv_iload_n hx hb dX0_aliveByLaw_26 rfl (lv_at hl 2 rfl) ?_
    refine lv_bipush (v := 10) hx hb dX0_aliveByLaw_27 zk_bipush_10 ?_
    refine lv_idiv hx hb dX0_aliveByLaw_29 (by decide +kernel) ?_
    refine lv_topi (fun x29 ex29 => ?_)
    have qx29 := ai_div ex29 ⟨ba1_l, ba1_u⟩ (Int.lt_of_lt_of_le zq25 zq26)
    have u29z_x29 : x29.toInt ≤ (99 : Int) := (by have h1 := qx29.1; have h2 := ba1_u; have h3 : (10 : Int32).toInt = 10 := (by decide); rw [h3] at h1; omega)
    have hF0 := hF0.trans (fl_lt_eq (show x29.toInt = a1.toInt / 10 from qx29.1))
    refine lv_bipush (v := 10) hx hb dX0_aliveByLaw_30 zk_bipush_10 ?_
    refine lv_irem hx hb dX0_aliveByLaw_32 (by decide +kernel) ?_
    refine lv_topi (fun x32 ex32 => ?_)
    have qx32 := ai_rem2 ex32 qx29.2.1 (Int.lt_of_lt_of_le zq25 zq26) zq27
    have wx32 : x32.toInt = x29.toInt % 10 := qx32.1
    have hF0 := hF0.trans (fl_lt_eq (show x32.toInt = x29.toInt % 10 from qx32.1))
    refine lv_iload_n hx hb dX0_aliveByLaw_33 rfl (lv_at hl 2 rfl) ?_
    refine lv_bipush (v := 10) hx hb dX0_aliveByLaw_34 zk_bipush_10 ?_
    refine lv_irem hx hb dX0_aliveByLaw_36 (by decide +kernel) ?_
    refine lv_topi (fun x36 ex36 => ?_)
    have qx36 := ai_rem2 ex36 ba1_l (Int.lt_of_lt_of_le zq25 zq26) zq27
    have wx36 : x36.toInt = a1.toInt % 10 := qx36.1
    have hF0 := hF0.trans (fl_lt_eq (show x36.toInt = a1.toInt % 10 from qx36.1))
    refine lv_iload_n hx hb dX0_aliveByLaw_37 rfl (lv_at hl 0 rfl) ?_
    refine va_calli (va_runSN (As := [.int a0_0, .int x25, .int x32, .int x36, .int x16]) (rest := []) ⟨hx, hb, hml, hown, hts⟩ (f_X7_laterTurn l dC dI s.heap.size a0_0 x25 x32 x36 x16 ba0_0_l ba0_0_u qx25.2.1 u25z_x25 qx32.2.1 qx32.2.2 qx36.2.1 qx36.2.2) ⟨va_cnB 5 hts gX0_aliveByLaw_X7_laterTurn_n72 rfl rfl rfl hE0 (hts (.initialized RX7) (List.mem_cons_of_mem _ (List.mem_append_left _ (List.mem_of_getElem? (i := 3) rfl)))) zd_X7_laterTurn.2 ⟨Nat.le_of_ble_eq_true rfl, Nat.le_of_ble_eq_true rfl⟩, (hts (.static yX7_laterTurn) (List.mem_cons_of_mem _ (List.mem_append_left _ (List.mem_of_getElem? (i := 2) rfl)))), trivial⟩ ⟨ax_blind (fun _ _ _ _ _ => trivial), ax_pre (zp_P0 hP) (zp_K hK) (zp_D0 hD) (fun _ _ => trivial)⟩ rfl rfl hl.1 rfl (lv_room (Nat.le_of_ble_eq_true rfl)) dX0_aliveByLaw_38 ⟨Nat.le_of_ble_eq_true rfl, Nat.le_of_ble_eq_true rfl⟩) hS (fun q _ h => zp_F0 hD hS hA q h) (zp_F0 hD hS hA) (fun r38 u t H locs ht hvm hw hB hz1 hk1 hS1 => zo0 hB ht hP hD hk1 (zp_F0 hD hS hA) hS1 (fun hP hK1 hD hS => ?_))
    obtain ⟨hw, hfr38⟩ := hw
    have hc38 : Ff_X7_laterTurn a0_0.toInt x25.toInt x32.toInt x36.toInt x16.toInt = r38.toInt := hfr38.symm
    have hF0 := hF0.trans (fl_lt_eq hc38.symm)
    have hw : (0 : Int) ≤ r38.toInt ∧ r38.toInt ≤ (9 : Int) := hw
    obtain ⟨h38_0, h38_1⟩ := hw
    have hFe : FX = r38.toInt := hF0
    exact W.iret (v := r38) hx hb hr (fun t ht hW => ⟨⟨r38, (), rfl, ⟨⟨h38_0, h38_1⟩, hFe.symm⟩, by rw [ht]; exact hP, va_K.moved hW.alike hK, hD⟩, hS.F ht⟩) hS.2.2 dX0_aliveByLaw_41
  · have gc4 := ai_nlt c4
    have u4f_a0_1 : a0_1.toInt ≤ (0 : Int) := Int.le_trans gc4 zq6
    have hF0 := hF0.trans (if_neg (show ¬ (0 < a0_1.toInt) from Int.not_lt.mpr gc4))
    refine lv_iconst (v := 0) hx hb dX0_aliveByLaw_7 zk_iconst_0 ?_
    refine lv_goto (tgt := 17) hx hb dX0_aliveByLaw_8 (by decide) ?_
    refine lv_istore_n (lv' := [(3, .int 0), (0, .ref a0), (1, .int a1), (2, .int a2)]) hx hb dX0_aliveByLaw_17 rfl hl (by decide) rfl (fun ls hl => ?_)
    refine lv_aload_n hx hb dX0_aliveByLaw_18 rfl (lv_at hl 1 rfl) ?_
    refine va_get (D := (dC, dI)) (ci := 0) (v := .int a0_0) (C := RX0) (T := TX0) (N := 15) hx hb hts zi_X0_aliveByLaw_0 hown hK hP 0 rfl rfl 0 (by decide) (hts (.fieldLink RX0 31 "WaxTurns$Hall" "figures" "I") (List.mem_cons_of_mem _ (List.mem_append_left _ (List.mem_of_getElem? (i := 1) rfl)))) (fun _ h9 => h9) rfl dX0_aliveByLaw_19 ?_
    refine lv_iload_n hx hb dX0_aliveByLaw_22 rfl (lv_at hl 2 rfl) ?_
    refine lv_bipush (v := 100) hx hb dX0_aliveByLaw_23 zk_bipush_100 ?_
    refine lv_idiv hx hb dX0_aliveByLaw_25 (by decide +kernel) ?_
    refine lv_topi (fun x25 ex25 => ?_)
    have qx25 := ai_div ex25 ⟨ba1_l, ba1_u⟩ (Int.lt_of_lt_of_le zq23 zq24)
    have u25z_x25 : x25.toInt ≤ (9 : Int) := (by have h1 := qx25.1; have h2 := ba1_u; have h3 : (100 : Int32).toInt = 100 := (by decide); rw [h3] at h1; omega)
    have hF0 := hF0.trans (fl_lt_eq (show x25.toInt = a1.toInt / 100 from qx25.1))
    refine lv_iload_n hx hb dX0_aliveByLaw_26 rfl (lv_at hl 2 rfl) ?_
    refine lv_bipush (v := 10) hx hb dX0_aliveByLaw_27 zk_bipush_10 ?_
    refine lv_idiv hx hb dX0_aliveByLaw_29 (by decide +kernel) ?_
    refine lv_topi (fun x29 ex29 => ?_)
    have qx29 := ai_div ex29 ⟨ba1_l, ba1_u⟩ (Int.lt_of_lt_of_le zq25 zq26)
    have u29z_x29 : x29.toInt ≤ (99 : Int) := (by have h1 := qx29.1; have h2 := ba1_u; have h3 : (10 : Int32).toInt = 10 := (by decide); rw [h3] at h1; omega)
    have hF0 := hF0.trans (fl_lt_eq (show x29.toInt = a1.toInt / 10 from qx29.1))
    refine lv_bipush (v := 10) hx hb dX0_aliveByLaw_30 zk_bipush_10 ?_
    refine lv_irem hx hb dX0_aliveByLaw_32 (by decide +kernel) ?_
    refine lv_topi (fun x32 ex32 => ?_)
    have qx32 := ai_rem2 ex32 qx29.2.1 (Int.lt_of_lt_of_le zq25 zq26) zq27
    have wx32 : x32.toInt = x29.toInt % 10 := qx32.1
    have hF0 := hF0.trans (fl_lt_eq (show x32.toInt = x29.toInt % 10 from qx32.1))
    refine lv_iload_n hx hb dX0_aliveByLaw_33 rfl (lv_at hl 2 rfl) ?_
    refine lv_bipush (v := 10) hx hb dX0_aliveByLaw_34 zk_bipush_10 ?_
    refine lv_irem hx hb dX0_aliveByLaw_36 (by decide +kernel) ?_
    refine lv_topi (fun x36 ex36 => ?_)
    have qx36 := ai_rem2 ex36 ba1_l (Int.lt_of_lt_of_le zq25 zq26) zq27
    have wx36 : x36.toInt = a1.toInt % 10 := qx36.1
    have hF0 := hF0.trans (fl_lt_eq (show x36.toInt = a1.toInt % 10 from qx36.1))
    refine lv_iload_n hx hb dX0_aliveByLaw_37 rfl (lv_at hl 0 rfl) ?_
    refine va_calli (va_runSN (As := [.int a0_0, .int x25, .int x32, .int x36, .int 0]) (rest := []) ⟨hx, hb, hml, hown, hts⟩ (f_X7_laterTurn l dC dI s.heap.size a0_0 x25 x32 x36 0 ba0_0_l ba0_0_u qx25.2.1 u25z_x25 qx32.2.1 qx32.2.2 qx36.2.1 qx36.2.2) ⟨va_cnB 5 hts gX0_aliveByLaw_X7_laterTurn_n72 rfl rfl rfl hE0 (hts (.initialized RX7) (List.mem_cons_of_mem _ (List.mem_append_left _ (List.mem_of_getElem? (i := 3) rfl)))) zd_X7_laterTurn.2 ⟨Nat.le_of_ble_eq_true rfl, Nat.le_of_ble_eq_true rfl⟩, (hts (.static yX7_laterTurn) (List.mem_cons_of_mem _ (List.mem_append_left _ (List.mem_of_getElem? (i := 2) rfl)))), trivial⟩ ⟨ax_blind (fun _ _ _ _ _ => trivial), ax_pre (zp_P0 hP) (zp_K hK) (zp_D0 hD) (fun _ _ => trivial)⟩ rfl rfl hl.1 rfl (lv_room (Nat.le_of_ble_eq_true rfl)) dX0_aliveByLaw_38 ⟨Nat.le_of_ble_eq_true rfl, Nat.le_of_ble_eq_true rfl⟩) hS (fun q _ h => zp_F0 hD hS hA q h) (zp_F0 hD hS hA) (fun r38 u t H locs ht hvm hw hB hz1 hk1 hS1 => zo0 hB ht hP hD hk1 (zp_F0 hD hS hA) hS1 (fun hP hK1 hD hS => ?_))
    obtain ⟨hw, hfr38⟩ := hw
    rw [show (0 : Int32).toInt = 0 from by decide] at hfr38
    have hc38 : Ff_X7_laterTurn a0_0.toInt x25.toInt x32.toInt x36.toInt 0 = r38.toInt := hfr38.symm
    have hF0 := hF0.trans (fl_lt_eq hc38.symm)
    have hw : (0 : Int) ≤ r38.toInt ∧ r38.toInt ≤ (9 : Int) := hw
    obtain ⟨h38_0, h38_1⟩ := hw
    have hFe : FX = r38.toInt := hF0
    exact W.iret (v := r38) hx hb hr (fun t ht hW => ⟨⟨r38, (), rfl, ⟨⟨h38_0, h38_1⟩, hFe.symm⟩, by rw [ht]; exact hP, va_K.moved hW.alike hK, hD⟩, hS.F ht⟩) hS.2.2 dX0_aliveByLaw_41
end P314_14_f
section P314_15_f
set_option maxHeartbeats 4000000 in
set_option maxRecDepth 100000 in
theorem f_X8_turnBy (l : Launch) (dC : Nat → ClassId) (dI : Nat → Nat → Nat) (sz : Nat) (a0 : Nat) (a1 : Int32) (a2 : Int32) (a3 : Int32) (a4 : Int32) (a0g_0 a0g_1 a0g_2 a0g_3 a0g_4 a0g_5 a0g_6 a0g_7 a0g_8 a0g_9 a0g_10 a0g_11 a0g_12 a0g_13 a0g_14 a0g_16 a0g_17 a0g_18 a0g_19 a0g_20 a0g_21 a0g_22 a0g_23 a0g_24 a0g_25 a0g_26 a0g_27 a0g_28 a0g_29 a0g_30 a0g_31 a0g_32 a0g_33 a0g_35 a0g_36 a0g_37 a0g_38 a0g_39 : Value) (a0_15 : Nat) (a0_34 : Nat) (ka0_34 : ClassId) (fa0_34 : Nat → Int32) (ka0_15 : ClassId) (fa0_15 : Nat → Int32) (ba1_l : (0 : Int) ≤ a1.toInt) (ba1_u : a1.toInt ≤ (999 : Int)) (ba2_l : (0 : Int) ≤ a2.toInt) (ba2_u : a2.toInt ≤ (8 : Int)) (ba3_l : (0 : Int) ≤ a3.toInt) (ba3_u : a3.toInt ≤ (8 : Int)) (ba4_l : (0 : Int) ≤ a4.toInt) (ba4_u : a4.toInt ≤ (999 : Int)) (bfa0_15 : ((∀ k : Nat, 0 ≤ k → k ≤ 0 → (2 : Int) ≤ (fa0_15 k).toInt ∧ (fa0_15 k).toInt ≤ 9) ∧ (∀ k : Nat, 1 ≤ k → k ≤ 1 → (1 : Int) ≤ (fa0_15 k).toInt ∧ (fa0_15 k).toInt ≤ 20) ∧ (∀ k : Nat, 2 ≤ k → k ≤ 2 → (0 : Int) ≤ (fa0_15 k).toInt ∧ (fa0_15 k).toInt ≤ 8) ∧ (∀ k : Nat, 3 ≤ k → k ≤ 3 → (0 : Int) ≤ (fa0_15 k).toInt ∧ (fa0_15 k).toInt ≤ 100) ∧ (∀ k : Nat, 4 ≤ k → k ≤ 4 → (0 : Int) ≤ (fa0_15 k).toInt ∧ (fa0_15 k).toInt ≤ 9) ∧ (∀ k : Nat, 5 ≤ k → k ≤ 5 → (0 : Int) ≤ (fa0_15 k).toInt ∧ (fa0_15 k).toInt ≤ 3) ∧ (∀ k : Nat, 6 ≤ k → k ≤ 6 → (0 : Int) ≤ (fa0_15 k).toInt ∧ (fa0_15 k).toInt ≤ 6) ∧ (∀ k : Nat, 7 ≤ k → k ≤ 9 → (0 : Int) ≤ (fa0_15 k).toInt ∧ (fa0_15 k).toInt ≤ 8) ∧ (∀ k : Nat, 12 ≤ k → k ≤ 29 → (0 : Int) ≤ (fa0_15 k).toInt ∧ (fa0_15 k).toInt ≤ 20) ∧ (∀ k : Nat, 30 ≤ k → k ≤ 35 → (0 : Int) ≤ (fa0_15 k).toInt ∧ (fa0_15 k).toInt ≤ 8) ∧ (∀ k : Nat, 36 ≤ k → k ≤ 47 → (0 : Int) ≤ (fa0_15 k).toInt ∧ (fa0_15 k).toInt ≤ 999))) : zm l yX8_turnBy wsX8_turnBy ({ frames := 0, cells := 0, slots := 0, locals := 0 }) [.ref a0, .int a1, .int a2, .int a3, .int a4] dC dI sz [(a0, .inr (8, [a0g_0, a0g_1, a0g_2, a0g_3, a0g_4, a0g_5, a0g_6, a0g_7, a0g_8, a0g_9, a0g_10, a0g_11, a0g_12, a0g_13, a0g_14, Value.ref a0_15, a0g_16, a0g_17, a0g_18, a0g_19, a0g_20, a0g_21, a0g_22, a0g_23, a0g_24, a0g_25, a0g_26, a0g_27, a0g_28, a0g_29, a0g_30, a0g_31, a0g_32, a0g_33, Value.ref a0_34, a0g_35, a0g_36, a0g_37, a0g_38, a0g_39])), (a0_34, .inl (ka0_34, 9, .inl (fa0_34))), (a0_15, .inl (ka0_15, 156, .inl (fa0_15)))] [(ka0_34, .int), (ka0_15, .int)] (fun A _ => True) (fun A => va_Qi (fun (r : Int32) (_ : Unit) => (((0 : Int) ≤ r.toInt ∧ r.toInt ≤ 8) ∧ (a1.toInt = 0 → a2.toInt = a3.toInt → a3.toInt < (fa0_15 0).toInt → r.toInt = a3.toInt)) ∧ r.toInt = (Ff_X8_turnBy a1.toInt a2.toInt a3.toInt a4.toInt (fl_A fa0_34) (fl_A fa0_15)).1) (fun (_ : Unit) (t : State) => ∃ nfa0_34 : Nat → Int32, ((Ff_X8_turnBy a1.toInt a2.toInt a3.toInt a4.toInt (fl_A fa0_34) (fl_A fa0_15)).2 = (fl_A nfa0_34)) ∧ ax_B dC dI A [(a0, .inr (8, [a0g_0, a0g_1, a0g_2, a0g_3, a0g_4, a0g_5, a0g_6, a0g_7, a0g_8, a0g_9, a0g_10, a0g_11, a0g_12, a0g_13, a0g_14, Value.ref a0_15, a0g_16, a0g_17, a0g_18, a0g_19, a0g_20, a0g_21, a0g_22, a0g_23, a0g_24, a0g_25, a0g_26, a0g_27, a0g_28, a0g_29, a0g_30, a0g_31, a0g_32, a0g_33, Value.ref a0_34, a0g_35, a0g_36, a0g_37, a0g_38, a0g_39])), (a0_34, .inl (ka0_34, 9, .inl (nfa0_34))), (a0_15, .inl (ka0_15, 156, .inl (fa0_15)))] [(ka0_34, .int), (ka0_15, .int)] t) A) := by
  refine zh (cc := cX8_turnBy) (maxL := 9) (ret := (some .int)) zn_RX8 rfl (Nat.le_of_ble_eq_true rfl) (fun p e s m below meth c A ls hx hb hml hr hts (hown : s.vm.findClass RX8 = some m.cls) hlocks hA hS hP hK hD hE (hl : lv_has ls 9 [(0, .ref a0), (1, .int a1), (2, .int a2), (3, .int a3), (4, .int a4)]) => ?_)
  generalize hFX : Ff_X8_turnBy a1.toInt a2.toInt a3.toInt a4.toInt (fl_A fa0_34) (fl_A fa0_15) = FX at ⊢
  have hF0 := hFX.symm.trans (Ff_X8_turnBy.eq_1 a1.toInt a2.toInt a3.toInt a4.toInt (fl_A fa0_34) (fl_A fa0_15))
  refine ai_open (fun K hK0 => ?_)
  refine (hK0 _ _ _).mpr ?_
  refine lv_iconst (v := 0) hx hb dX8_turnBy_0 zk_iconst_0 ?_
  refine lv_istore (lv' := [(5, .int 0), (0, .ref a0), (1, .int a1), (2, .int a2), (3, .int a3), (4, .int a4)]) hx hb dX8_turnBy_1 hl (by decide) rfl (fun ls hl => ?_)
  have J3 : ∀ (n : Nat) (j3l5 : Int32) (j3a0_34_a : Nat → Int32) (H : Heap) (locs : List Loc) (ls : Array Slot), (10 : Int) - j3l5.toInt ≤ (n : Int) → (0 : Int) ≤ j3l5.toInt → j3l5.toInt ≤ (9 : Int) → (∀ i : Nat, i < j3l5.toNatClampNeg → (j3a0_34_a i).toInt = -1) → (FX = fl_wh (fun t9 => Sf_X8_turnBy_3_1 a1.toInt a2.toInt a3.toInt a4.toInt (fl_A fa0_15) t9.1 t9.2) (0, (fun _ => 0)) n (j3l5.toInt, (fl_A j3a0_34_a))) → va_P (dC, dI) vwCl [(a0, .inr (8, [a0g_0, a0g_1, a0g_2, a0g_3, a0g_4, a0g_5, a0g_6, a0g_7, a0g_8, a0g_9, a0g_10, a0g_11, a0g_12, a0g_13, a0g_14, Value.ref a0_15, a0g_16, a0g_17, a0g_18, a0g_19, a0g_20, a0g_21, a0g_22, a0g_23, a0g_24, a0g_25, a0g_26, a0g_27, a0g_28, a0g_29, a0g_30, a0g_31, a0g_32, a0g_33, Value.ref a0_34, a0g_35, a0g_36, a0g_37, a0g_38, a0g_39])), (a0_34, .inl (ka0_34, 9, .inl (j3a0_34_a))), (a0_15, .inl (ka0_15, 156, .inl (fa0_15)))] H → va_D A [(a0, .inr (8, [a0g_0, a0g_1, a0g_2, a0g_3, a0g_4, a0g_5, a0g_6, a0g_7, a0g_8, a0g_9, a0g_10, a0g_11, a0g_12, a0g_13, a0g_14, Value.ref a0_15, a0g_16, a0g_17, a0g_18, a0g_19, a0g_20, a0g_21, a0g_22, a0g_23, a0g_24, a0g_25, a0g_26, a0g_27, a0g_28, a0g_29, a0g_30, a0g_31, a0g_32, a0g_33, Value.ref a0_34, a0g_35, a0g_36, a0g_37, a0g_38, a0g_39])), (a0_34, .inl (ka0_34, 9, .inl (j3a0_34_a))), (a0_15, .inl (ka0_15, 156, .inl (fa0_15)))] → va_S A s.heap H locs → lv_has ls 9 [(0, .ref a0), (1, .int a1), (2, .int a2), (3, .int a3), (4, .int a4), (5, .int j3l5)] → K H locs (F0 m 3 ls []) := by
    intro n
    induction n with
    | zero =>
      intro j3l5 j3a0_34_a H locs ls hm bj3l5_l bj3l5_u mf3 hF0 hP hD hS hl
      first | exact zg_0 hm bj3l5_u (by decide) | (have h8 := ai_min j3l5; have h9 := ai_max j3l5; exact absurd hm (by omega))
    | succ n ih3 =>
      intro j3l5 j3a0_34_a H locs ls hm bj3l5_l bj3l5_u mf3 hF0 hP hD hS hl
      refine (hK0 _ _ _).mpr ?_
      have hm3 := hm
      obtain ⟨SX3, hSX3⟩ : ∃ q9, Sf_X8_turnBy_3_1 a1.toInt a2.toInt a3.toInt a4.toInt (fl_A fa0_15) j3l5.toInt (fl_A j3a0_34_a) = q9 := ⟨_, rfl⟩
      have hF1 := hSX3.symm.trans (Sf_X8_turnBy_3_1.eq_1 a1.toInt a2.toInt a3.toInt a4.toInt (fl_A fa0_15) j3l5.toInt (fl_A j3a0_34_a))
      refine lv_iload hx hb dX8_turnBy_3 (lv_at hl 5 rfl) ?_
      refine lv_bipush (v := 9) hx hb dX8_turnBy_5 zk_bipush_9 ?_
      refine lv_icmp_ge (tgt := 24) hx hb dX8_turnBy_7 (by decide) (fun c7 => ?_) (fun c7 => ?_)
      · have gc7 := ai_le c7
        have l7t_j3l5 : (9 : Int) ≤ j3l5.toInt := Int.le_trans zq2 gc7
        have hF1 := hF1.trans (if_pos (show 9 ≤ j3l5.toInt from gc7))
        have hF0 := hF0.trans (fl_wh_r (hSX3.trans hF1))
        refine lv_iload_n hx hb dX8_turnBy_24 rfl (lv_at hl 3 rfl) ?_
        refine lv_istore (lv' := [(5, .int a3), (0, .ref a0), (1, .int a1), (2, .int a2), (3, .int a3), (4, .int a4)]) hx hb dX8_turnBy_25 hl (by decide) rfl (fun ls hl => ?_)
        refine lv_iconst (v := 0) hx hb dX8_turnBy_27 zk_iconst_0 ?_
        refine lv_istore (lv' := [(6, .int 0), (5, .int a3), (0, .ref a0), (1, .int a1), (2, .int a2), (3, .int a3), (4, .int a4)]) hx hb dX8_turnBy_28 hl (by decide) rfl (fun ls hl => ?_)
        have J30 : ∀ (n : Nat) (j30l6 : Int32) (j30l5 : Int32) (j30a0_34_a : Nat → Int32) (H : Heap) (locs : List Loc) (ls : Array Slot), (1000 : Int) - j30l6.toInt ≤ (n : Int) → (0 : Int) ≤ j30l6.toInt → j30l6.toInt ≤ (999 : Int) → (0 : Int) ≤ j30l5.toInt → j30l5.toInt ≤ (8 : Int) → (tb_M j30a0_34_a j30l6.toInt) → ((a1.toInt = 0 → a2.toInt = a3.toInt → a3.toInt < (fa0_15 0).toInt → j30l5.toInt = a3.toInt)) → (FX = fl_wh (fun t9 => Sf_X8_turnBy_30_1 a1.toInt a2.toInt a4.toInt (fl_A fa0_15) t9.1 t9.2.1 t9.2.2) (0, (fun _ => 0)) n (j30l6.toInt, j30l5.toInt, (fl_A j30a0_34_a))) → va_P (dC, dI) vwCl [(a0, .inr (8, [a0g_0, a0g_1, a0g_2, a0g_3, a0g_4, a0g_5, a0g_6, a0g_7, a0g_8, a0g_9, a0g_10, a0g_11, a0g_12, a0g_13, a0g_14, Value.ref a0_15, a0g_16, a0g_17, a0g_18, a0g_19, a0g_20, a0g_21, a0g_22, a0g_23, a0g_24, a0g_25, a0g_26, a0g_27, a0g_28, a0g_29, a0g_30, a0g_31, a0g_32, a0g_33, Value.ref a0_34, a0g_35, a0g_36, a0g_37, a0g_38, a0g_39])), (a0_34, .inl (ka0_34, 9, .inl (j30a0_34_a))), (a0_15, .inl (ka0_15, 156, .inl (fa0_15)))] H → va_D A [(a0, .inr (8, [a0g_0, a0g_1, a0g_2, a0g_3, a0g_4, a0g_5, a0g_6, a0g_7, a0g_8, a0g_9, a0g_10, a0g_11, a0g_12, a0g_13, a0g_14, Value.ref a0_15, a0g_16, a0g_17, a0g_18, a0g_19, a0g_20, a0g_21, a0g_22, a0g_23, a0g_24, a0g_25, a0g_26, a0g_27, a0g_28, a0g_29, a0g_30, a0g_31, a0g_32, a0g_33, Value.ref a0_34, a0g_35, a0g_36, a0g_37, a0g_38, a0g_39])), (a0_34, .inl (ka0_34, 9, .inl (j30a0_34_a))), (a0_15, .inl (ka0_15, 156, .inl (fa0_15)))] → va_S A s.heap H locs → lv_has ls 9 [(0, .ref a0), (1, .int a1), (2, .int a2), (4, .int a4), (5, .int j30l5), (6, .int j30l6)] → K H locs (F0 m 30 ls []) := by
          intro n
          induction n with
          | zero =>
            intro j30l6 j30l5 j30a0_34_a H locs ls hm bj30l6_l bj30l6_u bj30l5_l bj30l5_u tm30 tc30 hF0 hP hD hS hl
            first | exact zg_0 hm bj30l6_u (by decide) | (have h8 := ai_min j30l6; have h9 := ai_max j30l6; exact absurd hm (by omega))
          | succ n ih30 =>
            intro j30l6 j30l5 j30a0_34_a H locs ls hm bj30l6_l bj30l6_u bj30l5_l bj30l5_u tm30 tc30 hF0 hP hD hS hl
            refine (hK0 _ _ _).mpr ?_
            have hm30 := hm
            obtain ⟨SX30, hSX30⟩ : ∃ q9, Sf_X8_turnBy_30_1 a1.toInt a2.toInt a4.toInt (fl_A fa0_15) j30l6.toInt j30l5.toInt (fl_A j30a0_34_a) = q9 := ⟨_, rfl⟩
            have hF1 := hSX30.symm.trans (Sf_X8_turnBy_30_1.eq_1 a1.toInt a2.toInt a4.toInt (fl_A fa0_15) j30l6.toInt j30l5.toInt (fl_A j30a0_34_a))
            refine lv_iload hx hb dX8_turnBy_30 (lv_at hl 5 rfl) ?_
            refine lv_iload hx hb dX8_turnBy_32 (lv_at hl 3 rfl) ?_
            have J77 : ∀ (H : Heap) (locs : List Loc) (ls : Array Slot), (FX = Gf_X8_turnBy_77_1 a1.toInt a2.toInt a4.toInt (fl_A fa0_15) j30l6.toInt j30l5.toInt (fl_A j30a0_34_a)) → va_P (dC, dI) vwCl [(a0, .inr (8, [a0g_0, a0g_1, a0g_2, a0g_3, a0g_4, a0g_5, a0g_6, a0g_7, a0g_8, a0g_9, a0g_10, a0g_11, a0g_12, a0g_13, a0g_14, Value.ref a0_15, a0g_16, a0g_17, a0g_18, a0g_19, a0g_20, a0g_21, a0g_22, a0g_23, a0g_24, a0g_25, a0g_26, a0g_27, a0g_28, a0g_29, a0g_30, a0g_31, a0g_32, a0g_33, Value.ref a0_34, a0g_35, a0g_36, a0g_37, a0g_38, a0g_39])), (a0_34, .inl (ka0_34, 9, .inl (j30a0_34_a))), (a0_15, .inl (ka0_15, 156, .inl (fa0_15)))] H → va_D A [(a0, .inr (8, [a0g_0, a0g_1, a0g_2, a0g_3, a0g_4, a0g_5, a0g_6, a0g_7, a0g_8, a0g_9, a0g_10, a0g_11, a0g_12, a0g_13, a0g_14, Value.ref a0_15, a0g_16, a0g_17, a0g_18, a0g_19, a0g_20, a0g_21, a0g_22, a0g_23, a0g_24, a0g_25, a0g_26, a0g_27, a0g_28, a0g_29, a0g_30, a0g_31, a0g_32, a0g_33, Value.ref a0_34, a0g_35, a0g_36, a0g_37, a0g_38, a0g_39])), (a0_34, .inl (ka0_34, 9, .inl (j30a0_34_a))), (a0_15, .inl (ka0_15, 156, .inl (fa0_15)))] → va_S A s.heap H locs → lv_has ls 9 [(0, .ref a0), (1, .int a1), (2, .int a2), (4, .int a4), (5, .int j30l5), (6, .int j30l6)] → K H locs (F0 m 77 ls []) := by
              intro  H locs ls  hF0 hP hD hS hl
              refine (hK0 _ _ _).mpr ?_
              have hF0 := hF0.trans (Gf_X8_turnBy_77_1.eq_1 a1.toInt a2.toInt a4.toInt (fl_A fa0_15) j30l6.toInt j30l5.toInt (fl_A j30a0_34_a))
              refine lv_iload hx hb dX8_turnBy_77 (lv_at hl 5 rfl) ?_
              refine lv_iload hx hb dX8_turnBy_79 (lv_at hl 3 rfl) ?_
              have J104 : ∀ (j104s0 : Int32) (H : Heap) (locs : List Loc) (ls : Array Slot), (FX = Gf_X8_turnBy_104_1 a1.toInt a2.toInt (fl_A fa0_15) j30l5.toInt (fl_A j30a0_34_a) j104s0.toInt) → va_P (dC, dI) vwCl [(a0, .inr (8, [a0g_0, a0g_1, a0g_2, a0g_3, a0g_4, a0g_5, a0g_6, a0g_7, a0g_8, a0g_9, a0g_10, a0g_11, a0g_12, a0g_13, a0g_14, Value.ref a0_15, a0g_16, a0g_17, a0g_18, a0g_19, a0g_20, a0g_21, a0g_22, a0g_23, a0g_24, a0g_25, a0g_26, a0g_27, a0g_28, a0g_29, a0g_30, a0g_31, a0g_32, a0g_33, Value.ref a0_34, a0g_35, a0g_36, a0g_37, a0g_38, a0g_39])), (a0_34, .inl (ka0_34, 9, .inl (j30a0_34_a))), (a0_15, .inl (ka0_15, 156, .inl (fa0_15)))] H → va_D A [(a0, .inr (8, [a0g_0, a0g_1, a0g_2, a0g_3, a0g_4, a0g_5, a0g_6, a0g_7, a0g_8, a0g_9, a0g_10, a0g_11, a0g_12, a0g_13, a0g_14, Value.ref a0_15, a0g_16, a0g_17, a0g_18, a0g_19, a0g_20, a0g_21, a0g_22, a0g_23, a0g_24, a0g_25, a0g_26, a0g_27, a0g_28, a0g_29, a0g_30, a0g_31, a0g_32, a0g_33, Value.ref a0_34, a0g_35, a0g_36, a0g_37, a0g_38, a0g_39])), (a0_34, .inl (ka0_34, 9, .inl (j30a0_34_a))), (a0_15, .inl (ka0_15, 156, .inl (fa0_15)))] → va_S A s.heap H locs → lv_has ls 9 [(0, .ref a0), (1, .int a1), (2, .int a2), (5, .int j30l5)] → K H locs (F0 m 104 ls [.int j104s0]) := by
                intro j104s0 H locs ls  hF0 hP hD hS hl
                refine (hK0 _ _ _).mpr ?_
                have hF0 := hF0.trans (Gf_X8_turnBy_104_1.eq_1 a1.toInt a2.toInt (fl_A fa0_15) j30l5.toInt (fl_A j30a0_34_a) j104s0.toInt)
                refine lv_istore (lv' := [(7, .int j104s0), (0, .ref a0), (1, .int a1), (2, .int a2), (5, .int j30l5)]) hx hb dX8_turnBy_104 hl (by decide) rfl (fun ls hl => ?_)
                refine lv_iconst (v := 0) hx hb dX8_turnBy_106 zk_iconst_0 ?_
                refine lv_istore (lv' := [(8, .int 0), (7, .int j104s0), (0, .ref a0), (1, .int a1), (2, .int a2), (5, .int j30l5)]) hx hb dX8_turnBy_107 hl (by decide) rfl (fun ls hl => ?_)
                have J109 : ∀ (n : Nat) (j109l8 : Int32) (j109l5 : Int32) (H : Heap) (locs : List Loc) (ls : Array Slot), (2147483648 : Int) - j109l8.toInt ≤ (n : Int) → (0 : Int) ≤ j109l8.toInt → (0 : Int) ≤ j109l5.toInt → j109l5.toInt ≤ (8 : Int) → ((a1.toInt = 0 → a2.toInt = a3.toInt → a3.toInt < (fa0_15 0).toInt → j109l5.toInt = a3.toInt)) → (FX = fl_wh (fun t9 => Sf_X8_turnBy_109_1 a1.toInt a2.toInt (fl_A fa0_15) (fl_A j30a0_34_a) j104s0.toInt t9.1 t9.2) (0, (fun _ => 0)) n (j109l8.toInt, j109l5.toInt)) → va_P (dC, dI) vwCl [(a0, .inr (8, [a0g_0, a0g_1, a0g_2, a0g_3, a0g_4, a0g_5, a0g_6, a0g_7, a0g_8, a0g_9, a0g_10, a0g_11, a0g_12, a0g_13, a0g_14, Value.ref a0_15, a0g_16, a0g_17, a0g_18, a0g_19, a0g_20, a0g_21, a0g_22, a0g_23, a0g_24, a0g_25, a0g_26, a0g_27, a0g_28, a0g_29, a0g_30, a0g_31, a0g_32, a0g_33, Value.ref a0_34, a0g_35, a0g_36, a0g_37, a0g_38, a0g_39])), (a0_34, .inl (ka0_34, 9, .inl (j30a0_34_a))), (a0_15, .inl (ka0_15, 156, .inl (fa0_15)))] H → va_D A [(a0, .inr (8, [a0g_0, a0g_1, a0g_2, a0g_3, a0g_4, a0g_5, a0g_6, a0g_7, a0g_8, a0g_9, a0g_10, a0g_11, a0g_12, a0g_13, a0g_14, Value.ref a0_15, a0g_16, a0g_17, a0g_18, a0g_19, a0g_20, a0g_21, a0g_22, a0g_23, a0g_24, a0g_25, a0g_26, a0g_27, a0g_28, a0g_29, a0g_30, a0g_31, a0g_32, a0g_33, Value.ref a0_34, a0g_35, a0g_36, a0g_37, a0g_38, a0g_39])), (a0_34, .inl (ka0_34, 9, .inl (j30a0_34_a))), (a0_15, .inl (ka0_15, 156, .inl (fa0_15)))] → va_S A s.heap H locs → lv_has ls 9 [(0, .ref a0), (1, .int a1), (2, .int a2), (5, .int j109l5), (7, .int j104s0), (8, .int j109l8)] → K H locs (F0 m 109 ls []) := by
                  intro n
                  induction n with
                  | zero =>
                    intro j109l8 j109l5 H locs ls hm bj109l8_l bj109l5_l bj109l5_u td109 hF0 hP hD hS hl
                    have h8 := ai_min j109l8
                    have h9 := ai_max j109l8
                    exact absurd hm (by omega)
                  | succ n ih109 =>
                    intro j109l8 j109l5 H locs ls hm bj109l8_l bj109l5_l bj109l5_u td109 hF0 hP hD hS hl
                    refine (hK0 _ _ _).mpr ?_
                    have hm109 := hm
                    obtain ⟨SX109, hSX109⟩ : ∃ q9, Sf_X8_turnBy_109_1 a1.toInt a2.toInt (fl_A fa0_15) (fl_A j30a0_34_a) j104s0.toInt j109l8.toInt j109l5.toInt = q9 := ⟨_, rfl⟩
                    have hF1 := hSX109.symm.trans (Sf_X8_turnBy_109_1.eq_1 a1.toInt a2.toInt (fl_A fa0_15) (fl_A j30a0_34_a) j104s0.toInt j109l8.toInt j109l5.toInt)
                    refine lv_iload hx hb dX8_turnBy_109 (lv_at hl 5 rfl) ?_
                    refine lv_iload hx hb dX8_turnBy_111 (lv_at hl 4 rfl) ?_
                    refine lv_icmp_ge (tgt := 137) hx hb dX8_turnBy_113 (by decide) (fun c113 => ?_) (fun c113 => ?_)
                    · have gc113 := ai_le c113
                      have hF1 := hF1.trans (if_pos (show j104s0.toInt ≤ j109l8.toInt from gc113))
                      have hF0 := hF0.trans (fl_wh_r (hSX109.trans hF1))
                      refine lv_iload hx hb dX8_turnBy_137 (lv_at hl 3 rfl) ?_
                      have hFe : FX = (j109l5.toInt, (fl_A j30a0_34_a)) := hF0
                      exact W.iret (v := j109l5) hx hb hr (fun t ht hW => ⟨⟨j109l5, (), rfl, ⟨⟨⟨bj109l5_l, bj109l5_u⟩, td109⟩, (congrArg Prod.fst hFe).symm⟩, j30a0_34_a, (congrArg Prod.snd hFe), by rw [ht]; exact hP, va_K.moved hW.alike hK, hD⟩, hS.F ht⟩) hS.2.2 dX8_turnBy_139
                    · have gc113 := ai_nle c113
                      have u113f_j109l8 : j109l8.toInt ≤ (2147483646 : Int) := ai_lthi gc113 (ai_max j104s0)
                      have l113f_j104s0 : (1 : Int) ≤ j104s0.toInt := ai_ltlo gc113 bj109l8_l
                      have hF1 := hF1.trans (if_neg (show ¬ (j104s0.toInt ≤ j109l8.toInt) from Int.not_le.mpr gc113))
                      refine lv_iload_n hx hb dX8_turnBy_116 rfl (lv_at hl 1 rfl) ?_
                      refine lv_iload hx hb dX8_turnBy_117 (lv_at hl 3 rfl) ?_
                      refine lv_imul hx hb dX8_turnBy_119 ?_
                      refine lv_topi (fun x119 ex119 => ?_)
                      have qx119 : x119.toInt = a1.toInt * j109l5.toInt ∧ (0 : Int) ≤ x119.toInt ∧ x119.toInt ≤ 7992 := ai_mul ex119 ⟨ba1_l, ba1_u⟩ ⟨bj109l5_l, bj109l5_u⟩ (by decide) (by decide) zq176
                      have hF1 := hF1.trans (fl_lt_eq (show x119.toInt = a1.toInt * j109l5.toInt from qx119.1))
                      refine lv_iload_n hx hb dX8_turnBy_120 rfl (lv_at hl 2 rfl) ?_
                      refine lv_iadd hx hb dX8_turnBy_121 ?_
                      refine lv_topi (fun x121 ex121 => ?_)
                      have qx121 : x121.toInt = x119.toInt + a2.toInt := ai_add ex121 ⟨qx119.2.1, qx119.2.2⟩ ⟨ba2_l, ba2_u⟩ (by decide) (by decide)
                      have bx121 : (0 : Int) ≤ x121.toInt ∧ x121.toInt ≤ 8000 := ⟨by rw [qx121]; exact Int.add_le_add qx119.2.1 ba2_l, by rw [qx121]; exact Int.add_le_add qx119.2.2 ba2_u⟩
                      have hF1 := hF1.trans (fl_lt_eq (show x121.toInt = x119.toInt + a2.toInt from qx121))
                      refine lv_aload_n hx hb dX8_turnBy_122 rfl (lv_at hl 0 rfl) ?_
                      refine va_get (D := (dC, dI)) (ci := 8) (v := .ref a0_15) (C := RX8) (T := TX8) (N := 40) hx hb hts zi_X8_turnBy_8 hown hK hP 0 rfl rfl 15 (by decide) (hts (.fieldLink RX8 20 "WaxTurnsModel" "\x72" "[I") (List.mem_cons_of_mem _ (List.mem_append_left _ (List.mem_of_getElem? (i := 1) rfl)))) (fun _ h9 => h9) rfl dX8_turnBy_123 ?_
                      refine lv_iconst (v := 0) hx hb dX8_turnBy_126 zk_iconst_0 ?_
                      refine va_iald hx hb hK hP 2 1 rfl rfl (by unfold vp_in; decide +kernel) dX8_turnBy_127 ?_
                      refine lv_topi (fun x127 ex127 => ?_)
                      have bx127 : (2 : Int) ≤ x127.toInt ∧ x127.toInt ≤ 9 := by rw [ex127]; exact ai_rd bfa0_15.1 zq5 zq6 (by decide) (by decide) (by decide)
                      have fqx127 := congrArg Int32.toInt ex127
                      have hF1 := hF1.trans (fl_lt_eq (show x127.toInt = (fl_A fa0_15) (0) from fqx127))
                      refine lv_irem hx hb dX8_turnBy_128 (ai_nz bx127.1 (by decide)) ?_
                      refine lv_topi (fun x128 ex128 => ?_)
                      have qx128 := ai_rem2 ex128 bx121.1 (Int.lt_of_lt_of_le zq100 bx127.1) bx127.2
                      have hF1 := hF1.trans (fl_lt_eq (show x128.toInt = x121.toInt % x127.toInt from qx128.1))
                      refine lv_istore (lv' := [(5, .int x128), (0, .ref a0), (1, .int a1), (2, .int a2), (7, .int j104s0), (8, .int j109l8)]) hx hb dX8_turnBy_129 hl (by decide) rfl (fun ls hl => ?_)
                      obtain ⟨x131, ex131⟩ : ∃ y : Int32, y = j109l8 + Int32.ofInt 1 := ⟨_, rfl⟩
                      have qx131 : x131.toInt = j109l8.toInt + 1 := ai_inc ex131 (by decide) (by decide) u113f_j109l8 (by decide)
                      have bx131 : (1 : Int) ≤ x131.toInt ∧ x131.toInt ≤ 2147483647 := ⟨by rw [qx131]; exact Int.add_le_add bj109l8_l (Int.le_refl _), by rw [qx131]; exact Int.add_le_add u113f_j109l8 (Int.le_refl _)⟩
                      refine lv_iinc (v := x131) (lv' := [(8, .int x131), (5, .int x128), (0, .ref a0), (1, .int a1), (2, .int a2), (7, .int j104s0)]) hx hb dX8_turnBy_131 hl (k := 5) rfl ex131.symm (by decide) rfl (fun ls hl => ?_)
                      have hF1 := hF1.trans (fl_lt_eq (show x131.toInt = j109l8.toInt + 1 from qx131))
                      refine lv_goto (tgt := 109) hx hb dX8_turnBy_134 (by decide) ?_
                      exact (hK0 _ _ _).mp (ih109 x131 x128 _ _ _ (by first | exact zg_s hm109 qx131 | (have h0 := qx131; omega)) (Int.le_trans zq4 bx131.1) qx128.2.1 qx128.2.2 (fun h1 h2 h3 => (tb_c h1 qx119.1 qx121 qx128.1 (by omega) (by have h4 : x127.toInt = (fa0_15 0).toInt := (by rw [ex127]; rfl); omega)).trans h2) (hF0.trans (fl_wh_l (hSX109.trans hF1))) hP hD hS (lv_sub hl [2, 3, 4, 1, 5, 0] rfl))
                exact (hK0 _ _ _).mp (J109 2147483648 0 j30l5 _ _ _ (by first | decide +kernel | (have h1 : (0 : Int) ≤ (0 : Int32).toInt := zq5; have h2 : (0 : Int32).toInt ≤ (0 : Int) := zq6; omega)) zq5 bj30l5_l bj30l5_u tc30 (by rw [show (0 : Int32).toInt = 0 from by decide]; exact hF0) hP hD hS (lv_sub hl [2, 3, 4, 5, 1, 0] rfl))
              refine lv_icmp_ge (tgt := 103) hx hb dX8_turnBy_81 (by decide) (fun c81 => ?_) (fun c81 => ?_)
              · have gc81 := ai_le c81
                have u81t_a4 : a4.toInt ≤ (999 : Int) := ba4_u
                have l81t_j30l6 : (0 : Int) ≤ j30l6.toInt := bj30l6_l
                have hF0 := hF0.trans (if_pos (show a4.toInt ≤ j30l6.toInt from gc81))
                refine lv_iconst (v := 0) hx hb dX8_turnBy_103 zk_iconst_0 ?_
                exact (hK0 _ _ _).mp (J104 0 _ _ _   (by rw [show (0 : Int32).toInt = 0 from by decide]; exact hF0) hP hD hS (lv_sub hl [0, 1, 2, 4] rfl))
              · have gc81 := ai_nle c81
                have u81f_j30l6 : j30l6.toInt ≤ (998 : Int) := ai_lthi gc81 ba4_u
                have l81f_a4 : (1 : Int) ≤ a4.toInt := ai_ltlo gc81 bj30l6_l
                have hF0 := hF0.trans (if_neg (show ¬ (a4.toInt ≤ j30l6.toInt) from Int.not_le.mpr gc81))
                refine lv_iload hx hb dX8_turnBy_84 (lv_at hl 3 rfl) ?_
                refine lv_iload hx hb dX8_turnBy_86 (lv_at hl 5 rfl) ?_
                refine lv_isub hx hb dX8_turnBy_88 ?_
                refine lv_topi (fun x88 ex88 => ?_)
                have qx88 : x88.toInt = a4.toInt - j30l6.toInt := ai_sub ex88 ⟨l81f_a4, ba4_u⟩ ⟨bj30l6_l, u81f_j30l6⟩ (by decide) (by decide)
                have bx88 : (-997 : Int) ≤ x88.toInt ∧ x88.toInt ≤ 999 := ⟨by rw [qx88]; exact Int.sub_le_sub l81f_a4 u81f_j30l6, by rw [qx88]; exact Int.sub_le_sub ba4_u bj30l6_l⟩
                have hF0 := hF0.trans (fl_lt_eq (show x88.toInt = a4.toInt - j30l6.toInt from qx88))
                refine lv_iload hx hb dX8_turnBy_89 (lv_at hl 5 rfl) ?_
                refine lv_aload_n hx hb dX8_turnBy_91 rfl (lv_at hl 0 rfl) ?_
                refine va_get (D := (dC, dI)) (ci := 8) (v := .ref a0_34) (C := RX8) (T := TX8) (N := 40) hx hb hts zi_X8_turnBy_8 hown hK hP 0 rfl rfl 34 (by decide) (hts (.fieldLink RX8 53 "WaxTurnsModel" "metAt" "[I") (List.mem_cons_of_mem _ (List.mem_append_left _ (List.mem_of_getElem? (i := 0) rfl)))) (fun _ h9 => h9) rfl dX8_turnBy_92 ?_
                refine lv_iload hx hb dX8_turnBy_95 (lv_at hl 4 rfl) ?_
                refine va_iald hx hb hK hP 1 0 rfl rfl (ai_in bj30l5_l bj30l5_u (by decide) (by decide)) dX8_turnBy_97 ?_
                refine lv_topi (fun x97 ex97 => ?_)
                have fqx97 := congrArg Int32.toInt ex97
                have hF0 := hF0.trans (fl_lt_eq (show x97.toInt = (fl_A j30a0_34_a) (j30l5.toInt.toNat) from fqx97))
                have hr97 := tb_r tm30 ex97 bj30l5_l bj30l5_u
                have l97z_x97 : (-1 : Int) ≤ x97.toInt := hr97.1
                have u97z_x97 : x97.toInt ≤ (999 : Int) := by omega
                refine lv_isub hx hb dX8_turnBy_98 ?_
                refine lv_topi (fun x98 ex98 => ?_)
                have qx98 : x98.toInt = j30l6.toInt - x97.toInt := ai_sub ex98 ⟨bj30l6_l, u81f_j30l6⟩ ⟨l97z_x97, u97z_x97⟩ (by decide) (by decide)
                have bx98 : (-999 : Int) ≤ x98.toInt ∧ x98.toInt ≤ 999 := ⟨by rw [qx98]; exact Int.sub_le_sub bj30l6_l u97z_x97, by rw [qx98]; exact Int.sub_le_sub u81f_j30l6 l97z_x97⟩
                have hF0 := hF0.trans (fl_lt_eq (show x98.toInt = j30l6.toInt - x97.toInt from qx98))
                have l98z_x98 : (1 : Int) ≤ x98.toInt := by omega
                refine lv_irem hx hb dX8_turnBy_99 (ai_nz l98z_x98 (by decide)) ?_
                refine lv_topi (fun x99 ex99 => ?_)
                have fqx99 := fl_rem_eq ex99
                have hF0 := hF0.trans (fl_lt_eq (show x99.toInt = fl_rem x88.toInt x98.toInt from fqx99))
                refine lv_goto (tgt := 104) hx hb dX8_turnBy_100 (by decide) ?_
                exact (hK0 _ _ _).mp (J104 x99 _ _ _   hF0 hP hD hS (lv_sub hl [0, 1, 2, 4] rfl))
            refine lv_icmp_ge (tgt := 77) hx hb dX8_turnBy_34 (by decide) (fun c34 => ?_) (fun c34 => ?_)
            · have gc34 := ai_le c34
              have u34t_a4 : a4.toInt ≤ (999 : Int) := ba4_u
              have l34t_j30l6 : (0 : Int) ≤ j30l6.toInt := bj30l6_l
              have hF1 := hF1.trans (if_pos (show a4.toInt ≤ j30l6.toInt from gc34))
              have hF0 := hF0.trans (fl_wh_r (hSX30.trans hF1))
              exact (hK0 _ _ _).mp (J77  _ _ _   hF0 hP hD hS (lv_sub hl [0, 1, 2, 3, 4, 5] rfl))
            · have gc34 := ai_nle c34
              have u34f_j30l6 : j30l6.toInt ≤ (998 : Int) := ai_lthi gc34 ba4_u
              have l34f_a4 : (1 : Int) ≤ a4.toInt := ai_ltlo gc34 bj30l6_l
              have hF1 := hF1.trans (if_neg (show ¬ (a4.toInt ≤ j30l6.toInt) from Int.not_le.mpr gc34))
              refine lv_aload_n hx hb dX8_turnBy_37 rfl (lv_at hl 0 rfl) ?_
              refine va_get (D := (dC, dI)) (ci := 8) (v := .ref a0_34) (C := RX8) (T := TX8) (N := 40) hx hb hts zi_X8_turnBy_8 hown hK hP 0 rfl rfl 34 (by decide) (hts (.fieldLink RX8 53 "WaxTurnsModel" "metAt" "[I") (List.mem_cons_of_mem _ (List.mem_append_left _ (List.mem_of_getElem? (i := 0) rfl)))) (fun _ h9 => h9) rfl dX8_turnBy_38 ?_
              refine lv_iload hx hb dX8_turnBy_41 (lv_at hl 4 rfl) ?_
              refine va_iald hx hb hK hP 1 0 rfl rfl (ai_in bj30l5_l bj30l5_u (by decide) (by decide)) dX8_turnBy_43 ?_
              refine lv_topi (fun x43 ex43 => ?_)
              have fqx43 := congrArg Int32.toInt ex43
              have hF1 := hF1.trans (fl_lt_eq (show x43.toInt = (fl_A j30a0_34_a) (j30l5.toInt.toNat) from fqx43))
              refine lv_if_ge (tgt := 77) hx hb dX8_turnBy_44 (by decide) (fun c44 => ?_) (fun c44 => ?_)
              · have gc44 := ai_le c44
                have l44t_x43 : (0 : Int) ≤ x43.toInt := Int.le_trans zq5 gc44
                have hF1 := hF1.trans (if_pos (show 0 ≤ x43.toInt from gc44))
                have hF0 := hF0.trans (fl_wh_r (hSX30.trans hF1))
                exact (hK0 _ _ _).mp (J77  _ _ _   hF0 hP hD hS (lv_sub hl [0, 1, 2, 3, 4, 5] rfl))
              · have gc44 := ai_nle c44
                have u44f_x43 : x43.toInt ≤ (-1 : Int) := ai_lthi gc44 zq6
                have hF1 := hF1.trans (if_neg (show ¬ (0 ≤ x43.toInt) from Int.not_le.mpr gc44))
                refine lv_aload_n hx hb dX8_turnBy_47 rfl (lv_at hl 0 rfl) ?_
                refine va_get (D := (dC, dI)) (ci := 8) (v := .ref a0_34) (C := RX8) (T := TX8) (N := 40) hx hb hts zi_X8_turnBy_8 hown hK hP 0 rfl rfl 34 (by decide) (hts (.fieldLink RX8 53 "WaxTurnsModel" "metAt" "[I") (List.mem_cons_of_mem _ (List.mem_append_left _ (List.mem_of_getElem? (i := 0) rfl)))) (fun _ h9 => h9) rfl dX8_turnBy_48 ?_
                refine lv_iload hx hb dX8_turnBy_51 (lv_at hl 4 rfl) ?_
                refine lv_iload hx hb dX8_turnBy_53 (lv_at hl 5 rfl) ?_
                refine va_iast hx hb hK hP hD hS 1 0 rfl rfl (ai_in bj30l5_l bj30l5_u (by decide) (by decide)) dX8_turnBy_55 (fun H locs hP hD hS => ?_)
                obtain ⟨f55, ef55⟩ : ∃ g9 : Nat → Int32, g9 = upd j30a0_34_a (j30l5 : Int32).toNatClampNeg j30l6 := ⟨_, rfl⟩
                refine zs_1 (y := (a0_34, .inl (ka0_34, 9, .inl (f55)))) hP hD (by rw [ef55]) (fun hP hD => ?_)
                have fqf55 := fl_up_eq ef55
                have hF1 := hF1.trans (fl_lt_eq (show (fl_A f55) = fl_up (fl_A j30a0_34_a) (j30l5.toInt.toNat) j30l6.toInt from fqf55))
                refine lv_iload_n hx hb dX8_turnBy_56 rfl (lv_at hl 1 rfl) ?_
                refine lv_iload hx hb dX8_turnBy_57 (lv_at hl 4 rfl) ?_
                refine lv_imul hx hb dX8_turnBy_59 ?_
                refine lv_topi (fun x59 ex59 => ?_)
                have qx59 : x59.toInt = a1.toInt * j30l5.toInt ∧ (0 : Int) ≤ x59.toInt ∧ x59.toInt ≤ 7992 := ai_mul ex59 ⟨ba1_l, ba1_u⟩ ⟨bj30l5_l, bj30l5_u⟩ (by decide) (by decide) zq176
                have hF1 := hF1.trans (fl_lt_eq (show x59.toInt = a1.toInt * j30l5.toInt from qx59.1))
                refine lv_iload_n hx hb dX8_turnBy_60 rfl (lv_at hl 2 rfl) ?_
                refine lv_iadd hx hb dX8_turnBy_61 ?_
                refine lv_topi (fun x61 ex61 => ?_)
                have qx61 : x61.toInt = x59.toInt + a2.toInt := ai_add ex61 ⟨qx59.2.1, qx59.2.2⟩ ⟨ba2_l, ba2_u⟩ (by decide) (by decide)
                have bx61 : (0 : Int) ≤ x61.toInt ∧ x61.toInt ≤ 8000 := ⟨by rw [qx61]; exact Int.add_le_add qx59.2.1 ba2_l, by rw [qx61]; exact Int.add_le_add qx59.2.2 ba2_u⟩
                have hF1 := hF1.trans (fl_lt_eq (show x61.toInt = x59.toInt + a2.toInt from qx61))
                refine lv_aload_n hx hb dX8_turnBy_62 rfl (lv_at hl 0 rfl) ?_
                refine va_get (D := (dC, dI)) (ci := 8) (v := .ref a0_15) (C := RX8) (T := TX8) (N := 40) hx hb hts zi_X8_turnBy_8 hown hK hP 0 rfl rfl 15 (by decide) (hts (.fieldLink RX8 20 "WaxTurnsModel" "\x72" "[I") (List.mem_cons_of_mem _ (List.mem_append_left _ (List.mem_of_getElem? (i := 1) rfl)))) (fun _ h9 => h9) rfl dX8_turnBy_63 ?_
                refine lv_iconst (v := 0) hx hb dX8_turnBy_66 zk_iconst_0 ?_
                refine va_iald hx hb hK hP 2 1 rfl rfl (by unfold vp_in; decide +kernel) dX8_turnBy_67 ?_
                refine lv_topi (fun x67 ex67 => ?_)
                have bx67 : (2 : Int) ≤ x67.toInt ∧ x67.toInt ≤ 9 := by rw [ex67]; exact ai_rd bfa0_15.1 zq5 zq6 (by decide) (by decide) (by decide)
                have fqx67 := congrArg Int32.toInt ex67
                have hF1 := hF1.trans (fl_lt_eq (show x67.toInt = (fl_A fa0_15) (0) from fqx67))
                refine lv_irem hx hb dX8_turnBy_68 (ai_nz bx67.1 (by decide)) ?_
                refine lv_topi (fun x68 ex68 => ?_)
                have qx68 := ai_rem2 ex68 bx61.1 (Int.lt_of_lt_of_le zq100 bx67.1) bx67.2
                have hF1 := hF1.trans (fl_lt_eq (show x68.toInt = x61.toInt % x67.toInt from qx68.1))
                refine lv_istore (lv' := [(5, .int x68), (0, .ref a0), (1, .int a1), (2, .int a2), (4, .int a4), (6, .int j30l6)]) hx hb dX8_turnBy_69 hl (by decide) rfl (fun ls hl => ?_)
                obtain ⟨x71, ex71⟩ : ∃ y : Int32, y = j30l6 + Int32.ofInt 1 := ⟨_, rfl⟩
                have qx71 : x71.toInt = j30l6.toInt + 1 := ai_inc ex71 (by decide) (by decide) u34f_j30l6 (by decide)
                have bx71 : (1 : Int) ≤ x71.toInt ∧ x71.toInt ≤ 999 := ⟨by rw [qx71]; exact Int.add_le_add bj30l6_l (Int.le_refl _), by rw [qx71]; exact Int.add_le_add u34f_j30l6 (Int.le_refl _)⟩
                refine lv_iinc (v := x71) (lv' := [(6, .int x71), (5, .int x68), (0, .ref a0), (1, .int a1), (2, .int a2), (4, .int a4)]) hx hb dX8_turnBy_71 hl (k := 5) rfl ex71.symm (by decide) rfl (fun ls hl => ?_)
                have hF1 := hF1.trans (fl_lt_eq (show x71.toInt = j30l6.toInt + 1 from qx71))
                refine lv_goto (tgt := 30) hx hb dX8_turnBy_74 (by decide) ?_
                exact (hK0 _ _ _).mp (ih30 x71 x68 f55 _ _ _ (by first | exact zg_s hm30 qx71 | (have h0 := qx71; omega)) (Int.le_trans zq4 bx71.1) bx71.2 qx68.2.1 qx68.2.2 (tb_s tm30 ef55 qx71 bj30l6_l) (fun h1 h2 h3 => (tb_c h1 qx59.1 qx61 qx68.1 (by omega) (by have h4 : x67.toInt = (fa0_15 0).toInt := (by rw [ex67]; rfl); omega)).trans h2) (hF0.trans (fl_wh_l (hSX30.trans hF1))) hP hD hS (lv_sub hl [2, 3, 4, 5, 1, 0] rfl))
        exact (hK0 _ _ _).mp (J30 1000 0 a3 j3a0_34_a _ _ _ (by first | decide +kernel | (have h1 : (0 : Int) ≤ (0 : Int32).toInt := zq5; have h2 : (0 : Int32).toInt ≤ (0 : Int) := zq6; omega)) zq5 (Int.le_trans zq6 zq81) ba3_l ba3_u (tb_0 mf3 (by omega) (by decide)) (fun _ _ _ => rfl) (by rw [show (0 : Int32).toInt = 0 from by decide]; exact hF0) hP hD hS (lv_sub hl [2, 3, 4, 6, 1, 0] rfl))
      · have gc7 := ai_nle c7
        have u7f_j3l5 : j3l5.toInt ≤ (8 : Int) := ai_lthi gc7 zq3
        have hF1 := hF1.trans (if_neg (show ¬ (9 ≤ j3l5.toInt) from Int.not_le.mpr gc7))
        refine lv_aload_n hx hb dX8_turnBy_10 rfl (lv_at hl 0 rfl) ?_
        refine va_get (D := (dC, dI)) (ci := 8) (v := .ref a0_34) (C := RX8) (T := TX8) (N := 40) hx hb hts zi_X8_turnBy_8 hown hK hP 0 rfl rfl 34 (by decide) (hts (.fieldLink RX8 53 "WaxTurnsModel" "metAt" "[I") (List.mem_cons_of_mem _ (List.mem_append_left _ (List.mem_of_getElem? (i := 0) rfl)))) (fun _ h9 => h9) rfl dX8_turnBy_11 ?_
        refine lv_iload hx hb dX8_turnBy_14 (lv_at hl 5 rfl) ?_
        refine lv_iconst (v := (-1)) hx hb dX8_turnBy_16 zk_iconst_n1 ?_
        refine va_iast hx hb hK hP hD hS 1 0 rfl rfl (ai_in bj3l5_l u7f_j3l5 (by decide) (by decide)) dX8_turnBy_17 (fun H locs hP hD hS => ?_)
        obtain ⟨f17, ef17⟩ : ∃ g9 : Nat → Int32, g9 = upd j3a0_34_a (j3l5 : Int32).toNatClampNeg ((-1) : Int32) := ⟨_, rfl⟩
        refine zs_1 (y := (a0_34, .inl (ka0_34, 9, .inl (f17)))) hP hD (by rw [ef17]) (fun hP hD => ?_)
        have fqf17 := fl_up_eq ef17
        have hF1 := hF1.trans (fl_lt_eq (show (fl_A f17) = fl_up (fl_A j3a0_34_a) (j3l5.toInt.toNat) (-1) from fqf17))
        obtain ⟨x18, ex18⟩ : ∃ y : Int32, y = j3l5 + Int32.ofInt 1 := ⟨_, rfl⟩
        have qx18 : x18.toInt = j3l5.toInt + 1 := ai_inc ex18 (by decide) (by decide) u7f_j3l5 (by decide)
        have bx18 : (1 : Int) ≤ x18.toInt ∧ x18.toInt ≤ 9 := ⟨by rw [qx18]; exact Int.add_le_add bj3l5_l (Int.le_refl _), by rw [qx18]; exact Int.add_le_add u7f_j3l5 (Int.le_refl _)⟩
        refine lv_iinc (v := x18) (lv' := [(5, .int x18), (0, .ref a0), (1, .int a1), (2, .int a2), (3, .int a3), (4, .int a4)]) hx hb dX8_turnBy_18 hl (k := 5) rfl ex18.symm (by decide) rfl (fun ls hl => ?_)
        have hF1 := hF1.trans (fl_lt_eq (show x18.toInt = j3l5.toInt + 1 from qx18))
        refine lv_goto (tgt := 3) hx hb dX8_turnBy_21 (by decide) ?_
        exact (hK0 _ _ _).mp (ih3 x18 f17 _ _ _ (by first | exact zg_s hm3 qx18 | (have h0 := qx18; omega)) (Int.le_trans zq4 bx18.1) bx18.2 (tb_f mf3 ef17 (by decide) qx18 bj3l5_l) (hF0.trans (fl_wh_l (hSX3.trans hF1))) hP hD hS (lv_sub hl [1, 2, 3, 4, 5, 0] rfl))
  exact (hK0 _ _ _).mp (J3 10 0 fa0_34 _ _ _ (by first | decide +kernel | (have h1 : (0 : Int) ≤ (0 : Int32).toInt := zq5; have h2 : (0 : Int32).toInt ≤ (0 : Int) := zq6; omega)) zq5 (Int.le_trans zq6 zq7) (tb_z (by decide)) (by rw [show (0 : Int32).toInt = 0 from by decide]; exact hF0) hP hD hS (lv_sub hl [1, 2, 3, 4, 5, 0] rfl))

set_option maxHeartbeats 4000000 in
set_option maxRecDepth 100000 in
theorem f_X8_codes (l : Launch) (dC : Nat → ClassId) (dI : Nat → Nat → Nat) (sz : Nat) (a0 : Nat) (a0g_0 a0g_1 a0g_2 a0g_3 a0g_4 a0g_5 a0g_6 a0g_7 a0g_8 a0g_9 a0g_10 a0g_11 a0g_12 a0g_13 a0g_14 a0g_16 a0g_17 a0g_18 a0g_19 a0g_20 a0g_21 a0g_22 a0g_23 a0g_24 a0g_25 a0g_26 a0g_27 a0g_28 a0g_29 a0g_30 a0g_31 a0g_32 a0g_33 a0g_34 a0g_35 a0g_36 a0g_37 a0g_38 a0g_39 : Value) (a0_15 : Nat) (ka0_15 : ClassId) (fa0_15 : Nat → Int32) (bfa0_15 : ((∀ k : Nat, 0 ≤ k → k ≤ 0 → (2 : Int) ≤ (fa0_15 k).toInt ∧ (fa0_15 k).toInt ≤ 9) ∧ (∀ k : Nat, 1 ≤ k → k ≤ 1 → (1 : Int) ≤ (fa0_15 k).toInt ∧ (fa0_15 k).toInt ≤ 20) ∧ (∀ k : Nat, 2 ≤ k → k ≤ 2 → (0 : Int) ≤ (fa0_15 k).toInt ∧ (fa0_15 k).toInt ≤ 8) ∧ (∀ k : Nat, 3 ≤ k → k ≤ 3 → (0 : Int) ≤ (fa0_15 k).toInt ∧ (fa0_15 k).toInt ≤ 100) ∧ (∀ k : Nat, 4 ≤ k → k ≤ 4 → (0 : Int) ≤ (fa0_15 k).toInt ∧ (fa0_15 k).toInt ≤ 9) ∧ (∀ k : Nat, 5 ≤ k → k ≤ 5 → (0 : Int) ≤ (fa0_15 k).toInt ∧ (fa0_15 k).toInt ≤ 3) ∧ (∀ k : Nat, 6 ≤ k → k ≤ 6 → (0 : Int) ≤ (fa0_15 k).toInt ∧ (fa0_15 k).toInt ≤ 6) ∧ (∀ k : Nat, 7 ≤ k → k ≤ 9 → (0 : Int) ≤ (fa0_15 k).toInt ∧ (fa0_15 k).toInt ≤ 8) ∧ (∀ k : Nat, 12 ≤ k → k ≤ 29 → (0 : Int) ≤ (fa0_15 k).toInt ∧ (fa0_15 k).toInt ≤ 20) ∧ (∀ k : Nat, 30 ≤ k → k ≤ 35 → (0 : Int) ≤ (fa0_15 k).toInt ∧ (fa0_15 k).toInt ≤ 8) ∧ (∀ k : Nat, 36 ≤ k → k ≤ 47 → (0 : Int) ≤ (fa0_15 k).toInt ∧ (fa0_15 k).toInt ≤ 999))) : zm l yX8_codes wsX8_codes ({ frames := 0, cells := 0, slots := 0, locals := 0 }) [.ref a0] dC dI sz [(a0, .inr (8, [a0g_0, a0g_1, a0g_2, a0g_3, a0g_4, a0g_5, a0g_6, a0g_7, a0g_8, a0g_9, a0g_10, a0g_11, a0g_12, a0g_13, a0g_14, Value.ref a0_15, a0g_16, a0g_17, a0g_18, a0g_19, a0g_20, a0g_21, a0g_22, a0g_23, a0g_24, a0g_25, a0g_26, a0g_27, a0g_28, a0g_29, a0g_30, a0g_31, a0g_32, a0g_33, a0g_34, a0g_35, a0g_36, a0g_37, a0g_38, a0g_39])), (a0_15, .inl (ka0_15, 156, .inl (fa0_15)))] [(ka0_15, .int)] (fun A _ => True) (fun A => va_Qi (fun (r : Int32) (_ : Unit) => ((8 : Int) ≤ r.toInt ∧ r.toInt ≤ (729 : Int)) ∧ r.toInt = Ff_X8_codes (fl_A fa0_15)) (fun (_ : Unit) (t : State) => ax_B dC dI A [(a0, .inr (8, [a0g_0, a0g_1, a0g_2, a0g_3, a0g_4, a0g_5, a0g_6, a0g_7, a0g_8, a0g_9, a0g_10, a0g_11, a0g_12, a0g_13, a0g_14, Value.ref a0_15, a0g_16, a0g_17, a0g_18, a0g_19, a0g_20, a0g_21, a0g_22, a0g_23, a0g_24, a0g_25, a0g_26, a0g_27, a0g_28, a0g_29, a0g_30, a0g_31, a0g_32, a0g_33, a0g_34, a0g_35, a0g_36, a0g_37, a0g_38, a0g_39])), (a0_15, .inl (ka0_15, 156, .inl (fa0_15)))] [(ka0_15, .int)] t) A) := by
  refine zh (cc := cX8_codes) (maxL := 1) (ret := (some .int)) zn_RX8 rfl (Nat.le_of_ble_eq_true rfl) (fun p e s m below meth c A ls hx hb hml hr hts (hown : s.vm.findClass RX8 = some m.cls) hlocks hA hS hP hK hD hE (hl : lv_has ls 1 [(0, .ref a0)]) => ?_)
  generalize hFX : Ff_X8_codes (fl_A fa0_15) = FX at ⊢
  have hF0 := hFX.symm.trans (Ff_X8_codes.eq_1 (fl_A fa0_15))
  refine lv_aload_n hx hb dX8_codes_0 rfl (lv_at hl 0 rfl) ?_
  refine va_get (D := (dC, dI)) (ci := 8) (v := .ref a0_15) (C := RX8) (T := TX8) (N := 40) hx hb hts zi_X8_codes_8 hown hK hP 0 rfl rfl 15 (by decide) (hts (.fieldLink RX8 20 "WaxTurnsModel" "\x72" "[I") (List.mem_cons_of_mem _ (List.mem_append_left _ (List.mem_of_getElem? (i := 0) rfl)))) (fun _ h9 => h9) rfl dX8_codes_1 ?_
  refine lv_iconst (v := 0) hx hb dX8_codes_4 zk_iconst_0 ?_
  refine va_iald hx hb hK hP 1 0 rfl rfl (by unfold vp_in; decide +kernel) dX8_codes_5 ?_
  refine lv_topi (fun x5 ex5 => ?_)
  have bx5 : (2 : Int) ≤ x5.toInt ∧ x5.toInt ≤ 9 := by rw [ex5]; exact ai_rd bfa0_15.1 zq5 zq6 (by decide) (by decide) (by decide)
  have fqx5 := congrArg Int32.toInt ex5
  have hF0 := hF0.trans (fl_lt_eq (show x5.toInt = (fl_A fa0_15) (0) from fqx5))
  refine lv_aload_n hx hb dX8_codes_6 rfl (lv_at hl 0 rfl) ?_
  refine va_get (D := (dC, dI)) (ci := 8) (v := .ref a0_15) (C := RX8) (T := TX8) (N := 40) hx hb hts zi_X8_codes_8 hown hK hP 0 rfl rfl 15 (by decide) (hts (.fieldLink RX8 20 "WaxTurnsModel" "\x72" "[I") (List.mem_cons_of_mem _ (List.mem_append_left _ (List.mem_of_getElem? (i := 0) rfl)))) (fun _ h9 => h9) rfl dX8_codes_7 ?_
  refine lv_iconst (v := 0) hx hb dX8_codes_10 zk_iconst_0 ?_
  refine va_iald hx hb hK hP 1 0 rfl rfl (by unfold vp_in; decide +kernel) dX8_codes_11 ?_
  refine ax_ti x5 ex5.symm ?_
  refine lv_imul hx hb dX8_codes_12 ?_
  refine lv_topi (fun x12 ex12 => ?_)
  have qx12 : x12.toInt = x5.toInt * x5.toInt ∧ (4 : Int) ≤ x12.toInt ∧ x12.toInt ≤ 81 := ai_mul ex12 ⟨bx5.1, bx5.2⟩ ⟨bx5.1, bx5.2⟩ (by decide) (by decide) zq21
  have hF0 := hF0.trans (fl_lt_eq (show x12.toInt = x5.toInt * x5.toInt from qx12.1))
  refine lv_aload_n hx hb dX8_codes_13 rfl (lv_at hl 0 rfl) ?_
  refine va_get (D := (dC, dI)) (ci := 8) (v := .ref a0_15) (C := RX8) (T := TX8) (N := 40) hx hb hts zi_X8_codes_8 hown hK hP 0 rfl rfl 15 (by decide) (hts (.fieldLink RX8 20 "WaxTurnsModel" "\x72" "[I") (List.mem_cons_of_mem _ (List.mem_append_left _ (List.mem_of_getElem? (i := 0) rfl)))) (fun _ h9 => h9) rfl dX8_codes_14 ?_
  refine lv_iconst (v := 0) hx hb dX8_codes_17 zk_iconst_0 ?_
  refine va_iald hx hb hK hP 1 0 rfl rfl (by unfold vp_in; decide +kernel) dX8_codes_18 ?_
  refine ax_ti x5 ex5.symm ?_
  refine lv_imul hx hb dX8_codes_19 ?_
  refine lv_topi (fun x19 ex19 => ?_)
  have qx19 : x19.toInt = x12.toInt * x5.toInt ∧ (8 : Int) ≤ x19.toInt ∧ x19.toInt ≤ 729 := ai_mul ex19 ⟨qx12.2.1, qx12.2.2⟩ ⟨bx5.1, bx5.2⟩ (by decide) (by decide) zq177
  have hF0 := hF0.trans (fl_lt_eq (show x19.toInt = x12.toInt * x5.toInt from qx19.1))
  have hFe : FX = x19.toInt := hF0
  exact W.iret (v := x19) hx hb hr (fun t ht hW => ⟨⟨x19, (), rfl, ⟨⟨qx19.2.1, qx19.2.2⟩, hFe.symm⟩, by rw [ht]; exact hP, va_K.moved hW.alike hK, hD⟩, hS.F ht⟩) hS.2.2 dX8_codes_20

set_option maxHeartbeats 4000000 in
set_option maxRecDepth 100000 in
theorem f_X8_byCode (l : Launch) (dC : Nat → ClassId) (dI : Nat → Nat → Nat) (sz : Nat) (a0 : Nat) (a1 : Int32) (a2 : Int32) (a0g_0 a0g_1 a0g_2 a0g_3 a0g_4 a0g_5 a0g_6 a0g_7 a0g_8 a0g_9 a0g_10 a0g_11 a0g_12 a0g_13 a0g_14 a0g_16 a0g_17 a0g_18 a0g_19 a0g_20 a0g_21 a0g_22 a0g_23 a0g_24 a0g_25 a0g_26 a0g_27 a0g_28 a0g_29 a0g_30 a0g_31 a0g_32 a0g_33 a0g_35 a0g_36 a0g_37 a0g_38 a0g_39 : Value) (a0_15 : Nat) (a0_34 : Nat) (ka0_15 : ClassId) (fa0_15 : Nat → Int32) (ka0_34 : ClassId) (fa0_34 : Nat → Int32) (ba1_l : (0 : Int) ≤ a1.toInt) (ba1_u : a1.toInt ≤ (728 : Int)) (ba2_l : (0 : Int) ≤ a2.toInt) (ba2_u : a2.toInt ≤ (999 : Int)) (bfa0_15 : ((∀ k : Nat, 0 ≤ k → k ≤ 0 → (2 : Int) ≤ (fa0_15 k).toInt ∧ (fa0_15 k).toInt ≤ 9) ∧ (∀ k : Nat, 1 ≤ k → k ≤ 1 → (1 : Int) ≤ (fa0_15 k).toInt ∧ (fa0_15 k).toInt ≤ 20) ∧ (∀ k : Nat, 2 ≤ k → k ≤ 2 → (0 : Int) ≤ (fa0_15 k).toInt ∧ (fa0_15 k).toInt ≤ 8) ∧ (∀ k : Nat, 3 ≤ k → k ≤ 3 → (0 : Int) ≤ (fa0_15 k).toInt ∧ (fa0_15 k).toInt ≤ 100) ∧ (∀ k : Nat, 4 ≤ k → k ≤ 4 → (0 : Int) ≤ (fa0_15 k).toInt ∧ (fa0_15 k).toInt ≤ 9) ∧ (∀ k : Nat, 5 ≤ k → k ≤ 5 → (0 : Int) ≤ (fa0_15 k).toInt ∧ (fa0_15 k).toInt ≤ 3) ∧ (∀ k : Nat, 6 ≤ k → k ≤ 6 → (0 : Int) ≤ (fa0_15 k).toInt ∧ (fa0_15 k).toInt ≤ 6) ∧ (∀ k : Nat, 7 ≤ k → k ≤ 9 → (0 : Int) ≤ (fa0_15 k).toInt ∧ (fa0_15 k).toInt ≤ 8) ∧ (∀ k : Nat, 12 ≤ k → k ≤ 29 → (0 : Int) ≤ (fa0_15 k).toInt ∧ (fa0_15 k).toInt ≤ 20) ∧ (∀ k : Nat, 30 ≤ k → k ≤ 35 → (0 : Int) ≤ (fa0_15 k).toInt ∧ (fa0_15 k).toInt ≤ 8) ∧ (∀ k : Nat, 36 ≤ k → k ≤ 47 → (0 : Int) ≤ (fa0_15 k).toInt ∧ (fa0_15 k).toInt ≤ 999))) : zm l yX8_byCode wsX8_byCode ({ frames := 1, cells := 0, slots := 0, locals := 28 }) [.ref a0, .int a1, .int a2] dC dI sz [(a0, .inr (8, [a0g_0, a0g_1, a0g_2, a0g_3, a0g_4, a0g_5, a0g_6, a0g_7, a0g_8, a0g_9, a0g_10, a0g_11, a0g_12, a0g_13, a0g_14, Value.ref a0_15, a0g_16, a0g_17, a0g_18, a0g_19, a0g_20, a0g_21, a0g_22, a0g_23, a0g_24, a0g_25, a0g_26, a0g_27, a0g_28, a0g_29, a0g_30, a0g_31, a0g_32, a0g_33, Value.ref a0_34, a0g_35, a0g_36, a0g_37, a0g_38, a0g_39])), (a0_15, .inl (ka0_15, 156, .inl (fa0_15))), (a0_34, .inl (ka0_34, 9, .inl (fa0_34)))] [(ka0_15, .int), (ka0_34, .int)] (fun A _ => True) (fun A => va_Qi (fun (r : Int32) (_ : Unit) => (((0 : Int) ≤ r.toInt ∧ r.toInt ≤ 8) ∧ (∀ p9 : Int, 0 ≤ p9 → p9 < (fa0_15 0).toInt → a1.toInt = p9 * (fa0_15 0).toInt + p9 → r.toInt = p9)) ∧ r.toInt = (Ff_X8_byCode a1.toInt a2.toInt (fl_A fa0_15) (fl_A fa0_34)).1) (fun (_ : Unit) (t : State) => ∃ nfa0_34 : Nat → Int32, ((Ff_X8_byCode a1.toInt a2.toInt (fl_A fa0_15) (fl_A fa0_34)).2 = (fl_A nfa0_34)) ∧ ax_B dC dI A [(a0, .inr (8, [a0g_0, a0g_1, a0g_2, a0g_3, a0g_4, a0g_5, a0g_6, a0g_7, a0g_8, a0g_9, a0g_10, a0g_11, a0g_12, a0g_13, a0g_14, Value.ref a0_15, a0g_16, a0g_17, a0g_18, a0g_19, a0g_20, a0g_21, a0g_22, a0g_23, a0g_24, a0g_25, a0g_26, a0g_27, a0g_28, a0g_29, a0g_30, a0g_31, a0g_32, a0g_33, Value.ref a0_34, a0g_35, a0g_36, a0g_37, a0g_38, a0g_39])), (a0_15, .inl (ka0_15, 156, .inl (fa0_15))), (a0_34, .inl (ka0_34, 9, .inl (nfa0_34)))] [(ka0_15, .int), (ka0_34, .int)] t) A) := by
  refine zh (cc := cX8_byCode) (maxL := 3) (ret := (some .int)) zn_RX8 rfl (Nat.le_of_ble_eq_true rfl) (fun p e s m below meth c A ls hx hb hml hr hts (hown : s.vm.findClass RX8 = some m.cls) hlocks hA hS hP hK hD hE (hl : lv_has ls 3 [(0, .ref a0), (1, .int a1), (2, .int a2)]) => ?_)
  generalize hFX : Ff_X8_byCode a1.toInt a2.toInt (fl_A fa0_15) (fl_A fa0_34) = FX at ⊢
  have hF0 := hFX.symm.trans (Ff_X8_byCode.eq_1 a1.toInt a2.toInt (fl_A fa0_15) (fl_A fa0_34))
  refine lv_aload_n hx hb dX8_byCode_0 rfl (lv_at hl 0 rfl) ?_
  refine lv_iload_n hx hb dX8_byCode_1 rfl (lv_at hl 1 rfl) ?_
  refine lv_aload_n hx hb dX8_byCode_2 rfl (lv_at hl 0 rfl) ?_
  refine va_get (D := (dC, dI)) (ci := 8) (v := .ref a0_15) (C := RX8) (T := TX8) (N := 40) hx hb hts zi_X8_byCode_8 hown hK hP 0 rfl rfl 15 (by decide) (hts (.fieldLink RX8 20 "WaxTurnsModel" "\x72" "[I") (List.mem_cons_of_mem _ (List.mem_append_left _ (List.mem_of_getElem? (i := 0) rfl)))) (fun _ h9 => h9) rfl dX8_byCode_3 ?_
  refine lv_iconst (v := 0) hx hb dX8_byCode_6 zk_iconst_0 ?_
  refine va_iald hx hb hK hP 1 0 rfl rfl (by unfold vp_in; decide +kernel) dX8_byCode_7 ?_
  refine lv_topi (fun x7 ex7 => ?_)
  have bx7 : (2 : Int) ≤ x7.toInt ∧ x7.toInt ≤ 9 := by rw [ex7]; exact ai_rd bfa0_15.1 zq5 zq6 (by decide) (by decide) (by decide)
  have fqx7 := congrArg Int32.toInt ex7
  have hF0 := hF0.trans (fl_lt_eq (show x7.toInt = (fl_A fa0_15) (0) from fqx7))
  refine lv_aload_n hx hb dX8_byCode_8 rfl (lv_at hl 0 rfl) ?_
  refine va_get (D := (dC, dI)) (ci := 8) (v := .ref a0_15) (C := RX8) (T := TX8) (N := 40) hx hb hts zi_X8_byCode_8 hown hK hP 0 rfl rfl 15 (by decide) (hts (.fieldLink RX8 20 "WaxTurnsModel" "\x72" "[I") (List.mem_cons_of_mem _ (List.mem_append_left _ (List.mem_of_getElem? (i := 0) rfl)))) (fun _ h9 => h9) rfl dX8_byCode_9 ?_
  refine lv_iconst (v := 0) hx hb dX8_byCode_12 zk_iconst_0 ?_
  refine va_iald hx hb hK hP 1 0 rfl rfl (by unfold vp_in; decide +kernel) dX8_byCode_13 ?_
  refine ax_ti x7 ex7.symm ?_
  refine lv_imul hx hb dX8_byCode_14 ?_
  refine lv_topi (fun x14 ex14 => ?_)
  have qx14 : x14.toInt = x7.toInt * x7.toInt ∧ (4 : Int) ≤ x14.toInt ∧ x14.toInt ≤ 81 := ai_mul ex14 ⟨bx7.1, bx7.2⟩ ⟨bx7.1, bx7.2⟩ (by decide) (by decide) zq21
  have hF0 := hF0.trans (fl_lt_eq (show x14.toInt = x7.toInt * x7.toInt from qx14.1))
  refine lv_idiv hx hb dX8_byCode_15 (ai_nz qx14.2.1 (by decide)) ?_
  refine lv_topi (fun x15 ex15 => ?_)
  have qx15 := ai_div ex15 ⟨ba1_l, ba1_u⟩ (Int.lt_of_lt_of_le zq178 qx14.2.1)
  have hF0 := hF0.trans (fl_lt_eq (show x15.toInt = a1.toInt / x14.toInt from qx15.1))
  refine lv_iload_n hx hb dX8_byCode_16 rfl (lv_at hl 1 rfl) ?_
  refine lv_aload_n hx hb dX8_byCode_17 rfl (lv_at hl 0 rfl) ?_
  refine va_get (D := (dC, dI)) (ci := 8) (v := .ref a0_15) (C := RX8) (T := TX8) (N := 40) hx hb hts zi_X8_byCode_8 hown hK hP 0 rfl rfl 15 (by decide) (hts (.fieldLink RX8 20 "WaxTurnsModel" "\x72" "[I") (List.mem_cons_of_mem _ (List.mem_append_left _ (List.mem_of_getElem? (i := 0) rfl)))) (fun _ h9 => h9) rfl dX8_byCode_18 ?_
  refine lv_iconst (v := 0) hx hb dX8_byCode_21 zk_iconst_0 ?_
  refine va_iald hx hb hK hP 1 0 rfl rfl (by unfold vp_in; decide +kernel) dX8_byCode_22 ?_
  refine ax_ti x7 ex7.symm ?_
  refine lv_idiv hx hb dX8_byCode_23 (ai_nz bx7.1 (by decide)) ?_
  refine lv_topi (fun x23 ex23 => ?_)
  have qx23 := ai_div ex23 ⟨ba1_l, ba1_u⟩ (Int.lt_of_lt_of_le zq100 bx7.1)
  have hF0 := hF0.trans (fl_lt_eq (show x23.toInt = a1.toInt / x7.toInt from qx23.1))
  refine lv_aload_n hx hb dX8_byCode_24 rfl (lv_at hl 0 rfl) ?_
  refine va_get (D := (dC, dI)) (ci := 8) (v := .ref a0_15) (C := RX8) (T := TX8) (N := 40) hx hb hts zi_X8_byCode_8 hown hK hP 0 rfl rfl 15 (by decide) (hts (.fieldLink RX8 20 "WaxTurnsModel" "\x72" "[I") (List.mem_cons_of_mem _ (List.mem_append_left _ (List.mem_of_getElem? (i := 0) rfl)))) (fun _ h9 => h9) rfl dX8_byCode_25 ?_
  refine lv_iconst (v := 0) hx hb dX8_byCode_28 zk_iconst_0 ?_
  refine va_iald hx hb hK hP 1 0 rfl rfl (by unfold vp_in; decide +kernel) dX8_byCode_29 ?_
  refine ax_ti x7 ex7.symm ?_
  refine lv_irem hx hb dX8_byCode_30 (ai_nz bx7.1 (by decide)) ?_
  refine lv_topi (fun x30 ex30 => ?_)
  have qx30 := ai_rem2 ex30 qx23.2.1 (Int.lt_of_lt_of_le zq100 bx7.1) bx7.2
  have hF0 := hF0.trans (fl_lt_eq (show x30.toInt = x23.toInt % x7.toInt from qx30.1))
  refine lv_iload_n hx hb dX8_byCode_31 rfl (lv_at hl 1 rfl) ?_
  refine lv_aload_n hx hb dX8_byCode_32 rfl (lv_at hl 0 rfl) ?_
  refine va_get (D := (dC, dI)) (ci := 8) (v := .ref a0_15) (C := RX8) (T := TX8) (N := 40) hx hb hts zi_X8_byCode_8 hown hK hP 0 rfl rfl 15 (by decide) (hts (.fieldLink RX8 20 "WaxTurnsModel" "\x72" "[I") (List.mem_cons_of_mem _ (List.mem_append_left _ (List.mem_of_getElem? (i := 0) rfl)))) (fun _ h9 => h9) rfl dX8_byCode_33 ?_
  refine lv_iconst (v := 0) hx hb dX8_byCode_36 zk_iconst_0 ?_
  refine va_iald hx hb hK hP 1 0 rfl rfl (by unfold vp_in; decide +kernel) dX8_byCode_37 ?_
  refine ax_ti x7 ex7.symm ?_
  refine lv_irem hx hb dX8_byCode_38 (ai_nz bx7.1 (by decide)) ?_
  refine lv_topi (fun x38 ex38 => ?_)
  have qx38 := ai_rem2 ex38 ba1_l (Int.lt_of_lt_of_le zq100 bx7.1) bx7.2
  have hF0 := hF0.trans (fl_lt_eq (show x38.toInt = a1.toInt % x7.toInt from qx38.1))
  refine lv_iload_n hx hb dX8_byCode_39 rfl (lv_at hl 2 rfl) ?_
  refine zc_cutc (wc := [(a0, .inr (8, [a0g_0, a0g_1, a0g_2, a0g_3, a0g_4, a0g_5, a0g_6, a0g_7, a0g_8, a0g_9, a0g_10, a0g_11, a0g_12, a0g_13, a0g_14, Value.ref a0_15, a0g_16, a0g_17, a0g_18, a0g_19, a0g_20, a0g_21, a0g_22, a0g_23, a0g_24, a0g_25, a0g_26, a0g_27, a0g_28, a0g_29, a0g_30, a0g_31, a0g_32, a0g_33, Value.ref a0_34, a0g_35, a0g_36, a0g_37, a0g_38, a0g_39])), (a0_34, .inl (ka0_34, 9, .inl (fa0_34))), (a0_15, .inl (ka0_15, 156, .inl (fa0_15)))]) hP hD hS hA [0, 2, 1] (by decide +kernel) rfl (fun hPc hDc hFc hCc => ?_)
  have hKc := hK.sub (tys' := [(ka0_34, .int), (ka0_15, .int)]) [1, 0] rfl
  refine va_calli (va_runV (As := [.int x15, .int x30, .int x38, .int a2]) (rest := []) ⟨hx, hb, hml, hown, hts⟩ (f_X8_turnBy l dC dI s.heap.size a0 x15 x30 x38 a2 a0g_0 a0g_1 a0g_2 a0g_3 a0g_4 a0g_5 a0g_6 a0g_7 a0g_8 a0g_9 a0g_10 a0g_11 a0g_12 a0g_13 a0g_14 a0g_16 a0g_17 a0g_18 a0g_19 a0g_20 a0g_21 a0g_22 a0g_23 a0g_24 a0g_25 a0g_26 a0g_27 a0g_28 a0g_29 a0g_30 a0g_31 a0g_32 a0g_33 a0g_35 a0g_36 a0g_37 a0g_38 a0g_39 a0_15 a0_34 ka0_34 fa0_34 ka0_15 fa0_15 qx15.2.1 (Int.le_trans qx15.2.2 zq179) qx30.2.1 qx30.2.2 qx38.2.1 qx38.2.2 ba2_l ba2_u bfa0_15) (cwV 4 hts gX8_byCode_X8_turnBy rfl rfl rfl zd_X8_turnBy ⟨Nat.le_of_ble_eq_true rfl, Nat.le_of_ble_eq_true rfl⟩) ⟨ax_blind (fun _ _ _ _ _ => trivial), zr_8 hKc hPc (q0 := 0) rfl, ax_pre hPc hKc hDc (fun _ _ => trivial)⟩ rfl rfl hl.1 rfl (lv_room (Nat.le_of_ble_eq_true rfl)) dX8_byCode_40 ⟨Nat.le_of_ble_eq_true rfl, Nat.le_of_ble_eq_true rfl⟩) hS (fun q _ h => hFc q h) hFc (fun r40 u t H locs ht hvm hw => zx_1 (fun v40nfa0_34 => zy_1 (fun hraw40_0 hB hz1 hk1 hS1 => zo hB ht hS1 (fun hP1 hK1 hD1 hS => ?_))))
  refine zc_backc (w := [(a0, .inr (8, [a0g_0, a0g_1, a0g_2, a0g_3, a0g_4, a0g_5, a0g_6, a0g_7, a0g_8, a0g_9, a0g_10, a0g_11, a0g_12, a0g_13, a0g_14, Value.ref a0_15, a0g_16, a0g_17, a0g_18, a0g_19, a0g_20, a0g_21, a0g_22, a0g_23, a0g_24, a0g_25, a0g_26, a0g_27, a0g_28, a0g_29, a0g_30, a0g_31, a0g_32, a0g_33, Value.ref a0_34, a0g_35, a0g_36, a0g_37, a0g_38, a0g_39])), (a0_15, .inl (ka0_15, 156, .inl (fa0_15))), (a0_34, .inl (ka0_34, 9, .inl (v40nfa0_34)))]) hP hD hCc hk1 hFc hP1 hD1 [.inr 0, .inr 2, .inr 1] (by decide +kernel) rfl (fun hP hD => ?_)
  obtain ⟨hw, hfr40⟩ := hw
  have hc40 : Ff_X8_turnBy x15.toInt x30.toInt x38.toInt a2.toInt (fl_A fa0_34) (fl_A fa0_15) = (r40.toInt, (fl_A v40nfa0_34)) := Prod.ext hfr40.symm hraw40_0
  have hF0 := hF0.trans (fl_c2_eq hc40)
  rcases hw with hw
  · obtain ⟨⟨lr40, ur40⟩, mr40⟩ := hw
    have hFe : FX = (r40.toInt, (fl_A v40nfa0_34)) := hF0
    exact W.iret (v := r40) hx hb hr (fun t ht hW => ⟨⟨r40, (), rfl, ⟨⟨⟨lr40, ur40⟩, (fun p9 h1 h2 h3 => by have e7 : x7.toInt = (fa0_15 0).toInt := (by rw [ex7]; rfl); rw [← e7] at h2 h3; obtain ⟨e1, e2, e3⟩ := bc_ok bx7.1 bx7.2 h1 h2 h3; exact (mr40 (by rw [qx15.1, qx14.1]; exact e1) (by rw [qx30.1, qx23.1, qx38.1, e2, e3]) (by rw [← e7, qx38.1, e3]; exact h2)).trans (by rw [qx38.1, e3]))⟩, (congrArg Prod.fst hFe).symm⟩, v40nfa0_34, (congrArg Prod.snd hFe), by rw [ht]; exact hP, va_K.moved hW.alike hK, hD⟩, hS.F ht⟩) hS.2.2 dX8_byCode_43
end P314_15_f
section P314_16_f
set_option maxHeartbeats 4000000 in
set_option maxRecDepth 100000 in
theorem f_X8_doesFit (l : Launch) (dC : Nat → ClassId) (dI : Nat → Nat → Nat) (sz : Nat) (a0 : Nat) (a1 : Int32) (a0g_0 a0g_1 a0g_2 a0g_3 a0g_4 a0g_5 a0g_6 a0g_7 a0g_8 a0g_9 a0g_10 a0g_11 a0g_12 a0g_13 a0g_14 a0g_16 a0g_17 a0g_18 a0g_19 a0g_20 a0g_21 a0g_22 a0g_23 a0g_24 a0g_25 a0g_26 a0g_27 a0g_28 a0g_29 a0g_30 a0g_31 a0g_32 a0g_33 a0g_35 a0g_36 a0g_37 a0g_38 a0g_39 : Value) (a0_15 : Nat) (a0_34 : Nat) (ka0_15 : ClassId) (fa0_15 : Nat → Int32) (ka0_34 : ClassId) (fa0_34 : Nat → Int32) (ba1_l : (0 : Int) ≤ a1.toInt) (ba1_u : a1.toInt ≤ (728 : Int)) (bfa0_15 : ((∀ k : Nat, 0 ≤ k → k ≤ 0 → (2 : Int) ≤ (fa0_15 k).toInt ∧ (fa0_15 k).toInt ≤ 9) ∧ (∀ k : Nat, 1 ≤ k → k ≤ 1 → (1 : Int) ≤ (fa0_15 k).toInt ∧ (fa0_15 k).toInt ≤ 20) ∧ (∀ k : Nat, 2 ≤ k → k ≤ 2 → (0 : Int) ≤ (fa0_15 k).toInt ∧ (fa0_15 k).toInt ≤ 8) ∧ (∀ k : Nat, 3 ≤ k → k ≤ 3 → (0 : Int) ≤ (fa0_15 k).toInt ∧ (fa0_15 k).toInt ≤ 100) ∧ (∀ k : Nat, 4 ≤ k → k ≤ 4 → (0 : Int) ≤ (fa0_15 k).toInt ∧ (fa0_15 k).toInt ≤ 9) ∧ (∀ k : Nat, 5 ≤ k → k ≤ 5 → (0 : Int) ≤ (fa0_15 k).toInt ∧ (fa0_15 k).toInt ≤ 3) ∧ (∀ k : Nat, 6 ≤ k → k ≤ 6 → (0 : Int) ≤ (fa0_15 k).toInt ∧ (fa0_15 k).toInt ≤ 6) ∧ (∀ k : Nat, 7 ≤ k → k ≤ 9 → (0 : Int) ≤ (fa0_15 k).toInt ∧ (fa0_15 k).toInt ≤ 8) ∧ (∀ k : Nat, 12 ≤ k → k ≤ 29 → (0 : Int) ≤ (fa0_15 k).toInt ∧ (fa0_15 k).toInt ≤ 20) ∧ (∀ k : Nat, 30 ≤ k → k ≤ 35 → (0 : Int) ≤ (fa0_15 k).toInt ∧ (fa0_15 k).toInt ≤ 8) ∧ (∀ k : Nat, 36 ≤ k → k ≤ 47 → (0 : Int) ≤ (fa0_15 k).toInt ∧ (fa0_15 k).toInt ≤ 999))) : zm l yX8_doesFit wsX8_doesFit ({ frames := 2, cells := 0, slots := 0, locals := 50 }) [.ref a0, .int a1] dC dI sz [(a0, .inr (8, [a0g_0, a0g_1, a0g_2, a0g_3, a0g_4, a0g_5, a0g_6, a0g_7, a0g_8, a0g_9, a0g_10, a0g_11, a0g_12, a0g_13, a0g_14, Value.ref a0_15, a0g_16, a0g_17, a0g_18, a0g_19, a0g_20, a0g_21, a0g_22, a0g_23, a0g_24, a0g_25, a0g_26, a0g_27, a0g_28, a0g_29, a0g_30, a0g_31, a0g_32, a0g_33, Value.ref a0_34, a0g_35, a0g_36, a0g_37, a0g_38, a0g_39])), (a0_15, .inl (ka0_15, 156, .inl (fa0_15))), (a0_34, .inl (ka0_34, 9, .inl (fa0_34)))] [(ka0_15, .int), (ka0_34, .int)] (fun A _ => True) (fun A => va_Qi (fun (r : Int32) (_ : Unit) => ((r = 1) ∨ (r = 0)) ∧ r.toInt = (Ff_X8_doesFit a1.toInt (fl_A fa0_15) (fl_A fa0_34)).1) (fun (_ : Unit) (t : State) => ∃ nfa0_34 : Nat → Int32, ((Ff_X8_doesFit a1.toInt (fl_A fa0_15) (fl_A fa0_34)).2 = (fl_A nfa0_34)) ∧ ax_B dC dI A [(a0, .inr (8, [a0g_0, a0g_1, a0g_2, a0g_3, a0g_4, a0g_5, a0g_6, a0g_7, a0g_8, a0g_9, a0g_10, a0g_11, a0g_12, a0g_13, a0g_14, Value.ref a0_15, a0g_16, a0g_17, a0g_18, a0g_19, a0g_20, a0g_21, a0g_22, a0g_23, a0g_24, a0g_25, a0g_26, a0g_27, a0g_28, a0g_29, a0g_30, a0g_31, a0g_32, a0g_33, Value.ref a0_34, a0g_35, a0g_36, a0g_37, a0g_38, a0g_39])), (a0_15, .inl (ka0_15, 156, .inl (fa0_15))), (a0_34, .inl (ka0_34, 9, .inl (nfa0_34)))] [(ka0_15, .int), (ka0_34, .int)] t) A) := by
  refine zh (cc := cX8_doesFit) (maxL := 3) (ret := (some .boolean)) zn_RX8 rfl (Nat.le_of_ble_eq_true rfl) (fun p e s m below meth c A ls hx hb hml hr hts (hown : s.vm.findClass RX8 = some m.cls) hlocks hA hS hP hK hD hE (hl : lv_has ls 3 [(0, .ref a0), (1, .int a1)]) => ?_)
  generalize hFX : Ff_X8_doesFit a1.toInt (fl_A fa0_15) (fl_A fa0_34) = FX at ⊢
  have hF0 := hFX.symm.trans (Ff_X8_doesFit.eq_1 a1.toInt (fl_A fa0_15) (fl_A fa0_34))
  refine ai_open (fun K hK0 => ?_)
  refine (hK0 _ _ _).mpr ?_
  refine lv_iconst (v := 0) hx hb dX8_doesFit_0 zk_iconst_0 ?_
  refine lv_istore_n (lv' := [(2, .int 0), (0, .ref a0), (1, .int a1)]) hx hb dX8_doesFit_1 rfl hl (by decide) rfl (fun ls hl => ?_)
  have J2 : ∀ (n : Nat) (j2l2 : Int32) (j2a0_34_a : Nat → Int32) (H : Heap) (locs : List Loc) (ls : Array Slot), (7 : Int) - j2l2.toInt ≤ (n : Int) → (0 : Int) ≤ j2l2.toInt → j2l2.toInt ≤ (6 : Int) → (FX = fl_wh (fun t9 => Sf_X8_doesFit_2_1 a1.toInt (fl_A fa0_15) t9.1 t9.2) (0, (fun _ => 0)) n (j2l2.toInt, (fl_A j2a0_34_a))) → va_P (dC, dI) vwCl [(a0, .inr (8, [a0g_0, a0g_1, a0g_2, a0g_3, a0g_4, a0g_5, a0g_6, a0g_7, a0g_8, a0g_9, a0g_10, a0g_11, a0g_12, a0g_13, a0g_14, Value.ref a0_15, a0g_16, a0g_17, a0g_18, a0g_19, a0g_20, a0g_21, a0g_22, a0g_23, a0g_24, a0g_25, a0g_26, a0g_27, a0g_28, a0g_29, a0g_30, a0g_31, a0g_32, a0g_33, Value.ref a0_34, a0g_35, a0g_36, a0g_37, a0g_38, a0g_39])), (a0_15, .inl (ka0_15, 156, .inl (fa0_15))), (a0_34, .inl (ka0_34, 9, .inl (j2a0_34_a)))] H → va_D A [(a0, .inr (8, [a0g_0, a0g_1, a0g_2, a0g_3, a0g_4, a0g_5, a0g_6, a0g_7, a0g_8, a0g_9, a0g_10, a0g_11, a0g_12, a0g_13, a0g_14, Value.ref a0_15, a0g_16, a0g_17, a0g_18, a0g_19, a0g_20, a0g_21, a0g_22, a0g_23, a0g_24, a0g_25, a0g_26, a0g_27, a0g_28, a0g_29, a0g_30, a0g_31, a0g_32, a0g_33, Value.ref a0_34, a0g_35, a0g_36, a0g_37, a0g_38, a0g_39])), (a0_15, .inl (ka0_15, 156, .inl (fa0_15))), (a0_34, .inl (ka0_34, 9, .inl (j2a0_34_a)))] → va_S A s.heap H locs → lv_has ls 3 [(0, .ref a0), (1, .int a1), (2, .int j2l2)] → K H locs (F0 m 2 ls []) := by
    intro n
    induction n with
    | zero =>
      intro j2l2 j2a0_34_a H locs ls hm bj2l2_l bj2l2_u hF0 hP hD hS hl
      first | exact zg_0 hm bj2l2_u (by decide) | (have h8 := ai_min j2l2; have h9 := ai_max j2l2; exact absurd hm (by omega))
    | succ n ih2 =>
      intro j2l2 j2a0_34_a H locs ls hm bj2l2_l bj2l2_u hF0 hP hD hS hl
      refine (hK0 _ _ _).mpr ?_
      have hm2 := hm
      obtain ⟨SX2, hSX2⟩ : ∃ q9, Sf_X8_doesFit_2_1 a1.toInt (fl_A fa0_15) j2l2.toInt (fl_A j2a0_34_a) = q9 := ⟨_, rfl⟩
      have hF1 := hSX2.symm.trans (Sf_X8_doesFit_2_1.eq_1 a1.toInt (fl_A fa0_15) j2l2.toInt (fl_A j2a0_34_a))
      refine lv_iload_n hx hb dX8_doesFit_2 rfl (lv_at hl 2 rfl) ?_
      refine lv_aload_n hx hb dX8_doesFit_3 rfl (lv_at hl 0 rfl) ?_
      refine va_get (D := (dC, dI)) (ci := 8) (v := .ref a0_15) (C := RX8) (T := TX8) (N := 40) hx hb hts zi_X8_doesFit_8 hown hK hP 0 rfl rfl 15 (by decide) (hts (.fieldLink RX8 20 "WaxTurnsModel" "\x72" "[I") (List.mem_cons_of_mem _ (List.mem_append_left _ (List.mem_of_getElem? (i := 0) rfl)))) (fun _ h9 => h9) rfl dX8_doesFit_4 ?_
      refine lv_bipush (v := 6) hx hb dX8_doesFit_7 zk_bipush_6 ?_
      refine va_iald hx hb hK hP 1 0 rfl rfl (by unfold vp_in; decide +kernel) dX8_doesFit_9 ?_
      refine lv_topi (fun x9 ex9 => ?_)
      have bx9 : (0 : Int) ≤ x9.toInt ∧ x9.toInt ≤ 6 := by rw [ex9]; exact ai_rd bfa0_15.2.2.2.2.2.2.1 zq15 zq16 (by decide) (by decide) (by decide)
      have fqx9 := congrArg Int32.toInt ex9
      have hF1 := hF1.trans (fl_lt_eq (show x9.toInt = (fl_A fa0_15) (6) from fqx9))
      refine lv_icmp_ge (tgt := 60) hx hb dX8_doesFit_10 (by decide) (fun c10 => ?_) (fun c10 => ?_)
      · have gc10 := ai_le c10
        have u10t_x9 : x9.toInt ≤ (6 : Int) := bx9.2
        have l10t_j2l2 : (0 : Int) ≤ j2l2.toInt := bj2l2_l
        have hF1 := hF1.trans (if_pos (show x9.toInt ≤ j2l2.toInt from gc10))
        have hF0 := hF0.trans (fl_wh_r (hSX2.trans hF1))
        refine lv_iconst (v := 1) hx hb dX8_doesFit_60 zk_iconst_1 ?_
        have hFe : FX = (1, (fl_A j2a0_34_a)) := hF0
        exact W.zret (v := 1) hx hb hr rfl (fun t ht hW => ⟨⟨1, (), rfl, ⟨(Or.inl (rfl)), (congrArg Prod.fst hFe).symm⟩, j2a0_34_a, (congrArg Prod.snd hFe), by rw [ht]; exact hP, va_K.moved hW.alike hK, hD⟩, hS.F ht⟩) hS.2.2 dX8_doesFit_61
      · have gc10 := ai_nle c10
        have u10f_j2l2 : j2l2.toInt ≤ (5 : Int) := ai_lthi gc10 bx9.2
        have l10f_x9 : (1 : Int) ≤ x9.toInt := ai_ltlo gc10 bj2l2_l
        have hF1 := hF1.trans (if_neg (show ¬ (x9.toInt ≤ j2l2.toInt) from Int.not_le.mpr gc10))
        refine lv_aload_n hx hb dX8_doesFit_13 rfl (lv_at hl 0 rfl) ?_
        refine lv_iload_n hx hb dX8_doesFit_14 rfl (lv_at hl 1 rfl) ?_
        refine lv_aload_n hx hb dX8_doesFit_15 rfl (lv_at hl 0 rfl) ?_
        refine va_get (D := (dC, dI)) (ci := 8) (v := .ref a0_15) (C := RX8) (T := TX8) (N := 40) hx hb hts zi_X8_doesFit_8 hown hK hP 0 rfl rfl 15 (by decide) (hts (.fieldLink RX8 20 "WaxTurnsModel" "\x72" "[I") (List.mem_cons_of_mem _ (List.mem_append_left _ (List.mem_of_getElem? (i := 0) rfl)))) (fun _ h9 => h9) rfl dX8_doesFit_16 ?_
        refine lv_bipush (v := 36) hx hb dX8_doesFit_19 zk_bipush_36 ?_
        refine lv_iconst (v := 2) hx hb dX8_doesFit_21 zk_iconst_2 ?_
        refine lv_iload_n hx hb dX8_doesFit_22 rfl (lv_at hl 2 rfl) ?_
        refine lv_imul hx hb dX8_doesFit_23 ?_
        refine lv_topi (fun x23 ex23 => ?_)
        have qx23 : x23.toInt = (2 : Int32).toInt * j2l2.toInt ∧ (0 : Int) ≤ x23.toInt ∧ x23.toInt ≤ 10 := ai_mul ex23 ⟨zq12, zq13⟩ ⟨bj2l2_l, u10f_j2l2⟩ (by decide) (by decide) zq181
        have wx23 : x23.toInt = 2 * j2l2.toInt := qx23.1
        have hF1 := hF1.trans (fl_lt_eq (show x23.toInt = 2 * j2l2.toInt from qx23.1))
        refine lv_iadd hx hb dX8_doesFit_24 ?_
        refine lv_topi (fun x24 ex24 => ?_)
        have qx24 : x24.toInt = (36 : Int32).toInt + x23.toInt := ai_add ex24 ⟨zq182, zq183⟩ ⟨qx23.2.1, qx23.2.2⟩ (by decide) (by decide)
        have bx24 : (36 : Int) ≤ x24.toInt ∧ x24.toInt ≤ 46 := ⟨by rw [qx24]; exact Int.add_le_add zq182 qx23.2.1, by rw [qx24]; exact Int.add_le_add zq183 qx23.2.2⟩
        have wx24 : x24.toInt = 36 + x23.toInt := qx24
        have hF1 := hF1.trans (fl_lt_eq (show x24.toInt = 36 + x23.toInt from qx24))
        refine lv_iconst (v := 1) hx hb dX8_doesFit_25 zk_iconst_1 ?_
        refine lv_iadd hx hb dX8_doesFit_26 ?_
        refine lv_topi (fun x26 ex26 => ?_)
        have qx26 : x26.toInt = x24.toInt + (1 : Int32).toInt := ai_add ex26 ⟨bx24.1, bx24.2⟩ ⟨zq1, zq0⟩ (by decide) (by decide)
        have bx26 : (37 : Int) ≤ x26.toInt ∧ x26.toInt ≤ 47 := ⟨by rw [qx26]; exact Int.add_le_add bx24.1 zq1, by rw [qx26]; exact Int.add_le_add bx24.2 zq0⟩
        have wx26 : x26.toInt = x24.toInt + 1 := qx26
        have hF1 := hF1.trans (fl_lt_eq (show x26.toInt = x24.toInt + 1 from qx26))
        refine va_iald hx hb hK hP 1 0 rfl rfl (ai_in bx26.1 bx26.2 (by decide) (by decide)) dX8_doesFit_27 ?_
        refine lv_topi (fun x27 ex27 => ?_)
        have bx27 : (0 : Int) ≤ x27.toInt ∧ x27.toInt ≤ 999 := by rw [ex27]; exact ai_rd bfa0_15.2.2.2.2.2.2.2.2.2.2 bx26.1 bx26.2 (by decide) (by decide) (by decide)
        have fqx27 := congrArg Int32.toInt ex27
        have hF1 := hF1.trans (fl_lt_eq (show x27.toInt = (fl_A fa0_15) (x26.toInt.toNat) from fqx27))
        refine lv_aload_n hx hb dX8_doesFit_28 rfl (lv_at hl 0 rfl) ?_
        refine va_get (D := (dC, dI)) (ci := 8) (v := .ref a0_15) (C := RX8) (T := TX8) (N := 40) hx hb hts zi_X8_doesFit_8 hown hK hP 0 rfl rfl 15 (by decide) (hts (.fieldLink RX8 20 "WaxTurnsModel" "\x72" "[I") (List.mem_cons_of_mem _ (List.mem_append_left _ (List.mem_of_getElem? (i := 0) rfl)))) (fun _ h9 => h9) rfl dX8_doesFit_29 ?_
        refine lv_iconst (v := 1) hx hb dX8_doesFit_32 zk_iconst_1 ?_
        refine va_iald hx hb hK hP 1 0 rfl rfl (by unfold vp_in; decide +kernel) dX8_doesFit_33 ?_
        refine lv_topi (fun x33 ex33 => ?_)
        have bx33 : (1 : Int) ≤ x33.toInt ∧ x33.toInt ≤ 20 := by rw [ex33]; exact ai_rd bfa0_15.2.1 zq1 zq0 (by decide) (by decide) (by decide)
        have fqx33 := congrArg Int32.toInt ex33
        have hF1 := hF1.trans (fl_lt_eq (show x33.toInt = (fl_A fa0_15) (1) from fqx33))
        refine lv_idiv hx hb dX8_doesFit_34 (ai_nz bx33.1 (by decide)) ?_
        refine lv_topi (fun x34 ex34 => ?_)
        have qx34 := ai_div ex34 ⟨bx27.1, bx27.2⟩ (Int.lt_of_lt_of_le zq19 bx33.1)
        have hF1 := hF1.trans (fl_lt_eq (show x34.toInt = x27.toInt / x33.toInt from qx34.1))
        have hKc := hK.sub (tys' := [(ka0_15, .int), (ka0_34, .int)]) [0, 1] rfl
        refine va_calli (va_runV (As := [.int a1, .int x34]) (rest := []) ⟨hx, hb, hml, hown, hts⟩ (f_X8_byCode l dC dI H.size a0 a1 x34 a0g_0 a0g_1 a0g_2 a0g_3 a0g_4 a0g_5 a0g_6 a0g_7 a0g_8 a0g_9 a0g_10 a0g_11 a0g_12 a0g_13 a0g_14 a0g_16 a0g_17 a0g_18 a0g_19 a0g_20 a0g_21 a0g_22 a0g_23 a0g_24 a0g_25 a0g_26 a0g_27 a0g_28 a0g_29 a0g_30 a0g_31 a0g_32 a0g_33 a0g_35 a0g_36 a0g_37 a0g_38 a0g_39 a0_15 a0_34 ka0_15 fa0_15 ka0_34 j2a0_34_a ba1_l ba1_u qx34.2.1 qx34.2.2 bfa0_15) (cwV 2 hts gX8_doesFit_X8_byCode rfl rfl rfl zd_X8_byCode ⟨Nat.le_of_ble_eq_true rfl, Nat.le_of_ble_eq_true rfl⟩) ⟨ax_blind (fun _ _ _ _ _ => trivial), zr_8 hKc (zp_P3 hP) (q0 := 0) rfl, ax_pre (zp_P3 hP) hKc (zp_D3 hD) (fun _ _ => trivial)⟩ rfl rfl hl.1 rfl (lv_room (Nat.le_of_ble_eq_true rfl)) dX8_doesFit_35 ⟨Nat.le_of_ble_eq_true rfl, Nat.le_of_ble_eq_true rfl⟩) hS (fun q _ h => zp_F3 hD hS hA q h) (zp_F3 hD hS hA) (fun r35 u t H locs ht hvm hw => zx_1 (fun v35nfa0_34 => zy_1 (fun hraw35_0 hB hz1 hk1 hS1 => zo3 hB ht hP hD hk1 (zp_F3 hD hS hA) hS1 (fun hP hK1 hD hS => ?_))))
        obtain ⟨hw, hfr35⟩ := hw
        have hc35 : Ff_X8_byCode a1.toInt x34.toInt (fl_A fa0_15) (fl_A j2a0_34_a) = (r35.toInt, (fl_A v35nfa0_34)) := Prod.ext hfr35.symm hraw35_0
        have hF1 := hF1.trans (fl_c2_eq hc35)
        rcases hw with hw
        · obtain ⟨⟨lr35, ur35⟩, mr35⟩ := hw
          refine lv_aload_n hx hb dX8_doesFit_38 rfl (lv_at hl 0 rfl) ?_
          refine va_get (D := (dC, dI)) (ci := 8) (v := .ref a0_15) (C := RX8) (T := TX8) (N := 40) hx hb hts zi_X8_doesFit_8 hown hK hP 0 rfl rfl 15 (by decide) (hts (.fieldLink RX8 20 "WaxTurnsModel" "\x72" "[I") (List.mem_cons_of_mem _ (List.mem_append_left _ (List.mem_of_getElem? (i := 0) rfl)))) (fun _ h9 => h9) rfl dX8_doesFit_39 ?_
          refine lv_bipush (v := 36) hx hb dX8_doesFit_42 zk_bipush_36 ?_
          refine lv_iconst (v := 2) hx hb dX8_doesFit_44 zk_iconst_2 ?_
          refine lv_iload_n hx hb dX8_doesFit_45 rfl (lv_at hl 2 rfl) ?_
          refine lv_imul hx hb dX8_doesFit_46 ?_
          refine ax_ti x23 ex23.symm ?_
          refine lv_iadd hx hb dX8_doesFit_47 ?_
          refine ax_ti x24 ex24.symm ?_
          refine va_iald hx hb hK hP 1 0 rfl rfl (ai_in bx24.1 bx24.2 (by decide) (by decide)) dX8_doesFit_48 ?_
          refine lv_topi (fun x48 ex48 => ?_)
          have bx48 : (0 : Int) ≤ x48.toInt ∧ x48.toInt ≤ 999 := by rw [ex48]; exact ai_rd bfa0_15.2.2.2.2.2.2.2.2.2.2 bx24.1 bx24.2 (by decide) (by decide) (by decide)
          have fqx48 := congrArg Int32.toInt ex48
          have hF1 := hF1.trans (fl_lt_eq (show x48.toInt = (fl_A fa0_15) (x24.toInt.toNat) from fqx48))
          refine lv_icmp_eq (tgt := 54) hx hb dX8_doesFit_49 (by decide) (fun c49 => ?_) (fun c49 => ?_)
          · have gc49 := ai_eq c49
            have u49t_r35 : r35.toInt ≤ (8 : Int) := ur35
            have l49t_r35 : (0 : Int) ≤ r35.toInt := lr35
            have u49t_x48 : x48.toInt ≤ (8 : Int) := Int.le_trans (Int.le_of_eq gc49.symm) ur35
            have l49t_x48 : (0 : Int) ≤ x48.toInt := bx48.1
            have hF1 := hF1.trans (if_pos (show r35.toInt = x48.toInt from gc49))
            obtain ⟨x54, ex54⟩ : ∃ y : Int32, y = j2l2 + Int32.ofInt 1 := ⟨_, rfl⟩
            have qx54 : x54.toInt = j2l2.toInt + 1 := ai_inc ex54 (by decide) (by decide) u10f_j2l2 (by decide)
            have bx54 : (1 : Int) ≤ x54.toInt ∧ x54.toInt ≤ 6 := ⟨by rw [qx54]; exact Int.add_le_add bj2l2_l (Int.le_refl _), by rw [qx54]; exact Int.add_le_add u10f_j2l2 (Int.le_refl _)⟩
            refine lv_iinc (v := x54) (lv' := [(2, .int x54), (0, .ref a0), (1, .int a1)]) hx hb dX8_doesFit_54 hl (k := 2) rfl ex54.symm (by decide) rfl (fun ls hl => ?_)
            have hF1 := hF1.trans (fl_lt_eq (show x54.toInt = j2l2.toInt + 1 from qx54))
            refine lv_goto (tgt := 2) hx hb dX8_doesFit_57 (by decide) ?_
            exact (hK0 _ _ _).mp (ih2 x54 v35nfa0_34 _ _ _ (by first | exact zg_s hm2 qx54 | (have h0 := qx54; omega)) (Int.le_trans zq4 bx54.1) bx54.2 (hF0.trans (fl_wh_l (hSX2.trans hF1))) hP hD hS (lv_sub hl [1, 2, 0] rfl))
          · have gc49 := ai_ne c49
            have hF1 := hF1.trans (if_neg (show ¬ (r35.toInt = x48.toInt) from  gc49))
            have hF0 := hF0.trans (fl_wh_r (hSX2.trans hF1))
            refine lv_iconst (v := 0) hx hb dX8_doesFit_52 zk_iconst_0 ?_
            have hFe : FX = (0, (fl_A v35nfa0_34)) := hF0
            exact W.zret (v := 0) hx hb hr rfl (fun t ht hW => ⟨⟨0, (), rfl, ⟨(Or.inr (rfl)), (congrArg Prod.fst hFe).symm⟩, v35nfa0_34, (congrArg Prod.snd hFe), by rw [ht]; exact hP, va_K.moved hW.alike hK, hD⟩, hS.F ht⟩) hS.2.2 dX8_doesFit_53
  exact (hK0 _ _ _).mp (J2 7 0 fa0_34 _ _ _ (by first | decide +kernel | (have h1 : (0 : Int) ≤ (0 : Int32).toInt := zq5; have h2 : (0 : Int32).toInt ≤ (0 : Int) := zq6; omega)) zq5 (Int.le_trans zq6 zq17) (by rw [show (0 : Int32).toInt = 0 from by decide]; exact hF0) hP hD hS (lv_sub hl [1, 2, 0] rfl))
end P314_16_f
section P314_18_f
set_option maxHeartbeats 4000000 in
set_option maxRecDepth 100000 in
theorem f_X2_addIfFit (l : Launch) (dC : Nat → ClassId) (dI : Nat → Nat → Nat) (sz : Nat) (a0 : Nat) (a1 : Nat) (a2 : Int32) (a0_0 : Int32) (a0g_1 a0g_2 a0g_4 a0g_5 a0g_6 : Value) (a0_3 : Nat) (a1_0 : Int32) (a1_1 : Int32) (a1g_2 a1g_3 a1g_4 a1g_5 a1g_6 a1g_7 a1g_8 a1g_10 a1g_11 a1g_14 : Value) (a1_9 : Int32) (a1_12 : Nat) (a1_13 : Nat) (ka0_3 : ClassId) (fa0_3 : Nat → Int32) (ka1_13 : ClassId) (fa1_13 : Nat → Int32) (ka1_12 : ClassId) (fa1_12 : Nat → Int32) (ba2_l : (0 : Int) ≤ a2.toInt) (ba2_u : a2.toInt ≤ (888 : Int)) (ba0_0_l : (0 : Int) ≤ a0_0.toInt) (ba0_0_u : a0_0.toInt ≤ (729 : Int)) (ba1_0_l : (0 : Int) ≤ a1_0.toInt) (ba1_0_u : a1_0.toInt ≤ (9 : Int)) (ba1_9_l : (0 : Int) ≤ a1_9.toInt) (ba1_9_u : a1_9.toInt ≤ (6 : Int)) (bfa0_3 : (∀ k, (0 : Int) ≤ (fa0_3 k).toInt ∧ (fa0_3 k).toInt ≤ 888 ∧ (fa0_3 k).toInt % 10 ≤ 8)) (bfa1_13 : (∀ k, (0 : Int) ≤ (fa1_13 k).toInt ∧ (fa1_13 k).toInt ≤ 999)) (m_a2 : a2.toInt % 10 ≤ 8) : zm l yX2_addIfFit wsX2_addIfFit ({ frames := 2, cells := 0, slots := 0, locals := 51 }) [.ref a0, .ref a1, .int a2] dC dI sz [(a0, .inr (2, [.int a0_0, a0g_1, a0g_2, .ref a0_3, a0g_4, a0g_5, a0g_6])), (a1, .inr (0, [.int a1_0, .int a1_1, a1g_2, a1g_3, a1g_4, a1g_5, a1g_6, a1g_7, a1g_8, .int a1_9, a1g_10, a1g_11, .ref a1_12, .ref a1_13, a1g_14])), (a0_3, .inl (ka0_3, 729, .inl (fa0_3))), (a1_13, .inl (ka1_13, 6, .inl (fa1_13))), (a1_12, .inl (ka1_12, 6, .inl (fa1_12)))] [(ka0_3, .int), (ka1_13, .int), (ka1_12, .int)] (fun A U => va_Nw (.methodLinkNest RX0 72 yX7_laterTurn RX7) U) (fun A => va_Qv (fun (_ : Unit) => True) (fun (_ : Unit) (t : State) => ∃ na0_0 : Int32, ∃ nfa0_3 : Nat → Int32, ((0 : Int) ≤ na0_0.toInt ∧ na0_0.toInt ≤ 729) ∧ (∀ k, (0 : Int) ≤ (nfa0_3 k).toInt ∧ (nfa0_3 k).toInt ≤ 888 ∧ (nfa0_3 k).toInt % 10 ≤ 8) ∧ (Ff_X2_addIfFit a2.toInt a0_0.toInt a1_0.toInt a1_1.toInt a1_9.toInt (fl_A fa0_3) (fl_A fa1_13) (fl_A fa1_12) = (na0_0.toInt, (fl_A nfa0_3))) ∧ ax_B dC dI A [(a0, .inr (2, [.int na0_0, a0g_1, a0g_2, .ref a0_3, a0g_4, a0g_5, a0g_6])), (a1, .inr (0, [.int a1_0, .int a1_1, a1g_2, a1g_3, a1g_4, a1g_5, a1g_6, a1g_7, a1g_8, .int a1_9, a1g_10, a1g_11, .ref a1_12, .ref a1_13, a1g_14])), (a0_3, .inl (ka0_3, 729, .inl (nfa0_3))), (a1_13, .inl (ka1_13, 6, .inl (fa1_13))), (a1_12, .inl (ka1_12, 6, .inl (fa1_12)))] [(ka0_3, .int), (ka1_13, .int), (ka1_12, .int)] t) A) := by
  refine zh (cc := cX2_addIfFit) (maxL := 4) (ret := none) zn_RX2 rfl (Nat.le_of_ble_eq_true rfl) (fun p e s m below meth c A ls hx hb hml hr hts (hown : s.vm.findClass RX2 = some m.cls) hlocks hA hS hP hK hD hE (hl : lv_has ls 4 [(0, .ref a0), (1, .ref a1), (2, .int a2)]) => ?_)
  have hE0 := hE
  generalize hFX : Ff_X2_addIfFit a2.toInt a0_0.toInt a1_0.toInt a1_1.toInt a1_9.toInt (fl_A fa0_3) (fl_A fa1_13) (fl_A fa1_12) = FX at ⊢
  have hF0 := hFX.symm.trans (Ff_X2_addIfFit.eq_1 a2.toInt a0_0.toInt a1_0.toInt a1_1.toInt a1_9.toInt (fl_A fa0_3) (fl_A fa1_13) (fl_A fa1_12))
  refine ai_open (fun K hK0 => ?_)
  refine (hK0 _ _ _).mpr ?_
  refine lv_iconst (v := 0) hx hb dX2_addIfFit_0 zk_iconst_0 ?_
  refine lv_istore_n (lv' := [(3, .int 0), (0, .ref a0), (1, .ref a1), (2, .int a2)]) hx hb dX2_addIfFit_1 rfl hl (by decide) rfl (fun ls hl => ?_)
  have J2 : ∀ (n : Nat) (j2l3 : Int32) (H : Heap) (locs : List Loc) (ls : Array Slot), (7 : Int) - j2l3.toInt ≤ (n : Int) → (0 : Int) ≤ j2l3.toInt → j2l3.toInt ≤ (6 : Int) → (FX = fl_wh (Sf_X2_addIfFit_2_1 a2.toInt a0_0.toInt a1_0.toInt a1_1.toInt a1_9.toInt (fl_A fa0_3) (fl_A fa1_13) (fl_A fa1_12)) (0, (fun _ => 0)) n j2l3.toInt) → va_P (dC, dI) vwCl [(a0, .inr (2, [.int a0_0, a0g_1, a0g_2, .ref a0_3, a0g_4, a0g_5, a0g_6])), (a1, .inr (0, [.int a1_0, .int a1_1, a1g_2, a1g_3, a1g_4, a1g_5, a1g_6, a1g_7, a1g_8, .int a1_9, a1g_10, a1g_11, .ref a1_12, .ref a1_13, a1g_14])), (a0_3, .inl (ka0_3, 729, .inl (fa0_3))), (a1_13, .inl (ka1_13, 6, .inl (fa1_13))), (a1_12, .inl (ka1_12, 6, .inl (fa1_12)))] H → va_D A [(a0, .inr (2, [.int a0_0, a0g_1, a0g_2, .ref a0_3, a0g_4, a0g_5, a0g_6])), (a1, .inr (0, [.int a1_0, .int a1_1, a1g_2, a1g_3, a1g_4, a1g_5, a1g_6, a1g_7, a1g_8, .int a1_9, a1g_10, a1g_11, .ref a1_12, .ref a1_13, a1g_14])), (a0_3, .inl (ka0_3, 729, .inl (fa0_3))), (a1_13, .inl (ka1_13, 6, .inl (fa1_13))), (a1_12, .inl (ka1_12, 6, .inl (fa1_12)))] → va_S A s.heap H locs → lv_has ls 4 [(0, .ref a0), (1, .ref a1), (2, .int a2), (3, .int j2l3)] → K H locs (F0 m 2 ls []) := by
    intro n
    induction n with
    | zero =>
      intro j2l3 H locs ls hm bj2l3_l bj2l3_u hF0 hP hD hS hl
      first | exact zg_0 hm bj2l3_u (by decide) | (have h8 := ai_min j2l3; have h9 := ai_max j2l3; exact absurd hm (by omega))
    | succ n ih2 =>
      intro j2l3 H locs ls hm bj2l3_l bj2l3_u hF0 hP hD hS hl
      refine (hK0 _ _ _).mpr ?_
      have hm2 := hm
      obtain ⟨SX2, hSX2⟩ : ∃ q9, Sf_X2_addIfFit_2_1 a2.toInt a0_0.toInt a1_0.toInt a1_1.toInt a1_9.toInt (fl_A fa0_3) (fl_A fa1_13) (fl_A fa1_12) j2l3.toInt = q9 := ⟨_, rfl⟩
      have hF1 := hSX2.symm.trans (Sf_X2_addIfFit_2_1.eq_1 a2.toInt a0_0.toInt a1_0.toInt a1_1.toInt a1_9.toInt (fl_A fa0_3) (fl_A fa1_13) (fl_A fa1_12) j2l3.toInt)
      refine lv_iload_n hx hb dX2_addIfFit_2 rfl (lv_at hl 3 rfl) ?_
      refine lv_aload_n hx hb dX2_addIfFit_3 rfl (lv_at hl 1 rfl) ?_
      refine va_get (D := (dC, dI)) (ci := 0) (v := .int a1_9) (C := RX0) (T := TX0) (N := 15) hx hb hts zi_X2_addIfFit_0 hown hK hP 1 rfl rfl 9 (by decide) (hts (.fieldLink RX2 38 "WaxTurns$Hall" "seenCount" "I") (List.mem_cons_of_mem _ (List.mem_append_left _ (List.mem_append_left _ (List.mem_of_getElem? (i := 0) rfl))))) (fun _ h9 => h9) rfl dX2_addIfFit_4 ?_
      refine lv_icmp_ge (tgt := 37) hx hb dX2_addIfFit_7 (by decide) (fun c7 => ?_) (fun c7 => ?_)
      · have gc7 := ai_le c7
        have u7t_a1_9 : a1_9.toInt ≤ (6 : Int) := ba1_9_u
        have l7t_j2l3 : (0 : Int) ≤ j2l3.toInt := bj2l3_l
        have hF1 := hF1.trans (if_pos (show a1_9.toInt ≤ j2l3.toInt from gc7))
        have hF0 := hF0.trans (fl_wh_r (hSX2.trans hF1))
        refine lv_aload_n hx hb dX2_addIfFit_37 rfl (lv_at hl 0 rfl) ?_
        refine va_get (D := (dC, dI)) (ci := 2) (v := .int a0_0) (C := RX2) (T := TX2) (N := 7) hx hb hts zi_X2_addIfFit_2 hown hK hP 0 rfl rfl 0 (by decide) (hts (.fieldLink RX2 25 "WaxTurns$Laws" "fitCount" "I") (List.mem_cons_of_mem _ (List.mem_append_left _ (List.mem_append_left _ (List.mem_of_getElem? (i := 3) rfl))))) (fun _ h9 => h9) rfl dX2_addIfFit_38 ?_
        refine lv_sipush (v := 729) hx hb dX2_addIfFit_41 zk_sipush_729 ?_
        refine lv_icmp_ge (tgt := 67) hx hb dX2_addIfFit_44 (by decide) (fun c44 => ?_) (fun c44 => ?_)
        · have gc44 := ai_le c44
          have l44t_a0_0 : (729 : Int) ≤ a0_0.toInt := Int.le_trans zq29 gc44
          have hF0 := hF0.trans (if_pos (show 729 ≤ a0_0.toInt from gc44))
          have hFe : FX = (a0_0.toInt, (fl_A fa0_3)) := hF0
          exact W.vret hx hb hr (fun t ht hW => ⟨⟨(), rfl, trivial, a0_0, fa0_3, ⟨Int.le_trans (by decide) l44t_a0_0, ba0_0_u⟩, bfa0_3, hFe, by rw [ht]; exact hP, va_K.moved hW.alike hK, hD⟩, hS.F ht⟩) hS.2.2 dX2_addIfFit_67
        · have gc44 := ai_nle c44
          have u44f_a0_0 : a0_0.toInt ≤ (728 : Int) := ai_lthi gc44 zq30
          have hF0 := hF0.trans (if_neg (show ¬ (729 ≤ a0_0.toInt) from Int.not_le.mpr gc44))
          refine lv_aload_n hx hb dX2_addIfFit_47 rfl (lv_at hl 0 rfl) ?_
          refine va_get (D := (dC, dI)) (ci := 2) (v := .ref a0_3) (C := RX2) (T := TX2) (N := 7) hx hb hts zi_X2_addIfFit_2 hown hK hP 0 rfl rfl 3 (by decide) (hts (.fieldLink RX2 9 "WaxTurns$Laws" "fitting" "[I") (List.mem_cons_of_mem _ (List.mem_append_left _ (List.mem_append_left _ (List.mem_of_getElem? (i := 4) rfl))))) (fun _ h9 => h9) rfl dX2_addIfFit_48 ?_
          refine lv_aload_n hx hb dX2_addIfFit_51 rfl (lv_at hl 0 rfl) ?_
          refine va_get (D := (dC, dI)) (ci := 2) (v := .int a0_0) (C := RX2) (T := TX2) (N := 7) hx hb hts zi_X2_addIfFit_2 hown hK hP 0 rfl rfl 0 (by decide) (hts (.fieldLink RX2 25 "WaxTurns$Laws" "fitCount" "I") (List.mem_cons_of_mem _ (List.mem_append_left _ (List.mem_append_left _ (List.mem_of_getElem? (i := 3) rfl))))) (fun _ h9 => h9) rfl dX2_addIfFit_52 ?_
          refine lv_iload_n hx hb dX2_addIfFit_55 rfl (lv_at hl 2 rfl) ?_
          refine va_iast hx hb hK hP hD hS 2 0 rfl rfl (ai_in ba0_0_l u44f_a0_0 (by decide) (by decide)) dX2_addIfFit_56 (fun H locs hP hD hS => ?_)
          obtain ⟨f56, ef56⟩ : ∃ g9 : Nat → Int32, g9 = upd fa0_3 (a0_0 : Int32).toNatClampNeg a2 := ⟨_, rfl⟩
          refine zs_2 (y := (a0_3, .inl (ka0_3, 729, .inl (f56)))) hP hD (by rw [ef56]) (fun hP hD => ?_)
          have bf56 : (∀ k, (0 : Int) ≤ (f56 k).toInt ∧ (f56 k).toInt ≤ 888 ∧ (f56 k).toInt % 10 ≤ 8) := by rw [ef56]; exact ai_updm bfa0_3 _ ⟨ba2_l, ba2_u, m_a2⟩
          have fqf56 := fl_up_eq ef56
          have hF0 := hF0.trans (fl_lt_eq (show (fl_A f56) = fl_up (fl_A fa0_3) (a0_0.toInt.toNat) a2.toInt from fqf56))
          refine lv_aload_n hx hb dX2_addIfFit_57 rfl (lv_at hl 0 rfl) ?_
          refine lv_dup hx hb dX2_addIfFit_58 rfl ?_
          refine va_get (D := (dC, dI)) (ci := 2) (v := .int a0_0) (C := RX2) (T := TX2) (N := 7) hx hb hts zi_X2_addIfFit_2 hown hK hP 0 rfl rfl 0 (by decide) (hts (.fieldLink RX2 25 "WaxTurns$Laws" "fitCount" "I") (List.mem_cons_of_mem _ (List.mem_append_left _ (List.mem_append_left _ (List.mem_of_getElem? (i := 3) rfl))))) (fun _ h9 => h9) rfl dX2_addIfFit_59 ?_
          refine lv_iconst (v := 1) hx hb dX2_addIfFit_62 zk_iconst_1 ?_
          refine lv_iadd hx hb dX2_addIfFit_63 ?_
          refine lv_topi (fun x63 ex63 => ?_)
          have qx63 : x63.toInt = a0_0.toInt + (1 : Int32).toInt := ai_add ex63 ⟨ba0_0_l, u44f_a0_0⟩ ⟨zq1, zq0⟩ (by decide) (by decide)
          have bx63 : (1 : Int) ≤ x63.toInt ∧ x63.toInt ≤ 729 := ⟨by rw [qx63]; exact Int.add_le_add ba0_0_l zq1, by rw [qx63]; exact Int.add_le_add u44f_a0_0 zq0⟩
          have wx63 : x63.toInt = a0_0.toInt + 1 := qx63
          have hF0 := hF0.trans (fl_lt_eq (show x63.toInt = a0_0.toInt + 1 from qx63))
          refine va_put (D := (dC, dI)) (ci := 2) (v := .int x63) (ty := .int) (C := RX2) (T := TX2) (N := 7) hx hb hts zi_X2_addIfFit_2 tyX2 tyX2_ok nmX2 hown hK hP hD hS 0 rfl rfl 0 (by decide) (hts (.fieldLink RX2 25 "WaxTurns$Laws" "fitCount" "I") (List.mem_cons_of_mem _ (List.mem_append_left _ (List.mem_append_left _ (List.mem_of_getElem? (i := 3) rfl))))) (fun _ h9 => h9) rfl (tyX2_ok 0 (by decide)) rfl rfl (Nat.le_of_ble_eq_true rfl) dX2_addIfFit_64 (fun H locs hP hD hS => ?_)
          refine zs_0 (y := (a0, .inr (2, [.int x63, a0g_1, a0g_2, .ref a0_3, a0g_4, a0g_5, a0g_6]))) hP hD rfl (fun hP hD => ?_)
          have hFe : FX = (x63.toInt, (fl_A f56)) := hF0
          exact W.vret hx hb hr (fun t ht hW => ⟨⟨(), rfl, trivial, x63, f56, ⟨Int.le_trans (by decide) bx63.1, bx63.2⟩, bf56, hFe, by rw [ht]; exact hP, va_K.moved hW.alike hK, hD⟩, hS.F ht⟩) hS.2.2 dX2_addIfFit_67
      · have gc7 := ai_nle c7
        have u7f_j2l3 : j2l3.toInt ≤ (5 : Int) := ai_lthi gc7 ba1_9_u
        have l7f_a1_9 : (1 : Int) ≤ a1_9.toInt := ai_ltlo gc7 bj2l3_l
        have hF1 := hF1.trans (if_neg (show ¬ (a1_9.toInt ≤ j2l3.toInt) from Int.not_le.mpr gc7))
        refine lv_aload_n hx hb dX2_addIfFit_10 rfl (lv_at hl 1 rfl) ?_
        refine lv_iload_n hx hb dX2_addIfFit_11 rfl (lv_at hl 2 rfl) ?_
        refine lv_aload_n hx hb dX2_addIfFit_12 rfl (lv_at hl 1 rfl) ?_
        refine va_get (D := (dC, dI)) (ci := 0) (v := .ref a1_13) (C := RX0) (T := TX0) (N := 15) hx hb hts zi_X2_addIfFit_0 hown hK hP 1 rfl rfl 13 (by decide) (hts (.fieldLink RX2 41 "WaxTurns$Hall" "seenMinutes" "[I") (List.mem_cons_of_mem _ (List.mem_append_left _ (List.mem_append_left _ (List.mem_of_getElem? (i := 1) rfl))))) (fun _ h9 => h9) rfl dX2_addIfFit_13 ?_
        refine lv_iload_n hx hb dX2_addIfFit_16 rfl (lv_at hl 3 rfl) ?_
        refine va_iald hx hb hK hP 3 1 rfl rfl (ai_in bj2l3_l u7f_j2l3 (by decide) (by decide)) dX2_addIfFit_17 ?_
        refine lv_topi (fun x17 ex17 => ?_)
        have bx17 : (0 : Int) ≤ x17.toInt ∧ x17.toInt ≤ 999 := by rw [ex17]; exact bfa1_13 _
        have fqx17 := congrArg Int32.toInt ex17
        have hF1 := hF1.trans (fl_lt_eq (show x17.toInt = (fl_A fa1_13) (j2l3.toInt.toNat) from fqx17))
        refine zc_cutc (wc := [(a1, .inr (0, [.int a1_0, .int a1_1, a1g_2, a1g_3, a1g_4, a1g_5, a1g_6, a1g_7, a1g_8, .int a1_9, a1g_10, a1g_11, .ref a1_12, .ref a1_13, a1g_14]))]) hP hD hS hA [1] (by decide +kernel) rfl (fun hPc hDc hFc hCc => ?_)
        have hKc := zp_K hK
        refine va_calli (va_runV (As := [.int a2, .int x17]) (rest := []) ⟨hx, hb, hml, hown, hts⟩ (f_X0_aliveByLaw l dC dI H.size a1 a2 x17 a1_0 a1_1 a1g_2 a1g_3 a1g_4 a1g_5 a1g_6 a1g_7 a1g_8 (.int a1_9) a1g_10 a1g_11 (.ref a1_12) (.ref a1_13) a1g_14 ba2_l (Int.le_trans ba2_u zq31) bx17.1 bx17.2 ba1_0_l ba1_0_u) (cwV 2 hts gX2_addIfFit_X0_aliveByLaw rfl rfl rfl zd_X0_aliveByLaw ⟨Nat.le_of_ble_eq_true rfl, Nat.le_of_ble_eq_true rfl⟩) ⟨ax_blind (fun _ _ _ _ hq => va_Nw.same rfl rfl (hq)), zr_0 hKc hPc (q0 := 0) rfl, ax_pre hPc hKc hDc (fun _ hW => va_Nw.warmM hW hE0)⟩ rfl rfl hl.1 rfl (lv_room (Nat.le_of_ble_eq_true rfl)) dX2_addIfFit_18 ⟨Nat.le_of_ble_eq_true rfl, Nat.le_of_ble_eq_true rfl⟩) hS (fun q _ h => hFc q h) hFc (fun r18 u t H locs ht hvm hw hB hz1 hk1 hS1 => zo hB ht hS1 (fun hP1 hK1 hD1 hS => ?_))
        refine zc_backc (w := [(a0, .inr (2, [.int a0_0, a0g_1, a0g_2, .ref a0_3, a0g_4, a0g_5, a0g_6])), (a1, .inr (0, [.int a1_0, .int a1_1, a1g_2, a1g_3, a1g_4, a1g_5, a1g_6, a1g_7, a1g_8, .int a1_9, a1g_10, a1g_11, .ref a1_12, .ref a1_13, a1g_14])), (a0_3, .inl (ka0_3, 729, .inl (fa0_3))), (a1_13, .inl (ka1_13, 6, .inl (fa1_13))), (a1_12, .inl (ka1_12, 6, .inl (fa1_12)))]) hP hD hCc hk1 hFc hP1 hD1 [.inl 0, .inr 0, .inl 2, .inl 3, .inl 4] (by decide +kernel) rfl (fun hP hD => ?_)
        obtain ⟨hw, hfr18⟩ := hw
        have hc18 : Ff_X0_aliveByLaw a2.toInt x17.toInt a1_0.toInt a1_1.toInt = r18.toInt := hfr18.symm
        have hF1 := hF1.trans (fl_lt_eq hc18.symm)
        have hw : (0 : Int) ≤ r18.toInt ∧ r18.toInt ≤ (9 : Int) := hw
        obtain ⟨h18_0, h18_1⟩ := hw
        refine lv_aload_n hx hb dX2_addIfFit_21 rfl (lv_at hl 1 rfl) ?_
        refine va_get (D := (dC, dI)) (ci := 0) (v := .ref a1_12) (C := RX0) (T := TX0) (N := 15) hx hb hts zi_X2_addIfFit_0 hown hK hP 1 rfl rfl 12 (by decide) (hts (.fieldLink RX2 48 "WaxTurns$Hall" "seenFigures" "[I") (List.mem_cons_of_mem _ (List.mem_append_left _ (List.mem_append_left _ (List.mem_of_getElem? (i := 2) rfl))))) (fun _ h9 => h9) rfl dX2_addIfFit_22 ?_
        refine lv_iload_n hx hb dX2_addIfFit_25 rfl (lv_at hl 3 rfl) ?_
        refine va_iald hx hb hK hP 4 2 rfl rfl (ai_in bj2l3_l u7f_j2l3 (by decide) (by decide)) dX2_addIfFit_26 ?_
        refine lv_topi (fun x26 ex26 => ?_)
        have fqx26 := congrArg Int32.toInt ex26
        have hF1 := hF1.trans (fl_lt_eq (show x26.toInt = (fl_A fa1_12) (j2l3.toInt.toNat) from fqx26))
        refine lv_icmp_eq (tgt := 31) hx hb dX2_addIfFit_27 (by decide) (fun c27 => ?_) (fun c27 => ?_)
        · have gc27 := ai_eq c27
          have u27t_x26 : x26.toInt ≤ (9 : Int) := Int.le_trans (Int.le_of_eq gc27.symm) h18_1
          have l27t_x26 : (0 : Int) ≤ x26.toInt := Int.le_trans h18_0 (Int.le_of_eq gc27)
          have hF1 := hF1.trans (if_pos (show r18.toInt = x26.toInt from gc27))
          obtain ⟨x31, ex31⟩ : ∃ y : Int32, y = j2l3 + Int32.ofInt 1 := ⟨_, rfl⟩
          have qx31 : x31.toInt = j2l3.toInt + 1 := ai_inc ex31 (by decide) (by decide) u7f_j2l3 (by decide)
          have bx31 : (1 : Int) ≤ x31.toInt ∧ x31.toInt ≤ 6 := ⟨by rw [qx31]; exact Int.add_le_add bj2l3_l (Int.le_refl _), by rw [qx31]; exact Int.add_le_add u7f_j2l3 (Int.le_refl _)⟩
          refine lv_iinc (v := x31) (lv' := [(3, .int x31), (0, .ref a0), (1, .ref a1), (2, .int a2)]) hx hb dX2_addIfFit_31 hl (k := 3) rfl ex31.symm (by decide) rfl (fun ls hl => ?_)
          have hF1 := hF1.trans (fl_lt_eq (show x31.toInt = j2l3.toInt + 1 from qx31))
          refine lv_goto (tgt := 2) hx hb dX2_addIfFit_34 (by decide) ?_
          exact (hK0 _ _ _).mp (ih2 x31 _ _ _ (by first | exact zg_s hm2 qx31 | (have h0 := qx31; omega)) (Int.le_trans zq4 bx31.1) bx31.2 (hF0.trans (fl_wh_l (hSX2.trans hF1))) hP hD hS (lv_sub hl [1, 2, 3, 0] rfl))
        · have gc27 := ai_ne c27
          have hF1 := hF1.trans (if_neg (show ¬ (r18.toInt = x26.toInt) from  gc27))
          have hF0 := hF0.trans (fl_wh_r (hSX2.trans hF1))
          have hFe : FX = (a0_0.toInt, (fl_A fa0_3)) := hF0
          exact W.vret hx hb hr (fun t ht hW => ⟨⟨(), rfl, trivial, a0_0, fa0_3, ⟨ba0_0_l, ba0_0_u⟩, bfa0_3, hFe, by rw [ht]; exact hP, va_K.moved hW.alike hK, hD⟩, hS.F ht⟩) hS.2.2 dX2_addIfFit_30
  exact (hK0 _ _ _).mp (J2 7 0 _ _ _ (by first | decide +kernel | (have h1 : (0 : Int) ≤ (0 : Int32).toInt := zq5; have h2 : (0 : Int32).toInt ≤ (0 : Int) := zq6; omega)) zq5 (Int.le_trans zq6 zq17) (by rw [show (0 : Int32).toInt = 0 from by decide]; exact hF0) hP hD hS (lv_sub hl [1, 2, 3, 0] rfl))

set_option maxHeartbeats 4000000 in
set_option maxRecDepth 100000 in
theorem f_X2_list (l : Launch) (dC : Nat → ClassId) (dI : Nat → Nat → Nat) (sz : Nat) (a0 : Nat) (a1 : Nat) (a0_0 : Int32) (a0g_1 a0g_2 a0g_4 a0g_6 : Value) (a0_3 : Nat) (a0_5 : Int32) (a1_0 : Int32) (a1_1 : Int32) (a1g_2 a1g_3 a1g_4 a1g_5 a1g_6 a1g_7 a1g_8 a1g_10 a1g_11 a1g_14 : Value) (a1_9 : Int32) (a1_12 : Nat) (a1_13 : Nat) (ka0_3 : ClassId) (fa0_3 : Nat → Int32) (ka1_13 : ClassId) (fa1_13 : Nat → Int32) (ka1_12 : ClassId) (fa1_12 : Nat → Int32) (ba0_0_l : (0 : Int) ≤ a0_0.toInt) (ba0_0_u : a0_0.toInt ≤ (729 : Int)) (ba0_5_l : (0 : Int) ≤ a0_5.toInt) (ba0_5_u : a0_5.toInt ≤ (1 : Int)) (ba1_0_l : (0 : Int) ≤ a1_0.toInt) (ba1_0_u : a1_0.toInt ≤ (9 : Int)) (ba1_9_l : (0 : Int) ≤ a1_9.toInt) (ba1_9_u : a1_9.toInt ≤ (6 : Int)) (bfa0_3 : (∀ k, (0 : Int) ≤ (fa0_3 k).toInt ∧ (fa0_3 k).toInt ≤ 888 ∧ (fa0_3 k).toInt % 10 ≤ 8)) (bfa1_13 : (∀ k, (0 : Int) ≤ (fa1_13 k).toInt ∧ (fa1_13 k).toInt ≤ 999)) : zm l yX2_list wsX2_list ({ frames := 3, cells := 0, slots := 0, locals := 74 }) [.ref a0, .ref a1] dC dI sz [(a0, .inr (2, [.int a0_0, a0g_1, a0g_2, .ref a0_3, a0g_4, .int a0_5, a0g_6])), (a1, .inr (0, [.int a1_0, .int a1_1, a1g_2, a1g_3, a1g_4, a1g_5, a1g_6, a1g_7, a1g_8, .int a1_9, a1g_10, a1g_11, .ref a1_12, .ref a1_13, a1g_14])), (a0_3, .inl (ka0_3, 729, .inl (fa0_3))), (a1_13, .inl (ka1_13, 6, .inl (fa1_13))), (a1_12, .inl (ka1_12, 6, .inl (fa1_12)))] [(ka0_3, .int), (ka1_13, .int), (ka1_12, .int)] (fun A U => va_Nw (.methodLinkNest RX0 72 yX7_laterTurn RX7) U) (fun A => va_Qv (fun (_ : Unit) => True) (fun (_ : Unit) (t : State) => ∃ na0_0 : Int32, ∃ na0_5 : Int32, ∃ nfa0_3 : Nat → Int32, ((0 : Int) ≤ na0_0.toInt ∧ na0_0.toInt ≤ 729) ∧ ((0 : Int) ≤ na0_5.toInt ∧ na0_5.toInt ≤ 1) ∧ (∀ k, (0 : Int) ≤ (nfa0_3 k).toInt ∧ (nfa0_3 k).toInt ≤ 888 ∧ (nfa0_3 k).toInt % 10 ≤ 8) ∧ (Ff_X2_list a0_0.toInt a0_5.toInt a1_0.toInt a1_1.toInt a1_9.toInt (fl_A fa0_3) (fl_A fa1_13) (fl_A fa1_12) = (na0_0.toInt, na0_5.toInt, (fl_A nfa0_3))) ∧ ax_B dC dI A [(a0, .inr (2, [.int na0_0, a0g_1, a0g_2, .ref a0_3, a0g_4, .int na0_5, a0g_6])), (a1, .inr (0, [.int a1_0, .int a1_1, a1g_2, a1g_3, a1g_4, a1g_5, a1g_6, a1g_7, a1g_8, .int a1_9, a1g_10, a1g_11, .ref a1_12, .ref a1_13, a1g_14])), (a0_3, .inl (ka0_3, 729, .inl (nfa0_3))), (a1_13, .inl (ka1_13, 6, .inl (fa1_13))), (a1_12, .inl (ka1_12, 6, .inl (fa1_12)))] [(ka0_3, .int), (ka1_13, .int), (ka1_12, .int)] t) A) := by
  refine zh (cc := cX2_list) (maxL := 5) (ret := none) zn_RX2 rfl (Nat.le_of_ble_eq_true rfl) (fun p e s m below meth c A ls hx hb hml hr hts (hown : s.vm.findClass RX2 = some m.cls) hlocks hA hS hP hK hD hE (hl : lv_has ls 5 [(0, .ref a0), (1, .ref a1)]) => ?_)
  have hE0 := hE
  generalize hFX : Ff_X2_list a0_0.toInt a0_5.toInt a1_0.toInt a1_1.toInt a1_9.toInt (fl_A fa0_3) (fl_A fa1_13) (fl_A fa1_12) = FX at ⊢
  have hF0 := hFX.symm.trans (Ff_X2_list.eq_1 a0_0.toInt a0_5.toInt a1_0.toInt a1_1.toInt a1_9.toInt (fl_A fa0_3) (fl_A fa1_13) (fl_A fa1_12))
  refine ai_open (fun K hK0 => ?_)
  refine (hK0 _ _ _).mpr ?_
  refine lv_aload_n hx hb dX2_list_0 rfl (lv_at hl 0 rfl) ?_
  refine va_get (D := (dC, dI)) (ci := 2) (v := .int a0_5) (C := RX2) (T := TX2) (N := 7) hx hb hts zi_X2_list_2 hown hK hP 0 rfl rfl 5 (by decide) (hts (.fieldLink RX2 18 "WaxTurns$Laws" "listed" "Z") (List.mem_cons_of_mem _ (List.mem_append_left _ (List.mem_append_left _ (List.mem_of_getElem? (i := 0) rfl))))) (fun _ h9 => h9) rfl dX2_list_1 ?_
  refine lv_if_eq (tgt := 8) hx hb dX2_list_4 (by decide) (fun c4 => ?_) (fun c4 => ?_)
  · have gc4 := ai_eq c4
    have u4t_a0_5 : a0_5.toInt ≤ (0 : Int) := Int.le_trans (Int.le_of_eq gc4) zq6
    have l4t_a0_5 : (0 : Int) ≤ a0_5.toInt := ba0_5_l
    have hF0 := hF0.trans (if_pos (show a0_5.toInt = 0 from gc4))
    refine lv_aload_n hx hb dX2_list_8 rfl (lv_at hl 0 rfl) ?_
    refine lv_iconst (v := 1) hx hb dX2_list_9 zk_iconst_1 ?_
    refine va_put (D := (dC, dI)) (ci := 2) (v := .int 1) (ty := .boolean) (C := RX2) (T := TX2) (N := 7) hx hb hts zi_X2_list_2 tyX2 tyX2_ok nmX2 hown hK hP hD hS 0 rfl rfl 5 (by decide) (hts (.fieldLink RX2 18 "WaxTurns$Laws" "listed" "Z") (List.mem_cons_of_mem _ (List.mem_append_left _ (List.mem_append_left _ (List.mem_of_getElem? (i := 0) rfl))))) (fun _ h9 => h9) rfl (tyX2_ok 5 (by decide)) rfl rfl (Nat.le_of_ble_eq_true rfl) dX2_list_10 (fun H locs hP hD hS => ?_)
    refine zs_0 (y := (a0, .inr (2, [.int a0_0, a0g_1, a0g_2, .ref a0_3, a0g_4, .int 1, a0g_6]))) hP hD rfl (fun hP hD => ?_)
    refine lv_aload_n hx hb dX2_list_13 rfl (lv_at hl 0 rfl) ?_
    refine lv_iconst (v := 0) hx hb dX2_list_14 zk_iconst_0 ?_
    refine va_put (D := (dC, dI)) (ci := 2) (v := .int 0) (ty := .int) (C := RX2) (T := TX2) (N := 7) hx hb hts zi_X2_list_2 tyX2 tyX2_ok nmX2 hown hK hP hD hS 0 rfl rfl 0 (by decide) (hts (.fieldLink RX2 25 "WaxTurns$Laws" "fitCount" "I") (List.mem_cons_of_mem _ (List.mem_append_left _ (List.mem_append_left _ (List.mem_of_getElem? (i := 1) rfl))))) (fun _ h9 => h9) rfl (tyX2_ok 0 (by decide)) rfl rfl (Nat.le_of_ble_eq_true rfl) dX2_list_15 (fun H locs hP hD hS => ?_)
    refine zs_0 (y := (a0, .inr (2, [.int 0, a0g_1, a0g_2, .ref a0_3, a0g_4, .int 1, a0g_6]))) hP hD rfl (fun hP hD => ?_)
    refine lv_iconst (v := 0) hx hb dX2_list_18 zk_iconst_0 ?_
    refine lv_istore_n (lv' := [(2, .int 0), (0, .ref a0), (1, .ref a1)]) hx hb dX2_list_19 rfl hl (by decide) rfl (fun ls hl => ?_)
    have J20 : ∀ (n : Nat) (j20l2 : Int32) (j20a0_0 : Int32) (j20a0_3_a : Nat → Int32) (H : Heap) (locs : List Loc) (ls : Array Slot), (10 : Int) - j20l2.toInt ≤ (n : Int) → (0 : Int) ≤ j20l2.toInt → j20l2.toInt ≤ (9 : Int) → (0 : Int) ≤ j20a0_0.toInt → j20a0_0.toInt ≤ (729 : Int) → (∀ k, (0 : Int) ≤ (j20a0_3_a k).toInt ∧ (j20a0_3_a k).toInt ≤ 888 ∧ (j20a0_3_a k).toInt % 10 ≤ 8) → (FX = fl_wh (fun t9 => Sf_X2_list_20_1 a1_0.toInt a1_1.toInt a1_9.toInt (fl_A fa1_13) (fl_A fa1_12) t9.1 t9.2.1 t9.2.2) (0, 0, (fun _ => 0)) n (j20l2.toInt, j20a0_0.toInt, (fl_A j20a0_3_a))) → va_P (dC, dI) vwCl [(a0, .inr (2, [.int j20a0_0, a0g_1, a0g_2, .ref a0_3, a0g_4, .int 1, a0g_6])), (a1, .inr (0, [.int a1_0, .int a1_1, a1g_2, a1g_3, a1g_4, a1g_5, a1g_6, a1g_7, a1g_8, .int a1_9, a1g_10, a1g_11, .ref a1_12, .ref a1_13, a1g_14])), (a0_3, .inl (ka0_3, 729, .inl (j20a0_3_a))), (a1_13, .inl (ka1_13, 6, .inl (fa1_13))), (a1_12, .inl (ka1_12, 6, .inl (fa1_12)))] H → va_D A [(a0, .inr (2, [.int j20a0_0, a0g_1, a0g_2, .ref a0_3, a0g_4, .int 1, a0g_6])), (a1, .inr (0, [.int a1_0, .int a1_1, a1g_2, a1g_3, a1g_4, a1g_5, a1g_6, a1g_7, a1g_8, .int a1_9, a1g_10, a1g_11, .ref a1_12, .ref a1_13, a1g_14])), (a0_3, .inl (ka0_3, 729, .inl (j20a0_3_a))), (a1_13, .inl (ka1_13, 6, .inl (fa1_13))), (a1_12, .inl (ka1_12, 6, .inl (fa1_12)))] → va_S A s.heap H locs → lv_has ls 5 [(0, .ref a0), (1, .ref a1), (2, .int j20l2)] → K H locs (F0 m 20 ls []) := by
      intro n
      induction n with
      | zero =>
        intro j20l2 j20a0_0 j20a0_3_a H locs ls hm bj20l2_l bj20l2_u bj20a0_0_l bj20a0_0_u bj20a0_3_a hF0 hP hD hS hl
        first | exact zg_0 hm bj20l2_u (by decide) | (have h8 := ai_min j20l2; have h9 := ai_max j20l2; exact absurd hm (by omega))
      | succ n ih20 =>
        intro j20l2 j20a0_0 j20a0_3_a H locs ls hm bj20l2_l bj20l2_u bj20a0_0_l bj20a0_0_u bj20a0_3_a hF0 hP hD hS hl
        refine (hK0 _ _ _).mpr ?_
        have hm20 := hm
        obtain ⟨SX20, hSX20⟩ : ∃ q9, Sf_X2_list_20_1 a1_0.toInt a1_1.toInt a1_9.toInt (fl_A fa1_13) (fl_A fa1_12) j20l2.toInt j20a0_0.toInt (fl_A j20a0_3_a) = q9 := ⟨_, rfl⟩
        have hF1 := hSX20.symm.trans (Sf_X2_list_20_1.eq_1 a1_0.toInt a1_1.toInt a1_9.toInt (fl_A fa1_13) (fl_A fa1_12) j20l2.toInt j20a0_0.toInt (fl_A j20a0_3_a))
        refine lv_iload_n hx hb dX2_list_20 rfl (lv_at hl 2 rfl) ?_
        refine lv_aload_n hx hb dX2_list_21 rfl (lv_at hl 1 rfl) ?_
        refine va_get (D := (dC, dI)) (ci := 0) (v := .int a1_0) (C := RX0) (T := TX0) (N := 15) hx hb hts zi_X2_list_0 hown hK hP 1 rfl rfl 0 (by decide) (hts (.fieldLink RX2 29 "WaxTurns$Hall" "figures" "I") (List.mem_cons_of_mem _ (List.mem_append_left _ (List.mem_append_left _ (List.mem_of_getElem? (i := 2) rfl))))) (fun _ h9 => h9) rfl dX2_list_22 ?_
        refine lv_icmp_ge (tgt := 85) hx hb dX2_list_25 (by decide) (fun c25 => ?_) (fun c25 => ?_)
        · have gc25 := ai_le c25
          have u25t_a1_0 : a1_0.toInt ≤ (9 : Int) := ba1_0_u
          have l25t_j20l2 : (0 : Int) ≤ j20l2.toInt := bj20l2_l
          have hF1 := hF1.trans (if_pos (show a1_0.toInt ≤ j20l2.toInt from gc25))
          have hF0 := hF0.trans (fl_wh_r (hSX20.trans hF1))
          have hFe : FX = (j20a0_0.toInt, 1, (fl_A j20a0_3_a)) := hF0
          exact W.vret hx hb hr (fun t ht hW => ⟨⟨(), rfl, trivial, j20a0_0, 1, j20a0_3_a, ⟨bj20a0_0_l, bj20a0_0_u⟩, ⟨Int.le_trans (by decide) zq1, zq0⟩, bj20a0_3_a, hFe, by rw [ht]; exact hP, va_K.moved hW.alike hK, hD⟩, hS.F ht⟩) hS.2.2 dX2_list_85
        · have gc25 := ai_nle c25
          have u25f_j20l2 : j20l2.toInt ≤ (8 : Int) := ai_lthi gc25 ba1_0_u
          have l25f_a1_0 : (1 : Int) ≤ a1_0.toInt := ai_ltlo gc25 bj20l2_l
          have hF1 := hF1.trans (if_neg (show ¬ (a1_0.toInt ≤ j20l2.toInt) from Int.not_le.mpr gc25))
          refine lv_iconst (v := 0) hx hb dX2_list_28 zk_iconst_0 ?_
          refine lv_istore_n (lv' := [(3, .int 0), (0, .ref a0), (1, .ref a1), (2, .int j20l2)]) hx hb dX2_list_29 rfl hl (by decide) rfl (fun ls hl => ?_)
          have J30 : ∀ (n : Nat) (j30l3 : Int32) (j30a0_0 : Int32) (j30a0_3_a : Nat → Int32) (H : Heap) (locs : List Loc) (ls : Array Slot), (10 : Int) - j30l3.toInt ≤ (n : Int) → (0 : Int) ≤ j30l3.toInt → j30l3.toInt ≤ (9 : Int) → (0 : Int) ≤ j30a0_0.toInt → j30a0_0.toInt ≤ (729 : Int) → (∀ k, (0 : Int) ≤ (j30a0_3_a k).toInt ∧ (j30a0_3_a k).toInt ≤ 888 ∧ (j30a0_3_a k).toInt % 10 ≤ 8) → (SX20 = fl_wh (fun t9 => Sf_X2_list_30_1 a1_0.toInt a1_1.toInt a1_9.toInt (fl_A fa1_13) (fl_A fa1_12) j20l2.toInt t9.1 t9.2.1 t9.2.2) (Sum.inr (0, 0, (fun _ => 0))) n (j30l3.toInt, j30a0_0.toInt, (fl_A j30a0_3_a))) → va_P (dC, dI) vwCl [(a0, .inr (2, [.int j30a0_0, a0g_1, a0g_2, .ref a0_3, a0g_4, .int 1, a0g_6])), (a1, .inr (0, [.int a1_0, .int a1_1, a1g_2, a1g_3, a1g_4, a1g_5, a1g_6, a1g_7, a1g_8, .int a1_9, a1g_10, a1g_11, .ref a1_12, .ref a1_13, a1g_14])), (a0_3, .inl (ka0_3, 729, .inl (j30a0_3_a))), (a1_13, .inl (ka1_13, 6, .inl (fa1_13))), (a1_12, .inl (ka1_12, 6, .inl (fa1_12)))] H → va_D A [(a0, .inr (2, [.int j30a0_0, a0g_1, a0g_2, .ref a0_3, a0g_4, .int 1, a0g_6])), (a1, .inr (0, [.int a1_0, .int a1_1, a1g_2, a1g_3, a1g_4, a1g_5, a1g_6, a1g_7, a1g_8, .int a1_9, a1g_10, a1g_11, .ref a1_12, .ref a1_13, a1g_14])), (a0_3, .inl (ka0_3, 729, .inl (j30a0_3_a))), (a1_13, .inl (ka1_13, 6, .inl (fa1_13))), (a1_12, .inl (ka1_12, 6, .inl (fa1_12)))] → va_S A s.heap H locs → lv_has ls 5 [(0, .ref a0), (1, .ref a1), (2, .int j20l2), (3, .int j30l3)] → K H locs (F0 m 30 ls []) := by
            intro n
            induction n with
            | zero =>
              intro j30l3 j30a0_0 j30a0_3_a H locs ls hm bj30l3_l bj30l3_u bj30a0_0_l bj30a0_0_u bj30a0_3_a hF1 hP hD hS hl
              first | exact zg_0 hm bj30l3_u (by decide) | (have h8 := ai_min j30l3; have h9 := ai_max j30l3; exact absurd hm (by omega))
            | succ n ih30 =>
              intro j30l3 j30a0_0 j30a0_3_a H locs ls hm bj30l3_l bj30l3_u bj30a0_0_l bj30a0_0_u bj30a0_3_a hF1 hP hD hS hl
              refine (hK0 _ _ _).mpr ?_
              have hm30 := hm
              obtain ⟨SX30, hSX30⟩ : ∃ q9, Sf_X2_list_30_1 a1_0.toInt a1_1.toInt a1_9.toInt (fl_A fa1_13) (fl_A fa1_12) j20l2.toInt j30l3.toInt j30a0_0.toInt (fl_A j30a0_3_a) = q9 := ⟨_, rfl⟩
              have hF2 := hSX30.symm.trans (Sf_X2_list_30_1.eq_1 a1_0.toInt a1_1.toInt a1_9.toInt (fl_A fa1_13) (fl_A fa1_12) j20l2.toInt j30l3.toInt j30a0_0.toInt (fl_A j30a0_3_a))
              refine lv_iload_n hx hb dX2_list_30 rfl (lv_at hl 3 rfl) ?_
              refine lv_aload_n hx hb dX2_list_31 rfl (lv_at hl 1 rfl) ?_
              refine va_get (D := (dC, dI)) (ci := 0) (v := .int a1_0) (C := RX0) (T := TX0) (N := 15) hx hb hts zi_X2_list_0 hown hK hP 1 rfl rfl 0 (by decide) (hts (.fieldLink RX2 29 "WaxTurns$Hall" "figures" "I") (List.mem_cons_of_mem _ (List.mem_append_left _ (List.mem_append_left _ (List.mem_of_getElem? (i := 2) rfl))))) (fun _ h9 => h9) rfl dX2_list_32 ?_
              refine lv_icmp_ge (tgt := 79) hx hb dX2_list_35 (by decide) (fun c35 => ?_) (fun c35 => ?_)
              · have gc35 := ai_le c35
                have u35t_a1_0 : a1_0.toInt ≤ (9 : Int) := ba1_0_u
                have l35t_j30l3 : (1 : Int) ≤ j30l3.toInt := Int.le_trans l25f_a1_0 gc35
                have hF2 := hF2.trans (if_pos (show a1_0.toInt ≤ j30l3.toInt from gc35))
                have hF1 := hF1.trans (fl_wh_r (hSX30.trans hF2))
                obtain ⟨x79, ex79⟩ : ∃ y : Int32, y = j20l2 + Int32.ofInt 1 := ⟨_, rfl⟩
                have qx79 : x79.toInt = j20l2.toInt + 1 := ai_inc ex79 (by decide) (by decide) u25f_j20l2 (by decide)
                have bx79 : (1 : Int) ≤ x79.toInt ∧ x79.toInt ≤ 9 := ⟨by rw [qx79]; exact Int.add_le_add bj20l2_l (Int.le_refl _), by rw [qx79]; exact Int.add_le_add u25f_j20l2 (Int.le_refl _)⟩
                refine lv_iinc (v := x79) (lv' := [(2, .int x79), (0, .ref a0), (1, .ref a1), (3, .int j30l3)]) hx hb dX2_list_79 hl (k := 2) rfl ex79.symm (by decide) rfl (fun ls hl => ?_)
                have hF1 := hF1.trans (fl_lt_eq (show x79.toInt = j20l2.toInt + 1 from qx79))
                refine lv_goto (tgt := 20) hx hb dX2_list_82 (by decide) ?_
                exact (hK0 _ _ _).mp (ih20 x79 j30a0_0 j30a0_3_a _ _ _ (by first | exact zg_s hm20 qx79 | (have h0 := qx79; omega)) (Int.le_trans zq4 bx79.1) bx79.2 bj30a0_0_l bj30a0_0_u bj30a0_3_a (hF0.trans (fl_wh_l (hSX20.trans hF1))) hP hD hS (lv_sub hl [1, 2, 0] rfl))
              · have gc35 := ai_nle c35
                have u35f_j30l3 : j30l3.toInt ≤ (8 : Int) := ai_lthi gc35 ba1_0_u
                have l35f_a1_0 : (1 : Int) ≤ a1_0.toInt := l25f_a1_0
                have hF2 := hF2.trans (if_neg (show ¬ (a1_0.toInt ≤ j30l3.toInt) from Int.not_le.mpr gc35))
                refine lv_iconst (v := 0) hx hb dX2_list_38 zk_iconst_0 ?_
                refine lv_istore (lv' := [(4, .int 0), (0, .ref a0), (1, .ref a1), (2, .int j20l2), (3, .int j30l3)]) hx hb dX2_list_39 hl (by decide) rfl (fun ls hl => ?_)
                have J41 : ∀ (n : Nat) (j41l4 : Int32) (j41a0_0 : Int32) (j41a0_3_a : Nat → Int32) (H : Heap) (locs : List Loc) (ls : Array Slot), (10 : Int) - j41l4.toInt ≤ (n : Int) → (0 : Int) ≤ j41l4.toInt → j41l4.toInt ≤ (9 : Int) → (0 : Int) ≤ j41a0_0.toInt → j41a0_0.toInt ≤ (729 : Int) → (∀ k, (0 : Int) ≤ (j41a0_3_a k).toInt ∧ (j41a0_3_a k).toInt ≤ 888 ∧ (j41a0_3_a k).toInt % 10 ≤ 8) → (SX30 = fl_wh (fun t9 => Sf_X2_list_41_1 a1_0.toInt a1_1.toInt a1_9.toInt (fl_A fa1_13) (fl_A fa1_12) j20l2.toInt j30l3.toInt t9.1 t9.2.1 t9.2.2) (Sum.inr (Sum.inr (0, 0, (fun _ => 0)))) n (j41l4.toInt, j41a0_0.toInt, (fl_A j41a0_3_a))) → va_P (dC, dI) vwCl [(a0, .inr (2, [.int j41a0_0, a0g_1, a0g_2, .ref a0_3, a0g_4, .int 1, a0g_6])), (a1, .inr (0, [.int a1_0, .int a1_1, a1g_2, a1g_3, a1g_4, a1g_5, a1g_6, a1g_7, a1g_8, .int a1_9, a1g_10, a1g_11, .ref a1_12, .ref a1_13, a1g_14])), (a0_3, .inl (ka0_3, 729, .inl (j41a0_3_a))), (a1_13, .inl (ka1_13, 6, .inl (fa1_13))), (a1_12, .inl (ka1_12, 6, .inl (fa1_12)))] H → va_D A [(a0, .inr (2, [.int j41a0_0, a0g_1, a0g_2, .ref a0_3, a0g_4, .int 1, a0g_6])), (a1, .inr (0, [.int a1_0, .int a1_1, a1g_2, a1g_3, a1g_4, a1g_5, a1g_6, a1g_7, a1g_8, .int a1_9, a1g_10, a1g_11, .ref a1_12, .ref a1_13, a1g_14])), (a0_3, .inl (ka0_3, 729, .inl (j41a0_3_a))), (a1_13, .inl (ka1_13, 6, .inl (fa1_13))), (a1_12, .inl (ka1_12, 6, .inl (fa1_12)))] → va_S A s.heap H locs → lv_has ls 5 [(0, .ref a0), (1, .ref a1), (2, .int j20l2), (3, .int j30l3), (4, .int j41l4)] → K H locs (F0 m 41 ls []) := by
                  intro n
                  induction n with
                  | zero =>
                    intro j41l4 j41a0_0 j41a0_3_a H locs ls hm bj41l4_l bj41l4_u bj41a0_0_l bj41a0_0_u bj41a0_3_a hF2 hP hD hS hl
                    first | exact zg_0 hm bj41l4_u (by decide) | (have h8 := ai_min j41l4; have h9 := ai_max j41l4; exact absurd hm (by omega))
                  | succ n ih41 =>
                    intro j41l4 j41a0_0 j41a0_3_a H locs ls hm bj41l4_l bj41l4_u bj41a0_0_l bj41a0_0_u bj41a0_3_a hF2 hP hD hS hl
                    refine (hK0 _ _ _).mpr ?_
                    have hm41 := hm
                    obtain ⟨SX41, hSX41⟩ : ∃ q9, Sf_X2_list_41_1 a1_0.toInt a1_1.toInt a1_9.toInt (fl_A fa1_13) (fl_A fa1_12) j20l2.toInt j30l3.toInt j41l4.toInt j41a0_0.toInt (fl_A j41a0_3_a) = q9 := ⟨_, rfl⟩
                    have hF3 := hSX41.symm.trans (Sf_X2_list_41_1.eq_1 a1_0.toInt a1_1.toInt a1_9.toInt (fl_A fa1_13) (fl_A fa1_12) j20l2.toInt j30l3.toInt j41l4.toInt j41a0_0.toInt (fl_A j41a0_3_a))
                    refine lv_iload hx hb dX2_list_41 (lv_at hl 4 rfl) ?_
                    refine lv_aload_n hx hb dX2_list_43 rfl (lv_at hl 1 rfl) ?_
                    refine va_get (D := (dC, dI)) (ci := 0) (v := .int a1_0) (C := RX0) (T := TX0) (N := 15) hx hb hts zi_X2_list_0 hown hK hP 1 rfl rfl 0 (by decide) (hts (.fieldLink RX2 29 "WaxTurns$Hall" "figures" "I") (List.mem_cons_of_mem _ (List.mem_append_left _ (List.mem_append_left _ (List.mem_of_getElem? (i := 2) rfl))))) (fun _ h9 => h9) rfl dX2_list_44 ?_
                    refine lv_icmp_ge (tgt := 73) hx hb dX2_list_47 (by decide) (fun c47 => ?_) (fun c47 => ?_)
                    · have gc47 := ai_le c47
                      have u47t_a1_0 : a1_0.toInt ≤ (9 : Int) := ba1_0_u
                      have l47t_j41l4 : (1 : Int) ≤ j41l4.toInt := Int.le_trans l35f_a1_0 gc47
                      have hF3 := hF3.trans (if_pos (show a1_0.toInt ≤ j41l4.toInt from gc47))
                      have hF2 := hF2.trans (fl_wh_r (hSX41.trans hF3))
                      obtain ⟨x73, ex73⟩ : ∃ y : Int32, y = j30l3 + Int32.ofInt 1 := ⟨_, rfl⟩
                      have qx73 : x73.toInt = j30l3.toInt + 1 := ai_inc ex73 (by decide) (by decide) u35f_j30l3 (by decide)
                      have bx73 : (1 : Int) ≤ x73.toInt ∧ x73.toInt ≤ 9 := ⟨by rw [qx73]; exact Int.add_le_add bj30l3_l (Int.le_refl _), by rw [qx73]; exact Int.add_le_add u35f_j30l3 (Int.le_refl _)⟩
                      refine lv_iinc (v := x73) (lv' := [(3, .int x73), (0, .ref a0), (1, .ref a1), (2, .int j20l2), (4, .int j41l4)]) hx hb dX2_list_73 hl (k := 3) rfl ex73.symm (by decide) rfl (fun ls hl => ?_)
                      have hF2 := hF2.trans (fl_lt_eq (show x73.toInt = j30l3.toInt + 1 from qx73))
                      refine lv_goto (tgt := 30) hx hb dX2_list_76 (by decide) ?_
                      exact (hK0 _ _ _).mp (ih30 x73 j41a0_0 j41a0_3_a _ _ _ (by first | exact zg_s hm30 qx73 | (have h0 := qx73; omega)) (Int.le_trans zq4 bx73.1) bx73.2 bj41a0_0_l bj41a0_0_u bj41a0_3_a (hF1.trans (fl_wh_l (hSX30.trans hF2))) hP hD hS (lv_sub hl [1, 2, 3, 0] rfl))
                    · have gc47 := ai_nle c47
                      have u47f_j41l4 : j41l4.toInt ≤ (8 : Int) := ai_lthi gc47 ba1_0_u
                      have l47f_a1_0 : (1 : Int) ≤ a1_0.toInt := l35f_a1_0
                      have hF3 := hF3.trans (if_neg (show ¬ (a1_0.toInt ≤ j41l4.toInt) from Int.not_le.mpr gc47))
                      refine lv_aload_n hx hb dX2_list_50 rfl (lv_at hl 0 rfl) ?_
                      refine lv_aload_n hx hb dX2_list_51 rfl (lv_at hl 1 rfl) ?_
                      refine lv_bipush (v := 100) hx hb dX2_list_52 zk_bipush_100 ?_
                      refine lv_iload_n hx hb dX2_list_54 rfl (lv_at hl 2 rfl) ?_
                      refine lv_imul hx hb dX2_list_55 ?_
                      refine lv_topi (fun x55 ex55 => ?_)
                      have qx55 : x55.toInt = (100 : Int32).toInt * j20l2.toInt ∧ (0 : Int) ≤ x55.toInt ∧ x55.toInt ≤ 800 := ai_mul ex55 ⟨zq24, zq32⟩ ⟨bj20l2_l, u25f_j20l2⟩ (by decide) (by decide) zq33
                      have wx55 : x55.toInt = 100 * j20l2.toInt := qx55.1
                      have hF3 := hF3.trans (fl_lt_eq (show x55.toInt = 100 * j20l2.toInt from qx55.1))
                      refine lv_bipush (v := 10) hx hb dX2_list_56 zk_bipush_10 ?_
                      refine lv_iload_n hx hb dX2_list_58 rfl (lv_at hl 3 rfl) ?_
                      refine lv_imul hx hb dX2_list_59 ?_
                      refine lv_topi (fun x59 ex59 => ?_)
                      have qx59 : x59.toInt = (10 : Int32).toInt * j30l3.toInt ∧ (0 : Int) ≤ x59.toInt ∧ x59.toInt ≤ 80 := ai_mul ex59 ⟨zq26, zq27⟩ ⟨bj30l3_l, u35f_j30l3⟩ (by decide) (by decide) zq34
                      have wx59 : x59.toInt = 10 * j30l3.toInt := qx59.1
                      have hF3 := hF3.trans (fl_lt_eq (show x59.toInt = 10 * j30l3.toInt from qx59.1))
                      refine lv_iadd hx hb dX2_list_60 ?_
                      refine lv_topi (fun x60 ex60 => ?_)
                      have qx60 : x60.toInt = x55.toInt + x59.toInt := ai_add ex60 ⟨qx55.2.1, qx55.2.2⟩ ⟨qx59.2.1, qx59.2.2⟩ (by decide) (by decide)
                      have bx60 : (0 : Int) ≤ x60.toInt ∧ x60.toInt ≤ 880 := ⟨by rw [qx60]; exact Int.add_le_add qx55.2.1 qx59.2.1, by rw [qx60]; exact Int.add_le_add qx55.2.2 qx59.2.2⟩
                      have hF3 := hF3.trans (fl_lt_eq (show x60.toInt = x55.toInt + x59.toInt from qx60))
                      refine lv_iload hx hb dX2_list_61 (lv_at hl 4 rfl) ?_
                      refine lv_iadd hx hb dX2_list_63 ?_
                      refine lv_topi (fun x63 ex63 => ?_)
                      have qx63 : x63.toInt = x60.toInt + j41l4.toInt := ai_add ex63 ⟨bx60.1, bx60.2⟩ ⟨bj41l4_l, u47f_j41l4⟩ (by decide) (by decide)
                      have bx63 : (0 : Int) ≤ x63.toInt ∧ x63.toInt ≤ 888 := ⟨by rw [qx63]; exact Int.add_le_add bx60.1 bj41l4_l, by rw [qx63]; exact Int.add_le_add bx60.2 u47f_j41l4⟩
                      have hF3 := hF3.trans (fl_lt_eq (show x63.toInt = x60.toInt + j41l4.toInt from qx63))
                      have hKc := hK.sub (tys' := [(ka0_3, .int), (ka1_13, .int), (ka1_12, .int)]) [0, 1, 2] rfl
                      refine va_callv (va_runV (As := [.ref a1, .int x63]) (rest := []) ⟨hx, hb, hml, hown, hts⟩ (f_X2_addIfFit l dC dI H.size a0 a1 x63 j41a0_0 a0g_1 a0g_2 a0g_4 (.int 1) a0g_6 a0_3 a1_0 a1_1 a1g_2 a1g_3 a1g_4 a1g_5 a1g_6 a1g_7 a1g_8 a1g_10 a1g_11 a1g_14 a1_9 a1_12 a1_13 ka0_3 j41a0_3_a ka1_13 fa1_13 ka1_12 fa1_12 bx63.1 bx63.2 bj41a0_0_l bj41a0_0_u (Int.le_trans zq4 l47f_a1_0) ba1_0_u ba1_9_l ba1_9_u bj41a0_3_a bfa1_13 (by omega)) (cwV 2 hts gX2_list_X2_addIfFit rfl rfl rfl zd_X2_addIfFit ⟨Nat.le_of_ble_eq_true rfl, Nat.le_of_ble_eq_true rfl⟩) ⟨ax_blind (fun _ _ _ _ hq => va_Nw.same rfl rfl (hq)), zr_2 hKc (zp_P5 hP) (q0 := 0) rfl, ax_pre (zp_P5 hP) hKc (zp_D5 hD) (fun _ hW => va_Nw.warmM hW hE0)⟩ rfl rfl hl.1 rfl (lv_room (Nat.le_of_ble_eq_true rfl)) dX2_list_64 ⟨Nat.le_of_ble_eq_true rfl, Nat.le_of_ble_eq_true rfl⟩) hS (fun q _ h => zp_F5 hD hS hA q h) (zp_F5 hD hS hA) (fun u t H locs ht hvm hw => zx_2 (fun v64na0_0 v64nfa0_3 => zy_3 (fun bv64na0_0 bv64nfa0_3 hraw64_0 hB hz1 hk1 hS1 => zo5 hB ht hP hD hk1 (zp_F5 hD hS hA) hS1 (fun hP hK1 hD hS => ?_))))
                      have hc64 : Ff_X2_addIfFit x63.toInt j41a0_0.toInt a1_0.toInt a1_1.toInt a1_9.toInt (fl_A j41a0_3_a) (fl_A fa1_13) (fl_A fa1_12) = (v64na0_0.toInt, (fl_A v64nfa0_3)) := hraw64_0
                      have hF3 := hF3.trans (fl_c2_eq hc64)
                      obtain ⟨x67, ex67⟩ : ∃ y : Int32, y = j41l4 + Int32.ofInt 1 := ⟨_, rfl⟩
                      have qx67 : x67.toInt = j41l4.toInt + 1 := ai_inc ex67 (by decide) (by decide) u47f_j41l4 (by decide)
                      have bx67 : (1 : Int) ≤ x67.toInt ∧ x67.toInt ≤ 9 := ⟨by rw [qx67]; exact Int.add_le_add bj41l4_l (Int.le_refl _), by rw [qx67]; exact Int.add_le_add u47f_j41l4 (Int.le_refl _)⟩
                      refine lv_iinc (v := x67) (lv' := [(4, .int x67), (0, .ref a0), (1, .ref a1), (2, .int j20l2), (3, .int j30l3)]) hx hb dX2_list_67 hl (k := 4) rfl ex67.symm (by decide) rfl (fun ls hl => ?_)
                      have hF3 := hF3.trans (fl_lt_eq (show x67.toInt = j41l4.toInt + 1 from qx67))
                      refine lv_goto (tgt := 41) hx hb dX2_list_70 (by decide) ?_
                      exact (hK0 _ _ _).mp (ih41 x67 v64na0_0 v64nfa0_3 _ _ _ (by first | exact zg_s hm41 qx67 | (have h0 := qx67; omega)) (Int.le_trans zq4 bx67.1) bx67.2 bv64na0_0.1 bv64na0_0.2 bv64nfa0_3 (hF2.trans (fl_wh_l (hSX41.trans hF3))) hP hD hS (lv_sub hl [1, 2, 3, 4, 0] rfl))
                exact (hK0 _ _ _).mp (J41 10 0 j30a0_0 j30a0_3_a _ _ _ (by first | decide +kernel | (have h1 : (0 : Int) ≤ (0 : Int32).toInt := zq5; have h2 : (0 : Int32).toInt ≤ (0 : Int) := zq6; omega)) zq5 (Int.le_trans zq6 zq7) bj30a0_0_l bj30a0_0_u bj30a0_3_a (by rw [show (0 : Int32).toInt = 0 from by decide]; exact hF2) hP hD hS (lv_sub hl [1, 2, 3, 4, 0] rfl))
          exact (hK0 _ _ _).mp (J30 10 0 j20a0_0 j20a0_3_a _ _ _ (by first | decide +kernel | (have h1 : (0 : Int) ≤ (0 : Int32).toInt := zq5; have h2 : (0 : Int32).toInt ≤ (0 : Int) := zq6; omega)) zq5 (Int.le_trans zq6 zq7) bj20a0_0_l bj20a0_0_u bj20a0_3_a (by rw [show (0 : Int32).toInt = 0 from by decide]; exact hF1) hP hD hS (lv_sub hl [1, 2, 3, 0] rfl))
    exact (hK0 _ _ _).mp (J20 10 0 0 fa0_3 _ _ _ (by first | decide +kernel | (have h1 : (0 : Int) ≤ (0 : Int32).toInt := zq5; have h2 : (0 : Int32).toInt ≤ (0 : Int) := zq6; omega)) zq5 (Int.le_trans zq6 zq7) zq5 (Int.le_trans zq6 zq35) bfa0_3 (by rw [show (0 : Int32).toInt = 0 from by decide]; exact hF0) hP hD hS (lv_sub hl [1, 2, 0] rfl))
  · have gc4 := ai_ne c4
    have l4f_a0_5 : (1 : Int) ≤ a0_5.toInt := (by first | exact zg_l ba0_5_l gc4 (by decide) (by decide) | (have h1 := ba0_5_l; have h2 : (0 : Int32).toInt = 0 := (by decide); rw [h2] at gc4; omega))
    have hF0 := hF0.trans (if_neg (show ¬ (a0_5.toInt = 0) from  gc4))
    have hFe : FX = (a0_0.toInt, a0_5.toInt, (fl_A fa0_3)) := hF0
    exact W.vret hx hb hr (fun t ht hW => ⟨⟨(), rfl, trivial, a0_0, a0_5, fa0_3, ⟨ba0_0_l, ba0_0_u⟩, ⟨Int.le_trans (by decide) l4f_a0_5, ba0_5_u⟩, bfa0_3, hFe, by rw [ht]; exact hP, va_K.moved hW.alike hK, hD⟩, hS.F ht⟩) hS.2.2 dX2_list_7

set_option maxHeartbeats 4000000 in
set_option maxRecDepth 100000 in
theorem f_X2_mostOf (l : Launch) (dC : Nat → ClassId) (dI : Nat → Nat → Nat) (sz : Nat) (a0 : Nat) (a1 : Int32) (a0g_0 a0g_1 a0g_2 a0g_3 a0g_5 a0g_6 : Value) (a0_4 : Nat) (ka0_4 : ClassId) (fa0_4 : Nat → Int32) (ba1_l : (0 : Int) ≤ a1.toInt) (ba1_u : a1.toInt ≤ (99 : Int)) : zm l yX2_mostOf wsX2_mostOf ({ frames := 1, cells := 0, slots := 0, locals := 24 }) [.ref a0, .int a1] dC dI sz [(a0, .inr (2, [a0g_0, a0g_1, a0g_2, a0g_3, .ref a0_4, a0g_5, a0g_6])), (a0_4, .inl (ka0_4, 900, .inl (fa0_4)))] [(ka0_4, .int)] (fun A _ => True) (fun A => va_Qi (fun (r : Int32) (_ : Unit) => (True) ∧ r.toInt = Ff_X2_mostOf a1.toInt (fl_A fa0_4)) (fun (_ : Unit) (t : State) => ax_B dC dI A [(a0, .inr (2, [a0g_0, a0g_1, a0g_2, a0g_3, .ref a0_4, a0g_5, a0g_6])), (a0_4, .inl (ka0_4, 900, .inl (fa0_4)))] [(ka0_4, .int)] t) A) := by
  refine zh (cc := cX2_mostOf) (maxL := 4) (ret := (some .int)) zn_RX2 rfl (Nat.le_of_ble_eq_true rfl) (fun p e s m below meth c A ls hx hb hml hr hts (hown : s.vm.findClass RX2 = some m.cls) hlocks hA hS hP hK hD hE (hl : lv_has ls 4 [(0, .ref a0), (1, .int a1)]) => ?_)
  generalize hFX : Ff_X2_mostOf a1.toInt (fl_A fa0_4) = FX at ⊢
  have hF0 := hFX.symm.trans (Ff_X2_mostOf.eq_1 a1.toInt (fl_A fa0_4))
  refine ai_open (fun K hK0 => ?_)
  refine (hK0 _ _ _).mpr ?_
  refine lv_iconst (v := 0) hx hb dX2_mostOf_0 zk_iconst_0 ?_
  refine lv_istore_n (lv' := [(2, .int 0), (0, .ref a0), (1, .int a1)]) hx hb dX2_mostOf_1 rfl hl (by decide) rfl (fun ls hl => ?_)
  refine lv_iconst (v := 0) hx hb dX2_mostOf_2 zk_iconst_0 ?_
  refine lv_istore_n (lv' := [(3, .int 0), (2, .int 0), (0, .ref a0), (1, .int a1)]) hx hb dX2_mostOf_3 rfl hl (by decide) rfl (fun ls hl => ?_)
  have J4 : ∀ (n : Nat) (j4l3 : Int32) (j4l2 : Int32) (H : Heap) (locs : List Loc) (ls : Array Slot), (10 : Int) - j4l3.toInt ≤ (n : Int) → (0 : Int) ≤ j4l3.toInt → j4l3.toInt ≤ (9 : Int) → (FX = fl_wh (fun t9 => Sf_X2_mostOf_4_1 a1.toInt (fl_A fa0_4) t9.1 t9.2) 0 n (j4l3.toInt, j4l2.toInt)) → va_P (dC, dI) vwCl [(a0, .inr (2, [a0g_0, a0g_1, a0g_2, a0g_3, .ref a0_4, a0g_5, a0g_6])), (a0_4, .inl (ka0_4, 900, .inl (fa0_4)))] H → va_D A [(a0, .inr (2, [a0g_0, a0g_1, a0g_2, a0g_3, .ref a0_4, a0g_5, a0g_6])), (a0_4, .inl (ka0_4, 900, .inl (fa0_4)))] → va_S A s.heap H locs → lv_has ls 4 [(0, .ref a0), (1, .int a1), (2, .int j4l2), (3, .int j4l3)] → K H locs (F0 m 4 ls []) := by
    intro n
    induction n with
    | zero =>
      intro j4l3 j4l2 H locs ls hm bj4l3_l bj4l3_u hF0 hP hD hS hl
      first | exact zg_0 hm bj4l3_u (by decide) | (have h8 := ai_min j4l3; have h9 := ai_max j4l3; exact absurd hm (by omega))
    | succ n ih4 =>
      intro j4l3 j4l2 H locs ls hm bj4l3_l bj4l3_u hF0 hP hD hS hl
      refine (hK0 _ _ _).mpr ?_
      have hm4 := hm
      obtain ⟨SX4, hSX4⟩ : ∃ q9, Sf_X2_mostOf_4_1 a1.toInt (fl_A fa0_4) j4l3.toInt j4l2.toInt = q9 := ⟨_, rfl⟩
      have hF1 := hSX4.symm.trans (Sf_X2_mostOf_4_1.eq_1 a1.toInt (fl_A fa0_4) j4l3.toInt j4l2.toInt)
      refine lv_iload_n hx hb dX2_mostOf_4 rfl (lv_at hl 3 rfl) ?_
      refine lv_bipush (v := 9) hx hb dX2_mostOf_5 zk_bipush_9 ?_
      refine lv_icmp_ge (tgt := 32) hx hb dX2_mostOf_7 (by decide) (fun c7 => ?_) (fun c7 => ?_)
      · have gc7 := ai_le c7
        have l7t_j4l3 : (9 : Int) ≤ j4l3.toInt := Int.le_trans zq2 gc7
        have hF1 := hF1.trans (if_pos (show 9 ≤ j4l3.toInt from gc7))
        have hF0 := hF0.trans (fl_wh_r (hSX4.trans hF1))
        refine lv_iload_n hx hb dX2_mostOf_32 rfl (lv_at hl 2 rfl) ?_
        have hFe : FX = j4l2.toInt := hF0
        exact W.iret (v := j4l2) hx hb hr (fun t ht hW => ⟨⟨j4l2, (), rfl, ⟨trivial, hFe.symm⟩, by rw [ht]; exact hP, va_K.moved hW.alike hK, hD⟩, hS.F ht⟩) hS.2.2 dX2_mostOf_33
      · have gc7 := ai_nle c7
        have u7f_j4l3 : j4l3.toInt ≤ (8 : Int) := ai_lthi gc7 zq3
        have hF1 := hF1.trans (if_neg (show ¬ (9 ≤ j4l3.toInt) from Int.not_le.mpr gc7))
        refine lv_iload_n hx hb dX2_mostOf_10 rfl (lv_at hl 2 rfl) ?_
        refine lv_aload_n hx hb dX2_mostOf_11 rfl (lv_at hl 0 rfl) ?_
        refine va_get (D := (dC, dI)) (ci := 2) (v := .ref a0_4) (C := RX2) (T := TX2) (N := 7) hx hb hts zi_X2_mostOf_2 hown hK hP 0 rfl rfl 4 (by decide) (hts (.fieldLink RX2 15 "WaxTurns$Laws" "tallies" "[I") (List.mem_cons_of_mem _ (List.mem_append_left _ (List.mem_of_getElem? (i := 0) rfl)))) (fun _ h9 => h9) rfl dX2_mostOf_12 ?_
        refine lv_iload_n hx hb dX2_mostOf_15 rfl (lv_at hl 1 rfl) ?_
        refine lv_bipush (v := 9) hx hb dX2_mostOf_16 zk_bipush_9 ?_
        refine lv_imul hx hb dX2_mostOf_18 ?_
        refine lv_topi (fun x18 ex18 => ?_)
        have qx18 : x18.toInt = a1.toInt * (9 : Int32).toInt ∧ (0 : Int) ≤ x18.toInt ∧ x18.toInt ≤ 891 := ai_mul ex18 ⟨ba1_l, ba1_u⟩ ⟨zq2, zq3⟩ (by decide) (by decide) zq36
        have wx18 : x18.toInt = a1.toInt * 9 := qx18.1
        have hF1 := hF1.trans (fl_lt_eq (show x18.toInt = a1.toInt * 9 from qx18.1))
        refine lv_iload_n hx hb dX2_mostOf_19 rfl (lv_at hl 3 rfl) ?_
        refine lv_iadd hx hb dX2_mostOf_20 ?_
        refine lv_topi (fun x20 ex20 => ?_)
        have qx20 : x20.toInt = x18.toInt + j4l3.toInt := ai_add ex20 ⟨qx18.2.1, qx18.2.2⟩ ⟨bj4l3_l, u7f_j4l3⟩ (by decide) (by decide)
        have bx20 : (0 : Int) ≤ x20.toInt ∧ x20.toInt ≤ 899 := ⟨by rw [qx20]; exact Int.add_le_add qx18.2.1 bj4l3_l, by rw [qx20]; exact Int.add_le_add qx18.2.2 u7f_j4l3⟩
        have hF1 := hF1.trans (fl_lt_eq (show x20.toInt = x18.toInt + j4l3.toInt from qx20))
        refine va_iald hx hb hK hP 1 0 rfl rfl (ai_in bx20.1 bx20.2 (by decide) (by decide)) dX2_mostOf_21 ?_
        refine lv_topi (fun x21 ex21 => ?_)
        have fqx21 := congrArg Int32.toInt ex21
        have hF1 := hF1.trans (fl_lt_eq (show x21.toInt = (fl_A fa0_4) (x20.toInt.toNat) from fqx21))
        refine va_mmax hx hb (by rw [hml]; exact hl.1.symm) hown (hts (.methodLink RX2 72 Lib.Math.max.name) (List.mem_cons_of_mem _ (List.mem_append_left _ (List.mem_of_getElem? (i := 1) rfl)))) (hts (.static Lib.Math.max.name) (List.mem_cons_of_mem _ (List.mem_append_left _ (List.mem_of_getElem? (i := 2) rfl)))) (hts (.initialized "java/lang/Math") (List.mem_cons_of_mem _ (List.mem_append_left _ (List.mem_of_getElem? (i := 3) rfl)))) (hts _ mxX2_mostOf) (Nat.le_of_ble_eq_true rfl) (Nat.le_of_ble_eq_true rfl) (Nat.le_of_ble_eq_true rfl) (Nat.le_of_ble_eq_true rfl) dX2_mostOf_22 ?_
        refine lv_topi (fun x22 ex22 => ?_)
        have fqx22 := fl_max_eq ex22
        have hF1 := hF1.trans (fl_lt_eq (show x22.toInt = fl_max j4l2.toInt x21.toInt from fqx22))
        refine lv_istore_n (lv' := [(2, .int x22), (0, .ref a0), (1, .int a1), (3, .int j4l3)]) hx hb dX2_mostOf_25 rfl hl (by decide) rfl (fun ls hl => ?_)
        obtain ⟨x26, ex26⟩ : ∃ y : Int32, y = j4l3 + Int32.ofInt 1 := ⟨_, rfl⟩
        have qx26 : x26.toInt = j4l3.toInt + 1 := ai_inc ex26 (by decide) (by decide) u7f_j4l3 (by decide)
        have bx26 : (1 : Int) ≤ x26.toInt ∧ x26.toInt ≤ 9 := ⟨by rw [qx26]; exact Int.add_le_add bj4l3_l (Int.le_refl _), by rw [qx26]; exact Int.add_le_add u7f_j4l3 (Int.le_refl _)⟩
        refine lv_iinc (v := x26) (lv' := [(3, .int x26), (2, .int x22), (0, .ref a0), (1, .int a1)]) hx hb dX2_mostOf_26 hl (k := 3) rfl ex26.symm (by decide) rfl (fun ls hl => ?_)
        have hF1 := hF1.trans (fl_lt_eq (show x26.toInt = j4l3.toInt + 1 from qx26))
        refine lv_goto (tgt := 4) hx hb dX2_mostOf_29 (by decide) ?_
        exact (hK0 _ _ _).mp (ih4 x26 x22 _ _ _ (by first | exact zg_s hm4 qx26 | (have h0 := qx26; omega)) (Int.le_trans zq4 bx26.1) bx26.2 (hF0.trans (fl_wh_l (hSX4.trans hF1))) hP hD hS (lv_sub hl [2, 3, 1, 0] rfl))
  exact (hK0 _ _ _).mp (J4 10 0 0 _ _ _ (by first | decide +kernel | (have h1 : (0 : Int) ≤ (0 : Int32).toInt := zq5; have h2 : (0 : Int32).toInt ≤ (0 : Int) := zq6; omega)) zq5 (Int.le_trans zq6 zq7) (by rw [show (0 : Int32).toInt = 0 from by decide]; exact hF0) hP hD hS (lv_sub hl [2, 3, 1, 0] rfl))
end P314_18_f
section P314_19_f
set_option maxHeartbeats 4000000 in
set_option maxRecDepth 100000 in
theorem f_X2_tally (l : Launch) (dC : Nat → ClassId) (dI : Nat → Nat → Nat) (sz : Nat) (a0 : Nat) (a1 : Int32) (a2 : Int32) (a0_0 : Int32) (a0g_1 a0g_2 a0g_5 a0g_6 : Value) (a0_3 : Nat) (a0_4 : Nat) (ka0_4 : ClassId) (fa0_4 : Nat → Int32) (ka0_3 : ClassId) (fa0_3 : Nat → Int32) (ba1_l : (0 : Int) ≤ a1.toInt) (ba1_u : a1.toInt ≤ (9 : Int)) (ba0_0_l : (0 : Int) ≤ a0_0.toInt) (ba0_0_u : a0_0.toInt ≤ (729 : Int)) (bfa0_3 : (∀ k, (0 : Int) ≤ (fa0_3 k).toInt ∧ (fa0_3 k).toInt ≤ 888 ∧ (fa0_3 k).toInt % 10 ≤ 8)) : zm l yX2_tally wsX2_tally ({ frames := 0, cells := 0, slots := 0, locals := 0 }) [.ref a0, .int a1, .int a2] dC dI sz [(a0, .inr (2, [.int a0_0, a0g_1, a0g_2, .ref a0_3, .ref a0_4, a0g_5, a0g_6])), (a0_4, .inl (ka0_4, 900, .inl (fa0_4))), (a0_3, .inl (ka0_3, 729, .inl (fa0_3)))] [(ka0_4, .int), (ka0_3, .int)] (fun A _ => True) (fun A => va_Qv (fun (_ : Unit) => True) (fun (_ : Unit) (t : State) => ∃ nfa0_4 : Nat → Int32, (Ff_X2_tally a1.toInt a2.toInt a0_0.toInt (fl_A fa0_4) (fl_A fa0_3) = (fl_A nfa0_4)) ∧ ax_B dC dI A [(a0, .inr (2, [.int a0_0, a0g_1, a0g_2, .ref a0_3, .ref a0_4, a0g_5, a0g_6])), (a0_4, .inl (ka0_4, 900, .inl (nfa0_4))), (a0_3, .inl (ka0_3, 729, .inl (fa0_3)))] [(ka0_4, .int), (ka0_3, .int)] t) A) := by
  refine zh (cc := cX2_tally) (maxL := 8) (ret := none) zn_RX2 rfl (Nat.le_of_ble_eq_true rfl) (fun p e s m below meth c A ls hx hb hml hr hts (hown : s.vm.findClass RX2 = some m.cls) hlocks hA hS hP hK hD hE (hl : lv_has ls 8 [(0, .ref a0), (1, .int a1), (2, .int a2)]) => ?_)
  generalize hFX : Ff_X2_tally a1.toInt a2.toInt a0_0.toInt (fl_A fa0_4) (fl_A fa0_3) = FX at ⊢
  have hF0 := hFX.symm.trans (Ff_X2_tally.eq_1 a1.toInt a2.toInt a0_0.toInt (fl_A fa0_4) (fl_A fa0_3))
  refine ai_open (fun K hK0 => ?_)
  refine (hK0 _ _ _).mpr ?_
  refine lv_iconst (v := 0) hx hb dX2_tally_0 zk_iconst_0 ?_
  refine lv_istore_n (lv' := [(3, .int 0), (0, .ref a0), (1, .int a1), (2, .int a2)]) hx hb dX2_tally_1 rfl hl (by decide) rfl (fun ls hl => ?_)
  have J2 : ∀ (n : Nat) (j2l3 : Int32) (j2a0_4_a : Nat → Int32) (H : Heap) (locs : List Loc) (ls : Array Slot), (901 : Int) - j2l3.toInt ≤ (n : Int) → (0 : Int) ≤ j2l3.toInt → j2l3.toInt ≤ (900 : Int) → (FX = fl_wh (fun t9 => Sf_X2_tally_2_1 a1.toInt a2.toInt a0_0.toInt (fl_A fa0_3) t9.1 t9.2) (fun _ => 0) n (j2l3.toInt, (fl_A j2a0_4_a))) → va_P (dC, dI) vwCl [(a0, .inr (2, [.int a0_0, a0g_1, a0g_2, .ref a0_3, .ref a0_4, a0g_5, a0g_6])), (a0_4, .inl (ka0_4, 900, .inl (j2a0_4_a))), (a0_3, .inl (ka0_3, 729, .inl (fa0_3)))] H → va_D A [(a0, .inr (2, [.int a0_0, a0g_1, a0g_2, .ref a0_3, .ref a0_4, a0g_5, a0g_6])), (a0_4, .inl (ka0_4, 900, .inl (j2a0_4_a))), (a0_3, .inl (ka0_3, 729, .inl (fa0_3)))] → va_S A s.heap H locs → lv_has ls 8 [(0, .ref a0), (1, .int a1), (2, .int a2), (3, .int j2l3)] → K H locs (F0 m 2 ls []) := by
    intro n
    induction n with
    | zero =>
      intro j2l3 j2a0_4_a H locs ls hm bj2l3_l bj2l3_u hF0 hP hD hS hl
      first | exact zg_0 hm bj2l3_u (by decide) | (have h8 := ai_min j2l3; have h9 := ai_max j2l3; exact absurd hm (by omega))
    | succ n ih2 =>
      intro j2l3 j2a0_4_a H locs ls hm bj2l3_l bj2l3_u hF0 hP hD hS hl
      refine (hK0 _ _ _).mpr ?_
      have hm2 := hm
      obtain ⟨SX2, hSX2⟩ : ∃ q9, Sf_X2_tally_2_1 a1.toInt a2.toInt a0_0.toInt (fl_A fa0_3) j2l3.toInt (fl_A j2a0_4_a) = q9 := ⟨_, rfl⟩
      have hF1 := hSX2.symm.trans (Sf_X2_tally_2_1.eq_1 a1.toInt a2.toInt a0_0.toInt (fl_A fa0_3) j2l3.toInt (fl_A j2a0_4_a))
      refine lv_iload_n hx hb dX2_tally_2 rfl (lv_at hl 3 rfl) ?_
      refine lv_aload_n hx hb dX2_tally_3 rfl (lv_at hl 0 rfl) ?_
      refine va_get (D := (dC, dI)) (ci := 2) (v := .ref a0_4) (C := RX2) (T := TX2) (N := 7) hx hb hts zi_X2_tally_2 hown hK hP 0 rfl rfl 4 (by decide) (hts (.fieldLink RX2 15 "WaxTurns$Laws" "tallies" "[I") (List.mem_cons_of_mem _ (List.mem_append_left _ (List.mem_of_getElem? (i := 0) rfl)))) (fun _ h9 => h9) rfl dX2_tally_4 ?_
      refine va_alen hx hb hK hP 1 0 rfl rfl (v := 900) rfl dX2_tally_7 ?_
      refine lv_icmp_ge (tgt := 24) hx hb dX2_tally_8 (by decide) (fun c8 => ?_) (fun c8 => ?_)
      · have gc8 := ai_le c8
        have l8t_j2l3 : (900 : Int) ≤ j2l3.toInt := Int.le_trans zq37 gc8
        have hF1 := hF1.trans (if_pos (show 900 ≤ j2l3.toInt from gc8))
        have hF0 := hF0.trans (fl_wh_r (hSX2.trans hF1))
        refine lv_iload_n hx hb dX2_tally_24 rfl (lv_at hl 1 rfl) ?_
        refine lv_if_le (tgt := 34) hx hb dX2_tally_25 (by decide) (fun c25 => ?_) (fun c25 => ?_)
        · have gc25 := ai_le c25
          have u25t_a1 : a1.toInt ≤ (0 : Int) := Int.le_trans gc25 zq6
          have hF0 := hF0.trans (if_pos (show a1.toInt ≤ 0 from gc25))
          have hFe : FX = (fl_A j2a0_4_a) := hF0
          exact W.vret hx hb hr (fun t ht hW => ⟨⟨(), rfl, trivial, j2a0_4_a, hFe, by rw [ht]; exact hP, va_K.moved hW.alike hK, hD⟩, hS.F ht⟩) hS.2.2 dX2_tally_34
        · have gc25 := ai_nle c25
          have l25f_a1 : (1 : Int) ≤ a1.toInt := ai_ltlo gc25 zq5
          have hF0 := hF0.trans (if_neg (show ¬ (a1.toInt ≤ 0) from Int.not_le.mpr gc25))
          refine lv_iload_n hx hb dX2_tally_28 rfl (lv_at hl 2 rfl) ?_
          refine lv_bipush (v := 100) hx hb dX2_tally_29 zk_bipush_100 ?_
          refine lv_icmp_le (tgt := 35) hx hb dX2_tally_31 (by decide) (fun c31 => ?_) (fun c31 => ?_)
          · have gc31 := ai_le c31
            have u31t_a2 : a2.toInt ≤ (100 : Int) := Int.le_trans gc31 zq32
            have hF0 := hF0.trans (if_pos (show a2.toInt ≤ 100 from gc31))
            refine lv_iconst (v := 0) hx hb dX2_tally_35 zk_iconst_0 ?_
            refine lv_istore_n (lv' := [(3, .int 0), (0, .ref a0), (1, .int a1), (2, .int a2)]) hx hb dX2_tally_36 rfl hl (by decide) rfl (fun ls hl => ?_)
            have J37 : ∀ (n : Nat) (j37l3 : Int32) (j37a0_4_a : Nat → Int32) (H : Heap) (locs : List Loc) (ls : Array Slot), (730 : Int) - j37l3.toInt ≤ (n : Int) → (0 : Int) ≤ j37l3.toInt → j37l3.toInt ≤ (729 : Int) → (FX = fl_wh (fun t9 => Sf_X2_tally_37_1 a1.toInt a2.toInt a0_0.toInt (fl_A fa0_3) t9.1 t9.2) (fun _ => 0) n (j37l3.toInt, (fl_A j37a0_4_a))) → va_P (dC, dI) vwCl [(a0, .inr (2, [.int a0_0, a0g_1, a0g_2, .ref a0_3, .ref a0_4, a0g_5, a0g_6])), (a0_4, .inl (ka0_4, 900, .inl (j37a0_4_a))), (a0_3, .inl (ka0_3, 729, .inl (fa0_3)))] H → va_D A [(a0, .inr (2, [.int a0_0, a0g_1, a0g_2, .ref a0_3, .ref a0_4, a0g_5, a0g_6])), (a0_4, .inl (ka0_4, 900, .inl (j37a0_4_a))), (a0_3, .inl (ka0_3, 729, .inl (fa0_3)))] → va_S A s.heap H locs → lv_has ls 8 [(0, .ref a0), (1, .int a1), (2, .int a2), (3, .int j37l3)] → K H locs (F0 m 37 ls []) := by
              intro n
              induction n with
              | zero =>
                intro j37l3 j37a0_4_a H locs ls hm bj37l3_l bj37l3_u hF0 hP hD hS hl
                first | exact zg_0 hm bj37l3_u (by decide) | (have h8 := ai_min j37l3; have h9 := ai_max j37l3; exact absurd hm (by omega))
              | succ n ih37 =>
                intro j37l3 j37a0_4_a H locs ls hm bj37l3_l bj37l3_u hF0 hP hD hS hl
                refine (hK0 _ _ _).mpr ?_
                have hm37 := hm
                obtain ⟨SX37, hSX37⟩ : ∃ q9, Sf_X2_tally_37_1 a1.toInt a2.toInt a0_0.toInt (fl_A fa0_3) j37l3.toInt (fl_A j37a0_4_a) = q9 := ⟨_, rfl⟩
                have hF1 := hSX37.symm.trans (Sf_X2_tally_37_1.eq_1 a1.toInt a2.toInt a0_0.toInt (fl_A fa0_3) j37l3.toInt (fl_A j37a0_4_a))
                refine lv_iload_n hx hb dX2_tally_37 rfl (lv_at hl 3 rfl) ?_
                refine lv_aload_n hx hb dX2_tally_38 rfl (lv_at hl 0 rfl) ?_
                refine va_get (D := (dC, dI)) (ci := 2) (v := .int a0_0) (C := RX2) (T := TX2) (N := 7) hx hb hts zi_X2_tally_2 hown hK hP 0 rfl rfl 0 (by decide) (hts (.fieldLink RX2 25 "WaxTurns$Laws" "fitCount" "I") (List.mem_cons_of_mem _ (List.mem_append_left _ (List.mem_of_getElem? (i := 1) rfl)))) (fun _ h9 => h9) rfl dX2_tally_39 ?_
                refine lv_icmp_ge (tgt := 131) hx hb dX2_tally_42 (by decide) (fun c42 => ?_) (fun c42 => ?_)
                · have gc42 := ai_le c42
                  have u42t_a0_0 : a0_0.toInt ≤ (729 : Int) := ba0_0_u
                  have l42t_j37l3 : (0 : Int) ≤ j37l3.toInt := bj37l3_l
                  have hF1 := hF1.trans (if_pos (show a0_0.toInt ≤ j37l3.toInt from gc42))
                  have hF0 := hF0.trans (fl_wh_r (hSX37.trans hF1))
                  have hFe : FX = (fl_A j37a0_4_a) := hF0
                  exact W.vret hx hb hr (fun t ht hW => ⟨⟨(), rfl, trivial, j37a0_4_a, hFe, by rw [ht]; exact hP, va_K.moved hW.alike hK, hD⟩, hS.F ht⟩) hS.2.2 dX2_tally_131
                · have gc42 := ai_nle c42
                  have u42f_j37l3 : j37l3.toInt ≤ (728 : Int) := ai_lthi gc42 ba0_0_u
                  have l42f_a0_0 : (1 : Int) ≤ a0_0.toInt := ai_ltlo gc42 bj37l3_l
                  have hF1 := hF1.trans (if_neg (show ¬ (a0_0.toInt ≤ j37l3.toInt) from Int.not_le.mpr gc42))
                  refine lv_aload_n hx hb dX2_tally_45 rfl (lv_at hl 0 rfl) ?_
                  refine va_get (D := (dC, dI)) (ci := 2) (v := .ref a0_3) (C := RX2) (T := TX2) (N := 7) hx hb hts zi_X2_tally_2 hown hK hP 0 rfl rfl 3 (by decide) (hts (.fieldLink RX2 9 "WaxTurns$Laws" "fitting" "[I") (List.mem_cons_of_mem _ (List.mem_append_left _ (List.mem_of_getElem? (i := 2) rfl)))) (fun _ h9 => h9) rfl dX2_tally_46 ?_
                  refine lv_iload_n hx hb dX2_tally_49 rfl (lv_at hl 3 rfl) ?_
                  refine va_iald hx hb hK hP 2 1 rfl rfl (ai_in bj37l3_l u42f_j37l3 (by decide) (by decide)) dX2_tally_50 ?_
                  refine lv_topi (fun x50 ex50 => ?_)
                  have bx50 : (0 : Int) ≤ x50.toInt ∧ x50.toInt ≤ 888 ∧ x50.toInt % 10 ≤ 8 := by rw [ex50]; exact bfa0_3 _
                  have fqx50 := congrArg Int32.toInt ex50
                  have hF1 := hF1.trans (fl_lt_eq (show x50.toInt = (fl_A fa0_3) (j37l3.toInt.toNat) from fqx50))
                  refine lv_bipush (v := 100) hx hb dX2_tally_51 zk_bipush_100 ?_
                  refine lv_idiv hx hb dX2_tally_53 (by decide +kernel) ?_
                  refine lv_topi (fun x53 ex53 => ?_)
                  have qx53 := ai_div ex53 ⟨bx50.1, bx50.2.1⟩ (Int.lt_of_lt_of_le zq23 zq24)
                  have u53z_x53 : x53.toInt ≤ (8 : Int) := (by have h1 := qx53.1; have h2 := bx50.2.1; have h3 : (100 : Int32).toInt = 100 := (by decide); rw [h3] at h1; omega)
                  have hF1 := hF1.trans (fl_lt_eq (show x53.toInt = x50.toInt / 100 from qx53.1))
                  refine lv_istore (lv' := [(4, .int x53), (0, .ref a0), (1, .int a1), (2, .int a2), (3, .int j37l3)]) hx hb dX2_tally_54 hl (by decide) rfl (fun ls hl => ?_)
                  refine lv_aload_n hx hb dX2_tally_56 rfl (lv_at hl 1 rfl) ?_
                  refine va_get (D := (dC, dI)) (ci := 2) (v := .ref a0_3) (C := RX2) (T := TX2) (N := 7) hx hb hts zi_X2_tally_2 hown hK hP 0 rfl rfl 3 (by decide) (hts (.fieldLink RX2 9 "WaxTurns$Laws" "fitting" "[I") (List.mem_cons_of_mem _ (List.mem_append_left _ (List.mem_of_getElem? (i := 2) rfl)))) (fun _ h9 => h9) rfl dX2_tally_57 ?_
                  refine lv_iload_n hx hb dX2_tally_60 rfl (lv_at hl 4 rfl) ?_
                  refine va_iald hx hb hK hP 2 1 rfl rfl (ai_in bj37l3_l u42f_j37l3 (by decide) (by decide)) dX2_tally_61 ?_
                  refine ax_ti x50 ex50.symm ?_
                  refine lv_bipush (v := 10) hx hb dX2_tally_62 zk_bipush_10 ?_
                  refine lv_idiv hx hb dX2_tally_64 (by decide +kernel) ?_
                  refine lv_topi (fun x64 ex64 => ?_)
                  have qx64 := ai_div ex64 ⟨bx50.1, bx50.2.1⟩ (Int.lt_of_lt_of_le zq25 zq26)
                  have u64z_x64 : x64.toInt ≤ (88 : Int) := (by have h1 := qx64.1; have h2 := bx50.2.1; have h3 : (10 : Int32).toInt = 10 := (by decide); rw [h3] at h1; omega)
                  have hF1 := hF1.trans (fl_lt_eq (show x64.toInt = x50.toInt / 10 from qx64.1))
                  refine lv_bipush (v := 10) hx hb dX2_tally_65 zk_bipush_10 ?_
                  refine lv_irem hx hb dX2_tally_67 (by decide +kernel) ?_
                  refine lv_topi (fun x67 ex67 => ?_)
                  have qx67 := ai_rem2 ex67 qx64.2.1 (Int.lt_of_lt_of_le zq25 zq26) zq27
                  have wx67 : x67.toInt = x64.toInt % 10 := qx67.1
                  have hF1 := hF1.trans (fl_lt_eq (show x67.toInt = x64.toInt % 10 from qx67.1))
                  refine lv_istore (lv' := [(5, .int x67), (4, .int x53), (0, .ref a0), (1, .int a1), (2, .int a2), (3, .int j37l3)]) hx hb dX2_tally_68 hl (by decide) rfl (fun ls hl => ?_)
                  refine lv_aload_n hx hb dX2_tally_70 rfl (lv_at hl 2 rfl) ?_
                  refine va_get (D := (dC, dI)) (ci := 2) (v := .ref a0_3) (C := RX2) (T := TX2) (N := 7) hx hb hts zi_X2_tally_2 hown hK hP 0 rfl rfl 3 (by decide) (hts (.fieldLink RX2 9 "WaxTurns$Laws" "fitting" "[I") (List.mem_cons_of_mem _ (List.mem_append_left _ (List.mem_of_getElem? (i := 2) rfl)))) (fun _ h9 => h9) rfl dX2_tally_71 ?_
                  refine lv_iload_n hx hb dX2_tally_74 rfl (lv_at hl 5 rfl) ?_
                  refine va_iald hx hb hK hP 2 1 rfl rfl (ai_in bj37l3_l u42f_j37l3 (by decide) (by decide)) dX2_tally_75 ?_
                  refine ax_ti x50 ex50.symm ?_
                  refine lv_bipush (v := 10) hx hb dX2_tally_76 zk_bipush_10 ?_
                  refine lv_irem hx hb dX2_tally_78 (by decide +kernel) ?_
                  refine lv_topi (fun x78 ex78 => ?_)
                  have qx78 := ai_rem2 ex78 bx50.1 (Int.lt_of_lt_of_le zq25 zq26) zq27
                  have wx78 : x78.toInt = x50.toInt % 10 := qx78.1
                  have u78z_x78 : x78.toInt ≤ (8 : Int) := by rw [wx78]; exact bx50.2.2
                  have hF1 := hF1.trans (fl_lt_eq (show x78.toInt = x50.toInt % 10 from qx78.1))
                  refine lv_istore (lv' := [(6, .int x78), (5, .int x67), (4, .int x53), (0, .ref a0), (1, .int a1), (2, .int a2), (3, .int j37l3)]) hx hb dX2_tally_79 hl (by decide) rfl (fun ls hl => ?_)
                  refine lv_iconst (v := 0) hx hb dX2_tally_81 zk_iconst_0 ?_
                  refine lv_istore (lv' := [(7, .int 0), (6, .int x78), (5, .int x67), (4, .int x53), (0, .ref a0), (1, .int a1), (2, .int a2), (3, .int j37l3)]) hx hb dX2_tally_82 hl (by decide) rfl (fun ls hl => ?_)
                  have J84 : ∀ (n : Nat) (j84l7 : Int32) (j84l6 : Int32) (j84a0_4_a : Nat → Int32) (H : Heap) (locs : List Loc) (ls : Array Slot), (101 : Int) - j84l7.toInt ≤ (n : Int) → (0 : Int) ≤ j84l7.toInt → j84l7.toInt ≤ (100 : Int) → (0 : Int) ≤ j84l6.toInt → j84l6.toInt ≤ (8 : Int) → (SX37 = fl_wh (fun t9 => Sf_X2_tally_84_1 a1.toInt a2.toInt j37l3.toInt x53.toInt x67.toInt t9.1 t9.2.1 t9.2.2) (Sum.inr (fun _ => 0)) n (j84l7.toInt, j84l6.toInt, (fl_A j84a0_4_a))) → va_P (dC, dI) vwCl [(a0, .inr (2, [.int a0_0, a0g_1, a0g_2, .ref a0_3, .ref a0_4, a0g_5, a0g_6])), (a0_4, .inl (ka0_4, 900, .inl (j84a0_4_a))), (a0_3, .inl (ka0_3, 729, .inl (fa0_3)))] H → va_D A [(a0, .inr (2, [.int a0_0, a0g_1, a0g_2, .ref a0_3, .ref a0_4, a0g_5, a0g_6])), (a0_4, .inl (ka0_4, 900, .inl (j84a0_4_a))), (a0_3, .inl (ka0_3, 729, .inl (fa0_3)))] → va_S A s.heap H locs → lv_has ls 8 [(0, .ref a0), (1, .int a1), (2, .int a2), (3, .int j37l3), (4, .int x53), (5, .int x67), (6, .int j84l6), (7, .int j84l7)] → K H locs (F0 m 84 ls []) := by
                    intro n
                    induction n with
                    | zero =>
                      intro j84l7 j84l6 j84a0_4_a H locs ls hm bj84l7_l bj84l7_u bj84l6_l bj84l6_u hF1 hP hD hS hl
                      first | exact zg_0 hm bj84l7_u (by decide) | (have h8 := ai_min j84l7; have h9 := ai_max j84l7; exact absurd hm (by omega))
                    | succ n ih84 =>
                      intro j84l7 j84l6 j84a0_4_a H locs ls hm bj84l7_l bj84l7_u bj84l6_l bj84l6_u hF1 hP hD hS hl
                      refine (hK0 _ _ _).mpr ?_
                      have hm84 := hm
                      obtain ⟨SX84, hSX84⟩ : ∃ q9, Sf_X2_tally_84_1 a1.toInt a2.toInt j37l3.toInt x53.toInt x67.toInt j84l7.toInt j84l6.toInt (fl_A j84a0_4_a) = q9 := ⟨_, rfl⟩
                      have hF2 := hSX84.symm.trans (Sf_X2_tally_84_1.eq_1 a1.toInt a2.toInt j37l3.toInt x53.toInt x67.toInt j84l7.toInt j84l6.toInt (fl_A j84a0_4_a))
                      refine lv_iload hx hb dX2_tally_84 (lv_at hl 7 rfl) ?_
                      refine lv_iload_n hx hb dX2_tally_86 rfl (lv_at hl 2 rfl) ?_
                      refine lv_icmp_ge (tgt := 125) hx hb dX2_tally_87 (by decide) (fun c87 => ?_) (fun c87 => ?_)
                      · have gc87 := ai_le c87
                        have u87t_a2 : a2.toInt ≤ (100 : Int) := u31t_a2
                        have hF2 := hF2.trans (if_pos (show a2.toInt ≤ j84l7.toInt from gc87))
                        have hF1 := hF1.trans (fl_wh_r (hSX84.trans hF2))
                        obtain ⟨x125, ex125⟩ : ∃ y : Int32, y = j37l3 + Int32.ofInt 1 := ⟨_, rfl⟩
                        have qx125 : x125.toInt = j37l3.toInt + 1 := ai_inc ex125 (by decide) (by decide) u42f_j37l3 (by decide)
                        have bx125 : (1 : Int) ≤ x125.toInt ∧ x125.toInt ≤ 729 := ⟨by rw [qx125]; exact Int.add_le_add bj37l3_l (Int.le_refl _), by rw [qx125]; exact Int.add_le_add u42f_j37l3 (Int.le_refl _)⟩
                        refine lv_iinc (v := x125) (lv' := [(3, .int x125), (0, .ref a0), (1, .int a1), (2, .int a2), (4, .int x53), (5, .int x67), (6, .int j84l6), (7, .int j84l7)]) hx hb dX2_tally_125 hl (k := 3) rfl ex125.symm (by decide) rfl (fun ls hl => ?_)
                        have hF1 := hF1.trans (fl_lt_eq (show x125.toInt = j37l3.toInt + 1 from qx125))
                        refine lv_goto (tgt := 37) hx hb dX2_tally_128 (by decide) ?_
                        exact (hK0 _ _ _).mp (ih37 x125 j84a0_4_a _ _ _ (by first | exact zg_s hm37 qx125 | (have h0 := qx125; omega)) (Int.le_trans zq4 bx125.1) bx125.2 (hF0.trans (fl_wh_l (hSX37.trans hF1))) hP hD hS (lv_sub hl [1, 2, 3, 0] rfl))
                      · have gc87 := ai_nle c87
                        have u87f_j84l7 : j84l7.toInt ≤ (99 : Int) := ai_lthi gc87 u31t_a2
                        have l87f_a2 : (1 : Int) ≤ a2.toInt := ai_ltlo gc87 bj84l7_l
                        have hF2 := hF2.trans (if_neg (show ¬ (a2.toInt ≤ j84l7.toInt) from Int.not_le.mpr gc87))
                        refine lv_aload_n hx hb dX2_tally_90 rfl (lv_at hl 0 rfl) ?_
                        refine va_get (D := (dC, dI)) (ci := 2) (v := .ref a0_4) (C := RX2) (T := TX2) (N := 7) hx hb hts zi_X2_tally_2 hown hK hP 0 rfl rfl 4 (by decide) (hts (.fieldLink RX2 15 "WaxTurns$Laws" "tallies" "[I") (List.mem_cons_of_mem _ (List.mem_append_left _ (List.mem_of_getElem? (i := 0) rfl)))) (fun _ h9 => h9) rfl dX2_tally_91 ?_
                        refine lv_iload hx hb dX2_tally_94 (lv_at hl 7 rfl) ?_
                        refine lv_bipush (v := 9) hx hb dX2_tally_96 zk_bipush_9 ?_
                        refine lv_imul hx hb dX2_tally_98 ?_
                        refine lv_topi (fun x98 ex98 => ?_)
                        have qx98 : x98.toInt = j84l7.toInt * (9 : Int32).toInt ∧ (0 : Int) ≤ x98.toInt ∧ x98.toInt ≤ 891 := ai_mul ex98 ⟨bj84l7_l, u87f_j84l7⟩ ⟨zq2, zq3⟩ (by decide) (by decide) zq36
                        have wx98 : x98.toInt = j84l7.toInt * 9 := qx98.1
                        have hF2 := hF2.trans (fl_lt_eq (show x98.toInt = j84l7.toInt * 9 from qx98.1))
                        refine lv_iload hx hb dX2_tally_99 (lv_at hl 6 rfl) ?_
                        refine lv_iadd hx hb dX2_tally_101 ?_
                        refine lv_topi (fun x101 ex101 => ?_)
                        have qx101 : x101.toInt = x98.toInt + j84l6.toInt := ai_add ex101 ⟨qx98.2.1, qx98.2.2⟩ ⟨bj84l6_l, bj84l6_u⟩ (by decide) (by decide)
                        have bx101 : (0 : Int) ≤ x101.toInt ∧ x101.toInt ≤ 899 := ⟨by rw [qx101]; exact Int.add_le_add qx98.2.1 bj84l6_l, by rw [qx101]; exact Int.add_le_add qx98.2.2 bj84l6_u⟩
                        have hF2 := hF2.trans (fl_lt_eq (show x101.toInt = x98.toInt + j84l6.toInt from qx101))
                        refine lv_dup2_11 hx hb dX2_tally_102 rfl rfl ?_
                        refine va_iald hx hb hK hP 1 0 rfl rfl (ai_in bx101.1 bx101.2 (by decide) (by decide)) dX2_tally_103 ?_
                        refine lv_topi (fun x103 ex103 => ?_)
                        have fqx103 := congrArg Int32.toInt ex103
                        have hF2 := hF2.trans (fl_lt_eq (show x103.toInt = (fl_A j84a0_4_a) (x101.toInt.toNat) from fqx103))
                        refine lv_iconst (v := 1) hx hb dX2_tally_104 zk_iconst_1 ?_
                        refine lv_iadd hx hb dX2_tally_105 ?_
                        refine lv_topi (fun x105 ex105 => ?_)
                        have fqx105 := fl_iadd_eq ex105
                        have hF2 := hF2.trans (fl_lt_eq (show x105.toInt = fl_iadd x103.toInt 1 from fqx105))
                        refine va_iast hx hb hK hP hD hS 1 0 rfl rfl (ai_in bx101.1 bx101.2 (by decide) (by decide)) dX2_tally_106 (fun H locs hP hD hS => ?_)
                        obtain ⟨f106, ef106⟩ : ∃ g9 : Nat → Int32, g9 = upd j84a0_4_a (x101 : Int32).toNatClampNeg x105 := ⟨_, rfl⟩
                        refine zs_1 (y := (a0_4, .inl (ka0_4, 900, .inl (f106)))) hP hD (by rw [ef106]) (fun hP hD => ?_)
                        have fqf106 := fl_up_eq ef106
                        have hF2 := hF2.trans (fl_lt_eq (show (fl_A f106) = fl_up (fl_A j84a0_4_a) (x101.toInt.toNat) x105.toInt from fqf106))
                        refine lv_iload hx hb dX2_tally_107 (lv_at hl 6 rfl) ?_
                        refine lv_iload hx hb dX2_tally_109 (lv_at hl 4 rfl) ?_
                        refine lv_imul hx hb dX2_tally_111 ?_
                        refine lv_topi (fun x111 ex111 => ?_)
                        have qx111 : x111.toInt = j84l6.toInt * x53.toInt ∧ (0 : Int) ≤ x111.toInt ∧ x111.toInt ≤ 64 := ai_mul ex111 ⟨bj84l6_l, bj84l6_u⟩ ⟨qx53.2.1, u53z_x53⟩ (by decide) (by decide) zq18
                        have hF2 := hF2.trans (fl_lt_eq (show x111.toInt = j84l6.toInt * x53.toInt from qx111.1))
                        refine lv_iload hx hb dX2_tally_112 (lv_at hl 5 rfl) ?_
                        refine lv_iadd hx hb dX2_tally_114 ?_
                        refine lv_topi (fun x114 ex114 => ?_)
                        have qx114 : x114.toInt = x111.toInt + x67.toInt := ai_add ex114 ⟨qx111.2.1, qx111.2.2⟩ ⟨qx67.2.1, qx67.2.2⟩ (by decide) (by decide)
                        have bx114 : (0 : Int) ≤ x114.toInt ∧ x114.toInt ≤ 73 := ⟨by rw [qx114]; exact Int.add_le_add qx111.2.1 qx67.2.1, by rw [qx114]; exact Int.add_le_add qx111.2.2 qx67.2.2⟩
                        have hF2 := hF2.trans (fl_lt_eq (show x114.toInt = x111.toInt + x67.toInt from qx114))
                        refine lv_iload_n hx hb dX2_tally_115 rfl (lv_at hl 1 rfl) ?_
                        refine lv_irem hx hb dX2_tally_116 (ai_nz l25f_a1 (by decide)) ?_
                        refine lv_topi (fun x116 ex116 => ?_)
                        have qx116 := ai_rem2 ex116 bx114.1 (Int.lt_of_lt_of_le zq19 l25f_a1) ba1_u
                        have hF2 := hF2.trans (fl_lt_eq (show x116.toInt = x114.toInt % a1.toInt from qx116.1))
                        refine lv_istore (lv' := [(6, .int x116), (0, .ref a0), (1, .int a1), (2, .int a2), (3, .int j37l3), (4, .int x53), (5, .int x67), (7, .int j84l7)]) hx hb dX2_tally_117 hl (by decide) rfl (fun ls hl => ?_)
                        obtain ⟨x119, ex119⟩ : ∃ y : Int32, y = j84l7 + Int32.ofInt 1 := ⟨_, rfl⟩
                        have qx119 : x119.toInt = j84l7.toInt + 1 := ai_inc ex119 (by decide) (by decide) u87f_j84l7 (by decide)
                        have bx119 : (1 : Int) ≤ x119.toInt ∧ x119.toInt ≤ 100 := ⟨by rw [qx119]; exact Int.add_le_add bj84l7_l (Int.le_refl _), by rw [qx119]; exact Int.add_le_add u87f_j84l7 (Int.le_refl _)⟩
                        refine lv_iinc (v := x119) (lv' := [(7, .int x119), (6, .int x116), (0, .ref a0), (1, .int a1), (2, .int a2), (3, .int j37l3), (4, .int x53), (5, .int x67)]) hx hb dX2_tally_119 hl (k := 7) rfl ex119.symm (by decide) rfl (fun ls hl => ?_)
                        have hF2 := hF2.trans (fl_lt_eq (show x119.toInt = j84l7.toInt + 1 from qx119))
                        refine lv_goto (tgt := 84) hx hb dX2_tally_122 (by decide) ?_
                        exact (hK0 _ _ _).mp (ih84 x119 x116 f106 _ _ _ (by first | exact zg_s hm84 qx119 | (have h0 := qx119; omega)) (Int.le_trans zq4 bx119.1) bx119.2 qx116.2.1 qx116.2.2 (hF1.trans (fl_wh_l (hSX84.trans hF2))) hP hD hS (lv_sub hl [2, 3, 4, 5, 6, 7, 1, 0] rfl))
                  exact (hK0 _ _ _).mp (J84 101 0 x78 j37a0_4_a _ _ _ (by first | decide +kernel | (have h1 : (0 : Int) ≤ (0 : Int32).toInt := zq5; have h2 : (0 : Int32).toInt ≤ (0 : Int) := zq6; omega)) zq5 (Int.le_trans zq6 zq38) qx78.2.1 u78z_x78 (by rw [show (0 : Int32).toInt = 0 from by decide]; exact hF1) hP hD hS (lv_sub hl [4, 5, 6, 7, 3, 2, 1, 0] rfl))
            exact (hK0 _ _ _).mp (J37 730 0 j2a0_4_a _ _ _ (by first | decide +kernel | (have h1 : (0 : Int) ≤ (0 : Int32).toInt := zq5; have h2 : (0 : Int32).toInt ≤ (0 : Int) := zq6; omega)) zq5 (Int.le_trans zq6 zq35) (by rw [show (0 : Int32).toInt = 0 from by decide]; exact hF0) hP hD hS (lv_sub hl [1, 2, 3, 0] rfl))
          · have gc31 := ai_nle c31
            have l31f_a2 : (101 : Int) ≤ a2.toInt := ai_ltlo gc31 zq24
            have hF0 := hF0.trans (if_neg (show ¬ (a2.toInt ≤ 100) from Int.not_le.mpr gc31))
            have hFe : FX = (fl_A j2a0_4_a) := hF0
            exact W.vret hx hb hr (fun t ht hW => ⟨⟨(), rfl, trivial, j2a0_4_a, hFe, by rw [ht]; exact hP, va_K.moved hW.alike hK, hD⟩, hS.F ht⟩) hS.2.2 dX2_tally_34
      · have gc8 := ai_nle c8
        have u8f_j2l3 : j2l3.toInt ≤ (899 : Int) := ai_lthi gc8 zq39
        have hF1 := hF1.trans (if_neg (show ¬ (900 ≤ j2l3.toInt) from Int.not_le.mpr gc8))
        refine lv_aload_n hx hb dX2_tally_11 rfl (lv_at hl 0 rfl) ?_
        refine va_get (D := (dC, dI)) (ci := 2) (v := .ref a0_4) (C := RX2) (T := TX2) (N := 7) hx hb hts zi_X2_tally_2 hown hK hP 0 rfl rfl 4 (by decide) (hts (.fieldLink RX2 15 "WaxTurns$Laws" "tallies" "[I") (List.mem_cons_of_mem _ (List.mem_append_left _ (List.mem_of_getElem? (i := 0) rfl)))) (fun _ h9 => h9) rfl dX2_tally_12 ?_
        refine lv_iload_n hx hb dX2_tally_15 rfl (lv_at hl 3 rfl) ?_
        refine lv_iconst (v := 0) hx hb dX2_tally_16 zk_iconst_0 ?_
        refine va_iast hx hb hK hP hD hS 1 0 rfl rfl (ai_in bj2l3_l u8f_j2l3 (by decide) (by decide)) dX2_tally_17 (fun H locs hP hD hS => ?_)
        obtain ⟨f17, ef17⟩ : ∃ g9 : Nat → Int32, g9 = upd j2a0_4_a (j2l3 : Int32).toNatClampNeg (0 : Int32) := ⟨_, rfl⟩
        refine zs_1 (y := (a0_4, .inl (ka0_4, 900, .inl (f17)))) hP hD (by rw [ef17]) (fun hP hD => ?_)
        have fqf17 := fl_up_eq ef17
        have hF1 := hF1.trans (fl_lt_eq (show (fl_A f17) = fl_up (fl_A j2a0_4_a) (j2l3.toInt.toNat) 0 from fqf17))
        obtain ⟨x18, ex18⟩ : ∃ y : Int32, y = j2l3 + Int32.ofInt 1 := ⟨_, rfl⟩
        have qx18 : x18.toInt = j2l3.toInt + 1 := ai_inc ex18 (by decide) (by decide) u8f_j2l3 (by decide)
        have bx18 : (1 : Int) ≤ x18.toInt ∧ x18.toInt ≤ 900 := ⟨by rw [qx18]; exact Int.add_le_add bj2l3_l (Int.le_refl _), by rw [qx18]; exact Int.add_le_add u8f_j2l3 (Int.le_refl _)⟩
        refine lv_iinc (v := x18) (lv' := [(3, .int x18), (0, .ref a0), (1, .int a1), (2, .int a2)]) hx hb dX2_tally_18 hl (k := 3) rfl ex18.symm (by decide) rfl (fun ls hl => ?_)
        have hF1 := hF1.trans (fl_lt_eq (show x18.toInt = j2l3.toInt + 1 from qx18))
        refine lv_goto (tgt := 2) hx hb dX2_tally_21 (by decide) ?_
        exact (hK0 _ _ _).mp (ih2 x18 f17 _ _ _ (by first | exact zg_s hm2 qx18 | (have h0 := qx18; omega)) (Int.le_trans zq4 bx18.1) bx18.2 (hF0.trans (fl_wh_l (hSX2.trans hF1))) hP hD hS (lv_sub hl [1, 2, 3, 0] rfl))
  exact (hK0 _ _ _).mp (J2 901 0 fa0_4 _ _ _ (by first | decide +kernel | (have h1 : (0 : Int) ≤ (0 : Int32).toInt := zq5; have h2 : (0 : Int32).toInt ≤ (0 : Int) := zq6; omega)) zq5 (Int.le_trans zq6 zq40) (by rw [show (0 : Int32).toInt = 0 from by decide]; exact hF0) hP hD hS (lv_sub hl [1, 2, 3, 0] rfl))

set_option maxHeartbeats 4000000 in
set_option maxRecDepth 100000 in
theorem f_X2_chooseLook (l : Launch) (dC : Nat → ClassId) (dI : Nat → Nat → Nat) (sz : Nat) (a0 : Nat) (a1 : Nat) (a0_0 : Int32) (a0_1 : Int32) (a0_2 : Int32) (a0_3 : Nat) (a0_4 : Nat) (a0_5 : Int32) (a0_6 : Int32) (a1_0 : Int32) (a1_1 : Int32) (a1g_2 a1g_3 a1g_4 a1g_5 a1g_6 a1g_7 a1g_8 a1g_10 a1g_11 a1g_14 : Value) (a1_9 : Int32) (a1_12 : Nat) (a1_13 : Nat) (ka0_3 : ClassId) (fa0_3 : Nat → Int32) (ka1_13 : ClassId) (fa1_13 : Nat → Int32) (ka1_12 : ClassId) (fa1_12 : Nat → Int32) (ka0_4 : ClassId) (fa0_4 : Nat → Int32) (ba0_0_l : (0 : Int) ≤ a0_0.toInt) (ba0_0_u : a0_0.toInt ≤ (729 : Int)) (ba0_5_l : (0 : Int) ≤ a0_5.toInt) (ba0_5_u : a0_5.toInt ≤ (1 : Int)) (ba0_6_l : (0 : Int) ≤ a0_6.toInt) (ba0_6_u : a0_6.toInt ≤ (1 : Int)) (ba1_0_l : (0 : Int) ≤ a1_0.toInt) (ba1_0_u : a1_0.toInt ≤ (9 : Int)) (ba1_9_l : (0 : Int) ≤ a1_9.toInt) (ba1_9_u : a1_9.toInt ≤ (6 : Int)) (bfa0_3 : (∀ k, (0 : Int) ≤ (fa0_3 k).toInt ∧ (fa0_3 k).toInt ≤ 888 ∧ (fa0_3 k).toInt % 10 ≤ 8)) (bfa1_13 : (∀ k, (0 : Int) ≤ (fa1_13 k).toInt ∧ (fa1_13 k).toInt ≤ 999)) : zm l yX2_chooseLook wsX2_chooseLook ({ frames := 4, cells := 0, slots := 0, locals := 98 }) [.ref a0, .ref a1] dC dI sz [(a0, .inr (2, [.int a0_0, .int a0_1, .int a0_2, .ref a0_3, .ref a0_4, .int a0_5, .int a0_6])), (a1, .inr (0, [.int a1_0, .int a1_1, a1g_2, a1g_3, a1g_4, a1g_5, a1g_6, a1g_7, a1g_8, .int a1_9, a1g_10, a1g_11, .ref a1_12, .ref a1_13, a1g_14])), (a0_3, .inl (ka0_3, 729, .inl (fa0_3))), (a1_13, .inl (ka1_13, 6, .inl (fa1_13))), (a1_12, .inl (ka1_12, 6, .inl (fa1_12))), (a0_4, .inl (ka0_4, 900, .inl (fa0_4)))] [(ka0_3, .int), (ka1_13, .int), (ka1_12, .int), (ka0_4, .int)] (fun A U => va_Nw (.methodLinkNest RX0 72 yX7_laterTurn RX7) U) (fun A => va_Qv (fun (_ : Unit) => True) (fun (_ : Unit) (t : State) => ∃ na0_0 : Int32, ∃ na0_1 : Int32, ∃ na0_2 : Int32, ∃ na0_5 : Int32, ∃ na0_6 : Int32, ∃ nfa0_3 : Nat → Int32, ∃ nfa0_4 : Nat → Int32, ((0 : Int) ≤ na0_0.toInt ∧ na0_0.toInt ≤ 729) ∧ ((0 : Int) ≤ na0_5.toInt ∧ na0_5.toInt ≤ 1) ∧ ((0 : Int) ≤ na0_6.toInt ∧ na0_6.toInt ≤ 1) ∧ (∀ k, (0 : Int) ≤ (nfa0_3 k).toInt ∧ (nfa0_3 k).toInt ≤ 888 ∧ (nfa0_3 k).toInt % 10 ≤ 8) ∧ (Ff_X2_chooseLook a0_0.toInt a0_1.toInt a0_2.toInt a0_5.toInt a0_6.toInt a1_0.toInt a1_1.toInt a1_9.toInt (fl_A fa0_3) (fl_A fa1_13) (fl_A fa1_12) (fl_A fa0_4) = (na0_0.toInt, na0_1.toInt, na0_2.toInt, na0_5.toInt, na0_6.toInt, (fl_A nfa0_3), (fl_A nfa0_4))) ∧ ax_B dC dI A [(a0, .inr (2, [.int na0_0, .int na0_1, .int na0_2, .ref a0_3, .ref a0_4, .int na0_5, .int na0_6])), (a1, .inr (0, [.int a1_0, .int a1_1, a1g_2, a1g_3, a1g_4, a1g_5, a1g_6, a1g_7, a1g_8, .int a1_9, a1g_10, a1g_11, .ref a1_12, .ref a1_13, a1g_14])), (a0_3, .inl (ka0_3, 729, .inl (nfa0_3))), (a1_13, .inl (ka1_13, 6, .inl (fa1_13))), (a1_12, .inl (ka1_12, 6, .inl (fa1_12))), (a0_4, .inl (ka0_4, 900, .inl (nfa0_4)))] [(ka0_3, .int), (ka1_13, .int), (ka1_12, .int), (ka0_4, .int)] t) A) := by
  refine zh (cc := cX2_chooseLook) (maxL := 5) (ret := none) zn_RX2 rfl (Nat.le_of_ble_eq_true rfl) (fun p e s m below meth c A ls hx hb hml hr hts (hown : s.vm.findClass RX2 = some m.cls) hlocks hA hS hP hK hD hE (hl : lv_has ls 5 [(0, .ref a0), (1, .ref a1)]) => ?_)
  have hE0 := hE
  generalize hFX : Ff_X2_chooseLook a0_0.toInt a0_1.toInt a0_2.toInt a0_5.toInt a0_6.toInt a1_0.toInt a1_1.toInt a1_9.toInt (fl_A fa0_3) (fl_A fa1_13) (fl_A fa1_12) (fl_A fa0_4) = FX at ⊢
  have hF0 := hFX.symm.trans (Ff_X2_chooseLook.eq_1 a0_0.toInt a0_1.toInt a0_2.toInt a0_5.toInt a0_6.toInt a1_0.toInt a1_1.toInt a1_9.toInt (fl_A fa0_3) (fl_A fa1_13) (fl_A fa1_12) (fl_A fa0_4))
  refine ai_open (fun K hK0 => ?_)
  refine (hK0 _ _ _).mpr ?_
  refine lv_aload_n hx hb dX2_chooseLook_0 rfl (lv_at hl 0 rfl) ?_
  refine va_get (D := (dC, dI)) (ci := 2) (v := .int a0_6) (C := RX2) (T := TX2) (N := 7) hx hb hts zi_X2_chooseLook_2 hown hK hP 0 rfl rfl 6 (by decide) (hts (.fieldLink RX2 22 "WaxTurns$Laws" "looked" "Z") (zm_X2_chooseLook_r1 (List.mem_of_getElem? (i := 0) rfl))) (fun _ h9 => h9) rfl dX2_chooseLook_1 ?_
  refine lv_if_eq (tgt := 8) hx hb dX2_chooseLook_4 (by decide) (fun c4 => ?_) (fun c4 => ?_)
  · have gc4 := ai_eq c4
    have u4t_a0_6 : a0_6.toInt ≤ (0 : Int) := Int.le_trans (Int.le_of_eq gc4) zq6
    have l4t_a0_6 : (0 : Int) ≤ a0_6.toInt := ba0_6_l
    have hF0 := hF0.trans (if_pos (show a0_6.toInt = 0 from gc4))
    refine lv_aload_n hx hb dX2_chooseLook_8 rfl (lv_at hl 0 rfl) ?_
    refine lv_aload_n hx hb dX2_chooseLook_9 rfl (lv_at hl 1 rfl) ?_
    have hKc := hK.sub (tys' := [(ka0_3, .int), (ka1_13, .int), (ka1_12, .int)]) [0, 1, 2] rfl
    refine va_callv (va_runV (As := [.ref a1]) (rest := []) ⟨hx, hb, hml, hown, hts⟩ (f_X2_list l dC dI s.heap.size a0 a1 a0_0 (.int a0_1) (.int a0_2) (.ref a0_4) (.int a0_6) a0_3 a0_5 a1_0 a1_1 a1g_2 a1g_3 a1g_4 a1g_5 a1g_6 a1g_7 a1g_8 a1g_10 a1g_11 a1g_14 a1_9 a1_12 a1_13 ka0_3 fa0_3 ka1_13 fa1_13 ka1_12 fa1_12 ba0_0_l ba0_0_u ba0_5_l ba0_5_u ba1_0_l ba1_0_u ba1_9_l ba1_9_u bfa0_3 bfa1_13) (cwV 1 hts gX2_chooseLook_X2_list rfl rfl rfl zd_X2_list ⟨Nat.le_of_ble_eq_true rfl, Nat.le_of_ble_eq_true rfl⟩) ⟨ax_blind (fun _ _ _ _ hq => va_Nw.same rfl rfl (hq)), zr_2 hKc (zp_P5 hP) (q0 := 0) rfl, ax_pre (zp_P5 hP) hKc (zp_D5 hD) (fun _ hW => va_Nw.warmM hW hE0)⟩ rfl rfl hl.1 rfl (lv_room (Nat.le_of_ble_eq_true rfl)) dX2_chooseLook_10 ⟨Nat.le_of_ble_eq_true rfl, Nat.le_of_ble_eq_true rfl⟩) hS (fun q _ h => zp_F5 hD hS hA q h) (zp_F5 hD hS hA) (fun u t H locs ht hvm hw => zx_3 (fun v10na0_0 v10na0_5 v10nfa0_3 => zy_4 (fun bv10na0_0 bv10na0_5 bv10nfa0_3 hraw10_0 hB hz1 hk1 hS1 => zo5 hB ht hP hD hk1 (zp_F5 hD hS hA) hS1 (fun hP hK1 hD hS => ?_))))
    have hc10 : Ff_X2_list a0_0.toInt a0_5.toInt a1_0.toInt a1_1.toInt a1_9.toInt (fl_A fa0_3) (fl_A fa1_13) (fl_A fa1_12) = (v10na0_0.toInt, v10na0_5.toInt, (fl_A v10nfa0_3)) := hraw10_0
    have hF0 := hF0.trans (fl_c3_eq hc10)
    refine lv_aload_n hx hb dX2_chooseLook_13 rfl (lv_at hl 0 rfl) ?_
    refine lv_iconst (v := 1) hx hb dX2_chooseLook_14 zk_iconst_1 ?_
    refine va_put (D := (dC, dI)) (ci := 2) (v := .int 1) (ty := .boolean) (C := RX2) (T := TX2) (N := 7) hx hb hts zi_X2_chooseLook_2 tyX2 tyX2_ok nmX2 hown hK hP hD hS 0 rfl rfl 6 (by decide) (hts (.fieldLink RX2 22 "WaxTurns$Laws" "looked" "Z") (zm_X2_chooseLook_r1 (List.mem_of_getElem? (i := 0) rfl))) (fun _ h9 => h9) rfl (tyX2_ok 6 (by decide)) rfl rfl (Nat.le_of_ble_eq_true rfl) dX2_chooseLook_15 (fun H locs hP hD hS => ?_)
    refine zs_0 (y := (a0, .inr (2, [.int v10na0_0, .int a0_1, .int a0_2, .ref a0_3, .ref a0_4, .int v10na0_5, .int 1]))) hP hD rfl (fun hP hD => ?_)
    refine lv_aload_n hx hb dX2_chooseLook_18 rfl (lv_at hl 0 rfl) ?_
    refine lv_bipush (v := (-2)) hx hb dX2_chooseLook_19 zk_bipush_n2 ?_
    refine va_put (D := (dC, dI)) (ci := 2) (v := .int (-2)) (ty := .int) (C := RX2) (T := TX2) (N := 7) hx hb hts zi_X2_chooseLook_2 tyX2 tyX2_ok nmX2 hown hK hP hD hS 0 rfl rfl 1 (by decide) (hts (.fieldLink RX2 55 "WaxTurns$Laws" "lookMinute" "I") (zm_X2_chooseLook_r1 (List.mem_of_getElem? (i := 1) rfl))) (fun _ h9 => h9) rfl (tyX2_ok 1 (by decide)) rfl rfl (Nat.le_of_ble_eq_true rfl) dX2_chooseLook_21 (fun H locs hP hD hS => ?_)
    refine zs_0 (y := (a0, .inr (2, [.int v10na0_0, .int (-2), .int a0_2, .ref a0_3, .ref a0_4, .int v10na0_5, .int 1]))) hP hD rfl (fun hP hD => ?_)
    refine lv_aload_n hx hb dX2_chooseLook_24 rfl (lv_at hl 0 rfl) ?_
    refine lv_bipush (v := (-2)) hx hb dX2_chooseLook_25 zk_bipush_n2 ?_
    refine va_put (D := (dC, dI)) (ci := 2) (v := .int (-2)) (ty := .int) (C := RX2) (T := TX2) (N := 7) hx hb hts zi_X2_chooseLook_2 tyX2 tyX2_ok nmX2 hown hK hP hD hS 0 rfl rfl 2 (by decide) (hts (.fieldLink RX2 58 "WaxTurns$Laws" "lookMost" "I") (zm_X2_chooseLook_r1 (List.mem_of_getElem? (i := 2) rfl))) (fun _ h9 => h9) rfl (tyX2_ok 2 (by decide)) rfl rfl (Nat.le_of_ble_eq_true rfl) dX2_chooseLook_27 (fun H locs hP hD hS => ?_)
    refine zs_0 (y := (a0, .inr (2, [.int v10na0_0, .int (-2), .int (-2), .ref a0_3, .ref a0_4, .int v10na0_5, .int 1]))) hP hD rfl (fun hP hD => ?_)
    refine lv_aload_n hx hb dX2_chooseLook_30 rfl (lv_at hl 0 rfl) ?_
    refine va_get (D := (dC, dI)) (ci := 2) (v := .int v10na0_0) (C := RX2) (T := TX2) (N := 7) hx hb hts zi_X2_chooseLook_2 hown hK hP 0 rfl rfl 0 (by decide) (hts (.fieldLink RX2 25 "WaxTurns$Laws" "fitCount" "I") (zm_X2_chooseLook_r1 (List.mem_of_getElem? (i := 3) rfl))) (fun _ h9 => h9) rfl dX2_chooseLook_31 ?_
    refine lv_if_eq (tgt := 44) hx hb dX2_chooseLook_34 (by decide) (fun c34 => ?_) (fun c34 => ?_)
    · have gc34 := ai_eq c34
      have u34t_v10na0_0 : v10na0_0.toInt ≤ (0 : Int) := Int.le_trans (Int.le_of_eq gc34) zq6
      have l34t_v10na0_0 : (0 : Int) ≤ v10na0_0.toInt := bv10na0_0.1
      have hF0 := hF0.trans (if_pos (show v10na0_0.toInt = 0 from gc34))
      have hFe : FX = (v10na0_0.toInt, (-2), (-2), v10na0_5.toInt, 1, (fl_A v10nfa0_3), (fl_A fa0_4)) := hF0
      exact W.vret hx hb hr (fun t ht hW => ⟨⟨(), rfl, trivial, v10na0_0, (-2), (-2), v10na0_5, 1, v10nfa0_3, fa0_4, ⟨l34t_v10na0_0, Int.le_trans u34t_v10na0_0 (by decide)⟩, ⟨bv10na0_5.1, bv10na0_5.2⟩, ⟨Int.le_trans (by decide) zq1, zq0⟩, bv10nfa0_3, hFe, by rw [ht]; exact hP, va_K.moved hW.alike hK, hD⟩, hS.F ht⟩) hS.2.2 dX2_chooseLook_44
    · have gc34 := ai_ne c34
      have l34f_v10na0_0 : (1 : Int) ≤ v10na0_0.toInt := (by first | exact zg_l bv10na0_0.1 gc34 (by decide) (by decide) | (have h1 := bv10na0_0.1; have h2 : (0 : Int32).toInt = 0 := (by decide); rw [h2] at gc34; omega))
      have hF0 := hF0.trans (if_neg (show ¬ (v10na0_0.toInt = 0) from  gc34))
      refine lv_aload_n hx hb dX2_chooseLook_37 rfl (lv_at hl 1 rfl) ?_
      refine va_get (D := (dC, dI)) (ci := 0) (v := .int a1_1) (C := RX0) (T := TX0) (N := 15) hx hb hts zi_X2_chooseLook_0 hown hK hP 1 rfl rfl 1 (by decide) (hts (.fieldLink RX2 61 "WaxTurns$Hall" "span" "I") (zm_X2_chooseLook_r1 (List.mem_of_getElem? (i := 4) rfl))) (fun _ h9 => h9) rfl dX2_chooseLook_38 ?_
      refine lv_if_gt (tgt := 45) hx hb dX2_chooseLook_41 (by decide) (fun c41 => ?_) (fun c41 => ?_)
      · have gc41 := ai_lt c41
        have l41t_a1_1 : (1 : Int) ≤ a1_1.toInt := ai_ltlo gc41 zq5
        have hF0 := hF0.trans (if_pos (show 0 < a1_1.toInt from gc41))
        refine lv_bipush (v := 99) hx hb dX2_chooseLook_45 zk_bipush_99 ?_
        refine lv_aload_n hx hb dX2_chooseLook_47 rfl (lv_at hl 1 rfl) ?_
        refine va_get (D := (dC, dI)) (ci := 0) (v := .int a1_1) (C := RX0) (T := TX0) (N := 15) hx hb hts zi_X2_chooseLook_0 hown hK hP 1 rfl rfl 1 (by decide) (hts (.fieldLink RX2 61 "WaxTurns$Hall" "span" "I") (zm_X2_chooseLook_r1 (List.mem_of_getElem? (i := 4) rfl))) (fun _ h9 => h9) rfl dX2_chooseLook_48 ?_
        refine lv_idiv hx hb dX2_chooseLook_51 (ai_nz l41t_a1_1 (by decide)) ?_
        refine lv_topi (fun x51 ex51 => ?_)
        have qx51 := ai_div ex51 ⟨(Int.le_trans zq41 zq42), zq43⟩ (Int.lt_of_lt_of_le zq19 l41t_a1_1)
        have hF0 := hF0.trans (fl_lt_eq (show x51.toInt = 99 / a1_1.toInt from qx51.1))
        refine lv_iconst (v := 1) hx hb dX2_chooseLook_52 zk_iconst_1 ?_
        refine lv_iadd hx hb dX2_chooseLook_53 ?_
        refine lv_topi (fun x53 ex53 => ?_)
        have qx53 : x53.toInt = x51.toInt + (1 : Int32).toInt := ai_add ex53 ⟨qx51.2.1, qx51.2.2⟩ ⟨zq1, zq0⟩ (by decide) (by decide)
        have bx53 : (1 : Int) ≤ x53.toInt ∧ x53.toInt ≤ 100 := ⟨by rw [qx53]; exact Int.add_le_add qx51.2.1 zq1, by rw [qx53]; exact Int.add_le_add qx51.2.2 zq0⟩
        have wx53 : x53.toInt = x51.toInt + 1 := qx53
        have hF0 := hF0.trans (fl_lt_eq (show x53.toInt = x51.toInt + 1 from qx53))
        refine lv_istore_n (lv' := [(2, .int x53), (0, .ref a0), (1, .ref a1)]) hx hb dX2_chooseLook_54 rfl hl (by decide) rfl (fun ls hl => ?_)
        refine lv_aload_n hx hb dX2_chooseLook_55 rfl (lv_at hl 1 rfl) ?_
        refine lv_aload_n hx hb dX2_chooseLook_56 rfl (lv_at hl 2 rfl) ?_
        refine va_get (D := (dC, dI)) (ci := 0) (v := .int a1_0) (C := RX0) (T := TX0) (N := 15) hx hb hts zi_X2_chooseLook_0 hown hK hP 1 rfl rfl 0 (by decide) (hts (.fieldLink RX2 29 "WaxTurns$Hall" "figures" "I") (zm_X2_chooseLook_r1 (List.mem_of_getElem? (i := 5) rfl))) (fun _ h9 => h9) rfl dX2_chooseLook_57 ?_
        refine lv_iload_n hx hb dX2_chooseLook_60 rfl (lv_at hl 0 rfl) ?_
        refine zc_cutc (wc := [(a0, .inr (2, [.int v10na0_0, .int (-2), .int (-2), .ref a0_3, .ref a0_4, .int v10na0_5, .int 1])), (a0_4, .inl (ka0_4, 900, .inl (fa0_4))), (a0_3, .inl (ka0_3, 729, .inl (v10nfa0_3)))]) hP hD hS hA [0, 5, 2] (by decide +kernel) rfl (fun hPc hDc hFc hCc => ?_)
        have hKc := hK.sub (tys' := [(ka0_4, .int), (ka0_3, .int)]) [3, 0] rfl
        refine va_callv (va_runV (As := [.int a1_0, .int x53]) (rest := []) ⟨hx, hb, hml, hown, hts⟩ (f_X2_tally l dC dI H.size a0 a1_0 x53 v10na0_0 (.int (-2)) (.int (-2)) (.int v10na0_5) (.int 1) a0_3 a0_4 ka0_4 fa0_4 ka0_3 v10nfa0_3 ba1_0_l ba1_0_u (Int.le_trans zq4 l34f_v10na0_0) bv10na0_0.2 bv10nfa0_3) (cwV 2 hts gX2_chooseLook_X2_tally rfl rfl rfl zd_X2_tally ⟨Nat.le_of_ble_eq_true rfl, Nat.le_of_ble_eq_true rfl⟩) ⟨ax_blind (fun _ _ _ _ _ => trivial), zr_2 hKc hPc (q0 := 0) rfl, ax_pre hPc hKc hDc (fun _ _ => trivial)⟩ rfl rfl hl.1 rfl (lv_room (Nat.le_of_ble_eq_true rfl)) dX2_chooseLook_61 ⟨Nat.le_of_ble_eq_true rfl, Nat.le_of_ble_eq_true rfl⟩) hS (fun q _ h => hFc q h) hFc (fun u t H locs ht hvm hw => zx_1 (fun v61nfa0_4 => zy_1 (fun hraw61_0 hB hz1 hk1 hS1 => zo hB ht hS1 (fun hP1 hK1 hD1 hS => ?_))))
        refine zc_backc (w := [(a0, .inr (2, [.int v10na0_0, .int (-2), .int (-2), .ref a0_3, .ref a0_4, .int v10na0_5, .int 1])), (a1, .inr (0, [.int a1_0, .int a1_1, a1g_2, a1g_3, a1g_4, a1g_5, a1g_6, a1g_7, a1g_8, .int a1_9, a1g_10, a1g_11, .ref a1_12, .ref a1_13, a1g_14])), (a0_3, .inl (ka0_3, 729, .inl (v10nfa0_3))), (a1_13, .inl (ka1_13, 6, .inl (fa1_13))), (a1_12, .inl (ka1_12, 6, .inl (fa1_12))), (a0_4, .inl (ka0_4, 900, .inl (v61nfa0_4)))]) hP hD hCc hk1 hFc hP1 hD1 [.inr 0, .inl 1, .inr 2, .inl 3, .inl 4, .inr 1] (by decide +kernel) rfl (fun hP hD => ?_)
        have hc61 : Ff_X2_tally a1_0.toInt x53.toInt v10na0_0.toInt (fl_A fa0_4) (fl_A v10nfa0_3) = (fl_A v61nfa0_4) := hraw61_0
        have hF0 := hF0.trans (fl_lt_eq hc61.symm)
        refine lv_iconst (v := 0) hx hb dX2_chooseLook_64 zk_iconst_0 ?_
        refine lv_istore_n (lv' := [(3, .int 0), (2, .int x53), (0, .ref a0), (1, .ref a1)]) hx hb dX2_chooseLook_65 rfl hl (by decide) rfl (fun ls hl => ?_)
        have J66 : ∀ (n : Nat) (j66l3 : Int32) (j66a0_1 : Int32) (j66a0_2 : Int32) (H : Heap) (locs : List Loc) (ls : Array Slot), (101 : Int) - j66l3.toInt ≤ (n : Int) → (0 : Int) ≤ j66l3.toInt → j66l3.toInt ≤ (100 : Int) → (FX = fl_wh (fun t9 => Sf_X2_chooseLook_66_1 a1_1.toInt v10na0_0.toInt v10na0_5.toInt (fl_A v10nfa0_3) x53.toInt (fl_A v61nfa0_4) t9.1 t9.2.1 t9.2.2) (0, 0, 0, 0, 0, (fun _ => 0), (fun _ => 0)) n (j66l3.toInt, j66a0_1.toInt, j66a0_2.toInt)) → va_P (dC, dI) vwCl [(a0, .inr (2, [.int v10na0_0, .int j66a0_1, .int j66a0_2, .ref a0_3, .ref a0_4, .int v10na0_5, .int 1])), (a1, .inr (0, [.int a1_0, .int a1_1, a1g_2, a1g_3, a1g_4, a1g_5, a1g_6, a1g_7, a1g_8, .int a1_9, a1g_10, a1g_11, .ref a1_12, .ref a1_13, a1g_14])), (a0_3, .inl (ka0_3, 729, .inl (v10nfa0_3))), (a1_13, .inl (ka1_13, 6, .inl (fa1_13))), (a1_12, .inl (ka1_12, 6, .inl (fa1_12))), (a0_4, .inl (ka0_4, 900, .inl (v61nfa0_4)))] H → va_D A [(a0, .inr (2, [.int v10na0_0, .int j66a0_1, .int j66a0_2, .ref a0_3, .ref a0_4, .int v10na0_5, .int 1])), (a1, .inr (0, [.int a1_0, .int a1_1, a1g_2, a1g_3, a1g_4, a1g_5, a1g_6, a1g_7, a1g_8, .int a1_9, a1g_10, a1g_11, .ref a1_12, .ref a1_13, a1g_14])), (a0_3, .inl (ka0_3, 729, .inl (v10nfa0_3))), (a1_13, .inl (ka1_13, 6, .inl (fa1_13))), (a1_12, .inl (ka1_12, 6, .inl (fa1_12))), (a0_4, .inl (ka0_4, 900, .inl (v61nfa0_4)))] → va_S A s.heap H locs → lv_has ls 5 [(0, .ref a0), (1, .ref a1), (2, .int x53), (3, .int j66l3)] → K H locs (F0 m 66 ls []) := by
          intro n
          induction n with
          | zero =>
            intro j66l3 j66a0_1 j66a0_2 H locs ls hm bj66l3_l bj66l3_u hF0 hP hD hS hl
            first | exact zg_0 hm bj66l3_u (by decide) | (have h8 := ai_min j66l3; have h9 := ai_max j66l3; exact absurd hm (by omega))
          | succ n ih66 =>
            intro j66l3 j66a0_1 j66a0_2 H locs ls hm bj66l3_l bj66l3_u hF0 hP hD hS hl
            refine (hK0 _ _ _).mpr ?_
            have hm66 := hm
            obtain ⟨SX66, hSX66⟩ : ∃ q9, Sf_X2_chooseLook_66_1 a1_1.toInt v10na0_0.toInt v10na0_5.toInt (fl_A v10nfa0_3) x53.toInt (fl_A v61nfa0_4) j66l3.toInt j66a0_1.toInt j66a0_2.toInt = q9 := ⟨_, rfl⟩
            have hF1 := hSX66.symm.trans (Sf_X2_chooseLook_66_1.eq_1 a1_1.toInt v10na0_0.toInt v10na0_5.toInt (fl_A v10nfa0_3) x53.toInt (fl_A v61nfa0_4) j66l3.toInt j66a0_1.toInt j66a0_2.toInt)
            refine lv_iload_n hx hb dX2_chooseLook_66 rfl (lv_at hl 3 rfl) ?_
            refine lv_iload_n hx hb dX2_chooseLook_67 rfl (lv_at hl 2 rfl) ?_
            refine lv_icmp_ge (tgt := 118) hx hb dX2_chooseLook_68 (by decide) (fun c68 => ?_) (fun c68 => ?_)
            · have gc68 := ai_le c68
              have u68t_x53 : x53.toInt ≤ (100 : Int) := bx53.2
              have l68t_j66l3 : (1 : Int) ≤ j66l3.toInt := Int.le_trans bx53.1 gc68
              have hF1 := hF1.trans (if_pos (show x53.toInt ≤ j66l3.toInt from gc68))
              have hF0 := hF0.trans (fl_wh_r (hSX66.trans hF1))
              have hFe : FX = (v10na0_0.toInt, j66a0_1.toInt, j66a0_2.toInt, v10na0_5.toInt, 1, (fl_A v10nfa0_3), (fl_A v61nfa0_4)) := hF0
              exact W.vret hx hb hr (fun t ht hW => ⟨⟨(), rfl, trivial, v10na0_0, j66a0_1, j66a0_2, v10na0_5, 1, v10nfa0_3, v61nfa0_4, ⟨Int.le_trans (by decide) l34f_v10na0_0, bv10na0_0.2⟩, ⟨bv10na0_5.1, bv10na0_5.2⟩, ⟨Int.le_trans (by decide) zq1, zq0⟩, bv10nfa0_3, hFe, by rw [ht]; exact hP, va_K.moved hW.alike hK, hD⟩, hS.F ht⟩) hS.2.2 dX2_chooseLook_118
            · have gc68 := ai_nle c68
              have u68f_j66l3 : j66l3.toInt ≤ (99 : Int) := ai_lthi gc68 bx53.2
              have l68f_x53 : (1 : Int) ≤ x53.toInt := bx53.1
              have hF1 := hF1.trans (if_neg (show ¬ (x53.toInt ≤ j66l3.toInt) from Int.not_le.mpr gc68))
              refine lv_aload_n hx hb dX2_chooseLook_71 rfl (lv_at hl 0 rfl) ?_
              refine lv_iload_n hx hb dX2_chooseLook_72 rfl (lv_at hl 3 rfl) ?_
              refine zc_cutc (wc := [(a0, .inr (2, [.int v10na0_0, .int j66a0_1, .int j66a0_2, .ref a0_3, .ref a0_4, .int v10na0_5, .int 1])), (a0_4, .inl (ka0_4, 900, .inl (v61nfa0_4)))]) hP hD hS hA [0, 5] (by decide +kernel) rfl (fun hPc hDc hFc hCc => ?_)
              have hKc := hK.sub (tys' := [(ka0_4, .int)]) [3] rfl
              refine va_calli (va_runV (As := [.int j66l3]) (rest := []) ⟨hx, hb, hml, hown, hts⟩ (f_X2_mostOf l dC dI H.size a0 j66l3 (.int v10na0_0) (.int j66a0_1) (.int j66a0_2) (.ref a0_3) (.int v10na0_5) (.int 1) a0_4 ka0_4 v61nfa0_4 bj66l3_l u68f_j66l3) (cwV 1 hts gX2_chooseLook_X2_mostOf rfl rfl rfl zd_X2_mostOf ⟨Nat.le_of_ble_eq_true rfl, Nat.le_of_ble_eq_true rfl⟩) ⟨ax_blind (fun _ _ _ _ _ => trivial), zr_2 hKc hPc (q0 := 0) rfl, ax_pre hPc hKc hDc (fun _ _ => trivial)⟩ rfl rfl hl.1 rfl (lv_room (Nat.le_of_ble_eq_true rfl)) dX2_chooseLook_73 ⟨Nat.le_of_ble_eq_true rfl, Nat.le_of_ble_eq_true rfl⟩) hS (fun q _ h => hFc q h) hFc (fun r73 u t H locs ht hvm hw hB hz1 hk1 hS1 => zo hB ht hS1 (fun hP1 hK1 hD1 hS => ?_))
              refine zc_backc (w := [(a0, .inr (2, [.int v10na0_0, .int j66a0_1, .int j66a0_2, .ref a0_3, .ref a0_4, .int v10na0_5, .int 1])), (a1, .inr (0, [.int a1_0, .int a1_1, a1g_2, a1g_3, a1g_4, a1g_5, a1g_6, a1g_7, a1g_8, .int a1_9, a1g_10, a1g_11, .ref a1_12, .ref a1_13, a1g_14])), (a0_3, .inl (ka0_3, 729, .inl (v10nfa0_3))), (a1_13, .inl (ka1_13, 6, .inl (fa1_13))), (a1_12, .inl (ka1_12, 6, .inl (fa1_12))), (a0_4, .inl (ka0_4, 900, .inl (v61nfa0_4)))]) hP hD hCc hk1 hFc hP1 hD1 [.inr 0, .inl 1, .inl 2, .inl 3, .inl 4, .inr 1] (by decide +kernel) rfl (fun hP hD => ?_)
              obtain ⟨hw, hfr73⟩ := hw
              have hc73 : Ff_X2_mostOf j66l3.toInt (fl_A v61nfa0_4) = r73.toInt := hfr73.symm
              have hF1 := hF1.trans (fl_lt_eq hc73.symm)
              refine lv_istore (lv' := [(4, .int r73), (0, .ref a0), (1, .ref a1), (2, .int x53), (3, .int j66l3)]) hx hb dX2_chooseLook_76 hl (by decide) rfl (fun ls hl => ?_)
              refine lv_aload_n hx hb dX2_chooseLook_78 rfl (lv_at hl 1 rfl) ?_
              refine va_get (D := (dC, dI)) (ci := 2) (v := .int j66a0_2) (C := RX2) (T := TX2) (N := 7) hx hb hts zi_X2_chooseLook_2 hown hK hP 0 rfl rfl 2 (by decide) (hts (.fieldLink RX2 58 "WaxTurns$Laws" "lookMost" "I") (zm_X2_chooseLook_r1 (List.mem_of_getElem? (i := 2) rfl))) (fun _ h9 => h9) rfl dX2_chooseLook_79 ?_
              refine lv_bipush (v := (-2)) hx hb dX2_chooseLook_82 zk_bipush_n2 ?_
              have J112 : ∀ (j112a0_1 : Int32) (j112a0_2 : Int32) (H : Heap) (locs : List Loc) (ls : Array Slot), (SX66 = Gf_X2_chooseLook_112_1 j66l3.toInt j112a0_1.toInt j112a0_2.toInt) → va_P (dC, dI) vwCl [(a0, .inr (2, [.int v10na0_0, .int j112a0_1, .int j112a0_2, .ref a0_3, .ref a0_4, .int v10na0_5, .int 1])), (a1, .inr (0, [.int a1_0, .int a1_1, a1g_2, a1g_3, a1g_4, a1g_5, a1g_6, a1g_7, a1g_8, .int a1_9, a1g_10, a1g_11, .ref a1_12, .ref a1_13, a1g_14])), (a0_3, .inl (ka0_3, 729, .inl (v10nfa0_3))), (a1_13, .inl (ka1_13, 6, .inl (fa1_13))), (a1_12, .inl (ka1_12, 6, .inl (fa1_12))), (a0_4, .inl (ka0_4, 900, .inl (v61nfa0_4)))] H → va_D A [(a0, .inr (2, [.int v10na0_0, .int j112a0_1, .int j112a0_2, .ref a0_3, .ref a0_4, .int v10na0_5, .int 1])), (a1, .inr (0, [.int a1_0, .int a1_1, a1g_2, a1g_3, a1g_4, a1g_5, a1g_6, a1g_7, a1g_8, .int a1_9, a1g_10, a1g_11, .ref a1_12, .ref a1_13, a1g_14])), (a0_3, .inl (ka0_3, 729, .inl (v10nfa0_3))), (a1_13, .inl (ka1_13, 6, .inl (fa1_13))), (a1_12, .inl (ka1_12, 6, .inl (fa1_12))), (a0_4, .inl (ka0_4, 900, .inl (v61nfa0_4)))] → va_S A s.heap H locs → lv_has ls 5 [(0, .ref a0), (1, .ref a1), (2, .int x53), (3, .int j66l3)] → K H locs (F0 m 112 ls []) := by
                intro j112a0_1 j112a0_2 H locs ls  hF1 hP hD hS hl
                refine (hK0 _ _ _).mpr ?_
                have hF1 := hF1.trans (Gf_X2_chooseLook_112_1.eq_1 j66l3.toInt j112a0_1.toInt j112a0_2.toInt)
                obtain ⟨x112, ex112⟩ : ∃ y : Int32, y = j66l3 + Int32.ofInt 1 := ⟨_, rfl⟩
                have qx112 : x112.toInt = j66l3.toInt + 1 := ai_inc ex112 (by decide) (by decide) u68f_j66l3 (by decide)
                have bx112 : (1 : Int) ≤ x112.toInt ∧ x112.toInt ≤ 100 := ⟨by rw [qx112]; exact Int.add_le_add bj66l3_l (Int.le_refl _), by rw [qx112]; exact Int.add_le_add u68f_j66l3 (Int.le_refl _)⟩
                refine lv_iinc (v := x112) (lv' := [(3, .int x112), (0, .ref a0), (1, .ref a1), (2, .int x53)]) hx hb dX2_chooseLook_112 hl (k := 3) rfl ex112.symm (by decide) rfl (fun ls hl => ?_)
                have hF1 := hF1.trans (fl_lt_eq (show x112.toInt = j66l3.toInt + 1 from qx112))
                refine lv_goto (tgt := 66) hx hb dX2_chooseLook_115 (by decide) ?_
                exact (hK0 _ _ _).mp (ih66 x112 j112a0_1 j112a0_2 _ _ _ (by first | exact zg_s hm66 qx112 | (have h0 := qx112; omega)) (Int.le_trans zq4 bx112.1) bx112.2 (hF0.trans (fl_wh_l (hSX66.trans hF1))) hP hD hS (lv_sub hl [1, 2, 3, 0] rfl))
              have J96 : ∀ (H : Heap) (locs : List Loc) (ls : Array Slot), (SX66 = Gf_X2_chooseLook_96_1 a1_1.toInt j66l3.toInt r73.toInt) → va_P (dC, dI) vwCl [(a0, .inr (2, [.int v10na0_0, .int j66a0_1, .int j66a0_2, .ref a0_3, .ref a0_4, .int v10na0_5, .int 1])), (a1, .inr (0, [.int a1_0, .int a1_1, a1g_2, a1g_3, a1g_4, a1g_5, a1g_6, a1g_7, a1g_8, .int a1_9, a1g_10, a1g_11, .ref a1_12, .ref a1_13, a1g_14])), (a0_3, .inl (ka0_3, 729, .inl (v10nfa0_3))), (a1_13, .inl (ka1_13, 6, .inl (fa1_13))), (a1_12, .inl (ka1_12, 6, .inl (fa1_12))), (a0_4, .inl (ka0_4, 900, .inl (v61nfa0_4)))] H → va_D A [(a0, .inr (2, [.int v10na0_0, .int j66a0_1, .int j66a0_2, .ref a0_3, .ref a0_4, .int v10na0_5, .int 1])), (a1, .inr (0, [.int a1_0, .int a1_1, a1g_2, a1g_3, a1g_4, a1g_5, a1g_6, a1g_7, a1g_8, .int a1_9, a1g_10, a1g_11, .ref a1_12, .ref a1_13, a1g_14])), (a0_3, .inl (ka0_3, 729, .inl (v10nfa0_3))), (a1_13, .inl (ka1_13, 6, .inl (fa1_13))), (a1_12, .inl (ka1_12, 6, .inl (fa1_12))), (a0_4, .inl (ka0_4, 900, .inl (v61nfa0_4)))] → va_S A s.heap H locs → lv_has ls 5 [(0, .ref a0), (1, .ref a1), (2, .int x53), (3, .int j66l3), (4, .int r73)] → K H locs (F0 m 96 ls []) := by
                intro  H locs ls  hF1 hP hD hS hl
                refine (hK0 _ _ _).mpr ?_
                have hF1 := hF1.trans (Gf_X2_chooseLook_96_1.eq_1 a1_1.toInt j66l3.toInt r73.toInt)
                refine lv_aload_n hx hb dX2_chooseLook_96 rfl (lv_at hl 0 rfl) ?_
                refine lv_iload hx hb dX2_chooseLook_97 (lv_at hl 4 rfl) ?_
                refine va_put (D := (dC, dI)) (ci := 2) (v := .int r73) (ty := .int) (C := RX2) (T := TX2) (N := 7) hx hb hts zi_X2_chooseLook_2 tyX2 tyX2_ok nmX2 hown hK hP hD hS 0 rfl rfl 2 (by decide) (hts (.fieldLink RX2 58 "WaxTurns$Laws" "lookMost" "I") (zm_X2_chooseLook_r1 (List.mem_of_getElem? (i := 2) rfl))) (fun _ h9 => h9) rfl (tyX2_ok 2 (by decide)) rfl rfl (Nat.le_of_ble_eq_true rfl) dX2_chooseLook_99 (fun H locs hP hD hS => ?_)
                refine zs_0 (y := (a0, .inr (2, [.int v10na0_0, .int j66a0_1, .int r73, .ref a0_3, .ref a0_4, .int v10na0_5, .int 1]))) hP hD rfl (fun hP hD => ?_)
                refine lv_aload_n hx hb dX2_chooseLook_102 rfl (lv_at hl 0 rfl) ?_
                refine lv_iload_n hx hb dX2_chooseLook_103 rfl (lv_at hl 3 rfl) ?_
                refine lv_aload_n hx hb dX2_chooseLook_104 rfl (lv_at hl 1 rfl) ?_
                refine va_get (D := (dC, dI)) (ci := 0) (v := .int a1_1) (C := RX0) (T := TX0) (N := 15) hx hb hts zi_X2_chooseLook_0 hown hK hP 1 rfl rfl 1 (by decide) (hts (.fieldLink RX2 61 "WaxTurns$Hall" "span" "I") (zm_X2_chooseLook_r1 (List.mem_of_getElem? (i := 4) rfl))) (fun _ h9 => h9) rfl dX2_chooseLook_105 ?_
                refine lv_imul hx hb dX2_chooseLook_108 ?_
                refine lv_topi (fun x108 ex108 => ?_)
                have fqx108 := fl_imul_eq ex108
                have hF1 := hF1.trans (fl_lt_eq (show x108.toInt = fl_imul j66l3.toInt a1_1.toInt from fqx108))
                refine va_put (D := (dC, dI)) (ci := 2) (v := .int x108) (ty := .int) (C := RX2) (T := TX2) (N := 7) hx hb hts zi_X2_chooseLook_2 tyX2 tyX2_ok nmX2 hown hK hP hD hS 0 rfl rfl 1 (by decide) (hts (.fieldLink RX2 55 "WaxTurns$Laws" "lookMinute" "I") (zm_X2_chooseLook_r1 (List.mem_of_getElem? (i := 1) rfl))) (fun _ h9 => h9) rfl (tyX2_ok 1 (by decide)) rfl rfl (Nat.le_of_ble_eq_true rfl) dX2_chooseLook_109 (fun H locs hP hD hS => ?_)
                refine zs_0 (y := (a0, .inr (2, [.int v10na0_0, .int x108, .int r73, .ref a0_3, .ref a0_4, .int v10na0_5, .int 1]))) hP hD rfl (fun hP hD => ?_)
                exact (hK0 _ _ _).mp (J112 x108 r73 _ _ _   hF1 hP hD hS (lv_sub hl [0, 1, 2, 3] rfl))
              refine lv_icmp_eq (tgt := 96) hx hb dX2_chooseLook_84 (by decide) (fun c84 => ?_) (fun c84 => ?_)
              · have gc84 := ai_eq c84
                have u84t_j66a0_2 : j66a0_2.toInt ≤ (-2 : Int) := Int.le_trans (Int.le_of_eq gc84) zq44
                have l84t_j66a0_2 : (-2 : Int) ≤ j66a0_2.toInt := Int.le_trans zq45 (Int.le_of_eq gc84.symm)
                have hF1 := hF1.trans (if_pos (show j66a0_2.toInt = (-2) from gc84))
                exact (hK0 _ _ _).mp (J96  _ _ _   hF1 hP hD hS (lv_sub hl [1, 2, 3, 4, 0] rfl))
              · have gc84 := ai_ne c84
                have hF1 := hF1.trans (if_neg (show ¬ (j66a0_2.toInt = (-2)) from  gc84))
                refine lv_iload hx hb dX2_chooseLook_87 (lv_at hl 0 rfl) ?_
                refine lv_aload_n hx hb dX2_chooseLook_89 rfl (lv_at hl 1 rfl) ?_
                refine va_get (D := (dC, dI)) (ci := 2) (v := .int j66a0_2) (C := RX2) (T := TX2) (N := 7) hx hb hts zi_X2_chooseLook_2 hown hK hP 0 rfl rfl 2 (by decide) (hts (.fieldLink RX2 58 "WaxTurns$Laws" "lookMost" "I") (zm_X2_chooseLook_r1 (List.mem_of_getElem? (i := 2) rfl))) (fun _ h9 => h9) rfl dX2_chooseLook_90 ?_
                refine lv_icmp_ge (tgt := 112) hx hb dX2_chooseLook_93 (by decide) (fun c93 => ?_) (fun c93 => ?_)
                · have gc93 := ai_le c93
                  have hF1 := hF1.trans (if_pos (show j66a0_2.toInt ≤ r73.toInt from gc93))
                  exact (hK0 _ _ _).mp (J112 j66a0_1 j66a0_2 _ _ _   hF1 hP hD hS (lv_sub hl [1, 2, 3, 4] rfl))
                · have gc93 := ai_nle c93
                  have u93f_r73 : r73.toInt ≤ (2147483646 : Int) := ai_lthi gc93 (ai_max j66a0_2)
                  have l93f_j66a0_2 : (-2147483647 : Int) ≤ j66a0_2.toInt := ai_ltlo gc93 (ai_min r73)
                  have hF1 := hF1.trans (if_neg (show ¬ (j66a0_2.toInt ≤ r73.toInt) from Int.not_le.mpr gc93))
                  exact (hK0 _ _ _).mp (J96  _ _ _   hF1 hP hD hS (lv_sub hl [1, 2, 3, 4, 0] rfl))
        exact (hK0 _ _ _).mp (J66 101 0 (-2) (-2) _ _ _ (by first | decide +kernel | (have h1 : (0 : Int) ≤ (0 : Int32).toInt := zq5; have h2 : (0 : Int32).toInt ≤ (0 : Int) := zq6; omega)) zq5 (Int.le_trans zq6 zq38) (by rw [show (0 : Int32).toInt = 0 from by decide, show ((-2) : Int32).toInt = (-2) from by decide]; exact hF0) hP hD hS (lv_sub hl [2, 3, 1, 0] rfl))
      · have gc41 := ai_nlt c41
        have u41f_a1_1 : a1_1.toInt ≤ (0 : Int) := Int.le_trans gc41 zq6
        have hF0 := hF0.trans (if_neg (show ¬ (0 < a1_1.toInt) from Int.not_lt.mpr gc41))
        have hFe : FX = (v10na0_0.toInt, (-2), (-2), v10na0_5.toInt, 1, (fl_A v10nfa0_3), (fl_A fa0_4)) := hF0
        exact W.vret hx hb hr (fun t ht hW => ⟨⟨(), rfl, trivial, v10na0_0, (-2), (-2), v10na0_5, 1, v10nfa0_3, fa0_4, ⟨Int.le_trans (by decide) l34f_v10na0_0, bv10na0_0.2⟩, ⟨bv10na0_5.1, bv10na0_5.2⟩, ⟨Int.le_trans (by decide) zq1, zq0⟩, bv10nfa0_3, hFe, by rw [ht]; exact hP, va_K.moved hW.alike hK, hD⟩, hS.F ht⟩) hS.2.2 dX2_chooseLook_44
  · have gc4 := ai_ne c4
    have l4f_a0_6 : (1 : Int) ≤ a0_6.toInt := (by first | exact zg_l ba0_6_l gc4 (by decide) (by decide) | (have h1 := ba0_6_l; have h2 : (0 : Int32).toInt = 0 := (by decide); rw [h2] at gc4; omega))
    have hF0 := hF0.trans (if_neg (show ¬ (a0_6.toInt = 0) from  gc4))
    have hFe : FX = (a0_0.toInt, a0_1.toInt, a0_2.toInt, a0_5.toInt, a0_6.toInt, (fl_A fa0_3), (fl_A fa0_4)) := hF0
    exact W.vret hx hb hr (fun t ht hW => ⟨⟨(), rfl, trivial, a0_0, a0_1, a0_2, a0_5, a0_6, fa0_3, fa0_4, ⟨ba0_0_l, ba0_0_u⟩, ⟨ba0_5_l, ba0_5_u⟩, ⟨Int.le_trans (by decide) l4f_a0_6, ba0_6_u⟩, bfa0_3, hFe, by rw [ht]; exact hP, va_K.moved hW.alike hK, hD⟩, hS.F ht⟩) hS.2.2 dX2_chooseLook_7

set_option maxHeartbeats 4000000 in
set_option maxRecDepth 100000 in
theorem f_X7_fits (l : Launch) (dC : Nat → ClassId) (dI : Nat → Nat → Nat) (sz : Nat) (a0 : Nat) (a0g_0 a0g_1 a0g_2 a0g_3 a0g_4 a0g_6 a0g_9 a0g_10 : Value) (a0_5 : Nat) (a0_7 : Nat) (a0_8 : Int32) (a0_7_0 : Int32) (a0_7_1 : Int32) (a0_7g_2 a0_7g_3 a0_7g_4 a0_7g_5 a0_7g_6 a0_7g_7 a0_7g_8 a0_7g_10 a0_7g_11 a0_7g_14 : Value) (a0_7_9 : Int32) (a0_7_12 : Nat) (a0_7_13 : Nat) (a0_5_0 : Int32) (a0_5g_1 a0_5g_2 a0_5g_4 a0_5g_6 : Value) (a0_5_3 : Nat) (a0_5_5 : Int32) (ka0_5_3 : ClassId) (fa0_5_3 : Nat → Int32) (ka0_7_13 : ClassId) (fa0_7_13 : Nat → Int32) (ka0_7_12 : ClassId) (fa0_7_12 : Nat → Int32) (ba0_7_0_l : (0 : Int) ≤ a0_7_0.toInt) (ba0_7_0_u : a0_7_0.toInt ≤ (9 : Int)) (ba0_7_9_l : (0 : Int) ≤ a0_7_9.toInt) (ba0_7_9_u : a0_7_9.toInt ≤ (6 : Int)) (ba0_5_0_l : (0 : Int) ≤ a0_5_0.toInt) (ba0_5_0_u : a0_5_0.toInt ≤ (729 : Int)) (ba0_5_5_l : (0 : Int) ≤ a0_5_5.toInt) (ba0_5_5_u : a0_5_5.toInt ≤ (1 : Int)) (bfa0_5_3 : (∀ k, (0 : Int) ≤ (fa0_5_3 k).toInt ∧ (fa0_5_3 k).toInt ≤ 888 ∧ (fa0_5_3 k).toInt % 10 ≤ 8)) (bfa0_7_13 : (∀ k, (0 : Int) ≤ (fa0_7_13 k).toInt ∧ (fa0_7_13 k).toInt ≤ 999)) : zm l yX7_fits wsX7_fits ({ frames := 4, cells := 0, slots := 0, locals := 98 }) [.ref a0] dC dI sz [(a0, .inr (7, [a0g_0, a0g_1, a0g_2, a0g_3, a0g_4, .ref a0_5, a0g_6, .ref a0_7, .int a0_8, a0g_9, a0g_10])), (a0_7, .inr (0, [.int a0_7_0, .int a0_7_1, a0_7g_2, a0_7g_3, a0_7g_4, a0_7g_5, a0_7g_6, a0_7g_7, a0_7g_8, .int a0_7_9, a0_7g_10, a0_7g_11, .ref a0_7_12, .ref a0_7_13, a0_7g_14])), (a0_5, .inr (2, [.int a0_5_0, a0_5g_1, a0_5g_2, .ref a0_5_3, a0_5g_4, .int a0_5_5, a0_5g_6])), (a0_5_3, .inl (ka0_5_3, 729, .inl (fa0_5_3))), (a0_7_13, .inl (ka0_7_13, 6, .inl (fa0_7_13))), (a0_7_12, .inl (ka0_7_12, 6, .inl (fa0_7_12)))] [(ka0_5_3, .int), (ka0_7_13, .int), (ka0_7_12, .int)] (fun A U => va_Nw (.methodLinkNest RX0 72 yX7_laterTurn RX7) U) (fun A => va_Qi (fun (r : Int32) (_ : Unit) => ((-1 : Int) ≤ r.toInt ∧ r.toInt ≤ (729 : Int)) ∧ r.toInt = (Ff_X7_fits a0_7_0.toInt a0_7_1.toInt a0_7_9.toInt a0_5_0.toInt a0_5_5.toInt (fl_A fa0_5_3) (fl_A fa0_7_13) (fl_A fa0_7_12)).1) (fun (_ : Unit) (t : State) => ∃ na0_8 : Int32, ∃ na0_5_0 : Int32, ∃ na0_5_5 : Int32, ∃ nfa0_5_3 : Nat → Int32, ((0 : Int) ≤ na0_5_0.toInt ∧ na0_5_0.toInt ≤ 729) ∧ ((0 : Int) ≤ na0_5_5.toInt ∧ na0_5_5.toInt ≤ 1) ∧ (∀ k, (0 : Int) ≤ (nfa0_5_3 k).toInt ∧ (nfa0_5_3 k).toInt ≤ 888 ∧ (nfa0_5_3 k).toInt % 10 ≤ 8) ∧ ((Ff_X7_fits a0_7_0.toInt a0_7_1.toInt a0_7_9.toInt a0_5_0.toInt a0_5_5.toInt (fl_A fa0_5_3) (fl_A fa0_7_13) (fl_A fa0_7_12)).2 = (na0_8.toInt, na0_5_0.toInt, na0_5_5.toInt, (fl_A nfa0_5_3))) ∧ ax_B dC dI A [(a0, .inr (7, [a0g_0, a0g_1, a0g_2, a0g_3, a0g_4, .ref a0_5, a0g_6, .ref a0_7, .int na0_8, a0g_9, a0g_10])), (a0_7, .inr (0, [.int a0_7_0, .int a0_7_1, a0_7g_2, a0_7g_3, a0_7g_4, a0_7g_5, a0_7g_6, a0_7g_7, a0_7g_8, .int a0_7_9, a0_7g_10, a0_7g_11, .ref a0_7_12, .ref a0_7_13, a0_7g_14])), (a0_5, .inr (2, [.int na0_5_0, a0_5g_1, a0_5g_2, .ref a0_5_3, a0_5g_4, .int na0_5_5, a0_5g_6])), (a0_5_3, .inl (ka0_5_3, 729, .inl (nfa0_5_3))), (a0_7_13, .inl (ka0_7_13, 6, .inl (fa0_7_13))), (a0_7_12, .inl (ka0_7_12, 6, .inl (fa0_7_12)))] [(ka0_5_3, .int), (ka0_7_13, .int), (ka0_7_12, .int)] t) A) := by
  refine zh (cc := cX7_fits) (maxL := 1) (ret := (some .int)) zn_RX7 rfl (Nat.le_of_ble_eq_true rfl) (fun p e s m below meth c A ls hx hb hml hr hts (hown : s.vm.findClass RX7 = some m.cls) hlocks hA hS hP hK hD hE (hl : lv_has ls 1 [(0, .ref a0)]) => ?_)
  have hE0 := hE
  generalize hFX : Ff_X7_fits a0_7_0.toInt a0_7_1.toInt a0_7_9.toInt a0_5_0.toInt a0_5_5.toInt (fl_A fa0_5_3) (fl_A fa0_7_13) (fl_A fa0_7_12) = FX at ⊢
  have hF0 := hFX.symm.trans (Ff_X7_fits.eq_1 a0_7_0.toInt a0_7_1.toInt a0_7_9.toInt a0_5_0.toInt a0_5_5.toInt (fl_A fa0_5_3) (fl_A fa0_7_13) (fl_A fa0_7_12))
  refine lv_aload_n hx hb dX7_fits_0 rfl (lv_at hl 0 rfl) ?_
  refine va_calli (va_runV (As := []) (rest := []) ⟨hx, hb, hml, hown, hts⟩ (f_X7_hasGallery l dC dI s.heap.size a0 a0g_0 a0g_1 a0g_2 a0g_3 a0g_4 (.ref a0_5) a0g_6 (.int a0_8) a0g_9 a0g_10 a0_7 a0_7_0 (.int a0_7_1) a0_7g_2 a0_7g_3 a0_7g_4 a0_7g_5 a0_7g_6 a0_7g_7 a0_7g_8 (.int a0_7_9) a0_7g_10 a0_7g_11 (.ref a0_7_12) (.ref a0_7_13) a0_7g_14 ba0_7_0_l ba0_7_0_u) (cwV 0 hts gX7_fits_X7_hasGallery rfl rfl rfl zd_X7_hasGallery ⟨Nat.le_of_ble_eq_true rfl, Nat.le_of_ble_eq_true rfl⟩) ⟨ax_blind (fun _ _ _ _ _ => trivial), zr_7 (zp_K hK) (zp_P2 hP) (q0 := 0) rfl, ax_pre (zp_P2 hP) (zp_K hK) (zp_D2 hD) (fun _ _ => trivial)⟩ rfl rfl hl.1 rfl (lv_room (Nat.le_of_ble_eq_true rfl)) dX7_fits_1 ⟨Nat.le_of_ble_eq_true rfl, Nat.le_of_ble_eq_true rfl⟩) hS (fun q _ h => zp_F2 hD hS hA q h) (zp_F2 hD hS hA) (fun r1 u t H locs ht hvm hw hB hz1 hk1 hS1 => zo2 hB ht hP hD hk1 (zp_F2 hD hS hA) hS1 (fun hP hK1 hD hS => ?_))
  obtain ⟨hw, hfr1⟩ := hw
  have hc1 : Ff_X7_hasGallery a0_7_0.toInt = r1.toInt := hfr1.symm
  have hF0 := hF0.trans (fl_lt_eq hc1.symm)
  rcases hw with hw | hw
  · obtain ⟨hw, h1_0, h1_1⟩ := hw
    subst hw
    have l1k0_a0_7_0 : (1 : Int) ≤ a0_7_0.toInt := h1_0
    have u1k0_a0_7_0 : a0_7_0.toInt ≤ (9 : Int) := ba0_7_0_u
    have hF0 := hF0.trans (if_pos (by decide))
    refine lv_if_ne (tgt := 13) hx hb dX7_fits_4 (by decide) (fun _ => ?_) (fun c4 => absurd c4 (by decide +kernel))
    refine lv_aload_n hx hb dX7_fits_13 rfl (lv_at hl 0 rfl) ?_
    refine va_get (D := (dC, dI)) (ci := 7) (v := .ref a0_5) (C := RX7) (T := TX7) (N := 11) hx hb hts zi_X7_fits_7 hown hK hP 0 rfl rfl 5 (by decide) (hts (.fieldLink RX7 43 "WaxTurns" "laws" "LWaxTurns$Laws;") (zm_X7_fits_r1 (List.mem_of_getElem? (i := 0) rfl))) (fun _ h9 => h9) rfl dX7_fits_14 ?_
    refine lv_aload_n hx hb dX7_fits_17 rfl (lv_at hl 0 rfl) ?_
    refine va_get (D := (dC, dI)) (ci := 7) (v := .ref a0_7) (C := RX7) (T := TX7) (N := 11) hx hb hts zi_X7_fits_7 hown hK hP 0 rfl rfl 7 (by decide) (hts (.fieldLink RX7 57 "WaxTurns" "hall" "LWaxTurns$Hall;") (zm_X7_fits_r1 (List.mem_of_getElem? (i := 1) rfl))) (fun _ h9 => h9) rfl dX7_fits_18 ?_
    refine zc_cutc (wc := [(a0_5, .inr (2, [.int a0_5_0, a0_5g_1, a0_5g_2, .ref a0_5_3, a0_5g_4, .int a0_5_5, a0_5g_6])), (a0_7, .inr (0, [.int a0_7_0, .int a0_7_1, a0_7g_2, a0_7g_3, a0_7g_4, a0_7g_5, a0_7g_6, a0_7g_7, a0_7g_8, .int a0_7_9, a0_7g_10, a0_7g_11, .ref a0_7_12, .ref a0_7_13, a0_7g_14])), (a0_5_3, .inl (ka0_5_3, 729, .inl (fa0_5_3))), (a0_7_13, .inl (ka0_7_13, 6, .inl (fa0_7_13))), (a0_7_12, .inl (ka0_7_12, 6, .inl (fa0_7_12)))]) hP hD hS hA [2, 1, 3, 4, 5] (by decide +kernel) rfl (fun hPc hDc hFc hCc => ?_)
    have hKc := hK.sub (tys' := [(ka0_5_3, .int), (ka0_7_13, .int), (ka0_7_12, .int)]) [0, 1, 2] rfl
    refine va_callv (va_runV (As := [.ref a0_7]) (rest := []) ⟨hx, hb, hml, hown, hts⟩ (f_X2_list l dC dI H.size a0_5 a0_7 a0_5_0 a0_5g_1 a0_5g_2 a0_5g_4 a0_5g_6 a0_5_3 a0_5_5 a0_7_0 a0_7_1 a0_7g_2 a0_7g_3 a0_7g_4 a0_7g_5 a0_7g_6 a0_7g_7 a0_7g_8 a0_7g_10 a0_7g_11 a0_7g_14 a0_7_9 a0_7_12 a0_7_13 ka0_5_3 fa0_5_3 ka0_7_13 fa0_7_13 ka0_7_12 fa0_7_12 ba0_5_0_l ba0_5_0_u ba0_5_5_l ba0_5_5_u (Int.le_trans zq4 l1k0_a0_7_0) u1k0_a0_7_0 ba0_7_9_l ba0_7_9_u bfa0_5_3 bfa0_7_13) (cwV 1 hts gX7_fits_X2_list rfl rfl rfl zd_X2_list ⟨Nat.le_of_ble_eq_true rfl, Nat.le_of_ble_eq_true rfl⟩) ⟨ax_blind (fun _ _ _ _ hq => va_Nw.same rfl rfl (hq)), zr_2 hKc hPc (q0 := 0) rfl, ax_pre hPc hKc hDc (fun _ hW => va_Nw.warmM hW hE0)⟩ rfl rfl hl.1 rfl (lv_room (Nat.le_of_ble_eq_true rfl)) dX7_fits_21 ⟨Nat.le_of_ble_eq_true rfl, Nat.le_of_ble_eq_true rfl⟩) hS (fun q _ h => hFc q h) hFc (fun u t H locs ht hvm hw => zx_3 (fun v21na0_0 v21na0_5 v21nfa0_3 => zy_4 (fun bv21na0_0 bv21na0_5 bv21nfa0_3 hraw21_0 hB hz1 hk1 hS1 => zo hB ht hS1 (fun hP1 hK1 hD1 hS => ?_))))
    refine zc_backc (w := [(a0, .inr (7, [a0g_0, a0g_1, a0g_2, a0g_3, a0g_4, .ref a0_5, a0g_6, .ref a0_7, .int a0_8, a0g_9, a0g_10])), (a0_7, .inr (0, [.int a0_7_0, .int a0_7_1, a0_7g_2, a0_7g_3, a0_7g_4, a0_7g_5, a0_7g_6, a0_7g_7, a0_7g_8, .int a0_7_9, a0_7g_10, a0_7g_11, .ref a0_7_12, .ref a0_7_13, a0_7g_14])), (a0_5, .inr (2, [.int v21na0_0, a0_5g_1, a0_5g_2, .ref a0_5_3, a0_5g_4, .int v21na0_5, a0_5g_6])), (a0_5_3, .inl (ka0_5_3, 729, .inl (v21nfa0_3))), (a0_7_13, .inl (ka0_7_13, 6, .inl (fa0_7_13))), (a0_7_12, .inl (ka0_7_12, 6, .inl (fa0_7_12)))]) hP hD hCc hk1 hFc hP1 hD1 [.inl 0, .inr 1, .inr 0, .inr 2, .inr 3, .inr 4] (by decide +kernel) rfl (fun hP hD => ?_)
    have hc21 : Ff_X2_list a0_5_0.toInt a0_5_5.toInt a0_7_0.toInt a0_7_1.toInt a0_7_9.toInt (fl_A fa0_5_3) (fl_A fa0_7_13) (fl_A fa0_7_12) = (v21na0_0.toInt, v21na0_5.toInt, (fl_A v21nfa0_3)) := hraw21_0
    have hF0 := hF0.trans (fl_c3_eq hc21)
    refine lv_aload_n hx hb dX7_fits_24 rfl (lv_at hl 0 rfl) ?_
    refine lv_aload_n hx hb dX7_fits_25 rfl (lv_at hl 0 rfl) ?_
    refine va_get (D := (dC, dI)) (ci := 7) (v := .ref a0_5) (C := RX7) (T := TX7) (N := 11) hx hb hts zi_X7_fits_7 hown hK hP 0 rfl rfl 5 (by decide) (hts (.fieldLink RX7 43 "WaxTurns" "laws" "LWaxTurns$Laws;") (zm_X7_fits_r1 (List.mem_of_getElem? (i := 0) rfl))) (fun _ h9 => h9) rfl dX7_fits_26 ?_
    refine va_get (D := (dC, dI)) (ci := 2) (v := .int v21na0_0) (C := RX2) (T := TX2) (N := 7) hx hb hts zi_X7_fits_2 hown hK hP 2 rfl rfl 0 (by decide) (hts (.fieldLink RX7 263 "WaxTurns$Laws" "fitCount" "I") (zm_X7_fits_r1 (List.mem_of_getElem? (i := 2) rfl))) (fun _ h9 => h9) rfl dX7_fits_29 ?_
    refine va_calli (va_runV (As := [.int v21na0_0]) (rest := []) ⟨hx, hb, hml, hown, hts⟩ (f_X7_answered l dC dI H.size a0 v21na0_0 a0g_0 a0g_1 a0g_2 a0g_3 a0g_4 (.ref a0_5) a0g_6 (.ref a0_7) a0g_9 a0g_10 a0_8 ) (cwV 1 hts gX7_fits_X7_answered rfl rfl rfl zd_X7_answered ⟨Nat.le_of_ble_eq_true rfl, Nat.le_of_ble_eq_true rfl⟩) ⟨ax_blind (fun _ _ _ _ _ => trivial), zr_7 (zp_K hK) (zp_P1 hP) (q0 := 0) rfl, ax_pre (zp_P1 hP) (zp_K hK) (zp_D1 hD) (fun _ _ => trivial)⟩ rfl rfl hl.1 rfl (lv_room (Nat.le_of_ble_eq_true rfl)) dX7_fits_32 ⟨Nat.le_of_ble_eq_true rfl, Nat.le_of_ble_eq_true rfl⟩) hS (fun q _ h => zp_F1 hD hS hA q h) (zp_F1 hD hS hA) (fun r32 u t H locs ht hvm hw => zx_1 (fun v32na0_8 => zy_1 (fun hraw32_0 hB hz1 hk1 hS1 => zo1 hB ht hP hD hk1 (zp_F1 hD hS hA) hS1 (fun hP hK1 hD hS => ?_))))
    obtain ⟨hw, hfr32⟩ := hw
    have hc32 : Ff_X7_answered v21na0_0.toInt = (r32.toInt, v32na0_8.toInt) := Prod.ext hfr32.symm hraw32_0
    have hF0 := hF0.trans (fl_c2_eq hc32)
    have hw : r32 = v21na0_0 := hw
    have hw := hw.symm
    subst hw
    have hFe : FX = (v21na0_0.toInt, v32na0_8.toInt, v21na0_0.toInt, v21na0_5.toInt, (fl_A v21nfa0_3)) := hF0
    exact W.iret (v := v21na0_0) hx hb hr (fun t ht hW => ⟨⟨v21na0_0, (), rfl, ⟨⟨(Int.le_trans zq69 bv21na0_0.1), bv21na0_0.2⟩, (congrArg Prod.fst hFe).symm⟩, v32na0_8, v21na0_0, v21na0_5, v21nfa0_3, ⟨bv21na0_0.1, bv21na0_0.2⟩, ⟨bv21na0_5.1, bv21na0_5.2⟩, bv21nfa0_3, (congrArg Prod.snd hFe), by rw [ht]; exact hP, va_K.moved hW.alike hK, hD⟩, hS.F ht⟩) hS.2.2 dX7_fits_35
  · obtain ⟨hw, h1_0, h1_1⟩ := hw
    subst hw
    have l1k1_a0_7_0 : (0 : Int) ≤ a0_7_0.toInt := ba0_7_0_l
    have u1k1_a0_7_0 : a0_7_0.toInt ≤ (0 : Int) := h1_1
    have hF0 := hF0.trans (if_neg (by decide))
    refine lv_if_ne (tgt := 13) hx hb dX7_fits_4 (by decide) (fun c4 => absurd (by decide +kernel) c4) (fun _ => ?_)
    refine lv_aload_n hx hb dX7_fits_7 rfl (lv_at hl 0 rfl) ?_
    refine lv_iconst (v := 1) hx hb dX7_fits_8 zk_iconst_1 ?_
    refine va_calli (va_runV (As := [.int 1]) (rest := []) ⟨hx, hb, hml, hown, hts⟩ (f_X7_refused l dC dI H.size a0 1 a0g_0 a0g_1 a0g_2 a0g_3 a0g_4 (.ref a0_5) a0g_6 (.ref a0_7) a0g_9 a0g_10 a0_8 ) (cwV 1 hts gX7_fits_X7_refused rfl rfl rfl zd_X7_refused ⟨Nat.le_of_ble_eq_true rfl, Nat.le_of_ble_eq_true rfl⟩) ⟨ax_blind (fun _ _ _ _ _ => trivial), zr_7 (zp_K hK) (zp_P1 hP) (q0 := 0) rfl, ax_pre (zp_P1 hP) (zp_K hK) (zp_D1 hD) (fun _ _ => trivial)⟩ rfl rfl hl.1 rfl (lv_room (Nat.le_of_ble_eq_true rfl)) dX7_fits_9 ⟨Nat.le_of_ble_eq_true rfl, Nat.le_of_ble_eq_true rfl⟩) hS (fun q _ h => zp_F1 hD hS hA q h) (zp_F1 hD hS hA) (fun r9 u t H locs ht hvm hw => zx_1 (fun v9na0_8 => zy_1 (fun hraw9_0 hB hz1 hk1 hS1 => zo1 hB ht hP hD hk1 (zp_F1 hD hS hA) hS1 (fun hP hK1 hD hS => ?_))))
    obtain ⟨hw, hfr9⟩ := hw
    rw [show (1 : Int32).toInt = 1 from by decide] at hfr9 hraw9_0
    have hc9 : Ff_X7_refused 1 = (r9.toInt, v9na0_8.toInt) := Prod.ext hfr9.symm hraw9_0
    have hF0 := hF0.trans (fl_c2_eq hc9)
    have hw : r9 = (-1) := hw
    have hw := hw.symm
    subst hw
    have hFe : FX = ((-1), v9na0_8.toInt, a0_5_0.toInt, a0_5_5.toInt, (fl_A fa0_5_3)) := hF0
    exact W.iret (v := (-1)) hx hb hr (fun t ht hW => ⟨⟨(-1), (), rfl, ⟨⟨zq70, (Int.le_trans zq71 zq95)⟩, (congrArg Prod.fst hFe).symm⟩, v9na0_8, a0_5_0, a0_5_5, fa0_5_3, ⟨ba0_5_0_l, ba0_5_0_u⟩, ⟨ba0_5_5_l, ba0_5_5_u⟩, bfa0_5_3, (congrArg Prod.snd hFe), by rw [ht]; exact hP, va_K.moved hW.alike hK, hD⟩, hS.F ht⟩) hS.2.2 dX7_fits_12

set_option maxHeartbeats 4000000 in
set_option maxRecDepth 100000 in
theorem f_X7_fitAt (l : Launch) (dC : Nat → ClassId) (dI : Nat → Nat → Nat) (sz : Nat) (a0 : Nat) (a1 : Int32) (a0g_0 a0g_1 a0g_2 a0g_3 a0g_4 a0g_6 a0g_9 a0g_10 : Value) (a0_5 : Nat) (a0_7 : Nat) (a0_8 : Int32) (a0_7_0 : Int32) (a0_7_1 : Int32) (a0_7g_2 a0_7g_3 a0_7g_4 a0_7g_5 a0_7g_6 a0_7g_7 a0_7g_8 a0_7g_10 a0_7g_11 a0_7g_14 : Value) (a0_7_9 : Int32) (a0_7_12 : Nat) (a0_7_13 : Nat) (a0_5_0 : Int32) (a0_5g_1 a0_5g_2 a0_5g_4 a0_5g_6 : Value) (a0_5_3 : Nat) (a0_5_5 : Int32) (ka0_5_3 : ClassId) (fa0_5_3 : Nat → Int32) (ka0_7_13 : ClassId) (fa0_7_13 : Nat → Int32) (ka0_7_12 : ClassId) (fa0_7_12 : Nat → Int32) (ba0_7_0_l : (0 : Int) ≤ a0_7_0.toInt) (ba0_7_0_u : a0_7_0.toInt ≤ (9 : Int)) (ba0_7_9_l : (0 : Int) ≤ a0_7_9.toInt) (ba0_7_9_u : a0_7_9.toInt ≤ (6 : Int)) (ba0_5_0_l : (0 : Int) ≤ a0_5_0.toInt) (ba0_5_0_u : a0_5_0.toInt ≤ (729 : Int)) (ba0_5_5_l : (0 : Int) ≤ a0_5_5.toInt) (ba0_5_5_u : a0_5_5.toInt ≤ (1 : Int)) (bfa0_5_3 : (∀ k, (0 : Int) ≤ (fa0_5_3 k).toInt ∧ (fa0_5_3 k).toInt ≤ 888 ∧ (fa0_5_3 k).toInt % 10 ≤ 8)) (bfa0_7_13 : (∀ k, (0 : Int) ≤ (fa0_7_13 k).toInt ∧ (fa0_7_13 k).toInt ≤ 999)) : zm l yX7_fitAt wsX7_fitAt ({ frames := 4, cells := 0, slots := 0, locals := 98 }) [.ref a0, .int a1] dC dI sz [(a0, .inr (7, [a0g_0, a0g_1, a0g_2, a0g_3, a0g_4, .ref a0_5, a0g_6, .ref a0_7, .int a0_8, a0g_9, a0g_10])), (a0_7, .inr (0, [.int a0_7_0, .int a0_7_1, a0_7g_2, a0_7g_3, a0_7g_4, a0_7g_5, a0_7g_6, a0_7g_7, a0_7g_8, .int a0_7_9, a0_7g_10, a0_7g_11, .ref a0_7_12, .ref a0_7_13, a0_7g_14])), (a0_5, .inr (2, [.int a0_5_0, a0_5g_1, a0_5g_2, .ref a0_5_3, a0_5g_4, .int a0_5_5, a0_5g_6])), (a0_5_3, .inl (ka0_5_3, 729, .inl (fa0_5_3))), (a0_7_13, .inl (ka0_7_13, 6, .inl (fa0_7_13))), (a0_7_12, .inl (ka0_7_12, 6, .inl (fa0_7_12)))] [(ka0_5_3, .int), (ka0_7_13, .int), (ka0_7_12, .int)] (fun A U => va_Nw (.methodLinkNest RX0 72 yX7_laterTurn RX7) U) (fun A => va_Qi (fun (r : Int32) (_ : Unit) => ((-1 : Int) ≤ r.toInt ∧ r.toInt ≤ (888 : Int)) ∧ r.toInt = (Ff_X7_fitAt a1.toInt a0_7_0.toInt a0_7_1.toInt a0_7_9.toInt a0_5_0.toInt a0_5_5.toInt (fl_A fa0_5_3) (fl_A fa0_7_13) (fl_A fa0_7_12)).1) (fun (_ : Unit) (t : State) => ∃ na0_8 : Int32, ∃ na0_5_0 : Int32, ∃ na0_5_5 : Int32, ∃ nfa0_5_3 : Nat → Int32, ((0 : Int) ≤ na0_5_0.toInt ∧ na0_5_0.toInt ≤ 729) ∧ ((0 : Int) ≤ na0_5_5.toInt ∧ na0_5_5.toInt ≤ 1) ∧ (∀ k, (0 : Int) ≤ (nfa0_5_3 k).toInt ∧ (nfa0_5_3 k).toInt ≤ 888 ∧ (nfa0_5_3 k).toInt % 10 ≤ 8) ∧ ((Ff_X7_fitAt a1.toInt a0_7_0.toInt a0_7_1.toInt a0_7_9.toInt a0_5_0.toInt a0_5_5.toInt (fl_A fa0_5_3) (fl_A fa0_7_13) (fl_A fa0_7_12)).2 = (na0_8.toInt, na0_5_0.toInt, na0_5_5.toInt, (fl_A nfa0_5_3))) ∧ ax_B dC dI A [(a0, .inr (7, [a0g_0, a0g_1, a0g_2, a0g_3, a0g_4, .ref a0_5, a0g_6, .ref a0_7, .int na0_8, a0g_9, a0g_10])), (a0_7, .inr (0, [.int a0_7_0, .int a0_7_1, a0_7g_2, a0_7g_3, a0_7g_4, a0_7g_5, a0_7g_6, a0_7g_7, a0_7g_8, .int a0_7_9, a0_7g_10, a0_7g_11, .ref a0_7_12, .ref a0_7_13, a0_7g_14])), (a0_5, .inr (2, [.int na0_5_0, a0_5g_1, a0_5g_2, .ref a0_5_3, a0_5g_4, .int na0_5_5, a0_5g_6])), (a0_5_3, .inl (ka0_5_3, 729, .inl (nfa0_5_3))), (a0_7_13, .inl (ka0_7_13, 6, .inl (fa0_7_13))), (a0_7_12, .inl (ka0_7_12, 6, .inl (fa0_7_12)))] [(ka0_5_3, .int), (ka0_7_13, .int), (ka0_7_12, .int)] t) A) := by
  refine zh (cc := cX7_fitAt) (maxL := 2) (ret := (some .int)) zn_RX7 rfl (Nat.le_of_ble_eq_true rfl) (fun p e s m below meth c A ls hx hb hml hr hts (hown : s.vm.findClass RX7 = some m.cls) hlocks hA hS hP hK hD hE (hl : lv_has ls 2 [(0, .ref a0), (1, .int a1)]) => ?_)
  have hE0 := hE
  generalize hFX : Ff_X7_fitAt a1.toInt a0_7_0.toInt a0_7_1.toInt a0_7_9.toInt a0_5_0.toInt a0_5_5.toInt (fl_A fa0_5_3) (fl_A fa0_7_13) (fl_A fa0_7_12) = FX at ⊢
  have hF0 := hFX.symm.trans (Ff_X7_fitAt.eq_1 a1.toInt a0_7_0.toInt a0_7_1.toInt a0_7_9.toInt a0_5_0.toInt a0_5_5.toInt (fl_A fa0_5_3) (fl_A fa0_7_13) (fl_A fa0_7_12))
  refine lv_aload_n hx hb dX7_fitAt_0 rfl (lv_at hl 0 rfl) ?_
  refine va_calli (va_runV (As := []) (rest := []) ⟨hx, hb, hml, hown, hts⟩ (f_X7_hasGallery l dC dI s.heap.size a0 a0g_0 a0g_1 a0g_2 a0g_3 a0g_4 (.ref a0_5) a0g_6 (.int a0_8) a0g_9 a0g_10 a0_7 a0_7_0 (.int a0_7_1) a0_7g_2 a0_7g_3 a0_7g_4 a0_7g_5 a0_7g_6 a0_7g_7 a0_7g_8 (.int a0_7_9) a0_7g_10 a0_7g_11 (.ref a0_7_12) (.ref a0_7_13) a0_7g_14 ba0_7_0_l ba0_7_0_u) (cwV 0 hts gX7_fitAt_X7_hasGallery rfl rfl rfl zd_X7_hasGallery ⟨Nat.le_of_ble_eq_true rfl, Nat.le_of_ble_eq_true rfl⟩) ⟨ax_blind (fun _ _ _ _ _ => trivial), zr_7 (zp_K hK) (zp_P2 hP) (q0 := 0) rfl, ax_pre (zp_P2 hP) (zp_K hK) (zp_D2 hD) (fun _ _ => trivial)⟩ rfl rfl hl.1 rfl (lv_room (Nat.le_of_ble_eq_true rfl)) dX7_fitAt_1 ⟨Nat.le_of_ble_eq_true rfl, Nat.le_of_ble_eq_true rfl⟩) hS (fun q _ h => zp_F2 hD hS hA q h) (zp_F2 hD hS hA) (fun r1 u t H locs ht hvm hw hB hz1 hk1 hS1 => zo2 hB ht hP hD hk1 (zp_F2 hD hS hA) hS1 (fun hP hK1 hD hS => ?_))
  obtain ⟨hw, hfr1⟩ := hw
  have hc1 : Ff_X7_hasGallery a0_7_0.toInt = r1.toInt := hfr1.symm
  have hF0 := hF0.trans (fl_lt_eq hc1.symm)
  rcases hw with hw | hw
  · obtain ⟨hw, h1_0, h1_1⟩ := hw
    subst hw
    have l1k0_a0_7_0 : (1 : Int) ≤ a0_7_0.toInt := h1_0
    have u1k0_a0_7_0 : a0_7_0.toInt ≤ (9 : Int) := ba0_7_0_u
    have hF0 := hF0.trans (if_pos (by decide))
    refine lv_if_ne (tgt := 13) hx hb dX7_fitAt_4 (by decide) (fun _ => ?_) (fun c4 => absurd c4 (by decide +kernel))
    refine lv_aload_n hx hb dX7_fitAt_13 rfl (lv_at hl 0 rfl) ?_
    refine va_get (D := (dC, dI)) (ci := 7) (v := .ref a0_5) (C := RX7) (T := TX7) (N := 11) hx hb hts zi_X7_fitAt_7 hown hK hP 0 rfl rfl 5 (by decide) (hts (.fieldLink RX7 43 "WaxTurns" "laws" "LWaxTurns$Laws;") (zm_X7_fitAt_r1 (List.mem_of_getElem? (i := 0) rfl))) (fun _ h9 => h9) rfl dX7_fitAt_14 ?_
    refine lv_aload_n hx hb dX7_fitAt_17 rfl (lv_at hl 0 rfl) ?_
    refine va_get (D := (dC, dI)) (ci := 7) (v := .ref a0_7) (C := RX7) (T := TX7) (N := 11) hx hb hts zi_X7_fitAt_7 hown hK hP 0 rfl rfl 7 (by decide) (hts (.fieldLink RX7 57 "WaxTurns" "hall" "LWaxTurns$Hall;") (zm_X7_fitAt_r1 (List.mem_of_getElem? (i := 1) rfl))) (fun _ h9 => h9) rfl dX7_fitAt_18 ?_
    refine zc_cutc (wc := [(a0_5, .inr (2, [.int a0_5_0, a0_5g_1, a0_5g_2, .ref a0_5_3, a0_5g_4, .int a0_5_5, a0_5g_6])), (a0_7, .inr (0, [.int a0_7_0, .int a0_7_1, a0_7g_2, a0_7g_3, a0_7g_4, a0_7g_5, a0_7g_6, a0_7g_7, a0_7g_8, .int a0_7_9, a0_7g_10, a0_7g_11, .ref a0_7_12, .ref a0_7_13, a0_7g_14])), (a0_5_3, .inl (ka0_5_3, 729, .inl (fa0_5_3))), (a0_7_13, .inl (ka0_7_13, 6, .inl (fa0_7_13))), (a0_7_12, .inl (ka0_7_12, 6, .inl (fa0_7_12)))]) hP hD hS hA [2, 1, 3, 4, 5] (by decide +kernel) rfl (fun hPc hDc hFc hCc => ?_)
    have hKc := hK.sub (tys' := [(ka0_5_3, .int), (ka0_7_13, .int), (ka0_7_12, .int)]) [0, 1, 2] rfl
    refine va_callv (va_runV (As := [.ref a0_7]) (rest := []) ⟨hx, hb, hml, hown, hts⟩ (f_X2_list l dC dI H.size a0_5 a0_7 a0_5_0 a0_5g_1 a0_5g_2 a0_5g_4 a0_5g_6 a0_5_3 a0_5_5 a0_7_0 a0_7_1 a0_7g_2 a0_7g_3 a0_7g_4 a0_7g_5 a0_7g_6 a0_7g_7 a0_7g_8 a0_7g_10 a0_7g_11 a0_7g_14 a0_7_9 a0_7_12 a0_7_13 ka0_5_3 fa0_5_3 ka0_7_13 fa0_7_13 ka0_7_12 fa0_7_12 ba0_5_0_l ba0_5_0_u ba0_5_5_l ba0_5_5_u (Int.le_trans zq4 l1k0_a0_7_0) u1k0_a0_7_0 ba0_7_9_l ba0_7_9_u bfa0_5_3 bfa0_7_13) (cwV 1 hts gX7_fitAt_X2_list rfl rfl rfl zd_X2_list ⟨Nat.le_of_ble_eq_true rfl, Nat.le_of_ble_eq_true rfl⟩) ⟨ax_blind (fun _ _ _ _ hq => va_Nw.same rfl rfl (hq)), zr_2 hKc hPc (q0 := 0) rfl, ax_pre hPc hKc hDc (fun _ hW => va_Nw.warmM hW hE0)⟩ rfl rfl hl.1 rfl (lv_room (Nat.le_of_ble_eq_true rfl)) dX7_fitAt_21 ⟨Nat.le_of_ble_eq_true rfl, Nat.le_of_ble_eq_true rfl⟩) hS (fun q _ h => hFc q h) hFc (fun u t H locs ht hvm hw => zx_3 (fun v21na0_0 v21na0_5 v21nfa0_3 => zy_4 (fun bv21na0_0 bv21na0_5 bv21nfa0_3 hraw21_0 hB hz1 hk1 hS1 => zo hB ht hS1 (fun hP1 hK1 hD1 hS => ?_))))
    refine zc_backc (w := [(a0, .inr (7, [a0g_0, a0g_1, a0g_2, a0g_3, a0g_4, .ref a0_5, a0g_6, .ref a0_7, .int a0_8, a0g_9, a0g_10])), (a0_7, .inr (0, [.int a0_7_0, .int a0_7_1, a0_7g_2, a0_7g_3, a0_7g_4, a0_7g_5, a0_7g_6, a0_7g_7, a0_7g_8, .int a0_7_9, a0_7g_10, a0_7g_11, .ref a0_7_12, .ref a0_7_13, a0_7g_14])), (a0_5, .inr (2, [.int v21na0_0, a0_5g_1, a0_5g_2, .ref a0_5_3, a0_5g_4, .int v21na0_5, a0_5g_6])), (a0_5_3, .inl (ka0_5_3, 729, .inl (v21nfa0_3))), (a0_7_13, .inl (ka0_7_13, 6, .inl (fa0_7_13))), (a0_7_12, .inl (ka0_7_12, 6, .inl (fa0_7_12)))]) hP hD hCc hk1 hFc hP1 hD1 [.inl 0, .inr 1, .inr 0, .inr 2, .inr 3, .inr 4] (by decide +kernel) rfl (fun hP hD => ?_)
    have hc21 : Ff_X2_list a0_5_0.toInt a0_5_5.toInt a0_7_0.toInt a0_7_1.toInt a0_7_9.toInt (fl_A fa0_5_3) (fl_A fa0_7_13) (fl_A fa0_7_12) = (v21na0_0.toInt, v21na0_5.toInt, (fl_A v21nfa0_3)) := hraw21_0
    have hF0 := hF0.trans (fl_c3_eq hc21)
    refine lv_iload_n hx hb dX7_fitAt_24 rfl (lv_at hl 1 rfl) ?_
    refine lv_iconst (v := 0) hx hb dX7_fitAt_25 zk_iconst_0 ?_
    refine lv_aload_n hx hb dX7_fitAt_26 rfl (lv_at hl 0 rfl) ?_
    refine va_get (D := (dC, dI)) (ci := 7) (v := .ref a0_5) (C := RX7) (T := TX7) (N := 11) hx hb hts zi_X7_fitAt_7 hown hK hP 0 rfl rfl 5 (by decide) (hts (.fieldLink RX7 43 "WaxTurns" "laws" "LWaxTurns$Laws;") (zm_X7_fitAt_r1 (List.mem_of_getElem? (i := 0) rfl))) (fun _ h9 => h9) rfl dX7_fitAt_27 ?_
    refine va_get (D := (dC, dI)) (ci := 2) (v := .int v21na0_0) (C := RX2) (T := TX2) (N := 7) hx hb hts zi_X7_fitAt_2 hown hK hP 2 rfl rfl 0 (by decide) (hts (.fieldLink RX7 263 "WaxTurns$Laws" "fitCount" "I") (zm_X7_fitAt_r1 (List.mem_of_getElem? (i := 2) rfl))) (fun _ h9 => h9) rfl dX7_fitAt_30 ?_
    refine lv_iconst (v := 1) hx hb dX7_fitAt_33 zk_iconst_1 ?_
    refine lv_isub hx hb dX7_fitAt_34 ?_
    refine lv_topi (fun x34 ex34 => ?_)
    have qx34 : x34.toInt = v21na0_0.toInt - (1 : Int32).toInt := ai_sub ex34 ⟨bv21na0_0.1, bv21na0_0.2⟩ ⟨zq1, zq0⟩ (by decide) (by decide)
    have bx34 : (-1 : Int) ≤ x34.toInt ∧ x34.toInt ≤ 728 := ⟨by rw [qx34]; exact Int.sub_le_sub bv21na0_0.1 zq0, by rw [qx34]; exact Int.sub_le_sub bv21na0_0.2 zq1⟩
    have wx34 : x34.toInt = v21na0_0.toInt - 1 := qx34
    have hF0 := hF0.trans (fl_lt_eq (show x34.toInt = v21na0_0.toInt - 1 from qx34))
    refine va_calli (va_runS (As := [.int a1, .int 0, .int x34]) (rest := []) ⟨hx, hb, hml, hown, hts⟩ (f_X7_within l dC dI H.size a1 0 x34 ) (va_cwS 3 hts gX7_fitAt_X7_within rfl rfl rfl zd_X7_within.2 ⟨Nat.le_of_ble_eq_true rfl, Nat.le_of_ble_eq_true rfl⟩) ⟨ax_blind (fun _ _ _ _ _ => trivial), ax_pre (zp_P0 hP) (zp_K hK) (zp_D0 hD) (fun _ _ => trivial)⟩ rfl rfl hl.1 rfl (lv_room (Nat.le_of_ble_eq_true rfl)) dX7_fitAt_35 ⟨Nat.le_of_ble_eq_true rfl, Nat.le_of_ble_eq_true rfl⟩) hS (fun q _ h => zp_F0 hD hS hA q h) (zp_F0 hD hS hA) (fun r35 u t H locs ht hvm hw hB hz1 hk1 hS1 => zo0 hB ht hP hD hk1 (zp_F0 hD hS hA) hS1 (fun hP hK1 hD hS => ?_))
    obtain ⟨hw, hfr35⟩ := hw
    rw [show (0 : Int32).toInt = 0 from by decide] at hfr35
    have hc35 : Ff_X7_within a1.toInt 0 x34.toInt = r35.toInt := hfr35.symm
    have hF0 := hF0.trans (fl_lt_eq hc35.symm)
    rcases hw with hw | hw
    · obtain ⟨hw, h35⟩ := hw
      subst hw
      have l35k0_a1 : (0 : Int) ≤ a1.toInt := Int.le_trans zq5 h35.1
      have u35k0_a1 : a1.toInt ≤ (728 : Int) := Int.le_trans h35.2 bx34.2
      have l35k0_x34 : (0 : Int) ≤ x34.toInt := Int.le_trans zq5 (Int.le_trans h35.1 h35.2)
      have l35k0_v21na0_0 : (1 : Int) ≤ v21na0_0.toInt := by have h1 := wx34; have h2 := l35k0_x34; omega
      have hF0 := hF0.trans (if_pos (by decide))
      refine lv_if_ne (tgt := 47) hx hb dX7_fitAt_38 (by decide) (fun _ => ?_) (fun c38 => absurd c38 (by decide +kernel))
      refine lv_aload_n hx hb dX7_fitAt_47 rfl (lv_at hl 0 rfl) ?_
      refine lv_aload_n hx hb dX7_fitAt_48 rfl (lv_at hl 0 rfl) ?_
      refine va_get (D := (dC, dI)) (ci := 7) (v := .ref a0_5) (C := RX7) (T := TX7) (N := 11) hx hb hts zi_X7_fitAt_7 hown hK hP 0 rfl rfl 5 (by decide) (hts (.fieldLink RX7 43 "WaxTurns" "laws" "LWaxTurns$Laws;") (zm_X7_fitAt_r1 (List.mem_of_getElem? (i := 0) rfl))) (fun _ h9 => h9) rfl dX7_fitAt_49 ?_
      refine va_get (D := (dC, dI)) (ci := 2) (v := .ref a0_5_3) (C := RX2) (T := TX2) (N := 7) hx hb hts zi_X7_fitAt_2 hown hK hP 2 rfl rfl 3 (by decide) (hts (.fieldLink RX7 266 "WaxTurns$Laws" "fitting" "[I") (zm_X7_fitAt_r1 (List.mem_of_getElem? (i := 3) rfl))) (fun _ h9 => h9) rfl dX7_fitAt_52 ?_
      refine lv_iload_n hx hb dX7_fitAt_55 rfl (lv_at hl 1 rfl) ?_
      refine va_iald hx hb hK hP 3 0 rfl rfl (ai_in l35k0_a1 u35k0_a1 (by decide) (by decide)) dX7_fitAt_56 ?_
      refine lv_topi (fun x56 ex56 => ?_)
      have bx56 : (0 : Int) ≤ x56.toInt ∧ x56.toInt ≤ 888 ∧ x56.toInt % 10 ≤ 8 := by rw [ex56]; exact bv21nfa0_3 _
      have fqx56 := congrArg Int32.toInt ex56
      have hF0 := hF0.trans (fl_lt_eq (show x56.toInt = (fl_A v21nfa0_3) (a1.toInt.toNat) from fqx56))
      refine va_calli (va_runV (As := [.int x56]) (rest := []) ⟨hx, hb, hml, hown, hts⟩ (f_X7_answered l dC dI H.size a0 x56 a0g_0 a0g_1 a0g_2 a0g_3 a0g_4 (.ref a0_5) a0g_6 (.ref a0_7) a0g_9 a0g_10 a0_8 ) (cwV 1 hts gX7_fitAt_X7_answered rfl rfl rfl zd_X7_answered ⟨Nat.le_of_ble_eq_true rfl, Nat.le_of_ble_eq_true rfl⟩) ⟨ax_blind (fun _ _ _ _ _ => trivial), zr_7 (zp_K hK) (zp_P1 hP) (q0 := 0) rfl, ax_pre (zp_P1 hP) (zp_K hK) (zp_D1 hD) (fun _ _ => trivial)⟩ rfl rfl hl.1 rfl (lv_room (Nat.le_of_ble_eq_true rfl)) dX7_fitAt_57 ⟨Nat.le_of_ble_eq_true rfl, Nat.le_of_ble_eq_true rfl⟩) hS (fun q _ h => zp_F1 hD hS hA q h) (zp_F1 hD hS hA) (fun r57 u t H locs ht hvm hw => zx_1 (fun v57na0_8 => zy_1 (fun hraw57_0 hB hz1 hk1 hS1 => zo1 hB ht hP hD hk1 (zp_F1 hD hS hA) hS1 (fun hP hK1 hD hS => ?_))))
      obtain ⟨hw, hfr57⟩ := hw
      have hc57 : Ff_X7_answered x56.toInt = (r57.toInt, v57na0_8.toInt) := Prod.ext hfr57.symm hraw57_0
      have hF0 := hF0.trans (fl_c2_eq hc57)
      have hw : r57 = x56 := hw
      have hw := hw.symm
      subst hw
      have hFe : FX = (x56.toInt, v57na0_8.toInt, v21na0_0.toInt, v21na0_5.toInt, (fl_A v21nfa0_3)) := hF0
      exact W.iret (v := x56) hx hb hr (fun t ht hW => ⟨⟨x56, (), rfl, ⟨⟨(Int.le_trans zq69 bx56.1), bx56.2.1⟩, (congrArg Prod.fst hFe).symm⟩, v57na0_8, v21na0_0, v21na0_5, v21nfa0_3, ⟨Int.le_trans (by decide) l35k0_v21na0_0, bv21na0_0.2⟩, ⟨bv21na0_5.1, bv21na0_5.2⟩, bv21nfa0_3, (congrArg Prod.snd hFe), by rw [ht]; exact hP, va_K.moved hW.alike hK, hD⟩, hS.F ht⟩) hS.2.2 dX7_fitAt_60
    · obtain ⟨hw, h35⟩ := hw
      subst hw
      have hF0 := hF0.trans (if_neg (by decide))
      refine lv_if_ne (tgt := 47) hx hb dX7_fitAt_38 (by decide) (fun c38 => absurd (by decide +kernel) c38) (fun _ => ?_)
      refine lv_aload_n hx hb dX7_fitAt_41 rfl (lv_at hl 0 rfl) ?_
      refine lv_iconst (v := 1) hx hb dX7_fitAt_42 zk_iconst_1 ?_
      refine va_calli (va_runV (As := [.int 1]) (rest := []) ⟨hx, hb, hml, hown, hts⟩ (f_X7_refused l dC dI H.size a0 1 a0g_0 a0g_1 a0g_2 a0g_3 a0g_4 (.ref a0_5) a0g_6 (.ref a0_7) a0g_9 a0g_10 a0_8 ) (cwV 1 hts gX7_fitAt_X7_refused rfl rfl rfl zd_X7_refused ⟨Nat.le_of_ble_eq_true rfl, Nat.le_of_ble_eq_true rfl⟩) ⟨ax_blind (fun _ _ _ _ _ => trivial), zr_7 (zp_K hK) (zp_P1 hP) (q0 := 0) rfl, ax_pre (zp_P1 hP) (zp_K hK) (zp_D1 hD) (fun _ _ => trivial)⟩ rfl rfl hl.1 rfl (lv_room (Nat.le_of_ble_eq_true rfl)) dX7_fitAt_43 ⟨Nat.le_of_ble_eq_true rfl, Nat.le_of_ble_eq_true rfl⟩) hS (fun q _ h => zp_F1 hD hS hA q h) (zp_F1 hD hS hA) (fun r43 u t H locs ht hvm hw => zx_1 (fun v43na0_8 => zy_1 (fun hraw43_0 hB hz1 hk1 hS1 => zo1 hB ht hP hD hk1 (zp_F1 hD hS hA) hS1 (fun hP hK1 hD hS => ?_))))
      obtain ⟨hw, hfr43⟩ := hw
      rw [show (1 : Int32).toInt = 1 from by decide] at hfr43 hraw43_0
      have hc43 : Ff_X7_refused 1 = (r43.toInt, v43na0_8.toInt) := Prod.ext hfr43.symm hraw43_0
      have hF0 := hF0.trans (fl_c2_eq hc43)
      have hw : r43 = (-1) := hw
      have hw := hw.symm
      subst hw
      have hFe : FX = ((-1), v43na0_8.toInt, v21na0_0.toInt, v21na0_5.toInt, (fl_A v21nfa0_3)) := hF0
      exact W.iret (v := (-1)) hx hb hr (fun t ht hW => ⟨⟨(-1), (), rfl, ⟨⟨zq70, (Int.le_trans zq71 zq96)⟩, (congrArg Prod.fst hFe).symm⟩, v43na0_8, v21na0_0, v21na0_5, v21nfa0_3, ⟨bv21na0_0.1, bv21na0_0.2⟩, ⟨bv21na0_5.1, bv21na0_5.2⟩, bv21nfa0_3, (congrArg Prod.snd hFe), by rw [ht]; exact hP, va_K.moved hW.alike hK, hD⟩, hS.F ht⟩) hS.2.2 dX7_fitAt_46
  · obtain ⟨hw, h1_0, h1_1⟩ := hw
    subst hw
    have l1k1_a0_7_0 : (0 : Int) ≤ a0_7_0.toInt := ba0_7_0_l
    have u1k1_a0_7_0 : a0_7_0.toInt ≤ (0 : Int) := h1_1
    have hF0 := hF0.trans (if_neg (by decide))
    refine lv_if_ne (tgt := 13) hx hb dX7_fitAt_4 (by decide) (fun c4 => absurd (by decide +kernel) c4) (fun _ => ?_)
    refine lv_aload_n hx hb dX7_fitAt_7 rfl (lv_at hl 0 rfl) ?_
    refine lv_iconst (v := 1) hx hb dX7_fitAt_8 zk_iconst_1 ?_
    refine va_calli (va_runV (As := [.int 1]) (rest := []) ⟨hx, hb, hml, hown, hts⟩ (f_X7_refused l dC dI H.size a0 1 a0g_0 a0g_1 a0g_2 a0g_3 a0g_4 (.ref a0_5) a0g_6 (.ref a0_7) a0g_9 a0g_10 a0_8 ) (cwV 1 hts gX7_fitAt_X7_refused rfl rfl rfl zd_X7_refused ⟨Nat.le_of_ble_eq_true rfl, Nat.le_of_ble_eq_true rfl⟩) ⟨ax_blind (fun _ _ _ _ _ => trivial), zr_7 (zp_K hK) (zp_P1 hP) (q0 := 0) rfl, ax_pre (zp_P1 hP) (zp_K hK) (zp_D1 hD) (fun _ _ => trivial)⟩ rfl rfl hl.1 rfl (lv_room (Nat.le_of_ble_eq_true rfl)) dX7_fitAt_9 ⟨Nat.le_of_ble_eq_true rfl, Nat.le_of_ble_eq_true rfl⟩) hS (fun q _ h => zp_F1 hD hS hA q h) (zp_F1 hD hS hA) (fun r9 u t H locs ht hvm hw => zx_1 (fun v9na0_8 => zy_1 (fun hraw9_0 hB hz1 hk1 hS1 => zo1 hB ht hP hD hk1 (zp_F1 hD hS hA) hS1 (fun hP hK1 hD hS => ?_))))
    obtain ⟨hw, hfr9⟩ := hw
    rw [show (1 : Int32).toInt = 1 from by decide] at hfr9 hraw9_0
    have hc9 : Ff_X7_refused 1 = (r9.toInt, v9na0_8.toInt) := Prod.ext hfr9.symm hraw9_0
    have hF0 := hF0.trans (fl_c2_eq hc9)
    have hw : r9 = (-1) := hw
    have hw := hw.symm
    subst hw
    have hFe : FX = ((-1), v9na0_8.toInt, a0_5_0.toInt, a0_5_5.toInt, (fl_A fa0_5_3)) := hF0
    exact W.iret (v := (-1)) hx hb hr (fun t ht hW => ⟨⟨(-1), (), rfl, ⟨⟨zq70, (Int.le_trans zq71 zq96)⟩, (congrArg Prod.fst hFe).symm⟩, v9na0_8, a0_5_0, a0_5_5, fa0_5_3, ⟨ba0_5_0_l, ba0_5_0_u⟩, ⟨ba0_5_5_l, ba0_5_5_u⟩, bfa0_5_3, (congrArg Prod.snd hFe), by rw [ht]; exact hP, va_K.moved hW.alike hK, hD⟩, hS.F ht⟩) hS.2.2 dX7_fitAt_12
end P314_19_f
section P314_20_f
set_option maxHeartbeats 4000000 in
set_option maxRecDepth 100000 in
theorem f_X7_could (l : Launch) (dC : Nat → ClassId) (dI : Nat → Nat → Nat) (sz : Nat) (a0 : Nat) (a1 : Int32) (a0g_0 a0g_1 a0g_2 a0g_3 a0g_4 a0g_6 a0g_9 a0g_10 : Value) (a0_5 : Nat) (a0_7 : Nat) (a0_8 : Int32) (a0_7_0 : Int32) (a0_7_1 : Int32) (a0_7g_2 a0_7g_3 a0_7g_4 a0_7g_5 a0_7g_6 a0_7g_7 a0_7g_8 a0_7g_10 a0_7g_11 a0_7g_14 : Value) (a0_7_9 : Int32) (a0_7_12 : Nat) (a0_7_13 : Nat) (a0_5_0 : Int32) (a0_5g_1 a0_5g_2 a0_5g_4 a0_5g_6 : Value) (a0_5_3 : Nat) (a0_5_5 : Int32) (ka0_5_3 : ClassId) (fa0_5_3 : Nat → Int32) (ka0_7_13 : ClassId) (fa0_7_13 : Nat → Int32) (ka0_7_12 : ClassId) (fa0_7_12 : Nat → Int32) (ba0_7_0_l : (0 : Int) ≤ a0_7_0.toInt) (ba0_7_0_u : a0_7_0.toInt ≤ (9 : Int)) (ba0_7_9_l : (0 : Int) ≤ a0_7_9.toInt) (ba0_7_9_u : a0_7_9.toInt ≤ (6 : Int)) (ba0_5_0_l : (0 : Int) ≤ a0_5_0.toInt) (ba0_5_0_u : a0_5_0.toInt ≤ (729 : Int)) (ba0_5_5_l : (0 : Int) ≤ a0_5_5.toInt) (ba0_5_5_u : a0_5_5.toInt ≤ (1 : Int)) (bfa0_5_3 : (∀ k, (0 : Int) ≤ (fa0_5_3 k).toInt ∧ (fa0_5_3 k).toInt ≤ 888 ∧ (fa0_5_3 k).toInt % 10 ≤ 8)) (bfa0_7_13 : (∀ k, (0 : Int) ≤ (fa0_7_13 k).toInt ∧ (fa0_7_13 k).toInt ≤ 999)) : zm l yX7_could wsX7_could ({ frames := 4, cells := 0, slots := 0, locals := 98 }) [.ref a0, .int a1] dC dI sz [(a0, .inr (7, [a0g_0, a0g_1, a0g_2, a0g_3, a0g_4, .ref a0_5, a0g_6, .ref a0_7, .int a0_8, a0g_9, a0g_10])), (a0_7, .inr (0, [.int a0_7_0, .int a0_7_1, a0_7g_2, a0_7g_3, a0_7g_4, a0_7g_5, a0_7g_6, a0_7g_7, a0_7g_8, .int a0_7_9, a0_7g_10, a0_7g_11, .ref a0_7_12, .ref a0_7_13, a0_7g_14])), (a0_5, .inr (2, [.int a0_5_0, a0_5g_1, a0_5g_2, .ref a0_5_3, a0_5g_4, .int a0_5_5, a0_5g_6])), (a0_5_3, .inl (ka0_5_3, 729, .inl (fa0_5_3))), (a0_7_13, .inl (ka0_7_13, 6, .inl (fa0_7_13))), (a0_7_12, .inl (ka0_7_12, 6, .inl (fa0_7_12)))] [(ka0_5_3, .int), (ka0_7_13, .int), (ka0_7_12, .int)] (fun A U => va_Nw (.methodLinkNest RX0 72 yX7_laterTurn RX7) U) (fun A => va_Qi (fun (r : Int32) (_ : Unit) => (True) ∧ r.toInt = (Ff_X7_could a1.toInt a0_7_0.toInt a0_7_1.toInt a0_7_9.toInt a0_5_0.toInt a0_5_5.toInt (fl_A fa0_5_3) (fl_A fa0_7_13) (fl_A fa0_7_12)).1) (fun (_ : Unit) (t : State) => ∃ na0_8 : Int32, ∃ na0_5_0 : Int32, ∃ na0_5_5 : Int32, ∃ nfa0_5_3 : Nat → Int32, ((0 : Int) ≤ na0_5_0.toInt ∧ na0_5_0.toInt ≤ 729) ∧ ((0 : Int) ≤ na0_5_5.toInt ∧ na0_5_5.toInt ≤ 1) ∧ (∀ k, (0 : Int) ≤ (nfa0_5_3 k).toInt ∧ (nfa0_5_3 k).toInt ≤ 888 ∧ (nfa0_5_3 k).toInt % 10 ≤ 8) ∧ ((Ff_X7_could a1.toInt a0_7_0.toInt a0_7_1.toInt a0_7_9.toInt a0_5_0.toInt a0_5_5.toInt (fl_A fa0_5_3) (fl_A fa0_7_13) (fl_A fa0_7_12)).2 = (na0_8.toInt, na0_5_0.toInt, na0_5_5.toInt, (fl_A nfa0_5_3))) ∧ ax_B dC dI A [(a0, .inr (7, [a0g_0, a0g_1, a0g_2, a0g_3, a0g_4, .ref a0_5, a0g_6, .ref a0_7, .int na0_8, a0g_9, a0g_10])), (a0_7, .inr (0, [.int a0_7_0, .int a0_7_1, a0_7g_2, a0_7g_3, a0_7g_4, a0_7g_5, a0_7g_6, a0_7g_7, a0_7g_8, .int a0_7_9, a0_7g_10, a0_7g_11, .ref a0_7_12, .ref a0_7_13, a0_7g_14])), (a0_5, .inr (2, [.int na0_5_0, a0_5g_1, a0_5g_2, .ref a0_5_3, a0_5g_4, .int na0_5_5, a0_5g_6])), (a0_5_3, .inl (ka0_5_3, 729, .inl (nfa0_5_3))), (a0_7_13, .inl (ka0_7_13, 6, .inl (fa0_7_13))), (a0_7_12, .inl (ka0_7_12, 6, .inl (fa0_7_12)))] [(ka0_5_3, .int), (ka0_7_13, .int), (ka0_7_12, .int)] t) A) := by
  refine zh (cc := cX7_could) (maxL := 5) (ret := (some .int)) zn_RX7 rfl (Nat.le_of_ble_eq_true rfl) (fun p e s m below meth c A ls hx hb hml hr hts (hown : s.vm.findClass RX7 = some m.cls) hlocks hA hS hP hK hD hE (hl : lv_has ls 5 [(0, .ref a0), (1, .int a1)]) => ?_)
  have hE0 := hE
  generalize hFX : Ff_X7_could a1.toInt a0_7_0.toInt a0_7_1.toInt a0_7_9.toInt a0_5_0.toInt a0_5_5.toInt (fl_A fa0_5_3) (fl_A fa0_7_13) (fl_A fa0_7_12) = FX at ⊢
  have hF0 := hFX.symm.trans (Ff_X7_could.eq_1 a1.toInt a0_7_0.toInt a0_7_1.toInt a0_7_9.toInt a0_5_0.toInt a0_5_5.toInt (fl_A fa0_5_3) (fl_A fa0_7_13) (fl_A fa0_7_12))
  refine ai_open (fun K hK0 => ?_)
  refine (hK0 _ _ _).mpr ?_
  refine lv_aload_n hx hb dX7_could_0 rfl (lv_at hl 0 rfl) ?_
  refine lv_iload_n hx hb dX7_could_1 rfl (lv_at hl 1 rfl) ?_
  refine lv_iconst (v := 0) hx hb dX7_could_2 zk_iconst_0 ?_
  refine lv_sipush (v := 999) hx hb dX7_could_3 zk_sipush_999 ?_
  refine va_calli (va_runV (As := [.int a1, .int 0, .int 999]) (rest := []) ⟨hx, hb, hml, hown, hts⟩ (f_X7_troubleOfNumber l dC dI s.heap.size a0 a1 0 999 a0g_0 a0g_1 a0g_2 a0g_3 a0g_4 (.ref a0_5) a0g_6 (.int a0_8) a0g_9 a0g_10 a0_7 a0_7_0 (.int a0_7_1) a0_7g_2 a0_7g_3 a0_7g_4 a0_7g_5 a0_7g_6 a0_7g_7 a0_7g_8 (.int a0_7_9) a0_7g_10 a0_7g_11 (.ref a0_7_12) (.ref a0_7_13) a0_7g_14 ba0_7_0_l ba0_7_0_u) (cwV 3 hts gX7_could_X7_troubleOfNumber rfl rfl rfl zd_X7_troubleOfNumber ⟨Nat.le_of_ble_eq_true rfl, Nat.le_of_ble_eq_true rfl⟩) ⟨ax_blind (fun _ _ _ _ _ => trivial), zr_7 (zp_K hK) (zp_P2 hP) (q0 := 0) rfl, ax_pre (zp_P2 hP) (zp_K hK) (zp_D2 hD) (fun _ _ => trivial)⟩ rfl rfl hl.1 rfl (lv_room (Nat.le_of_ble_eq_true rfl)) dX7_could_6 ⟨Nat.le_of_ble_eq_true rfl, Nat.le_of_ble_eq_true rfl⟩) hS (fun q _ h => zp_F2 hD hS hA q h) (zp_F2 hD hS hA) (fun r6 u t H locs ht hvm hw hB hz1 hk1 hS1 => zo2 hB ht hP hD hk1 (zp_F2 hD hS hA) hS1 (fun hP hK1 hD hS => ?_))
  obtain ⟨hw, hfr6⟩ := hw
  rw [show (0 : Int32).toInt = 0 from by decide, show (999 : Int32).toInt = 999 from by decide] at hfr6
  have hc6 : Ff_X7_troubleOfNumber a1.toInt 0 999 a0_7_0.toInt = r6.toInt := hfr6.symm
  have hF0 := hF0.trans (fl_lt_eq hc6.symm)
  rcases hw with hw | hw | hw
  · obtain ⟨hw, fh6, h6⟩ := hw
    subst hw
    have l6k0_a0_7_0 : (1 : Int) ≤ a0_7_0.toInt := fh6
    have l6k0_a1 : (0 : Int) ≤ a1.toInt := Int.le_trans zq5 h6.1
    have u6k0_a1 : a1.toInt ≤ (999 : Int) := Int.le_trans h6.2 zq79
    have hF0 := hF0.trans (if_pos (by decide))
    refine lv_istore_n (lv' := [(2, .int 0), (0, .ref a0), (1, .int a1)]) hx hb dX7_could_9 rfl hl (by decide) rfl (fun ls hl => ?_)
    refine lv_iload_n hx hb dX7_could_10 rfl (lv_at hl 0 rfl) ?_
    refine lv_if_eq (tgt := 20) hx hb dX7_could_11 (by decide) (fun _ => ?_) (fun c11 => absurd (by decide +kernel) c11)
    refine lv_aload_n hx hb dX7_could_20 rfl (lv_at hl 1 rfl) ?_
    refine va_get (D := (dC, dI)) (ci := 7) (v := .ref a0_5) (C := RX7) (T := TX7) (N := 11) hx hb hts zi_X7_could_7 hown hK hP 0 rfl rfl 5 (by decide) (hts (.fieldLink RX7 43 "WaxTurns" "laws" "LWaxTurns$Laws;") (zm_X7_could_r1 (List.mem_of_getElem? (i := 0) rfl))) (fun _ h9 => h9) rfl dX7_could_21 ?_
    refine lv_aload_n hx hb dX7_could_24 rfl (lv_at hl 1 rfl) ?_
    refine va_get (D := (dC, dI)) (ci := 7) (v := .ref a0_7) (C := RX7) (T := TX7) (N := 11) hx hb hts zi_X7_could_7 hown hK hP 0 rfl rfl 7 (by decide) (hts (.fieldLink RX7 57 "WaxTurns" "hall" "LWaxTurns$Hall;") (zm_X7_could_r1 (List.mem_of_getElem? (i := 1) rfl))) (fun _ h9 => h9) rfl dX7_could_25 ?_
    refine zc_cutc (wc := [(a0_5, .inr (2, [.int a0_5_0, a0_5g_1, a0_5g_2, .ref a0_5_3, a0_5g_4, .int a0_5_5, a0_5g_6])), (a0_7, .inr (0, [.int a0_7_0, .int a0_7_1, a0_7g_2, a0_7g_3, a0_7g_4, a0_7g_5, a0_7g_6, a0_7g_7, a0_7g_8, .int a0_7_9, a0_7g_10, a0_7g_11, .ref a0_7_12, .ref a0_7_13, a0_7g_14])), (a0_5_3, .inl (ka0_5_3, 729, .inl (fa0_5_3))), (a0_7_13, .inl (ka0_7_13, 6, .inl (fa0_7_13))), (a0_7_12, .inl (ka0_7_12, 6, .inl (fa0_7_12)))]) hP hD hS hA [2, 1, 3, 4, 5] (by decide +kernel) rfl (fun hPc hDc hFc hCc => ?_)
    have hKc := hK.sub (tys' := [(ka0_5_3, .int), (ka0_7_13, .int), (ka0_7_12, .int)]) [0, 1, 2] rfl
    refine va_callv (va_runV (As := [.ref a0_7]) (rest := []) ⟨hx, hb, hml, hown, hts⟩ (f_X2_list l dC dI H.size a0_5 a0_7 a0_5_0 a0_5g_1 a0_5g_2 a0_5g_4 a0_5g_6 a0_5_3 a0_5_5 a0_7_0 a0_7_1 a0_7g_2 a0_7g_3 a0_7g_4 a0_7g_5 a0_7g_6 a0_7g_7 a0_7g_8 a0_7g_10 a0_7g_11 a0_7g_14 a0_7_9 a0_7_12 a0_7_13 ka0_5_3 fa0_5_3 ka0_7_13 fa0_7_13 ka0_7_12 fa0_7_12 ba0_5_0_l ba0_5_0_u ba0_5_5_l ba0_5_5_u (Int.le_trans zq4 l6k0_a0_7_0) ba0_7_0_u ba0_7_9_l ba0_7_9_u bfa0_5_3 bfa0_7_13) (cwV 1 hts gX7_could_X2_list rfl rfl rfl zd_X2_list ⟨Nat.le_of_ble_eq_true rfl, Nat.le_of_ble_eq_true rfl⟩) ⟨ax_blind (fun _ _ _ _ hq => va_Nw.same rfl rfl (hq)), zr_2 hKc hPc (q0 := 0) rfl, ax_pre hPc hKc hDc (fun _ hW => va_Nw.warmM hW hE0)⟩ rfl rfl hl.1 rfl (lv_room (Nat.le_of_ble_eq_true rfl)) dX7_could_28 ⟨Nat.le_of_ble_eq_true rfl, Nat.le_of_ble_eq_true rfl⟩) hS (fun q _ h => hFc q h) hFc (fun u t H locs ht hvm hw => zx_3 (fun v28na0_0 v28na0_5 v28nfa0_3 => zy_4 (fun bv28na0_0 bv28na0_5 bv28nfa0_3 hraw28_0 hB hz1 hk1 hS1 => zo hB ht hS1 (fun hP1 hK1 hD1 hS => ?_))))
    refine zc_backc (w := [(a0, .inr (7, [a0g_0, a0g_1, a0g_2, a0g_3, a0g_4, .ref a0_5, a0g_6, .ref a0_7, .int a0_8, a0g_9, a0g_10])), (a0_7, .inr (0, [.int a0_7_0, .int a0_7_1, a0_7g_2, a0_7g_3, a0_7g_4, a0_7g_5, a0_7g_6, a0_7g_7, a0_7g_8, .int a0_7_9, a0_7g_10, a0_7g_11, .ref a0_7_12, .ref a0_7_13, a0_7g_14])), (a0_5, .inr (2, [.int v28na0_0, a0_5g_1, a0_5g_2, .ref a0_5_3, a0_5g_4, .int v28na0_5, a0_5g_6])), (a0_5_3, .inl (ka0_5_3, 729, .inl (v28nfa0_3))), (a0_7_13, .inl (ka0_7_13, 6, .inl (fa0_7_13))), (a0_7_12, .inl (ka0_7_12, 6, .inl (fa0_7_12)))]) hP hD hCc hk1 hFc hP1 hD1 [.inl 0, .inr 1, .inr 0, .inr 2, .inr 3, .inr 4] (by decide +kernel) rfl (fun hP hD => ?_)
    have hc28 : Ff_X2_list a0_5_0.toInt a0_5_5.toInt a0_7_0.toInt a0_7_1.toInt a0_7_9.toInt (fl_A fa0_5_3) (fl_A fa0_7_13) (fl_A fa0_7_12) = (v28na0_0.toInt, v28na0_5.toInt, (fl_A v28nfa0_3)) := hraw28_0
    have hF0 := hF0.trans (fl_c3_eq hc28)
    refine lv_iconst (v := 0) hx hb dX7_could_31 zk_iconst_0 ?_
    refine lv_istore_n (lv' := [(3, .int 0), (2, .int 0), (0, .ref a0), (1, .int a1)]) hx hb dX7_could_32 rfl hl (by decide) rfl (fun ls hl => ?_)
    refine lv_iconst (v := 0) hx hb dX7_could_33 zk_iconst_0 ?_
    refine lv_istore (lv' := [(4, .int 0), (3, .int 0), (2, .int 0), (0, .ref a0), (1, .int a1)]) hx hb dX7_could_34 hl (by decide) rfl (fun ls hl => ?_)
    have J36 : ∀ (n : Nat) (j36l4 : Int32) (j36l3 : Int32) (H : Heap) (locs : List Loc) (ls : Array Slot), (730 : Int) - j36l4.toInt ≤ (n : Int) → (0 : Int) ≤ j36l4.toInt → j36l4.toInt ≤ (729 : Int) → (FX = fl_wh (fun t9 => Sf_X7_could_36_1 a1.toInt a0_7_0.toInt a0_7_1.toInt v28na0_0.toInt v28na0_5.toInt (fl_A v28nfa0_3) t9.1 t9.2) (0, 0, 0, 0, (fun _ => 0)) n (j36l4.toInt, j36l3.toInt)) → va_P (dC, dI) vwCl [(a0, .inr (7, [a0g_0, a0g_1, a0g_2, a0g_3, a0g_4, .ref a0_5, a0g_6, .ref a0_7, .int a0_8, a0g_9, a0g_10])), (a0_7, .inr (0, [.int a0_7_0, .int a0_7_1, a0_7g_2, a0_7g_3, a0_7g_4, a0_7g_5, a0_7g_6, a0_7g_7, a0_7g_8, .int a0_7_9, a0_7g_10, a0_7g_11, .ref a0_7_12, .ref a0_7_13, a0_7g_14])), (a0_5, .inr (2, [.int v28na0_0, a0_5g_1, a0_5g_2, .ref a0_5_3, a0_5g_4, .int v28na0_5, a0_5g_6])), (a0_5_3, .inl (ka0_5_3, 729, .inl (v28nfa0_3))), (a0_7_13, .inl (ka0_7_13, 6, .inl (fa0_7_13))), (a0_7_12, .inl (ka0_7_12, 6, .inl (fa0_7_12)))] H → va_D A [(a0, .inr (7, [a0g_0, a0g_1, a0g_2, a0g_3, a0g_4, .ref a0_5, a0g_6, .ref a0_7, .int a0_8, a0g_9, a0g_10])), (a0_7, .inr (0, [.int a0_7_0, .int a0_7_1, a0_7g_2, a0_7g_3, a0_7g_4, a0_7g_5, a0_7g_6, a0_7g_7, a0_7g_8, .int a0_7_9, a0_7g_10, a0_7g_11, .ref a0_7_12, .ref a0_7_13, a0_7g_14])), (a0_5, .inr (2, [.int v28na0_0, a0_5g_1, a0_5g_2, .ref a0_5_3, a0_5g_4, .int v28na0_5, a0_5g_6])), (a0_5_3, .inl (ka0_5_3, 729, .inl (v28nfa0_3))), (a0_7_13, .inl (ka0_7_13, 6, .inl (fa0_7_13))), (a0_7_12, .inl (ka0_7_12, 6, .inl (fa0_7_12)))] → va_S A s.heap H locs → lv_has ls 5 [(0, .ref a0), (1, .int a1), (3, .int j36l3), (4, .int j36l4)] → K H locs (F0 m 36 ls []) := by
      intro n
      induction n with
      | zero =>
        intro j36l4 j36l3 H locs ls hm bj36l4_l bj36l4_u hF0 hP hD hS hl
        first | exact zg_0 hm bj36l4_u (by decide) | (have h8 := ai_min j36l4; have h9 := ai_max j36l4; exact absurd hm (by omega))
      | succ n ih36 =>
        intro j36l4 j36l3 H locs ls hm bj36l4_l bj36l4_u hF0 hP hD hS hl
        refine (hK0 _ _ _).mpr ?_
        have hm36 := hm
        obtain ⟨SX36, hSX36⟩ : ∃ q9, Sf_X7_could_36_1 a1.toInt a0_7_0.toInt a0_7_1.toInt v28na0_0.toInt v28na0_5.toInt (fl_A v28nfa0_3) j36l4.toInt j36l3.toInt = q9 := ⟨_, rfl⟩
        have hF1 := hSX36.symm.trans (Sf_X7_could_36_1.eq_1 a1.toInt a0_7_0.toInt a0_7_1.toInt v28na0_0.toInt v28na0_5.toInt (fl_A v28nfa0_3) j36l4.toInt j36l3.toInt)
        refine lv_iload hx hb dX7_could_36 (lv_at hl 3 rfl) ?_
        refine lv_aload_n hx hb dX7_could_38 rfl (lv_at hl 0 rfl) ?_
        refine va_get (D := (dC, dI)) (ci := 7) (v := .ref a0_5) (C := RX7) (T := TX7) (N := 11) hx hb hts zi_X7_could_7 hown hK hP 0 rfl rfl 5 (by decide) (hts (.fieldLink RX7 43 "WaxTurns" "laws" "LWaxTurns$Laws;") (zm_X7_could_r1 (List.mem_of_getElem? (i := 0) rfl))) (fun _ h9 => h9) rfl dX7_could_39 ?_
        refine va_get (D := (dC, dI)) (ci := 2) (v := .int v28na0_0) (C := RX2) (T := TX2) (N := 7) hx hb hts zi_X7_could_2 hown hK hP 2 rfl rfl 0 (by decide) (hts (.fieldLink RX7 263 "WaxTurns$Laws" "fitCount" "I") (zm_X7_could_r1 (List.mem_of_getElem? (i := 2) rfl))) (fun _ h9 => h9) rfl dX7_could_42 ?_
        refine lv_icmp_ge (tgt := 77) hx hb dX7_could_45 (by decide) (fun c45 => ?_) (fun c45 => ?_)
        · have gc45 := ai_le c45
          have u45t_v28na0_0 : v28na0_0.toInt ≤ (729 : Int) := bv28na0_0.2
          have l45t_j36l4 : (0 : Int) ≤ j36l4.toInt := bj36l4_l
          have hF1 := hF1.trans (if_pos (show v28na0_0.toInt ≤ j36l4.toInt from gc45))
          have hF0 := hF0.trans (fl_wh_r (hSX36.trans hF1))
          refine lv_aload_n hx hb dX7_could_77 rfl (lv_at hl 0 rfl) ?_
          refine lv_iload_n hx hb dX7_could_78 rfl (lv_at hl 2 rfl) ?_
          refine va_calli (va_runV (As := [.int j36l3]) (rest := []) ⟨hx, hb, hml, hown, hts⟩ (f_X7_answered l dC dI H.size a0 j36l3 a0g_0 a0g_1 a0g_2 a0g_3 a0g_4 (.ref a0_5) a0g_6 (.ref a0_7) a0g_9 a0g_10 a0_8 ) (cwV 1 hts gX7_could_X7_answered rfl rfl rfl zd_X7_answered ⟨Nat.le_of_ble_eq_true rfl, Nat.le_of_ble_eq_true rfl⟩) ⟨ax_blind (fun _ _ _ _ _ => trivial), zr_7 (zp_K hK) (zp_P1 hP) (q0 := 0) rfl, ax_pre (zp_P1 hP) (zp_K hK) (zp_D1 hD) (fun _ _ => trivial)⟩ rfl rfl hl.1 rfl (lv_room (Nat.le_of_ble_eq_true rfl)) dX7_could_79 ⟨Nat.le_of_ble_eq_true rfl, Nat.le_of_ble_eq_true rfl⟩) hS (fun q _ h => zp_F1 hD hS hA q h) (zp_F1 hD hS hA) (fun r79 u t H locs ht hvm hw => zx_1 (fun v79na0_8 => zy_1 (fun hraw79_0 hB hz1 hk1 hS1 => zo1 hB ht hP hD hk1 (zp_F1 hD hS hA) hS1 (fun hP hK1 hD hS => ?_))))
          obtain ⟨hw, hfr79⟩ := hw
          have hc79 : Ff_X7_answered j36l3.toInt = (r79.toInt, v79na0_8.toInt) := Prod.ext hfr79.symm hraw79_0
          have hF0 := hF0.trans (fl_c2_eq hc79)
          have hw : r79 = j36l3 := hw
          have hw := hw.symm
          subst hw
          have hFe : FX = (j36l3.toInt, v79na0_8.toInt, v28na0_0.toInt, v28na0_5.toInt, (fl_A v28nfa0_3)) := hF0
          exact W.iret (v := j36l3) hx hb hr (fun t ht hW => ⟨⟨j36l3, (), rfl, ⟨trivial, (congrArg Prod.fst hFe).symm⟩, v79na0_8, v28na0_0, v28na0_5, v28nfa0_3, ⟨bv28na0_0.1, u45t_v28na0_0⟩, ⟨bv28na0_5.1, bv28na0_5.2⟩, bv28nfa0_3, (congrArg Prod.snd hFe), by rw [ht]; exact hP, va_K.moved hW.alike hK, hD⟩, hS.F ht⟩) hS.2.2 dX7_could_82
        · have gc45 := ai_nle c45
          have u45f_j36l4 : j36l4.toInt ≤ (728 : Int) := ai_lthi gc45 bv28na0_0.2
          have l45f_v28na0_0 : (1 : Int) ≤ v28na0_0.toInt := ai_ltlo gc45 bj36l4_l
          have hF1 := hF1.trans (if_neg (show ¬ (v28na0_0.toInt ≤ j36l4.toInt) from Int.not_le.mpr gc45))
          refine lv_iload_n hx hb dX7_could_48 rfl (lv_at hl 2 rfl) ?_
          refine lv_iconst (v := 1) hx hb dX7_could_49 zk_iconst_1 ?_
          refine lv_aload_n hx hb dX7_could_50 rfl (lv_at hl 0 rfl) ?_
          refine va_get (D := (dC, dI)) (ci := 7) (v := .ref a0_7) (C := RX7) (T := TX7) (N := 11) hx hb hts zi_X7_could_7 hown hK hP 0 rfl rfl 7 (by decide) (hts (.fieldLink RX7 57 "WaxTurns" "hall" "LWaxTurns$Hall;") (zm_X7_could_r1 (List.mem_of_getElem? (i := 1) rfl))) (fun _ h9 => h9) rfl dX7_could_51 ?_
          refine lv_aload_n hx hb dX7_could_54 rfl (lv_at hl 0 rfl) ?_
          refine va_get (D := (dC, dI)) (ci := 7) (v := .ref a0_5) (C := RX7) (T := TX7) (N := 11) hx hb hts zi_X7_could_7 hown hK hP 0 rfl rfl 5 (by decide) (hts (.fieldLink RX7 43 "WaxTurns" "laws" "LWaxTurns$Laws;") (zm_X7_could_r1 (List.mem_of_getElem? (i := 0) rfl))) (fun _ h9 => h9) rfl dX7_could_55 ?_
          refine va_get (D := (dC, dI)) (ci := 2) (v := .ref a0_5_3) (C := RX2) (T := TX2) (N := 7) hx hb hts zi_X7_could_2 hown hK hP 2 rfl rfl 3 (by decide) (hts (.fieldLink RX7 266 "WaxTurns$Laws" "fitting" "[I") (zm_X7_could_r1 (List.mem_of_getElem? (i := 3) rfl))) (fun _ h9 => h9) rfl dX7_could_58 ?_
          refine lv_iload hx hb dX7_could_61 (lv_at hl 3 rfl) ?_
          refine va_iald hx hb hK hP 3 0 rfl rfl (ai_in bj36l4_l u45f_j36l4 (by decide) (by decide)) dX7_could_63 ?_
          refine lv_topi (fun x63 ex63 => ?_)
          have bx63 : (0 : Int) ≤ x63.toInt ∧ x63.toInt ≤ 888 ∧ x63.toInt % 10 ≤ 8 := by rw [ex63]; exact bv28nfa0_3 _
          have fqx63 := congrArg Int32.toInt ex63
          have hF1 := hF1.trans (fl_lt_eq (show x63.toInt = (fl_A v28nfa0_3) (j36l4.toInt.toNat) from fqx63))
          refine lv_iload_n hx hb dX7_could_64 rfl (lv_at hl 1 rfl) ?_
          refine zc_cutc (wc := [(a0_7, .inr (0, [.int a0_7_0, .int a0_7_1, a0_7g_2, a0_7g_3, a0_7g_4, a0_7g_5, a0_7g_6, a0_7g_7, a0_7g_8, .int a0_7_9, a0_7g_10, a0_7g_11, .ref a0_7_12, .ref a0_7_13, a0_7g_14]))]) hP hD hS hA [1] (by decide +kernel) rfl (fun hPc hDc hFc hCc => ?_)
          have hKc := zp_K hK
          refine va_calli (va_runV (As := [.int x63, .int a1]) (rest := [.int 1, .int j36l3]) ⟨hx, hb, hml, hown, hts⟩ (f_X0_aliveByLaw l dC dI H.size a0_7 x63 a1 a0_7_0 a0_7_1 a0_7g_2 a0_7g_3 a0_7g_4 a0_7g_5 a0_7g_6 a0_7g_7 a0_7g_8 (.int a0_7_9) a0_7g_10 a0_7g_11 (.ref a0_7_12) (.ref a0_7_13) a0_7g_14 bx63.1 (Int.le_trans bx63.2.1 zq31) l6k0_a1 u6k0_a1 (Int.le_trans zq4 l6k0_a0_7_0) ba0_7_0_u) (cwV 2 hts gX7_could_X0_aliveByLaw rfl rfl rfl zd_X0_aliveByLaw ⟨Nat.le_of_ble_eq_true rfl, Nat.le_of_ble_eq_true rfl⟩) ⟨ax_blind (fun _ _ _ _ hq => va_Nw.same rfl rfl (hq)), zr_0 hKc hPc (q0 := 0) rfl, ax_pre hPc hKc hDc (fun _ hW => va_Nw.warmM hW hE0)⟩ rfl rfl hl.1 rfl (lv_room (Nat.le_of_ble_eq_true rfl)) dX7_could_65 ⟨Nat.le_of_ble_eq_true rfl, Nat.le_of_ble_eq_true rfl⟩) hS (fun q _ h => hFc q h) hFc (fun r65 u t H locs ht hvm hw hB hz1 hk1 hS1 => zo hB ht hS1 (fun hP1 hK1 hD1 hS => ?_))
          refine zc_backc (w := [(a0, .inr (7, [a0g_0, a0g_1, a0g_2, a0g_3, a0g_4, .ref a0_5, a0g_6, .ref a0_7, .int a0_8, a0g_9, a0g_10])), (a0_7, .inr (0, [.int a0_7_0, .int a0_7_1, a0_7g_2, a0_7g_3, a0_7g_4, a0_7g_5, a0_7g_6, a0_7g_7, a0_7g_8, .int a0_7_9, a0_7g_10, a0_7g_11, .ref a0_7_12, .ref a0_7_13, a0_7g_14])), (a0_5, .inr (2, [.int v28na0_0, a0_5g_1, a0_5g_2, .ref a0_5_3, a0_5g_4, .int v28na0_5, a0_5g_6])), (a0_5_3, .inl (ka0_5_3, 729, .inl (v28nfa0_3))), (a0_7_13, .inl (ka0_7_13, 6, .inl (fa0_7_13))), (a0_7_12, .inl (ka0_7_12, 6, .inl (fa0_7_12)))]) hP hD hCc hk1 hFc hP1 hD1 [.inl 0, .inr 0, .inl 2, .inl 3, .inl 4, .inl 5] (by decide +kernel) rfl (fun hP hD => ?_)
          obtain ⟨hw, hfr65⟩ := hw
          have hc65 : Ff_X0_aliveByLaw x63.toInt a1.toInt a0_7_0.toInt a0_7_1.toInt = r65.toInt := hfr65.symm
          have hF1 := hF1.trans (fl_lt_eq hc65.symm)
          have hw : (0 : Int) ≤ r65.toInt ∧ r65.toInt ≤ (9 : Int) := hw
          obtain ⟨h65_0, h65_1⟩ := hw
          refine lv_ishl hx hb dX7_could_68 ?_
          refine lv_topi (fun x68 ex68 => ?_)
          have bx68 : (1 : Int) ≤ x68.toInt ∧ x68.toInt ≤ 512 := sh_1 ex68 h65_0 h65_1
          have fqx68 := fl_shl_eq ex68
          have hF1 := hF1.trans (fl_lt_eq (show x68.toInt = fl_shl 1 r65.toInt from fqx68))
          refine lv_ior hx hb dX7_could_69 ?_
          refine lv_topi (fun x69 ex69 => ?_)
          have fqx69 := fl_or_eq ex69
          have hF1 := hF1.trans (fl_lt_eq (show x69.toInt = fl_or j36l3.toInt x68.toInt from fqx69))
          refine lv_istore_n (lv' := [(3, .int x69), (0, .ref a0), (1, .int a1), (4, .int j36l4)]) hx hb dX7_could_70 rfl hl (by decide) rfl (fun ls hl => ?_)
          obtain ⟨x71, ex71⟩ : ∃ y : Int32, y = j36l4 + Int32.ofInt 1 := ⟨_, rfl⟩
          have qx71 : x71.toInt = j36l4.toInt + 1 := ai_inc ex71 (by decide) (by decide) u45f_j36l4 (by decide)
          have bx71 : (1 : Int) ≤ x71.toInt ∧ x71.toInt ≤ 729 := ⟨by rw [qx71]; exact Int.add_le_add bj36l4_l (Int.le_refl _), by rw [qx71]; exact Int.add_le_add u45f_j36l4 (Int.le_refl _)⟩
          refine lv_iinc (v := x71) (lv' := [(4, .int x71), (3, .int x69), (0, .ref a0), (1, .int a1)]) hx hb dX7_could_71 hl (k := 3) rfl ex71.symm (by decide) rfl (fun ls hl => ?_)
          have hF1 := hF1.trans (fl_lt_eq (show x71.toInt = j36l4.toInt + 1 from qx71))
          refine lv_goto (tgt := 36) hx hb dX7_could_74 (by decide) ?_
          exact (hK0 _ _ _).mp (ih36 x71 x69 _ _ _ (by first | exact zg_s hm36 qx71 | (have h0 := qx71; omega)) (Int.le_trans zq4 bx71.1) bx71.2 (hF0.trans (fl_wh_l (hSX36.trans hF1))) hP hD hS (lv_sub hl [2, 3, 1, 0] rfl))
    exact (hK0 _ _ _).mp (J36 730 0 0 _ _ _ (by first | decide +kernel | (have h1 : (0 : Int) ≤ (0 : Int32).toInt := zq5; have h2 : (0 : Int32).toInt ≤ (0 : Int) := zq6; omega)) zq5 (Int.le_trans zq6 zq35) (by rw [show (0 : Int32).toInt = 0 from by decide]; exact hF0) hP hD hS (lv_sub hl [3, 4, 1, 0] rfl))
  · subst hw
    have hF0 := hF0.trans (if_neg (by decide))
    have hF0 := hF0.trans (if_pos (by decide))
    refine lv_istore_n (lv' := [(2, .int 1), (0, .ref a0), (1, .int a1)]) hx hb dX7_could_9 rfl hl (by decide) rfl (fun ls hl => ?_)
    refine lv_iload_n hx hb dX7_could_10 rfl (lv_at hl 0 rfl) ?_
    refine lv_if_eq (tgt := 20) hx hb dX7_could_11 (by decide) (fun c11 => absurd c11 (by decide +kernel)) (fun _ => ?_)
    refine lv_aload_n hx hb dX7_could_14 rfl (lv_at hl 1 rfl) ?_
    refine lv_iload_n hx hb dX7_could_15 rfl (lv_at hl 0 rfl) ?_
    refine va_calli (va_runV (As := [.int 1]) (rest := []) ⟨hx, hb, hml, hown, hts⟩ (f_X7_refused l dC dI H.size a0 1 a0g_0 a0g_1 a0g_2 a0g_3 a0g_4 (.ref a0_5) a0g_6 (.ref a0_7) a0g_9 a0g_10 a0_8 ) (cwV 1 hts gX7_could_X7_refused rfl rfl rfl zd_X7_refused ⟨Nat.le_of_ble_eq_true rfl, Nat.le_of_ble_eq_true rfl⟩) ⟨ax_blind (fun _ _ _ _ _ => trivial), zr_7 (zp_K hK) (zp_P1 hP) (q0 := 0) rfl, ax_pre (zp_P1 hP) (zp_K hK) (zp_D1 hD) (fun _ _ => trivial)⟩ rfl rfl hl.1 rfl (lv_room (Nat.le_of_ble_eq_true rfl)) dX7_could_16 ⟨Nat.le_of_ble_eq_true rfl, Nat.le_of_ble_eq_true rfl⟩) hS (fun q _ h => zp_F1 hD hS hA q h) (zp_F1 hD hS hA) (fun r16 u t H locs ht hvm hw => zx_1 (fun v16na0_8 => zy_1 (fun hraw16_0 hB hz1 hk1 hS1 => zo1 hB ht hP hD hk1 (zp_F1 hD hS hA) hS1 (fun hP hK1 hD hS => ?_))))
    obtain ⟨hw, hfr16⟩ := hw
    rw [show (1 : Int32).toInt = 1 from by decide] at hfr16 hraw16_0
    have hc16 : Ff_X7_refused 1 = (r16.toInt, v16na0_8.toInt) := Prod.ext hfr16.symm hraw16_0
    have hF0 := hF0.trans (fl_c2_eq hc16)
    have hw : r16 = (-1) := hw
    have hw := hw.symm
    subst hw
    have hFe : FX = ((-1), v16na0_8.toInt, a0_5_0.toInt, a0_5_5.toInt, (fl_A fa0_5_3)) := hF0
    exact W.iret (v := (-1)) hx hb hr (fun t ht hW => ⟨⟨(-1), (), rfl, ⟨trivial, (congrArg Prod.fst hFe).symm⟩, v16na0_8, a0_5_0, a0_5_5, fa0_5_3, ⟨ba0_5_0_l, ba0_5_0_u⟩, ⟨ba0_5_5_l, ba0_5_5_u⟩, bfa0_5_3, (congrArg Prod.snd hFe), by rw [ht]; exact hP, va_K.moved hW.alike hK, hD⟩, hS.F ht⟩) hS.2.2 dX7_could_19
  · subst hw
    have hF0 := hF0.trans (if_neg (by decide))
    have hF0 := hF0.trans (if_neg (by decide))
    refine lv_istore_n (lv' := [(2, .int 2), (0, .ref a0), (1, .int a1)]) hx hb dX7_could_9 rfl hl (by decide) rfl (fun ls hl => ?_)
    refine lv_iload_n hx hb dX7_could_10 rfl (lv_at hl 0 rfl) ?_
    refine lv_if_eq (tgt := 20) hx hb dX7_could_11 (by decide) (fun c11 => absurd c11 (by decide +kernel)) (fun _ => ?_)
    refine lv_aload_n hx hb dX7_could_14 rfl (lv_at hl 1 rfl) ?_
    refine lv_iload_n hx hb dX7_could_15 rfl (lv_at hl 0 rfl) ?_
    refine va_calli (va_runV (As := [.int 2]) (rest := []) ⟨hx, hb, hml, hown, hts⟩ (f_X7_refused l dC dI H.size a0 2 a0g_0 a0g_1 a0g_2 a0g_3 a0g_4 (.ref a0_5) a0g_6 (.ref a0_7) a0g_9 a0g_10 a0_8 ) (cwV 1 hts gX7_could_X7_refused rfl rfl rfl zd_X7_refused ⟨Nat.le_of_ble_eq_true rfl, Nat.le_of_ble_eq_true rfl⟩) ⟨ax_blind (fun _ _ _ _ _ => trivial), zr_7 (zp_K hK) (zp_P1 hP) (q0 := 0) rfl, ax_pre (zp_P1 hP) (zp_K hK) (zp_D1 hD) (fun _ _ => trivial)⟩ rfl rfl hl.1 rfl (lv_room (Nat.le_of_ble_eq_true rfl)) dX7_could_16 ⟨Nat.le_of_ble_eq_true rfl, Nat.le_of_ble_eq_true rfl⟩) hS (fun q _ h => zp_F1 hD hS hA q h) (zp_F1 hD hS hA) (fun r16 u t H locs ht hvm hw => zx_1 (fun v16na0_8 => zy_1 (fun hraw16_0 hB hz1 hk1 hS1 => zo1 hB ht hP hD hk1 (zp_F1 hD hS hA) hS1 (fun hP hK1 hD hS => ?_))))
    obtain ⟨hw, hfr16⟩ := hw
    rw [show (2 : Int32).toInt = 2 from by decide] at hfr16 hraw16_0
    have hc16 : Ff_X7_refused 2 = (r16.toInt, v16na0_8.toInt) := Prod.ext hfr16.symm hraw16_0
    have hF0 := hF0.trans (fl_c2_eq hc16)
    have hw : r16 = (-1) := hw
    have hw := hw.symm
    subst hw
    have hFe : FX = ((-1), v16na0_8.toInt, a0_5_0.toInt, a0_5_5.toInt, (fl_A fa0_5_3)) := hF0
    exact W.iret (v := (-1)) hx hb hr (fun t ht hW => ⟨⟨(-1), (), rfl, ⟨trivial, (congrArg Prod.fst hFe).symm⟩, v16na0_8, a0_5_0, a0_5_5, fa0_5_3, ⟨ba0_5_0_l, ba0_5_0_u⟩, ⟨ba0_5_5_l, ba0_5_5_u⟩, bfa0_5_3, (congrArg Prod.snd hFe), by rw [ht]; exact hP, va_K.moved hW.alike hK, hD⟩, hS.F ht⟩) hS.2.2 dX7_could_19

set_option maxHeartbeats 4000000 in
set_option maxRecDepth 100000 in
theorem f_X7_aliveBy (l : Launch) (dC : Nat → ClassId) (dI : Nat → Nat → Nat) (sz : Nat) (a0 : Nat) (a1 : Int32) (a2 : Int32) (a0g_0 a0g_1 a0g_2 a0g_3 a0g_4 a0g_6 a0g_9 a0g_10 : Value) (a0_5 : Nat) (a0_7 : Nat) (a0_8 : Int32) (a0_7_0 : Int32) (a0_7_1 : Int32) (a0_7g_2 a0_7g_3 a0_7g_4 a0_7g_5 a0_7g_6 a0_7g_7 a0_7g_8 a0_7g_10 a0_7g_11 a0_7g_14 : Value) (a0_7_9 : Int32) (a0_7_12 : Nat) (a0_7_13 : Nat) (a0_5_0 : Int32) (a0_5g_1 a0_5g_2 a0_5g_4 a0_5g_6 : Value) (a0_5_3 : Nat) (a0_5_5 : Int32) (ka0_5_3 : ClassId) (fa0_5_3 : Nat → Int32) (ka0_7_13 : ClassId) (fa0_7_13 : Nat → Int32) (ka0_7_12 : ClassId) (fa0_7_12 : Nat → Int32) (ba0_7_0_l : (0 : Int) ≤ a0_7_0.toInt) (ba0_7_0_u : a0_7_0.toInt ≤ (9 : Int)) (ba0_7_9_l : (0 : Int) ≤ a0_7_9.toInt) (ba0_7_9_u : a0_7_9.toInt ≤ (6 : Int)) (ba0_5_0_l : (0 : Int) ≤ a0_5_0.toInt) (ba0_5_0_u : a0_5_0.toInt ≤ (729 : Int)) (ba0_5_5_l : (0 : Int) ≤ a0_5_5.toInt) (ba0_5_5_u : a0_5_5.toInt ≤ (1 : Int)) (bfa0_5_3 : (∀ k, (0 : Int) ≤ (fa0_5_3 k).toInt ∧ (fa0_5_3 k).toInt ≤ 888 ∧ (fa0_5_3 k).toInt % 10 ≤ 8)) (bfa0_7_13 : (∀ k, (0 : Int) ≤ (fa0_7_13 k).toInt ∧ (fa0_7_13 k).toInt ≤ 999)) : zm l yX7_aliveBy wsX7_aliveBy ({ frames := 4, cells := 0, slots := 0, locals := 98 }) [.ref a0, .int a1, .int a2] dC dI sz [(a0, .inr (7, [a0g_0, a0g_1, a0g_2, a0g_3, a0g_4, .ref a0_5, a0g_6, .ref a0_7, .int a0_8, a0g_9, a0g_10])), (a0_7, .inr (0, [.int a0_7_0, .int a0_7_1, a0_7g_2, a0_7g_3, a0_7g_4, a0_7g_5, a0_7g_6, a0_7g_7, a0_7g_8, .int a0_7_9, a0_7g_10, a0_7g_11, .ref a0_7_12, .ref a0_7_13, a0_7g_14])), (a0_5, .inr (2, [.int a0_5_0, a0_5g_1, a0_5g_2, .ref a0_5_3, a0_5g_4, .int a0_5_5, a0_5g_6])), (a0_5_3, .inl (ka0_5_3, 729, .inl (fa0_5_3))), (a0_7_13, .inl (ka0_7_13, 6, .inl (fa0_7_13))), (a0_7_12, .inl (ka0_7_12, 6, .inl (fa0_7_12)))] [(ka0_5_3, .int), (ka0_7_13, .int), (ka0_7_12, .int)] (fun A U => va_Nw (.methodLinkNest RX0 72 yX7_laterTurn RX7) U) (fun A => va_Qi (fun (r : Int32) (_ : Unit) => (True) ∧ r.toInt = (Ff_X7_aliveBy a1.toInt a2.toInt a0_7_0.toInt a0_7_1.toInt a0_7_9.toInt a0_5_0.toInt a0_5_5.toInt (fl_A fa0_5_3) (fl_A fa0_7_13) (fl_A fa0_7_12)).1) (fun (_ : Unit) (t : State) => ∃ na0_8 : Int32, ∃ na0_5_0 : Int32, ∃ na0_5_5 : Int32, ∃ nfa0_5_3 : Nat → Int32, ((0 : Int) ≤ na0_5_0.toInt ∧ na0_5_0.toInt ≤ 729) ∧ ((0 : Int) ≤ na0_5_5.toInt ∧ na0_5_5.toInt ≤ 1) ∧ (∀ k, (0 : Int) ≤ (nfa0_5_3 k).toInt ∧ (nfa0_5_3 k).toInt ≤ 888 ∧ (nfa0_5_3 k).toInt % 10 ≤ 8) ∧ ((Ff_X7_aliveBy a1.toInt a2.toInt a0_7_0.toInt a0_7_1.toInt a0_7_9.toInt a0_5_0.toInt a0_5_5.toInt (fl_A fa0_5_3) (fl_A fa0_7_13) (fl_A fa0_7_12)).2 = (na0_8.toInt, na0_5_0.toInt, na0_5_5.toInt, (fl_A nfa0_5_3))) ∧ ax_B dC dI A [(a0, .inr (7, [a0g_0, a0g_1, a0g_2, a0g_3, a0g_4, .ref a0_5, a0g_6, .ref a0_7, .int na0_8, a0g_9, a0g_10])), (a0_7, .inr (0, [.int a0_7_0, .int a0_7_1, a0_7g_2, a0_7g_3, a0_7g_4, a0_7g_5, a0_7g_6, a0_7g_7, a0_7g_8, .int a0_7_9, a0_7g_10, a0_7g_11, .ref a0_7_12, .ref a0_7_13, a0_7g_14])), (a0_5, .inr (2, [.int na0_5_0, a0_5g_1, a0_5g_2, .ref a0_5_3, a0_5g_4, .int na0_5_5, a0_5g_6])), (a0_5_3, .inl (ka0_5_3, 729, .inl (nfa0_5_3))), (a0_7_13, .inl (ka0_7_13, 6, .inl (fa0_7_13))), (a0_7_12, .inl (ka0_7_12, 6, .inl (fa0_7_12)))] [(ka0_5_3, .int), (ka0_7_13, .int), (ka0_7_12, .int)] t) A) := by
  refine zh (cc := cX7_aliveBy) (maxL := 6) (ret := (some .int)) zn_RX7 rfl (Nat.le_of_ble_eq_true rfl) (fun p e s m below meth c A ls hx hb hml hr hts (hown : s.vm.findClass RX7 = some m.cls) hlocks hA hS hP hK hD hE (hl : lv_has ls 6 [(0, .ref a0), (1, .int a1), (2, .int a2)]) => ?_)
  have hE0 := hE
  generalize hFX : Ff_X7_aliveBy a1.toInt a2.toInt a0_7_0.toInt a0_7_1.toInt a0_7_9.toInt a0_5_0.toInt a0_5_5.toInt (fl_A fa0_5_3) (fl_A fa0_7_13) (fl_A fa0_7_12) = FX at ⊢
  have hF0 := hFX.symm.trans (Ff_X7_aliveBy.eq_1 a1.toInt a2.toInt a0_7_0.toInt a0_7_1.toInt a0_7_9.toInt a0_5_0.toInt a0_5_5.toInt (fl_A fa0_5_3) (fl_A fa0_7_13) (fl_A fa0_7_12))
  refine ai_open (fun K hK0 => ?_)
  refine (hK0 _ _ _).mpr ?_
  refine lv_aload_n hx hb dX7_aliveBy_0 rfl (lv_at hl 0 rfl) ?_
  refine lv_iload_n hx hb dX7_aliveBy_1 rfl (lv_at hl 1 rfl) ?_
  refine lv_iload_n hx hb dX7_aliveBy_2 rfl (lv_at hl 2 rfl) ?_
  refine lv_sipush (v := 999) hx hb dX7_aliveBy_3 zk_sipush_999 ?_
  refine va_calli (va_runV (As := [.int a1, .int a2, .int 999]) (rest := []) ⟨hx, hb, hml, hown, hts⟩ (f_X7_troubleOfFigureWithin l dC dI s.heap.size a0 a1 a2 999 a0g_0 a0g_1 a0g_2 a0g_3 a0g_4 (.ref a0_5) a0g_6 (.int a0_8) a0g_9 a0g_10 a0_7 a0_7_0 (.int a0_7_1) a0_7g_2 a0_7g_3 a0_7g_4 a0_7g_5 a0_7g_6 a0_7g_7 a0_7g_8 (.int a0_7_9) a0_7g_10 a0_7g_11 (.ref a0_7_12) (.ref a0_7_13) a0_7g_14 ba0_7_0_l ba0_7_0_u) (cwV 3 hts gX7_aliveBy_X7_troubleOfFigureWithin rfl rfl rfl zd_X7_troubleOfFigureWithin ⟨Nat.le_of_ble_eq_true rfl, Nat.le_of_ble_eq_true rfl⟩) ⟨ax_blind (fun _ _ _ _ _ => trivial), zr_7 (zp_K hK) (zp_P2 hP) (q0 := 0) rfl, ax_pre (zp_P2 hP) (zp_K hK) (zp_D2 hD) (fun _ _ => trivial)⟩ rfl rfl hl.1 rfl (lv_room (Nat.le_of_ble_eq_true rfl)) dX7_aliveBy_6 ⟨Nat.le_of_ble_eq_true rfl, Nat.le_of_ble_eq_true rfl⟩) hS (fun q _ h => zp_F2 hD hS hA q h) (zp_F2 hD hS hA) (fun r6 u t H locs ht hvm hw hB hz1 hk1 hS1 => zo2 hB ht hP hD hk1 (zp_F2 hD hS hA) hS1 (fun hP hK1 hD hS => ?_))
  obtain ⟨hw, hfr6⟩ := hw
  rw [show (999 : Int32).toInt = 999 from by decide] at hfr6
  have hc6 : Ff_X7_troubleOfFigureWithin a1.toInt a2.toInt 999 a0_7_0.toInt = r6.toInt := hfr6.symm
  have hF0 := hF0.trans (fl_lt_eq hc6.symm)
  rcases hw with hw | hw | hw
  · obtain ⟨hw, fh6, gh6, kh6, h6⟩ := hw
    subst hw
    have l6k0_a0_7_0 : (1 : Int) ≤ a0_7_0.toInt := fh6
    have l6k0_a1 : (0 : Int) ≤ a1.toInt := gh6
    have u6k0_a1 : a1.toInt ≤ (8 : Int) := kh6
    have l6k0_a2 : (0 : Int) ≤ a2.toInt := Int.le_trans zq5 h6.1
    have u6k0_a2 : a2.toInt ≤ (999 : Int) := Int.le_trans h6.2 zq79
    have hF0 := hF0.trans (if_pos (by decide))
    refine lv_istore_n (lv' := [(3, .int 0), (0, .ref a0), (1, .int a1), (2, .int a2)]) hx hb dX7_aliveBy_9 rfl hl (by decide) rfl (fun ls hl => ?_)
    refine lv_iload_n hx hb dX7_aliveBy_10 rfl (lv_at hl 0 rfl) ?_
    refine lv_if_eq (tgt := 20) hx hb dX7_aliveBy_11 (by decide) (fun _ => ?_) (fun c11 => absurd (by decide +kernel) c11)
    refine lv_aload_n hx hb dX7_aliveBy_20 rfl (lv_at hl 1 rfl) ?_
    refine va_get (D := (dC, dI)) (ci := 7) (v := .ref a0_5) (C := RX7) (T := TX7) (N := 11) hx hb hts zi_X7_aliveBy_7 hown hK hP 0 rfl rfl 5 (by decide) (hts (.fieldLink RX7 43 "WaxTurns" "laws" "LWaxTurns$Laws;") (zm_X7_aliveBy_r1 (List.mem_of_getElem? (i := 0) rfl))) (fun _ h9 => h9) rfl dX7_aliveBy_21 ?_
    refine lv_aload_n hx hb dX7_aliveBy_24 rfl (lv_at hl 1 rfl) ?_
    refine va_get (D := (dC, dI)) (ci := 7) (v := .ref a0_7) (C := RX7) (T := TX7) (N := 11) hx hb hts zi_X7_aliveBy_7 hown hK hP 0 rfl rfl 7 (by decide) (hts (.fieldLink RX7 57 "WaxTurns" "hall" "LWaxTurns$Hall;") (zm_X7_aliveBy_r1 (List.mem_of_getElem? (i := 1) rfl))) (fun _ h9 => h9) rfl dX7_aliveBy_25 ?_
    refine zc_cutc (wc := [(a0_5, .inr (2, [.int a0_5_0, a0_5g_1, a0_5g_2, .ref a0_5_3, a0_5g_4, .int a0_5_5, a0_5g_6])), (a0_7, .inr (0, [.int a0_7_0, .int a0_7_1, a0_7g_2, a0_7g_3, a0_7g_4, a0_7g_5, a0_7g_6, a0_7g_7, a0_7g_8, .int a0_7_9, a0_7g_10, a0_7g_11, .ref a0_7_12, .ref a0_7_13, a0_7g_14])), (a0_5_3, .inl (ka0_5_3, 729, .inl (fa0_5_3))), (a0_7_13, .inl (ka0_7_13, 6, .inl (fa0_7_13))), (a0_7_12, .inl (ka0_7_12, 6, .inl (fa0_7_12)))]) hP hD hS hA [2, 1, 3, 4, 5] (by decide +kernel) rfl (fun hPc hDc hFc hCc => ?_)
    have hKc := hK.sub (tys' := [(ka0_5_3, .int), (ka0_7_13, .int), (ka0_7_12, .int)]) [0, 1, 2] rfl
    refine va_callv (va_runV (As := [.ref a0_7]) (rest := []) ⟨hx, hb, hml, hown, hts⟩ (f_X2_list l dC dI H.size a0_5 a0_7 a0_5_0 a0_5g_1 a0_5g_2 a0_5g_4 a0_5g_6 a0_5_3 a0_5_5 a0_7_0 a0_7_1 a0_7g_2 a0_7g_3 a0_7g_4 a0_7g_5 a0_7g_6 a0_7g_7 a0_7g_8 a0_7g_10 a0_7g_11 a0_7g_14 a0_7_9 a0_7_12 a0_7_13 ka0_5_3 fa0_5_3 ka0_7_13 fa0_7_13 ka0_7_12 fa0_7_12 ba0_5_0_l ba0_5_0_u ba0_5_5_l ba0_5_5_u (Int.le_trans zq4 l6k0_a0_7_0) ba0_7_0_u ba0_7_9_l ba0_7_9_u bfa0_5_3 bfa0_7_13) (cwV 1 hts gX7_aliveBy_X2_list rfl rfl rfl zd_X2_list ⟨Nat.le_of_ble_eq_true rfl, Nat.le_of_ble_eq_true rfl⟩) ⟨ax_blind (fun _ _ _ _ hq => va_Nw.same rfl rfl (hq)), zr_2 hKc hPc (q0 := 0) rfl, ax_pre hPc hKc hDc (fun _ hW => va_Nw.warmM hW hE0)⟩ rfl rfl hl.1 rfl (lv_room (Nat.le_of_ble_eq_true rfl)) dX7_aliveBy_28 ⟨Nat.le_of_ble_eq_true rfl, Nat.le_of_ble_eq_true rfl⟩) hS (fun q _ h => hFc q h) hFc (fun u t H locs ht hvm hw => zx_3 (fun v28na0_0 v28na0_5 v28nfa0_3 => zy_4 (fun bv28na0_0 bv28na0_5 bv28nfa0_3 hraw28_0 hB hz1 hk1 hS1 => zo hB ht hS1 (fun hP1 hK1 hD1 hS => ?_))))
    refine zc_backc (w := [(a0, .inr (7, [a0g_0, a0g_1, a0g_2, a0g_3, a0g_4, .ref a0_5, a0g_6, .ref a0_7, .int a0_8, a0g_9, a0g_10])), (a0_7, .inr (0, [.int a0_7_0, .int a0_7_1, a0_7g_2, a0_7g_3, a0_7g_4, a0_7g_5, a0_7g_6, a0_7g_7, a0_7g_8, .int a0_7_9, a0_7g_10, a0_7g_11, .ref a0_7_12, .ref a0_7_13, a0_7g_14])), (a0_5, .inr (2, [.int v28na0_0, a0_5g_1, a0_5g_2, .ref a0_5_3, a0_5g_4, .int v28na0_5, a0_5g_6])), (a0_5_3, .inl (ka0_5_3, 729, .inl (v28nfa0_3))), (a0_7_13, .inl (ka0_7_13, 6, .inl (fa0_7_13))), (a0_7_12, .inl (ka0_7_12, 6, .inl (fa0_7_12)))]) hP hD hCc hk1 hFc hP1 hD1 [.inl 0, .inr 1, .inr 0, .inr 2, .inr 3, .inr 4] (by decide +kernel) rfl (fun hP hD => ?_)
    have hc28 : Ff_X2_list a0_5_0.toInt a0_5_5.toInt a0_7_0.toInt a0_7_1.toInt a0_7_9.toInt (fl_A fa0_5_3) (fl_A fa0_7_13) (fl_A fa0_7_12) = (v28na0_0.toInt, v28na0_5.toInt, (fl_A v28nfa0_3)) := hraw28_0
    have hF0 := hF0.trans (fl_c3_eq hc28)
    refine lv_iconst (v := 0) hx hb dX7_aliveBy_31 zk_iconst_0 ?_
    refine lv_istore (lv' := [(4, .int 0), (3, .int 0), (0, .ref a0), (1, .int a1), (2, .int a2)]) hx hb dX7_aliveBy_32 hl (by decide) rfl (fun ls hl => ?_)
    refine lv_iconst (v := 0) hx hb dX7_aliveBy_34 zk_iconst_0 ?_
    refine lv_istore (lv' := [(5, .int 0), (4, .int 0), (3, .int 0), (0, .ref a0), (1, .int a1), (2, .int a2)]) hx hb dX7_aliveBy_35 hl (by decide) rfl (fun ls hl => ?_)
    have J37 : ∀ (n : Nat) (j37l5 : Int32) (j37l4 : Int32) (H : Heap) (locs : List Loc) (ls : Array Slot), (730 : Int) - j37l5.toInt ≤ (n : Int) → (0 : Int) ≤ j37l5.toInt → j37l5.toInt ≤ (729 : Int) → (FX = fl_wh (fun t9 => Sf_X7_aliveBy_37_1 a1.toInt a2.toInt a0_7_0.toInt a0_7_1.toInt v28na0_0.toInt v28na0_5.toInt (fl_A v28nfa0_3) t9.1 t9.2) (0, 0, 0, 0, (fun _ => 0)) n (j37l5.toInt, j37l4.toInt)) → va_P (dC, dI) vwCl [(a0, .inr (7, [a0g_0, a0g_1, a0g_2, a0g_3, a0g_4, .ref a0_5, a0g_6, .ref a0_7, .int a0_8, a0g_9, a0g_10])), (a0_7, .inr (0, [.int a0_7_0, .int a0_7_1, a0_7g_2, a0_7g_3, a0_7g_4, a0_7g_5, a0_7g_6, a0_7g_7, a0_7g_8, .int a0_7_9, a0_7g_10, a0_7g_11, .ref a0_7_12, .ref a0_7_13, a0_7g_14])), (a0_5, .inr (2, [.int v28na0_0, a0_5g_1, a0_5g_2, .ref a0_5_3, a0_5g_4, .int v28na0_5, a0_5g_6])), (a0_5_3, .inl (ka0_5_3, 729, .inl (v28nfa0_3))), (a0_7_13, .inl (ka0_7_13, 6, .inl (fa0_7_13))), (a0_7_12, .inl (ka0_7_12, 6, .inl (fa0_7_12)))] H → va_D A [(a0, .inr (7, [a0g_0, a0g_1, a0g_2, a0g_3, a0g_4, .ref a0_5, a0g_6, .ref a0_7, .int a0_8, a0g_9, a0g_10])), (a0_7, .inr (0, [.int a0_7_0, .int a0_7_1, a0_7g_2, a0_7g_3, a0_7g_4, a0_7g_5, a0_7g_6, a0_7g_7, a0_7g_8, .int a0_7_9, a0_7g_10, a0_7g_11, .ref a0_7_12, .ref a0_7_13, a0_7g_14])), (a0_5, .inr (2, [.int v28na0_0, a0_5g_1, a0_5g_2, .ref a0_5_3, a0_5g_4, .int v28na0_5, a0_5g_6])), (a0_5_3, .inl (ka0_5_3, 729, .inl (v28nfa0_3))), (a0_7_13, .inl (ka0_7_13, 6, .inl (fa0_7_13))), (a0_7_12, .inl (ka0_7_12, 6, .inl (fa0_7_12)))] → va_S A s.heap H locs → lv_has ls 6 [(0, .ref a0), (1, .int a1), (2, .int a2), (4, .int j37l4), (5, .int j37l5)] → K H locs (F0 m 37 ls []) := by
      intro n
      induction n with
      | zero =>
        intro j37l5 j37l4 H locs ls hm bj37l5_l bj37l5_u hF0 hP hD hS hl
        first | exact zg_0 hm bj37l5_u (by decide) | (have h8 := ai_min j37l5; have h9 := ai_max j37l5; exact absurd hm (by omega))
      | succ n ih37 =>
        intro j37l5 j37l4 H locs ls hm bj37l5_l bj37l5_u hF0 hP hD hS hl
        refine (hK0 _ _ _).mpr ?_
        have hm37 := hm
        obtain ⟨SX37, hSX37⟩ : ∃ q9, Sf_X7_aliveBy_37_1 a1.toInt a2.toInt a0_7_0.toInt a0_7_1.toInt v28na0_0.toInt v28na0_5.toInt (fl_A v28nfa0_3) j37l5.toInt j37l4.toInt = q9 := ⟨_, rfl⟩
        have hF1 := hSX37.symm.trans (Sf_X7_aliveBy_37_1.eq_1 a1.toInt a2.toInt a0_7_0.toInt a0_7_1.toInt v28na0_0.toInt v28na0_5.toInt (fl_A v28nfa0_3) j37l5.toInt j37l4.toInt)
        refine lv_iload hx hb dX7_aliveBy_37 (lv_at hl 4 rfl) ?_
        refine lv_aload_n hx hb dX7_aliveBy_39 rfl (lv_at hl 0 rfl) ?_
        refine va_get (D := (dC, dI)) (ci := 7) (v := .ref a0_5) (C := RX7) (T := TX7) (N := 11) hx hb hts zi_X7_aliveBy_7 hown hK hP 0 rfl rfl 5 (by decide) (hts (.fieldLink RX7 43 "WaxTurns" "laws" "LWaxTurns$Laws;") (zm_X7_aliveBy_r1 (List.mem_of_getElem? (i := 0) rfl))) (fun _ h9 => h9) rfl dX7_aliveBy_40 ?_
        refine va_get (D := (dC, dI)) (ci := 2) (v := .int v28na0_0) (C := RX2) (T := TX2) (N := 7) hx hb hts zi_X7_aliveBy_2 hown hK hP 2 rfl rfl 0 (by decide) (hts (.fieldLink RX7 263 "WaxTurns$Laws" "fitCount" "I") (zm_X7_aliveBy_r1 (List.mem_of_getElem? (i := 2) rfl))) (fun _ h9 => h9) rfl dX7_aliveBy_43 ?_
        refine lv_icmp_ge (tgt := 80) hx hb dX7_aliveBy_46 (by decide) (fun c46 => ?_) (fun c46 => ?_)
        · have gc46 := ai_le c46
          have u46t_v28na0_0 : v28na0_0.toInt ≤ (729 : Int) := bv28na0_0.2
          have l46t_j37l5 : (0 : Int) ≤ j37l5.toInt := bj37l5_l
          have hF1 := hF1.trans (if_pos (show v28na0_0.toInt ≤ j37l5.toInt from gc46))
          have hF0 := hF0.trans (fl_wh_r (hSX37.trans hF1))
          refine lv_aload_n hx hb dX7_aliveBy_80 rfl (lv_at hl 0 rfl) ?_
          refine lv_iload hx hb dX7_aliveBy_81 (lv_at hl 3 rfl) ?_
          refine va_calli (va_runV (As := [.int j37l4]) (rest := []) ⟨hx, hb, hml, hown, hts⟩ (f_X7_answered l dC dI H.size a0 j37l4 a0g_0 a0g_1 a0g_2 a0g_3 a0g_4 (.ref a0_5) a0g_6 (.ref a0_7) a0g_9 a0g_10 a0_8 ) (cwV 1 hts gX7_aliveBy_X7_answered rfl rfl rfl zd_X7_answered ⟨Nat.le_of_ble_eq_true rfl, Nat.le_of_ble_eq_true rfl⟩) ⟨ax_blind (fun _ _ _ _ _ => trivial), zr_7 (zp_K hK) (zp_P1 hP) (q0 := 0) rfl, ax_pre (zp_P1 hP) (zp_K hK) (zp_D1 hD) (fun _ _ => trivial)⟩ rfl rfl hl.1 rfl (lv_room (Nat.le_of_ble_eq_true rfl)) dX7_aliveBy_83 ⟨Nat.le_of_ble_eq_true rfl, Nat.le_of_ble_eq_true rfl⟩) hS (fun q _ h => zp_F1 hD hS hA q h) (zp_F1 hD hS hA) (fun r83 u t H locs ht hvm hw => zx_1 (fun v83na0_8 => zy_1 (fun hraw83_0 hB hz1 hk1 hS1 => zo1 hB ht hP hD hk1 (zp_F1 hD hS hA) hS1 (fun hP hK1 hD hS => ?_))))
          obtain ⟨hw, hfr83⟩ := hw
          have hc83 : Ff_X7_answered j37l4.toInt = (r83.toInt, v83na0_8.toInt) := Prod.ext hfr83.symm hraw83_0
          have hF0 := hF0.trans (fl_c2_eq hc83)
          have hw : r83 = j37l4 := hw
          have hw := hw.symm
          subst hw
          have hFe : FX = (j37l4.toInt, v83na0_8.toInt, v28na0_0.toInt, v28na0_5.toInt, (fl_A v28nfa0_3)) := hF0
          exact W.iret (v := j37l4) hx hb hr (fun t ht hW => ⟨⟨j37l4, (), rfl, ⟨trivial, (congrArg Prod.fst hFe).symm⟩, v83na0_8, v28na0_0, v28na0_5, v28nfa0_3, ⟨bv28na0_0.1, u46t_v28na0_0⟩, ⟨bv28na0_5.1, bv28na0_5.2⟩, bv28nfa0_3, (congrArg Prod.snd hFe), by rw [ht]; exact hP, va_K.moved hW.alike hK, hD⟩, hS.F ht⟩) hS.2.2 dX7_aliveBy_86
        · have gc46 := ai_nle c46
          have u46f_j37l5 : j37l5.toInt ≤ (728 : Int) := ai_lthi gc46 bv28na0_0.2
          have l46f_v28na0_0 : (1 : Int) ≤ v28na0_0.toInt := ai_ltlo gc46 bj37l5_l
          have hF1 := hF1.trans (if_neg (show ¬ (v28na0_0.toInt ≤ j37l5.toInt) from Int.not_le.mpr gc46))
          refine lv_aload_n hx hb dX7_aliveBy_49 rfl (lv_at hl 0 rfl) ?_
          refine va_get (D := (dC, dI)) (ci := 7) (v := .ref a0_7) (C := RX7) (T := TX7) (N := 11) hx hb hts zi_X7_aliveBy_7 hown hK hP 0 rfl rfl 7 (by decide) (hts (.fieldLink RX7 57 "WaxTurns" "hall" "LWaxTurns$Hall;") (zm_X7_aliveBy_r1 (List.mem_of_getElem? (i := 1) rfl))) (fun _ h9 => h9) rfl dX7_aliveBy_50 ?_
          refine lv_aload_n hx hb dX7_aliveBy_53 rfl (lv_at hl 0 rfl) ?_
          refine va_get (D := (dC, dI)) (ci := 7) (v := .ref a0_5) (C := RX7) (T := TX7) (N := 11) hx hb hts zi_X7_aliveBy_7 hown hK hP 0 rfl rfl 5 (by decide) (hts (.fieldLink RX7 43 "WaxTurns" "laws" "LWaxTurns$Laws;") (zm_X7_aliveBy_r1 (List.mem_of_getElem? (i := 0) rfl))) (fun _ h9 => h9) rfl dX7_aliveBy_54 ?_
          refine va_get (D := (dC, dI)) (ci := 2) (v := .ref a0_5_3) (C := RX2) (T := TX2) (N := 7) hx hb hts zi_X7_aliveBy_2 hown hK hP 2 rfl rfl 3 (by decide) (hts (.fieldLink RX7 266 "WaxTurns$Laws" "fitting" "[I") (zm_X7_aliveBy_r1 (List.mem_of_getElem? (i := 3) rfl))) (fun _ h9 => h9) rfl dX7_aliveBy_57 ?_
          refine lv_iload hx hb dX7_aliveBy_60 (lv_at hl 4 rfl) ?_
          refine va_iald hx hb hK hP 3 0 rfl rfl (ai_in bj37l5_l u46f_j37l5 (by decide) (by decide)) dX7_aliveBy_62 ?_
          refine lv_topi (fun x62 ex62 => ?_)
          have bx62 : (0 : Int) ≤ x62.toInt ∧ x62.toInt ≤ 888 ∧ x62.toInt % 10 ≤ 8 := by rw [ex62]; exact bv28nfa0_3 _
          have fqx62 := congrArg Int32.toInt ex62
          have hF1 := hF1.trans (fl_lt_eq (show x62.toInt = (fl_A v28nfa0_3) (j37l5.toInt.toNat) from fqx62))
          refine lv_iload_n hx hb dX7_aliveBy_63 rfl (lv_at hl 2 rfl) ?_
          refine zc_cutc (wc := [(a0_7, .inr (0, [.int a0_7_0, .int a0_7_1, a0_7g_2, a0_7g_3, a0_7g_4, a0_7g_5, a0_7g_6, a0_7g_7, a0_7g_8, .int a0_7_9, a0_7g_10, a0_7g_11, .ref a0_7_12, .ref a0_7_13, a0_7g_14]))]) hP hD hS hA [1] (by decide +kernel) rfl (fun hPc hDc hFc hCc => ?_)
          have hKc := zp_K hK
          refine va_calli (va_runV (As := [.int x62, .int a2]) (rest := []) ⟨hx, hb, hml, hown, hts⟩ (f_X0_aliveByLaw l dC dI H.size a0_7 x62 a2 a0_7_0 a0_7_1 a0_7g_2 a0_7g_3 a0_7g_4 a0_7g_5 a0_7g_6 a0_7g_7 a0_7g_8 (.int a0_7_9) a0_7g_10 a0_7g_11 (.ref a0_7_12) (.ref a0_7_13) a0_7g_14 bx62.1 (Int.le_trans bx62.2.1 zq31) l6k0_a2 u6k0_a2 (Int.le_trans zq4 l6k0_a0_7_0) ba0_7_0_u) (cwV 2 hts gX7_aliveBy_X0_aliveByLaw rfl rfl rfl zd_X0_aliveByLaw ⟨Nat.le_of_ble_eq_true rfl, Nat.le_of_ble_eq_true rfl⟩) ⟨ax_blind (fun _ _ _ _ hq => va_Nw.same rfl rfl (hq)), zr_0 hKc hPc (q0 := 0) rfl, ax_pre hPc hKc hDc (fun _ hW => va_Nw.warmM hW hE0)⟩ rfl rfl hl.1 rfl (lv_room (Nat.le_of_ble_eq_true rfl)) dX7_aliveBy_64 ⟨Nat.le_of_ble_eq_true rfl, Nat.le_of_ble_eq_true rfl⟩) hS (fun q _ h => hFc q h) hFc (fun r64 u t H locs ht hvm hw hB hz1 hk1 hS1 => zo hB ht hS1 (fun hP1 hK1 hD1 hS => ?_))
          refine zc_backc (w := [(a0, .inr (7, [a0g_0, a0g_1, a0g_2, a0g_3, a0g_4, .ref a0_5, a0g_6, .ref a0_7, .int a0_8, a0g_9, a0g_10])), (a0_7, .inr (0, [.int a0_7_0, .int a0_7_1, a0_7g_2, a0_7g_3, a0_7g_4, a0_7g_5, a0_7g_6, a0_7g_7, a0_7g_8, .int a0_7_9, a0_7g_10, a0_7g_11, .ref a0_7_12, .ref a0_7_13, a0_7g_14])), (a0_5, .inr (2, [.int v28na0_0, a0_5g_1, a0_5g_2, .ref a0_5_3, a0_5g_4, .int v28na0_5, a0_5g_6])), (a0_5_3, .inl (ka0_5_3, 729, .inl (v28nfa0_3))), (a0_7_13, .inl (ka0_7_13, 6, .inl (fa0_7_13))), (a0_7_12, .inl (ka0_7_12, 6, .inl (fa0_7_12)))]) hP hD hCc hk1 hFc hP1 hD1 [.inl 0, .inr 0, .inl 2, .inl 3, .inl 4, .inl 5] (by decide +kernel) rfl (fun hP hD => ?_)
          obtain ⟨hw, hfr64⟩ := hw
          have hc64 : Ff_X0_aliveByLaw x62.toInt a2.toInt a0_7_0.toInt a0_7_1.toInt = r64.toInt := hfr64.symm
          have hF1 := hF1.trans (fl_lt_eq hc64.symm)
          have hw : (0 : Int) ≤ r64.toInt ∧ r64.toInt ≤ (9 : Int) := hw
          obtain ⟨h64_0, h64_1⟩ := hw
          refine lv_iload_n hx hb dX7_aliveBy_67 rfl (lv_at hl 1 rfl) ?_
          have J74 : ∀ (j74l4 : Int32) (H : Heap) (locs : List Loc) (ls : Array Slot), (SX37 = Gf_X7_aliveBy_74_1 j37l5.toInt j74l4.toInt) → va_P (dC, dI) vwCl [(a0, .inr (7, [a0g_0, a0g_1, a0g_2, a0g_3, a0g_4, .ref a0_5, a0g_6, .ref a0_7, .int a0_8, a0g_9, a0g_10])), (a0_7, .inr (0, [.int a0_7_0, .int a0_7_1, a0_7g_2, a0_7g_3, a0_7g_4, a0_7g_5, a0_7g_6, a0_7g_7, a0_7g_8, .int a0_7_9, a0_7g_10, a0_7g_11, .ref a0_7_12, .ref a0_7_13, a0_7g_14])), (a0_5, .inr (2, [.int v28na0_0, a0_5g_1, a0_5g_2, .ref a0_5_3, a0_5g_4, .int v28na0_5, a0_5g_6])), (a0_5_3, .inl (ka0_5_3, 729, .inl (v28nfa0_3))), (a0_7_13, .inl (ka0_7_13, 6, .inl (fa0_7_13))), (a0_7_12, .inl (ka0_7_12, 6, .inl (fa0_7_12)))] H → va_D A [(a0, .inr (7, [a0g_0, a0g_1, a0g_2, a0g_3, a0g_4, .ref a0_5, a0g_6, .ref a0_7, .int a0_8, a0g_9, a0g_10])), (a0_7, .inr (0, [.int a0_7_0, .int a0_7_1, a0_7g_2, a0_7g_3, a0_7g_4, a0_7g_5, a0_7g_6, a0_7g_7, a0_7g_8, .int a0_7_9, a0_7g_10, a0_7g_11, .ref a0_7_12, .ref a0_7_13, a0_7g_14])), (a0_5, .inr (2, [.int v28na0_0, a0_5g_1, a0_5g_2, .ref a0_5_3, a0_5g_4, .int v28na0_5, a0_5g_6])), (a0_5_3, .inl (ka0_5_3, 729, .inl (v28nfa0_3))), (a0_7_13, .inl (ka0_7_13, 6, .inl (fa0_7_13))), (a0_7_12, .inl (ka0_7_12, 6, .inl (fa0_7_12)))] → va_S A s.heap H locs → lv_has ls 6 [(0, .ref a0), (1, .int a1), (2, .int a2), (4, .int j74l4), (5, .int j37l5)] → K H locs (F0 m 74 ls []) := by
            intro j74l4 H locs ls  hF1 hP hD hS hl
            refine (hK0 _ _ _).mpr ?_
            have hF1 := hF1.trans (Gf_X7_aliveBy_74_1.eq_1 j37l5.toInt j74l4.toInt)
            obtain ⟨x74, ex74⟩ : ∃ y : Int32, y = j37l5 + Int32.ofInt 1 := ⟨_, rfl⟩
            have qx74 : x74.toInt = j37l5.toInt + 1 := ai_inc ex74 (by decide) (by decide) u46f_j37l5 (by decide)
            have bx74 : (1 : Int) ≤ x74.toInt ∧ x74.toInt ≤ 729 := ⟨by rw [qx74]; exact Int.add_le_add bj37l5_l (Int.le_refl _), by rw [qx74]; exact Int.add_le_add u46f_j37l5 (Int.le_refl _)⟩
            refine lv_iinc (v := x74) (lv' := [(5, .int x74), (0, .ref a0), (1, .int a1), (2, .int a2), (4, .int j74l4)]) hx hb dX7_aliveBy_74 hl (k := 4) rfl ex74.symm (by decide) rfl (fun ls hl => ?_)
            have hF1 := hF1.trans (fl_lt_eq (show x74.toInt = j37l5.toInt + 1 from qx74))
            refine lv_goto (tgt := 37) hx hb dX7_aliveBy_77 (by decide) ?_
            exact (hK0 _ _ _).mp (ih37 x74 j74l4 _ _ _ (by first | exact zg_s hm37 qx74 | (have h0 := qx74; omega)) (Int.le_trans zq4 bx74.1) bx74.2 (hF0.trans (fl_wh_l (hSX37.trans hF1))) hP hD hS (lv_sub hl [1, 2, 3, 4, 0] rfl))
          refine lv_icmp_ne (tgt := 74) hx hb dX7_aliveBy_68 (by decide) (fun c68 => ?_) (fun c68 => ?_)
          · have gc68 := ai_ne c68
            have hF1 := hF1.trans (if_neg (show ¬ (r64.toInt = a1.toInt) from  gc68))
            exact (hK0 _ _ _).mp (J74 j37l4 _ _ _   hF1 hP hD hS (lv_sub hl [0, 1, 2, 3, 4] rfl))
          · have gc68 := ai_eq c68
            have u68f_r64 : r64.toInt ≤ (8 : Int) := Int.le_trans (Int.le_of_eq gc68) u6k0_a1
            have l68f_r64 : (0 : Int) ≤ r64.toInt := h64_0
            have u68f_a1 : a1.toInt ≤ (8 : Int) := u6k0_a1
            have l68f_a1 : (0 : Int) ≤ a1.toInt := l6k0_a1
            have hF1 := hF1.trans (if_pos (show r64.toInt = a1.toInt from gc68))
            obtain ⟨x71, ex71⟩ : ∃ y : Int32, y = j37l4 + Int32.ofInt 1 := ⟨_, rfl⟩
            refine lv_iinc (v := x71) (lv' := [(4, .int x71), (0, .ref a0), (1, .int a1), (2, .int a2), (5, .int j37l5)]) hx hb dX7_aliveBy_71 hl (k := 3) rfl ex71.symm (by decide) rfl (fun ls hl => ?_)
            have fqx71 := fl_iadd_eq ex71
            have hF1 := hF1.trans (fl_lt_eq (show x71.toInt = fl_iadd j37l4.toInt 1 from fqx71))
            exact (hK0 _ _ _).mp (J74 x71 _ _ _   hF1 hP hD hS (lv_sub hl [1, 2, 3, 0, 4] rfl))
    exact (hK0 _ _ _).mp (J37 730 0 0 _ _ _ (by first | decide +kernel | (have h1 : (0 : Int) ≤ (0 : Int32).toInt := zq5; have h2 : (0 : Int32).toInt ≤ (0 : Int) := zq6; omega)) zq5 (Int.le_trans zq6 zq35) (by rw [show (0 : Int32).toInt = 0 from by decide]; exact hF0) hP hD hS (lv_sub hl [3, 4, 5, 1, 0] rfl))
  · subst hw
    have hF0 := hF0.trans (if_neg (by decide))
    have hF0 := hF0.trans (if_pos (by decide))
    refine lv_istore_n (lv' := [(3, .int 1), (0, .ref a0), (1, .int a1), (2, .int a2)]) hx hb dX7_aliveBy_9 rfl hl (by decide) rfl (fun ls hl => ?_)
    refine lv_iload_n hx hb dX7_aliveBy_10 rfl (lv_at hl 0 rfl) ?_
    refine lv_if_eq (tgt := 20) hx hb dX7_aliveBy_11 (by decide) (fun c11 => absurd c11 (by decide +kernel)) (fun _ => ?_)
    refine lv_aload_n hx hb dX7_aliveBy_14 rfl (lv_at hl 1 rfl) ?_
    refine lv_iload_n hx hb dX7_aliveBy_15 rfl (lv_at hl 0 rfl) ?_
    refine va_calli (va_runV (As := [.int 1]) (rest := []) ⟨hx, hb, hml, hown, hts⟩ (f_X7_refused l dC dI H.size a0 1 a0g_0 a0g_1 a0g_2 a0g_3 a0g_4 (.ref a0_5) a0g_6 (.ref a0_7) a0g_9 a0g_10 a0_8 ) (cwV 1 hts gX7_aliveBy_X7_refused rfl rfl rfl zd_X7_refused ⟨Nat.le_of_ble_eq_true rfl, Nat.le_of_ble_eq_true rfl⟩) ⟨ax_blind (fun _ _ _ _ _ => trivial), zr_7 (zp_K hK) (zp_P1 hP) (q0 := 0) rfl, ax_pre (zp_P1 hP) (zp_K hK) (zp_D1 hD) (fun _ _ => trivial)⟩ rfl rfl hl.1 rfl (lv_room (Nat.le_of_ble_eq_true rfl)) dX7_aliveBy_16 ⟨Nat.le_of_ble_eq_true rfl, Nat.le_of_ble_eq_true rfl⟩) hS (fun q _ h => zp_F1 hD hS hA q h) (zp_F1 hD hS hA) (fun r16 u t H locs ht hvm hw => zx_1 (fun v16na0_8 => zy_1 (fun hraw16_0 hB hz1 hk1 hS1 => zo1 hB ht hP hD hk1 (zp_F1 hD hS hA) hS1 (fun hP hK1 hD hS => ?_))))
    obtain ⟨hw, hfr16⟩ := hw
    rw [show (1 : Int32).toInt = 1 from by decide] at hfr16 hraw16_0
    have hc16 : Ff_X7_refused 1 = (r16.toInt, v16na0_8.toInt) := Prod.ext hfr16.symm hraw16_0
    have hF0 := hF0.trans (fl_c2_eq hc16)
    have hw : r16 = (-1) := hw
    have hw := hw.symm
    subst hw
    have hFe : FX = ((-1), v16na0_8.toInt, a0_5_0.toInt, a0_5_5.toInt, (fl_A fa0_5_3)) := hF0
    exact W.iret (v := (-1)) hx hb hr (fun t ht hW => ⟨⟨(-1), (), rfl, ⟨trivial, (congrArg Prod.fst hFe).symm⟩, v16na0_8, a0_5_0, a0_5_5, fa0_5_3, ⟨ba0_5_0_l, ba0_5_0_u⟩, ⟨ba0_5_5_l, ba0_5_5_u⟩, bfa0_5_3, (congrArg Prod.snd hFe), by rw [ht]; exact hP, va_K.moved hW.alike hK, hD⟩, hS.F ht⟩) hS.2.2 dX7_aliveBy_19
  · subst hw
    have hF0 := hF0.trans (if_neg (by decide))
    have hF0 := hF0.trans (if_neg (by decide))
    refine lv_istore_n (lv' := [(3, .int 2), (0, .ref a0), (1, .int a1), (2, .int a2)]) hx hb dX7_aliveBy_9 rfl hl (by decide) rfl (fun ls hl => ?_)
    refine lv_iload_n hx hb dX7_aliveBy_10 rfl (lv_at hl 0 rfl) ?_
    refine lv_if_eq (tgt := 20) hx hb dX7_aliveBy_11 (by decide) (fun c11 => absurd c11 (by decide +kernel)) (fun _ => ?_)
    refine lv_aload_n hx hb dX7_aliveBy_14 rfl (lv_at hl 1 rfl) ?_
    refine lv_iload_n hx hb dX7_aliveBy_15 rfl (lv_at hl 0 rfl) ?_
    refine va_calli (va_runV (As := [.int 2]) (rest := []) ⟨hx, hb, hml, hown, hts⟩ (f_X7_refused l dC dI H.size a0 2 a0g_0 a0g_1 a0g_2 a0g_3 a0g_4 (.ref a0_5) a0g_6 (.ref a0_7) a0g_9 a0g_10 a0_8 ) (cwV 1 hts gX7_aliveBy_X7_refused rfl rfl rfl zd_X7_refused ⟨Nat.le_of_ble_eq_true rfl, Nat.le_of_ble_eq_true rfl⟩) ⟨ax_blind (fun _ _ _ _ _ => trivial), zr_7 (zp_K hK) (zp_P1 hP) (q0 := 0) rfl, ax_pre (zp_P1 hP) (zp_K hK) (zp_D1 hD) (fun _ _ => trivial)⟩ rfl rfl hl.1 rfl (lv_room (Nat.le_of_ble_eq_true rfl)) dX7_aliveBy_16 ⟨Nat.le_of_ble_eq_true rfl, Nat.le_of_ble_eq_true rfl⟩) hS (fun q _ h => zp_F1 hD hS hA q h) (zp_F1 hD hS hA) (fun r16 u t H locs ht hvm hw => zx_1 (fun v16na0_8 => zy_1 (fun hraw16_0 hB hz1 hk1 hS1 => zo1 hB ht hP hD hk1 (zp_F1 hD hS hA) hS1 (fun hP hK1 hD hS => ?_))))
    obtain ⟨hw, hfr16⟩ := hw
    rw [show (2 : Int32).toInt = 2 from by decide] at hfr16 hraw16_0
    have hc16 : Ff_X7_refused 2 = (r16.toInt, v16na0_8.toInt) := Prod.ext hfr16.symm hraw16_0
    have hF0 := hF0.trans (fl_c2_eq hc16)
    have hw : r16 = (-1) := hw
    have hw := hw.symm
    subst hw
    have hFe : FX = ((-1), v16na0_8.toInt, a0_5_0.toInt, a0_5_5.toInt, (fl_A fa0_5_3)) := hF0
    exact W.iret (v := (-1)) hx hb hr (fun t ht hW => ⟨⟨(-1), (), rfl, ⟨trivial, (congrArg Prod.fst hFe).symm⟩, v16na0_8, a0_5_0, a0_5_5, fa0_5_3, ⟨ba0_5_0_l, ba0_5_0_u⟩, ⟨ba0_5_5_l, ba0_5_5_u⟩, bfa0_5_3, (congrArg Prod.snd hFe), by rw [ht]; exact hP, va_K.moved hW.alike hK, hD⟩, hS.F ht⟩) hS.2.2 dX7_aliveBy_19

set_option maxHeartbeats 4000000 in
set_option maxRecDepth 100000 in
theorem f_X7_look (l : Launch) (dC : Nat → ClassId) (dI : Nat → Nat → Nat) (sz : Nat) (a0 : Nat) (a0g_0 a0g_1 a0g_2 a0g_3 a0g_4 a0g_6 a0g_9 a0g_10 : Value) (a0_5 : Nat) (a0_7 : Nat) (a0_8 : Int32) (a0_7_0 : Int32) (a0_7_1 : Int32) (a0_7g_2 a0_7g_3 a0_7g_4 a0_7g_5 a0_7g_6 a0_7g_7 a0_7g_8 a0_7g_10 a0_7g_11 a0_7g_14 : Value) (a0_7_9 : Int32) (a0_7_12 : Nat) (a0_7_13 : Nat) (a0_5_0 : Int32) (a0_5_1 : Int32) (a0_5_2 : Int32) (a0_5_3 : Nat) (a0_5_4 : Nat) (a0_5_5 : Int32) (a0_5_6 : Int32) (ka0_5_3 : ClassId) (fa0_5_3 : Nat → Int32) (ka0_7_13 : ClassId) (fa0_7_13 : Nat → Int32) (ka0_7_12 : ClassId) (fa0_7_12 : Nat → Int32) (ka0_5_4 : ClassId) (fa0_5_4 : Nat → Int32) (ba0_7_0_l : (0 : Int) ≤ a0_7_0.toInt) (ba0_7_0_u : a0_7_0.toInt ≤ (9 : Int)) (ba0_7_9_l : (0 : Int) ≤ a0_7_9.toInt) (ba0_7_9_u : a0_7_9.toInt ≤ (6 : Int)) (ba0_5_0_l : (0 : Int) ≤ a0_5_0.toInt) (ba0_5_0_u : a0_5_0.toInt ≤ (729 : Int)) (ba0_5_5_l : (0 : Int) ≤ a0_5_5.toInt) (ba0_5_5_u : a0_5_5.toInt ≤ (1 : Int)) (ba0_5_6_l : (0 : Int) ≤ a0_5_6.toInt) (ba0_5_6_u : a0_5_6.toInt ≤ (1 : Int)) (bfa0_5_3 : (∀ k, (0 : Int) ≤ (fa0_5_3 k).toInt ∧ (fa0_5_3 k).toInt ≤ 888 ∧ (fa0_5_3 k).toInt % 10 ≤ 8)) (bfa0_7_13 : (∀ k, (0 : Int) ≤ (fa0_7_13 k).toInt ∧ (fa0_7_13 k).toInt ≤ 999)) : zm l yX7_look wsX7_look ({ frames := 5, cells := 0, slots := 0, locals := 122 }) [.ref a0] dC dI sz [(a0, .inr (7, [a0g_0, a0g_1, a0g_2, a0g_3, a0g_4, .ref a0_5, a0g_6, .ref a0_7, .int a0_8, a0g_9, a0g_10])), (a0_7, .inr (0, [.int a0_7_0, .int a0_7_1, a0_7g_2, a0_7g_3, a0_7g_4, a0_7g_5, a0_7g_6, a0_7g_7, a0_7g_8, .int a0_7_9, a0_7g_10, a0_7g_11, .ref a0_7_12, .ref a0_7_13, a0_7g_14])), (a0_5, .inr (2, [.int a0_5_0, .int a0_5_1, .int a0_5_2, .ref a0_5_3, .ref a0_5_4, .int a0_5_5, .int a0_5_6])), (a0_5_3, .inl (ka0_5_3, 729, .inl (fa0_5_3))), (a0_7_13, .inl (ka0_7_13, 6, .inl (fa0_7_13))), (a0_7_12, .inl (ka0_7_12, 6, .inl (fa0_7_12))), (a0_5_4, .inl (ka0_5_4, 900, .inl (fa0_5_4)))] [(ka0_5_3, .int), (ka0_7_13, .int), (ka0_7_12, .int), (ka0_5_4, .int)] (fun A U => va_Nw (.methodLinkNest RX0 72 yX7_laterTurn RX7) U) (fun A => va_Qi (fun (r : Int32) (_ : Unit) => (True) ∧ r.toInt = (Ff_X7_look a0_7_0.toInt a0_7_1.toInt a0_7_9.toInt a0_5_0.toInt a0_5_1.toInt a0_5_2.toInt a0_5_5.toInt a0_5_6.toInt (fl_A fa0_5_3) (fl_A fa0_7_13) (fl_A fa0_7_12) (fl_A fa0_5_4)).1) (fun (_ : Unit) (t : State) => ∃ na0_8 : Int32, ∃ na0_5_0 : Int32, ∃ na0_5_1 : Int32, ∃ na0_5_2 : Int32, ∃ na0_5_5 : Int32, ∃ na0_5_6 : Int32, ∃ nfa0_5_3 : Nat → Int32, ∃ nfa0_5_4 : Nat → Int32, ((0 : Int) ≤ na0_5_0.toInt ∧ na0_5_0.toInt ≤ 729) ∧ ((0 : Int) ≤ na0_5_5.toInt ∧ na0_5_5.toInt ≤ 1) ∧ ((0 : Int) ≤ na0_5_6.toInt ∧ na0_5_6.toInt ≤ 1) ∧ (∀ k, (0 : Int) ≤ (nfa0_5_3 k).toInt ∧ (nfa0_5_3 k).toInt ≤ 888 ∧ (nfa0_5_3 k).toInt % 10 ≤ 8) ∧ ((Ff_X7_look a0_7_0.toInt a0_7_1.toInt a0_7_9.toInt a0_5_0.toInt a0_5_1.toInt a0_5_2.toInt a0_5_5.toInt a0_5_6.toInt (fl_A fa0_5_3) (fl_A fa0_7_13) (fl_A fa0_7_12) (fl_A fa0_5_4)).2 = (na0_8.toInt, na0_5_0.toInt, na0_5_1.toInt, na0_5_2.toInt, na0_5_5.toInt, na0_5_6.toInt, (fl_A nfa0_5_3), (fl_A nfa0_5_4))) ∧ ax_B dC dI A [(a0, .inr (7, [a0g_0, a0g_1, a0g_2, a0g_3, a0g_4, .ref a0_5, a0g_6, .ref a0_7, .int na0_8, a0g_9, a0g_10])), (a0_7, .inr (0, [.int a0_7_0, .int a0_7_1, a0_7g_2, a0_7g_3, a0_7g_4, a0_7g_5, a0_7g_6, a0_7g_7, a0_7g_8, .int a0_7_9, a0_7g_10, a0_7g_11, .ref a0_7_12, .ref a0_7_13, a0_7g_14])), (a0_5, .inr (2, [.int na0_5_0, .int na0_5_1, .int na0_5_2, .ref a0_5_3, .ref a0_5_4, .int na0_5_5, .int na0_5_6])), (a0_5_3, .inl (ka0_5_3, 729, .inl (nfa0_5_3))), (a0_7_13, .inl (ka0_7_13, 6, .inl (fa0_7_13))), (a0_7_12, .inl (ka0_7_12, 6, .inl (fa0_7_12))), (a0_5_4, .inl (ka0_5_4, 900, .inl (nfa0_5_4)))] [(ka0_5_3, .int), (ka0_7_13, .int), (ka0_7_12, .int), (ka0_5_4, .int)] t) A) := by
  refine zh (cc := cX7_look) (maxL := 1) (ret := (some .int)) zn_RX7 rfl (Nat.le_of_ble_eq_true rfl) (fun p e s m below meth c A ls hx hb hml hr hts (hown : s.vm.findClass RX7 = some m.cls) hlocks hA hS hP hK hD hE (hl : lv_has ls 1 [(0, .ref a0)]) => ?_)
  have hE0 := hE
  generalize hFX : Ff_X7_look a0_7_0.toInt a0_7_1.toInt a0_7_9.toInt a0_5_0.toInt a0_5_1.toInt a0_5_2.toInt a0_5_5.toInt a0_5_6.toInt (fl_A fa0_5_3) (fl_A fa0_7_13) (fl_A fa0_7_12) (fl_A fa0_5_4) = FX at ⊢
  have hF0 := hFX.symm.trans (Ff_X7_look.eq_1 a0_7_0.toInt a0_7_1.toInt a0_7_9.toInt a0_5_0.toInt a0_5_1.toInt a0_5_2.toInt a0_5_5.toInt a0_5_6.toInt (fl_A fa0_5_3) (fl_A fa0_7_13) (fl_A fa0_7_12) (fl_A fa0_5_4))
  refine lv_aload_n hx hb dX7_look_0 rfl (lv_at hl 0 rfl) ?_
  refine va_calli (va_runV (As := []) (rest := []) ⟨hx, hb, hml, hown, hts⟩ (f_X7_hasGallery l dC dI s.heap.size a0 a0g_0 a0g_1 a0g_2 a0g_3 a0g_4 (.ref a0_5) a0g_6 (.int a0_8) a0g_9 a0g_10 a0_7 a0_7_0 (.int a0_7_1) a0_7g_2 a0_7g_3 a0_7g_4 a0_7g_5 a0_7g_6 a0_7g_7 a0_7g_8 (.int a0_7_9) a0_7g_10 a0_7g_11 (.ref a0_7_12) (.ref a0_7_13) a0_7g_14 ba0_7_0_l ba0_7_0_u) (cwV 0 hts gX7_look_X7_hasGallery rfl rfl rfl zd_X7_hasGallery ⟨Nat.le_of_ble_eq_true rfl, Nat.le_of_ble_eq_true rfl⟩) ⟨ax_blind (fun _ _ _ _ _ => trivial), zr_7 (zp_K hK) (zp_P2 hP) (q0 := 0) rfl, ax_pre (zp_P2 hP) (zp_K hK) (zp_D2 hD) (fun _ _ => trivial)⟩ rfl rfl hl.1 rfl (lv_room (Nat.le_of_ble_eq_true rfl)) dX7_look_1 ⟨Nat.le_of_ble_eq_true rfl, Nat.le_of_ble_eq_true rfl⟩) hS (fun q _ h => zp_F2 hD hS hA q h) (zp_F2 hD hS hA) (fun r1 u t H locs ht hvm hw hB hz1 hk1 hS1 => zo2 hB ht hP hD hk1 (zp_F2 hD hS hA) hS1 (fun hP hK1 hD hS => ?_))
  obtain ⟨hw, hfr1⟩ := hw
  have hc1 : Ff_X7_hasGallery a0_7_0.toInt = r1.toInt := hfr1.symm
  have hF0 := hF0.trans (fl_lt_eq hc1.symm)
  rcases hw with hw | hw
  · obtain ⟨hw, h1_0, h1_1⟩ := hw
    subst hw
    have l1k0_a0_7_0 : (1 : Int) ≤ a0_7_0.toInt := h1_0
    have u1k0_a0_7_0 : a0_7_0.toInt ≤ (9 : Int) := ba0_7_0_u
    have hF0 := hF0.trans (if_pos (by decide))
    refine lv_if_ne (tgt := 13) hx hb dX7_look_4 (by decide) (fun _ => ?_) (fun c4 => absurd c4 (by decide +kernel))
    refine lv_aload_n hx hb dX7_look_13 rfl (lv_at hl 0 rfl) ?_
    refine va_get (D := (dC, dI)) (ci := 7) (v := .ref a0_5) (C := RX7) (T := TX7) (N := 11) hx hb hts zi_X7_look_7 hown hK hP 0 rfl rfl 5 (by decide) (hts (.fieldLink RX7 43 "WaxTurns" "laws" "LWaxTurns$Laws;") (zm_X7_look_r1 (List.mem_of_getElem? (i := 0) rfl))) (fun _ h9 => h9) rfl dX7_look_14 ?_
    refine lv_aload_n hx hb dX7_look_17 rfl (lv_at hl 0 rfl) ?_
    refine va_get (D := (dC, dI)) (ci := 7) (v := .ref a0_7) (C := RX7) (T := TX7) (N := 11) hx hb hts zi_X7_look_7 hown hK hP 0 rfl rfl 7 (by decide) (hts (.fieldLink RX7 57 "WaxTurns" "hall" "LWaxTurns$Hall;") (zm_X7_look_r1 (List.mem_of_getElem? (i := 1) rfl))) (fun _ h9 => h9) rfl dX7_look_18 ?_
    refine zc_cutc (wc := [(a0_5, .inr (2, [.int a0_5_0, .int a0_5_1, .int a0_5_2, .ref a0_5_3, .ref a0_5_4, .int a0_5_5, .int a0_5_6])), (a0_7, .inr (0, [.int a0_7_0, .int a0_7_1, a0_7g_2, a0_7g_3, a0_7g_4, a0_7g_5, a0_7g_6, a0_7g_7, a0_7g_8, .int a0_7_9, a0_7g_10, a0_7g_11, .ref a0_7_12, .ref a0_7_13, a0_7g_14])), (a0_5_3, .inl (ka0_5_3, 729, .inl (fa0_5_3))), (a0_7_13, .inl (ka0_7_13, 6, .inl (fa0_7_13))), (a0_7_12, .inl (ka0_7_12, 6, .inl (fa0_7_12))), (a0_5_4, .inl (ka0_5_4, 900, .inl (fa0_5_4)))]) hP hD hS hA [2, 1, 3, 4, 5, 6] (by decide +kernel) rfl (fun hPc hDc hFc hCc => ?_)
    have hKc := hK.sub (tys' := [(ka0_5_3, .int), (ka0_7_13, .int), (ka0_7_12, .int), (ka0_5_4, .int)]) [0, 1, 2, 3] rfl
    refine va_callv (va_runV (As := [.ref a0_7]) (rest := []) ⟨hx, hb, hml, hown, hts⟩ (f_X2_chooseLook l dC dI H.size a0_5 a0_7 a0_5_0 a0_5_1 a0_5_2 a0_5_3 a0_5_4 a0_5_5 a0_5_6 a0_7_0 a0_7_1 a0_7g_2 a0_7g_3 a0_7g_4 a0_7g_5 a0_7g_6 a0_7g_7 a0_7g_8 a0_7g_10 a0_7g_11 a0_7g_14 a0_7_9 a0_7_12 a0_7_13 ka0_5_3 fa0_5_3 ka0_7_13 fa0_7_13 ka0_7_12 fa0_7_12 ka0_5_4 fa0_5_4 ba0_5_0_l ba0_5_0_u ba0_5_5_l ba0_5_5_u ba0_5_6_l ba0_5_6_u (Int.le_trans zq4 l1k0_a0_7_0) u1k0_a0_7_0 ba0_7_9_l ba0_7_9_u bfa0_5_3 bfa0_7_13) (cwV 1 hts gX7_look_X2_chooseLook rfl rfl rfl zd_X2_chooseLook ⟨Nat.le_of_ble_eq_true rfl, Nat.le_of_ble_eq_true rfl⟩) ⟨ax_blind (fun _ _ _ _ hq => va_Nw.same rfl rfl (hq)), zr_2 hKc hPc (q0 := 0) rfl, ax_pre hPc hKc hDc (fun _ hW => va_Nw.warmM hW hE0)⟩ rfl rfl hl.1 rfl (lv_room (Nat.le_of_ble_eq_true rfl)) dX7_look_21 ⟨Nat.le_of_ble_eq_true rfl, Nat.le_of_ble_eq_true rfl⟩) hS (fun q _ h => hFc q h) hFc (fun u t H locs ht hvm hw => zx_7 (fun v21na0_0 v21na0_1 v21na0_2 v21na0_5 v21na0_6 v21nfa0_3 v21nfa0_4 => zy_5 (fun bv21na0_0 bv21na0_5 bv21na0_6 bv21nfa0_3 hraw21_0 hB hz1 hk1 hS1 => zo hB ht hS1 (fun hP1 hK1 hD1 hS => ?_))))
    refine zc_backc (w := [(a0, .inr (7, [a0g_0, a0g_1, a0g_2, a0g_3, a0g_4, .ref a0_5, a0g_6, .ref a0_7, .int a0_8, a0g_9, a0g_10])), (a0_7, .inr (0, [.int a0_7_0, .int a0_7_1, a0_7g_2, a0_7g_3, a0_7g_4, a0_7g_5, a0_7g_6, a0_7g_7, a0_7g_8, .int a0_7_9, a0_7g_10, a0_7g_11, .ref a0_7_12, .ref a0_7_13, a0_7g_14])), (a0_5, .inr (2, [.int v21na0_0, .int v21na0_1, .int v21na0_2, .ref a0_5_3, .ref a0_5_4, .int v21na0_5, .int v21na0_6])), (a0_5_3, .inl (ka0_5_3, 729, .inl (v21nfa0_3))), (a0_7_13, .inl (ka0_7_13, 6, .inl (fa0_7_13))), (a0_7_12, .inl (ka0_7_12, 6, .inl (fa0_7_12))), (a0_5_4, .inl (ka0_5_4, 900, .inl (v21nfa0_4)))]) hP hD hCc hk1 hFc hP1 hD1 [.inl 0, .inr 1, .inr 0, .inr 2, .inr 3, .inr 4, .inr 5] (by decide +kernel) rfl (fun hP hD => ?_)
    have hc21 : Ff_X2_chooseLook a0_5_0.toInt a0_5_1.toInt a0_5_2.toInt a0_5_5.toInt a0_5_6.toInt a0_7_0.toInt a0_7_1.toInt a0_7_9.toInt (fl_A fa0_5_3) (fl_A fa0_7_13) (fl_A fa0_7_12) (fl_A fa0_5_4) = (v21na0_0.toInt, v21na0_1.toInt, v21na0_2.toInt, v21na0_5.toInt, v21na0_6.toInt, (fl_A v21nfa0_3), (fl_A v21nfa0_4)) := hraw21_0
    have hF0 := hF0.trans (fl_c7_eq hc21)
    refine lv_aload_n hx hb dX7_look_24 rfl (lv_at hl 0 rfl) ?_
    refine lv_aload_n hx hb dX7_look_25 rfl (lv_at hl 0 rfl) ?_
    refine va_get (D := (dC, dI)) (ci := 7) (v := .ref a0_5) (C := RX7) (T := TX7) (N := 11) hx hb hts zi_X7_look_7 hown hK hP 0 rfl rfl 5 (by decide) (hts (.fieldLink RX7 43 "WaxTurns" "laws" "LWaxTurns$Laws;") (zm_X7_look_r1 (List.mem_of_getElem? (i := 0) rfl))) (fun _ h9 => h9) rfl dX7_look_26 ?_
    refine va_get (D := (dC, dI)) (ci := 2) (v := .int v21na0_1) (C := RX2) (T := TX2) (N := 7) hx hb hts zi_X7_look_2 hown hK hP 2 rfl rfl 1 (by decide) (hts (.fieldLink RX7 275 "WaxTurns$Laws" "lookMinute" "I") (zm_X7_look_r1 (List.mem_of_getElem? (i := 2) rfl))) (fun _ h9 => h9) rfl dX7_look_29 ?_
    refine va_calli (va_runV (As := [.int v21na0_1]) (rest := []) ⟨hx, hb, hml, hown, hts⟩ (f_X7_answered l dC dI H.size a0 v21na0_1 a0g_0 a0g_1 a0g_2 a0g_3 a0g_4 (.ref a0_5) a0g_6 (.ref a0_7) a0g_9 a0g_10 a0_8 ) (cwV 1 hts gX7_look_X7_answered rfl rfl rfl zd_X7_answered ⟨Nat.le_of_ble_eq_true rfl, Nat.le_of_ble_eq_true rfl⟩) ⟨ax_blind (fun _ _ _ _ _ => trivial), zr_7 (zp_K hK) (zp_P1 hP) (q0 := 0) rfl, ax_pre (zp_P1 hP) (zp_K hK) (zp_D1 hD) (fun _ _ => trivial)⟩ rfl rfl hl.1 rfl (lv_room (Nat.le_of_ble_eq_true rfl)) dX7_look_32 ⟨Nat.le_of_ble_eq_true rfl, Nat.le_of_ble_eq_true rfl⟩) hS (fun q _ h => zp_F1 hD hS hA q h) (zp_F1 hD hS hA) (fun r32 u t H locs ht hvm hw => zx_1 (fun v32na0_8 => zy_1 (fun hraw32_0 hB hz1 hk1 hS1 => zo1 hB ht hP hD hk1 (zp_F1 hD hS hA) hS1 (fun hP hK1 hD hS => ?_))))
    obtain ⟨hw, hfr32⟩ := hw
    have hc32 : Ff_X7_answered v21na0_1.toInt = (r32.toInt, v32na0_8.toInt) := Prod.ext hfr32.symm hraw32_0
    have hF0 := hF0.trans (fl_c2_eq hc32)
    have hw : r32 = v21na0_1 := hw
    have hw := hw.symm
    subst hw
    have hFe : FX = (v21na0_1.toInt, v32na0_8.toInt, v21na0_0.toInt, v21na0_1.toInt, v21na0_2.toInt, v21na0_5.toInt, v21na0_6.toInt, (fl_A v21nfa0_3), (fl_A v21nfa0_4)) := hF0
    exact W.iret (v := v21na0_1) hx hb hr (fun t ht hW => ⟨⟨v21na0_1, (), rfl, ⟨trivial, (congrArg Prod.fst hFe).symm⟩, v32na0_8, v21na0_0, v21na0_1, v21na0_2, v21na0_5, v21na0_6, v21nfa0_3, v21nfa0_4, ⟨bv21na0_0.1, bv21na0_0.2⟩, ⟨bv21na0_5.1, bv21na0_5.2⟩, ⟨bv21na0_6.1, bv21na0_6.2⟩, bv21nfa0_3, (congrArg Prod.snd hFe), by rw [ht]; exact hP, va_K.moved hW.alike hK, hD⟩, hS.F ht⟩) hS.2.2 dX7_look_35
  · obtain ⟨hw, h1_0, h1_1⟩ := hw
    subst hw
    have l1k1_a0_7_0 : (0 : Int) ≤ a0_7_0.toInt := ba0_7_0_l
    have u1k1_a0_7_0 : a0_7_0.toInt ≤ (0 : Int) := h1_1
    have hF0 := hF0.trans (if_neg (by decide))
    refine lv_if_ne (tgt := 13) hx hb dX7_look_4 (by decide) (fun c4 => absurd (by decide +kernel) c4) (fun _ => ?_)
    refine lv_aload_n hx hb dX7_look_7 rfl (lv_at hl 0 rfl) ?_
    refine lv_iconst (v := 1) hx hb dX7_look_8 zk_iconst_1 ?_
    refine va_calli (va_runV (As := [.int 1]) (rest := []) ⟨hx, hb, hml, hown, hts⟩ (f_X7_refused l dC dI H.size a0 1 a0g_0 a0g_1 a0g_2 a0g_3 a0g_4 (.ref a0_5) a0g_6 (.ref a0_7) a0g_9 a0g_10 a0_8 ) (cwV 1 hts gX7_look_X7_refused rfl rfl rfl zd_X7_refused ⟨Nat.le_of_ble_eq_true rfl, Nat.le_of_ble_eq_true rfl⟩) ⟨ax_blind (fun _ _ _ _ _ => trivial), zr_7 (zp_K hK) (zp_P1 hP) (q0 := 0) rfl, ax_pre (zp_P1 hP) (zp_K hK) (zp_D1 hD) (fun _ _ => trivial)⟩ rfl rfl hl.1 rfl (lv_room (Nat.le_of_ble_eq_true rfl)) dX7_look_9 ⟨Nat.le_of_ble_eq_true rfl, Nat.le_of_ble_eq_true rfl⟩) hS (fun q _ h => zp_F1 hD hS hA q h) (zp_F1 hD hS hA) (fun r9 u t H locs ht hvm hw => zx_1 (fun v9na0_8 => zy_1 (fun hraw9_0 hB hz1 hk1 hS1 => zo1 hB ht hP hD hk1 (zp_F1 hD hS hA) hS1 (fun hP hK1 hD hS => ?_))))
    obtain ⟨hw, hfr9⟩ := hw
    rw [show (1 : Int32).toInt = 1 from by decide] at hfr9 hraw9_0
    have hc9 : Ff_X7_refused 1 = (r9.toInt, v9na0_8.toInt) := Prod.ext hfr9.symm hraw9_0
    have hF0 := hF0.trans (fl_c2_eq hc9)
    have hw : r9 = (-1) := hw
    have hw := hw.symm
    subst hw
    have hFe : FX = ((-1), v9na0_8.toInt, a0_5_0.toInt, a0_5_1.toInt, a0_5_2.toInt, a0_5_5.toInt, a0_5_6.toInt, (fl_A fa0_5_3), (fl_A fa0_5_4)) := hF0
    exact W.iret (v := (-1)) hx hb hr (fun t ht hW => ⟨⟨(-1), (), rfl, ⟨trivial, (congrArg Prod.fst hFe).symm⟩, v9na0_8, a0_5_0, a0_5_1, a0_5_2, a0_5_5, a0_5_6, fa0_5_3, fa0_5_4, ⟨ba0_5_0_l, ba0_5_0_u⟩, ⟨ba0_5_5_l, ba0_5_5_u⟩, ⟨ba0_5_6_l, ba0_5_6_u⟩, bfa0_5_3, (congrArg Prod.snd hFe), by rw [ht]; exact hP, va_K.moved hW.alike hK, hD⟩, hS.F ht⟩) hS.2.2 dX7_look_12
end P314_20_f
section P314_21_f
set_option maxHeartbeats 4000000 in
set_option maxRecDepth 100000 in
theorem f_X7_lookLeaves (l : Launch) (dC : Nat → ClassId) (dI : Nat → Nat → Nat) (sz : Nat) (a0 : Nat) (a0g_0 a0g_1 a0g_2 a0g_3 a0g_4 a0g_6 a0g_9 a0g_10 : Value) (a0_5 : Nat) (a0_7 : Nat) (a0_8 : Int32) (a0_7_0 : Int32) (a0_7_1 : Int32) (a0_7g_2 a0_7g_3 a0_7g_4 a0_7g_5 a0_7g_6 a0_7g_7 a0_7g_8 a0_7g_10 a0_7g_11 a0_7g_14 : Value) (a0_7_9 : Int32) (a0_7_12 : Nat) (a0_7_13 : Nat) (a0_5_0 : Int32) (a0_5_1 : Int32) (a0_5_2 : Int32) (a0_5_3 : Nat) (a0_5_4 : Nat) (a0_5_5 : Int32) (a0_5_6 : Int32) (ka0_5_3 : ClassId) (fa0_5_3 : Nat → Int32) (ka0_7_13 : ClassId) (fa0_7_13 : Nat → Int32) (ka0_7_12 : ClassId) (fa0_7_12 : Nat → Int32) (ka0_5_4 : ClassId) (fa0_5_4 : Nat → Int32) (ba0_7_0_l : (0 : Int) ≤ a0_7_0.toInt) (ba0_7_0_u : a0_7_0.toInt ≤ (9 : Int)) (ba0_7_9_l : (0 : Int) ≤ a0_7_9.toInt) (ba0_7_9_u : a0_7_9.toInt ≤ (6 : Int)) (ba0_5_0_l : (0 : Int) ≤ a0_5_0.toInt) (ba0_5_0_u : a0_5_0.toInt ≤ (729 : Int)) (ba0_5_5_l : (0 : Int) ≤ a0_5_5.toInt) (ba0_5_5_u : a0_5_5.toInt ≤ (1 : Int)) (ba0_5_6_l : (0 : Int) ≤ a0_5_6.toInt) (ba0_5_6_u : a0_5_6.toInt ≤ (1 : Int)) (bfa0_5_3 : (∀ k, (0 : Int) ≤ (fa0_5_3 k).toInt ∧ (fa0_5_3 k).toInt ≤ 888 ∧ (fa0_5_3 k).toInt % 10 ≤ 8)) (bfa0_7_13 : (∀ k, (0 : Int) ≤ (fa0_7_13 k).toInt ∧ (fa0_7_13 k).toInt ≤ 999)) : zm l yX7_lookLeaves wsX7_lookLeaves ({ frames := 5, cells := 0, slots := 0, locals := 122 }) [.ref a0] dC dI sz [(a0, .inr (7, [a0g_0, a0g_1, a0g_2, a0g_3, a0g_4, .ref a0_5, a0g_6, .ref a0_7, .int a0_8, a0g_9, a0g_10])), (a0_7, .inr (0, [.int a0_7_0, .int a0_7_1, a0_7g_2, a0_7g_3, a0_7g_4, a0_7g_5, a0_7g_6, a0_7g_7, a0_7g_8, .int a0_7_9, a0_7g_10, a0_7g_11, .ref a0_7_12, .ref a0_7_13, a0_7g_14])), (a0_5, .inr (2, [.int a0_5_0, .int a0_5_1, .int a0_5_2, .ref a0_5_3, .ref a0_5_4, .int a0_5_5, .int a0_5_6])), (a0_5_3, .inl (ka0_5_3, 729, .inl (fa0_5_3))), (a0_7_13, .inl (ka0_7_13, 6, .inl (fa0_7_13))), (a0_7_12, .inl (ka0_7_12, 6, .inl (fa0_7_12))), (a0_5_4, .inl (ka0_5_4, 900, .inl (fa0_5_4)))] [(ka0_5_3, .int), (ka0_7_13, .int), (ka0_7_12, .int), (ka0_5_4, .int)] (fun A U => va_Nw (.methodLinkNest RX0 72 yX7_laterTurn RX7) U) (fun A => va_Qi (fun (r : Int32) (_ : Unit) => (True) ∧ r.toInt = (Ff_X7_lookLeaves a0_7_0.toInt a0_7_1.toInt a0_7_9.toInt a0_5_0.toInt a0_5_1.toInt a0_5_2.toInt a0_5_5.toInt a0_5_6.toInt (fl_A fa0_5_3) (fl_A fa0_7_13) (fl_A fa0_7_12) (fl_A fa0_5_4)).1) (fun (_ : Unit) (t : State) => ∃ na0_8 : Int32, ∃ na0_5_0 : Int32, ∃ na0_5_1 : Int32, ∃ na0_5_2 : Int32, ∃ na0_5_5 : Int32, ∃ na0_5_6 : Int32, ∃ nfa0_5_3 : Nat → Int32, ∃ nfa0_5_4 : Nat → Int32, ((0 : Int) ≤ na0_5_0.toInt ∧ na0_5_0.toInt ≤ 729) ∧ ((0 : Int) ≤ na0_5_5.toInt ∧ na0_5_5.toInt ≤ 1) ∧ ((0 : Int) ≤ na0_5_6.toInt ∧ na0_5_6.toInt ≤ 1) ∧ (∀ k, (0 : Int) ≤ (nfa0_5_3 k).toInt ∧ (nfa0_5_3 k).toInt ≤ 888 ∧ (nfa0_5_3 k).toInt % 10 ≤ 8) ∧ ((Ff_X7_lookLeaves a0_7_0.toInt a0_7_1.toInt a0_7_9.toInt a0_5_0.toInt a0_5_1.toInt a0_5_2.toInt a0_5_5.toInt a0_5_6.toInt (fl_A fa0_5_3) (fl_A fa0_7_13) (fl_A fa0_7_12) (fl_A fa0_5_4)).2 = (na0_8.toInt, na0_5_0.toInt, na0_5_1.toInt, na0_5_2.toInt, na0_5_5.toInt, na0_5_6.toInt, (fl_A nfa0_5_3), (fl_A nfa0_5_4))) ∧ ax_B dC dI A [(a0, .inr (7, [a0g_0, a0g_1, a0g_2, a0g_3, a0g_4, .ref a0_5, a0g_6, .ref a0_7, .int na0_8, a0g_9, a0g_10])), (a0_7, .inr (0, [.int a0_7_0, .int a0_7_1, a0_7g_2, a0_7g_3, a0_7g_4, a0_7g_5, a0_7g_6, a0_7g_7, a0_7g_8, .int a0_7_9, a0_7g_10, a0_7g_11, .ref a0_7_12, .ref a0_7_13, a0_7g_14])), (a0_5, .inr (2, [.int na0_5_0, .int na0_5_1, .int na0_5_2, .ref a0_5_3, .ref a0_5_4, .int na0_5_5, .int na0_5_6])), (a0_5_3, .inl (ka0_5_3, 729, .inl (nfa0_5_3))), (a0_7_13, .inl (ka0_7_13, 6, .inl (fa0_7_13))), (a0_7_12, .inl (ka0_7_12, 6, .inl (fa0_7_12))), (a0_5_4, .inl (ka0_5_4, 900, .inl (nfa0_5_4)))] [(ka0_5_3, .int), (ka0_7_13, .int), (ka0_7_12, .int), (ka0_5_4, .int)] t) A) := by
  refine zh (cc := cX7_lookLeaves) (maxL := 1) (ret := (some .int)) zn_RX7 rfl (Nat.le_of_ble_eq_true rfl) (fun p e s m below meth c A ls hx hb hml hr hts (hown : s.vm.findClass RX7 = some m.cls) hlocks hA hS hP hK hD hE (hl : lv_has ls 1 [(0, .ref a0)]) => ?_)
  have hE0 := hE
  generalize hFX : Ff_X7_lookLeaves a0_7_0.toInt a0_7_1.toInt a0_7_9.toInt a0_5_0.toInt a0_5_1.toInt a0_5_2.toInt a0_5_5.toInt a0_5_6.toInt (fl_A fa0_5_3) (fl_A fa0_7_13) (fl_A fa0_7_12) (fl_A fa0_5_4) = FX at ⊢
  have hF0 := hFX.symm.trans (Ff_X7_lookLeaves.eq_1 a0_7_0.toInt a0_7_1.toInt a0_7_9.toInt a0_5_0.toInt a0_5_1.toInt a0_5_2.toInt a0_5_5.toInt a0_5_6.toInt (fl_A fa0_5_3) (fl_A fa0_7_13) (fl_A fa0_7_12) (fl_A fa0_5_4))
  refine lv_aload_n hx hb dX7_lookLeaves_0 rfl (lv_at hl 0 rfl) ?_
  refine va_calli (va_runV (As := []) (rest := []) ⟨hx, hb, hml, hown, hts⟩ (f_X7_hasGallery l dC dI s.heap.size a0 a0g_0 a0g_1 a0g_2 a0g_3 a0g_4 (.ref a0_5) a0g_6 (.int a0_8) a0g_9 a0g_10 a0_7 a0_7_0 (.int a0_7_1) a0_7g_2 a0_7g_3 a0_7g_4 a0_7g_5 a0_7g_6 a0_7g_7 a0_7g_8 (.int a0_7_9) a0_7g_10 a0_7g_11 (.ref a0_7_12) (.ref a0_7_13) a0_7g_14 ba0_7_0_l ba0_7_0_u) (cwV 0 hts gX7_lookLeaves_X7_hasGallery rfl rfl rfl zd_X7_hasGallery ⟨Nat.le_of_ble_eq_true rfl, Nat.le_of_ble_eq_true rfl⟩) ⟨ax_blind (fun _ _ _ _ _ => trivial), zr_7 (zp_K hK) (zp_P2 hP) (q0 := 0) rfl, ax_pre (zp_P2 hP) (zp_K hK) (zp_D2 hD) (fun _ _ => trivial)⟩ rfl rfl hl.1 rfl (lv_room (Nat.le_of_ble_eq_true rfl)) dX7_lookLeaves_1 ⟨Nat.le_of_ble_eq_true rfl, Nat.le_of_ble_eq_true rfl⟩) hS (fun q _ h => zp_F2 hD hS hA q h) (zp_F2 hD hS hA) (fun r1 u t H locs ht hvm hw hB hz1 hk1 hS1 => zo2 hB ht hP hD hk1 (zp_F2 hD hS hA) hS1 (fun hP hK1 hD hS => ?_))
  obtain ⟨hw, hfr1⟩ := hw
  have hc1 : Ff_X7_hasGallery a0_7_0.toInt = r1.toInt := hfr1.symm
  have hF0 := hF0.trans (fl_lt_eq hc1.symm)
  rcases hw with hw | hw
  · obtain ⟨hw, h1_0, h1_1⟩ := hw
    subst hw
    have l1k0_a0_7_0 : (1 : Int) ≤ a0_7_0.toInt := h1_0
    have u1k0_a0_7_0 : a0_7_0.toInt ≤ (9 : Int) := ba0_7_0_u
    have hF0 := hF0.trans (if_pos (by decide))
    refine lv_if_ne (tgt := 13) hx hb dX7_lookLeaves_4 (by decide) (fun _ => ?_) (fun c4 => absurd c4 (by decide +kernel))
    refine lv_aload_n hx hb dX7_lookLeaves_13 rfl (lv_at hl 0 rfl) ?_
    refine va_get (D := (dC, dI)) (ci := 7) (v := .ref a0_5) (C := RX7) (T := TX7) (N := 11) hx hb hts zi_X7_lookLeaves_7 hown hK hP 0 rfl rfl 5 (by decide) (hts (.fieldLink RX7 43 "WaxTurns" "laws" "LWaxTurns$Laws;") (zm_X7_lookLeaves_r1 (List.mem_of_getElem? (i := 0) rfl))) (fun _ h9 => h9) rfl dX7_lookLeaves_14 ?_
    refine lv_aload_n hx hb dX7_lookLeaves_17 rfl (lv_at hl 0 rfl) ?_
    refine va_get (D := (dC, dI)) (ci := 7) (v := .ref a0_7) (C := RX7) (T := TX7) (N := 11) hx hb hts zi_X7_lookLeaves_7 hown hK hP 0 rfl rfl 7 (by decide) (hts (.fieldLink RX7 57 "WaxTurns" "hall" "LWaxTurns$Hall;") (zm_X7_lookLeaves_r1 (List.mem_of_getElem? (i := 1) rfl))) (fun _ h9 => h9) rfl dX7_lookLeaves_18 ?_
    refine zc_cutc (wc := [(a0_5, .inr (2, [.int a0_5_0, .int a0_5_1, .int a0_5_2, .ref a0_5_3, .ref a0_5_4, .int a0_5_5, .int a0_5_6])), (a0_7, .inr (0, [.int a0_7_0, .int a0_7_1, a0_7g_2, a0_7g_3, a0_7g_4, a0_7g_5, a0_7g_6, a0_7g_7, a0_7g_8, .int a0_7_9, a0_7g_10, a0_7g_11, .ref a0_7_12, .ref a0_7_13, a0_7g_14])), (a0_5_3, .inl (ka0_5_3, 729, .inl (fa0_5_3))), (a0_7_13, .inl (ka0_7_13, 6, .inl (fa0_7_13))), (a0_7_12, .inl (ka0_7_12, 6, .inl (fa0_7_12))), (a0_5_4, .inl (ka0_5_4, 900, .inl (fa0_5_4)))]) hP hD hS hA [2, 1, 3, 4, 5, 6] (by decide +kernel) rfl (fun hPc hDc hFc hCc => ?_)
    have hKc := hK.sub (tys' := [(ka0_5_3, .int), (ka0_7_13, .int), (ka0_7_12, .int), (ka0_5_4, .int)]) [0, 1, 2, 3] rfl
    refine va_callv (va_runV (As := [.ref a0_7]) (rest := []) ⟨hx, hb, hml, hown, hts⟩ (f_X2_chooseLook l dC dI H.size a0_5 a0_7 a0_5_0 a0_5_1 a0_5_2 a0_5_3 a0_5_4 a0_5_5 a0_5_6 a0_7_0 a0_7_1 a0_7g_2 a0_7g_3 a0_7g_4 a0_7g_5 a0_7g_6 a0_7g_7 a0_7g_8 a0_7g_10 a0_7g_11 a0_7g_14 a0_7_9 a0_7_12 a0_7_13 ka0_5_3 fa0_5_3 ka0_7_13 fa0_7_13 ka0_7_12 fa0_7_12 ka0_5_4 fa0_5_4 ba0_5_0_l ba0_5_0_u ba0_5_5_l ba0_5_5_u ba0_5_6_l ba0_5_6_u (Int.le_trans zq4 l1k0_a0_7_0) u1k0_a0_7_0 ba0_7_9_l ba0_7_9_u bfa0_5_3 bfa0_7_13) (cwV 1 hts gX7_lookLeaves_X2_chooseLook rfl rfl rfl zd_X2_chooseLook ⟨Nat.le_of_ble_eq_true rfl, Nat.le_of_ble_eq_true rfl⟩) ⟨ax_blind (fun _ _ _ _ hq => va_Nw.same rfl rfl (hq)), zr_2 hKc hPc (q0 := 0) rfl, ax_pre hPc hKc hDc (fun _ hW => va_Nw.warmM hW hE0)⟩ rfl rfl hl.1 rfl (lv_room (Nat.le_of_ble_eq_true rfl)) dX7_lookLeaves_21 ⟨Nat.le_of_ble_eq_true rfl, Nat.le_of_ble_eq_true rfl⟩) hS (fun q _ h => hFc q h) hFc (fun u t H locs ht hvm hw => zx_7 (fun v21na0_0 v21na0_1 v21na0_2 v21na0_5 v21na0_6 v21nfa0_3 v21nfa0_4 => zy_5 (fun bv21na0_0 bv21na0_5 bv21na0_6 bv21nfa0_3 hraw21_0 hB hz1 hk1 hS1 => zo hB ht hS1 (fun hP1 hK1 hD1 hS => ?_))))
    refine zc_backc (w := [(a0, .inr (7, [a0g_0, a0g_1, a0g_2, a0g_3, a0g_4, .ref a0_5, a0g_6, .ref a0_7, .int a0_8, a0g_9, a0g_10])), (a0_7, .inr (0, [.int a0_7_0, .int a0_7_1, a0_7g_2, a0_7g_3, a0_7g_4, a0_7g_5, a0_7g_6, a0_7g_7, a0_7g_8, .int a0_7_9, a0_7g_10, a0_7g_11, .ref a0_7_12, .ref a0_7_13, a0_7g_14])), (a0_5, .inr (2, [.int v21na0_0, .int v21na0_1, .int v21na0_2, .ref a0_5_3, .ref a0_5_4, .int v21na0_5, .int v21na0_6])), (a0_5_3, .inl (ka0_5_3, 729, .inl (v21nfa0_3))), (a0_7_13, .inl (ka0_7_13, 6, .inl (fa0_7_13))), (a0_7_12, .inl (ka0_7_12, 6, .inl (fa0_7_12))), (a0_5_4, .inl (ka0_5_4, 900, .inl (v21nfa0_4)))]) hP hD hCc hk1 hFc hP1 hD1 [.inl 0, .inr 1, .inr 0, .inr 2, .inr 3, .inr 4, .inr 5] (by decide +kernel) rfl (fun hP hD => ?_)
    have hc21 : Ff_X2_chooseLook a0_5_0.toInt a0_5_1.toInt a0_5_2.toInt a0_5_5.toInt a0_5_6.toInt a0_7_0.toInt a0_7_1.toInt a0_7_9.toInt (fl_A fa0_5_3) (fl_A fa0_7_13) (fl_A fa0_7_12) (fl_A fa0_5_4) = (v21na0_0.toInt, v21na0_1.toInt, v21na0_2.toInt, v21na0_5.toInt, v21na0_6.toInt, (fl_A v21nfa0_3), (fl_A v21nfa0_4)) := hraw21_0
    have hF0 := hF0.trans (fl_c7_eq hc21)
    refine lv_aload_n hx hb dX7_lookLeaves_24 rfl (lv_at hl 0 rfl) ?_
    refine lv_aload_n hx hb dX7_lookLeaves_25 rfl (lv_at hl 0 rfl) ?_
    refine va_get (D := (dC, dI)) (ci := 7) (v := .ref a0_5) (C := RX7) (T := TX7) (N := 11) hx hb hts zi_X7_lookLeaves_7 hown hK hP 0 rfl rfl 5 (by decide) (hts (.fieldLink RX7 43 "WaxTurns" "laws" "LWaxTurns$Laws;") (zm_X7_lookLeaves_r1 (List.mem_of_getElem? (i := 0) rfl))) (fun _ h9 => h9) rfl dX7_lookLeaves_26 ?_
    refine va_get (D := (dC, dI)) (ci := 2) (v := .int v21na0_2) (C := RX2) (T := TX2) (N := 7) hx hb hts zi_X7_lookLeaves_2 hown hK hP 2 rfl rfl 2 (by decide) (hts (.fieldLink RX7 278 "WaxTurns$Laws" "lookMost" "I") (zm_X7_lookLeaves_r1 (List.mem_of_getElem? (i := 2) rfl))) (fun _ h9 => h9) rfl dX7_lookLeaves_29 ?_
    refine va_calli (va_runV (As := [.int v21na0_2]) (rest := []) ⟨hx, hb, hml, hown, hts⟩ (f_X7_answered l dC dI H.size a0 v21na0_2 a0g_0 a0g_1 a0g_2 a0g_3 a0g_4 (.ref a0_5) a0g_6 (.ref a0_7) a0g_9 a0g_10 a0_8 ) (cwV 1 hts gX7_lookLeaves_X7_answered rfl rfl rfl zd_X7_answered ⟨Nat.le_of_ble_eq_true rfl, Nat.le_of_ble_eq_true rfl⟩) ⟨ax_blind (fun _ _ _ _ _ => trivial), zr_7 (zp_K hK) (zp_P1 hP) (q0 := 0) rfl, ax_pre (zp_P1 hP) (zp_K hK) (zp_D1 hD) (fun _ _ => trivial)⟩ rfl rfl hl.1 rfl (lv_room (Nat.le_of_ble_eq_true rfl)) dX7_lookLeaves_32 ⟨Nat.le_of_ble_eq_true rfl, Nat.le_of_ble_eq_true rfl⟩) hS (fun q _ h => zp_F1 hD hS hA q h) (zp_F1 hD hS hA) (fun r32 u t H locs ht hvm hw => zx_1 (fun v32na0_8 => zy_1 (fun hraw32_0 hB hz1 hk1 hS1 => zo1 hB ht hP hD hk1 (zp_F1 hD hS hA) hS1 (fun hP hK1 hD hS => ?_))))
    obtain ⟨hw, hfr32⟩ := hw
    have hc32 : Ff_X7_answered v21na0_2.toInt = (r32.toInt, v32na0_8.toInt) := Prod.ext hfr32.symm hraw32_0
    have hF0 := hF0.trans (fl_c2_eq hc32)
    have hw : r32 = v21na0_2 := hw
    have hw := hw.symm
    subst hw
    have hFe : FX = (v21na0_2.toInt, v32na0_8.toInt, v21na0_0.toInt, v21na0_1.toInt, v21na0_2.toInt, v21na0_5.toInt, v21na0_6.toInt, (fl_A v21nfa0_3), (fl_A v21nfa0_4)) := hF0
    exact W.iret (v := v21na0_2) hx hb hr (fun t ht hW => ⟨⟨v21na0_2, (), rfl, ⟨trivial, (congrArg Prod.fst hFe).symm⟩, v32na0_8, v21na0_0, v21na0_1, v21na0_2, v21na0_5, v21na0_6, v21nfa0_3, v21nfa0_4, ⟨bv21na0_0.1, bv21na0_0.2⟩, ⟨bv21na0_5.1, bv21na0_5.2⟩, ⟨bv21na0_6.1, bv21na0_6.2⟩, bv21nfa0_3, (congrArg Prod.snd hFe), by rw [ht]; exact hP, va_K.moved hW.alike hK, hD⟩, hS.F ht⟩) hS.2.2 dX7_lookLeaves_35
  · obtain ⟨hw, h1_0, h1_1⟩ := hw
    subst hw
    have l1k1_a0_7_0 : (0 : Int) ≤ a0_7_0.toInt := ba0_7_0_l
    have u1k1_a0_7_0 : a0_7_0.toInt ≤ (0 : Int) := h1_1
    have hF0 := hF0.trans (if_neg (by decide))
    refine lv_if_ne (tgt := 13) hx hb dX7_lookLeaves_4 (by decide) (fun c4 => absurd (by decide +kernel) c4) (fun _ => ?_)
    refine lv_aload_n hx hb dX7_lookLeaves_7 rfl (lv_at hl 0 rfl) ?_
    refine lv_iconst (v := 1) hx hb dX7_lookLeaves_8 zk_iconst_1 ?_
    refine va_calli (va_runV (As := [.int 1]) (rest := []) ⟨hx, hb, hml, hown, hts⟩ (f_X7_refused l dC dI H.size a0 1 a0g_0 a0g_1 a0g_2 a0g_3 a0g_4 (.ref a0_5) a0g_6 (.ref a0_7) a0g_9 a0g_10 a0_8 ) (cwV 1 hts gX7_lookLeaves_X7_refused rfl rfl rfl zd_X7_refused ⟨Nat.le_of_ble_eq_true rfl, Nat.le_of_ble_eq_true rfl⟩) ⟨ax_blind (fun _ _ _ _ _ => trivial), zr_7 (zp_K hK) (zp_P1 hP) (q0 := 0) rfl, ax_pre (zp_P1 hP) (zp_K hK) (zp_D1 hD) (fun _ _ => trivial)⟩ rfl rfl hl.1 rfl (lv_room (Nat.le_of_ble_eq_true rfl)) dX7_lookLeaves_9 ⟨Nat.le_of_ble_eq_true rfl, Nat.le_of_ble_eq_true rfl⟩) hS (fun q _ h => zp_F1 hD hS hA q h) (zp_F1 hD hS hA) (fun r9 u t H locs ht hvm hw => zx_1 (fun v9na0_8 => zy_1 (fun hraw9_0 hB hz1 hk1 hS1 => zo1 hB ht hP hD hk1 (zp_F1 hD hS hA) hS1 (fun hP hK1 hD hS => ?_))))
    obtain ⟨hw, hfr9⟩ := hw
    rw [show (1 : Int32).toInt = 1 from by decide] at hfr9 hraw9_0
    have hc9 : Ff_X7_refused 1 = (r9.toInt, v9na0_8.toInt) := Prod.ext hfr9.symm hraw9_0
    have hF0 := hF0.trans (fl_c2_eq hc9)
    have hw : r9 = (-1) := hw
    have hw := hw.symm
    subst hw
    have hFe : FX = ((-1), v9na0_8.toInt, a0_5_0.toInt, a0_5_1.toInt, a0_5_2.toInt, a0_5_5.toInt, a0_5_6.toInt, (fl_A fa0_5_3), (fl_A fa0_5_4)) := hF0
    exact W.iret (v := (-1)) hx hb hr (fun t ht hW => ⟨⟨(-1), (), rfl, ⟨trivial, (congrArg Prod.fst hFe).symm⟩, v9na0_8, a0_5_0, a0_5_1, a0_5_2, a0_5_5, a0_5_6, fa0_5_3, fa0_5_4, ⟨ba0_5_0_l, ba0_5_0_u⟩, ⟨ba0_5_5_l, ba0_5_5_u⟩, ⟨ba0_5_6_l, ba0_5_6_u⟩, bfa0_5_3, (congrArg Prod.snd hFe), by rw [ht]; exact hP, va_K.moved hW.alike hK, hD⟩, hS.F ht⟩) hS.2.2 dX7_lookLeaves_12

set_option maxHeartbeats 4000000 in
set_option maxRecDepth 100000 in
theorem f_X8_fits (l : Launch) (dC : Nat → ClassId) (dI : Nat → Nat → Nat) (sz : Nat) (a0 : Nat) (a0_0 : Int32) (a0g_1 a0g_2 a0g_3 a0g_4 a0g_5 a0g_6 a0g_7 a0g_8 a0g_9 a0g_10 a0g_12 a0g_13 a0g_16 a0g_17 a0g_18 a0g_19 a0g_20 a0g_21 a0g_22 a0g_23 a0g_24 a0g_25 a0g_26 a0g_27 a0g_28 a0g_29 a0g_30 a0g_31 a0g_32 a0g_33 a0g_35 a0g_36 a0g_37 a0g_38 a0g_39 : Value) (a0_11 : Int32) (a0_14 : Int32) (a0_15 : Nat) (a0_34 : Nat) (ka0_15 : ClassId) (fa0_15 : Nat → Int32) (ka0_34 : ClassId) (fa0_34 : Nat → Int32) (ba0_14_l : (1 : Int) ≤ a0_14.toInt) (ba0_14_u : a0_14.toInt ≤ (1 : Int)) (bfa0_15 : ((∀ k : Nat, 0 ≤ k → k ≤ 0 → (2 : Int) ≤ (fa0_15 k).toInt ∧ (fa0_15 k).toInt ≤ 9) ∧ (∀ k : Nat, 1 ≤ k → k ≤ 1 → (1 : Int) ≤ (fa0_15 k).toInt ∧ (fa0_15 k).toInt ≤ 20) ∧ (∀ k : Nat, 2 ≤ k → k ≤ 2 → (0 : Int) ≤ (fa0_15 k).toInt ∧ (fa0_15 k).toInt ≤ 8) ∧ (∀ k : Nat, 3 ≤ k → k ≤ 3 → (0 : Int) ≤ (fa0_15 k).toInt ∧ (fa0_15 k).toInt ≤ 100) ∧ (∀ k : Nat, 4 ≤ k → k ≤ 4 → (0 : Int) ≤ (fa0_15 k).toInt ∧ (fa0_15 k).toInt ≤ 9) ∧ (∀ k : Nat, 5 ≤ k → k ≤ 5 → (0 : Int) ≤ (fa0_15 k).toInt ∧ (fa0_15 k).toInt ≤ 3) ∧ (∀ k : Nat, 6 ≤ k → k ≤ 6 → (0 : Int) ≤ (fa0_15 k).toInt ∧ (fa0_15 k).toInt ≤ 6) ∧ (∀ k : Nat, 7 ≤ k → k ≤ 9 → (0 : Int) ≤ (fa0_15 k).toInt ∧ (fa0_15 k).toInt ≤ 8) ∧ (∀ k : Nat, 12 ≤ k → k ≤ 29 → (0 : Int) ≤ (fa0_15 k).toInt ∧ (fa0_15 k).toInt ≤ 20) ∧ (∀ k : Nat, 30 ≤ k → k ≤ 35 → (0 : Int) ≤ (fa0_15 k).toInt ∧ (fa0_15 k).toInt ≤ 8) ∧ (∀ k : Nat, 36 ≤ k → k ≤ 47 → (0 : Int) ≤ (fa0_15 k).toInt ∧ (fa0_15 k).toInt ≤ 999))) : zm l yX8_fits wsX8_fits ({ frames := 3, cells := 0, slots := 0, locals := 72 }) [.ref a0] dC dI sz [(a0, .inr (8, [Value.int a0_0, a0g_1, a0g_2, a0g_3, a0g_4, a0g_5, a0g_6, a0g_7, a0g_8, a0g_9, a0g_10, Value.int a0_11, a0g_12, a0g_13, Value.int a0_14, Value.ref a0_15, a0g_16, a0g_17, a0g_18, a0g_19, a0g_20, a0g_21, a0g_22, a0g_23, a0g_24, a0g_25, a0g_26, a0g_27, a0g_28, a0g_29, a0g_30, a0g_31, a0g_32, a0g_33, Value.ref a0_34, a0g_35, a0g_36, a0g_37, a0g_38, a0g_39])), (a0_15, .inl (ka0_15, 156, .inl (fa0_15))), (a0_34, .inl (ka0_34, 9, .inl (fa0_34)))] [(ka0_15, .int), (ka0_34, .int)] (fun A _ => True) (fun A => va_Qi (fun (r : Int32) (_ : Unit) => (True) ∧ r.toInt = (Ff_X8_fits a0_14.toInt (fl_A fa0_15) (fl_A fa0_34)).1) (fun (_ : Unit) (t : State) => ∃ na0_0 : Int32, ∃ na0_11 : Int32, ∃ nfa0_34 : Nat → Int32, ((Ff_X8_fits a0_14.toInt (fl_A fa0_15) (fl_A fa0_34)).2 = (na0_0.toInt, na0_11.toInt, (fl_A nfa0_34))) ∧ ax_B dC dI A [(a0, .inr (8, [Value.int na0_0, a0g_1, a0g_2, a0g_3, a0g_4, a0g_5, a0g_6, a0g_7, a0g_8, a0g_9, a0g_10, Value.int na0_11, a0g_12, a0g_13, Value.int a0_14, Value.ref a0_15, a0g_16, a0g_17, a0g_18, a0g_19, a0g_20, a0g_21, a0g_22, a0g_23, a0g_24, a0g_25, a0g_26, a0g_27, a0g_28, a0g_29, a0g_30, a0g_31, a0g_32, a0g_33, Value.ref a0_34, a0g_35, a0g_36, a0g_37, a0g_38, a0g_39])), (a0_15, .inl (ka0_15, 156, .inl (fa0_15))), (a0_34, .inl (ka0_34, 9, .inl (nfa0_34)))] [(ka0_15, .int), (ka0_34, .int)] t) A) := by
  refine zh (cc := cX8_fits) (maxL := 3) (ret := (some .int)) zn_RX8 rfl (Nat.le_of_ble_eq_true rfl) (fun p e s m below meth c A ls hx hb hml hr hts (hown : s.vm.findClass RX8 = some m.cls) hlocks hA hS hP hK hD hE (hl : lv_has ls 3 [(0, .ref a0)]) => ?_)
  generalize hFX : Ff_X8_fits a0_14.toInt (fl_A fa0_15) (fl_A fa0_34) = FX at ⊢
  have hF0 := hFX.symm.trans (Ff_X8_fits.eq_1 a0_14.toInt (fl_A fa0_15) (fl_A fa0_34))
  refine ai_open (fun K hK0 => ?_)
  refine (hK0 _ _ _).mpr ?_
  refine lv_aload_n hx hb dX8_fits_0 rfl (lv_at hl 0 rfl) ?_
  refine va_callv (va_runV (As := []) (rest := []) ⟨hx, hb, hml, hown, hts⟩ (f_X8_good l dC dI s.heap.size a0 a0_0 a0g_1 a0g_2 a0g_3 a0g_4 a0g_5 a0g_6 a0g_7 a0g_8 a0g_9 a0g_10 a0g_12 a0g_13 (Value.int a0_14) (Value.ref a0_15) a0g_16 a0g_17 a0g_18 a0g_19 a0g_20 a0g_21 a0g_22 a0g_23 a0g_24 a0g_25 a0g_26 a0g_27 a0g_28 a0g_29 a0g_30 a0g_31 a0g_32 a0g_33 (Value.ref a0_34) a0g_35 a0g_36 a0g_37 a0g_38 a0g_39 a0_11 ) (cwV 0 hts gX8_fits_X8_good rfl rfl rfl zd_X8_good ⟨Nat.le_of_ble_eq_true rfl, Nat.le_of_ble_eq_true rfl⟩) ⟨ax_blind (fun _ _ _ _ _ => trivial), zr_8 (zp_K hK) (zp_P1 hP) (q0 := 0) rfl, ax_pre (zp_P1 hP) (zp_K hK) (zp_D1 hD) (fun _ _ => trivial)⟩ rfl rfl hl.1 rfl (lv_room (Nat.le_of_ble_eq_true rfl)) dX8_fits_1 ⟨Nat.le_of_ble_eq_true rfl, Nat.le_of_ble_eq_true rfl⟩) hS (fun q _ h => zp_F1 hD hS hA q h) (zp_F1 hD hS hA) (fun u t H locs ht hvm hw => zx_2 (fun v1na0_0 v1na0_11 => zy_1 (fun hraw1_0 hB hz1 hk1 hS1 => zo1 hB ht hP hD hk1 (zp_F1 hD hS hA) hS1 (fun hP hK1 hD hS => ?_))))
  have hc1 : Ff_X8_good = (v1na0_0.toInt, v1na0_11.toInt) := hraw1_0
  have hF0 := hF0.trans (fl_c2_eq hc1)
  refine lv_aload_n hx hb dX8_fits_4 rfl (lv_at hl 0 rfl) ?_
  refine va_get (D := (dC, dI)) (ci := 8) (v := .int a0_14) (C := RX8) (T := TX8) (N := 40) hx hb hts zi_X8_fits_8 hown hK hP 0 rfl rfl 14 (by decide) (hts (.fieldLink RX8 173 "WaxTurnsModel" "hasGallery" "Z") (zm_X8_fits_r1 (List.mem_of_getElem? (i := 0) rfl))) (fun _ h9 => h9) rfl dX8_fits_5 ?_
  refine lv_if_ne (tgt := 17) hx hb dX8_fits_8 (by decide) (fun c8 => ?_) (fun c8 => ?_)
  · have gc8 := ai_ne c8
    have hF0 := hF0.trans (if_neg (show ¬ (a0_14.toInt = 0) from  gc8))
    refine lv_iconst (v := 0) hx hb dX8_fits_17 zk_iconst_0 ?_
    refine lv_istore_n (lv' := [(1, .int 0), (0, .ref a0)]) hx hb dX8_fits_18 rfl hl (by decide) rfl (fun ls hl => ?_)
    refine lv_iconst (v := 0) hx hb dX8_fits_19 zk_iconst_0 ?_
    refine lv_istore_n (lv' := [(2, .int 0), (1, .int 0), (0, .ref a0)]) hx hb dX8_fits_20 rfl hl (by decide) rfl (fun ls hl => ?_)
    have J21 : ∀ (n : Nat) (j21l2 : Int32) (j21l1 : Int32) (j21a0_34_a : Nat → Int32) (H : Heap) (locs : List Loc) (ls : Array Slot), (730 : Int) - j21l2.toInt ≤ (n : Int) → (0 : Int) ≤ j21l2.toInt → j21l2.toInt ≤ (729 : Int) → (FX = fl_wh (fun t9 => Sf_X8_fits_21_1 (fl_A fa0_15) v1na0_0.toInt v1na0_11.toInt t9.1 t9.2.1 t9.2.2) (0, 0, 0, (fun _ => 0)) n (j21l2.toInt, j21l1.toInt, (fl_A j21a0_34_a))) → va_P (dC, dI) vwCl [(a0, .inr (8, [Value.int v1na0_0, a0g_1, a0g_2, a0g_3, a0g_4, a0g_5, a0g_6, a0g_7, a0g_8, a0g_9, a0g_10, Value.int v1na0_11, a0g_12, a0g_13, Value.int a0_14, Value.ref a0_15, a0g_16, a0g_17, a0g_18, a0g_19, a0g_20, a0g_21, a0g_22, a0g_23, a0g_24, a0g_25, a0g_26, a0g_27, a0g_28, a0g_29, a0g_30, a0g_31, a0g_32, a0g_33, Value.ref a0_34, a0g_35, a0g_36, a0g_37, a0g_38, a0g_39])), (a0_15, .inl (ka0_15, 156, .inl (fa0_15))), (a0_34, .inl (ka0_34, 9, .inl (j21a0_34_a)))] H → va_D A [(a0, .inr (8, [Value.int v1na0_0, a0g_1, a0g_2, a0g_3, a0g_4, a0g_5, a0g_6, a0g_7, a0g_8, a0g_9, a0g_10, Value.int v1na0_11, a0g_12, a0g_13, Value.int a0_14, Value.ref a0_15, a0g_16, a0g_17, a0g_18, a0g_19, a0g_20, a0g_21, a0g_22, a0g_23, a0g_24, a0g_25, a0g_26, a0g_27, a0g_28, a0g_29, a0g_30, a0g_31, a0g_32, a0g_33, Value.ref a0_34, a0g_35, a0g_36, a0g_37, a0g_38, a0g_39])), (a0_15, .inl (ka0_15, 156, .inl (fa0_15))), (a0_34, .inl (ka0_34, 9, .inl (j21a0_34_a)))] → va_S A s.heap H locs → lv_has ls 3 [(0, .ref a0), (1, .int j21l1), (2, .int j21l2)] → K H locs (F0 m 21 ls []) := by
      intro n
      induction n with
      | zero =>
        intro j21l2 j21l1 j21a0_34_a H locs ls hm bj21l2_l bj21l2_u hF0 hP hD hS hl
        first | exact zg_0 hm bj21l2_u (by decide) | (have h8 := ai_min j21l2; have h9 := ai_max j21l2; exact absurd hm (by omega))
      | succ n ih21 =>
        intro j21l2 j21l1 j21a0_34_a H locs ls hm bj21l2_l bj21l2_u hF0 hP hD hS hl
        refine (hK0 _ _ _).mpr ?_
        have hm21 := hm
        obtain ⟨SX21, hSX21⟩ : ∃ q9, Sf_X8_fits_21_1 (fl_A fa0_15) v1na0_0.toInt v1na0_11.toInt j21l2.toInt j21l1.toInt (fl_A j21a0_34_a) = q9 := ⟨_, rfl⟩
        have hF1 := hSX21.symm.trans (Sf_X8_fits_21_1.eq_1 (fl_A fa0_15) v1na0_0.toInt v1na0_11.toInt j21l2.toInt j21l1.toInt (fl_A j21a0_34_a))
        refine lv_iload_n hx hb dX8_fits_21 rfl (lv_at hl 2 rfl) ?_
        refine lv_aload_n hx hb dX8_fits_22 rfl (lv_at hl 0 rfl) ?_
        have hKc := hK.sub (tys' := [(ka0_15, .int)]) [0] rfl
        refine va_calli (va_runV (As := []) (rest := [.int j21l2]) ⟨hx, hb, hml, hown, hts⟩ (f_X8_codes l dC dI H.size a0 (Value.int v1na0_0) a0g_1 a0g_2 a0g_3 a0g_4 a0g_5 a0g_6 a0g_7 a0g_8 a0g_9 a0g_10 (Value.int v1na0_11) a0g_12 a0g_13 (Value.int a0_14) a0g_16 a0g_17 a0g_18 a0g_19 a0g_20 a0g_21 a0g_22 a0g_23 a0g_24 a0g_25 a0g_26 a0g_27 a0g_28 a0g_29 a0g_30 a0g_31 a0g_32 a0g_33 (Value.ref a0_34) a0g_35 a0g_36 a0g_37 a0g_38 a0g_39 a0_15 ka0_15 fa0_15 bfa0_15) (cwV 0 hts gX8_fits_X8_codes rfl rfl rfl zd_X8_codes ⟨Nat.le_of_ble_eq_true rfl, Nat.le_of_ble_eq_true rfl⟩) ⟨ax_blind (fun _ _ _ _ _ => trivial), zr_8 hKc (zp_P2 hP) (q0 := 0) rfl, ax_pre (zp_P2 hP) hKc (zp_D2 hD) (fun _ _ => trivial)⟩ rfl rfl hl.1 rfl (lv_room (Nat.le_of_ble_eq_true rfl)) dX8_fits_23 ⟨Nat.le_of_ble_eq_true rfl, Nat.le_of_ble_eq_true rfl⟩) hS (fun q _ h => zp_F2 hD hS hA q h) (zp_F2 hD hS hA) (fun r23 u t H locs ht hvm hw hB hz1 hk1 hS1 => zo2 hB ht hP hD hk1 (zp_F2 hD hS hA) hS1 (fun hP hK1 hD hS => ?_))
        obtain ⟨hw, hfr23⟩ := hw
        have hc23 : Ff_X8_codes (fl_A fa0_15) = r23.toInt := hfr23.symm
        have hF1 := hF1.trans (fl_lt_eq hc23.symm)
        have hw : (8 : Int) ≤ r23.toInt ∧ r23.toInt ≤ (729 : Int) := hw
        obtain ⟨h23_0, h23_1⟩ := hw
        refine lv_icmp_ge (tgt := 51) hx hb dX8_fits_26 (by decide) (fun c26 => ?_) (fun c26 => ?_)
        · have gc26 := ai_le c26
          have u26t_r23 : r23.toInt ≤ (729 : Int) := h23_1
          have l26t_j21l2 : (8 : Int) ≤ j21l2.toInt := Int.le_trans h23_0 gc26
          have hF1 := hF1.trans (if_pos (show r23.toInt ≤ j21l2.toInt from gc26))
          have hF0 := hF0.trans (fl_wh_r (hSX21.trans hF1))
          refine lv_iload_n hx hb dX8_fits_51 rfl (lv_at hl 1 rfl) ?_
          have hFe : FX = (j21l1.toInt, v1na0_0.toInt, v1na0_11.toInt, (fl_A j21a0_34_a)) := hF0
          exact W.iret (v := j21l1) hx hb hr (fun t ht hW => ⟨⟨j21l1, (), rfl, ⟨trivial, (congrArg Prod.fst hFe).symm⟩, v1na0_0, v1na0_11, j21a0_34_a, (congrArg Prod.snd hFe), by rw [ht]; exact hP, va_K.moved hW.alike hK, hD⟩, hS.F ht⟩) hS.2.2 dX8_fits_52
        · have gc26 := ai_nle c26
          have u26f_j21l2 : j21l2.toInt ≤ (728 : Int) := ai_lthi gc26 h23_1
          have l26f_r23 : (8 : Int) ≤ r23.toInt := h23_0
          have hF1 := hF1.trans (if_neg (show ¬ (r23.toInt ≤ j21l2.toInt) from Int.not_le.mpr gc26))
          refine lv_iload_n hx hb dX8_fits_29 rfl (lv_at hl 1 rfl) ?_
          refine lv_aload_n hx hb dX8_fits_30 rfl (lv_at hl 0 rfl) ?_
          refine lv_iload_n hx hb dX8_fits_31 rfl (lv_at hl 2 rfl) ?_
          have hKc := hK.sub (tys' := [(ka0_15, .int), (ka0_34, .int)]) [0, 1] rfl
          refine va_calli (va_runV (As := [.int j21l2]) (rest := [.int j21l1]) ⟨hx, hb, hml, hown, hts⟩ (f_X8_doesFit l dC dI H.size a0 j21l2 (Value.int v1na0_0) a0g_1 a0g_2 a0g_3 a0g_4 a0g_5 a0g_6 a0g_7 a0g_8 a0g_9 a0g_10 (Value.int v1na0_11) a0g_12 a0g_13 (Value.int a0_14) a0g_16 a0g_17 a0g_18 a0g_19 a0g_20 a0g_21 a0g_22 a0g_23 a0g_24 a0g_25 a0g_26 a0g_27 a0g_28 a0g_29 a0g_30 a0g_31 a0g_32 a0g_33 a0g_35 a0g_36 a0g_37 a0g_38 a0g_39 a0_15 a0_34 ka0_15 fa0_15 ka0_34 j21a0_34_a bj21l2_l u26f_j21l2 bfa0_15) (cwV 1 hts gX8_fits_X8_doesFit rfl rfl rfl zd_X8_doesFit ⟨Nat.le_of_ble_eq_true rfl, Nat.le_of_ble_eq_true rfl⟩) ⟨ax_blind (fun _ _ _ _ _ => trivial), zr_8 hKc (zp_P3 hP) (q0 := 0) rfl, ax_pre (zp_P3 hP) hKc (zp_D3 hD) (fun _ _ => trivial)⟩ rfl rfl hl.1 rfl (lv_room (Nat.le_of_ble_eq_true rfl)) dX8_fits_32 ⟨Nat.le_of_ble_eq_true rfl, Nat.le_of_ble_eq_true rfl⟩) hS (fun q _ h => zp_F3 hD hS hA q h) (zp_F3 hD hS hA) (fun r32 u t H locs ht hvm hw => zx_1 (fun v32nfa0_34 => zy_1 (fun hraw32_0 hB hz1 hk1 hS1 => zo3 hB ht hP hD hk1 (zp_F3 hD hS hA) hS1 (fun hP hK1 hD hS => ?_))))
          obtain ⟨hw, hfr32⟩ := hw
          have hc32 : Ff_X8_doesFit j21l2.toInt (fl_A fa0_15) (fl_A j21a0_34_a) = (r32.toInt, (fl_A v32nfa0_34)) := Prod.ext hfr32.symm hraw32_0
          have hF1 := hF1.trans (fl_c2_eq hc32)
          rcases hw with hw | hw
          · subst hw
            have hF1 := hF1.trans (if_pos (by decide))
            refine lv_if_eq (tgt := 42) hx hb dX8_fits_35 (by decide) (fun c35 => absurd c35 (by decide +kernel)) (fun _ => ?_)
            have J43 : ∀ (j43s0 : Int32) (H : Heap) (locs : List Loc) (ls : Array Slot), (0 : Int) ≤ j43s0.toInt → j43s0.toInt ≤ (1 : Int) → (SX21 = Gf_X8_fits_43_1 j21l2.toInt j21l1.toInt (fl_A v32nfa0_34) j43s0.toInt) → va_P (dC, dI) vwCl [(a0, .inr (8, [Value.int v1na0_0, a0g_1, a0g_2, a0g_3, a0g_4, a0g_5, a0g_6, a0g_7, a0g_8, a0g_9, a0g_10, Value.int v1na0_11, a0g_12, a0g_13, Value.int a0_14, Value.ref a0_15, a0g_16, a0g_17, a0g_18, a0g_19, a0g_20, a0g_21, a0g_22, a0g_23, a0g_24, a0g_25, a0g_26, a0g_27, a0g_28, a0g_29, a0g_30, a0g_31, a0g_32, a0g_33, Value.ref a0_34, a0g_35, a0g_36, a0g_37, a0g_38, a0g_39])), (a0_15, .inl (ka0_15, 156, .inl (fa0_15))), (a0_34, .inl (ka0_34, 9, .inl (v32nfa0_34)))] H → va_D A [(a0, .inr (8, [Value.int v1na0_0, a0g_1, a0g_2, a0g_3, a0g_4, a0g_5, a0g_6, a0g_7, a0g_8, a0g_9, a0g_10, Value.int v1na0_11, a0g_12, a0g_13, Value.int a0_14, Value.ref a0_15, a0g_16, a0g_17, a0g_18, a0g_19, a0g_20, a0g_21, a0g_22, a0g_23, a0g_24, a0g_25, a0g_26, a0g_27, a0g_28, a0g_29, a0g_30, a0g_31, a0g_32, a0g_33, Value.ref a0_34, a0g_35, a0g_36, a0g_37, a0g_38, a0g_39])), (a0_15, .inl (ka0_15, 156, .inl (fa0_15))), (a0_34, .inl (ka0_34, 9, .inl (v32nfa0_34)))] → va_S A s.heap H locs → lv_has ls 3 [(0, .ref a0), (2, .int j21l2)] → K H locs (F0 m 43 ls [.int j43s0, .int j21l1]) := by
              intro j43s0 H locs ls  bj43s0_l bj43s0_u hF1 hP hD hS hl
              refine (hK0 _ _ _).mpr ?_
              have hF1 := hF1.trans (Gf_X8_fits_43_1.eq_1 j21l2.toInt j21l1.toInt (fl_A v32nfa0_34) j43s0.toInt)
              refine lv_iadd hx hb dX8_fits_43 ?_
              refine lv_topi (fun x43 ex43 => ?_)
              have fqx43 := fl_iadd_eq ex43
              have hF1 := hF1.trans (fl_lt_eq (show x43.toInt = fl_iadd j21l1.toInt j43s0.toInt from fqx43))
              refine lv_istore_n (lv' := [(1, .int x43), (0, .ref a0), (2, .int j21l2)]) hx hb dX8_fits_44 rfl hl (by decide) rfl (fun ls hl => ?_)
              obtain ⟨x45, ex45⟩ : ∃ y : Int32, y = j21l2 + Int32.ofInt 1 := ⟨_, rfl⟩
              have qx45 : x45.toInt = j21l2.toInt + 1 := ai_inc ex45 (by decide) (by decide) u26f_j21l2 (by decide)
              have bx45 : (1 : Int) ≤ x45.toInt ∧ x45.toInt ≤ 729 := ⟨by rw [qx45]; exact Int.add_le_add bj21l2_l (Int.le_refl _), by rw [qx45]; exact Int.add_le_add u26f_j21l2 (Int.le_refl _)⟩
              refine lv_iinc (v := x45) (lv' := [(2, .int x45), (1, .int x43), (0, .ref a0)]) hx hb dX8_fits_45 hl (k := 2) rfl ex45.symm (by decide) rfl (fun ls hl => ?_)
              have hF1 := hF1.trans (fl_lt_eq (show x45.toInt = j21l2.toInt + 1 from qx45))
              refine lv_goto (tgt := 21) hx hb dX8_fits_48 (by decide) ?_
              exact (hK0 _ _ _).mp (ih21 x45 x43 v32nfa0_34 _ _ _ (by first | exact zg_s hm21 qx45 | (have h0 := qx45; omega)) (Int.le_trans zq4 bx45.1) bx45.2 (hF0.trans (fl_wh_l (hSX21.trans hF1))) hP hD hS (lv_sub hl [2, 1, 0] rfl))
            refine lv_iconst (v := 1) hx hb dX8_fits_38 zk_iconst_1 ?_
            refine lv_goto (tgt := 43) hx hb dX8_fits_39 (by decide) ?_
            exact (hK0 _ _ _).mp (J43 1 _ _ _  (Int.le_trans zq4 zq1) zq0 (by rw [show (1 : Int32).toInt = 1 from by decide]; exact hF1) hP hD hS (lv_sub hl [0, 2] rfl))
          · subst hw
            have hF1 := hF1.trans (if_neg (by decide))
            refine lv_if_eq (tgt := 42) hx hb dX8_fits_35 (by decide) (fun _ => ?_) (fun c35 => absurd (by decide +kernel) c35)
            have J43 : ∀ (j43s0 : Int32) (H : Heap) (locs : List Loc) (ls : Array Slot), (0 : Int) ≤ j43s0.toInt → j43s0.toInt ≤ (1 : Int) → (SX21 = Gf_X8_fits_43_2 j21l2.toInt j21l1.toInt (fl_A v32nfa0_34) j43s0.toInt) → va_P (dC, dI) vwCl [(a0, .inr (8, [Value.int v1na0_0, a0g_1, a0g_2, a0g_3, a0g_4, a0g_5, a0g_6, a0g_7, a0g_8, a0g_9, a0g_10, Value.int v1na0_11, a0g_12, a0g_13, Value.int a0_14, Value.ref a0_15, a0g_16, a0g_17, a0g_18, a0g_19, a0g_20, a0g_21, a0g_22, a0g_23, a0g_24, a0g_25, a0g_26, a0g_27, a0g_28, a0g_29, a0g_30, a0g_31, a0g_32, a0g_33, Value.ref a0_34, a0g_35, a0g_36, a0g_37, a0g_38, a0g_39])), (a0_15, .inl (ka0_15, 156, .inl (fa0_15))), (a0_34, .inl (ka0_34, 9, .inl (v32nfa0_34)))] H → va_D A [(a0, .inr (8, [Value.int v1na0_0, a0g_1, a0g_2, a0g_3, a0g_4, a0g_5, a0g_6, a0g_7, a0g_8, a0g_9, a0g_10, Value.int v1na0_11, a0g_12, a0g_13, Value.int a0_14, Value.ref a0_15, a0g_16, a0g_17, a0g_18, a0g_19, a0g_20, a0g_21, a0g_22, a0g_23, a0g_24, a0g_25, a0g_26, a0g_27, a0g_28, a0g_29, a0g_30, a0g_31, a0g_32, a0g_33, Value.ref a0_34, a0g_35, a0g_36, a0g_37, a0g_38, a0g_39])), (a0_15, .inl (ka0_15, 156, .inl (fa0_15))), (a0_34, .inl (ka0_34, 9, .inl (v32nfa0_34)))] → va_S A s.heap H locs → lv_has ls 3 [(0, .ref a0), (2, .int j21l2)] → K H locs (F0 m 43 ls [.int j43s0, .int j21l1]) := by
              intro j43s0 H locs ls  bj43s0_l bj43s0_u hF1 hP hD hS hl
              refine (hK0 _ _ _).mpr ?_
              have hF1 := hF1.trans (Gf_X8_fits_43_2.eq_1 j21l2.toInt j21l1.toInt (fl_A v32nfa0_34) j43s0.toInt)
              refine lv_iadd hx hb dX8_fits_43 ?_
              refine lv_topi (fun x43 ex43 => ?_)
              have fqx43 := fl_iadd_eq ex43
              have hF1 := hF1.trans (fl_lt_eq (show x43.toInt = fl_iadd j21l1.toInt j43s0.toInt from fqx43))
              refine lv_istore_n (lv' := [(1, .int x43), (0, .ref a0), (2, .int j21l2)]) hx hb dX8_fits_44 rfl hl (by decide) rfl (fun ls hl => ?_)
              obtain ⟨x45, ex45⟩ : ∃ y : Int32, y = j21l2 + Int32.ofInt 1 := ⟨_, rfl⟩
              have qx45 : x45.toInt = j21l2.toInt + 1 := ai_inc ex45 (by decide) (by decide) u26f_j21l2 (by decide)
              have bx45 : (1 : Int) ≤ x45.toInt ∧ x45.toInt ≤ 729 := ⟨by rw [qx45]; exact Int.add_le_add bj21l2_l (Int.le_refl _), by rw [qx45]; exact Int.add_le_add u26f_j21l2 (Int.le_refl _)⟩
              refine lv_iinc (v := x45) (lv' := [(2, .int x45), (1, .int x43), (0, .ref a0)]) hx hb dX8_fits_45 hl (k := 2) rfl ex45.symm (by decide) rfl (fun ls hl => ?_)
              have hF1 := hF1.trans (fl_lt_eq (show x45.toInt = j21l2.toInt + 1 from qx45))
              refine lv_goto (tgt := 21) hx hb dX8_fits_48 (by decide) ?_
              exact (hK0 _ _ _).mp (ih21 x45 x43 v32nfa0_34 _ _ _ (by first | exact zg_s hm21 qx45 | (have h0 := qx45; omega)) (Int.le_trans zq4 bx45.1) bx45.2 (hF0.trans (fl_wh_l (hSX21.trans hF1))) hP hD hS (lv_sub hl [2, 1, 0] rfl))
            refine lv_iconst (v := 0) hx hb dX8_fits_42 zk_iconst_0 ?_
            exact (hK0 _ _ _).mp (J43 0 _ _ _  zq5 (Int.le_trans zq6 zq4) (by rw [show (0 : Int32).toInt = 0 from by decide]; exact hF1) hP hD hS (lv_sub hl [0, 2] rfl))
    exact (hK0 _ _ _).mp (J21 730 0 0 fa0_34 _ _ _ (by first | decide +kernel | (have h1 : (0 : Int) ≤ (0 : Int32).toInt := zq5; have h2 : (0 : Int32).toInt ≤ (0 : Int) := zq6; omega)) zq5 (Int.le_trans zq6 zq35) (by rw [show (0 : Int32).toInt = 0 from by decide]; exact hF0) hP hD hS (lv_sub hl [2, 1, 0] rfl))
  · have gc8 := ai_eq c8
    have u8f_a0_14 : a0_14.toInt ≤ (0 : Int) := Int.le_trans (Int.le_of_eq gc8) zq6
    have l8f_a0_14 : (1 : Int) ≤ a0_14.toInt := ba0_14_l
    exact absurd (Int.le_trans l8f_a0_14 u8f_a0_14) (by decide)
end P314_21_f
section P314_23_f
set_option maxHeartbeats 4000000 in
set_option maxRecDepth 100000 in
theorem f0_X8_fits (l : Launch) (dC : Nat → ClassId) (dI : Nat → Nat → Nat) (sz : Nat) (a0 : Nat) (a0_0 : Int32) (a0g_1 a0g_2 a0g_3 a0g_4 a0g_5 a0g_6 a0g_7 a0g_8 a0g_9 a0g_10 a0g_12 a0g_13 a0g_15 a0g_16 a0g_17 a0g_18 a0g_19 a0g_20 a0g_21 a0g_22 a0g_23 a0g_24 a0g_25 a0g_26 a0g_27 a0g_28 a0g_29 a0g_30 a0g_31 a0g_32 a0g_33 a0g_34 a0g_35 a0g_36 a0g_37 a0g_38 a0g_39 : Value) (a0_11 : Int32) (a0_14 : Int32) (ba0_14_l : (0 : Int) ≤ a0_14.toInt) (ba0_14_u : a0_14.toInt ≤ (0 : Int)) : zm l yX8_fits wsX8_fits ({ frames := 1, cells := 0, slots := 0, locals := 21 }) [.ref a0] dC dI sz [(a0, .inr (8, [Value.int a0_0, a0g_1, a0g_2, a0g_3, a0g_4, a0g_5, a0g_6, a0g_7, a0g_8, a0g_9, a0g_10, Value.int a0_11, a0g_12, a0g_13, Value.int a0_14, a0g_15, a0g_16, a0g_17, a0g_18, a0g_19, a0g_20, a0g_21, a0g_22, a0g_23, a0g_24, a0g_25, a0g_26, a0g_27, a0g_28, a0g_29, a0g_30, a0g_31, a0g_32, a0g_33, a0g_34, a0g_35, a0g_36, a0g_37, a0g_38, a0g_39]))] [] (fun A _ => True) (fun A => va_Qi (fun (r : Int32) (_ : Unit) => (r = (-1)) ∧ r.toInt = (Ff0_X8_fits a0_14.toInt).1) (fun (_ : Unit) (t : State) => ∃ na0_0 : Int32, ∃ na0_11 : Int32, ((Ff0_X8_fits a0_14.toInt).2 = (na0_0.toInt, na0_11.toInt)) ∧ ax_B dC dI A [(a0, .inr (8, [Value.int na0_0, a0g_1, a0g_2, a0g_3, a0g_4, a0g_5, a0g_6, a0g_7, a0g_8, a0g_9, a0g_10, Value.int na0_11, a0g_12, a0g_13, Value.int a0_14, a0g_15, a0g_16, a0g_17, a0g_18, a0g_19, a0g_20, a0g_21, a0g_22, a0g_23, a0g_24, a0g_25, a0g_26, a0g_27, a0g_28, a0g_29, a0g_30, a0g_31, a0g_32, a0g_33, a0g_34, a0g_35, a0g_36, a0g_37, a0g_38, a0g_39]))] [] t) A) := by
  refine zh (cc := cX8_fits) (maxL := 3) (ret := (some .int)) zn_RX8 rfl (Nat.le_of_ble_eq_true rfl) (fun p e s m below meth c A ls hx hb hml hr hts (hown : s.vm.findClass RX8 = some m.cls) hlocks hA hS hP hK hD hE (hl : lv_has ls 3 [(0, .ref a0)]) => ?_)
  generalize hFX : Ff0_X8_fits a0_14.toInt = FX at ⊢
  have hF0 := hFX.symm.trans (Ff0_X8_fits.eq_1 a0_14.toInt)
  refine ai_open (fun K hK0 => ?_)
  refine (hK0 _ _ _).mpr ?_
  refine lv_aload_n hx hb dX8_fits_0 rfl (lv_at hl 0 rfl) ?_
  refine va_callv (va_runV (As := []) (rest := []) ⟨hx, hb, hml, hown, hts⟩ (f_X8_good l dC dI s.heap.size a0 a0_0 a0g_1 a0g_2 a0g_3 a0g_4 a0g_5 a0g_6 a0g_7 a0g_8 a0g_9 a0g_10 a0g_12 a0g_13 (Value.int a0_14) a0g_15 a0g_16 a0g_17 a0g_18 a0g_19 a0g_20 a0g_21 a0g_22 a0g_23 a0g_24 a0g_25 a0g_26 a0g_27 a0g_28 a0g_29 a0g_30 a0g_31 a0g_32 a0g_33 a0g_34 a0g_35 a0g_36 a0g_37 a0g_38 a0g_39 a0_11 ) (cwV 0 hts gX8_fits_X8_good rfl rfl rfl zd_X8_good ⟨Nat.le_of_ble_eq_true rfl, Nat.le_of_ble_eq_true rfl⟩) ⟨ax_blind (fun _ _ _ _ _ => trivial), zr_8 (zp_K hK) (zp_P1 hP) (q0 := 0) rfl, ax_pre (zp_P1 hP) (zp_K hK) (zp_D1 hD) (fun _ _ => trivial)⟩ rfl rfl hl.1 rfl (lv_room (Nat.le_of_ble_eq_true rfl)) dX8_fits_1 ⟨Nat.le_of_ble_eq_true rfl, Nat.le_of_ble_eq_true rfl⟩) hS (fun q _ h => zp_F1 hD hS hA q h) (zp_F1 hD hS hA) (fun u t H locs ht hvm hw => zx_2 (fun v1na0_0 v1na0_11 => zy_1 (fun hraw1_0 hB hz1 hk1 hS1 => zo1 hB ht hP hD hk1 (zp_F1 hD hS hA) hS1 (fun hP hK1 hD hS => ?_))))
  have hc1 : Ff_X8_good = (v1na0_0.toInt, v1na0_11.toInt) := hraw1_0
  have hF0 := hF0.trans (fl_c2_eq hc1)
  refine lv_aload_n hx hb dX8_fits_4 rfl (lv_at hl 0 rfl) ?_
  refine va_get (D := (dC, dI)) (ci := 8) (v := .int a0_14) (C := RX8) (T := TX8) (N := 40) hx hb hts zi_X8_fits_8 hown hK hP 0 rfl rfl 14 (by decide) (hts (.fieldLink RX8 173 "WaxTurnsModel" "hasGallery" "Z") (zm_X8_fits_r1 (List.mem_of_getElem? (i := 0) rfl))) (fun _ h9 => h9) rfl dX8_fits_5 ?_
  refine lv_if_ne (tgt := 17) hx hb dX8_fits_8 (by decide) (fun c8 => ?_) (fun c8 => ?_)
  · have gc8 := ai_ne c8
    have l8t_a0_14 : (1 : Int) ≤ a0_14.toInt := (by first | exact zg_l ba0_14_l gc8 (by decide) (by decide) | (have h1 := ba0_14_l; have h2 : (0 : Int32).toInt = 0 := (by decide); rw [h2] at gc8; omega))
    have u8t_a0_14 : a0_14.toInt ≤ (-1 : Int) := (by first | exact zg_u ba0_14_u gc8 (by decide) (by decide) | (have h1 := ba0_14_u; have h2 : (0 : Int32).toInt = 0 := (by decide); rw [h2] at gc8; omega))
    exact absurd (Int.le_trans l8t_a0_14 u8t_a0_14) (by decide)
  · have gc8 := ai_eq c8
    have u8f_a0_14 : a0_14.toInt ≤ (0 : Int) := ba0_14_u
    have l8f_a0_14 : (0 : Int) ≤ a0_14.toInt := ba0_14_l
    have hF0 := hF0.trans (if_pos (show a0_14.toInt = 0 from gc8))
    refine lv_aload_n hx hb dX8_fits_11 rfl (lv_at hl 0 rfl) ?_
    refine lv_iconst (v := 1) hx hb dX8_fits_12 zk_iconst_1 ?_
    refine va_calli (va_runV (As := [.int 1]) (rest := []) ⟨hx, hb, hml, hown, hts⟩ (f_X8_no l dC dI H.size a0 1 (Value.int v1na0_0) a0g_1 a0g_2 a0g_3 a0g_4 a0g_5 a0g_6 a0g_7 a0g_8 a0g_9 a0g_10 a0g_12 a0g_13 (Value.int a0_14) a0g_15 a0g_16 a0g_17 a0g_18 a0g_19 a0g_20 a0g_21 a0g_22 a0g_23 a0g_24 a0g_25 a0g_26 a0g_27 a0g_28 a0g_29 a0g_30 a0g_31 a0g_32 a0g_33 a0g_34 a0g_35 a0g_36 a0g_37 a0g_38 a0g_39 v1na0_11 ) (cwV 1 hts gX8_fits_X8_no rfl rfl rfl zd_X8_no ⟨Nat.le_of_ble_eq_true rfl, Nat.le_of_ble_eq_true rfl⟩) ⟨ax_blind (fun _ _ _ _ _ => trivial), zr_8 (zp_K hK) (zp_P1 hP) (q0 := 0) rfl, ax_pre (zp_P1 hP) (zp_K hK) (zp_D1 hD) (fun _ _ => trivial)⟩ rfl rfl hl.1 rfl (lv_room (Nat.le_of_ble_eq_true rfl)) dX8_fits_13 ⟨Nat.le_of_ble_eq_true rfl, Nat.le_of_ble_eq_true rfl⟩) hS (fun q _ h => zp_F1 hD hS hA q h) (zp_F1 hD hS hA) (fun r13 u t H locs ht hvm hw => zx_1 (fun v13na0_11 => zy_1 (fun hraw13_0 hB hz1 hk1 hS1 => zo1 hB ht hP hD hk1 (zp_F1 hD hS hA) hS1 (fun hP hK1 hD hS => ?_))))
    obtain ⟨hw, hfr13⟩ := hw
    rw [show (1 : Int32).toInt = 1 from by decide] at hfr13 hraw13_0
    have hc13 : Ff_X8_no 1 = (r13.toInt, v13na0_11.toInt) := Prod.ext hfr13.symm hraw13_0
    have hF0 := hF0.trans (fl_c2_eq hc13)
    have hw : r13 = (-1) := hw
    have hw := hw.symm
    subst hw
    have hFe : FX = ((-1), v1na0_0.toInt, v13na0_11.toInt) := hF0
    exact W.iret (v := (-1)) hx hb hr (fun t ht hW => ⟨⟨(-1), (), rfl, ⟨rfl, (congrArg Prod.fst hFe).symm⟩, v1na0_0, v13na0_11, (congrArg Prod.snd hFe), by rw [ht]; exact hP, va_K.moved hW.alike hK, hD⟩, hS.F ht⟩) hS.2.2 dX8_fits_16
end P314_23_f
