section P314_15_f
set_option maxHeartbeats 4000000 in
set_option maxRecDepth 100000 in
theorem f_X7_called (l : Launch) (dC : Nat → ClassId) (dI : Nat → Nat → Nat) (sz : Nat) (a0 : Nat) (a0g_0 a0g_2 a0g_3 a0g_4 a0g_5 a0g_6 a0g_9 a0g_10 : Value) (a0_1 : Nat) (a0_7 : Nat) (a0_8 : Int32) (a0_7_0 : Int32) (a0_7g_1 a0_7g_2 a0_7g_3 a0_7g_4 a0_7g_7 a0_7g_8 a0_7g_9 a0_7g_10 a0_7g_11 a0_7g_12 a0_7g_13 a0_7g_14 : Value) (a0_7_5 : Int32) (a0_7_6 : Int32) (a0_1g_0 a0_1g_2 a0_1g_3 a0_1g_4 a0_1g_5 a0_1g_6 : Value) (a0_1_1 : Int32) (ba0_7_0_l : (0 : Int) ≤ a0_7_0.toInt) (ba0_7_0_u : a0_7_0.toInt ≤ (9 : Int)) (ba0_7_5_l : (0 : Int) ≤ a0_7_5.toInt) (ba0_7_5_u : a0_7_5.toInt ≤ (8 : Int)) (ba0_7_6_l : (0 : Int) ≤ a0_7_6.toInt) (ba0_7_6_u : a0_7_6.toInt ≤ (8 : Int)) (ba0_1_1_l : (0 : Int) ≤ a0_1_1.toInt) (ba0_1_1_u : a0_1_1.toInt ≤ (8 : Int)) : zm l yX7_called wsX7_called ({ frames := 1, cells := 0, slots := 0, locals := 21 }) [.ref a0] dC dI sz [(a0, .inr (7, [a0g_0, .ref a0_1, a0g_2, a0g_3, a0g_4, a0g_5, a0g_6, .ref a0_7, .int a0_8, a0g_9, a0g_10])), (a0_7, .inr (0, [.int a0_7_0, a0_7g_1, a0_7g_2, a0_7g_3, a0_7g_4, .int a0_7_5, .int a0_7_6, a0_7g_7, a0_7g_8, a0_7g_9, a0_7g_10, a0_7g_11, a0_7g_12, a0_7g_13, a0_7g_14])), (a0_1, .inr (5, [a0_1g_0, .int a0_1_1, a0_1g_2, a0_1g_3, a0_1g_4, a0_1g_5, a0_1g_6]))] [] (fun A _ => True) (fun A => va_Qi (fun (r : Int32) (_ : Unit) => (True) ∧ r.toInt = (Ff_X7_called a0_7_0.toInt a0_7_5.toInt a0_7_6.toInt a0_1_1.toInt).1) (fun (_ : Unit) (t : State) => ∃ na0_8 : Int32, ((Ff_X7_called a0_7_0.toInt a0_7_5.toInt a0_7_6.toInt a0_1_1.toInt).2 = na0_8.toInt) ∧ ax_B dC dI A [(a0, .inr (7, [a0g_0, .ref a0_1, a0g_2, a0g_3, a0g_4, a0g_5, a0g_6, .ref a0_7, .int na0_8, a0g_9, a0g_10])), (a0_7, .inr (0, [.int a0_7_0, a0_7g_1, a0_7g_2, a0_7g_3, a0_7g_4, .int a0_7_5, .int a0_7_6, a0_7g_7, a0_7g_8, a0_7g_9, a0_7g_10, a0_7g_11, a0_7g_12, a0_7g_13, a0_7g_14])), (a0_1, .inr (5, [a0_1g_0, .int a0_1_1, a0_1g_2, a0_1g_3, a0_1g_4, a0_1g_5, a0_1g_6]))] [] t) A) := by
  refine zh (cc := cX7_called) (maxL := 4) (ret := (some .int)) zn_RX7 rfl (Nat.le_of_ble_eq_true rfl) (fun p e s m below meth c A ls hx hb hml hr hts (hown : s.vm.findClass RX7 = some m.cls) hlocks hA hS hP hK hD hE (hl : lv_has ls 4 [(0, .ref a0)]) => ?_)
  generalize hFX : Ff_X7_called a0_7_0.toInt a0_7_5.toInt a0_7_6.toInt a0_1_1.toInt = FX at ⊢
  have hF0 := hFX.symm.trans (Ff_X7_called.eq_1 a0_7_0.toInt a0_7_5.toInt a0_7_6.toInt a0_1_1.toInt)
  refine ai_open (fun K hK0 => ?_)
  refine (hK0 _ _ _).mpr ?_
  refine lv_aload_n hx hb dX7_called_0 rfl (lv_at hl 0 rfl) ?_
  refine va_calli (va_runV (As := []) (rest := []) ⟨hx, hb, hml, hown, hts⟩ (f_X7_hasGallery l dC dI s.heap.size a0 a0g_0 (.ref a0_1) a0g_2 a0g_3 a0g_4 a0g_5 a0g_6 (.int a0_8) a0g_9 a0g_10 a0_7 a0_7_0 a0_7g_1 a0_7g_2 a0_7g_3 a0_7g_4 (.int a0_7_5) (.int a0_7_6) a0_7g_7 a0_7g_8 a0_7g_9 a0_7g_10 a0_7g_11 a0_7g_12 a0_7g_13 a0_7g_14 ba0_7_0_l ba0_7_0_u) (cwV 0 hts gX7_called_X7_hasGallery rfl rfl rfl zd_X7_hasGallery ⟨Nat.le_of_ble_eq_true rfl, Nat.le_of_ble_eq_true rfl⟩) ⟨ax_blind (fun _ _ _ _ _ => trivial), zr_7 (zp_K hK) (zp_P2 hP) (q0 := 0) rfl, ax_pre (zp_P2 hP) (zp_K hK) (zp_D2 hD) (fun _ _ => trivial)⟩ rfl rfl hl.1 rfl (lv_room (Nat.le_of_ble_eq_true rfl)) dX7_called_1 ⟨Nat.le_of_ble_eq_true rfl, Nat.le_of_ble_eq_true rfl⟩) hS (fun q _ h => zp_F2 hD hS hA q h) (zp_F2 hD hS hA) (fun r1 u t H locs ht hvm hw hB hz1 hk1 hS1 => zo2 hB ht hP hD hk1 (zp_F2 hD hS hA) hS1 (fun hP hK1 hD hS => ?_))
  obtain ⟨hw, hfr1⟩ := hw
  have hc1 : Ff_X7_hasGallery a0_7_0.toInt = r1.toInt := hfr1.symm
  have hF0 := hF0.trans (fl_lt_eq hc1.symm)
  rcases hw with hw | hw
  · obtain ⟨hw, h1_0, h1_1⟩ := hw
    subst hw
    have l1k0_a0_7_0 : (1 : Int) ≤ a0_7_0.toInt := h1_0
    have u1k0_a0_7_0 : a0_7_0.toInt ≤ (9 : Int) := ba0_7_0_u
    have hF0 := hF0.trans (if_pos (by decide))
    refine lv_if_ne (tgt := 13) hx hb dX7_called_4 (by decide) (fun _ => ?_) (fun c4 => absurd c4 (by decide +kernel))
    refine lv_iconst (v := 0) hx hb dX7_called_13 zk_iconst_0 ?_
    refine lv_istore_n (lv' := [(1, .int 0), (0, .ref a0)]) hx hb dX7_called_14 rfl hl (by decide) rfl (fun ls hl => ?_)
    refine lv_aload_n hx hb dX7_called_15 rfl (lv_at hl 1 rfl) ?_
    refine va_get (D := (dC, dI)) (ci := 7) (v := .ref a0_1) (C := RX7) (T := TX7) (N := 11) hx hb hts zi_X7_called_7 hown hK hP 0 rfl rfl 1 (by decide) (hts (.fieldLink RX7 19 "WaxTurns" "now" "LWaxTurns$Scene;") (zm_X7_called_r1 (List.mem_of_getElem? (i := 0) rfl))) (fun _ h9 => h9) rfl dX7_called_16 ?_
    refine va_get (D := (dC, dI)) (ci := 5) (v := .int a0_1_1) (C := RX5) (T := TX5) (N := 7) hx hb hts zi_X7_called_5 hown hK hP 2 rfl rfl 1 (by decide) (hts (.fieldLink RX7 158 "WaxTurns$Scene" "turn" "I") (zm_X7_called_r1 (List.mem_of_getElem? (i := 1) rfl))) (fun _ h9 => h9) rfl dX7_called_19 ?_
    refine lv_istore_n (lv' := [(2, .int a0_1_1), (1, .int 0), (0, .ref a0)]) hx hb dX7_called_22 rfl hl (by decide) rfl (fun ls hl => ?_)
    refine lv_iconst (v := 0) hx hb dX7_called_23 zk_iconst_0 ?_
    refine lv_istore_n (lv' := [(3, .int 0), (2, .int a0_1_1), (1, .int 0), (0, .ref a0)]) hx hb dX7_called_24 rfl hl (by decide) rfl (fun ls hl => ?_)
    have J25 : ∀ (n : Nat) (j25l3 : Int32) (j25l2 : Int32) (j25l1 : Int32) (H : Heap) (locs : List Loc) (ls : Array Slot), (10 : Int) - j25l3.toInt ≤ (n : Int) → (0 : Int) ≤ j25l3.toInt → j25l3.toInt ≤ (9 : Int) → (0 : Int) ≤ j25l2.toInt → j25l2.toInt ≤ (8 : Int) → (FX = fl_wh (fun t9 => Sf_X7_called_25_1 a0_7_0.toInt a0_7_5.toInt a0_7_6.toInt t9.1 t9.2.1 t9.2.2) (0, 0) n (j25l3.toInt, j25l2.toInt, j25l1.toInt)) → va_P (dC, dI) vwCl [(a0, .inr (7, [a0g_0, .ref a0_1, a0g_2, a0g_3, a0g_4, a0g_5, a0g_6, .ref a0_7, .int a0_8, a0g_9, a0g_10])), (a0_7, .inr (0, [.int a0_7_0, a0_7g_1, a0_7g_2, a0_7g_3, a0_7g_4, .int a0_7_5, .int a0_7_6, a0_7g_7, a0_7g_8, a0_7g_9, a0_7g_10, a0_7g_11, a0_7g_12, a0_7g_13, a0_7g_14])), (a0_1, .inr (5, [a0_1g_0, .int a0_1_1, a0_1g_2, a0_1g_3, a0_1g_4, a0_1g_5, a0_1g_6]))] H → va_D A [(a0, .inr (7, [a0g_0, .ref a0_1, a0g_2, a0g_3, a0g_4, a0g_5, a0g_6, .ref a0_7, .int a0_8, a0g_9, a0g_10])), (a0_7, .inr (0, [.int a0_7_0, a0_7g_1, a0_7g_2, a0_7g_3, a0_7g_4, .int a0_7_5, .int a0_7_6, a0_7g_7, a0_7g_8, a0_7g_9, a0_7g_10, a0_7g_11, a0_7g_12, a0_7g_13, a0_7g_14])), (a0_1, .inr (5, [a0_1g_0, .int a0_1_1, a0_1g_2, a0_1g_3, a0_1g_4, a0_1g_5, a0_1g_6]))] → va_S A s.heap H locs → lv_has ls 4 [(0, .ref a0), (1, .int j25l1), (2, .int j25l2), (3, .int j25l3)] → K H locs (F0 m 25 ls []) := by
      intro n
      induction n with
      | zero =>
        intro j25l3 j25l2 j25l1 H locs ls hm bj25l3_l bj25l3_u bj25l2_l bj25l2_u hF0 hP hD hS hl
        first | exact zg_0 hm bj25l3_u (by decide) | (have h8 := ai_min j25l3; have h9 := ai_max j25l3; exact absurd hm (by omega))
      | succ n ih25 =>
        intro j25l3 j25l2 j25l1 H locs ls hm bj25l3_l bj25l3_u bj25l2_l bj25l2_u hF0 hP hD hS hl
        refine (hK0 _ _ _).mpr ?_
        have hm25 := hm
        obtain ⟨SX25, hSX25⟩ : ∃ q9, Sf_X7_called_25_1 a0_7_0.toInt a0_7_5.toInt a0_7_6.toInt j25l3.toInt j25l2.toInt j25l1.toInt = q9 := ⟨_, rfl⟩
        have hF1 := hSX25.symm.trans (Sf_X7_called_25_1.eq_1 a0_7_0.toInt a0_7_5.toInt a0_7_6.toInt j25l3.toInt j25l2.toInt j25l1.toInt)
        refine lv_iload_n hx hb dX7_called_25 rfl (lv_at hl 3 rfl) ?_
        refine lv_aload_n hx hb dX7_called_26 rfl (lv_at hl 0 rfl) ?_
        refine va_get (D := (dC, dI)) (ci := 7) (v := .ref a0_7) (C := RX7) (T := TX7) (N := 11) hx hb hts zi_X7_called_7 hown hK hP 0 rfl rfl 7 (by decide) (hts (.fieldLink RX7 57 "WaxTurns" "hall" "LWaxTurns$Hall;") (zm_X7_called_r1 (List.mem_of_getElem? (i := 2) rfl))) (fun _ h9 => h9) rfl dX7_called_27 ?_
        refine va_get (D := (dC, dI)) (ci := 0) (v := .int a0_7_0) (C := RX0) (T := TX0) (N := 15) hx hb hts zi_X7_called_0 hown hK hP 1 rfl rfl 0 (by decide) (hts (.fieldLink RX7 110 "WaxTurns$Hall" "figures" "I") (zm_X7_called_r1 (List.mem_of_getElem? (i := 3) rfl))) (fun _ h9 => h9) rfl dX7_called_30 ?_
        refine lv_icmp_ge (tgt := 57) hx hb dX7_called_33 (by decide) (fun c33 => ?_) (fun c33 => ?_)
        · have gc33 := ai_le c33
          have u33t_a0_7_0 : a0_7_0.toInt ≤ (9 : Int) := u1k0_a0_7_0
          have l33t_j25l3 : (1 : Int) ≤ j25l3.toInt := Int.le_trans l1k0_a0_7_0 gc33
          have hF1 := hF1.trans (if_pos (show a0_7_0.toInt ≤ j25l3.toInt from gc33))
          have hF0 := hF0.trans (fl_wh_r (hSX25.trans hF1))
          refine lv_aload_n hx hb dX7_called_57 rfl (lv_at hl 0 rfl) ?_
          refine lv_iload_n hx hb dX7_called_58 rfl (lv_at hl 1 rfl) ?_
          refine va_calli (va_runV (As := [.int j25l1]) (rest := []) ⟨hx, hb, hml, hown, hts⟩ (f_X7_answered l dC dI H.size a0 j25l1 a0g_0 (.ref a0_1) a0g_2 a0g_3 a0g_4 a0g_5 a0g_6 (.ref a0_7) a0g_9 a0g_10 a0_8 ) (cwV 1 hts gX7_called_X7_answered rfl rfl rfl zd_X7_answered ⟨Nat.le_of_ble_eq_true rfl, Nat.le_of_ble_eq_true rfl⟩) ⟨ax_blind (fun _ _ _ _ _ => trivial), zr_7 (zp_K hK) (zp_P1 hP) (q0 := 0) rfl, ax_pre (zp_P1 hP) (zp_K hK) (zp_D1 hD) (fun _ _ => trivial)⟩ rfl rfl hl.1 rfl (lv_room (Nat.le_of_ble_eq_true rfl)) dX7_called_59 ⟨Nat.le_of_ble_eq_true rfl, Nat.le_of_ble_eq_true rfl⟩) hS (fun q _ h => zp_F1 hD hS hA q h) (zp_F1 hD hS hA) (fun r59 u t H locs ht hvm hw => zx_1 (fun v59na0_8 => zy_1 (fun hraw59_0 hB hz1 hk1 hS1 => zo1 hB ht hP hD hk1 (zp_F1 hD hS hA) hS1 (fun hP hK1 hD hS => ?_))))
          obtain ⟨hw, hfr59⟩ := hw
          have hc59 : Ff_X7_answered j25l1.toInt = (r59.toInt, v59na0_8.toInt) := Prod.ext hfr59.symm hraw59_0
          have hF0 := hF0.trans (fl_c2_eq hc59)
          have hw : r59 = j25l1 := hw
          have hw := hw.symm
          subst hw
          have hFe : FX = (j25l1.toInt, v59na0_8.toInt) := hF0
          exact W.iret (v := j25l1) hx hb hr (fun t ht hW => ⟨⟨j25l1, (), rfl, ⟨trivial, (congrArg Prod.fst hFe).symm⟩, v59na0_8, (congrArg Prod.snd hFe), by rw [ht]; exact hP, va_K.moved hW.alike hK, hD⟩, hS.F ht⟩) hS.2.2 dX7_called_62
        · have gc33 := ai_nle c33
          have u33f_j25l3 : j25l3.toInt ≤ (8 : Int) := ai_lthi gc33 u1k0_a0_7_0
          have l33f_a0_7_0 : (1 : Int) ≤ a0_7_0.toInt := l1k0_a0_7_0
          have hF1 := hF1.trans (if_neg (show ¬ (a0_7_0.toInt ≤ j25l3.toInt) from Int.not_le.mpr gc33))
          refine lv_iload_n hx hb dX7_called_36 rfl (lv_at hl 1 rfl) ?_
          refine lv_iconst (v := 1) hx hb dX7_called_37 zk_iconst_1 ?_
          refine lv_iload_n hx hb dX7_called_38 rfl (lv_at hl 2 rfl) ?_
          refine lv_ishl hx hb dX7_called_39 ?_
          refine lv_topi (fun x39 ex39 => ?_)
          have bx39 : (1 : Int) ≤ x39.toInt ∧ x39.toInt ≤ 512 := sh_1 ex39 bj25l2_l (Int.le_trans bj25l2_u zq22)
          have fqx39 := fl_shl_eq ex39
          have hF1 := hF1.trans (fl_lt_eq (show x39.toInt = fl_shl 1 j25l2.toInt from fqx39))
          refine lv_ior hx hb dX7_called_40 ?_
          refine lv_topi (fun x40 ex40 => ?_)
          have fqx40 := fl_or_eq ex40
          have hF1 := hF1.trans (fl_lt_eq (show x40.toInt = fl_or j25l1.toInt x39.toInt from fqx40))
          refine lv_istore_n (lv' := [(1, .int x40), (0, .ref a0), (2, .int j25l2), (3, .int j25l3)]) hx hb dX7_called_41 rfl hl (by decide) rfl (fun ls hl => ?_)
          refine lv_aload_n hx hb dX7_called_42 rfl (lv_at hl 1 rfl) ?_
          refine va_get (D := (dC, dI)) (ci := 7) (v := .ref a0_7) (C := RX7) (T := TX7) (N := 11) hx hb hts zi_X7_called_7 hown hK hP 0 rfl rfl 7 (by decide) (hts (.fieldLink RX7 57 "WaxTurns" "hall" "LWaxTurns$Hall;") (zm_X7_called_r1 (List.mem_of_getElem? (i := 2) rfl))) (fun _ h9 => h9) rfl dX7_called_43 ?_
          refine lv_iload_n hx hb dX7_called_46 rfl (lv_at hl 2 rfl) ?_
          refine zc_cutc (wc := [(a0_7, .inr (0, [.int a0_7_0, a0_7g_1, a0_7g_2, a0_7g_3, a0_7g_4, .int a0_7_5, .int a0_7_6, a0_7g_7, a0_7g_8, a0_7g_9, a0_7g_10, a0_7g_11, a0_7g_12, a0_7g_13, a0_7g_14]))]) hP hD hS hA [1] (by decide +kernel) rfl (fun hPc hDc hFc hCc => ?_)
          have hKc := zp_K hK
          refine va_calli (va_runV (As := [.int j25l2]) (rest := []) ⟨hx, hb, hml, hown, hts⟩ (f_X0_next l dC dI H.size a0_7 j25l2 a0_7_0 a0_7g_1 a0_7g_2 a0_7g_3 a0_7g_4 a0_7g_7 a0_7g_8 a0_7g_9 a0_7g_10 a0_7g_11 a0_7g_12 a0_7g_13 a0_7g_14 a0_7_5 a0_7_6 bj25l2_l bj25l2_u (Int.le_trans zq4 l33f_a0_7_0) u1k0_a0_7_0 ba0_7_5_l ba0_7_5_u ba0_7_6_l ba0_7_6_u) (cwV 1 hts gX7_called_X0_next rfl rfl rfl zd_X0_next ⟨Nat.le_of_ble_eq_true rfl, Nat.le_of_ble_eq_true rfl⟩) ⟨ax_blind (fun _ _ _ _ _ => trivial), zr_0 hKc hPc (q0 := 0) rfl, ax_pre hPc hKc hDc (fun _ _ => trivial)⟩ rfl rfl hl.1 rfl (lv_room (Nat.le_of_ble_eq_true rfl)) dX7_called_47 ⟨Nat.le_of_ble_eq_true rfl, Nat.le_of_ble_eq_true rfl⟩) hS (fun q _ h => hFc q h) hFc (fun r47 u t H locs ht hvm hw hB hz1 hk1 hS1 => zo hB ht hS1 (fun hP1 hK1 hD1 hS => ?_))
          refine zc_backc (w := [(a0, .inr (7, [a0g_0, .ref a0_1, a0g_2, a0g_3, a0g_4, a0g_5, a0g_6, .ref a0_7, .int a0_8, a0g_9, a0g_10])), (a0_7, .inr (0, [.int a0_7_0, a0_7g_1, a0_7g_2, a0_7g_3, a0_7g_4, .int a0_7_5, .int a0_7_6, a0_7g_7, a0_7g_8, a0_7g_9, a0_7g_10, a0_7g_11, a0_7g_12, a0_7g_13, a0_7g_14])), (a0_1, .inr (5, [a0_1g_0, .int a0_1_1, a0_1g_2, a0_1g_3, a0_1g_4, a0_1g_5, a0_1g_6]))]) hP hD hCc hk1 hFc hP1 hD1 [.inl 0, .inr 0, .inl 2] (by decide +kernel) rfl (fun hP hD => ?_)
          obtain ⟨hw, hfr47⟩ := hw
          have hc47 : Ff_X0_next j25l2.toInt a0_7_0.toInt a0_7_5.toInt a0_7_6.toInt = r47.toInt := hfr47.symm
          have hF1 := hF1.trans (fl_lt_eq hc47.symm)
          have hw : (0 : Int) ≤ r47.toInt ∧ r47.toInt ≤ (8 : Int) := hw
          obtain ⟨h47_0, h47_1⟩ := hw
          refine lv_istore_n (lv' := [(2, .int r47), (1, .int x40), (0, .ref a0), (3, .int j25l3)]) hx hb dX7_called_50 rfl hl (by decide) rfl (fun ls hl => ?_)
          obtain ⟨x51, ex51⟩ : ∃ y : Int32, y = j25l3 + Int32.ofInt 1 := ⟨_, rfl⟩
          have qx51 : x51.toInt = j25l3.toInt + 1 := ai_inc ex51 (by decide) (by decide) u33f_j25l3 (by decide)
          have bx51 : (1 : Int) ≤ x51.toInt ∧ x51.toInt ≤ 9 := ⟨by rw [qx51]; exact Int.add_le_add bj25l3_l (Int.le_refl _), by rw [qx51]; exact Int.add_le_add u33f_j25l3 (Int.le_refl _)⟩
          refine lv_iinc (v := x51) (lv' := [(3, .int x51), (2, .int r47), (1, .int x40), (0, .ref a0)]) hx hb dX7_called_51 hl (k := 3) rfl ex51.symm (by decide) rfl (fun ls hl => ?_)
          have hF1 := hF1.trans (fl_lt_eq (show x51.toInt = j25l3.toInt + 1 from qx51))
          refine lv_goto (tgt := 25) hx hb dX7_called_54 (by decide) ?_
          exact (hK0 _ _ _).mp (ih25 x51 r47 x40 _ _ _ (by first | exact zg_s hm25 qx51 | (have h0 := qx51; omega)) (Int.le_trans zq4 bx51.1) bx51.2 h47_0 h47_1 (hF0.trans (fl_wh_l (hSX25.trans hF1))) hP hD hS (lv_sub hl [3, 2, 1, 0] rfl))
    exact (hK0 _ _ _).mp (J25 10 0 a0_1_1 0 _ _ _ (by first | decide +kernel | (have h1 : (0 : Int) ≤ (0 : Int32).toInt := zq5; have h2 : (0 : Int32).toInt ≤ (0 : Int) := zq6; omega)) zq5 (Int.le_trans zq6 zq7) ba0_1_1_l ba0_1_1_u (by rw [show (0 : Int32).toInt = 0 from by decide]; exact hF0) hP hD hS (lv_sub hl [3, 2, 1, 0] rfl))
  · obtain ⟨hw, h1_0, h1_1⟩ := hw
    subst hw
    have l1k1_a0_7_0 : (0 : Int) ≤ a0_7_0.toInt := ba0_7_0_l
    have u1k1_a0_7_0 : a0_7_0.toInt ≤ (0 : Int) := h1_1
    have hF0 := hF0.trans (if_neg (by decide))
    refine lv_if_ne (tgt := 13) hx hb dX7_called_4 (by decide) (fun c4 => absurd (by decide +kernel) c4) (fun _ => ?_)
    refine lv_aload_n hx hb dX7_called_7 rfl (lv_at hl 0 rfl) ?_
    refine lv_iconst (v := 1) hx hb dX7_called_8 zk_iconst_1 ?_
    refine va_calli (va_runV (As := [.int 1]) (rest := []) ⟨hx, hb, hml, hown, hts⟩ (f_X7_refused l dC dI H.size a0 1 a0g_0 (.ref a0_1) a0g_2 a0g_3 a0g_4 a0g_5 a0g_6 (.ref a0_7) a0g_9 a0g_10 a0_8 ) (cwV 1 hts gX7_called_X7_refused rfl rfl rfl zd_X7_refused ⟨Nat.le_of_ble_eq_true rfl, Nat.le_of_ble_eq_true rfl⟩) ⟨ax_blind (fun _ _ _ _ _ => trivial), zr_7 (zp_K hK) (zp_P1 hP) (q0 := 0) rfl, ax_pre (zp_P1 hP) (zp_K hK) (zp_D1 hD) (fun _ _ => trivial)⟩ rfl rfl hl.1 rfl (lv_room (Nat.le_of_ble_eq_true rfl)) dX7_called_9 ⟨Nat.le_of_ble_eq_true rfl, Nat.le_of_ble_eq_true rfl⟩) hS (fun q _ h => zp_F1 hD hS hA q h) (zp_F1 hD hS hA) (fun r9 u t H locs ht hvm hw => zx_1 (fun v9na0_8 => zy_1 (fun hraw9_0 hB hz1 hk1 hS1 => zo1 hB ht hP hD hk1 (zp_F1 hD hS hA) hS1 (fun hP hK1 hD hS => ?_))))
    obtain ⟨hw, hfr9⟩ := hw
    rw [show (1 : Int32).toInt = 1 from by decide] at hfr9 hraw9_0
    have hc9 : Ff_X7_refused 1 = (r9.toInt, v9na0_8.toInt) := Prod.ext hfr9.symm hraw9_0
    have hF0 := hF0.trans (fl_c2_eq hc9)
    have hw : r9 = (-1) := hw
    have hw := hw.symm
    subst hw
    have hFe : FX = ((-1), v9na0_8.toInt) := hF0
    exact W.iret (v := (-1)) hx hb hr (fun t ht hW => ⟨⟨(-1), (), rfl, ⟨trivial, (congrArg Prod.fst hFe).symm⟩, v9na0_8, (congrArg Prod.snd hFe), by rw [ht]; exact hP, va_K.moved hW.alike hK, hD⟩, hS.F ht⟩) hS.2.2 dX7_called_12
end P314_15_f
section P314_16_f
set_option maxHeartbeats 4000000 in
set_option maxRecDepth 100000 in
theorem f_X8_goRound (l : Launch) (dC : Nat → ClassId) (dI : Nat → Nat → Nat) (sz : Nat) (a0 : Nat) (a0g_0 a0g_1 a0g_2 a0g_3 a0g_4 a0g_5 a0g_6 a0g_7 a0g_8 a0g_9 a0g_10 a0g_11 a0g_12 a0g_13 a0g_14 a0g_16 a0g_18 a0g_19 a0g_20 a0g_21 a0g_22 a0g_23 a0g_24 a0g_25 a0g_26 a0g_27 a0g_28 a0g_32 a0g_33 a0g_34 a0g_35 a0g_36 a0g_37 a0g_38 a0g_39 : Value) (a0_15 : Nat) (a0_17 : Nat) (a0_29 : Nat) (a0_30 : Int32) (a0_31 : Int32) (ka0_17 : ClassId) (fa0_17 : Nat → Int32) (ka0_29 : ClassId) (fa0_29 : Nat → Int32) (ka0_15 : ClassId) (fa0_15 : Nat → Int32) (bfa0_17 : ((∀ k : Nat, 0 ≤ k → k ≤ 8 → (0 : Int) ≤ (fa0_17 k).toInt ∧ (fa0_17 k).toInt ≤ 8) ∧ (∀ k : Nat, 19 ≤ k → k ≤ 19 → (0 : Int) ≤ (fa0_17 k).toInt ∧ (fa0_17 k).toInt ≤ 8) ∧ (∀ k : Nat, 20 ≤ k → k ≤ 20 → (0 : Int) ≤ (fa0_17 k).toInt ∧ (fa0_17 k).toInt ≤ 19))) (bfa0_29 : (∀ k, (0 : Int) ≤ (fa0_29 k).toInt ∧ (fa0_29 k).toInt ≤ 8)) (bfa0_15 : ((∀ k : Nat, 0 ≤ k → k ≤ 0 → (2 : Int) ≤ (fa0_15 k).toInt ∧ (fa0_15 k).toInt ≤ 9) ∧ (∀ k : Nat, 1 ≤ k → k ≤ 1 → (1 : Int) ≤ (fa0_15 k).toInt ∧ (fa0_15 k).toInt ≤ 20) ∧ (∀ k : Nat, 2 ≤ k → k ≤ 2 → (0 : Int) ≤ (fa0_15 k).toInt ∧ (fa0_15 k).toInt ≤ 8) ∧ (∀ k : Nat, 3 ≤ k → k ≤ 3 → (0 : Int) ≤ (fa0_15 k).toInt ∧ (fa0_15 k).toInt ≤ 100) ∧ (∀ k : Nat, 4 ≤ k → k ≤ 4 → (0 : Int) ≤ (fa0_15 k).toInt ∧ (fa0_15 k).toInt ≤ 9) ∧ (∀ k : Nat, 5 ≤ k → k ≤ 5 → (0 : Int) ≤ (fa0_15 k).toInt ∧ (fa0_15 k).toInt ≤ 3) ∧ (∀ k : Nat, 6 ≤ k → k ≤ 6 → (0 : Int) ≤ (fa0_15 k).toInt ∧ (fa0_15 k).toInt ≤ 6) ∧ (∀ k : Nat, 7 ≤ k → k ≤ 9 → (0 : Int) ≤ (fa0_15 k).toInt ∧ (fa0_15 k).toInt ≤ 8) ∧ (∀ k : Nat, 12 ≤ k → k ≤ 29 → (0 : Int) ≤ (fa0_15 k).toInt ∧ (fa0_15 k).toInt ≤ 20) ∧ (∀ k : Nat, 30 ≤ k → k ≤ 35 → (0 : Int) ≤ (fa0_15 k).toInt ∧ (fa0_15 k).toInt ≤ 8) ∧ (∀ k : Nat, 36 ≤ k → k ≤ 47 → (0 : Int) ≤ (fa0_15 k).toInt ∧ (fa0_15 k).toInt ≤ 999))) : zm l yX8_goRound wsX8_goRound ({ frames := 1, cells := 0, slots := 0, locals := 21 }) [.ref a0] dC dI sz [(a0, .inr (8, [a0g_0, a0g_1, a0g_2, a0g_3, a0g_4, a0g_5, a0g_6, a0g_7, a0g_8, a0g_9, a0g_10, a0g_11, a0g_12, a0g_13, a0g_14, Value.ref a0_15, a0g_16, Value.ref a0_17, a0g_18, a0g_19, a0g_20, a0g_21, a0g_22, a0g_23, a0g_24, a0g_25, a0g_26, a0g_27, a0g_28, Value.ref a0_29, Value.int a0_30, Value.int a0_31, a0g_32, a0g_33, a0g_34, a0g_35, a0g_36, a0g_37, a0g_38, a0g_39])), (a0_17, .inl (ka0_17, 23, .inl (fa0_17))), (a0_29, .inl (ka0_29, 10, .inl (fa0_29))), (a0_15, .inl (ka0_15, 156, .inl (fa0_15)))] [(ka0_17, .int), (ka0_29, .int), (ka0_15, .int)] (fun A _ => True) (fun A => va_Qv (fun (_ : Unit) => True) (fun (_ : Unit) (t : State) => ∃ na0_30 : Int32, ∃ na0_31 : Int32, ∃ nfa0_29 : Nat → Int32, (∀ k, (0 : Int) ≤ (nfa0_29 k).toInt ∧ (nfa0_29 k).toInt ≤ 8) ∧ ((0 : Int) ≤ na0_30.toInt ∧ (1 : Int) ≤ na0_31.toInt ∧ na0_30.toInt + na0_31.toInt ≤ 9) ∧ (Ff_X8_goRound (fl_A fa0_17) (fl_A fa0_29) (fl_A fa0_15) = (na0_30.toInt, na0_31.toInt, (fl_A nfa0_29))) ∧ ax_B dC dI A [(a0, .inr (8, [a0g_0, a0g_1, a0g_2, a0g_3, a0g_4, a0g_5, a0g_6, a0g_7, a0g_8, a0g_9, a0g_10, a0g_11, a0g_12, a0g_13, a0g_14, Value.ref a0_15, a0g_16, Value.ref a0_17, a0g_18, a0g_19, a0g_20, a0g_21, a0g_22, a0g_23, a0g_24, a0g_25, a0g_26, a0g_27, a0g_28, Value.ref a0_29, Value.int na0_30, Value.int na0_31, a0g_32, a0g_33, a0g_34, a0g_35, a0g_36, a0g_37, a0g_38, a0g_39])), (a0_17, .inl (ka0_17, 23, .inl (fa0_17))), (a0_29, .inl (ka0_29, 10, .inl (nfa0_29))), (a0_15, .inl (ka0_15, 156, .inl (fa0_15)))] [(ka0_17, .int), (ka0_29, .int), (ka0_15, .int)] t) A) := by
  refine zh (cc := cX8_goRound) (maxL := 4) (ret := none) zn_RX8 rfl (Nat.le_of_ble_eq_true rfl) (fun p e s m below meth c A ls hx hb hml hr hts (hown : s.vm.findClass RX8 = some m.cls) hlocks hA hS hP hK hD hE (hl : lv_has ls 4 [(0, .ref a0)]) => ?_)
  generalize hFX : Ff_X8_goRound (fl_A fa0_17) (fl_A fa0_29) (fl_A fa0_15) = FX at ⊢
  have hF0 := hFX.symm.trans (Ff_X8_goRound.eq_1 (fl_A fa0_17) (fl_A fa0_29) (fl_A fa0_15))
  refine ai_open (fun K hK0 => ?_)
  refine (hK0 _ _ _).mpr ?_
  refine lv_iconst (v := 0) hx hb dX8_goRound_0 zk_iconst_0 ?_
  refine lv_istore_n (lv' := [(1, .int 0), (0, .ref a0)]) hx hb dX8_goRound_1 rfl hl (by decide) rfl (fun ls hl => ?_)
  refine lv_aload_n hx hb dX8_goRound_2 rfl (lv_at hl 1 rfl) ?_
  refine va_get (D := (dC, dI)) (ci := 8) (v := .ref a0_17) (C := RX8) (T := TX8) (N := 40) hx hb hts zi_X8_goRound_8 hown hK hP 0 rfl rfl 17 (by decide) (hts (.fieldLink RX8 26 "WaxTurnsModel" "st" "[I") (List.mem_cons_of_mem _ (List.mem_append_left _ (List.mem_of_getElem? (i := 0) rfl)))) (fun _ h9 => h9) rfl dX8_goRound_3 ?_
  refine lv_bipush (v := 19) hx hb dX8_goRound_6 zk_bipush_19 ?_
  refine va_iald hx hb hK hP 1 0 rfl rfl (by unfold vp_in; decide +kernel) dX8_goRound_8 ?_
  refine lv_topi (fun x8 ex8 => ?_)
  have bx8 : (0 : Int) ≤ x8.toInt ∧ x8.toInt ≤ 8 := by rw [ex8]; exact ai_rd bfa0_17.2.1 zq160 zq161 (by decide) (by decide) (by decide)
  have fqx8 := congrArg Int32.toInt ex8
  have hF0 := hF0.trans (fl_lt_eq (show x8.toInt = (fl_A fa0_17) (19) from fqx8))
  refine lv_istore_n (lv' := [(2, .int x8), (1, .int 0), (0, .ref a0)]) hx hb dX8_goRound_9 rfl hl (by decide) rfl (fun ls hl => ?_)
  refine lv_aload_n hx hb dX8_goRound_10 rfl (lv_at hl 2 rfl) ?_
  refine lv_iconst (v := (-1)) hx hb dX8_goRound_11 zk_iconst_n1 ?_
  refine va_put (D := (dC, dI)) (ci := 8) (v := .int (-1)) (ty := .int) (C := RX8) (T := TX8) (N := 40) hx hb hts zi_X8_goRound_8 tyX8 tyX8_ok nmX8 hown hK hP hD hS 0 rfl rfl 30 (by decide) (hts (.fieldLink RX8 283 "WaxTurnsModel" "settled" "I") (List.mem_cons_of_mem _ (List.mem_append_left _ (List.mem_of_getElem? (i := 1) rfl)))) (fun _ h9 => h9) rfl (tyX8_ok 30 (by decide)) rfl rfl (Nat.le_of_ble_eq_true rfl) dX8_goRound_12 (fun H locs hP hD hS => ?_)
  refine zs_0 (y := (a0, .inr (8, [a0g_0, a0g_1, a0g_2, a0g_3, a0g_4, a0g_5, a0g_6, a0g_7, a0g_8, a0g_9, a0g_10, a0g_11, a0g_12, a0g_13, a0g_14, Value.ref a0_15, a0g_16, Value.ref a0_17, a0g_18, a0g_19, a0g_20, a0g_21, a0g_22, a0g_23, a0g_24, a0g_25, a0g_26, a0g_27, a0g_28, Value.ref a0_29, Value.int (-1), Value.int a0_31, a0g_32, a0g_33, a0g_34, a0g_35, a0g_36, a0g_37, a0g_38, a0g_39]))) hP hD rfl (fun hP hD => ?_)
  have J15 : ∀ (n : Nat) (j15l2 : Int32) (j15l1 : Int32) (j15a0_30 : Int32) (j15a0_29_a : Nat → Int32) (H : Heap) (locs : List Loc) (ls : Array Slot), (13 : Int) - j15l1.toInt ≤ (n : Int) → (0 : Int) ≤ j15l2.toInt → j15l2.toInt ≤ (8 : Int) → (0 : Int) ≤ j15l1.toInt → j15l1.toInt ≤ (12 : Int) → (∀ k, (0 : Int) ≤ (j15a0_29_a k).toInt ∧ (j15a0_29_a k).toInt ≤ 8) → (gr_D j15a0_29_a j15l1.toNatClampNeg) → (j15a0_30.toInt = -1) → (FX = fl_wh (fun t9 => Sf_X8_goRound_15_1 (fl_A fa0_15) t9.1 t9.2.1 t9.2.2.1 t9.2.2.2) (0, 0, (fun _ => 0)) n (j15l2.toInt, j15l1.toInt, j15a0_30.toInt, (fl_A j15a0_29_a))) → va_P (dC, dI) vwCl [(a0, .inr (8, [a0g_0, a0g_1, a0g_2, a0g_3, a0g_4, a0g_5, a0g_6, a0g_7, a0g_8, a0g_9, a0g_10, a0g_11, a0g_12, a0g_13, a0g_14, Value.ref a0_15, a0g_16, Value.ref a0_17, a0g_18, a0g_19, a0g_20, a0g_21, a0g_22, a0g_23, a0g_24, a0g_25, a0g_26, a0g_27, a0g_28, Value.ref a0_29, Value.int j15a0_30, Value.int a0_31, a0g_32, a0g_33, a0g_34, a0g_35, a0g_36, a0g_37, a0g_38, a0g_39])), (a0_17, .inl (ka0_17, 23, .inl (fa0_17))), (a0_29, .inl (ka0_29, 10, .inl (j15a0_29_a))), (a0_15, .inl (ka0_15, 156, .inl (fa0_15)))] H → va_D A [(a0, .inr (8, [a0g_0, a0g_1, a0g_2, a0g_3, a0g_4, a0g_5, a0g_6, a0g_7, a0g_8, a0g_9, a0g_10, a0g_11, a0g_12, a0g_13, a0g_14, Value.ref a0_15, a0g_16, Value.ref a0_17, a0g_18, a0g_19, a0g_20, a0g_21, a0g_22, a0g_23, a0g_24, a0g_25, a0g_26, a0g_27, a0g_28, Value.ref a0_29, Value.int j15a0_30, Value.int a0_31, a0g_32, a0g_33, a0g_34, a0g_35, a0g_36, a0g_37, a0g_38, a0g_39])), (a0_17, .inl (ka0_17, 23, .inl (fa0_17))), (a0_29, .inl (ka0_29, 10, .inl (j15a0_29_a))), (a0_15, .inl (ka0_15, 156, .inl (fa0_15)))] → va_S A s.heap H locs → lv_has ls 4 [(0, .ref a0), (1, .int j15l1), (2, .int j15l2)] → K H locs (F0 m 15 ls []) := by
    intro n
    induction n with
    | zero =>
      intro j15l2 j15l1 j15a0_30 j15a0_29_a H locs ls hm bj15l2_l bj15l2_u bj15l1_l bj15l1_u bj15a0_29_a gr15 sm15 hF0 hP hD hS hl
      first | exact zg_0 hm bj15l1_u (by decide) | (have h8 := ai_min j15l1; have h9 := ai_max j15l1; exact absurd hm (by omega))
    | succ n ih15 =>
      intro j15l2 j15l1 j15a0_30 j15a0_29_a H locs ls hm bj15l2_l bj15l2_u bj15l1_l bj15l1_u bj15a0_29_a gr15 sm15 hF0 hP hD hS hl
      refine (hK0 _ _ _).mpr ?_
      have hm15 := hm
      obtain ⟨SX15, hSX15⟩ : ∃ q9, Sf_X8_goRound_15_1 (fl_A fa0_15) j15l2.toInt j15l1.toInt j15a0_30.toInt (fl_A j15a0_29_a) = q9 := ⟨_, rfl⟩
      have hF1 := hSX15.symm.trans (Sf_X8_goRound_15_1.eq_1 (fl_A fa0_15) j15l2.toInt j15l1.toInt j15a0_30.toInt (fl_A j15a0_29_a))
      refine lv_aload_n hx hb dX8_goRound_15 rfl (lv_at hl 0 rfl) ?_
      refine va_get (D := (dC, dI)) (ci := 8) (v := .int j15a0_30) (C := RX8) (T := TX8) (N := 40) hx hb hts zi_X8_goRound_8 hown hK hP 0 rfl rfl 30 (by decide) (hts (.fieldLink RX8 283 "WaxTurnsModel" "settled" "I") (List.mem_cons_of_mem _ (List.mem_append_left _ (List.mem_of_getElem? (i := 1) rfl)))) (fun _ h9 => h9) rfl dX8_goRound_16 ?_
      refine lv_if_ge (tgt := 79) hx hb dX8_goRound_19 (by decide) (fun c19 => ?_) (fun c19 => ?_)
      · have gc19 := ai_le c19
        have l19t_j15a0_30 : (0 : Int) ≤ j15a0_30.toInt := Int.le_trans zq5 gc19
        exact absurd (Int.le_trans l19t_j15a0_30 (Int.le_of_eq sm15)) (by decide)
      · have gc19 := ai_nle c19
        have u19f_j15a0_30 : j15a0_30.toInt ≤ (-1 : Int) := (Int.le_of_eq sm15)
        have hF1 := hF1.trans (if_neg (show ¬ (0 ≤ j15a0_30.toInt) from Int.not_le.mpr gc19))
        refine lv_iconst (v := 0) hx hb dX8_goRound_22 zk_iconst_0 ?_
        have u22z_j15l1 : j15l1.toInt ≤ (9 : Int) := gr_i gr15
        refine lv_istore_n (lv' := [(3, .int 0), (0, .ref a0), (1, .int j15l1), (2, .int j15l2)]) hx hb dX8_goRound_23 rfl hl (by decide) rfl (fun ls hl => ?_)
        have J24 : ∀ (n : Nat) (j24l3 : Int32) (j24a0_30 : Int32) (H : Heap) (locs : List Loc) (ls : Array Slot), (10 : Int) - j24l3.toInt ≤ (n : Int) → (0 : Int) ≤ j24l3.toInt → j24l3.toInt ≤ (9 : Int) → (gr_K j15a0_29_a j24a0_30 j24l3 j15l2 j15l1) → (SX15 = fl_wh (fun t9 => Sf_X8_goRound_24_1 (fl_A fa0_15) j15l2.toInt j15l1.toInt (fl_A j15a0_29_a) t9.1 t9.2) (Sum.inr (0, 0, (fun _ => 0))) n (j24l3.toInt, j24a0_30.toInt)) → va_P (dC, dI) vwCl [(a0, .inr (8, [a0g_0, a0g_1, a0g_2, a0g_3, a0g_4, a0g_5, a0g_6, a0g_7, a0g_8, a0g_9, a0g_10, a0g_11, a0g_12, a0g_13, a0g_14, Value.ref a0_15, a0g_16, Value.ref a0_17, a0g_18, a0g_19, a0g_20, a0g_21, a0g_22, a0g_23, a0g_24, a0g_25, a0g_26, a0g_27, a0g_28, Value.ref a0_29, Value.int j24a0_30, Value.int a0_31, a0g_32, a0g_33, a0g_34, a0g_35, a0g_36, a0g_37, a0g_38, a0g_39])), (a0_17, .inl (ka0_17, 23, .inl (fa0_17))), (a0_29, .inl (ka0_29, 10, .inl (j15a0_29_a))), (a0_15, .inl (ka0_15, 156, .inl (fa0_15)))] H → va_D A [(a0, .inr (8, [a0g_0, a0g_1, a0g_2, a0g_3, a0g_4, a0g_5, a0g_6, a0g_7, a0g_8, a0g_9, a0g_10, a0g_11, a0g_12, a0g_13, a0g_14, Value.ref a0_15, a0g_16, Value.ref a0_17, a0g_18, a0g_19, a0g_20, a0g_21, a0g_22, a0g_23, a0g_24, a0g_25, a0g_26, a0g_27, a0g_28, Value.ref a0_29, Value.int j24a0_30, Value.int a0_31, a0g_32, a0g_33, a0g_34, a0g_35, a0g_36, a0g_37, a0g_38, a0g_39])), (a0_17, .inl (ka0_17, 23, .inl (fa0_17))), (a0_29, .inl (ka0_29, 10, .inl (j15a0_29_a))), (a0_15, .inl (ka0_15, 156, .inl (fa0_15)))] → va_S A s.heap H locs → lv_has ls 4 [(0, .ref a0), (1, .int j15l1), (2, .int j15l2), (3, .int j24l3)] → K H locs (F0 m 24 ls []) := by
          intro n
          induction n with
          | zero =>
            intro j24l3 j24a0_30 H locs ls hm bj24l3_l bj24l3_u sk24 hF1 hP hD hS hl
            first | exact zg_0 hm bj24l3_u (by decide) | (have h8 := ai_min j24l3; have h9 := ai_max j24l3; exact absurd hm (by omega))
          | succ n ih24 =>
            intro j24l3 j24a0_30 H locs ls hm bj24l3_l bj24l3_u sk24 hF1 hP hD hS hl
            refine (hK0 _ _ _).mpr ?_
            have hm24 := hm
            obtain ⟨SX24, hSX24⟩ : ∃ q9, Sf_X8_goRound_24_1 (fl_A fa0_15) j15l2.toInt j15l1.toInt (fl_A j15a0_29_a) j24l3.toInt j24a0_30.toInt = q9 := ⟨_, rfl⟩
            have hF2 := hSX24.symm.trans (Sf_X8_goRound_24_1.eq_1 (fl_A fa0_15) j15l2.toInt j15l1.toInt (fl_A j15a0_29_a) j24l3.toInt j24a0_30.toInt)
            refine lv_iload_n hx hb dX8_goRound_24 rfl (lv_at hl 3 rfl) ?_
            refine lv_iload_n hx hb dX8_goRound_25 rfl (lv_at hl 1 rfl) ?_
            refine lv_icmp_ge (tgt := 50) hx hb dX8_goRound_26 (by decide) (fun c26 => ?_) (fun c26 => ?_)
            · have gc26 := ai_le c26
              have u26t_j15l1 : j15l1.toInt ≤ (9 : Int) := u22z_j15l1
              have l26t_j24l3 : (0 : Int) ≤ j24l3.toInt := bj24l3_l
              have hF2 := hF2.trans (if_pos (show j15l1.toInt ≤ j24l3.toInt from gc26))
              have hF1 := hF1.trans (fl_wh_r (hSX24.trans hF2))
              refine lv_aload_n hx hb dX8_goRound_50 rfl (lv_at hl 0 rfl) ?_
              refine va_get (D := (dC, dI)) (ci := 8) (v := .int j24a0_30) (C := RX8) (T := TX8) (N := 40) hx hb hts zi_X8_goRound_8 hown hK hP 0 rfl rfl 30 (by decide) (hts (.fieldLink RX8 283 "WaxTurnsModel" "settled" "I") (List.mem_cons_of_mem _ (List.mem_append_left _ (List.mem_of_getElem? (i := 1) rfl)))) (fun _ h9 => h9) rfl dX8_goRound_51 ?_
              refine lv_if_lt (tgt := 60) hx hb dX8_goRound_54 (by decide) (fun c54 => ?_) (fun c54 => ?_)
              · have gc54 := ai_lt c54
                have u54t_j24a0_30 : j24a0_30.toInt ≤ (-1 : Int) := ai_lthi gc54 zq6
                have hF1 := hF1.trans (if_pos (show j24a0_30.toInt < 0 from gc54))
                refine lv_aload_n hx hb dX8_goRound_60 rfl (lv_at hl 0 rfl) ?_
                have hne60 := gr_Kn sk24 (by omega) (by omega)
                have u60z_j15l1 : j15l1.toInt ≤ (9 : Int) := u26t_j15l1
                refine va_get (D := (dC, dI)) (ci := 8) (v := .ref a0_29) (C := RX8) (T := TX8) (N := 40) hx hb hts zi_X8_goRound_8 hown hK hP 0 rfl rfl 29 (by decide) (hts (.fieldLink RX8 44 "WaxTurnsModel" "row" "[I") (List.mem_cons_of_mem _ (List.mem_append_left _ (List.mem_of_getElem? (i := 2) rfl)))) (fun _ h9 => h9) rfl dX8_goRound_61 ?_
                refine lv_iload_n hx hb dX8_goRound_64 rfl (lv_at hl 1 rfl) ?_
                refine lv_iload_n hx hb dX8_goRound_65 rfl (lv_at hl 2 rfl) ?_
                refine va_iast hx hb hK hP hD hS 2 1 rfl rfl (ai_in bj15l1_l u60z_j15l1 (by decide) (by decide)) dX8_goRound_66 (fun H locs hP hD hS => ?_)
                obtain ⟨f66, ef66⟩ : ∃ g9 : Nat → Int32, g9 = upd j15a0_29_a (j15l1 : Int32).toNatClampNeg j15l2 := ⟨_, rfl⟩
                refine zs_2 (y := (a0_29, .inl (ka0_29, 10, .inl (f66)))) hP hD (by rw [ef66]) (fun hP hD => ?_)
                have bf66 : (∀ k, (0 : Int) ≤ (f66 k).toInt ∧ (f66 k).toInt ≤ 8) := by rw [ef66]; exact ai_upd bj15a0_29_a _ ⟨bj15l2_l, bj15l2_u⟩
                have fqf66 := fl_up_eq ef66
                have hF1 := hF1.trans (fl_lt_eq (show (fl_A f66) = fl_up (fl_A j15a0_29_a) (j15l1.toInt.toNat) j15l2.toInt from fqf66))
                obtain ⟨x67, ex67⟩ : ∃ y : Int32, y = j15l1 + Int32.ofInt 1 := ⟨_, rfl⟩
                have qx67 : x67.toInt = j15l1.toInt + 1 := ai_inc ex67 (by decide) (by decide) u60z_j15l1 (by decide)
                have bx67 : (1 : Int) ≤ x67.toInt ∧ x67.toInt ≤ 10 := ⟨by rw [qx67]; exact Int.add_le_add bj15l1_l (Int.le_refl _), by rw [qx67]; exact Int.add_le_add u60z_j15l1 (Int.le_refl _)⟩
                refine lv_iinc (v := x67) (lv' := [(1, .int x67), (0, .ref a0), (2, .int j15l2), (3, .int j24l3)]) hx hb dX8_goRound_67 hl (k := 1) rfl ex67.symm (by decide) rfl (fun ls hl => ?_)
                have hF1 := hF1.trans (fl_lt_eq (show x67.toInt = j15l1.toInt + 1 from qx67))
                refine lv_aload_n hx hb dX8_goRound_70 rfl (lv_at hl 1 rfl) ?_
                refine lv_iload_n hx hb dX8_goRound_71 rfl (lv_at hl 2 rfl) ?_
                refine zc_cutc (wc := [(a0, .inr (8, [a0g_0, a0g_1, a0g_2, a0g_3, a0g_4, a0g_5, a0g_6, a0g_7, a0g_8, a0g_9, a0g_10, a0g_11, a0g_12, a0g_13, a0g_14, Value.ref a0_15, a0g_16, Value.ref a0_17, a0g_18, a0g_19, a0g_20, a0g_21, a0g_22, a0g_23, a0g_24, a0g_25, a0g_26, a0g_27, a0g_28, Value.ref a0_29, Value.int j24a0_30, Value.int a0_31, a0g_32, a0g_33, a0g_34, a0g_35, a0g_36, a0g_37, a0g_38, a0g_39])), (a0_15, .inl (ka0_15, 156, .inl (fa0_15)))]) hP hD hS hA [0, 3] (by decide +kernel) rfl (fun hPc hDc hFc hCc => ?_)
                have hKc := hK.sub (tys' := [(ka0_15, .int)]) [2] rfl
                refine va_calli (va_runV (As := [.int j15l2]) (rest := []) ⟨hx, hb, hml, hown, hts⟩ (f_X8_nextOf l dC dI H.size a0 j15l2 a0g_0 a0g_1 a0g_2 a0g_3 a0g_4 a0g_5 a0g_6 a0g_7 a0g_8 a0g_9 a0g_10 a0g_11 a0g_12 a0g_13 a0g_14 a0g_16 (Value.ref a0_17) a0g_18 a0g_19 a0g_20 a0g_21 a0g_22 a0g_23 a0g_24 a0g_25 a0g_26 a0g_27 a0g_28 (Value.ref a0_29) (Value.int j24a0_30) (Value.int a0_31) a0g_32 a0g_33 a0g_34 a0g_35 a0g_36 a0g_37 a0g_38 a0g_39 a0_15 ka0_15 fa0_15 bj15l2_l bj15l2_u bfa0_15) (cwV 1 hts gX8_goRound_X8_nextOf rfl rfl rfl zd_X8_nextOf ⟨Nat.le_of_ble_eq_true rfl, Nat.le_of_ble_eq_true rfl⟩) ⟨ax_blind (fun _ _ _ _ _ => trivial), zr_8 hKc hPc (q0 := 0) rfl, ax_pre hPc hKc hDc (fun _ _ => trivial)⟩ rfl rfl hl.1 rfl (lv_room (Nat.le_of_ble_eq_true rfl)) dX8_goRound_72 ⟨Nat.le_of_ble_eq_true rfl, Nat.le_of_ble_eq_true rfl⟩) hS (fun q _ h => hFc q h) hFc (fun r72 u t H locs ht hvm hw hB hz1 hk1 hS1 => zo hB ht hS1 (fun hP1 hK1 hD1 hS => ?_))
                refine zc_backc (w := [(a0, .inr (8, [a0g_0, a0g_1, a0g_2, a0g_3, a0g_4, a0g_5, a0g_6, a0g_7, a0g_8, a0g_9, a0g_10, a0g_11, a0g_12, a0g_13, a0g_14, Value.ref a0_15, a0g_16, Value.ref a0_17, a0g_18, a0g_19, a0g_20, a0g_21, a0g_22, a0g_23, a0g_24, a0g_25, a0g_26, a0g_27, a0g_28, Value.ref a0_29, Value.int j24a0_30, Value.int a0_31, a0g_32, a0g_33, a0g_34, a0g_35, a0g_36, a0g_37, a0g_38, a0g_39])), (a0_17, .inl (ka0_17, 23, .inl (fa0_17))), (a0_29, .inl (ka0_29, 10, .inl (f66))), (a0_15, .inl (ka0_15, 156, .inl (fa0_15)))]) hP hD hCc hk1 hFc hP1 hD1 [.inr 0, .inl 1, .inl 2, .inr 1] (by decide +kernel) rfl (fun hP hD => ?_)
                obtain ⟨hw, hfr72⟩ := hw
                have hc72 : Ff_X8_nextOf j15l2.toInt (fl_A fa0_15) = r72.toInt := hfr72.symm
                have hF1 := hF1.trans (fl_lt_eq hc72.symm)
                have hw : (0 : Int) ≤ r72.toInt ∧ r72.toInt ≤ (8 : Int) := hw
                obtain ⟨h72_0, h72_1⟩ := hw
                refine lv_istore_n (lv' := [(2, .int r72), (1, .int x67), (0, .ref a0), (3, .int j24l3)]) hx hb dX8_goRound_75 rfl hl (by decide) rfl (fun ls hl => ?_)
                refine lv_goto (tgt := 15) hx hb dX8_goRound_76 (by decide) ?_
                exact (hK0 _ _ _).mp (ih15 r72 x67 j24a0_30 f66 _ _ _ (by first | exact zg_s hm15 qx67 | (have h0 := qx67; omega)) h72_0 h72_1 (Int.le_trans zq4 bx67.1) (Int.le_trans bx67.2 zq168) bf66 (gr_s gr15 hne60 ef66 bj15l2_l bj15l2_u qx67 bj15l1_l) (gr_Km sk24 (by omega)) (hF0.trans (fl_wh_l (hSX15.trans hF1))) hP hD hS (lv_sub hl [2, 1, 0] rfl))
              · have gc54 := ai_nlt c54
                have l54f_j24a0_30 : (0 : Int) ≤ j24a0_30.toInt := Int.le_trans zq5 gc54
                have hF1 := hF1.trans (if_neg (show ¬ (j24a0_30.toInt < 0) from Int.not_lt.mpr gc54))
                refine lv_goto (tgt := 15) hx hb dX8_goRound_57 (by decide) ?_
                have u57z_j15l1 : j15l1.toInt ≤ (9 : Int) := u26t_j15l1
                have hs57 := gr_Kp sk24 (by omega)
                have l57z_j24a0_30 : (0 : Int) ≤ j24a0_30.toInt := l54f_j24a0_30
                have u57z_j24a0_30 : j24a0_30.toInt ≤ (8 : Int) := by omega
                refine lv_aload_n hx hb dX8_goRound_15 rfl (lv_at hl 0 rfl) ?_
                refine va_get (D := (dC, dI)) (ci := 8) (v := .int j24a0_30) (C := RX8) (T := TX8) (N := 40) hx hb hts zi_X8_goRound_8 hown hK hP 0 rfl rfl 30 (by decide) (hts (.fieldLink RX8 283 "WaxTurnsModel" "settled" "I") (List.mem_cons_of_mem _ (List.mem_append_left _ (List.mem_of_getElem? (i := 1) rfl)))) (fun _ h9 => h9) rfl dX8_goRound_16 ?_
                refine lv_if_ge (tgt := 79) hx hb dX8_goRound_19 (by decide) (fun c19 => ?_) (fun c19 => ?_)
                · have gc19 := ai_le c19
                  have l19t_j24a0_30 : (0 : Int) ≤ j24a0_30.toInt := l57z_j24a0_30
                  have hF1 := hF1.trans (if_pos (show 0 ≤ j24a0_30.toInt from gc19))
                  have hF0 := hF0.trans (fl_wh_r (hSX15.trans hF1))
                  refine lv_aload_n hx hb dX8_goRound_79 rfl (lv_at hl 0 rfl) ?_
                  refine lv_iload_n hx hb dX8_goRound_80 rfl (lv_at hl 1 rfl) ?_
                  refine lv_aload_n hx hb dX8_goRound_81 rfl (lv_at hl 0 rfl) ?_
                  refine va_get (D := (dC, dI)) (ci := 8) (v := .int j24a0_30) (C := RX8) (T := TX8) (N := 40) hx hb hts zi_X8_goRound_8 hown hK hP 0 rfl rfl 30 (by decide) (hts (.fieldLink RX8 283 "WaxTurnsModel" "settled" "I") (List.mem_cons_of_mem _ (List.mem_append_left _ (List.mem_of_getElem? (i := 1) rfl)))) (fun _ h9 => h9) rfl dX8_goRound_82 ?_
                  refine lv_isub hx hb dX8_goRound_85 ?_
                  refine lv_topi (fun x85 ex85 => ?_)
                  have qx85 : x85.toInt = j15l1.toInt - j24a0_30.toInt := ai_sub ex85 ⟨bj15l1_l, u57z_j15l1⟩ ⟨l19t_j24a0_30, u57z_j24a0_30⟩ (by decide) (by decide)
                  have bx85 : (-8 : Int) ≤ x85.toInt ∧ x85.toInt ≤ 9 := ⟨by rw [qx85]; exact Int.sub_le_sub bj15l1_l u57z_j24a0_30, by rw [qx85]; exact Int.sub_le_sub u57z_j15l1 l19t_j24a0_30⟩
                  have hF0 := hF0.trans (fl_lt_eq (show x85.toInt = j15l1.toInt - j24a0_30.toInt from qx85))
                  refine va_put (D := (dC, dI)) (ci := 8) (v := .int x85) (ty := .int) (C := RX8) (T := TX8) (N := 40) hx hb hts zi_X8_goRound_8 tyX8 tyX8_ok nmX8 hown hK hP hD hS 0 rfl rfl 31 (by decide) (hts (.fieldLink RX8 286 "WaxTurnsModel" "again" "I") (List.mem_cons_of_mem _ (List.mem_append_left _ (List.mem_of_getElem? (i := 3) rfl)))) (fun _ h9 => h9) rfl (tyX8_ok 31 (by decide)) rfl rfl (Nat.le_of_ble_eq_true rfl) dX8_goRound_86 (fun H locs hP hD hS => ?_)
                  refine zs_0 (y := (a0, .inr (8, [a0g_0, a0g_1, a0g_2, a0g_3, a0g_4, a0g_5, a0g_6, a0g_7, a0g_8, a0g_9, a0g_10, a0g_11, a0g_12, a0g_13, a0g_14, Value.ref a0_15, a0g_16, Value.ref a0_17, a0g_18, a0g_19, a0g_20, a0g_21, a0g_22, a0g_23, a0g_24, a0g_25, a0g_26, a0g_27, a0g_28, Value.ref a0_29, Value.int j24a0_30, Value.int x85, a0g_32, a0g_33, a0g_34, a0g_35, a0g_36, a0g_37, a0g_38, a0g_39]))) hP hD rfl (fun hP hD => ?_)
                  have hFe : FX = (j24a0_30.toInt, x85.toInt, (fl_A j15a0_29_a)) := hF0
                  exact W.vret hx hb hr (fun t ht hW => ⟨⟨(), rfl, trivial, j24a0_30, x85, j15a0_29_a, bj15a0_29_a, ⟨by omega, by omega, by omega⟩, hFe, by rw [ht]; exact hP, va_K.moved hW.alike hK, hD⟩, hS.F ht⟩) hS.2.2 dX8_goRound_89
                · have gc19 := ai_nle c19
                  have u19f_j24a0_30 : j24a0_30.toInt ≤ (-1 : Int) := ai_lthi gc19 zq6
                  exact absurd (Int.le_trans l57z_j24a0_30 u19f_j24a0_30) (by decide)
            · have gc26 := ai_nle c26
              have u26f_j24l3 : j24l3.toInt ≤ (8 : Int) := ai_lthi gc26 u22z_j15l1
              have l26f_j15l1 : (1 : Int) ≤ j15l1.toInt := ai_ltlo gc26 bj24l3_l
              have hF2 := hF2.trans (if_neg (show ¬ (j15l1.toInt ≤ j24l3.toInt) from Int.not_le.mpr gc26))
              refine lv_aload_n hx hb dX8_goRound_29 rfl (lv_at hl 0 rfl) ?_
              refine va_get (D := (dC, dI)) (ci := 8) (v := .ref a0_29) (C := RX8) (T := TX8) (N := 40) hx hb hts zi_X8_goRound_8 hown hK hP 0 rfl rfl 29 (by decide) (hts (.fieldLink RX8 44 "WaxTurnsModel" "row" "[I") (List.mem_cons_of_mem _ (List.mem_append_left _ (List.mem_of_getElem? (i := 2) rfl)))) (fun _ h9 => h9) rfl dX8_goRound_30 ?_
              refine lv_iload_n hx hb dX8_goRound_33 rfl (lv_at hl 3 rfl) ?_
              refine va_iald hx hb hK hP 2 1 rfl rfl (ai_in bj24l3_l u26f_j24l3 (by decide) (by decide)) dX8_goRound_34 ?_
              refine lv_topi (fun x34 ex34 => ?_)
              have bx34 : (0 : Int) ≤ x34.toInt ∧ x34.toInt ≤ 8 := by rw [ex34]; exact bj15a0_29_a _
              have fqx34 := congrArg Int32.toInt ex34
              have hF2 := hF2.trans (fl_lt_eq (show x34.toInt = (fl_A j15a0_29_a) (j24l3.toInt.toNat) from fqx34))
              refine lv_iload_n hx hb dX8_goRound_35 rfl (lv_at hl 2 rfl) ?_
              refine lv_icmp_ne (tgt := 44) hx hb dX8_goRound_36 (by decide) (fun c36 => ?_) (fun c36 => ?_)
              · have gc36 := ai_ne c36
                have hF2 := hF2.trans (if_neg (show ¬ (x34.toInt = j15l2.toInt) from  gc36))
                obtain ⟨x44, ex44⟩ : ∃ y : Int32, y = j24l3 + Int32.ofInt 1 := ⟨_, rfl⟩
                have qx44 : x44.toInt = j24l3.toInt + 1 := ai_inc ex44 (by decide) (by decide) u26f_j24l3 (by decide)
                have bx44 : (1 : Int) ≤ x44.toInt ∧ x44.toInt ≤ 9 := ⟨by rw [qx44]; exact Int.add_le_add bj24l3_l (Int.le_refl _), by rw [qx44]; exact Int.add_le_add u26f_j24l3 (Int.le_refl _)⟩
                refine lv_iinc (v := x44) (lv' := [(3, .int x44), (0, .ref a0), (1, .int j15l1), (2, .int j15l2)]) hx hb dX8_goRound_44 hl (k := 3) rfl ex44.symm (by decide) rfl (fun ls hl => ?_)
                have hF2 := hF2.trans (fl_lt_eq (show x44.toInt = j24l3.toInt + 1 from qx44))
                refine lv_goto (tgt := 24) hx hb dX8_goRound_47 (by decide) ?_
                exact (hK0 _ _ _).mp (ih24 x44 j24a0_30 _ _ _ (by first | exact zg_s hm24 qx44 | (have h0 := qx44; omega)) (Int.le_trans zq4 bx44.1) bx44.2 (gr_Ks sk24 ex34 c36 qx44 bj24l3_l) (hF1.trans (fl_wh_l (hSX24.trans hF2))) hP hD hS (lv_sub hl [1, 2, 3, 0] rfl))
              · have gc36 := ai_eq c36
                have u36f_x34 : x34.toInt ≤ (8 : Int) := bx34.2
                have l36f_x34 : (0 : Int) ≤ x34.toInt := bx34.1
                have u36f_j15l2 : j15l2.toInt ≤ (8 : Int) := bj15l2_u
                have l36f_j15l2 : (0 : Int) ≤ j15l2.toInt := bj15l2_l
                have hF2 := hF2.trans (if_pos (show x34.toInt = j15l2.toInt from gc36))
                refine lv_aload_n hx hb dX8_goRound_39 rfl (lv_at hl 0 rfl) ?_
                refine lv_iload_n hx hb dX8_goRound_40 rfl (lv_at hl 3 rfl) ?_
                refine va_put (D := (dC, dI)) (ci := 8) (v := .int j24l3) (ty := .int) (C := RX8) (T := TX8) (N := 40) hx hb hts zi_X8_goRound_8 tyX8 tyX8_ok nmX8 hown hK hP hD hS 0 rfl rfl 30 (by decide) (hts (.fieldLink RX8 283 "WaxTurnsModel" "settled" "I") (List.mem_cons_of_mem _ (List.mem_append_left _ (List.mem_of_getElem? (i := 1) rfl)))) (fun _ h9 => h9) rfl (tyX8_ok 30 (by decide)) rfl rfl (Nat.le_of_ble_eq_true rfl) dX8_goRound_41 (fun H locs hP hD hS => ?_)
                refine zs_0 (y := (a0, .inr (8, [a0g_0, a0g_1, a0g_2, a0g_3, a0g_4, a0g_5, a0g_6, a0g_7, a0g_8, a0g_9, a0g_10, a0g_11, a0g_12, a0g_13, a0g_14, Value.ref a0_15, a0g_16, Value.ref a0_17, a0g_18, a0g_19, a0g_20, a0g_21, a0g_22, a0g_23, a0g_24, a0g_25, a0g_26, a0g_27, a0g_28, Value.ref a0_29, Value.int j24l3, Value.int a0_31, a0g_32, a0g_33, a0g_34, a0g_35, a0g_36, a0g_37, a0g_38, a0g_39]))) hP hD rfl (fun hP hD => ?_)
                obtain ⟨x44, ex44⟩ : ∃ y : Int32, y = j24l3 + Int32.ofInt 1 := ⟨_, rfl⟩
                have qx44 : x44.toInt = j24l3.toInt + 1 := ai_inc ex44 (by decide) (by decide) u26f_j24l3 (by decide)
                have bx44 : (1 : Int) ≤ x44.toInt ∧ x44.toInt ≤ 9 := ⟨by rw [qx44]; exact Int.add_le_add bj24l3_l (Int.le_refl _), by rw [qx44]; exact Int.add_le_add u26f_j24l3 (Int.le_refl _)⟩
                refine lv_iinc (v := x44) (lv' := [(3, .int x44), (0, .ref a0), (1, .int j15l1), (2, .int j15l2)]) hx hb dX8_goRound_44 hl (k := 3) rfl ex44.symm (by decide) rfl (fun ls hl => ?_)
                have hF2 := hF2.trans (fl_lt_eq (show x44.toInt = j24l3.toInt + 1 from qx44))
                refine lv_goto (tgt := 24) hx hb dX8_goRound_47 (by decide) ?_
                exact (hK0 _ _ _).mp (ih24 x44 j24l3 _ _ _ (by first | exact zg_s hm24 qx44 | (have h0 := qx44; omega)) (Int.le_trans zq4 bx44.1) bx44.2 (Or.inr ⟨bj24l3_l, by omega⟩) (hF1.trans (fl_wh_l (hSX24.trans hF2))) hP hD hS (lv_sub hl [1, 2, 3, 0] rfl))
        exact (hK0 _ _ _).mp (J24 10 0 j15a0_30 _ _ _ (by first | decide +kernel | (have h1 : (0 : Int) ≤ (0 : Int32).toInt := zq5; have h2 : (0 : Int32).toInt ≤ (0 : Int) := zq6; omega)) zq5 (Int.le_trans zq6 zq7) (gr_K0 sm15 (by decide)) (by rw [show (0 : Int32).toInt = 0 from by decide]; exact hF1) hP hD hS (lv_sub hl [1, 2, 3, 0] rfl))
  exact (hK0 _ _ _).mp (J15 13 x8 0 (-1) fa0_29 _ _ _ (by first | decide +kernel | (have h1 : (0 : Int) ≤ (0 : Int32).toInt := zq5; have h2 : (0 : Int32).toInt ≤ (0 : Int) := zq6; omega)) bx8.1 bx8.2 zq5 (Int.le_trans zq6 zq169) bfa0_29 (gr_z0 (by decide)) (by decide) (by rw [show (0 : Int32).toInt = 0 from by decide, show ((-1) : Int32).toInt = (-1) from by decide]; exact hF0) hP hD hS (lv_sub hl [2, 1, 0] rfl))
end P314_16_f
section P314_18_f
set_option maxHeartbeats 4000000 in
set_option maxRecDepth 100000 in
theorem f_X8_called (l : Launch) (dC : Nat → ClassId) (dI : Nat → Nat → Nat) (sz : Nat) (a0 : Nat) (a0_0 : Int32) (a0g_1 a0g_2 a0g_3 a0g_4 a0g_5 a0g_6 a0g_7 a0g_8 a0g_9 a0g_10 a0g_12 a0g_13 a0g_16 a0g_18 a0g_19 a0g_20 a0g_21 a0g_22 a0g_23 a0g_24 a0g_25 a0g_26 a0g_27 a0g_28 a0g_32 a0g_33 a0g_34 a0g_35 a0g_36 a0g_37 a0g_38 a0g_39 : Value) (a0_11 : Int32) (a0_14 : Int32) (a0_15 : Nat) (a0_17 : Nat) (a0_29 : Nat) (a0_30 : Int32) (a0_31 : Int32) (ka0_17 : ClassId) (fa0_17 : Nat → Int32) (ka0_29 : ClassId) (fa0_29 : Nat → Int32) (ka0_15 : ClassId) (fa0_15 : Nat → Int32) (ba0_14_l : (1 : Int) ≤ a0_14.toInt) (ba0_14_u : a0_14.toInt ≤ (1 : Int)) (bfa0_17 : ((∀ k : Nat, 0 ≤ k → k ≤ 8 → (0 : Int) ≤ (fa0_17 k).toInt ∧ (fa0_17 k).toInt ≤ 8) ∧ (∀ k : Nat, 19 ≤ k → k ≤ 19 → (0 : Int) ≤ (fa0_17 k).toInt ∧ (fa0_17 k).toInt ≤ 8) ∧ (∀ k : Nat, 20 ≤ k → k ≤ 20 → (0 : Int) ≤ (fa0_17 k).toInt ∧ (fa0_17 k).toInt ≤ 19))) (bfa0_29 : (∀ k, (0 : Int) ≤ (fa0_29 k).toInt ∧ (fa0_29 k).toInt ≤ 8)) (bfa0_15 : ((∀ k : Nat, 0 ≤ k → k ≤ 0 → (2 : Int) ≤ (fa0_15 k).toInt ∧ (fa0_15 k).toInt ≤ 9) ∧ (∀ k : Nat, 1 ≤ k → k ≤ 1 → (1 : Int) ≤ (fa0_15 k).toInt ∧ (fa0_15 k).toInt ≤ 20) ∧ (∀ k : Nat, 2 ≤ k → k ≤ 2 → (0 : Int) ≤ (fa0_15 k).toInt ∧ (fa0_15 k).toInt ≤ 8) ∧ (∀ k : Nat, 3 ≤ k → k ≤ 3 → (0 : Int) ≤ (fa0_15 k).toInt ∧ (fa0_15 k).toInt ≤ 100) ∧ (∀ k : Nat, 4 ≤ k → k ≤ 4 → (0 : Int) ≤ (fa0_15 k).toInt ∧ (fa0_15 k).toInt ≤ 9) ∧ (∀ k : Nat, 5 ≤ k → k ≤ 5 → (0 : Int) ≤ (fa0_15 k).toInt ∧ (fa0_15 k).toInt ≤ 3) ∧ (∀ k : Nat, 6 ≤ k → k ≤ 6 → (0 : Int) ≤ (fa0_15 k).toInt ∧ (fa0_15 k).toInt ≤ 6) ∧ (∀ k : Nat, 7 ≤ k → k ≤ 9 → (0 : Int) ≤ (fa0_15 k).toInt ∧ (fa0_15 k).toInt ≤ 8) ∧ (∀ k : Nat, 12 ≤ k → k ≤ 29 → (0 : Int) ≤ (fa0_15 k).toInt ∧ (fa0_15 k).toInt ≤ 20) ∧ (∀ k : Nat, 30 ≤ k → k ≤ 35 → (0 : Int) ≤ (fa0_15 k).toInt ∧ (fa0_15 k).toInt ≤ 8) ∧ (∀ k : Nat, 36 ≤ k → k ≤ 47 → (0 : Int) ≤ (fa0_15 k).toInt ∧ (fa0_15 k).toInt ≤ 999))) : zm l yX8_called wsX8_called ({ frames := 2, cells := 0, slots := 0, locals := 44 }) [.ref a0] dC dI sz [(a0, .inr (8, [Value.int a0_0, a0g_1, a0g_2, a0g_3, a0g_4, a0g_5, a0g_6, a0g_7, a0g_8, a0g_9, a0g_10, Value.int a0_11, a0g_12, a0g_13, Value.int a0_14, Value.ref a0_15, a0g_16, Value.ref a0_17, a0g_18, a0g_19, a0g_20, a0g_21, a0g_22, a0g_23, a0g_24, a0g_25, a0g_26, a0g_27, a0g_28, Value.ref a0_29, Value.int a0_30, Value.int a0_31, a0g_32, a0g_33, a0g_34, a0g_35, a0g_36, a0g_37, a0g_38, a0g_39])), (a0_17, .inl (ka0_17, 23, .inl (fa0_17))), (a0_29, .inl (ka0_29, 10, .inl (fa0_29))), (a0_15, .inl (ka0_15, 156, .inl (fa0_15)))] [(ka0_17, .int), (ka0_29, .int), (ka0_15, .int)] (fun A _ => True) (fun A => va_Qi (fun (r : Int32) (_ : Unit) => (True) ∧ r.toInt = (Ff_X8_called a0_14.toInt (fl_A fa0_17) (fl_A fa0_29) (fl_A fa0_15)).1) (fun (_ : Unit) (t : State) => ∃ na0_0 : Int32, ∃ na0_11 : Int32, ∃ na0_30 : Int32, ∃ na0_31 : Int32, ∃ nfa0_29 : Nat → Int32, (∀ k, (0 : Int) ≤ (nfa0_29 k).toInt ∧ (nfa0_29 k).toInt ≤ 8) ∧ ((Ff_X8_called a0_14.toInt (fl_A fa0_17) (fl_A fa0_29) (fl_A fa0_15)).2 = (na0_0.toInt, na0_11.toInt, na0_30.toInt, na0_31.toInt, (fl_A nfa0_29))) ∧ ax_B dC dI A [(a0, .inr (8, [Value.int na0_0, a0g_1, a0g_2, a0g_3, a0g_4, a0g_5, a0g_6, a0g_7, a0g_8, a0g_9, a0g_10, Value.int na0_11, a0g_12, a0g_13, Value.int a0_14, Value.ref a0_15, a0g_16, Value.ref a0_17, a0g_18, a0g_19, a0g_20, a0g_21, a0g_22, a0g_23, a0g_24, a0g_25, a0g_26, a0g_27, a0g_28, Value.ref a0_29, Value.int na0_30, Value.int na0_31, a0g_32, a0g_33, a0g_34, a0g_35, a0g_36, a0g_37, a0g_38, a0g_39])), (a0_17, .inl (ka0_17, 23, .inl (fa0_17))), (a0_29, .inl (ka0_29, 10, .inl (nfa0_29))), (a0_15, .inl (ka0_15, 156, .inl (fa0_15)))] [(ka0_17, .int), (ka0_29, .int), (ka0_15, .int)] t) A) := by
  refine zh (cc := cX8_called) (maxL := 3) (ret := (some .int)) zn_RX8 rfl (Nat.le_of_ble_eq_true rfl) (fun p e s m below meth c A ls hx hb hml hr hts (hown : s.vm.findClass RX8 = some m.cls) hlocks hA hS hP hK hD hE (hl : lv_has ls 3 [(0, .ref a0)]) => ?_)
  generalize hFX : Ff_X8_called a0_14.toInt (fl_A fa0_17) (fl_A fa0_29) (fl_A fa0_15) = FX at ⊢
  have hF0 := hFX.symm.trans (Ff_X8_called.eq_1 a0_14.toInt (fl_A fa0_17) (fl_A fa0_29) (fl_A fa0_15))
  refine ai_open (fun K hK0 => ?_)
  refine (hK0 _ _ _).mpr ?_
  refine lv_aload_n hx hb dX8_called_0 rfl (lv_at hl 0 rfl) ?_
  refine va_callv (va_runV (As := []) (rest := []) ⟨hx, hb, hml, hown, hts⟩ (f_X8_good l dC dI s.heap.size a0 a0_0 a0g_1 a0g_2 a0g_3 a0g_4 a0g_5 a0g_6 a0g_7 a0g_8 a0g_9 a0g_10 a0g_12 a0g_13 (Value.int a0_14) (Value.ref a0_15) a0g_16 (Value.ref a0_17) a0g_18 a0g_19 a0g_20 a0g_21 a0g_22 a0g_23 a0g_24 a0g_25 a0g_26 a0g_27 a0g_28 (Value.ref a0_29) (Value.int a0_30) (Value.int a0_31) a0g_32 a0g_33 a0g_34 a0g_35 a0g_36 a0g_37 a0g_38 a0g_39 a0_11 ) (cwV 0 hts gX8_called_X8_good rfl rfl rfl zd_X8_good ⟨Nat.le_of_ble_eq_true rfl, Nat.le_of_ble_eq_true rfl⟩) ⟨ax_blind (fun _ _ _ _ _ => trivial), zr_8 (zp_K hK) (zp_P1 hP) (q0 := 0) rfl, ax_pre (zp_P1 hP) (zp_K hK) (zp_D1 hD) (fun _ _ => trivial)⟩ rfl rfl hl.1 rfl (lv_room (Nat.le_of_ble_eq_true rfl)) dX8_called_1 ⟨Nat.le_of_ble_eq_true rfl, Nat.le_of_ble_eq_true rfl⟩) hS (fun q _ h => zp_F1 hD hS hA q h) (zp_F1 hD hS hA) (fun u t H locs ht hvm hw => zx_2 (fun v1na0_0 v1na0_11 => zy_1 (fun hraw1_0 hB hz1 hk1 hS1 => zo1 hB ht hP hD hk1 (zp_F1 hD hS hA) hS1 (fun hP hK1 hD hS => ?_))))
  have hc1 : Ff_X8_good = (v1na0_0.toInt, v1na0_11.toInt) := hraw1_0
  have hF0 := hF0.trans (fl_c2_eq hc1)
  refine lv_aload_n hx hb dX8_called_4 rfl (lv_at hl 0 rfl) ?_
  refine va_get (D := (dC, dI)) (ci := 8) (v := .int a0_14) (C := RX8) (T := TX8) (N := 40) hx hb hts zi_X8_called_8 hown hK hP 0 rfl rfl 14 (by decide) (hts (.fieldLink RX8 173 "WaxTurnsModel" "hasGallery" "Z") (zm_X8_called_r1 (List.mem_of_getElem? (i := 0) rfl))) (fun _ h9 => h9) rfl dX8_called_5 ?_
  refine lv_if_ne (tgt := 17) hx hb dX8_called_8 (by decide) (fun c8 => ?_) (fun c8 => ?_)
  · have gc8 := ai_ne c8
    have hF0 := hF0.trans (if_neg (show ¬ (a0_14.toInt = 0) from  gc8))
    refine lv_aload_n hx hb dX8_called_17 rfl (lv_at hl 0 rfl) ?_
    have hKc := hK.sub (tys' := [(ka0_17, .int), (ka0_29, .int), (ka0_15, .int)]) [0, 1, 2] rfl
    refine va_callv (va_runV (As := []) (rest := []) ⟨hx, hb, hml, hown, hts⟩ (f_X8_goRound l dC dI H.size a0 (Value.int v1na0_0) a0g_1 a0g_2 a0g_3 a0g_4 a0g_5 a0g_6 a0g_7 a0g_8 a0g_9 a0g_10 (Value.int v1na0_11) a0g_12 a0g_13 (Value.int a0_14) a0g_16 a0g_18 a0g_19 a0g_20 a0g_21 a0g_22 a0g_23 a0g_24 a0g_25 a0g_26 a0g_27 a0g_28 a0g_32 a0g_33 a0g_34 a0g_35 a0g_36 a0g_37 a0g_38 a0g_39 a0_15 a0_17 a0_29 a0_30 a0_31 ka0_17 fa0_17 ka0_29 fa0_29 ka0_15 fa0_15 bfa0_17 bfa0_29 bfa0_15) (cwV 0 hts gX8_called_X8_goRound rfl rfl rfl zd_X8_goRound ⟨Nat.le_of_ble_eq_true rfl, Nat.le_of_ble_eq_true rfl⟩) ⟨ax_blind (fun _ _ _ _ _ => trivial), zr_8 hKc (zp_P4 hP) (q0 := 0) rfl, ax_pre (zp_P4 hP) hKc (zp_D4 hD) (fun _ _ => trivial)⟩ rfl rfl hl.1 rfl (lv_room (Nat.le_of_ble_eq_true rfl)) dX8_called_18 ⟨Nat.le_of_ble_eq_true rfl, Nat.le_of_ble_eq_true rfl⟩) hS (fun q _ h => zp_F4 hD hS hA q h) (zp_F4 hD hS hA) (fun u t H locs ht hvm hw => zx_3 (fun v18na0_30 v18na0_31 v18nfa0_29 => zy_3 (fun bv18nfa0_29 hraw18_0 hraw18_1 hB hz1 hk1 hS1 => zo4 hB ht hP hD hk1 (zp_F4 hD hS hA) hS1 (fun hP hK1 hD hS => ?_))))
    have hc18 : Ff_X8_goRound (fl_A fa0_17) (fl_A fa0_29) (fl_A fa0_15) = (v18na0_30.toInt, v18na0_31.toInt, (fl_A v18nfa0_29)) := hraw18_1
    have hF0 := hF0.trans (fl_c3_eq hc18)
    refine lv_iconst (v := 0) hx hb dX8_called_21 zk_iconst_0 ?_
    refine lv_istore_n (lv' := [(1, .int 0), (0, .ref a0)]) hx hb dX8_called_22 rfl hl (by decide) rfl (fun ls hl => ?_)
    refine lv_iconst (v := 0) hx hb dX8_called_23 zk_iconst_0 ?_
    refine lv_istore_n (lv' := [(2, .int 0), (1, .int 0), (0, .ref a0)]) hx hb dX8_called_24 rfl hl (by decide) rfl (fun ls hl => ?_)
    have J25 : ∀ (n : Nat) (j25l2 : Int32) (j25l1 : Int32) (H : Heap) (locs : List Loc) (ls : Array Slot), (10 : Int) - j25l2.toInt ≤ (n : Int) → (0 : Int) ≤ j25l2.toInt → j25l2.toInt ≤ (9 : Int) → (FX = fl_wh (fun t9 => Sf_X8_called_25_1 v1na0_0.toInt v1na0_11.toInt v18na0_30.toInt v18na0_31.toInt (fl_A v18nfa0_29) t9.1 t9.2) (0, 0, 0, 0, 0, (fun _ => 0)) n (j25l2.toInt, j25l1.toInt)) → va_P (dC, dI) vwCl [(a0, .inr (8, [Value.int v1na0_0, a0g_1, a0g_2, a0g_3, a0g_4, a0g_5, a0g_6, a0g_7, a0g_8, a0g_9, a0g_10, Value.int v1na0_11, a0g_12, a0g_13, Value.int a0_14, Value.ref a0_15, a0g_16, Value.ref a0_17, a0g_18, a0g_19, a0g_20, a0g_21, a0g_22, a0g_23, a0g_24, a0g_25, a0g_26, a0g_27, a0g_28, Value.ref a0_29, Value.int v18na0_30, Value.int v18na0_31, a0g_32, a0g_33, a0g_34, a0g_35, a0g_36, a0g_37, a0g_38, a0g_39])), (a0_17, .inl (ka0_17, 23, .inl (fa0_17))), (a0_29, .inl (ka0_29, 10, .inl (v18nfa0_29))), (a0_15, .inl (ka0_15, 156, .inl (fa0_15)))] H → va_D A [(a0, .inr (8, [Value.int v1na0_0, a0g_1, a0g_2, a0g_3, a0g_4, a0g_5, a0g_6, a0g_7, a0g_8, a0g_9, a0g_10, Value.int v1na0_11, a0g_12, a0g_13, Value.int a0_14, Value.ref a0_15, a0g_16, Value.ref a0_17, a0g_18, a0g_19, a0g_20, a0g_21, a0g_22, a0g_23, a0g_24, a0g_25, a0g_26, a0g_27, a0g_28, Value.ref a0_29, Value.int v18na0_30, Value.int v18na0_31, a0g_32, a0g_33, a0g_34, a0g_35, a0g_36, a0g_37, a0g_38, a0g_39])), (a0_17, .inl (ka0_17, 23, .inl (fa0_17))), (a0_29, .inl (ka0_29, 10, .inl (v18nfa0_29))), (a0_15, .inl (ka0_15, 156, .inl (fa0_15)))] → va_S A s.heap H locs → lv_has ls 3 [(0, .ref a0), (1, .int j25l1), (2, .int j25l2)] → K H locs (F0 m 25 ls []) := by
      intro n
      induction n with
      | zero =>
        intro j25l2 j25l1 H locs ls hm bj25l2_l bj25l2_u hF0 hP hD hS hl
        first | exact zg_0 hm bj25l2_u (by decide) | (have h8 := ai_min j25l2; have h9 := ai_max j25l2; exact absurd hm (by omega))
      | succ n ih25 =>
        intro j25l2 j25l1 H locs ls hm bj25l2_l bj25l2_u hF0 hP hD hS hl
        refine (hK0 _ _ _).mpr ?_
        have hm25 := hm
        obtain ⟨SX25, hSX25⟩ : ∃ q9, Sf_X8_called_25_1 v1na0_0.toInt v1na0_11.toInt v18na0_30.toInt v18na0_31.toInt (fl_A v18nfa0_29) j25l2.toInt j25l1.toInt = q9 := ⟨_, rfl⟩
        have hF1 := hSX25.symm.trans (Sf_X8_called_25_1.eq_1 v1na0_0.toInt v1na0_11.toInt v18na0_30.toInt v18na0_31.toInt (fl_A v18nfa0_29) j25l2.toInt j25l1.toInt)
        refine lv_iload_n hx hb dX8_called_25 rfl (lv_at hl 2 rfl) ?_
        refine lv_aload_n hx hb dX8_called_26 rfl (lv_at hl 0 rfl) ?_
        refine va_get (D := (dC, dI)) (ci := 8) (v := .int v18na0_30) (C := RX8) (T := TX8) (N := 40) hx hb hts zi_X8_called_8 hown hK hP 0 rfl rfl 30 (by decide) (hts (.fieldLink RX8 283 "WaxTurnsModel" "settled" "I") (zm_X8_called_r1 (List.mem_of_getElem? (i := 1) rfl))) (fun _ h9 => h9) rfl dX8_called_27 ?_
        refine lv_aload_n hx hb dX8_called_30 rfl (lv_at hl 0 rfl) ?_
        refine va_get (D := (dC, dI)) (ci := 8) (v := .int v18na0_31) (C := RX8) (T := TX8) (N := 40) hx hb hts zi_X8_called_8 hown hK hP 0 rfl rfl 31 (by decide) (hts (.fieldLink RX8 286 "WaxTurnsModel" "again" "I") (zm_X8_called_r1 (List.mem_of_getElem? (i := 2) rfl))) (fun _ h9 => h9) rfl dX8_called_31 ?_
        refine lv_iadd hx hb dX8_called_34 ?_
        refine lv_topi (fun x34 ex34 => ?_)
        have qx34 : x34.toInt = v18na0_30.toInt + v18na0_31.toInt := ai_add ex34 ⟨(by omega : (0 : Int) ≤ v18na0_30.toInt), (by omega : v18na0_30.toInt ≤ (8 : Int))⟩ ⟨(by omega : (1 : Int) ≤ v18na0_31.toInt), (by omega : v18na0_31.toInt ≤ (9 : Int))⟩ (by decide) (by decide)
        have bx34 : (1 : Int) ≤ x34.toInt ∧ x34.toInt ≤ 17 := ⟨by rw [qx34]; exact Int.add_le_add (by omega : (0 : Int) ≤ v18na0_30.toInt) (by omega : (1 : Int) ≤ v18na0_31.toInt), by rw [qx34]; exact Int.add_le_add (by omega : v18na0_30.toInt ≤ (8 : Int)) (by omega : v18na0_31.toInt ≤ (9 : Int))⟩
        have hF1 := hF1.trans (fl_lt_eq (show x34.toInt = v18na0_30.toInt + v18na0_31.toInt from qx34))
        have u34z_x34 : x34.toInt ≤ (9 : Int) := by omega
        refine lv_icmp_ge (tgt := 55) hx hb dX8_called_35 (by decide) (fun c35 => ?_) (fun c35 => ?_)
        · have gc35 := ai_le c35
          have u35t_x34 : x34.toInt ≤ (9 : Int) := u34z_x34
          have l35t_j25l2 : (1 : Int) ≤ j25l2.toInt := Int.le_trans bx34.1 gc35
          have hF1 := hF1.trans (if_pos (show x34.toInt ≤ j25l2.toInt from gc35))
          have hF0 := hF0.trans (fl_wh_r (hSX25.trans hF1))
          refine lv_iload_n hx hb dX8_called_55 rfl (lv_at hl 1 rfl) ?_
          have hFe : FX = (j25l1.toInt, v1na0_0.toInt, v1na0_11.toInt, v18na0_30.toInt, v18na0_31.toInt, (fl_A v18nfa0_29)) := hF0
          exact W.iret (v := j25l1) hx hb hr (fun t ht hW => ⟨⟨j25l1, (), rfl, ⟨trivial, (congrArg Prod.fst hFe).symm⟩, v1na0_0, v1na0_11, v18na0_30, v18na0_31, v18nfa0_29, bv18nfa0_29, (congrArg Prod.snd hFe), by rw [ht]; exact hP, va_K.moved hW.alike hK, hD⟩, hS.F ht⟩) hS.2.2 dX8_called_56
        · have gc35 := ai_nle c35
          have u35f_j25l2 : j25l2.toInt ≤ (8 : Int) := ai_lthi gc35 u34z_x34
          have l35f_x34 : (1 : Int) ≤ x34.toInt := bx34.1
          have hF1 := hF1.trans (if_neg (show ¬ (x34.toInt ≤ j25l2.toInt) from Int.not_le.mpr gc35))
          refine lv_iload_n hx hb dX8_called_38 rfl (lv_at hl 1 rfl) ?_
          refine lv_iconst (v := 1) hx hb dX8_called_39 zk_iconst_1 ?_
          refine lv_aload_n hx hb dX8_called_40 rfl (lv_at hl 0 rfl) ?_
          refine va_get (D := (dC, dI)) (ci := 8) (v := .ref a0_29) (C := RX8) (T := TX8) (N := 40) hx hb hts zi_X8_called_8 hown hK hP 0 rfl rfl 29 (by decide) (hts (.fieldLink RX8 44 "WaxTurnsModel" "row" "[I") (zm_X8_called_r1 (List.mem_of_getElem? (i := 3) rfl))) (fun _ h9 => h9) rfl dX8_called_41 ?_
          refine lv_iload_n hx hb dX8_called_44 rfl (lv_at hl 2 rfl) ?_
          refine va_iald hx hb hK hP 2 1 rfl rfl (ai_in bj25l2_l u35f_j25l2 (by decide) (by decide)) dX8_called_45 ?_
          refine lv_topi (fun x45 ex45 => ?_)
          have bx45 : (0 : Int) ≤ x45.toInt ∧ x45.toInt ≤ 8 := by rw [ex45]; exact bv18nfa0_29 _
          have fqx45 := congrArg Int32.toInt ex45
          have hF1 := hF1.trans (fl_lt_eq (show x45.toInt = (fl_A v18nfa0_29) (j25l2.toInt.toNat) from fqx45))
          refine lv_ishl hx hb dX8_called_46 ?_
          refine lv_topi (fun x46 ex46 => ?_)
          have bx46 : (1 : Int) ≤ x46.toInt ∧ x46.toInt ≤ 512 := sh_1 ex46 bx45.1 (Int.le_trans bx45.2 zq22)
          have fqx46 := fl_shl_eq ex46
          have hF1 := hF1.trans (fl_lt_eq (show x46.toInt = fl_shl 1 x45.toInt from fqx46))
          refine lv_ior hx hb dX8_called_47 ?_
          refine lv_topi (fun x47 ex47 => ?_)
          have fqx47 := fl_or_eq ex47
          have hF1 := hF1.trans (fl_lt_eq (show x47.toInt = fl_or j25l1.toInt x46.toInt from fqx47))
          refine lv_istore_n (lv' := [(1, .int x47), (0, .ref a0), (2, .int j25l2)]) hx hb dX8_called_48 rfl hl (by decide) rfl (fun ls hl => ?_)
          obtain ⟨x49, ex49⟩ : ∃ y : Int32, y = j25l2 + Int32.ofInt 1 := ⟨_, rfl⟩
          have qx49 : x49.toInt = j25l2.toInt + 1 := ai_inc ex49 (by decide) (by decide) u35f_j25l2 (by decide)
          have bx49 : (1 : Int) ≤ x49.toInt ∧ x49.toInt ≤ 9 := ⟨by rw [qx49]; exact Int.add_le_add bj25l2_l (Int.le_refl _), by rw [qx49]; exact Int.add_le_add u35f_j25l2 (Int.le_refl _)⟩
          refine lv_iinc (v := x49) (lv' := [(2, .int x49), (1, .int x47), (0, .ref a0)]) hx hb dX8_called_49 hl (k := 2) rfl ex49.symm (by decide) rfl (fun ls hl => ?_)
          have hF1 := hF1.trans (fl_lt_eq (show x49.toInt = j25l2.toInt + 1 from qx49))
          refine lv_goto (tgt := 25) hx hb dX8_called_52 (by decide) ?_
          exact (hK0 _ _ _).mp (ih25 x49 x47 _ _ _ (by first | exact zg_s hm25 qx49 | (have h0 := qx49; omega)) (Int.le_trans zq4 bx49.1) bx49.2 (hF0.trans (fl_wh_l (hSX25.trans hF1))) hP hD hS (lv_sub hl [2, 1, 0] rfl))
    exact (hK0 _ _ _).mp (J25 10 0 0 _ _ _ (by first | decide +kernel | (have h1 : (0 : Int) ≤ (0 : Int32).toInt := zq5; have h2 : (0 : Int32).toInt ≤ (0 : Int) := zq6; omega)) zq5 (Int.le_trans zq6 zq7) (by rw [show (0 : Int32).toInt = 0 from by decide]; exact hF0) hP hD hS (lv_sub hl [2, 1, 0] rfl))
  · have gc8 := ai_eq c8
    have u8f_a0_14 : a0_14.toInt ≤ (0 : Int) := Int.le_trans (Int.le_of_eq gc8) zq6
    have l8f_a0_14 : (1 : Int) ≤ a0_14.toInt := ba0_14_l
    exact absurd (Int.le_trans l8f_a0_14 u8f_a0_14) (by decide)
end P314_18_f
section P314_19_f
set_option maxHeartbeats 4000000 in
set_option maxRecDepth 100000 in
theorem f0_X8_called (l : Launch) (dC : Nat → ClassId) (dI : Nat → Nat → Nat) (sz : Nat) (a0 : Nat) (a0_0 : Int32) (a0g_1 a0g_2 a0g_3 a0g_4 a0g_5 a0g_6 a0g_7 a0g_8 a0g_9 a0g_10 a0g_12 a0g_13 a0g_15 a0g_16 a0g_17 a0g_18 a0g_19 a0g_20 a0g_21 a0g_22 a0g_23 a0g_24 a0g_25 a0g_26 a0g_27 a0g_28 a0g_29 a0g_30 a0g_31 a0g_32 a0g_33 a0g_34 a0g_35 a0g_36 a0g_37 a0g_38 a0g_39 : Value) (a0_11 : Int32) (a0_14 : Int32) (ba0_14_l : (0 : Int) ≤ a0_14.toInt) (ba0_14_u : a0_14.toInt ≤ (0 : Int)) : zm l yX8_called wsX8_called ({ frames := 1, cells := 0, slots := 0, locals := 21 }) [.ref a0] dC dI sz [(a0, .inr (8, [Value.int a0_0, a0g_1, a0g_2, a0g_3, a0g_4, a0g_5, a0g_6, a0g_7, a0g_8, a0g_9, a0g_10, Value.int a0_11, a0g_12, a0g_13, Value.int a0_14, a0g_15, a0g_16, a0g_17, a0g_18, a0g_19, a0g_20, a0g_21, a0g_22, a0g_23, a0g_24, a0g_25, a0g_26, a0g_27, a0g_28, a0g_29, a0g_30, a0g_31, a0g_32, a0g_33, a0g_34, a0g_35, a0g_36, a0g_37, a0g_38, a0g_39]))] [] (fun A _ => True) (fun A => va_Qi (fun (r : Int32) (_ : Unit) => (r = (-1)) ∧ r.toInt = (Ff0_X8_called a0_14.toInt).1) (fun (_ : Unit) (t : State) => ∃ na0_0 : Int32, ∃ na0_11 : Int32, ((Ff0_X8_called a0_14.toInt).2 = (na0_0.toInt, na0_11.toInt)) ∧ ax_B dC dI A [(a0, .inr (8, [Value.int na0_0, a0g_1, a0g_2, a0g_3, a0g_4, a0g_5, a0g_6, a0g_7, a0g_8, a0g_9, a0g_10, Value.int na0_11, a0g_12, a0g_13, Value.int a0_14, a0g_15, a0g_16, a0g_17, a0g_18, a0g_19, a0g_20, a0g_21, a0g_22, a0g_23, a0g_24, a0g_25, a0g_26, a0g_27, a0g_28, a0g_29, a0g_30, a0g_31, a0g_32, a0g_33, a0g_34, a0g_35, a0g_36, a0g_37, a0g_38, a0g_39]))] [] t) A) := by
  refine zh (cc := cX8_called) (maxL := 3) (ret := (some .int)) zn_RX8 rfl (Nat.le_of_ble_eq_true rfl) (fun p e s m below meth c A ls hx hb hml hr hts (hown : s.vm.findClass RX8 = some m.cls) hlocks hA hS hP hK hD hE (hl : lv_has ls 3 [(0, .ref a0)]) => ?_)
  generalize hFX : Ff0_X8_called a0_14.toInt = FX at ⊢
  have hF0 := hFX.symm.trans (Ff0_X8_called.eq_1 a0_14.toInt)
  refine ai_open (fun K hK0 => ?_)
  refine (hK0 _ _ _).mpr ?_
  refine lv_aload_n hx hb dX8_called_0 rfl (lv_at hl 0 rfl) ?_
  refine va_callv (va_runV (As := []) (rest := []) ⟨hx, hb, hml, hown, hts⟩ (f_X8_good l dC dI s.heap.size a0 a0_0 a0g_1 a0g_2 a0g_3 a0g_4 a0g_5 a0g_6 a0g_7 a0g_8 a0g_9 a0g_10 a0g_12 a0g_13 (Value.int a0_14) a0g_15 a0g_16 a0g_17 a0g_18 a0g_19 a0g_20 a0g_21 a0g_22 a0g_23 a0g_24 a0g_25 a0g_26 a0g_27 a0g_28 a0g_29 a0g_30 a0g_31 a0g_32 a0g_33 a0g_34 a0g_35 a0g_36 a0g_37 a0g_38 a0g_39 a0_11 ) (cwV 0 hts gX8_called_X8_good rfl rfl rfl zd_X8_good ⟨Nat.le_of_ble_eq_true rfl, Nat.le_of_ble_eq_true rfl⟩) ⟨ax_blind (fun _ _ _ _ _ => trivial), zr_8 (zp_K hK) (zp_P1 hP) (q0 := 0) rfl, ax_pre (zp_P1 hP) (zp_K hK) (zp_D1 hD) (fun _ _ => trivial)⟩ rfl rfl hl.1 rfl (lv_room (Nat.le_of_ble_eq_true rfl)) dX8_called_1 ⟨Nat.le_of_ble_eq_true rfl, Nat.le_of_ble_eq_true rfl⟩) hS (fun q _ h => zp_F1 hD hS hA q h) (zp_F1 hD hS hA) (fun u t H locs ht hvm hw => zx_2 (fun v1na0_0 v1na0_11 => zy_1 (fun hraw1_0 hB hz1 hk1 hS1 => zo1 hB ht hP hD hk1 (zp_F1 hD hS hA) hS1 (fun hP hK1 hD hS => ?_))))
  have hc1 : Ff_X8_good = (v1na0_0.toInt, v1na0_11.toInt) := hraw1_0
  have hF0 := hF0.trans (fl_c2_eq hc1)
  refine lv_aload_n hx hb dX8_called_4 rfl (lv_at hl 0 rfl) ?_
  refine va_get (D := (dC, dI)) (ci := 8) (v := .int a0_14) (C := RX8) (T := TX8) (N := 40) hx hb hts zi_X8_called_8 hown hK hP 0 rfl rfl 14 (by decide) (hts (.fieldLink RX8 173 "WaxTurnsModel" "hasGallery" "Z") (zm_X8_called_r1 (List.mem_of_getElem? (i := 0) rfl))) (fun _ h9 => h9) rfl dX8_called_5 ?_
  refine lv_if_ne (tgt := 17) hx hb dX8_called_8 (by decide) (fun c8 => ?_) (fun c8 => ?_)
  · have gc8 := ai_ne c8
    have l8t_a0_14 : (1 : Int) ≤ a0_14.toInt := (by first | exact zg_l ba0_14_l gc8 (by decide) (by decide) | (have h1 := ba0_14_l; have h2 : (0 : Int32).toInt = 0 := (by decide); rw [h2] at gc8; omega))
    have u8t_a0_14 : a0_14.toInt ≤ (-1 : Int) := (by first | exact zg_u ba0_14_u gc8 (by decide) (by decide) | (have h1 := ba0_14_u; have h2 : (0 : Int32).toInt = 0 := (by decide); rw [h2] at gc8; omega))
    exact absurd (Int.le_trans l8t_a0_14 u8t_a0_14) (by decide)
  · have gc8 := ai_eq c8
    have u8f_a0_14 : a0_14.toInt ≤ (0 : Int) := ba0_14_u
    have l8f_a0_14 : (0 : Int) ≤ a0_14.toInt := ba0_14_l
    have hF0 := hF0.trans (if_pos (show a0_14.toInt = 0 from gc8))
    refine lv_aload_n hx hb dX8_called_11 rfl (lv_at hl 0 rfl) ?_
    refine lv_iconst (v := 1) hx hb dX8_called_12 zk_iconst_1 ?_
    refine va_calli (va_runV (As := [.int 1]) (rest := []) ⟨hx, hb, hml, hown, hts⟩ (f_X8_no l dC dI H.size a0 1 (Value.int v1na0_0) a0g_1 a0g_2 a0g_3 a0g_4 a0g_5 a0g_6 a0g_7 a0g_8 a0g_9 a0g_10 a0g_12 a0g_13 (Value.int a0_14) a0g_15 a0g_16 a0g_17 a0g_18 a0g_19 a0g_20 a0g_21 a0g_22 a0g_23 a0g_24 a0g_25 a0g_26 a0g_27 a0g_28 a0g_29 a0g_30 a0g_31 a0g_32 a0g_33 a0g_34 a0g_35 a0g_36 a0g_37 a0g_38 a0g_39 v1na0_11 ) (cwV 1 hts gX8_called_X8_no rfl rfl rfl zd_X8_no ⟨Nat.le_of_ble_eq_true rfl, Nat.le_of_ble_eq_true rfl⟩) ⟨ax_blind (fun _ _ _ _ _ => trivial), zr_8 (zp_K hK) (zp_P1 hP) (q0 := 0) rfl, ax_pre (zp_P1 hP) (zp_K hK) (zp_D1 hD) (fun _ _ => trivial)⟩ rfl rfl hl.1 rfl (lv_room (Nat.le_of_ble_eq_true rfl)) dX8_called_13 ⟨Nat.le_of_ble_eq_true rfl, Nat.le_of_ble_eq_true rfl⟩) hS (fun q _ h => zp_F1 hD hS hA q h) (zp_F1 hD hS hA) (fun r13 u t H locs ht hvm hw => zx_1 (fun v13na0_11 => zy_1 (fun hraw13_0 hB hz1 hk1 hS1 => zo1 hB ht hP hD hk1 (zp_F1 hD hS hA) hS1 (fun hP hK1 hD hS => ?_))))
    obtain ⟨hw, hfr13⟩ := hw
    rw [show (1 : Int32).toInt = 1 from by decide] at hfr13 hraw13_0
    have hc13 : Ff_X8_no 1 = (r13.toInt, v13na0_11.toInt) := Prod.ext hfr13.symm hraw13_0
    have hF0 := hF0.trans (fl_c2_eq hc13)
    have hw : r13 = (-1) := hw
    have hw := hw.symm
    subst hw
    have hFe : FX = ((-1), v1na0_0.toInt, v13na0_11.toInt) := hF0
    exact W.iret (v := (-1)) hx hb hr (fun t ht hW => ⟨⟨(-1), (), rfl, ⟨rfl, (congrArg Prod.fst hFe).symm⟩, v1na0_0, v13na0_11, (congrArg Prod.snd hFe), by rw [ht]; exact hP, va_K.moved hW.alike hK, hD⟩, hS.F ht⟩) hS.2.2 dX8_called_16
end P314_19_f
section P400_frame
section FRAME
theorem met_mono {l : Launch} {y : MethodName} {ws : List Cond} {rm : Room} {Pc Pc' : Array Value → State → Prop} {Qc Qc' : Array Value → State → Outcome → State → Prop} {mc ms : Nat} {free free' : Addr → Prop}
    (h : Met l y ws rm Pc Qc mc ms free) (hP : ∀ a U, Pc' a U → Pc a U) (hQ : ∀ a U o t L, Pc' a U → FrameEnd U o t L mc ms → Qc a U o t → Qc' a U o t) (hf : ∀ q, free q → free' q) : Met l y ws rm Pc' Qc' mc ms free' := by
  intro p e h1 h2 h3 s m args below h4 h5 h6 h7
  obtain ⟨n, o, a1, a2, a3, a4, L, a5, a6⟩ := h p e h1 h2 h3 s m args below h4 h5 (hP _ _ h6) h7
  exact ⟨n, o, a1, a2, a3, hQ _ _ _ _ _ h6 a5 a4, L, a5, fun q hq => hf _ (a6 q hq)⟩
theorem fr_at {w wc : va_W} {is : List Nat} (hC : is.map (fun i => w[i]?) = wc.map some) {j k : Nat} (hj : is[j]? = some k) : ∃ q, wc[j]? = some q ∧ w[k]? = some q := by
  have h1 : (is.map (fun i => w[i]?))[j]? = some (w[k]?) := by rw [List.getElem?_map, hj]; rfl
  rw [hC, List.getElem?_map] at h1
  cases hq : wc[j]? with
  | none => rw [hq] at h1; cases h1
  | some q => rw [hq] at h1; exact ⟨q, rfl, (Option.some.inj h1).symm⟩
theorem fr_len {w wc : va_W} {is : List Nat} (hC : is.map (fun i => w[i]?) = wc.map some) : is.length = wc.length := by
  have h := congrArg List.length hC
  simpa using h
theorem fr_w2 {A0 : Nat → Prop} {D : va_G} {cl : List vw_C} {w wc wr w1 w2 : va_W} {H H1 : Heap} {n : Nat} (is rs : List Nat) (hP : va_P D cl w H) (hD : va_D A0 w) (hC : is.map (fun i => w[i]?) = wc.map some) (hR : rs.map (fun i => w[i]?) = wr.map some) (ha : w1.map (fun q => q.1) = wc.map (fun q => q.1)) (h1 : is.map (fun i => w2[i]?) = w1.map some) (h2 : rs.map (fun i => w2[i]?) = wr.map some)
    (hl : w2.length = n) (hcov : (List.range n).all (fun k => is.contains k || rs.contains k) = true) (hk : ∀ q : Nat, q < H.size → ¬ va_A wc H.size q → H1[q]? = H[q]?) (hP1 : va_P D cl w1 H1) : va_P D cl w2 H1 ∧ va_D A0 w2 := by
  have cov : ∀ (k : Nat) (q : Nat × va_E), w2[k]? = some q → (∃ j : Nat, is[j]? = some k ∧ w1[j]? = some q) ∨ (k ∉ is ∧ w[k]? = some q) := by
    intro k q h
    have hlt : k < n := by rw [← hl]; exact (List.getElem?_eq_some_iff.mp h).1
    have hb := List.all_eq_true.mp hcov k (List.mem_range.mpr hlt)
    by_cases hi : k ∈ is
    · obtain ⟨j, hj⟩ := List.mem_iff_getElem?.mp hi
      obtain ⟨p, g1, g2⟩ := fr_at h1 hj
      rw [h] at g2
      exact Or.inl ⟨j, hj, by rw [g1, ← Option.some.inj g2]⟩
    · have hr : k ∈ rs := by
        rcases Bool.or_eq_true _ _ |>.mp hb with z | z
        · exact absurd (List.contains_iff_mem.mp z) hi
        · exact List.contains_iff_mem.mp z
      obtain ⟨j, hj⟩ := List.mem_iff_getElem?.mp hr
      obtain ⟨p, g1, g2⟩ := fr_at h2 hj
      obtain ⟨p', g3, g4⟩ := fr_at hR hj
      rw [g1] at g3
      have e := Option.some.inj g3
      subst e
      rw [h] at g2
      exact Or.inr ⟨hi, by rw [g4, ← Option.some.inj g2]⟩
  have adr : ∀ (k : Nat) (q : Nat × va_E), w2[k]? = some q → ∃ p, w[k]? = some p ∧ p.1 = q.1 := by
    intro k q h
    rcases cov k q h with ⟨j, a, b⟩ | ⟨a, b⟩
    · obtain ⟨p, g1, g2⟩ := fr_at hC a
      refine ⟨p, g2, ?_⟩
      have h3 : (w1.map (fun q => q.1))[j]? = some q.1 := by rw [List.getElem?_map, b]; rfl
      rw [ha, List.getElem?_map, g1] at h3
      exact Option.some.inj h3
    · exact ⟨q, b, rfl⟩
  refine ⟨fun k q h => ?_, ⟨fun i j p q a1 a2 a3 => ?_, fun k q h => ?_⟩⟩
  · rcases cov k q h with ⟨j, a, b⟩ | ⟨a, b⟩
    · exact hP1 j q b
    · have hq := hP k q b
      refine hq.kept (hk q.1 hq.lt (fun h9 => ?_))
      rcases h9 with ⟨j, e, h9⟩ | h9
      · have hj : ∃ m, is[j]? = some m := by
          have hlt : j < wc.length := (List.getElem?_eq_some_iff.mp h9).1
          rw [← fr_len hC] at hlt
          exact ⟨is[j], List.getElem?_eq_getElem hlt⟩
        obtain ⟨m, hm⟩ := hj
        obtain ⟨p, g1, g2⟩ := fr_at hC hm
        rw [g1] at h9
        have e2 := hD.1 k m q p b g2 (by rw [Option.some.inj h9])
        subst e2
        exact a (List.mem_of_getElem? hm)
      · have := hq.lt; omega
  · obtain ⟨p1, b1, c1⟩ := adr i p a1
    obtain ⟨p2, b2, c2⟩ := adr j q a2
    exact hD.1 i j p1 p2 b1 b2 (by rw [c1, c2]; exact a3)
  · obtain ⟨p1, b1, c1⟩ := adr k q h
    rw [← c1]; exact hD.2 k p1 b1
theorem fr_sub {w wc : va_W} {is : List Nat} (hC : is.map (fun i => w[i]?) = wc.map some) {sz : Nat} : ∀ q, va_A wc sz q → va_A w sz q := by
  intro q h
  rcases h with ⟨j, e, h⟩ | h
  · have hj : ∃ m, is[j]? = some m := by
      have hlt : j < wc.length := (List.getElem?_eq_some_iff.mp h).1
      rw [← fr_len hC] at hlt
      exact ⟨is[j], List.getElem?_eq_getElem hlt⟩
    obtain ⟨m, hm⟩ := hj
    obtain ⟨p, g1, g2⟩ := fr_at hC hm
    rw [h] at g1
    have e1 := Option.some.inj g1
    exact Or.inl ⟨m, e, by rw [g2, ← e1]⟩
  · exact Or.inr h
theorem fr_P {D : va_G} {cl : List vw_C} {w wc : va_W} {is : List Nat} {H : Heap} (hC : is.map (fun i => w[i]?) = wc.map some) (hP : va_P D cl w H) : va_P D cl wc H := by
  intro j q h
  have hj : ∃ m, is[j]? = some m := by
    have hlt : j < wc.length := (List.getElem?_eq_some_iff.mp h).1
    rw [← fr_len hC] at hlt
    exact ⟨is[j], List.getElem?_eq_getElem hlt⟩
  obtain ⟨m, hm⟩ := hj
  obtain ⟨p, g1, g2⟩ := fr_at hC hm
  rw [h] at g1
  have e1 := Option.some.inj g1
  subst e1
  exact hP m _ g2
/-- the frame rule for contracts that answer an int: the callee's cells among more -/
theorem fr_i {l : Launch} {y : MethodName} {ws : List Cond} {rm : Room} {av : List Value} {dC : Nat → ClassId} {dI : Nat → Nat → Nat} {sz : Nat} {w wc wr : va_W} {tys tysc : List (ClassId × FieldType)} {E E' : State → Prop} {S : Type} {post : Int32 → S → Prop} {post' : Int32 → Prop} {B : S → State → Prop} {J : va_W → List (ClassId × FieldType) → Prop}
    (hM : Met l y ws rm (va_Pc av (ax_C dC dI sz wc tysc E)) (va_Qi post B (va_A wc sz)) 0 0 (va_A wc sz)) (is rs it : List Nat) (n : Nat) (hcov : (List.range n).all (fun k => is.contains k || rs.contains k) = true) (hR : rs.map (fun i => w[i]?) = wr.map some) (hC : is.map (fun i => w[i]?) = wc.map some) (hn : va_nd is = true) (hT : it.filterMap (fun i => tys[i]?) = tysc)
    (hE : ∀ U, E' U → E U) 
    (hB : ∀ r u t, post r u → B u t → post' r ∧ ∃ w1, ax_B dC dI (va_A wc sz) w1 tysc t ∧ w1.map (fun q => q.1) = wc.map (fun q => q.1) ∧ ∃ w2 : va_W, is.map (fun i => w2[i]?) = w1.map some ∧ rs.map (fun i => w2[i]?) = wr.map some ∧ w2.length = n ∧ J w2 tys) :
    Met l y ws rm (va_Pc av (ax_C dC dI sz w tys E')) (va_Qi (fun r (_ : Unit) => post' r) (fun _ t => ∃ wx ty, J wx ty ∧ ax_B dC dI (va_A w sz) wx ty t) (va_A w sz)) 0 0 (va_A w sz) := by
  refine met_mono hM ?_ ?_ (fr_sub hC)
  · intro a U h
    obtain ⟨rfl, hsz, hP, hK, hD, hE'⟩ := h
    exact ⟨rfl, hsz, fr_P hC hP, hK.sub it hT, hD.sub is hn hC, hE U hE'⟩
  · intro a U o t L hpre hfe hq
    obtain ⟨rfl, hsz, hP, hK, hD, hE'⟩ := hpre
    obtain ⟨⟨r, u, ho, hp, hb⟩, hF⟩ := hq
    obtain ⟨hp', w1, ⟨hP1, hK1, hD1⟩, ha, w2, q1, q2, q3, hJ⟩ := hB r u t hp hb
    subst hsz
    obtain ⟨g1, g2⟩ := fr_w2 (A0 := va_A w U.heap.size) is rs hP hD.self hC hR ha q1 q2 q3 hcov hF.2 hP1
    exact ⟨⟨r, (), ho, hp', _, _, hJ, g1, va_K.moved hfe.2.1.alike hK, g2⟩, hF.1, fun q h1 h2 => hF.2 q h1 (fun z => h2 (fr_sub hC q z))⟩
theorem fr_l {l : Launch} {y : MethodName} {ws : List Cond} {rm : Room} {av : List Value} {dC : Nat → ClassId} {dI : Nat → Nat → Nat} {sz : Nat} {w wc wr : va_W} {tys tysc : List (ClassId × FieldType)} {E E' : State → Prop} {S : Type} {post : Int64 → S → Prop} {B : S → State → Prop} {J : va_W → List (ClassId × FieldType) → Prop}
    (hM : Met l y ws rm (va_Pc av (ax_C dC dI sz wc tysc E)) (va_Ql post B (va_A wc sz)) 0 0 (va_A wc sz)) (is rs it : List Nat) (n : Nat) (hcov : (List.range n).all (fun k => is.contains k || rs.contains k) = true) (hR : rs.map (fun i => w[i]?) = wr.map some) (hC : is.map (fun i => w[i]?) = wc.map some) (hn : va_nd is = true) (hT : it.filterMap (fun i => tys[i]?) = tysc)
    (hE : ∀ U, E' U → E U)
    (hB : ∀ r u t, post r u → B u t → ∃ w1, ax_B dC dI (va_A wc sz) w1 tysc t ∧ w1.map (fun q => q.1) = wc.map (fun q => q.1) ∧ ∃ w2 : va_W, is.map (fun i => w2[i]?) = w1.map some ∧ rs.map (fun i => w2[i]?) = wr.map some ∧ w2.length = n ∧ J w2 tys) :
    Met l y ws rm (va_Pc av (ax_C dC dI sz w tys E')) (va_Ql (fun _ (_ : Unit) => True) (fun _ t => ∃ wx ty, J wx ty ∧ ax_B dC dI (va_A w sz) wx ty t) (va_A w sz)) 0 0 (va_A w sz) := by
  refine met_mono hM ?_ ?_ (fr_sub hC)
  · intro a U h
    obtain ⟨rfl, hsz, hP, hK, hD, hE'⟩ := h
    exact ⟨rfl, hsz, fr_P hC hP, hK.sub it hT, hD.sub is hn hC, hE U hE'⟩
  · intro a U o t L hpre hfe hq
    obtain ⟨rfl, hsz, hP, hK, hD, hE'⟩ := hpre
    obtain ⟨⟨r, u, ho, hp, hb⟩, hF⟩ := hq
    obtain ⟨w1, ⟨hP1, hK1, hD1⟩, ha, w2, q1, q2, q3, hJ⟩ := hB r u t hp hb
    subst hsz
    obtain ⟨g1, g2⟩ := fr_w2 (A0 := va_A w U.heap.size) is rs hP hD.self hC hR ha q1 q2 q3 hcov hF.2 hP1
    exact ⟨⟨r, (), ho, trivial, _, _, hJ, g1, va_K.moved hfe.2.1.alike hK, g2⟩, hF.1, fun q h1 h2 => hF.2 q h1 (fun z => h2 (fr_sub hC q z))⟩
/-- the same, the cells and types in another order behind it -/
theorem fr_ip {l : Launch} {y : MethodName} {ws : List Cond} {rm : Room} {av : List Value} {dC : Nat → ClassId} {dI : Nat → Nat → Nat} {sz : Nat} {w wc wr : va_W} {tys tysc : List (ClassId × FieldType)} {E E' : State → Prop} {S : Type} {post : Int32 → S → Prop} {post' : Int32 → Prop} {B : S → State → Prop} {J : va_W → List (ClassId × FieldType) → Prop}
    (hM : Met l y ws rm (va_Pc av (ax_C dC dI sz wc tysc E)) (va_Qi post B (va_A wc sz)) 0 0 (va_A wc sz)) (is rs it : List Nat) (n : Nat) (hcov : (List.range n).all (fun k => is.contains k || rs.contains k) = true) (hR : rs.map (fun i => w[i]?) = wr.map some) (hC : is.map (fun i => w[i]?) = wc.map some) (hn : va_nd is = true) (hT : it.filterMap (fun i => tys[i]?) = tysc)
    (hE : ∀ U, E' U → E U)
    (hB : ∀ r u t, post r u → B u t → post' r ∧ ∃ w1, ax_B dC dI (va_A wc sz) w1 tysc t ∧ w1.map (fun q => q.1) = wc.map (fun q => q.1) ∧ ∃ (ord ot : List Nat) (w2 w3 : va_W) (ty : List (ClassId × FieldType)), is.map (fun i => w3[i]?) = w1.map some ∧ rs.map (fun i => w3[i]?) = wr.map some ∧ w3.length = n ∧ ord.map (fun i => w3[i]?) = w2.map some ∧ va_nd ord = true ∧ ot.filterMap (fun i => tys[i]?) = ty ∧ J w2 ty) :
    Met l y ws rm (va_Pc av (ax_C dC dI sz w tys E')) (va_Qi (fun r (_ : Unit) => post' r) (fun _ t => ∃ wx ty, J wx ty ∧ ax_B dC dI (va_A w sz) wx ty t) (va_A w sz)) 0 0 (va_A w sz) := by
  refine met_mono hM ?_ ?_ (fr_sub hC)
  · intro a U h
    obtain ⟨rfl, hsz, hP, hK, hD, hE'⟩ := h
    exact ⟨rfl, hsz, fr_P hC hP, hK.sub it hT, hD.sub is hn hC, hE U hE'⟩
  · intro a U o t L hpre hfe hq
    obtain ⟨rfl, hsz, hP, hK, hD, hE'⟩ := hpre
    obtain ⟨⟨r, u, ho, hp, hb⟩, hF⟩ := hq
    obtain ⟨hp', w1, ⟨hP1, hK1, hD1⟩, ha, ord, ot, w2, w3, ty, q1, q2, q3, h1, h2, h3, hJ⟩ := hB r u t hp hb
    subst hsz
    obtain ⟨g1, g2⟩ := fr_w2 (A0 := va_A w U.heap.size) is rs hP hD.self hC hR ha q1 q2 q3 hcov hF.2 hP1
    exact ⟨⟨r, (), ho, hp', _, _, hJ, fr_P h1 g1, (va_K.moved hfe.2.1.alike hK).sub ot h3, g2.sub ord h2 h1⟩, hF.1, fun q h1 h2 => hF.2 q h1 (fun z => h2 (fr_sub hC q z))⟩
theorem room_mono {s : State} {pl : Platform} {q q' : Room} (h1 : q.frames ≤ q'.frames) (h2 : q.locals ≤ q'.locals) (h3 : q.cells ≤ q'.cells) (h4 : q.slots ≤ q'.slots) (h : s.hasRoom pl q' = true) : s.hasRoom pl q = true := by
  unfold State.hasRoom at h ⊢
  simp only [Bool.and_eq_true, decide_eq_true_eq] at h ⊢
  obtain ⟨⟨⟨⟨a, b1, b2, b3, b4, b5⟩, c⟩, d⟩, e⟩ := h
  exact ⟨⟨⟨⟨by omega, by omega, by omega, by omega, by omega, b5⟩, by omega⟩, by omega⟩, e⟩
theorem met_room {l : Launch} {y : MethodName} {ws : List Cond} {f f' k sl lo lo' : Nat} {Pc : Array Value → State → Prop} {Qc : Array Value → State → Outcome → State → Prop} {mc ms : Nat} {free : Addr → Prop} (h : Met l y ws ({ frames := f, cells := k, slots := sl, locals := lo }) Pc Qc mc ms free) (h1 : f ≤ f') (h2 : lo ≤ lo') : Met l y ws ({ frames := f', cells := k, slots := sl, locals := lo' }) Pc Qc mc ms free := by
  intro p e h3 h4 h5 s m args below h6 h7 h8 h9
  have q := (Spec.appliesLoose_iff h6).mp h7
  exact h p e h3 h4 h5 s m args below h6 ((Spec.appliesLoose_iff h6).mpr ⟨q.1, q.2.1, q.2.2.1, q.2.2.2.1, q.2.2.2.2.1, q.2.2.2.2.2.1, room_mono (q := ({ frames := f, cells := k, slots := sl, locals := lo } : Room)) (q' := ({ frames := f', cells := k, slots := sl, locals := lo' } : Room)) h1 h2 (Nat.le_refl _) (Nat.le_refl _) q.2.2.2.2.2.2.1, q.2.2.2.2.2.2.2⟩) h8 h9
end FRAME
theorem sx_Z_sub {A B : Nat → Prop} {U : State} (h : sx_Z A U) (hAB : ∀ q, B q → A q) : sx_Z B U := ⟨h.1.narrow hAB, h.2.narrow hAB⟩
end P400_frame
