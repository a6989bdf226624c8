section P125_safe
set_option maxHeartbeats 4000000 in
set_option maxRecDepth 100000 in
theorem c_X1_addImage (l : Launch) (dC : Nat → ClassId) (dI : Nat → Nat → Nat) (sz : Nat) (a0 : Nat) (a1 : Nat) (a0g_0 a0g_2 a0g_3 : Value) (a0_1 : Int32) (a0_4 : Nat) (ka0_4 : ClassId) (a0_4e0 : Nat) (a0_4e1 : Nat) (a0_4e2 : Nat) (a0_4e0_0 : Int32) (a0_4e0_1 : Int32) (a0_4e0_2 : Int32) (a0_4e0_3 : Int32) (a0_4e0_4 : Int32) (a0_4e0_5 : Nat) (a0_4e0_6 : Nat) (a1_0 : Int32) (a1_1 : Int32) (a1_2 : Int32) (a1_3 : Int32) (a1_4 : Int32) (a1_5 : Nat) (a1_6 : Nat) (ka1_5 : ClassId) (fa1_5 : Nat → Int32) (ka0_4e0_5 : ClassId) (fa0_4e0_5 : Nat → Int32) (ka1_6 : ClassId) (fa1_6 : Nat → Int32) (ka0_4e0_6 : ClassId) (fa0_4e0_6 : Nat → Int32) (a0_4e1_0 : Int32) (a0_4e1_1 : Int32) (a0_4e1_2 : Int32) (a0_4e1_3 : Int32) (a0_4e1_4 : Int32) (a0_4e1_5 : Nat) (a0_4e1_6 : Nat) (ka0_4e1_5 : ClassId) (fa0_4e1_5 : Nat → Int32) (ka0_4e1_6 : ClassId) (fa0_4e1_6 : Nat → Int32) (a0_4e2_0 : Int32) (a0_4e2_1 : Int32) (a0_4e2_2 : Int32) (a0_4e2_3 : Int32) (a0_4e2_4 : Int32) (a0_4e2_5 : Nat) (a0_4e2_6 : Nat) (ka0_4e2_5 : ClassId) (fa0_4e2_5 : Nat → Int32) (ka0_4e2_6 : ClassId) (fa0_4e2_6 : Nat → Int32) (ba0_1_l : (0 : Int) ≤ a0_1.toInt) (ba0_1_u : a0_1.toInt ≤ (3 : Int)) (ba0_4e0_1_l : (0 : Int) ≤ a0_4e0_1.toInt) (ba0_4e0_1_u : a0_4e0_1.toInt ≤ (8 : Int)) (ba1_1_l : (0 : Int) ≤ a1_1.toInt) (ba1_1_u : a1_1.toInt ≤ (8 : Int)) (ba0_4e1_1_l : (0 : Int) ≤ a0_4e1_1.toInt) (ba0_4e1_1_u : a0_4e1_1.toInt ≤ (8 : Int)) (ba0_4e2_1_l : (0 : Int) ≤ a0_4e2_1.toInt) (ba0_4e2_1_u : a0_4e2_1.toInt ≤ (8 : Int)) : zm l yX1_addImage wsX1_addImage ({ frames := 1, cells := 0, slots := 0, locals := 22 }) [.ref a0, .ref a1] dC dI sz [(a0, .inr (1, [a0g_0, .int a0_1, a0g_2, a0g_3, .ref a0_4])), (a0_4, .inl (ka0_4, 3, .inr (.inr (.inr (.inr (fun i9 => ([some a0_4e0, some a0_4e1, some a0_4e2] : List (Option Nat)).getD i9 none)))))), (a0_4e0, .inr (5, [.int a0_4e0_0, .int a0_4e0_1, .int a0_4e0_2, .int a0_4e0_3, .int a0_4e0_4, .ref a0_4e0_5, .ref a0_4e0_6])), (a1, .inr (5, [.int a1_0, .int a1_1, .int a1_2, .int a1_3, .int a1_4, .ref a1_5, .ref a1_6])), (a1_5, .inl (ka1_5, 9, .inl (fa1_5))), (a0_4e0_5, .inl (ka0_4e0_5, 9, .inl (fa0_4e0_5))), (a1_6, .inl (ka1_6, 9, .inl (fa1_6))), (a0_4e0_6, .inl (ka0_4e0_6, 9, .inl (fa0_4e0_6))), (a0_4e1, .inr (5, [.int a0_4e1_0, .int a0_4e1_1, .int a0_4e1_2, .int a0_4e1_3, .int a0_4e1_4, .ref a0_4e1_5, .ref a0_4e1_6])), (a0_4e1_5, .inl (ka0_4e1_5, 9, .inl (fa0_4e1_5))), (a0_4e1_6, .inl (ka0_4e1_6, 9, .inl (fa0_4e1_6))), (a0_4e2, .inr (5, [.int a0_4e2_0, .int a0_4e2_1, .int a0_4e2_2, .int a0_4e2_3, .int a0_4e2_4, .ref a0_4e2_5, .ref a0_4e2_6])), (a0_4e2_5, .inl (ka0_4e2_5, 9, .inl (fa0_4e2_5))), (a0_4e2_6, .inl (ka0_4e2_6, 9, .inl (fa0_4e2_6)))] [(ka0_4, (.object RX5)), (ka1_5, .int), (ka0_4e0_5, .int), (ka1_6, .int), (ka0_4e0_6, .int), (ka0_4e1_5, .int), (ka0_4e1_6, .int), (ka0_4e2_5, .int), (ka0_4e2_6, .int)] (fun A _ => True) (fun A => va_Qi (fun (r : Int32) (_ : Unit) => (r = 2) ∨ (r = 1) ∨ (r = 0) ∨ (r = (-1))) (fun (_ : Unit) (t : State) => ∃ zni : Nat → Int32, ∃ znf : Nat → Nat → Int32, ((0 : Int) ≤ (zni 0).toInt ∧ (zni 0).toInt ≤ 3) ∧ ((0 : Int) ≤ (zni 2).toInt ∧ (zni 2).toInt ≤ 8) ∧ ((0 : Int) ≤ (zni 7).toInt ∧ (zni 7).toInt ≤ 8) ∧ ((0 : Int) ≤ (zni 12).toInt ∧ (zni 12).toInt ≤ 8) ∧ ax_B dC dI A [(a0, .inr (1, [a0g_0, .int (zni 0), a0g_2, a0g_3, .ref a0_4])), (a0_4, .inl (ka0_4, 3, .inr (.inr (.inr (.inr (fun i9 => ([some a0_4e0, some a0_4e1, some a0_4e2] : List (Option Nat)).getD i9 none)))))), (a0_4e0, .inr (5, [.int (zni 1), .int (zni 2), .int (zni 3), .int (zni 4), .int (zni 5), .ref a0_4e0_5, .ref a0_4e0_6])), (a1, .inr (5, [.int a1_0, .int a1_1, .int a1_2, .int a1_3, .int a1_4, .ref a1_5, .ref a1_6])), (a1_5, .inl (ka1_5, 9, .inl (fa1_5))), (a0_4e0_5, .inl (ka0_4e0_5, 9, .inl ((znf 0)))), (a1_6, .inl (ka1_6, 9, .inl (fa1_6))), (a0_4e0_6, .inl (ka0_4e0_6, 9, .inl ((znf 1)))), (a0_4e1, .inr (5, [.int (zni 6), .int (zni 7), .int (zni 8), .int (zni 9), .int (zni 10), .ref a0_4e1_5, .ref a0_4e1_6])), (a0_4e1_5, .inl (ka0_4e1_5, 9, .inl ((znf 2)))), (a0_4e1_6, .inl (ka0_4e1_6, 9, .inl ((znf 3)))), (a0_4e2, .inr (5, [.int (zni 11), .int (zni 12), .int (zni 13), .int (zni 14), .int (zni 15), .ref a0_4e2_5, .ref a0_4e2_6])), (a0_4e2_5, .inl (ka0_4e2_5, 9, .inl ((znf 4)))), (a0_4e2_6, .inl (ka0_4e2_6, 9, .inl ((znf 5))))] [(ka0_4, (.object RX5)), (ka1_5, .int), (ka0_4e0_5, .int), (ka1_6, .int), (ka0_4e0_6, .int), (ka0_4e1_5, .int), (ka0_4e1_6, .int), (ka0_4e2_5, .int), (ka0_4e2_6, .int)] t) A) := by
  refine zh (cc := cX1_addImage) (maxL := 2) (ret := (some .int)) zn_RX1 rfl (Nat.le_of_ble_eq_true rfl) (fun p e s m below meth c A ls hx hb hml hr hts (hown : s.vm.findClass RX1 = some m.cls) hlocks hA hS hP hK hD hE (hl : lv_has ls 2 [(0, .ref a0), (1, .ref a1)]) => ?_)
  refine lv_aload_n hx hb dX1_addImage_0 rfl (lv_at hl 0 rfl) ?_
  refine va_get (D := (dC, dI)) (ci := 1) (v := .int a0_1) (C := RX1) (T := TX1) (N := 5) hx hb hts zi_X1_addImage_1 hown hK hP 0 rfl rfl 1 (by decide) (hts (.fieldLink RX1 25 "WaxTurns$History" "imageCount" "I") (List.mem_cons_of_mem _ (List.mem_append_left _ (List.mem_append_left _ (List.mem_of_getElem? (i := 0) rfl))))) (fun _ h9 => h9) rfl dX1_addImage_1 ?_
  refine lv_iconst (v := 3) hx hb dX1_addImage_4 zk_iconst_3 ?_
  refine lv_icmp_lt (tgt := 10) hx hb dX1_addImage_5 (by decide) (fun c5 => ?_) (fun c5 => ?_)
  · have gc5 := ai_lt c5
    have u5t_a0_1 : a0_1.toInt ≤ (2 : Int) := ai_lthi gc5 zq9
    refine lv_aload_n hx hb dX1_addImage_10 rfl (lv_at hl 0 rfl) ?_
    refine va_get (D := (dC, dI)) (ci := 1) (v := .ref a0_4) (C := RX1) (T := TX1) (N := 5) hx hb hts zi_X1_addImage_1 hown hK hP 0 rfl rfl 4 (by decide) (hts (.fieldLink RX1 18 "WaxTurns$History" "images" "[LWaxTurns$Scene;") (List.mem_cons_of_mem _ (List.mem_append_left _ (List.mem_append_left _ (List.mem_of_getElem? (i := 1) rfl))))) (fun _ h9 => h9) rfl dX1_addImage_11 ?_
    refine lv_aload_n hx hb dX1_addImage_14 rfl (lv_at hl 0 rfl) ?_
    refine va_get (D := (dC, dI)) (ci := 1) (v := .int a0_1) (C := RX1) (T := TX1) (N := 5) hx hb hts zi_X1_addImage_1 hown hK hP 0 rfl rfl 1 (by decide) (hts (.fieldLink RX1 25 "WaxTurns$History" "imageCount" "I") (List.mem_cons_of_mem _ (List.mem_append_left _ (List.mem_append_left _ (List.mem_of_getElem? (i := 0) rfl))))) (fun _ h9 => h9) rfl dX1_addImage_15 ?_
    have hv18 : a0_1 = 0 ∨ a0_1 = 1 ∨ a0_1 = 2 := by
      have h1 : (0 : Int) ≤ a0_1.toInt := ba0_1_l
      have h2 : a0_1.toInt ≤ (2 : Int) := u5t_a0_1
      rcases (show a0_1.toInt = 0 ∨ a0_1.toInt = 1 ∨ a0_1.toInt = 2 by omega) with h | h | h
      · exact Or.inl (Int32.toInt_inj.mp (h.trans (by decide)))
      · exact Or.inr (Or.inl (Int32.toInt_inj.mp (h.trans (by decide))))
      · exact Or.inr (Or.inr (Int32.toInt_inj.mp (h.trans (by decide))))
    rcases hv18 with hv18 | hv18 | hv18
    · subst hv18
      refine va_aldq hx hb hK hP 1 0 rfl rfl (i := 0) (by unfold vp_in; decide +kernel) dX1_addImage_18 ?_
      refine ax_tv (.ref a0_4e0) rfl ?_
      refine lv_aload_n hx hb dX1_addImage_19 rfl (lv_at hl 1 rfl) ?_
      refine zc_cutc (wc := [(a0_4e0, .inr (5, [.int a0_4e0_0, .int a0_4e0_1, .int a0_4e0_2, .int a0_4e0_3, .int a0_4e0_4, .ref a0_4e0_5, .ref a0_4e0_6])), (a1, .inr (5, [.int a1_0, .int a1_1, .int a1_2, .int a1_3, .int a1_4, .ref a1_5, .ref a1_6])), (a1_5, .inl (ka1_5, 9, .inl (fa1_5))), (a0_4e0_5, .inl (ka0_4e0_5, 9, .inl (fa0_4e0_5))), (a1_6, .inl (ka1_6, 9, .inl (fa1_6))), (a0_4e0_6, .inl (ka0_4e0_6, 9, .inl (fa0_4e0_6)))]) hP hD hS hA [2, 3, 4, 5, 6, 7] (by decide +kernel) rfl (fun hPc hDc hFc hCc => ?_)
      have hKc := hK.sub (tys' := [(ka1_5, .int), (ka0_4e0_5, .int), (ka1_6, .int), (ka0_4e0_6, .int)]) [1, 2, 3, 4] rfl
      refine va_callv (va_runV (As := [.ref a1]) (rest := []) ⟨hx, hb, hml, hown, hts⟩ (c_X5_copyFrom l dC dI s.heap.size a0_4e0 a1 a0_4e0_0 a0_4e0_1 a0_4e0_2 a0_4e0_3 a0_4e0_4 a0_4e0_5 a0_4e0_6 a1_0 a1_1 a1_2 a1_3 a1_4 a1_5 a1_6 ka1_5 fa1_5 ka0_4e0_5 fa0_4e0_5 ka1_6 fa1_6 ka0_4e0_6 fa0_4e0_6 ba0_4e0_1_l ba0_4e0_1_u ba1_1_l ba1_1_u) (cwV 1 hts gX1_addImage_X5_copyFrom rfl rfl rfl zd_X5_copyFrom ⟨Nat.le_of_ble_eq_true rfl, Nat.le_of_ble_eq_true rfl⟩) ⟨ax_blind (fun _ _ _ _ _ => trivial), zr_5 hKc hPc (q0 := 0) rfl, ax_pre hPc hKc hDc (fun _ _ => trivial)⟩ rfl rfl hl.1 rfl (lv_room (Nat.le_of_ble_eq_true rfl)) dX1_addImage_20 ⟨Nat.le_of_ble_eq_true rfl, Nat.le_of_ble_eq_true rfl⟩) hS (fun q _ h => hFc q h) hFc (fun u t H locs ht hvm hw => zx_7 (fun v20na0_0 v20na0_1 v20na0_2 v20na0_3 v20na0_4 v20nfa0_5 v20nfa0_6 => zy_1 (fun bv20na0_1 hB hz1 hk1 hS1 => zo hB ht hS1 (fun hP1 hK1 hD1 hS => ?_))))
      refine zc_backc (w := [(a0, .inr (1, [a0g_0, .int 0, a0g_2, a0g_3, .ref a0_4])), (a0_4, .inl (ka0_4, 3, .inr (.inr (.inr (.inr (fun i9 => ([some a0_4e0, some a0_4e1, some a0_4e2] : List (Option Nat)).getD i9 none)))))), (a0_4e0, .inr (5, [.int v20na0_0, .int v20na0_1, .int v20na0_2, .int v20na0_3, .int v20na0_4, .ref a0_4e0_5, .ref a0_4e0_6])), (a1, .inr (5, [.int a1_0, .int a1_1, .int a1_2, .int a1_3, .int a1_4, .ref a1_5, .ref a1_6])), (a1_5, .inl (ka1_5, 9, .inl (fa1_5))), (a0_4e0_5, .inl (ka0_4e0_5, 9, .inl (v20nfa0_5))), (a1_6, .inl (ka1_6, 9, .inl (fa1_6))), (a0_4e0_6, .inl (ka0_4e0_6, 9, .inl (v20nfa0_6))), (a0_4e1, .inr (5, [.int a0_4e1_0, .int a0_4e1_1, .int a0_4e1_2, .int a0_4e1_3, .int a0_4e1_4, .ref a0_4e1_5, .ref a0_4e1_6])), (a0_4e1_5, .inl (ka0_4e1_5, 9, .inl (fa0_4e1_5))), (a0_4e1_6, .inl (ka0_4e1_6, 9, .inl (fa0_4e1_6))), (a0_4e2, .inr (5, [.int a0_4e2_0, .int a0_4e2_1, .int a0_4e2_2, .int a0_4e2_3, .int a0_4e2_4, .ref a0_4e2_5, .ref a0_4e2_6])), (a0_4e2_5, .inl (ka0_4e2_5, 9, .inl (fa0_4e2_5))), (a0_4e2_6, .inl (ka0_4e2_6, 9, .inl (fa0_4e2_6)))]) hP hD hCc hk1 hFc hP1 hD1 [.inl 0, .inl 1, .inr 0, .inr 1, .inr 2, .inr 3, .inr 4, .inr 5, .inl 8, .inl 9, .inl 10, .inl 11, .inl 12, .inl 13] (by decide +kernel) rfl (fun hP hD => ?_)
      refine lv_aload_n hx hb dX1_addImage_23 rfl (lv_at hl 0 rfl) ?_
      refine lv_dup hx hb dX1_addImage_24 rfl ?_
      refine va_get (D := (dC, dI)) (ci := 1) (v := .int 0) (C := RX1) (T := TX1) (N := 5) hx hb hts zi_X1_addImage_1 hown hK hP 0 rfl rfl 1 (by decide) (hts (.fieldLink RX1 25 "WaxTurns$History" "imageCount" "I") (List.mem_cons_of_mem _ (List.mem_append_left _ (List.mem_append_left _ (List.mem_of_getElem? (i := 0) rfl))))) (fun _ h9 => h9) rfl dX1_addImage_25 ?_
      refine lv_iconst (v := 1) hx hb dX1_addImage_28 zk_iconst_1 ?_
      refine lv_iadd hx hb dX1_addImage_29 ?_
      refine ax_ti 1 (by decide +kernel) ?_
      refine va_put (D := (dC, dI)) (ci := 1) (v := .int 1) (ty := .int) (C := RX1) (T := TX1) (N := 5) hx hb hts zi_X1_addImage_1 tyX1 tyX1_ok nmX1 hown hK hP hD hS 0 rfl rfl 1 (by decide) (hts (.fieldLink RX1 25 "WaxTurns$History" "imageCount" "I") (List.mem_cons_of_mem _ (List.mem_append_left _ (List.mem_append_left _ (List.mem_of_getElem? (i := 0) rfl))))) (fun _ h9 => h9) rfl (tyX1_ok 1 (by decide)) rfl rfl (Nat.le_of_ble_eq_true rfl) dX1_addImage_30 (fun H locs hP hD hS => ?_)
      refine zs_0 (y := (a0, .inr (1, [a0g_0, .int 1, a0g_2, a0g_3, .ref a0_4]))) hP hD rfl (fun hP hD => ?_)
      refine lv_aload_n hx hb dX1_addImage_33 rfl (lv_at hl 0 rfl) ?_
      refine va_get (D := (dC, dI)) (ci := 1) (v := .int 1) (C := RX1) (T := TX1) (N := 5) hx hb hts zi_X1_addImage_1 hown hK hP 0 rfl rfl 1 (by decide) (hts (.fieldLink RX1 25 "WaxTurns$History" "imageCount" "I") (List.mem_cons_of_mem _ (List.mem_append_left _ (List.mem_append_left _ (List.mem_of_getElem? (i := 0) rfl))))) (fun _ h9 => h9) rfl dX1_addImage_34 ?_
      refine lv_iconst (v := 1) hx hb dX1_addImage_37 zk_iconst_1 ?_
      refine lv_isub hx hb dX1_addImage_38 ?_
      refine ax_ti 0 (by decide +kernel) ?_
      exact W.iret (v := 0) hx hb hr (fun t ht hW => ⟨⟨0, (), rfl, (Or.inr (Or.inr (Or.inl (rfl)))), (fun i9 => ([1, v20na0_0, v20na0_1, v20na0_2, v20na0_3, v20na0_4, a0_4e1_0, a0_4e1_1, a0_4e1_2, a0_4e1_3, a0_4e1_4, a0_4e2_0, a0_4e2_1, a0_4e2_2, a0_4e2_3, a0_4e2_4] : List Int32).getD i9 0), (fun i9 => ([v20nfa0_5, v20nfa0_6, fa0_4e1_5, fa0_4e1_6, fa0_4e2_5, fa0_4e2_6] : List (Nat → Int32)).getD i9 (fun _ => 0)), ⟨Int.le_trans (by decide) zq1, Int.le_trans zq0 (by decide)⟩, ⟨bv20na0_1.1, bv20na0_1.2⟩, ⟨ba0_4e1_1_l, ba0_4e1_1_u⟩, ⟨ba0_4e2_1_l, ba0_4e2_1_u⟩, by rw [ht]; exact hP, va_K.moved hW.alike hK, hD⟩, hS.F ht⟩) hS.2.2 dX1_addImage_39
    · subst hv18
      refine va_aldq hx hb hK hP 1 0 rfl rfl (i := 1) (by unfold vp_in; decide +kernel) dX1_addImage_18 ?_
      refine ax_tv (.ref a0_4e1) rfl ?_
      refine lv_aload_n hx hb dX1_addImage_19 rfl (lv_at hl 1 rfl) ?_
      refine zc_cutc (wc := [(a0_4e1, .inr (5, [.int a0_4e1_0, .int a0_4e1_1, .int a0_4e1_2, .int a0_4e1_3, .int a0_4e1_4, .ref a0_4e1_5, .ref a0_4e1_6])), (a1, .inr (5, [.int a1_0, .int a1_1, .int a1_2, .int a1_3, .int a1_4, .ref a1_5, .ref a1_6])), (a1_5, .inl (ka1_5, 9, .inl (fa1_5))), (a0_4e1_5, .inl (ka0_4e1_5, 9, .inl (fa0_4e1_5))), (a1_6, .inl (ka1_6, 9, .inl (fa1_6))), (a0_4e1_6, .inl (ka0_4e1_6, 9, .inl (fa0_4e1_6)))]) hP hD hS hA [8, 3, 4, 9, 6, 10] (by decide +kernel) rfl (fun hPc hDc hFc hCc => ?_)
      have hKc := hK.sub (tys' := [(ka1_5, .int), (ka0_4e1_5, .int), (ka1_6, .int), (ka0_4e1_6, .int)]) [1, 5, 3, 6] rfl
      refine va_callv (va_runV (As := [.ref a1]) (rest := []) ⟨hx, hb, hml, hown, hts⟩ (c_X5_copyFrom l dC dI s.heap.size a0_4e1 a1 a0_4e1_0 a0_4e1_1 a0_4e1_2 a0_4e1_3 a0_4e1_4 a0_4e1_5 a0_4e1_6 a1_0 a1_1 a1_2 a1_3 a1_4 a1_5 a1_6 ka1_5 fa1_5 ka0_4e1_5 fa0_4e1_5 ka1_6 fa1_6 ka0_4e1_6 fa0_4e1_6 ba0_4e1_1_l ba0_4e1_1_u ba1_1_l ba1_1_u) (cwV 1 hts gX1_addImage_X5_copyFrom rfl rfl rfl zd_X5_copyFrom ⟨Nat.le_of_ble_eq_true rfl, Nat.le_of_ble_eq_true rfl⟩) ⟨ax_blind (fun _ _ _ _ _ => trivial), zr_5 hKc hPc (q0 := 0) rfl, ax_pre hPc hKc hDc (fun _ _ => trivial)⟩ rfl rfl hl.1 rfl (lv_room (Nat.le_of_ble_eq_true rfl)) dX1_addImage_20 ⟨Nat.le_of_ble_eq_true rfl, Nat.le_of_ble_eq_true rfl⟩) hS (fun q _ h => hFc q h) hFc (fun u t H locs ht hvm hw => zx_7 (fun v20na0_0 v20na0_1 v20na0_2 v20na0_3 v20na0_4 v20nfa0_5 v20nfa0_6 => zy_1 (fun bv20na0_1 hB hz1 hk1 hS1 => zo hB ht hS1 (fun hP1 hK1 hD1 hS => ?_))))
      refine zc_backc (w := [(a0, .inr (1, [a0g_0, .int 1, a0g_2, a0g_3, .ref a0_4])), (a0_4, .inl (ka0_4, 3, .inr (.inr (.inr (.inr (fun i9 => ([some a0_4e0, some a0_4e1, some a0_4e2] : List (Option Nat)).getD i9 none)))))), (a0_4e0, .inr (5, [.int a0_4e0_0, .int a0_4e0_1, .int a0_4e0_2, .int a0_4e0_3, .int a0_4e0_4, .ref a0_4e0_5, .ref a0_4e0_6])), (a1, .inr (5, [.int a1_0, .int a1_1, .int a1_2, .int a1_3, .int a1_4, .ref a1_5, .ref a1_6])), (a1_5, .inl (ka1_5, 9, .inl (fa1_5))), (a0_4e0_5, .inl (ka0_4e0_5, 9, .inl (fa0_4e0_5))), (a1_6, .inl (ka1_6, 9, .inl (fa1_6))), (a0_4e0_6, .inl (ka0_4e0_6, 9, .inl (fa0_4e0_6))), (a0_4e1, .inr (5, [.int v20na0_0, .int v20na0_1, .int v20na0_2, .int v20na0_3, .int v20na0_4, .ref a0_4e1_5, .ref a0_4e1_6])), (a0_4e1_5, .inl (ka0_4e1_5, 9, .inl (v20nfa0_5))), (a0_4e1_6, .inl (ka0_4e1_6, 9, .inl (v20nfa0_6))), (a0_4e2, .inr (5, [.int a0_4e2_0, .int a0_4e2_1, .int a0_4e2_2, .int a0_4e2_3, .int a0_4e2_4, .ref a0_4e2_5, .ref a0_4e2_6])), (a0_4e2_5, .inl (ka0_4e2_5, 9, .inl (fa0_4e2_5))), (a0_4e2_6, .inl (ka0_4e2_6, 9, .inl (fa0_4e2_6)))]) hP hD hCc hk1 hFc hP1 hD1 [.inl 0, .inl 1, .inl 2, .inr 1, .inr 2, .inl 5, .inr 4, .inl 7, .inr 0, .inr 3, .inr 5, .inl 11, .inl 12, .inl 13] (by decide +kernel) rfl (fun hP hD => ?_)
      refine lv_aload_n hx hb dX1_addImage_23 rfl (lv_at hl 0 rfl) ?_
      refine lv_dup hx hb dX1_addImage_24 rfl ?_
      refine va_get (D := (dC, dI)) (ci := 1) (v := .int 1) (C := RX1) (T := TX1) (N := 5) hx hb hts zi_X1_addImage_1 hown hK hP 0 rfl rfl 1 (by decide) (hts (.fieldLink RX1 25 "WaxTurns$History" "imageCount" "I") (List.mem_cons_of_mem _ (List.mem_append_left _ (List.mem_append_left _ (List.mem_of_getElem? (i := 0) rfl))))) (fun _ h9 => h9) rfl dX1_addImage_25 ?_
      refine lv_iconst (v := 1) hx hb dX1_addImage_28 zk_iconst_1 ?_
      refine lv_iadd hx hb dX1_addImage_29 ?_
      refine ax_ti 2 (by decide +kernel) ?_
      refine va_put (D := (dC, dI)) (ci := 1) (v := .int 2) (ty := .int) (C := RX1) (T := TX1) (N := 5) hx hb hts zi_X1_addImage_1 tyX1 tyX1_ok nmX1 hown hK hP hD hS 0 rfl rfl 1 (by decide) (hts (.fieldLink RX1 25 "WaxTurns$History" "imageCount" "I") (List.mem_cons_of_mem _ (List.mem_append_left _ (List.mem_append_left _ (List.mem_of_getElem? (i := 0) rfl))))) (fun _ h9 => h9) rfl (tyX1_ok 1 (by decide)) rfl rfl (Nat.le_of_ble_eq_true rfl) dX1_addImage_30 (fun H locs hP hD hS => ?_)
      refine zs_0 (y := (a0, .inr (1, [a0g_0, .int 2, a0g_2, a0g_3, .ref a0_4]))) hP hD rfl (fun hP hD => ?_)
      refine lv_aload_n hx hb dX1_addImage_33 rfl (lv_at hl 0 rfl) ?_
      refine va_get (D := (dC, dI)) (ci := 1) (v := .int 2) (C := RX1) (T := TX1) (N := 5) hx hb hts zi_X1_addImage_1 hown hK hP 0 rfl rfl 1 (by decide) (hts (.fieldLink RX1 25 "WaxTurns$History" "imageCount" "I") (List.mem_cons_of_mem _ (List.mem_append_left _ (List.mem_append_left _ (List.mem_of_getElem? (i := 0) rfl))))) (fun _ h9 => h9) rfl dX1_addImage_34 ?_
      refine lv_iconst (v := 1) hx hb dX1_addImage_37 zk_iconst_1 ?_
      refine lv_isub hx hb dX1_addImage_38 ?_
      refine ax_ti 1 (by decide +kernel) ?_
      exact W.iret (v := 1) hx hb hr (fun t ht hW => ⟨⟨1, (), rfl, (Or.inr (Or.inl (rfl))), (fun i9 => ([2, a0_4e0_0, a0_4e0_1, a0_4e0_2, a0_4e0_3, a0_4e0_4, v20na0_0, v20na0_1, v20na0_2, v20na0_3, v20na0_4, a0_4e2_0, a0_4e2_1, a0_4e2_2, a0_4e2_3, a0_4e2_4] : List Int32).getD i9 0), (fun i9 => ([fa0_4e0_5, fa0_4e0_6, v20nfa0_5, v20nfa0_6, fa0_4e2_5, fa0_4e2_6] : List (Nat → Int32)).getD i9 (fun _ => 0)), ⟨Int.le_trans (by decide) zq12, Int.le_trans zq13 (by decide)⟩, ⟨ba0_4e0_1_l, ba0_4e0_1_u⟩, ⟨bv20na0_1.1, bv20na0_1.2⟩, ⟨ba0_4e2_1_l, ba0_4e2_1_u⟩, by rw [ht]; exact hP, va_K.moved hW.alike hK, hD⟩, hS.F ht⟩) hS.2.2 dX1_addImage_39
    · subst hv18
      refine va_aldq hx hb hK hP 1 0 rfl rfl (i := 2) (by unfold vp_in; decide +kernel) dX1_addImage_18 ?_
      refine ax_tv (.ref a0_4e2) rfl ?_
      refine lv_aload_n hx hb dX1_addImage_19 rfl (lv_at hl 1 rfl) ?_
      refine zc_cutc (wc := [(a0_4e2, .inr (5, [.int a0_4e2_0, .int a0_4e2_1, .int a0_4e2_2, .int a0_4e2_3, .int a0_4e2_4, .ref a0_4e2_5, .ref a0_4e2_6])), (a1, .inr (5, [.int a1_0, .int a1_1, .int a1_2, .int a1_3, .int a1_4, .ref a1_5, .ref a1_6])), (a1_5, .inl (ka1_5, 9, .inl (fa1_5))), (a0_4e2_5, .inl (ka0_4e2_5, 9, .inl (fa0_4e2_5))), (a1_6, .inl (ka1_6, 9, .inl (fa1_6))), (a0_4e2_6, .inl (ka0_4e2_6, 9, .inl (fa0_4e2_6)))]) hP hD hS hA [11, 3, 4, 12, 6, 13] (by decide +kernel) rfl (fun hPc hDc hFc hCc => ?_)
      have hKc := hK.sub (tys' := [(ka1_5, .int), (ka0_4e2_5, .int), (ka1_6, .int), (ka0_4e2_6, .int)]) [1, 7, 3, 8] rfl
      refine va_callv (va_runV (As := [.ref a1]) (rest := []) ⟨hx, hb, hml, hown, hts⟩ (c_X5_copyFrom l dC dI s.heap.size a0_4e2 a1 a0_4e2_0 a0_4e2_1 a0_4e2_2 a0_4e2_3 a0_4e2_4 a0_4e2_5 a0_4e2_6 a1_0 a1_1 a1_2 a1_3 a1_4 a1_5 a1_6 ka1_5 fa1_5 ka0_4e2_5 fa0_4e2_5 ka1_6 fa1_6 ka0_4e2_6 fa0_4e2_6 ba0_4e2_1_l ba0_4e2_1_u ba1_1_l ba1_1_u) (cwV 1 hts gX1_addImage_X5_copyFrom rfl rfl rfl zd_X5_copyFrom ⟨Nat.le_of_ble_eq_true rfl, Nat.le_of_ble_eq_true rfl⟩) ⟨ax_blind (fun _ _ _ _ _ => trivial), zr_5 hKc hPc (q0 := 0) rfl, ax_pre hPc hKc hDc (fun _ _ => trivial)⟩ rfl rfl hl.1 rfl (lv_room (Nat.le_of_ble_eq_true rfl)) dX1_addImage_20 ⟨Nat.le_of_ble_eq_true rfl, Nat.le_of_ble_eq_true rfl⟩) hS (fun q _ h => hFc q h) hFc (fun u t H locs ht hvm hw => zx_7 (fun v20na0_0 v20na0_1 v20na0_2 v20na0_3 v20na0_4 v20nfa0_5 v20nfa0_6 => zy_1 (fun bv20na0_1 hB hz1 hk1 hS1 => zo hB ht hS1 (fun hP1 hK1 hD1 hS => ?_))))
      refine zc_backc (w := [(a0, .inr (1, [a0g_0, .int 2, a0g_2, a0g_3, .ref a0_4])), (a0_4, .inl (ka0_4, 3, .inr (.inr (.inr (.inr (fun i9 => ([some a0_4e0, some a0_4e1, some a0_4e2] : List (Option Nat)).getD i9 none)))))), (a0_4e0, .inr (5, [.int a0_4e0_0, .int a0_4e0_1, .int a0_4e0_2, .int a0_4e0_3, .int a0_4e0_4, .ref a0_4e0_5, .ref a0_4e0_6])), (a1, .inr (5, [.int a1_0, .int a1_1, .int a1_2, .int a1_3, .int a1_4, .ref a1_5, .ref a1_6])), (a1_5, .inl (ka1_5, 9, .inl (fa1_5))), (a0_4e0_5, .inl (ka0_4e0_5, 9, .inl (fa0_4e0_5))), (a1_6, .inl (ka1_6, 9, .inl (fa1_6))), (a0_4e0_6, .inl (ka0_4e0_6, 9, .inl (fa0_4e0_6))), (a0_4e1, .inr (5, [.int a0_4e1_0, .int a0_4e1_1, .int a0_4e1_2, .int a0_4e1_3, .int a0_4e1_4, .ref a0_4e1_5, .ref a0_4e1_6])), (a0_4e1_5, .inl (ka0_4e1_5, 9, .inl (fa0_4e1_5))), (a0_4e1_6, .inl (ka0_4e1_6, 9, .inl (fa0_4e1_6))), (a0_4e2, .inr (5, [.int v20na0_0, .int v20na0_1, .int v20na0_2, .int v20na0_3, .int v20na0_4, .ref a0_4e2_5, .ref a0_4e2_6])), (a0_4e2_5, .inl (ka0_4e2_5, 9, .inl (v20nfa0_5))), (a0_4e2_6, .inl (ka0_4e2_6, 9, .inl (v20nfa0_6)))]) hP hD hCc hk1 hFc hP1 hD1 [.inl 0, .inl 1, .inl 2, .inr 1, .inr 2, .inl 5, .inr 4, .inl 7, .inl 8, .inl 9, .inl 10, .inr 0, .inr 3, .inr 5] (by decide +kernel) rfl (fun hP hD => ?_)
      refine lv_aload_n hx hb dX1_addImage_23 rfl (lv_at hl 0 rfl) ?_
      refine lv_dup hx hb dX1_addImage_24 rfl ?_
      refine va_get (D := (dC, dI)) (ci := 1) (v := .int 2) (C := RX1) (T := TX1) (N := 5) hx hb hts zi_X1_addImage_1 hown hK hP 0 rfl rfl 1 (by decide) (hts (.fieldLink RX1 25 "WaxTurns$History" "imageCount" "I") (List.mem_cons_of_mem _ (List.mem_append_left _ (List.mem_append_left _ (List.mem_of_getElem? (i := 0) rfl))))) (fun _ h9 => h9) rfl dX1_addImage_25 ?_
      refine lv_iconst (v := 1) hx hb dX1_addImage_28 zk_iconst_1 ?_
      refine lv_iadd hx hb dX1_addImage_29 ?_
      refine ax_ti 3 (by decide +kernel) ?_
      refine va_put (D := (dC, dI)) (ci := 1) (v := .int 3) (ty := .int) (C := RX1) (T := TX1) (N := 5) hx hb hts zi_X1_addImage_1 tyX1 tyX1_ok nmX1 hown hK hP hD hS 0 rfl rfl 1 (by decide) (hts (.fieldLink RX1 25 "WaxTurns$History" "imageCount" "I") (List.mem_cons_of_mem _ (List.mem_append_left _ (List.mem_append_left _ (List.mem_of_getElem? (i := 0) rfl))))) (fun _ h9 => h9) rfl (tyX1_ok 1 (by decide)) rfl rfl (Nat.le_of_ble_eq_true rfl) dX1_addImage_30 (fun H locs hP hD hS => ?_)
      refine zs_0 (y := (a0, .inr (1, [a0g_0, .int 3, a0g_2, a0g_3, .ref a0_4]))) hP hD rfl (fun hP hD => ?_)
      refine lv_aload_n hx hb dX1_addImage_33 rfl (lv_at hl 0 rfl) ?_
      refine va_get (D := (dC, dI)) (ci := 1) (v := .int 3) (C := RX1) (T := TX1) (N := 5) hx hb hts zi_X1_addImage_1 hown hK hP 0 rfl rfl 1 (by decide) (hts (.fieldLink RX1 25 "WaxTurns$History" "imageCount" "I") (List.mem_cons_of_mem _ (List.mem_append_left _ (List.mem_append_left _ (List.mem_of_getElem? (i := 0) rfl))))) (fun _ h9 => h9) rfl dX1_addImage_34 ?_
      refine lv_iconst (v := 1) hx hb dX1_addImage_37 zk_iconst_1 ?_
      refine lv_isub hx hb dX1_addImage_38 ?_
      refine ax_ti 2 (by decide +kernel) ?_
      exact W.iret (v := 2) hx hb hr (fun t ht hW => ⟨⟨2, (), rfl, (Or.inl (rfl)), (fun i9 => ([3, a0_4e0_0, a0_4e0_1, a0_4e0_2, a0_4e0_3, a0_4e0_4, a0_4e1_0, a0_4e1_1, a0_4e1_2, a0_4e1_3, a0_4e1_4, v20na0_0, v20na0_1, v20na0_2, v20na0_3, v20na0_4] : List Int32).getD i9 0), (fun i9 => ([fa0_4e0_5, fa0_4e0_6, fa0_4e1_5, fa0_4e1_6, v20nfa0_5, v20nfa0_6] : List (Nat → Int32)).getD i9 (fun _ => 0)), ⟨Int.le_trans (by decide) zq8, zq9⟩, ⟨ba0_4e0_1_l, ba0_4e0_1_u⟩, ⟨ba0_4e1_1_l, ba0_4e1_1_u⟩, ⟨bv20na0_1.1, bv20na0_1.2⟩, by rw [ht]; exact hP, va_K.moved hW.alike hK, hD⟩, hS.F ht⟩) hS.2.2 dX1_addImage_39
  · have gc5 := ai_nlt c5
    have l5f_a0_1 : (3 : Int) ≤ a0_1.toInt := Int.le_trans zq8 gc5
    refine lv_iconst (v := (-1)) hx hb dX1_addImage_8 zk_iconst_n1 ?_
    exact W.iret (v := (-1)) hx hb hr (fun t ht hW => ⟨⟨(-1), (), rfl, (Or.inr (Or.inr (Or.inr (rfl)))), (fun i9 => ([a0_1, a0_4e0_0, a0_4e0_1, a0_4e0_2, a0_4e0_3, a0_4e0_4, a0_4e1_0, a0_4e1_1, a0_4e1_2, a0_4e1_3, a0_4e1_4, a0_4e2_0, a0_4e2_1, a0_4e2_2, a0_4e2_3, a0_4e2_4] : List Int32).getD i9 0), (fun i9 => ([fa0_4e0_5, fa0_4e0_6, fa0_4e1_5, fa0_4e1_6, fa0_4e2_5, fa0_4e2_6] : List (Nat → Int32)).getD i9 (fun _ => 0)), ⟨Int.le_trans (by decide) l5f_a0_1, ba0_1_u⟩, ⟨ba0_4e0_1_l, ba0_4e0_1_u⟩, ⟨ba0_4e1_1_l, ba0_4e1_1_u⟩, ⟨ba0_4e2_1_l, ba0_4e2_1_u⟩, by rw [ht]; exact hP, va_K.moved hW.alike hK, hD⟩, hS.F ht⟩) hS.2.2 dX1_addImage_9

set_option maxHeartbeats 4000000 in
set_option maxRecDepth 100000 in
theorem c_X1_goBack (l : Launch) (dC : Nat → ClassId) (dI : Nat → Nat → Nat) (sz : Nat) (a0 : Nat) (a1 : Int32) (a2 : Nat) (a0_0 : Int32) (a0_1 : Int32) (a0g_2 a0g_3 : Value) (a0_4 : Nat) (ka0_4 : ClassId) (a0_4e0 : Nat) (a0_4e1 : Nat) (a0_4e2 : Nat) (a2_0 : Int32) (a2_1 : Int32) (a2_2 : Int32) (a2_3 : Int32) (a2_4 : Int32) (a2_5 : Nat) (a2_6 : Nat) (a0_4e0_0 : Int32) (a0_4e0_1 : Int32) (a0_4e0_2 : Int32) (a0_4e0_3 : Int32) (a0_4e0_4 : Int32) (a0_4e0_5 : Nat) (a0_4e0_6 : Nat) (ka0_4e0_5 : ClassId) (fa0_4e0_5 : Nat → Int32) (ka2_5 : ClassId) (fa2_5 : Nat → Int32) (ka0_4e0_6 : ClassId) (fa0_4e0_6 : Nat → Int32) (ka2_6 : ClassId) (fa2_6 : Nat → Int32) (a0_4e1_0 : Int32) (a0_4e1_1 : Int32) (a0_4e1_2 : Int32) (a0_4e1_3 : Int32) (a0_4e1_4 : Int32) (a0_4e1_5 : Nat) (a0_4e1_6 : Nat) (ka0_4e1_5 : ClassId) (fa0_4e1_5 : Nat → Int32) (ka0_4e1_6 : ClassId) (fa0_4e1_6 : Nat → Int32) (a0_4e2_0 : Int32) (a0_4e2_1 : Int32) (a0_4e2_2 : Int32) (a0_4e2_3 : Int32) (a0_4e2_4 : Int32) (a0_4e2_5 : Nat) (a0_4e2_6 : Nat) (ka0_4e2_5 : ClassId) (fa0_4e2_5 : Nat → Int32) (ka0_4e2_6 : ClassId) (fa0_4e2_6 : Nat → Int32) (ba0_0_l : (0 : Int) ≤ a0_0.toInt) (ba0_0_u : a0_0.toInt ≤ (16 : Int)) (ba0_1_l : (0 : Int) ≤ a0_1.toInt) (ba0_1_u : a0_1.toInt ≤ (3 : Int)) (ba2_1_l : (0 : Int) ≤ a2_1.toInt) (ba2_1_u : a2_1.toInt ≤ (8 : Int)) (ba0_4e0_1_l : (0 : Int) ≤ a0_4e0_1.toInt) (ba0_4e0_1_u : a0_4e0_1.toInt ≤ (8 : Int)) (ba0_4e1_1_l : (0 : Int) ≤ a0_4e1_1.toInt) (ba0_4e1_1_u : a0_4e1_1.toInt ≤ (8 : Int)) (ba0_4e2_1_l : (0 : Int) ≤ a0_4e2_1.toInt) (ba0_4e2_1_u : a0_4e2_1.toInt ≤ (8 : Int)) : zm l yX1_goBack wsX1_goBack ({ frames := 1, cells := 0, slots := 0, locals := 22 }) [.ref a0, .int a1, .ref a2] dC dI sz [(a0, .inr (1, [.int a0_0, .int a0_1, a0g_2, a0g_3, .ref a0_4])), (a0_4, .inl (ka0_4, 3, .inr (.inr (.inr (.inr (fun i9 => ([some a0_4e0, some a0_4e1, some a0_4e2] : List (Option Nat)).getD i9 none)))))), (a2, .inr (5, [.int a2_0, .int a2_1, .int a2_2, .int a2_3, .int a2_4, .ref a2_5, .ref a2_6])), (a0_4e0, .inr (5, [.int a0_4e0_0, .int a0_4e0_1, .int a0_4e0_2, .int a0_4e0_3, .int a0_4e0_4, .ref a0_4e0_5, .ref a0_4e0_6])), (a0_4e0_5, .inl (ka0_4e0_5, 9, .inl (fa0_4e0_5))), (a2_5, .inl (ka2_5, 9, .inl (fa2_5))), (a0_4e0_6, .inl (ka0_4e0_6, 9, .inl (fa0_4e0_6))), (a2_6, .inl (ka2_6, 9, .inl (fa2_6))), (a0_4e1, .inr (5, [.int a0_4e1_0, .int a0_4e1_1, .int a0_4e1_2, .int a0_4e1_3, .int a0_4e1_4, .ref a0_4e1_5, .ref a0_4e1_6])), (a0_4e1_5, .inl (ka0_4e1_5, 9, .inl (fa0_4e1_5))), (a0_4e1_6, .inl (ka0_4e1_6, 9, .inl (fa0_4e1_6))), (a0_4e2, .inr (5, [.int a0_4e2_0, .int a0_4e2_1, .int a0_4e2_2, .int a0_4e2_3, .int a0_4e2_4, .ref a0_4e2_5, .ref a0_4e2_6])), (a0_4e2_5, .inl (ka0_4e2_5, 9, .inl (fa0_4e2_5))), (a0_4e2_6, .inl (ka0_4e2_6, 9, .inl (fa0_4e2_6)))] [(ka0_4, (.object RX5)), (ka0_4e0_5, .int), (ka2_5, .int), (ka0_4e0_6, .int), (ka2_6, .int), (ka0_4e1_5, .int), (ka0_4e1_6, .int), (ka0_4e2_5, .int), (ka0_4e2_6, .int)] (fun A U => va_Nw (.methodLinkNest RX1 41 yX7_within RX7) U) (fun A => va_Qi (fun (r : Int32) (_ : Unit) => (r = 1 ∧ (0 : Int) ≤ a1.toInt ∧ a1.toInt ≤ (2 : Int) ∧ (1 : Int) ≤ a0_1.toInt ∧ a0_1.toInt ≤ (3 : Int)) ∨ (r = 0)) (fun (_ : Unit) (t : State) => ∃ na0_0 : Int32, ∃ na2_0 : Int32, ∃ na2_1 : Int32, ∃ na2_2 : Int32, ∃ na2_3 : Int32, ∃ na2_4 : Int32, ∃ nfa2_5 : Nat → Int32, ∃ nfa2_6 : Nat → Int32, ((0 : Int) ≤ na0_0.toInt ∧ na0_0.toInt ≤ 16) ∧ ((0 : Int) ≤ na2_1.toInt ∧ na2_1.toInt ≤ 8) ∧ ax_B dC dI A [(a0, .inr (1, [.int na0_0, .int a0_1, a0g_2, a0g_3, .ref a0_4])), (a0_4, .inl (ka0_4, 3, .inr (.inr (.inr (.inr (fun i9 => ([some a0_4e0, some a0_4e1, some a0_4e2] : List (Option Nat)).getD i9 none)))))), (a2, .inr (5, [.int na2_0, .int na2_1, .int na2_2, .int na2_3, .int na2_4, .ref a2_5, .ref a2_6])), (a0_4e0, .inr (5, [.int a0_4e0_0, .int a0_4e0_1, .int a0_4e0_2, .int a0_4e0_3, .int a0_4e0_4, .ref a0_4e0_5, .ref a0_4e0_6])), (a0_4e0_5, .inl (ka0_4e0_5, 9, .inl (fa0_4e0_5))), (a2_5, .inl (ka2_5, 9, .inl (nfa2_5))), (a0_4e0_6, .inl (ka0_4e0_6, 9, .inl (fa0_4e0_6))), (a2_6, .inl (ka2_6, 9, .inl (nfa2_6))), (a0_4e1, .inr (5, [.int a0_4e1_0, .int a0_4e1_1, .int a0_4e1_2, .int a0_4e1_3, .int a0_4e1_4, .ref a0_4e1_5, .ref a0_4e1_6])), (a0_4e1_5, .inl (ka0_4e1_5, 9, .inl (fa0_4e1_5))), (a0_4e1_6, .inl (ka0_4e1_6, 9, .inl (fa0_4e1_6))), (a0_4e2, .inr (5, [.int a0_4e2_0, .int a0_4e2_1, .int a0_4e2_2, .int a0_4e2_3, .int a0_4e2_4, .ref a0_4e2_5, .ref a0_4e2_6])), (a0_4e2_5, .inl (ka0_4e2_5, 9, .inl (fa0_4e2_5))), (a0_4e2_6, .inl (ka0_4e2_6, 9, .inl (fa0_4e2_6)))] [(ka0_4, (.object RX5)), (ka0_4e0_5, .int), (ka2_5, .int), (ka0_4e0_6, .int), (ka2_6, .int), (ka0_4e1_5, .int), (ka0_4e1_6, .int), (ka0_4e2_5, .int), (ka0_4e2_6, .int)] t) A) := by
  refine zh (cc := cX1_goBack) (maxL := 3) (ret := (some .boolean)) zn_RX1 rfl (Nat.le_of_ble_eq_true rfl) (fun p e s m below meth c A ls hx hb hml hr hts (hown : s.vm.findClass RX1 = some m.cls) hlocks hA hS hP hK hD hE (hl : lv_has ls 3 [(0, .ref a0), (1, .int a1), (2, .ref a2)]) => ?_)
  have hE0 := hE
  refine lv_iload_n hx hb dX1_goBack_0 rfl (lv_at hl 1 rfl) ?_
  refine lv_iconst (v := 0) hx hb dX1_goBack_1 zk_iconst_0 ?_
  refine lv_aload_n hx hb dX1_goBack_2 rfl (lv_at hl 0 rfl) ?_
  refine va_get (D := (dC, dI)) (ci := 1) (v := .int a0_1) (C := RX1) (T := TX1) (N := 5) hx hb hts zi_X1_goBack_1 hown hK hP 0 rfl rfl 1 (by decide) (hts (.fieldLink RX1 25 "WaxTurns$History" "imageCount" "I") (List.mem_cons_of_mem _ (List.mem_append_left _ (List.mem_append_left _ (List.mem_of_getElem? (i := 0) rfl))))) (fun _ h9 => h9) rfl dX1_goBack_3 ?_
  refine lv_iconst (v := 1) hx hb dX1_goBack_6 zk_iconst_1 ?_
  refine lv_isub hx hb dX1_goBack_7 ?_
  refine lv_topi (fun x7 ex7 => ?_)
  have qx7 : x7.toInt = a0_1.toInt - (1 : Int32).toInt := ai_sub ex7 ⟨ba0_1_l, ba0_1_u⟩ ⟨zq1, zq0⟩ (by decide) (by decide)
  have bx7 : (-1 : Int) ≤ x7.toInt ∧ x7.toInt ≤ 2 := ⟨by rw [qx7]; exact Int.sub_le_sub ba0_1_l zq0, by rw [qx7]; exact Int.sub_le_sub ba0_1_u zq1⟩
  have wx7 : x7.toInt = a0_1.toInt - 1 := qx7
  refine va_calli (va_runSN (As := [.int a1, .int 0, .int x7]) (rest := []) ⟨hx, hb, hml, hown, hts⟩ (c_X7_within l dC dI s.heap.size a1 0 x7 ) ⟨va_cnB 3 hts gX1_goBack_X7_within_n41 rfl rfl rfl hE0 (hts (.initialized RX7) (List.mem_cons_of_mem _ (List.mem_append_left _ (List.mem_append_left _ (List.mem_of_getElem? (i := 4) rfl))))) zd_X7_within.2 ⟨Nat.le_of_ble_eq_true rfl, Nat.le_of_ble_eq_true rfl⟩, (hts (.static yX7_within) (List.mem_cons_of_mem _ (List.mem_append_left _ (List.mem_append_left _ (List.mem_of_getElem? (i := 3) rfl))))), trivial⟩ ⟨ax_blind (fun _ _ _ _ _ => trivial), ax_pre (zp_P0 hP) (zp_K hK) (zp_D0 hD) (fun _ _ => trivial)⟩ rfl rfl hl.1 rfl (lv_room (Nat.le_of_ble_eq_true rfl)) dX1_goBack_8 ⟨Nat.le_of_ble_eq_true rfl, Nat.le_of_ble_eq_true rfl⟩) hS (fun q _ h => zp_F0 hD hS hA q h) (zp_F0 hD hS hA) (fun r8 u t H locs ht hvm hw hB hz1 hk1 hS1 => zo0 hB ht hP hD hk1 (zp_F0 hD hS hA) hS1 (fun hP hK1 hD hS => ?_))
  rcases hw with hw | hw
  · obtain ⟨hw, h8⟩ := hw
    subst hw
    have l8k0_a1 : (0 : Int) ≤ a1.toInt := Int.le_trans zq5 h8.1
    have u8k0_a1 : a1.toInt ≤ (2 : Int) := Int.le_trans h8.2 bx7.2
    have l8k0_x7 : (0 : Int) ≤ x7.toInt := Int.le_trans zq5 (Int.le_trans h8.1 h8.2)
    have l8k0_a0_1 : (1 : Int) ≤ a0_1.toInt := by have h1 := wx7; have h2 := l8k0_x7; omega
    refine lv_if_ne (tgt := 16) hx hb dX1_goBack_11 (by decide) (fun _ => ?_) (fun c11 => absurd c11 (by decide +kernel))
    refine lv_aload_n hx hb dX1_goBack_16 rfl (lv_at hl 2 rfl) ?_
    refine lv_aload_n hx hb dX1_goBack_17 rfl (lv_at hl 0 rfl) ?_
    refine va_get (D := (dC, dI)) (ci := 1) (v := .ref a0_4) (C := RX1) (T := TX1) (N := 5) hx hb hts zi_X1_goBack_1 hown hK hP 0 rfl rfl 4 (by decide) (hts (.fieldLink RX1 18 "WaxTurns$History" "images" "[LWaxTurns$Scene;") (List.mem_cons_of_mem _ (List.mem_append_left _ (List.mem_append_left _ (List.mem_of_getElem? (i := 1) rfl))))) (fun _ h9 => h9) rfl dX1_goBack_18 ?_
    refine lv_iload_n hx hb dX1_goBack_21 rfl (lv_at hl 1 rfl) ?_
    have hv22 : a1 = 0 ∨ a1 = 1 ∨ a1 = 2 := by
      have h1 : (0 : Int) ≤ a1.toInt := l8k0_a1
      have h2 : a1.toInt ≤ (2 : Int) := u8k0_a1
      rcases (show a1.toInt = 0 ∨ a1.toInt = 1 ∨ a1.toInt = 2 by omega) with h | h | h
      · exact Or.inl (Int32.toInt_inj.mp (h.trans (by decide)))
      · exact Or.inr (Or.inl (Int32.toInt_inj.mp (h.trans (by decide))))
      · exact Or.inr (Or.inr (Int32.toInt_inj.mp (h.trans (by decide))))
    rcases hv22 with hv22 | hv22 | hv22
    · subst hv22
      refine va_aldq hx hb hK hP 1 0 rfl rfl (i := 0) (by unfold vp_in; decide +kernel) dX1_goBack_22 ?_
      refine ax_tv (.ref a0_4e0) rfl ?_
      refine zc_cutc (wc := [(a2, .inr (5, [.int a2_0, .int a2_1, .int a2_2, .int a2_3, .int a2_4, .ref a2_5, .ref a2_6])), (a0_4e0, .inr (5, [.int a0_4e0_0, .int a0_4e0_1, .int a0_4e0_2, .int a0_4e0_3, .int a0_4e0_4, .ref a0_4e0_5, .ref a0_4e0_6])), (a0_4e0_5, .inl (ka0_4e0_5, 9, .inl (fa0_4e0_5))), (a2_5, .inl (ka2_5, 9, .inl (fa2_5))), (a0_4e0_6, .inl (ka0_4e0_6, 9, .inl (fa0_4e0_6))), (a2_6, .inl (ka2_6, 9, .inl (fa2_6)))]) hP hD hS hA [2, 3, 4, 5, 6, 7] (by decide +kernel) rfl (fun hPc hDc hFc hCc => ?_)
      have hKc := hK.sub (tys' := [(ka0_4e0_5, .int), (ka2_5, .int), (ka0_4e0_6, .int), (ka2_6, .int)]) [1, 2, 3, 4] rfl
      refine va_callv (va_runV (As := [.ref a0_4e0]) (rest := []) ⟨hx, hb, hml, hown, hts⟩ (c_X5_copyFrom l dC dI H.size a2 a0_4e0 a2_0 a2_1 a2_2 a2_3 a2_4 a2_5 a2_6 a0_4e0_0 a0_4e0_1 a0_4e0_2 a0_4e0_3 a0_4e0_4 a0_4e0_5 a0_4e0_6 ka0_4e0_5 fa0_4e0_5 ka2_5 fa2_5 ka0_4e0_6 fa0_4e0_6 ka2_6 fa2_6 ba2_1_l ba2_1_u ba0_4e0_1_l ba0_4e0_1_u) (cwV 1 hts gX1_goBack_X5_copyFrom rfl rfl rfl zd_X5_copyFrom ⟨Nat.le_of_ble_eq_true rfl, Nat.le_of_ble_eq_true rfl⟩) ⟨ax_blind (fun _ _ _ _ _ => trivial), zr_5 hKc hPc (q0 := 0) rfl, ax_pre hPc hKc hDc (fun _ _ => trivial)⟩ rfl rfl hl.1 rfl (lv_room (Nat.le_of_ble_eq_true rfl)) dX1_goBack_23 ⟨Nat.le_of_ble_eq_true rfl, Nat.le_of_ble_eq_true rfl⟩) hS (fun q _ h => hFc q h) hFc (fun u t H locs ht hvm hw => zx_7 (fun v23na0_0 v23na0_1 v23na0_2 v23na0_3 v23na0_4 v23nfa0_5 v23nfa0_6 => zy_1 (fun bv23na0_1 hB hz1 hk1 hS1 => zo hB ht hS1 (fun hP1 hK1 hD1 hS => ?_))))
      refine zc_backc (w := [(a0, .inr (1, [.int a0_0, .int a0_1, a0g_2, a0g_3, .ref a0_4])), (a0_4, .inl (ka0_4, 3, .inr (.inr (.inr (.inr (fun i9 => ([some a0_4e0, some a0_4e1, some a0_4e2] : List (Option Nat)).getD i9 none)))))), (a2, .inr (5, [.int v23na0_0, .int v23na0_1, .int v23na0_2, .int v23na0_3, .int v23na0_4, .ref a2_5, .ref a2_6])), (a0_4e0, .inr (5, [.int a0_4e0_0, .int a0_4e0_1, .int a0_4e0_2, .int a0_4e0_3, .int a0_4e0_4, .ref a0_4e0_5, .ref a0_4e0_6])), (a0_4e0_5, .inl (ka0_4e0_5, 9, .inl (fa0_4e0_5))), (a2_5, .inl (ka2_5, 9, .inl (v23nfa0_5))), (a0_4e0_6, .inl (ka0_4e0_6, 9, .inl (fa0_4e0_6))), (a2_6, .inl (ka2_6, 9, .inl (v23nfa0_6))), (a0_4e1, .inr (5, [.int a0_4e1_0, .int a0_4e1_1, .int a0_4e1_2, .int a0_4e1_3, .int a0_4e1_4, .ref a0_4e1_5, .ref a0_4e1_6])), (a0_4e1_5, .inl (ka0_4e1_5, 9, .inl (fa0_4e1_5))), (a0_4e1_6, .inl (ka0_4e1_6, 9, .inl (fa0_4e1_6))), (a0_4e2, .inr (5, [.int a0_4e2_0, .int a0_4e2_1, .int a0_4e2_2, .int a0_4e2_3, .int a0_4e2_4, .ref a0_4e2_5, .ref a0_4e2_6])), (a0_4e2_5, .inl (ka0_4e2_5, 9, .inl (fa0_4e2_5))), (a0_4e2_6, .inl (ka0_4e2_6, 9, .inl (fa0_4e2_6)))]) hP hD hCc hk1 hFc hP1 hD1 [.inl 0, .inl 1, .inr 0, .inr 1, .inr 2, .inr 3, .inr 4, .inr 5, .inl 8, .inl 9, .inl 10, .inl 11, .inl 12, .inl 13] (by decide +kernel) rfl (fun hP hD => ?_)
      refine lv_aload_n hx hb dX1_goBack_26 rfl (lv_at hl 0 rfl) ?_
      refine lv_iconst (v := 0) hx hb dX1_goBack_27 zk_iconst_0 ?_
      refine va_put (D := (dC, dI)) (ci := 1) (v := .int 0) (ty := .int) (C := RX1) (T := TX1) (N := 5) hx hb hts zi_X1_goBack_1 tyX1 tyX1_ok nmX1 hown hK hP hD hS 0 rfl rfl 0 (by decide) (hts (.fieldLink RX1 21 "WaxTurns$History" "keptCount" "I") (List.mem_cons_of_mem _ (List.mem_append_left _ (List.mem_append_left _ (List.mem_of_getElem? (i := 2) rfl))))) (fun _ h9 => h9) rfl (tyX1_ok 0 (by decide)) rfl rfl (Nat.le_of_ble_eq_true rfl) dX1_goBack_28 (fun H locs hP hD hS => ?_)
      refine zs_0 (y := (a0, .inr (1, [.int 0, .int a0_1, a0g_2, a0g_3, .ref a0_4]))) hP hD rfl (fun hP hD => ?_)
      refine lv_iconst (v := 1) hx hb dX1_goBack_31 zk_iconst_1 ?_
      exact W.zret (v := 1) hx hb hr rfl (fun t ht hW => ⟨⟨1, (), rfl, (Or.inl ⟨rfl, l8k0_a1, u8k0_a1, l8k0_a0_1, ba0_1_u⟩), 0, v23na0_0, v23na0_1, v23na0_2, v23na0_3, v23na0_4, v23nfa0_5, v23nfa0_6, ⟨zq5, Int.le_trans zq6 (by decide)⟩, ⟨bv23na0_1.1, bv23na0_1.2⟩, by rw [ht]; exact hP, va_K.moved hW.alike hK, hD⟩, hS.F ht⟩) hS.2.2 dX1_goBack_32
    · subst hv22
      refine va_aldq hx hb hK hP 1 0 rfl rfl (i := 1) (by unfold vp_in; decide +kernel) dX1_goBack_22 ?_
      refine ax_tv (.ref a0_4e1) rfl ?_
      refine zc_cutc (wc := [(a2, .inr (5, [.int a2_0, .int a2_1, .int a2_2, .int a2_3, .int a2_4, .ref a2_5, .ref a2_6])), (a0_4e1, .inr (5, [.int a0_4e1_0, .int a0_4e1_1, .int a0_4e1_2, .int a0_4e1_3, .int a0_4e1_4, .ref a0_4e1_5, .ref a0_4e1_6])), (a0_4e1_5, .inl (ka0_4e1_5, 9, .inl (fa0_4e1_5))), (a2_5, .inl (ka2_5, 9, .inl (fa2_5))), (a0_4e1_6, .inl (ka0_4e1_6, 9, .inl (fa0_4e1_6))), (a2_6, .inl (ka2_6, 9, .inl (fa2_6)))]) hP hD hS hA [2, 8, 9, 5, 10, 7] (by decide +kernel) rfl (fun hPc hDc hFc hCc => ?_)
      have hKc := hK.sub (tys' := [(ka0_4e1_5, .int), (ka2_5, .int), (ka0_4e1_6, .int), (ka2_6, .int)]) [5, 2, 6, 4] rfl
      refine va_callv (va_runV (As := [.ref a0_4e1]) (rest := []) ⟨hx, hb, hml, hown, hts⟩ (c_X5_copyFrom l dC dI H.size a2 a0_4e1 a2_0 a2_1 a2_2 a2_3 a2_4 a2_5 a2_6 a0_4e1_0 a0_4e1_1 a0_4e1_2 a0_4e1_3 a0_4e1_4 a0_4e1_5 a0_4e1_6 ka0_4e1_5 fa0_4e1_5 ka2_5 fa2_5 ka0_4e1_6 fa0_4e1_6 ka2_6 fa2_6 ba2_1_l ba2_1_u ba0_4e1_1_l ba0_4e1_1_u) (cwV 1 hts gX1_goBack_X5_copyFrom rfl rfl rfl zd_X5_copyFrom ⟨Nat.le_of_ble_eq_true rfl, Nat.le_of_ble_eq_true rfl⟩) ⟨ax_blind (fun _ _ _ _ _ => trivial), zr_5 hKc hPc (q0 := 0) rfl, ax_pre hPc hKc hDc (fun _ _ => trivial)⟩ rfl rfl hl.1 rfl (lv_room (Nat.le_of_ble_eq_true rfl)) dX1_goBack_23 ⟨Nat.le_of_ble_eq_true rfl, Nat.le_of_ble_eq_true rfl⟩) hS (fun q _ h => hFc q h) hFc (fun u t H locs ht hvm hw => zx_7 (fun v23na0_0 v23na0_1 v23na0_2 v23na0_3 v23na0_4 v23nfa0_5 v23nfa0_6 => zy_1 (fun bv23na0_1 hB hz1 hk1 hS1 => zo hB ht hS1 (fun hP1 hK1 hD1 hS => ?_))))
      refine zc_backc (w := [(a0, .inr (1, [.int a0_0, .int a0_1, a0g_2, a0g_3, .ref a0_4])), (a0_4, .inl (ka0_4, 3, .inr (.inr (.inr (.inr (fun i9 => ([some a0_4e0, some a0_4e1, some a0_4e2] : List (Option Nat)).getD i9 none)))))), (a2, .inr (5, [.int v23na0_0, .int v23na0_1, .int v23na0_2, .int v23na0_3, .int v23na0_4, .ref a2_5, .ref a2_6])), (a0_4e0, .inr (5, [.int a0_4e0_0, .int a0_4e0_1, .int a0_4e0_2, .int a0_4e0_3, .int a0_4e0_4, .ref a0_4e0_5, .ref a0_4e0_6])), (a0_4e0_5, .inl (ka0_4e0_5, 9, .inl (fa0_4e0_5))), (a2_5, .inl (ka2_5, 9, .inl (v23nfa0_5))), (a0_4e0_6, .inl (ka0_4e0_6, 9, .inl (fa0_4e0_6))), (a2_6, .inl (ka2_6, 9, .inl (v23nfa0_6))), (a0_4e1, .inr (5, [.int a0_4e1_0, .int a0_4e1_1, .int a0_4e1_2, .int a0_4e1_3, .int a0_4e1_4, .ref a0_4e1_5, .ref a0_4e1_6])), (a0_4e1_5, .inl (ka0_4e1_5, 9, .inl (fa0_4e1_5))), (a0_4e1_6, .inl (ka0_4e1_6, 9, .inl (fa0_4e1_6))), (a0_4e2, .inr (5, [.int a0_4e2_0, .int a0_4e2_1, .int a0_4e2_2, .int a0_4e2_3, .int a0_4e2_4, .ref a0_4e2_5, .ref a0_4e2_6])), (a0_4e2_5, .inl (ka0_4e2_5, 9, .inl (fa0_4e2_5))), (a0_4e2_6, .inl (ka0_4e2_6, 9, .inl (fa0_4e2_6)))]) hP hD hCc hk1 hFc hP1 hD1 [.inl 0, .inl 1, .inr 0, .inl 3, .inl 4, .inr 3, .inl 6, .inr 5, .inr 1, .inr 2, .inr 4, .inl 11, .inl 12, .inl 13] (by decide +kernel) rfl (fun hP hD => ?_)
      refine lv_aload_n hx hb dX1_goBack_26 rfl (lv_at hl 0 rfl) ?_
      refine lv_iconst (v := 0) hx hb dX1_goBack_27 zk_iconst_0 ?_
      refine va_put (D := (dC, dI)) (ci := 1) (v := .int 0) (ty := .int) (C := RX1) (T := TX1) (N := 5) hx hb hts zi_X1_goBack_1 tyX1 tyX1_ok nmX1 hown hK hP hD hS 0 rfl rfl 0 (by decide) (hts (.fieldLink RX1 21 "WaxTurns$History" "keptCount" "I") (List.mem_cons_of_mem _ (List.mem_append_left _ (List.mem_append_left _ (List.mem_of_getElem? (i := 2) rfl))))) (fun _ h9 => h9) rfl (tyX1_ok 0 (by decide)) rfl rfl (Nat.le_of_ble_eq_true rfl) dX1_goBack_28 (fun H locs hP hD hS => ?_)
      refine zs_0 (y := (a0, .inr (1, [.int 0, .int a0_1, a0g_2, a0g_3, .ref a0_4]))) hP hD rfl (fun hP hD => ?_)
      refine lv_iconst (v := 1) hx hb dX1_goBack_31 zk_iconst_1 ?_
      exact W.zret (v := 1) hx hb hr rfl (fun t ht hW => ⟨⟨1, (), rfl, (Or.inl ⟨rfl, l8k0_a1, u8k0_a1, l8k0_a0_1, ba0_1_u⟩), 0, v23na0_0, v23na0_1, v23na0_2, v23na0_3, v23na0_4, v23nfa0_5, v23nfa0_6, ⟨zq5, Int.le_trans zq6 (by decide)⟩, ⟨bv23na0_1.1, bv23na0_1.2⟩, by rw [ht]; exact hP, va_K.moved hW.alike hK, hD⟩, hS.F ht⟩) hS.2.2 dX1_goBack_32
    · subst hv22
      refine va_aldq hx hb hK hP 1 0 rfl rfl (i := 2) (by unfold vp_in; decide +kernel) dX1_goBack_22 ?_
      refine ax_tv (.ref a0_4e2) rfl ?_
      refine zc_cutc (wc := [(a2, .inr (5, [.int a2_0, .int a2_1, .int a2_2, .int a2_3, .int a2_4, .ref a2_5, .ref a2_6])), (a0_4e2, .inr (5, [.int a0_4e2_0, .int a0_4e2_1, .int a0_4e2_2, .int a0_4e2_3, .int a0_4e2_4, .ref a0_4e2_5, .ref a0_4e2_6])), (a0_4e2_5, .inl (ka0_4e2_5, 9, .inl (fa0_4e2_5))), (a2_5, .inl (ka2_5, 9, .inl (fa2_5))), (a0_4e2_6, .inl (ka0_4e2_6, 9, .inl (fa0_4e2_6))), (a2_6, .inl (ka2_6, 9, .inl (fa2_6)))]) hP hD hS hA [2, 11, 12, 5, 13, 7] (by decide +kernel) rfl (fun hPc hDc hFc hCc => ?_)
      have hKc := hK.sub (tys' := [(ka0_4e2_5, .int), (ka2_5, .int), (ka0_4e2_6, .int), (ka2_6, .int)]) [7, 2, 8, 4] rfl
      refine va_callv (va_runV (As := [.ref a0_4e2]) (rest := []) ⟨hx, hb, hml, hown, hts⟩ (c_X5_copyFrom l dC dI H.size a2 a0_4e2 a2_0 a2_1 a2_2 a2_3 a2_4 a2_5 a2_6 a0_4e2_0 a0_4e2_1 a0_4e2_2 a0_4e2_3 a0_4e2_4 a0_4e2_5 a0_4e2_6 ka0_4e2_5 fa0_4e2_5 ka2_5 fa2_5 ka0_4e2_6 fa0_4e2_6 ka2_6 fa2_6 ba2_1_l ba2_1_u ba0_4e2_1_l ba0_4e2_1_u) (cwV 1 hts gX1_goBack_X5_copyFrom rfl rfl rfl zd_X5_copyFrom ⟨Nat.le_of_ble_eq_true rfl, Nat.le_of_ble_eq_true rfl⟩) ⟨ax_blind (fun _ _ _ _ _ => trivial), zr_5 hKc hPc (q0 := 0) rfl, ax_pre hPc hKc hDc (fun _ _ => trivial)⟩ rfl rfl hl.1 rfl (lv_room (Nat.le_of_ble_eq_true rfl)) dX1_goBack_23 ⟨Nat.le_of_ble_eq_true rfl, Nat.le_of_ble_eq_true rfl⟩) hS (fun q _ h => hFc q h) hFc (fun u t H locs ht hvm hw => zx_7 (fun v23na0_0 v23na0_1 v23na0_2 v23na0_3 v23na0_4 v23nfa0_5 v23nfa0_6 => zy_1 (fun bv23na0_1 hB hz1 hk1 hS1 => zo hB ht hS1 (fun hP1 hK1 hD1 hS => ?_))))
      refine zc_backc (w := [(a0, .inr (1, [.int a0_0, .int a0_1, a0g_2, a0g_3, .ref a0_4])), (a0_4, .inl (ka0_4, 3, .inr (.inr (.inr (.inr (fun i9 => ([some a0_4e0, some a0_4e1, some a0_4e2] : List (Option Nat)).getD i9 none)))))), (a2, .inr (5, [.int v23na0_0, .int v23na0_1, .int v23na0_2, .int v23na0_3, .int v23na0_4, .ref a2_5, .ref a2_6])), (a0_4e0, .inr (5, [.int a0_4e0_0, .int a0_4e0_1, .int a0_4e0_2, .int a0_4e0_3, .int a0_4e0_4, .ref a0_4e0_5, .ref a0_4e0_6])), (a0_4e0_5, .inl (ka0_4e0_5, 9, .inl (fa0_4e0_5))), (a2_5, .inl (ka2_5, 9, .inl (v23nfa0_5))), (a0_4e0_6, .inl (ka0_4e0_6, 9, .inl (fa0_4e0_6))), (a2_6, .inl (ka2_6, 9, .inl (v23nfa0_6))), (a0_4e1, .inr (5, [.int a0_4e1_0, .int a0_4e1_1, .int a0_4e1_2, .int a0_4e1_3, .int a0_4e1_4, .ref a0_4e1_5, .ref a0_4e1_6])), (a0_4e1_5, .inl (ka0_4e1_5, 9, .inl (fa0_4e1_5))), (a0_4e1_6, .inl (ka0_4e1_6, 9, .inl (fa0_4e1_6))), (a0_4e2, .inr (5, [.int a0_4e2_0, .int a0_4e2_1, .int a0_4e2_2, .int a0_4e2_3, .int a0_4e2_4, .ref a0_4e2_5, .ref a0_4e2_6])), (a0_4e2_5, .inl (ka0_4e2_5, 9, .inl (fa0_4e2_5))), (a0_4e2_6, .inl (ka0_4e2_6, 9, .inl (fa0_4e2_6)))]) hP hD hCc hk1 hFc hP1 hD1 [.inl 0, .inl 1, .inr 0, .inl 3, .inl 4, .inr 3, .inl 6, .inr 5, .inl 8, .inl 9, .inl 10, .inr 1, .inr 2, .inr 4] (by decide +kernel) rfl (fun hP hD => ?_)
      refine lv_aload_n hx hb dX1_goBack_26 rfl (lv_at hl 0 rfl) ?_
      refine lv_iconst (v := 0) hx hb dX1_goBack_27 zk_iconst_0 ?_
      refine va_put (D := (dC, dI)) (ci := 1) (v := .int 0) (ty := .int) (C := RX1) (T := TX1) (N := 5) hx hb hts zi_X1_goBack_1 tyX1 tyX1_ok nmX1 hown hK hP hD hS 0 rfl rfl 0 (by decide) (hts (.fieldLink RX1 21 "WaxTurns$History" "keptCount" "I") (List.mem_cons_of_mem _ (List.mem_append_left _ (List.mem_append_left _ (List.mem_of_getElem? (i := 2) rfl))))) (fun _ h9 => h9) rfl (tyX1_ok 0 (by decide)) rfl rfl (Nat.le_of_ble_eq_true rfl) dX1_goBack_28 (fun H locs hP hD hS => ?_)
      refine zs_0 (y := (a0, .inr (1, [.int 0, .int a0_1, a0g_2, a0g_3, .ref a0_4]))) hP hD rfl (fun hP hD => ?_)
      refine lv_iconst (v := 1) hx hb dX1_goBack_31 zk_iconst_1 ?_
      exact W.zret (v := 1) hx hb hr rfl (fun t ht hW => ⟨⟨1, (), rfl, (Or.inl ⟨rfl, l8k0_a1, u8k0_a1, l8k0_a0_1, ba0_1_u⟩), 0, v23na0_0, v23na0_1, v23na0_2, v23na0_3, v23na0_4, v23nfa0_5, v23nfa0_6, ⟨zq5, Int.le_trans zq6 (by decide)⟩, ⟨bv23na0_1.1, bv23na0_1.2⟩, by rw [ht]; exact hP, va_K.moved hW.alike hK, hD⟩, hS.F ht⟩) hS.2.2 dX1_goBack_32
  · obtain ⟨hw, h8⟩ := hw
    subst hw
    refine lv_if_ne (tgt := 16) hx hb dX1_goBack_11 (by decide) (fun c11 => absurd (by decide +kernel) c11) (fun _ => ?_)
    refine lv_iconst (v := 0) hx hb dX1_goBack_14 zk_iconst_0 ?_
    exact W.zret (v := 0) hx hb hr rfl (fun t ht hW => ⟨⟨0, (), rfl, (Or.inr (rfl)), a0_0, a2_0, a2_1, a2_2, a2_3, a2_4, fa2_5, fa2_6, ⟨ba0_0_l, ba0_0_u⟩, ⟨ba2_1_l, ba2_1_u⟩, by rw [ht]; exact hP, va_K.moved hW.alike hK, hD⟩, hS.F ht⟩) hS.2.2 dX1_goBack_15

set_option maxHeartbeats 4000000 in
set_option maxRecDepth 100000 in
set_option maxHeartbeats 4000000 in
set_option maxRecDepth 100000 in
theorem c_X7_go (l : Launch) (dC : Nat → ClassId) (dI : Nat → Nat → Nat) (sz : Nat) (a0 : Nat) (a1 : Int32) (a0g_0 a0g_2 a0g_3 a0g_5 a0g_6 a0g_9 a0g_10 : Value) (a0_1 : Nat) (a0_4 : Nat) (a0_7 : Nat) (a0_8 : Int32) (a0_7_0 : Int32) (a0_7_1 : Int32) (a0_7_2 : Int32) (a0_7g_3 a0_7g_4 a0_7g_7 a0_7g_8 a0_7g_9 a0_7g_12 a0_7g_13 : Value) (a0_7_5 : Int32) (a0_7_6 : Int32) (a0_7_10 : Nat) (a0_7_11 : Nat) (a0_7_14 : Nat) (a0_1_0 : Int32) (a0_1_1 : Int32) (a0_1_2 : Int32) (a0_1_3 : Int32) (a0_1_4 : Int32) (a0_1_5 : Nat) (a0_1_6 : Nat) (a0_4_0 : Int32) (a0_4g_1 a0_4g_4 : Value) (a0_4_2 : Int32) (a0_4_3 : Nat) (ka0_4_3 : ClassId) (a0_4_3e0 : Nat) (a0_4_3e1 : Nat) (a0_4_3e2 : Nat) (a0_4_3e3 : Nat) (a0_4_3e4 : Nat) (a0_4_3e5 : Nat) (a0_4_3e6 : Nat) (a0_4_3e7 : Nat) (a0_4_3e8 : Nat) (a0_4_3e9 : Nat) (a0_4_3e10 : Nat) (a0_4_3e11 : Nat) (a0_4_3e12 : Nat) (a0_4_3e13 : Nat) (a0_4_3e14 : Nat) (a0_4_3e15 : Nat) (a0_4_3e0_0 : Int32) (a0_4_3e0_1 : Int32) (a0_4_3e0_2 : Int32) (a0_4_3e0_3 : Int32) (a0_4_3e0_4 : Int32) (a0_4_3e0_5 : Nat) (a0_4_3e0_6 : Nat) (ka0_1_5 : ClassId) (fa0_1_5 : Nat → Int32) (ka0_4_3e0_5 : ClassId) (fa0_4_3e0_5 : Nat → Int32) (ka0_1_6 : ClassId) (fa0_1_6 : Nat → Int32) (ka0_4_3e0_6 : ClassId) (fa0_4_3e0_6 : Nat → Int32) (a0_4_3e1_0 : Int32) (a0_4_3e1_1 : Int32) (a0_4_3e1_2 : Int32) (a0_4_3e1_3 : Int32) (a0_4_3e1_4 : Int32) (a0_4_3e1_5 : Nat) (a0_4_3e1_6 : Nat) (ka0_4_3e1_5 : ClassId) (fa0_4_3e1_5 : Nat → Int32) (ka0_4_3e1_6 : ClassId) (fa0_4_3e1_6 : Nat → Int32) (a0_4_3e2_0 : Int32) (a0_4_3e2_1 : Int32) (a0_4_3e2_2 : Int32) (a0_4_3e2_3 : Int32) (a0_4_3e2_4 : Int32) (a0_4_3e2_5 : Nat) (a0_4_3e2_6 : Nat) (ka0_4_3e2_5 : ClassId) (fa0_4_3e2_5 : Nat → Int32) (ka0_4_3e2_6 : ClassId) (fa0_4_3e2_6 : Nat → Int32) (a0_4_3e3_0 : Int32) (a0_4_3e3_1 : Int32) (a0_4_3e3_2 : Int32) (a0_4_3e3_3 : Int32) (a0_4_3e3_4 : Int32) (a0_4_3e3_5 : Nat) (a0_4_3e3_6 : Nat) (ka0_4_3e3_5 : ClassId) (fa0_4_3e3_5 : Nat → Int32) (ka0_4_3e3_6 : ClassId) (fa0_4_3e3_6 : Nat → Int32) (a0_4_3e4_0 : Int32) (a0_4_3e4_1 : Int32) (a0_4_3e4_2 : Int32) (a0_4_3e4_3 : Int32) (a0_4_3e4_4 : Int32) (a0_4_3e4_5 : Nat) (a0_4_3e4_6 : Nat) (ka0_4_3e4_5 : ClassId) (fa0_4_3e4_5 : Nat → Int32) (ka0_4_3e4_6 : ClassId) (fa0_4_3e4_6 : Nat → Int32) (a0_4_3e5_0 : Int32) (a0_4_3e5_1 : Int32) (a0_4_3e5_2 : Int32) (a0_4_3e5_3 : Int32) (a0_4_3e5_4 : Int32) (a0_4_3e5_5 : Nat) (a0_4_3e5_6 : Nat) (ka0_4_3e5_5 : ClassId) (fa0_4_3e5_5 : Nat → Int32) (ka0_4_3e5_6 : ClassId) (fa0_4_3e5_6 : Nat → Int32) (a0_4_3e6_0 : Int32) (a0_4_3e6_1 : Int32) (a0_4_3e6_2 : Int32) (a0_4_3e6_3 : Int32) (a0_4_3e6_4 : Int32) (a0_4_3e6_5 : Nat) (a0_4_3e6_6 : Nat) (ka0_4_3e6_5 : ClassId) (fa0_4_3e6_5 : Nat → Int32) (ka0_4_3e6_6 : ClassId) (fa0_4_3e6_6 : Nat → Int32) (a0_4_3e7_0 : Int32) (a0_4_3e7_1 : Int32) (a0_4_3e7_2 : Int32) (a0_4_3e7_3 : Int32) (a0_4_3e7_4 : Int32) (a0_4_3e7_5 : Nat) (a0_4_3e7_6 : Nat) (ka0_4_3e7_5 : ClassId) (fa0_4_3e7_5 : Nat → Int32) (ka0_4_3e7_6 : ClassId) (fa0_4_3e7_6 : Nat → Int32) (a0_4_3e8_0 : Int32) (a0_4_3e8_1 : Int32) (a0_4_3e8_2 : Int32) (a0_4_3e8_3 : Int32) (a0_4_3e8_4 : Int32) (a0_4_3e8_5 : Nat) (a0_4_3e8_6 : Nat) (ka0_4_3e8_5 : ClassId) (fa0_4_3e8_5 : Nat → Int32) (ka0_4_3e8_6 : ClassId) (fa0_4_3e8_6 : Nat → Int32) (a0_4_3e9_0 : Int32) (a0_4_3e9_1 : Int32) (a0_4_3e9_2 : Int32) (a0_4_3e9_3 : Int32) (a0_4_3e9_4 : Int32) (a0_4_3e9_5 : Nat) (a0_4_3e9_6 : Nat) (ka0_4_3e9_5 : ClassId) (fa0_4_3e9_5 : Nat → Int32) (ka0_4_3e9_6 : ClassId) (fa0_4_3e9_6 : Nat → Int32) (a0_4_3e10_0 : Int32) (a0_4_3e10_1 : Int32) (a0_4_3e10_2 : Int32) (a0_4_3e10_3 : Int32) (a0_4_3e10_4 : Int32) (a0_4_3e10_5 : Nat) (a0_4_3e10_6 : Nat) (ka0_4_3e10_5 : ClassId) (fa0_4_3e10_5 : Nat → Int32) (ka0_4_3e10_6 : ClassId) (fa0_4_3e10_6 : Nat → Int32) (a0_4_3e11_0 : Int32) (a0_4_3e11_1 : Int32) (a0_4_3e11_2 : Int32) (a0_4_3e11_3 : Int32) (a0_4_3e11_4 : Int32) (a0_4_3e11_5 : Nat) (a0_4_3e11_6 : Nat) (ka0_4_3e11_5 : ClassId) (fa0_4_3e11_5 : Nat → Int32) (ka0_4_3e11_6 : ClassId) (fa0_4_3e11_6 : Nat → Int32) (a0_4_3e12_0 : Int32) (a0_4_3e12_1 : Int32) (a0_4_3e12_2 : Int32) (a0_4_3e12_3 : Int32) (a0_4_3e12_4 : Int32) (a0_4_3e12_5 : Nat) (a0_4_3e12_6 : Nat) (ka0_4_3e12_5 : ClassId) (fa0_4_3e12_5 : Nat → Int32) (ka0_4_3e12_6 : ClassId) (fa0_4_3e12_6 : Nat → Int32) (a0_4_3e13_0 : Int32) (a0_4_3e13_1 : Int32) (a0_4_3e13_2 : Int32) (a0_4_3e13_3 : Int32) (a0_4_3e13_4 : Int32) (a0_4_3e13_5 : Nat) (a0_4_3e13_6 : Nat) (ka0_4_3e13_5 : ClassId) (fa0_4_3e13_5 : Nat → Int32) (ka0_4_3e13_6 : ClassId) (fa0_4_3e13_6 : Nat → Int32) (a0_4_3e14_0 : Int32) (a0_4_3e14_1 : Int32) (a0_4_3e14_2 : Int32) (a0_4_3e14_3 : Int32) (a0_4_3e14_4 : Int32) (a0_4_3e14_5 : Nat) (a0_4_3e14_6 : Nat) (ka0_4_3e14_5 : ClassId) (fa0_4_3e14_5 : Nat → Int32) (ka0_4_3e14_6 : ClassId) (fa0_4_3e14_6 : Nat → Int32) (a0_4_3e15_0 : Int32) (a0_4_3e15_1 : Int32) (a0_4_3e15_2 : Int32) (a0_4_3e15_3 : Int32) (a0_4_3e15_4 : Int32) (a0_4_3e15_5 : Nat) (a0_4_3e15_6 : Nat) (ka0_4_3e15_5 : ClassId) (fa0_4_3e15_5 : Nat → Int32) (ka0_4_3e15_6 : ClassId) (fa0_4_3e15_6 : Nat → Int32) (ka0_7_10 : ClassId) (fa0_7_10 : Nat → Int32) (ka0_7_11 : ClassId) (fa0_7_11 : Nat → Int32) (a0_7_14_0 : Int32) (a0_7_14_1 : Int32) (a0_7_14_2 : Nat) (a0_7_14_3 : Nat) (ka0_7_14_3 : ClassId) (fa0_7_14_3 : Nat → Int32) (ka0_7_14_2 : ClassId) (fa0_7_14_2 : Nat → Int32) (ba0_7_0_l : (0 : Int) ≤ a0_7_0.toInt) (ba0_7_0_u : a0_7_0.toInt ≤ (9 : Int)) (ba0_7_5_l : (0 : Int) ≤ a0_7_5.toInt) (ba0_7_5_u : a0_7_5.toInt ≤ (8 : Int)) (ba0_7_6_l : (0 : Int) ≤ a0_7_6.toInt) (ba0_7_6_u : a0_7_6.toInt ≤ (8 : Int)) (ba0_1_1_l : (0 : Int) ≤ a0_1_1.toInt) (ba0_1_1_u : a0_1_1.toInt ≤ (8 : Int)) (ba0_4_0_l : (0 : Int) ≤ a0_4_0.toInt) (ba0_4_0_u : a0_4_0.toInt ≤ (16 : Int)) (ba0_4_2_l : (0 : Int) ≤ a0_4_2.toInt) (ba0_4_2_u : a0_4_2.toInt ≤ (15 : Int)) (ba0_4_3e0_1_l : (0 : Int) ≤ a0_4_3e0_1.toInt) (ba0_4_3e0_1_u : a0_4_3e0_1.toInt ≤ (8 : Int)) (ba0_4_3e1_1_l : (0 : Int) ≤ a0_4_3e1_1.toInt) (ba0_4_3e1_1_u : a0_4_3e1_1.toInt ≤ (8 : Int)) (ba0_4_3e2_1_l : (0 : Int) ≤ a0_4_3e2_1.toInt) (ba0_4_3e2_1_u : a0_4_3e2_1.toInt ≤ (8 : Int)) (ba0_4_3e3_1_l : (0 : Int) ≤ a0_4_3e3_1.toInt) (ba0_4_3e3_1_u : a0_4_3e3_1.toInt ≤ (8 : Int)) (ba0_4_3e4_1_l : (0 : Int) ≤ a0_4_3e4_1.toInt) (ba0_4_3e4_1_u : a0_4_3e4_1.toInt ≤ (8 : Int)) (ba0_4_3e5_1_l : (0 : Int) ≤ a0_4_3e5_1.toInt) (ba0_4_3e5_1_u : a0_4_3e5_1.toInt ≤ (8 : Int)) (ba0_4_3e6_1_l : (0 : Int) ≤ a0_4_3e6_1.toInt) (ba0_4_3e6_1_u : a0_4_3e6_1.toInt ≤ (8 : Int)) (ba0_4_3e7_1_l : (0 : Int) ≤ a0_4_3e7_1.toInt) (ba0_4_3e7_1_u : a0_4_3e7_1.toInt ≤ (8 : Int)) (ba0_4_3e8_1_l : (0 : Int) ≤ a0_4_3e8_1.toInt) (ba0_4_3e8_1_u : a0_4_3e8_1.toInt ≤ (8 : Int)) (ba0_4_3e9_1_l : (0 : Int) ≤ a0_4_3e9_1.toInt) (ba0_4_3e9_1_u : a0_4_3e9_1.toInt ≤ (8 : Int)) (ba0_4_3e10_1_l : (0 : Int) ≤ a0_4_3e10_1.toInt) (ba0_4_3e10_1_u : a0_4_3e10_1.toInt ≤ (8 : Int)) (ba0_4_3e11_1_l : (0 : Int) ≤ a0_4_3e11_1.toInt) (ba0_4_3e11_1_u : a0_4_3e11_1.toInt ≤ (8 : Int)) (ba0_4_3e12_1_l : (0 : Int) ≤ a0_4_3e12_1.toInt) (ba0_4_3e12_1_u : a0_4_3e12_1.toInt ≤ (8 : Int)) (ba0_4_3e13_1_l : (0 : Int) ≤ a0_4_3e13_1.toInt) (ba0_4_3e13_1_u : a0_4_3e13_1.toInt ≤ (8 : Int)) (ba0_4_3e14_1_l : (0 : Int) ≤ a0_4_3e14_1.toInt) (ba0_4_3e14_1_u : a0_4_3e14_1.toInt ≤ (8 : Int)) (ba0_4_3e15_1_l : (0 : Int) ≤ a0_4_3e15_1.toInt) (ba0_4_3e15_1_u : a0_4_3e15_1.toInt ≤ (8 : Int)) (ba0_7_14_0_l : (0 : Int) ≤ a0_7_14_0.toInt) (ba0_7_14_0_u : a0_7_14_0.toInt ≤ (3 : Int)) (bfa0_7_14_3 : (∀ k, (0 : Int) ≤ (fa0_7_14_3 k).toInt ∧ (fa0_7_14_3 k).toInt ≤ 80)) (bfa0_7_14_2 : (∀ k, (0 : Int) ≤ (fa0_7_14_2 k).toInt ∧ (fa0_7_14_2 k).toInt ≤ 80)) : zm l yX7_go wsX7_go ({ frames := 4, cells := 0, slots := 0, locals := 98 }) [.ref a0, .int a1] dC dI sz [(a0, .inr (7, [a0g_0, .ref a0_1, a0g_2, a0g_3, .ref a0_4, a0g_5, a0g_6, .ref a0_7, .int a0_8, a0g_9, a0g_10])), (a0_7, .inr (0, [.int a0_7_0, .int a0_7_1, .int a0_7_2, a0_7g_3, a0_7g_4, .int a0_7_5, .int a0_7_6, a0_7g_7, a0_7g_8, a0_7g_9, .ref a0_7_10, .ref a0_7_11, a0_7g_12, a0_7g_13, .ref a0_7_14])), (a0_1, .inr (5, [.int a0_1_0, .int a0_1_1, .int a0_1_2, .int a0_1_3, .int a0_1_4, .ref a0_1_5, .ref a0_1_6])), (a0_4, .inr (1, [.int a0_4_0, a0_4g_1, .int a0_4_2, .ref a0_4_3, a0_4g_4])), (a0_4_3, .inl (ka0_4_3, 16, .inr (.inr (.inr (.inr (fun i9 => ([some a0_4_3e0, some a0_4_3e1, some a0_4_3e2, some a0_4_3e3, some a0_4_3e4, some a0_4_3e5, some a0_4_3e6, some a0_4_3e7, some a0_4_3e8, some a0_4_3e9, some a0_4_3e10, some a0_4_3e11, some a0_4_3e12, some a0_4_3e13, some a0_4_3e14, some a0_4_3e15] : List (Option Nat)).getD i9 none)))))), (a0_4_3e0, .inr (5, [.int a0_4_3e0_0, .int a0_4_3e0_1, .int a0_4_3e0_2, .int a0_4_3e0_3, .int a0_4_3e0_4, .ref a0_4_3e0_5, .ref a0_4_3e0_6])), (a0_1_5, .inl (ka0_1_5, 9, .inl (fa0_1_5))), (a0_4_3e0_5, .inl (ka0_4_3e0_5, 9, .inl (fa0_4_3e0_5))), (a0_1_6, .inl (ka0_1_6, 9, .inl (fa0_1_6))), (a0_4_3e0_6, .inl (ka0_4_3e0_6, 9, .inl (fa0_4_3e0_6))), (a0_4_3e1, .inr (5, [.int a0_4_3e1_0, .int a0_4_3e1_1, .int a0_4_3e1_2, .int a0_4_3e1_3, .int a0_4_3e1_4, .ref a0_4_3e1_5, .ref a0_4_3e1_6])), (a0_4_3e1_5, .inl (ka0_4_3e1_5, 9, .inl (fa0_4_3e1_5))), (a0_4_3e1_6, .inl (ka0_4_3e1_6, 9, .inl (fa0_4_3e1_6))), (a0_4_3e2, .inr (5, [.int a0_4_3e2_0, .int a0_4_3e2_1, .int a0_4_3e2_2, .int a0_4_3e2_3, .int a0_4_3e2_4, .ref a0_4_3e2_5, .ref a0_4_3e2_6])), (a0_4_3e2_5, .inl (ka0_4_3e2_5, 9, .inl (fa0_4_3e2_5))), (a0_4_3e2_6, .inl (ka0_4_3e2_6, 9, .inl (fa0_4_3e2_6))), (a0_4_3e3, .inr (5, [.int a0_4_3e3_0, .int a0_4_3e3_1, .int a0_4_3e3_2, .int a0_4_3e3_3, .int a0_4_3e3_4, .ref a0_4_3e3_5, .ref a0_4_3e3_6])), (a0_4_3e3_5, .inl (ka0_4_3e3_5, 9, .inl (fa0_4_3e3_5))), (a0_4_3e3_6, .inl (ka0_4_3e3_6, 9, .inl (fa0_4_3e3_6))), (a0_4_3e4, .inr (5, [.int a0_4_3e4_0, .int a0_4_3e4_1, .int a0_4_3e4_2, .int a0_4_3e4_3, .int a0_4_3e4_4, .ref a0_4_3e4_5, .ref a0_4_3e4_6])), (a0_4_3e4_5, .inl (ka0_4_3e4_5, 9, .inl (fa0_4_3e4_5))), (a0_4_3e4_6, .inl (ka0_4_3e4_6, 9, .inl (fa0_4_3e4_6))), (a0_4_3e5, .inr (5, [.int a0_4_3e5_0, .int a0_4_3e5_1, .int a0_4_3e5_2, .int a0_4_3e5_3, .int a0_4_3e5_4, .ref a0_4_3e5_5, .ref a0_4_3e5_6])), (a0_4_3e5_5, .inl (ka0_4_3e5_5, 9, .inl (fa0_4_3e5_5))), (a0_4_3e5_6, .inl (ka0_4_3e5_6, 9, .inl (fa0_4_3e5_6))), (a0_4_3e6, .inr (5, [.int a0_4_3e6_0, .int a0_4_3e6_1, .int a0_4_3e6_2, .int a0_4_3e6_3, .int a0_4_3e6_4, .ref a0_4_3e6_5, .ref a0_4_3e6_6])), (a0_4_3e6_5, .inl (ka0_4_3e6_5, 9, .inl (fa0_4_3e6_5))), (a0_4_3e6_6, .inl (ka0_4_3e6_6, 9, .inl (fa0_4_3e6_6))), (a0_4_3e7, .inr (5, [.int a0_4_3e7_0, .int a0_4_3e7_1, .int a0_4_3e7_2, .int a0_4_3e7_3, .int a0_4_3e7_4, .ref a0_4_3e7_5, .ref a0_4_3e7_6])), (a0_4_3e7_5, .inl (ka0_4_3e7_5, 9, .inl (fa0_4_3e7_5))), (a0_4_3e7_6, .inl (ka0_4_3e7_6, 9, .inl (fa0_4_3e7_6))), (a0_4_3e8, .inr (5, [.int a0_4_3e8_0, .int a0_4_3e8_1, .int a0_4_3e8_2, .int a0_4_3e8_3, .int a0_4_3e8_4, .ref a0_4_3e8_5, .ref a0_4_3e8_6])), (a0_4_3e8_5, .inl (ka0_4_3e8_5, 9, .inl (fa0_4_3e8_5))), (a0_4_3e8_6, .inl (ka0_4_3e8_6, 9, .inl (fa0_4_3e8_6))), (a0_4_3e9, .inr (5, [.int a0_4_3e9_0, .int a0_4_3e9_1, .int a0_4_3e9_2, .int a0_4_3e9_3, .int a0_4_3e9_4, .ref a0_4_3e9_5, .ref a0_4_3e9_6])), (a0_4_3e9_5, .inl (ka0_4_3e9_5, 9, .inl (fa0_4_3e9_5))), (a0_4_3e9_6, .inl (ka0_4_3e9_6, 9, .inl (fa0_4_3e9_6))), (a0_4_3e10, .inr (5, [.int a0_4_3e10_0, .int a0_4_3e10_1, .int a0_4_3e10_2, .int a0_4_3e10_3, .int a0_4_3e10_4, .ref a0_4_3e10_5, .ref a0_4_3e10_6])), (a0_4_3e10_5, .inl (ka0_4_3e10_5, 9, .inl (fa0_4_3e10_5))), (a0_4_3e10_6, .inl (ka0_4_3e10_6, 9, .inl (fa0_4_3e10_6))), (a0_4_3e11, .inr (5, [.int a0_4_3e11_0, .int a0_4_3e11_1, .int a0_4_3e11_2, .int a0_4_3e11_3, .int a0_4_3e11_4, .ref a0_4_3e11_5, .ref a0_4_3e11_6])), (a0_4_3e11_5, .inl (ka0_4_3e11_5, 9, .inl (fa0_4_3e11_5))), (a0_4_3e11_6, .inl (ka0_4_3e11_6, 9, .inl (fa0_4_3e11_6))), (a0_4_3e12, .inr (5, [.int a0_4_3e12_0, .int a0_4_3e12_1, .int a0_4_3e12_2, .int a0_4_3e12_3, .int a0_4_3e12_4, .ref a0_4_3e12_5, .ref a0_4_3e12_6])), (a0_4_3e12_5, .inl (ka0_4_3e12_5, 9, .inl (fa0_4_3e12_5))), (a0_4_3e12_6, .inl (ka0_4_3e12_6, 9, .inl (fa0_4_3e12_6))), (a0_4_3e13, .inr (5, [.int a0_4_3e13_0, .int a0_4_3e13_1, .int a0_4_3e13_2, .int a0_4_3e13_3, .int a0_4_3e13_4, .ref a0_4_3e13_5, .ref a0_4_3e13_6])), (a0_4_3e13_5, .inl (ka0_4_3e13_5, 9, .inl (fa0_4_3e13_5))), (a0_4_3e13_6, .inl (ka0_4_3e13_6, 9, .inl (fa0_4_3e13_6))), (a0_4_3e14, .inr (5, [.int a0_4_3e14_0, .int a0_4_3e14_1, .int a0_4_3e14_2, .int a0_4_3e14_3, .int a0_4_3e14_4, .ref a0_4_3e14_5, .ref a0_4_3e14_6])), (a0_4_3e14_5, .inl (ka0_4_3e14_5, 9, .inl (fa0_4_3e14_5))), (a0_4_3e14_6, .inl (ka0_4_3e14_6, 9, .inl (fa0_4_3e14_6))), (a0_4_3e15, .inr (5, [.int a0_4_3e15_0, .int a0_4_3e15_1, .int a0_4_3e15_2, .int a0_4_3e15_3, .int a0_4_3e15_4, .ref a0_4_3e15_5, .ref a0_4_3e15_6])), (a0_4_3e15_5, .inl (ka0_4_3e15_5, 9, .inl (fa0_4_3e15_5))), (a0_4_3e15_6, .inl (ka0_4_3e15_6, 9, .inl (fa0_4_3e15_6))), (a0_7_10, .inl (ka0_7_10, 9, .inl (fa0_7_10))), (a0_7_11, .inl (ka0_7_11, 9, .inl (fa0_7_11))), (a0_7_14, .inr (6, [.int a0_7_14_0, .int a0_7_14_1, .ref a0_7_14_2, .ref a0_7_14_3])), (a0_7_14_3, .inl (ka0_7_14_3, 3, .inl (fa0_7_14_3))), (a0_7_14_2, .inl (ka0_7_14_2, 3, .inl (fa0_7_14_2)))] [(ka0_4_3, (.object RX5)), (ka0_1_5, .int), (ka0_4_3e0_5, .int), (ka0_1_6, .int), (ka0_4_3e0_6, .int), (ka0_4_3e1_5, .int), (ka0_4_3e1_6, .int), (ka0_4_3e2_5, .int), (ka0_4_3e2_6, .int), (ka0_4_3e3_5, .int), (ka0_4_3e3_6, .int), (ka0_4_3e4_5, .int), (ka0_4_3e4_6, .int), (ka0_4_3e5_5, .int), (ka0_4_3e5_6, .int), (ka0_4_3e6_5, .int), (ka0_4_3e6_6, .int), (ka0_4_3e7_5, .int), (ka0_4_3e7_6, .int), (ka0_4_3e8_5, .int), (ka0_4_3e8_6, .int), (ka0_4_3e9_5, .int), (ka0_4_3e9_6, .int), (ka0_4_3e10_5, .int), (ka0_4_3e10_6, .int), (ka0_4_3e11_5, .int), (ka0_4_3e11_6, .int), (ka0_4_3e12_5, .int), (ka0_4_3e12_6, .int), (ka0_4_3e13_5, .int), (ka0_4_3e13_6, .int), (ka0_4_3e14_5, .int), (ka0_4_3e14_6, .int), (ka0_4_3e15_5, .int), (ka0_4_3e15_6, .int), (ka0_7_10, .int), (ka0_7_11, .int), (ka0_7_14_3, .int), (ka0_7_14_2, .int)] (fun A U => va_Nw (.methodLinkNest RX0 118 yX7_within RX7) U ∧ va_Nw (.methodLinkNest RX5 38 yX7_hasBit RX7) U ∧ va_Nw (.methodLinkNest RX0 129 yX7_hasBit RX7) U) (fun A => va_Qi (fun (r : Int32) (_ : Unit) => True) (fun (_ : Unit) (t : State) => ∃ zni : Nat → Int32, ∃ znf : Nat → Nat → Int32, ((0 : Int) ≤ (zni 2).toInt ∧ (zni 2).toInt ≤ 8) ∧ ((0 : Int) ≤ (zni 6).toInt ∧ (zni 6).toInt ≤ 16) ∧ ((0 : Int) ≤ (zni 7).toInt ∧ (zni 7).toInt ≤ 15) ∧ ((0 : Int) ≤ (zni 9).toInt ∧ (zni 9).toInt ≤ 8) ∧ ((0 : Int) ≤ (zni 14).toInt ∧ (zni 14).toInt ≤ 8) ∧ ((0 : Int) ≤ (zni 19).toInt ∧ (zni 19).toInt ≤ 8) ∧ ((0 : Int) ≤ (zni 24).toInt ∧ (zni 24).toInt ≤ 8) ∧ ((0 : Int) ≤ (zni 29).toInt ∧ (zni 29).toInt ≤ 8) ∧ ((0 : Int) ≤ (zni 34).toInt ∧ (zni 34).toInt ≤ 8) ∧ ((0 : Int) ≤ (zni 39).toInt ∧ (zni 39).toInt ≤ 8) ∧ ((0 : Int) ≤ (zni 44).toInt ∧ (zni 44).toInt ≤ 8) ∧ ((0 : Int) ≤ (zni 49).toInt ∧ (zni 49).toInt ≤ 8) ∧ ((0 : Int) ≤ (zni 54).toInt ∧ (zni 54).toInt ≤ 8) ∧ ((0 : Int) ≤ (zni 59).toInt ∧ (zni 59).toInt ≤ 8) ∧ ((0 : Int) ≤ (zni 64).toInt ∧ (zni 64).toInt ≤ 8) ∧ ((0 : Int) ≤ (zni 69).toInt ∧ (zni 69).toInt ≤ 8) ∧ ((0 : Int) ≤ (zni 74).toInt ∧ (zni 74).toInt ≤ 8) ∧ ((0 : Int) ≤ (zni 79).toInt ∧ (zni 79).toInt ≤ 8) ∧ ((0 : Int) ≤ (zni 84).toInt ∧ (zni 84).toInt ≤ 8) ∧ (zni 0).toInt ≠ 4 ∧ ax_B dC dI A [(a0, .inr (7, [a0g_0, .ref a0_1, a0g_2, a0g_3, .ref a0_4, a0g_5, a0g_6, .ref a0_7, .int (zni 0), a0g_9, a0g_10])), (a0_7, .inr (0, [.int a0_7_0, .int a0_7_1, .int a0_7_2, a0_7g_3, a0_7g_4, .int a0_7_5, .int a0_7_6, a0_7g_7, a0_7g_8, a0_7g_9, .ref a0_7_10, .ref a0_7_11, a0_7g_12, a0_7g_13, .ref a0_7_14])), (a0_1, .inr (5, [.int (zni 1), .int (zni 2), .int (zni 3), .int (zni 4), .int (zni 5), .ref a0_1_5, .ref a0_1_6])), (a0_4, .inr (1, [.int (zni 6), a0_4g_1, .int (zni 7), .ref a0_4_3, a0_4g_4])), (a0_4_3, .inl (ka0_4_3, 16, .inr (.inr (.inr (.inr (fun i9 => ([some a0_4_3e0, some a0_4_3e1, some a0_4_3e2, some a0_4_3e3, some a0_4_3e4, some a0_4_3e5, some a0_4_3e6, some a0_4_3e7, some a0_4_3e8, some a0_4_3e9, some a0_4_3e10, some a0_4_3e11, some a0_4_3e12, some a0_4_3e13, some a0_4_3e14, some a0_4_3e15] : List (Option Nat)).getD i9 none)))))), (a0_4_3e0, .inr (5, [.int (zni 8), .int (zni 9), .int (zni 10), .int (zni 11), .int (zni 12), .ref a0_4_3e0_5, .ref a0_4_3e0_6])), (a0_1_5, .inl (ka0_1_5, 9, .inl ((znf 0)))), (a0_4_3e0_5, .inl (ka0_4_3e0_5, 9, .inl ((znf 1)))), (a0_1_6, .inl (ka0_1_6, 9, .inl ((znf 2)))), (a0_4_3e0_6, .inl (ka0_4_3e0_6, 9, .inl ((znf 3)))), (a0_4_3e1, .inr (5, [.int (zni 13), .int (zni 14), .int (zni 15), .int (zni 16), .int (zni 17), .ref a0_4_3e1_5, .ref a0_4_3e1_6])), (a0_4_3e1_5, .inl (ka0_4_3e1_5, 9, .inl ((znf 4)))), (a0_4_3e1_6, .inl (ka0_4_3e1_6, 9, .inl ((znf 5)))), (a0_4_3e2, .inr (5, [.int (zni 18), .int (zni 19), .int (zni 20), .int (zni 21), .int (zni 22), .ref a0_4_3e2_5, .ref a0_4_3e2_6])), (a0_4_3e2_5, .inl (ka0_4_3e2_5, 9, .inl ((znf 6)))), (a0_4_3e2_6, .inl (ka0_4_3e2_6, 9, .inl ((znf 7)))), (a0_4_3e3, .inr (5, [.int (zni 23), .int (zni 24), .int (zni 25), .int (zni 26), .int (zni 27), .ref a0_4_3e3_5, .ref a0_4_3e3_6])), (a0_4_3e3_5, .inl (ka0_4_3e3_5, 9, .inl ((znf 8)))), (a0_4_3e3_6, .inl (ka0_4_3e3_6, 9, .inl ((znf 9)))), (a0_4_3e4, .inr (5, [.int (zni 28), .int (zni 29), .int (zni 30), .int (zni 31), .int (zni 32), .ref a0_4_3e4_5, .ref a0_4_3e4_6])), (a0_4_3e4_5, .inl (ka0_4_3e4_5, 9, .inl ((znf 10)))), (a0_4_3e4_6, .inl (ka0_4_3e4_6, 9, .inl ((znf 11)))), (a0_4_3e5, .inr (5, [.int (zni 33), .int (zni 34), .int (zni 35), .int (zni 36), .int (zni 37), .ref a0_4_3e5_5, .ref a0_4_3e5_6])), (a0_4_3e5_5, .inl (ka0_4_3e5_5, 9, .inl ((znf 12)))), (a0_4_3e5_6, .inl (ka0_4_3e5_6, 9, .inl ((znf 13)))), (a0_4_3e6, .inr (5, [.int (zni 38), .int (zni 39), .int (zni 40), .int (zni 41), .int (zni 42), .ref a0_4_3e6_5, .ref a0_4_3e6_6])), (a0_4_3e6_5, .inl (ka0_4_3e6_5, 9, .inl ((znf 14)))), (a0_4_3e6_6, .inl (ka0_4_3e6_6, 9, .inl ((znf 15)))), (a0_4_3e7, .inr (5, [.int (zni 43), .int (zni 44), .int (zni 45), .int (zni 46), .int (zni 47), .ref a0_4_3e7_5, .ref a0_4_3e7_6])), (a0_4_3e7_5, .inl (ka0_4_3e7_5, 9, .inl ((znf 16)))), (a0_4_3e7_6, .inl (ka0_4_3e7_6, 9, .inl ((znf 17)))), (a0_4_3e8, .inr (5, [.int (zni 48), .int (zni 49), .int (zni 50), .int (zni 51), .int (zni 52), .ref a0_4_3e8_5, .ref a0_4_3e8_6])), (a0_4_3e8_5, .inl (ka0_4_3e8_5, 9, .inl ((znf 18)))), (a0_4_3e8_6, .inl (ka0_4_3e8_6, 9, .inl ((znf 19)))), (a0_4_3e9, .inr (5, [.int (zni 53), .int (zni 54), .int (zni 55), .int (zni 56), .int (zni 57), .ref a0_4_3e9_5, .ref a0_4_3e9_6])), (a0_4_3e9_5, .inl (ka0_4_3e9_5, 9, .inl ((znf 20)))), (a0_4_3e9_6, .inl (ka0_4_3e9_6, 9, .inl ((znf 21)))), (a0_4_3e10, .inr (5, [.int (zni 58), .int (zni 59), .int (zni 60), .int (zni 61), .int (zni 62), .ref a0_4_3e10_5, .ref a0_4_3e10_6])), (a0_4_3e10_5, .inl (ka0_4_3e10_5, 9, .inl ((znf 22)))), (a0_4_3e10_6, .inl (ka0_4_3e10_6, 9, .inl ((znf 23)))), (a0_4_3e11, .inr (5, [.int (zni 63), .int (zni 64), .int (zni 65), .int (zni 66), .int (zni 67), .ref a0_4_3e11_5, .ref a0_4_3e11_6])), (a0_4_3e11_5, .inl (ka0_4_3e11_5, 9, .inl ((znf 24)))), (a0_4_3e11_6, .inl (ka0_4_3e11_6, 9, .inl ((znf 25)))), (a0_4_3e12, .inr (5, [.int (zni 68), .int (zni 69), .int (zni 70), .int (zni 71), .int (zni 72), .ref a0_4_3e12_5, .ref a0_4_3e12_6])), (a0_4_3e12_5, .inl (ka0_4_3e12_5, 9, .inl ((znf 26)))), (a0_4_3e12_6, .inl (ka0_4_3e12_6, 9, .inl ((znf 27)))), (a0_4_3e13, .inr (5, [.int (zni 73), .int (zni 74), .int (zni 75), .int (zni 76), .int (zni 77), .ref a0_4_3e13_5, .ref a0_4_3e13_6])), (a0_4_3e13_5, .inl (ka0_4_3e13_5, 9, .inl ((znf 28)))), (a0_4_3e13_6, .inl (ka0_4_3e13_6, 9, .inl ((znf 29)))), (a0_4_3e14, .inr (5, [.int (zni 78), .int (zni 79), .int (zni 80), .int (zni 81), .int (zni 82), .ref a0_4_3e14_5, .ref a0_4_3e14_6])), (a0_4_3e14_5, .inl (ka0_4_3e14_5, 9, .inl ((znf 30)))), (a0_4_3e14_6, .inl (ka0_4_3e14_6, 9, .inl ((znf 31)))), (a0_4_3e15, .inr (5, [.int (zni 83), .int (zni 84), .int (zni 85), .int (zni 86), .int (zni 87), .ref a0_4_3e15_5, .ref a0_4_3e15_6])), (a0_4_3e15_5, .inl (ka0_4_3e15_5, 9, .inl ((znf 32)))), (a0_4_3e15_6, .inl (ka0_4_3e15_6, 9, .inl ((znf 33)))), (a0_7_10, .inl (ka0_7_10, 9, .inl (fa0_7_10))), (a0_7_11, .inl (ka0_7_11, 9, .inl (fa0_7_11))), (a0_7_14, .inr (6, [.int a0_7_14_0, .int a0_7_14_1, .ref a0_7_14_2, .ref a0_7_14_3])), (a0_7_14_3, .inl (ka0_7_14_3, 3, .inl (fa0_7_14_3))), (a0_7_14_2, .inl (ka0_7_14_2, 3, .inl (fa0_7_14_2)))] [(ka0_4_3, (.object RX5)), (ka0_1_5, .int), (ka0_4_3e0_5, .int), (ka0_1_6, .int), (ka0_4_3e0_6, .int), (ka0_4_3e1_5, .int), (ka0_4_3e1_6, .int), (ka0_4_3e2_5, .int), (ka0_4_3e2_6, .int), (ka0_4_3e3_5, .int), (ka0_4_3e3_6, .int), (ka0_4_3e4_5, .int), (ka0_4_3e4_6, .int), (ka0_4_3e5_5, .int), (ka0_4_3e5_6, .int), (ka0_4_3e6_5, .int), (ka0_4_3e6_6, .int), (ka0_4_3e7_5, .int), (ka0_4_3e7_6, .int), (ka0_4_3e8_5, .int), (ka0_4_3e8_6, .int), (ka0_4_3e9_5, .int), (ka0_4_3e9_6, .int), (ka0_4_3e10_5, .int), (ka0_4_3e10_6, .int), (ka0_4_3e11_5, .int), (ka0_4_3e11_6, .int), (ka0_4_3e12_5, .int), (ka0_4_3e12_6, .int), (ka0_4_3e13_5, .int), (ka0_4_3e13_6, .int), (ka0_4_3e14_5, .int), (ka0_4_3e14_6, .int), (ka0_4_3e15_5, .int), (ka0_4_3e15_6, .int), (ka0_7_10, .int), (ka0_7_11, .int), (ka0_7_14_3, .int), (ka0_7_14_2, .int)] t) A) := by
  refine zh (cc := cX7_go) (maxL := 5) (ret := (some .int)) zn_RX7 rfl (Nat.le_of_ble_eq_true rfl) (fun p e s m below meth c A ls hx hb hml hr hts (hown : s.vm.findClass RX7 = some m.cls) hlocks hA hS hP hK hD hE (hl : lv_has ls 5 [(0, .ref a0), (1, .int a1)]) => ?_)
  obtain ⟨hE0, hE1, hE2⟩ := hE
  refine ai_open (fun K hK0 => ?_)
  refine (hK0 _ _ _).mpr ?_
  refine lv_aload_n hx hb dX7_go_0 rfl (lv_at hl 0 rfl) ?_
  refine lv_iload_n hx hb dX7_go_1 rfl (lv_at hl 1 rfl) ?_
  refine lv_iconst (v := 1) hx hb dX7_go_2 zk_iconst_1 ?_
  refine lv_bipush (v := 60) hx hb dX7_go_3 zk_bipush_60 ?_
  refine va_calli (va_runV (As := [.int a1, .int 1, .int 60]) (rest := []) ⟨hx, hb, hml, hown, hts⟩ (c_X7_troubleOfNumber l dC dI s.heap.size a0 a1 1 60 a0g_0 (.ref a0_1) a0g_2 a0g_3 (.ref a0_4) a0g_5 a0g_6 (.int a0_8) a0g_9 a0g_10 a0_7 a0_7_0 (.int a0_7_1) (.int a0_7_2) a0_7g_3 a0_7g_4 (.int a0_7_5) (.int a0_7_6) a0_7g_7 a0_7g_8 a0_7g_9 (.ref a0_7_10) (.ref a0_7_11) a0_7g_12 a0_7g_13 (.ref a0_7_14) ba0_7_0_l ba0_7_0_u) (cwV 3 hts gX7_go_X7_troubleOfNumber rfl rfl rfl zd_X7_troubleOfNumber ⟨Nat.le_of_ble_eq_true rfl, Nat.le_of_ble_eq_true rfl⟩) ⟨ax_blind (fun _ _ _ _ _ => trivial), zr_7 (zp_K hK) (zp_P2 hP) (q0 := 0) rfl, ax_pre (zp_P2 hP) (zp_K hK) (zp_D2 hD) (fun _ _ => trivial)⟩ rfl rfl hl.1 rfl (lv_room (Nat.le_of_ble_eq_true rfl)) dX7_go_5 ⟨Nat.le_of_ble_eq_true rfl, Nat.le_of_ble_eq_true rfl⟩) hS (fun q _ h => zp_F2 hD hS hA q h) (zp_F2 hD hS hA) (fun r5 u t H locs ht hvm hw hB hz1 hk1 hS1 => zo2 hB ht hP hD hk1 (zp_F2 hD hS hA) hS1 (fun hP hK1 hD hS => ?_))
  rcases hw with hw | hw | hw
  · obtain ⟨hw, fh5, h5⟩ := hw
    subst hw
    have l5k0_a0_7_0 : (1 : Int) ≤ a0_7_0.toInt := fh5
    have l5k0_a1 : (1 : Int) ≤ a1.toInt := Int.le_trans zq1 h5.1
    have u5k0_a1 : a1.toInt ≤ (60 : Int) := Int.le_trans h5.2 zq46
    refine lv_istore_n (lv' := [(2, .int 0), (0, .ref a0), (1, .int a1)]) hx hb dX7_go_8 rfl hl (by decide) rfl (fun ls hl => ?_)
    refine lv_iload_n hx hb dX7_go_9 rfl (lv_at hl 0 rfl) ?_
    refine lv_if_eq (tgt := 19) hx hb dX7_go_10 (by decide) (fun _ => ?_) (fun c10 => absurd (by decide +kernel) c10)
    refine lv_aload_n hx hb dX7_go_19 rfl (lv_at hl 1 rfl) ?_
    refine va_get (D := (dC, dI)) (ci := 7) (v := .ref a0_1) (C := RX7) (T := TX7) (N := 11) hx hb hts zi_X7_go_7 hown hK hP 0 rfl rfl 1 (by decide) (hts (.fieldLink RX7 19 "WaxTurns" "now" "LWaxTurns$Scene;") (zm_X7_go_r1 (List.mem_of_getElem? (i := 0) rfl))) (fun _ h9 => h9) rfl dX7_go_20 ?_
    refine va_get (D := (dC, dI)) (ci := 5) (v := .int a0_1_0) (C := RX5) (T := TX5) (N := 7) hx hb hts zi_X7_go_5 hown hK hP 2 rfl rfl 0 (by decide) (hts (.fieldLink RX7 147 "WaxTurns$Scene" "minute" "I") (zm_X7_go_r1 (List.mem_of_getElem? (i := 1) rfl))) (fun _ h9 => h9) rfl dX7_go_23 ?_
    refine lv_iload_n hx hb dX7_go_26 rfl (lv_at hl 2 rfl) ?_
    refine lv_iadd hx hb dX7_go_27 ?_
    refine lv_topi (fun x27 ex27 => ?_)
    refine lv_sipush (v := 9999) hx hb dX7_go_28 zk_sipush_9999 ?_
    refine lv_icmp_le (tgt := 40) hx hb dX7_go_31 (by decide) (fun c31 => ?_) (fun c31 => ?_)
    · have gc31 := ai_le c31
      have u31t_x27 : x27.toInt ≤ (9999 : Int) := Int.le_trans gc31 zq129
      refine lv_aload_n hx hb dX7_go_40 rfl (lv_at hl 1 rfl) ?_
      refine va_get (D := (dC, dI)) (ci := 7) (v := .ref a0_4) (C := RX7) (T := TX7) (N := 11) hx hb hts zi_X7_go_7 hown hK hP 0 rfl rfl 4 (by decide) (hts (.fieldLink RX7 36 "WaxTurns" "history" "LWaxTurns$History;") (zm_X7_go_r1 (List.mem_of_getElem? (i := 2) rfl))) (fun _ h9 => h9) rfl dX7_go_41 ?_
      refine lv_aload_n hx hb dX7_go_44 rfl (lv_at hl 1 rfl) ?_
      refine va_get (D := (dC, dI)) (ci := 7) (v := .ref a0_1) (C := RX7) (T := TX7) (N := 11) hx hb hts zi_X7_go_7 hown hK hP 0 rfl rfl 1 (by decide) (hts (.fieldLink RX7 19 "WaxTurns" "now" "LWaxTurns$Scene;") (zm_X7_go_r1 (List.mem_of_getElem? (i := 0) rfl))) (fun _ h9 => h9) rfl dX7_go_45 ?_
      refine zc_cutc (wc := [(a0_4, .inr (1, [.int a0_4_0, a0_4g_1, .int a0_4_2, .ref a0_4_3, a0_4g_4])), (a0_4_3, .inl (ka0_4_3, 16, .inr (.inr (.inr (.inr (fun i9 => ([some a0_4_3e0, some a0_4_3e1, some a0_4_3e2, some a0_4_3e3, some a0_4_3e4, some a0_4_3e5, some a0_4_3e6, some a0_4_3e7, some a0_4_3e8, some a0_4_3e9, some a0_4_3e10, some a0_4_3e11, some a0_4_3e12, some a0_4_3e13, some a0_4_3e14, some a0_4_3e15] : List (Option Nat)).getD i9 none)))))), (a0_4_3e0, .inr (5, [.int a0_4_3e0_0, .int a0_4_3e0_1, .int a0_4_3e0_2, .int a0_4_3e0_3, .int a0_4_3e0_4, .ref a0_4_3e0_5, .ref a0_4_3e0_6])), (a0_1, .inr (5, [.int a0_1_0, .int a0_1_1, .int a0_1_2, .int a0_1_3, .int a0_1_4, .ref a0_1_5, .ref a0_1_6])), (a0_1_5, .inl (ka0_1_5, 9, .inl (fa0_1_5))), (a0_4_3e0_5, .inl (ka0_4_3e0_5, 9, .inl (fa0_4_3e0_5))), (a0_1_6, .inl (ka0_1_6, 9, .inl (fa0_1_6))), (a0_4_3e0_6, .inl (ka0_4_3e0_6, 9, .inl (fa0_4_3e0_6))), (a0_4_3e1, .inr (5, [.int a0_4_3e1_0, .int a0_4_3e1_1, .int a0_4_3e1_2, .int a0_4_3e1_3, .int a0_4_3e1_4, .ref a0_4_3e1_5, .ref a0_4_3e1_6])), (a0_4_3e1_5, .inl (ka0_4_3e1_5, 9, .inl (fa0_4_3e1_5))), (a0_4_3e1_6, .inl (ka0_4_3e1_6, 9, .inl (fa0_4_3e1_6))), (a0_4_3e2, .inr (5, [.int a0_4_3e2_0, .int a0_4_3e2_1, .int a0_4_3e2_2, .int a0_4_3e2_3, .int a0_4_3e2_4, .ref a0_4_3e2_5, .ref a0_4_3e2_6])), (a0_4_3e2_5, .inl (ka0_4_3e2_5, 9, .inl (fa0_4_3e2_5))), (a0_4_3e2_6, .inl (ka0_4_3e2_6, 9, .inl (fa0_4_3e2_6))), (a0_4_3e3, .inr (5, [.int a0_4_3e3_0, .int a0_4_3e3_1, .int a0_4_3e3_2, .int a0_4_3e3_3, .int a0_4_3e3_4, .ref a0_4_3e3_5, .ref a0_4_3e3_6])), (a0_4_3e3_5, .inl (ka0_4_3e3_5, 9, .inl (fa0_4_3e3_5))), (a0_4_3e3_6, .inl (ka0_4_3e3_6, 9, .inl (fa0_4_3e3_6))), (a0_4_3e4, .inr (5, [.int a0_4_3e4_0, .int a0_4_3e4_1, .int a0_4_3e4_2, .int a0_4_3e4_3, .int a0_4_3e4_4, .ref a0_4_3e4_5, .ref a0_4_3e4_6])), (a0_4_3e4_5, .inl (ka0_4_3e4_5, 9, .inl (fa0_4_3e4_5))), (a0_4_3e4_6, .inl (ka0_4_3e4_6, 9, .inl (fa0_4_3e4_6))), (a0_4_3e5, .inr (5, [.int a0_4_3e5_0, .int a0_4_3e5_1, .int a0_4_3e5_2, .int a0_4_3e5_3, .int a0_4_3e5_4, .ref a0_4_3e5_5, .ref a0_4_3e5_6])), (a0_4_3e5_5, .inl (ka0_4_3e5_5, 9, .inl (fa0_4_3e5_5))), (a0_4_3e5_6, .inl (ka0_4_3e5_6, 9, .inl (fa0_4_3e5_6))), (a0_4_3e6, .inr (5, [.int a0_4_3e6_0, .int a0_4_3e6_1, .int a0_4_3e6_2, .int a0_4_3e6_3, .int a0_4_3e6_4, .ref a0_4_3e6_5, .ref a0_4_3e6_6])), (a0_4_3e6_5, .inl (ka0_4_3e6_5, 9, .inl (fa0_4_3e6_5))), (a0_4_3e6_6, .inl (ka0_4_3e6_6, 9, .inl (fa0_4_3e6_6))), (a0_4_3e7, .inr (5, [.int a0_4_3e7_0, .int a0_4_3e7_1, .int a0_4_3e7_2, .int a0_4_3e7_3, .int a0_4_3e7_4, .ref a0_4_3e7_5, .ref a0_4_3e7_6])), (a0_4_3e7_5, .inl (ka0_4_3e7_5, 9, .inl (fa0_4_3e7_5))), (a0_4_3e7_6, .inl (ka0_4_3e7_6, 9, .inl (fa0_4_3e7_6))), (a0_4_3e8, .inr (5, [.int a0_4_3e8_0, .int a0_4_3e8_1, .int a0_4_3e8_2, .int a0_4_3e8_3, .int a0_4_3e8_4, .ref a0_4_3e8_5, .ref a0_4_3e8_6])), (a0_4_3e8_5, .inl (ka0_4_3e8_5, 9, .inl (fa0_4_3e8_5))), (a0_4_3e8_6, .inl (ka0_4_3e8_6, 9, .inl (fa0_4_3e8_6))), (a0_4_3e9, .inr (5, [.int a0_4_3e9_0, .int a0_4_3e9_1, .int a0_4_3e9_2, .int a0_4_3e9_3, .int a0_4_3e9_4, .ref a0_4_3e9_5, .ref a0_4_3e9_6])), (a0_4_3e9_5, .inl (ka0_4_3e9_5, 9, .inl (fa0_4_3e9_5))), (a0_4_3e9_6, .inl (ka0_4_3e9_6, 9, .inl (fa0_4_3e9_6))), (a0_4_3e10, .inr (5, [.int a0_4_3e10_0, .int a0_4_3e10_1, .int a0_4_3e10_2, .int a0_4_3e10_3, .int a0_4_3e10_4, .ref a0_4_3e10_5, .ref a0_4_3e10_6])), (a0_4_3e10_5, .inl (ka0_4_3e10_5, 9, .inl (fa0_4_3e10_5))), (a0_4_3e10_6, .inl (ka0_4_3e10_6, 9, .inl (fa0_4_3e10_6))), (a0_4_3e11, .inr (5, [.int a0_4_3e11_0, .int a0_4_3e11_1, .int a0_4_3e11_2, .int a0_4_3e11_3, .int a0_4_3e11_4, .ref a0_4_3e11_5, .ref a0_4_3e11_6])), (a0_4_3e11_5, .inl (ka0_4_3e11_5, 9, .inl (fa0_4_3e11_5))), (a0_4_3e11_6, .inl (ka0_4_3e11_6, 9, .inl (fa0_4_3e11_6))), (a0_4_3e12, .inr (5, [.int a0_4_3e12_0, .int a0_4_3e12_1, .int a0_4_3e12_2, .int a0_4_3e12_3, .int a0_4_3e12_4, .ref a0_4_3e12_5, .ref a0_4_3e12_6])), (a0_4_3e12_5, .inl (ka0_4_3e12_5, 9, .inl (fa0_4_3e12_5))), (a0_4_3e12_6, .inl (ka0_4_3e12_6, 9, .inl (fa0_4_3e12_6))), (a0_4_3e13, .inr (5, [.int a0_4_3e13_0, .int a0_4_3e13_1, .int a0_4_3e13_2, .int a0_4_3e13_3, .int a0_4_3e13_4, .ref a0_4_3e13_5, .ref a0_4_3e13_6])), (a0_4_3e13_5, .inl (ka0_4_3e13_5, 9, .inl (fa0_4_3e13_5))), (a0_4_3e13_6, .inl (ka0_4_3e13_6, 9, .inl (fa0_4_3e13_6))), (a0_4_3e14, .inr (5, [.int a0_4_3e14_0, .int a0_4_3e14_1, .int a0_4_3e14_2, .int a0_4_3e14_3, .int a0_4_3e14_4, .ref a0_4_3e14_5, .ref a0_4_3e14_6])), (a0_4_3e14_5, .inl (ka0_4_3e14_5, 9, .inl (fa0_4_3e14_5))), (a0_4_3e14_6, .inl (ka0_4_3e14_6, 9, .inl (fa0_4_3e14_6))), (a0_4_3e15, .inr (5, [.int a0_4_3e15_0, .int a0_4_3e15_1, .int a0_4_3e15_2, .int a0_4_3e15_3, .int a0_4_3e15_4, .ref a0_4_3e15_5, .ref a0_4_3e15_6])), (a0_4_3e15_5, .inl (ka0_4_3e15_5, 9, .inl (fa0_4_3e15_5))), (a0_4_3e15_6, .inl (ka0_4_3e15_6, 9, .inl (fa0_4_3e15_6)))]) hP hD hS hA [3, 4, 5, 2, 6, 7, 8, 9, 10, 11, 12, 13, 14, 15, 16, 17, 18, 19, 20, 21, 22, 23, 24, 25, 26, 27, 28, 29, 30, 31, 32, 33, 34, 35, 36, 37, 38, 39, 40, 41, 42, 43, 44, 45, 46, 47, 48, 49, 50, 51, 52, 53, 54] (by decide +kernel) rfl (fun hPc hDc hFc hCc => ?_)
      have hKc := hK.sub (tys' := [(ka0_4_3, (.object RX5)), (ka0_1_5, .int), (ka0_4_3e0_5, .int), (ka0_1_6, .int), (ka0_4_3e0_6, .int), (ka0_4_3e1_5, .int), (ka0_4_3e1_6, .int), (ka0_4_3e2_5, .int), (ka0_4_3e2_6, .int), (ka0_4_3e3_5, .int), (ka0_4_3e3_6, .int), (ka0_4_3e4_5, .int), (ka0_4_3e4_6, .int), (ka0_4_3e5_5, .int), (ka0_4_3e5_6, .int), (ka0_4_3e6_5, .int), (ka0_4_3e6_6, .int), (ka0_4_3e7_5, .int), (ka0_4_3e7_6, .int), (ka0_4_3e8_5, .int), (ka0_4_3e8_6, .int), (ka0_4_3e9_5, .int), (ka0_4_3e9_6, .int), (ka0_4_3e10_5, .int), (ka0_4_3e10_6, .int), (ka0_4_3e11_5, .int), (ka0_4_3e11_6, .int), (ka0_4_3e12_5, .int), (ka0_4_3e12_6, .int), (ka0_4_3e13_5, .int), (ka0_4_3e13_6, .int), (ka0_4_3e14_5, .int), (ka0_4_3e14_6, .int), (ka0_4_3e15_5, .int), (ka0_4_3e15_6, .int)]) [0, 1, 2, 3, 4, 5, 6, 7, 8, 9, 10, 11, 12, 13, 14, 15, 16, 17, 18, 19, 20, 21, 22, 23, 24, 25, 26, 27, 28, 29, 30, 31, 32, 33, 34] rfl
      refine va_callv (va_runV (As := [.ref a0_1]) (rest := []) ⟨hx, hb, hml, hown, hts⟩ (c_X1_keep l dC dI H.size a0_4 a0_1 a0_4_0 a0_4g_1 a0_4g_4 a0_4_2 a0_4_3 ka0_4_3 a0_4_3e0 a0_4_3e1 a0_4_3e2 a0_4_3e3 a0_4_3e4 a0_4_3e5 a0_4_3e6 a0_4_3e7 a0_4_3e8 a0_4_3e9 a0_4_3e10 a0_4_3e11 a0_4_3e12 a0_4_3e13 a0_4_3e14 a0_4_3e15 a0_4_3e0_0 a0_4_3e0_1 a0_4_3e0_2 a0_4_3e0_3 a0_4_3e0_4 a0_4_3e0_5 a0_4_3e0_6 a0_1_0 a0_1_1 a0_1_2 a0_1_3 a0_1_4 a0_1_5 a0_1_6 ka0_1_5 fa0_1_5 ka0_4_3e0_5 fa0_4_3e0_5 ka0_1_6 fa0_1_6 ka0_4_3e0_6 fa0_4_3e0_6 a0_4_3e1_0 a0_4_3e1_1 a0_4_3e1_2 a0_4_3e1_3 a0_4_3e1_4 a0_4_3e1_5 a0_4_3e1_6 ka0_4_3e1_5 fa0_4_3e1_5 ka0_4_3e1_6 fa0_4_3e1_6 a0_4_3e2_0 a0_4_3e2_1 a0_4_3e2_2 a0_4_3e2_3 a0_4_3e2_4 a0_4_3e2_5 a0_4_3e2_6 ka0_4_3e2_5 fa0_4_3e2_5 ka0_4_3e2_6 fa0_4_3e2_6 a0_4_3e3_0 a0_4_3e3_1 a0_4_3e3_2 a0_4_3e3_3 a0_4_3e3_4 a0_4_3e3_5 a0_4_3e3_6 ka0_4_3e3_5 fa0_4_3e3_5 ka0_4_3e3_6 fa0_4_3e3_6 a0_4_3e4_0 a0_4_3e4_1 a0_4_3e4_2 a0_4_3e4_3 a0_4_3e4_4 a0_4_3e4_5 a0_4_3e4_6 ka0_4_3e4_5 fa0_4_3e4_5 ka0_4_3e4_6 fa0_4_3e4_6 a0_4_3e5_0 a0_4_3e5_1 a0_4_3e5_2 a0_4_3e5_3 a0_4_3e5_4 a0_4_3e5_5 a0_4_3e5_6 ka0_4_3e5_5 fa0_4_3e5_5 ka0_4_3e5_6 fa0_4_3e5_6 a0_4_3e6_0 a0_4_3e6_1 a0_4_3e6_2 a0_4_3e6_3 a0_4_3e6_4 a0_4_3e6_5 a0_4_3e6_6 ka0_4_3e6_5 fa0_4_3e6_5 ka0_4_3e6_6 fa0_4_3e6_6 a0_4_3e7_0 a0_4_3e7_1 a0_4_3e7_2 a0_4_3e7_3 a0_4_3e7_4 a0_4_3e7_5 a0_4_3e7_6 ka0_4_3e7_5 fa0_4_3e7_5 ka0_4_3e7_6 fa0_4_3e7_6 a0_4_3e8_0 a0_4_3e8_1 a0_4_3e8_2 a0_4_3e8_3 a0_4_3e8_4 a0_4_3e8_5 a0_4_3e8_6 ka0_4_3e8_5 fa0_4_3e8_5 ka0_4_3e8_6 fa0_4_3e8_6 a0_4_3e9_0 a0_4_3e9_1 a0_4_3e9_2 a0_4_3e9_3 a0_4_3e9_4 a0_4_3e9_5 a0_4_3e9_6 ka0_4_3e9_5 fa0_4_3e9_5 ka0_4_3e9_6 fa0_4_3e9_6 a0_4_3e10_0 a0_4_3e10_1 a0_4_3e10_2 a0_4_3e10_3 a0_4_3e10_4 a0_4_3e10_5 a0_4_3e10_6 ka0_4_3e10_5 fa0_4_3e10_5 ka0_4_3e10_6 fa0_4_3e10_6 a0_4_3e11_0 a0_4_3e11_1 a0_4_3e11_2 a0_4_3e11_3 a0_4_3e11_4 a0_4_3e11_5 a0_4_3e11_6 ka0_4_3e11_5 fa0_4_3e11_5 ka0_4_3e11_6 fa0_4_3e11_6 a0_4_3e12_0 a0_4_3e12_1 a0_4_3e12_2 a0_4_3e12_3 a0_4_3e12_4 a0_4_3e12_5 a0_4_3e12_6 ka0_4_3e12_5 fa0_4_3e12_5 ka0_4_3e12_6 fa0_4_3e12_6 a0_4_3e13_0 a0_4_3e13_1 a0_4_3e13_2 a0_4_3e13_3 a0_4_3e13_4 a0_4_3e13_5 a0_4_3e13_6 ka0_4_3e13_5 fa0_4_3e13_5 ka0_4_3e13_6 fa0_4_3e13_6 a0_4_3e14_0 a0_4_3e14_1 a0_4_3e14_2 a0_4_3e14_3 a0_4_3e14_4 a0_4_3e14_5 a0_4_3e14_6 ka0_4_3e14_5 fa0_4_3e14_5 ka0_4_3e14_6 fa0_4_3e14_6 a0_4_3e15_0 a0_4_3e15_1 a0_4_3e15_2 a0_4_3e15_3 a0_4_3e15_4 a0_4_3e15_5 a0_4_3e15_6 ka0_4_3e15_5 fa0_4_3e15_5 ka0_4_3e15_6 fa0_4_3e15_6 ba0_4_0_l ba0_4_0_u ba0_4_2_l ba0_4_2_u ba0_4_3e0_1_l ba0_4_3e0_1_u ba0_1_1_l ba0_1_1_u ba0_4_3e1_1_l ba0_4_3e1_1_u ba0_4_3e2_1_l ba0_4_3e2_1_u ba0_4_3e3_1_l ba0_4_3e3_1_u ba0_4_3e4_1_l ba0_4_3e4_1_u ba0_4_3e5_1_l ba0_4_3e5_1_u ba0_4_3e6_1_l ba0_4_3e6_1_u ba0_4_3e7_1_l ba0_4_3e7_1_u ba0_4_3e8_1_l ba0_4_3e8_1_u ba0_4_3e9_1_l ba0_4_3e9_1_u ba0_4_3e10_1_l ba0_4_3e10_1_u ba0_4_3e11_1_l ba0_4_3e11_1_u ba0_4_3e12_1_l ba0_4_3e12_1_u ba0_4_3e13_1_l ba0_4_3e13_1_u ba0_4_3e14_1_l ba0_4_3e14_1_u ba0_4_3e15_1_l ba0_4_3e15_1_u) (cwV 1 hts gX7_go_X1_keep rfl rfl rfl zd_X1_keep ⟨Nat.le_of_ble_eq_true rfl, Nat.le_of_ble_eq_true rfl⟩) ⟨ax_blind (fun _ _ _ _ _ => trivial), zr_1 hKc hPc (q0 := 0) rfl, ax_pre hPc hKc hDc (fun _ _ => trivial)⟩ rfl rfl hl.1 rfl (lv_room (Nat.le_of_ble_eq_true rfl)) dX7_go_48 ⟨Nat.le_of_ble_eq_true rfl, Nat.le_of_ble_eq_true rfl⟩) hS (fun q _ h => hFc q h) hFc (fun u t H locs ht hvm hw => zx_2 (fun v48ni v48nf => zy_18 (fun bv48na0_0 bv48na0_2 bv48na0_3e0_1 bv48na0_3e1_1 bv48na0_3e2_1 bv48na0_3e3_1 bv48na0_3e4_1 bv48na0_3e5_1 bv48na0_3e6_1 bv48na0_3e7_1 bv48na0_3e8_1 bv48na0_3e9_1 bv48na0_3e10_1 bv48na0_3e11_1 bv48na0_3e12_1 bv48na0_3e13_1 bv48na0_3e14_1 bv48na0_3e15_1 hB hz1 hk1 hS1 => zo hB ht hS1 (fun hP1 hK1 hD1 hS => ?_))))
      refine zc_backc (w := [(a0, .inr (7, [a0g_0, .ref a0_1, a0g_2, a0g_3, .ref a0_4, a0g_5, a0g_6, .ref a0_7, .int a0_8, a0g_9, a0g_10])), (a0_7, .inr (0, [.int a0_7_0, .int a0_7_1, .int a0_7_2, a0_7g_3, a0_7g_4, .int a0_7_5, .int a0_7_6, a0_7g_7, a0_7g_8, a0_7g_9, .ref a0_7_10, .ref a0_7_11, a0_7g_12, a0_7g_13, .ref a0_7_14])), (a0_1, .inr (5, [.int a0_1_0, .int a0_1_1, .int a0_1_2, .int a0_1_3, .int a0_1_4, .ref a0_1_5, .ref a0_1_6])), (a0_4, .inr (1, [.int (v48ni 0), a0_4g_1, .int (v48ni 1), .ref a0_4_3, a0_4g_4])), (a0_4_3, .inl (ka0_4_3, 16, .inr (.inr (.inr (.inr (fun i9 => ([some a0_4_3e0, some a0_4_3e1, some a0_4_3e2, some a0_4_3e3, some a0_4_3e4, some a0_4_3e5, some a0_4_3e6, some a0_4_3e7, some a0_4_3e8, some a0_4_3e9, some a0_4_3e10, some a0_4_3e11, some a0_4_3e12, some a0_4_3e13, some a0_4_3e14, some a0_4_3e15] : List (Option Nat)).getD i9 none)))))), (a0_4_3e0, .inr (5, [.int (v48ni 2), .int (v48ni 3), .int (v48ni 4), .int (v48ni 5), .int (v48ni 6), .ref a0_4_3e0_5, .ref a0_4_3e0_6])), (a0_1_5, .inl (ka0_1_5, 9, .inl (fa0_1_5))), (a0_4_3e0_5, .inl (ka0_4_3e0_5, 9, .inl ((v48nf 0)))), (a0_1_6, .inl (ka0_1_6, 9, .inl (fa0_1_6))), (a0_4_3e0_6, .inl (ka0_4_3e0_6, 9, .inl ((v48nf 1)))), (a0_4_3e1, .inr (5, [.int (v48ni 7), .int (v48ni 8), .int (v48ni 9), .int (v48ni 10), .int (v48ni 11), .ref a0_4_3e1_5, .ref a0_4_3e1_6])), (a0_4_3e1_5, .inl (ka0_4_3e1_5, 9, .inl ((v48nf 2)))), (a0_4_3e1_6, .inl (ka0_4_3e1_6, 9, .inl ((v48nf 3)))), (a0_4_3e2, .inr (5, [.int (v48ni 12), .int (v48ni 13), .int (v48ni 14), .int (v48ni 15), .int (v48ni 16), .ref a0_4_3e2_5, .ref a0_4_3e2_6])), (a0_4_3e2_5, .inl (ka0_4_3e2_5, 9, .inl ((v48nf 4)))), (a0_4_3e2_6, .inl (ka0_4_3e2_6, 9, .inl ((v48nf 5)))), (a0_4_3e3, .inr (5, [.int (v48ni 17), .int (v48ni 18), .int (v48ni 19), .int (v48ni 20), .int (v48ni 21), .ref a0_4_3e3_5, .ref a0_4_3e3_6])), (a0_4_3e3_5, .inl (ka0_4_3e3_5, 9, .inl ((v48nf 6)))), (a0_4_3e3_6, .inl (ka0_4_3e3_6, 9, .inl ((v48nf 7)))), (a0_4_3e4, .inr (5, [.int (v48ni 22), .int (v48ni 23), .int (v48ni 24), .int (v48ni 25), .int (v48ni 26), .ref a0_4_3e4_5, .ref a0_4_3e4_6])), (a0_4_3e4_5, .inl (ka0_4_3e4_5, 9, .inl ((v48nf 8)))), (a0_4_3e4_6, .inl (ka0_4_3e4_6, 9, .inl ((v48nf 9)))), (a0_4_3e5, .inr (5, [.int (v48ni 27), .int (v48ni 28), .int (v48ni 29), .int (v48ni 30), .int (v48ni 31), .ref a0_4_3e5_5, .ref a0_4_3e5_6])), (a0_4_3e5_5, .inl (ka0_4_3e5_5, 9, .inl ((v48nf 10)))), (a0_4_3e5_6, .inl (ka0_4_3e5_6, 9, .inl ((v48nf 11)))), (a0_4_3e6, .inr (5, [.int (v48ni 32), .int (v48ni 33), .int (v48ni 34), .int (v48ni 35), .int (v48ni 36), .ref a0_4_3e6_5, .ref a0_4_3e6_6])), (a0_4_3e6_5, .inl (ka0_4_3e6_5, 9, .inl ((v48nf 12)))), (a0_4_3e6_6, .inl (ka0_4_3e6_6, 9, .inl ((v48nf 13)))), (a0_4_3e7, .inr (5, [.int (v48ni 37), .int (v48ni 38), .int (v48ni 39), .int (v48ni 40), .int (v48ni 41), .ref a0_4_3e7_5, .ref a0_4_3e7_6])), (a0_4_3e7_5, .inl (ka0_4_3e7_5, 9, .inl ((v48nf 14)))), (a0_4_3e7_6, .inl (ka0_4_3e7_6, 9, .inl ((v48nf 15)))), (a0_4_3e8, .inr (5, [.int (v48ni 42), .int (v48ni 43), .int (v48ni 44), .int (v48ni 45), .int (v48ni 46), .ref a0_4_3e8_5, .ref a0_4_3e8_6])), (a0_4_3e8_5, .inl (ka0_4_3e8_5, 9, .inl ((v48nf 16)))), (a0_4_3e8_6, .inl (ka0_4_3e8_6, 9, .inl ((v48nf 17)))), (a0_4_3e9, .inr (5, [.int (v48ni 47), .int (v48ni 48), .int (v48ni 49), .int (v48ni 50), .int (v48ni 51), .ref a0_4_3e9_5, .ref a0_4_3e9_6])), (a0_4_3e9_5, .inl (ka0_4_3e9_5, 9, .inl ((v48nf 18)))), (a0_4_3e9_6, .inl (ka0_4_3e9_6, 9, .inl ((v48nf 19)))), (a0_4_3e10, .inr (5, [.int (v48ni 52), .int (v48ni 53), .int (v48ni 54), .int (v48ni 55), .int (v48ni 56), .ref a0_4_3e10_5, .ref a0_4_3e10_6])), (a0_4_3e10_5, .inl (ka0_4_3e10_5, 9, .inl ((v48nf 20)))), (a0_4_3e10_6, .inl (ka0_4_3e10_6, 9, .inl ((v48nf 21)))), (a0_4_3e11, .inr (5, [.int (v48ni 57), .int (v48ni 58), .int (v48ni 59), .int (v48ni 60), .int (v48ni 61), .ref a0_4_3e11_5, .ref a0_4_3e11_6])), (a0_4_3e11_5, .inl (ka0_4_3e11_5, 9, .inl ((v48nf 22)))), (a0_4_3e11_6, .inl (ka0_4_3e11_6, 9, .inl ((v48nf 23)))), (a0_4_3e12, .inr (5, [.int (v48ni 62), .int (v48ni 63), .int (v48ni 64), .int (v48ni 65), .int (v48ni 66), .ref a0_4_3e12_5, .ref a0_4_3e12_6])), (a0_4_3e12_5, .inl (ka0_4_3e12_5, 9, .inl ((v48nf 24)))), (a0_4_3e12_6, .inl (ka0_4_3e12_6, 9, .inl ((v48nf 25)))), (a0_4_3e13, .inr (5, [.int (v48ni 67), .int (v48ni 68), .int (v48ni 69), .int (v48ni 70), .int (v48ni 71), .ref a0_4_3e13_5, .ref a0_4_3e13_6])), (a0_4_3e13_5, .inl (ka0_4_3e13_5, 9, .inl ((v48nf 26)))), (a0_4_3e13_6, .inl (ka0_4_3e13_6, 9, .inl ((v48nf 27)))), (a0_4_3e14, .inr (5, [.int (v48ni 72), .int (v48ni 73), .int (v48ni 74), .int (v48ni 75), .int (v48ni 76), .ref a0_4_3e14_5, .ref a0_4_3e14_6])), (a0_4_3e14_5, .inl (ka0_4_3e14_5, 9, .inl ((v48nf 28)))), (a0_4_3e14_6, .inl (ka0_4_3e14_6, 9, .inl ((v48nf 29)))), (a0_4_3e15, .inr (5, [.int (v48ni 77), .int (v48ni 78), .int (v48ni 79), .int (v48ni 80), .int (v48ni 81), .ref a0_4_3e15_5, .ref a0_4_3e15_6])), (a0_4_3e15_5, .inl (ka0_4_3e15_5, 9, .inl ((v48nf 30)))), (a0_4_3e15_6, .inl (ka0_4_3e15_6, 9, .inl ((v48nf 31)))), (a0_7_10, .inl (ka0_7_10, 9, .inl (fa0_7_10))), (a0_7_11, .inl (ka0_7_11, 9, .inl (fa0_7_11))), (a0_7_14, .inr (6, [.int a0_7_14_0, .int a0_7_14_1, .ref a0_7_14_2, .ref a0_7_14_3])), (a0_7_14_3, .inl (ka0_7_14_3, 3, .inl (fa0_7_14_3))), (a0_7_14_2, .inl (ka0_7_14_2, 3, .inl (fa0_7_14_2)))]) hP hD hCc hk1 hFc hP1 hD1 [.inl 0, .inl 1, .inr 3, .inr 0, .inr 1, .inr 2, .inr 4, .inr 5, .inr 6, .inr 7, .inr 8, .inr 9, .inr 10, .inr 11, .inr 12, .inr 13, .inr 14, .inr 15, .inr 16, .inr 17, .inr 18, .inr 19, .inr 20, .inr 21, .inr 22, .inr 23, .inr 24, .inr 25, .inr 26, .inr 27, .inr 28, .inr 29, .inr 30, .inr 31, .inr 32, .inr 33, .inr 34, .inr 35, .inr 36, .inr 37, .inr 38, .inr 39, .inr 40, .inr 41, .inr 42, .inr 43, .inr 44, .inr 45, .inr 46, .inr 47, .inr 48, .inr 49, .inr 50, .inr 51, .inr 52, .inl 55, .inl 56, .inl 57, .inl 58, .inl 59] (by decide +kernel) rfl (fun hP hD => ?_)
      refine lv_aload_n hx hb dX7_go_51 rfl (lv_at hl 1 rfl) ?_
      refine va_get (D := (dC, dI)) (ci := 7) (v := .ref a0_1) (C := RX7) (T := TX7) (N := 11) hx hb hts zi_X7_go_7 hown hK hP 0 rfl rfl 1 (by decide) (hts (.fieldLink RX7 19 "WaxTurns" "now" "LWaxTurns$Scene;") (zm_X7_go_r1 (List.mem_of_getElem? (i := 0) rfl))) (fun _ h9 => h9) rfl dX7_go_52 ?_
      refine va_get (D := (dC, dI)) (ci := 5) (v := .int a0_1_3) (C := RX5) (T := TX5) (N := 7) hx hb hts zi_X7_go_5 hown hK hP 2 rfl rfl 3 (by decide) (hts (.fieldLink RX7 191 "WaxTurns$Scene" "goneBits" "I") (zm_X7_go_r1 (List.mem_of_getElem? (i := 3) rfl))) (fun _ h9 => h9) rfl dX7_go_55 ?_
      refine lv_istore_n (lv' := [(3, .int a0_1_3), (2, .int 0), (0, .ref a0), (1, .int a1)]) hx hb dX7_go_58 rfl hl (by decide) rfl (fun ls hl => ?_)
      refine lv_iconst (v := 0) hx hb dX7_go_59 zk_iconst_0 ?_
      refine lv_istore (lv' := [(4, .int 0), (3, .int a0_1_3), (2, .int 0), (0, .ref a0), (1, .int a1)]) hx hb dX7_go_60 hl (by decide) rfl (fun ls hl => ?_)
      have J62 : ∀ (n : Nat) (j62l4 : Int32) (j62a0_1_0 : Int32) (j62a0_1_1 : Int32) (j62a0_1_2 : Int32) (j62a0_1_3 : Int32) (j62a0_1_4 : Int32) (j62a0_1_5_a : Nat → Int32) (j62a0_1_6_a : Nat → Int32) (H : Heap) (locs : List Loc) (ls : Array Slot), (61 : Int) - j62l4.toInt ≤ (n : Int) → (0 : Int) ≤ j62l4.toInt → j62l4.toInt ≤ (60 : Int) → (0 : Int) ≤ j62a0_1_1.toInt → j62a0_1_1.toInt ≤ (8 : Int) → va_P (dC, dI) vwCl [(a0, .inr (7, [a0g_0, .ref a0_1, a0g_2, a0g_3, .ref a0_4, a0g_5, a0g_6, .ref a0_7, .int a0_8, a0g_9, a0g_10])), (a0_7, .inr (0, [.int a0_7_0, .int a0_7_1, .int a0_7_2, a0_7g_3, a0_7g_4, .int a0_7_5, .int a0_7_6, a0_7g_7, a0_7g_8, a0_7g_9, .ref a0_7_10, .ref a0_7_11, a0_7g_12, a0_7g_13, .ref a0_7_14])), (a0_1, .inr (5, [.int j62a0_1_0, .int j62a0_1_1, .int j62a0_1_2, .int j62a0_1_3, .int j62a0_1_4, .ref a0_1_5, .ref a0_1_6])), (a0_4, .inr (1, [.int (v48ni 0), a0_4g_1, .int (v48ni 1), .ref a0_4_3, a0_4g_4])), (a0_4_3, .inl (ka0_4_3, 16, .inr (.inr (.inr (.inr (fun i9 => ([some a0_4_3e0, some a0_4_3e1, some a0_4_3e2, some a0_4_3e3, some a0_4_3e4, some a0_4_3e5, some a0_4_3e6, some a0_4_3e7, some a0_4_3e8, some a0_4_3e9, some a0_4_3e10, some a0_4_3e11, some a0_4_3e12, some a0_4_3e13, some a0_4_3e14, some a0_4_3e15] : List (Option Nat)).getD i9 none)))))), (a0_4_3e0, .inr (5, [.int (v48ni 2), .int (v48ni 3), .int (v48ni 4), .int (v48ni 5), .int (v48ni 6), .ref a0_4_3e0_5, .ref a0_4_3e0_6])), (a0_1_5, .inl (ka0_1_5, 9, .inl (j62a0_1_5_a))), (a0_4_3e0_5, .inl (ka0_4_3e0_5, 9, .inl ((v48nf 0)))), (a0_1_6, .inl (ka0_1_6, 9, .inl (j62a0_1_6_a))), (a0_4_3e0_6, .inl (ka0_4_3e0_6, 9, .inl ((v48nf 1)))), (a0_4_3e1, .inr (5, [.int (v48ni 7), .int (v48ni 8), .int (v48ni 9), .int (v48ni 10), .int (v48ni 11), .ref a0_4_3e1_5, .ref a0_4_3e1_6])), (a0_4_3e1_5, .inl (ka0_4_3e1_5, 9, .inl ((v48nf 2)))), (a0_4_3e1_6, .inl (ka0_4_3e1_6, 9, .inl ((v48nf 3)))), (a0_4_3e2, .inr (5, [.int (v48ni 12), .int (v48ni 13), .int (v48ni 14), .int (v48ni 15), .int (v48ni 16), .ref a0_4_3e2_5, .ref a0_4_3e2_6])), (a0_4_3e2_5, .inl (ka0_4_3e2_5, 9, .inl ((v48nf 4)))), (a0_4_3e2_6, .inl (ka0_4_3e2_6, 9, .inl ((v48nf 5)))), (a0_4_3e3, .inr (5, [.int (v48ni 17), .int (v48ni 18), .int (v48ni 19), .int (v48ni 20), .int (v48ni 21), .ref a0_4_3e3_5, .ref a0_4_3e3_6])), (a0_4_3e3_5, .inl (ka0_4_3e3_5, 9, .inl ((v48nf 6)))), (a0_4_3e3_6, .inl (ka0_4_3e3_6, 9, .inl ((v48nf 7)))), (a0_4_3e4, .inr (5, [.int (v48ni 22), .int (v48ni 23), .int (v48ni 24), .int (v48ni 25), .int (v48ni 26), .ref a0_4_3e4_5, .ref a0_4_3e4_6])), (a0_4_3e4_5, .inl (ka0_4_3e4_5, 9, .inl ((v48nf 8)))), (a0_4_3e4_6, .inl (ka0_4_3e4_6, 9, .inl ((v48nf 9)))), (a0_4_3e5, .inr (5, [.int (v48ni 27), .int (v48ni 28), .int (v48ni 29), .int (v48ni 30), .int (v48ni 31), .ref a0_4_3e5_5, .ref a0_4_3e5_6])), (a0_4_3e5_5, .inl (ka0_4_3e5_5, 9, .inl ((v48nf 10)))), (a0_4_3e5_6, .inl (ka0_4_3e5_6, 9, .inl ((v48nf 11)))), (a0_4_3e6, .inr (5, [.int (v48ni 32), .int (v48ni 33), .int (v48ni 34), .int (v48ni 35), .int (v48ni 36), .ref a0_4_3e6_5, .ref a0_4_3e6_6])), (a0_4_3e6_5, .inl (ka0_4_3e6_5, 9, .inl ((v48nf 12)))), (a0_4_3e6_6, .inl (ka0_4_3e6_6, 9, .inl ((v48nf 13)))), (a0_4_3e7, .inr (5, [.int (v48ni 37), .int (v48ni 38), .int (v48ni 39), .int (v48ni 40), .int (v48ni 41), .ref a0_4_3e7_5, .ref a0_4_3e7_6])), (a0_4_3e7_5, .inl (ka0_4_3e7_5, 9, .inl ((v48nf 14)))), (a0_4_3e7_6, .inl (ka0_4_3e7_6, 9, .inl ((v48nf 15)))), (a0_4_3e8, .inr (5, [.int (v48ni 42), .int (v48ni 43), .int (v48ni 44), .int (v48ni 45), .int (v48ni 46), .ref a0_4_3e8_5, .ref a0_4_3e8_6])), (a0_4_3e8_5, .inl (ka0_4_3e8_5, 9, .inl ((v48nf 16)))), (a0_4_3e8_6, .inl (ka0_4_3e8_6, 9, .inl ((v48nf 17)))), (a0_4_3e9, .inr (5, [.int (v48ni 47), .int (v48ni 48), .int (v48ni 49), .int (v48ni 50), .int (v48ni 51), .ref a0_4_3e9_5, .ref a0_4_3e9_6])), (a0_4_3e9_5, .inl (ka0_4_3e9_5, 9, .inl ((v48nf 18)))), (a0_4_3e9_6, .inl (ka0_4_3e9_6, 9, .inl ((v48nf 19)))), (a0_4_3e10, .inr (5, [.int (v48ni 52), .int (v48ni 53), .int (v48ni 54), .int (v48ni 55), .int (v48ni 56), .ref a0_4_3e10_5, .ref a0_4_3e10_6])), (a0_4_3e10_5, .inl (ka0_4_3e10_5, 9, .inl ((v48nf 20)))), (a0_4_3e10_6, .inl (ka0_4_3e10_6, 9, .inl ((v48nf 21)))), (a0_4_3e11, .inr (5, [.int (v48ni 57), .int (v48ni 58), .int (v48ni 59), .int (v48ni 60), .int (v48ni 61), .ref a0_4_3e11_5, .ref a0_4_3e11_6])), (a0_4_3e11_5, .inl (ka0_4_3e11_5, 9, .inl ((v48nf 22)))), (a0_4_3e11_6, .inl (ka0_4_3e11_6, 9, .inl ((v48nf 23)))), (a0_4_3e12, .inr (5, [.int (v48ni 62), .int (v48ni 63), .int (v48ni 64), .int (v48ni 65), .int (v48ni 66), .ref a0_4_3e12_5, .ref a0_4_3e12_6])), (a0_4_3e12_5, .inl (ka0_4_3e12_5, 9, .inl ((v48nf 24)))), (a0_4_3e12_6, .inl (ka0_4_3e12_6, 9, .inl ((v48nf 25)))), (a0_4_3e13, .inr (5, [.int (v48ni 67), .int (v48ni 68), .int (v48ni 69), .int (v48ni 70), .int (v48ni 71), .ref a0_4_3e13_5, .ref a0_4_3e13_6])), (a0_4_3e13_5, .inl (ka0_4_3e13_5, 9, .inl ((v48nf 26)))), (a0_4_3e13_6, .inl (ka0_4_3e13_6, 9, .inl ((v48nf 27)))), (a0_4_3e14, .inr (5, [.int (v48ni 72), .int (v48ni 73), .int (v48ni 74), .int (v48ni 75), .int (v48ni 76), .ref a0_4_3e14_5, .ref a0_4_3e14_6])), (a0_4_3e14_5, .inl (ka0_4_3e14_5, 9, .inl ((v48nf 28)))), (a0_4_3e14_6, .inl (ka0_4_3e14_6, 9, .inl ((v48nf 29)))), (a0_4_3e15, .inr (5, [.int (v48ni 77), .int (v48ni 78), .int (v48ni 79), .int (v48ni 80), .int (v48ni 81), .ref a0_4_3e15_5, .ref a0_4_3e15_6])), (a0_4_3e15_5, .inl (ka0_4_3e15_5, 9, .inl ((v48nf 30)))), (a0_4_3e15_6, .inl (ka0_4_3e15_6, 9, .inl ((v48nf 31)))), (a0_7_10, .inl (ka0_7_10, 9, .inl (fa0_7_10))), (a0_7_11, .inl (ka0_7_11, 9, .inl (fa0_7_11))), (a0_7_14, .inr (6, [.int a0_7_14_0, .int a0_7_14_1, .ref a0_7_14_2, .ref a0_7_14_3])), (a0_7_14_3, .inl (ka0_7_14_3, 3, .inl (fa0_7_14_3))), (a0_7_14_2, .inl (ka0_7_14_2, 3, .inl (fa0_7_14_2)))] H → va_D A [(a0, .inr (7, [a0g_0, .ref a0_1, a0g_2, a0g_3, .ref a0_4, a0g_5, a0g_6, .ref a0_7, .int a0_8, a0g_9, a0g_10])), (a0_7, .inr (0, [.int a0_7_0, .int a0_7_1, .int a0_7_2, a0_7g_3, a0_7g_4, .int a0_7_5, .int a0_7_6, a0_7g_7, a0_7g_8, a0_7g_9, .ref a0_7_10, .ref a0_7_11, a0_7g_12, a0_7g_13, .ref a0_7_14])), (a0_1, .inr (5, [.int j62a0_1_0, .int j62a0_1_1, .int j62a0_1_2, .int j62a0_1_3, .int j62a0_1_4, .ref a0_1_5, .ref a0_1_6])), (a0_4, .inr (1, [.int (v48ni 0), a0_4g_1, .int (v48ni 1), .ref a0_4_3, a0_4g_4])), (a0_4_3, .inl (ka0_4_3, 16, .inr (.inr (.inr (.inr (fun i9 => ([some a0_4_3e0, some a0_4_3e1, some a0_4_3e2, some a0_4_3e3, some a0_4_3e4, some a0_4_3e5, some a0_4_3e6, some a0_4_3e7, some a0_4_3e8, some a0_4_3e9, some a0_4_3e10, some a0_4_3e11, some a0_4_3e12, some a0_4_3e13, some a0_4_3e14, some a0_4_3e15] : List (Option Nat)).getD i9 none)))))), (a0_4_3e0, .inr (5, [.int (v48ni 2), .int (v48ni 3), .int (v48ni 4), .int (v48ni 5), .int (v48ni 6), .ref a0_4_3e0_5, .ref a0_4_3e0_6])), (a0_1_5, .inl (ka0_1_5, 9, .inl (j62a0_1_5_a))), (a0_4_3e0_5, .inl (ka0_4_3e0_5, 9, .inl ((v48nf 0)))), (a0_1_6, .inl (ka0_1_6, 9, .inl (j62a0_1_6_a))), (a0_4_3e0_6, .inl (ka0_4_3e0_6, 9, .inl ((v48nf 1)))), (a0_4_3e1, .inr (5, [.int (v48ni 7), .int (v48ni 8), .int (v48ni 9), .int (v48ni 10), .int (v48ni 11), .ref a0_4_3e1_5, .ref a0_4_3e1_6])), (a0_4_3e1_5, .inl (ka0_4_3e1_5, 9, .inl ((v48nf 2)))), (a0_4_3e1_6, .inl (ka0_4_3e1_6, 9, .inl ((v48nf 3)))), (a0_4_3e2, .inr (5, [.int (v48ni 12), .int (v48ni 13), .int (v48ni 14), .int (v48ni 15), .int (v48ni 16), .ref a0_4_3e2_5, .ref a0_4_3e2_6])), (a0_4_3e2_5, .inl (ka0_4_3e2_5, 9, .inl ((v48nf 4)))), (a0_4_3e2_6, .inl (ka0_4_3e2_6, 9, .inl ((v48nf 5)))), (a0_4_3e3, .inr (5, [.int (v48ni 17), .int (v48ni 18), .int (v48ni 19), .int (v48ni 20), .int (v48ni 21), .ref a0_4_3e3_5, .ref a0_4_3e3_6])), (a0_4_3e3_5, .inl (ka0_4_3e3_5, 9, .inl ((v48nf 6)))), (a0_4_3e3_6, .inl (ka0_4_3e3_6, 9, .inl ((v48nf 7)))), (a0_4_3e4, .inr (5, [.int (v48ni 22), .int (v48ni 23), .int (v48ni 24), .int (v48ni 25), .int (v48ni 26), .ref a0_4_3e4_5, .ref a0_4_3e4_6])), (a0_4_3e4_5, .inl (ka0_4_3e4_5, 9, .inl ((v48nf 8)))), (a0_4_3e4_6, .inl (ka0_4_3e4_6, 9, .inl ((v48nf 9)))), (a0_4_3e5, .inr (5, [.int (v48ni 27), .int (v48ni 28), .int (v48ni 29), .int (v48ni 30), .int (v48ni 31), .ref a0_4_3e5_5, .ref a0_4_3e5_6])), (a0_4_3e5_5, .inl (ka0_4_3e5_5, 9, .inl ((v48nf 10)))), (a0_4_3e5_6, .inl (ka0_4_3e5_6, 9, .inl ((v48nf 11)))), (a0_4_3e6, .inr (5, [.int (v48ni 32), .int (v48ni 33), .int (v48ni 34), .int (v48ni 35), .int (v48ni 36), .ref a0_4_3e6_5, .ref a0_4_3e6_6])), (a0_4_3e6_5, .inl (ka0_4_3e6_5, 9, .inl ((v48nf 12)))), (a0_4_3e6_6, .inl (ka0_4_3e6_6, 9, .inl ((v48nf 13)))), (a0_4_3e7, .inr (5, [.int (v48ni 37), .int (v48ni 38), .int (v48ni 39), .int (v48ni 40), .int (v48ni 41), .ref a0_4_3e7_5, .ref a0_4_3e7_6])), (a0_4_3e7_5, .inl (ka0_4_3e7_5, 9, .inl ((v48nf 14)))), (a0_4_3e7_6, .inl (ka0_4_3e7_6, 9, .inl ((v48nf 15)))), (a0_4_3e8, .inr (5, [.int (v48ni 42), .int (v48ni 43), .int (v48ni 44), .int (v48ni 45), .int (v48ni 46), .ref a0_4_3e8_5, .ref a0_4_3e8_6])), (a0_4_3e8_5, .inl (ka0_4_3e8_5, 9, .inl ((v48nf 16)))), (a0_4_3e8_6, .inl (ka0_4_3e8_6, 9, .inl ((v48nf 17)))), (a0_4_3e9, .inr (5, [.int (v48ni 47), .int (v48ni 48), .int (v48ni 49), .int (v48ni 50), .int (v48ni 51), .ref a0_4_3e9_5, .ref a0_4_3e9_6])), (a0_4_3e9_5, .inl (ka0_4_3e9_5, 9, .inl ((v48nf 18)))), (a0_4_3e9_6, .inl (ka0_4_3e9_6, 9, .inl ((v48nf 19)))), (a0_4_3e10, .inr (5, [.int (v48ni 52), .int (v48ni 53), .int (v48ni 54), .int (v48ni 55), .int (v48ni 56), .ref a0_4_3e10_5, .ref a0_4_3e10_6])), (a0_4_3e10_5, .inl (ka0_4_3e10_5, 9, .inl ((v48nf 20)))), (a0_4_3e10_6, .inl (ka0_4_3e10_6, 9, .inl ((v48nf 21)))), (a0_4_3e11, .inr (5, [.int (v48ni 57), .int (v48ni 58), .int (v48ni 59), .int (v48ni 60), .int (v48ni 61), .ref a0_4_3e11_5, .ref a0_4_3e11_6])), (a0_4_3e11_5, .inl (ka0_4_3e11_5, 9, .inl ((v48nf 22)))), (a0_4_3e11_6, .inl (ka0_4_3e11_6, 9, .inl ((v48nf 23)))), (a0_4_3e12, .inr (5, [.int (v48ni 62), .int (v48ni 63), .int (v48ni 64), .int (v48ni 65), .int (v48ni 66), .ref a0_4_3e12_5, .ref a0_4_3e12_6])), (a0_4_3e12_5, .inl (ka0_4_3e12_5, 9, .inl ((v48nf 24)))), (a0_4_3e12_6, .inl (ka0_4_3e12_6, 9, .inl ((v48nf 25)))), (a0_4_3e13, .inr (5, [.int (v48ni 67), .int (v48ni 68), .int (v48ni 69), .int (v48ni 70), .int (v48ni 71), .ref a0_4_3e13_5, .ref a0_4_3e13_6])), (a0_4_3e13_5, .inl (ka0_4_3e13_5, 9, .inl ((v48nf 26)))), (a0_4_3e13_6, .inl (ka0_4_3e13_6, 9, .inl ((v48nf 27)))), (a0_4_3e14, .inr (5, [.int (v48ni 72), .int (v48ni 73), .int (v48ni 74), .int (v48ni 75), .int (v48ni 76), .ref a0_4_3e14_5, .ref a0_4_3e14_6])), (a0_4_3e14_5, .inl (ka0_4_3e14_5, 9, .inl ((v48nf 28)))), (a0_4_3e14_6, .inl (ka0_4_3e14_6, 9, .inl ((v48nf 29)))), (a0_4_3e15, .inr (5, [.int (v48ni 77), .int (v48ni 78), .int (v48ni 79), .int (v48ni 80), .int (v48ni 81), .ref a0_4_3e15_5, .ref a0_4_3e15_6])), (a0_4_3e15_5, .inl (ka0_4_3e15_5, 9, .inl ((v48nf 30)))), (a0_4_3e15_6, .inl (ka0_4_3e15_6, 9, .inl ((v48nf 31)))), (a0_7_10, .inl (ka0_7_10, 9, .inl (fa0_7_10))), (a0_7_11, .inl (ka0_7_11, 9, .inl (fa0_7_11))), (a0_7_14, .inr (6, [.int a0_7_14_0, .int a0_7_14_1, .ref a0_7_14_2, .ref a0_7_14_3])), (a0_7_14_3, .inl (ka0_7_14_3, 3, .inl (fa0_7_14_3))), (a0_7_14_2, .inl (ka0_7_14_2, 3, .inl (fa0_7_14_2)))] → va_S A s.heap H locs → lv_has ls 5 [(0, .ref a0), (1, .int a1), (3, .int a0_1_3), (4, .int j62l4)] → K H locs (F0 m 62 ls []) := by
        intro n
        induction n with
        | zero =>
          intro j62l4 j62a0_1_0 j62a0_1_1 j62a0_1_2 j62a0_1_3 j62a0_1_4 j62a0_1_5_a j62a0_1_6_a H locs ls hm bj62l4_l bj62l4_u bj62a0_1_1_l bj62a0_1_1_u hP hD hS hl
          first | exact zg_0 hm bj62l4_u (by decide) | (have h8 := ai_min j62l4; have h9 := ai_max j62l4; exact absurd hm (by omega))
        | succ n ih62 =>
          intro j62l4 j62a0_1_0 j62a0_1_1 j62a0_1_2 j62a0_1_3 j62a0_1_4 j62a0_1_5_a j62a0_1_6_a H locs ls hm bj62l4_l bj62l4_u bj62a0_1_1_l bj62a0_1_1_u hP hD hS hl
          refine (hK0 _ _ _).mpr ?_
          have hm62 := hm
          refine lv_iload hx hb dX7_go_62 (lv_at hl 3 rfl) ?_
          refine lv_iload_n hx hb dX7_go_64 rfl (lv_at hl 1 rfl) ?_
          refine lv_icmp_ge (tgt := 92) hx hb dX7_go_65 (by decide) (fun c65 => ?_) (fun c65 => ?_)
          · have gc65 := ai_le c65
            have u65t_a1 : a1.toInt ≤ (60 : Int) := u5k0_a1
            have l65t_j62l4 : (1 : Int) ≤ j62l4.toInt := Int.le_trans l5k0_a1 gc65
            refine lv_aload_n hx hb dX7_go_92 rfl (lv_at hl 0 rfl) ?_
            refine lv_aload_n hx hb dX7_go_93 rfl (lv_at hl 0 rfl) ?_
            refine va_get (D := (dC, dI)) (ci := 7) (v := .ref a0_1) (C := RX7) (T := TX7) (N := 11) hx hb hts zi_X7_go_7 hown hK hP 0 rfl rfl 1 (by decide) (hts (.fieldLink RX7 19 "WaxTurns" "now" "LWaxTurns$Scene;") (zm_X7_go_r1 (List.mem_of_getElem? (i := 0) rfl))) (fun _ h9 => h9) rfl dX7_go_94 ?_
            refine va_get (D := (dC, dI)) (ci := 5) (v := .int j62a0_1_3) (C := RX5) (T := TX5) (N := 7) hx hb hts zi_X7_go_5 hown hK hP 2 rfl rfl 3 (by decide) (hts (.fieldLink RX7 191 "WaxTurns$Scene" "goneBits" "I") (zm_X7_go_r1 (List.mem_of_getElem? (i := 3) rfl))) (fun _ h9 => h9) rfl dX7_go_97 ?_
            refine lv_iload_n hx hb dX7_go_100 rfl (lv_at hl 2 rfl) ?_
            refine lv_iconst (v := (-1)) hx hb dX7_go_101 zk_iconst_n1 ?_
            refine lv_ixor hx hb dX7_go_102 ?_
            refine lv_topi (fun x102 ex102 => ?_)
            refine lv_iand hx hb dX7_go_103 ?_
            refine lv_topi (fun x103 ex103 => ?_)
            refine va_calli (va_runV (As := [.int x103]) (rest := []) ⟨hx, hb, hml, hown, hts⟩ (c_X7_answered l dC dI H.size a0 x103 a0g_0 (.ref a0_1) a0g_2 a0g_3 (.ref a0_4) a0g_5 a0g_6 (.ref a0_7) a0g_9 a0g_10 a0_8 ) (cwV 1 hts gX7_go_X7_answered rfl rfl rfl zd_X7_answered ⟨Nat.le_of_ble_eq_true rfl, Nat.le_of_ble_eq_true rfl⟩) ⟨ax_blind (fun _ _ _ _ _ => trivial), zr_7 (zp_K hK) (zp_P1 hP) (q0 := 0) rfl, ax_pre (zp_P1 hP) (zp_K hK) (zp_D1 hD) (fun _ _ => trivial)⟩ rfl rfl hl.1 rfl (lv_room (Nat.le_of_ble_eq_true rfl)) dX7_go_104 ⟨Nat.le_of_ble_eq_true rfl, Nat.le_of_ble_eq_true rfl⟩) hS (fun q _ h => zp_F1 hD hS hA q h) (zp_F1 hD hS hA) (fun r104 u t H locs ht hvm hw => zx_1 (fun v104na0_8 => zy_1 (fun hraw104_0 hB hz1 hk1 hS1 => zo1 hB ht hP hD hk1 (zp_F1 hD hS hA) hS1 (fun hP hK1 hD hS => ?_))))
            have hw : r104 = x103 := hw
            have hw := hw.symm
            subst hw
            exact W.iret (v := x103) hx hb hr (fun t ht hW => ⟨⟨x103, (), rfl, trivial, (fun i9 => ([v104na0_8, j62a0_1_0, j62a0_1_1, j62a0_1_2, j62a0_1_3, j62a0_1_4, (v48ni 0), (v48ni 1), (v48ni 2), (v48ni 3), (v48ni 4), (v48ni 5), (v48ni 6), (v48ni 7), (v48ni 8), (v48ni 9), (v48ni 10), (v48ni 11), (v48ni 12), (v48ni 13), (v48ni 14), (v48ni 15), (v48ni 16), (v48ni 17), (v48ni 18), (v48ni 19), (v48ni 20), (v48ni 21), (v48ni 22), (v48ni 23), (v48ni 24), (v48ni 25), (v48ni 26), (v48ni 27), (v48ni 28), (v48ni 29), (v48ni 30), (v48ni 31), (v48ni 32), (v48ni 33), (v48ni 34), (v48ni 35), (v48ni 36), (v48ni 37), (v48ni 38), (v48ni 39), (v48ni 40), (v48ni 41), (v48ni 42), (v48ni 43), (v48ni 44), (v48ni 45), (v48ni 46), (v48ni 47), (v48ni 48), (v48ni 49), (v48ni 50), (v48ni 51), (v48ni 52), (v48ni 53), (v48ni 54), (v48ni 55), (v48ni 56), (v48ni 57), (v48ni 58), (v48ni 59), (v48ni 60), (v48ni 61), (v48ni 62), (v48ni 63), (v48ni 64), (v48ni 65), (v48ni 66), (v48ni 67), (v48ni 68), (v48ni 69), (v48ni 70), (v48ni 71), (v48ni 72), (v48ni 73), (v48ni 74), (v48ni 75), (v48ni 76), (v48ni 77), (v48ni 78), (v48ni 79), (v48ni 80), (v48ni 81)] : List Int32).getD i9 0), (fun i9 => ([j62a0_1_5_a, (v48nf 0), j62a0_1_6_a, (v48nf 1), (v48nf 2), (v48nf 3), (v48nf 4), (v48nf 5), (v48nf 6), (v48nf 7), (v48nf 8), (v48nf 9), (v48nf 10), (v48nf 11), (v48nf 12), (v48nf 13), (v48nf 14), (v48nf 15), (v48nf 16), (v48nf 17), (v48nf 18), (v48nf 19), (v48nf 20), (v48nf 21), (v48nf 22), (v48nf 23), (v48nf 24), (v48nf 25), (v48nf 26), (v48nf 27), (v48nf 28), (v48nf 29), (v48nf 30), (v48nf 31)] : List (Nat → Int32)).getD i9 (fun _ => 0)), ⟨bj62a0_1_1_l, bj62a0_1_1_u⟩, ⟨bv48na0_0.1, bv48na0_0.2⟩, ⟨bv48na0_2.1, bv48na0_2.2⟩, ⟨bv48na0_3e0_1.1, bv48na0_3e0_1.2⟩, ⟨bv48na0_3e1_1.1, bv48na0_3e1_1.2⟩, ⟨bv48na0_3e2_1.1, bv48na0_3e2_1.2⟩, ⟨bv48na0_3e3_1.1, bv48na0_3e3_1.2⟩, ⟨bv48na0_3e4_1.1, bv48na0_3e4_1.2⟩, ⟨bv48na0_3e5_1.1, bv48na0_3e5_1.2⟩, ⟨bv48na0_3e6_1.1, bv48na0_3e6_1.2⟩, ⟨bv48na0_3e7_1.1, bv48na0_3e7_1.2⟩, ⟨bv48na0_3e8_1.1, bv48na0_3e8_1.2⟩, ⟨bv48na0_3e9_1.1, bv48na0_3e9_1.2⟩, ⟨bv48na0_3e10_1.1, bv48na0_3e10_1.2⟩, ⟨bv48na0_3e11_1.1, bv48na0_3e11_1.2⟩, ⟨bv48na0_3e12_1.1, bv48na0_3e12_1.2⟩, ⟨bv48na0_3e13_1.1, bv48na0_3e13_1.2⟩, ⟨bv48na0_3e14_1.1, bv48na0_3e14_1.2⟩, ⟨bv48na0_3e15_1.1, bv48na0_3e15_1.2⟩, (show v104na0_8.toInt ≠ 4 from (by first | assumption | decide | omega)), by rw [ht]; exact hP, va_K.moved hW.alike hK, hD⟩, hS.F ht⟩) hS.2.2 dX7_go_107
          · have gc65 := ai_nle c65
            have u65f_j62l4 : j62l4.toInt ≤ (59 : Int) := ai_lthi gc65 u5k0_a1
            have l65f_a1 : (1 : Int) ≤ a1.toInt := l5k0_a1
            refine lv_aload_n hx hb dX7_go_68 rfl (lv_at hl 0 rfl) ?_
            refine va_get (D := (dC, dI)) (ci := 7) (v := .ref a0_7) (C := RX7) (T := TX7) (N := 11) hx hb hts zi_X7_go_7 hown hK hP 0 rfl rfl 7 (by decide) (hts (.fieldLink RX7 57 "WaxTurns" "hall" "LWaxTurns$Hall;") (zm_X7_go_r1 (List.mem_of_getElem? (i := 4) rfl))) (fun _ h9 => h9) rfl dX7_go_69 ?_
            refine lv_aload_n hx hb dX7_go_72 rfl (lv_at hl 0 rfl) ?_
            refine va_get (D := (dC, dI)) (ci := 7) (v := .ref a0_1) (C := RX7) (T := TX7) (N := 11) hx hb hts zi_X7_go_7 hown hK hP 0 rfl rfl 1 (by decide) (hts (.fieldLink RX7 19 "WaxTurns" "now" "LWaxTurns$Scene;") (zm_X7_go_r1 (List.mem_of_getElem? (i := 0) rfl))) (fun _ h9 => h9) rfl dX7_go_73 ?_
            refine lv_aload_n hx hb dX7_go_76 rfl (lv_at hl 0 rfl) ?_
            refine va_get (D := (dC, dI)) (ci := 7) (v := .ref a0_7) (C := RX7) (T := TX7) (N := 11) hx hb hts zi_X7_go_7 hown hK hP 0 rfl rfl 7 (by decide) (hts (.fieldLink RX7 57 "WaxTurns" "hall" "LWaxTurns$Hall;") (zm_X7_go_r1 (List.mem_of_getElem? (i := 4) rfl))) (fun _ h9 => h9) rfl dX7_go_77 ?_
            refine va_get (D := (dC, dI)) (ci := 0) (v := .ref a0_7_14) (C := RX0) (T := TX0) (N := 15) hx hb hts zi_X7_go_0 hown hK hP 1 rfl rfl 14 (by decide) (hts (.fieldLink RX7 138 "WaxTurns$Hall" "watchers" "LWaxTurns$Watchers;") (zm_X7_go_r1 (List.mem_of_getElem? (i := 5) rfl))) (fun _ h9 => h9) rfl dX7_go_80 ?_
            refine zc_cutc (wc := [(a0_7, .inr (0, [.int a0_7_0, .int a0_7_1, .int a0_7_2, a0_7g_3, a0_7g_4, .int a0_7_5, .int a0_7_6, a0_7g_7, a0_7g_8, a0_7g_9, .ref a0_7_10, .ref a0_7_11, a0_7g_12, a0_7g_13, .ref a0_7_14])), (a0_1, .inr (5, [.int j62a0_1_0, .int j62a0_1_1, .int j62a0_1_2, .int j62a0_1_3, .int j62a0_1_4, .ref a0_1_5, .ref a0_1_6])), (a0_7_10, .inl (ka0_7_10, 9, .inl (fa0_7_10))), (a0_7_11, .inl (ka0_7_11, 9, .inl (fa0_7_11))), (a0_1_5, .inl (ka0_1_5, 9, .inl (j62a0_1_5_a))), (a0_7_14, .inr (6, [.int a0_7_14_0, .int a0_7_14_1, .ref a0_7_14_2, .ref a0_7_14_3])), (a0_7_14_3, .inl (ka0_7_14_3, 3, .inl (fa0_7_14_3))), (a0_7_14_2, .inl (ka0_7_14_2, 3, .inl (fa0_7_14_2))), (a0_1_6, .inl (ka0_1_6, 9, .inl (j62a0_1_6_a)))]) hP hD hS hA [1, 2, 55, 56, 6, 57, 58, 59, 8] (by decide +kernel) rfl (fun hPc hDc hFc hCc => ?_)
            have hKc := hK.sub (tys' := [(ka0_7_10, .int), (ka0_7_11, .int), (ka0_1_5, .int), (ka0_7_14_3, .int), (ka0_7_14_2, .int), (ka0_1_6, .int)]) [35, 36, 1, 37, 38, 3] rfl
            refine va_callv (va_runV (As := [.ref a0_1, .ref a0_7_14]) (rest := []) ⟨hx, hb, hml, hown, hts⟩ (c_X0_pass l dC dI H.size a0_7 a0_1 a0_7_14 a0_7_0 a0_7_1 a0_7_2 a0_7g_3 a0_7g_4 a0_7g_7 a0_7g_8 a0_7g_9 a0_7g_12 a0_7g_13 (.ref a0_7_14) a0_7_5 a0_7_6 a0_7_10 a0_7_11 j62a0_1_0 j62a0_1_1 j62a0_1_2 j62a0_1_3 j62a0_1_4 a0_1_5 a0_1_6 ka0_7_10 fa0_7_10 ka0_7_11 fa0_7_11 ka0_1_5 j62a0_1_5_a a0_7_14_0 a0_7_14_1 a0_7_14_2 a0_7_14_3 ka0_7_14_3 fa0_7_14_3 ka0_7_14_2 fa0_7_14_2 ka0_1_6 j62a0_1_6_a (Int.le_trans zq4 l5k0_a0_7_0) ba0_7_0_u ba0_7_5_l ba0_7_5_u ba0_7_6_l ba0_7_6_u bj62a0_1_1_l bj62a0_1_1_u ba0_7_14_0_l ba0_7_14_0_u bfa0_7_14_3 bfa0_7_14_2) (cwV 2 hts gX7_go_X0_pass rfl rfl rfl zd_X0_pass ⟨Nat.le_of_ble_eq_true rfl, Nat.le_of_ble_eq_true rfl⟩) ⟨ax_blind (fun _ _ _ _ hq => ⟨va_Nw.same rfl rfl (hq.1), va_Nw.same rfl rfl (hq.2.1), va_Nw.same rfl rfl (hq.2.2)⟩), zr_0 hKc hPc (q0 := 0) rfl, ax_pre hPc hKc hDc (fun _ hW => ⟨va_Nw.warmM hW hE0, va_Nw.warmM hW hE1, va_Nw.warmM hW hE2⟩)⟩ rfl rfl hl.1 rfl (lv_room (Nat.le_of_ble_eq_true rfl)) dX7_go_83 ⟨Nat.le_of_ble_eq_true rfl, Nat.le_of_ble_eq_true rfl⟩) hS (fun q _ h => hFc q h) hFc (fun u t H locs ht hvm hw => zx_7 (fun v83na1_0 v83na1_1 v83na1_2 v83na1_3 v83na1_4 v83nfa1_5 v83nfa1_6 => zy_1 (fun bv83na1_1 hB hz1 hk1 hS1 => zo hB ht hS1 (fun hP1 hK1 hD1 hS => ?_))))
            refine zc_backc (w := [(a0, .inr (7, [a0g_0, .ref a0_1, a0g_2, a0g_3, .ref a0_4, a0g_5, a0g_6, .ref a0_7, .int a0_8, a0g_9, a0g_10])), (a0_7, .inr (0, [.int a0_7_0, .int a0_7_1, .int a0_7_2, a0_7g_3, a0_7g_4, .int a0_7_5, .int a0_7_6, a0_7g_7, a0_7g_8, a0_7g_9, .ref a0_7_10, .ref a0_7_11, a0_7g_12, a0_7g_13, .ref a0_7_14])), (a0_1, .inr (5, [.int v83na1_0, .int v83na1_1, .int v83na1_2, .int v83na1_3, .int v83na1_4, .ref a0_1_5, .ref a0_1_6])), (a0_4, .inr (1, [.int (v48ni 0), a0_4g_1, .int (v48ni 1), .ref a0_4_3, a0_4g_4])), (a0_4_3, .inl (ka0_4_3, 16, .inr (.inr (.inr (.inr (fun i9 => ([some a0_4_3e0, some a0_4_3e1, some a0_4_3e2, some a0_4_3e3, some a0_4_3e4, some a0_4_3e5, some a0_4_3e6, some a0_4_3e7, some a0_4_3e8, some a0_4_3e9, some a0_4_3e10, some a0_4_3e11, some a0_4_3e12, some a0_4_3e13, some a0_4_3e14, some a0_4_3e15] : List (Option Nat)).getD i9 none)))))), (a0_4_3e0, .inr (5, [.int (v48ni 2), .int (v48ni 3), .int (v48ni 4), .int (v48ni 5), .int (v48ni 6), .ref a0_4_3e0_5, .ref a0_4_3e0_6])), (a0_1_5, .inl (ka0_1_5, 9, .inl (v83nfa1_5))), (a0_4_3e0_5, .inl (ka0_4_3e0_5, 9, .inl ((v48nf 0)))), (a0_1_6, .inl (ka0_1_6, 9, .inl (v83nfa1_6))), (a0_4_3e0_6, .inl (ka0_4_3e0_6, 9, .inl ((v48nf 1)))), (a0_4_3e1, .inr (5, [.int (v48ni 7), .int (v48ni 8), .int (v48ni 9), .int (v48ni 10), .int (v48ni 11), .ref a0_4_3e1_5, .ref a0_4_3e1_6])), (a0_4_3e1_5, .inl (ka0_4_3e1_5, 9, .inl ((v48nf 2)))), (a0_4_3e1_6, .inl (ka0_4_3e1_6, 9, .inl ((v48nf 3)))), (a0_4_3e2, .inr (5, [.int (v48ni 12), .int (v48ni 13), .int (v48ni 14), .int (v48ni 15), .int (v48ni 16), .ref a0_4_3e2_5, .ref a0_4_3e2_6])), (a0_4_3e2_5, .inl (ka0_4_3e2_5, 9, .inl ((v48nf 4)))), (a0_4_3e2_6, .inl (ka0_4_3e2_6, 9, .inl ((v48nf 5)))), (a0_4_3e3, .inr (5, [.int (v48ni 17), .int (v48ni 18), .int (v48ni 19), .int (v48ni 20), .int (v48ni 21), .ref a0_4_3e3_5, .ref a0_4_3e3_6])), (a0_4_3e3_5, .inl (ka0_4_3e3_5, 9, .inl ((v48nf 6)))), (a0_4_3e3_6, .inl (ka0_4_3e3_6, 9, .inl ((v48nf 7)))), (a0_4_3e4, .inr (5, [.int (v48ni 22), .int (v48ni 23), .int (v48ni 24), .int (v48ni 25), .int (v48ni 26), .ref a0_4_3e4_5, .ref a0_4_3e4_6])), (a0_4_3e4_5, .inl (ka0_4_3e4_5, 9, .inl ((v48nf 8)))), (a0_4_3e4_6, .inl (ka0_4_3e4_6, 9, .inl ((v48nf 9)))), (a0_4_3e5, .inr (5, [.int (v48ni 27), .int (v48ni 28), .int (v48ni 29), .int (v48ni 30), .int (v48ni 31), .ref a0_4_3e5_5, .ref a0_4_3e5_6])), (a0_4_3e5_5, .inl (ka0_4_3e5_5, 9, .inl ((v48nf 10)))), (a0_4_3e5_6, .inl (ka0_4_3e5_6, 9, .inl ((v48nf 11)))), (a0_4_3e6, .inr (5, [.int (v48ni 32), .int (v48ni 33), .int (v48ni 34), .int (v48ni 35), .int (v48ni 36), .ref a0_4_3e6_5, .ref a0_4_3e6_6])), (a0_4_3e6_5, .inl (ka0_4_3e6_5, 9, .inl ((v48nf 12)))), (a0_4_3e6_6, .inl (ka0_4_3e6_6, 9, .inl ((v48nf 13)))), (a0_4_3e7, .inr (5, [.int (v48ni 37), .int (v48ni 38), .int (v48ni 39), .int (v48ni 40), .int (v48ni 41), .ref a0_4_3e7_5, .ref a0_4_3e7_6])), (a0_4_3e7_5, .inl (ka0_4_3e7_5, 9, .inl ((v48nf 14)))), (a0_4_3e7_6, .inl (ka0_4_3e7_6, 9, .inl ((v48nf 15)))), (a0_4_3e8, .inr (5, [.int (v48ni 42), .int (v48ni 43), .int (v48ni 44), .int (v48ni 45), .int (v48ni 46), .ref a0_4_3e8_5, .ref a0_4_3e8_6])), (a0_4_3e8_5, .inl (ka0_4_3e8_5, 9, .inl ((v48nf 16)))), (a0_4_3e8_6, .inl (ka0_4_3e8_6, 9, .inl ((v48nf 17)))), (a0_4_3e9, .inr (5, [.int (v48ni 47), .int (v48ni 48), .int (v48ni 49), .int (v48ni 50), .int (v48ni 51), .ref a0_4_3e9_5, .ref a0_4_3e9_6])), (a0_4_3e9_5, .inl (ka0_4_3e9_5, 9, .inl ((v48nf 18)))), (a0_4_3e9_6, .inl (ka0_4_3e9_6, 9, .inl ((v48nf 19)))), (a0_4_3e10, .inr (5, [.int (v48ni 52), .int (v48ni 53), .int (v48ni 54), .int (v48ni 55), .int (v48ni 56), .ref a0_4_3e10_5, .ref a0_4_3e10_6])), (a0_4_3e10_5, .inl (ka0_4_3e10_5, 9, .inl ((v48nf 20)))), (a0_4_3e10_6, .inl (ka0_4_3e10_6, 9, .inl ((v48nf 21)))), (a0_4_3e11, .inr (5, [.int (v48ni 57), .int (v48ni 58), .int (v48ni 59), .int (v48ni 60), .int (v48ni 61), .ref a0_4_3e11_5, .ref a0_4_3e11_6])), (a0_4_3e11_5, .inl (ka0_4_3e11_5, 9, .inl ((v48nf 22)))), (a0_4_3e11_6, .inl (ka0_4_3e11_6, 9, .inl ((v48nf 23)))), (a0_4_3e12, .inr (5, [.int (v48ni 62), .int (v48ni 63), .int (v48ni 64), .int (v48ni 65), .int (v48ni 66), .ref a0_4_3e12_5, .ref a0_4_3e12_6])), (a0_4_3e12_5, .inl (ka0_4_3e12_5, 9, .inl ((v48nf 24)))), (a0_4_3e12_6, .inl (ka0_4_3e12_6, 9, .inl ((v48nf 25)))), (a0_4_3e13, .inr (5, [.int (v48ni 67), .int (v48ni 68), .int (v48ni 69), .int (v48ni 70), .int (v48ni 71), .ref a0_4_3e13_5, .ref a0_4_3e13_6])), (a0_4_3e13_5, .inl (ka0_4_3e13_5, 9, .inl ((v48nf 26)))), (a0_4_3e13_6, .inl (ka0_4_3e13_6, 9, .inl ((v48nf 27)))), (a0_4_3e14, .inr (5, [.int (v48ni 72), .int (v48ni 73), .int (v48ni 74), .int (v48ni 75), .int (v48ni 76), .ref a0_4_3e14_5, .ref a0_4_3e14_6])), (a0_4_3e14_5, .inl (ka0_4_3e14_5, 9, .inl ((v48nf 28)))), (a0_4_3e14_6, .inl (ka0_4_3e14_6, 9, .inl ((v48nf 29)))), (a0_4_3e15, .inr (5, [.int (v48ni 77), .int (v48ni 78), .int (v48ni 79), .int (v48ni 80), .int (v48ni 81), .ref a0_4_3e15_5, .ref a0_4_3e15_6])), (a0_4_3e15_5, .inl (ka0_4_3e15_5, 9, .inl ((v48nf 30)))), (a0_4_3e15_6, .inl (ka0_4_3e15_6, 9, .inl ((v48nf 31)))), (a0_7_10, .inl (ka0_7_10, 9, .inl (fa0_7_10))), (a0_7_11, .inl (ka0_7_11, 9, .inl (fa0_7_11))), (a0_7_14, .inr (6, [.int a0_7_14_0, .int a0_7_14_1, .ref a0_7_14_2, .ref a0_7_14_3])), (a0_7_14_3, .inl (ka0_7_14_3, 3, .inl (fa0_7_14_3))), (a0_7_14_2, .inl (ka0_7_14_2, 3, .inl (fa0_7_14_2)))]) hP hD hCc hk1 hFc hP1 hD1 [.inl 0, .inr 0, .inr 1, .inl 3, .inl 4, .inl 5, .inr 4, .inl 7, .inr 8, .inl 9, .inl 10, .inl 11, .inl 12, .inl 13, .inl 14, .inl 15, .inl 16, .inl 17, .inl 18, .inl 19, .inl 20, .inl 21, .inl 22, .inl 23, .inl 24, .inl 25, .inl 26, .inl 27, .inl 28, .inl 29, .inl 30, .inl 31, .inl 32, .inl 33, .inl 34, .inl 35, .inl 36, .inl 37, .inl 38, .inl 39, .inl 40, .inl 41, .inl 42, .inl 43, .inl 44, .inl 45, .inl 46, .inl 47, .inl 48, .inl 49, .inl 50, .inl 51, .inl 52, .inl 53, .inl 54, .inr 2, .inr 3, .inr 5, .inr 6, .inr 7] (by decide +kernel) rfl (fun hP hD => ?_)
            obtain ⟨x86, ex86⟩ : ∃ y : Int32, y = j62l4 + Int32.ofInt 1 := ⟨_, rfl⟩
            have qx86 : x86.toInt = j62l4.toInt + 1 := ai_inc ex86 (by decide) (by decide) u65f_j62l4 (by decide)
            have bx86 : (1 : Int) ≤ x86.toInt ∧ x86.toInt ≤ 60 := ⟨by rw [qx86]; exact Int.add_le_add bj62l4_l (Int.le_refl _), by rw [qx86]; exact Int.add_le_add u65f_j62l4 (Int.le_refl _)⟩
            refine lv_iinc (v := x86) (lv' := [(4, .int x86), (0, .ref a0), (1, .int a1), (3, .int a0_1_3)]) hx hb dX7_go_86 hl (k := 3) rfl ex86.symm (by decide) rfl (fun ls hl => ?_)
            refine lv_goto (tgt := 62) hx hb dX7_go_89 (by decide) ?_
            exact (hK0 _ _ _).mp (ih62 x86 v83na1_0 v83na1_1 v83na1_2 v83na1_3 v83na1_4 v83nfa1_5 v83nfa1_6 _ _ _ (by first | exact zg_s hm62 qx86 | (have h0 := qx86; omega)) (Int.le_trans zq4 bx86.1) bx86.2 bv83na1_1.1 bv83na1_1.2 hP hD hS (lv_sub hl [1, 2, 3, 0] rfl))
      exact (hK0 _ _ _).mp (J62 61 0 a0_1_0 a0_1_1 a0_1_2 a0_1_3 a0_1_4 fa0_1_5 fa0_1_6 _ _ _ (by first | decide +kernel | (have h1 : (0 : Int) ≤ (0 : Int32).toInt := zq5; have h2 : (0 : Int32).toInt ≤ (0 : Int) := zq6; omega)) zq5 (Int.le_trans zq6 zq130) ba0_1_1_l ba0_1_1_u hP hD hS (lv_sub hl [3, 4, 1, 0] rfl))
    · have gc31 := ai_nle c31
      have l31f_x27 : (10000 : Int) ≤ x27.toInt := ai_ltlo gc31 zq131
      refine lv_aload_n hx hb dX7_go_34 rfl (lv_at hl 1 rfl) ?_
      refine lv_iconst (v := 3) hx hb dX7_go_35 zk_iconst_3 ?_
      refine va_calli (va_runV (As := [.int 3]) (rest := []) ⟨hx, hb, hml, hown, hts⟩ (c_X7_refused l dC dI H.size a0 3 a0g_0 (.ref a0_1) a0g_2 a0g_3 (.ref a0_4) a0g_5 a0g_6 (.ref a0_7) a0g_9 a0g_10 a0_8 (Int.le_trans zq11 zq8) zq9) (cwV 1 hts gX7_go_X7_refused rfl rfl rfl zd_X7_refused ⟨Nat.le_of_ble_eq_true rfl, Nat.le_of_ble_eq_true rfl⟩) ⟨ax_blind (fun _ _ _ _ _ => trivial), zr_7 (zp_K hK) (zp_P1 hP) (q0 := 0) rfl, ax_pre (zp_P1 hP) (zp_K hK) (zp_D1 hD) (fun _ _ => trivial)⟩ rfl rfl hl.1 rfl (lv_room (Nat.le_of_ble_eq_true rfl)) dX7_go_36 ⟨Nat.le_of_ble_eq_true rfl, Nat.le_of_ble_eq_true rfl⟩) hS (fun q _ h => zp_F1 hD hS hA q h) (zp_F1 hD hS hA) (fun r36 u t H locs ht hvm hw => zx_1 (fun v36na0_8 => zy_1 (fun hraw36_0 hB hz1 hk1 hS1 => zo1 hB ht hP hD hk1 (zp_F1 hD hS hA) hS1 (fun hP hK1 hD hS => ?_))))
      have hw : r36 = (-1) := hw
      have hw := hw.symm
      subst hw
      exact W.iret (v := (-1)) hx hb hr (fun t ht hW => ⟨⟨(-1), (), rfl, trivial, (fun i9 => ([v36na0_8, a0_1_0, a0_1_1, a0_1_2, a0_1_3, a0_1_4, a0_4_0, a0_4_2, a0_4_3e0_0, a0_4_3e0_1, a0_4_3e0_2, a0_4_3e0_3, a0_4_3e0_4, a0_4_3e1_0, a0_4_3e1_1, a0_4_3e1_2, a0_4_3e1_3, a0_4_3e1_4, a0_4_3e2_0, a0_4_3e2_1, a0_4_3e2_2, a0_4_3e2_3, a0_4_3e2_4, a0_4_3e3_0, a0_4_3e3_1, a0_4_3e3_2, a0_4_3e3_3, a0_4_3e3_4, a0_4_3e4_0, a0_4_3e4_1, a0_4_3e4_2, a0_4_3e4_3, a0_4_3e4_4, a0_4_3e5_0, a0_4_3e5_1, a0_4_3e5_2, a0_4_3e5_3, a0_4_3e5_4, a0_4_3e6_0, a0_4_3e6_1, a0_4_3e6_2, a0_4_3e6_3, a0_4_3e6_4, a0_4_3e7_0, a0_4_3e7_1, a0_4_3e7_2, a0_4_3e7_3, a0_4_3e7_4, a0_4_3e8_0, a0_4_3e8_1, a0_4_3e8_2, a0_4_3e8_3, a0_4_3e8_4, a0_4_3e9_0, a0_4_3e9_1, a0_4_3e9_2, a0_4_3e9_3, a0_4_3e9_4, a0_4_3e10_0, a0_4_3e10_1, a0_4_3e10_2, a0_4_3e10_3, a0_4_3e10_4, a0_4_3e11_0, a0_4_3e11_1, a0_4_3e11_2, a0_4_3e11_3, a0_4_3e11_4, a0_4_3e12_0, a0_4_3e12_1, a0_4_3e12_2, a0_4_3e12_3, a0_4_3e12_4, a0_4_3e13_0, a0_4_3e13_1, a0_4_3e13_2, a0_4_3e13_3, a0_4_3e13_4, a0_4_3e14_0, a0_4_3e14_1, a0_4_3e14_2, a0_4_3e14_3, a0_4_3e14_4, a0_4_3e15_0, a0_4_3e15_1, a0_4_3e15_2, a0_4_3e15_3, a0_4_3e15_4] : List Int32).getD i9 0), (fun i9 => ([fa0_1_5, fa0_4_3e0_5, fa0_1_6, fa0_4_3e0_6, fa0_4_3e1_5, fa0_4_3e1_6, fa0_4_3e2_5, fa0_4_3e2_6, fa0_4_3e3_5, fa0_4_3e3_6, fa0_4_3e4_5, fa0_4_3e4_6, fa0_4_3e5_5, fa0_4_3e5_6, fa0_4_3e6_5, fa0_4_3e6_6, fa0_4_3e7_5, fa0_4_3e7_6, fa0_4_3e8_5, fa0_4_3e8_6, fa0_4_3e9_5, fa0_4_3e9_6, fa0_4_3e10_5, fa0_4_3e10_6, fa0_4_3e11_5, fa0_4_3e11_6, fa0_4_3e12_5, fa0_4_3e12_6, fa0_4_3e13_5, fa0_4_3e13_6, fa0_4_3e14_5, fa0_4_3e14_6, fa0_4_3e15_5, fa0_4_3e15_6] : List (Nat → Int32)).getD i9 (fun _ => 0)), ⟨ba0_1_1_l, ba0_1_1_u⟩, ⟨ba0_4_0_l, ba0_4_0_u⟩, ⟨ba0_4_2_l, ba0_4_2_u⟩, ⟨ba0_4_3e0_1_l, ba0_4_3e0_1_u⟩, ⟨ba0_4_3e1_1_l, ba0_4_3e1_1_u⟩, ⟨ba0_4_3e2_1_l, ba0_4_3e2_1_u⟩, ⟨ba0_4_3e3_1_l, ba0_4_3e3_1_u⟩, ⟨ba0_4_3e4_1_l, ba0_4_3e4_1_u⟩, ⟨ba0_4_3e5_1_l, ba0_4_3e5_1_u⟩, ⟨ba0_4_3e6_1_l, ba0_4_3e6_1_u⟩, ⟨ba0_4_3e7_1_l, ba0_4_3e7_1_u⟩, ⟨ba0_4_3e8_1_l, ba0_4_3e8_1_u⟩, ⟨ba0_4_3e9_1_l, ba0_4_3e9_1_u⟩, ⟨ba0_4_3e10_1_l, ba0_4_3e10_1_u⟩, ⟨ba0_4_3e11_1_l, ba0_4_3e11_1_u⟩, ⟨ba0_4_3e12_1_l, ba0_4_3e12_1_u⟩, ⟨ba0_4_3e13_1_l, ba0_4_3e13_1_u⟩, ⟨ba0_4_3e14_1_l, ba0_4_3e14_1_u⟩, ⟨ba0_4_3e15_1_l, ba0_4_3e15_1_u⟩, (show v36na0_8.toInt ≠ 4 from (by first | assumption | decide | omega)), by rw [ht]; exact hP, va_K.moved hW.alike hK, hD⟩, hS.F ht⟩) hS.2.2 dX7_go_39
  · subst hw
    refine lv_istore_n (lv' := [(2, .int 1), (0, .ref a0), (1, .int a1)]) hx hb dX7_go_8 rfl hl (by decide) rfl (fun ls hl => ?_)
    refine lv_iload_n hx hb dX7_go_9 rfl (lv_at hl 0 rfl) ?_
    refine lv_if_eq (tgt := 19) hx hb dX7_go_10 (by decide) (fun c10 => absurd c10 (by decide +kernel)) (fun _ => ?_)
    refine lv_aload_n hx hb dX7_go_13 rfl (lv_at hl 1 rfl) ?_
    refine lv_iload_n hx hb dX7_go_14 rfl (lv_at hl 0 rfl) ?_
    refine va_calli (va_runV (As := [.int 1]) (rest := []) ⟨hx, hb, hml, hown, hts⟩ (c_X7_refused l dC dI H.size a0 1 a0g_0 (.ref a0_1) a0g_2 a0g_3 (.ref a0_4) a0g_5 a0g_6 (.ref a0_7) a0g_9 a0g_10 a0_8 (Int.le_trans zq4 zq1) (Int.le_trans zq0 zq69)) (cwV 1 hts gX7_go_X7_refused rfl rfl rfl zd_X7_refused ⟨Nat.le_of_ble_eq_true rfl, Nat.le_of_ble_eq_true rfl⟩) ⟨ax_blind (fun _ _ _ _ _ => trivial), zr_7 (zp_K hK) (zp_P1 hP) (q0 := 0) rfl, ax_pre (zp_P1 hP) (zp_K hK) (zp_D1 hD) (fun _ _ => trivial)⟩ rfl rfl hl.1 rfl (lv_room (Nat.le_of_ble_eq_true rfl)) dX7_go_15 ⟨Nat.le_of_ble_eq_true rfl, Nat.le_of_ble_eq_true rfl⟩) hS (fun q _ h => zp_F1 hD hS hA q h) (zp_F1 hD hS hA) (fun r15 u t H locs ht hvm hw => zx_1 (fun v15na0_8 => zy_1 (fun hraw15_0 hB hz1 hk1 hS1 => zo1 hB ht hP hD hk1 (zp_F1 hD hS hA) hS1 (fun hP hK1 hD hS => ?_))))
    have hw : r15 = (-1) := hw
    have hw := hw.symm
    subst hw
    exact W.iret (v := (-1)) hx hb hr (fun t ht hW => ⟨⟨(-1), (), rfl, trivial, (fun i9 => ([v15na0_8, a0_1_0, a0_1_1, a0_1_2, a0_1_3, a0_1_4, a0_4_0, a0_4_2, a0_4_3e0_0, a0_4_3e0_1, a0_4_3e0_2, a0_4_3e0_3, a0_4_3e0_4, a0_4_3e1_0, a0_4_3e1_1, a0_4_3e1_2, a0_4_3e1_3, a0_4_3e1_4, a0_4_3e2_0, a0_4_3e2_1, a0_4_3e2_2, a0_4_3e2_3, a0_4_3e2_4, a0_4_3e3_0, a0_4_3e3_1, a0_4_3e3_2, a0_4_3e3_3, a0_4_3e3_4, a0_4_3e4_0, a0_4_3e4_1, a0_4_3e4_2, a0_4_3e4_3, a0_4_3e4_4, a0_4_3e5_0, a0_4_3e5_1, a0_4_3e5_2, a0_4_3e5_3, a0_4_3e5_4, a0_4_3e6_0, a0_4_3e6_1, a0_4_3e6_2, a0_4_3e6_3, a0_4_3e6_4, a0_4_3e7_0, a0_4_3e7_1, a0_4_3e7_2, a0_4_3e7_3, a0_4_3e7_4, a0_4_3e8_0, a0_4_3e8_1, a0_4_3e8_2, a0_4_3e8_3, a0_4_3e8_4, a0_4_3e9_0, a0_4_3e9_1, a0_4_3e9_2, a0_4_3e9_3, a0_4_3e9_4, a0_4_3e10_0, a0_4_3e10_1, a0_4_3e10_2, a0_4_3e10_3, a0_4_3e10_4, a0_4_3e11_0, a0_4_3e11_1, a0_4_3e11_2, a0_4_3e11_3, a0_4_3e11_4, a0_4_3e12_0, a0_4_3e12_1, a0_4_3e12_2, a0_4_3e12_3, a0_4_3e12_4, a0_4_3e13_0, a0_4_3e13_1, a0_4_3e13_2, a0_4_3e13_3, a0_4_3e13_4, a0_4_3e14_0, a0_4_3e14_1, a0_4_3e14_2, a0_4_3e14_3, a0_4_3e14_4, a0_4_3e15_0, a0_4_3e15_1, a0_4_3e15_2, a0_4_3e15_3, a0_4_3e15_4] : List Int32).getD i9 0), (fun i9 => ([fa0_1_5, fa0_4_3e0_5, fa0_1_6, fa0_4_3e0_6, fa0_4_3e1_5, fa0_4_3e1_6, fa0_4_3e2_5, fa0_4_3e2_6, fa0_4_3e3_5, fa0_4_3e3_6, fa0_4_3e4_5, fa0_4_3e4_6, fa0_4_3e5_5, fa0_4_3e5_6, fa0_4_3e6_5, fa0_4_3e6_6, fa0_4_3e7_5, fa0_4_3e7_6, fa0_4_3e8_5, fa0_4_3e8_6, fa0_4_3e9_5, fa0_4_3e9_6, fa0_4_3e10_5, fa0_4_3e10_6, fa0_4_3e11_5, fa0_4_3e11_6, fa0_4_3e12_5, fa0_4_3e12_6, fa0_4_3e13_5, fa0_4_3e13_6, fa0_4_3e14_5, fa0_4_3e14_6, fa0_4_3e15_5, fa0_4_3e15_6] : List (Nat → Int32)).getD i9 (fun _ => 0)), ⟨ba0_1_1_l, ba0_1_1_u⟩, ⟨ba0_4_0_l, ba0_4_0_u⟩, ⟨ba0_4_2_l, ba0_4_2_u⟩, ⟨ba0_4_3e0_1_l, ba0_4_3e0_1_u⟩, ⟨ba0_4_3e1_1_l, ba0_4_3e1_1_u⟩, ⟨ba0_4_3e2_1_l, ba0_4_3e2_1_u⟩, ⟨ba0_4_3e3_1_l, ba0_4_3e3_1_u⟩, ⟨ba0_4_3e4_1_l, ba0_4_3e4_1_u⟩, ⟨ba0_4_3e5_1_l, ba0_4_3e5_1_u⟩, ⟨ba0_4_3e6_1_l, ba0_4_3e6_1_u⟩, ⟨ba0_4_3e7_1_l, ba0_4_3e7_1_u⟩, ⟨ba0_4_3e8_1_l, ba0_4_3e8_1_u⟩, ⟨ba0_4_3e9_1_l, ba0_4_3e9_1_u⟩, ⟨ba0_4_3e10_1_l, ba0_4_3e10_1_u⟩, ⟨ba0_4_3e11_1_l, ba0_4_3e11_1_u⟩, ⟨ba0_4_3e12_1_l, ba0_4_3e12_1_u⟩, ⟨ba0_4_3e13_1_l, ba0_4_3e13_1_u⟩, ⟨ba0_4_3e14_1_l, ba0_4_3e14_1_u⟩, ⟨ba0_4_3e15_1_l, ba0_4_3e15_1_u⟩, (show v15na0_8.toInt ≠ 4 from (by first | assumption | decide | omega)), by rw [ht]; exact hP, va_K.moved hW.alike hK, hD⟩, hS.F ht⟩) hS.2.2 dX7_go_18
  · subst hw
    refine lv_istore_n (lv' := [(2, .int 2), (0, .ref a0), (1, .int a1)]) hx hb dX7_go_8 rfl hl (by decide) rfl (fun ls hl => ?_)
    refine lv_iload_n hx hb dX7_go_9 rfl (lv_at hl 0 rfl) ?_
    refine lv_if_eq (tgt := 19) hx hb dX7_go_10 (by decide) (fun c10 => absurd c10 (by decide +kernel)) (fun _ => ?_)
    refine lv_aload_n hx hb dX7_go_13 rfl (lv_at hl 1 rfl) ?_
    refine lv_iload_n hx hb dX7_go_14 rfl (lv_at hl 0 rfl) ?_
    refine va_calli (va_runV (As := [.int 2]) (rest := []) ⟨hx, hb, hml, hown, hts⟩ (c_X7_refused l dC dI H.size a0 2 a0g_0 (.ref a0_1) a0g_2 a0g_3 (.ref a0_4) a0g_5 a0g_6 (.ref a0_7) a0g_9 a0g_10 a0_8 (Int.le_trans zq50 zq12) (Int.le_trans zq13 zq75)) (cwV 1 hts gX7_go_X7_refused rfl rfl rfl zd_X7_refused ⟨Nat.le_of_ble_eq_true rfl, Nat.le_of_ble_eq_true rfl⟩) ⟨ax_blind (fun _ _ _ _ _ => trivial), zr_7 (zp_K hK) (zp_P1 hP) (q0 := 0) rfl, ax_pre (zp_P1 hP) (zp_K hK) (zp_D1 hD) (fun _ _ => trivial)⟩ rfl rfl hl.1 rfl (lv_room (Nat.le_of_ble_eq_true rfl)) dX7_go_15 ⟨Nat.le_of_ble_eq_true rfl, Nat.le_of_ble_eq_true rfl⟩) hS (fun q _ h => zp_F1 hD hS hA q h) (zp_F1 hD hS hA) (fun r15 u t H locs ht hvm hw => zx_1 (fun v15na0_8 => zy_1 (fun hraw15_0 hB hz1 hk1 hS1 => zo1 hB ht hP hD hk1 (zp_F1 hD hS hA) hS1 (fun hP hK1 hD hS => ?_))))
    have hw : r15 = (-1) := hw
    have hw := hw.symm
    subst hw
    exact W.iret (v := (-1)) hx hb hr (fun t ht hW => ⟨⟨(-1), (), rfl, trivial, (fun i9 => ([v15na0_8, a0_1_0, a0_1_1, a0_1_2, a0_1_3, a0_1_4, a0_4_0, a0_4_2, a0_4_3e0_0, a0_4_3e0_1, a0_4_3e0_2, a0_4_3e0_3, a0_4_3e0_4, a0_4_3e1_0, a0_4_3e1_1, a0_4_3e1_2, a0_4_3e1_3, a0_4_3e1_4, a0_4_3e2_0, a0_4_3e2_1, a0_4_3e2_2, a0_4_3e2_3, a0_4_3e2_4, a0_4_3e3_0, a0_4_3e3_1, a0_4_3e3_2, a0_4_3e3_3, a0_4_3e3_4, a0_4_3e4_0, a0_4_3e4_1, a0_4_3e4_2, a0_4_3e4_3, a0_4_3e4_4, a0_4_3e5_0, a0_4_3e5_1, a0_4_3e5_2, a0_4_3e5_3, a0_4_3e5_4, a0_4_3e6_0, a0_4_3e6_1, a0_4_3e6_2, a0_4_3e6_3, a0_4_3e6_4, a0_4_3e7_0, a0_4_3e7_1, a0_4_3e7_2, a0_4_3e7_3, a0_4_3e7_4, a0_4_3e8_0, a0_4_3e8_1, a0_4_3e8_2, a0_4_3e8_3, a0_4_3e8_4, a0_4_3e9_0, a0_4_3e9_1, a0_4_3e9_2, a0_4_3e9_3, a0_4_3e9_4, a0_4_3e10_0, a0_4_3e10_1, a0_4_3e10_2, a0_4_3e10_3, a0_4_3e10_4, a0_4_3e11_0, a0_4_3e11_1, a0_4_3e11_2, a0_4_3e11_3, a0_4_3e11_4, a0_4_3e12_0, a0_4_3e12_1, a0_4_3e12_2, a0_4_3e12_3, a0_4_3e12_4, a0_4_3e13_0, a0_4_3e13_1, a0_4_3e13_2, a0_4_3e13_3, a0_4_3e13_4, a0_4_3e14_0, a0_4_3e14_1, a0_4_3e14_2, a0_4_3e14_3, a0_4_3e14_4, a0_4_3e15_0, a0_4_3e15_1, a0_4_3e15_2, a0_4_3e15_3, a0_4_3e15_4] : List Int32).getD i9 0), (fun i9 => ([fa0_1_5, fa0_4_3e0_5, fa0_1_6, fa0_4_3e0_6, fa0_4_3e1_5, fa0_4_3e1_6, fa0_4_3e2_5, fa0_4_3e2_6, fa0_4_3e3_5, fa0_4_3e3_6, fa0_4_3e4_5, fa0_4_3e4_6, fa0_4_3e5_5, fa0_4_3e5_6, fa0_4_3e6_5, fa0_4_3e6_6, fa0_4_3e7_5, fa0_4_3e7_6, fa0_4_3e8_5, fa0_4_3e8_6, fa0_4_3e9_5, fa0_4_3e9_6, fa0_4_3e10_5, fa0_4_3e10_6, fa0_4_3e11_5, fa0_4_3e11_6, fa0_4_3e12_5, fa0_4_3e12_6, fa0_4_3e13_5, fa0_4_3e13_6, fa0_4_3e14_5, fa0_4_3e14_6, fa0_4_3e15_5, fa0_4_3e15_6] : List (Nat → Int32)).getD i9 (fun _ => 0)), ⟨ba0_1_1_l, ba0_1_1_u⟩, ⟨ba0_4_0_l, ba0_4_0_u⟩, ⟨ba0_4_2_l, ba0_4_2_u⟩, ⟨ba0_4_3e0_1_l, ba0_4_3e0_1_u⟩, ⟨ba0_4_3e1_1_l, ba0_4_3e1_1_u⟩, ⟨ba0_4_3e2_1_l, ba0_4_3e2_1_u⟩, ⟨ba0_4_3e3_1_l, ba0_4_3e3_1_u⟩, ⟨ba0_4_3e4_1_l, ba0_4_3e4_1_u⟩, ⟨ba0_4_3e5_1_l, ba0_4_3e5_1_u⟩, ⟨ba0_4_3e6_1_l, ba0_4_3e6_1_u⟩, ⟨ba0_4_3e7_1_l, ba0_4_3e7_1_u⟩, ⟨ba0_4_3e8_1_l, ba0_4_3e8_1_u⟩, ⟨ba0_4_3e9_1_l, ba0_4_3e9_1_u⟩, ⟨ba0_4_3e10_1_l, ba0_4_3e10_1_u⟩, ⟨ba0_4_3e11_1_l, ba0_4_3e11_1_u⟩, ⟨ba0_4_3e12_1_l, ba0_4_3e12_1_u⟩, ⟨ba0_4_3e13_1_l, ba0_4_3e13_1_u⟩, ⟨ba0_4_3e14_1_l, ba0_4_3e14_1_u⟩, ⟨ba0_4_3e15_1_l, ba0_4_3e15_1_u⟩, (show v15na0_8.toInt ≠ 4 from (by first | assumption | decide | omega)), by rw [ht]; exact hP, va_K.moved hW.alike hK, hD⟩, hS.F ht⟩) hS.2.2 dX7_go_18
end P125_safe
section P126_safe
set_option maxHeartbeats 4000000 in
set_option maxRecDepth 100000 in
set_option maxHeartbeats 4000000 in
set_option maxRecDepth 100000 in
theorem c_X7_put (l : Launch) (dC : Nat → ClassId) (dI : Nat → Nat → Nat) (sz : Nat) (a0 : Nat) (a1 : Int32) (a0g_0 a0g_2 a0g_3 a0g_5 a0g_6 a0g_9 a0g_10 : Value) (a0_1 : Nat) (a0_4 : Nat) (a0_7 : Nat) (a0_8 : Int32) (a0_7_0 : Int32) (a0_7g_1 a0_7g_2 a0_7g_3 a0_7g_4 a0_7g_5 a0_7g_6 a0_7g_7 a0_7g_8 a0_7g_9 a0_7g_10 a0_7g_11 a0_7g_12 a0_7g_13 a0_7g_14 : Value) (a0_1_0 : Int32) (a0_1_1 : Int32) (a0_1_2 : Int32) (a0_1_3 : Int32) (a0_1_4 : Int32) (a0_1_5 : Nat) (a0_1_6 : Nat) (ka0_1_5 : ClassId) (fa0_1_5 : Nat → Int32) (a0_4_0 : Int32) (a0_4g_1 a0_4g_4 : Value) (a0_4_2 : Int32) (a0_4_3 : Nat) (ka0_4_3 : ClassId) (a0_4_3e0 : Nat) (a0_4_3e1 : Nat) (a0_4_3e2 : Nat) (a0_4_3e3 : Nat) (a0_4_3e4 : Nat) (a0_4_3e5 : Nat) (a0_4_3e6 : Nat) (a0_4_3e7 : Nat) (a0_4_3e8 : Nat) (a0_4_3e9 : Nat) (a0_4_3e10 : Nat) (a0_4_3e11 : Nat) (a0_4_3e12 : Nat) (a0_4_3e13 : Nat) (a0_4_3e14 : Nat) (a0_4_3e15 : Nat) (a0_4_3e0_0 : Int32) (a0_4_3e0_1 : Int32) (a0_4_3e0_2 : Int32) (a0_4_3e0_3 : Int32) (a0_4_3e0_4 : Int32) (a0_4_3e0_5 : Nat) (a0_4_3e0_6 : Nat) (ka0_4_3e0_5 : ClassId) (fa0_4_3e0_5 : Nat → Int32) (ka0_1_6 : ClassId) (fa0_1_6 : Nat → Int32) (ka0_4_3e0_6 : ClassId) (fa0_4_3e0_6 : Nat → Int32) (a0_4_3e1_0 : Int32) (a0_4_3e1_1 : Int32) (a0_4_3e1_2 : Int32) (a0_4_3e1_3 : Int32) (a0_4_3e1_4 : Int32) (a0_4_3e1_5 : Nat) (a0_4_3e1_6 : Nat) (ka0_4_3e1_5 : ClassId) (fa0_4_3e1_5 : Nat → Int32) (ka0_4_3e1_6 : ClassId) (fa0_4_3e1_6 : Nat → Int32) (a0_4_3e2_0 : Int32) (a0_4_3e2_1 : Int32) (a0_4_3e2_2 : Int32) (a0_4_3e2_3 : Int32) (a0_4_3e2_4 : Int32) (a0_4_3e2_5 : Nat) (a0_4_3e2_6 : Nat) (ka0_4_3e2_5 : ClassId) (fa0_4_3e2_5 : Nat → Int32) (ka0_4_3e2_6 : ClassId) (fa0_4_3e2_6 : Nat → Int32) (a0_4_3e3_0 : Int32) (a0_4_3e3_1 : Int32) (a0_4_3e3_2 : Int32) (a0_4_3e3_3 : Int32) (a0_4_3e3_4 : Int32) (a0_4_3e3_5 : Nat) (a0_4_3e3_6 : Nat) (ka0_4_3e3_5 : ClassId) (fa0_4_3e3_5 : Nat → Int32) (ka0_4_3e3_6 : ClassId) (fa0_4_3e3_6 : Nat → Int32) (a0_4_3e4_0 : Int32) (a0_4_3e4_1 : Int32) (a0_4_3e4_2 : Int32) (a0_4_3e4_3 : Int32) (a0_4_3e4_4 : Int32) (a0_4_3e4_5 : Nat) (a0_4_3e4_6 : Nat) (ka0_4_3e4_5 : ClassId) (fa0_4_3e4_5 : Nat → Int32) (ka0_4_3e4_6 : ClassId) (fa0_4_3e4_6 : Nat → Int32) (a0_4_3e5_0 : Int32) (a0_4_3e5_1 : Int32) (a0_4_3e5_2 : Int32) (a0_4_3e5_3 : Int32) (a0_4_3e5_4 : Int32) (a0_4_3e5_5 : Nat) (a0_4_3e5_6 : Nat) (ka0_4_3e5_5 : ClassId) (fa0_4_3e5_5 : Nat → Int32) (ka0_4_3e5_6 : ClassId) (fa0_4_3e5_6 : Nat → Int32) (a0_4_3e6_0 : Int32) (a0_4_3e6_1 : Int32) (a0_4_3e6_2 : Int32) (a0_4_3e6_3 : Int32) (a0_4_3e6_4 : Int32) (a0_4_3e6_5 : Nat) (a0_4_3e6_6 : Nat) (ka0_4_3e6_5 : ClassId) (fa0_4_3e6_5 : Nat → Int32) (ka0_4_3e6_6 : ClassId) (fa0_4_3e6_6 : Nat → Int32) (a0_4_3e7_0 : Int32) (a0_4_3e7_1 : Int32) (a0_4_3e7_2 : Int32) (a0_4_3e7_3 : Int32) (a0_4_3e7_4 : Int32) (a0_4_3e7_5 : Nat) (a0_4_3e7_6 : Nat) (ka0_4_3e7_5 : ClassId) (fa0_4_3e7_5 : Nat → Int32) (ka0_4_3e7_6 : ClassId) (fa0_4_3e7_6 : Nat → Int32) (a0_4_3e8_0 : Int32) (a0_4_3e8_1 : Int32) (a0_4_3e8_2 : Int32) (a0_4_3e8_3 : Int32) (a0_4_3e8_4 : Int32) (a0_4_3e8_5 : Nat) (a0_4_3e8_6 : Nat) (ka0_4_3e8_5 : ClassId) (fa0_4_3e8_5 : Nat → Int32) (ka0_4_3e8_6 : ClassId) (fa0_4_3e8_6 : Nat → Int32) (a0_4_3e9_0 : Int32) (a0_4_3e9_1 : Int32) (a0_4_3e9_2 : Int32) (a0_4_3e9_3 : Int32) (a0_4_3e9_4 : Int32) (a0_4_3e9_5 : Nat) (a0_4_3e9_6 : Nat) (ka0_4_3e9_5 : ClassId) (fa0_4_3e9_5 : Nat → Int32) (ka0_4_3e9_6 : ClassId) (fa0_4_3e9_6 : Nat → Int32) (a0_4_3e10_0 : Int32) (a0_4_3e10_1 : Int32) (a0_4_3e10_2 : Int32) (a0_4_3e10_3 : Int32) (a0_4_3e10_4 : Int32) (a0_4_3e10_5 : Nat) (a0_4_3e10_6 : Nat) (ka0_4_3e10_5 : ClassId) (fa0_4_3e10_5 : Nat → Int32) (ka0_4_3e10_6 : ClassId) (fa0_4_3e10_6 : Nat → Int32) (a0_4_3e11_0 : Int32) (a0_4_3e11_1 : Int32) (a0_4_3e11_2 : Int32) (a0_4_3e11_3 : Int32) (a0_4_3e11_4 : Int32) (a0_4_3e11_5 : Nat) (a0_4_3e11_6 : Nat) (ka0_4_3e11_5 : ClassId) (fa0_4_3e11_5 : Nat → Int32) (ka0_4_3e11_6 : ClassId) (fa0_4_3e11_6 : Nat → Int32) (a0_4_3e12_0 : Int32) (a0_4_3e12_1 : Int32) (a0_4_3e12_2 : Int32) (a0_4_3e12_3 : Int32) (a0_4_3e12_4 : Int32) (a0_4_3e12_5 : Nat) (a0_4_3e12_6 : Nat) (ka0_4_3e12_5 : ClassId) (fa0_4_3e12_5 : Nat → Int32) (ka0_4_3e12_6 : ClassId) (fa0_4_3e12_6 : Nat → Int32) (a0_4_3e13_0 : Int32) (a0_4_3e13_1 : Int32) (a0_4_3e13_2 : Int32) (a0_4_3e13_3 : Int32) (a0_4_3e13_4 : Int32) (a0_4_3e13_5 : Nat) (a0_4_3e13_6 : Nat) (ka0_4_3e13_5 : ClassId) (fa0_4_3e13_5 : Nat → Int32) (ka0_4_3e13_6 : ClassId) (fa0_4_3e13_6 : Nat → Int32) (a0_4_3e14_0 : Int32) (a0_4_3e14_1 : Int32) (a0_4_3e14_2 : Int32) (a0_4_3e14_3 : Int32) (a0_4_3e14_4 : Int32) (a0_4_3e14_5 : Nat) (a0_4_3e14_6 : Nat) (ka0_4_3e14_5 : ClassId) (fa0_4_3e14_5 : Nat → Int32) (ka0_4_3e14_6 : ClassId) (fa0_4_3e14_6 : Nat → Int32) (a0_4_3e15_0 : Int32) (a0_4_3e15_1 : Int32) (a0_4_3e15_2 : Int32) (a0_4_3e15_3 : Int32) (a0_4_3e15_4 : Int32) (a0_4_3e15_5 : Nat) (a0_4_3e15_6 : Nat) (ka0_4_3e15_5 : ClassId) (fa0_4_3e15_5 : Nat → Int32) (ka0_4_3e15_6 : ClassId) (fa0_4_3e15_6 : Nat → Int32) (ba0_7_0_l : (0 : Int) ≤ a0_7_0.toInt) (ba0_7_0_u : a0_7_0.toInt ≤ (9 : Int)) (ba0_1_1_l : (0 : Int) ≤ a0_1_1.toInt) (ba0_1_1_u : a0_1_1.toInt ≤ (8 : Int)) (ba0_4_0_l : (0 : Int) ≤ a0_4_0.toInt) (ba0_4_0_u : a0_4_0.toInt ≤ (16 : Int)) (ba0_4_2_l : (0 : Int) ≤ a0_4_2.toInt) (ba0_4_2_u : a0_4_2.toInt ≤ (15 : Int)) (ba0_4_3e0_1_l : (0 : Int) ≤ a0_4_3e0_1.toInt) (ba0_4_3e0_1_u : a0_4_3e0_1.toInt ≤ (8 : Int)) (ba0_4_3e1_1_l : (0 : Int) ≤ a0_4_3e1_1.toInt) (ba0_4_3e1_1_u : a0_4_3e1_1.toInt ≤ (8 : Int)) (ba0_4_3e2_1_l : (0 : Int) ≤ a0_4_3e2_1.toInt) (ba0_4_3e2_1_u : a0_4_3e2_1.toInt ≤ (8 : Int)) (ba0_4_3e3_1_l : (0 : Int) ≤ a0_4_3e3_1.toInt) (ba0_4_3e3_1_u : a0_4_3e3_1.toInt ≤ (8 : Int)) (ba0_4_3e4_1_l : (0 : Int) ≤ a0_4_3e4_1.toInt) (ba0_4_3e4_1_u : a0_4_3e4_1.toInt ≤ (8 : Int)) (ba0_4_3e5_1_l : (0 : Int) ≤ a0_4_3e5_1.toInt) (ba0_4_3e5_1_u : a0_4_3e5_1.toInt ≤ (8 : Int)) (ba0_4_3e6_1_l : (0 : Int) ≤ a0_4_3e6_1.toInt) (ba0_4_3e6_1_u : a0_4_3e6_1.toInt ≤ (8 : Int)) (ba0_4_3e7_1_l : (0 : Int) ≤ a0_4_3e7_1.toInt) (ba0_4_3e7_1_u : a0_4_3e7_1.toInt ≤ (8 : Int)) (ba0_4_3e8_1_l : (0 : Int) ≤ a0_4_3e8_1.toInt) (ba0_4_3e8_1_u : a0_4_3e8_1.toInt ≤ (8 : Int)) (ba0_4_3e9_1_l : (0 : Int) ≤ a0_4_3e9_1.toInt) (ba0_4_3e9_1_u : a0_4_3e9_1.toInt ≤ (8 : Int)) (ba0_4_3e10_1_l : (0 : Int) ≤ a0_4_3e10_1.toInt) (ba0_4_3e10_1_u : a0_4_3e10_1.toInt ≤ (8 : Int)) (ba0_4_3e11_1_l : (0 : Int) ≤ a0_4_3e11_1.toInt) (ba0_4_3e11_1_u : a0_4_3e11_1.toInt ≤ (8 : Int)) (ba0_4_3e12_1_l : (0 : Int) ≤ a0_4_3e12_1.toInt) (ba0_4_3e12_1_u : a0_4_3e12_1.toInt ≤ (8 : Int)) (ba0_4_3e13_1_l : (0 : Int) ≤ a0_4_3e13_1.toInt) (ba0_4_3e13_1_u : a0_4_3e13_1.toInt ≤ (8 : Int)) (ba0_4_3e14_1_l : (0 : Int) ≤ a0_4_3e14_1.toInt) (ba0_4_3e14_1_u : a0_4_3e14_1.toInt ≤ (8 : Int)) (ba0_4_3e15_1_l : (0 : Int) ≤ a0_4_3e15_1.toInt) (ba0_4_3e15_1_u : a0_4_3e15_1.toInt ≤ (8 : Int)) : zm l yX7_put wsX7_put ({ frames := 2, cells := 0, slots := 0, locals := 45 }) [.ref a0, .int a1] dC dI sz [(a0, .inr (7, [a0g_0, .ref a0_1, a0g_2, a0g_3, .ref a0_4, a0g_5, a0g_6, .ref a0_7, .int a0_8, a0g_9, a0g_10])), (a0_7, .inr (0, [.int a0_7_0, a0_7g_1, a0_7g_2, a0_7g_3, a0_7g_4, a0_7g_5, a0_7g_6, a0_7g_7, a0_7g_8, a0_7g_9, a0_7g_10, a0_7g_11, a0_7g_12, a0_7g_13, a0_7g_14])), (a0_1, .inr (5, [.int a0_1_0, .int a0_1_1, .int a0_1_2, .int a0_1_3, .int a0_1_4, .ref a0_1_5, .ref a0_1_6])), (a0_1_5, .inl (ka0_1_5, 9, .inl (fa0_1_5))), (a0_4, .inr (1, [.int a0_4_0, a0_4g_1, .int a0_4_2, .ref a0_4_3, a0_4g_4])), (a0_4_3, .inl (ka0_4_3, 16, .inr (.inr (.inr (.inr (fun i9 => ([some a0_4_3e0, some a0_4_3e1, some a0_4_3e2, some a0_4_3e3, some a0_4_3e4, some a0_4_3e5, some a0_4_3e6, some a0_4_3e7, some a0_4_3e8, some a0_4_3e9, some a0_4_3e10, some a0_4_3e11, some a0_4_3e12, some a0_4_3e13, some a0_4_3e14, some a0_4_3e15] : List (Option Nat)).getD i9 none)))))), (a0_4_3e0, .inr (5, [.int a0_4_3e0_0, .int a0_4_3e0_1, .int a0_4_3e0_2, .int a0_4_3e0_3, .int a0_4_3e0_4, .ref a0_4_3e0_5, .ref a0_4_3e0_6])), (a0_4_3e0_5, .inl (ka0_4_3e0_5, 9, .inl (fa0_4_3e0_5))), (a0_1_6, .inl (ka0_1_6, 9, .inl (fa0_1_6))), (a0_4_3e0_6, .inl (ka0_4_3e0_6, 9, .inl (fa0_4_3e0_6))), (a0_4_3e1, .inr (5, [.int a0_4_3e1_0, .int a0_4_3e1_1, .int a0_4_3e1_2, .int a0_4_3e1_3, .int a0_4_3e1_4, .ref a0_4_3e1_5, .ref a0_4_3e1_6])), (a0_4_3e1_5, .inl (ka0_4_3e1_5, 9, .inl (fa0_4_3e1_5))), (a0_4_3e1_6, .inl (ka0_4_3e1_6, 9, .inl (fa0_4_3e1_6))), (a0_4_3e2, .inr (5, [.int a0_4_3e2_0, .int a0_4_3e2_1, .int a0_4_3e2_2, .int a0_4_3e2_3, .int a0_4_3e2_4, .ref a0_4_3e2_5, .ref a0_4_3e2_6])), (a0_4_3e2_5, .inl (ka0_4_3e2_5, 9, .inl (fa0_4_3e2_5))), (a0_4_3e2_6, .inl (ka0_4_3e2_6, 9, .inl (fa0_4_3e2_6))), (a0_4_3e3, .inr (5, [.int a0_4_3e3_0, .int a0_4_3e3_1, .int a0_4_3e3_2, .int a0_4_3e3_3, .int a0_4_3e3_4, .ref a0_4_3e3_5, .ref a0_4_3e3_6])), (a0_4_3e3_5, .inl (ka0_4_3e3_5, 9, .inl (fa0_4_3e3_5))), (a0_4_3e3_6, .inl (ka0_4_3e3_6, 9, .inl (fa0_4_3e3_6))), (a0_4_3e4, .inr (5, [.int a0_4_3e4_0, .int a0_4_3e4_1, .int a0_4_3e4_2, .int a0_4_3e4_3, .int a0_4_3e4_4, .ref a0_4_3e4_5, .ref a0_4_3e4_6])), (a0_4_3e4_5, .inl (ka0_4_3e4_5, 9, .inl (fa0_4_3e4_5))), (a0_4_3e4_6, .inl (ka0_4_3e4_6, 9, .inl (fa0_4_3e4_6))), (a0_4_3e5, .inr (5, [.int a0_4_3e5_0, .int a0_4_3e5_1, .int a0_4_3e5_2, .int a0_4_3e5_3, .int a0_4_3e5_4, .ref a0_4_3e5_5, .ref a0_4_3e5_6])), (a0_4_3e5_5, .inl (ka0_4_3e5_5, 9, .inl (fa0_4_3e5_5))), (a0_4_3e5_6, .inl (ka0_4_3e5_6, 9, .inl (fa0_4_3e5_6))), (a0_4_3e6, .inr (5, [.int a0_4_3e6_0, .int a0_4_3e6_1, .int a0_4_3e6_2, .int a0_4_3e6_3, .int a0_4_3e6_4, .ref a0_4_3e6_5, .ref a0_4_3e6_6])), (a0_4_3e6_5, .inl (ka0_4_3e6_5, 9, .inl (fa0_4_3e6_5))), (a0_4_3e6_6, .inl (ka0_4_3e6_6, 9, .inl (fa0_4_3e6_6))), (a0_4_3e7, .inr (5, [.int a0_4_3e7_0, .int a0_4_3e7_1, .int a0_4_3e7_2, .int a0_4_3e7_3, .int a0_4_3e7_4, .ref a0_4_3e7_5, .ref a0_4_3e7_6])), (a0_4_3e7_5, .inl (ka0_4_3e7_5, 9, .inl (fa0_4_3e7_5))), (a0_4_3e7_6, .inl (ka0_4_3e7_6, 9, .inl (fa0_4_3e7_6))), (a0_4_3e8, .inr (5, [.int a0_4_3e8_0, .int a0_4_3e8_1, .int a0_4_3e8_2, .int a0_4_3e8_3, .int a0_4_3e8_4, .ref a0_4_3e8_5, .ref a0_4_3e8_6])), (a0_4_3e8_5, .inl (ka0_4_3e8_5, 9, .inl (fa0_4_3e8_5))), (a0_4_3e8_6, .inl (ka0_4_3e8_6, 9, .inl (fa0_4_3e8_6))), (a0_4_3e9, .inr (5, [.int a0_4_3e9_0, .int a0_4_3e9_1, .int a0_4_3e9_2, .int a0_4_3e9_3, .int a0_4_3e9_4, .ref a0_4_3e9_5, .ref a0_4_3e9_6])), (a0_4_3e9_5, .inl (ka0_4_3e9_5, 9, .inl (fa0_4_3e9_5))), (a0_4_3e9_6, .inl (ka0_4_3e9_6, 9, .inl (fa0_4_3e9_6))), (a0_4_3e10, .inr (5, [.int a0_4_3e10_0, .int a0_4_3e10_1, .int a0_4_3e10_2, .int a0_4_3e10_3, .int a0_4_3e10_4, .ref a0_4_3e10_5, .ref a0_4_3e10_6])), (a0_4_3e10_5, .inl (ka0_4_3e10_5, 9, .inl (fa0_4_3e10_5))), (a0_4_3e10_6, .inl (ka0_4_3e10_6, 9, .inl (fa0_4_3e10_6))), (a0_4_3e11, .inr (5, [.int a0_4_3e11_0, .int a0_4_3e11_1, .int a0_4_3e11_2, .int a0_4_3e11_3, .int a0_4_3e11_4, .ref a0_4_3e11_5, .ref a0_4_3e11_6])), (a0_4_3e11_5, .inl (ka0_4_3e11_5, 9, .inl (fa0_4_3e11_5))), (a0_4_3e11_6, .inl (ka0_4_3e11_6, 9, .inl (fa0_4_3e11_6))), (a0_4_3e12, .inr (5, [.int a0_4_3e12_0, .int a0_4_3e12_1, .int a0_4_3e12_2, .int a0_4_3e12_3, .int a0_4_3e12_4, .ref a0_4_3e12_5, .ref a0_4_3e12_6])), (a0_4_3e12_5, .inl (ka0_4_3e12_5, 9, .inl (fa0_4_3e12_5))), (a0_4_3e12_6, .inl (ka0_4_3e12_6, 9, .inl (fa0_4_3e12_6))), (a0_4_3e13, .inr (5, [.int a0_4_3e13_0, .int a0_4_3e13_1, .int a0_4_3e13_2, .int a0_4_3e13_3, .int a0_4_3e13_4, .ref a0_4_3e13_5, .ref a0_4_3e13_6])), (a0_4_3e13_5, .inl (ka0_4_3e13_5, 9, .inl (fa0_4_3e13_5))), (a0_4_3e13_6, .inl (ka0_4_3e13_6, 9, .inl (fa0_4_3e13_6))), (a0_4_3e14, .inr (5, [.int a0_4_3e14_0, .int a0_4_3e14_1, .int a0_4_3e14_2, .int a0_4_3e14_3, .int a0_4_3e14_4, .ref a0_4_3e14_5, .ref a0_4_3e14_6])), (a0_4_3e14_5, .inl (ka0_4_3e14_5, 9, .inl (fa0_4_3e14_5))), (a0_4_3e14_6, .inl (ka0_4_3e14_6, 9, .inl (fa0_4_3e14_6))), (a0_4_3e15, .inr (5, [.int a0_4_3e15_0, .int a0_4_3e15_1, .int a0_4_3e15_2, .int a0_4_3e15_3, .int a0_4_3e15_4, .ref a0_4_3e15_5, .ref a0_4_3e15_6])), (a0_4_3e15_5, .inl (ka0_4_3e15_5, 9, .inl (fa0_4_3e15_5))), (a0_4_3e15_6, .inl (ka0_4_3e15_6, 9, .inl (fa0_4_3e15_6)))] [(ka0_1_5, .int), (ka0_4_3, (.object RX5)), (ka0_4_3e0_5, .int), (ka0_1_6, .int), (ka0_4_3e0_6, .int), (ka0_4_3e1_5, .int), (ka0_4_3e1_6, .int), (ka0_4_3e2_5, .int), (ka0_4_3e2_6, .int), (ka0_4_3e3_5, .int), (ka0_4_3e3_6, .int), (ka0_4_3e4_5, .int), (ka0_4_3e4_6, .int), (ka0_4_3e5_5, .int), (ka0_4_3e5_6, .int), (ka0_4_3e6_5, .int), (ka0_4_3e6_6, .int), (ka0_4_3e7_5, .int), (ka0_4_3e7_6, .int), (ka0_4_3e8_5, .int), (ka0_4_3e8_6, .int), (ka0_4_3e9_5, .int), (ka0_4_3e9_6, .int), (ka0_4_3e10_5, .int), (ka0_4_3e10_6, .int), (ka0_4_3e11_5, .int), (ka0_4_3e11_6, .int), (ka0_4_3e12_5, .int), (ka0_4_3e12_6, .int), (ka0_4_3e13_5, .int), (ka0_4_3e13_6, .int), (ka0_4_3e14_5, .int), (ka0_4_3e14_6, .int), (ka0_4_3e15_5, .int), (ka0_4_3e15_6, .int)] (fun A U => va_Nw (.methodLinkNest RX5 38 yX7_hasBit RX7) U) (fun A => va_Qi (fun (r : Int32) (_ : Unit) => True) (fun (_ : Unit) (t : State) => ∃ zni : Nat → Int32, ∃ znf : Nat → Nat → Int32, ((0 : Int) ≤ (zni 1).toInt ∧ (zni 1).toInt ≤ 16) ∧ ((0 : Int) ≤ (zni 2).toInt ∧ (zni 2).toInt ≤ 15) ∧ ((0 : Int) ≤ (zni 4).toInt ∧ (zni 4).toInt ≤ 8) ∧ ((0 : Int) ≤ (zni 9).toInt ∧ (zni 9).toInt ≤ 8) ∧ ((0 : Int) ≤ (zni 14).toInt ∧ (zni 14).toInt ≤ 8) ∧ ((0 : Int) ≤ (zni 19).toInt ∧ (zni 19).toInt ≤ 8) ∧ ((0 : Int) ≤ (zni 24).toInt ∧ (zni 24).toInt ≤ 8) ∧ ((0 : Int) ≤ (zni 29).toInt ∧ (zni 29).toInt ≤ 8) ∧ ((0 : Int) ≤ (zni 34).toInt ∧ (zni 34).toInt ≤ 8) ∧ ((0 : Int) ≤ (zni 39).toInt ∧ (zni 39).toInt ≤ 8) ∧ ((0 : Int) ≤ (zni 44).toInt ∧ (zni 44).toInt ≤ 8) ∧ ((0 : Int) ≤ (zni 49).toInt ∧ (zni 49).toInt ≤ 8) ∧ ((0 : Int) ≤ (zni 54).toInt ∧ (zni 54).toInt ≤ 8) ∧ ((0 : Int) ≤ (zni 59).toInt ∧ (zni 59).toInt ≤ 8) ∧ ((0 : Int) ≤ (zni 64).toInt ∧ (zni 64).toInt ≤ 8) ∧ ((0 : Int) ≤ (zni 69).toInt ∧ (zni 69).toInt ≤ 8) ∧ ((0 : Int) ≤ (zni 74).toInt ∧ (zni 74).toInt ≤ 8) ∧ ((0 : Int) ≤ (zni 79).toInt ∧ (zni 79).toInt ≤ 8) ∧ (zni 0).toInt ≠ 4 ∧ ax_B dC dI A [(a0, .inr (7, [a0g_0, .ref a0_1, a0g_2, a0g_3, .ref a0_4, a0g_5, a0g_6, .ref a0_7, .int (zni 0), a0g_9, a0g_10])), (a0_7, .inr (0, [.int a0_7_0, a0_7g_1, a0_7g_2, a0_7g_3, a0_7g_4, a0_7g_5, a0_7g_6, a0_7g_7, a0_7g_8, a0_7g_9, a0_7g_10, a0_7g_11, a0_7g_12, a0_7g_13, a0_7g_14])), (a0_1, .inr (5, [.int a0_1_0, .int a0_1_1, .int a0_1_2, .int a0_1_3, .int a0_1_4, .ref a0_1_5, .ref a0_1_6])), (a0_1_5, .inl (ka0_1_5, 9, .inl ((znf 0)))), (a0_4, .inr (1, [.int (zni 1), a0_4g_1, .int (zni 2), .ref a0_4_3, a0_4g_4])), (a0_4_3, .inl (ka0_4_3, 16, .inr (.inr (.inr (.inr (fun i9 => ([some a0_4_3e0, some a0_4_3e1, some a0_4_3e2, some a0_4_3e3, some a0_4_3e4, some a0_4_3e5, some a0_4_3e6, some a0_4_3e7, some a0_4_3e8, some a0_4_3e9, some a0_4_3e10, some a0_4_3e11, some a0_4_3e12, some a0_4_3e13, some a0_4_3e14, some a0_4_3e15] : List (Option Nat)).getD i9 none)))))), (a0_4_3e0, .inr (5, [.int (zni 3), .int (zni 4), .int (zni 5), .int (zni 6), .int (zni 7), .ref a0_4_3e0_5, .ref a0_4_3e0_6])), (a0_4_3e0_5, .inl (ka0_4_3e0_5, 9, .inl ((znf 1)))), (a0_1_6, .inl (ka0_1_6, 9, .inl (fa0_1_6))), (a0_4_3e0_6, .inl (ka0_4_3e0_6, 9, .inl ((znf 2)))), (a0_4_3e1, .inr (5, [.int (zni 8), .int (zni 9), .int (zni 10), .int (zni 11), .int (zni 12), .ref a0_4_3e1_5, .ref a0_4_3e1_6])), (a0_4_3e1_5, .inl (ka0_4_3e1_5, 9, .inl ((znf 3)))), (a0_4_3e1_6, .inl (ka0_4_3e1_6, 9, .inl ((znf 4)))), (a0_4_3e2, .inr (5, [.int (zni 13), .int (zni 14), .int (zni 15), .int (zni 16), .int (zni 17), .ref a0_4_3e2_5, .ref a0_4_3e2_6])), (a0_4_3e2_5, .inl (ka0_4_3e2_5, 9, .inl ((znf 5)))), (a0_4_3e2_6, .inl (ka0_4_3e2_6, 9, .inl ((znf 6)))), (a0_4_3e3, .inr (5, [.int (zni 18), .int (zni 19), .int (zni 20), .int (zni 21), .int (zni 22), .ref a0_4_3e3_5, .ref a0_4_3e3_6])), (a0_4_3e3_5, .inl (ka0_4_3e3_5, 9, .inl ((znf 7)))), (a0_4_3e3_6, .inl (ka0_4_3e3_6, 9, .inl ((znf 8)))), (a0_4_3e4, .inr (5, [.int (zni 23), .int (zni 24), .int (zni 25), .int (zni 26), .int (zni 27), .ref a0_4_3e4_5, .ref a0_4_3e4_6])), (a0_4_3e4_5, .inl (ka0_4_3e4_5, 9, .inl ((znf 9)))), (a0_4_3e4_6, .inl (ka0_4_3e4_6, 9, .inl ((znf 10)))), (a0_4_3e5, .inr (5, [.int (zni 28), .int (zni 29), .int (zni 30), .int (zni 31), .int (zni 32), .ref a0_4_3e5_5, .ref a0_4_3e5_6])), (a0_4_3e5_5, .inl (ka0_4_3e5_5, 9, .inl ((znf 11)))), (a0_4_3e5_6, .inl (ka0_4_3e5_6, 9, .inl ((znf 12)))), (a0_4_3e6, .inr (5, [.int (zni 33), .int (zni 34), .int (zni 35), .int (zni 36), .int (zni 37), .ref a0_4_3e6_5, .ref a0_4_3e6_6])), (a0_4_3e6_5, .inl (ka0_4_3e6_5, 9, .inl ((znf 13)))), (a0_4_3e6_6, .inl (ka0_4_3e6_6, 9, .inl ((znf 14)))), (a0_4_3e7, .inr (5, [.int (zni 38), .int (zni 39), .int (zni 40), .int (zni 41), .int (zni 42), .ref a0_4_3e7_5, .ref a0_4_3e7_6])), (a0_4_3e7_5, .inl (ka0_4_3e7_5, 9, .inl ((znf 15)))), (a0_4_3e7_6, .inl (ka0_4_3e7_6, 9, .inl ((znf 16)))), (a0_4_3e8, .inr (5, [.int (zni 43), .int (zni 44), .int (zni 45), .int (zni 46), .int (zni 47), .ref a0_4_3e8_5, .ref a0_4_3e8_6])), (a0_4_3e8_5, .inl (ka0_4_3e8_5, 9, .inl ((znf 17)))), (a0_4_3e8_6, .inl (ka0_4_3e8_6, 9, .inl ((znf 18)))), (a0_4_3e9, .inr (5, [.int (zni 48), .int (zni 49), .int (zni 50), .int (zni 51), .int (zni 52), .ref a0_4_3e9_5, .ref a0_4_3e9_6])), (a0_4_3e9_5, .inl (ka0_4_3e9_5, 9, .inl ((znf 19)))), (a0_4_3e9_6, .inl (ka0_4_3e9_6, 9, .inl ((znf 20)))), (a0_4_3e10, .inr (5, [.int (zni 53), .int (zni 54), .int (zni 55), .int (zni 56), .int (zni 57), .ref a0_4_3e10_5, .ref a0_4_3e10_6])), (a0_4_3e10_5, .inl (ka0_4_3e10_5, 9, .inl ((znf 21)))), (a0_4_3e10_6, .inl (ka0_4_3e10_6, 9, .inl ((znf 22)))), (a0_4_3e11, .inr (5, [.int (zni 58), .int (zni 59), .int (zni 60), .int (zni 61), .int (zni 62), .ref a0_4_3e11_5, .ref a0_4_3e11_6])), (a0_4_3e11_5, .inl (ka0_4_3e11_5, 9, .inl ((znf 23)))), (a0_4_3e11_6, .inl (ka0_4_3e11_6, 9, .inl ((znf 24)))), (a0_4_3e12, .inr (5, [.int (zni 63), .int (zni 64), .int (zni 65), .int (zni 66), .int (zni 67), .ref a0_4_3e12_5, .ref a0_4_3e12_6])), (a0_4_3e12_5, .inl (ka0_4_3e12_5, 9, .inl ((znf 25)))), (a0_4_3e12_6, .inl (ka0_4_3e12_6, 9, .inl ((znf 26)))), (a0_4_3e13, .inr (5, [.int (zni 68), .int (zni 69), .int (zni 70), .int (zni 71), .int (zni 72), .ref a0_4_3e13_5, .ref a0_4_3e13_6])), (a0_4_3e13_5, .inl (ka0_4_3e13_5, 9, .inl ((znf 27)))), (a0_4_3e13_6, .inl (ka0_4_3e13_6, 9, .inl ((znf 28)))), (a0_4_3e14, .inr (5, [.int (zni 73), .int (zni 74), .int (zni 75), .int (zni 76), .int (zni 77), .ref a0_4_3e14_5, .ref a0_4_3e14_6])), (a0_4_3e14_5, .inl (ka0_4_3e14_5, 9, .inl ((znf 29)))), (a0_4_3e14_6, .inl (ka0_4_3e14_6, 9, .inl ((znf 30)))), (a0_4_3e15, .inr (5, [.int (zni 78), .int (zni 79), .int (zni 80), .int (zni 81), .int (zni 82), .ref a0_4_3e15_5, .ref a0_4_3e15_6])), (a0_4_3e15_5, .inl (ka0_4_3e15_5, 9, .inl ((znf 31)))), (a0_4_3e15_6, .inl (ka0_4_3e15_6, 9, .inl ((znf 32))))] [(ka0_1_5, .int), (ka0_4_3, (.object RX5)), (ka0_4_3e0_5, .int), (ka0_1_6, .int), (ka0_4_3e0_6, .int), (ka0_4_3e1_5, .int), (ka0_4_3e1_6, .int), (ka0_4_3e2_5, .int), (ka0_4_3e2_6, .int), (ka0_4_3e3_5, .int), (ka0_4_3e3_6, .int), (ka0_4_3e4_5, .int), (ka0_4_3e4_6, .int), (ka0_4_3e5_5, .int), (ka0_4_3e5_6, .int), (ka0_4_3e6_5, .int), (ka0_4_3e6_6, .int), (ka0_4_3e7_5, .int), (ka0_4_3e7_6, .int), (ka0_4_3e8_5, .int), (ka0_4_3e8_6, .int), (ka0_4_3e9_5, .int), (ka0_4_3e9_6, .int), (ka0_4_3e10_5, .int), (ka0_4_3e10_6, .int), (ka0_4_3e11_5, .int), (ka0_4_3e11_6, .int), (ka0_4_3e12_5, .int), (ka0_4_3e12_6, .int), (ka0_4_3e13_5, .int), (ka0_4_3e13_6, .int), (ka0_4_3e14_5, .int), (ka0_4_3e14_6, .int), (ka0_4_3e15_5, .int), (ka0_4_3e15_6, .int)] t) A) := by
  refine zh (cc := cX7_put) (maxL := 3) (ret := (some .int)) zn_RX7 rfl (Nat.le_of_ble_eq_true rfl) (fun p e s m below meth c A ls hx hb hml hr hts (hown : s.vm.findClass RX7 = some m.cls) hlocks hA hS hP hK hD hE (hl : lv_has ls 3 [(0, .ref a0), (1, .int a1)]) => ?_)
  have hE0 := hE
  refine lv_aload_n hx hb dX7_put_0 rfl (lv_at hl 0 rfl) ?_
  refine lv_iload_n hx hb dX7_put_1 rfl (lv_at hl 1 rfl) ?_
  refine va_calli (va_runV (As := [.int a1]) (rest := []) ⟨hx, hb, hml, hown, hts⟩ (c_X7_isFigure l dC dI s.heap.size a0 a1 a0g_0 (.ref a0_1) a0g_2 a0g_3 (.ref a0_4) a0g_5 a0g_6 (.int a0_8) a0g_9 a0g_10 a0_7 a0_7_0 a0_7g_1 a0_7g_2 a0_7g_3 a0_7g_4 a0_7g_5 a0_7g_6 a0_7g_7 a0_7g_8 a0_7g_9 a0_7g_10 a0_7g_11 a0_7g_12 a0_7g_13 a0_7g_14 ba0_7_0_l ba0_7_0_u) (cwV 1 hts gX7_put_X7_isFigure rfl rfl rfl zd_X7_isFigure ⟨Nat.le_of_ble_eq_true rfl, Nat.le_of_ble_eq_true rfl⟩) ⟨ax_blind (fun _ _ _ _ _ => trivial), zr_7 (zp_K hK) (zp_P2 hP) (q0 := 0) rfl, ax_pre (zp_P2 hP) (zp_K hK) (zp_D2 hD) (fun _ _ => trivial)⟩ rfl rfl hl.1 rfl (lv_room (Nat.le_of_ble_eq_true rfl)) dX7_put_2 ⟨Nat.le_of_ble_eq_true rfl, Nat.le_of_ble_eq_true rfl⟩) hS (fun q _ h => zp_F2 hD hS hA q h) (zp_F2 hD hS hA) (fun r2 u t H locs ht hvm hw hB hz1 hk1 hS1 => zo2 hB ht hP hD hk1 (zp_F2 hD hS hA) hS1 (fun hP hK1 hD hS => ?_))
  rcases hw with hw | hw
  · obtain ⟨hw, h2_0, h2_1, h2_2, h2_3⟩ := hw
    subst hw
    have l2k0_a1 : (0 : Int) ≤ a1.toInt := h2_0
    have u2k0_a1 : a1.toInt ≤ (8 : Int) := h2_1
    have l2k0_a0_7_0 : (1 : Int) ≤ a0_7_0.toInt := h2_2
    have u2k0_a0_7_0 : a0_7_0.toInt ≤ (9 : Int) := ba0_7_0_u
    refine lv_if_ne (tgt := 14) hx hb dX7_put_5 (by decide) (fun _ => ?_) (fun c5 => absurd c5 (by decide +kernel))
    refine lv_aload_n hx hb dX7_put_14 rfl (lv_at hl 0 rfl) ?_
    refine va_get (D := (dC, dI)) (ci := 7) (v := .ref a0_1) (C := RX7) (T := TX7) (N := 11) hx hb hts zi_X7_put_7 hown hK hP 0 rfl rfl 1 (by decide) (hts (.fieldLink RX7 19 "WaxTurns" "now" "LWaxTurns$Scene;") (zm_X7_put_r1 (List.mem_of_getElem? (i := 0) rfl))) (fun _ h9 => h9) rfl dX7_put_15 ?_
    refine lv_iload_n hx hb dX7_put_18 rfl (lv_at hl 1 rfl) ?_
    refine zc_cutc (wc := [(a0_1, .inr (5, [.int a0_1_0, .int a0_1_1, .int a0_1_2, .int a0_1_3, .int a0_1_4, .ref a0_1_5, .ref a0_1_6]))]) hP hD hS hA [2] (by decide +kernel) rfl (fun hPc hDc hFc hCc => ?_)
    have hKc := zp_K hK
    refine va_calli (va_runV (As := [.int a1]) (rest := []) ⟨hx, hb, hml, hown, hts⟩ (c_X5_isGone l dC dI H.size a0_1 a1 (.int a0_1_0) (.int a0_1_1) (.int a0_1_2) (.int a0_1_4) (.ref a0_1_5) (.ref a0_1_6) a0_1_3 ) (cwV 1 hts gX7_put_X5_isGone rfl rfl rfl zd_X5_isGone ⟨Nat.le_of_ble_eq_true rfl, Nat.le_of_ble_eq_true rfl⟩) ⟨ax_blind (fun _ _ _ _ hq => va_Nw.same rfl rfl (hq)), zr_5 hKc hPc (q0 := 0) rfl, ax_pre hPc hKc hDc (fun _ hW => va_Nw.warmM hW hE0)⟩ rfl rfl hl.1 rfl (lv_room (Nat.le_of_ble_eq_true rfl)) dX7_put_19 ⟨Nat.le_of_ble_eq_true rfl, Nat.le_of_ble_eq_true rfl⟩) hS (fun q _ h => hFc q h) hFc (fun r19 u t H locs ht hvm hw hB hz1 hk1 hS1 => zo hB ht hS1 (fun hP1 hK1 hD1 hS => ?_))
    refine zc_backc (w := [(a0, .inr (7, [a0g_0, .ref a0_1, a0g_2, a0g_3, .ref a0_4, a0g_5, a0g_6, .ref a0_7, .int a0_8, a0g_9, a0g_10])), (a0_7, .inr (0, [.int a0_7_0, a0_7g_1, a0_7g_2, a0_7g_3, a0_7g_4, a0_7g_5, a0_7g_6, a0_7g_7, a0_7g_8, a0_7g_9, a0_7g_10, a0_7g_11, a0_7g_12, a0_7g_13, a0_7g_14])), (a0_1, .inr (5, [.int a0_1_0, .int a0_1_1, .int a0_1_2, .int a0_1_3, .int a0_1_4, .ref a0_1_5, .ref a0_1_6])), (a0_1_5, .inl (ka0_1_5, 9, .inl (fa0_1_5))), (a0_4, .inr (1, [.int a0_4_0, a0_4g_1, .int a0_4_2, .ref a0_4_3, a0_4g_4])), (a0_4_3, .inl (ka0_4_3, 16, .inr (.inr (.inr (.inr (fun i9 => ([some a0_4_3e0, some a0_4_3e1, some a0_4_3e2, some a0_4_3e3, some a0_4_3e4, some a0_4_3e5, some a0_4_3e6, some a0_4_3e7, some a0_4_3e8, some a0_4_3e9, some a0_4_3e10, some a0_4_3e11, some a0_4_3e12, some a0_4_3e13, some a0_4_3e14, some a0_4_3e15] : List (Option Nat)).getD i9 none)))))), (a0_4_3e0, .inr (5, [.int a0_4_3e0_0, .int a0_4_3e0_1, .int a0_4_3e0_2, .int a0_4_3e0_3, .int a0_4_3e0_4, .ref a0_4_3e0_5, .ref a0_4_3e0_6])), (a0_4_3e0_5, .inl (ka0_4_3e0_5, 9, .inl (fa0_4_3e0_5))), (a0_1_6, .inl (ka0_1_6, 9, .inl (fa0_1_6))), (a0_4_3e0_6, .inl (ka0_4_3e0_6, 9, .inl (fa0_4_3e0_6))), (a0_4_3e1, .inr (5, [.int a0_4_3e1_0, .int a0_4_3e1_1, .int a0_4_3e1_2, .int a0_4_3e1_3, .int a0_4_3e1_4, .ref a0_4_3e1_5, .ref a0_4_3e1_6])), (a0_4_3e1_5, .inl (ka0_4_3e1_5, 9, .inl (fa0_4_3e1_5))), (a0_4_3e1_6, .inl (ka0_4_3e1_6, 9, .inl (fa0_4_3e1_6))), (a0_4_3e2, .inr (5, [.int a0_4_3e2_0, .int a0_4_3e2_1, .int a0_4_3e2_2, .int a0_4_3e2_3, .int a0_4_3e2_4, .ref a0_4_3e2_5, .ref a0_4_3e2_6])), (a0_4_3e2_5, .inl (ka0_4_3e2_5, 9, .inl (fa0_4_3e2_5))), (a0_4_3e2_6, .inl (ka0_4_3e2_6, 9, .inl (fa0_4_3e2_6))), (a0_4_3e3, .inr (5, [.int a0_4_3e3_0, .int a0_4_3e3_1, .int a0_4_3e3_2, .int a0_4_3e3_3, .int a0_4_3e3_4, .ref a0_4_3e3_5, .ref a0_4_3e3_6])), (a0_4_3e3_5, .inl (ka0_4_3e3_5, 9, .inl (fa0_4_3e3_5))), (a0_4_3e3_6, .inl (ka0_4_3e3_6, 9, .inl (fa0_4_3e3_6))), (a0_4_3e4, .inr (5, [.int a0_4_3e4_0, .int a0_4_3e4_1, .int a0_4_3e4_2, .int a0_4_3e4_3, .int a0_4_3e4_4, .ref a0_4_3e4_5, .ref a0_4_3e4_6])), (a0_4_3e4_5, .inl (ka0_4_3e4_5, 9, .inl (fa0_4_3e4_5))), (a0_4_3e4_6, .inl (ka0_4_3e4_6, 9, .inl (fa0_4_3e4_6))), (a0_4_3e5, .inr (5, [.int a0_4_3e5_0, .int a0_4_3e5_1, .int a0_4_3e5_2, .int a0_4_3e5_3, .int a0_4_3e5_4, .ref a0_4_3e5_5, .ref a0_4_3e5_6])), (a0_4_3e5_5, .inl (ka0_4_3e5_5, 9, .inl (fa0_4_3e5_5))), (a0_4_3e5_6, .inl (ka0_4_3e5_6, 9, .inl (fa0_4_3e5_6))), (a0_4_3e6, .inr (5, [.int a0_4_3e6_0, .int a0_4_3e6_1, .int a0_4_3e6_2, .int a0_4_3e6_3, .int a0_4_3e6_4, .ref a0_4_3e6_5, .ref a0_4_3e6_6])), (a0_4_3e6_5, .inl (ka0_4_3e6_5, 9, .inl (fa0_4_3e6_5))), (a0_4_3e6_6, .inl (ka0_4_3e6_6, 9, .inl (fa0_4_3e6_6))), (a0_4_3e7, .inr (5, [.int a0_4_3e7_0, .int a0_4_3e7_1, .int a0_4_3e7_2, .int a0_4_3e7_3, .int a0_4_3e7_4, .ref a0_4_3e7_5, .ref a0_4_3e7_6])), (a0_4_3e7_5, .inl (ka0_4_3e7_5, 9, .inl (fa0_4_3e7_5))), (a0_4_3e7_6, .inl (ka0_4_3e7_6, 9, .inl (fa0_4_3e7_6))), (a0_4_3e8, .inr (5, [.int a0_4_3e8_0, .int a0_4_3e8_1, .int a0_4_3e8_2, .int a0_4_3e8_3, .int a0_4_3e8_4, .ref a0_4_3e8_5, .ref a0_4_3e8_6])), (a0_4_3e8_5, .inl (ka0_4_3e8_5, 9, .inl (fa0_4_3e8_5))), (a0_4_3e8_6, .inl (ka0_4_3e8_6, 9, .inl (fa0_4_3e8_6))), (a0_4_3e9, .inr (5, [.int a0_4_3e9_0, .int a0_4_3e9_1, .int a0_4_3e9_2, .int a0_4_3e9_3, .int a0_4_3e9_4, .ref a0_4_3e9_5, .ref a0_4_3e9_6])), (a0_4_3e9_5, .inl (ka0_4_3e9_5, 9, .inl (fa0_4_3e9_5))), (a0_4_3e9_6, .inl (ka0_4_3e9_6, 9, .inl (fa0_4_3e9_6))), (a0_4_3e10, .inr (5, [.int a0_4_3e10_0, .int a0_4_3e10_1, .int a0_4_3e10_2, .int a0_4_3e10_3, .int a0_4_3e10_4, .ref a0_4_3e10_5, .ref a0_4_3e10_6])), (a0_4_3e10_5, .inl (ka0_4_3e10_5, 9, .inl (fa0_4_3e10_5))), (a0_4_3e10_6, .inl (ka0_4_3e10_6, 9, .inl (fa0_4_3e10_6))), (a0_4_3e11, .inr (5, [.int a0_4_3e11_0, .int a0_4_3e11_1, .int a0_4_3e11_2, .int a0_4_3e11_3, .int a0_4_3e11_4, .ref a0_4_3e11_5, .ref a0_4_3e11_6])), (a0_4_3e11_5, .inl (ka0_4_3e11_5, 9, .inl (fa0_4_3e11_5))), (a0_4_3e11_6, .inl (ka0_4_3e11_6, 9, .inl (fa0_4_3e11_6))), (a0_4_3e12, .inr (5, [.int a0_4_3e12_0, .int a0_4_3e12_1, .int a0_4_3e12_2, .int a0_4_3e12_3, .int a0_4_3e12_4, .ref a0_4_3e12_5, .ref a0_4_3e12_6])), (a0_4_3e12_5, .inl (ka0_4_3e12_5, 9, .inl (fa0_4_3e12_5))), (a0_4_3e12_6, .inl (ka0_4_3e12_6, 9, .inl (fa0_4_3e12_6))), (a0_4_3e13, .inr (5, [.int a0_4_3e13_0, .int a0_4_3e13_1, .int a0_4_3e13_2, .int a0_4_3e13_3, .int a0_4_3e13_4, .ref a0_4_3e13_5, .ref a0_4_3e13_6])), (a0_4_3e13_5, .inl (ka0_4_3e13_5, 9, .inl (fa0_4_3e13_5))), (a0_4_3e13_6, .inl (ka0_4_3e13_6, 9, .inl (fa0_4_3e13_6))), (a0_4_3e14, .inr (5, [.int a0_4_3e14_0, .int a0_4_3e14_1, .int a0_4_3e14_2, .int a0_4_3e14_3, .int a0_4_3e14_4, .ref a0_4_3e14_5, .ref a0_4_3e14_6])), (a0_4_3e14_5, .inl (ka0_4_3e14_5, 9, .inl (fa0_4_3e14_5))), (a0_4_3e14_6, .inl (ka0_4_3e14_6, 9, .inl (fa0_4_3e14_6))), (a0_4_3e15, .inr (5, [.int a0_4_3e15_0, .int a0_4_3e15_1, .int a0_4_3e15_2, .int a0_4_3e15_3, .int a0_4_3e15_4, .ref a0_4_3e15_5, .ref a0_4_3e15_6])), (a0_4_3e15_5, .inl (ka0_4_3e15_5, 9, .inl (fa0_4_3e15_5))), (a0_4_3e15_6, .inl (ka0_4_3e15_6, 9, .inl (fa0_4_3e15_6)))]) hP hD hCc hk1 hFc hP1 hD1 [.inl 0, .inl 1, .inr 0, .inl 3, .inl 4, .inl 5, .inl 6, .inl 7, .inl 8, .inl 9, .inl 10, .inl 11, .inl 12, .inl 13, .inl 14, .inl 15, .inl 16, .inl 17, .inl 18, .inl 19, .inl 20, .inl 21, .inl 22, .inl 23, .inl 24, .inl 25, .inl 26, .inl 27, .inl 28, .inl 29, .inl 30, .inl 31, .inl 32, .inl 33, .inl 34, .inl 35, .inl 36, .inl 37, .inl 38, .inl 39, .inl 40, .inl 41, .inl 42, .inl 43, .inl 44, .inl 45, .inl 46, .inl 47, .inl 48, .inl 49, .inl 50, .inl 51, .inl 52, .inl 53, .inl 54] (by decide +kernel) rfl (fun hP hD => ?_)
    rcases hw with hw | hw
    · subst hw
      refine lv_if_ne (tgt := 38) hx hb dX7_put_22 (by decide) (fun _ => ?_) (fun c22 => absurd c22 (by decide +kernel))
      refine lv_aload_n hx hb dX7_put_38 rfl (lv_at hl 0 rfl) ?_
      refine lv_iconst (v := 5) hx hb dX7_put_39 zk_iconst_5 ?_
      refine va_calli (va_runV (As := [.int 5]) (rest := []) ⟨hx, hb, hml, hown, hts⟩ (c_X7_refused5 l dC dI H.size a0 5 a0g_0 (.ref a0_1) a0g_2 a0g_3 (.ref a0_4) a0g_5 a0g_6 (.ref a0_7) a0g_9 a0g_10 a0_8 zq114 (Int.le_trans zq115 zq132)) (cwV 1 hts gX7_put_X7_refused rfl rfl rfl zd_X7_refused ⟨Nat.le_of_ble_eq_true rfl, Nat.le_of_ble_eq_true rfl⟩) ⟨ax_blind (fun _ _ _ _ _ => trivial), zr_7 (zp_K hK) (zp_P1 hP) (q0 := 0) rfl, ax_pre (zp_P1 hP) (zp_K hK) (zp_D1 hD) (fun _ _ => trivial)⟩ rfl rfl hl.1 rfl (lv_room (Nat.le_of_ble_eq_true rfl)) dX7_put_40 ⟨Nat.le_of_ble_eq_true rfl, Nat.le_of_ble_eq_true rfl⟩) hS (fun q _ h => zp_F1 hD hS hA q h) (zp_F1 hD hS hA) (fun r40 u t H locs ht hvm hw => zx_1 (fun v40na0_8 => zy_1 (fun hraw40_0 hB hz1 hk1 hS1 => zo1 hB ht hP hD hk1 (zp_F1 hD hS hA) hS1 (fun hP hK1 hD hS => ?_))))
      have hw : r40 = (-1) := hw
      have hw := hw.symm
      subst hw
      exact W.iret (v := (-1)) hx hb hr (fun t ht hW => ⟨⟨(-1), (), rfl, trivial, (fun i9 => ([v40na0_8, a0_4_0, a0_4_2, a0_4_3e0_0, a0_4_3e0_1, a0_4_3e0_2, a0_4_3e0_3, a0_4_3e0_4, a0_4_3e1_0, a0_4_3e1_1, a0_4_3e1_2, a0_4_3e1_3, a0_4_3e1_4, a0_4_3e2_0, a0_4_3e2_1, a0_4_3e2_2, a0_4_3e2_3, a0_4_3e2_4, a0_4_3e3_0, a0_4_3e3_1, a0_4_3e3_2, a0_4_3e3_3, a0_4_3e3_4, a0_4_3e4_0, a0_4_3e4_1, a0_4_3e4_2, a0_4_3e4_3, a0_4_3e4_4, a0_4_3e5_0, a0_4_3e5_1, a0_4_3e5_2, a0_4_3e5_3, a0_4_3e5_4, a0_4_3e6_0, a0_4_3e6_1, a0_4_3e6_2, a0_4_3e6_3, a0_4_3e6_4, a0_4_3e7_0, a0_4_3e7_1, a0_4_3e7_2, a0_4_3e7_3, a0_4_3e7_4, a0_4_3e8_0, a0_4_3e8_1, a0_4_3e8_2, a0_4_3e8_3, a0_4_3e8_4, a0_4_3e9_0, a0_4_3e9_1, a0_4_3e9_2, a0_4_3e9_3, a0_4_3e9_4, a0_4_3e10_0, a0_4_3e10_1, a0_4_3e10_2, a0_4_3e10_3, a0_4_3e10_4, a0_4_3e11_0, a0_4_3e11_1, a0_4_3e11_2, a0_4_3e11_3, a0_4_3e11_4, a0_4_3e12_0, a0_4_3e12_1, a0_4_3e12_2, a0_4_3e12_3, a0_4_3e12_4, a0_4_3e13_0, a0_4_3e13_1, a0_4_3e13_2, a0_4_3e13_3, a0_4_3e13_4, a0_4_3e14_0, a0_4_3e14_1, a0_4_3e14_2, a0_4_3e14_3, a0_4_3e14_4, a0_4_3e15_0, a0_4_3e15_1, a0_4_3e15_2, a0_4_3e15_3, a0_4_3e15_4] : List Int32).getD i9 0), (fun i9 => ([fa0_1_5, fa0_4_3e0_5, fa0_4_3e0_6, fa0_4_3e1_5, fa0_4_3e1_6, fa0_4_3e2_5, fa0_4_3e2_6, fa0_4_3e3_5, fa0_4_3e3_6, fa0_4_3e4_5, fa0_4_3e4_6, fa0_4_3e5_5, fa0_4_3e5_6, fa0_4_3e6_5, fa0_4_3e6_6, fa0_4_3e7_5, fa0_4_3e7_6, fa0_4_3e8_5, fa0_4_3e8_6, fa0_4_3e9_5, fa0_4_3e9_6, fa0_4_3e10_5, fa0_4_3e10_6, fa0_4_3e11_5, fa0_4_3e11_6, fa0_4_3e12_5, fa0_4_3e12_6, fa0_4_3e13_5, fa0_4_3e13_6, fa0_4_3e14_5, fa0_4_3e14_6, fa0_4_3e15_5, fa0_4_3e15_6] : List (Nat → Int32)).getD i9 (fun _ => 0)), ⟨ba0_4_0_l, ba0_4_0_u⟩, ⟨ba0_4_2_l, ba0_4_2_u⟩, ⟨ba0_4_3e0_1_l, ba0_4_3e0_1_u⟩, ⟨ba0_4_3e1_1_l, ba0_4_3e1_1_u⟩, ⟨ba0_4_3e2_1_l, ba0_4_3e2_1_u⟩, ⟨ba0_4_3e3_1_l, ba0_4_3e3_1_u⟩, ⟨ba0_4_3e4_1_l, ba0_4_3e4_1_u⟩, ⟨ba0_4_3e5_1_l, ba0_4_3e5_1_u⟩, ⟨ba0_4_3e6_1_l, ba0_4_3e6_1_u⟩, ⟨ba0_4_3e7_1_l, ba0_4_3e7_1_u⟩, ⟨ba0_4_3e8_1_l, ba0_4_3e8_1_u⟩, ⟨ba0_4_3e9_1_l, ba0_4_3e9_1_u⟩, ⟨ba0_4_3e10_1_l, ba0_4_3e10_1_u⟩, ⟨ba0_4_3e11_1_l, ba0_4_3e11_1_u⟩, ⟨ba0_4_3e12_1_l, ba0_4_3e12_1_u⟩, ⟨ba0_4_3e13_1_l, ba0_4_3e13_1_u⟩, ⟨ba0_4_3e14_1_l, ba0_4_3e14_1_u⟩, ⟨ba0_4_3e15_1_l, ba0_4_3e15_1_u⟩, (show v40na0_8.toInt ≠ 4 from (by first | assumption | decide | omega)), by rw [ht]; exact hP, va_K.moved hW.alike hK, hD⟩, hS.F ht⟩) hS.2.2 dX7_put_43
    · subst hw
      refine lv_if_ne (tgt := 38) hx hb dX7_put_22 (by decide) (fun c22 => absurd (by decide +kernel) c22) (fun _ => ?_)
      refine lv_aload_n hx hb dX7_put_25 rfl (lv_at hl 0 rfl) ?_
      refine va_get (D := (dC, dI)) (ci := 7) (v := .ref a0_1) (C := RX7) (T := TX7) (N := 11) hx hb hts zi_X7_put_7 hown hK hP 0 rfl rfl 1 (by decide) (hts (.fieldLink RX7 19 "WaxTurns" "now" "LWaxTurns$Scene;") (zm_X7_put_r1 (List.mem_of_getElem? (i := 0) rfl))) (fun _ h9 => h9) rfl dX7_put_26 ?_
      refine va_get (D := (dC, dI)) (ci := 5) (v := .ref a0_1_5) (C := RX5) (T := TX5) (N := 7) hx hb hts zi_X7_put_5 hown hK hP 2 rfl rfl 5 (by decide) (hts (.fieldLink RX7 126 "WaxTurns$Scene" "places" "[I") (zm_X7_put_r1 (List.mem_of_getElem? (i := 1) rfl))) (fun _ h9 => h9) rfl dX7_put_29 ?_
      refine lv_iload_n hx hb dX7_put_32 rfl (lv_at hl 1 rfl) ?_
      refine va_iald hx hb hK hP 3 0 rfl rfl (ai_in l2k0_a1 u2k0_a1 (by decide) (by decide)) dX7_put_33 ?_
      refine lv_topi (fun x33 ex33 => ?_)
      refine lv_iload_n hx hb dX7_put_34 rfl (lv_at hl 1 rfl) ?_
      refine lv_icmp_ne (tgt := 44) hx hb dX7_put_35 (by decide) (fun c35 => ?_) (fun c35 => ?_)
      · have gc35 := ai_ne c35
        refine lv_aload_n hx hb dX7_put_44 rfl (lv_at hl 0 rfl) ?_
        refine va_get (D := (dC, dI)) (ci := 7) (v := .ref a0_4) (C := RX7) (T := TX7) (N := 11) hx hb hts zi_X7_put_7 hown hK hP 0 rfl rfl 4 (by decide) (hts (.fieldLink RX7 36 "WaxTurns" "history" "LWaxTurns$History;") (zm_X7_put_r1 (List.mem_of_getElem? (i := 2) rfl))) (fun _ h9 => h9) rfl dX7_put_45 ?_
        refine lv_aload_n hx hb dX7_put_48 rfl (lv_at hl 0 rfl) ?_
        refine va_get (D := (dC, dI)) (ci := 7) (v := .ref a0_1) (C := RX7) (T := TX7) (N := 11) hx hb hts zi_X7_put_7 hown hK hP 0 rfl rfl 1 (by decide) (hts (.fieldLink RX7 19 "WaxTurns" "now" "LWaxTurns$Scene;") (zm_X7_put_r1 (List.mem_of_getElem? (i := 0) rfl))) (fun _ h9 => h9) rfl dX7_put_49 ?_
        refine zc_cutc (wc := [(a0_4, .inr (1, [.int a0_4_0, a0_4g_1, .int a0_4_2, .ref a0_4_3, a0_4g_4])), (a0_4_3, .inl (ka0_4_3, 16, .inr (.inr (.inr (.inr (fun i9 => ([some a0_4_3e0, some a0_4_3e1, some a0_4_3e2, some a0_4_3e3, some a0_4_3e4, some a0_4_3e5, some a0_4_3e6, some a0_4_3e7, some a0_4_3e8, some a0_4_3e9, some a0_4_3e10, some a0_4_3e11, some a0_4_3e12, some a0_4_3e13, some a0_4_3e14, some a0_4_3e15] : List (Option Nat)).getD i9 none)))))), (a0_4_3e0, .inr (5, [.int a0_4_3e0_0, .int a0_4_3e0_1, .int a0_4_3e0_2, .int a0_4_3e0_3, .int a0_4_3e0_4, .ref a0_4_3e0_5, .ref a0_4_3e0_6])), (a0_1, .inr (5, [.int a0_1_0, .int a0_1_1, .int a0_1_2, .int a0_1_3, .int a0_1_4, .ref a0_1_5, .ref a0_1_6])), (a0_1_5, .inl (ka0_1_5, 9, .inl (fa0_1_5))), (a0_4_3e0_5, .inl (ka0_4_3e0_5, 9, .inl (fa0_4_3e0_5))), (a0_1_6, .inl (ka0_1_6, 9, .inl (fa0_1_6))), (a0_4_3e0_6, .inl (ka0_4_3e0_6, 9, .inl (fa0_4_3e0_6))), (a0_4_3e1, .inr (5, [.int a0_4_3e1_0, .int a0_4_3e1_1, .int a0_4_3e1_2, .int a0_4_3e1_3, .int a0_4_3e1_4, .ref a0_4_3e1_5, .ref a0_4_3e1_6])), (a0_4_3e1_5, .inl (ka0_4_3e1_5, 9, .inl (fa0_4_3e1_5))), (a0_4_3e1_6, .inl (ka0_4_3e1_6, 9, .inl (fa0_4_3e1_6))), (a0_4_3e2, .inr (5, [.int a0_4_3e2_0, .int a0_4_3e2_1, .int a0_4_3e2_2, .int a0_4_3e2_3, .int a0_4_3e2_4, .ref a0_4_3e2_5, .ref a0_4_3e2_6])), (a0_4_3e2_5, .inl (ka0_4_3e2_5, 9, .inl (fa0_4_3e2_5))), (a0_4_3e2_6, .inl (ka0_4_3e2_6, 9, .inl (fa0_4_3e2_6))), (a0_4_3e3, .inr (5, [.int a0_4_3e3_0, .int a0_4_3e3_1, .int a0_4_3e3_2, .int a0_4_3e3_3, .int a0_4_3e3_4, .ref a0_4_3e3_5, .ref a0_4_3e3_6])), (a0_4_3e3_5, .inl (ka0_4_3e3_5, 9, .inl (fa0_4_3e3_5))), (a0_4_3e3_6, .inl (ka0_4_3e3_6, 9, .inl (fa0_4_3e3_6))), (a0_4_3e4, .inr (5, [.int a0_4_3e4_0, .int a0_4_3e4_1, .int a0_4_3e4_2, .int a0_4_3e4_3, .int a0_4_3e4_4, .ref a0_4_3e4_5, .ref a0_4_3e4_6])), (a0_4_3e4_5, .inl (ka0_4_3e4_5, 9, .inl (fa0_4_3e4_5))), (a0_4_3e4_6, .inl (ka0_4_3e4_6, 9, .inl (fa0_4_3e4_6))), (a0_4_3e5, .inr (5, [.int a0_4_3e5_0, .int a0_4_3e5_1, .int a0_4_3e5_2, .int a0_4_3e5_3, .int a0_4_3e5_4, .ref a0_4_3e5_5, .ref a0_4_3e5_6])), (a0_4_3e5_5, .inl (ka0_4_3e5_5, 9, .inl (fa0_4_3e5_5))), (a0_4_3e5_6, .inl (ka0_4_3e5_6, 9, .inl (fa0_4_3e5_6))), (a0_4_3e6, .inr (5, [.int a0_4_3e6_0, .int a0_4_3e6_1, .int a0_4_3e6_2, .int a0_4_3e6_3, .int a0_4_3e6_4, .ref a0_4_3e6_5, .ref a0_4_3e6_6])), (a0_4_3e6_5, .inl (ka0_4_3e6_5, 9, .inl (fa0_4_3e6_5))), (a0_4_3e6_6, .inl (ka0_4_3e6_6, 9, .inl (fa0_4_3e6_6))), (a0_4_3e7, .inr (5, [.int a0_4_3e7_0, .int a0_4_3e7_1, .int a0_4_3e7_2, .int a0_4_3e7_3, .int a0_4_3e7_4, .ref a0_4_3e7_5, .ref a0_4_3e7_6])), (a0_4_3e7_5, .inl (ka0_4_3e7_5, 9, .inl (fa0_4_3e7_5))), (a0_4_3e7_6, .inl (ka0_4_3e7_6, 9, .inl (fa0_4_3e7_6))), (a0_4_3e8, .inr (5, [.int a0_4_3e8_0, .int a0_4_3e8_1, .int a0_4_3e8_2, .int a0_4_3e8_3, .int a0_4_3e8_4, .ref a0_4_3e8_5, .ref a0_4_3e8_6])), (a0_4_3e8_5, .inl (ka0_4_3e8_5, 9, .inl (fa0_4_3e8_5))), (a0_4_3e8_6, .inl (ka0_4_3e8_6, 9, .inl (fa0_4_3e8_6))), (a0_4_3e9, .inr (5, [.int a0_4_3e9_0, .int a0_4_3e9_1, .int a0_4_3e9_2, .int a0_4_3e9_3, .int a0_4_3e9_4, .ref a0_4_3e9_5, .ref a0_4_3e9_6])), (a0_4_3e9_5, .inl (ka0_4_3e9_5, 9, .inl (fa0_4_3e9_5))), (a0_4_3e9_6, .inl (ka0_4_3e9_6, 9, .inl (fa0_4_3e9_6))), (a0_4_3e10, .inr (5, [.int a0_4_3e10_0, .int a0_4_3e10_1, .int a0_4_3e10_2, .int a0_4_3e10_3, .int a0_4_3e10_4, .ref a0_4_3e10_5, .ref a0_4_3e10_6])), (a0_4_3e10_5, .inl (ka0_4_3e10_5, 9, .inl (fa0_4_3e10_5))), (a0_4_3e10_6, .inl (ka0_4_3e10_6, 9, .inl (fa0_4_3e10_6))), (a0_4_3e11, .inr (5, [.int a0_4_3e11_0, .int a0_4_3e11_1, .int a0_4_3e11_2, .int a0_4_3e11_3, .int a0_4_3e11_4, .ref a0_4_3e11_5, .ref a0_4_3e11_6])), (a0_4_3e11_5, .inl (ka0_4_3e11_5, 9, .inl (fa0_4_3e11_5))), (a0_4_3e11_6, .inl (ka0_4_3e11_6, 9, .inl (fa0_4_3e11_6))), (a0_4_3e12, .inr (5, [.int a0_4_3e12_0, .int a0_4_3e12_1, .int a0_4_3e12_2, .int a0_4_3e12_3, .int a0_4_3e12_4, .ref a0_4_3e12_5, .ref a0_4_3e12_6])), (a0_4_3e12_5, .inl (ka0_4_3e12_5, 9, .inl (fa0_4_3e12_5))), (a0_4_3e12_6, .inl (ka0_4_3e12_6, 9, .inl (fa0_4_3e12_6))), (a0_4_3e13, .inr (5, [.int a0_4_3e13_0, .int a0_4_3e13_1, .int a0_4_3e13_2, .int a0_4_3e13_3, .int a0_4_3e13_4, .ref a0_4_3e13_5, .ref a0_4_3e13_6])), (a0_4_3e13_5, .inl (ka0_4_3e13_5, 9, .inl (fa0_4_3e13_5))), (a0_4_3e13_6, .inl (ka0_4_3e13_6, 9, .inl (fa0_4_3e13_6))), (a0_4_3e14, .inr (5, [.int a0_4_3e14_0, .int a0_4_3e14_1, .int a0_4_3e14_2, .int a0_4_3e14_3, .int a0_4_3e14_4, .ref a0_4_3e14_5, .ref a0_4_3e14_6])), (a0_4_3e14_5, .inl (ka0_4_3e14_5, 9, .inl (fa0_4_3e14_5))), (a0_4_3e14_6, .inl (ka0_4_3e14_6, 9, .inl (fa0_4_3e14_6))), (a0_4_3e15, .inr (5, [.int a0_4_3e15_0, .int a0_4_3e15_1, .int a0_4_3e15_2, .int a0_4_3e15_3, .int a0_4_3e15_4, .ref a0_4_3e15_5, .ref a0_4_3e15_6])), (a0_4_3e15_5, .inl (ka0_4_3e15_5, 9, .inl (fa0_4_3e15_5))), (a0_4_3e15_6, .inl (ka0_4_3e15_6, 9, .inl (fa0_4_3e15_6)))]) hP hD hS hA [4, 5, 6, 2, 3, 7, 8, 9, 10, 11, 12, 13, 14, 15, 16, 17, 18, 19, 20, 21, 22, 23, 24, 25, 26, 27, 28, 29, 30, 31, 32, 33, 34, 35, 36, 37, 38, 39, 40, 41, 42, 43, 44, 45, 46, 47, 48, 49, 50, 51, 52, 53, 54] (by decide +kernel) rfl (fun hPc hDc hFc hCc => ?_)
        have hKc := hK.sub (tys' := [(ka0_4_3, (.object RX5)), (ka0_1_5, .int), (ka0_4_3e0_5, .int), (ka0_1_6, .int), (ka0_4_3e0_6, .int), (ka0_4_3e1_5, .int), (ka0_4_3e1_6, .int), (ka0_4_3e2_5, .int), (ka0_4_3e2_6, .int), (ka0_4_3e3_5, .int), (ka0_4_3e3_6, .int), (ka0_4_3e4_5, .int), (ka0_4_3e4_6, .int), (ka0_4_3e5_5, .int), (ka0_4_3e5_6, .int), (ka0_4_3e6_5, .int), (ka0_4_3e6_6, .int), (ka0_4_3e7_5, .int), (ka0_4_3e7_6, .int), (ka0_4_3e8_5, .int), (ka0_4_3e8_6, .int), (ka0_4_3e9_5, .int), (ka0_4_3e9_6, .int), (ka0_4_3e10_5, .int), (ka0_4_3e10_6, .int), (ka0_4_3e11_5, .int), (ka0_4_3e11_6, .int), (ka0_4_3e12_5, .int), (ka0_4_3e12_6, .int), (ka0_4_3e13_5, .int), (ka0_4_3e13_6, .int), (ka0_4_3e14_5, .int), (ka0_4_3e14_6, .int), (ka0_4_3e15_5, .int), (ka0_4_3e15_6, .int)]) [1, 0, 2, 3, 4, 5, 6, 7, 8, 9, 10, 11, 12, 13, 14, 15, 16, 17, 18, 19, 20, 21, 22, 23, 24, 25, 26, 27, 28, 29, 30, 31, 32, 33, 34] rfl
        refine va_callv (va_runV (As := [.ref a0_1]) (rest := []) ⟨hx, hb, hml, hown, hts⟩ (c_X1_keep l dC dI H.size a0_4 a0_1 a0_4_0 a0_4g_1 a0_4g_4 a0_4_2 a0_4_3 ka0_4_3 a0_4_3e0 a0_4_3e1 a0_4_3e2 a0_4_3e3 a0_4_3e4 a0_4_3e5 a0_4_3e6 a0_4_3e7 a0_4_3e8 a0_4_3e9 a0_4_3e10 a0_4_3e11 a0_4_3e12 a0_4_3e13 a0_4_3e14 a0_4_3e15 a0_4_3e0_0 a0_4_3e0_1 a0_4_3e0_2 a0_4_3e0_3 a0_4_3e0_4 a0_4_3e0_5 a0_4_3e0_6 a0_1_0 a0_1_1 a0_1_2 a0_1_3 a0_1_4 a0_1_5 a0_1_6 ka0_1_5 fa0_1_5 ka0_4_3e0_5 fa0_4_3e0_5 ka0_1_6 fa0_1_6 ka0_4_3e0_6 fa0_4_3e0_6 a0_4_3e1_0 a0_4_3e1_1 a0_4_3e1_2 a0_4_3e1_3 a0_4_3e1_4 a0_4_3e1_5 a0_4_3e1_6 ka0_4_3e1_5 fa0_4_3e1_5 ka0_4_3e1_6 fa0_4_3e1_6 a0_4_3e2_0 a0_4_3e2_1 a0_4_3e2_2 a0_4_3e2_3 a0_4_3e2_4 a0_4_3e2_5 a0_4_3e2_6 ka0_4_3e2_5 fa0_4_3e2_5 ka0_4_3e2_6 fa0_4_3e2_6 a0_4_3e3_0 a0_4_3e3_1 a0_4_3e3_2 a0_4_3e3_3 a0_4_3e3_4 a0_4_3e3_5 a0_4_3e3_6 ka0_4_3e3_5 fa0_4_3e3_5 ka0_4_3e3_6 fa0_4_3e3_6 a0_4_3e4_0 a0_4_3e4_1 a0_4_3e4_2 a0_4_3e4_3 a0_4_3e4_4 a0_4_3e4_5 a0_4_3e4_6 ka0_4_3e4_5 fa0_4_3e4_5 ka0_4_3e4_6 fa0_4_3e4_6 a0_4_3e5_0 a0_4_3e5_1 a0_4_3e5_2 a0_4_3e5_3 a0_4_3e5_4 a0_4_3e5_5 a0_4_3e5_6 ka0_4_3e5_5 fa0_4_3e5_5 ka0_4_3e5_6 fa0_4_3e5_6 a0_4_3e6_0 a0_4_3e6_1 a0_4_3e6_2 a0_4_3e6_3 a0_4_3e6_4 a0_4_3e6_5 a0_4_3e6_6 ka0_4_3e6_5 fa0_4_3e6_5 ka0_4_3e6_6 fa0_4_3e6_6 a0_4_3e7_0 a0_4_3e7_1 a0_4_3e7_2 a0_4_3e7_3 a0_4_3e7_4 a0_4_3e7_5 a0_4_3e7_6 ka0_4_3e7_5 fa0_4_3e7_5 ka0_4_3e7_6 fa0_4_3e7_6 a0_4_3e8_0 a0_4_3e8_1 a0_4_3e8_2 a0_4_3e8_3 a0_4_3e8_4 a0_4_3e8_5 a0_4_3e8_6 ka0_4_3e8_5 fa0_4_3e8_5 ka0_4_3e8_6 fa0_4_3e8_6 a0_4_3e9_0 a0_4_3e9_1 a0_4_3e9_2 a0_4_3e9_3 a0_4_3e9_4 a0_4_3e9_5 a0_4_3e9_6 ka0_4_3e9_5 fa0_4_3e9_5 ka0_4_3e9_6 fa0_4_3e9_6 a0_4_3e10_0 a0_4_3e10_1 a0_4_3e10_2 a0_4_3e10_3 a0_4_3e10_4 a0_4_3e10_5 a0_4_3e10_6 ka0_4_3e10_5 fa0_4_3e10_5 ka0_4_3e10_6 fa0_4_3e10_6 a0_4_3e11_0 a0_4_3e11_1 a0_4_3e11_2 a0_4_3e11_3 a0_4_3e11_4 a0_4_3e11_5 a0_4_3e11_6 ka0_4_3e11_5 fa0_4_3e11_5 ka0_4_3e11_6 fa0_4_3e11_6 a0_4_3e12_0 a0_4_3e12_1 a0_4_3e12_2 a0_4_3e12_3 a0_4_3e12_4 a0_4_3e12_5 a0_4_3e12_6 ka0_4_3e12_5 fa0_4_3e12_5 ka0_4_3e12_6 fa0_4_3e12_6 a0_4_3e13_0 a0_4_3e13_1 a0_4_3e13_2 a0_4_3e13_3 a0_4_3e13_4 a0_4_3e13_5 a0_4_3e13_6 ka0_4_3e13_5 fa0_4_3e13_5 ka0_4_3e13_6 fa0_4_3e13_6 a0_4_3e14_0 a0_4_3e14_1 a0_4_3e14_2 a0_4_3e14_3 a0_4_3e14_4 a0_4_3e14_5 a0_4_3e14_6 ka0_4_3e14_5 fa0_4_3e14_5 ka0_4_3e14_6 fa0_4_3e14_6 a0_4_3e15_0 a0_4_3e15_1 a0_4_3e15_2 a0_4_3e15_3 a0_4_3e15_4 a0_4_3e15_5 a0_4_3e15_6 ka0_4_3e15_5 fa0_4_3e15_5 ka0_4_3e15_6 fa0_4_3e15_6 ba0_4_0_l ba0_4_0_u ba0_4_2_l ba0_4_2_u ba0_4_3e0_1_l ba0_4_3e0_1_u ba0_1_1_l ba0_1_1_u ba0_4_3e1_1_l ba0_4_3e1_1_u ba0_4_3e2_1_l ba0_4_3e2_1_u ba0_4_3e3_1_l ba0_4_3e3_1_u ba0_4_3e4_1_l ba0_4_3e4_1_u ba0_4_3e5_1_l ba0_4_3e5_1_u ba0_4_3e6_1_l ba0_4_3e6_1_u ba0_4_3e7_1_l ba0_4_3e7_1_u ba0_4_3e8_1_l ba0_4_3e8_1_u ba0_4_3e9_1_l ba0_4_3e9_1_u ba0_4_3e10_1_l ba0_4_3e10_1_u ba0_4_3e11_1_l ba0_4_3e11_1_u ba0_4_3e12_1_l ba0_4_3e12_1_u ba0_4_3e13_1_l ba0_4_3e13_1_u ba0_4_3e14_1_l ba0_4_3e14_1_u ba0_4_3e15_1_l ba0_4_3e15_1_u) (cwV 1 hts gX7_put_X1_keep rfl rfl rfl zd_X1_keep ⟨Nat.le_of_ble_eq_true rfl, Nat.le_of_ble_eq_true rfl⟩) ⟨ax_blind (fun _ _ _ _ _ => trivial), zr_1 hKc hPc (q0 := 0) rfl, ax_pre hPc hKc hDc (fun _ _ => trivial)⟩ rfl rfl hl.1 rfl (lv_room (Nat.le_of_ble_eq_true rfl)) dX7_put_52 ⟨Nat.le_of_ble_eq_true rfl, Nat.le_of_ble_eq_true rfl⟩) hS (fun q _ h => hFc q h) hFc (fun u t H locs ht hvm hw => zx_2 (fun v52ni v52nf => zy_18 (fun bv52na0_0 bv52na0_2 bv52na0_3e0_1 bv52na0_3e1_1 bv52na0_3e2_1 bv52na0_3e3_1 bv52na0_3e4_1 bv52na0_3e5_1 bv52na0_3e6_1 bv52na0_3e7_1 bv52na0_3e8_1 bv52na0_3e9_1 bv52na0_3e10_1 bv52na0_3e11_1 bv52na0_3e12_1 bv52na0_3e13_1 bv52na0_3e14_1 bv52na0_3e15_1 hB hz1 hk1 hS1 => zo hB ht hS1 (fun hP1 hK1 hD1 hS => ?_))))
        refine zc_backc (w := [(a0, .inr (7, [a0g_0, .ref a0_1, a0g_2, a0g_3, .ref a0_4, a0g_5, a0g_6, .ref a0_7, .int a0_8, a0g_9, a0g_10])), (a0_7, .inr (0, [.int a0_7_0, a0_7g_1, a0_7g_2, a0_7g_3, a0_7g_4, a0_7g_5, a0_7g_6, a0_7g_7, a0_7g_8, a0_7g_9, a0_7g_10, a0_7g_11, a0_7g_12, a0_7g_13, a0_7g_14])), (a0_1, .inr (5, [.int a0_1_0, .int a0_1_1, .int a0_1_2, .int a0_1_3, .int a0_1_4, .ref a0_1_5, .ref a0_1_6])), (a0_1_5, .inl (ka0_1_5, 9, .inl (fa0_1_5))), (a0_4, .inr (1, [.int (v52ni 0), a0_4g_1, .int (v52ni 1), .ref a0_4_3, a0_4g_4])), (a0_4_3, .inl (ka0_4_3, 16, .inr (.inr (.inr (.inr (fun i9 => ([some a0_4_3e0, some a0_4_3e1, some a0_4_3e2, some a0_4_3e3, some a0_4_3e4, some a0_4_3e5, some a0_4_3e6, some a0_4_3e7, some a0_4_3e8, some a0_4_3e9, some a0_4_3e10, some a0_4_3e11, some a0_4_3e12, some a0_4_3e13, some a0_4_3e14, some a0_4_3e15] : List (Option Nat)).getD i9 none)))))), (a0_4_3e0, .inr (5, [.int (v52ni 2), .int (v52ni 3), .int (v52ni 4), .int (v52ni 5), .int (v52ni 6), .ref a0_4_3e0_5, .ref a0_4_3e0_6])), (a0_4_3e0_5, .inl (ka0_4_3e0_5, 9, .inl ((v52nf 0)))), (a0_1_6, .inl (ka0_1_6, 9, .inl (fa0_1_6))), (a0_4_3e0_6, .inl (ka0_4_3e0_6, 9, .inl ((v52nf 1)))), (a0_4_3e1, .inr (5, [.int (v52ni 7), .int (v52ni 8), .int (v52ni 9), .int (v52ni 10), .int (v52ni 11), .ref a0_4_3e1_5, .ref a0_4_3e1_6])), (a0_4_3e1_5, .inl (ka0_4_3e1_5, 9, .inl ((v52nf 2)))), (a0_4_3e1_6, .inl (ka0_4_3e1_6, 9, .inl ((v52nf 3)))), (a0_4_3e2, .inr (5, [.int (v52ni 12), .int (v52ni 13), .int (v52ni 14), .int (v52ni 15), .int (v52ni 16), .ref a0_4_3e2_5, .ref a0_4_3e2_6])), (a0_4_3e2_5, .inl (ka0_4_3e2_5, 9, .inl ((v52nf 4)))), (a0_4_3e2_6, .inl (ka0_4_3e2_6, 9, .inl ((v52nf 5)))), (a0_4_3e3, .inr (5, [.int (v52ni 17), .int (v52ni 18), .int (v52ni 19), .int (v52ni 20), .int (v52ni 21), .ref a0_4_3e3_5, .ref a0_4_3e3_6])), (a0_4_3e3_5, .inl (ka0_4_3e3_5, 9, .inl ((v52nf 6)))), (a0_4_3e3_6, .inl (ka0_4_3e3_6, 9, .inl ((v52nf 7)))), (a0_4_3e4, .inr (5, [.int (v52ni 22), .int (v52ni 23), .int (v52ni 24), .int (v52ni 25), .int (v52ni 26), .ref a0_4_3e4_5, .ref a0_4_3e4_6])), (a0_4_3e4_5, .inl (ka0_4_3e4_5, 9, .inl ((v52nf 8)))), (a0_4_3e4_6, .inl (ka0_4_3e4_6, 9, .inl ((v52nf 9)))), (a0_4_3e5, .inr (5, [.int (v52ni 27), .int (v52ni 28), .int (v52ni 29), .int (v52ni 30), .int (v52ni 31), .ref a0_4_3e5_5, .ref a0_4_3e5_6])), (a0_4_3e5_5, .inl (ka0_4_3e5_5, 9, .inl ((v52nf 10)))), (a0_4_3e5_6, .inl (ka0_4_3e5_6, 9, .inl ((v52nf 11)))), (a0_4_3e6, .inr (5, [.int (v52ni 32), .int (v52ni 33), .int (v52ni 34), .int (v52ni 35), .int (v52ni 36), .ref a0_4_3e6_5, .ref a0_4_3e6_6])), (a0_4_3e6_5, .inl (ka0_4_3e6_5, 9, .inl ((v52nf 12)))), (a0_4_3e6_6, .inl (ka0_4_3e6_6, 9, .inl ((v52nf 13)))), (a0_4_3e7, .inr (5, [.int (v52ni 37), .int (v52ni 38), .int (v52ni 39), .int (v52ni 40), .int (v52ni 41), .ref a0_4_3e7_5, .ref a0_4_3e7_6])), (a0_4_3e7_5, .inl (ka0_4_3e7_5, 9, .inl ((v52nf 14)))), (a0_4_3e7_6, .inl (ka0_4_3e7_6, 9, .inl ((v52nf 15)))), (a0_4_3e8, .inr (5, [.int (v52ni 42), .int (v52ni 43), .int (v52ni 44), .int (v52ni 45), .int (v52ni 46), .ref a0_4_3e8_5, .ref a0_4_3e8_6])), (a0_4_3e8_5, .inl (ka0_4_3e8_5, 9, .inl ((v52nf 16)))), (a0_4_3e8_6, .inl (ka0_4_3e8_6, 9, .inl ((v52nf 17)))), (a0_4_3e9, .inr (5, [.int (v52ni 47), .int (v52ni 48), .int (v52ni 49), .int (v52ni 50), .int (v52ni 51), .ref a0_4_3e9_5, .ref a0_4_3e9_6])), (a0_4_3e9_5, .inl (ka0_4_3e9_5, 9, .inl ((v52nf 18)))), (a0_4_3e9_6, .inl (ka0_4_3e9_6, 9, .inl ((v52nf 19)))), (a0_4_3e10, .inr (5, [.int (v52ni 52), .int (v52ni 53), .int (v52ni 54), .int (v52ni 55), .int (v52ni 56), .ref a0_4_3e10_5, .ref a0_4_3e10_6])), (a0_4_3e10_5, .inl (ka0_4_3e10_5, 9, .inl ((v52nf 20)))), (a0_4_3e10_6, .inl (ka0_4_3e10_6, 9, .inl ((v52nf 21)))), (a0_4_3e11, .inr (5, [.int (v52ni 57), .int (v52ni 58), .int (v52ni 59), .int (v52ni 60), .int (v52ni 61), .ref a0_4_3e11_5, .ref a0_4_3e11_6])), (a0_4_3e11_5, .inl (ka0_4_3e11_5, 9, .inl ((v52nf 22)))), (a0_4_3e11_6, .inl (ka0_4_3e11_6, 9, .inl ((v52nf 23)))), (a0_4_3e12, .inr (5, [.int (v52ni 62), .int (v52ni 63), .int (v52ni 64), .int (v52ni 65), .int (v52ni 66), .ref a0_4_3e12_5, .ref a0_4_3e12_6])), (a0_4_3e12_5, .inl (ka0_4_3e12_5, 9, .inl ((v52nf 24)))), (a0_4_3e12_6, .inl (ka0_4_3e12_6, 9, .inl ((v52nf 25)))), (a0_4_3e13, .inr (5, [.int (v52ni 67), .int (v52ni 68), .int (v52ni 69), .int (v52ni 70), .int (v52ni 71), .ref a0_4_3e13_5, .ref a0_4_3e13_6])), (a0_4_3e13_5, .inl (ka0_4_3e13_5, 9, .inl ((v52nf 26)))), (a0_4_3e13_6, .inl (ka0_4_3e13_6, 9, .inl ((v52nf 27)))), (a0_4_3e14, .inr (5, [.int (v52ni 72), .int (v52ni 73), .int (v52ni 74), .int (v52ni 75), .int (v52ni 76), .ref a0_4_3e14_5, .ref a0_4_3e14_6])), (a0_4_3e14_5, .inl (ka0_4_3e14_5, 9, .inl ((v52nf 28)))), (a0_4_3e14_6, .inl (ka0_4_3e14_6, 9, .inl ((v52nf 29)))), (a0_4_3e15, .inr (5, [.int (v52ni 77), .int (v52ni 78), .int (v52ni 79), .int (v52ni 80), .int (v52ni 81), .ref a0_4_3e15_5, .ref a0_4_3e15_6])), (a0_4_3e15_5, .inl (ka0_4_3e15_5, 9, .inl ((v52nf 30)))), (a0_4_3e15_6, .inl (ka0_4_3e15_6, 9, .inl ((v52nf 31))))]) hP hD hCc hk1 hFc hP1 hD1 [.inl 0, .inl 1, .inr 3, .inr 4, .inr 0, .inr 1, .inr 2, .inr 5, .inr 6, .inr 7, .inr 8, .inr 9, .inr 10, .inr 11, .inr 12, .inr 13, .inr 14, .inr 15, .inr 16, .inr 17, .inr 18, .inr 19, .inr 20, .inr 21, .inr 22, .inr 23, .inr 24, .inr 25, .inr 26, .inr 27, .inr 28, .inr 29, .inr 30, .inr 31, .inr 32, .inr 33, .inr 34, .inr 35, .inr 36, .inr 37, .inr 38, .inr 39, .inr 40, .inr 41, .inr 42, .inr 43, .inr 44, .inr 45, .inr 46, .inr 47, .inr 48, .inr 49, .inr 50, .inr 51, .inr 52] (by decide +kernel) rfl (fun hP hD => ?_)
        refine lv_aload_n hx hb dX7_put_55 rfl (lv_at hl 0 rfl) ?_
        refine va_get (D := (dC, dI)) (ci := 7) (v := .ref a0_1) (C := RX7) (T := TX7) (N := 11) hx hb hts zi_X7_put_7 hown hK hP 0 rfl rfl 1 (by decide) (hts (.fieldLink RX7 19 "WaxTurns" "now" "LWaxTurns$Scene;") (zm_X7_put_r1 (List.mem_of_getElem? (i := 0) rfl))) (fun _ h9 => h9) rfl dX7_put_56 ?_
        refine va_get (D := (dC, dI)) (ci := 5) (v := .ref a0_1_5) (C := RX5) (T := TX5) (N := 7) hx hb hts zi_X7_put_5 hown hK hP 2 rfl rfl 5 (by decide) (hts (.fieldLink RX7 126 "WaxTurns$Scene" "places" "[I") (zm_X7_put_r1 (List.mem_of_getElem? (i := 1) rfl))) (fun _ h9 => h9) rfl dX7_put_59 ?_
        refine lv_iload_n hx hb dX7_put_62 rfl (lv_at hl 1 rfl) ?_
        refine va_iald hx hb hK hP 3 0 rfl rfl (ai_in l2k0_a1 u2k0_a1 (by decide) (by decide)) dX7_put_63 ?_
        refine ax_ti x33 ex33.symm ?_
        refine lv_istore_n (lv' := [(2, .int x33), (0, .ref a0), (1, .int a1)]) hx hb dX7_put_64 rfl hl (by decide) rfl (fun ls hl => ?_)
        refine lv_aload_n hx hb dX7_put_65 rfl (lv_at hl 1 rfl) ?_
        refine va_get (D := (dC, dI)) (ci := 7) (v := .ref a0_1) (C := RX7) (T := TX7) (N := 11) hx hb hts zi_X7_put_7 hown hK hP 0 rfl rfl 1 (by decide) (hts (.fieldLink RX7 19 "WaxTurns" "now" "LWaxTurns$Scene;") (zm_X7_put_r1 (List.mem_of_getElem? (i := 0) rfl))) (fun _ h9 => h9) rfl dX7_put_66 ?_
        refine va_get (D := (dC, dI)) (ci := 5) (v := .ref a0_1_5) (C := RX5) (T := TX5) (N := 7) hx hb hts zi_X7_put_5 hown hK hP 2 rfl rfl 5 (by decide) (hts (.fieldLink RX7 126 "WaxTurns$Scene" "places" "[I") (zm_X7_put_r1 (List.mem_of_getElem? (i := 1) rfl))) (fun _ h9 => h9) rfl dX7_put_69 ?_
        refine lv_iload_n hx hb dX7_put_72 rfl (lv_at hl 2 rfl) ?_
        refine lv_iload_n hx hb dX7_put_73 rfl (lv_at hl 2 rfl) ?_
        refine va_iast hx hb hK hP hD hS 3 0 rfl rfl (ai_in l2k0_a1 u2k0_a1 (by decide) (by decide)) dX7_put_74 (fun H locs hP hD hS => ?_)
        obtain ⟨f74, hf74⟩ : ∃ g9 : Nat → Int32, upd fa0_1_5 (a1 : Int32).toNatClampNeg a1 = g9 := ⟨_, rfl⟩
        rw [hf74] at hP hD
        refine zc_rec (w := [(a0, .inr (7, [a0g_0, .ref a0_1, a0g_2, a0g_3, .ref a0_4, a0g_5, a0g_6, .ref a0_7, .int a0_8, a0g_9, a0g_10])), (a0_7, .inr (0, [.int a0_7_0, a0_7g_1, a0_7g_2, a0_7g_3, a0_7g_4, a0_7g_5, a0_7g_6, a0_7g_7, a0_7g_8, a0_7g_9, a0_7g_10, a0_7g_11, a0_7g_12, a0_7g_13, a0_7g_14])), (a0_1, .inr (5, [.int a0_1_0, .int a0_1_1, .int a0_1_2, .int a0_1_3, .int a0_1_4, .ref a0_1_5, .ref a0_1_6])), (a0_1_5, .inl (ka0_1_5, 9, .inl (f74))), (a0_4, .inr (1, [.int (v52ni 0), a0_4g_1, .int (v52ni 1), .ref a0_4_3, a0_4g_4])), (a0_4_3, .inl (ka0_4_3, 16, .inr (.inr (.inr (.inr (fun i9 => ([some a0_4_3e0, some a0_4_3e1, some a0_4_3e2, some a0_4_3e3, some a0_4_3e4, some a0_4_3e5, some a0_4_3e6, some a0_4_3e7, some a0_4_3e8, some a0_4_3e9, some a0_4_3e10, some a0_4_3e11, some a0_4_3e12, some a0_4_3e13, some a0_4_3e14, some a0_4_3e15] : List (Option Nat)).getD i9 none)))))), (a0_4_3e0, .inr (5, [.int (v52ni 2), .int (v52ni 3), .int (v52ni 4), .int (v52ni 5), .int (v52ni 6), .ref a0_4_3e0_5, .ref a0_4_3e0_6])), (a0_4_3e0_5, .inl (ka0_4_3e0_5, 9, .inl ((v52nf 0)))), (a0_1_6, .inl (ka0_1_6, 9, .inl (fa0_1_6))), (a0_4_3e0_6, .inl (ka0_4_3e0_6, 9, .inl ((v52nf 1)))), (a0_4_3e1, .inr (5, [.int (v52ni 7), .int (v52ni 8), .int (v52ni 9), .int (v52ni 10), .int (v52ni 11), .ref a0_4_3e1_5, .ref a0_4_3e1_6])), (a0_4_3e1_5, .inl (ka0_4_3e1_5, 9, .inl ((v52nf 2)))), (a0_4_3e1_6, .inl (ka0_4_3e1_6, 9, .inl ((v52nf 3)))), (a0_4_3e2, .inr (5, [.int (v52ni 12), .int (v52ni 13), .int (v52ni 14), .int (v52ni 15), .int (v52ni 16), .ref a0_4_3e2_5, .ref a0_4_3e2_6])), (a0_4_3e2_5, .inl (ka0_4_3e2_5, 9, .inl ((v52nf 4)))), (a0_4_3e2_6, .inl (ka0_4_3e2_6, 9, .inl ((v52nf 5)))), (a0_4_3e3, .inr (5, [.int (v52ni 17), .int (v52ni 18), .int (v52ni 19), .int (v52ni 20), .int (v52ni 21), .ref a0_4_3e3_5, .ref a0_4_3e3_6])), (a0_4_3e3_5, .inl (ka0_4_3e3_5, 9, .inl ((v52nf 6)))), (a0_4_3e3_6, .inl (ka0_4_3e3_6, 9, .inl ((v52nf 7)))), (a0_4_3e4, .inr (5, [.int (v52ni 22), .int (v52ni 23), .int (v52ni 24), .int (v52ni 25), .int (v52ni 26), .ref a0_4_3e4_5, .ref a0_4_3e4_6])), (a0_4_3e4_5, .inl (ka0_4_3e4_5, 9, .inl ((v52nf 8)))), (a0_4_3e4_6, .inl (ka0_4_3e4_6, 9, .inl ((v52nf 9)))), (a0_4_3e5, .inr (5, [.int (v52ni 27), .int (v52ni 28), .int (v52ni 29), .int (v52ni 30), .int (v52ni 31), .ref a0_4_3e5_5, .ref a0_4_3e5_6])), (a0_4_3e5_5, .inl (ka0_4_3e5_5, 9, .inl ((v52nf 10)))), (a0_4_3e5_6, .inl (ka0_4_3e5_6, 9, .inl ((v52nf 11)))), (a0_4_3e6, .inr (5, [.int (v52ni 32), .int (v52ni 33), .int (v52ni 34), .int (v52ni 35), .int (v52ni 36), .ref a0_4_3e6_5, .ref a0_4_3e6_6])), (a0_4_3e6_5, .inl (ka0_4_3e6_5, 9, .inl ((v52nf 12)))), (a0_4_3e6_6, .inl (ka0_4_3e6_6, 9, .inl ((v52nf 13)))), (a0_4_3e7, .inr (5, [.int (v52ni 37), .int (v52ni 38), .int (v52ni 39), .int (v52ni 40), .int (v52ni 41), .ref a0_4_3e7_5, .ref a0_4_3e7_6])), (a0_4_3e7_5, .inl (ka0_4_3e7_5, 9, .inl ((v52nf 14)))), (a0_4_3e7_6, .inl (ka0_4_3e7_6, 9, .inl ((v52nf 15)))), (a0_4_3e8, .inr (5, [.int (v52ni 42), .int (v52ni 43), .int (v52ni 44), .int (v52ni 45), .int (v52ni 46), .ref a0_4_3e8_5, .ref a0_4_3e8_6])), (a0_4_3e8_5, .inl (ka0_4_3e8_5, 9, .inl ((v52nf 16)))), (a0_4_3e8_6, .inl (ka0_4_3e8_6, 9, .inl ((v52nf 17)))), (a0_4_3e9, .inr (5, [.int (v52ni 47), .int (v52ni 48), .int (v52ni 49), .int (v52ni 50), .int (v52ni 51), .ref a0_4_3e9_5, .ref a0_4_3e9_6])), (a0_4_3e9_5, .inl (ka0_4_3e9_5, 9, .inl ((v52nf 18)))), (a0_4_3e9_6, .inl (ka0_4_3e9_6, 9, .inl ((v52nf 19)))), (a0_4_3e10, .inr (5, [.int (v52ni 52), .int (v52ni 53), .int (v52ni 54), .int (v52ni 55), .int (v52ni 56), .ref a0_4_3e10_5, .ref a0_4_3e10_6])), (a0_4_3e10_5, .inl (ka0_4_3e10_5, 9, .inl ((v52nf 20)))), (a0_4_3e10_6, .inl (ka0_4_3e10_6, 9, .inl ((v52nf 21)))), (a0_4_3e11, .inr (5, [.int (v52ni 57), .int (v52ni 58), .int (v52ni 59), .int (v52ni 60), .int (v52ni 61), .ref a0_4_3e11_5, .ref a0_4_3e11_6])), (a0_4_3e11_5, .inl (ka0_4_3e11_5, 9, .inl ((v52nf 22)))), (a0_4_3e11_6, .inl (ka0_4_3e11_6, 9, .inl ((v52nf 23)))), (a0_4_3e12, .inr (5, [.int (v52ni 62), .int (v52ni 63), .int (v52ni 64), .int (v52ni 65), .int (v52ni 66), .ref a0_4_3e12_5, .ref a0_4_3e12_6])), (a0_4_3e12_5, .inl (ka0_4_3e12_5, 9, .inl ((v52nf 24)))), (a0_4_3e12_6, .inl (ka0_4_3e12_6, 9, .inl ((v52nf 25)))), (a0_4_3e13, .inr (5, [.int (v52ni 67), .int (v52ni 68), .int (v52ni 69), .int (v52ni 70), .int (v52ni 71), .ref a0_4_3e13_5, .ref a0_4_3e13_6])), (a0_4_3e13_5, .inl (ka0_4_3e13_5, 9, .inl ((v52nf 26)))), (a0_4_3e13_6, .inl (ka0_4_3e13_6, 9, .inl ((v52nf 27)))), (a0_4_3e14, .inr (5, [.int (v52ni 72), .int (v52ni 73), .int (v52ni 74), .int (v52ni 75), .int (v52ni 76), .ref a0_4_3e14_5, .ref a0_4_3e14_6])), (a0_4_3e14_5, .inl (ka0_4_3e14_5, 9, .inl ((v52nf 28)))), (a0_4_3e14_6, .inl (ka0_4_3e14_6, 9, .inl ((v52nf 29)))), (a0_4_3e15, .inr (5, [.int (v52ni 77), .int (v52ni 78), .int (v52ni 79), .int (v52ni 80), .int (v52ni 81), .ref a0_4_3e15_5, .ref a0_4_3e15_6])), (a0_4_3e15_5, .inl (ka0_4_3e15_5, 9, .inl ((v52nf 30)))), (a0_4_3e15_6, .inl (ka0_4_3e15_6, 9, .inl ((v52nf 31))))]) hP hD rfl (fun hP hD => ?_)
        refine lv_aload_n hx hb dX7_put_75 rfl (lv_at hl 1 rfl) ?_
        refine lv_iload_n hx hb dX7_put_76 rfl (lv_at hl 0 rfl) ?_
        refine va_calli (va_runV (As := [.int x33]) (rest := []) ⟨hx, hb, hml, hown, hts⟩ (c_X7_answered l dC dI H.size a0 x33 a0g_0 (.ref a0_1) a0g_2 a0g_3 (.ref a0_4) a0g_5 a0g_6 (.ref a0_7) a0g_9 a0g_10 a0_8 ) (cwV 1 hts gX7_put_X7_answered rfl rfl rfl zd_X7_answered ⟨Nat.le_of_ble_eq_true rfl, Nat.le_of_ble_eq_true rfl⟩) ⟨ax_blind (fun _ _ _ _ _ => trivial), zr_7 (zp_K hK) (zp_P1 hP) (q0 := 0) rfl, ax_pre (zp_P1 hP) (zp_K hK) (zp_D1 hD) (fun _ _ => trivial)⟩ rfl rfl hl.1 rfl (lv_room (Nat.le_of_ble_eq_true rfl)) dX7_put_77 ⟨Nat.le_of_ble_eq_true rfl, Nat.le_of_ble_eq_true rfl⟩) hS (fun q _ h => zp_F1 hD hS hA q h) (zp_F1 hD hS hA) (fun r77 u t H locs ht hvm hw => zx_1 (fun v77na0_8 => zy_1 (fun hraw77_0 hB hz1 hk1 hS1 => zo1 hB ht hP hD hk1 (zp_F1 hD hS hA) hS1 (fun hP hK1 hD hS => ?_))))
        have hw : r77 = x33 := hw
        have hw := hw.symm
        subst hw
        exact W.iret (v := x33) hx hb hr (fun t ht hW => ⟨⟨x33, (), rfl, trivial, (fun i9 => ([v77na0_8, (v52ni 0), (v52ni 1), (v52ni 2), (v52ni 3), (v52ni 4), (v52ni 5), (v52ni 6), (v52ni 7), (v52ni 8), (v52ni 9), (v52ni 10), (v52ni 11), (v52ni 12), (v52ni 13), (v52ni 14), (v52ni 15), (v52ni 16), (v52ni 17), (v52ni 18), (v52ni 19), (v52ni 20), (v52ni 21), (v52ni 22), (v52ni 23), (v52ni 24), (v52ni 25), (v52ni 26), (v52ni 27), (v52ni 28), (v52ni 29), (v52ni 30), (v52ni 31), (v52ni 32), (v52ni 33), (v52ni 34), (v52ni 35), (v52ni 36), (v52ni 37), (v52ni 38), (v52ni 39), (v52ni 40), (v52ni 41), (v52ni 42), (v52ni 43), (v52ni 44), (v52ni 45), (v52ni 46), (v52ni 47), (v52ni 48), (v52ni 49), (v52ni 50), (v52ni 51), (v52ni 52), (v52ni 53), (v52ni 54), (v52ni 55), (v52ni 56), (v52ni 57), (v52ni 58), (v52ni 59), (v52ni 60), (v52ni 61), (v52ni 62), (v52ni 63), (v52ni 64), (v52ni 65), (v52ni 66), (v52ni 67), (v52ni 68), (v52ni 69), (v52ni 70), (v52ni 71), (v52ni 72), (v52ni 73), (v52ni 74), (v52ni 75), (v52ni 76), (v52ni 77), (v52ni 78), (v52ni 79), (v52ni 80), (v52ni 81)] : List Int32).getD i9 0), (fun i9 => ([f74, (v52nf 0), (v52nf 1), (v52nf 2), (v52nf 3), (v52nf 4), (v52nf 5), (v52nf 6), (v52nf 7), (v52nf 8), (v52nf 9), (v52nf 10), (v52nf 11), (v52nf 12), (v52nf 13), (v52nf 14), (v52nf 15), (v52nf 16), (v52nf 17), (v52nf 18), (v52nf 19), (v52nf 20), (v52nf 21), (v52nf 22), (v52nf 23), (v52nf 24), (v52nf 25), (v52nf 26), (v52nf 27), (v52nf 28), (v52nf 29), (v52nf 30), (v52nf 31)] : List (Nat → Int32)).getD i9 (fun _ => 0)), ⟨bv52na0_0.1, bv52na0_0.2⟩, ⟨bv52na0_2.1, bv52na0_2.2⟩, ⟨bv52na0_3e0_1.1, bv52na0_3e0_1.2⟩, ⟨bv52na0_3e1_1.1, bv52na0_3e1_1.2⟩, ⟨bv52na0_3e2_1.1, bv52na0_3e2_1.2⟩, ⟨bv52na0_3e3_1.1, bv52na0_3e3_1.2⟩, ⟨bv52na0_3e4_1.1, bv52na0_3e4_1.2⟩, ⟨bv52na0_3e5_1.1, bv52na0_3e5_1.2⟩, ⟨bv52na0_3e6_1.1, bv52na0_3e6_1.2⟩, ⟨bv52na0_3e7_1.1, bv52na0_3e7_1.2⟩, ⟨bv52na0_3e8_1.1, bv52na0_3e8_1.2⟩, ⟨bv52na0_3e9_1.1, bv52na0_3e9_1.2⟩, ⟨bv52na0_3e10_1.1, bv52na0_3e10_1.2⟩, ⟨bv52na0_3e11_1.1, bv52na0_3e11_1.2⟩, ⟨bv52na0_3e12_1.1, bv52na0_3e12_1.2⟩, ⟨bv52na0_3e13_1.1, bv52na0_3e13_1.2⟩, ⟨bv52na0_3e14_1.1, bv52na0_3e14_1.2⟩, ⟨bv52na0_3e15_1.1, bv52na0_3e15_1.2⟩, (show v77na0_8.toInt ≠ 4 from (by first | assumption | decide | omega)), by rw [ht]; exact hP, va_K.moved hW.alike hK, hD⟩, hS.F ht⟩) hS.2.2 dX7_put_80
      · have gc35 := ai_eq c35
        have u35f_x33 : x33.toInt ≤ (8 : Int) := Int.le_trans (Int.le_of_eq gc35) u2k0_a1
        have l35f_x33 : (0 : Int) ≤ x33.toInt := Int.le_trans l2k0_a1 (Int.le_of_eq gc35.symm)
        refine lv_aload_n hx hb dX7_put_38 rfl (lv_at hl 0 rfl) ?_
        refine lv_iconst (v := 5) hx hb dX7_put_39 zk_iconst_5 ?_
        refine va_calli (va_runV (As := [.int 5]) (rest := []) ⟨hx, hb, hml, hown, hts⟩ (c_X7_refused5 l dC dI H.size a0 5 a0g_0 (.ref a0_1) a0g_2 a0g_3 (.ref a0_4) a0g_5 a0g_6 (.ref a0_7) a0g_9 a0g_10 a0_8 zq114 (Int.le_trans zq115 zq132)) (cwV 1 hts gX7_put_X7_refused rfl rfl rfl zd_X7_refused ⟨Nat.le_of_ble_eq_true rfl, Nat.le_of_ble_eq_true rfl⟩) ⟨ax_blind (fun _ _ _ _ _ => trivial), zr_7 (zp_K hK) (zp_P1 hP) (q0 := 0) rfl, ax_pre (zp_P1 hP) (zp_K hK) (zp_D1 hD) (fun _ _ => trivial)⟩ rfl rfl hl.1 rfl (lv_room (Nat.le_of_ble_eq_true rfl)) dX7_put_40 ⟨Nat.le_of_ble_eq_true rfl, Nat.le_of_ble_eq_true rfl⟩) hS (fun q _ h => zp_F1 hD hS hA q h) (zp_F1 hD hS hA) (fun r40 u t H locs ht hvm hw => zx_1 (fun v40na0_8 => zy_1 (fun hraw40_0 hB hz1 hk1 hS1 => zo1 hB ht hP hD hk1 (zp_F1 hD hS hA) hS1 (fun hP hK1 hD hS => ?_))))
        have hw : r40 = (-1) := hw
        have hw := hw.symm
        subst hw
        exact W.iret (v := (-1)) hx hb hr (fun t ht hW => ⟨⟨(-1), (), rfl, trivial, (fun i9 => ([v40na0_8, a0_4_0, a0_4_2, a0_4_3e0_0, a0_4_3e0_1, a0_4_3e0_2, a0_4_3e0_3, a0_4_3e0_4, a0_4_3e1_0, a0_4_3e1_1, a0_4_3e1_2, a0_4_3e1_3, a0_4_3e1_4, a0_4_3e2_0, a0_4_3e2_1, a0_4_3e2_2, a0_4_3e2_3, a0_4_3e2_4, a0_4_3e3_0, a0_4_3e3_1, a0_4_3e3_2, a0_4_3e3_3, a0_4_3e3_4, a0_4_3e4_0, a0_4_3e4_1, a0_4_3e4_2, a0_4_3e4_3, a0_4_3e4_4, a0_4_3e5_0, a0_4_3e5_1, a0_4_3e5_2, a0_4_3e5_3, a0_4_3e5_4, a0_4_3e6_0, a0_4_3e6_1, a0_4_3e6_2, a0_4_3e6_3, a0_4_3e6_4, a0_4_3e7_0, a0_4_3e7_1, a0_4_3e7_2, a0_4_3e7_3, a0_4_3e7_4, a0_4_3e8_0, a0_4_3e8_1, a0_4_3e8_2, a0_4_3e8_3, a0_4_3e8_4, a0_4_3e9_0, a0_4_3e9_1, a0_4_3e9_2, a0_4_3e9_3, a0_4_3e9_4, a0_4_3e10_0, a0_4_3e10_1, a0_4_3e10_2, a0_4_3e10_3, a0_4_3e10_4, a0_4_3e11_0, a0_4_3e11_1, a0_4_3e11_2, a0_4_3e11_3, a0_4_3e11_4, a0_4_3e12_0, a0_4_3e12_1, a0_4_3e12_2, a0_4_3e12_3, a0_4_3e12_4, a0_4_3e13_0, a0_4_3e13_1, a0_4_3e13_2, a0_4_3e13_3, a0_4_3e13_4, a0_4_3e14_0, a0_4_3e14_1, a0_4_3e14_2, a0_4_3e14_3, a0_4_3e14_4, a0_4_3e15_0, a0_4_3e15_1, a0_4_3e15_2, a0_4_3e15_3, a0_4_3e15_4] : List Int32).getD i9 0), (fun i9 => ([fa0_1_5, fa0_4_3e0_5, fa0_4_3e0_6, fa0_4_3e1_5, fa0_4_3e1_6, fa0_4_3e2_5, fa0_4_3e2_6, fa0_4_3e3_5, fa0_4_3e3_6, fa0_4_3e4_5, fa0_4_3e4_6, fa0_4_3e5_5, fa0_4_3e5_6, fa0_4_3e6_5, fa0_4_3e6_6, fa0_4_3e7_5, fa0_4_3e7_6, fa0_4_3e8_5, fa0_4_3e8_6, fa0_4_3e9_5, fa0_4_3e9_6, fa0_4_3e10_5, fa0_4_3e10_6, fa0_4_3e11_5, fa0_4_3e11_6, fa0_4_3e12_5, fa0_4_3e12_6, fa0_4_3e13_5, fa0_4_3e13_6, fa0_4_3e14_5, fa0_4_3e14_6, fa0_4_3e15_5, fa0_4_3e15_6] : List (Nat → Int32)).getD i9 (fun _ => 0)), ⟨ba0_4_0_l, ba0_4_0_u⟩, ⟨ba0_4_2_l, ba0_4_2_u⟩, ⟨ba0_4_3e0_1_l, ba0_4_3e0_1_u⟩, ⟨ba0_4_3e1_1_l, ba0_4_3e1_1_u⟩, ⟨ba0_4_3e2_1_l, ba0_4_3e2_1_u⟩, ⟨ba0_4_3e3_1_l, ba0_4_3e3_1_u⟩, ⟨ba0_4_3e4_1_l, ba0_4_3e4_1_u⟩, ⟨ba0_4_3e5_1_l, ba0_4_3e5_1_u⟩, ⟨ba0_4_3e6_1_l, ba0_4_3e6_1_u⟩, ⟨ba0_4_3e7_1_l, ba0_4_3e7_1_u⟩, ⟨ba0_4_3e8_1_l, ba0_4_3e8_1_u⟩, ⟨ba0_4_3e9_1_l, ba0_4_3e9_1_u⟩, ⟨ba0_4_3e10_1_l, ba0_4_3e10_1_u⟩, ⟨ba0_4_3e11_1_l, ba0_4_3e11_1_u⟩, ⟨ba0_4_3e12_1_l, ba0_4_3e12_1_u⟩, ⟨ba0_4_3e13_1_l, ba0_4_3e13_1_u⟩, ⟨ba0_4_3e14_1_l, ba0_4_3e14_1_u⟩, ⟨ba0_4_3e15_1_l, ba0_4_3e15_1_u⟩, (show v40na0_8.toInt ≠ 4 from (by first | assumption | decide | omega)), by rw [ht]; exact hP, va_K.moved hW.alike hK, hD⟩, hS.F ht⟩) hS.2.2 dX7_put_43
  · subst hw
    refine lv_if_ne (tgt := 14) hx hb dX7_put_5 (by decide) (fun c5 => absurd (by decide +kernel) c5) (fun _ => ?_)
    refine lv_aload_n hx hb dX7_put_8 rfl (lv_at hl 0 rfl) ?_
    refine lv_iconst (v := 1) hx hb dX7_put_9 zk_iconst_1 ?_
    refine va_calli (va_runV (As := [.int 1]) (rest := []) ⟨hx, hb, hml, hown, hts⟩ (c_X7_refused l dC dI H.size a0 1 a0g_0 (.ref a0_1) a0g_2 a0g_3 (.ref a0_4) a0g_5 a0g_6 (.ref a0_7) a0g_9 a0g_10 a0_8 (Int.le_trans zq4 zq1) (Int.le_trans zq0 zq69)) (cwV 1 hts gX7_put_X7_refused rfl rfl rfl zd_X7_refused ⟨Nat.le_of_ble_eq_true rfl, Nat.le_of_ble_eq_true rfl⟩) ⟨ax_blind (fun _ _ _ _ _ => trivial), zr_7 (zp_K hK) (zp_P1 hP) (q0 := 0) rfl, ax_pre (zp_P1 hP) (zp_K hK) (zp_D1 hD) (fun _ _ => trivial)⟩ rfl rfl hl.1 rfl (lv_room (Nat.le_of_ble_eq_true rfl)) dX7_put_10 ⟨Nat.le_of_ble_eq_true rfl, Nat.le_of_ble_eq_true rfl⟩) hS (fun q _ h => zp_F1 hD hS hA q h) (zp_F1 hD hS hA) (fun r10 u t H locs ht hvm hw => zx_1 (fun v10na0_8 => zy_1 (fun hraw10_0 hB hz1 hk1 hS1 => zo1 hB ht hP hD hk1 (zp_F1 hD hS hA) hS1 (fun hP hK1 hD hS => ?_))))
    have hw : r10 = (-1) := hw
    have hw := hw.symm
    subst hw
    exact W.iret (v := (-1)) hx hb hr (fun t ht hW => ⟨⟨(-1), (), rfl, trivial, (fun i9 => ([v10na0_8, a0_4_0, a0_4_2, a0_4_3e0_0, a0_4_3e0_1, a0_4_3e0_2, a0_4_3e0_3, a0_4_3e0_4, a0_4_3e1_0, a0_4_3e1_1, a0_4_3e1_2, a0_4_3e1_3, a0_4_3e1_4, a0_4_3e2_0, a0_4_3e2_1, a0_4_3e2_2, a0_4_3e2_3, a0_4_3e2_4, a0_4_3e3_0, a0_4_3e3_1, a0_4_3e3_2, a0_4_3e3_3, a0_4_3e3_4, a0_4_3e4_0, a0_4_3e4_1, a0_4_3e4_2, a0_4_3e4_3, a0_4_3e4_4, a0_4_3e5_0, a0_4_3e5_1, a0_4_3e5_2, a0_4_3e5_3, a0_4_3e5_4, a0_4_3e6_0, a0_4_3e6_1, a0_4_3e6_2, a0_4_3e6_3, a0_4_3e6_4, a0_4_3e7_0, a0_4_3e7_1, a0_4_3e7_2, a0_4_3e7_3, a0_4_3e7_4, a0_4_3e8_0, a0_4_3e8_1, a0_4_3e8_2, a0_4_3e8_3, a0_4_3e8_4, a0_4_3e9_0, a0_4_3e9_1, a0_4_3e9_2, a0_4_3e9_3, a0_4_3e9_4, a0_4_3e10_0, a0_4_3e10_1, a0_4_3e10_2, a0_4_3e10_3, a0_4_3e10_4, a0_4_3e11_0, a0_4_3e11_1, a0_4_3e11_2, a0_4_3e11_3, a0_4_3e11_4, a0_4_3e12_0, a0_4_3e12_1, a0_4_3e12_2, a0_4_3e12_3, a0_4_3e12_4, a0_4_3e13_0, a0_4_3e13_1, a0_4_3e13_2, a0_4_3e13_3, a0_4_3e13_4, a0_4_3e14_0, a0_4_3e14_1, a0_4_3e14_2, a0_4_3e14_3, a0_4_3e14_4, a0_4_3e15_0, a0_4_3e15_1, a0_4_3e15_2, a0_4_3e15_3, a0_4_3e15_4] : List Int32).getD i9 0), (fun i9 => ([fa0_1_5, fa0_4_3e0_5, fa0_4_3e0_6, fa0_4_3e1_5, fa0_4_3e1_6, fa0_4_3e2_5, fa0_4_3e2_6, fa0_4_3e3_5, fa0_4_3e3_6, fa0_4_3e4_5, fa0_4_3e4_6, fa0_4_3e5_5, fa0_4_3e5_6, fa0_4_3e6_5, fa0_4_3e6_6, fa0_4_3e7_5, fa0_4_3e7_6, fa0_4_3e8_5, fa0_4_3e8_6, fa0_4_3e9_5, fa0_4_3e9_6, fa0_4_3e10_5, fa0_4_3e10_6, fa0_4_3e11_5, fa0_4_3e11_6, fa0_4_3e12_5, fa0_4_3e12_6, fa0_4_3e13_5, fa0_4_3e13_6, fa0_4_3e14_5, fa0_4_3e14_6, fa0_4_3e15_5, fa0_4_3e15_6] : List (Nat → Int32)).getD i9 (fun _ => 0)), ⟨ba0_4_0_l, ba0_4_0_u⟩, ⟨ba0_4_2_l, ba0_4_2_u⟩, ⟨ba0_4_3e0_1_l, ba0_4_3e0_1_u⟩, ⟨ba0_4_3e1_1_l, ba0_4_3e1_1_u⟩, ⟨ba0_4_3e2_1_l, ba0_4_3e2_1_u⟩, ⟨ba0_4_3e3_1_l, ba0_4_3e3_1_u⟩, ⟨ba0_4_3e4_1_l, ba0_4_3e4_1_u⟩, ⟨ba0_4_3e5_1_l, ba0_4_3e5_1_u⟩, ⟨ba0_4_3e6_1_l, ba0_4_3e6_1_u⟩, ⟨ba0_4_3e7_1_l, ba0_4_3e7_1_u⟩, ⟨ba0_4_3e8_1_l, ba0_4_3e8_1_u⟩, ⟨ba0_4_3e9_1_l, ba0_4_3e9_1_u⟩, ⟨ba0_4_3e10_1_l, ba0_4_3e10_1_u⟩, ⟨ba0_4_3e11_1_l, ba0_4_3e11_1_u⟩, ⟨ba0_4_3e12_1_l, ba0_4_3e12_1_u⟩, ⟨ba0_4_3e13_1_l, ba0_4_3e13_1_u⟩, ⟨ba0_4_3e14_1_l, ba0_4_3e14_1_u⟩, ⟨ba0_4_3e15_1_l, ba0_4_3e15_1_u⟩, (show v10na0_8.toInt ≠ 4 from (by first | assumption | decide | omega)), by rw [ht]; exact hP, va_K.moved hW.alike hK, hD⟩, hS.F ht⟩) hS.2.2 dX7_put_13
end P126_safe
section P127_safe
set_option maxHeartbeats 4000000 in
set_option maxRecDepth 100000 in
set_option maxHeartbeats 4000000 in
set_option maxRecDepth 100000 in
theorem c_X7_wind (l : Launch) (dC : Nat → ClassId) (dI : Nat → Nat → Nat) (sz : Nat) (a0 : Nat) (a1 : Int32) (a0g_0 a0g_2 a0g_3 a0g_5 a0g_6 a0g_9 a0g_10 : Value) (a0_1 : Nat) (a0_4 : Nat) (a0_7 : Nat) (a0_8 : Int32) (a0_7_0 : Int32) (a0_7g_1 a0_7g_2 a0_7g_3 a0_7g_4 a0_7g_5 a0_7g_6 a0_7g_7 a0_7g_8 a0_7g_9 a0_7g_10 a0_7g_11 a0_7g_12 a0_7g_13 a0_7g_14 : Value) (a0_1_0 : Int32) (a0_1_1 : Int32) (a0_1_2 : Int32) (a0_1_3 : Int32) (a0_1_4 : Int32) (a0_1_5 : Nat) (a0_1_6 : Nat) (a0_4_0 : Int32) (a0_4g_1 a0_4g_4 : Value) (a0_4_2 : Int32) (a0_4_3 : Nat) (ka0_4_3 : ClassId) (a0_4_3e0 : Nat) (a0_4_3e1 : Nat) (a0_4_3e2 : Nat) (a0_4_3e3 : Nat) (a0_4_3e4 : Nat) (a0_4_3e5 : Nat) (a0_4_3e6 : Nat) (a0_4_3e7 : Nat) (a0_4_3e8 : Nat) (a0_4_3e9 : Nat) (a0_4_3e10 : Nat) (a0_4_3e11 : Nat) (a0_4_3e12 : Nat) (a0_4_3e13 : Nat) (a0_4_3e14 : Nat) (a0_4_3e15 : Nat) (a0_4_3e0_0 : Int32) (a0_4_3e0_1 : Int32) (a0_4_3e0_2 : Int32) (a0_4_3e0_3 : Int32) (a0_4_3e0_4 : Int32) (a0_4_3e0_5 : Nat) (a0_4_3e0_6 : Nat) (ka0_1_5 : ClassId) (fa0_1_5 : Nat → Int32) (ka0_4_3e0_5 : ClassId) (fa0_4_3e0_5 : Nat → Int32) (ka0_1_6 : ClassId) (fa0_1_6 : Nat → Int32) (ka0_4_3e0_6 : ClassId) (fa0_4_3e0_6 : Nat → Int32) (a0_4_3e1_0 : Int32) (a0_4_3e1_1 : Int32) (a0_4_3e1_2 : Int32) (a0_4_3e1_3 : Int32) (a0_4_3e1_4 : Int32) (a0_4_3e1_5 : Nat) (a0_4_3e1_6 : Nat) (ka0_4_3e1_5 : ClassId) (fa0_4_3e1_5 : Nat → Int32) (ka0_4_3e1_6 : ClassId) (fa0_4_3e1_6 : Nat → Int32) (a0_4_3e2_0 : Int32) (a0_4_3e2_1 : Int32) (a0_4_3e2_2 : Int32) (a0_4_3e2_3 : Int32) (a0_4_3e2_4 : Int32) (a0_4_3e2_5 : Nat) (a0_4_3e2_6 : Nat) (ka0_4_3e2_5 : ClassId) (fa0_4_3e2_5 : Nat → Int32) (ka0_4_3e2_6 : ClassId) (fa0_4_3e2_6 : Nat → Int32) (a0_4_3e3_0 : Int32) (a0_4_3e3_1 : Int32) (a0_4_3e3_2 : Int32) (a0_4_3e3_3 : Int32) (a0_4_3e3_4 : Int32) (a0_4_3e3_5 : Nat) (a0_4_3e3_6 : Nat) (ka0_4_3e3_5 : ClassId) (fa0_4_3e3_5 : Nat → Int32) (ka0_4_3e3_6 : ClassId) (fa0_4_3e3_6 : Nat → Int32) (a0_4_3e4_0 : Int32) (a0_4_3e4_1 : Int32) (a0_4_3e4_2 : Int32) (a0_4_3e4_3 : Int32) (a0_4_3e4_4 : Int32) (a0_4_3e4_5 : Nat) (a0_4_3e4_6 : Nat) (ka0_4_3e4_5 : ClassId) (fa0_4_3e4_5 : Nat → Int32) (ka0_4_3e4_6 : ClassId) (fa0_4_3e4_6 : Nat → Int32) (a0_4_3e5_0 : Int32) (a0_4_3e5_1 : Int32) (a0_4_3e5_2 : Int32) (a0_4_3e5_3 : Int32) (a0_4_3e5_4 : Int32) (a0_4_3e5_5 : Nat) (a0_4_3e5_6 : Nat) (ka0_4_3e5_5 : ClassId) (fa0_4_3e5_5 : Nat → Int32) (ka0_4_3e5_6 : ClassId) (fa0_4_3e5_6 : Nat → Int32) (a0_4_3e6_0 : Int32) (a0_4_3e6_1 : Int32) (a0_4_3e6_2 : Int32) (a0_4_3e6_3 : Int32) (a0_4_3e6_4 : Int32) (a0_4_3e6_5 : Nat) (a0_4_3e6_6 : Nat) (ka0_4_3e6_5 : ClassId) (fa0_4_3e6_5 : Nat → Int32) (ka0_4_3e6_6 : ClassId) (fa0_4_3e6_6 : Nat → Int32) (a0_4_3e7_0 : Int32) (a0_4_3e7_1 : Int32) (a0_4_3e7_2 : Int32) (a0_4_3e7_3 : Int32) (a0_4_3e7_4 : Int32) (a0_4_3e7_5 : Nat) (a0_4_3e7_6 : Nat) (ka0_4_3e7_5 : ClassId) (fa0_4_3e7_5 : Nat → Int32) (ka0_4_3e7_6 : ClassId) (fa0_4_3e7_6 : Nat → Int32) (a0_4_3e8_0 : Int32) (a0_4_3e8_1 : Int32) (a0_4_3e8_2 : Int32) (a0_4_3e8_3 : Int32) (a0_4_3e8_4 : Int32) (a0_4_3e8_5 : Nat) (a0_4_3e8_6 : Nat) (ka0_4_3e8_5 : ClassId) (fa0_4_3e8_5 : Nat → Int32) (ka0_4_3e8_6 : ClassId) (fa0_4_3e8_6 : Nat → Int32) (a0_4_3e9_0 : Int32) (a0_4_3e9_1 : Int32) (a0_4_3e9_2 : Int32) (a0_4_3e9_3 : Int32) (a0_4_3e9_4 : Int32) (a0_4_3e9_5 : Nat) (a0_4_3e9_6 : Nat) (ka0_4_3e9_5 : ClassId) (fa0_4_3e9_5 : Nat → Int32) (ka0_4_3e9_6 : ClassId) (fa0_4_3e9_6 : Nat → Int32) (a0_4_3e10_0 : Int32) (a0_4_3e10_1 : Int32) (a0_4_3e10_2 : Int32) (a0_4_3e10_3 : Int32) (a0_4_3e10_4 : Int32) (a0_4_3e10_5 : Nat) (a0_4_3e10_6 : Nat) (ka0_4_3e10_5 : ClassId) (fa0_4_3e10_5 : Nat → Int32) (ka0_4_3e10_6 : ClassId) (fa0_4_3e10_6 : Nat → Int32) (a0_4_3e11_0 : Int32) (a0_4_3e11_1 : Int32) (a0_4_3e11_2 : Int32) (a0_4_3e11_3 : Int32) (a0_4_3e11_4 : Int32) (a0_4_3e11_5 : Nat) (a0_4_3e11_6 : Nat) (ka0_4_3e11_5 : ClassId) (fa0_4_3e11_5 : Nat → Int32) (ka0_4_3e11_6 : ClassId) (fa0_4_3e11_6 : Nat → Int32) (a0_4_3e12_0 : Int32) (a0_4_3e12_1 : Int32) (a0_4_3e12_2 : Int32) (a0_4_3e12_3 : Int32) (a0_4_3e12_4 : Int32) (a0_4_3e12_5 : Nat) (a0_4_3e12_6 : Nat) (ka0_4_3e12_5 : ClassId) (fa0_4_3e12_5 : Nat → Int32) (ka0_4_3e12_6 : ClassId) (fa0_4_3e12_6 : Nat → Int32) (a0_4_3e13_0 : Int32) (a0_4_3e13_1 : Int32) (a0_4_3e13_2 : Int32) (a0_4_3e13_3 : Int32) (a0_4_3e13_4 : Int32) (a0_4_3e13_5 : Nat) (a0_4_3e13_6 : Nat) (ka0_4_3e13_5 : ClassId) (fa0_4_3e13_5 : Nat → Int32) (ka0_4_3e13_6 : ClassId) (fa0_4_3e13_6 : Nat → Int32) (a0_4_3e14_0 : Int32) (a0_4_3e14_1 : Int32) (a0_4_3e14_2 : Int32) (a0_4_3e14_3 : Int32) (a0_4_3e14_4 : Int32) (a0_4_3e14_5 : Nat) (a0_4_3e14_6 : Nat) (ka0_4_3e14_5 : ClassId) (fa0_4_3e14_5 : Nat → Int32) (ka0_4_3e14_6 : ClassId) (fa0_4_3e14_6 : Nat → Int32) (a0_4_3e15_0 : Int32) (a0_4_3e15_1 : Int32) (a0_4_3e15_2 : Int32) (a0_4_3e15_3 : Int32) (a0_4_3e15_4 : Int32) (a0_4_3e15_5 : Nat) (a0_4_3e15_6 : Nat) (ka0_4_3e15_5 : ClassId) (fa0_4_3e15_5 : Nat → Int32) (ka0_4_3e15_6 : ClassId) (fa0_4_3e15_6 : Nat → Int32) (ba0_7_0_l : (0 : Int) ≤ a0_7_0.toInt) (ba0_7_0_u : a0_7_0.toInt ≤ (9 : Int)) (ba0_1_1_l : (0 : Int) ≤ a0_1_1.toInt) (ba0_1_1_u : a0_1_1.toInt ≤ (8 : Int)) (ba0_4_0_l : (0 : Int) ≤ a0_4_0.toInt) (ba0_4_0_u : a0_4_0.toInt ≤ (16 : Int)) (ba0_4_2_l : (0 : Int) ≤ a0_4_2.toInt) (ba0_4_2_u : a0_4_2.toInt ≤ (15 : Int)) (ba0_4_3e0_1_l : (0 : Int) ≤ a0_4_3e0_1.toInt) (ba0_4_3e0_1_u : a0_4_3e0_1.toInt ≤ (8 : Int)) (ba0_4_3e1_1_l : (0 : Int) ≤ a0_4_3e1_1.toInt) (ba0_4_3e1_1_u : a0_4_3e1_1.toInt ≤ (8 : Int)) (ba0_4_3e2_1_l : (0 : Int) ≤ a0_4_3e2_1.toInt) (ba0_4_3e2_1_u : a0_4_3e2_1.toInt ≤ (8 : Int)) (ba0_4_3e3_1_l : (0 : Int) ≤ a0_4_3e3_1.toInt) (ba0_4_3e3_1_u : a0_4_3e3_1.toInt ≤ (8 : Int)) (ba0_4_3e4_1_l : (0 : Int) ≤ a0_4_3e4_1.toInt) (ba0_4_3e4_1_u : a0_4_3e4_1.toInt ≤ (8 : Int)) (ba0_4_3e5_1_l : (0 : Int) ≤ a0_4_3e5_1.toInt) (ba0_4_3e5_1_u : a0_4_3e5_1.toInt ≤ (8 : Int)) (ba0_4_3e6_1_l : (0 : Int) ≤ a0_4_3e6_1.toInt) (ba0_4_3e6_1_u : a0_4_3e6_1.toInt ≤ (8 : Int)) (ba0_4_3e7_1_l : (0 : Int) ≤ a0_4_3e7_1.toInt) (ba0_4_3e7_1_u : a0_4_3e7_1.toInt ≤ (8 : Int)) (ba0_4_3e8_1_l : (0 : Int) ≤ a0_4_3e8_1.toInt) (ba0_4_3e8_1_u : a0_4_3e8_1.toInt ≤ (8 : Int)) (ba0_4_3e9_1_l : (0 : Int) ≤ a0_4_3e9_1.toInt) (ba0_4_3e9_1_u : a0_4_3e9_1.toInt ≤ (8 : Int)) (ba0_4_3e10_1_l : (0 : Int) ≤ a0_4_3e10_1.toInt) (ba0_4_3e10_1_u : a0_4_3e10_1.toInt ≤ (8 : Int)) (ba0_4_3e11_1_l : (0 : Int) ≤ a0_4_3e11_1.toInt) (ba0_4_3e11_1_u : a0_4_3e11_1.toInt ≤ (8 : Int)) (ba0_4_3e12_1_l : (0 : Int) ≤ a0_4_3e12_1.toInt) (ba0_4_3e12_1_u : a0_4_3e12_1.toInt ≤ (8 : Int)) (ba0_4_3e13_1_l : (0 : Int) ≤ a0_4_3e13_1.toInt) (ba0_4_3e13_1_u : a0_4_3e13_1.toInt ≤ (8 : Int)) (ba0_4_3e14_1_l : (0 : Int) ≤ a0_4_3e14_1.toInt) (ba0_4_3e14_1_u : a0_4_3e14_1.toInt ≤ (8 : Int)) (ba0_4_3e15_1_l : (0 : Int) ≤ a0_4_3e15_1.toInt) (ba0_4_3e15_1_u : a0_4_3e15_1.toInt ≤ (8 : Int)) : zm l yX7_wind wsX7_wind ({ frames := 2, cells := 0, slots := 0, locals := 45 }) [.ref a0, .int a1] dC dI sz [(a0, .inr (7, [a0g_0, .ref a0_1, a0g_2, a0g_3, .ref a0_4, a0g_5, a0g_6, .ref a0_7, .int a0_8, a0g_9, a0g_10])), (a0_7, .inr (0, [.int a0_7_0, a0_7g_1, a0_7g_2, a0_7g_3, a0_7g_4, a0_7g_5, a0_7g_6, a0_7g_7, a0_7g_8, a0_7g_9, a0_7g_10, a0_7g_11, a0_7g_12, a0_7g_13, a0_7g_14])), (a0_1, .inr (5, [.int a0_1_0, .int a0_1_1, .int a0_1_2, .int a0_1_3, .int a0_1_4, .ref a0_1_5, .ref a0_1_6])), (a0_4, .inr (1, [.int a0_4_0, a0_4g_1, .int a0_4_2, .ref a0_4_3, a0_4g_4])), (a0_4_3, .inl (ka0_4_3, 16, .inr (.inr (.inr (.inr (fun i9 => ([some a0_4_3e0, some a0_4_3e1, some a0_4_3e2, some a0_4_3e3, some a0_4_3e4, some a0_4_3e5, some a0_4_3e6, some a0_4_3e7, some a0_4_3e8, some a0_4_3e9, some a0_4_3e10, some a0_4_3e11, some a0_4_3e12, some a0_4_3e13, some a0_4_3e14, some a0_4_3e15] : List (Option Nat)).getD i9 none)))))), (a0_4_3e0, .inr (5, [.int a0_4_3e0_0, .int a0_4_3e0_1, .int a0_4_3e0_2, .int a0_4_3e0_3, .int a0_4_3e0_4, .ref a0_4_3e0_5, .ref a0_4_3e0_6])), (a0_1_5, .inl (ka0_1_5, 9, .inl (fa0_1_5))), (a0_4_3e0_5, .inl (ka0_4_3e0_5, 9, .inl (fa0_4_3e0_5))), (a0_1_6, .inl (ka0_1_6, 9, .inl (fa0_1_6))), (a0_4_3e0_6, .inl (ka0_4_3e0_6, 9, .inl (fa0_4_3e0_6))), (a0_4_3e1, .inr (5, [.int a0_4_3e1_0, .int a0_4_3e1_1, .int a0_4_3e1_2, .int a0_4_3e1_3, .int a0_4_3e1_4, .ref a0_4_3e1_5, .ref a0_4_3e1_6])), (a0_4_3e1_5, .inl (ka0_4_3e1_5, 9, .inl (fa0_4_3e1_5))), (a0_4_3e1_6, .inl (ka0_4_3e1_6, 9, .inl (fa0_4_3e1_6))), (a0_4_3e2, .inr (5, [.int a0_4_3e2_0, .int a0_4_3e2_1, .int a0_4_3e2_2, .int a0_4_3e2_3, .int a0_4_3e2_4, .ref a0_4_3e2_5, .ref a0_4_3e2_6])), (a0_4_3e2_5, .inl (ka0_4_3e2_5, 9, .inl (fa0_4_3e2_5))), (a0_4_3e2_6, .inl (ka0_4_3e2_6, 9, .inl (fa0_4_3e2_6))), (a0_4_3e3, .inr (5, [.int a0_4_3e3_0, .int a0_4_3e3_1, .int a0_4_3e3_2, .int a0_4_3e3_3, .int a0_4_3e3_4, .ref a0_4_3e3_5, .ref a0_4_3e3_6])), (a0_4_3e3_5, .inl (ka0_4_3e3_5, 9, .inl (fa0_4_3e3_5))), (a0_4_3e3_6, .inl (ka0_4_3e3_6, 9, .inl (fa0_4_3e3_6))), (a0_4_3e4, .inr (5, [.int a0_4_3e4_0, .int a0_4_3e4_1, .int a0_4_3e4_2, .int a0_4_3e4_3, .int a0_4_3e4_4, .ref a0_4_3e4_5, .ref a0_4_3e4_6])), (a0_4_3e4_5, .inl (ka0_4_3e4_5, 9, .inl (fa0_4_3e4_5))), (a0_4_3e4_6, .inl (ka0_4_3e4_6, 9, .inl (fa0_4_3e4_6))), (a0_4_3e5, .inr (5, [.int a0_4_3e5_0, .int a0_4_3e5_1, .int a0_4_3e5_2, .int a0_4_3e5_3, .int a0_4_3e5_4, .ref a0_4_3e5_5, .ref a0_4_3e5_6])), (a0_4_3e5_5, .inl (ka0_4_3e5_5, 9, .inl (fa0_4_3e5_5))), (a0_4_3e5_6, .inl (ka0_4_3e5_6, 9, .inl (fa0_4_3e5_6))), (a0_4_3e6, .inr (5, [.int a0_4_3e6_0, .int a0_4_3e6_1, .int a0_4_3e6_2, .int a0_4_3e6_3, .int a0_4_3e6_4, .ref a0_4_3e6_5, .ref a0_4_3e6_6])), (a0_4_3e6_5, .inl (ka0_4_3e6_5, 9, .inl (fa0_4_3e6_5))), (a0_4_3e6_6, .inl (ka0_4_3e6_6, 9, .inl (fa0_4_3e6_6))), (a0_4_3e7, .inr (5, [.int a0_4_3e7_0, .int a0_4_3e7_1, .int a0_4_3e7_2, .int a0_4_3e7_3, .int a0_4_3e7_4, .ref a0_4_3e7_5, .ref a0_4_3e7_6])), (a0_4_3e7_5, .inl (ka0_4_3e7_5, 9, .inl (fa0_4_3e7_5))), (a0_4_3e7_6, .inl (ka0_4_3e7_6, 9, .inl (fa0_4_3e7_6))), (a0_4_3e8, .inr (5, [.int a0_4_3e8_0, .int a0_4_3e8_1, .int a0_4_3e8_2, .int a0_4_3e8_3, .int a0_4_3e8_4, .ref a0_4_3e8_5, .ref a0_4_3e8_6])), (a0_4_3e8_5, .inl (ka0_4_3e8_5, 9, .inl (fa0_4_3e8_5))), (a0_4_3e8_6, .inl (ka0_4_3e8_6, 9, .inl (fa0_4_3e8_6))), (a0_4_3e9, .inr (5, [.int a0_4_3e9_0, .int a0_4_3e9_1, .int a0_4_3e9_2, .int a0_4_3e9_3, .int a0_4_3e9_4, .ref a0_4_3e9_5, .ref a0_4_3e9_6])), (a0_4_3e9_5, .inl (ka0_4_3e9_5, 9, .inl (fa0_4_3e9_5))), (a0_4_3e9_6, .inl (ka0_4_3e9_6, 9, .inl (fa0_4_3e9_6))), (a0_4_3e10, .inr (5, [.int a0_4_3e10_0, .int a0_4_3e10_1, .int a0_4_3e10_2, .int a0_4_3e10_3, .int a0_4_3e10_4, .ref a0_4_3e10_5, .ref a0_4_3e10_6])), (a0_4_3e10_5, .inl (ka0_4_3e10_5, 9, .inl (fa0_4_3e10_5))), (a0_4_3e10_6, .inl (ka0_4_3e10_6, 9, .inl (fa0_4_3e10_6))), (a0_4_3e11, .inr (5, [.int a0_4_3e11_0, .int a0_4_3e11_1, .int a0_4_3e11_2, .int a0_4_3e11_3, .int a0_4_3e11_4, .ref a0_4_3e11_5, .ref a0_4_3e11_6])), (a0_4_3e11_5, .inl (ka0_4_3e11_5, 9, .inl (fa0_4_3e11_5))), (a0_4_3e11_6, .inl (ka0_4_3e11_6, 9, .inl (fa0_4_3e11_6))), (a0_4_3e12, .inr (5, [.int a0_4_3e12_0, .int a0_4_3e12_1, .int a0_4_3e12_2, .int a0_4_3e12_3, .int a0_4_3e12_4, .ref a0_4_3e12_5, .ref a0_4_3e12_6])), (a0_4_3e12_5, .inl (ka0_4_3e12_5, 9, .inl (fa0_4_3e12_5))), (a0_4_3e12_6, .inl (ka0_4_3e12_6, 9, .inl (fa0_4_3e12_6))), (a0_4_3e13, .inr (5, [.int a0_4_3e13_0, .int a0_4_3e13_1, .int a0_4_3e13_2, .int a0_4_3e13_3, .int a0_4_3e13_4, .ref a0_4_3e13_5, .ref a0_4_3e13_6])), (a0_4_3e13_5, .inl (ka0_4_3e13_5, 9, .inl (fa0_4_3e13_5))), (a0_4_3e13_6, .inl (ka0_4_3e13_6, 9, .inl (fa0_4_3e13_6))), (a0_4_3e14, .inr (5, [.int a0_4_3e14_0, .int a0_4_3e14_1, .int a0_4_3e14_2, .int a0_4_3e14_3, .int a0_4_3e14_4, .ref a0_4_3e14_5, .ref a0_4_3e14_6])), (a0_4_3e14_5, .inl (ka0_4_3e14_5, 9, .inl (fa0_4_3e14_5))), (a0_4_3e14_6, .inl (ka0_4_3e14_6, 9, .inl (fa0_4_3e14_6))), (a0_4_3e15, .inr (5, [.int a0_4_3e15_0, .int a0_4_3e15_1, .int a0_4_3e15_2, .int a0_4_3e15_3, .int a0_4_3e15_4, .ref a0_4_3e15_5, .ref a0_4_3e15_6])), (a0_4_3e15_5, .inl (ka0_4_3e15_5, 9, .inl (fa0_4_3e15_5))), (a0_4_3e15_6, .inl (ka0_4_3e15_6, 9, .inl (fa0_4_3e15_6)))] [(ka0_4_3, (.object RX5)), (ka0_1_5, .int), (ka0_4_3e0_5, .int), (ka0_1_6, .int), (ka0_4_3e0_6, .int), (ka0_4_3e1_5, .int), (ka0_4_3e1_6, .int), (ka0_4_3e2_5, .int), (ka0_4_3e2_6, .int), (ka0_4_3e3_5, .int), (ka0_4_3e3_6, .int), (ka0_4_3e4_5, .int), (ka0_4_3e4_6, .int), (ka0_4_3e5_5, .int), (ka0_4_3e5_6, .int), (ka0_4_3e6_5, .int), (ka0_4_3e6_6, .int), (ka0_4_3e7_5, .int), (ka0_4_3e7_6, .int), (ka0_4_3e8_5, .int), (ka0_4_3e8_6, .int), (ka0_4_3e9_5, .int), (ka0_4_3e9_6, .int), (ka0_4_3e10_5, .int), (ka0_4_3e10_6, .int), (ka0_4_3e11_5, .int), (ka0_4_3e11_6, .int), (ka0_4_3e12_5, .int), (ka0_4_3e12_6, .int), (ka0_4_3e13_5, .int), (ka0_4_3e13_6, .int), (ka0_4_3e14_5, .int), (ka0_4_3e14_6, .int), (ka0_4_3e15_5, .int), (ka0_4_3e15_6, .int)] (fun A _ => True) (fun A => va_Qi (fun (r : Int32) (_ : Unit) => (-1 : Int) ≤ r.toInt ∧ r.toInt ≤ (8 : Int)) (fun (_ : Unit) (t : State) => ∃ zni : Nat → Int32, ∃ znf : Nat → Nat → Int32, ((0 : Int) ≤ (zni 1).toInt ∧ (zni 1).toInt ≤ 8) ∧ ((0 : Int) ≤ (zni 3).toInt ∧ (zni 3).toInt ≤ 16) ∧ ((0 : Int) ≤ (zni 4).toInt ∧ (zni 4).toInt ≤ 15) ∧ ((0 : Int) ≤ (zni 6).toInt ∧ (zni 6).toInt ≤ 8) ∧ ((0 : Int) ≤ (zni 11).toInt ∧ (zni 11).toInt ≤ 8) ∧ ((0 : Int) ≤ (zni 16).toInt ∧ (zni 16).toInt ≤ 8) ∧ ((0 : Int) ≤ (zni 21).toInt ∧ (zni 21).toInt ≤ 8) ∧ ((0 : Int) ≤ (zni 26).toInt ∧ (zni 26).toInt ≤ 8) ∧ ((0 : Int) ≤ (zni 31).toInt ∧ (zni 31).toInt ≤ 8) ∧ ((0 : Int) ≤ (zni 36).toInt ∧ (zni 36).toInt ≤ 8) ∧ ((0 : Int) ≤ (zni 41).toInt ∧ (zni 41).toInt ≤ 8) ∧ ((0 : Int) ≤ (zni 46).toInt ∧ (zni 46).toInt ≤ 8) ∧ ((0 : Int) ≤ (zni 51).toInt ∧ (zni 51).toInt ≤ 8) ∧ ((0 : Int) ≤ (zni 56).toInt ∧ (zni 56).toInt ≤ 8) ∧ ((0 : Int) ≤ (zni 61).toInt ∧ (zni 61).toInt ≤ 8) ∧ ((0 : Int) ≤ (zni 66).toInt ∧ (zni 66).toInt ≤ 8) ∧ ((0 : Int) ≤ (zni 71).toInt ∧ (zni 71).toInt ≤ 8) ∧ ((0 : Int) ≤ (zni 76).toInt ∧ (zni 76).toInt ≤ 8) ∧ ((0 : Int) ≤ (zni 81).toInt ∧ (zni 81).toInt ≤ 8) ∧ (zni 0).toInt ≠ 4 ∧ ax_B dC dI A [(a0, .inr (7, [a0g_0, .ref a0_1, a0g_2, a0g_3, .ref a0_4, a0g_5, a0g_6, .ref a0_7, .int (zni 0), a0g_9, a0g_10])), (a0_7, .inr (0, [.int a0_7_0, a0_7g_1, a0_7g_2, a0_7g_3, a0_7g_4, a0_7g_5, a0_7g_6, a0_7g_7, a0_7g_8, a0_7g_9, a0_7g_10, a0_7g_11, a0_7g_12, a0_7g_13, a0_7g_14])), (a0_1, .inr (5, [.int a0_1_0, .int (zni 1), .int (zni 2), .int a0_1_3, .int a0_1_4, .ref a0_1_5, .ref a0_1_6])), (a0_4, .inr (1, [.int (zni 3), a0_4g_1, .int (zni 4), .ref a0_4_3, a0_4g_4])), (a0_4_3, .inl (ka0_4_3, 16, .inr (.inr (.inr (.inr (fun i9 => ([some a0_4_3e0, some a0_4_3e1, some a0_4_3e2, some a0_4_3e3, some a0_4_3e4, some a0_4_3e5, some a0_4_3e6, some a0_4_3e7, some a0_4_3e8, some a0_4_3e9, some a0_4_3e10, some a0_4_3e11, some a0_4_3e12, some a0_4_3e13, some a0_4_3e14, some a0_4_3e15] : List (Option Nat)).getD i9 none)))))), (a0_4_3e0, .inr (5, [.int (zni 5), .int (zni 6), .int (zni 7), .int (zni 8), .int (zni 9), .ref a0_4_3e0_5, .ref a0_4_3e0_6])), (a0_1_5, .inl (ka0_1_5, 9, .inl (fa0_1_5))), (a0_4_3e0_5, .inl (ka0_4_3e0_5, 9, .inl ((znf 0)))), (a0_1_6, .inl (ka0_1_6, 9, .inl (fa0_1_6))), (a0_4_3e0_6, .inl (ka0_4_3e0_6, 9, .inl ((znf 1)))), (a0_4_3e1, .inr (5, [.int (zni 10), .int (zni 11), .int (zni 12), .int (zni 13), .int (zni 14), .ref a0_4_3e1_5, .ref a0_4_3e1_6])), (a0_4_3e1_5, .inl (ka0_4_3e1_5, 9, .inl ((znf 2)))), (a0_4_3e1_6, .inl (ka0_4_3e1_6, 9, .inl ((znf 3)))), (a0_4_3e2, .inr (5, [.int (zni 15), .int (zni 16), .int (zni 17), .int (zni 18), .int (zni 19), .ref a0_4_3e2_5, .ref a0_4_3e2_6])), (a0_4_3e2_5, .inl (ka0_4_3e2_5, 9, .inl ((znf 4)))), (a0_4_3e2_6, .inl (ka0_4_3e2_6, 9, .inl ((znf 5)))), (a0_4_3e3, .inr (5, [.int (zni 20), .int (zni 21), .int (zni 22), .int (zni 23), .int (zni 24), .ref a0_4_3e3_5, .ref a0_4_3e3_6])), (a0_4_3e3_5, .inl (ka0_4_3e3_5, 9, .inl ((znf 6)))), (a0_4_3e3_6, .inl (ka0_4_3e3_6, 9, .inl ((znf 7)))), (a0_4_3e4, .inr (5, [.int (zni 25), .int (zni 26), .int (zni 27), .int (zni 28), .int (zni 29), .ref a0_4_3e4_5, .ref a0_4_3e4_6])), (a0_4_3e4_5, .inl (ka0_4_3e4_5, 9, .inl ((znf 8)))), (a0_4_3e4_6, .inl (ka0_4_3e4_6, 9, .inl ((znf 9)))), (a0_4_3e5, .inr (5, [.int (zni 30), .int (zni 31), .int (zni 32), .int (zni 33), .int (zni 34), .ref a0_4_3e5_5, .ref a0_4_3e5_6])), (a0_4_3e5_5, .inl (ka0_4_3e5_5, 9, .inl ((znf 10)))), (a0_4_3e5_6, .inl (ka0_4_3e5_6, 9, .inl ((znf 11)))), (a0_4_3e6, .inr (5, [.int (zni 35), .int (zni 36), .int (zni 37), .int (zni 38), .int (zni 39), .ref a0_4_3e6_5, .ref a0_4_3e6_6])), (a0_4_3e6_5, .inl (ka0_4_3e6_5, 9, .inl ((znf 12)))), (a0_4_3e6_6, .inl (ka0_4_3e6_6, 9, .inl ((znf 13)))), (a0_4_3e7, .inr (5, [.int (zni 40), .int (zni 41), .int (zni 42), .int (zni 43), .int (zni 44), .ref a0_4_3e7_5, .ref a0_4_3e7_6])), (a0_4_3e7_5, .inl (ka0_4_3e7_5, 9, .inl ((znf 14)))), (a0_4_3e7_6, .inl (ka0_4_3e7_6, 9, .inl ((znf 15)))), (a0_4_3e8, .inr (5, [.int (zni 45), .int (zni 46), .int (zni 47), .int (zni 48), .int (zni 49), .ref a0_4_3e8_5, .ref a0_4_3e8_6])), (a0_4_3e8_5, .inl (ka0_4_3e8_5, 9, .inl ((znf 16)))), (a0_4_3e8_6, .inl (ka0_4_3e8_6, 9, .inl ((znf 17)))), (a0_4_3e9, .inr (5, [.int (zni 50), .int (zni 51), .int (zni 52), .int (zni 53), .int (zni 54), .ref a0_4_3e9_5, .ref a0_4_3e9_6])), (a0_4_3e9_5, .inl (ka0_4_3e9_5, 9, .inl ((znf 18)))), (a0_4_3e9_6, .inl (ka0_4_3e9_6, 9, .inl ((znf 19)))), (a0_4_3e10, .inr (5, [.int (zni 55), .int (zni 56), .int (zni 57), .int (zni 58), .int (zni 59), .ref a0_4_3e10_5, .ref a0_4_3e10_6])), (a0_4_3e10_5, .inl (ka0_4_3e10_5, 9, .inl ((znf 20)))), (a0_4_3e10_6, .inl (ka0_4_3e10_6, 9, .inl ((znf 21)))), (a0_4_3e11, .inr (5, [.int (zni 60), .int (zni 61), .int (zni 62), .int (zni 63), .int (zni 64), .ref a0_4_3e11_5, .ref a0_4_3e11_6])), (a0_4_3e11_5, .inl (ka0_4_3e11_5, 9, .inl ((znf 22)))), (a0_4_3e11_6, .inl (ka0_4_3e11_6, 9, .inl ((znf 23)))), (a0_4_3e12, .inr (5, [.int (zni 65), .int (zni 66), .int (zni 67), .int (zni 68), .int (zni 69), .ref a0_4_3e12_5, .ref a0_4_3e12_6])), (a0_4_3e12_5, .inl (ka0_4_3e12_5, 9, .inl ((znf 24)))), (a0_4_3e12_6, .inl (ka0_4_3e12_6, 9, .inl ((znf 25)))), (a0_4_3e13, .inr (5, [.int (zni 70), .int (zni 71), .int (zni 72), .int (zni 73), .int (zni 74), .ref a0_4_3e13_5, .ref a0_4_3e13_6])), (a0_4_3e13_5, .inl (ka0_4_3e13_5, 9, .inl ((znf 26)))), (a0_4_3e13_6, .inl (ka0_4_3e13_6, 9, .inl ((znf 27)))), (a0_4_3e14, .inr (5, [.int (zni 75), .int (zni 76), .int (zni 77), .int (zni 78), .int (zni 79), .ref a0_4_3e14_5, .ref a0_4_3e14_6])), (a0_4_3e14_5, .inl (ka0_4_3e14_5, 9, .inl ((znf 28)))), (a0_4_3e14_6, .inl (ka0_4_3e14_6, 9, .inl ((znf 29)))), (a0_4_3e15, .inr (5, [.int (zni 80), .int (zni 81), .int (zni 82), .int (zni 83), .int (zni 84), .ref a0_4_3e15_5, .ref a0_4_3e15_6])), (a0_4_3e15_5, .inl (ka0_4_3e15_5, 9, .inl ((znf 30)))), (a0_4_3e15_6, .inl (ka0_4_3e15_6, 9, .inl ((znf 31))))] [(ka0_4_3, (.object RX5)), (ka0_1_5, .int), (ka0_4_3e0_5, .int), (ka0_1_6, .int), (ka0_4_3e0_6, .int), (ka0_4_3e1_5, .int), (ka0_4_3e1_6, .int), (ka0_4_3e2_5, .int), (ka0_4_3e2_6, .int), (ka0_4_3e3_5, .int), (ka0_4_3e3_6, .int), (ka0_4_3e4_5, .int), (ka0_4_3e4_6, .int), (ka0_4_3e5_5, .int), (ka0_4_3e5_6, .int), (ka0_4_3e6_5, .int), (ka0_4_3e6_6, .int), (ka0_4_3e7_5, .int), (ka0_4_3e7_6, .int), (ka0_4_3e8_5, .int), (ka0_4_3e8_6, .int), (ka0_4_3e9_5, .int), (ka0_4_3e9_6, .int), (ka0_4_3e10_5, .int), (ka0_4_3e10_6, .int), (ka0_4_3e11_5, .int), (ka0_4_3e11_6, .int), (ka0_4_3e12_5, .int), (ka0_4_3e12_6, .int), (ka0_4_3e13_5, .int), (ka0_4_3e13_6, .int), (ka0_4_3e14_5, .int), (ka0_4_3e14_6, .int), (ka0_4_3e15_5, .int), (ka0_4_3e15_6, .int)] t) A) := by
  refine zh (cc := cX7_wind) (maxL := 3) (ret := (some .int)) zn_RX7 rfl (Nat.le_of_ble_eq_true rfl) (fun p e s m below meth c A ls hx hb hml hr hts (hown : s.vm.findClass RX7 = some m.cls) hlocks hA hS hP hK hD hE (hl : lv_has ls 3 [(0, .ref a0), (1, .int a1)]) => ?_)
  refine lv_aload_n hx hb dX7_wind_0 rfl (lv_at hl 0 rfl) ?_
  refine lv_iload_n hx hb dX7_wind_1 rfl (lv_at hl 1 rfl) ?_
  refine va_calli (va_runV (As := [.int a1]) (rest := []) ⟨hx, hb, hml, hown, hts⟩ (c_X7_isFigure l dC dI s.heap.size a0 a1 a0g_0 (.ref a0_1) a0g_2 a0g_3 (.ref a0_4) a0g_5 a0g_6 (.int a0_8) a0g_9 a0g_10 a0_7 a0_7_0 a0_7g_1 a0_7g_2 a0_7g_3 a0_7g_4 a0_7g_5 a0_7g_6 a0_7g_7 a0_7g_8 a0_7g_9 a0_7g_10 a0_7g_11 a0_7g_12 a0_7g_13 a0_7g_14 ba0_7_0_l ba0_7_0_u) (cwV 1 hts gX7_wind_X7_isFigure rfl rfl rfl zd_X7_isFigure ⟨Nat.le_of_ble_eq_true rfl, Nat.le_of_ble_eq_true rfl⟩) ⟨ax_blind (fun _ _ _ _ _ => trivial), zr_7 (zp_K hK) (zp_P2 hP) (q0 := 0) rfl, ax_pre (zp_P2 hP) (zp_K hK) (zp_D2 hD) (fun _ _ => trivial)⟩ rfl rfl hl.1 rfl (lv_room (Nat.le_of_ble_eq_true rfl)) dX7_wind_2 ⟨Nat.le_of_ble_eq_true rfl, Nat.le_of_ble_eq_true rfl⟩) hS (fun q _ h => zp_F2 hD hS hA q h) (zp_F2 hD hS hA) (fun r2 u t H locs ht hvm hw hB hz1 hk1 hS1 => zo2 hB ht hP hD hk1 (zp_F2 hD hS hA) hS1 (fun hP hK1 hD hS => ?_))
  rcases hw with hw | hw
  · obtain ⟨hw, h2_0, h2_1, h2_2, h2_3⟩ := hw
    subst hw
    have l2k0_a1 : (0 : Int) ≤ a1.toInt := h2_0
    have u2k0_a1 : a1.toInt ≤ (8 : Int) := h2_1
    have l2k0_a0_7_0 : (1 : Int) ≤ a0_7_0.toInt := h2_2
    have u2k0_a0_7_0 : a0_7_0.toInt ≤ (9 : Int) := ba0_7_0_u
    refine lv_if_ne (tgt := 14) hx hb dX7_wind_5 (by decide) (fun _ => ?_) (fun c5 => absurd c5 (by decide +kernel))
    refine lv_aload_n hx hb dX7_wind_14 rfl (lv_at hl 0 rfl) ?_
    refine va_get (D := (dC, dI)) (ci := 7) (v := .ref a0_1) (C := RX7) (T := TX7) (N := 11) hx hb hts zi_X7_wind_7 hown hK hP 0 rfl rfl 1 (by decide) (hts (.fieldLink RX7 19 "WaxTurns" "now" "LWaxTurns$Scene;") (zm_X7_wind_r1 (List.mem_of_getElem? (i := 0) rfl))) (fun _ h9 => h9) rfl dX7_wind_15 ?_
    refine va_get (D := (dC, dI)) (ci := 5) (v := .int a0_1_1) (C := RX5) (T := TX5) (N := 7) hx hb hts zi_X7_wind_5 hown hK hP 2 rfl rfl 1 (by decide) (hts (.fieldLink RX7 158 "WaxTurns$Scene" "turn" "I") (zm_X7_wind_r1 (List.mem_of_getElem? (i := 1) rfl))) (fun _ h9 => h9) rfl dX7_wind_18 ?_
    refine lv_iload_n hx hb dX7_wind_21 rfl (lv_at hl 1 rfl) ?_
    refine lv_icmp_ne (tgt := 41) hx hb dX7_wind_22 (by decide) (fun c22 => ?_) (fun c22 => ?_)
    · have gc22 := ai_ne c22
      refine lv_aload_n hx hb dX7_wind_41 rfl (lv_at hl 0 rfl) ?_
      refine va_get (D := (dC, dI)) (ci := 7) (v := .ref a0_4) (C := RX7) (T := TX7) (N := 11) hx hb hts zi_X7_wind_7 hown hK hP 0 rfl rfl 4 (by decide) (hts (.fieldLink RX7 36 "WaxTurns" "history" "LWaxTurns$History;") (zm_X7_wind_r1 (List.mem_of_getElem? (i := 3) rfl))) (fun _ h9 => h9) rfl dX7_wind_42 ?_
      refine lv_aload_n hx hb dX7_wind_45 rfl (lv_at hl 0 rfl) ?_
      refine va_get (D := (dC, dI)) (ci := 7) (v := .ref a0_1) (C := RX7) (T := TX7) (N := 11) hx hb hts zi_X7_wind_7 hown hK hP 0 rfl rfl 1 (by decide) (hts (.fieldLink RX7 19 "WaxTurns" "now" "LWaxTurns$Scene;") (zm_X7_wind_r1 (List.mem_of_getElem? (i := 0) rfl))) (fun _ h9 => h9) rfl dX7_wind_46 ?_
      refine zc_cutc (wc := [(a0_4, .inr (1, [.int a0_4_0, a0_4g_1, .int a0_4_2, .ref a0_4_3, a0_4g_4])), (a0_4_3, .inl (ka0_4_3, 16, .inr (.inr (.inr (.inr (fun i9 => ([some a0_4_3e0, some a0_4_3e1, some a0_4_3e2, some a0_4_3e3, some a0_4_3e4, some a0_4_3e5, some a0_4_3e6, some a0_4_3e7, some a0_4_3e8, some a0_4_3e9, some a0_4_3e10, some a0_4_3e11, some a0_4_3e12, some a0_4_3e13, some a0_4_3e14, some a0_4_3e15] : List (Option Nat)).getD i9 none)))))), (a0_4_3e0, .inr (5, [.int a0_4_3e0_0, .int a0_4_3e0_1, .int a0_4_3e0_2, .int a0_4_3e0_3, .int a0_4_3e0_4, .ref a0_4_3e0_5, .ref a0_4_3e0_6])), (a0_1, .inr (5, [.int a0_1_0, .int a0_1_1, .int a0_1_2, .int a0_1_3, .int a0_1_4, .ref a0_1_5, .ref a0_1_6])), (a0_1_5, .inl (ka0_1_5, 9, .inl (fa0_1_5))), (a0_4_3e0_5, .inl (ka0_4_3e0_5, 9, .inl (fa0_4_3e0_5))), (a0_1_6, .inl (ka0_1_6, 9, .inl (fa0_1_6))), (a0_4_3e0_6, .inl (ka0_4_3e0_6, 9, .inl (fa0_4_3e0_6))), (a0_4_3e1, .inr (5, [.int a0_4_3e1_0, .int a0_4_3e1_1, .int a0_4_3e1_2, .int a0_4_3e1_3, .int a0_4_3e1_4, .ref a0_4_3e1_5, .ref a0_4_3e1_6])), (a0_4_3e1_5, .inl (ka0_4_3e1_5, 9, .inl (fa0_4_3e1_5))), (a0_4_3e1_6, .inl (ka0_4_3e1_6, 9, .inl (fa0_4_3e1_6))), (a0_4_3e2, .inr (5, [.int a0_4_3e2_0, .int a0_4_3e2_1, .int a0_4_3e2_2, .int a0_4_3e2_3, .int a0_4_3e2_4, .ref a0_4_3e2_5, .ref a0_4_3e2_6])), (a0_4_3e2_5, .inl (ka0_4_3e2_5, 9, .inl (fa0_4_3e2_5))), (a0_4_3e2_6, .inl (ka0_4_3e2_6, 9, .inl (fa0_4_3e2_6))), (a0_4_3e3, .inr (5, [.int a0_4_3e3_0, .int a0_4_3e3_1, .int a0_4_3e3_2, .int a0_4_3e3_3, .int a0_4_3e3_4, .ref a0_4_3e3_5, .ref a0_4_3e3_6])), (a0_4_3e3_5, .inl (ka0_4_3e3_5, 9, .inl (fa0_4_3e3_5))), (a0_4_3e3_6, .inl (ka0_4_3e3_6, 9, .inl (fa0_4_3e3_6))), (a0_4_3e4, .inr (5, [.int a0_4_3e4_0, .int a0_4_3e4_1, .int a0_4_3e4_2, .int a0_4_3e4_3, .int a0_4_3e4_4, .ref a0_4_3e4_5, .ref a0_4_3e4_6])), (a0_4_3e4_5, .inl (ka0_4_3e4_5, 9, .inl (fa0_4_3e4_5))), (a0_4_3e4_6, .inl (ka0_4_3e4_6, 9, .inl (fa0_4_3e4_6))), (a0_4_3e5, .inr (5, [.int a0_4_3e5_0, .int a0_4_3e5_1, .int a0_4_3e5_2, .int a0_4_3e5_3, .int a0_4_3e5_4, .ref a0_4_3e5_5, .ref a0_4_3e5_6])), (a0_4_3e5_5, .inl (ka0_4_3e5_5, 9, .inl (fa0_4_3e5_5))), (a0_4_3e5_6, .inl (ka0_4_3e5_6, 9, .inl (fa0_4_3e5_6))), (a0_4_3e6, .inr (5, [.int a0_4_3e6_0, .int a0_4_3e6_1, .int a0_4_3e6_2, .int a0_4_3e6_3, .int a0_4_3e6_4, .ref a0_4_3e6_5, .ref a0_4_3e6_6])), (a0_4_3e6_5, .inl (ka0_4_3e6_5, 9, .inl (fa0_4_3e6_5))), (a0_4_3e6_6, .inl (ka0_4_3e6_6, 9, .inl (fa0_4_3e6_6))), (a0_4_3e7, .inr (5, [.int a0_4_3e7_0, .int a0_4_3e7_1, .int a0_4_3e7_2, .int a0_4_3e7_3, .int a0_4_3e7_4, .ref a0_4_3e7_5, .ref a0_4_3e7_6])), (a0_4_3e7_5, .inl (ka0_4_3e7_5, 9, .inl (fa0_4_3e7_5))), (a0_4_3e7_6, .inl (ka0_4_3e7_6, 9, .inl (fa0_4_3e7_6))), (a0_4_3e8, .inr (5, [.int a0_4_3e8_0, .int a0_4_3e8_1, .int a0_4_3e8_2, .int a0_4_3e8_3, .int a0_4_3e8_4, .ref a0_4_3e8_5, .ref a0_4_3e8_6])), (a0_4_3e8_5, .inl (ka0_4_3e8_5, 9, .inl (fa0_4_3e8_5))), (a0_4_3e8_6, .inl (ka0_4_3e8_6, 9, .inl (fa0_4_3e8_6))), (a0_4_3e9, .inr (5, [.int a0_4_3e9_0, .int a0_4_3e9_1, .int a0_4_3e9_2, .int a0_4_3e9_3, .int a0_4_3e9_4, .ref a0_4_3e9_5, .ref a0_4_3e9_6])), (a0_4_3e9_5, .inl (ka0_4_3e9_5, 9, .inl (fa0_4_3e9_5))), (a0_4_3e9_6, .inl (ka0_4_3e9_6, 9, .inl (fa0_4_3e9_6))), (a0_4_3e10, .inr (5, [.int a0_4_3e10_0, .int a0_4_3e10_1, .int a0_4_3e10_2, .int a0_4_3e10_3, .int a0_4_3e10_4, .ref a0_4_3e10_5, .ref a0_4_3e10_6])), (a0_4_3e10_5, .inl (ka0_4_3e10_5, 9, .inl (fa0_4_3e10_5))), (a0_4_3e10_6, .inl (ka0_4_3e10_6, 9, .inl (fa0_4_3e10_6))), (a0_4_3e11, .inr (5, [.int a0_4_3e11_0, .int a0_4_3e11_1, .int a0_4_3e11_2, .int a0_4_3e11_3, .int a0_4_3e11_4, .ref a0_4_3e11_5, .ref a0_4_3e11_6])), (a0_4_3e11_5, .inl (ka0_4_3e11_5, 9, .inl (fa0_4_3e11_5))), (a0_4_3e11_6, .inl (ka0_4_3e11_6, 9, .inl (fa0_4_3e11_6))), (a0_4_3e12, .inr (5, [.int a0_4_3e12_0, .int a0_4_3e12_1, .int a0_4_3e12_2, .int a0_4_3e12_3, .int a0_4_3e12_4, .ref a0_4_3e12_5, .ref a0_4_3e12_6])), (a0_4_3e12_5, .inl (ka0_4_3e12_5, 9, .inl (fa0_4_3e12_5))), (a0_4_3e12_6, .inl (ka0_4_3e12_6, 9, .inl (fa0_4_3e12_6))), (a0_4_3e13, .inr (5, [.int a0_4_3e13_0, .int a0_4_3e13_1, .int a0_4_3e13_2, .int a0_4_3e13_3, .int a0_4_3e13_4, .ref a0_4_3e13_5, .ref a0_4_3e13_6])), (a0_4_3e13_5, .inl (ka0_4_3e13_5, 9, .inl (fa0_4_3e13_5))), (a0_4_3e13_6, .inl (ka0_4_3e13_6, 9, .inl (fa0_4_3e13_6))), (a0_4_3e14, .inr (5, [.int a0_4_3e14_0, .int a0_4_3e14_1, .int a0_4_3e14_2, .int a0_4_3e14_3, .int a0_4_3e14_4, .ref a0_4_3e14_5, .ref a0_4_3e14_6])), (a0_4_3e14_5, .inl (ka0_4_3e14_5, 9, .inl (fa0_4_3e14_5))), (a0_4_3e14_6, .inl (ka0_4_3e14_6, 9, .inl (fa0_4_3e14_6))), (a0_4_3e15, .inr (5, [.int a0_4_3e15_0, .int a0_4_3e15_1, .int a0_4_3e15_2, .int a0_4_3e15_3, .int a0_4_3e15_4, .ref a0_4_3e15_5, .ref a0_4_3e15_6])), (a0_4_3e15_5, .inl (ka0_4_3e15_5, 9, .inl (fa0_4_3e15_5))), (a0_4_3e15_6, .inl (ka0_4_3e15_6, 9, .inl (fa0_4_3e15_6)))]) hP hD hS hA [3, 4, 5, 2, 6, 7, 8, 9, 10, 11, 12, 13, 14, 15, 16, 17, 18, 19, 20, 21, 22, 23, 24, 25, 26, 27, 28, 29, 30, 31, 32, 33, 34, 35, 36, 37, 38, 39, 40, 41, 42, 43, 44, 45, 46, 47, 48, 49, 50, 51, 52, 53, 54] (by decide +kernel) rfl (fun hPc hDc hFc hCc => ?_)
      have hKc := hK.sub (tys' := [(ka0_4_3, (.object RX5)), (ka0_1_5, .int), (ka0_4_3e0_5, .int), (ka0_1_6, .int), (ka0_4_3e0_6, .int), (ka0_4_3e1_5, .int), (ka0_4_3e1_6, .int), (ka0_4_3e2_5, .int), (ka0_4_3e2_6, .int), (ka0_4_3e3_5, .int), (ka0_4_3e3_6, .int), (ka0_4_3e4_5, .int), (ka0_4_3e4_6, .int), (ka0_4_3e5_5, .int), (ka0_4_3e5_6, .int), (ka0_4_3e6_5, .int), (ka0_4_3e6_6, .int), (ka0_4_3e7_5, .int), (ka0_4_3e7_6, .int), (ka0_4_3e8_5, .int), (ka0_4_3e8_6, .int), (ka0_4_3e9_5, .int), (ka0_4_3e9_6, .int), (ka0_4_3e10_5, .int), (ka0_4_3e10_6, .int), (ka0_4_3e11_5, .int), (ka0_4_3e11_6, .int), (ka0_4_3e12_5, .int), (ka0_4_3e12_6, .int), (ka0_4_3e13_5, .int), (ka0_4_3e13_6, .int), (ka0_4_3e14_5, .int), (ka0_4_3e14_6, .int), (ka0_4_3e15_5, .int), (ka0_4_3e15_6, .int)]) [0, 1, 2, 3, 4, 5, 6, 7, 8, 9, 10, 11, 12, 13, 14, 15, 16, 17, 18, 19, 20, 21, 22, 23, 24, 25, 26, 27, 28, 29, 30, 31, 32, 33, 34] rfl
      refine va_callv (va_runV (As := [.ref a0_1]) (rest := []) ⟨hx, hb, hml, hown, hts⟩ (c_X1_keep l dC dI H.size a0_4 a0_1 a0_4_0 a0_4g_1 a0_4g_4 a0_4_2 a0_4_3 ka0_4_3 a0_4_3e0 a0_4_3e1 a0_4_3e2 a0_4_3e3 a0_4_3e4 a0_4_3e5 a0_4_3e6 a0_4_3e7 a0_4_3e8 a0_4_3e9 a0_4_3e10 a0_4_3e11 a0_4_3e12 a0_4_3e13 a0_4_3e14 a0_4_3e15 a0_4_3e0_0 a0_4_3e0_1 a0_4_3e0_2 a0_4_3e0_3 a0_4_3e0_4 a0_4_3e0_5 a0_4_3e0_6 a0_1_0 a0_1_1 a0_1_2 a0_1_3 a0_1_4 a0_1_5 a0_1_6 ka0_1_5 fa0_1_5 ka0_4_3e0_5 fa0_4_3e0_5 ka0_1_6 fa0_1_6 ka0_4_3e0_6 fa0_4_3e0_6 a0_4_3e1_0 a0_4_3e1_1 a0_4_3e1_2 a0_4_3e1_3 a0_4_3e1_4 a0_4_3e1_5 a0_4_3e1_6 ka0_4_3e1_5 fa0_4_3e1_5 ka0_4_3e1_6 fa0_4_3e1_6 a0_4_3e2_0 a0_4_3e2_1 a0_4_3e2_2 a0_4_3e2_3 a0_4_3e2_4 a0_4_3e2_5 a0_4_3e2_6 ka0_4_3e2_5 fa0_4_3e2_5 ka0_4_3e2_6 fa0_4_3e2_6 a0_4_3e3_0 a0_4_3e3_1 a0_4_3e3_2 a0_4_3e3_3 a0_4_3e3_4 a0_4_3e3_5 a0_4_3e3_6 ka0_4_3e3_5 fa0_4_3e3_5 ka0_4_3e3_6 fa0_4_3e3_6 a0_4_3e4_0 a0_4_3e4_1 a0_4_3e4_2 a0_4_3e4_3 a0_4_3e4_4 a0_4_3e4_5 a0_4_3e4_6 ka0_4_3e4_5 fa0_4_3e4_5 ka0_4_3e4_6 fa0_4_3e4_6 a0_4_3e5_0 a0_4_3e5_1 a0_4_3e5_2 a0_4_3e5_3 a0_4_3e5_4 a0_4_3e5_5 a0_4_3e5_6 ka0_4_3e5_5 fa0_4_3e5_5 ka0_4_3e5_6 fa0_4_3e5_6 a0_4_3e6_0 a0_4_3e6_1 a0_4_3e6_2 a0_4_3e6_3 a0_4_3e6_4 a0_4_3e6_5 a0_4_3e6_6 ka0_4_3e6_5 fa0_4_3e6_5 ka0_4_3e6_6 fa0_4_3e6_6 a0_4_3e7_0 a0_4_3e7_1 a0_4_3e7_2 a0_4_3e7_3 a0_4_3e7_4 a0_4_3e7_5 a0_4_3e7_6 ka0_4_3e7_5 fa0_4_3e7_5 ka0_4_3e7_6 fa0_4_3e7_6 a0_4_3e8_0 a0_4_3e8_1 a0_4_3e8_2 a0_4_3e8_3 a0_4_3e8_4 a0_4_3e8_5 a0_4_3e8_6 ka0_4_3e8_5 fa0_4_3e8_5 ka0_4_3e8_6 fa0_4_3e8_6 a0_4_3e9_0 a0_4_3e9_1 a0_4_3e9_2 a0_4_3e9_3 a0_4_3e9_4 a0_4_3e9_5 a0_4_3e9_6 ka0_4_3e9_5 fa0_4_3e9_5 ka0_4_3e9_6 fa0_4_3e9_6 a0_4_3e10_0 a0_4_3e10_1 a0_4_3e10_2 a0_4_3e10_3 a0_4_3e10_4 a0_4_3e10_5 a0_4_3e10_6 ka0_4_3e10_5 fa0_4_3e10_5 ka0_4_3e10_6 fa0_4_3e10_6 a0_4_3e11_0 a0_4_3e11_1 a0_4_3e11_2 a0_4_3e11_3 a0_4_3e11_4 a0_4_3e11_5 a0_4_3e11_6 ka0_4_3e11_5 fa0_4_3e11_5 ka0_4_3e11_6 fa0_4_3e11_6 a0_4_3e12_0 a0_4_3e12_1 a0_4_3e12_2 a0_4_3e12_3 a0_4_3e12_4 a0_4_3e12_5 a0_4_3e12_6 ka0_4_3e12_5 fa0_4_3e12_5 ka0_4_3e12_6 fa0_4_3e12_6 a0_4_3e13_0 a0_4_3e13_1 a0_4_3e13_2 a0_4_3e13_3 a0_4_3e13_4 a0_4_3e13_5 a0_4_3e13_6 ka0_4_3e13_5 fa0_4_3e13_5 ka0_4_3e13_6 fa0_4_3e13_6 a0_4_3e14_0 a0_4_3e14_1 a0_4_3e14_2 a0_4_3e14_3 a0_4_3e14_4 a0_4_3e14_5 a0_4_3e14_6 ka0_4_3e14_5 fa0_4_3e14_5 ka0_4_3e14_6 fa0_4_3e14_6 a0_4_3e15_0 a0_4_3e15_1 a0_4_3e15_2 a0_4_3e15_3 a0_4_3e15_4 a0_4_3e15_5 a0_4_3e15_6 ka0_4_3e15_5 fa0_4_3e15_5 ka0_4_3e15_6 fa0_4_3e15_6 ba0_4_0_l ba0_4_0_u ba0_4_2_l ba0_4_2_u ba0_4_3e0_1_l ba0_4_3e0_1_u ba0_1_1_l ba0_1_1_u ba0_4_3e1_1_l ba0_4_3e1_1_u ba0_4_3e2_1_l ba0_4_3e2_1_u ba0_4_3e3_1_l ba0_4_3e3_1_u ba0_4_3e4_1_l ba0_4_3e4_1_u ba0_4_3e5_1_l ba0_4_3e5_1_u ba0_4_3e6_1_l ba0_4_3e6_1_u ba0_4_3e7_1_l ba0_4_3e7_1_u ba0_4_3e8_1_l ba0_4_3e8_1_u ba0_4_3e9_1_l ba0_4_3e9_1_u ba0_4_3e10_1_l ba0_4_3e10_1_u ba0_4_3e11_1_l ba0_4_3e11_1_u ba0_4_3e12_1_l ba0_4_3e12_1_u ba0_4_3e13_1_l ba0_4_3e13_1_u ba0_4_3e14_1_l ba0_4_3e14_1_u ba0_4_3e15_1_l ba0_4_3e15_1_u) (cwV 1 hts gX7_wind_X1_keep rfl rfl rfl zd_X1_keep ⟨Nat.le_of_ble_eq_true rfl, Nat.le_of_ble_eq_true rfl⟩) ⟨ax_blind (fun _ _ _ _ _ => trivial), zr_1 hKc hPc (q0 := 0) rfl, ax_pre hPc hKc hDc (fun _ _ => trivial)⟩ rfl rfl hl.1 rfl (lv_room (Nat.le_of_ble_eq_true rfl)) dX7_wind_49 ⟨Nat.le_of_ble_eq_true rfl, Nat.le_of_ble_eq_true rfl⟩) hS (fun q _ h => hFc q h) hFc (fun u t H locs ht hvm hw => zx_2 (fun v49ni v49nf => zy_18 (fun bv49na0_0 bv49na0_2 bv49na0_3e0_1 bv49na0_3e1_1 bv49na0_3e2_1 bv49na0_3e3_1 bv49na0_3e4_1 bv49na0_3e5_1 bv49na0_3e6_1 bv49na0_3e7_1 bv49na0_3e8_1 bv49na0_3e9_1 bv49na0_3e10_1 bv49na0_3e11_1 bv49na0_3e12_1 bv49na0_3e13_1 bv49na0_3e14_1 bv49na0_3e15_1 hB hz1 hk1 hS1 => zo hB ht hS1 (fun hP1 hK1 hD1 hS => ?_))))
      refine zc_backc (w := [(a0, .inr (7, [a0g_0, .ref a0_1, a0g_2, a0g_3, .ref a0_4, a0g_5, a0g_6, .ref a0_7, .int a0_8, a0g_9, a0g_10])), (a0_7, .inr (0, [.int a0_7_0, a0_7g_1, a0_7g_2, a0_7g_3, a0_7g_4, a0_7g_5, a0_7g_6, a0_7g_7, a0_7g_8, a0_7g_9, a0_7g_10, a0_7g_11, a0_7g_12, a0_7g_13, a0_7g_14])), (a0_1, .inr (5, [.int a0_1_0, .int a0_1_1, .int a0_1_2, .int a0_1_3, .int a0_1_4, .ref a0_1_5, .ref a0_1_6])), (a0_4, .inr (1, [.int (v49ni 0), a0_4g_1, .int (v49ni 1), .ref a0_4_3, a0_4g_4])), (a0_4_3, .inl (ka0_4_3, 16, .inr (.inr (.inr (.inr (fun i9 => ([some a0_4_3e0, some a0_4_3e1, some a0_4_3e2, some a0_4_3e3, some a0_4_3e4, some a0_4_3e5, some a0_4_3e6, some a0_4_3e7, some a0_4_3e8, some a0_4_3e9, some a0_4_3e10, some a0_4_3e11, some a0_4_3e12, some a0_4_3e13, some a0_4_3e14, some a0_4_3e15] : List (Option Nat)).getD i9 none)))))), (a0_4_3e0, .inr (5, [.int (v49ni 2), .int (v49ni 3), .int (v49ni 4), .int (v49ni 5), .int (v49ni 6), .ref a0_4_3e0_5, .ref a0_4_3e0_6])), (a0_1_5, .inl (ka0_1_5, 9, .inl (fa0_1_5))), (a0_4_3e0_5, .inl (ka0_4_3e0_5, 9, .inl ((v49nf 0)))), (a0_1_6, .inl (ka0_1_6, 9, .inl (fa0_1_6))), (a0_4_3e0_6, .inl (ka0_4_3e0_6, 9, .inl ((v49nf 1)))), (a0_4_3e1, .inr (5, [.int (v49ni 7), .int (v49ni 8), .int (v49ni 9), .int (v49ni 10), .int (v49ni 11), .ref a0_4_3e1_5, .ref a0_4_3e1_6])), (a0_4_3e1_5, .inl (ka0_4_3e1_5, 9, .inl ((v49nf 2)))), (a0_4_3e1_6, .inl (ka0_4_3e1_6, 9, .inl ((v49nf 3)))), (a0_4_3e2, .inr (5, [.int (v49ni 12), .int (v49ni 13), .int (v49ni 14), .int (v49ni 15), .int (v49ni 16), .ref a0_4_3e2_5, .ref a0_4_3e2_6])), (a0_4_3e2_5, .inl (ka0_4_3e2_5, 9, .inl ((v49nf 4)))), (a0_4_3e2_6, .inl (ka0_4_3e2_6, 9, .inl ((v49nf 5)))), (a0_4_3e3, .inr (5, [.int (v49ni 17), .int (v49ni 18), .int (v49ni 19), .int (v49ni 20), .int (v49ni 21), .ref a0_4_3e3_5, .ref a0_4_3e3_6])), (a0_4_3e3_5, .inl (ka0_4_3e3_5, 9, .inl ((v49nf 6)))), (a0_4_3e3_6, .inl (ka0_4_3e3_6, 9, .inl ((v49nf 7)))), (a0_4_3e4, .inr (5, [.int (v49ni 22), .int (v49ni 23), .int (v49ni 24), .int (v49ni 25), .int (v49ni 26), .ref a0_4_3e4_5, .ref a0_4_3e4_6])), (a0_4_3e4_5, .inl (ka0_4_3e4_5, 9, .inl ((v49nf 8)))), (a0_4_3e4_6, .inl (ka0_4_3e4_6, 9, .inl ((v49nf 9)))), (a0_4_3e5, .inr (5, [.int (v49ni 27), .int (v49ni 28), .int (v49ni 29), .int (v49ni 30), .int (v49ni 31), .ref a0_4_3e5_5, .ref a0_4_3e5_6])), (a0_4_3e5_5, .inl (ka0_4_3e5_5, 9, .inl ((v49nf 10)))), (a0_4_3e5_6, .inl (ka0_4_3e5_6, 9, .inl ((v49nf 11)))), (a0_4_3e6, .inr (5, [.int (v49ni 32), .int (v49ni 33), .int (v49ni 34), .int (v49ni 35), .int (v49ni 36), .ref a0_4_3e6_5, .ref a0_4_3e6_6])), (a0_4_3e6_5, .inl (ka0_4_3e6_5, 9, .inl ((v49nf 12)))), (a0_4_3e6_6, .inl (ka0_4_3e6_6, 9, .inl ((v49nf 13)))), (a0_4_3e7, .inr (5, [.int (v49ni 37), .int (v49ni 38), .int (v49ni 39), .int (v49ni 40), .int (v49ni 41), .ref a0_4_3e7_5, .ref a0_4_3e7_6])), (a0_4_3e7_5, .inl (ka0_4_3e7_5, 9, .inl ((v49nf 14)))), (a0_4_3e7_6, .inl (ka0_4_3e7_6, 9, .inl ((v49nf 15)))), (a0_4_3e8, .inr (5, [.int (v49ni 42), .int (v49ni 43), .int (v49ni 44), .int (v49ni 45), .int (v49ni 46), .ref a0_4_3e8_5, .ref a0_4_3e8_6])), (a0_4_3e8_5, .inl (ka0_4_3e8_5, 9, .inl ((v49nf 16)))), (a0_4_3e8_6, .inl (ka0_4_3e8_6, 9, .inl ((v49nf 17)))), (a0_4_3e9, .inr (5, [.int (v49ni 47), .int (v49ni 48), .int (v49ni 49), .int (v49ni 50), .int (v49ni 51), .ref a0_4_3e9_5, .ref a0_4_3e9_6])), (a0_4_3e9_5, .inl (ka0_4_3e9_5, 9, .inl ((v49nf 18)))), (a0_4_3e9_6, .inl (ka0_4_3e9_6, 9, .inl ((v49nf 19)))), (a0_4_3e10, .inr (5, [.int (v49ni 52), .int (v49ni 53), .int (v49ni 54), .int (v49ni 55), .int (v49ni 56), .ref a0_4_3e10_5, .ref a0_4_3e10_6])), (a0_4_3e10_5, .inl (ka0_4_3e10_5, 9, .inl ((v49nf 20)))), (a0_4_3e10_6, .inl (ka0_4_3e10_6, 9, .inl ((v49nf 21)))), (a0_4_3e11, .inr (5, [.int (v49ni 57), .int (v49ni 58), .int (v49ni 59), .int (v49ni 60), .int (v49ni 61), .ref a0_4_3e11_5, .ref a0_4_3e11_6])), (a0_4_3e11_5, .inl (ka0_4_3e11_5, 9, .inl ((v49nf 22)))), (a0_4_3e11_6, .inl (ka0_4_3e11_6, 9, .inl ((v49nf 23)))), (a0_4_3e12, .inr (5, [.int (v49ni 62), .int (v49ni 63), .int (v49ni 64), .int (v49ni 65), .int (v49ni 66), .ref a0_4_3e12_5, .ref a0_4_3e12_6])), (a0_4_3e12_5, .inl (ka0_4_3e12_5, 9, .inl ((v49nf 24)))), (a0_4_3e12_6, .inl (ka0_4_3e12_6, 9, .inl ((v49nf 25)))), (a0_4_3e13, .inr (5, [.int (v49ni 67), .int (v49ni 68), .int (v49ni 69), .int (v49ni 70), .int (v49ni 71), .ref a0_4_3e13_5, .ref a0_4_3e13_6])), (a0_4_3e13_5, .inl (ka0_4_3e13_5, 9, .inl ((v49nf 26)))), (a0_4_3e13_6, .inl (ka0_4_3e13_6, 9, .inl ((v49nf 27)))), (a0_4_3e14, .inr (5, [.int (v49ni 72), .int (v49ni 73), .int (v49ni 74), .int (v49ni 75), .int (v49ni 76), .ref a0_4_3e14_5, .ref a0_4_3e14_6])), (a0_4_3e14_5, .inl (ka0_4_3e14_5, 9, .inl ((v49nf 28)))), (a0_4_3e14_6, .inl (ka0_4_3e14_6, 9, .inl ((v49nf 29)))), (a0_4_3e15, .inr (5, [.int (v49ni 77), .int (v49ni 78), .int (v49ni 79), .int (v49ni 80), .int (v49ni 81), .ref a0_4_3e15_5, .ref a0_4_3e15_6])), (a0_4_3e15_5, .inl (ka0_4_3e15_5, 9, .inl ((v49nf 30)))), (a0_4_3e15_6, .inl (ka0_4_3e15_6, 9, .inl ((v49nf 31))))]) hP hD hCc hk1 hFc hP1 hD1 [.inl 0, .inl 1, .inr 3, .inr 0, .inr 1, .inr 2, .inr 4, .inr 5, .inr 6, .inr 7, .inr 8, .inr 9, .inr 10, .inr 11, .inr 12, .inr 13, .inr 14, .inr 15, .inr 16, .inr 17, .inr 18, .inr 19, .inr 20, .inr 21, .inr 22, .inr 23, .inr 24, .inr 25, .inr 26, .inr 27, .inr 28, .inr 29, .inr 30, .inr 31, .inr 32, .inr 33, .inr 34, .inr 35, .inr 36, .inr 37, .inr 38, .inr 39, .inr 40, .inr 41, .inr 42, .inr 43, .inr 44, .inr 45, .inr 46, .inr 47, .inr 48, .inr 49, .inr 50, .inr 51, .inr 52] (by decide +kernel) rfl (fun hP hD => ?_)
      refine lv_aload_n hx hb dX7_wind_52 rfl (lv_at hl 0 rfl) ?_
      refine va_get (D := (dC, dI)) (ci := 7) (v := .ref a0_1) (C := RX7) (T := TX7) (N := 11) hx hb hts zi_X7_wind_7 hown hK hP 0 rfl rfl 1 (by decide) (hts (.fieldLink RX7 19 "WaxTurns" "now" "LWaxTurns$Scene;") (zm_X7_wind_r1 (List.mem_of_getElem? (i := 0) rfl))) (fun _ h9 => h9) rfl dX7_wind_53 ?_
      refine va_get (D := (dC, dI)) (ci := 5) (v := .int a0_1_1) (C := RX5) (T := TX5) (N := 7) hx hb hts zi_X7_wind_5 hown hK hP 2 rfl rfl 1 (by decide) (hts (.fieldLink RX7 158 "WaxTurns$Scene" "turn" "I") (zm_X7_wind_r1 (List.mem_of_getElem? (i := 1) rfl))) (fun _ h9 => h9) rfl dX7_wind_56 ?_
      refine lv_istore_n (lv' := [(2, .int a0_1_1), (0, .ref a0), (1, .int a1)]) hx hb dX7_wind_59 rfl hl (by decide) rfl (fun ls hl => ?_)
      refine lv_aload_n hx hb dX7_wind_60 rfl (lv_at hl 1 rfl) ?_
      refine va_get (D := (dC, dI)) (ci := 7) (v := .ref a0_1) (C := RX7) (T := TX7) (N := 11) hx hb hts zi_X7_wind_7 hown hK hP 0 rfl rfl 1 (by decide) (hts (.fieldLink RX7 19 "WaxTurns" "now" "LWaxTurns$Scene;") (zm_X7_wind_r1 (List.mem_of_getElem? (i := 0) rfl))) (fun _ h9 => h9) rfl dX7_wind_61 ?_
      refine lv_iload_n hx hb dX7_wind_64 rfl (lv_at hl 2 rfl) ?_
      refine zc_cutc (wc := [(a0_1, .inr (5, [.int a0_1_0, .int a0_1_1, .int a0_1_2, .int a0_1_3, .int a0_1_4, .ref a0_1_5, .ref a0_1_6]))]) hP hD hS hA [2] (by decide +kernel) rfl (fun hPc hDc hFc hCc => ?_)
      have hKc := zp_K hK
      refine va_callv (va_runV (As := [.int a1]) (rest := []) ⟨hx, hb, hml, hown, hts⟩ (c_X5_startTurn l dC dI H.size a0_1 a1 (.int a0_1_0) (.int a0_1_3) (.int a0_1_4) (.ref a0_1_5) (.ref a0_1_6) a0_1_1 a0_1_2 l2k0_a1 u2k0_a1 ba0_1_1_l ba0_1_1_u) (cwV 1 hts gX7_wind_X5_startTurn rfl rfl rfl zd_X5_startTurn ⟨Nat.le_of_ble_eq_true rfl, Nat.le_of_ble_eq_true rfl⟩) ⟨ax_blind (fun _ _ _ _ _ => trivial), zr_5 hKc hPc (q0 := 0) rfl, ax_pre hPc hKc hDc (fun _ _ => trivial)⟩ rfl rfl hl.1 rfl (lv_room (Nat.le_of_ble_eq_true rfl)) dX7_wind_65 ⟨Nat.le_of_ble_eq_true rfl, Nat.le_of_ble_eq_true rfl⟩) hS (fun q _ h => hFc q h) hFc (fun u t H locs ht hvm hw => zx_2 (fun v65na0_1 v65na0_2 => zy_1 (fun bv65na0_1 hB hz1 hk1 hS1 => zo hB ht hS1 (fun hP1 hK1 hD1 hS => ?_))))
      refine zc_backc (w := [(a0, .inr (7, [a0g_0, .ref a0_1, a0g_2, a0g_3, .ref a0_4, a0g_5, a0g_6, .ref a0_7, .int a0_8, a0g_9, a0g_10])), (a0_7, .inr (0, [.int a0_7_0, a0_7g_1, a0_7g_2, a0_7g_3, a0_7g_4, a0_7g_5, a0_7g_6, a0_7g_7, a0_7g_8, a0_7g_9, a0_7g_10, a0_7g_11, a0_7g_12, a0_7g_13, a0_7g_14])), (a0_1, .inr (5, [.int a0_1_0, .int v65na0_1, .int v65na0_2, .int a0_1_3, .int a0_1_4, .ref a0_1_5, .ref a0_1_6])), (a0_4, .inr (1, [.int (v49ni 0), a0_4g_1, .int (v49ni 1), .ref a0_4_3, a0_4g_4])), (a0_4_3, .inl (ka0_4_3, 16, .inr (.inr (.inr (.inr (fun i9 => ([some a0_4_3e0, some a0_4_3e1, some a0_4_3e2, some a0_4_3e3, some a0_4_3e4, some a0_4_3e5, some a0_4_3e6, some a0_4_3e7, some a0_4_3e8, some a0_4_3e9, some a0_4_3e10, some a0_4_3e11, some a0_4_3e12, some a0_4_3e13, some a0_4_3e14, some a0_4_3e15] : List (Option Nat)).getD i9 none)))))), (a0_4_3e0, .inr (5, [.int (v49ni 2), .int (v49ni 3), .int (v49ni 4), .int (v49ni 5), .int (v49ni 6), .ref a0_4_3e0_5, .ref a0_4_3e0_6])), (a0_1_5, .inl (ka0_1_5, 9, .inl (fa0_1_5))), (a0_4_3e0_5, .inl (ka0_4_3e0_5, 9, .inl ((v49nf 0)))), (a0_1_6, .inl (ka0_1_6, 9, .inl (fa0_1_6))), (a0_4_3e0_6, .inl (ka0_4_3e0_6, 9, .inl ((v49nf 1)))), (a0_4_3e1, .inr (5, [.int (v49ni 7), .int (v49ni 8), .int (v49ni 9), .int (v49ni 10), .int (v49ni 11), .ref a0_4_3e1_5, .ref a0_4_3e1_6])), (a0_4_3e1_5, .inl (ka0_4_3e1_5, 9, .inl ((v49nf 2)))), (a0_4_3e1_6, .inl (ka0_4_3e1_6, 9, .inl ((v49nf 3)))), (a0_4_3e2, .inr (5, [.int (v49ni 12), .int (v49ni 13), .int (v49ni 14), .int (v49ni 15), .int (v49ni 16), .ref a0_4_3e2_5, .ref a0_4_3e2_6])), (a0_4_3e2_5, .inl (ka0_4_3e2_5, 9, .inl ((v49nf 4)))), (a0_4_3e2_6, .inl (ka0_4_3e2_6, 9, .inl ((v49nf 5)))), (a0_4_3e3, .inr (5, [.int (v49ni 17), .int (v49ni 18), .int (v49ni 19), .int (v49ni 20), .int (v49ni 21), .ref a0_4_3e3_5, .ref a0_4_3e3_6])), (a0_4_3e3_5, .inl (ka0_4_3e3_5, 9, .inl ((v49nf 6)))), (a0_4_3e3_6, .inl (ka0_4_3e3_6, 9, .inl ((v49nf 7)))), (a0_4_3e4, .inr (5, [.int (v49ni 22), .int (v49ni 23), .int (v49ni 24), .int (v49ni 25), .int (v49ni 26), .ref a0_4_3e4_5, .ref a0_4_3e4_6])), (a0_4_3e4_5, .inl (ka0_4_3e4_5, 9, .inl ((v49nf 8)))), (a0_4_3e4_6, .inl (ka0_4_3e4_6, 9, .inl ((v49nf 9)))), (a0_4_3e5, .inr (5, [.int (v49ni 27), .int (v49ni 28), .int (v49ni 29), .int (v49ni 30), .int (v49ni 31), .ref a0_4_3e5_5, .ref a0_4_3e5_6])), (a0_4_3e5_5, .inl (ka0_4_3e5_5, 9, .inl ((v49nf 10)))), (a0_4_3e5_6, .inl (ka0_4_3e5_6, 9, .inl ((v49nf 11)))), (a0_4_3e6, .inr (5, [.int (v49ni 32), .int (v49ni 33), .int (v49ni 34), .int (v49ni 35), .int (v49ni 36), .ref a0_4_3e6_5, .ref a0_4_3e6_6])), (a0_4_3e6_5, .inl (ka0_4_3e6_5, 9, .inl ((v49nf 12)))), (a0_4_3e6_6, .inl (ka0_4_3e6_6, 9, .inl ((v49nf 13)))), (a0_4_3e7, .inr (5, [.int (v49ni 37), .int (v49ni 38), .int (v49ni 39), .int (v49ni 40), .int (v49ni 41), .ref a0_4_3e7_5, .ref a0_4_3e7_6])), (a0_4_3e7_5, .inl (ka0_4_3e7_5, 9, .inl ((v49nf 14)))), (a0_4_3e7_6, .inl (ka0_4_3e7_6, 9, .inl ((v49nf 15)))), (a0_4_3e8, .inr (5, [.int (v49ni 42), .int (v49ni 43), .int (v49ni 44), .int (v49ni 45), .int (v49ni 46), .ref a0_4_3e8_5, .ref a0_4_3e8_6])), (a0_4_3e8_5, .inl (ka0_4_3e8_5, 9, .inl ((v49nf 16)))), (a0_4_3e8_6, .inl (ka0_4_3e8_6, 9, .inl ((v49nf 17)))), (a0_4_3e9, .inr (5, [.int (v49ni 47), .int (v49ni 48), .int (v49ni 49), .int (v49ni 50), .int (v49ni 51), .ref a0_4_3e9_5, .ref a0_4_3e9_6])), (a0_4_3e9_5, .inl (ka0_4_3e9_5, 9, .inl ((v49nf 18)))), (a0_4_3e9_6, .inl (ka0_4_3e9_6, 9, .inl ((v49nf 19)))), (a0_4_3e10, .inr (5, [.int (v49ni 52), .int (v49ni 53), .int (v49ni 54), .int (v49ni 55), .int (v49ni 56), .ref a0_4_3e10_5, .ref a0_4_3e10_6])), (a0_4_3e10_5, .inl (ka0_4_3e10_5, 9, .inl ((v49nf 20)))), (a0_4_3e10_6, .inl (ka0_4_3e10_6, 9, .inl ((v49nf 21)))), (a0_4_3e11, .inr (5, [.int (v49ni 57), .int (v49ni 58), .int (v49ni 59), .int (v49ni 60), .int (v49ni 61), .ref a0_4_3e11_5, .ref a0_4_3e11_6])), (a0_4_3e11_5, .inl (ka0_4_3e11_5, 9, .inl ((v49nf 22)))), (a0_4_3e11_6, .inl (ka0_4_3e11_6, 9, .inl ((v49nf 23)))), (a0_4_3e12, .inr (5, [.int (v49ni 62), .int (v49ni 63), .int (v49ni 64), .int (v49ni 65), .int (v49ni 66), .ref a0_4_3e12_5, .ref a0_4_3e12_6])), (a0_4_3e12_5, .inl (ka0_4_3e12_5, 9, .inl ((v49nf 24)))), (a0_4_3e12_6, .inl (ka0_4_3e12_6, 9, .inl ((v49nf 25)))), (a0_4_3e13, .inr (5, [.int (v49ni 67), .int (v49ni 68), .int (v49ni 69), .int (v49ni 70), .int (v49ni 71), .ref a0_4_3e13_5, .ref a0_4_3e13_6])), (a0_4_3e13_5, .inl (ka0_4_3e13_5, 9, .inl ((v49nf 26)))), (a0_4_3e13_6, .inl (ka0_4_3e13_6, 9, .inl ((v49nf 27)))), (a0_4_3e14, .inr (5, [.int (v49ni 72), .int (v49ni 73), .int (v49ni 74), .int (v49ni 75), .int (v49ni 76), .ref a0_4_3e14_5, .ref a0_4_3e14_6])), (a0_4_3e14_5, .inl (ka0_4_3e14_5, 9, .inl ((v49nf 28)))), (a0_4_3e14_6, .inl (ka0_4_3e14_6, 9, .inl ((v49nf 29)))), (a0_4_3e15, .inr (5, [.int (v49ni 77), .int (v49ni 78), .int (v49ni 79), .int (v49ni 80), .int (v49ni 81), .ref a0_4_3e15_5, .ref a0_4_3e15_6])), (a0_4_3e15_5, .inl (ka0_4_3e15_5, 9, .inl ((v49nf 30)))), (a0_4_3e15_6, .inl (ka0_4_3e15_6, 9, .inl ((v49nf 31))))]) hP hD hCc hk1 hFc hP1 hD1 [.inl 0, .inl 1, .inr 0, .inl 3, .inl 4, .inl 5, .inl 6, .inl 7, .inl 8, .inl 9, .inl 10, .inl 11, .inl 12, .inl 13, .inl 14, .inl 15, .inl 16, .inl 17, .inl 18, .inl 19, .inl 20, .inl 21, .inl 22, .inl 23, .inl 24, .inl 25, .inl 26, .inl 27, .inl 28, .inl 29, .inl 30, .inl 31, .inl 32, .inl 33, .inl 34, .inl 35, .inl 36, .inl 37, .inl 38, .inl 39, .inl 40, .inl 41, .inl 42, .inl 43, .inl 44, .inl 45, .inl 46, .inl 47, .inl 48, .inl 49, .inl 50, .inl 51, .inl 52, .inl 53, .inl 54] (by decide +kernel) rfl (fun hP hD => ?_)
      refine lv_aload_n hx hb dX7_wind_68 rfl (lv_at hl 1 rfl) ?_
      refine lv_iload_n hx hb dX7_wind_69 rfl (lv_at hl 0 rfl) ?_
      refine va_calli (va_runV (As := [.int a0_1_1]) (rest := []) ⟨hx, hb, hml, hown, hts⟩ (c_X7_answered l dC dI H.size a0 a0_1_1 a0g_0 (.ref a0_1) a0g_2 a0g_3 (.ref a0_4) a0g_5 a0g_6 (.ref a0_7) a0g_9 a0g_10 a0_8 ) (cwV 1 hts gX7_wind_X7_answered rfl rfl rfl zd_X7_answered ⟨Nat.le_of_ble_eq_true rfl, Nat.le_of_ble_eq_true rfl⟩) ⟨ax_blind (fun _ _ _ _ _ => trivial), zr_7 (zp_K hK) (zp_P1 hP) (q0 := 0) rfl, ax_pre (zp_P1 hP) (zp_K hK) (zp_D1 hD) (fun _ _ => trivial)⟩ rfl rfl hl.1 rfl (lv_room (Nat.le_of_ble_eq_true rfl)) dX7_wind_70 ⟨Nat.le_of_ble_eq_true rfl, Nat.le_of_ble_eq_true rfl⟩) hS (fun q _ h => zp_F1 hD hS hA q h) (zp_F1 hD hS hA) (fun r70 u t H locs ht hvm hw => zx_1 (fun v70na0_8 => zy_1 (fun hraw70_0 hB hz1 hk1 hS1 => zo1 hB ht hP hD hk1 (zp_F1 hD hS hA) hS1 (fun hP hK1 hD hS => ?_))))
      have hw : r70 = a0_1_1 := hw
      have hw := hw.symm
      subst hw
      exact W.iret (v := a0_1_1) hx hb hr (fun t ht hW => ⟨⟨a0_1_1, (), rfl, ⟨(Int.le_trans zq70 ba0_1_1_l), ba0_1_1_u⟩, (fun i9 => ([v70na0_8, v65na0_1, v65na0_2, (v49ni 0), (v49ni 1), (v49ni 2), (v49ni 3), (v49ni 4), (v49ni 5), (v49ni 6), (v49ni 7), (v49ni 8), (v49ni 9), (v49ni 10), (v49ni 11), (v49ni 12), (v49ni 13), (v49ni 14), (v49ni 15), (v49ni 16), (v49ni 17), (v49ni 18), (v49ni 19), (v49ni 20), (v49ni 21), (v49ni 22), (v49ni 23), (v49ni 24), (v49ni 25), (v49ni 26), (v49ni 27), (v49ni 28), (v49ni 29), (v49ni 30), (v49ni 31), (v49ni 32), (v49ni 33), (v49ni 34), (v49ni 35), (v49ni 36), (v49ni 37), (v49ni 38), (v49ni 39), (v49ni 40), (v49ni 41), (v49ni 42), (v49ni 43), (v49ni 44), (v49ni 45), (v49ni 46), (v49ni 47), (v49ni 48), (v49ni 49), (v49ni 50), (v49ni 51), (v49ni 52), (v49ni 53), (v49ni 54), (v49ni 55), (v49ni 56), (v49ni 57), (v49ni 58), (v49ni 59), (v49ni 60), (v49ni 61), (v49ni 62), (v49ni 63), (v49ni 64), (v49ni 65), (v49ni 66), (v49ni 67), (v49ni 68), (v49ni 69), (v49ni 70), (v49ni 71), (v49ni 72), (v49ni 73), (v49ni 74), (v49ni 75), (v49ni 76), (v49ni 77), (v49ni 78), (v49ni 79), (v49ni 80), (v49ni 81)] : List Int32).getD i9 0), (fun i9 => ([(v49nf 0), (v49nf 1), (v49nf 2), (v49nf 3), (v49nf 4), (v49nf 5), (v49nf 6), (v49nf 7), (v49nf 8), (v49nf 9), (v49nf 10), (v49nf 11), (v49nf 12), (v49nf 13), (v49nf 14), (v49nf 15), (v49nf 16), (v49nf 17), (v49nf 18), (v49nf 19), (v49nf 20), (v49nf 21), (v49nf 22), (v49nf 23), (v49nf 24), (v49nf 25), (v49nf 26), (v49nf 27), (v49nf 28), (v49nf 29), (v49nf 30), (v49nf 31)] : List (Nat → Int32)).getD i9 (fun _ => 0)), ⟨bv65na0_1.1, bv65na0_1.2⟩, ⟨bv49na0_0.1, bv49na0_0.2⟩, ⟨bv49na0_2.1, bv49na0_2.2⟩, ⟨bv49na0_3e0_1.1, bv49na0_3e0_1.2⟩, ⟨bv49na0_3e1_1.1, bv49na0_3e1_1.2⟩, ⟨bv49na0_3e2_1.1, bv49na0_3e2_1.2⟩, ⟨bv49na0_3e3_1.1, bv49na0_3e3_1.2⟩, ⟨bv49na0_3e4_1.1, bv49na0_3e4_1.2⟩, ⟨bv49na0_3e5_1.1, bv49na0_3e5_1.2⟩, ⟨bv49na0_3e6_1.1, bv49na0_3e6_1.2⟩, ⟨bv49na0_3e7_1.1, bv49na0_3e7_1.2⟩, ⟨bv49na0_3e8_1.1, bv49na0_3e8_1.2⟩, ⟨bv49na0_3e9_1.1, bv49na0_3e9_1.2⟩, ⟨bv49na0_3e10_1.1, bv49na0_3e10_1.2⟩, ⟨bv49na0_3e11_1.1, bv49na0_3e11_1.2⟩, ⟨bv49na0_3e12_1.1, bv49na0_3e12_1.2⟩, ⟨bv49na0_3e13_1.1, bv49na0_3e13_1.2⟩, ⟨bv49na0_3e14_1.1, bv49na0_3e14_1.2⟩, ⟨bv49na0_3e15_1.1, bv49na0_3e15_1.2⟩, (show v70na0_8.toInt ≠ 4 from (by first | assumption | decide | omega)), by rw [ht]; exact hP, va_K.moved hW.alike hK, hD⟩, hS.F ht⟩) hS.2.2 dX7_wind_73
    · have gc22 := ai_eq c22
      have u22f_a0_1_1 : a0_1_1.toInt ≤ (8 : Int) := ba0_1_1_u
      have l22f_a0_1_1 : (0 : Int) ≤ a0_1_1.toInt := ba0_1_1_l
      have u22f_a1 : a1.toInt ≤ (8 : Int) := u2k0_a1
      have l22f_a1 : (0 : Int) ≤ a1.toInt := l2k0_a1
      refine lv_aload_n hx hb dX7_wind_25 rfl (lv_at hl 0 rfl) ?_
      refine va_get (D := (dC, dI)) (ci := 7) (v := .ref a0_1) (C := RX7) (T := TX7) (N := 11) hx hb hts zi_X7_wind_7 hown hK hP 0 rfl rfl 1 (by decide) (hts (.fieldLink RX7 19 "WaxTurns" "now" "LWaxTurns$Scene;") (zm_X7_wind_r1 (List.mem_of_getElem? (i := 0) rfl))) (fun _ h9 => h9) rfl dX7_wind_26 ?_
      refine va_get (D := (dC, dI)) (ci := 5) (v := .int a0_1_2) (C := RX5) (T := TX5) (N := 7) hx hb hts zi_X7_wind_5 hown hK hP 2 rfl rfl 2 (by decide) (hts (.fieldLink RX7 164 "WaxTurns$Scene" "spent" "I") (zm_X7_wind_r1 (List.mem_of_getElem? (i := 2) rfl))) (fun _ h9 => h9) rfl dX7_wind_29 ?_
      refine lv_if_ne (tgt := 41) hx hb dX7_wind_32 (by decide) (fun c32 => ?_) (fun c32 => ?_)
      · have gc32 := ai_ne c32
        refine lv_aload_n hx hb dX7_wind_41 rfl (lv_at hl 0 rfl) ?_
        refine va_get (D := (dC, dI)) (ci := 7) (v := .ref a0_4) (C := RX7) (T := TX7) (N := 11) hx hb hts zi_X7_wind_7 hown hK hP 0 rfl rfl 4 (by decide) (hts (.fieldLink RX7 36 "WaxTurns" "history" "LWaxTurns$History;") (zm_X7_wind_r1 (List.mem_of_getElem? (i := 3) rfl))) (fun _ h9 => h9) rfl dX7_wind_42 ?_
        refine lv_aload_n hx hb dX7_wind_45 rfl (lv_at hl 0 rfl) ?_
        refine va_get (D := (dC, dI)) (ci := 7) (v := .ref a0_1) (C := RX7) (T := TX7) (N := 11) hx hb hts zi_X7_wind_7 hown hK hP 0 rfl rfl 1 (by decide) (hts (.fieldLink RX7 19 "WaxTurns" "now" "LWaxTurns$Scene;") (zm_X7_wind_r1 (List.mem_of_getElem? (i := 0) rfl))) (fun _ h9 => h9) rfl dX7_wind_46 ?_
        refine zc_cutc (wc := [(a0_4, .inr (1, [.int a0_4_0, a0_4g_1, .int a0_4_2, .ref a0_4_3, a0_4g_4])), (a0_4_3, .inl (ka0_4_3, 16, .inr (.inr (.inr (.inr (fun i9 => ([some a0_4_3e0, some a0_4_3e1, some a0_4_3e2, some a0_4_3e3, some a0_4_3e4, some a0_4_3e5, some a0_4_3e6, some a0_4_3e7, some a0_4_3e8, some a0_4_3e9, some a0_4_3e10, some a0_4_3e11, some a0_4_3e12, some a0_4_3e13, some a0_4_3e14, some a0_4_3e15] : List (Option Nat)).getD i9 none)))))), (a0_4_3e0, .inr (5, [.int a0_4_3e0_0, .int a0_4_3e0_1, .int a0_4_3e0_2, .int a0_4_3e0_3, .int a0_4_3e0_4, .ref a0_4_3e0_5, .ref a0_4_3e0_6])), (a0_1, .inr (5, [.int a0_1_0, .int a0_1_1, .int a0_1_2, .int a0_1_3, .int a0_1_4, .ref a0_1_5, .ref a0_1_6])), (a0_1_5, .inl (ka0_1_5, 9, .inl (fa0_1_5))), (a0_4_3e0_5, .inl (ka0_4_3e0_5, 9, .inl (fa0_4_3e0_5))), (a0_1_6, .inl (ka0_1_6, 9, .inl (fa0_1_6))), (a0_4_3e0_6, .inl (ka0_4_3e0_6, 9, .inl (fa0_4_3e0_6))), (a0_4_3e1, .inr (5, [.int a0_4_3e1_0, .int a0_4_3e1_1, .int a0_4_3e1_2, .int a0_4_3e1_3, .int a0_4_3e1_4, .ref a0_4_3e1_5, .ref a0_4_3e1_6])), (a0_4_3e1_5, .inl (ka0_4_3e1_5, 9, .inl (fa0_4_3e1_5))), (a0_4_3e1_6, .inl (ka0_4_3e1_6, 9, .inl (fa0_4_3e1_6))), (a0_4_3e2, .inr (5, [.int a0_4_3e2_0, .int a0_4_3e2_1, .int a0_4_3e2_2, .int a0_4_3e2_3, .int a0_4_3e2_4, .ref a0_4_3e2_5, .ref a0_4_3e2_6])), (a0_4_3e2_5, .inl (ka0_4_3e2_5, 9, .inl (fa0_4_3e2_5))), (a0_4_3e2_6, .inl (ka0_4_3e2_6, 9, .inl (fa0_4_3e2_6))), (a0_4_3e3, .inr (5, [.int a0_4_3e3_0, .int a0_4_3e3_1, .int a0_4_3e3_2, .int a0_4_3e3_3, .int a0_4_3e3_4, .ref a0_4_3e3_5, .ref a0_4_3e3_6])), (a0_4_3e3_5, .inl (ka0_4_3e3_5, 9, .inl (fa0_4_3e3_5))), (a0_4_3e3_6, .inl (ka0_4_3e3_6, 9, .inl (fa0_4_3e3_6))), (a0_4_3e4, .inr (5, [.int a0_4_3e4_0, .int a0_4_3e4_1, .int a0_4_3e4_2, .int a0_4_3e4_3, .int a0_4_3e4_4, .ref a0_4_3e4_5, .ref a0_4_3e4_6])), (a0_4_3e4_5, .inl (ka0_4_3e4_5, 9, .inl (fa0_4_3e4_5))), (a0_4_3e4_6, .inl (ka0_4_3e4_6, 9, .inl (fa0_4_3e4_6))), (a0_4_3e5, .inr (5, [.int a0_4_3e5_0, .int a0_4_3e5_1, .int a0_4_3e5_2, .int a0_4_3e5_3, .int a0_4_3e5_4, .ref a0_4_3e5_5, .ref a0_4_3e5_6])), (a0_4_3e5_5, .inl (ka0_4_3e5_5, 9, .inl (fa0_4_3e5_5))), (a0_4_3e5_6, .inl (ka0_4_3e5_6, 9, .inl (fa0_4_3e5_6))), (a0_4_3e6, .inr (5, [.int a0_4_3e6_0, .int a0_4_3e6_1, .int a0_4_3e6_2, .int a0_4_3e6_3, .int a0_4_3e6_4, .ref a0_4_3e6_5, .ref a0_4_3e6_6])), (a0_4_3e6_5, .inl (ka0_4_3e6_5, 9, .inl (fa0_4_3e6_5))), (a0_4_3e6_6, .inl (ka0_4_3e6_6, 9, .inl (fa0_4_3e6_6))), (a0_4_3e7, .inr (5, [.int a0_4_3e7_0, .int a0_4_3e7_1, .int a0_4_3e7_2, .int a0_4_3e7_3, .int a0_4_3e7_4, .ref a0_4_3e7_5, .ref a0_4_3e7_6])), (a0_4_3e7_5, .inl (ka0_4_3e7_5, 9, .inl (fa0_4_3e7_5))), (a0_4_3e7_6, .inl (ka0_4_3e7_6, 9, .inl (fa0_4_3e7_6))), (a0_4_3e8, .inr (5, [.int a0_4_3e8_0, .int a0_4_3e8_1, .int a0_4_3e8_2, .int a0_4_3e8_3, .int a0_4_3e8_4, .ref a0_4_3e8_5, .ref a0_4_3e8_6])), (a0_4_3e8_5, .inl (ka0_4_3e8_5, 9, .inl (fa0_4_3e8_5))), (a0_4_3e8_6, .inl (ka0_4_3e8_6, 9, .inl (fa0_4_3e8_6))), (a0_4_3e9, .inr (5, [.int a0_4_3e9_0, .int a0_4_3e9_1, .int a0_4_3e9_2, .int a0_4_3e9_3, .int a0_4_3e9_4, .ref a0_4_3e9_5, .ref a0_4_3e9_6])), (a0_4_3e9_5, .inl (ka0_4_3e9_5, 9, .inl (fa0_4_3e9_5))), (a0_4_3e9_6, .inl (ka0_4_3e9_6, 9, .inl (fa0_4_3e9_6))), (a0_4_3e10, .inr (5, [.int a0_4_3e10_0, .int a0_4_3e10_1, .int a0_4_3e10_2, .int a0_4_3e10_3, .int a0_4_3e10_4, .ref a0_4_3e10_5, .ref a0_4_3e10_6])), (a0_4_3e10_5, .inl (ka0_4_3e10_5, 9, .inl (fa0_4_3e10_5))), (a0_4_3e10_6, .inl (ka0_4_3e10_6, 9, .inl (fa0_4_3e10_6))), (a0_4_3e11, .inr (5, [.int a0_4_3e11_0, .int a0_4_3e11_1, .int a0_4_3e11_2, .int a0_4_3e11_3, .int a0_4_3e11_4, .ref a0_4_3e11_5, .ref a0_4_3e11_6])), (a0_4_3e11_5, .inl (ka0_4_3e11_5, 9, .inl (fa0_4_3e11_5))), (a0_4_3e11_6, .inl (ka0_4_3e11_6, 9, .inl (fa0_4_3e11_6))), (a0_4_3e12, .inr (5, [.int a0_4_3e12_0, .int a0_4_3e12_1, .int a0_4_3e12_2, .int a0_4_3e12_3, .int a0_4_3e12_4, .ref a0_4_3e12_5, .ref a0_4_3e12_6])), (a0_4_3e12_5, .inl (ka0_4_3e12_5, 9, .inl (fa0_4_3e12_5))), (a0_4_3e12_6, .inl (ka0_4_3e12_6, 9, .inl (fa0_4_3e12_6))), (a0_4_3e13, .inr (5, [.int a0_4_3e13_0, .int a0_4_3e13_1, .int a0_4_3e13_2, .int a0_4_3e13_3, .int a0_4_3e13_4, .ref a0_4_3e13_5, .ref a0_4_3e13_6])), (a0_4_3e13_5, .inl (ka0_4_3e13_5, 9, .inl (fa0_4_3e13_5))), (a0_4_3e13_6, .inl (ka0_4_3e13_6, 9, .inl (fa0_4_3e13_6))), (a0_4_3e14, .inr (5, [.int a0_4_3e14_0, .int a0_4_3e14_1, .int a0_4_3e14_2, .int a0_4_3e14_3, .int a0_4_3e14_4, .ref a0_4_3e14_5, .ref a0_4_3e14_6])), (a0_4_3e14_5, .inl (ka0_4_3e14_5, 9, .inl (fa0_4_3e14_5))), (a0_4_3e14_6, .inl (ka0_4_3e14_6, 9, .inl (fa0_4_3e14_6))), (a0_4_3e15, .inr (5, [.int a0_4_3e15_0, .int a0_4_3e15_1, .int a0_4_3e15_2, .int a0_4_3e15_3, .int a0_4_3e15_4, .ref a0_4_3e15_5, .ref a0_4_3e15_6])), (a0_4_3e15_5, .inl (ka0_4_3e15_5, 9, .inl (fa0_4_3e15_5))), (a0_4_3e15_6, .inl (ka0_4_3e15_6, 9, .inl (fa0_4_3e15_6)))]) hP hD hS hA [3, 4, 5, 2, 6, 7, 8, 9, 10, 11, 12, 13, 14, 15, 16, 17, 18, 19, 20, 21, 22, 23, 24, 25, 26, 27, 28, 29, 30, 31, 32, 33, 34, 35, 36, 37, 38, 39, 40, 41, 42, 43, 44, 45, 46, 47, 48, 49, 50, 51, 52, 53, 54] (by decide +kernel) rfl (fun hPc hDc hFc hCc => ?_)
        have hKc := hK.sub (tys' := [(ka0_4_3, (.object RX5)), (ka0_1_5, .int), (ka0_4_3e0_5, .int), (ka0_1_6, .int), (ka0_4_3e0_6, .int), (ka0_4_3e1_5, .int), (ka0_4_3e1_6, .int), (ka0_4_3e2_5, .int), (ka0_4_3e2_6, .int), (ka0_4_3e3_5, .int), (ka0_4_3e3_6, .int), (ka0_4_3e4_5, .int), (ka0_4_3e4_6, .int), (ka0_4_3e5_5, .int), (ka0_4_3e5_6, .int), (ka0_4_3e6_5, .int), (ka0_4_3e6_6, .int), (ka0_4_3e7_5, .int), (ka0_4_3e7_6, .int), (ka0_4_3e8_5, .int), (ka0_4_3e8_6, .int), (ka0_4_3e9_5, .int), (ka0_4_3e9_6, .int), (ka0_4_3e10_5, .int), (ka0_4_3e10_6, .int), (ka0_4_3e11_5, .int), (ka0_4_3e11_6, .int), (ka0_4_3e12_5, .int), (ka0_4_3e12_6, .int), (ka0_4_3e13_5, .int), (ka0_4_3e13_6, .int), (ka0_4_3e14_5, .int), (ka0_4_3e14_6, .int), (ka0_4_3e15_5, .int), (ka0_4_3e15_6, .int)]) [0, 1, 2, 3, 4, 5, 6, 7, 8, 9, 10, 11, 12, 13, 14, 15, 16, 17, 18, 19, 20, 21, 22, 23, 24, 25, 26, 27, 28, 29, 30, 31, 32, 33, 34] rfl
        refine va_callv (va_runV (As := [.ref a0_1]) (rest := []) ⟨hx, hb, hml, hown, hts⟩ (c_X1_keep l dC dI H.size a0_4 a0_1 a0_4_0 a0_4g_1 a0_4g_4 a0_4_2 a0_4_3 ka0_4_3 a0_4_3e0 a0_4_3e1 a0_4_3e2 a0_4_3e3 a0_4_3e4 a0_4_3e5 a0_4_3e6 a0_4_3e7 a0_4_3e8 a0_4_3e9 a0_4_3e10 a0_4_3e11 a0_4_3e12 a0_4_3e13 a0_4_3e14 a0_4_3e15 a0_4_3e0_0 a0_4_3e0_1 a0_4_3e0_2 a0_4_3e0_3 a0_4_3e0_4 a0_4_3e0_5 a0_4_3e0_6 a0_1_0 a0_1_1 a0_1_2 a0_1_3 a0_1_4 a0_1_5 a0_1_6 ka0_1_5 fa0_1_5 ka0_4_3e0_5 fa0_4_3e0_5 ka0_1_6 fa0_1_6 ka0_4_3e0_6 fa0_4_3e0_6 a0_4_3e1_0 a0_4_3e1_1 a0_4_3e1_2 a0_4_3e1_3 a0_4_3e1_4 a0_4_3e1_5 a0_4_3e1_6 ka0_4_3e1_5 fa0_4_3e1_5 ka0_4_3e1_6 fa0_4_3e1_6 a0_4_3e2_0 a0_4_3e2_1 a0_4_3e2_2 a0_4_3e2_3 a0_4_3e2_4 a0_4_3e2_5 a0_4_3e2_6 ka0_4_3e2_5 fa0_4_3e2_5 ka0_4_3e2_6 fa0_4_3e2_6 a0_4_3e3_0 a0_4_3e3_1 a0_4_3e3_2 a0_4_3e3_3 a0_4_3e3_4 a0_4_3e3_5 a0_4_3e3_6 ka0_4_3e3_5 fa0_4_3e3_5 ka0_4_3e3_6 fa0_4_3e3_6 a0_4_3e4_0 a0_4_3e4_1 a0_4_3e4_2 a0_4_3e4_3 a0_4_3e4_4 a0_4_3e4_5 a0_4_3e4_6 ka0_4_3e4_5 fa0_4_3e4_5 ka0_4_3e4_6 fa0_4_3e4_6 a0_4_3e5_0 a0_4_3e5_1 a0_4_3e5_2 a0_4_3e5_3 a0_4_3e5_4 a0_4_3e5_5 a0_4_3e5_6 ka0_4_3e5_5 fa0_4_3e5_5 ka0_4_3e5_6 fa0_4_3e5_6 a0_4_3e6_0 a0_4_3e6_1 a0_4_3e6_2 a0_4_3e6_3 a0_4_3e6_4 a0_4_3e6_5 a0_4_3e6_6 ka0_4_3e6_5 fa0_4_3e6_5 ka0_4_3e6_6 fa0_4_3e6_6 a0_4_3e7_0 a0_4_3e7_1 a0_4_3e7_2 a0_4_3e7_3 a0_4_3e7_4 a0_4_3e7_5 a0_4_3e7_6 ka0_4_3e7_5 fa0_4_3e7_5 ka0_4_3e7_6 fa0_4_3e7_6 a0_4_3e8_0 a0_4_3e8_1 a0_4_3e8_2 a0_4_3e8_3 a0_4_3e8_4 a0_4_3e8_5 a0_4_3e8_6 ka0_4_3e8_5 fa0_4_3e8_5 ka0_4_3e8_6 fa0_4_3e8_6 a0_4_3e9_0 a0_4_3e9_1 a0_4_3e9_2 a0_4_3e9_3 a0_4_3e9_4 a0_4_3e9_5 a0_4_3e9_6 ka0_4_3e9_5 fa0_4_3e9_5 ka0_4_3e9_6 fa0_4_3e9_6 a0_4_3e10_0 a0_4_3e10_1 a0_4_3e10_2 a0_4_3e10_3 a0_4_3e10_4 a0_4_3e10_5 a0_4_3e10_6 ka0_4_3e10_5 fa0_4_3e10_5 ka0_4_3e10_6 fa0_4_3e10_6 a0_4_3e11_0 a0_4_3e11_1 a0_4_3e11_2 a0_4_3e11_3 a0_4_3e11_4 a0_4_3e11_5 a0_4_3e11_6 ka0_4_3e11_5 fa0_4_3e11_5 ka0_4_3e11_6 fa0_4_3e11_6 a0_4_3e12_0 a0_4_3e12_1 a0_4_3e12_2 a0_4_3e12_3 a0_4_3e12_4 a0_4_3e12_5 a0_4_3e12_6 ka0_4_3e12_5 fa0_4_3e12_5 ka0_4_3e12_6 fa0_4_3e12_6 a0_4_3e13_0 a0_4_3e13_1 a0_4_3e13_2 a0_4_3e13_3 a0_4_3e13_4 a0_4_3e13_5 a0_4_3e13_6 ka0_4_3e13_5 fa0_4_3e13_5 ka0_4_3e13_6 fa0_4_3e13_6 a0_4_3e14_0 a0_4_3e14_1 a0_4_3e14_2 a0_4_3e14_3 a0_4_3e14_4 a0_4_3e14_5 a0_4_3e14_6 ka0_4_3e14_5 fa0_4_3e14_5 ka0_4_3e14_6 fa0_4_3e14_6 a0_4_3e15_0 a0_4_3e15_1 a0_4_3e15_2 a0_4_3e15_3 a0_4_3e15_4 a0_4_3e15_5 a0_4_3e15_6 ka0_4_3e15_5 fa0_4_3e15_5 ka0_4_3e15_6 fa0_4_3e15_6 ba0_4_0_l ba0_4_0_u ba0_4_2_l ba0_4_2_u ba0_4_3e0_1_l ba0_4_3e0_1_u l22f_a0_1_1 u22f_a0_1_1 ba0_4_3e1_1_l ba0_4_3e1_1_u ba0_4_3e2_1_l ba0_4_3e2_1_u ba0_4_3e3_1_l ba0_4_3e3_1_u ba0_4_3e4_1_l ba0_4_3e4_1_u ba0_4_3e5_1_l ba0_4_3e5_1_u ba0_4_3e6_1_l ba0_4_3e6_1_u ba0_4_3e7_1_l ba0_4_3e7_1_u ba0_4_3e8_1_l ba0_4_3e8_1_u ba0_4_3e9_1_l ba0_4_3e9_1_u ba0_4_3e10_1_l ba0_4_3e10_1_u ba0_4_3e11_1_l ba0_4_3e11_1_u ba0_4_3e12_1_l ba0_4_3e12_1_u ba0_4_3e13_1_l ba0_4_3e13_1_u ba0_4_3e14_1_l ba0_4_3e14_1_u ba0_4_3e15_1_l ba0_4_3e15_1_u) (cwV 1 hts gX7_wind_X1_keep rfl rfl rfl zd_X1_keep ⟨Nat.le_of_ble_eq_true rfl, Nat.le_of_ble_eq_true rfl⟩) ⟨ax_blind (fun _ _ _ _ _ => trivial), zr_1 hKc hPc (q0 := 0) rfl, ax_pre hPc hKc hDc (fun _ _ => trivial)⟩ rfl rfl hl.1 rfl (lv_room (Nat.le_of_ble_eq_true rfl)) dX7_wind_49 ⟨Nat.le_of_ble_eq_true rfl, Nat.le_of_ble_eq_true rfl⟩) hS (fun q _ h => hFc q h) hFc (fun u t H locs ht hvm hw => zx_2 (fun v49ni v49nf => zy_18 (fun bv49na0_0 bv49na0_2 bv49na0_3e0_1 bv49na0_3e1_1 bv49na0_3e2_1 bv49na0_3e3_1 bv49na0_3e4_1 bv49na0_3e5_1 bv49na0_3e6_1 bv49na0_3e7_1 bv49na0_3e8_1 bv49na0_3e9_1 bv49na0_3e10_1 bv49na0_3e11_1 bv49na0_3e12_1 bv49na0_3e13_1 bv49na0_3e14_1 bv49na0_3e15_1 hB hz1 hk1 hS1 => zo hB ht hS1 (fun hP1 hK1 hD1 hS => ?_))))
        refine zc_backc (w := [(a0, .inr (7, [a0g_0, .ref a0_1, a0g_2, a0g_3, .ref a0_4, a0g_5, a0g_6, .ref a0_7, .int a0_8, a0g_9, a0g_10])), (a0_7, .inr (0, [.int a0_7_0, a0_7g_1, a0_7g_2, a0_7g_3, a0_7g_4, a0_7g_5, a0_7g_6, a0_7g_7, a0_7g_8, a0_7g_9, a0_7g_10, a0_7g_11, a0_7g_12, a0_7g_13, a0_7g_14])), (a0_1, .inr (5, [.int a0_1_0, .int a0_1_1, .int a0_1_2, .int a0_1_3, .int a0_1_4, .ref a0_1_5, .ref a0_1_6])), (a0_4, .inr (1, [.int (v49ni 0), a0_4g_1, .int (v49ni 1), .ref a0_4_3, a0_4g_4])), (a0_4_3, .inl (ka0_4_3, 16, .inr (.inr (.inr (.inr (fun i9 => ([some a0_4_3e0, some a0_4_3e1, some a0_4_3e2, some a0_4_3e3, some a0_4_3e4, some a0_4_3e5, some a0_4_3e6, some a0_4_3e7, some a0_4_3e8, some a0_4_3e9, some a0_4_3e10, some a0_4_3e11, some a0_4_3e12, some a0_4_3e13, some a0_4_3e14, some a0_4_3e15] : List (Option Nat)).getD i9 none)))))), (a0_4_3e0, .inr (5, [.int (v49ni 2), .int (v49ni 3), .int (v49ni 4), .int (v49ni 5), .int (v49ni 6), .ref a0_4_3e0_5, .ref a0_4_3e0_6])), (a0_1_5, .inl (ka0_1_5, 9, .inl (fa0_1_5))), (a0_4_3e0_5, .inl (ka0_4_3e0_5, 9, .inl ((v49nf 0)))), (a0_1_6, .inl (ka0_1_6, 9, .inl (fa0_1_6))), (a0_4_3e0_6, .inl (ka0_4_3e0_6, 9, .inl ((v49nf 1)))), (a0_4_3e1, .inr (5, [.int (v49ni 7), .int (v49ni 8), .int (v49ni 9), .int (v49ni 10), .int (v49ni 11), .ref a0_4_3e1_5, .ref a0_4_3e1_6])), (a0_4_3e1_5, .inl (ka0_4_3e1_5, 9, .inl ((v49nf 2)))), (a0_4_3e1_6, .inl (ka0_4_3e1_6, 9, .inl ((v49nf 3)))), (a0_4_3e2, .inr (5, [.int (v49ni 12), .int (v49ni 13), .int (v49ni 14), .int (v49ni 15), .int (v49ni 16), .ref a0_4_3e2_5, .ref a0_4_3e2_6])), (a0_4_3e2_5, .inl (ka0_4_3e2_5, 9, .inl ((v49nf 4)))), (a0_4_3e2_6, .inl (ka0_4_3e2_6, 9, .inl ((v49nf 5)))), (a0_4_3e3, .inr (5, [.int (v49ni 17), .int (v49ni 18), .int (v49ni 19), .int (v49ni 20), .int (v49ni 21), .ref a0_4_3e3_5, .ref a0_4_3e3_6])), (a0_4_3e3_5, .inl (ka0_4_3e3_5, 9, .inl ((v49nf 6)))), (a0_4_3e3_6, .inl (ka0_4_3e3_6, 9, .inl ((v49nf 7)))), (a0_4_3e4, .inr (5, [.int (v49ni 22), .int (v49ni 23), .int (v49ni 24), .int (v49ni 25), .int (v49ni 26), .ref a0_4_3e4_5, .ref a0_4_3e4_6])), (a0_4_3e4_5, .inl (ka0_4_3e4_5, 9, .inl ((v49nf 8)))), (a0_4_3e4_6, .inl (ka0_4_3e4_6, 9, .inl ((v49nf 9)))), (a0_4_3e5, .inr (5, [.int (v49ni 27), .int (v49ni 28), .int (v49ni 29), .int (v49ni 30), .int (v49ni 31), .ref a0_4_3e5_5, .ref a0_4_3e5_6])), (a0_4_3e5_5, .inl (ka0_4_3e5_5, 9, .inl ((v49nf 10)))), (a0_4_3e5_6, .inl (ka0_4_3e5_6, 9, .inl ((v49nf 11)))), (a0_4_3e6, .inr (5, [.int (v49ni 32), .int (v49ni 33), .int (v49ni 34), .int (v49ni 35), .int (v49ni 36), .ref a0_4_3e6_5, .ref a0_4_3e6_6])), (a0_4_3e6_5, .inl (ka0_4_3e6_5, 9, .inl ((v49nf 12)))), (a0_4_3e6_6, .inl (ka0_4_3e6_6, 9, .inl ((v49nf 13)))), (a0_4_3e7, .inr (5, [.int (v49ni 37), .int (v49ni 38), .int (v49ni 39), .int (v49ni 40), .int (v49ni 41), .ref a0_4_3e7_5, .ref a0_4_3e7_6])), (a0_4_3e7_5, .inl (ka0_4_3e7_5, 9, .inl ((v49nf 14)))), (a0_4_3e7_6, .inl (ka0_4_3e7_6, 9, .inl ((v49nf 15)))), (a0_4_3e8, .inr (5, [.int (v49ni 42), .int (v49ni 43), .int (v49ni 44), .int (v49ni 45), .int (v49ni 46), .ref a0_4_3e8_5, .ref a0_4_3e8_6])), (a0_4_3e8_5, .inl (ka0_4_3e8_5, 9, .inl ((v49nf 16)))), (a0_4_3e8_6, .inl (ka0_4_3e8_6, 9, .inl ((v49nf 17)))), (a0_4_3e9, .inr (5, [.int (v49ni 47), .int (v49ni 48), .int (v49ni 49), .int (v49ni 50), .int (v49ni 51), .ref a0_4_3e9_5, .ref a0_4_3e9_6])), (a0_4_3e9_5, .inl (ka0_4_3e9_5, 9, .inl ((v49nf 18)))), (a0_4_3e9_6, .inl (ka0_4_3e9_6, 9, .inl ((v49nf 19)))), (a0_4_3e10, .inr (5, [.int (v49ni 52), .int (v49ni 53), .int (v49ni 54), .int (v49ni 55), .int (v49ni 56), .ref a0_4_3e10_5, .ref a0_4_3e10_6])), (a0_4_3e10_5, .inl (ka0_4_3e10_5, 9, .inl ((v49nf 20)))), (a0_4_3e10_6, .inl (ka0_4_3e10_6, 9, .inl ((v49nf 21)))), (a0_4_3e11, .inr (5, [.int (v49ni 57), .int (v49ni 58), .int (v49ni 59), .int (v49ni 60), .int (v49ni 61), .ref a0_4_3e11_5, .ref a0_4_3e11_6])), (a0_4_3e11_5, .inl (ka0_4_3e11_5, 9, .inl ((v49nf 22)))), (a0_4_3e11_6, .inl (ka0_4_3e11_6, 9, .inl ((v49nf 23)))), (a0_4_3e12, .inr (5, [.int (v49ni 62), .int (v49ni 63), .int (v49ni 64), .int (v49ni 65), .int (v49ni 66), .ref a0_4_3e12_5, .ref a0_4_3e12_6])), (a0_4_3e12_5, .inl (ka0_4_3e12_5, 9, .inl ((v49nf 24)))), (a0_4_3e12_6, .inl (ka0_4_3e12_6, 9, .inl ((v49nf 25)))), (a0_4_3e13, .inr (5, [.int (v49ni 67), .int (v49ni 68), .int (v49ni 69), .int (v49ni 70), .int (v49ni 71), .ref a0_4_3e13_5, .ref a0_4_3e13_6])), (a0_4_3e13_5, .inl (ka0_4_3e13_5, 9, .inl ((v49nf 26)))), (a0_4_3e13_6, .inl (ka0_4_3e13_6, 9, .inl ((v49nf 27)))), (a0_4_3e14, .inr (5, [.int (v49ni 72), .int (v49ni 73), .int (v49ni 74), .int (v49ni 75), .int (v49ni 76), .ref a0_4_3e14_5, .ref a0_4_3e14_6])), (a0_4_3e14_5, .inl (ka0_4_3e14_5, 9, .inl ((v49nf 28)))), (a0_4_3e14_6, .inl (ka0_4_3e14_6, 9, .inl ((v49nf 29)))), (a0_4_3e15, .inr (5, [.int (v49ni 77), .int (v49ni 78), .int (v49ni 79), .int (v49ni 80), .int (v49ni 81), .ref a0_4_3e15_5, .ref a0_4_3e15_6])), (a0_4_3e15_5, .inl (ka0_4_3e15_5, 9, .inl ((v49nf 30)))), (a0_4_3e15_6, .inl (ka0_4_3e15_6, 9, .inl ((v49nf 31))))]) hP hD hCc hk1 hFc hP1 hD1 [.inl 0, .inl 1, .inr 3, .inr 0, .inr 1, .inr 2, .inr 4, .inr 5, .inr 6, .inr 7, .inr 8, .inr 9, .inr 10, .inr 11, .inr 12, .inr 13, .inr 14, .inr 15, .inr 16, .inr 17, .inr 18, .inr 19, .inr 20, .inr 21, .inr 22, .inr 23, .inr 24, .inr 25, .inr 26, .inr 27, .inr 28, .inr 29, .inr 30, .inr 31, .inr 32, .inr 33, .inr 34, .inr 35, .inr 36, .inr 37, .inr 38, .inr 39, .inr 40, .inr 41, .inr 42, .inr 43, .inr 44, .inr 45, .inr 46, .inr 47, .inr 48, .inr 49, .inr 50, .inr 51, .inr 52] (by decide +kernel) rfl (fun hP hD => ?_)
        refine lv_aload_n hx hb dX7_wind_52 rfl (lv_at hl 0 rfl) ?_
        refine va_get (D := (dC, dI)) (ci := 7) (v := .ref a0_1) (C := RX7) (T := TX7) (N := 11) hx hb hts zi_X7_wind_7 hown hK hP 0 rfl rfl 1 (by decide) (hts (.fieldLink RX7 19 "WaxTurns" "now" "LWaxTurns$Scene;") (zm_X7_wind_r1 (List.mem_of_getElem? (i := 0) rfl))) (fun _ h9 => h9) rfl dX7_wind_53 ?_
        refine va_get (D := (dC, dI)) (ci := 5) (v := .int a0_1_1) (C := RX5) (T := TX5) (N := 7) hx hb hts zi_X7_wind_5 hown hK hP 2 rfl rfl 1 (by decide) (hts (.fieldLink RX7 158 "WaxTurns$Scene" "turn" "I") (zm_X7_wind_r1 (List.mem_of_getElem? (i := 1) rfl))) (fun _ h9 => h9) rfl dX7_wind_56 ?_
        refine lv_istore_n (lv' := [(2, .int a0_1_1), (0, .ref a0), (1, .int a1)]) hx hb dX7_wind_59 rfl hl (by decide) rfl (fun ls hl => ?_)
        refine lv_aload_n hx hb dX7_wind_60 rfl (lv_at hl 1 rfl) ?_
        refine va_get (D := (dC, dI)) (ci := 7) (v := .ref a0_1) (C := RX7) (T := TX7) (N := 11) hx hb hts zi_X7_wind_7 hown hK hP 0 rfl rfl 1 (by decide) (hts (.fieldLink RX7 19 "WaxTurns" "now" "LWaxTurns$Scene;") (zm_X7_wind_r1 (List.mem_of_getElem? (i := 0) rfl))) (fun _ h9 => h9) rfl dX7_wind_61 ?_
        refine lv_iload_n hx hb dX7_wind_64 rfl (lv_at hl 2 rfl) ?_
        refine zc_cutc (wc := [(a0_1, .inr (5, [.int a0_1_0, .int a0_1_1, .int a0_1_2, .int a0_1_3, .int a0_1_4, .ref a0_1_5, .ref a0_1_6]))]) hP hD hS hA [2] (by decide +kernel) rfl (fun hPc hDc hFc hCc => ?_)
        have hKc := zp_K hK
        refine va_callv (va_runV (As := [.int a1]) (rest := []) ⟨hx, hb, hml, hown, hts⟩ (c_X5_startTurn l dC dI H.size a0_1 a1 (.int a0_1_0) (.int a0_1_3) (.int a0_1_4) (.ref a0_1_5) (.ref a0_1_6) a0_1_1 a0_1_2 l22f_a1 u22f_a1 l22f_a0_1_1 u22f_a0_1_1) (cwV 1 hts gX7_wind_X5_startTurn rfl rfl rfl zd_X5_startTurn ⟨Nat.le_of_ble_eq_true rfl, Nat.le_of_ble_eq_true rfl⟩) ⟨ax_blind (fun _ _ _ _ _ => trivial), zr_5 hKc hPc (q0 := 0) rfl, ax_pre hPc hKc hDc (fun _ _ => trivial)⟩ rfl rfl hl.1 rfl (lv_room (Nat.le_of_ble_eq_true rfl)) dX7_wind_65 ⟨Nat.le_of_ble_eq_true rfl, Nat.le_of_ble_eq_true rfl⟩) hS (fun q _ h => hFc q h) hFc (fun u t H locs ht hvm hw => zx_2 (fun v65na0_1 v65na0_2 => zy_1 (fun bv65na0_1 hB hz1 hk1 hS1 => zo hB ht hS1 (fun hP1 hK1 hD1 hS => ?_))))
        refine zc_backc (w := [(a0, .inr (7, [a0g_0, .ref a0_1, a0g_2, a0g_3, .ref a0_4, a0g_5, a0g_6, .ref a0_7, .int a0_8, a0g_9, a0g_10])), (a0_7, .inr (0, [.int a0_7_0, a0_7g_1, a0_7g_2, a0_7g_3, a0_7g_4, a0_7g_5, a0_7g_6, a0_7g_7, a0_7g_8, a0_7g_9, a0_7g_10, a0_7g_11, a0_7g_12, a0_7g_13, a0_7g_14])), (a0_1, .inr (5, [.int a0_1_0, .int v65na0_1, .int v65na0_2, .int a0_1_3, .int a0_1_4, .ref a0_1_5, .ref a0_1_6])), (a0_4, .inr (1, [.int (v49ni 0), a0_4g_1, .int (v49ni 1), .ref a0_4_3, a0_4g_4])), (a0_4_3, .inl (ka0_4_3, 16, .inr (.inr (.inr (.inr (fun i9 => ([some a0_4_3e0, some a0_4_3e1, some a0_4_3e2, some a0_4_3e3, some a0_4_3e4, some a0_4_3e5, some a0_4_3e6, some a0_4_3e7, some a0_4_3e8, some a0_4_3e9, some a0_4_3e10, some a0_4_3e11, some a0_4_3e12, some a0_4_3e13, some a0_4_3e14, some a0_4_3e15] : List (Option Nat)).getD i9 none)))))), (a0_4_3e0, .inr (5, [.int (v49ni 2), .int (v49ni 3), .int (v49ni 4), .int (v49ni 5), .int (v49ni 6), .ref a0_4_3e0_5, .ref a0_4_3e0_6])), (a0_1_5, .inl (ka0_1_5, 9, .inl (fa0_1_5))), (a0_4_3e0_5, .inl (ka0_4_3e0_5, 9, .inl ((v49nf 0)))), (a0_1_6, .inl (ka0_1_6, 9, .inl (fa0_1_6))), (a0_4_3e0_6, .inl (ka0_4_3e0_6, 9, .inl ((v49nf 1)))), (a0_4_3e1, .inr (5, [.int (v49ni 7), .int (v49ni 8), .int (v49ni 9), .int (v49ni 10), .int (v49ni 11), .ref a0_4_3e1_5, .ref a0_4_3e1_6])), (a0_4_3e1_5, .inl (ka0_4_3e1_5, 9, .inl ((v49nf 2)))), (a0_4_3e1_6, .inl (ka0_4_3e1_6, 9, .inl ((v49nf 3)))), (a0_4_3e2, .inr (5, [.int (v49ni 12), .int (v49ni 13), .int (v49ni 14), .int (v49ni 15), .int (v49ni 16), .ref a0_4_3e2_5, .ref a0_4_3e2_6])), (a0_4_3e2_5, .inl (ka0_4_3e2_5, 9, .inl ((v49nf 4)))), (a0_4_3e2_6, .inl (ka0_4_3e2_6, 9, .inl ((v49nf 5)))), (a0_4_3e3, .inr (5, [.int (v49ni 17), .int (v49ni 18), .int (v49ni 19), .int (v49ni 20), .int (v49ni 21), .ref a0_4_3e3_5, .ref a0_4_3e3_6])), (a0_4_3e3_5, .inl (ka0_4_3e3_5, 9, .inl ((v49nf 6)))), (a0_4_3e3_6, .inl (ka0_4_3e3_6, 9, .inl ((v49nf 7)))), (a0_4_3e4, .inr (5, [.int (v49ni 22), .int (v49ni 23), .int (v49ni 24), .int (v49ni 25), .int (v49ni 26), .ref a0_4_3e4_5, .ref a0_4_3e4_6])), (a0_4_3e4_5, .inl (ka0_4_3e4_5, 9, .inl ((v49nf 8)))), (a0_4_3e4_6, .inl (ka0_4_3e4_6, 9, .inl ((v49nf 9)))), (a0_4_3e5, .inr (5, [.int (v49ni 27), .int (v49ni 28), .int (v49ni 29), .int (v49ni 30), .int (v49ni 31), .ref a0_4_3e5_5, .ref a0_4_3e5_6])), (a0_4_3e5_5, .inl (ka0_4_3e5_5, 9, .inl ((v49nf 10)))), (a0_4_3e5_6, .inl (ka0_4_3e5_6, 9, .inl ((v49nf 11)))), (a0_4_3e6, .inr (5, [.int (v49ni 32), .int (v49ni 33), .int (v49ni 34), .int (v49ni 35), .int (v49ni 36), .ref a0_4_3e6_5, .ref a0_4_3e6_6])), (a0_4_3e6_5, .inl (ka0_4_3e6_5, 9, .inl ((v49nf 12)))), (a0_4_3e6_6, .inl (ka0_4_3e6_6, 9, .inl ((v49nf 13)))), (a0_4_3e7, .inr (5, [.int (v49ni 37), .int (v49ni 38), .int (v49ni 39), .int (v49ni 40), .int (v49ni 41), .ref a0_4_3e7_5, .ref a0_4_3e7_6])), (a0_4_3e7_5, .inl (ka0_4_3e7_5, 9, .inl ((v49nf 14)))), (a0_4_3e7_6, .inl (ka0_4_3e7_6, 9, .inl ((v49nf 15)))), (a0_4_3e8, .inr (5, [.int (v49ni 42), .int (v49ni 43), .int (v49ni 44), .int (v49ni 45), .int (v49ni 46), .ref a0_4_3e8_5, .ref a0_4_3e8_6])), (a0_4_3e8_5, .inl (ka0_4_3e8_5, 9, .inl ((v49nf 16)))), (a0_4_3e8_6, .inl (ka0_4_3e8_6, 9, .inl ((v49nf 17)))), (a0_4_3e9, .inr (5, [.int (v49ni 47), .int (v49ni 48), .int (v49ni 49), .int (v49ni 50), .int (v49ni 51), .ref a0_4_3e9_5, .ref a0_4_3e9_6])), (a0_4_3e9_5, .inl (ka0_4_3e9_5, 9, .inl ((v49nf 18)))), (a0_4_3e9_6, .inl (ka0_4_3e9_6, 9, .inl ((v49nf 19)))), (a0_4_3e10, .inr (5, [.int (v49ni 52), .int (v49ni 53), .int (v49ni 54), .int (v49ni 55), .int (v49ni 56), .ref a0_4_3e10_5, .ref a0_4_3e10_6])), (a0_4_3e10_5, .inl (ka0_4_3e10_5, 9, .inl ((v49nf 20)))), (a0_4_3e10_6, .inl (ka0_4_3e10_6, 9, .inl ((v49nf 21)))), (a0_4_3e11, .inr (5, [.int (v49ni 57), .int (v49ni 58), .int (v49ni 59), .int (v49ni 60), .int (v49ni 61), .ref a0_4_3e11_5, .ref a0_4_3e11_6])), (a0_4_3e11_5, .inl (ka0_4_3e11_5, 9, .inl ((v49nf 22)))), (a0_4_3e11_6, .inl (ka0_4_3e11_6, 9, .inl ((v49nf 23)))), (a0_4_3e12, .inr (5, [.int (v49ni 62), .int (v49ni 63), .int (v49ni 64), .int (v49ni 65), .int (v49ni 66), .ref a0_4_3e12_5, .ref a0_4_3e12_6])), (a0_4_3e12_5, .inl (ka0_4_3e12_5, 9, .inl ((v49nf 24)))), (a0_4_3e12_6, .inl (ka0_4_3e12_6, 9, .inl ((v49nf 25)))), (a0_4_3e13, .inr (5, [.int (v49ni 67), .int (v49ni 68), .int (v49ni 69), .int (v49ni 70), .int (v49ni 71), .ref a0_4_3e13_5, .ref a0_4_3e13_6])), (a0_4_3e13_5, .inl (ka0_4_3e13_5, 9, .inl ((v49nf 26)))), (a0_4_3e13_6, .inl (ka0_4_3e13_6, 9, .inl ((v49nf 27)))), (a0_4_3e14, .inr (5, [.int (v49ni 72), .int (v49ni 73), .int (v49ni 74), .int (v49ni 75), .int (v49ni 76), .ref a0_4_3e14_5, .ref a0_4_3e14_6])), (a0_4_3e14_5, .inl (ka0_4_3e14_5, 9, .inl ((v49nf 28)))), (a0_4_3e14_6, .inl (ka0_4_3e14_6, 9, .inl ((v49nf 29)))), (a0_4_3e15, .inr (5, [.int (v49ni 77), .int (v49ni 78), .int (v49ni 79), .int (v49ni 80), .int (v49ni 81), .ref a0_4_3e15_5, .ref a0_4_3e15_6])), (a0_4_3e15_5, .inl (ka0_4_3e15_5, 9, .inl ((v49nf 30)))), (a0_4_3e15_6, .inl (ka0_4_3e15_6, 9, .inl ((v49nf 31))))]) hP hD hCc hk1 hFc hP1 hD1 [.inl 0, .inl 1, .inr 0, .inl 3, .inl 4, .inl 5, .inl 6, .inl 7, .inl 8, .inl 9, .inl 10, .inl 11, .inl 12, .inl 13, .inl 14, .inl 15, .inl 16, .inl 17, .inl 18, .inl 19, .inl 20, .inl 21, .inl 22, .inl 23, .inl 24, .inl 25, .inl 26, .inl 27, .inl 28, .inl 29, .inl 30, .inl 31, .inl 32, .inl 33, .inl 34, .inl 35, .inl 36, .inl 37, .inl 38, .inl 39, .inl 40, .inl 41, .inl 42, .inl 43, .inl 44, .inl 45, .inl 46, .inl 47, .inl 48, .inl 49, .inl 50, .inl 51, .inl 52, .inl 53, .inl 54] (by decide +kernel) rfl (fun hP hD => ?_)
        refine lv_aload_n hx hb dX7_wind_68 rfl (lv_at hl 1 rfl) ?_
        refine lv_iload_n hx hb dX7_wind_69 rfl (lv_at hl 0 rfl) ?_
        refine va_calli (va_runV (As := [.int a0_1_1]) (rest := []) ⟨hx, hb, hml, hown, hts⟩ (c_X7_answered l dC dI H.size a0 a0_1_1 a0g_0 (.ref a0_1) a0g_2 a0g_3 (.ref a0_4) a0g_5 a0g_6 (.ref a0_7) a0g_9 a0g_10 a0_8 ) (cwV 1 hts gX7_wind_X7_answered rfl rfl rfl zd_X7_answered ⟨Nat.le_of_ble_eq_true rfl, Nat.le_of_ble_eq_true rfl⟩) ⟨ax_blind (fun _ _ _ _ _ => trivial), zr_7 (zp_K hK) (zp_P1 hP) (q0 := 0) rfl, ax_pre (zp_P1 hP) (zp_K hK) (zp_D1 hD) (fun _ _ => trivial)⟩ rfl rfl hl.1 rfl (lv_room (Nat.le_of_ble_eq_true rfl)) dX7_wind_70 ⟨Nat.le_of_ble_eq_true rfl, Nat.le_of_ble_eq_true rfl⟩) hS (fun q _ h => zp_F1 hD hS hA q h) (zp_F1 hD hS hA) (fun r70 u t H locs ht hvm hw => zx_1 (fun v70na0_8 => zy_1 (fun hraw70_0 hB hz1 hk1 hS1 => zo1 hB ht hP hD hk1 (zp_F1 hD hS hA) hS1 (fun hP hK1 hD hS => ?_))))
        have hw : r70 = a0_1_1 := hw
        have hw := hw.symm
        subst hw
        exact W.iret (v := a0_1_1) hx hb hr (fun t ht hW => ⟨⟨a0_1_1, (), rfl, ⟨(Int.le_trans zq70 l22f_a0_1_1), u22f_a0_1_1⟩, (fun i9 => ([v70na0_8, v65na0_1, v65na0_2, (v49ni 0), (v49ni 1), (v49ni 2), (v49ni 3), (v49ni 4), (v49ni 5), (v49ni 6), (v49ni 7), (v49ni 8), (v49ni 9), (v49ni 10), (v49ni 11), (v49ni 12), (v49ni 13), (v49ni 14), (v49ni 15), (v49ni 16), (v49ni 17), (v49ni 18), (v49ni 19), (v49ni 20), (v49ni 21), (v49ni 22), (v49ni 23), (v49ni 24), (v49ni 25), (v49ni 26), (v49ni 27), (v49ni 28), (v49ni 29), (v49ni 30), (v49ni 31), (v49ni 32), (v49ni 33), (v49ni 34), (v49ni 35), (v49ni 36), (v49ni 37), (v49ni 38), (v49ni 39), (v49ni 40), (v49ni 41), (v49ni 42), (v49ni 43), (v49ni 44), (v49ni 45), (v49ni 46), (v49ni 47), (v49ni 48), (v49ni 49), (v49ni 50), (v49ni 51), (v49ni 52), (v49ni 53), (v49ni 54), (v49ni 55), (v49ni 56), (v49ni 57), (v49ni 58), (v49ni 59), (v49ni 60), (v49ni 61), (v49ni 62), (v49ni 63), (v49ni 64), (v49ni 65), (v49ni 66), (v49ni 67), (v49ni 68), (v49ni 69), (v49ni 70), (v49ni 71), (v49ni 72), (v49ni 73), (v49ni 74), (v49ni 75), (v49ni 76), (v49ni 77), (v49ni 78), (v49ni 79), (v49ni 80), (v49ni 81)] : List Int32).getD i9 0), (fun i9 => ([(v49nf 0), (v49nf 1), (v49nf 2), (v49nf 3), (v49nf 4), (v49nf 5), (v49nf 6), (v49nf 7), (v49nf 8), (v49nf 9), (v49nf 10), (v49nf 11), (v49nf 12), (v49nf 13), (v49nf 14), (v49nf 15), (v49nf 16), (v49nf 17), (v49nf 18), (v49nf 19), (v49nf 20), (v49nf 21), (v49nf 22), (v49nf 23), (v49nf 24), (v49nf 25), (v49nf 26), (v49nf 27), (v49nf 28), (v49nf 29), (v49nf 30), (v49nf 31)] : List (Nat → Int32)).getD i9 (fun _ => 0)), ⟨bv65na0_1.1, bv65na0_1.2⟩, ⟨bv49na0_0.1, bv49na0_0.2⟩, ⟨bv49na0_2.1, bv49na0_2.2⟩, ⟨bv49na0_3e0_1.1, bv49na0_3e0_1.2⟩, ⟨bv49na0_3e1_1.1, bv49na0_3e1_1.2⟩, ⟨bv49na0_3e2_1.1, bv49na0_3e2_1.2⟩, ⟨bv49na0_3e3_1.1, bv49na0_3e3_1.2⟩, ⟨bv49na0_3e4_1.1, bv49na0_3e4_1.2⟩, ⟨bv49na0_3e5_1.1, bv49na0_3e5_1.2⟩, ⟨bv49na0_3e6_1.1, bv49na0_3e6_1.2⟩, ⟨bv49na0_3e7_1.1, bv49na0_3e7_1.2⟩, ⟨bv49na0_3e8_1.1, bv49na0_3e8_1.2⟩, ⟨bv49na0_3e9_1.1, bv49na0_3e9_1.2⟩, ⟨bv49na0_3e10_1.1, bv49na0_3e10_1.2⟩, ⟨bv49na0_3e11_1.1, bv49na0_3e11_1.2⟩, ⟨bv49na0_3e12_1.1, bv49na0_3e12_1.2⟩, ⟨bv49na0_3e13_1.1, bv49na0_3e13_1.2⟩, ⟨bv49na0_3e14_1.1, bv49na0_3e14_1.2⟩, ⟨bv49na0_3e15_1.1, bv49na0_3e15_1.2⟩, (show v70na0_8.toInt ≠ 4 from (by first | assumption | decide | omega)), by rw [ht]; exact hP, va_K.moved hW.alike hK, hD⟩, hS.F ht⟩) hS.2.2 dX7_wind_73
      · have gc32 := ai_eq c32
        have u32f_a0_1_2 : a0_1_2.toInt ≤ (0 : Int) := Int.le_trans (Int.le_of_eq gc32) zq6
        have l32f_a0_1_2 : (0 : Int) ≤ a0_1_2.toInt := Int.le_trans zq5 (Int.le_of_eq gc32.symm)
        refine lv_aload_n hx hb dX7_wind_35 rfl (lv_at hl 0 rfl) ?_
        refine lv_iconst (v := 5) hx hb dX7_wind_36 zk_iconst_5 ?_
        refine va_calli (va_runV (As := [.int 5]) (rest := []) ⟨hx, hb, hml, hown, hts⟩ (c_X7_refused5 l dC dI H.size a0 5 a0g_0 (.ref a0_1) a0g_2 a0g_3 (.ref a0_4) a0g_5 a0g_6 (.ref a0_7) a0g_9 a0g_10 a0_8 zq114 (Int.le_trans zq115 zq132)) (cwV 1 hts gX7_wind_X7_refused rfl rfl rfl zd_X7_refused ⟨Nat.le_of_ble_eq_true rfl, Nat.le_of_ble_eq_true rfl⟩) ⟨ax_blind (fun _ _ _ _ _ => trivial), zr_7 (zp_K hK) (zp_P1 hP) (q0 := 0) rfl, ax_pre (zp_P1 hP) (zp_K hK) (zp_D1 hD) (fun _ _ => trivial)⟩ rfl rfl hl.1 rfl (lv_room (Nat.le_of_ble_eq_true rfl)) dX7_wind_37 ⟨Nat.le_of_ble_eq_true rfl, Nat.le_of_ble_eq_true rfl⟩) hS (fun q _ h => zp_F1 hD hS hA q h) (zp_F1 hD hS hA) (fun r37 u t H locs ht hvm hw => zx_1 (fun v37na0_8 => zy_1 (fun hraw37_0 hB hz1 hk1 hS1 => zo1 hB ht hP hD hk1 (zp_F1 hD hS hA) hS1 (fun hP hK1 hD hS => ?_))))
        have hw : r37 = (-1) := hw
        have hw := hw.symm
        subst hw
        exact W.iret (v := (-1)) hx hb hr (fun t ht hW => ⟨⟨(-1), (), rfl, ⟨zq71, (Int.le_trans zq72 zq73)⟩, (fun i9 => ([v37na0_8, a0_1_1, a0_1_2, a0_4_0, a0_4_2, a0_4_3e0_0, a0_4_3e0_1, a0_4_3e0_2, a0_4_3e0_3, a0_4_3e0_4, a0_4_3e1_0, a0_4_3e1_1, a0_4_3e1_2, a0_4_3e1_3, a0_4_3e1_4, a0_4_3e2_0, a0_4_3e2_1, a0_4_3e2_2, a0_4_3e2_3, a0_4_3e2_4, a0_4_3e3_0, a0_4_3e3_1, a0_4_3e3_2, a0_4_3e3_3, a0_4_3e3_4, a0_4_3e4_0, a0_4_3e4_1, a0_4_3e4_2, a0_4_3e4_3, a0_4_3e4_4, a0_4_3e5_0, a0_4_3e5_1, a0_4_3e5_2, a0_4_3e5_3, a0_4_3e5_4, a0_4_3e6_0, a0_4_3e6_1, a0_4_3e6_2, a0_4_3e6_3, a0_4_3e6_4, a0_4_3e7_0, a0_4_3e7_1, a0_4_3e7_2, a0_4_3e7_3, a0_4_3e7_4, a0_4_3e8_0, a0_4_3e8_1, a0_4_3e8_2, a0_4_3e8_3, a0_4_3e8_4, a0_4_3e9_0, a0_4_3e9_1, a0_4_3e9_2, a0_4_3e9_3, a0_4_3e9_4, a0_4_3e10_0, a0_4_3e10_1, a0_4_3e10_2, a0_4_3e10_3, a0_4_3e10_4, a0_4_3e11_0, a0_4_3e11_1, a0_4_3e11_2, a0_4_3e11_3, a0_4_3e11_4, a0_4_3e12_0, a0_4_3e12_1, a0_4_3e12_2, a0_4_3e12_3, a0_4_3e12_4, a0_4_3e13_0, a0_4_3e13_1, a0_4_3e13_2, a0_4_3e13_3, a0_4_3e13_4, a0_4_3e14_0, a0_4_3e14_1, a0_4_3e14_2, a0_4_3e14_3, a0_4_3e14_4, a0_4_3e15_0, a0_4_3e15_1, a0_4_3e15_2, a0_4_3e15_3, a0_4_3e15_4] : List Int32).getD i9 0), (fun i9 => ([fa0_4_3e0_5, fa0_4_3e0_6, fa0_4_3e1_5, fa0_4_3e1_6, fa0_4_3e2_5, fa0_4_3e2_6, fa0_4_3e3_5, fa0_4_3e3_6, fa0_4_3e4_5, fa0_4_3e4_6, fa0_4_3e5_5, fa0_4_3e5_6, fa0_4_3e6_5, fa0_4_3e6_6, fa0_4_3e7_5, fa0_4_3e7_6, fa0_4_3e8_5, fa0_4_3e8_6, fa0_4_3e9_5, fa0_4_3e9_6, fa0_4_3e10_5, fa0_4_3e10_6, fa0_4_3e11_5, fa0_4_3e11_6, fa0_4_3e12_5, fa0_4_3e12_6, fa0_4_3e13_5, fa0_4_3e13_6, fa0_4_3e14_5, fa0_4_3e14_6, fa0_4_3e15_5, fa0_4_3e15_6] : List (Nat → Int32)).getD i9 (fun _ => 0)), ⟨l22f_a0_1_1, u22f_a0_1_1⟩, ⟨ba0_4_0_l, ba0_4_0_u⟩, ⟨ba0_4_2_l, ba0_4_2_u⟩, ⟨ba0_4_3e0_1_l, ba0_4_3e0_1_u⟩, ⟨ba0_4_3e1_1_l, ba0_4_3e1_1_u⟩, ⟨ba0_4_3e2_1_l, ba0_4_3e2_1_u⟩, ⟨ba0_4_3e3_1_l, ba0_4_3e3_1_u⟩, ⟨ba0_4_3e4_1_l, ba0_4_3e4_1_u⟩, ⟨ba0_4_3e5_1_l, ba0_4_3e5_1_u⟩, ⟨ba0_4_3e6_1_l, ba0_4_3e6_1_u⟩, ⟨ba0_4_3e7_1_l, ba0_4_3e7_1_u⟩, ⟨ba0_4_3e8_1_l, ba0_4_3e8_1_u⟩, ⟨ba0_4_3e9_1_l, ba0_4_3e9_1_u⟩, ⟨ba0_4_3e10_1_l, ba0_4_3e10_1_u⟩, ⟨ba0_4_3e11_1_l, ba0_4_3e11_1_u⟩, ⟨ba0_4_3e12_1_l, ba0_4_3e12_1_u⟩, ⟨ba0_4_3e13_1_l, ba0_4_3e13_1_u⟩, ⟨ba0_4_3e14_1_l, ba0_4_3e14_1_u⟩, ⟨ba0_4_3e15_1_l, ba0_4_3e15_1_u⟩, (show v37na0_8.toInt ≠ 4 from (by first | assumption | decide | omega)), by rw [ht]; exact hP, va_K.moved hW.alike hK, hD⟩, hS.F ht⟩) hS.2.2 dX7_wind_40
  · subst hw
    refine lv_if_ne (tgt := 14) hx hb dX7_wind_5 (by decide) (fun c5 => absurd (by decide +kernel) c5) (fun _ => ?_)
    refine lv_aload_n hx hb dX7_wind_8 rfl (lv_at hl 0 rfl) ?_
    refine lv_iconst (v := 1) hx hb dX7_wind_9 zk_iconst_1 ?_
    refine va_calli (va_runV (As := [.int 1]) (rest := []) ⟨hx, hb, hml, hown, hts⟩ (c_X7_refused l dC dI H.size a0 1 a0g_0 (.ref a0_1) a0g_2 a0g_3 (.ref a0_4) a0g_5 a0g_6 (.ref a0_7) a0g_9 a0g_10 a0_8 (Int.le_trans zq4 zq1) (Int.le_trans zq0 zq69)) (cwV 1 hts gX7_wind_X7_refused rfl rfl rfl zd_X7_refused ⟨Nat.le_of_ble_eq_true rfl, Nat.le_of_ble_eq_true rfl⟩) ⟨ax_blind (fun _ _ _ _ _ => trivial), zr_7 (zp_K hK) (zp_P1 hP) (q0 := 0) rfl, ax_pre (zp_P1 hP) (zp_K hK) (zp_D1 hD) (fun _ _ => trivial)⟩ rfl rfl hl.1 rfl (lv_room (Nat.le_of_ble_eq_true rfl)) dX7_wind_10 ⟨Nat.le_of_ble_eq_true rfl, Nat.le_of_ble_eq_true rfl⟩) hS (fun q _ h => zp_F1 hD hS hA q h) (zp_F1 hD hS hA) (fun r10 u t H locs ht hvm hw => zx_1 (fun v10na0_8 => zy_1 (fun hraw10_0 hB hz1 hk1 hS1 => zo1 hB ht hP hD hk1 (zp_F1 hD hS hA) hS1 (fun hP hK1 hD hS => ?_))))
    have hw : r10 = (-1) := hw
    have hw := hw.symm
    subst hw
    exact W.iret (v := (-1)) hx hb hr (fun t ht hW => ⟨⟨(-1), (), rfl, ⟨zq71, (Int.le_trans zq72 zq73)⟩, (fun i9 => ([v10na0_8, a0_1_1, a0_1_2, a0_4_0, a0_4_2, a0_4_3e0_0, a0_4_3e0_1, a0_4_3e0_2, a0_4_3e0_3, a0_4_3e0_4, a0_4_3e1_0, a0_4_3e1_1, a0_4_3e1_2, a0_4_3e1_3, a0_4_3e1_4, a0_4_3e2_0, a0_4_3e2_1, a0_4_3e2_2, a0_4_3e2_3, a0_4_3e2_4, a0_4_3e3_0, a0_4_3e3_1, a0_4_3e3_2, a0_4_3e3_3, a0_4_3e3_4, a0_4_3e4_0, a0_4_3e4_1, a0_4_3e4_2, a0_4_3e4_3, a0_4_3e4_4, a0_4_3e5_0, a0_4_3e5_1, a0_4_3e5_2, a0_4_3e5_3, a0_4_3e5_4, a0_4_3e6_0, a0_4_3e6_1, a0_4_3e6_2, a0_4_3e6_3, a0_4_3e6_4, a0_4_3e7_0, a0_4_3e7_1, a0_4_3e7_2, a0_4_3e7_3, a0_4_3e7_4, a0_4_3e8_0, a0_4_3e8_1, a0_4_3e8_2, a0_4_3e8_3, a0_4_3e8_4, a0_4_3e9_0, a0_4_3e9_1, a0_4_3e9_2, a0_4_3e9_3, a0_4_3e9_4, a0_4_3e10_0, a0_4_3e10_1, a0_4_3e10_2, a0_4_3e10_3, a0_4_3e10_4, a0_4_3e11_0, a0_4_3e11_1, a0_4_3e11_2, a0_4_3e11_3, a0_4_3e11_4, a0_4_3e12_0, a0_4_3e12_1, a0_4_3e12_2, a0_4_3e12_3, a0_4_3e12_4, a0_4_3e13_0, a0_4_3e13_1, a0_4_3e13_2, a0_4_3e13_3, a0_4_3e13_4, a0_4_3e14_0, a0_4_3e14_1, a0_4_3e14_2, a0_4_3e14_3, a0_4_3e14_4, a0_4_3e15_0, a0_4_3e15_1, a0_4_3e15_2, a0_4_3e15_3, a0_4_3e15_4] : List Int32).getD i9 0), (fun i9 => ([fa0_4_3e0_5, fa0_4_3e0_6, fa0_4_3e1_5, fa0_4_3e1_6, fa0_4_3e2_5, fa0_4_3e2_6, fa0_4_3e3_5, fa0_4_3e3_6, fa0_4_3e4_5, fa0_4_3e4_6, fa0_4_3e5_5, fa0_4_3e5_6, fa0_4_3e6_5, fa0_4_3e6_6, fa0_4_3e7_5, fa0_4_3e7_6, fa0_4_3e8_5, fa0_4_3e8_6, fa0_4_3e9_5, fa0_4_3e9_6, fa0_4_3e10_5, fa0_4_3e10_6, fa0_4_3e11_5, fa0_4_3e11_6, fa0_4_3e12_5, fa0_4_3e12_6, fa0_4_3e13_5, fa0_4_3e13_6, fa0_4_3e14_5, fa0_4_3e14_6, fa0_4_3e15_5, fa0_4_3e15_6] : List (Nat → Int32)).getD i9 (fun _ => 0)), ⟨ba0_1_1_l, ba0_1_1_u⟩, ⟨ba0_4_0_l, ba0_4_0_u⟩, ⟨ba0_4_2_l, ba0_4_2_u⟩, ⟨ba0_4_3e0_1_l, ba0_4_3e0_1_u⟩, ⟨ba0_4_3e1_1_l, ba0_4_3e1_1_u⟩, ⟨ba0_4_3e2_1_l, ba0_4_3e2_1_u⟩, ⟨ba0_4_3e3_1_l, ba0_4_3e3_1_u⟩, ⟨ba0_4_3e4_1_l, ba0_4_3e4_1_u⟩, ⟨ba0_4_3e5_1_l, ba0_4_3e5_1_u⟩, ⟨ba0_4_3e6_1_l, ba0_4_3e6_1_u⟩, ⟨ba0_4_3e7_1_l, ba0_4_3e7_1_u⟩, ⟨ba0_4_3e8_1_l, ba0_4_3e8_1_u⟩, ⟨ba0_4_3e9_1_l, ba0_4_3e9_1_u⟩, ⟨ba0_4_3e10_1_l, ba0_4_3e10_1_u⟩, ⟨ba0_4_3e11_1_l, ba0_4_3e11_1_u⟩, ⟨ba0_4_3e12_1_l, ba0_4_3e12_1_u⟩, ⟨ba0_4_3e13_1_l, ba0_4_3e13_1_u⟩, ⟨ba0_4_3e14_1_l, ba0_4_3e14_1_u⟩, ⟨ba0_4_3e15_1_l, ba0_4_3e15_1_u⟩, (show v10na0_8.toInt ≠ 4 from (by first | assumption | decide | omega)), by rw [ht]; exact hP, va_K.moved hW.alike hK, hD⟩, hS.F ht⟩) hS.2.2 dX7_wind_13
end P127_safe
section P128_safe
set_option maxHeartbeats 4000000 in
set_option maxRecDepth 100000 in
set_option maxHeartbeats 4000000 in
set_option maxRecDepth 100000 in
theorem c_X7_undo (l : Launch) (dC : Nat → ClassId) (dI : Nat → Nat → Nat) (sz : Nat) (a0 : Nat) (a0g_0 a0g_2 a0g_3 a0g_5 a0g_6 a0g_7 a0g_9 a0g_10 : Value) (a0_1 : Nat) (a0_4 : Nat) (a0_8 : Int32) (a0_4_0 : Int32) (a0_4g_1 a0_4g_4 : Value) (a0_4_2 : Int32) (a0_4_3 : Nat) (ka0_4_3 : ClassId) (a0_4_3e0 : Nat) (a0_4_3e1 : Nat) (a0_4_3e2 : Nat) (a0_4_3e3 : Nat) (a0_4_3e4 : Nat) (a0_4_3e5 : Nat) (a0_4_3e6 : Nat) (a0_4_3e7 : Nat) (a0_4_3e8 : Nat) (a0_4_3e9 : Nat) (a0_4_3e10 : Nat) (a0_4_3e11 : Nat) (a0_4_3e12 : Nat) (a0_4_3e13 : Nat) (a0_4_3e14 : Nat) (a0_4_3e15 : Nat) (a0_1_0 : Int32) (a0_1_1 : Int32) (a0_1_2 : Int32) (a0_1_3 : Int32) (a0_1_4 : Int32) (a0_1_5 : Nat) (a0_1_6 : Nat) (a0_4_3e0_0 : Int32) (a0_4_3e0_1 : Int32) (a0_4_3e0_2 : Int32) (a0_4_3e0_3 : Int32) (a0_4_3e0_4 : Int32) (a0_4_3e0_5 : Nat) (a0_4_3e0_6 : Nat) (ka0_4_3e0_5 : ClassId) (fa0_4_3e0_5 : Nat → Int32) (ka0_1_5 : ClassId) (fa0_1_5 : Nat → Int32) (ka0_4_3e0_6 : ClassId) (fa0_4_3e0_6 : Nat → Int32) (ka0_1_6 : ClassId) (fa0_1_6 : Nat → Int32) (a0_4_3e1_0 : Int32) (a0_4_3e1_1 : Int32) (a0_4_3e1_2 : Int32) (a0_4_3e1_3 : Int32) (a0_4_3e1_4 : Int32) (a0_4_3e1_5 : Nat) (a0_4_3e1_6 : Nat) (ka0_4_3e1_5 : ClassId) (fa0_4_3e1_5 : Nat → Int32) (ka0_4_3e1_6 : ClassId) (fa0_4_3e1_6 : Nat → Int32) (a0_4_3e2_0 : Int32) (a0_4_3e2_1 : Int32) (a0_4_3e2_2 : Int32) (a0_4_3e2_3 : Int32) (a0_4_3e2_4 : Int32) (a0_4_3e2_5 : Nat) (a0_4_3e2_6 : Nat) (ka0_4_3e2_5 : ClassId) (fa0_4_3e2_5 : Nat → Int32) (ka0_4_3e2_6 : ClassId) (fa0_4_3e2_6 : Nat → Int32) (a0_4_3e3_0 : Int32) (a0_4_3e3_1 : Int32) (a0_4_3e3_2 : Int32) (a0_4_3e3_3 : Int32) (a0_4_3e3_4 : Int32) (a0_4_3e3_5 : Nat) (a0_4_3e3_6 : Nat) (ka0_4_3e3_5 : ClassId) (fa0_4_3e3_5 : Nat → Int32) (ka0_4_3e3_6 : ClassId) (fa0_4_3e3_6 : Nat → Int32) (a0_4_3e4_0 : Int32) (a0_4_3e4_1 : Int32) (a0_4_3e4_2 : Int32) (a0_4_3e4_3 : Int32) (a0_4_3e4_4 : Int32) (a0_4_3e4_5 : Nat) (a0_4_3e4_6 : Nat) (ka0_4_3e4_5 : ClassId) (fa0_4_3e4_5 : Nat → Int32) (ka0_4_3e4_6 : ClassId) (fa0_4_3e4_6 : Nat → Int32) (a0_4_3e5_0 : Int32) (a0_4_3e5_1 : Int32) (a0_4_3e5_2 : Int32) (a0_4_3e5_3 : Int32) (a0_4_3e5_4 : Int32) (a0_4_3e5_5 : Nat) (a0_4_3e5_6 : Nat) (ka0_4_3e5_5 : ClassId) (fa0_4_3e5_5 : Nat → Int32) (ka0_4_3e5_6 : ClassId) (fa0_4_3e5_6 : Nat → Int32) (a0_4_3e6_0 : Int32) (a0_4_3e6_1 : Int32) (a0_4_3e6_2 : Int32) (a0_4_3e6_3 : Int32) (a0_4_3e6_4 : Int32) (a0_4_3e6_5 : Nat) (a0_4_3e6_6 : Nat) (ka0_4_3e6_5 : ClassId) (fa0_4_3e6_5 : Nat → Int32) (ka0_4_3e6_6 : ClassId) (fa0_4_3e6_6 : Nat → Int32) (a0_4_3e7_0 : Int32) (a0_4_3e7_1 : Int32) (a0_4_3e7_2 : Int32) (a0_4_3e7_3 : Int32) (a0_4_3e7_4 : Int32) (a0_4_3e7_5 : Nat) (a0_4_3e7_6 : Nat) (ka0_4_3e7_5 : ClassId) (fa0_4_3e7_5 : Nat → Int32) (ka0_4_3e7_6 : ClassId) (fa0_4_3e7_6 : Nat → Int32) (a0_4_3e8_0 : Int32) (a0_4_3e8_1 : Int32) (a0_4_3e8_2 : Int32) (a0_4_3e8_3 : Int32) (a0_4_3e8_4 : Int32) (a0_4_3e8_5 : Nat) (a0_4_3e8_6 : Nat) (ka0_4_3e8_5 : ClassId) (fa0_4_3e8_5 : Nat → Int32) (ka0_4_3e8_6 : ClassId) (fa0_4_3e8_6 : Nat → Int32) (a0_4_3e9_0 : Int32) (a0_4_3e9_1 : Int32) (a0_4_3e9_2 : Int32) (a0_4_3e9_3 : Int32) (a0_4_3e9_4 : Int32) (a0_4_3e9_5 : Nat) (a0_4_3e9_6 : Nat) (ka0_4_3e9_5 : ClassId) (fa0_4_3e9_5 : Nat → Int32) (ka0_4_3e9_6 : ClassId) (fa0_4_3e9_6 : Nat → Int32) (a0_4_3e10_0 : Int32) (a0_4_3e10_1 : Int32) (a0_4_3e10_2 : Int32) (a0_4_3e10_3 : Int32) (a0_4_3e10_4 : Int32) (a0_4_3e10_5 : Nat) (a0_4_3e10_6 : Nat) (ka0_4_3e10_5 : ClassId) (fa0_4_3e10_5 : Nat → Int32) (ka0_4_3e10_6 : ClassId) (fa0_4_3e10_6 : Nat → Int32) (a0_4_3e11_0 : Int32) (a0_4_3e11_1 : Int32) (a0_4_3e11_2 : Int32) (a0_4_3e11_3 : Int32) (a0_4_3e11_4 : Int32) (a0_4_3e11_5 : Nat) (a0_4_3e11_6 : Nat) (ka0_4_3e11_5 : ClassId) (fa0_4_3e11_5 : Nat → Int32) (ka0_4_3e11_6 : ClassId) (fa0_4_3e11_6 : Nat → Int32) (a0_4_3e12_0 : Int32) (a0_4_3e12_1 : Int32) (a0_4_3e12_2 : Int32) (a0_4_3e12_3 : Int32) (a0_4_3e12_4 : Int32) (a0_4_3e12_5 : Nat) (a0_4_3e12_6 : Nat) (ka0_4_3e12_5 : ClassId) (fa0_4_3e12_5 : Nat → Int32) (ka0_4_3e12_6 : ClassId) (fa0_4_3e12_6 : Nat → Int32) (a0_4_3e13_0 : Int32) (a0_4_3e13_1 : Int32) (a0_4_3e13_2 : Int32) (a0_4_3e13_3 : Int32) (a0_4_3e13_4 : Int32) (a0_4_3e13_5 : Nat) (a0_4_3e13_6 : Nat) (ka0_4_3e13_5 : ClassId) (fa0_4_3e13_5 : Nat → Int32) (ka0_4_3e13_6 : ClassId) (fa0_4_3e13_6 : Nat → Int32) (a0_4_3e14_0 : Int32) (a0_4_3e14_1 : Int32) (a0_4_3e14_2 : Int32) (a0_4_3e14_3 : Int32) (a0_4_3e14_4 : Int32) (a0_4_3e14_5 : Nat) (a0_4_3e14_6 : Nat) (ka0_4_3e14_5 : ClassId) (fa0_4_3e14_5 : Nat → Int32) (ka0_4_3e14_6 : ClassId) (fa0_4_3e14_6 : Nat → Int32) (a0_4_3e15_0 : Int32) (a0_4_3e15_1 : Int32) (a0_4_3e15_2 : Int32) (a0_4_3e15_3 : Int32) (a0_4_3e15_4 : Int32) (a0_4_3e15_5 : Nat) (a0_4_3e15_6 : Nat) (ka0_4_3e15_5 : ClassId) (fa0_4_3e15_5 : Nat → Int32) (ka0_4_3e15_6 : ClassId) (fa0_4_3e15_6 : Nat → Int32) (ba0_4_0_l : (0 : Int) ≤ a0_4_0.toInt) (ba0_4_0_u : a0_4_0.toInt ≤ (16 : Int)) (ba0_4_2_l : (0 : Int) ≤ a0_4_2.toInt) (ba0_4_2_u : a0_4_2.toInt ≤ (15 : Int)) (ba0_1_1_l : (0 : Int) ≤ a0_1_1.toInt) (ba0_1_1_u : a0_1_1.toInt ≤ (8 : Int)) (ba0_4_3e0_1_l : (0 : Int) ≤ a0_4_3e0_1.toInt) (ba0_4_3e0_1_u : a0_4_3e0_1.toInt ≤ (8 : Int)) (ba0_4_3e1_1_l : (0 : Int) ≤ a0_4_3e1_1.toInt) (ba0_4_3e1_1_u : a0_4_3e1_1.toInt ≤ (8 : Int)) (ba0_4_3e2_1_l : (0 : Int) ≤ a0_4_3e2_1.toInt) (ba0_4_3e2_1_u : a0_4_3e2_1.toInt ≤ (8 : Int)) (ba0_4_3e3_1_l : (0 : Int) ≤ a0_4_3e3_1.toInt) (ba0_4_3e3_1_u : a0_4_3e3_1.toInt ≤ (8 : Int)) (ba0_4_3e4_1_l : (0 : Int) ≤ a0_4_3e4_1.toInt) (ba0_4_3e4_1_u : a0_4_3e4_1.toInt ≤ (8 : Int)) (ba0_4_3e5_1_l : (0 : Int) ≤ a0_4_3e5_1.toInt) (ba0_4_3e5_1_u : a0_4_3e5_1.toInt ≤ (8 : Int)) (ba0_4_3e6_1_l : (0 : Int) ≤ a0_4_3e6_1.toInt) (ba0_4_3e6_1_u : a0_4_3e6_1.toInt ≤ (8 : Int)) (ba0_4_3e7_1_l : (0 : Int) ≤ a0_4_3e7_1.toInt) (ba0_4_3e7_1_u : a0_4_3e7_1.toInt ≤ (8 : Int)) (ba0_4_3e8_1_l : (0 : Int) ≤ a0_4_3e8_1.toInt) (ba0_4_3e8_1_u : a0_4_3e8_1.toInt ≤ (8 : Int)) (ba0_4_3e9_1_l : (0 : Int) ≤ a0_4_3e9_1.toInt) (ba0_4_3e9_1_u : a0_4_3e9_1.toInt ≤ (8 : Int)) (ba0_4_3e10_1_l : (0 : Int) ≤ a0_4_3e10_1.toInt) (ba0_4_3e10_1_u : a0_4_3e10_1.toInt ≤ (8 : Int)) (ba0_4_3e11_1_l : (0 : Int) ≤ a0_4_3e11_1.toInt) (ba0_4_3e11_1_u : a0_4_3e11_1.toInt ≤ (8 : Int)) (ba0_4_3e12_1_l : (0 : Int) ≤ a0_4_3e12_1.toInt) (ba0_4_3e12_1_u : a0_4_3e12_1.toInt ≤ (8 : Int)) (ba0_4_3e13_1_l : (0 : Int) ≤ a0_4_3e13_1.toInt) (ba0_4_3e13_1_u : a0_4_3e13_1.toInt ≤ (8 : Int)) (ba0_4_3e14_1_l : (0 : Int) ≤ a0_4_3e14_1.toInt) (ba0_4_3e14_1_u : a0_4_3e14_1.toInt ≤ (8 : Int)) (ba0_4_3e15_1_l : (0 : Int) ≤ a0_4_3e15_1.toInt) (ba0_4_3e15_1_u : a0_4_3e15_1.toInt ≤ (8 : Int)) : zm l yX7_undo wsX7_undo ({ frames := 2, cells := 0, slots := 0, locals := 43 }) [.ref a0] dC dI sz [(a0, .inr (7, [a0g_0, .ref a0_1, a0g_2, a0g_3, .ref a0_4, a0g_5, a0g_6, a0g_7, .int a0_8, a0g_9, a0g_10])), (a0_4, .inr (1, [.int a0_4_0, a0_4g_1, .int a0_4_2, .ref a0_4_3, a0_4g_4])), (a0_4_3, .inl (ka0_4_3, 16, .inr (.inr (.inr (.inr (fun i9 => ([some a0_4_3e0, some a0_4_3e1, some a0_4_3e2, some a0_4_3e3, some a0_4_3e4, some a0_4_3e5, some a0_4_3e6, some a0_4_3e7, some a0_4_3e8, some a0_4_3e9, some a0_4_3e10, some a0_4_3e11, some a0_4_3e12, some a0_4_3e13, some a0_4_3e14, some a0_4_3e15] : List (Option Nat)).getD i9 none)))))), (a0_1, .inr (5, [.int a0_1_0, .int a0_1_1, .int a0_1_2, .int a0_1_3, .int a0_1_4, .ref a0_1_5, .ref a0_1_6])), (a0_4_3e0, .inr (5, [.int a0_4_3e0_0, .int a0_4_3e0_1, .int a0_4_3e0_2, .int a0_4_3e0_3, .int a0_4_3e0_4, .ref a0_4_3e0_5, .ref a0_4_3e0_6])), (a0_4_3e0_5, .inl (ka0_4_3e0_5, 9, .inl (fa0_4_3e0_5))), (a0_1_5, .inl (ka0_1_5, 9, .inl (fa0_1_5))), (a0_4_3e0_6, .inl (ka0_4_3e0_6, 9, .inl (fa0_4_3e0_6))), (a0_1_6, .inl (ka0_1_6, 9, .inl (fa0_1_6))), (a0_4_3e1, .inr (5, [.int a0_4_3e1_0, .int a0_4_3e1_1, .int a0_4_3e1_2, .int a0_4_3e1_3, .int a0_4_3e1_4, .ref a0_4_3e1_5, .ref a0_4_3e1_6])), (a0_4_3e1_5, .inl (ka0_4_3e1_5, 9, .inl (fa0_4_3e1_5))), (a0_4_3e1_6, .inl (ka0_4_3e1_6, 9, .inl (fa0_4_3e1_6))), (a0_4_3e2, .inr (5, [.int a0_4_3e2_0, .int a0_4_3e2_1, .int a0_4_3e2_2, .int a0_4_3e2_3, .int a0_4_3e2_4, .ref a0_4_3e2_5, .ref a0_4_3e2_6])), (a0_4_3e2_5, .inl (ka0_4_3e2_5, 9, .inl (fa0_4_3e2_5))), (a0_4_3e2_6, .inl (ka0_4_3e2_6, 9, .inl (fa0_4_3e2_6))), (a0_4_3e3, .inr (5, [.int a0_4_3e3_0, .int a0_4_3e3_1, .int a0_4_3e3_2, .int a0_4_3e3_3, .int a0_4_3e3_4, .ref a0_4_3e3_5, .ref a0_4_3e3_6])), (a0_4_3e3_5, .inl (ka0_4_3e3_5, 9, .inl (fa0_4_3e3_5))), (a0_4_3e3_6, .inl (ka0_4_3e3_6, 9, .inl (fa0_4_3e3_6))), (a0_4_3e4, .inr (5, [.int a0_4_3e4_0, .int a0_4_3e4_1, .int a0_4_3e4_2, .int a0_4_3e4_3, .int a0_4_3e4_4, .ref a0_4_3e4_5, .ref a0_4_3e4_6])), (a0_4_3e4_5, .inl (ka0_4_3e4_5, 9, .inl (fa0_4_3e4_5))), (a0_4_3e4_6, .inl (ka0_4_3e4_6, 9, .inl (fa0_4_3e4_6))), (a0_4_3e5, .inr (5, [.int a0_4_3e5_0, .int a0_4_3e5_1, .int a0_4_3e5_2, .int a0_4_3e5_3, .int a0_4_3e5_4, .ref a0_4_3e5_5, .ref a0_4_3e5_6])), (a0_4_3e5_5, .inl (ka0_4_3e5_5, 9, .inl (fa0_4_3e5_5))), (a0_4_3e5_6, .inl (ka0_4_3e5_6, 9, .inl (fa0_4_3e5_6))), (a0_4_3e6, .inr (5, [.int a0_4_3e6_0, .int a0_4_3e6_1, .int a0_4_3e6_2, .int a0_4_3e6_3, .int a0_4_3e6_4, .ref a0_4_3e6_5, .ref a0_4_3e6_6])), (a0_4_3e6_5, .inl (ka0_4_3e6_5, 9, .inl (fa0_4_3e6_5))), (a0_4_3e6_6, .inl (ka0_4_3e6_6, 9, .inl (fa0_4_3e6_6))), (a0_4_3e7, .inr (5, [.int a0_4_3e7_0, .int a0_4_3e7_1, .int a0_4_3e7_2, .int a0_4_3e7_3, .int a0_4_3e7_4, .ref a0_4_3e7_5, .ref a0_4_3e7_6])), (a0_4_3e7_5, .inl (ka0_4_3e7_5, 9, .inl (fa0_4_3e7_5))), (a0_4_3e7_6, .inl (ka0_4_3e7_6, 9, .inl (fa0_4_3e7_6))), (a0_4_3e8, .inr (5, [.int a0_4_3e8_0, .int a0_4_3e8_1, .int a0_4_3e8_2, .int a0_4_3e8_3, .int a0_4_3e8_4, .ref a0_4_3e8_5, .ref a0_4_3e8_6])), (a0_4_3e8_5, .inl (ka0_4_3e8_5, 9, .inl (fa0_4_3e8_5))), (a0_4_3e8_6, .inl (ka0_4_3e8_6, 9, .inl (fa0_4_3e8_6))), (a0_4_3e9, .inr (5, [.int a0_4_3e9_0, .int a0_4_3e9_1, .int a0_4_3e9_2, .int a0_4_3e9_3, .int a0_4_3e9_4, .ref a0_4_3e9_5, .ref a0_4_3e9_6])), (a0_4_3e9_5, .inl (ka0_4_3e9_5, 9, .inl (fa0_4_3e9_5))), (a0_4_3e9_6, .inl (ka0_4_3e9_6, 9, .inl (fa0_4_3e9_6))), (a0_4_3e10, .inr (5, [.int a0_4_3e10_0, .int a0_4_3e10_1, .int a0_4_3e10_2, .int a0_4_3e10_3, .int a0_4_3e10_4, .ref a0_4_3e10_5, .ref a0_4_3e10_6])), (a0_4_3e10_5, .inl (ka0_4_3e10_5, 9, .inl (fa0_4_3e10_5))), (a0_4_3e10_6, .inl (ka0_4_3e10_6, 9, .inl (fa0_4_3e10_6))), (a0_4_3e11, .inr (5, [.int a0_4_3e11_0, .int a0_4_3e11_1, .int a0_4_3e11_2, .int a0_4_3e11_3, .int a0_4_3e11_4, .ref a0_4_3e11_5, .ref a0_4_3e11_6])), (a0_4_3e11_5, .inl (ka0_4_3e11_5, 9, .inl (fa0_4_3e11_5))), (a0_4_3e11_6, .inl (ka0_4_3e11_6, 9, .inl (fa0_4_3e11_6))), (a0_4_3e12, .inr (5, [.int a0_4_3e12_0, .int a0_4_3e12_1, .int a0_4_3e12_2, .int a0_4_3e12_3, .int a0_4_3e12_4, .ref a0_4_3e12_5, .ref a0_4_3e12_6])), (a0_4_3e12_5, .inl (ka0_4_3e12_5, 9, .inl (fa0_4_3e12_5))), (a0_4_3e12_6, .inl (ka0_4_3e12_6, 9, .inl (fa0_4_3e12_6))), (a0_4_3e13, .inr (5, [.int a0_4_3e13_0, .int a0_4_3e13_1, .int a0_4_3e13_2, .int a0_4_3e13_3, .int a0_4_3e13_4, .ref a0_4_3e13_5, .ref a0_4_3e13_6])), (a0_4_3e13_5, .inl (ka0_4_3e13_5, 9, .inl (fa0_4_3e13_5))), (a0_4_3e13_6, .inl (ka0_4_3e13_6, 9, .inl (fa0_4_3e13_6))), (a0_4_3e14, .inr (5, [.int a0_4_3e14_0, .int a0_4_3e14_1, .int a0_4_3e14_2, .int a0_4_3e14_3, .int a0_4_3e14_4, .ref a0_4_3e14_5, .ref a0_4_3e14_6])), (a0_4_3e14_5, .inl (ka0_4_3e14_5, 9, .inl (fa0_4_3e14_5))), (a0_4_3e14_6, .inl (ka0_4_3e14_6, 9, .inl (fa0_4_3e14_6))), (a0_4_3e15, .inr (5, [.int a0_4_3e15_0, .int a0_4_3e15_1, .int a0_4_3e15_2, .int a0_4_3e15_3, .int a0_4_3e15_4, .ref a0_4_3e15_5, .ref a0_4_3e15_6])), (a0_4_3e15_5, .inl (ka0_4_3e15_5, 9, .inl (fa0_4_3e15_5))), (a0_4_3e15_6, .inl (ka0_4_3e15_6, 9, .inl (fa0_4_3e15_6)))] [(ka0_4_3, (.object RX5)), (ka0_4_3e0_5, .int), (ka0_1_5, .int), (ka0_4_3e0_6, .int), (ka0_1_6, .int), (ka0_4_3e1_5, .int), (ka0_4_3e1_6, .int), (ka0_4_3e2_5, .int), (ka0_4_3e2_6, .int), (ka0_4_3e3_5, .int), (ka0_4_3e3_6, .int), (ka0_4_3e4_5, .int), (ka0_4_3e4_6, .int), (ka0_4_3e5_5, .int), (ka0_4_3e5_6, .int), (ka0_4_3e6_5, .int), (ka0_4_3e6_6, .int), (ka0_4_3e7_5, .int), (ka0_4_3e7_6, .int), (ka0_4_3e8_5, .int), (ka0_4_3e8_6, .int), (ka0_4_3e9_5, .int), (ka0_4_3e9_6, .int), (ka0_4_3e10_5, .int), (ka0_4_3e10_6, .int), (ka0_4_3e11_5, .int), (ka0_4_3e11_6, .int), (ka0_4_3e12_5, .int), (ka0_4_3e12_6, .int), (ka0_4_3e13_5, .int), (ka0_4_3e13_6, .int), (ka0_4_3e14_5, .int), (ka0_4_3e14_6, .int), (ka0_4_3e15_5, .int), (ka0_4_3e15_6, .int)] (fun A _ => True) (fun A => va_Qi (fun (r : Int32) (_ : Unit) => (r = 1) ∨ (r = 0)) (fun (_ : Unit) (t : State) => ∃ na0_8 : Int32, ∃ na0_4_0 : Int32, ∃ na0_4_2 : Int32, ∃ na0_1_0 : Int32, ∃ na0_1_1 : Int32, ∃ na0_1_2 : Int32, ∃ na0_1_3 : Int32, ∃ na0_1_4 : Int32, ∃ nfa0_1_5 : Nat → Int32, ∃ nfa0_1_6 : Nat → Int32, ((0 : Int) ≤ na0_4_0.toInt ∧ na0_4_0.toInt ≤ 16) ∧ ((0 : Int) ≤ na0_4_2.toInt ∧ na0_4_2.toInt ≤ 15) ∧ ((0 : Int) ≤ na0_1_1.toInt ∧ na0_1_1.toInt ≤ 8) ∧ na0_8.toInt ≠ 4 ∧ ax_B dC dI A [(a0, .inr (7, [a0g_0, .ref a0_1, a0g_2, a0g_3, .ref a0_4, a0g_5, a0g_6, a0g_7, .int na0_8, a0g_9, a0g_10])), (a0_4, .inr (1, [.int na0_4_0, a0_4g_1, .int na0_4_2, .ref a0_4_3, a0_4g_4])), (a0_4_3, .inl (ka0_4_3, 16, .inr (.inr (.inr (.inr (fun i9 => ([some a0_4_3e0, some a0_4_3e1, some a0_4_3e2, some a0_4_3e3, some a0_4_3e4, some a0_4_3e5, some a0_4_3e6, some a0_4_3e7, some a0_4_3e8, some a0_4_3e9, some a0_4_3e10, some a0_4_3e11, some a0_4_3e12, some a0_4_3e13, some a0_4_3e14, some a0_4_3e15] : List (Option Nat)).getD i9 none)))))), (a0_1, .inr (5, [.int na0_1_0, .int na0_1_1, .int na0_1_2, .int na0_1_3, .int na0_1_4, .ref a0_1_5, .ref a0_1_6])), (a0_4_3e0, .inr (5, [.int a0_4_3e0_0, .int a0_4_3e0_1, .int a0_4_3e0_2, .int a0_4_3e0_3, .int a0_4_3e0_4, .ref a0_4_3e0_5, .ref a0_4_3e0_6])), (a0_4_3e0_5, .inl (ka0_4_3e0_5, 9, .inl (fa0_4_3e0_5))), (a0_1_5, .inl (ka0_1_5, 9, .inl (nfa0_1_5))), (a0_4_3e0_6, .inl (ka0_4_3e0_6, 9, .inl (fa0_4_3e0_6))), (a0_1_6, .inl (ka0_1_6, 9, .inl (nfa0_1_6))), (a0_4_3e1, .inr (5, [.int a0_4_3e1_0, .int a0_4_3e1_1, .int a0_4_3e1_2, .int a0_4_3e1_3, .int a0_4_3e1_4, .ref a0_4_3e1_5, .ref a0_4_3e1_6])), (a0_4_3e1_5, .inl (ka0_4_3e1_5, 9, .inl (fa0_4_3e1_5))), (a0_4_3e1_6, .inl (ka0_4_3e1_6, 9, .inl (fa0_4_3e1_6))), (a0_4_3e2, .inr (5, [.int a0_4_3e2_0, .int a0_4_3e2_1, .int a0_4_3e2_2, .int a0_4_3e2_3, .int a0_4_3e2_4, .ref a0_4_3e2_5, .ref a0_4_3e2_6])), (a0_4_3e2_5, .inl (ka0_4_3e2_5, 9, .inl (fa0_4_3e2_5))), (a0_4_3e2_6, .inl (ka0_4_3e2_6, 9, .inl (fa0_4_3e2_6))), (a0_4_3e3, .inr (5, [.int a0_4_3e3_0, .int a0_4_3e3_1, .int a0_4_3e3_2, .int a0_4_3e3_3, .int a0_4_3e3_4, .ref a0_4_3e3_5, .ref a0_4_3e3_6])), (a0_4_3e3_5, .inl (ka0_4_3e3_5, 9, .inl (fa0_4_3e3_5))), (a0_4_3e3_6, .inl (ka0_4_3e3_6, 9, .inl (fa0_4_3e3_6))), (a0_4_3e4, .inr (5, [.int a0_4_3e4_0, .int a0_4_3e4_1, .int a0_4_3e4_2, .int a0_4_3e4_3, .int a0_4_3e4_4, .ref a0_4_3e4_5, .ref a0_4_3e4_6])), (a0_4_3e4_5, .inl (ka0_4_3e4_5, 9, .inl (fa0_4_3e4_5))), (a0_4_3e4_6, .inl (ka0_4_3e4_6, 9, .inl (fa0_4_3e4_6))), (a0_4_3e5, .inr (5, [.int a0_4_3e5_0, .int a0_4_3e5_1, .int a0_4_3e5_2, .int a0_4_3e5_3, .int a0_4_3e5_4, .ref a0_4_3e5_5, .ref a0_4_3e5_6])), (a0_4_3e5_5, .inl (ka0_4_3e5_5, 9, .inl (fa0_4_3e5_5))), (a0_4_3e5_6, .inl (ka0_4_3e5_6, 9, .inl (fa0_4_3e5_6))), (a0_4_3e6, .inr (5, [.int a0_4_3e6_0, .int a0_4_3e6_1, .int a0_4_3e6_2, .int a0_4_3e6_3, .int a0_4_3e6_4, .ref a0_4_3e6_5, .ref a0_4_3e6_6])), (a0_4_3e6_5, .inl (ka0_4_3e6_5, 9, .inl (fa0_4_3e6_5))), (a0_4_3e6_6, .inl (ka0_4_3e6_6, 9, .inl (fa0_4_3e6_6))), (a0_4_3e7, .inr (5, [.int a0_4_3e7_0, .int a0_4_3e7_1, .int a0_4_3e7_2, .int a0_4_3e7_3, .int a0_4_3e7_4, .ref a0_4_3e7_5, .ref a0_4_3e7_6])), (a0_4_3e7_5, .inl (ka0_4_3e7_5, 9, .inl (fa0_4_3e7_5))), (a0_4_3e7_6, .inl (ka0_4_3e7_6, 9, .inl (fa0_4_3e7_6))), (a0_4_3e8, .inr (5, [.int a0_4_3e8_0, .int a0_4_3e8_1, .int a0_4_3e8_2, .int a0_4_3e8_3, .int a0_4_3e8_4, .ref a0_4_3e8_5, .ref a0_4_3e8_6])), (a0_4_3e8_5, .inl (ka0_4_3e8_5, 9, .inl (fa0_4_3e8_5))), (a0_4_3e8_6, .inl (ka0_4_3e8_6, 9, .inl (fa0_4_3e8_6))), (a0_4_3e9, .inr (5, [.int a0_4_3e9_0, .int a0_4_3e9_1, .int a0_4_3e9_2, .int a0_4_3e9_3, .int a0_4_3e9_4, .ref a0_4_3e9_5, .ref a0_4_3e9_6])), (a0_4_3e9_5, .inl (ka0_4_3e9_5, 9, .inl (fa0_4_3e9_5))), (a0_4_3e9_6, .inl (ka0_4_3e9_6, 9, .inl (fa0_4_3e9_6))), (a0_4_3e10, .inr (5, [.int a0_4_3e10_0, .int a0_4_3e10_1, .int a0_4_3e10_2, .int a0_4_3e10_3, .int a0_4_3e10_4, .ref a0_4_3e10_5, .ref a0_4_3e10_6])), (a0_4_3e10_5, .inl (ka0_4_3e10_5, 9, .inl (fa0_4_3e10_5))), (a0_4_3e10_6, .inl (ka0_4_3e10_6, 9, .inl (fa0_4_3e10_6))), (a0_4_3e11, .inr (5, [.int a0_4_3e11_0, .int a0_4_3e11_1, .int a0_4_3e11_2, .int a0_4_3e11_3, .int a0_4_3e11_4, .ref a0_4_3e11_5, .ref a0_4_3e11_6])), (a0_4_3e11_5, .inl (ka0_4_3e11_5, 9, .inl (fa0_4_3e11_5))), (a0_4_3e11_6, .inl (ka0_4_3e11_6, 9, .inl (fa0_4_3e11_6))), (a0_4_3e12, .inr (5, [.int a0_4_3e12_0, .int a0_4_3e12_1, .int a0_4_3e12_2, .int a0_4_3e12_3, .int a0_4_3e12_4, .ref a0_4_3e12_5, .ref a0_4_3e12_6])), (a0_4_3e12_5, .inl (ka0_4_3e12_5, 9, .inl (fa0_4_3e12_5))), (a0_4_3e12_6, .inl (ka0_4_3e12_6, 9, .inl (fa0_4_3e12_6))), (a0_4_3e13, .inr (5, [.int a0_4_3e13_0, .int a0_4_3e13_1, .int a0_4_3e13_2, .int a0_4_3e13_3, .int a0_4_3e13_4, .ref a0_4_3e13_5, .ref a0_4_3e13_6])), (a0_4_3e13_5, .inl (ka0_4_3e13_5, 9, .inl (fa0_4_3e13_5))), (a0_4_3e13_6, .inl (ka0_4_3e13_6, 9, .inl (fa0_4_3e13_6))), (a0_4_3e14, .inr (5, [.int a0_4_3e14_0, .int a0_4_3e14_1, .int a0_4_3e14_2, .int a0_4_3e14_3, .int a0_4_3e14_4, .ref a0_4_3e14_5, .ref a0_4_3e14_6])), (a0_4_3e14_5, .inl (ka0_4_3e14_5, 9, .inl (fa0_4_3e14_5))), (a0_4_3e14_6, .inl (ka0_4_3e14_6, 9, .inl (fa0_4_3e14_6))), (a0_4_3e15, .inr (5, [.int a0_4_3e15_0, .int a0_4_3e15_1, .int a0_4_3e15_2, .int a0_4_3e15_3, .int a0_4_3e15_4, .ref a0_4_3e15_5, .ref a0_4_3e15_6])), (a0_4_3e15_5, .inl (ka0_4_3e15_5, 9, .inl (fa0_4_3e15_5))), (a0_4_3e15_6, .inl (ka0_4_3e15_6, 9, .inl (fa0_4_3e15_6)))] [(ka0_4_3, (.object RX5)), (ka0_4_3e0_5, .int), (ka0_1_5, .int), (ka0_4_3e0_6, .int), (ka0_1_6, .int), (ka0_4_3e1_5, .int), (ka0_4_3e1_6, .int), (ka0_4_3e2_5, .int), (ka0_4_3e2_6, .int), (ka0_4_3e3_5, .int), (ka0_4_3e3_6, .int), (ka0_4_3e4_5, .int), (ka0_4_3e4_6, .int), (ka0_4_3e5_5, .int), (ka0_4_3e5_6, .int), (ka0_4_3e6_5, .int), (ka0_4_3e6_6, .int), (ka0_4_3e7_5, .int), (ka0_4_3e7_6, .int), (ka0_4_3e8_5, .int), (ka0_4_3e8_6, .int), (ka0_4_3e9_5, .int), (ka0_4_3e9_6, .int), (ka0_4_3e10_5, .int), (ka0_4_3e10_6, .int), (ka0_4_3e11_5, .int), (ka0_4_3e11_6, .int), (ka0_4_3e12_5, .int), (ka0_4_3e12_6, .int), (ka0_4_3e13_5, .int), (ka0_4_3e13_6, .int), (ka0_4_3e14_5, .int), (ka0_4_3e14_6, .int), (ka0_4_3e15_5, .int), (ka0_4_3e15_6, .int)] t) A) := by
  refine zh (cc := cX7_undo) (maxL := 2) (ret := (some .boolean)) zn_RX7 rfl (Nat.le_of_ble_eq_true rfl) (fun p e s m below meth c A ls hx hb hml hr hts (hown : s.vm.findClass RX7 = some m.cls) hlocks hA hS hP hK hD hE (hl : lv_has ls 2 [(0, .ref a0)]) => ?_)
  refine lv_aload_n hx hb dX7_undo_0 rfl (lv_at hl 0 rfl) ?_
  refine va_get (D := (dC, dI)) (ci := 7) (v := .ref a0_4) (C := RX7) (T := TX7) (N := 11) hx hb hts zi_X7_undo_7 hown hK hP 0 rfl rfl 4 (by decide) (hts (.fieldLink RX7 36 "WaxTurns" "history" "LWaxTurns$History;") (List.mem_cons_of_mem _ (List.mem_append_left _ (List.mem_append_left _ (List.mem_append_left _ (List.mem_of_getElem? (i := 0) rfl)))))) (fun _ h9 => h9) rfl dX7_undo_1 ?_
  refine lv_aload_n hx hb dX7_undo_4 rfl (lv_at hl 0 rfl) ?_
  refine va_get (D := (dC, dI)) (ci := 7) (v := .ref a0_1) (C := RX7) (T := TX7) (N := 11) hx hb hts zi_X7_undo_7 hown hK hP 0 rfl rfl 1 (by decide) (hts (.fieldLink RX7 19 "WaxTurns" "now" "LWaxTurns$Scene;") (List.mem_cons_of_mem _ (List.mem_append_left _ (List.mem_append_left _ (List.mem_append_left _ (List.mem_of_getElem? (i := 1) rfl)))))) (fun _ h9 => h9) rfl dX7_undo_5 ?_
  refine zc_cutc (wc := [(a0_4, .inr (1, [.int a0_4_0, a0_4g_1, .int a0_4_2, .ref a0_4_3, a0_4g_4])), (a0_4_3, .inl (ka0_4_3, 16, .inr (.inr (.inr (.inr (fun i9 => ([some a0_4_3e0, some a0_4_3e1, some a0_4_3e2, some a0_4_3e3, some a0_4_3e4, some a0_4_3e5, some a0_4_3e6, some a0_4_3e7, some a0_4_3e8, some a0_4_3e9, some a0_4_3e10, some a0_4_3e11, some a0_4_3e12, some a0_4_3e13, some a0_4_3e14, some a0_4_3e15] : List (Option Nat)).getD i9 none)))))), (a0_1, .inr (5, [.int a0_1_0, .int a0_1_1, .int a0_1_2, .int a0_1_3, .int a0_1_4, .ref a0_1_5, .ref a0_1_6])), (a0_4_3e0, .inr (5, [.int a0_4_3e0_0, .int a0_4_3e0_1, .int a0_4_3e0_2, .int a0_4_3e0_3, .int a0_4_3e0_4, .ref a0_4_3e0_5, .ref a0_4_3e0_6])), (a0_4_3e0_5, .inl (ka0_4_3e0_5, 9, .inl (fa0_4_3e0_5))), (a0_1_5, .inl (ka0_1_5, 9, .inl (fa0_1_5))), (a0_4_3e0_6, .inl (ka0_4_3e0_6, 9, .inl (fa0_4_3e0_6))), (a0_1_6, .inl (ka0_1_6, 9, .inl (fa0_1_6))), (a0_4_3e1, .inr (5, [.int a0_4_3e1_0, .int a0_4_3e1_1, .int a0_4_3e1_2, .int a0_4_3e1_3, .int a0_4_3e1_4, .ref a0_4_3e1_5, .ref a0_4_3e1_6])), (a0_4_3e1_5, .inl (ka0_4_3e1_5, 9, .inl (fa0_4_3e1_5))), (a0_4_3e1_6, .inl (ka0_4_3e1_6, 9, .inl (fa0_4_3e1_6))), (a0_4_3e2, .inr (5, [.int a0_4_3e2_0, .int a0_4_3e2_1, .int a0_4_3e2_2, .int a0_4_3e2_3, .int a0_4_3e2_4, .ref a0_4_3e2_5, .ref a0_4_3e2_6])), (a0_4_3e2_5, .inl (ka0_4_3e2_5, 9, .inl (fa0_4_3e2_5))), (a0_4_3e2_6, .inl (ka0_4_3e2_6, 9, .inl (fa0_4_3e2_6))), (a0_4_3e3, .inr (5, [.int a0_4_3e3_0, .int a0_4_3e3_1, .int a0_4_3e3_2, .int a0_4_3e3_3, .int a0_4_3e3_4, .ref a0_4_3e3_5, .ref a0_4_3e3_6])), (a0_4_3e3_5, .inl (ka0_4_3e3_5, 9, .inl (fa0_4_3e3_5))), (a0_4_3e3_6, .inl (ka0_4_3e3_6, 9, .inl (fa0_4_3e3_6))), (a0_4_3e4, .inr (5, [.int a0_4_3e4_0, .int a0_4_3e4_1, .int a0_4_3e4_2, .int a0_4_3e4_3, .int a0_4_3e4_4, .ref a0_4_3e4_5, .ref a0_4_3e4_6])), (a0_4_3e4_5, .inl (ka0_4_3e4_5, 9, .inl (fa0_4_3e4_5))), (a0_4_3e4_6, .inl (ka0_4_3e4_6, 9, .inl (fa0_4_3e4_6))), (a0_4_3e5, .inr (5, [.int a0_4_3e5_0, .int a0_4_3e5_1, .int a0_4_3e5_2, .int a0_4_3e5_3, .int a0_4_3e5_4, .ref a0_4_3e5_5, .ref a0_4_3e5_6])), (a0_4_3e5_5, .inl (ka0_4_3e5_5, 9, .inl (fa0_4_3e5_5))), (a0_4_3e5_6, .inl (ka0_4_3e5_6, 9, .inl (fa0_4_3e5_6))), (a0_4_3e6, .inr (5, [.int a0_4_3e6_0, .int a0_4_3e6_1, .int a0_4_3e6_2, .int a0_4_3e6_3, .int a0_4_3e6_4, .ref a0_4_3e6_5, .ref a0_4_3e6_6])), (a0_4_3e6_5, .inl (ka0_4_3e6_5, 9, .inl (fa0_4_3e6_5))), (a0_4_3e6_6, .inl (ka0_4_3e6_6, 9, .inl (fa0_4_3e6_6))), (a0_4_3e7, .inr (5, [.int a0_4_3e7_0, .int a0_4_3e7_1, .int a0_4_3e7_2, .int a0_4_3e7_3, .int a0_4_3e7_4, .ref a0_4_3e7_5, .ref a0_4_3e7_6])), (a0_4_3e7_5, .inl (ka0_4_3e7_5, 9, .inl (fa0_4_3e7_5))), (a0_4_3e7_6, .inl (ka0_4_3e7_6, 9, .inl (fa0_4_3e7_6))), (a0_4_3e8, .inr (5, [.int a0_4_3e8_0, .int a0_4_3e8_1, .int a0_4_3e8_2, .int a0_4_3e8_3, .int a0_4_3e8_4, .ref a0_4_3e8_5, .ref a0_4_3e8_6])), (a0_4_3e8_5, .inl (ka0_4_3e8_5, 9, .inl (fa0_4_3e8_5))), (a0_4_3e8_6, .inl (ka0_4_3e8_6, 9, .inl (fa0_4_3e8_6))), (a0_4_3e9, .inr (5, [.int a0_4_3e9_0, .int a0_4_3e9_1, .int a0_4_3e9_2, .int a0_4_3e9_3, .int a0_4_3e9_4, .ref a0_4_3e9_5, .ref a0_4_3e9_6])), (a0_4_3e9_5, .inl (ka0_4_3e9_5, 9, .inl (fa0_4_3e9_5))), (a0_4_3e9_6, .inl (ka0_4_3e9_6, 9, .inl (fa0_4_3e9_6))), (a0_4_3e10, .inr (5, [.int a0_4_3e10_0, .int a0_4_3e10_1, .int a0_4_3e10_2, .int a0_4_3e10_3, .int a0_4_3e10_4, .ref a0_4_3e10_5, .ref a0_4_3e10_6])), (a0_4_3e10_5, .inl (ka0_4_3e10_5, 9, .inl (fa0_4_3e10_5))), (a0_4_3e10_6, .inl (ka0_4_3e10_6, 9, .inl (fa0_4_3e10_6))), (a0_4_3e11, .inr (5, [.int a0_4_3e11_0, .int a0_4_3e11_1, .int a0_4_3e11_2, .int a0_4_3e11_3, .int a0_4_3e11_4, .ref a0_4_3e11_5, .ref a0_4_3e11_6])), (a0_4_3e11_5, .inl (ka0_4_3e11_5, 9, .inl (fa0_4_3e11_5))), (a0_4_3e11_6, .inl (ka0_4_3e11_6, 9, .inl (fa0_4_3e11_6))), (a0_4_3e12, .inr (5, [.int a0_4_3e12_0, .int a0_4_3e12_1, .int a0_4_3e12_2, .int a0_4_3e12_3, .int a0_4_3e12_4, .ref a0_4_3e12_5, .ref a0_4_3e12_6])), (a0_4_3e12_5, .inl (ka0_4_3e12_5, 9, .inl (fa0_4_3e12_5))), (a0_4_3e12_6, .inl (ka0_4_3e12_6, 9, .inl (fa0_4_3e12_6))), (a0_4_3e13, .inr (5, [.int a0_4_3e13_0, .int a0_4_3e13_1, .int a0_4_3e13_2, .int a0_4_3e13_3, .int a0_4_3e13_4, .ref a0_4_3e13_5, .ref a0_4_3e13_6])), (a0_4_3e13_5, .inl (ka0_4_3e13_5, 9, .inl (fa0_4_3e13_5))), (a0_4_3e13_6, .inl (ka0_4_3e13_6, 9, .inl (fa0_4_3e13_6))), (a0_4_3e14, .inr (5, [.int a0_4_3e14_0, .int a0_4_3e14_1, .int a0_4_3e14_2, .int a0_4_3e14_3, .int a0_4_3e14_4, .ref a0_4_3e14_5, .ref a0_4_3e14_6])), (a0_4_3e14_5, .inl (ka0_4_3e14_5, 9, .inl (fa0_4_3e14_5))), (a0_4_3e14_6, .inl (ka0_4_3e14_6, 9, .inl (fa0_4_3e14_6))), (a0_4_3e15, .inr (5, [.int a0_4_3e15_0, .int a0_4_3e15_1, .int a0_4_3e15_2, .int a0_4_3e15_3, .int a0_4_3e15_4, .ref a0_4_3e15_5, .ref a0_4_3e15_6])), (a0_4_3e15_5, .inl (ka0_4_3e15_5, 9, .inl (fa0_4_3e15_5))), (a0_4_3e15_6, .inl (ka0_4_3e15_6, 9, .inl (fa0_4_3e15_6)))]) hP hD hS hA [1, 2, 3, 4, 5, 6, 7, 8, 9, 10, 11, 12, 13, 14, 15, 16, 17, 18, 19, 20, 21, 22, 23, 24, 25, 26, 27, 28, 29, 30, 31, 32, 33, 34, 35, 36, 37, 38, 39, 40, 41, 42, 43, 44, 45, 46, 47, 48, 49, 50, 51, 52, 53] (by decide +kernel) rfl (fun hPc hDc hFc hCc => ?_)
  have hKc := hK.sub (tys' := [(ka0_4_3, (.object RX5)), (ka0_4_3e0_5, .int), (ka0_1_5, .int), (ka0_4_3e0_6, .int), (ka0_1_6, .int), (ka0_4_3e1_5, .int), (ka0_4_3e1_6, .int), (ka0_4_3e2_5, .int), (ka0_4_3e2_6, .int), (ka0_4_3e3_5, .int), (ka0_4_3e3_6, .int), (ka0_4_3e4_5, .int), (ka0_4_3e4_6, .int), (ka0_4_3e5_5, .int), (ka0_4_3e5_6, .int), (ka0_4_3e6_5, .int), (ka0_4_3e6_6, .int), (ka0_4_3e7_5, .int), (ka0_4_3e7_6, .int), (ka0_4_3e8_5, .int), (ka0_4_3e8_6, .int), (ka0_4_3e9_5, .int), (ka0_4_3e9_6, .int), (ka0_4_3e10_5, .int), (ka0_4_3e10_6, .int), (ka0_4_3e11_5, .int), (ka0_4_3e11_6, .int), (ka0_4_3e12_5, .int), (ka0_4_3e12_6, .int), (ka0_4_3e13_5, .int), (ka0_4_3e13_6, .int), (ka0_4_3e14_5, .int), (ka0_4_3e14_6, .int), (ka0_4_3e15_5, .int), (ka0_4_3e15_6, .int)]) [0, 1, 2, 3, 4, 5, 6, 7, 8, 9, 10, 11, 12, 13, 14, 15, 16, 17, 18, 19, 20, 21, 22, 23, 24, 25, 26, 27, 28, 29, 30, 31, 32, 33, 34] rfl
  refine va_calli (va_runV (As := [.ref a0_1]) (rest := []) ⟨hx, hb, hml, hown, hts⟩ (c_X1_takeLatest l dC dI s.heap.size a0_4 a0_1 a0_4_0 a0_4g_1 a0_4g_4 a0_4_2 a0_4_3 ka0_4_3 a0_4_3e0 a0_4_3e1 a0_4_3e2 a0_4_3e3 a0_4_3e4 a0_4_3e5 a0_4_3e6 a0_4_3e7 a0_4_3e8 a0_4_3e9 a0_4_3e10 a0_4_3e11 a0_4_3e12 a0_4_3e13 a0_4_3e14 a0_4_3e15 a0_1_0 a0_1_1 a0_1_2 a0_1_3 a0_1_4 a0_1_5 a0_1_6 a0_4_3e0_0 a0_4_3e0_1 a0_4_3e0_2 a0_4_3e0_3 a0_4_3e0_4 a0_4_3e0_5 a0_4_3e0_6 ka0_4_3e0_5 fa0_4_3e0_5 ka0_1_5 fa0_1_5 ka0_4_3e0_6 fa0_4_3e0_6 ka0_1_6 fa0_1_6 a0_4_3e1_0 a0_4_3e1_1 a0_4_3e1_2 a0_4_3e1_3 a0_4_3e1_4 a0_4_3e1_5 a0_4_3e1_6 ka0_4_3e1_5 fa0_4_3e1_5 ka0_4_3e1_6 fa0_4_3e1_6 a0_4_3e2_0 a0_4_3e2_1 a0_4_3e2_2 a0_4_3e2_3 a0_4_3e2_4 a0_4_3e2_5 a0_4_3e2_6 ka0_4_3e2_5 fa0_4_3e2_5 ka0_4_3e2_6 fa0_4_3e2_6 a0_4_3e3_0 a0_4_3e3_1 a0_4_3e3_2 a0_4_3e3_3 a0_4_3e3_4 a0_4_3e3_5 a0_4_3e3_6 ka0_4_3e3_5 fa0_4_3e3_5 ka0_4_3e3_6 fa0_4_3e3_6 a0_4_3e4_0 a0_4_3e4_1 a0_4_3e4_2 a0_4_3e4_3 a0_4_3e4_4 a0_4_3e4_5 a0_4_3e4_6 ka0_4_3e4_5 fa0_4_3e4_5 ka0_4_3e4_6 fa0_4_3e4_6 a0_4_3e5_0 a0_4_3e5_1 a0_4_3e5_2 a0_4_3e5_3 a0_4_3e5_4 a0_4_3e5_5 a0_4_3e5_6 ka0_4_3e5_5 fa0_4_3e5_5 ka0_4_3e5_6 fa0_4_3e5_6 a0_4_3e6_0 a0_4_3e6_1 a0_4_3e6_2 a0_4_3e6_3 a0_4_3e6_4 a0_4_3e6_5 a0_4_3e6_6 ka0_4_3e6_5 fa0_4_3e6_5 ka0_4_3e6_6 fa0_4_3e6_6 a0_4_3e7_0 a0_4_3e7_1 a0_4_3e7_2 a0_4_3e7_3 a0_4_3e7_4 a0_4_3e7_5 a0_4_3e7_6 ka0_4_3e7_5 fa0_4_3e7_5 ka0_4_3e7_6 fa0_4_3e7_6 a0_4_3e8_0 a0_4_3e8_1 a0_4_3e8_2 a0_4_3e8_3 a0_4_3e8_4 a0_4_3e8_5 a0_4_3e8_6 ka0_4_3e8_5 fa0_4_3e8_5 ka0_4_3e8_6 fa0_4_3e8_6 a0_4_3e9_0 a0_4_3e9_1 a0_4_3e9_2 a0_4_3e9_3 a0_4_3e9_4 a0_4_3e9_5 a0_4_3e9_6 ka0_4_3e9_5 fa0_4_3e9_5 ka0_4_3e9_6 fa0_4_3e9_6 a0_4_3e10_0 a0_4_3e10_1 a0_4_3e10_2 a0_4_3e10_3 a0_4_3e10_4 a0_4_3e10_5 a0_4_3e10_6 ka0_4_3e10_5 fa0_4_3e10_5 ka0_4_3e10_6 fa0_4_3e10_6 a0_4_3e11_0 a0_4_3e11_1 a0_4_3e11_2 a0_4_3e11_3 a0_4_3e11_4 a0_4_3e11_5 a0_4_3e11_6 ka0_4_3e11_5 fa0_4_3e11_5 ka0_4_3e11_6 fa0_4_3e11_6 a0_4_3e12_0 a0_4_3e12_1 a0_4_3e12_2 a0_4_3e12_3 a0_4_3e12_4 a0_4_3e12_5 a0_4_3e12_6 ka0_4_3e12_5 fa0_4_3e12_5 ka0_4_3e12_6 fa0_4_3e12_6 a0_4_3e13_0 a0_4_3e13_1 a0_4_3e13_2 a0_4_3e13_3 a0_4_3e13_4 a0_4_3e13_5 a0_4_3e13_6 ka0_4_3e13_5 fa0_4_3e13_5 ka0_4_3e13_6 fa0_4_3e13_6 a0_4_3e14_0 a0_4_3e14_1 a0_4_3e14_2 a0_4_3e14_3 a0_4_3e14_4 a0_4_3e14_5 a0_4_3e14_6 ka0_4_3e14_5 fa0_4_3e14_5 ka0_4_3e14_6 fa0_4_3e14_6 a0_4_3e15_0 a0_4_3e15_1 a0_4_3e15_2 a0_4_3e15_3 a0_4_3e15_4 a0_4_3e15_5 a0_4_3e15_6 ka0_4_3e15_5 fa0_4_3e15_5 ka0_4_3e15_6 fa0_4_3e15_6 ba0_4_0_l ba0_4_0_u ba0_4_2_l ba0_4_2_u ba0_1_1_l ba0_1_1_u ba0_4_3e0_1_l ba0_4_3e0_1_u ba0_4_3e1_1_l ba0_4_3e1_1_u ba0_4_3e2_1_l ba0_4_3e2_1_u ba0_4_3e3_1_l ba0_4_3e3_1_u ba0_4_3e4_1_l ba0_4_3e4_1_u ba0_4_3e5_1_l ba0_4_3e5_1_u ba0_4_3e6_1_l ba0_4_3e6_1_u ba0_4_3e7_1_l ba0_4_3e7_1_u ba0_4_3e8_1_l ba0_4_3e8_1_u ba0_4_3e9_1_l ba0_4_3e9_1_u ba0_4_3e10_1_l ba0_4_3e10_1_u ba0_4_3e11_1_l ba0_4_3e11_1_u ba0_4_3e12_1_l ba0_4_3e12_1_u ba0_4_3e13_1_l ba0_4_3e13_1_u ba0_4_3e14_1_l ba0_4_3e14_1_u ba0_4_3e15_1_l ba0_4_3e15_1_u) (cwV 1 hts gX7_undo_X1_takeLatest rfl rfl rfl zd_X1_takeLatest ⟨Nat.le_of_ble_eq_true rfl, Nat.le_of_ble_eq_true rfl⟩) ⟨ax_blind (fun _ _ _ _ _ => trivial), zr_1 hKc hPc (q0 := 0) rfl, ax_pre hPc hKc hDc (fun _ _ => trivial)⟩ rfl rfl hl.1 rfl (lv_room (Nat.le_of_ble_eq_true rfl)) dX7_undo_8 ⟨Nat.le_of_ble_eq_true rfl, Nat.le_of_ble_eq_true rfl⟩) hS (fun q _ h => hFc q h) hFc (fun r8 u t H locs ht hvm hw => zx_9 (fun v8na0_0 v8na0_2 v8na1_0 v8na1_1 v8na1_2 v8na1_3 v8na1_4 v8nfa1_5 v8nfa1_6 => zy_3 (fun bv8na0_0 bv8na0_2 bv8na1_1 hB hz1 hk1 hS1 => zo hB ht hS1 (fun hP1 hK1 hD1 hS => ?_))))
  refine zc_backc (w := [(a0, .inr (7, [a0g_0, .ref a0_1, a0g_2, a0g_3, .ref a0_4, a0g_5, a0g_6, a0g_7, .int a0_8, a0g_9, a0g_10])), (a0_4, .inr (1, [.int v8na0_0, a0_4g_1, .int v8na0_2, .ref a0_4_3, a0_4g_4])), (a0_4_3, .inl (ka0_4_3, 16, .inr (.inr (.inr (.inr (fun i9 => ([some a0_4_3e0, some a0_4_3e1, some a0_4_3e2, some a0_4_3e3, some a0_4_3e4, some a0_4_3e5, some a0_4_3e6, some a0_4_3e7, some a0_4_3e8, some a0_4_3e9, some a0_4_3e10, some a0_4_3e11, some a0_4_3e12, some a0_4_3e13, some a0_4_3e14, some a0_4_3e15] : List (Option Nat)).getD i9 none)))))), (a0_1, .inr (5, [.int v8na1_0, .int v8na1_1, .int v8na1_2, .int v8na1_3, .int v8na1_4, .ref a0_1_5, .ref a0_1_6])), (a0_4_3e0, .inr (5, [.int a0_4_3e0_0, .int a0_4_3e0_1, .int a0_4_3e0_2, .int a0_4_3e0_3, .int a0_4_3e0_4, .ref a0_4_3e0_5, .ref a0_4_3e0_6])), (a0_4_3e0_5, .inl (ka0_4_3e0_5, 9, .inl (fa0_4_3e0_5))), (a0_1_5, .inl (ka0_1_5, 9, .inl (v8nfa1_5))), (a0_4_3e0_6, .inl (ka0_4_3e0_6, 9, .inl (fa0_4_3e0_6))), (a0_1_6, .inl (ka0_1_6, 9, .inl (v8nfa1_6))), (a0_4_3e1, .inr (5, [.int a0_4_3e1_0, .int a0_4_3e1_1, .int a0_4_3e1_2, .int a0_4_3e1_3, .int a0_4_3e1_4, .ref a0_4_3e1_5, .ref a0_4_3e1_6])), (a0_4_3e1_5, .inl (ka0_4_3e1_5, 9, .inl (fa0_4_3e1_5))), (a0_4_3e1_6, .inl (ka0_4_3e1_6, 9, .inl (fa0_4_3e1_6))), (a0_4_3e2, .inr (5, [.int a0_4_3e2_0, .int a0_4_3e2_1, .int a0_4_3e2_2, .int a0_4_3e2_3, .int a0_4_3e2_4, .ref a0_4_3e2_5, .ref a0_4_3e2_6])), (a0_4_3e2_5, .inl (ka0_4_3e2_5, 9, .inl (fa0_4_3e2_5))), (a0_4_3e2_6, .inl (ka0_4_3e2_6, 9, .inl (fa0_4_3e2_6))), (a0_4_3e3, .inr (5, [.int a0_4_3e3_0, .int a0_4_3e3_1, .int a0_4_3e3_2, .int a0_4_3e3_3, .int a0_4_3e3_4, .ref a0_4_3e3_5, .ref a0_4_3e3_6])), (a0_4_3e3_5, .inl (ka0_4_3e3_5, 9, .inl (fa0_4_3e3_5))), (a0_4_3e3_6, .inl (ka0_4_3e3_6, 9, .inl (fa0_4_3e3_6))), (a0_4_3e4, .inr (5, [.int a0_4_3e4_0, .int a0_4_3e4_1, .int a0_4_3e4_2, .int a0_4_3e4_3, .int a0_4_3e4_4, .ref a0_4_3e4_5, .ref a0_4_3e4_6])), (a0_4_3e4_5, .inl (ka0_4_3e4_5, 9, .inl (fa0_4_3e4_5))), (a0_4_3e4_6, .inl (ka0_4_3e4_6, 9, .inl (fa0_4_3e4_6))), (a0_4_3e5, .inr (5, [.int a0_4_3e5_0, .int a0_4_3e5_1, .int a0_4_3e5_2, .int a0_4_3e5_3, .int a0_4_3e5_4, .ref a0_4_3e5_5, .ref a0_4_3e5_6])), (a0_4_3e5_5, .inl (ka0_4_3e5_5, 9, .inl (fa0_4_3e5_5))), (a0_4_3e5_6, .inl (ka0_4_3e5_6, 9, .inl (fa0_4_3e5_6))), (a0_4_3e6, .inr (5, [.int a0_4_3e6_0, .int a0_4_3e6_1, .int a0_4_3e6_2, .int a0_4_3e6_3, .int a0_4_3e6_4, .ref a0_4_3e6_5, .ref a0_4_3e6_6])), (a0_4_3e6_5, .inl (ka0_4_3e6_5, 9, .inl (fa0_4_3e6_5))), (a0_4_3e6_6, .inl (ka0_4_3e6_6, 9, .inl (fa0_4_3e6_6))), (a0_4_3e7, .inr (5, [.int a0_4_3e7_0, .int a0_4_3e7_1, .int a0_4_3e7_2, .int a0_4_3e7_3, .int a0_4_3e7_4, .ref a0_4_3e7_5, .ref a0_4_3e7_6])), (a0_4_3e7_5, .inl (ka0_4_3e7_5, 9, .inl (fa0_4_3e7_5))), (a0_4_3e7_6, .inl (ka0_4_3e7_6, 9, .inl (fa0_4_3e7_6))), (a0_4_3e8, .inr (5, [.int a0_4_3e8_0, .int a0_4_3e8_1, .int a0_4_3e8_2, .int a0_4_3e8_3, .int a0_4_3e8_4, .ref a0_4_3e8_5, .ref a0_4_3e8_6])), (a0_4_3e8_5, .inl (ka0_4_3e8_5, 9, .inl (fa0_4_3e8_5))), (a0_4_3e8_6, .inl (ka0_4_3e8_6, 9, .inl (fa0_4_3e8_6))), (a0_4_3e9, .inr (5, [.int a0_4_3e9_0, .int a0_4_3e9_1, .int a0_4_3e9_2, .int a0_4_3e9_3, .int a0_4_3e9_4, .ref a0_4_3e9_5, .ref a0_4_3e9_6])), (a0_4_3e9_5, .inl (ka0_4_3e9_5, 9, .inl (fa0_4_3e9_5))), (a0_4_3e9_6, .inl (ka0_4_3e9_6, 9, .inl (fa0_4_3e9_6))), (a0_4_3e10, .inr (5, [.int a0_4_3e10_0, .int a0_4_3e10_1, .int a0_4_3e10_2, .int a0_4_3e10_3, .int a0_4_3e10_4, .ref a0_4_3e10_5, .ref a0_4_3e10_6])), (a0_4_3e10_5, .inl (ka0_4_3e10_5, 9, .inl (fa0_4_3e10_5))), (a0_4_3e10_6, .inl (ka0_4_3e10_6, 9, .inl (fa0_4_3e10_6))), (a0_4_3e11, .inr (5, [.int a0_4_3e11_0, .int a0_4_3e11_1, .int a0_4_3e11_2, .int a0_4_3e11_3, .int a0_4_3e11_4, .ref a0_4_3e11_5, .ref a0_4_3e11_6])), (a0_4_3e11_5, .inl (ka0_4_3e11_5, 9, .inl (fa0_4_3e11_5))), (a0_4_3e11_6, .inl (ka0_4_3e11_6, 9, .inl (fa0_4_3e11_6))), (a0_4_3e12, .inr (5, [.int a0_4_3e12_0, .int a0_4_3e12_1, .int a0_4_3e12_2, .int a0_4_3e12_3, .int a0_4_3e12_4, .ref a0_4_3e12_5, .ref a0_4_3e12_6])), (a0_4_3e12_5, .inl (ka0_4_3e12_5, 9, .inl (fa0_4_3e12_5))), (a0_4_3e12_6, .inl (ka0_4_3e12_6, 9, .inl (fa0_4_3e12_6))), (a0_4_3e13, .inr (5, [.int a0_4_3e13_0, .int a0_4_3e13_1, .int a0_4_3e13_2, .int a0_4_3e13_3, .int a0_4_3e13_4, .ref a0_4_3e13_5, .ref a0_4_3e13_6])), (a0_4_3e13_5, .inl (ka0_4_3e13_5, 9, .inl (fa0_4_3e13_5))), (a0_4_3e13_6, .inl (ka0_4_3e13_6, 9, .inl (fa0_4_3e13_6))), (a0_4_3e14, .inr (5, [.int a0_4_3e14_0, .int a0_4_3e14_1, .int a0_4_3e14_2, .int a0_4_3e14_3, .int a0_4_3e14_4, .ref a0_4_3e14_5, .ref a0_4_3e14_6])), (a0_4_3e14_5, .inl (ka0_4_3e14_5, 9, .inl (fa0_4_3e14_5))), (a0_4_3e14_6, .inl (ka0_4_3e14_6, 9, .inl (fa0_4_3e14_6))), (a0_4_3e15, .inr (5, [.int a0_4_3e15_0, .int a0_4_3e15_1, .int a0_4_3e15_2, .int a0_4_3e15_3, .int a0_4_3e15_4, .ref a0_4_3e15_5, .ref a0_4_3e15_6])), (a0_4_3e15_5, .inl (ka0_4_3e15_5, 9, .inl (fa0_4_3e15_5))), (a0_4_3e15_6, .inl (ka0_4_3e15_6, 9, .inl (fa0_4_3e15_6)))]) hP hD hCc hk1 hFc hP1 hD1 [.inl 0, .inr 0, .inr 1, .inr 2, .inr 3, .inr 4, .inr 5, .inr 6, .inr 7, .inr 8, .inr 9, .inr 10, .inr 11, .inr 12, .inr 13, .inr 14, .inr 15, .inr 16, .inr 17, .inr 18, .inr 19, .inr 20, .inr 21, .inr 22, .inr 23, .inr 24, .inr 25, .inr 26, .inr 27, .inr 28, .inr 29, .inr 30, .inr 31, .inr 32, .inr 33, .inr 34, .inr 35, .inr 36, .inr 37, .inr 38, .inr 39, .inr 40, .inr 41, .inr 42, .inr 43, .inr 44, .inr 45, .inr 46, .inr 47, .inr 48, .inr 49, .inr 50, .inr 51, .inr 52] (by decide +kernel) rfl (fun hP hD => ?_)
  rcases hw with hw | hw
  · subst hw
    refine lv_istore_n (lv' := [(1, .int 1), (0, .ref a0)]) hx hb dX7_undo_11 rfl hl (by decide) rfl (fun ls hl => ?_)
    refine lv_aload_n hx hb dX7_undo_12 rfl (lv_at hl 1 rfl) ?_
    refine lv_iload_n hx hb dX7_undo_13 rfl (lv_at hl 0 rfl) ?_
    refine lv_if_eq (tgt := 21) hx hb dX7_undo_14 (by decide) (fun c14 => absurd c14 (by decide +kernel)) (fun _ => ?_)
    refine lv_iconst (v := 0) hx hb dX7_undo_17 zk_iconst_0 ?_
    refine lv_goto (tgt := 23) hx hb dX7_undo_18 (by decide) ?_
    refine va_put (D := (dC, dI)) (ci := 7) (v := .int 0) (ty := .int) (C := RX7) (T := TX7) (N := 11) hx hb hts zi_X7_undo_7 tyX7 tyX7_ok nmX7 hown hK hP hD hS 0 rfl rfl 8 (by decide) (hts (.fieldLink RX7 61 "WaxTurns" "latestTrouble" "I") (List.mem_cons_of_mem _ (List.mem_append_left _ (List.mem_append_left _ (List.mem_append_left _ (List.mem_of_getElem? (i := 2) rfl)))))) (fun _ h9 => h9) rfl (tyX7_ok 8 (by decide)) rfl rfl (Nat.le_of_ble_eq_true rfl) dX7_undo_23 (fun H locs hP hD hS => ?_)
    refine zs_0 (y := (a0, .inr (7, [a0g_0, .ref a0_1, a0g_2, a0g_3, .ref a0_4, a0g_5, a0g_6, a0g_7, .int 0, a0g_9, a0g_10]))) hP hD rfl (fun hP hD => ?_)
    refine lv_iload_n hx hb dX7_undo_26 rfl (lv_at hl 0 rfl) ?_
    exact W.zret (v := 1) hx hb hr rfl (fun t ht hW => ⟨⟨1, (), rfl, (Or.inl (rfl)), 0, v8na0_0, v8na0_2, v8na1_0, v8na1_1, v8na1_2, v8na1_3, v8na1_4, v8nfa1_5, v8nfa1_6, ⟨bv8na0_0.1, bv8na0_0.2⟩, ⟨bv8na0_2.1, bv8na0_2.2⟩, ⟨bv8na1_1.1, bv8na1_1.2⟩, (by first | assumption | decide | omega), by rw [ht]; exact hP, va_K.moved hW.alike hK, hD⟩, hS.F ht⟩) hS.2.2 dX7_undo_27
  · subst hw
    refine lv_istore_n (lv' := [(1, .int 0), (0, .ref a0)]) hx hb dX7_undo_11 rfl hl (by decide) rfl (fun ls hl => ?_)
    refine lv_aload_n hx hb dX7_undo_12 rfl (lv_at hl 1 rfl) ?_
    refine lv_iload_n hx hb dX7_undo_13 rfl (lv_at hl 0 rfl) ?_
    refine lv_if_eq (tgt := 21) hx hb dX7_undo_14 (by decide) (fun _ => ?_) (fun c14 => absurd (by decide +kernel) c14)
    refine lv_bipush (v := 6) hx hb dX7_undo_21 zk_bipush_6 ?_
    refine va_put (D := (dC, dI)) (ci := 7) (v := .int 6) (ty := .int) (C := RX7) (T := TX7) (N := 11) hx hb hts zi_X7_undo_7 tyX7 tyX7_ok nmX7 hown hK hP hD hS 0 rfl rfl 8 (by decide) (hts (.fieldLink RX7 61 "WaxTurns" "latestTrouble" "I") (List.mem_cons_of_mem _ (List.mem_append_left _ (List.mem_append_left _ (List.mem_append_left _ (List.mem_of_getElem? (i := 2) rfl)))))) (fun _ h9 => h9) rfl (tyX7_ok 8 (by decide)) rfl rfl (Nat.le_of_ble_eq_true rfl) dX7_undo_23 (fun H locs hP hD hS => ?_)
    refine zs_0 (y := (a0, .inr (7, [a0g_0, .ref a0_1, a0g_2, a0g_3, .ref a0_4, a0g_5, a0g_6, a0g_7, .int 6, a0g_9, a0g_10]))) hP hD rfl (fun hP hD => ?_)
    refine lv_iload_n hx hb dX7_undo_26 rfl (lv_at hl 0 rfl) ?_
    exact W.zret (v := 0) hx hb hr rfl (fun t ht hW => ⟨⟨0, (), rfl, (Or.inr (rfl)), 6, v8na0_0, v8na0_2, v8na1_0, v8na1_1, v8na1_2, v8na1_3, v8na1_4, v8nfa1_5, v8nfa1_6, ⟨bv8na0_0.1, bv8na0_0.2⟩, ⟨bv8na0_2.1, bv8na0_2.2⟩, ⟨bv8na1_1.1, bv8na1_1.2⟩, (by first | assumption | decide | omega), by rw [ht]; exact hP, va_K.moved hW.alike hK, hD⟩, hS.F ht⟩) hS.2.2 dX7_undo_27
set_option maxHeartbeats 4000000 in
set_option maxRecDepth 100000 in
set_option maxHeartbeats 4000000 in
set_option maxRecDepth 100000 in
theorem c_X7_image (l : Launch) (dC : Nat → ClassId) (dI : Nat → Nat → Nat) (sz : Nat) (a0 : Nat) (a0g_0 a0g_2 a0g_3 a0g_5 a0g_6 a0g_9 a0g_10 : Value) (a0_1 : Nat) (a0_4 : Nat) (a0_7 : Nat) (a0_8 : Int32) (a0_7_0 : Int32) (a0_7g_1 a0_7g_2 a0_7g_3 a0_7g_4 a0_7g_5 a0_7g_6 a0_7g_7 a0_7g_8 a0_7g_9 a0_7g_10 a0_7g_11 a0_7g_12 a0_7g_13 a0_7g_14 : Value) (a0_4g_0 a0_4g_2 a0_4g_3 : Value) (a0_4_1 : Int32) (a0_4_4 : Nat) (ka0_4_4 : ClassId) (a0_4_4e0 : Nat) (a0_4_4e1 : Nat) (a0_4_4e2 : Nat) (a0_4_4e0_0 : Int32) (a0_4_4e0_1 : Int32) (a0_4_4e0_2 : Int32) (a0_4_4e0_3 : Int32) (a0_4_4e0_4 : Int32) (a0_4_4e0_5 : Nat) (a0_4_4e0_6 : Nat) (a0_1_0 : Int32) (a0_1_1 : Int32) (a0_1_2 : Int32) (a0_1_3 : Int32) (a0_1_4 : Int32) (a0_1_5 : Nat) (a0_1_6 : Nat) (ka0_1_5 : ClassId) (fa0_1_5 : Nat → Int32) (ka0_4_4e0_5 : ClassId) (fa0_4_4e0_5 : Nat → Int32) (ka0_1_6 : ClassId) (fa0_1_6 : Nat → Int32) (ka0_4_4e0_6 : ClassId) (fa0_4_4e0_6 : Nat → Int32) (a0_4_4e1_0 : Int32) (a0_4_4e1_1 : Int32) (a0_4_4e1_2 : Int32) (a0_4_4e1_3 : Int32) (a0_4_4e1_4 : Int32) (a0_4_4e1_5 : Nat) (a0_4_4e1_6 : Nat) (ka0_4_4e1_5 : ClassId) (fa0_4_4e1_5 : Nat → Int32) (ka0_4_4e1_6 : ClassId) (fa0_4_4e1_6 : Nat → Int32) (a0_4_4e2_0 : Int32) (a0_4_4e2_1 : Int32) (a0_4_4e2_2 : Int32) (a0_4_4e2_3 : Int32) (a0_4_4e2_4 : Int32) (a0_4_4e2_5 : Nat) (a0_4_4e2_6 : Nat) (ka0_4_4e2_5 : ClassId) (fa0_4_4e2_5 : Nat → Int32) (ka0_4_4e2_6 : ClassId) (fa0_4_4e2_6 : Nat → Int32) (ba0_7_0_l : (0 : Int) ≤ a0_7_0.toInt) (ba0_7_0_u : a0_7_0.toInt ≤ (9 : Int)) (ba0_4_1_l : (0 : Int) ≤ a0_4_1.toInt) (ba0_4_1_u : a0_4_1.toInt ≤ (3 : Int)) (ba0_4_4e0_1_l : (0 : Int) ≤ a0_4_4e0_1.toInt) (ba0_4_4e0_1_u : a0_4_4e0_1.toInt ≤ (8 : Int)) (ba0_1_1_l : (0 : Int) ≤ a0_1_1.toInt) (ba0_1_1_u : a0_1_1.toInt ≤ (8 : Int)) (ba0_4_4e1_1_l : (0 : Int) ≤ a0_4_4e1_1.toInt) (ba0_4_4e1_1_u : a0_4_4e1_1.toInt ≤ (8 : Int)) (ba0_4_4e2_1_l : (0 : Int) ≤ a0_4_4e2_1.toInt) (ba0_4_4e2_1_u : a0_4_4e2_1.toInt ≤ (8 : Int)) : zm l yX7_image wsX7_image ({ frames := 2, cells := 0, slots := 0, locals := 43 }) [.ref a0] dC dI sz [(a0, .inr (7, [a0g_0, .ref a0_1, a0g_2, a0g_3, .ref a0_4, a0g_5, a0g_6, .ref a0_7, .int a0_8, a0g_9, a0g_10])), (a0_7, .inr (0, [.int a0_7_0, a0_7g_1, a0_7g_2, a0_7g_3, a0_7g_4, a0_7g_5, a0_7g_6, a0_7g_7, a0_7g_8, a0_7g_9, a0_7g_10, a0_7g_11, a0_7g_12, a0_7g_13, a0_7g_14])), (a0_4, .inr (1, [a0_4g_0, .int a0_4_1, a0_4g_2, a0_4g_3, .ref a0_4_4])), (a0_4_4, .inl (ka0_4_4, 3, .inr (.inr (.inr (.inr (fun i9 => ([some a0_4_4e0, some a0_4_4e1, some a0_4_4e2] : List (Option Nat)).getD i9 none)))))), (a0_4_4e0, .inr (5, [.int a0_4_4e0_0, .int a0_4_4e0_1, .int a0_4_4e0_2, .int a0_4_4e0_3, .int a0_4_4e0_4, .ref a0_4_4e0_5, .ref a0_4_4e0_6])), (a0_1, .inr (5, [.int a0_1_0, .int a0_1_1, .int a0_1_2, .int a0_1_3, .int a0_1_4, .ref a0_1_5, .ref a0_1_6])), (a0_1_5, .inl (ka0_1_5, 9, .inl (fa0_1_5))), (a0_4_4e0_5, .inl (ka0_4_4e0_5, 9, .inl (fa0_4_4e0_5))), (a0_1_6, .inl (ka0_1_6, 9, .inl (fa0_1_6))), (a0_4_4e0_6, .inl (ka0_4_4e0_6, 9, .inl (fa0_4_4e0_6))), (a0_4_4e1, .inr (5, [.int a0_4_4e1_0, .int a0_4_4e1_1, .int a0_4_4e1_2, .int a0_4_4e1_3, .int a0_4_4e1_4, .ref a0_4_4e1_5, .ref a0_4_4e1_6])), (a0_4_4e1_5, .inl (ka0_4_4e1_5, 9, .inl (fa0_4_4e1_5))), (a0_4_4e1_6, .inl (ka0_4_4e1_6, 9, .inl (fa0_4_4e1_6))), (a0_4_4e2, .inr (5, [.int a0_4_4e2_0, .int a0_4_4e2_1, .int a0_4_4e2_2, .int a0_4_4e2_3, .int a0_4_4e2_4, .ref a0_4_4e2_5, .ref a0_4_4e2_6])), (a0_4_4e2_5, .inl (ka0_4_4e2_5, 9, .inl (fa0_4_4e2_5))), (a0_4_4e2_6, .inl (ka0_4_4e2_6, 9, .inl (fa0_4_4e2_6)))] [(ka0_4_4, (.object RX5)), (ka0_1_5, .int), (ka0_4_4e0_5, .int), (ka0_1_6, .int), (ka0_4_4e0_6, .int), (ka0_4_4e1_5, .int), (ka0_4_4e1_6, .int), (ka0_4_4e2_5, .int), (ka0_4_4e2_6, .int)] (fun A _ => True) (fun A => va_Qi (fun (r : Int32) (_ : Unit) => (r = 2 ∧ (1 : Int) ≤ a0_7_0.toInt ∧ a0_7_0.toInt ≤ (9 : Int)) ∨ (r = 1 ∧ (1 : Int) ≤ a0_7_0.toInt ∧ a0_7_0.toInt ≤ (9 : Int)) ∨ (r = 0 ∧ (1 : Int) ≤ a0_7_0.toInt ∧ a0_7_0.toInt ≤ (9 : Int)) ∨ (r = (-1))) (fun (_ : Unit) (t : State) => ∃ zni : Nat → Int32, ∃ znf : Nat → Nat → Int32, ((0 : Int) ≤ (zni 1).toInt ∧ (zni 1).toInt ≤ 3) ∧ ((0 : Int) ≤ (zni 3).toInt ∧ (zni 3).toInt ≤ 8) ∧ ((0 : Int) ≤ (zni 8).toInt ∧ (zni 8).toInt ≤ 8) ∧ ((0 : Int) ≤ (zni 13).toInt ∧ (zni 13).toInt ≤ 8) ∧ (zni 0).toInt ≠ 4 ∧ ax_B dC dI A [(a0, .inr (7, [a0g_0, .ref a0_1, a0g_2, a0g_3, .ref a0_4, a0g_5, a0g_6, .ref a0_7, .int (zni 0), a0g_9, a0g_10])), (a0_7, .inr (0, [.int a0_7_0, a0_7g_1, a0_7g_2, a0_7g_3, a0_7g_4, a0_7g_5, a0_7g_6, a0_7g_7, a0_7g_8, a0_7g_9, a0_7g_10, a0_7g_11, a0_7g_12, a0_7g_13, a0_7g_14])), (a0_4, .inr (1, [a0_4g_0, .int (zni 1), a0_4g_2, a0_4g_3, .ref a0_4_4])), (a0_4_4, .inl (ka0_4_4, 3, .inr (.inr (.inr (.inr (fun i9 => ([some a0_4_4e0, some a0_4_4e1, some a0_4_4e2] : List (Option Nat)).getD i9 none)))))), (a0_4_4e0, .inr (5, [.int (zni 2), .int (zni 3), .int (zni 4), .int (zni 5), .int (zni 6), .ref a0_4_4e0_5, .ref a0_4_4e0_6])), (a0_1, .inr (5, [.int a0_1_0, .int a0_1_1, .int a0_1_2, .int a0_1_3, .int a0_1_4, .ref a0_1_5, .ref a0_1_6])), (a0_1_5, .inl (ka0_1_5, 9, .inl (fa0_1_5))), (a0_4_4e0_5, .inl (ka0_4_4e0_5, 9, .inl ((znf 0)))), (a0_1_6, .inl (ka0_1_6, 9, .inl (fa0_1_6))), (a0_4_4e0_6, .inl (ka0_4_4e0_6, 9, .inl ((znf 1)))), (a0_4_4e1, .inr (5, [.int (zni 7), .int (zni 8), .int (zni 9), .int (zni 10), .int (zni 11), .ref a0_4_4e1_5, .ref a0_4_4e1_6])), (a0_4_4e1_5, .inl (ka0_4_4e1_5, 9, .inl ((znf 2)))), (a0_4_4e1_6, .inl (ka0_4_4e1_6, 9, .inl ((znf 3)))), (a0_4_4e2, .inr (5, [.int (zni 12), .int (zni 13), .int (zni 14), .int (zni 15), .int (zni 16), .ref a0_4_4e2_5, .ref a0_4_4e2_6])), (a0_4_4e2_5, .inl (ka0_4_4e2_5, 9, .inl ((znf 4)))), (a0_4_4e2_6, .inl (ka0_4_4e2_6, 9, .inl ((znf 5))))] [(ka0_4_4, (.object RX5)), (ka0_1_5, .int), (ka0_4_4e0_5, .int), (ka0_1_6, .int), (ka0_4_4e0_6, .int), (ka0_4_4e1_5, .int), (ka0_4_4e1_6, .int), (ka0_4_4e2_5, .int), (ka0_4_4e2_6, .int)] t) A) := by
  refine zh (cc := cX7_image) (maxL := 1) (ret := (some .int)) zn_RX7 rfl (Nat.le_of_ble_eq_true rfl) (fun p e s m below meth c A ls hx hb hml hr hts (hown : s.vm.findClass RX7 = some m.cls) hlocks hA hS hP hK hD hE (hl : lv_has ls 1 [(0, .ref a0)]) => ?_)
  refine lv_aload_n hx hb dX7_image_0 rfl (lv_at hl 0 rfl) ?_
  refine va_calli (va_runV (As := []) (rest := []) ⟨hx, hb, hml, hown, hts⟩ (c_X7_hasGallery l dC dI s.heap.size a0 a0g_0 (.ref a0_1) a0g_2 a0g_3 (.ref a0_4) a0g_5 a0g_6 (.int a0_8) a0g_9 a0g_10 a0_7 a0_7_0 a0_7g_1 a0_7g_2 a0_7g_3 a0_7g_4 a0_7g_5 a0_7g_6 a0_7g_7 a0_7g_8 a0_7g_9 a0_7g_10 a0_7g_11 a0_7g_12 a0_7g_13 a0_7g_14 ba0_7_0_l ba0_7_0_u) (cwV 0 hts gX7_image_X7_hasGallery rfl rfl rfl zd_X7_hasGallery ⟨Nat.le_of_ble_eq_true rfl, Nat.le_of_ble_eq_true rfl⟩) ⟨ax_blind (fun _ _ _ _ _ => trivial), zr_7 (zp_K hK) (zp_P2 hP) (q0 := 0) rfl, ax_pre (zp_P2 hP) (zp_K hK) (zp_D2 hD) (fun _ _ => trivial)⟩ rfl rfl hl.1 rfl (lv_room (Nat.le_of_ble_eq_true rfl)) dX7_image_1 ⟨Nat.le_of_ble_eq_true rfl, Nat.le_of_ble_eq_true rfl⟩) hS (fun q _ h => zp_F2 hD hS hA q h) (zp_F2 hD hS hA) (fun r1 u t H locs ht hvm hw hB hz1 hk1 hS1 => zo2 hB ht hP hD hk1 (zp_F2 hD hS hA) hS1 (fun hP hK1 hD hS => ?_))
  rcases hw with hw | hw
  · obtain ⟨hw, h1_0, h1_1⟩ := hw
    subst hw
    have l1k0_a0_7_0 : (1 : Int) ≤ a0_7_0.toInt := h1_0
    have u1k0_a0_7_0 : a0_7_0.toInt ≤ (9 : Int) := ba0_7_0_u
    refine lv_if_ne (tgt := 13) hx hb dX7_image_4 (by decide) (fun _ => ?_) (fun c4 => absurd c4 (by decide +kernel))
    refine lv_aload_n hx hb dX7_image_13 rfl (lv_at hl 0 rfl) ?_
    refine va_get (D := (dC, dI)) (ci := 7) (v := .ref a0_4) (C := RX7) (T := TX7) (N := 11) hx hb hts zi_X7_image_7 hown hK hP 0 rfl rfl 4 (by decide) (hts (.fieldLink RX7 36 "WaxTurns" "history" "LWaxTurns$History;") (zm_X7_image_r1 (List.mem_of_getElem? (i := 0) rfl))) (fun _ h9 => h9) rfl dX7_image_14 ?_
    refine va_get (D := (dC, dI)) (ci := 1) (v := .int a0_4_1) (C := RX1) (T := TX1) (N := 5) hx hb hts zi_X7_image_1 hown hK hP 2 rfl rfl 1 (by decide) (hts (.fieldLink RX7 337 "WaxTurns$History" "imageCount" "I") (zm_X7_image_r1 (List.mem_of_getElem? (i := 1) rfl))) (fun _ h9 => h9) rfl dX7_image_17 ?_
    refine lv_iconst (v := 3) hx hb dX7_image_20 zk_iconst_3 ?_
    refine lv_icmp_lt (tgt := 30) hx hb dX7_image_21 (by decide) (fun c21 => ?_) (fun c21 => ?_)
    · have gc21 := ai_lt c21
      have u21t_a0_4_1 : a0_4_1.toInt ≤ (2 : Int) := ai_lthi gc21 zq9
      refine lv_aload_n hx hb dX7_image_30 rfl (lv_at hl 0 rfl) ?_
      refine lv_aload_n hx hb dX7_image_31 rfl (lv_at hl 0 rfl) ?_
      refine va_get (D := (dC, dI)) (ci := 7) (v := .ref a0_4) (C := RX7) (T := TX7) (N := 11) hx hb hts zi_X7_image_7 hown hK hP 0 rfl rfl 4 (by decide) (hts (.fieldLink RX7 36 "WaxTurns" "history" "LWaxTurns$History;") (zm_X7_image_r1 (List.mem_of_getElem? (i := 0) rfl))) (fun _ h9 => h9) rfl dX7_image_32 ?_
      refine lv_aload_n hx hb dX7_image_35 rfl (lv_at hl 0 rfl) ?_
      refine va_get (D := (dC, dI)) (ci := 7) (v := .ref a0_1) (C := RX7) (T := TX7) (N := 11) hx hb hts zi_X7_image_7 hown hK hP 0 rfl rfl 1 (by decide) (hts (.fieldLink RX7 19 "WaxTurns" "now" "LWaxTurns$Scene;") (zm_X7_image_r1 (List.mem_of_getElem? (i := 2) rfl))) (fun _ h9 => h9) rfl dX7_image_36 ?_
      refine zc_cutc (wc := [(a0_4, .inr (1, [a0_4g_0, .int a0_4_1, a0_4g_2, a0_4g_3, .ref a0_4_4])), (a0_4_4, .inl (ka0_4_4, 3, .inr (.inr (.inr (.inr (fun i9 => ([some a0_4_4e0, some a0_4_4e1, some a0_4_4e2] : List (Option Nat)).getD i9 none)))))), (a0_4_4e0, .inr (5, [.int a0_4_4e0_0, .int a0_4_4e0_1, .int a0_4_4e0_2, .int a0_4_4e0_3, .int a0_4_4e0_4, .ref a0_4_4e0_5, .ref a0_4_4e0_6])), (a0_1, .inr (5, [.int a0_1_0, .int a0_1_1, .int a0_1_2, .int a0_1_3, .int a0_1_4, .ref a0_1_5, .ref a0_1_6])), (a0_1_5, .inl (ka0_1_5, 9, .inl (fa0_1_5))), (a0_4_4e0_5, .inl (ka0_4_4e0_5, 9, .inl (fa0_4_4e0_5))), (a0_1_6, .inl (ka0_1_6, 9, .inl (fa0_1_6))), (a0_4_4e0_6, .inl (ka0_4_4e0_6, 9, .inl (fa0_4_4e0_6))), (a0_4_4e1, .inr (5, [.int a0_4_4e1_0, .int a0_4_4e1_1, .int a0_4_4e1_2, .int a0_4_4e1_3, .int a0_4_4e1_4, .ref a0_4_4e1_5, .ref a0_4_4e1_6])), (a0_4_4e1_5, .inl (ka0_4_4e1_5, 9, .inl (fa0_4_4e1_5))), (a0_4_4e1_6, .inl (ka0_4_4e1_6, 9, .inl (fa0_4_4e1_6))), (a0_4_4e2, .inr (5, [.int a0_4_4e2_0, .int a0_4_4e2_1, .int a0_4_4e2_2, .int a0_4_4e2_3, .int a0_4_4e2_4, .ref a0_4_4e2_5, .ref a0_4_4e2_6])), (a0_4_4e2_5, .inl (ka0_4_4e2_5, 9, .inl (fa0_4_4e2_5))), (a0_4_4e2_6, .inl (ka0_4_4e2_6, 9, .inl (fa0_4_4e2_6)))]) hP hD hS hA [2, 3, 4, 5, 6, 7, 8, 9, 10, 11, 12, 13, 14, 15] (by decide +kernel) rfl (fun hPc hDc hFc hCc => ?_)
      have hKc := hK.sub (tys' := [(ka0_4_4, (.object RX5)), (ka0_1_5, .int), (ka0_4_4e0_5, .int), (ka0_1_6, .int), (ka0_4_4e0_6, .int), (ka0_4_4e1_5, .int), (ka0_4_4e1_6, .int), (ka0_4_4e2_5, .int), (ka0_4_4e2_6, .int)]) [0, 1, 2, 3, 4, 5, 6, 7, 8] rfl
      refine va_calli (va_runV (As := [.ref a0_1]) (rest := [.ref a0]) ⟨hx, hb, hml, hown, hts⟩ (c_X1_addImage l dC dI H.size a0_4 a0_1 a0_4g_0 a0_4g_2 a0_4g_3 a0_4_1 a0_4_4 ka0_4_4 a0_4_4e0 a0_4_4e1 a0_4_4e2 a0_4_4e0_0 a0_4_4e0_1 a0_4_4e0_2 a0_4_4e0_3 a0_4_4e0_4 a0_4_4e0_5 a0_4_4e0_6 a0_1_0 a0_1_1 a0_1_2 a0_1_3 a0_1_4 a0_1_5 a0_1_6 ka0_1_5 fa0_1_5 ka0_4_4e0_5 fa0_4_4e0_5 ka0_1_6 fa0_1_6 ka0_4_4e0_6 fa0_4_4e0_6 a0_4_4e1_0 a0_4_4e1_1 a0_4_4e1_2 a0_4_4e1_3 a0_4_4e1_4 a0_4_4e1_5 a0_4_4e1_6 ka0_4_4e1_5 fa0_4_4e1_5 ka0_4_4e1_6 fa0_4_4e1_6 a0_4_4e2_0 a0_4_4e2_1 a0_4_4e2_2 a0_4_4e2_3 a0_4_4e2_4 a0_4_4e2_5 a0_4_4e2_6 ka0_4_4e2_5 fa0_4_4e2_5 ka0_4_4e2_6 fa0_4_4e2_6 ba0_4_1_l (Int.le_trans u21t_a0_4_1 zq75) ba0_4_4e0_1_l ba0_4_4e0_1_u ba0_1_1_l ba0_1_1_u ba0_4_4e1_1_l ba0_4_4e1_1_u ba0_4_4e2_1_l ba0_4_4e2_1_u) (cwV 1 hts gX7_image_X1_addImage rfl rfl rfl zd_X1_addImage ⟨Nat.le_of_ble_eq_true rfl, Nat.le_of_ble_eq_true rfl⟩) ⟨ax_blind (fun _ _ _ _ _ => trivial), zr_1 hKc hPc (q0 := 0) rfl, ax_pre hPc hKc hDc (fun _ _ => trivial)⟩ rfl rfl hl.1 rfl (lv_room (Nat.le_of_ble_eq_true rfl)) dX7_image_39 ⟨Nat.le_of_ble_eq_true rfl, Nat.le_of_ble_eq_true rfl⟩) hS (fun q _ h => hFc q h) hFc (fun r39 u t H locs ht hvm hw => zx_2 (fun v39ni v39nf => zy_4 (fun bv39na0_1 bv39na0_4e0_1 bv39na0_4e1_1 bv39na0_4e2_1 hB hz1 hk1 hS1 => zo hB ht hS1 (fun hP1 hK1 hD1 hS => ?_))))
      refine zc_backc (w := [(a0, .inr (7, [a0g_0, .ref a0_1, a0g_2, a0g_3, .ref a0_4, a0g_5, a0g_6, .ref a0_7, .int a0_8, a0g_9, a0g_10])), (a0_7, .inr (0, [.int a0_7_0, a0_7g_1, a0_7g_2, a0_7g_3, a0_7g_4, a0_7g_5, a0_7g_6, a0_7g_7, a0_7g_8, a0_7g_9, a0_7g_10, a0_7g_11, a0_7g_12, a0_7g_13, a0_7g_14])), (a0_4, .inr (1, [a0_4g_0, .int (v39ni 0), a0_4g_2, a0_4g_3, .ref a0_4_4])), (a0_4_4, .inl (ka0_4_4, 3, .inr (.inr (.inr (.inr (fun i9 => ([some a0_4_4e0, some a0_4_4e1, some a0_4_4e2] : List (Option Nat)).getD i9 none)))))), (a0_4_4e0, .inr (5, [.int (v39ni 1), .int (v39ni 2), .int (v39ni 3), .int (v39ni 4), .int (v39ni 5), .ref a0_4_4e0_5, .ref a0_4_4e0_6])), (a0_1, .inr (5, [.int a0_1_0, .int a0_1_1, .int a0_1_2, .int a0_1_3, .int a0_1_4, .ref a0_1_5, .ref a0_1_6])), (a0_1_5, .inl (ka0_1_5, 9, .inl (fa0_1_5))), (a0_4_4e0_5, .inl (ka0_4_4e0_5, 9, .inl ((v39nf 0)))), (a0_1_6, .inl (ka0_1_6, 9, .inl (fa0_1_6))), (a0_4_4e0_6, .inl (ka0_4_4e0_6, 9, .inl ((v39nf 1)))), (a0_4_4e1, .inr (5, [.int (v39ni 6), .int (v39ni 7), .int (v39ni 8), .int (v39ni 9), .int (v39ni 10), .ref a0_4_4e1_5, .ref a0_4_4e1_6])), (a0_4_4e1_5, .inl (ka0_4_4e1_5, 9, .inl ((v39nf 2)))), (a0_4_4e1_6, .inl (ka0_4_4e1_6, 9, .inl ((v39nf 3)))), (a0_4_4e2, .inr (5, [.int (v39ni 11), .int (v39ni 12), .int (v39ni 13), .int (v39ni 14), .int (v39ni 15), .ref a0_4_4e2_5, .ref a0_4_4e2_6])), (a0_4_4e2_5, .inl (ka0_4_4e2_5, 9, .inl ((v39nf 4)))), (a0_4_4e2_6, .inl (ka0_4_4e2_6, 9, .inl ((v39nf 5))))]) hP hD hCc hk1 hFc hP1 hD1 [.inl 0, .inl 1, .inr 0, .inr 1, .inr 2, .inr 3, .inr 4, .inr 5, .inr 6, .inr 7, .inr 8, .inr 9, .inr 10, .inr 11, .inr 12, .inr 13] (by decide +kernel) rfl (fun hP hD => ?_)
      rcases hw with hw | hw | hw | hw
      · subst hw
        refine va_calli (va_runV (As := [.int 2]) (rest := []) ⟨hx, hb, hml, hown, hts⟩ (c_X7_answered l dC dI H.size a0 2 a0g_0 (.ref a0_1) a0g_2 a0g_3 (.ref a0_4) a0g_5 a0g_6 (.ref a0_7) a0g_9 a0g_10 a0_8 ) (cwV 1 hts gX7_image_X7_answered rfl rfl rfl zd_X7_answered ⟨Nat.le_of_ble_eq_true rfl, Nat.le_of_ble_eq_true rfl⟩) ⟨ax_blind (fun _ _ _ _ _ => trivial), zr_7 (zp_K hK) (zp_P1 hP) (q0 := 0) rfl, ax_pre (zp_P1 hP) (zp_K hK) (zp_D1 hD) (fun _ _ => trivial)⟩ rfl rfl hl.1 rfl (lv_room (Nat.le_of_ble_eq_true rfl)) dX7_image_42 ⟨Nat.le_of_ble_eq_true rfl, Nat.le_of_ble_eq_true rfl⟩) hS (fun q _ h => zp_F1 hD hS hA q h) (zp_F1 hD hS hA) (fun r42 u t H locs ht hvm hw => zx_1 (fun v42na0_8 => zy_1 (fun hraw42_0 hB hz1 hk1 hS1 => zo1 hB ht hP hD hk1 (zp_F1 hD hS hA) hS1 (fun hP hK1 hD hS => ?_))))
        have hw : r42 = 2 := hw
        have hw := hw.symm
        subst hw
        exact W.iret (v := 2) hx hb hr (fun t ht hW => ⟨⟨2, (), rfl, (Or.inl ⟨rfl, l1k0_a0_7_0, u1k0_a0_7_0⟩), (fun i9 => ([v42na0_8, (v39ni 0), (v39ni 1), (v39ni 2), (v39ni 3), (v39ni 4), (v39ni 5), (v39ni 6), (v39ni 7), (v39ni 8), (v39ni 9), (v39ni 10), (v39ni 11), (v39ni 12), (v39ni 13), (v39ni 14), (v39ni 15)] : List Int32).getD i9 0), (fun i9 => ([(v39nf 0), (v39nf 1), (v39nf 2), (v39nf 3), (v39nf 4), (v39nf 5)] : List (Nat → Int32)).getD i9 (fun _ => 0)), ⟨bv39na0_1.1, bv39na0_1.2⟩, ⟨bv39na0_4e0_1.1, bv39na0_4e0_1.2⟩, ⟨bv39na0_4e1_1.1, bv39na0_4e1_1.2⟩, ⟨bv39na0_4e2_1.1, bv39na0_4e2_1.2⟩, (show v42na0_8.toInt ≠ 4 from (by first | assumption | decide | omega)), by rw [ht]; exact hP, va_K.moved hW.alike hK, hD⟩, hS.F ht⟩) hS.2.2 dX7_image_45
      · subst hw
        refine va_calli (va_runV (As := [.int 1]) (rest := []) ⟨hx, hb, hml, hown, hts⟩ (c_X7_answered l dC dI H.size a0 1 a0g_0 (.ref a0_1) a0g_2 a0g_3 (.ref a0_4) a0g_5 a0g_6 (.ref a0_7) a0g_9 a0g_10 a0_8 ) (cwV 1 hts gX7_image_X7_answered rfl rfl rfl zd_X7_answered ⟨Nat.le_of_ble_eq_true rfl, Nat.le_of_ble_eq_true rfl⟩) ⟨ax_blind (fun _ _ _ _ _ => trivial), zr_7 (zp_K hK) (zp_P1 hP) (q0 := 0) rfl, ax_pre (zp_P1 hP) (zp_K hK) (zp_D1 hD) (fun _ _ => trivial)⟩ rfl rfl hl.1 rfl (lv_room (Nat.le_of_ble_eq_true rfl)) dX7_image_42 ⟨Nat.le_of_ble_eq_true rfl, Nat.le_of_ble_eq_true rfl⟩) hS (fun q _ h => zp_F1 hD hS hA q h) (zp_F1 hD hS hA) (fun r42 u t H locs ht hvm hw => zx_1 (fun v42na0_8 => zy_1 (fun hraw42_0 hB hz1 hk1 hS1 => zo1 hB ht hP hD hk1 (zp_F1 hD hS hA) hS1 (fun hP hK1 hD hS => ?_))))
        have hw : r42 = 1 := hw
        have hw := hw.symm
        subst hw
        exact W.iret (v := 1) hx hb hr (fun t ht hW => ⟨⟨1, (), rfl, (Or.inr (Or.inl ⟨rfl, l1k0_a0_7_0, u1k0_a0_7_0⟩)), (fun i9 => ([v42na0_8, (v39ni 0), (v39ni 1), (v39ni 2), (v39ni 3), (v39ni 4), (v39ni 5), (v39ni 6), (v39ni 7), (v39ni 8), (v39ni 9), (v39ni 10), (v39ni 11), (v39ni 12), (v39ni 13), (v39ni 14), (v39ni 15)] : List Int32).getD i9 0), (fun i9 => ([(v39nf 0), (v39nf 1), (v39nf 2), (v39nf 3), (v39nf 4), (v39nf 5)] : List (Nat → Int32)).getD i9 (fun _ => 0)), ⟨bv39na0_1.1, bv39na0_1.2⟩, ⟨bv39na0_4e0_1.1, bv39na0_4e0_1.2⟩, ⟨bv39na0_4e1_1.1, bv39na0_4e1_1.2⟩, ⟨bv39na0_4e2_1.1, bv39na0_4e2_1.2⟩, (show v42na0_8.toInt ≠ 4 from (by first | assumption | decide | omega)), by rw [ht]; exact hP, va_K.moved hW.alike hK, hD⟩, hS.F ht⟩) hS.2.2 dX7_image_45
      · subst hw
        refine va_calli (va_runV (As := [.int 0]) (rest := []) ⟨hx, hb, hml, hown, hts⟩ (c_X7_answered l dC dI H.size a0 0 a0g_0 (.ref a0_1) a0g_2 a0g_3 (.ref a0_4) a0g_5 a0g_6 (.ref a0_7) a0g_9 a0g_10 a0_8 ) (cwV 1 hts gX7_image_X7_answered rfl rfl rfl zd_X7_answered ⟨Nat.le_of_ble_eq_true rfl, Nat.le_of_ble_eq_true rfl⟩) ⟨ax_blind (fun _ _ _ _ _ => trivial), zr_7 (zp_K hK) (zp_P1 hP) (q0 := 0) rfl, ax_pre (zp_P1 hP) (zp_K hK) (zp_D1 hD) (fun _ _ => trivial)⟩ rfl rfl hl.1 rfl (lv_room (Nat.le_of_ble_eq_true rfl)) dX7_image_42 ⟨Nat.le_of_ble_eq_true rfl, Nat.le_of_ble_eq_true rfl⟩) hS (fun q _ h => zp_F1 hD hS hA q h) (zp_F1 hD hS hA) (fun r42 u t H locs ht hvm hw => zx_1 (fun v42na0_8 => zy_1 (fun hraw42_0 hB hz1 hk1 hS1 => zo1 hB ht hP hD hk1 (zp_F1 hD hS hA) hS1 (fun hP hK1 hD hS => ?_))))
        have hw : r42 = 0 := hw
        have hw := hw.symm
        subst hw
        exact W.iret (v := 0) hx hb hr (fun t ht hW => ⟨⟨0, (), rfl, (Or.inr (Or.inr (Or.inl ⟨rfl, l1k0_a0_7_0, u1k0_a0_7_0⟩))), (fun i9 => ([v42na0_8, (v39ni 0), (v39ni 1), (v39ni 2), (v39ni 3), (v39ni 4), (v39ni 5), (v39ni 6), (v39ni 7), (v39ni 8), (v39ni 9), (v39ni 10), (v39ni 11), (v39ni 12), (v39ni 13), (v39ni 14), (v39ni 15)] : List Int32).getD i9 0), (fun i9 => ([(v39nf 0), (v39nf 1), (v39nf 2), (v39nf 3), (v39nf 4), (v39nf 5)] : List (Nat → Int32)).getD i9 (fun _ => 0)), ⟨bv39na0_1.1, bv39na0_1.2⟩, ⟨bv39na0_4e0_1.1, bv39na0_4e0_1.2⟩, ⟨bv39na0_4e1_1.1, bv39na0_4e1_1.2⟩, ⟨bv39na0_4e2_1.1, bv39na0_4e2_1.2⟩, (show v42na0_8.toInt ≠ 4 from (by first | assumption | decide | omega)), by rw [ht]; exact hP, va_K.moved hW.alike hK, hD⟩, hS.F ht⟩) hS.2.2 dX7_image_45
      · subst hw
        refine va_calli (va_runV (As := [.int (-1)]) (rest := []) ⟨hx, hb, hml, hown, hts⟩ (c_X7_answered l dC dI H.size a0 (-1) a0g_0 (.ref a0_1) a0g_2 a0g_3 (.ref a0_4) a0g_5 a0g_6 (.ref a0_7) a0g_9 a0g_10 a0_8 ) (cwV 1 hts gX7_image_X7_answered rfl rfl rfl zd_X7_answered ⟨Nat.le_of_ble_eq_true rfl, Nat.le_of_ble_eq_true rfl⟩) ⟨ax_blind (fun _ _ _ _ _ => trivial), zr_7 (zp_K hK) (zp_P1 hP) (q0 := 0) rfl, ax_pre (zp_P1 hP) (zp_K hK) (zp_D1 hD) (fun _ _ => trivial)⟩ rfl rfl hl.1 rfl (lv_room (Nat.le_of_ble_eq_true rfl)) dX7_image_42 ⟨Nat.le_of_ble_eq_true rfl, Nat.le_of_ble_eq_true rfl⟩) hS (fun q _ h => zp_F1 hD hS hA q h) (zp_F1 hD hS hA) (fun r42 u t H locs ht hvm hw => zx_1 (fun v42na0_8 => zy_1 (fun hraw42_0 hB hz1 hk1 hS1 => zo1 hB ht hP hD hk1 (zp_F1 hD hS hA) hS1 (fun hP hK1 hD hS => ?_))))
        have hw : r42 = (-1) := hw
        have hw := hw.symm
        subst hw
        exact W.iret (v := (-1)) hx hb hr (fun t ht hW => ⟨⟨(-1), (), rfl, (Or.inr (Or.inr (Or.inr (rfl)))), (fun i9 => ([v42na0_8, (v39ni 0), (v39ni 1), (v39ni 2), (v39ni 3), (v39ni 4), (v39ni 5), (v39ni 6), (v39ni 7), (v39ni 8), (v39ni 9), (v39ni 10), (v39ni 11), (v39ni 12), (v39ni 13), (v39ni 14), (v39ni 15)] : List Int32).getD i9 0), (fun i9 => ([(v39nf 0), (v39nf 1), (v39nf 2), (v39nf 3), (v39nf 4), (v39nf 5)] : List (Nat → Int32)).getD i9 (fun _ => 0)), ⟨bv39na0_1.1, bv39na0_1.2⟩, ⟨bv39na0_4e0_1.1, bv39na0_4e0_1.2⟩, ⟨bv39na0_4e1_1.1, bv39na0_4e1_1.2⟩, ⟨bv39na0_4e2_1.1, bv39na0_4e2_1.2⟩, (show v42na0_8.toInt ≠ 4 from (by first | assumption | decide | omega)), by rw [ht]; exact hP, va_K.moved hW.alike hK, hD⟩, hS.F ht⟩) hS.2.2 dX7_image_45
    · have gc21 := ai_nlt c21
      have l21f_a0_4_1 : (3 : Int) ≤ a0_4_1.toInt := Int.le_trans zq8 gc21
      refine lv_aload_n hx hb dX7_image_24 rfl (lv_at hl 0 rfl) ?_
      refine lv_iconst (v := 3) hx hb dX7_image_25 zk_iconst_3 ?_
      refine va_calli (va_runV (As := [.int 3]) (rest := []) ⟨hx, hb, hml, hown, hts⟩ (c_X7_refused l dC dI H.size a0 3 a0g_0 (.ref a0_1) a0g_2 a0g_3 (.ref a0_4) a0g_5 a0g_6 (.ref a0_7) a0g_9 a0g_10 a0_8 (Int.le_trans zq11 zq8) zq9) (cwV 1 hts gX7_image_X7_refused rfl rfl rfl zd_X7_refused ⟨Nat.le_of_ble_eq_true rfl, Nat.le_of_ble_eq_true rfl⟩) ⟨ax_blind (fun _ _ _ _ _ => trivial), zr_7 (zp_K hK) (zp_P1 hP) (q0 := 0) rfl, ax_pre (zp_P1 hP) (zp_K hK) (zp_D1 hD) (fun _ _ => trivial)⟩ rfl rfl hl.1 rfl (lv_room (Nat.le_of_ble_eq_true rfl)) dX7_image_26 ⟨Nat.le_of_ble_eq_true rfl, Nat.le_of_ble_eq_true rfl⟩) hS (fun q _ h => zp_F1 hD hS hA q h) (zp_F1 hD hS hA) (fun r26 u t H locs ht hvm hw => zx_1 (fun v26na0_8 => zy_1 (fun hraw26_0 hB hz1 hk1 hS1 => zo1 hB ht hP hD hk1 (zp_F1 hD hS hA) hS1 (fun hP hK1 hD hS => ?_))))
      have hw : r26 = (-1) := hw
      have hw := hw.symm
      subst hw
      exact W.iret (v := (-1)) hx hb hr (fun t ht hW => ⟨⟨(-1), (), rfl, (Or.inr (Or.inr (Or.inr (rfl)))), (fun i9 => ([v26na0_8, a0_4_1, a0_4_4e0_0, a0_4_4e0_1, a0_4_4e0_2, a0_4_4e0_3, a0_4_4e0_4, a0_4_4e1_0, a0_4_4e1_1, a0_4_4e1_2, a0_4_4e1_3, a0_4_4e1_4, a0_4_4e2_0, a0_4_4e2_1, a0_4_4e2_2, a0_4_4e2_3, a0_4_4e2_4] : List Int32).getD i9 0), (fun i9 => ([fa0_4_4e0_5, fa0_4_4e0_6, fa0_4_4e1_5, fa0_4_4e1_6, fa0_4_4e2_5, fa0_4_4e2_6] : List (Nat → Int32)).getD i9 (fun _ => 0)), ⟨Int.le_trans (by decide) l21f_a0_4_1, ba0_4_1_u⟩, ⟨ba0_4_4e0_1_l, ba0_4_4e0_1_u⟩, ⟨ba0_4_4e1_1_l, ba0_4_4e1_1_u⟩, ⟨ba0_4_4e2_1_l, ba0_4_4e2_1_u⟩, (show v26na0_8.toInt ≠ 4 from (by first | assumption | decide | omega)), by rw [ht]; exact hP, va_K.moved hW.alike hK, hD⟩, hS.F ht⟩) hS.2.2 dX7_image_29
  · obtain ⟨hw, h1_0, h1_1⟩ := hw
    subst hw
    have l1k1_a0_7_0 : (0 : Int) ≤ a0_7_0.toInt := ba0_7_0_l
    have u1k1_a0_7_0 : a0_7_0.toInt ≤ (0 : Int) := h1_1
    refine lv_if_ne (tgt := 13) hx hb dX7_image_4 (by decide) (fun c4 => absurd (by decide +kernel) c4) (fun _ => ?_)
    refine lv_aload_n hx hb dX7_image_7 rfl (lv_at hl 0 rfl) ?_
    refine lv_iconst (v := 1) hx hb dX7_image_8 zk_iconst_1 ?_
    refine va_calli (va_runV (As := [.int 1]) (rest := []) ⟨hx, hb, hml, hown, hts⟩ (c_X7_refused l dC dI H.size a0 1 a0g_0 (.ref a0_1) a0g_2 a0g_3 (.ref a0_4) a0g_5 a0g_6 (.ref a0_7) a0g_9 a0g_10 a0_8 (Int.le_trans zq4 zq1) (Int.le_trans zq0 zq69)) (cwV 1 hts gX7_image_X7_refused rfl rfl rfl zd_X7_refused ⟨Nat.le_of_ble_eq_true rfl, Nat.le_of_ble_eq_true rfl⟩) ⟨ax_blind (fun _ _ _ _ _ => trivial), zr_7 (zp_K hK) (zp_P1 hP) (q0 := 0) rfl, ax_pre (zp_P1 hP) (zp_K hK) (zp_D1 hD) (fun _ _ => trivial)⟩ rfl rfl hl.1 rfl (lv_room (Nat.le_of_ble_eq_true rfl)) dX7_image_9 ⟨Nat.le_of_ble_eq_true rfl, Nat.le_of_ble_eq_true rfl⟩) hS (fun q _ h => zp_F1 hD hS hA q h) (zp_F1 hD hS hA) (fun r9 u t H locs ht hvm hw => zx_1 (fun v9na0_8 => zy_1 (fun hraw9_0 hB hz1 hk1 hS1 => zo1 hB ht hP hD hk1 (zp_F1 hD hS hA) hS1 (fun hP hK1 hD hS => ?_))))
    have hw : r9 = (-1) := hw
    have hw := hw.symm
    subst hw
    exact W.iret (v := (-1)) hx hb hr (fun t ht hW => ⟨⟨(-1), (), rfl, (Or.inr (Or.inr (Or.inr (rfl)))), (fun i9 => ([v9na0_8, a0_4_1, a0_4_4e0_0, a0_4_4e0_1, a0_4_4e0_2, a0_4_4e0_3, a0_4_4e0_4, a0_4_4e1_0, a0_4_4e1_1, a0_4_4e1_2, a0_4_4e1_3, a0_4_4e1_4, a0_4_4e2_0, a0_4_4e2_1, a0_4_4e2_2, a0_4_4e2_3, a0_4_4e2_4] : List Int32).getD i9 0), (fun i9 => ([fa0_4_4e0_5, fa0_4_4e0_6, fa0_4_4e1_5, fa0_4_4e1_6, fa0_4_4e2_5, fa0_4_4e2_6] : List (Nat → Int32)).getD i9 (fun _ => 0)), ⟨ba0_4_1_l, ba0_4_1_u⟩, ⟨ba0_4_4e0_1_l, ba0_4_4e0_1_u⟩, ⟨ba0_4_4e1_1_l, ba0_4_4e1_1_u⟩, ⟨ba0_4_4e2_1_l, ba0_4_4e2_1_u⟩, (show v9na0_8.toInt ≠ 4 from (by first | assumption | decide | omega)), by rw [ht]; exact hP, va_K.moved hW.alike hK, hD⟩, hS.F ht⟩) hS.2.2 dX7_image_12
end P128_safe
section P129_safe
set_option maxHeartbeats 4000000 in
set_option maxRecDepth 100000 in
set_option maxHeartbeats 4000000 in
set_option maxRecDepth 100000 in
theorem c_X7_back (l : Launch) (dC : Nat → ClassId) (dI : Nat → Nat → Nat) (sz : Nat) (a0 : Nat) (a1 : Int32) (a0g_0 a0g_2 a0g_3 a0g_5 a0g_6 a0g_7 a0g_9 a0g_10 : Value) (a0_1 : Nat) (a0_4 : Nat) (a0_8 : Int32) (a0_4_0 : Int32) (a0_4_1 : Int32) (a0_4g_2 a0_4g_3 : Value) (a0_4_4 : Nat) (ka0_4_4 : ClassId) (a0_4_4e0 : Nat) (a0_4_4e1 : Nat) (a0_4_4e2 : Nat) (a0_1_0 : Int32) (a0_1_1 : Int32) (a0_1_2 : Int32) (a0_1_3 : Int32) (a0_1_4 : Int32) (a0_1_5 : Nat) (a0_1_6 : Nat) (a0_4_4e0_0 : Int32) (a0_4_4e0_1 : Int32) (a0_4_4e0_2 : Int32) (a0_4_4e0_3 : Int32) (a0_4_4e0_4 : Int32) (a0_4_4e0_5 : Nat) (a0_4_4e0_6 : Nat) (ka0_4_4e0_5 : ClassId) (fa0_4_4e0_5 : Nat → Int32) (ka0_1_5 : ClassId) (fa0_1_5 : Nat → Int32) (ka0_4_4e0_6 : ClassId) (fa0_4_4e0_6 : Nat → Int32) (ka0_1_6 : ClassId) (fa0_1_6 : Nat → Int32) (a0_4_4e1_0 : Int32) (a0_4_4e1_1 : Int32) (a0_4_4e1_2 : Int32) (a0_4_4e1_3 : Int32) (a0_4_4e1_4 : Int32) (a0_4_4e1_5 : Nat) (a0_4_4e1_6 : Nat) (ka0_4_4e1_5 : ClassId) (fa0_4_4e1_5 : Nat → Int32) (ka0_4_4e1_6 : ClassId) (fa0_4_4e1_6 : Nat → Int32) (a0_4_4e2_0 : Int32) (a0_4_4e2_1 : Int32) (a0_4_4e2_2 : Int32) (a0_4_4e2_3 : Int32) (a0_4_4e2_4 : Int32) (a0_4_4e2_5 : Nat) (a0_4_4e2_6 : Nat) (ka0_4_4e2_5 : ClassId) (fa0_4_4e2_5 : Nat → Int32) (ka0_4_4e2_6 : ClassId) (fa0_4_4e2_6 : Nat → Int32) (ba0_4_0_l : (0 : Int) ≤ a0_4_0.toInt) (ba0_4_0_u : a0_4_0.toInt ≤ (16 : Int)) (ba0_4_1_l : (0 : Int) ≤ a0_4_1.toInt) (ba0_4_1_u : a0_4_1.toInt ≤ (3 : Int)) (ba0_1_1_l : (0 : Int) ≤ a0_1_1.toInt) (ba0_1_1_u : a0_1_1.toInt ≤ (8 : Int)) (ba0_4_4e0_1_l : (0 : Int) ≤ a0_4_4e0_1.toInt) (ba0_4_4e0_1_u : a0_4_4e0_1.toInt ≤ (8 : Int)) (ba0_4_4e1_1_l : (0 : Int) ≤ a0_4_4e1_1.toInt) (ba0_4_4e1_1_u : a0_4_4e1_1.toInt ≤ (8 : Int)) (ba0_4_4e2_1_l : (0 : Int) ≤ a0_4_4e2_1.toInt) (ba0_4_4e2_1_u : a0_4_4e2_1.toInt ≤ (8 : Int)) : zm l yX7_back wsX7_back ({ frames := 2, cells := 0, slots := 0, locals := 44 }) [.ref a0, .int a1] dC dI sz [(a0, .inr (7, [a0g_0, .ref a0_1, a0g_2, a0g_3, .ref a0_4, a0g_5, a0g_6, a0g_7, .int a0_8, a0g_9, a0g_10])), (a0_4, .inr (1, [.int a0_4_0, .int a0_4_1, a0_4g_2, a0_4g_3, .ref a0_4_4])), (a0_4_4, .inl (ka0_4_4, 3, .inr (.inr (.inr (.inr (fun i9 => ([some a0_4_4e0, some a0_4_4e1, some a0_4_4e2] : List (Option Nat)).getD i9 none)))))), (a0_1, .inr (5, [.int a0_1_0, .int a0_1_1, .int a0_1_2, .int a0_1_3, .int a0_1_4, .ref a0_1_5, .ref a0_1_6])), (a0_4_4e0, .inr (5, [.int a0_4_4e0_0, .int a0_4_4e0_1, .int a0_4_4e0_2, .int a0_4_4e0_3, .int a0_4_4e0_4, .ref a0_4_4e0_5, .ref a0_4_4e0_6])), (a0_4_4e0_5, .inl (ka0_4_4e0_5, 9, .inl (fa0_4_4e0_5))), (a0_1_5, .inl (ka0_1_5, 9, .inl (fa0_1_5))), (a0_4_4e0_6, .inl (ka0_4_4e0_6, 9, .inl (fa0_4_4e0_6))), (a0_1_6, .inl (ka0_1_6, 9, .inl (fa0_1_6))), (a0_4_4e1, .inr (5, [.int a0_4_4e1_0, .int a0_4_4e1_1, .int a0_4_4e1_2, .int a0_4_4e1_3, .int a0_4_4e1_4, .ref a0_4_4e1_5, .ref a0_4_4e1_6])), (a0_4_4e1_5, .inl (ka0_4_4e1_5, 9, .inl (fa0_4_4e1_5))), (a0_4_4e1_6, .inl (ka0_4_4e1_6, 9, .inl (fa0_4_4e1_6))), (a0_4_4e2, .inr (5, [.int a0_4_4e2_0, .int a0_4_4e2_1, .int a0_4_4e2_2, .int a0_4_4e2_3, .int a0_4_4e2_4, .ref a0_4_4e2_5, .ref a0_4_4e2_6])), (a0_4_4e2_5, .inl (ka0_4_4e2_5, 9, .inl (fa0_4_4e2_5))), (a0_4_4e2_6, .inl (ka0_4_4e2_6, 9, .inl (fa0_4_4e2_6)))] [(ka0_4_4, (.object RX5)), (ka0_4_4e0_5, .int), (ka0_1_5, .int), (ka0_4_4e0_6, .int), (ka0_1_6, .int), (ka0_4_4e1_5, .int), (ka0_4_4e1_6, .int), (ka0_4_4e2_5, .int), (ka0_4_4e2_6, .int)] (fun A U => va_Nw (.methodLinkNest RX1 41 yX7_within RX7) U) (fun A => va_Qi (fun (r : Int32) (_ : Unit) => (r = 1 ∧ (0 : Int) ≤ a1.toInt ∧ a1.toInt ≤ (2 : Int) ∧ (1 : Int) ≤ a0_4_1.toInt ∧ a0_4_1.toInt ≤ (3 : Int)) ∨ (r = 0)) (fun (_ : Unit) (t : State) => ∃ na0_8 : Int32, ∃ na0_4_0 : Int32, ∃ na0_1_0 : Int32, ∃ na0_1_1 : Int32, ∃ na0_1_2 : Int32, ∃ na0_1_3 : Int32, ∃ na0_1_4 : Int32, ∃ nfa0_1_5 : Nat → Int32, ∃ nfa0_1_6 : Nat → Int32, ((0 : Int) ≤ na0_4_0.toInt ∧ na0_4_0.toInt ≤ 16) ∧ ((0 : Int) ≤ na0_1_1.toInt ∧ na0_1_1.toInt ≤ 8) ∧ na0_8.toInt ≠ 4 ∧ ax_B dC dI A [(a0, .inr (7, [a0g_0, .ref a0_1, a0g_2, a0g_3, .ref a0_4, a0g_5, a0g_6, a0g_7, .int na0_8, a0g_9, a0g_10])), (a0_4, .inr (1, [.int na0_4_0, .int a0_4_1, a0_4g_2, a0_4g_3, .ref a0_4_4])), (a0_4_4, .inl (ka0_4_4, 3, .inr (.inr (.inr (.inr (fun i9 => ([some a0_4_4e0, some a0_4_4e1, some a0_4_4e2] : List (Option Nat)).getD i9 none)))))), (a0_1, .inr (5, [.int na0_1_0, .int na0_1_1, .int na0_1_2, .int na0_1_3, .int na0_1_4, .ref a0_1_5, .ref a0_1_6])), (a0_4_4e0, .inr (5, [.int a0_4_4e0_0, .int a0_4_4e0_1, .int a0_4_4e0_2, .int a0_4_4e0_3, .int a0_4_4e0_4, .ref a0_4_4e0_5, .ref a0_4_4e0_6])), (a0_4_4e0_5, .inl (ka0_4_4e0_5, 9, .inl (fa0_4_4e0_5))), (a0_1_5, .inl (ka0_1_5, 9, .inl (nfa0_1_5))), (a0_4_4e0_6, .inl (ka0_4_4e0_6, 9, .inl (fa0_4_4e0_6))), (a0_1_6, .inl (ka0_1_6, 9, .inl (nfa0_1_6))), (a0_4_4e1, .inr (5, [.int a0_4_4e1_0, .int a0_4_4e1_1, .int a0_4_4e1_2, .int a0_4_4e1_3, .int a0_4_4e1_4, .ref a0_4_4e1_5, .ref a0_4_4e1_6])), (a0_4_4e1_5, .inl (ka0_4_4e1_5, 9, .inl (fa0_4_4e1_5))), (a0_4_4e1_6, .inl (ka0_4_4e1_6, 9, .inl (fa0_4_4e1_6))), (a0_4_4e2, .inr (5, [.int a0_4_4e2_0, .int a0_4_4e2_1, .int a0_4_4e2_2, .int a0_4_4e2_3, .int a0_4_4e2_4, .ref a0_4_4e2_5, .ref a0_4_4e2_6])), (a0_4_4e2_5, .inl (ka0_4_4e2_5, 9, .inl (fa0_4_4e2_5))), (a0_4_4e2_6, .inl (ka0_4_4e2_6, 9, .inl (fa0_4_4e2_6)))] [(ka0_4_4, (.object RX5)), (ka0_4_4e0_5, .int), (ka0_1_5, .int), (ka0_4_4e0_6, .int), (ka0_1_6, .int), (ka0_4_4e1_5, .int), (ka0_4_4e1_6, .int), (ka0_4_4e2_5, .int), (ka0_4_4e2_6, .int)] t) A) := by
  refine zh (cc := cX7_back) (maxL := 3) (ret := (some .boolean)) zn_RX7 rfl (Nat.le_of_ble_eq_true rfl) (fun p e s m below meth c A ls hx hb hml hr hts (hown : s.vm.findClass RX7 = some m.cls) hlocks hA hS hP hK hD hE (hl : lv_has ls 3 [(0, .ref a0), (1, .int a1)]) => ?_)
  have hE0 := hE
  refine lv_aload_n hx hb dX7_back_0 rfl (lv_at hl 0 rfl) ?_
  refine va_get (D := (dC, dI)) (ci := 7) (v := .ref a0_4) (C := RX7) (T := TX7) (N := 11) hx hb hts zi_X7_back_7 hown hK hP 0 rfl rfl 4 (by decide) (hts (.fieldLink RX7 36 "WaxTurns" "history" "LWaxTurns$History;") (zm_X7_back_r1 (List.mem_of_getElem? (i := 0) rfl))) (fun _ h9 => h9) rfl dX7_back_1 ?_
  refine lv_iload_n hx hb dX7_back_4 rfl (lv_at hl 1 rfl) ?_
  refine lv_aload_n hx hb dX7_back_5 rfl (lv_at hl 0 rfl) ?_
  refine va_get (D := (dC, dI)) (ci := 7) (v := .ref a0_1) (C := RX7) (T := TX7) (N := 11) hx hb hts zi_X7_back_7 hown hK hP 0 rfl rfl 1 (by decide) (hts (.fieldLink RX7 19 "WaxTurns" "now" "LWaxTurns$Scene;") (zm_X7_back_r1 (List.mem_of_getElem? (i := 1) rfl))) (fun _ h9 => h9) rfl dX7_back_6 ?_
  refine zc_cutc (wc := [(a0_4, .inr (1, [.int a0_4_0, .int a0_4_1, a0_4g_2, a0_4g_3, .ref a0_4_4])), (a0_4_4, .inl (ka0_4_4, 3, .inr (.inr (.inr (.inr (fun i9 => ([some a0_4_4e0, some a0_4_4e1, some a0_4_4e2] : List (Option Nat)).getD i9 none)))))), (a0_1, .inr (5, [.int a0_1_0, .int a0_1_1, .int a0_1_2, .int a0_1_3, .int a0_1_4, .ref a0_1_5, .ref a0_1_6])), (a0_4_4e0, .inr (5, [.int a0_4_4e0_0, .int a0_4_4e0_1, .int a0_4_4e0_2, .int a0_4_4e0_3, .int a0_4_4e0_4, .ref a0_4_4e0_5, .ref a0_4_4e0_6])), (a0_4_4e0_5, .inl (ka0_4_4e0_5, 9, .inl (fa0_4_4e0_5))), (a0_1_5, .inl (ka0_1_5, 9, .inl (fa0_1_5))), (a0_4_4e0_6, .inl (ka0_4_4e0_6, 9, .inl (fa0_4_4e0_6))), (a0_1_6, .inl (ka0_1_6, 9, .inl (fa0_1_6))), (a0_4_4e1, .inr (5, [.int a0_4_4e1_0, .int a0_4_4e1_1, .int a0_4_4e1_2, .int a0_4_4e1_3, .int a0_4_4e1_4, .ref a0_4_4e1_5, .ref a0_4_4e1_6])), (a0_4_4e1_5, .inl (ka0_4_4e1_5, 9, .inl (fa0_4_4e1_5))), (a0_4_4e1_6, .inl (ka0_4_4e1_6, 9, .inl (fa0_4_4e1_6))), (a0_4_4e2, .inr (5, [.int a0_4_4e2_0, .int a0_4_4e2_1, .int a0_4_4e2_2, .int a0_4_4e2_3, .int a0_4_4e2_4, .ref a0_4_4e2_5, .ref a0_4_4e2_6])), (a0_4_4e2_5, .inl (ka0_4_4e2_5, 9, .inl (fa0_4_4e2_5))), (a0_4_4e2_6, .inl (ka0_4_4e2_6, 9, .inl (fa0_4_4e2_6)))]) hP hD hS hA [1, 2, 3, 4, 5, 6, 7, 8, 9, 10, 11, 12, 13, 14] (by decide +kernel) rfl (fun hPc hDc hFc hCc => ?_)
  have hKc := hK.sub (tys' := [(ka0_4_4, (.object RX5)), (ka0_4_4e0_5, .int), (ka0_1_5, .int), (ka0_4_4e0_6, .int), (ka0_1_6, .int), (ka0_4_4e1_5, .int), (ka0_4_4e1_6, .int), (ka0_4_4e2_5, .int), (ka0_4_4e2_6, .int)]) [0, 1, 2, 3, 4, 5, 6, 7, 8] rfl
  refine va_calli (va_runV (As := [.int a1, .ref a0_1]) (rest := []) ⟨hx, hb, hml, hown, hts⟩ (c_X1_goBack l dC dI s.heap.size a0_4 a1 a0_1 a0_4_0 a0_4_1 a0_4g_2 a0_4g_3 a0_4_4 ka0_4_4 a0_4_4e0 a0_4_4e1 a0_4_4e2 a0_1_0 a0_1_1 a0_1_2 a0_1_3 a0_1_4 a0_1_5 a0_1_6 a0_4_4e0_0 a0_4_4e0_1 a0_4_4e0_2 a0_4_4e0_3 a0_4_4e0_4 a0_4_4e0_5 a0_4_4e0_6 ka0_4_4e0_5 fa0_4_4e0_5 ka0_1_5 fa0_1_5 ka0_4_4e0_6 fa0_4_4e0_6 ka0_1_6 fa0_1_6 a0_4_4e1_0 a0_4_4e1_1 a0_4_4e1_2 a0_4_4e1_3 a0_4_4e1_4 a0_4_4e1_5 a0_4_4e1_6 ka0_4_4e1_5 fa0_4_4e1_5 ka0_4_4e1_6 fa0_4_4e1_6 a0_4_4e2_0 a0_4_4e2_1 a0_4_4e2_2 a0_4_4e2_3 a0_4_4e2_4 a0_4_4e2_5 a0_4_4e2_6 ka0_4_4e2_5 fa0_4_4e2_5 ka0_4_4e2_6 fa0_4_4e2_6 ba0_4_0_l ba0_4_0_u ba0_4_1_l ba0_4_1_u ba0_1_1_l ba0_1_1_u ba0_4_4e0_1_l ba0_4_4e0_1_u ba0_4_4e1_1_l ba0_4_4e1_1_u ba0_4_4e2_1_l ba0_4_4e2_1_u) (cwV 2 hts gX7_back_X1_goBack rfl rfl rfl zd_X1_goBack ⟨Nat.le_of_ble_eq_true rfl, Nat.le_of_ble_eq_true rfl⟩) ⟨ax_blind (fun _ _ _ _ hq => va_Nw.same rfl rfl (hq)), zr_1 hKc hPc (q0 := 0) rfl, ax_pre hPc hKc hDc (fun _ hW => va_Nw.warmM hW hE0)⟩ rfl rfl hl.1 rfl (lv_room (Nat.le_of_ble_eq_true rfl)) dX7_back_9 ⟨Nat.le_of_ble_eq_true rfl, Nat.le_of_ble_eq_true rfl⟩) hS (fun q _ h => hFc q h) hFc (fun r9 u t H locs ht hvm hw => zx_8 (fun v9na0_0 v9na2_0 v9na2_1 v9na2_2 v9na2_3 v9na2_4 v9nfa2_5 v9nfa2_6 => zy_2 (fun bv9na0_0 bv9na2_1 hB hz1 hk1 hS1 => zo hB ht hS1 (fun hP1 hK1 hD1 hS => ?_))))
  refine zc_backc (w := [(a0, .inr (7, [a0g_0, .ref a0_1, a0g_2, a0g_3, .ref a0_4, a0g_5, a0g_6, a0g_7, .int a0_8, a0g_9, a0g_10])), (a0_4, .inr (1, [.int v9na0_0, .int a0_4_1, a0_4g_2, a0_4g_3, .ref a0_4_4])), (a0_4_4, .inl (ka0_4_4, 3, .inr (.inr (.inr (.inr (fun i9 => ([some a0_4_4e0, some a0_4_4e1, some a0_4_4e2] : List (Option Nat)).getD i9 none)))))), (a0_1, .inr (5, [.int v9na2_0, .int v9na2_1, .int v9na2_2, .int v9na2_3, .int v9na2_4, .ref a0_1_5, .ref a0_1_6])), (a0_4_4e0, .inr (5, [.int a0_4_4e0_0, .int a0_4_4e0_1, .int a0_4_4e0_2, .int a0_4_4e0_3, .int a0_4_4e0_4, .ref a0_4_4e0_5, .ref a0_4_4e0_6])), (a0_4_4e0_5, .inl (ka0_4_4e0_5, 9, .inl (fa0_4_4e0_5))), (a0_1_5, .inl (ka0_1_5, 9, .inl (v9nfa2_5))), (a0_4_4e0_6, .inl (ka0_4_4e0_6, 9, .inl (fa0_4_4e0_6))), (a0_1_6, .inl (ka0_1_6, 9, .inl (v9nfa2_6))), (a0_4_4e1, .inr (5, [.int a0_4_4e1_0, .int a0_4_4e1_1, .int a0_4_4e1_2, .int a0_4_4e1_3, .int a0_4_4e1_4, .ref a0_4_4e1_5, .ref a0_4_4e1_6])), (a0_4_4e1_5, .inl (ka0_4_4e1_5, 9, .inl (fa0_4_4e1_5))), (a0_4_4e1_6, .inl (ka0_4_4e1_6, 9, .inl (fa0_4_4e1_6))), (a0_4_4e2, .inr (5, [.int a0_4_4e2_0, .int a0_4_4e2_1, .int a0_4_4e2_2, .int a0_4_4e2_3, .int a0_4_4e2_4, .ref a0_4_4e2_5, .ref a0_4_4e2_6])), (a0_4_4e2_5, .inl (ka0_4_4e2_5, 9, .inl (fa0_4_4e2_5))), (a0_4_4e2_6, .inl (ka0_4_4e2_6, 9, .inl (fa0_4_4e2_6)))]) hP hD hCc hk1 hFc hP1 hD1 [.inl 0, .inr 0, .inr 1, .inr 2, .inr 3, .inr 4, .inr 5, .inr 6, .inr 7, .inr 8, .inr 9, .inr 10, .inr 11, .inr 12, .inr 13] (by decide +kernel) rfl (fun hP hD => ?_)
  rcases hw with hw | hw
  · obtain ⟨hw, h9_0, h9_1, h9_2, h9_3⟩ := hw
    subst hw
    have l9k0_a1 : (0 : Int) ≤ a1.toInt := h9_0
    have u9k0_a1 : a1.toInt ≤ (2 : Int) := h9_1
    have l9k0_a0_4_1 : (1 : Int) ≤ a0_4_1.toInt := h9_2
    have u9k0_a0_4_1 : a0_4_1.toInt ≤ (3 : Int) := ba0_4_1_u
    refine lv_istore_n (lv' := [(2, .int 1), (0, .ref a0), (1, .int a1)]) hx hb dX7_back_12 rfl hl (by decide) rfl (fun ls hl => ?_)
    refine lv_aload_n hx hb dX7_back_13 rfl (lv_at hl 1 rfl) ?_
    refine lv_iload_n hx hb dX7_back_14 rfl (lv_at hl 0 rfl) ?_
    refine lv_if_eq (tgt := 22) hx hb dX7_back_15 (by decide) (fun c15 => absurd c15 (by decide +kernel)) (fun _ => ?_)
    refine lv_iconst (v := 0) hx hb dX7_back_18 zk_iconst_0 ?_
    refine lv_goto (tgt := 23) hx hb dX7_back_19 (by decide) ?_
    refine va_put (D := (dC, dI)) (ci := 7) (v := .int 0) (ty := .int) (C := RX7) (T := TX7) (N := 11) hx hb hts zi_X7_back_7 tyX7 tyX7_ok nmX7 hown hK hP hD hS 0 rfl rfl 8 (by decide) (hts (.fieldLink RX7 61 "WaxTurns" "latestTrouble" "I") (zm_X7_back_r1 (List.mem_of_getElem? (i := 2) rfl))) (fun _ h9 => h9) rfl (tyX7_ok 8 (by decide)) rfl rfl (Nat.le_of_ble_eq_true rfl) dX7_back_23 (fun H locs hP hD hS => ?_)
    refine zs_0 (y := (a0, .inr (7, [a0g_0, .ref a0_1, a0g_2, a0g_3, .ref a0_4, a0g_5, a0g_6, a0g_7, .int 0, a0g_9, a0g_10]))) hP hD rfl (fun hP hD => ?_)
    refine lv_iload_n hx hb dX7_back_26 rfl (lv_at hl 0 rfl) ?_
    exact W.zret (v := 1) hx hb hr rfl (fun t ht hW => ⟨⟨1, (), rfl, (Or.inl ⟨rfl, l9k0_a1, u9k0_a1, l9k0_a0_4_1, u9k0_a0_4_1⟩), 0, v9na0_0, v9na2_0, v9na2_1, v9na2_2, v9na2_3, v9na2_4, v9nfa2_5, v9nfa2_6, ⟨bv9na0_0.1, bv9na0_0.2⟩, ⟨bv9na2_1.1, bv9na2_1.2⟩, (by first | assumption | decide | omega), by rw [ht]; exact hP, va_K.moved hW.alike hK, hD⟩, hS.F ht⟩) hS.2.2 dX7_back_27
  · subst hw
    refine lv_istore_n (lv' := [(2, .int 0), (0, .ref a0), (1, .int a1)]) hx hb dX7_back_12 rfl hl (by decide) rfl (fun ls hl => ?_)
    refine lv_aload_n hx hb dX7_back_13 rfl (lv_at hl 1 rfl) ?_
    refine lv_iload_n hx hb dX7_back_14 rfl (lv_at hl 0 rfl) ?_
    refine lv_if_eq (tgt := 22) hx hb dX7_back_15 (by decide) (fun _ => ?_) (fun c15 => absurd (by decide +kernel) c15)
    refine lv_iconst (v := 1) hx hb dX7_back_22 zk_iconst_1 ?_
    refine va_put (D := (dC, dI)) (ci := 7) (v := .int 1) (ty := .int) (C := RX7) (T := TX7) (N := 11) hx hb hts zi_X7_back_7 tyX7 tyX7_ok nmX7 hown hK hP hD hS 0 rfl rfl 8 (by decide) (hts (.fieldLink RX7 61 "WaxTurns" "latestTrouble" "I") (zm_X7_back_r1 (List.mem_of_getElem? (i := 2) rfl))) (fun _ h9 => h9) rfl (tyX7_ok 8 (by decide)) rfl rfl (Nat.le_of_ble_eq_true rfl) dX7_back_23 (fun H locs hP hD hS => ?_)
    refine zs_0 (y := (a0, .inr (7, [a0g_0, .ref a0_1, a0g_2, a0g_3, .ref a0_4, a0g_5, a0g_6, a0g_7, .int 1, a0g_9, a0g_10]))) hP hD rfl (fun hP hD => ?_)
    refine lv_iload_n hx hb dX7_back_26 rfl (lv_at hl 0 rfl) ?_
    exact W.zret (v := 0) hx hb hr rfl (fun t ht hW => ⟨⟨0, (), rfl, (Or.inr (rfl)), 1, v9na0_0, v9na2_0, v9na2_1, v9na2_2, v9na2_3, v9na2_4, v9nfa2_5, v9nfa2_6, ⟨bv9na0_0.1, bv9na0_0.2⟩, ⟨bv9na2_1.1, bv9na2_1.2⟩, (by first | assumption | decide | omega), by rw [ht]; exact hP, va_K.moved hW.alike hK, hD⟩, hS.F ht⟩) hS.2.2 dX7_back_27
set_option maxHeartbeats 4000000 in
set_option maxRecDepth 100000 in
theorem c_X7_size (l : Launch) (dC : Nat → ClassId) (dI : Nat → Nat → Nat) (sz : Nat) (a0 : Nat) (a1 : Int32) (a0_0 : Nat) (a0_1 : Nat) (a0g_2 a0g_3 a0g_5 a0g_6 a0g_8 a0g_9 a0g_10 : Value) (a0_4 : Nat) (a0_7 : Nat) (a0_1_0 : Int32) (a0_1g_1 a0_1g_2 a0_1g_3 a0_1g_4 a0_1g_5 a0_1g_6 : Value) (a0_4_0 : Int32) (a0_4_1 : Int32) (a0_4g_2 a0_4g_3 a0_4g_4 : Value) (a0_0_0 : Int32) (a0_0g_1 a0_0g_2 a0_0g_3 a0_0g_4 a0_0g_5 a0_0g_6 a0_0g_7 a0_0g_8 a0_0g_9 a0_0g_10 a0_0g_11 a0_0g_12 a0_0g_13 : Value) (a0_7_0 : Int32) (a0_7_1 : Int32) (a0_7_2 : Int32) (a0_7_3 : Int32) (a0_7g_4 a0_7g_10 a0_7g_11 a0_7g_12 a0_7g_13 : Value) (a0_7_5 : Int32) (a0_7_6 : Int32) (a0_7_7 : Int32) (a0_7_8 : Int32) (a0_7_9 : Int32) (a0_7_14 : Nat) (a0_7_14_0 : Int32) (a0_7_14g_1 a0_7_14g_2 a0_7_14g_3 : Value) (ba0_4_0_l : (0 : Int) ≤ a0_4_0.toInt) (ba0_4_0_u : a0_4_0.toInt ≤ (16 : Int)) (ba0_4_1_l : (0 : Int) ≤ a0_4_1.toInt) (ba0_4_1_u : a0_4_1.toInt ≤ (3 : Int)) (ba0_0_0_l : (0 : Int) ≤ a0_0_0.toInt) (ba0_0_0_u : a0_0_0.toInt ≤ (900 : Int)) (ba0_7_0_l : (0 : Int) ≤ a0_7_0.toInt) (ba0_7_0_u : a0_7_0.toInt ≤ (9 : Int)) (ba0_7_5_l : (0 : Int) ≤ a0_7_5.toInt) (ba0_7_5_u : a0_7_5.toInt ≤ (8 : Int)) (ba0_7_6_l : (0 : Int) ≤ a0_7_6.toInt) (ba0_7_6_u : a0_7_6.toInt ≤ (8 : Int)) (ba0_7_7_l : (0 : Int) ≤ a0_7_7.toInt) (ba0_7_7_u : a0_7_7.toInt ≤ (8 : Int)) (ba0_7_9_l : (0 : Int) ≤ a0_7_9.toInt) (ba0_7_9_u : a0_7_9.toInt ≤ (6 : Int)) (ba0_7_14_0_l : (0 : Int) ≤ a0_7_14_0.toInt) (ba0_7_14_0_u : a0_7_14_0.toInt ≤ (3 : Int)) : zm l yX7_size wsX7_size ({ frames := 2, cells := 0, slots := 0, locals := 41 }) [.ref a0, .int a1] dC dI sz [(a0, .inr (7, [.ref a0_0, .ref a0_1, a0g_2, a0g_3, .ref a0_4, a0g_5, a0g_6, .ref a0_7, a0g_8, a0g_9, a0g_10])), (a0_1, .inr (5, [.int a0_1_0, a0_1g_1, a0_1g_2, a0_1g_3, a0_1g_4, a0_1g_5, a0_1g_6])), (a0_4, .inr (1, [.int a0_4_0, .int a0_4_1, a0_4g_2, a0_4g_3, a0_4g_4])), (a0_0, .inr (3, [.int a0_0_0, a0_0g_1, a0_0g_2, a0_0g_3, a0_0g_4, a0_0g_5, a0_0g_6, a0_0g_7, a0_0g_8, a0_0g_9, a0_0g_10, a0_0g_11, a0_0g_12, a0_0g_13])), (a0_7, .inr (0, [.int a0_7_0, .int a0_7_1, .int a0_7_2, .int a0_7_3, a0_7g_4, .int a0_7_5, .int a0_7_6, .int a0_7_7, .int a0_7_8, .int a0_7_9, a0_7g_10, a0_7g_11, a0_7g_12, a0_7g_13, .ref a0_7_14])), (a0_7_14, .inr (6, [.int a0_7_14_0, a0_7_14g_1, a0_7_14g_2, a0_7_14g_3]))] [] (fun A _ => True) (fun A => va_Qi (fun (r : Int32) (_ : Unit) => True) (fun (_ : Unit) (t : State) => ax_B dC dI A [(a0, .inr (7, [.ref a0_0, .ref a0_1, a0g_2, a0g_3, .ref a0_4, a0g_5, a0g_6, .ref a0_7, a0g_8, a0g_9, a0g_10])), (a0_1, .inr (5, [.int a0_1_0, a0_1g_1, a0_1g_2, a0_1g_3, a0_1g_4, a0_1g_5, a0_1g_6])), (a0_4, .inr (1, [.int a0_4_0, .int a0_4_1, a0_4g_2, a0_4g_3, a0_4g_4])), (a0_0, .inr (3, [.int a0_0_0, a0_0g_1, a0_0g_2, a0_0g_3, a0_0g_4, a0_0g_5, a0_0g_6, a0_0g_7, a0_0g_8, a0_0g_9, a0_0g_10, a0_0g_11, a0_0g_12, a0_0g_13])), (a0_7, .inr (0, [.int a0_7_0, .int a0_7_1, .int a0_7_2, .int a0_7_3, a0_7g_4, .int a0_7_5, .int a0_7_6, .int a0_7_7, .int a0_7_8, .int a0_7_9, a0_7g_10, a0_7g_11, a0_7g_12, a0_7g_13, .ref a0_7_14])), (a0_7_14, .inr (6, [.int a0_7_14_0, a0_7_14g_1, a0_7_14g_2, a0_7_14g_3]))] [] t) A) := by
  refine zh (cc := cX7_size) (maxL := 2) (ret := (some .int)) zn_RX7 rfl (Nat.le_of_ble_eq_true rfl) (fun p e s m below meth c A ls hx hb hml hr hts (hown : s.vm.findClass RX7 = some m.cls) hlocks hA hS hP hK hD hE (hl : lv_has ls 2 [(0, .ref a0), (1, .int a1)]) => ?_)
  refine lv_iload_n hx hb dX7_size_0 rfl (lv_at hl 1 rfl) ?_
  by_cases n_1 : a1 = 10
  · subst n_1
    refine lv_tableIn (off := 31) (tgt := 32) hx hb dX7_size_1 (by decide) (by decide) (by decide +kernel) (by decide) ?_
    refine lv_aload_n hx hb dX7_size_32 rfl (lv_at hl 0 rfl) ?_
    refine va_get (D := (dC, dI)) (ci := 7) (v := .ref a0_1) (C := RX7) (T := TX7) (N := 11) hx hb hts zi_X7_size_7 hown hK hP 0 rfl rfl 1 (by decide) (hts (.fieldLink RX7 19 "WaxTurns" "now" "LWaxTurns$Scene;") (zm_X7_size_r1 (List.mem_of_getElem? (i := 0) rfl))) (fun _ h9 => h9) rfl dX7_size_33 ?_
    refine va_get (D := (dC, dI)) (ci := 5) (v := .int a0_1_0) (C := RX5) (T := TX5) (N := 7) hx hb hts zi_X7_size_5 hown hK hP 1 rfl rfl 0 (by decide) (hts (.fieldLink RX7 147 "WaxTurns$Scene" "minute" "I") (zm_X7_size_r1 (List.mem_of_getElem? (i := 1) rfl))) (fun _ h9 => h9) rfl dX7_size_36 ?_
    exact W.iret (v := a0_1_0) hx hb hr (fun t ht hW => ⟨⟨a0_1_0, (), rfl, trivial, by rw [ht]; exact hP, va_K.moved hW.alike hK, hD⟩, hS.F ht⟩) hS.2.2 dX7_size_39
  by_cases n_2 : a1 = 11
  · subst n_2
    refine lv_tableIn (off := 39) (tgt := 40) hx hb dX7_size_1 (by decide) (by decide) (by decide +kernel) (by decide) ?_
    refine lv_aload_n hx hb dX7_size_40 rfl (lv_at hl 0 rfl) ?_
    refine va_get (D := (dC, dI)) (ci := 7) (v := .ref a0_4) (C := RX7) (T := TX7) (N := 11) hx hb hts zi_X7_size_7 hown hK hP 0 rfl rfl 4 (by decide) (hts (.fieldLink RX7 36 "WaxTurns" "history" "LWaxTurns$History;") (zm_X7_size_r1 (List.mem_of_getElem? (i := 2) rfl))) (fun _ h9 => h9) rfl dX7_size_41 ?_
    refine va_get (D := (dC, dI)) (ci := 1) (v := .int a0_4_0) (C := RX1) (T := TX1) (N := 5) hx hb hts zi_X7_size_1 hown hK hP 2 rfl rfl 0 (by decide) (hts (.fieldLink RX7 355 "WaxTurns$History" "keptCount" "I") (zm_X7_size_r1 (List.mem_of_getElem? (i := 3) rfl))) (fun _ h9 => h9) rfl dX7_size_44 ?_
    exact W.iret (v := a0_4_0) hx hb hr (fun t ht hW => ⟨⟨a0_4_0, (), rfl, trivial, by rw [ht]; exact hP, va_K.moved hW.alike hK, hD⟩, hS.F ht⟩) hS.2.2 dX7_size_47
  by_cases n_3 : a1 = 12
  · subst n_3
    refine lv_tableIn (off := 47) (tgt := 48) hx hb dX7_size_1 (by decide) (by decide) (by decide +kernel) (by decide) ?_
    refine lv_aload_n hx hb dX7_size_48 rfl (lv_at hl 0 rfl) ?_
    refine va_get (D := (dC, dI)) (ci := 7) (v := .ref a0_4) (C := RX7) (T := TX7) (N := 11) hx hb hts zi_X7_size_7 hown hK hP 0 rfl rfl 4 (by decide) (hts (.fieldLink RX7 36 "WaxTurns" "history" "LWaxTurns$History;") (zm_X7_size_r1 (List.mem_of_getElem? (i := 2) rfl))) (fun _ h9 => h9) rfl dX7_size_49 ?_
    refine va_get (D := (dC, dI)) (ci := 1) (v := .int a0_4_1) (C := RX1) (T := TX1) (N := 5) hx hb hts zi_X7_size_1 hown hK hP 2 rfl rfl 1 (by decide) (hts (.fieldLink RX7 337 "WaxTurns$History" "imageCount" "I") (zm_X7_size_r1 (List.mem_of_getElem? (i := 4) rfl))) (fun _ h9 => h9) rfl dX7_size_52 ?_
    exact W.iret (v := a0_4_1) hx hb hr (fun t ht hW => ⟨⟨a0_4_1, (), rfl, trivial, by rw [ht]; exact hP, va_K.moved hW.alike hK, hD⟩, hS.F ht⟩) hS.2.2 dX7_size_55
  by_cases n_4 : a1 = 13
  · subst n_4
    refine lv_tableIn (off := 55) (tgt := 56) hx hb dX7_size_1 (by decide) (by decide) (by decide +kernel) (by decide) ?_
    refine lv_aload_n hx hb dX7_size_56 rfl (lv_at hl 0 rfl) ?_
    refine va_get (D := (dC, dI)) (ci := 7) (v := .ref a0_0) (C := RX7) (T := TX7) (N := 11) hx hb hts zi_X7_size_7 hown hK hP 0 rfl rfl 0 (by decide) (hts (.fieldLink RX7 12 "WaxTurns" "reade\x72" "LWaxTurns$Reader;") (zm_X7_size_r1 (List.mem_of_getElem? (i := 5) rfl))) (fun _ h9 => h9) rfl dX7_size_57 ?_
    refine va_get (D := (dC, dI)) (ci := 3) (v := .int a0_0_0) (C := RX3) (T := TX3) (N := 14) hx hb hts zi_X7_size_3 hown hK hP 3 rfl rfl 0 (by decide) (hts (.fieldLink RX7 71 "WaxTurns$Reade\x72" "tapeSize" "I") (zm_X7_size_r1 (List.mem_of_getElem? (i := 6) rfl))) (fun _ h9 => h9) rfl dX7_size_60 ?_
    exact W.iret (v := a0_0_0) hx hb hr (fun t ht hW => ⟨⟨a0_0_0, (), rfl, trivial, by rw [ht]; exact hP, va_K.moved hW.alike hK, hD⟩, hS.F ht⟩) hS.2.2 dX7_size_63
  have o_5 : a1.toInt < 10 ∨ 13 < a1.toInt := by
    have en_1 : a1.toInt ≠ 10 := fun h9 => n_1 (Int32.toInt_inj.mp (h9.trans (by decide)))
    have en_2 : a1.toInt ≠ 11 := fun h9 => n_2 (Int32.toInt_inj.mp (h9.trans (by decide)))
    have en_3 : a1.toInt ≠ 12 := fun h9 => n_3 (Int32.toInt_inj.mp (h9.trans (by decide)))
    have en_4 : a1.toInt ≠ 13 := fun h9 => n_4 (Int32.toInt_inj.mp (h9.trans (by decide)))
    omega
  refine lv_tableOut (tgt := 64) hx hb dX7_size_1 o_5 (by decide) ?_
  refine lv_aload_n hx hb dX7_size_64 rfl (lv_at hl 0 rfl) ?_
  refine va_get (D := (dC, dI)) (ci := 7) (v := .ref a0_7) (C := RX7) (T := TX7) (N := 11) hx hb hts zi_X7_size_7 hown hK hP 0 rfl rfl 7 (by decide) (hts (.fieldLink RX7 57 "WaxTurns" "hall" "LWaxTurns$Hall;") (zm_X7_size_r1 (List.mem_of_getElem? (i := 7) rfl))) (fun _ h9 => h9) rfl dX7_size_65 ?_
  refine lv_iload_n hx hb dX7_size_68 rfl (lv_at hl 1 rfl) ?_
  refine zc_cutc (wc := [(a0_7, .inr (0, [.int a0_7_0, .int a0_7_1, .int a0_7_2, .int a0_7_3, a0_7g_4, .int a0_7_5, .int a0_7_6, .int a0_7_7, .int a0_7_8, .int a0_7_9, a0_7g_10, a0_7g_11, a0_7g_12, a0_7g_13, .ref a0_7_14])), (a0_7_14, .inr (6, [.int a0_7_14_0, a0_7_14g_1, a0_7_14g_2, a0_7_14g_3]))]) hP hD hS hA [4, 5] (by decide +kernel) rfl (fun hPc hDc hFc hCc => ?_)
  have hKc := zp_K hK
  refine va_calli (va_runV (As := [.int a1]) (rest := []) ⟨hx, hb, hml, hown, hts⟩ (c_X0_sizeTold l dC dI s.heap.size a0_7 a1 a0_7_0 a0_7_1 a0_7_2 a0_7_3 a0_7g_4 a0_7g_10 a0_7g_11 a0_7g_12 a0_7g_13 a0_7_5 a0_7_6 a0_7_7 a0_7_8 a0_7_9 a0_7_14 a0_7_14_0 a0_7_14g_1 a0_7_14g_2 a0_7_14g_3 ba0_7_0_l ba0_7_0_u ba0_7_5_l ba0_7_5_u ba0_7_6_l ba0_7_6_u ba0_7_7_l ba0_7_7_u ba0_7_9_l ba0_7_9_u ba0_7_14_0_l ba0_7_14_0_u) (cwV 1 hts gX7_size_X0_sizeTold rfl rfl rfl zd_X0_sizeTold ⟨Nat.le_of_ble_eq_true rfl, Nat.le_of_ble_eq_true rfl⟩) ⟨ax_blind (fun _ _ _ _ _ => trivial), zr_0 hKc hPc (q0 := 0) rfl, ax_pre hPc hKc hDc (fun _ _ => trivial)⟩ rfl rfl hl.1 rfl (lv_room (Nat.le_of_ble_eq_true rfl)) dX7_size_69 ⟨Nat.le_of_ble_eq_true rfl, Nat.le_of_ble_eq_true rfl⟩) hS (fun q _ h => hFc q h) hFc (fun r69 u t H locs ht hvm hw hB hz1 hk1 hS1 => zo hB ht hS1 (fun hP1 hK1 hD1 hS => ?_))
  refine zc_backc (w := [(a0, .inr (7, [.ref a0_0, .ref a0_1, a0g_2, a0g_3, .ref a0_4, a0g_5, a0g_6, .ref a0_7, a0g_8, a0g_9, a0g_10])), (a0_1, .inr (5, [.int a0_1_0, a0_1g_1, a0_1g_2, a0_1g_3, a0_1g_4, a0_1g_5, a0_1g_6])), (a0_4, .inr (1, [.int a0_4_0, .int a0_4_1, a0_4g_2, a0_4g_3, a0_4g_4])), (a0_0, .inr (3, [.int a0_0_0, a0_0g_1, a0_0g_2, a0_0g_3, a0_0g_4, a0_0g_5, a0_0g_6, a0_0g_7, a0_0g_8, a0_0g_9, a0_0g_10, a0_0g_11, a0_0g_12, a0_0g_13])), (a0_7, .inr (0, [.int a0_7_0, .int a0_7_1, .int a0_7_2, .int a0_7_3, a0_7g_4, .int a0_7_5, .int a0_7_6, .int a0_7_7, .int a0_7_8, .int a0_7_9, a0_7g_10, a0_7g_11, a0_7g_12, a0_7g_13, .ref a0_7_14])), (a0_7_14, .inr (6, [.int a0_7_14_0, a0_7_14g_1, a0_7_14g_2, a0_7_14g_3]))]) hP hD hCc hk1 hFc hP1 hD1 [.inl 0, .inl 1, .inl 2, .inl 3, .inr 0, .inr 1] (by decide +kernel) rfl (fun hP hD => ?_)
  exact W.iret (v := r69) hx hb hr (fun t ht hW => ⟨⟨r69, (), rfl, trivial, by rw [ht]; exact hP, va_K.moved hW.alike hK, hD⟩, hS.F ht⟩) hS.2.2 dX7_size_72
end P129_safe
section P130_safe
set_option maxHeartbeats 4000000 in
set_option maxRecDepth 100000 in
set_option maxHeartbeats 4000000 in
set_option maxRecDepth 100000 in
theorem c_X8_good (l : Launch) (dC : Nat → ClassId) (dI : Nat → Nat → Nat) (sz : Nat) (a0 : Nat) (a0_0 : Int32) (a0g_1 a0g_2 a0g_3 a0g_4 a0g_5 a0g_6 a0g_7 a0g_8 a0g_9 a0g_10 a0g_12 a0g_13 a0g_14 a0g_15 a0g_16 a0g_17 a0g_18 a0g_19 a0g_20 a0g_21 a0g_22 a0g_23 a0g_24 a0g_25 a0g_26 a0g_27 a0g_28 a0g_29 a0g_30 a0g_31 a0g_32 a0g_33 a0g_34 a0g_35 a0g_36 a0g_37 a0g_38 a0g_39 : Value) (a0_11 : Int32)  : zm l yX8_good wsX8_good ({ frames := 0, cells := 0, slots := 0, locals := 0 }) [.ref a0] dC dI sz [(a0, .inr (8, [Value.int a0_0, a0g_1, a0g_2, a0g_3, a0g_4, a0g_5, a0g_6, a0g_7, a0g_8, a0g_9, a0g_10, Value.int a0_11, a0g_12, a0g_13, a0g_14, a0g_15, a0g_16, a0g_17, a0g_18, a0g_19, a0g_20, a0g_21, a0g_22, a0g_23, a0g_24, a0g_25, a0g_26, a0g_27, a0g_28, a0g_29, a0g_30, a0g_31, a0g_32, a0g_33, a0g_34, a0g_35, a0g_36, a0g_37, a0g_38, a0g_39]))] [] (fun A _ => True) (fun A => va_Qv (fun (_ : Unit) => True) (fun (_ : Unit) (t : State) => ∃ na0_0 : Int32, ∃ na0_11 : Int32, na0_11.toInt ≠ 4 ∧ ax_B dC dI A [(a0, .inr (8, [Value.int na0_0, a0g_1, a0g_2, a0g_3, a0g_4, a0g_5, a0g_6, a0g_7, a0g_8, a0g_9, a0g_10, Value.int na0_11, a0g_12, a0g_13, a0g_14, a0g_15, a0g_16, a0g_17, a0g_18, a0g_19, a0g_20, a0g_21, a0g_22, a0g_23, a0g_24, a0g_25, a0g_26, a0g_27, a0g_28, a0g_29, a0g_30, a0g_31, a0g_32, a0g_33, a0g_34, a0g_35, a0g_36, a0g_37, a0g_38, a0g_39]))] [] t) A) := by
  refine zh (cc := cX8_good) (maxL := 1) (ret := none) zn_RX8 rfl (Nat.le_of_ble_eq_true rfl) (fun p e s m below meth c A ls hx hb hml hr hts (hown : s.vm.findClass RX8 = some m.cls) hlocks hA hS hP hK hD hE (hl : lv_has ls 1 [(0, .ref a0)]) => ?_)
  refine lv_aload_n hx hb dX8_good_0 rfl (lv_at hl 0 rfl) ?_
  refine lv_iconst (v := 0) hx hb dX8_good_1 zk_iconst_0 ?_
  refine va_put (D := (dC, dI)) (ci := 8) (v := .int 0) (ty := .int) (C := RX8) (T := TX8) (N := 40) hx hb hts zi_X8_good_8 tyX8 tyX8_ok nmX8 hown hK hP hD hS 0 rfl rfl 0 (by decide) (hts (.fieldLink RX8 59 "WaxTurnsModel" "thrown" "I") (List.mem_cons_of_mem _ (List.mem_append_left _ (List.mem_of_getElem? (i := 0) rfl)))) (fun _ h9 => h9) rfl (tyX8_ok 0 (by decide)) rfl rfl (Nat.le_of_ble_eq_true rfl) dX8_good_2 (fun H locs hP hD hS => ?_)
  refine zs_0 (y := (a0, .inr (8, [Value.int 0, a0g_1, a0g_2, a0g_3, a0g_4, a0g_5, a0g_6, a0g_7, a0g_8, a0g_9, a0g_10, Value.int a0_11, a0g_12, a0g_13, a0g_14, a0g_15, a0g_16, a0g_17, a0g_18, a0g_19, a0g_20, a0g_21, a0g_22, a0g_23, a0g_24, a0g_25, a0g_26, a0g_27, a0g_28, a0g_29, a0g_30, a0g_31, a0g_32, a0g_33, a0g_34, a0g_35, a0g_36, a0g_37, a0g_38, a0g_39]))) hP hD rfl (fun hP hD => ?_)
  refine lv_aload_n hx hb dX8_good_5 rfl (lv_at hl 0 rfl) ?_
  refine lv_iconst (v := 0) hx hb dX8_good_6 zk_iconst_0 ?_
  refine va_put (D := (dC, dI)) (ci := 8) (v := .int 0) (ty := .int) (C := RX8) (T := TX8) (N := 40) hx hb hts zi_X8_good_8 tyX8 tyX8_ok nmX8 hown hK hP hD hS 0 rfl rfl 11 (by decide) (hts (.fieldLink RX8 62 "WaxTurnsModel" "trouble" "I") (List.mem_cons_of_mem _ (List.mem_append_left _ (List.mem_of_getElem? (i := 1) rfl)))) (fun _ h9 => h9) rfl (tyX8_ok 11 (by decide)) rfl rfl (Nat.le_of_ble_eq_true rfl) dX8_good_7 (fun H locs hP hD hS => ?_)
  refine zs_0 (y := (a0, .inr (8, [Value.int 0, a0g_1, a0g_2, a0g_3, a0g_4, a0g_5, a0g_6, a0g_7, a0g_8, a0g_9, a0g_10, Value.int 0, a0g_12, a0g_13, a0g_14, a0g_15, a0g_16, a0g_17, a0g_18, a0g_19, a0g_20, a0g_21, a0g_22, a0g_23, a0g_24, a0g_25, a0g_26, a0g_27, a0g_28, a0g_29, a0g_30, a0g_31, a0g_32, a0g_33, a0g_34, a0g_35, a0g_36, a0g_37, a0g_38, a0g_39]))) hP hD rfl (fun hP hD => ?_)
  exact W.vret hx hb hr (fun t ht hW => ⟨⟨(), rfl, trivial, 0, 0, (by first | assumption | decide | omega), by rw [ht]; exact hP, va_K.moved hW.alike hK, hD⟩, hS.F ht⟩) hS.2.2 dX8_good_10
set_option maxHeartbeats 4000000 in
set_option maxRecDepth 100000 in
set_option maxHeartbeats 4000000 in
set_option maxRecDepth 100000 in
theorem c_X8_no (l : Launch) (dC : Nat → ClassId) (dI : Nat → Nat → Nat) (sz : Nat) (a0 : Nat) (a1 : Int32) (a0g_0 a0g_1 a0g_2 a0g_3 a0g_4 a0g_5 a0g_6 a0g_7 a0g_8 a0g_9 a0g_10 a0g_12 a0g_13 a0g_14 a0g_15 a0g_16 a0g_17 a0g_18 a0g_19 a0g_20 a0g_21 a0g_22 a0g_23 a0g_24 a0g_25 a0g_26 a0g_27 a0g_28 a0g_29 a0g_30 a0g_31 a0g_32 a0g_33 a0g_34 a0g_35 a0g_36 a0g_37 a0g_38 a0g_39 : Value) (a0_11 : Int32) (ba1_l : (0 : Int) ≤ a1.toInt) (ba1_u : a1.toInt ≤ (3 : Int)) : zm l yX8_no wsX8_no ({ frames := 0, cells := 0, slots := 0, locals := 0 }) [.ref a0, .int a1] dC dI sz [(a0, .inr (8, [a0g_0, a0g_1, a0g_2, a0g_3, a0g_4, a0g_5, a0g_6, a0g_7, a0g_8, a0g_9, a0g_10, Value.int a0_11, a0g_12, a0g_13, a0g_14, a0g_15, a0g_16, a0g_17, a0g_18, a0g_19, a0g_20, a0g_21, a0g_22, a0g_23, a0g_24, a0g_25, a0g_26, a0g_27, a0g_28, a0g_29, a0g_30, a0g_31, a0g_32, a0g_33, a0g_34, a0g_35, a0g_36, a0g_37, a0g_38, a0g_39]))] [] (fun A _ => True) (fun A => va_Qi (fun (r : Int32) (_ : Unit) => r = (-1)) (fun (_ : Unit) (t : State) => ∃ na0_11 : Int32, na0_11.toInt ≠ 4 ∧ ax_B dC dI A [(a0, .inr (8, [a0g_0, a0g_1, a0g_2, a0g_3, a0g_4, a0g_5, a0g_6, a0g_7, a0g_8, a0g_9, a0g_10, Value.int na0_11, a0g_12, a0g_13, a0g_14, a0g_15, a0g_16, a0g_17, a0g_18, a0g_19, a0g_20, a0g_21, a0g_22, a0g_23, a0g_24, a0g_25, a0g_26, a0g_27, a0g_28, a0g_29, a0g_30, a0g_31, a0g_32, a0g_33, a0g_34, a0g_35, a0g_36, a0g_37, a0g_38, a0g_39]))] [] t) A) := by
  refine zh (cc := cX8_no) (maxL := 2) (ret := (some .int)) zn_RX8 rfl (Nat.le_of_ble_eq_true rfl) (fun p e s m below meth c A ls hx hb hml hr hts (hown : s.vm.findClass RX8 = some m.cls) hlocks hA hS hP hK hD hE (hl : lv_has ls 2 [(0, .ref a0), (1, .int a1)]) => ?_)
  refine lv_aload_n hx hb dX8_no_0 rfl (lv_at hl 0 rfl) ?_
  refine lv_iload_n hx hb dX8_no_1 rfl (lv_at hl 1 rfl) ?_
  refine va_put (D := (dC, dI)) (ci := 8) (v := .int a1) (ty := .int) (C := RX8) (T := TX8) (N := 40) hx hb hts zi_X8_no_8 tyX8 tyX8_ok nmX8 hown hK hP hD hS 0 rfl rfl 11 (by decide) (hts (.fieldLink RX8 62 "WaxTurnsModel" "trouble" "I") (List.mem_cons_of_mem _ (List.mem_append_left _ (List.mem_of_getElem? (i := 0) rfl)))) (fun _ h9 => h9) rfl (tyX8_ok 11 (by decide)) rfl rfl (Nat.le_of_ble_eq_true rfl) dX8_no_2 (fun H locs hP hD hS => ?_)
  refine zs_0 (y := (a0, .inr (8, [a0g_0, a0g_1, a0g_2, a0g_3, a0g_4, a0g_5, a0g_6, a0g_7, a0g_8, a0g_9, a0g_10, Value.int a1, a0g_12, a0g_13, a0g_14, a0g_15, a0g_16, a0g_17, a0g_18, a0g_19, a0g_20, a0g_21, a0g_22, a0g_23, a0g_24, a0g_25, a0g_26, a0g_27, a0g_28, a0g_29, a0g_30, a0g_31, a0g_32, a0g_33, a0g_34, a0g_35, a0g_36, a0g_37, a0g_38, a0g_39]))) hP hD rfl (fun hP hD => ?_)
  refine lv_iconst (v := (-1)) hx hb dX8_no_5 zk_iconst_n1 ?_
  exact W.iret (v := (-1)) hx hb hr (fun t ht hW => ⟨⟨(-1), (), rfl, rfl, a1, (by first | assumption | decide | omega), by rw [ht]; exact hP, va_K.moved hW.alike hK, hD⟩, hS.F ht⟩) hS.2.2 dX8_no_6
set_option maxHeartbeats 4000000 in
set_option maxRecDepth 100000 in
theorem c_X8_no5 (l : Launch) (dC : Nat → ClassId) (dI : Nat → Nat → Nat) (sz : Nat) (a0 : Nat) (a1 : Int32) (a0g_0 a0g_1 a0g_2 a0g_3 a0g_4 a0g_5 a0g_6 a0g_7 a0g_8 a0g_9 a0g_10 a0g_12 a0g_13 a0g_14 a0g_15 a0g_16 a0g_17 a0g_18 a0g_19 a0g_20 a0g_21 a0g_22 a0g_23 a0g_24 a0g_25 a0g_26 a0g_27 a0g_28 a0g_29 a0g_30 a0g_31 a0g_32 a0g_33 a0g_34 a0g_35 a0g_36 a0g_37 a0g_38 a0g_39 : Value) (a0_11 : Int32) (ba1_l : (5 : Int) ≤ a1.toInt) (ba1_u : a1.toInt ≤ (9 : Int)) : zm l yX8_no wsX8_no ({ frames := 0, cells := 0, slots := 0, locals := 0 }) [.ref a0, .int a1] dC dI sz [(a0, .inr (8, [a0g_0, a0g_1, a0g_2, a0g_3, a0g_4, a0g_5, a0g_6, a0g_7, a0g_8, a0g_9, a0g_10, Value.int a0_11, a0g_12, a0g_13, a0g_14, a0g_15, a0g_16, a0g_17, a0g_18, a0g_19, a0g_20, a0g_21, a0g_22, a0g_23, a0g_24, a0g_25, a0g_26, a0g_27, a0g_28, a0g_29, a0g_30, a0g_31, a0g_32, a0g_33, a0g_34, a0g_35, a0g_36, a0g_37, a0g_38, a0g_39]))] [] (fun A _ => True) (fun A => va_Qi (fun (r : Int32) (_ : Unit) => r = (-1)) (fun (_ : Unit) (t : State) => ∃ na0_11 : Int32, na0_11.toInt ≠ 4 ∧ ax_B dC dI A [(a0, .inr (8, [a0g_0, a0g_1, a0g_2, a0g_3, a0g_4, a0g_5, a0g_6, a0g_7, a0g_8, a0g_9, a0g_10, Value.int na0_11, a0g_12, a0g_13, a0g_14, a0g_15, a0g_16, a0g_17, a0g_18, a0g_19, a0g_20, a0g_21, a0g_22, a0g_23, a0g_24, a0g_25, a0g_26, a0g_27, a0g_28, a0g_29, a0g_30, a0g_31, a0g_32, a0g_33, a0g_34, a0g_35, a0g_36, a0g_37, a0g_38, a0g_39]))] [] t) A) := by
  refine zh (cc := cX8_no) (maxL := 2) (ret := (some .int)) zn_RX8 rfl (Nat.le_of_ble_eq_true rfl) (fun p e s m below meth c A ls hx hb hml hr hts (hown : s.vm.findClass RX8 = some m.cls) hlocks hA hS hP hK hD hE (hl : lv_has ls 2 [(0, .ref a0), (1, .int a1)]) => ?_)
  refine lv_aload_n hx hb dX8_no_0 rfl (lv_at hl 0 rfl) ?_
  refine lv_iload_n hx hb dX8_no_1 rfl (lv_at hl 1 rfl) ?_
  refine va_put (D := (dC, dI)) (ci := 8) (v := .int a1) (ty := .int) (C := RX8) (T := TX8) (N := 40) hx hb hts zi_X8_no_8 tyX8 tyX8_ok nmX8 hown hK hP hD hS 0 rfl rfl 11 (by decide) (hts (.fieldLink RX8 62 "WaxTurnsModel" "trouble" "I") (List.mem_cons_of_mem _ (List.mem_append_left _ (List.mem_of_getElem? (i := 0) rfl)))) (fun _ h9 => h9) rfl (tyX8_ok 11 (by decide)) rfl rfl (Nat.le_of_ble_eq_true rfl) dX8_no_2 (fun H locs hP hD hS => ?_)
  refine zs_0 (y := (a0, .inr (8, [a0g_0, a0g_1, a0g_2, a0g_3, a0g_4, a0g_5, a0g_6, a0g_7, a0g_8, a0g_9, a0g_10, Value.int a1, a0g_12, a0g_13, a0g_14, a0g_15, a0g_16, a0g_17, a0g_18, a0g_19, a0g_20, a0g_21, a0g_22, a0g_23, a0g_24, a0g_25, a0g_26, a0g_27, a0g_28, a0g_29, a0g_30, a0g_31, a0g_32, a0g_33, a0g_34, a0g_35, a0g_36, a0g_37, a0g_38, a0g_39]))) hP hD rfl (fun hP hD => ?_)
  refine lv_iconst (v := (-1)) hx hb dX8_no_5 zk_iconst_n1 ?_
  exact W.iret (v := (-1)) hx hb hr (fun t ht hW => ⟨⟨(-1), (), rfl, rfl, a1, (by first | assumption | decide | omega), by rw [ht]; exact hP, va_K.moved hW.alike hK, hD⟩, hS.F ht⟩) hS.2.2 dX8_no_6
set_option maxHeartbeats 4000000 in
set_option maxRecDepth 100000 in
set_option maxHeartbeats 4000000 in
set_option maxRecDepth 100000 in
theorem c_X8_isNot (l : Launch) (dC : Nat → ClassId) (dI : Nat → Nat → Nat) (sz : Nat) (a0 : Nat) (a1 : Int32) (a0g_0 a0g_1 a0g_2 a0g_3 a0g_4 a0g_5 a0g_6 a0g_7 a0g_8 a0g_9 a0g_10 a0g_12 a0g_13 a0g_14 a0g_15 a0g_16 a0g_17 a0g_18 a0g_19 a0g_20 a0g_21 a0g_22 a0g_23 a0g_24 a0g_25 a0g_26 a0g_27 a0g_28 a0g_29 a0g_30 a0g_31 a0g_32 a0g_33 a0g_34 a0g_35 a0g_36 a0g_37 a0g_38 a0g_39 : Value) (a0_11 : Int32) (ba1_l : (0 : Int) ≤ a1.toInt) (ba1_u : a1.toInt ≤ (3 : Int)) : zm l yX8_isNot wsX8_isNot ({ frames := 0, cells := 0, slots := 0, locals := 0 }) [.ref a0, .int a1] dC dI sz [(a0, .inr (8, [a0g_0, a0g_1, a0g_2, a0g_3, a0g_4, a0g_5, a0g_6, a0g_7, a0g_8, a0g_9, a0g_10, Value.int a0_11, a0g_12, a0g_13, a0g_14, a0g_15, a0g_16, a0g_17, a0g_18, a0g_19, a0g_20, a0g_21, a0g_22, a0g_23, a0g_24, a0g_25, a0g_26, a0g_27, a0g_28, a0g_29, a0g_30, a0g_31, a0g_32, a0g_33, a0g_34, a0g_35, a0g_36, a0g_37, a0g_38, a0g_39]))] [] (fun A _ => True) (fun A => va_Qi (fun (r : Int32) (_ : Unit) => r = 0) (fun (_ : Unit) (t : State) => ∃ na0_11 : Int32, na0_11.toInt ≠ 4 ∧ ax_B dC dI A [(a0, .inr (8, [a0g_0, a0g_1, a0g_2, a0g_3, a0g_4, a0g_5, a0g_6, a0g_7, a0g_8, a0g_9, a0g_10, Value.int na0_11, a0g_12, a0g_13, a0g_14, a0g_15, a0g_16, a0g_17, a0g_18, a0g_19, a0g_20, a0g_21, a0g_22, a0g_23, a0g_24, a0g_25, a0g_26, a0g_27, a0g_28, a0g_29, a0g_30, a0g_31, a0g_32, a0g_33, a0g_34, a0g_35, a0g_36, a0g_37, a0g_38, a0g_39]))] [] t) A) := by
  refine zh (cc := cX8_isNot) (maxL := 2) (ret := (some .boolean)) zn_RX8 rfl (Nat.le_of_ble_eq_true rfl) (fun p e s m below meth c A ls hx hb hml hr hts (hown : s.vm.findClass RX8 = some m.cls) hlocks hA hS hP hK hD hE (hl : lv_has ls 2 [(0, .ref a0), (1, .int a1)]) => ?_)
  refine lv_aload_n hx hb dX8_isNot_0 rfl (lv_at hl 0 rfl) ?_
  refine lv_iload_n hx hb dX8_isNot_1 rfl (lv_at hl 1 rfl) ?_
  refine va_put (D := (dC, dI)) (ci := 8) (v := .int a1) (ty := .int) (C := RX8) (T := TX8) (N := 40) hx hb hts zi_X8_isNot_8 tyX8 tyX8_ok nmX8 hown hK hP hD hS 0 rfl rfl 11 (by decide) (hts (.fieldLink RX8 62 "WaxTurnsModel" "trouble" "I") (List.mem_cons_of_mem _ (List.mem_append_left _ (List.mem_of_getElem? (i := 0) rfl)))) (fun _ h9 => h9) rfl (tyX8_ok 11 (by decide)) rfl rfl (Nat.le_of_ble_eq_true rfl) dX8_isNot_2 (fun H locs hP hD hS => ?_)
  refine zs_0 (y := (a0, .inr (8, [a0g_0, a0g_1, a0g_2, a0g_3, a0g_4, a0g_5, a0g_6, a0g_7, a0g_8, a0g_9, a0g_10, Value.int a1, a0g_12, a0g_13, a0g_14, a0g_15, a0g_16, a0g_17, a0g_18, a0g_19, a0g_20, a0g_21, a0g_22, a0g_23, a0g_24, a0g_25, a0g_26, a0g_27, a0g_28, a0g_29, a0g_30, a0g_31, a0g_32, a0g_33, a0g_34, a0g_35, a0g_36, a0g_37, a0g_38, a0g_39]))) hP hD rfl (fun hP hD => ?_)
  refine lv_iconst (v := 0) hx hb dX8_isNot_5 zk_iconst_0 ?_
  exact W.zret (v := 0) hx hb hr rfl (fun t ht hW => ⟨⟨0, (), rfl, rfl, a1, (by first | assumption | decide | omega), by rw [ht]; exact hP, va_K.moved hW.alike hK, hD⟩, hS.F ht⟩) hS.2.2 dX8_isNot_6
set_option maxHeartbeats 4000000 in
set_option maxRecDepth 100000 in
theorem c_X8_isNot5 (l : Launch) (dC : Nat → ClassId) (dI : Nat → Nat → Nat) (sz : Nat) (a0 : Nat) (a1 : Int32) (a0g_0 a0g_1 a0g_2 a0g_3 a0g_4 a0g_5 a0g_6 a0g_7 a0g_8 a0g_9 a0g_10 a0g_12 a0g_13 a0g_14 a0g_15 a0g_16 a0g_17 a0g_18 a0g_19 a0g_20 a0g_21 a0g_22 a0g_23 a0g_24 a0g_25 a0g_26 a0g_27 a0g_28 a0g_29 a0g_30 a0g_31 a0g_32 a0g_33 a0g_34 a0g_35 a0g_36 a0g_37 a0g_38 a0g_39 : Value) (a0_11 : Int32) (ba1_l : (5 : Int) ≤ a1.toInt) (ba1_u : a1.toInt ≤ (9 : Int)) : zm l yX8_isNot wsX8_isNot ({ frames := 0, cells := 0, slots := 0, locals := 0 }) [.ref a0, .int a1] dC dI sz [(a0, .inr (8, [a0g_0, a0g_1, a0g_2, a0g_3, a0g_4, a0g_5, a0g_6, a0g_7, a0g_8, a0g_9, a0g_10, Value.int a0_11, a0g_12, a0g_13, a0g_14, a0g_15, a0g_16, a0g_17, a0g_18, a0g_19, a0g_20, a0g_21, a0g_22, a0g_23, a0g_24, a0g_25, a0g_26, a0g_27, a0g_28, a0g_29, a0g_30, a0g_31, a0g_32, a0g_33, a0g_34, a0g_35, a0g_36, a0g_37, a0g_38, a0g_39]))] [] (fun A _ => True) (fun A => va_Qi (fun (r : Int32) (_ : Unit) => r = 0) (fun (_ : Unit) (t : State) => ∃ na0_11 : Int32, na0_11.toInt ≠ 4 ∧ ax_B dC dI A [(a0, .inr (8, [a0g_0, a0g_1, a0g_2, a0g_3, a0g_4, a0g_5, a0g_6, a0g_7, a0g_8, a0g_9, a0g_10, Value.int na0_11, a0g_12, a0g_13, a0g_14, a0g_15, a0g_16, a0g_17, a0g_18, a0g_19, a0g_20, a0g_21, a0g_22, a0g_23, a0g_24, a0g_25, a0g_26, a0g_27, a0g_28, a0g_29, a0g_30, a0g_31, a0g_32, a0g_33, a0g_34, a0g_35, a0g_36, a0g_37, a0g_38, a0g_39]))] [] t) A) := by
  refine zh (cc := cX8_isNot) (maxL := 2) (ret := (some .boolean)) zn_RX8 rfl (Nat.le_of_ble_eq_true rfl) (fun p e s m below meth c A ls hx hb hml hr hts (hown : s.vm.findClass RX8 = some m.cls) hlocks hA hS hP hK hD hE (hl : lv_has ls 2 [(0, .ref a0), (1, .int a1)]) => ?_)
  refine lv_aload_n hx hb dX8_isNot_0 rfl (lv_at hl 0 rfl) ?_
  refine lv_iload_n hx hb dX8_isNot_1 rfl (lv_at hl 1 rfl) ?_
  refine va_put (D := (dC, dI)) (ci := 8) (v := .int a1) (ty := .int) (C := RX8) (T := TX8) (N := 40) hx hb hts zi_X8_isNot_8 tyX8 tyX8_ok nmX8 hown hK hP hD hS 0 rfl rfl 11 (by decide) (hts (.fieldLink RX8 62 "WaxTurnsModel" "trouble" "I") (List.mem_cons_of_mem _ (List.mem_append_left _ (List.mem_of_getElem? (i := 0) rfl)))) (fun _ h9 => h9) rfl (tyX8_ok 11 (by decide)) rfl rfl (Nat.le_of_ble_eq_true rfl) dX8_isNot_2 (fun H locs hP hD hS => ?_)
  refine zs_0 (y := (a0, .inr (8, [a0g_0, a0g_1, a0g_2, a0g_3, a0g_4, a0g_5, a0g_6, a0g_7, a0g_8, a0g_9, a0g_10, Value.int a1, a0g_12, a0g_13, a0g_14, a0g_15, a0g_16, a0g_17, a0g_18, a0g_19, a0g_20, a0g_21, a0g_22, a0g_23, a0g_24, a0g_25, a0g_26, a0g_27, a0g_28, a0g_29, a0g_30, a0g_31, a0g_32, a0g_33, a0g_34, a0g_35, a0g_36, a0g_37, a0g_38, a0g_39]))) hP hD rfl (fun hP hD => ?_)
  refine lv_iconst (v := 0) hx hb dX8_isNot_5 zk_iconst_0 ?_
  exact W.zret (v := 0) hx hb hr rfl (fun t ht hW => ⟨⟨0, (), rfl, rfl, a1, (by first | assumption | decide | omega), by rw [ht]; exact hP, va_K.moved hW.alike hK, hD⟩, hS.F ht⟩) hS.2.2 dX8_isNot_6
set_option maxHeartbeats 4000000 in
set_option maxRecDepth 100000 in
theorem c_X8_in (l : Launch) (dC : Nat → ClassId) (dI : Nat → Nat → Nat) (sz : Nat) (a1 : Int32) (a2 : Int32) (a3 : Int32)  : zm l yX8_in wsX8_in ({ frames := 0, cells := 0, slots := 0, locals := 0 }) [.int a1, .int a2, .int a3] dC dI sz [] [] (fun A _ => True) (fun A => va_Qi (fun (r : Int32) (_ : Unit) => (r = 1 ∧ a2.toInt ≤ a1.toInt ∧ a1.toInt ≤ a3.toInt) ∨ (r = 0 ∧ (a1.toInt < a2.toInt ∨ a3.toInt < a1.toInt))) (fun (_ : Unit) (t : State) => ax_B dC dI A [] [] t) A) := by
  refine zh (cc := cX8_in) (maxL := 3) (ret := (some .boolean)) zn_RX8 rfl (Nat.le_of_ble_eq_true rfl) (fun p e s m below meth c A ls hx hb hml hr hts (hown : s.vm.findClass RX8 = some m.cls) hlocks hA hS hP hK hD hE (hl : lv_has ls 3 [(0, .int a1), (1, .int a2), (2, .int a3)]) => ?_)
  refine lv_iload_n hx hb dX8_in_0 rfl (lv_at hl 0 rfl) ?_
  refine lv_iload_n hx hb dX8_in_1 rfl (lv_at hl 1 rfl) ?_
  refine lv_icmp_lt (tgt := 14) hx hb dX8_in_2 (by decide) (fun c2 => ?_) (fun c2 => ?_)
  · have gc2 := ai_lt c2
    have u2t_a1 : a1.toInt ≤ (2147483646 : Int) := ai_lthi gc2 (ai_max a2)
    have l2t_a2 : (-2147483647 : Int) ≤ a2.toInt := ai_ltlo gc2 (ai_min a1)
    refine lv_iconst (v := 0) hx hb dX8_in_14 zk_iconst_0 ?_
    exact W.zret (v := 0) hx hb hr rfl (fun t ht hW => ⟨⟨0, (), rfl, (Or.inr ⟨rfl, Or.inl gc2⟩), by rw [ht]; exact hP, va_K.moved hW.alike hK, hD⟩, hS.F ht⟩) hS.2.2 dX8_in_15
  · have gc2 := ai_nlt c2
    refine lv_iload_n hx hb dX8_in_5 rfl (lv_at hl 0 rfl) ?_
    refine lv_iload_n hx hb dX8_in_6 rfl (lv_at hl 2 rfl) ?_
    refine lv_icmp_gt (tgt := 14) hx hb dX8_in_7 (by decide) (fun c7 => ?_) (fun c7 => ?_)
    · have gc7 := ai_lt c7
      have u7t_a3 : a3.toInt ≤ (2147483646 : Int) := ai_lthi gc7 (ai_max a1)
      have l7t_a1 : (-2147483647 : Int) ≤ a1.toInt := ai_ltlo gc7 (ai_min a3)
      refine lv_iconst (v := 0) hx hb dX8_in_14 zk_iconst_0 ?_
      exact W.zret (v := 0) hx hb hr rfl (fun t ht hW => ⟨⟨0, (), rfl, (Or.inr ⟨rfl, Or.inr gc7⟩), by rw [ht]; exact hP, va_K.moved hW.alike hK, hD⟩, hS.F ht⟩) hS.2.2 dX8_in_15
    · have gc7 := ai_nlt c7
      refine lv_iconst (v := 1) hx hb dX8_in_10 zk_iconst_1 ?_
      refine lv_goto (tgt := 15) hx hb dX8_in_11 (by decide) ?_
      exact W.zret (v := 1) hx hb hr rfl (fun t ht hW => ⟨⟨1, (), rfl, (Or.inl ⟨rfl, gc2, gc7⟩), by rw [ht]; exact hP, va_K.moved hW.alike hK, hD⟩, hS.F ht⟩) hS.2.2 dX8_in_15

set_option maxHeartbeats 4000000 in
set_option maxRecDepth 100000 in
theorem c_X8_hasBit (l : Launch) (dC : Nat → ClassId) (dI : Nat → Nat → Nat) (sz : Nat) (a1 : Int32) (a2 : Int32)  : zm l yX8_hasBit wsX8_hasBit ({ frames := 0, cells := 0, slots := 0, locals := 0 }) [.int a1, .int a2] dC dI sz [] [] (fun A _ => True) (fun A => va_Qi (fun (r : Int32) (_ : Unit) => (r = 1) ∨ (r = 0)) (fun (_ : Unit) (t : State) => ax_B dC dI A [] [] t) A) := by
  refine zh (cc := cX8_hasBit) (maxL := 2) (ret := (some .boolean)) zn_RX8 rfl (Nat.le_of_ble_eq_true rfl) (fun p e s m below meth c A ls hx hb hml hr hts (hown : s.vm.findClass RX8 = some m.cls) hlocks hA hS hP hK hD hE (hl : lv_has ls 2 [(0, .int a1), (1, .int a2)]) => ?_)
  refine lv_iload_n hx hb dX8_hasBit_0 rfl (lv_at hl 0 rfl) ?_
  refine lv_iload_n hx hb dX8_hasBit_1 rfl (lv_at hl 1 rfl) ?_
  refine lv_ishr hx hb dX8_hasBit_2 ?_
  refine lv_topi (fun x2 ex2 => ?_)
  refine lv_iconst (v := 1) hx hb dX8_hasBit_3 zk_iconst_1 ?_
  refine lv_iand hx hb dX8_hasBit_4 ?_
  refine lv_topi (fun x4 ex4 => ?_)
  refine lv_iconst (v := 1) hx hb dX8_hasBit_5 zk_iconst_1 ?_
  refine lv_icmp_ne (tgt := 13) hx hb dX8_hasBit_6 (by decide) (fun c6 => ?_) (fun c6 => ?_)
  · have gc6 := ai_ne c6
    refine lv_iconst (v := 0) hx hb dX8_hasBit_13 zk_iconst_0 ?_
    exact W.zret (v := 0) hx hb hr rfl (fun t ht hW => ⟨⟨0, (), rfl, (Or.inr (rfl)), by rw [ht]; exact hP, va_K.moved hW.alike hK, hD⟩, hS.F ht⟩) hS.2.2 dX8_hasBit_14
  · have gc6 := ai_eq c6
    have u6f_x4 : x4.toInt ≤ (1 : Int) := Int.le_trans (Int.le_of_eq gc6) zq0
    have l6f_x4 : (1 : Int) ≤ x4.toInt := Int.le_trans zq1 (Int.le_of_eq gc6.symm)
    refine lv_iconst (v := 1) hx hb dX8_hasBit_9 zk_iconst_1 ?_
    refine lv_goto (tgt := 14) hx hb dX8_hasBit_10 (by decide) ?_
    exact W.zret (v := 1) hx hb hr rfl (fun t ht hW => ⟨⟨1, (), rfl, (Or.inl (rfl)), by rw [ht]; exact hP, va_K.moved hW.alike hK, hD⟩, hS.F ht⟩) hS.2.2 dX8_hasBit_14

set_option maxHeartbeats 4000000 in
set_option maxRecDepth 100000 in
theorem c_X8_ones (l : Launch) (dC : Nat → ClassId) (dI : Nat → Nat → Nat) (sz : Nat) (a1 : Int32)  : zm l yX8_ones wsX8_ones ({ frames := 0, cells := 0, slots := 0, locals := 0 }) [.int a1] dC dI sz [] [] (fun A _ => True) (fun A => va_Qi (fun (r : Int32) (_ : Unit) => True) (fun (_ : Unit) (t : State) => ax_B dC dI A [] [] t) A) := by
  refine zh (cc := cX8_ones) (maxL := 3) (ret := (some .int)) zn_RX8 rfl (Nat.le_of_ble_eq_true rfl) (fun p e s m below meth c A ls hx hb hml hr hts (hown : s.vm.findClass RX8 = some m.cls) hlocks hA hS hP hK hD hE (hl : lv_has ls 3 [(0, .int a1)]) => ?_)
  refine ai_open (fun K hK0 => ?_)
  refine (hK0 _ _ _).mpr ?_
  refine lv_iconst (v := 0) hx hb dX8_ones_0 zk_iconst_0 ?_
  refine lv_istore_n (lv' := [(1, .int 0), (0, .int a1)]) hx hb dX8_ones_1 rfl hl (by decide) rfl (fun ls hl => ?_)
  refine lv_iconst (v := 0) hx hb dX8_ones_2 zk_iconst_0 ?_
  refine lv_istore_n (lv' := [(2, .int 0), (1, .int 0), (0, .int a1)]) hx hb dX8_ones_3 rfl hl (by decide) rfl (fun ls hl => ?_)
  have J4 : ∀ (n : Nat) (j4l2 : Int32) (j4l1 : Int32) (H : Heap) (locs : List Loc) (ls : Array Slot), (10 : Int) - j4l2.toInt ≤ (n : Int) → (0 : Int) ≤ j4l2.toInt → j4l2.toInt ≤ (9 : Int) → va_P (dC, dI) vwCl [] H → va_D A [] → va_S A s.heap H locs → lv_has ls 3 [(0, .int a1), (1, .int j4l1), (2, .int j4l2)] → K H locs (F0 m 4 ls []) := by
    intro n
    induction n with
    | zero =>
      intro j4l2 j4l1 H locs ls hm bj4l2_l bj4l2_u hP hD hS hl
      first | exact zg_0 hm bj4l2_u (by decide) | (have h8 := ai_min j4l2; have h9 := ai_max j4l2; exact absurd hm (by omega))
    | succ n ih4 =>
      intro j4l2 j4l1 H locs ls hm bj4l2_l bj4l2_u hP hD hS hl
      refine (hK0 _ _ _).mpr ?_
      have hm4 := hm
      refine lv_iload_n hx hb dX8_ones_4 rfl (lv_at hl 2 rfl) ?_
      refine lv_bipush (v := 9) hx hb dX8_ones_5 zk_bipush_9 ?_
      refine lv_icmp_ge (tgt := 24) hx hb dX8_ones_7 (by decide) (fun c7 => ?_) (fun c7 => ?_)
      · have gc7 := ai_le c7
        have l7t_j4l2 : (9 : Int) ≤ j4l2.toInt := Int.le_trans zq2 gc7
        refine lv_iload_n hx hb dX8_ones_24 rfl (lv_at hl 1 rfl) ?_
        exact W.iret (v := j4l1) hx hb hr (fun t ht hW => ⟨⟨j4l1, (), rfl, trivial, by rw [ht]; exact hP, va_K.moved hW.alike hK, hD⟩, hS.F ht⟩) hS.2.2 dX8_ones_25
      · have gc7 := ai_nle c7
        have u7f_j4l2 : j4l2.toInt ≤ (8 : Int) := ai_lthi gc7 zq3
        refine lv_iload_n hx hb dX8_ones_10 rfl (lv_at hl 1 rfl) ?_
        refine lv_iload_n hx hb dX8_ones_11 rfl (lv_at hl 0 rfl) ?_
        refine lv_iload_n hx hb dX8_ones_12 rfl (lv_at hl 2 rfl) ?_
        refine lv_ishr hx hb dX8_ones_13 ?_
        refine lv_topi (fun x13 ex13 => ?_)
        refine lv_iconst (v := 1) hx hb dX8_ones_14 zk_iconst_1 ?_
        refine lv_iand hx hb dX8_ones_15 ?_
        refine lv_topi (fun x15 ex15 => ?_)
        refine lv_iadd hx hb dX8_ones_16 ?_
        refine lv_topi (fun x16 ex16 => ?_)
        refine lv_istore_n (lv' := [(1, .int x16), (0, .int a1), (2, .int j4l2)]) hx hb dX8_ones_17 rfl hl (by decide) rfl (fun ls hl => ?_)
        obtain ⟨x18, ex18⟩ : ∃ y : Int32, y = j4l2 + Int32.ofInt 1 := ⟨_, rfl⟩
        have qx18 : x18.toInt = j4l2.toInt + 1 := ai_inc ex18 (by decide) (by decide) u7f_j4l2 (by decide)
        have bx18 : (1 : Int) ≤ x18.toInt ∧ x18.toInt ≤ 9 := ⟨by rw [qx18]; exact Int.add_le_add bj4l2_l (Int.le_refl _), by rw [qx18]; exact Int.add_le_add u7f_j4l2 (Int.le_refl _)⟩
        refine lv_iinc (v := x18) (lv' := [(2, .int x18), (1, .int x16), (0, .int a1)]) hx hb dX8_ones_18 hl (k := 2) rfl ex18.symm (by decide) rfl (fun ls hl => ?_)
        refine lv_goto (tgt := 4) hx hb dX8_ones_21 (by decide) ?_
        exact (hK0 _ _ _).mp (ih4 x18 x16 _ _ _ (by first | exact zg_s hm4 qx18 | (have h0 := qx18; omega)) (Int.le_trans zq4 bx18.1) bx18.2 hP hD hS (lv_sub hl [2, 1, 0] rfl))
  exact (hK0 _ _ _).mp (J4 10 0 0 _ _ _ (by first | decide +kernel | (have h1 : (0 : Int) ≤ (0 : Int32).toInt := zq5; have h2 : (0 : Int32).toInt ≤ (0 : Int) := zq6; omega)) zq5 (Int.le_trans zq6 zq7) hP hD hS (lv_sub hl [2, 1, 0] rfl))

set_option maxHeartbeats 4000000 in
set_option maxRecDepth 100000 in
theorem c_X8_isFigure (l : Launch) (dC : Nat → ClassId) (dI : Nat → Nat → Nat) (sz : Nat) (a0 : Nat) (a1 : Int32) (a0g_0 a0g_1 a0g_2 a0g_3 a0g_4 a0g_5 a0g_6 a0g_7 a0g_8 a0g_9 a0g_10 a0g_11 a0g_12 a0g_13 a0g_16 a0g_17 a0g_18 a0g_19 a0g_20 a0g_21 a0g_22 a0g_23 a0g_24 a0g_25 a0g_26 a0g_27 a0g_28 a0g_29 a0g_30 a0g_31 a0g_32 a0g_33 a0g_34 a0g_35 a0g_36 a0g_37 a0g_38 a0g_39 : Value) (a0_14 : Int32) (a0_15 : Nat) (ka0_15 : ClassId) (fa0_15 : Nat → Int32) (ba0_14_l : (1 : Int) ≤ a0_14.toInt) (ba0_14_u : a0_14.toInt ≤ (1 : Int)) (bfa0_15 : ((∀ k : Nat, 0 ≤ k → k ≤ 0 → (2 : Int) ≤ (fa0_15 k).toInt ∧ (fa0_15 k).toInt ≤ 9) ∧ (∀ k : Nat, 1 ≤ k → k ≤ 1 → (1 : Int) ≤ (fa0_15 k).toInt ∧ (fa0_15 k).toInt ≤ 20) ∧ (∀ k : Nat, 2 ≤ k → k ≤ 2 → (0 : Int) ≤ (fa0_15 k).toInt ∧ (fa0_15 k).toInt ≤ 8) ∧ (∀ k : Nat, 3 ≤ k → k ≤ 3 → (0 : Int) ≤ (fa0_15 k).toInt ∧ (fa0_15 k).toInt ≤ 100) ∧ (∀ k : Nat, 4 ≤ k → k ≤ 4 → (0 : Int) ≤ (fa0_15 k).toInt ∧ (fa0_15 k).toInt ≤ 9) ∧ (∀ k : Nat, 5 ≤ k → k ≤ 5 → (0 : Int) ≤ (fa0_15 k).toInt ∧ (fa0_15 k).toInt ≤ 3) ∧ (∀ k : Nat, 6 ≤ k → k ≤ 6 → (0 : Int) ≤ (fa0_15 k).toInt ∧ (fa0_15 k).toInt ≤ 6) ∧ (∀ k : Nat, 7 ≤ k → k ≤ 9 → (0 : Int) ≤ (fa0_15 k).toInt ∧ (fa0_15 k).toInt ≤ 8) ∧ (∀ k : Nat, 12 ≤ k → k ≤ 29 → (0 : Int) ≤ (fa0_15 k).toInt ∧ (fa0_15 k).toInt ≤ 20) ∧ (∀ k : Nat, 30 ≤ k → k ≤ 35 → (0 : Int) ≤ (fa0_15 k).toInt ∧ (fa0_15 k).toInt ≤ 8) ∧ (∀ k : Nat, 36 ≤ k → k ≤ 47 → (0 : Int) ≤ (fa0_15 k).toInt ∧ (fa0_15 k).toInt ≤ 999))) : zm l yX8_isFigure wsX8_isFigure ({ frames := 1, cells := 0, slots := 0, locals := 22 }) [.ref a0, .int a1] dC dI sz [(a0, .inr (8, [a0g_0, a0g_1, a0g_2, a0g_3, a0g_4, a0g_5, a0g_6, a0g_7, a0g_8, a0g_9, a0g_10, a0g_11, a0g_12, a0g_13, Value.int a0_14, Value.ref a0_15, a0g_16, a0g_17, a0g_18, a0g_19, a0g_20, a0g_21, a0g_22, a0g_23, a0g_24, a0g_25, a0g_26, a0g_27, a0g_28, a0g_29, a0g_30, a0g_31, a0g_32, a0g_33, a0g_34, a0g_35, a0g_36, a0g_37, a0g_38, a0g_39])), (a0_15, .inl (ka0_15, 156, .inl (fa0_15)))] [(ka0_15, .int)] (fun A _ => True) (fun A => va_Qi (fun (r : Int32) (_ : Unit) => (r = 1 ∧ (0 : Int) ≤ a1.toInt ∧ a1.toInt ≤ (8 : Int)) ∨ (r = 0)) (fun (_ : Unit) (t : State) => ax_B dC dI A [(a0, .inr (8, [a0g_0, a0g_1, a0g_2, a0g_3, a0g_4, a0g_5, a0g_6, a0g_7, a0g_8, a0g_9, a0g_10, a0g_11, a0g_12, a0g_13, Value.int a0_14, Value.ref a0_15, a0g_16, a0g_17, a0g_18, a0g_19, a0g_20, a0g_21, a0g_22, a0g_23, a0g_24, a0g_25, a0g_26, a0g_27, a0g_28, a0g_29, a0g_30, a0g_31, a0g_32, a0g_33, a0g_34, a0g_35, a0g_36, a0g_37, a0g_38, a0g_39])), (a0_15, .inl (ka0_15, 156, .inl (fa0_15)))] [(ka0_15, .int)] t) A) := by
  refine zh (cc := cX8_isFigure) (maxL := 2) (ret := (some .boolean)) zn_RX8 rfl (Nat.le_of_ble_eq_true rfl) (fun p e s m below meth c A ls hx hb hml hr hts (hown : s.vm.findClass RX8 = some m.cls) hlocks hA hS hP hK hD hE (hl : lv_has ls 2 [(0, .ref a0), (1, .int a1)]) => ?_)
  refine lv_aload_n hx hb dX8_isFigure_0 rfl (lv_at hl 0 rfl) ?_
  refine va_get (D := (dC, dI)) (ci := 8) (v := .int a0_14) (C := RX8) (T := TX8) (N := 40) hx hb hts zi_X8_isFigure_8 hown hK hP 0 rfl rfl 14 (by decide) (hts (.fieldLink RX8 173 "WaxTurnsModel" "hasGallery" "Z") (List.mem_cons_of_mem _ (List.mem_append_left _ (List.mem_of_getElem? (i := 0) rfl)))) (fun _ h9 => h9) rfl dX8_isFigure_1 ?_
  refine lv_if_eq (tgt := 27) hx hb dX8_isFigure_4 (by decide) (fun c4 => ?_) (fun c4 => ?_)
  · have gc4 := ai_eq c4
    have u4t_a0_14 : a0_14.toInt ≤ (0 : Int) := Int.le_trans (Int.le_of_eq gc4) zq6
    have l4t_a0_14 : (1 : Int) ≤ a0_14.toInt := ba0_14_l
    exact absurd (Int.le_trans l4t_a0_14 u4t_a0_14) (by decide)
  · have gc4 := ai_ne c4
    refine lv_iload_n hx hb dX8_isFigure_7 rfl (lv_at hl 1 rfl) ?_
    refine lv_iconst (v := 0) hx hb dX8_isFigure_8 zk_iconst_0 ?_
    refine lv_aload_n hx hb dX8_isFigure_9 rfl (lv_at hl 0 rfl) ?_
    refine va_get (D := (dC, dI)) (ci := 8) (v := .ref a0_15) (C := RX8) (T := TX8) (N := 40) hx hb hts zi_X8_isFigure_8 hown hK hP 0 rfl rfl 15 (by decide) (hts (.fieldLink RX8 20 "WaxTurnsModel" "\x72" "[I") (List.mem_cons_of_mem _ (List.mem_append_left _ (List.mem_of_getElem? (i := 1) rfl)))) (fun _ h9 => h9) rfl dX8_isFigure_10 ?_
    refine lv_iconst (v := 0) hx hb dX8_isFigure_13 zk_iconst_0 ?_
    refine va_iald hx hb hK hP 1 0 rfl rfl (by unfold vp_in; decide +kernel) dX8_isFigure_14 ?_
    refine lv_topi (fun x14 ex14 => ?_)
    have bx14 : (2 : Int) ≤ x14.toInt ∧ x14.toInt ≤ 9 := by rw [ex14]; exact ai_rd bfa0_15.1 zq5 zq6 (by decide) (by decide) (by decide)
    refine lv_iconst (v := 1) hx hb dX8_isFigure_15 zk_iconst_1 ?_
    refine lv_isub hx hb dX8_isFigure_16 ?_
    refine lv_topi (fun x16 ex16 => ?_)
    have qx16 : x16.toInt = x14.toInt - (1 : Int32).toInt := ai_sub ex16 ⟨bx14.1, bx14.2⟩ ⟨zq1, zq0⟩ (by decide) (by decide)
    have bx16 : (1 : Int) ≤ x16.toInt ∧ x16.toInt ≤ 8 := ⟨by rw [qx16]; exact Int.sub_le_sub bx14.1 zq0, by rw [qx16]; exact Int.sub_le_sub bx14.2 zq1⟩
    have wx16 : x16.toInt = x14.toInt - 1 := qx16
    refine va_calli (va_runS (As := [.int a1, .int 0, .int x16]) (rest := []) ⟨hx, hb, hml, hown, hts⟩ (c_X8_in l dC dI s.heap.size a1 0 x16 ) (va_cwS 3 hts gX8_isFigure_X8_in rfl rfl rfl zd_X8_in.2 ⟨Nat.le_of_ble_eq_true rfl, Nat.le_of_ble_eq_true rfl⟩) ⟨ax_blind (fun _ _ _ _ _ => trivial), ax_pre (zp_P0 hP) (zp_K hK) (zp_D0 hD) (fun _ _ => trivial)⟩ rfl rfl hl.1 rfl (lv_room (Nat.le_of_ble_eq_true rfl)) dX8_isFigure_17 ⟨Nat.le_of_ble_eq_true rfl, Nat.le_of_ble_eq_true rfl⟩) hS (fun q _ h => zp_F0 hD hS hA q h) (zp_F0 hD hS hA) (fun r17 u t H locs ht hvm hw hB hz1 hk1 hS1 => zo0 hB ht hP hD hk1 (zp_F0 hD hS hA) hS1 (fun hP hK1 hD hS => ?_))
    rcases hw with hw | hw
    · obtain ⟨hw, h17⟩ := hw
      subst hw
      have l17k0_a1 : (0 : Int) ≤ a1.toInt := Int.le_trans zq5 h17.1
      have u17k0_a1 : a1.toInt ≤ (8 : Int) := Int.le_trans h17.2 bx16.2
      have l17k0_x16 : (1 : Int) ≤ x16.toInt := bx16.1
      refine lv_if_eq (tgt := 27) hx hb dX8_isFigure_20 (by decide) (fun c20 => absurd c20 (by decide +kernel)) (fun _ => ?_)
      refine lv_iconst (v := 1) hx hb dX8_isFigure_23 zk_iconst_1 ?_
      refine lv_goto (tgt := 28) hx hb dX8_isFigure_24 (by decide) ?_
      exact W.zret (v := 1) hx hb hr rfl (fun t ht hW => ⟨⟨1, (), rfl, (Or.inl ⟨rfl, l17k0_a1, u17k0_a1⟩), by rw [ht]; exact hP, va_K.moved hW.alike hK, hD⟩, hS.F ht⟩) hS.2.2 dX8_isFigure_28
    · obtain ⟨hw, h17⟩ := hw
      subst hw
      refine lv_if_eq (tgt := 27) hx hb dX8_isFigure_20 (by decide) (fun _ => ?_) (fun c20 => absurd (by decide +kernel) c20)
      refine lv_iconst (v := 0) hx hb dX8_isFigure_27 zk_iconst_0 ?_
      exact W.zret (v := 0) hx hb hr rfl (fun t ht hW => ⟨⟨0, (), rfl, (Or.inr (rfl)), by rw [ht]; exact hP, va_K.moved hW.alike hK, hD⟩, hS.F ht⟩) hS.2.2 dX8_isFigure_28

set_option maxHeartbeats 4000000 in
set_option maxRecDepth 100000 in
theorem c_X8_isWatcher (l : Launch) (dC : Nat → ClassId) (dI : Nat → Nat → Nat) (sz : Nat) (a0 : Nat) (a1 : Int32) (a0g_0 a0g_1 a0g_2 a0g_3 a0g_4 a0g_5 a0g_6 a0g_7 a0g_8 a0g_9 a0g_10 a0g_11 a0g_12 a0g_13 a0g_16 a0g_17 a0g_18 a0g_19 a0g_20 a0g_21 a0g_22 a0g_23 a0g_24 a0g_25 a0g_26 a0g_27 a0g_28 a0g_29 a0g_30 a0g_31 a0g_32 a0g_33 a0g_34 a0g_35 a0g_36 a0g_37 a0g_38 a0g_39 : Value) (a0_14 : Int32) (a0_15 : Nat) (ka0_15 : ClassId) (fa0_15 : Nat → Int32) (ba0_14_l : (1 : Int) ≤ a0_14.toInt) (ba0_14_u : a0_14.toInt ≤ (1 : Int)) (bfa0_15 : ((∀ k : Nat, 0 ≤ k → k ≤ 0 → (2 : Int) ≤ (fa0_15 k).toInt ∧ (fa0_15 k).toInt ≤ 9) ∧ (∀ k : Nat, 1 ≤ k → k ≤ 1 → (1 : Int) ≤ (fa0_15 k).toInt ∧ (fa0_15 k).toInt ≤ 20) ∧ (∀ k : Nat, 2 ≤ k → k ≤ 2 → (0 : Int) ≤ (fa0_15 k).toInt ∧ (fa0_15 k).toInt ≤ 8) ∧ (∀ k : Nat, 3 ≤ k → k ≤ 3 → (0 : Int) ≤ (fa0_15 k).toInt ∧ (fa0_15 k).toInt ≤ 100) ∧ (∀ k : Nat, 4 ≤ k → k ≤ 4 → (0 : Int) ≤ (fa0_15 k).toInt ∧ (fa0_15 k).toInt ≤ 9) ∧ (∀ k : Nat, 5 ≤ k → k ≤ 5 → (0 : Int) ≤ (fa0_15 k).toInt ∧ (fa0_15 k).toInt ≤ 3) ∧ (∀ k : Nat, 6 ≤ k → k ≤ 6 → (0 : Int) ≤ (fa0_15 k).toInt ∧ (fa0_15 k).toInt ≤ 6) ∧ (∀ k : Nat, 7 ≤ k → k ≤ 9 → (0 : Int) ≤ (fa0_15 k).toInt ∧ (fa0_15 k).toInt ≤ 8) ∧ (∀ k : Nat, 12 ≤ k → k ≤ 29 → (0 : Int) ≤ (fa0_15 k).toInt ∧ (fa0_15 k).toInt ≤ 20) ∧ (∀ k : Nat, 30 ≤ k → k ≤ 35 → (0 : Int) ≤ (fa0_15 k).toInt ∧ (fa0_15 k).toInt ≤ 8) ∧ (∀ k : Nat, 36 ≤ k → k ≤ 47 → (0 : Int) ≤ (fa0_15 k).toInt ∧ (fa0_15 k).toInt ≤ 999))) : zm l yX8_isWatcher wsX8_isWatcher ({ frames := 1, cells := 0, slots := 0, locals := 22 }) [.ref a0, .int a1] dC dI sz [(a0, .inr (8, [a0g_0, a0g_1, a0g_2, a0g_3, a0g_4, a0g_5, a0g_6, a0g_7, a0g_8, a0g_9, a0g_10, a0g_11, a0g_12, a0g_13, Value.int a0_14, Value.ref a0_15, a0g_16, a0g_17, a0g_18, a0g_19, a0g_20, a0g_21, a0g_22, a0g_23, a0g_24, a0g_25, a0g_26, a0g_27, a0g_28, a0g_29, a0g_30, a0g_31, a0g_32, a0g_33, a0g_34, a0g_35, a0g_36, a0g_37, a0g_38, a0g_39])), (a0_15, .inl (ka0_15, 156, .inl (fa0_15)))] [(ka0_15, .int)] (fun A _ => True) (fun A => va_Qi (fun (r : Int32) (_ : Unit) => (r = 1 ∧ (0 : Int) ≤ a1.toInt ∧ a1.toInt ≤ (2 : Int)) ∨ (r = 0)) (fun (_ : Unit) (t : State) => ax_B dC dI A [(a0, .inr (8, [a0g_0, a0g_1, a0g_2, a0g_3, a0g_4, a0g_5, a0g_6, a0g_7, a0g_8, a0g_9, a0g_10, a0g_11, a0g_12, a0g_13, Value.int a0_14, Value.ref a0_15, a0g_16, a0g_17, a0g_18, a0g_19, a0g_20, a0g_21, a0g_22, a0g_23, a0g_24, a0g_25, a0g_26, a0g_27, a0g_28, a0g_29, a0g_30, a0g_31, a0g_32, a0g_33, a0g_34, a0g_35, a0g_36, a0g_37, a0g_38, a0g_39])), (a0_15, .inl (ka0_15, 156, .inl (fa0_15)))] [(ka0_15, .int)] t) A) := by
  refine zh (cc := cX8_isWatcher) (maxL := 2) (ret := (some .boolean)) zn_RX8 rfl (Nat.le_of_ble_eq_true rfl) (fun p e s m below meth c A ls hx hb hml hr hts (hown : s.vm.findClass RX8 = some m.cls) hlocks hA hS hP hK hD hE (hl : lv_has ls 2 [(0, .ref a0), (1, .int a1)]) => ?_)
  refine lv_aload_n hx hb dX8_isWatcher_0 rfl (lv_at hl 0 rfl) ?_
  refine va_get (D := (dC, dI)) (ci := 8) (v := .int a0_14) (C := RX8) (T := TX8) (N := 40) hx hb hts zi_X8_isWatcher_8 hown hK hP 0 rfl rfl 14 (by decide) (hts (.fieldLink RX8 173 "WaxTurnsModel" "hasGallery" "Z") (List.mem_cons_of_mem _ (List.mem_append_left _ (List.mem_of_getElem? (i := 0) rfl)))) (fun _ h9 => h9) rfl dX8_isWatcher_1 ?_
  refine lv_if_eq (tgt := 27) hx hb dX8_isWatcher_4 (by decide) (fun c4 => ?_) (fun c4 => ?_)
  · have gc4 := ai_eq c4
    have u4t_a0_14 : a0_14.toInt ≤ (0 : Int) := Int.le_trans (Int.le_of_eq gc4) zq6
    have l4t_a0_14 : (1 : Int) ≤ a0_14.toInt := ba0_14_l
    exact absurd (Int.le_trans l4t_a0_14 u4t_a0_14) (by decide)
  · have gc4 := ai_ne c4
    refine lv_iload_n hx hb dX8_isWatcher_7 rfl (lv_at hl 1 rfl) ?_
    refine lv_iconst (v := 0) hx hb dX8_isWatcher_8 zk_iconst_0 ?_
    refine lv_aload_n hx hb dX8_isWatcher_9 rfl (lv_at hl 0 rfl) ?_
    refine va_get (D := (dC, dI)) (ci := 8) (v := .ref a0_15) (C := RX8) (T := TX8) (N := 40) hx hb hts zi_X8_isWatcher_8 hown hK hP 0 rfl rfl 15 (by decide) (hts (.fieldLink RX8 20 "WaxTurnsModel" "\x72" "[I") (List.mem_cons_of_mem _ (List.mem_append_left _ (List.mem_of_getElem? (i := 1) rfl)))) (fun _ h9 => h9) rfl dX8_isWatcher_10 ?_
    refine lv_iconst (v := 5) hx hb dX8_isWatcher_13 zk_iconst_5 ?_
    refine va_iald hx hb hK hP 1 0 rfl rfl (by unfold vp_in; decide +kernel) dX8_isWatcher_14 ?_
    refine lv_topi (fun x14 ex14 => ?_)
    have bx14 : (0 : Int) ≤ x14.toInt ∧ x14.toInt ≤ 3 := by rw [ex14]; exact ai_rd bfa0_15.2.2.2.2.2.1 zq114 zq115 (by decide) (by decide) (by decide)
    refine lv_iconst (v := 1) hx hb dX8_isWatcher_15 zk_iconst_1 ?_
    refine lv_isub hx hb dX8_isWatcher_16 ?_
    refine lv_topi (fun x16 ex16 => ?_)
    have qx16 : x16.toInt = x14.toInt - (1 : Int32).toInt := ai_sub ex16 ⟨bx14.1, bx14.2⟩ ⟨zq1, zq0⟩ (by decide) (by decide)
    have bx16 : (-1 : Int) ≤ x16.toInt ∧ x16.toInt ≤ 2 := ⟨by rw [qx16]; exact Int.sub_le_sub bx14.1 zq0, by rw [qx16]; exact Int.sub_le_sub bx14.2 zq1⟩
    have wx16 : x16.toInt = x14.toInt - 1 := qx16
    refine va_calli (va_runS (As := [.int a1, .int 0, .int x16]) (rest := []) ⟨hx, hb, hml, hown, hts⟩ (c_X8_in l dC dI s.heap.size a1 0 x16 ) (va_cwS 3 hts gX8_isWatcher_X8_in rfl rfl rfl zd_X8_in.2 ⟨Nat.le_of_ble_eq_true rfl, Nat.le_of_ble_eq_true rfl⟩) ⟨ax_blind (fun _ _ _ _ _ => trivial), ax_pre (zp_P0 hP) (zp_K hK) (zp_D0 hD) (fun _ _ => trivial)⟩ rfl rfl hl.1 rfl (lv_room (Nat.le_of_ble_eq_true rfl)) dX8_isWatcher_17 ⟨Nat.le_of_ble_eq_true rfl, Nat.le_of_ble_eq_true rfl⟩) hS (fun q _ h => zp_F0 hD hS hA q h) (zp_F0 hD hS hA) (fun r17 u t H locs ht hvm hw hB hz1 hk1 hS1 => zo0 hB ht hP hD hk1 (zp_F0 hD hS hA) hS1 (fun hP hK1 hD hS => ?_))
    rcases hw with hw | hw
    · obtain ⟨hw, h17⟩ := hw
      subst hw
      have l17k0_a1 : (0 : Int) ≤ a1.toInt := Int.le_trans zq5 h17.1
      have u17k0_a1 : a1.toInt ≤ (2 : Int) := Int.le_trans h17.2 bx16.2
      have l17k0_x16 : (0 : Int) ≤ x16.toInt := Int.le_trans zq5 (Int.le_trans h17.1 h17.2)
      have l17k0_x14 : (1 : Int) ≤ x14.toInt := by have h1 := wx16; have h2 := l17k0_x16; omega
      refine lv_if_eq (tgt := 27) hx hb dX8_isWatcher_20 (by decide) (fun c20 => absurd c20 (by decide +kernel)) (fun _ => ?_)
      refine lv_iconst (v := 1) hx hb dX8_isWatcher_23 zk_iconst_1 ?_
      refine lv_goto (tgt := 28) hx hb dX8_isWatcher_24 (by decide) ?_
      exact W.zret (v := 1) hx hb hr rfl (fun t ht hW => ⟨⟨1, (), rfl, (Or.inl ⟨rfl, l17k0_a1, u17k0_a1⟩), by rw [ht]; exact hP, va_K.moved hW.alike hK, hD⟩, hS.F ht⟩) hS.2.2 dX8_isWatcher_28
    · obtain ⟨hw, h17⟩ := hw
      subst hw
      refine lv_if_eq (tgt := 27) hx hb dX8_isWatcher_20 (by decide) (fun _ => ?_) (fun c20 => absurd (by decide +kernel) c20)
      refine lv_iconst (v := 0) hx hb dX8_isWatcher_27 zk_iconst_0 ?_
      exact W.zret (v := 0) hx hb hr rfl (fun t ht hW => ⟨⟨0, (), rfl, (Or.inr (rfl)), by rw [ht]; exact hP, va_K.moved hW.alike hK, hD⟩, hS.F ht⟩) hS.2.2 dX8_isWatcher_28

set_option maxHeartbeats 4000000 in
set_option maxRecDepth 100000 in
theorem c_X8_watchAsTold (l : Launch) (dC : Nat → ClassId) (dI : Nat → Nat → Nat) (sz : Nat) (a0 : Nat) (a0g_0 a0g_1 a0g_2 a0g_3 a0g_4 a0g_5 a0g_6 a0g_7 a0g_8 a0g_9 a0g_10 a0g_11 a0g_12 a0g_13 a0g_14 a0g_16 a0g_17 a0g_18 a0g_19 a0g_20 a0g_21 a0g_22 a0g_26 a0g_27 a0g_28 a0g_29 a0g_30 a0g_31 a0g_32 a0g_33 a0g_34 a0g_35 a0g_36 a0g_37 a0g_38 a0g_39 : Value) (a0_15 : Nat) (a0_23 : Nat) (a0_24 : Nat) (a0_25 : Int32) (ka0_15 : ClassId) (fa0_15 : Nat → Int32) (ka0_23 : ClassId) (fa0_23 : Nat → Int32) (ka0_24 : ClassId) (fa0_24 : Nat → Int32) (bfa0_15 : ((∀ k : Nat, 0 ≤ k → k ≤ 0 → (2 : Int) ≤ (fa0_15 k).toInt ∧ (fa0_15 k).toInt ≤ 9) ∧ (∀ k : Nat, 1 ≤ k → k ≤ 1 → (1 : Int) ≤ (fa0_15 k).toInt ∧ (fa0_15 k).toInt ≤ 20) ∧ (∀ k : Nat, 2 ≤ k → k ≤ 2 → (0 : Int) ≤ (fa0_15 k).toInt ∧ (fa0_15 k).toInt ≤ 8) ∧ (∀ k : Nat, 3 ≤ k → k ≤ 3 → (0 : Int) ≤ (fa0_15 k).toInt ∧ (fa0_15 k).toInt ≤ 100) ∧ (∀ k : Nat, 4 ≤ k → k ≤ 4 → (0 : Int) ≤ (fa0_15 k).toInt ∧ (fa0_15 k).toInt ≤ 9) ∧ (∀ k : Nat, 5 ≤ k → k ≤ 5 → (0 : Int) ≤ (fa0_15 k).toInt ∧ (fa0_15 k).toInt ≤ 3) ∧ (∀ k : Nat, 6 ≤ k → k ≤ 6 → (0 : Int) ≤ (fa0_15 k).toInt ∧ (fa0_15 k).toInt ≤ 6) ∧ (∀ k : Nat, 7 ≤ k → k ≤ 9 → (0 : Int) ≤ (fa0_15 k).toInt ∧ (fa0_15 k).toInt ≤ 8) ∧ (∀ k : Nat, 12 ≤ k → k ≤ 29 → (0 : Int) ≤ (fa0_15 k).toInt ∧ (fa0_15 k).toInt ≤ 20) ∧ (∀ k : Nat, 30 ≤ k → k ≤ 35 → (0 : Int) ≤ (fa0_15 k).toInt ∧ (fa0_15 k).toInt ≤ 8) ∧ (∀ k : Nat, 36 ≤ k → k ≤ 47 → (0 : Int) ≤ (fa0_15 k).toInt ∧ (fa0_15 k).toInt ≤ 999))) (bfa0_23 : (∀ k, (0 : Int) ≤ (fa0_23 k).toInt ∧ (fa0_23 k).toInt ≤ 80)) (bfa0_24 : (∀ k, (0 : Int) ≤ (fa0_24 k).toInt ∧ (fa0_24 k).toInt ≤ 80)) : zm l yX8_watchAsTold wsX8_watchAsTold ({ frames := 0, cells := 0, slots := 0, locals := 0 }) [.ref a0] dC dI sz [(a0, .inr (8, [a0g_0, a0g_1, a0g_2, a0g_3, a0g_4, a0g_5, a0g_6, a0g_7, a0g_8, a0g_9, a0g_10, a0g_11, a0g_12, a0g_13, a0g_14, Value.ref a0_15, a0g_16, a0g_17, a0g_18, a0g_19, a0g_20, a0g_21, a0g_22, Value.ref a0_23, Value.ref a0_24, Value.int a0_25, a0g_26, a0g_27, a0g_28, a0g_29, a0g_30, a0g_31, a0g_32, a0g_33, a0g_34, a0g_35, a0g_36, a0g_37, a0g_38, a0g_39])), (a0_15, .inl (ka0_15, 156, .inl (fa0_15))), (a0_23, .inl (ka0_23, 3, .inl (fa0_23))), (a0_24, .inl (ka0_24, 3, .inl (fa0_24)))] [(ka0_15, .int), (ka0_23, .int), (ka0_24, .int)] (fun A _ => True) (fun A => va_Qv (fun (_ : Unit) => True) (fun (_ : Unit) (t : State) => ∃ na0_25 : Int32, ∃ nfa0_23 : Nat → Int32, ∃ nfa0_24 : Nat → Int32, (∀ k, (0 : Int) ≤ (nfa0_23 k).toInt ∧ (nfa0_23 k).toInt ≤ 80) ∧ (∀ k, (0 : Int) ≤ (nfa0_24 k).toInt ∧ (nfa0_24 k).toInt ≤ 80) ∧ ax_B dC dI A [(a0, .inr (8, [a0g_0, a0g_1, a0g_2, a0g_3, a0g_4, a0g_5, a0g_6, a0g_7, a0g_8, a0g_9, a0g_10, a0g_11, a0g_12, a0g_13, a0g_14, Value.ref a0_15, a0g_16, a0g_17, a0g_18, a0g_19, a0g_20, a0g_21, a0g_22, Value.ref a0_23, Value.ref a0_24, Value.int na0_25, a0g_26, a0g_27, a0g_28, a0g_29, a0g_30, a0g_31, a0g_32, a0g_33, a0g_34, a0g_35, a0g_36, a0g_37, a0g_38, a0g_39])), (a0_15, .inl (ka0_15, 156, .inl (fa0_15))), (a0_23, .inl (ka0_23, 3, .inl (nfa0_23))), (a0_24, .inl (ka0_24, 3, .inl (nfa0_24)))] [(ka0_15, .int), (ka0_23, .int), (ka0_24, .int)] t) A) := by
  refine zh (cc := cX8_watchAsTold) (maxL := 2) (ret := none) zn_RX8 rfl (Nat.le_of_ble_eq_true rfl) (fun p e s m below meth c A ls hx hb hml hr hts (hown : s.vm.findClass RX8 = some m.cls) hlocks hA hS hP hK hD hE (hl : lv_has ls 2 [(0, .ref a0)]) => ?_)
  refine ai_open (fun K hK0 => ?_)
  refine (hK0 _ _ _).mpr ?_
  refine lv_iconst (v := 0) hx hb dX8_watchAsTold_0 zk_iconst_0 ?_
  refine lv_istore_n (lv' := [(1, .int 0), (0, .ref a0)]) hx hb dX8_watchAsTold_1 rfl hl (by decide) rfl (fun ls hl => ?_)
  have J2 : ∀ (n : Nat) (j2l1 : Int32) (j2a0_23_a : Nat → Int32) (j2a0_24_a : Nat → Int32) (H : Heap) (locs : List Loc) (ls : Array Slot), (4 : Int) - j2l1.toInt ≤ (n : Int) → (0 : Int) ≤ j2l1.toInt → j2l1.toInt ≤ (3 : Int) → (∀ k, (0 : Int) ≤ (j2a0_23_a k).toInt ∧ (j2a0_23_a k).toInt ≤ 80) → (∀ k, (0 : Int) ≤ (j2a0_24_a k).toInt ∧ (j2a0_24_a k).toInt ≤ 80) → va_P (dC, dI) vwCl [(a0, .inr (8, [a0g_0, a0g_1, a0g_2, a0g_3, a0g_4, a0g_5, a0g_6, a0g_7, a0g_8, a0g_9, a0g_10, a0g_11, a0g_12, a0g_13, a0g_14, Value.ref a0_15, a0g_16, a0g_17, a0g_18, a0g_19, a0g_20, a0g_21, a0g_22, Value.ref a0_23, Value.ref a0_24, Value.int a0_25, a0g_26, a0g_27, a0g_28, a0g_29, a0g_30, a0g_31, a0g_32, a0g_33, a0g_34, a0g_35, a0g_36, a0g_37, a0g_38, a0g_39])), (a0_15, .inl (ka0_15, 156, .inl (fa0_15))), (a0_23, .inl (ka0_23, 3, .inl (j2a0_23_a))), (a0_24, .inl (ka0_24, 3, .inl (j2a0_24_a)))] H → va_D A [(a0, .inr (8, [a0g_0, a0g_1, a0g_2, a0g_3, a0g_4, a0g_5, a0g_6, a0g_7, a0g_8, a0g_9, a0g_10, a0g_11, a0g_12, a0g_13, a0g_14, Value.ref a0_15, a0g_16, a0g_17, a0g_18, a0g_19, a0g_20, a0g_21, a0g_22, Value.ref a0_23, Value.ref a0_24, Value.int a0_25, a0g_26, a0g_27, a0g_28, a0g_29, a0g_30, a0g_31, a0g_32, a0g_33, a0g_34, a0g_35, a0g_36, a0g_37, a0g_38, a0g_39])), (a0_15, .inl (ka0_15, 156, .inl (fa0_15))), (a0_23, .inl (ka0_23, 3, .inl (j2a0_23_a))), (a0_24, .inl (ka0_24, 3, .inl (j2a0_24_a)))] → va_S A s.heap H locs → lv_has ls 2 [(0, .ref a0), (1, .int j2l1)] → K H locs (F0 m 2 ls []) := by
    intro n
    induction n with
    | zero =>
      intro j2l1 j2a0_23_a j2a0_24_a H locs ls hm bj2l1_l bj2l1_u bj2a0_23_a bj2a0_24_a hP hD hS hl
      first | exact zg_0 hm bj2l1_u (by decide) | (have h8 := ai_min j2l1; have h9 := ai_max j2l1; exact absurd hm (by omega))
    | succ n ih2 =>
      intro j2l1 j2a0_23_a j2a0_24_a H locs ls hm bj2l1_l bj2l1_u bj2a0_23_a bj2a0_24_a hP hD hS hl
      refine (hK0 _ _ _).mpr ?_
      have hm2 := hm
      refine lv_iload_n hx hb dX8_watchAsTold_2 rfl (lv_at hl 1 rfl) ?_
      refine lv_aload_n hx hb dX8_watchAsTold_3 rfl (lv_at hl 0 rfl) ?_
      refine va_get (D := (dC, dI)) (ci := 8) (v := .ref a0_15) (C := RX8) (T := TX8) (N := 40) hx hb hts zi_X8_watchAsTold_8 hown hK hP 0 rfl rfl 15 (by decide) (hts (.fieldLink RX8 20 "WaxTurnsModel" "\x72" "[I") (List.mem_cons_of_mem _ (List.mem_append_left _ (List.mem_of_getElem? (i := 0) rfl)))) (fun _ h9 => h9) rfl dX8_watchAsTold_4 ?_
      refine lv_iconst (v := 5) hx hb dX8_watchAsTold_7 zk_iconst_5 ?_
      refine va_iald hx hb hK hP 1 0 rfl rfl (by unfold vp_in; decide +kernel) dX8_watchAsTold_8 ?_
      refine lv_topi (fun x8 ex8 => ?_)
      have bx8 : (0 : Int) ≤ x8.toInt ∧ x8.toInt ≤ 3 := by rw [ex8]; exact ai_rd bfa0_15.2.2.2.2.2.1 zq114 zq115 (by decide) (by decide) (by decide)
      refine lv_icmp_ge (tgt := 54) hx hb dX8_watchAsTold_9 (by decide) (fun c9 => ?_) (fun c9 => ?_)
      · have gc9 := ai_le c9
        have u9t_x8 : x8.toInt ≤ (3 : Int) := bx8.2
        have l9t_j2l1 : (0 : Int) ≤ j2l1.toInt := bj2l1_l
        refine lv_aload_n hx hb dX8_watchAsTold_54 rfl (lv_at hl 0 rfl) ?_
        refine lv_iconst (v := 0) hx hb dX8_watchAsTold_55 zk_iconst_0 ?_
        refine va_put (D := (dC, dI)) (ci := 8) (v := .int 0) (ty := .int) (C := RX8) (T := TX8) (N := 40) hx hb hts zi_X8_watchAsTold_8 tyX8 tyX8_ok nmX8 hown hK hP hD hS 0 rfl rfl 25 (by decide) (hts (.fieldLink RX8 235 "WaxTurnsModel" "stood" "I") (List.mem_cons_of_mem _ (List.mem_append_left _ (List.mem_of_getElem? (i := 3) rfl)))) (fun _ h9 => h9) rfl (tyX8_ok 25 (by decide)) rfl rfl (Nat.le_of_ble_eq_true rfl) dX8_watchAsTold_56 (fun H locs hP hD hS => ?_)
        refine zs_0 (y := (a0, .inr (8, [a0g_0, a0g_1, a0g_2, a0g_3, a0g_4, a0g_5, a0g_6, a0g_7, a0g_8, a0g_9, a0g_10, a0g_11, a0g_12, a0g_13, a0g_14, Value.ref a0_15, a0g_16, a0g_17, a0g_18, a0g_19, a0g_20, a0g_21, a0g_22, Value.ref a0_23, Value.ref a0_24, Value.int 0, a0g_26, a0g_27, a0g_28, a0g_29, a0g_30, a0g_31, a0g_32, a0g_33, a0g_34, a0g_35, a0g_36, a0g_37, a0g_38, a0g_39]))) hP hD rfl (fun hP hD => ?_)
        exact W.vret hx hb hr (fun t ht hW => ⟨⟨(), rfl, trivial, 0, j2a0_23_a, j2a0_24_a, bj2a0_23_a, bj2a0_24_a, by rw [ht]; exact hP, va_K.moved hW.alike hK, hD⟩, hS.F ht⟩) hS.2.2 dX8_watchAsTold_59
      · have gc9 := ai_nle c9
        have u9f_j2l1 : j2l1.toInt ≤ (2 : Int) := ai_lthi gc9 bx8.2
        have l9f_x8 : (1 : Int) ≤ x8.toInt := ai_ltlo gc9 bj2l1_l
        refine lv_aload_n hx hb dX8_watchAsTold_12 rfl (lv_at hl 0 rfl) ?_
        refine va_get (D := (dC, dI)) (ci := 8) (v := .ref a0_23) (C := RX8) (T := TX8) (N := 40) hx hb hts zi_X8_watchAsTold_8 hown hK hP 0 rfl rfl 23 (by decide) (hts (.fieldLink RX8 38 "WaxTurnsModel" "from" "[I") (List.mem_cons_of_mem _ (List.mem_append_left _ (List.mem_of_getElem? (i := 1) rfl)))) (fun _ h9 => h9) rfl dX8_watchAsTold_13 ?_
        refine lv_iload_n hx hb dX8_watchAsTold_16 rfl (lv_at hl 1 rfl) ?_
        refine lv_aload_n hx hb dX8_watchAsTold_17 rfl (lv_at hl 0 rfl) ?_
        refine va_get (D := (dC, dI)) (ci := 8) (v := .ref a0_15) (C := RX8) (T := TX8) (N := 40) hx hb hts zi_X8_watchAsTold_8 hown hK hP 0 rfl rfl 15 (by decide) (hts (.fieldLink RX8 20 "WaxTurnsModel" "\x72" "[I") (List.mem_cons_of_mem _ (List.mem_append_left _ (List.mem_of_getElem? (i := 0) rfl)))) (fun _ h9 => h9) rfl dX8_watchAsTold_18 ?_
        refine lv_bipush (v := 30) hx hb dX8_watchAsTold_21 zk_bipush_30 ?_
        refine lv_iconst (v := 2) hx hb dX8_watchAsTold_23 zk_iconst_2 ?_
        refine lv_iload_n hx hb dX8_watchAsTold_24 rfl (lv_at hl 1 rfl) ?_
        refine lv_imul hx hb dX8_watchAsTold_25 ?_
        refine lv_topi (fun x25 ex25 => ?_)
        have qx25 : x25.toInt = (2 : Int32).toInt * j2l1.toInt ∧ (0 : Int) ≤ x25.toInt ∧ x25.toInt ≤ 4 := ai_mul ex25 ⟨zq12, zq13⟩ ⟨bj2l1_l, u9f_j2l1⟩ (by decide) (by decide) zq152
        have wx25 : x25.toInt = 2 * j2l1.toInt := qx25.1
        refine lv_iadd hx hb dX8_watchAsTold_26 ?_
        refine lv_topi (fun x26 ex26 => ?_)
        have qx26 : x26.toInt = (30 : Int32).toInt + x25.toInt := ai_add ex26 ⟨zq153, zq154⟩ ⟨qx25.2.1, qx25.2.2⟩ (by decide) (by decide)
        have bx26 : (30 : Int) ≤ x26.toInt ∧ x26.toInt ≤ 34 := ⟨by rw [qx26]; exact Int.add_le_add zq153 qx25.2.1, by rw [qx26]; exact Int.add_le_add zq154 qx25.2.2⟩
        have wx26 : x26.toInt = 30 + x25.toInt := qx26
        refine va_iald hx hb hK hP 1 0 rfl rfl (ai_in bx26.1 bx26.2 (by decide) (by decide)) dX8_watchAsTold_27 ?_
        refine lv_topi (fun x27 ex27 => ?_)
        have bx27 : (0 : Int) ≤ x27.toInt ∧ x27.toInt ≤ 8 := by rw [ex27]; exact ai_rd bfa0_15.2.2.2.2.2.2.2.2.2.1 bx26.1 bx26.2 (by decide) (by decide) (by decide)
        refine va_iast hx hb hK hP hD hS 2 1 rfl rfl (ai_in bj2l1_l u9f_j2l1 (by decide) (by decide)) dX8_watchAsTold_28 (fun H locs hP hD hS => ?_)
        obtain ⟨f28, ef28⟩ : ∃ g9 : Nat → Int32, g9 = upd j2a0_23_a (j2l1 : Int32).toNatClampNeg x27 := ⟨_, rfl⟩
        refine zs_2 (y := (a0_23, .inl (ka0_23, 3, .inl (f28)))) hP hD (by rw [ef28]) (fun hP hD => ?_)
        have bf28 : (∀ k, (0 : Int) ≤ (f28 k).toInt ∧ (f28 k).toInt ≤ 80) := by rw [ef28]; exact ai_upd bj2a0_23_a _ ⟨bx27.1, (Int.le_trans bx27.2 zq10)⟩
        refine lv_aload_n hx hb dX8_watchAsTold_29 rfl (lv_at hl 0 rfl) ?_
        refine va_get (D := (dC, dI)) (ci := 8) (v := .ref a0_24) (C := RX8) (T := TX8) (N := 40) hx hb hts zi_X8_watchAsTold_8 hown hK hP 0 rfl rfl 24 (by decide) (hts (.fieldLink RX8 41 "WaxTurnsModel" "to" "[I") (List.mem_cons_of_mem _ (List.mem_append_left _ (List.mem_of_getElem? (i := 2) rfl)))) (fun _ h9 => h9) rfl dX8_watchAsTold_30 ?_
        refine lv_iload_n hx hb dX8_watchAsTold_33 rfl (lv_at hl 1 rfl) ?_
        refine lv_aload_n hx hb dX8_watchAsTold_34 rfl (lv_at hl 0 rfl) ?_
        refine va_get (D := (dC, dI)) (ci := 8) (v := .ref a0_15) (C := RX8) (T := TX8) (N := 40) hx hb hts zi_X8_watchAsTold_8 hown hK hP 0 rfl rfl 15 (by decide) (hts (.fieldLink RX8 20 "WaxTurnsModel" "\x72" "[I") (List.mem_cons_of_mem _ (List.mem_append_left _ (List.mem_of_getElem? (i := 0) rfl)))) (fun _ h9 => h9) rfl dX8_watchAsTold_35 ?_
        refine lv_bipush (v := 30) hx hb dX8_watchAsTold_38 zk_bipush_30 ?_
        refine lv_iconst (v := 2) hx hb dX8_watchAsTold_40 zk_iconst_2 ?_
        refine lv_iload_n hx hb dX8_watchAsTold_41 rfl (lv_at hl 1 rfl) ?_
        refine lv_imul hx hb dX8_watchAsTold_42 ?_
        refine ax_ti x25 ex25.symm ?_
        refine lv_iadd hx hb dX8_watchAsTold_43 ?_
        refine ax_ti x26 ex26.symm ?_
        refine lv_iconst (v := 1) hx hb dX8_watchAsTold_44 zk_iconst_1 ?_
        refine lv_iadd hx hb dX8_watchAsTold_45 ?_
        refine lv_topi (fun x45 ex45 => ?_)
        have qx45 : x45.toInt = x26.toInt + (1 : Int32).toInt := ai_add ex45 ⟨bx26.1, bx26.2⟩ ⟨zq1, zq0⟩ (by decide) (by decide)
        have bx45 : (31 : Int) ≤ x45.toInt ∧ x45.toInt ≤ 35 := ⟨by rw [qx45]; exact Int.add_le_add bx26.1 zq1, by rw [qx45]; exact Int.add_le_add bx26.2 zq0⟩
        have wx45 : x45.toInt = x26.toInt + 1 := qx45
        refine va_iald hx hb hK hP 1 0 rfl rfl (ai_in bx45.1 bx45.2 (by decide) (by decide)) dX8_watchAsTold_46 ?_
        refine lv_topi (fun x46 ex46 => ?_)
        have bx46 : (0 : Int) ≤ x46.toInt ∧ x46.toInt ≤ 8 := by rw [ex46]; exact ai_rd bfa0_15.2.2.2.2.2.2.2.2.2.1 bx45.1 bx45.2 (by decide) (by decide) (by decide)
        refine va_iast hx hb hK hP hD hS 3 2 rfl rfl (ai_in bj2l1_l u9f_j2l1 (by decide) (by decide)) dX8_watchAsTold_47 (fun H locs hP hD hS => ?_)
        obtain ⟨f47, ef47⟩ : ∃ g9 : Nat → Int32, g9 = upd j2a0_24_a (j2l1 : Int32).toNatClampNeg x46 := ⟨_, rfl⟩
        refine zs_3 (y := (a0_24, .inl (ka0_24, 3, .inl (f47)))) hP hD (by rw [ef47]) (fun hP hD => ?_)
        have bf47 : (∀ k, (0 : Int) ≤ (f47 k).toInt ∧ (f47 k).toInt ≤ 80) := by rw [ef47]; exact ai_upd bj2a0_24_a _ ⟨bx46.1, (Int.le_trans bx46.2 zq10)⟩
        obtain ⟨x48, ex48⟩ : ∃ y : Int32, y = j2l1 + Int32.ofInt 1 := ⟨_, rfl⟩
        have qx48 : x48.toInt = j2l1.toInt + 1 := ai_inc ex48 (by decide) (by decide) u9f_j2l1 (by decide)
        have bx48 : (1 : Int) ≤ x48.toInt ∧ x48.toInt ≤ 3 := ⟨by rw [qx48]; exact Int.add_le_add bj2l1_l (Int.le_refl _), by rw [qx48]; exact Int.add_le_add u9f_j2l1 (Int.le_refl _)⟩
        refine lv_iinc (v := x48) (lv' := [(1, .int x48), (0, .ref a0)]) hx hb dX8_watchAsTold_48 hl (k := 1) rfl ex48.symm (by decide) rfl (fun ls hl => ?_)
        refine lv_goto (tgt := 2) hx hb dX8_watchAsTold_51 (by decide) ?_
        exact (hK0 _ _ _).mp (ih2 x48 f28 f47 _ _ _ (by first | exact zg_s hm2 qx48 | (have h0 := qx48; omega)) (Int.le_trans zq4 bx48.1) bx48.2 bf28 bf47 hP hD hS (lv_sub hl [1, 0] rfl))
  exact (hK0 _ _ _).mp (J2 4 0 fa0_23 fa0_24 _ _ _ (by first | decide +kernel | (have h1 : (0 : Int) ≤ (0 : Int32).toInt := zq5; have h2 : (0 : Int32).toInt ≤ (0 : Int) := zq6; omega)) zq5 (Int.le_trans zq6 zq11) bfa0_23 bfa0_24 hP hD hS (lv_sub hl [1, 0] rfl))

set_option maxHeartbeats 4000000 in
set_option maxRecDepth 100000 in
theorem c_X8_watcherAt (l : Launch) (dC : Nat → ClassId) (dI : Nat → Nat → Nat) (sz : Nat) (a0 : Nat) (a1 : Int32) (a2 : Int32) (a0g_0 a0g_1 a0g_2 a0g_3 a0g_4 a0g_5 a0g_6 a0g_7 a0g_8 a0g_9 a0g_10 a0g_11 a0g_12 a0g_13 a0g_14 a0g_15 a0g_16 a0g_17 a0g_18 a0g_19 a0g_20 a0g_21 a0g_22 a0g_25 a0g_26 a0g_27 a0g_28 a0g_29 a0g_30 a0g_31 a0g_32 a0g_33 a0g_34 a0g_35 a0g_36 a0g_37 a0g_38 a0g_39 : Value) (a0_23 : Nat) (a0_24 : Nat) (ka0_24 : ClassId) (fa0_24 : Nat → Int32) (ka0_23 : ClassId) (fa0_23 : Nat → Int32) (ba1_l : (0 : Int) ≤ a1.toInt) (ba1_u : a1.toInt ≤ (2 : Int)) (bfa0_24 : (∀ k, (0 : Int) ≤ (fa0_24 k).toInt ∧ (fa0_24 k).toInt ≤ 80)) (bfa0_23 : (∀ k, (0 : Int) ≤ (fa0_23 k).toInt ∧ (fa0_23 k).toInt ≤ 80)) : zm l yX8_watcherAt wsX8_watcherAt ({ frames := 0, cells := 0, slots := 0, locals := 0 }) [.ref a0, .int a1, .int a2] dC dI sz [(a0, .inr (8, [a0g_0, a0g_1, a0g_2, a0g_3, a0g_4, a0g_5, a0g_6, a0g_7, a0g_8, a0g_9, a0g_10, a0g_11, a0g_12, a0g_13, a0g_14, a0g_15, a0g_16, a0g_17, a0g_18, a0g_19, a0g_20, a0g_21, a0g_22, Value.ref a0_23, Value.ref a0_24, a0g_25, a0g_26, a0g_27, a0g_28, a0g_29, a0g_30, a0g_31, a0g_32, a0g_33, a0g_34, a0g_35, a0g_36, a0g_37, a0g_38, a0g_39])), (a0_24, .inl (ka0_24, 3, .inl (fa0_24))), (a0_23, .inl (ka0_23, 3, .inl (fa0_23)))] [(ka0_24, .int), (ka0_23, .int)] (fun A _ => True) (fun A => va_Qi (fun (r : Int32) (_ : Unit) => True) (fun (_ : Unit) (t : State) => ax_B dC dI A [(a0, .inr (8, [a0g_0, a0g_1, a0g_2, a0g_3, a0g_4, a0g_5, a0g_6, a0g_7, a0g_8, a0g_9, a0g_10, a0g_11, a0g_12, a0g_13, a0g_14, a0g_15, a0g_16, a0g_17, a0g_18, a0g_19, a0g_20, a0g_21, a0g_22, Value.ref a0_23, Value.ref a0_24, a0g_25, a0g_26, a0g_27, a0g_28, a0g_29, a0g_30, a0g_31, a0g_32, a0g_33, a0g_34, a0g_35, a0g_36, a0g_37, a0g_38, a0g_39])), (a0_24, .inl (ka0_24, 3, .inl (fa0_24))), (a0_23, .inl (ka0_23, 3, .inl (fa0_23)))] [(ka0_24, .int), (ka0_23, .int)] t) A) := by
  refine zh (cc := cX8_watcherAt) (maxL := 6) (ret := (some .int)) zn_RX8 rfl (Nat.le_of_ble_eq_true rfl) (fun p e s m below meth c A ls hx hb hml hr hts (hown : s.vm.findClass RX8 = some m.cls) hlocks hA hS hP hK hD hE (hl : lv_has ls 6 [(0, .ref a0), (1, .int a1), (2, .int a2)]) => ?_)
  refine lv_aload_n hx hb dX8_watcherAt_0 rfl (lv_at hl 0 rfl) ?_
  refine va_get (D := (dC, dI)) (ci := 8) (v := .ref a0_24) (C := RX8) (T := TX8) (N := 40) hx hb hts zi_X8_watcherAt_8 hown hK hP 0 rfl rfl 24 (by decide) (hts (.fieldLink RX8 41 "WaxTurnsModel" "to" "[I") (List.mem_cons_of_mem _ (List.mem_append_left _ (List.mem_of_getElem? (i := 0) rfl)))) (fun _ h9 => h9) rfl dX8_watcherAt_1 ?_
  refine lv_iload_n hx hb dX8_watcherAt_4 rfl (lv_at hl 1 rfl) ?_
  refine va_iald hx hb hK hP 1 0 rfl rfl (ai_in ba1_l ba1_u (by decide) (by decide)) dX8_watcherAt_5 ?_
  refine lv_topi (fun x5 ex5 => ?_)
  have bx5 : (0 : Int) ≤ x5.toInt ∧ x5.toInt ≤ 80 := by rw [ex5]; exact bfa0_24 _
  refine lv_aload_n hx hb dX8_watcherAt_6 rfl (lv_at hl 0 rfl) ?_
  refine va_get (D := (dC, dI)) (ci := 8) (v := .ref a0_23) (C := RX8) (T := TX8) (N := 40) hx hb hts zi_X8_watcherAt_8 hown hK hP 0 rfl rfl 23 (by decide) (hts (.fieldLink RX8 38 "WaxTurnsModel" "from" "[I") (List.mem_cons_of_mem _ (List.mem_append_left _ (List.mem_of_getElem? (i := 1) rfl)))) (fun _ h9 => h9) rfl dX8_watcherAt_7 ?_
  refine lv_iload_n hx hb dX8_watcherAt_10 rfl (lv_at hl 1 rfl) ?_
  refine va_iald hx hb hK hP 2 1 rfl rfl (ai_in ba1_l ba1_u (by decide) (by decide)) dX8_watcherAt_11 ?_
  refine lv_topi (fun x11 ex11 => ?_)
  have bx11 : (0 : Int) ≤ x11.toInt ∧ x11.toInt ≤ 80 := by rw [ex11]; exact bfa0_23 _
  refine lv_isub hx hb dX8_watcherAt_12 ?_
  refine lv_topi (fun x12 ex12 => ?_)
  have qx12 : x12.toInt = x5.toInt - x11.toInt := ai_sub ex12 ⟨bx5.1, bx5.2⟩ ⟨bx11.1, bx11.2⟩ (by decide) (by decide)
  have bx12 : (-80 : Int) ≤ x12.toInt ∧ x12.toInt ≤ 80 := ⟨by rw [qx12]; exact Int.sub_le_sub bx5.1 bx11.2, by rw [qx12]; exact Int.sub_le_sub bx5.2 bx11.1⟩
  refine lv_istore_n (lv' := [(3, .int x12), (0, .ref a0), (1, .int a1), (2, .int a2)]) hx hb dX8_watcherAt_13 rfl hl (by decide) rfl (fun ls hl => ?_)
  refine lv_iload_n hx hb dX8_watcherAt_14 rfl (lv_at hl 0 rfl) ?_
  refine lv_if_ge (tgt := 23) hx hb dX8_watcherAt_15 (by decide) (fun c15 => ?_) (fun c15 => ?_)
  · have gc15 := ai_le c15
    have l15t_x12 : (0 : Int) ≤ x12.toInt := Int.le_trans zq5 gc15
    refine lv_iload_n hx hb dX8_watcherAt_23 rfl (lv_at hl 0 rfl) ?_
    refine lv_istore (lv' := [(4, .int x12), (3, .int x12), (0, .ref a0), (1, .int a1), (2, .int a2)]) hx hb dX8_watcherAt_24 hl (by decide) rfl (fun ls hl => ?_)
    refine lv_iload hx hb dX8_watcherAt_26 (lv_at hl 0 rfl) ?_
    refine lv_if_ne (tgt := 38) hx hb dX8_watcherAt_28 (by decide) (fun c28 => ?_) (fun c28 => ?_)
    · have gc28 := ai_ne c28
      have l28t_x12 : (1 : Int) ≤ x12.toInt := (by first | exact zg_l l15t_x12 gc28 (by decide) (by decide) | (have h1 := l15t_x12; have h2 : (0 : Int32).toInt = 0 := (by decide); rw [h2] at gc28; omega))
      refine lv_iload_n hx hb dX8_watcherAt_38 rfl (lv_at hl 4 rfl) ?_
      refine lv_iconst (v := 2) hx hb dX8_watcherAt_39 zk_iconst_2 ?_
      refine lv_iload hx hb dX8_watcherAt_40 (lv_at hl 0 rfl) ?_
      refine lv_imul hx hb dX8_watcherAt_42 ?_
      refine lv_topi (fun x42 ex42 => ?_)
      have qx42 : x42.toInt = (2 : Int32).toInt * x12.toInt ∧ (2 : Int) ≤ x42.toInt ∧ x42.toInt ≤ 160 := ai_mul ex42 ⟨zq12, zq13⟩ ⟨l28t_x12, bx12.2⟩ (by decide) (by decide) zq14
      have wx42 : x42.toInt = 2 * x12.toInt := qx42.1
      refine lv_irem hx hb dX8_watcherAt_43 (ai_nz qx42.2.1 (by decide)) ?_
      refine lv_topi (fun x43 ex43 => ?_)
      refine lv_istore (lv' := [(5, .int x43), (4, .int x12), (3, .int x12), (0, .ref a0), (1, .int a1), (2, .int a2)]) hx hb dX8_watcherAt_44 hl (by decide) rfl (fun ls hl => ?_)
      refine lv_iload hx hb dX8_watcherAt_46 (lv_at hl 0 rfl) ?_
      refine lv_iload hx hb dX8_watcherAt_48 (lv_at hl 1 rfl) ?_
      refine lv_icmp_le (tgt := 62) hx hb dX8_watcherAt_50 (by decide) (fun c50 => ?_) (fun c50 => ?_)
      · have gc50 := ai_le c50
        have u50t_x43 : x43.toInt ≤ (80 : Int) := Int.le_trans gc50 bx12.2
        refine lv_iload_n hx hb dX8_watcherAt_62 rfl (lv_at hl 2 rfl) ?_
        refine lv_if_ge (tgt := 78) hx hb dX8_watcherAt_63 (by decide) (fun c63 => ?_) (fun c63 => ?_)
        · have gc63 := ai_le c63
          have l63t_x12 : (1 : Int) ≤ x12.toInt := l28t_x12
          refine lv_aload_n hx hb dX8_watcherAt_78 rfl (lv_at hl 3 rfl) ?_
          refine va_get (D := (dC, dI)) (ci := 8) (v := .ref a0_23) (C := RX8) (T := TX8) (N := 40) hx hb hts zi_X8_watcherAt_8 hown hK hP 0 rfl rfl 23 (by decide) (hts (.fieldLink RX8 38 "WaxTurnsModel" "from" "[I") (List.mem_cons_of_mem _ (List.mem_append_left _ (List.mem_of_getElem? (i := 1) rfl)))) (fun _ h9 => h9) rfl dX8_watcherAt_79 ?_
          refine lv_iload_n hx hb dX8_watcherAt_82 rfl (lv_at hl 4 rfl) ?_
          refine va_iald hx hb hK hP 2 1 rfl rfl (ai_in ba1_l ba1_u (by decide) (by decide)) dX8_watcherAt_83 ?_
          refine ax_ti x11 ex11.symm ?_
          refine lv_iload hx hb dX8_watcherAt_84 (lv_at hl 0 rfl) ?_
          refine lv_iadd hx hb dX8_watcherAt_86 ?_
          refine lv_topi (fun x86 ex86 => ?_)
          have qx86 : x86.toInt = x11.toInt + x43.toInt := ai_add ex86 ⟨bx11.1, bx11.2⟩ ⟨(ai_min x43), u50t_x43⟩ (by decide) (by decide)
          have bx86 : (-2147483648 : Int) ≤ x86.toInt ∧ x86.toInt ≤ 160 := ⟨by rw [qx86]; exact Int.add_le_add bx11.1 (ai_min x43), by rw [qx86]; exact Int.add_le_add bx11.2 u50t_x43⟩
          exact W.iret (v := x86) hx hb hr (fun t ht hW => ⟨⟨x86, (), rfl, trivial, by rw [ht]; exact hP, va_K.moved hW.alike hK, hD⟩, hS.F ht⟩) hS.2.2 dX8_watcherAt_87
        · have gc63 := ai_nle c63
          have u63f_x12 : x12.toInt ≤ (-1 : Int) := ai_lthi gc63 zq6
          exact absurd (Int.le_trans l28t_x12 u63f_x12) (by decide)
      · have gc50 := ai_nle c50
        have u50f_x12 : x12.toInt ≤ (80 : Int) := bx12.2
        have l50f_x43 : (2 : Int) ≤ x43.toInt := ai_ltlo gc50 l28t_x12
        refine lv_iconst (v := 2) hx hb dX8_watcherAt_53 zk_iconst_2 ?_
        refine lv_iload hx hb dX8_watcherAt_54 (lv_at hl 1 rfl) ?_
        refine lv_imul hx hb dX8_watcherAt_56 ?_
        refine ax_ti x42 ex42.symm ?_
        refine lv_iload hx hb dX8_watcherAt_57 (lv_at hl 0 rfl) ?_
        refine lv_isub hx hb dX8_watcherAt_59 ?_
        refine lv_topi (fun x59 ex59 => ?_)
        have qx59 : x59.toInt = x42.toInt - x43.toInt := ai_sub ex59 ⟨qx42.2.1, qx42.2.2⟩ ⟨l50f_x43, (ai_max x43)⟩ (by decide) (by decide)
        have bx59 : (-2147483645 : Int) ≤ x59.toInt ∧ x59.toInt ≤ 158 := ⟨by rw [qx59]; exact Int.sub_le_sub qx42.2.1 (ai_max x43), by rw [qx59]; exact Int.sub_le_sub qx42.2.2 l50f_x43⟩
        refine lv_istore (lv' := [(5, .int x59), (4, .int x12), (3, .int x12), (0, .ref a0), (1, .int a1), (2, .int a2)]) hx hb dX8_watcherAt_60 hl (by decide) rfl (fun ls hl => ?_)
        refine lv_iload_n hx hb dX8_watcherAt_62 rfl (lv_at hl 2 rfl) ?_
        refine lv_if_ge (tgt := 78) hx hb dX8_watcherAt_63 (by decide) (fun c63 => ?_) (fun c63 => ?_)
        · have gc63 := ai_le c63
          have l63t_x12 : (1 : Int) ≤ x12.toInt := l28t_x12
          refine lv_aload_n hx hb dX8_watcherAt_78 rfl (lv_at hl 3 rfl) ?_
          refine va_get (D := (dC, dI)) (ci := 8) (v := .ref a0_23) (C := RX8) (T := TX8) (N := 40) hx hb hts zi_X8_watcherAt_8 hown hK hP 0 rfl rfl 23 (by decide) (hts (.fieldLink RX8 38 "WaxTurnsModel" "from" "[I") (List.mem_cons_of_mem _ (List.mem_append_left _ (List.mem_of_getElem? (i := 1) rfl)))) (fun _ h9 => h9) rfl dX8_watcherAt_79 ?_
          refine lv_iload_n hx hb dX8_watcherAt_82 rfl (lv_at hl 4 rfl) ?_
          refine va_iald hx hb hK hP 2 1 rfl rfl (ai_in ba1_l ba1_u (by decide) (by decide)) dX8_watcherAt_83 ?_
          refine ax_ti x11 ex11.symm ?_
          refine lv_iload hx hb dX8_watcherAt_84 (lv_at hl 0 rfl) ?_
          refine lv_iadd hx hb dX8_watcherAt_86 ?_
          refine lv_topi (fun x86 ex86 => ?_)
          have qx86 : x86.toInt = x11.toInt + x59.toInt := ai_add ex86 ⟨bx11.1, bx11.2⟩ ⟨bx59.1, bx59.2⟩ (by decide) (by decide)
          have bx86 : (-2147483645 : Int) ≤ x86.toInt ∧ x86.toInt ≤ 238 := ⟨by rw [qx86]; exact Int.add_le_add bx11.1 bx59.1, by rw [qx86]; exact Int.add_le_add bx11.2 bx59.2⟩
          exact W.iret (v := x86) hx hb hr (fun t ht hW => ⟨⟨x86, (), rfl, trivial, by rw [ht]; exact hP, va_K.moved hW.alike hK, hD⟩, hS.F ht⟩) hS.2.2 dX8_watcherAt_87
        · have gc63 := ai_nle c63
          have u63f_x12 : x12.toInt ≤ (-1 : Int) := ai_lthi gc63 zq6
          exact absurd (Int.le_trans l28t_x12 u63f_x12) (by decide)
    · have gc28 := ai_eq c28
      have u28f_x12 : x12.toInt ≤ (0 : Int) := Int.le_trans (Int.le_of_eq gc28) zq6
      have l28f_x12 : (0 : Int) ≤ x12.toInt := l15t_x12
      refine lv_aload_n hx hb dX8_watcherAt_31 rfl (lv_at hl 2 rfl) ?_
      refine va_get (D := (dC, dI)) (ci := 8) (v := .ref a0_23) (C := RX8) (T := TX8) (N := 40) hx hb hts zi_X8_watcherAt_8 hown hK hP 0 rfl rfl 23 (by decide) (hts (.fieldLink RX8 38 "WaxTurnsModel" "from" "[I") (List.mem_cons_of_mem _ (List.mem_append_left _ (List.mem_of_getElem? (i := 1) rfl)))) (fun _ h9 => h9) rfl dX8_watcherAt_32 ?_
      refine lv_iload_n hx hb dX8_watcherAt_35 rfl (lv_at hl 3 rfl) ?_
      refine va_iald hx hb hK hP 2 1 rfl rfl (ai_in ba1_l ba1_u (by decide) (by decide)) dX8_watcherAt_36 ?_
      refine ax_ti x11 ex11.symm ?_
      exact W.iret (v := x11) hx hb hr (fun t ht hW => ⟨⟨x11, (), rfl, trivial, by rw [ht]; exact hP, va_K.moved hW.alike hK, hD⟩, hS.F ht⟩) hS.2.2 dX8_watcherAt_37
  · have gc15 := ai_nle c15
    have u15f_x12 : x12.toInt ≤ (-1 : Int) := ai_lthi gc15 zq6
    refine lv_iload_n hx hb dX8_watcherAt_18 rfl (lv_at hl 0 rfl) ?_
    refine lv_ineg hx hb dX8_watcherAt_19 ?_
    refine lv_topi (fun x19 ex19 => ?_)
    have qx19 : x19.toInt = -x12.toInt := ai_neg ex19 bx12.1 (by decide)
    have bx19 : (1 : Int) ≤ x19.toInt ∧ x19.toInt ≤ 80 := ⟨by rw [qx19]; exact Int.neg_le_neg u15f_x12, by rw [qx19]; exact Int.neg_le_neg bx12.1⟩
    refine lv_goto (tgt := 24) hx hb dX8_watcherAt_20 (by decide) ?_
    refine lv_istore (lv' := [(4, .int x19), (3, .int x12), (0, .ref a0), (1, .int a1), (2, .int a2)]) hx hb dX8_watcherAt_24 hl (by decide) rfl (fun ls hl => ?_)
    refine lv_iload hx hb dX8_watcherAt_26 (lv_at hl 0 rfl) ?_
    refine lv_if_ne (tgt := 38) hx hb dX8_watcherAt_28 (by decide) (fun c28 => ?_) (fun c28 => ?_)
    · have gc28 := ai_ne c28
      refine lv_iload_n hx hb dX8_watcherAt_38 rfl (lv_at hl 4 rfl) ?_
      refine lv_iconst (v := 2) hx hb dX8_watcherAt_39 zk_iconst_2 ?_
      refine lv_iload hx hb dX8_watcherAt_40 (lv_at hl 0 rfl) ?_
      refine lv_imul hx hb dX8_watcherAt_42 ?_
      refine lv_topi (fun x42 ex42 => ?_)
      have qx42 : x42.toInt = (2 : Int32).toInt * x19.toInt ∧ (2 : Int) ≤ x42.toInt ∧ x42.toInt ≤ 160 := ai_mul ex42 ⟨zq12, zq13⟩ ⟨bx19.1, bx19.2⟩ (by decide) (by decide) zq14
      have wx42 : x42.toInt = 2 * x19.toInt := qx42.1
      refine lv_irem hx hb dX8_watcherAt_43 (ai_nz qx42.2.1 (by decide)) ?_
      refine lv_topi (fun x43 ex43 => ?_)
      refine lv_istore (lv' := [(5, .int x43), (4, .int x19), (3, .int x12), (0, .ref a0), (1, .int a1), (2, .int a2)]) hx hb dX8_watcherAt_44 hl (by decide) rfl (fun ls hl => ?_)
      refine lv_iload hx hb dX8_watcherAt_46 (lv_at hl 0 rfl) ?_
      refine lv_iload hx hb dX8_watcherAt_48 (lv_at hl 1 rfl) ?_
      refine lv_icmp_le (tgt := 62) hx hb dX8_watcherAt_50 (by decide) (fun c50 => ?_) (fun c50 => ?_)
      · have gc50 := ai_le c50
        have u50t_x43 : x43.toInt ≤ (80 : Int) := Int.le_trans gc50 bx19.2
        refine lv_iload_n hx hb dX8_watcherAt_62 rfl (lv_at hl 2 rfl) ?_
        refine lv_if_ge (tgt := 78) hx hb dX8_watcherAt_63 (by decide) (fun c63 => ?_) (fun c63 => ?_)
        · have gc63 := ai_le c63
          have l63t_x12 : (0 : Int) ≤ x12.toInt := Int.le_trans zq5 gc63
          exact absurd (Int.le_trans l63t_x12 u15f_x12) (by decide)
        · have gc63 := ai_nle c63
          have u63f_x12 : x12.toInt ≤ (-1 : Int) := u15f_x12
          refine lv_aload_n hx hb dX8_watcherAt_66 rfl (lv_at hl 3 rfl) ?_
          refine va_get (D := (dC, dI)) (ci := 8) (v := .ref a0_23) (C := RX8) (T := TX8) (N := 40) hx hb hts zi_X8_watcherAt_8 hown hK hP 0 rfl rfl 23 (by decide) (hts (.fieldLink RX8 38 "WaxTurnsModel" "from" "[I") (List.mem_cons_of_mem _ (List.mem_append_left _ (List.mem_of_getElem? (i := 1) rfl)))) (fun _ h9 => h9) rfl dX8_watcherAt_67 ?_
          refine lv_iload_n hx hb dX8_watcherAt_70 rfl (lv_at hl 4 rfl) ?_
          refine va_iald hx hb hK hP 2 1 rfl rfl (ai_in ba1_l ba1_u (by decide) (by decide)) dX8_watcherAt_71 ?_
          refine ax_ti x11 ex11.symm ?_
          refine lv_iload hx hb dX8_watcherAt_72 (lv_at hl 0 rfl) ?_
          refine lv_isub hx hb dX8_watcherAt_74 ?_
          refine lv_topi (fun x74 ex74 => ?_)
          refine lv_goto (tgt := 87) hx hb dX8_watcherAt_75 (by decide) ?_
          exact W.iret (v := x74) hx hb hr (fun t ht hW => ⟨⟨x74, (), rfl, trivial, by rw [ht]; exact hP, va_K.moved hW.alike hK, hD⟩, hS.F ht⟩) hS.2.2 dX8_watcherAt_87
      · have gc50 := ai_nle c50
        have u50f_x19 : x19.toInt ≤ (80 : Int) := bx19.2
        have l50f_x43 : (2 : Int) ≤ x43.toInt := ai_ltlo gc50 bx19.1
        refine lv_iconst (v := 2) hx hb dX8_watcherAt_53 zk_iconst_2 ?_
        refine lv_iload hx hb dX8_watcherAt_54 (lv_at hl 1 rfl) ?_
        refine lv_imul hx hb dX8_watcherAt_56 ?_
        refine ax_ti x42 ex42.symm ?_
        refine lv_iload hx hb dX8_watcherAt_57 (lv_at hl 0 rfl) ?_
        refine lv_isub hx hb dX8_watcherAt_59 ?_
        refine lv_topi (fun x59 ex59 => ?_)
        have qx59 : x59.toInt = x42.toInt - x43.toInt := ai_sub ex59 ⟨qx42.2.1, qx42.2.2⟩ ⟨l50f_x43, (ai_max x43)⟩ (by decide) (by decide)
        have bx59 : (-2147483645 : Int) ≤ x59.toInt ∧ x59.toInt ≤ 158 := ⟨by rw [qx59]; exact Int.sub_le_sub qx42.2.1 (ai_max x43), by rw [qx59]; exact Int.sub_le_sub qx42.2.2 l50f_x43⟩
        refine lv_istore (lv' := [(5, .int x59), (4, .int x19), (3, .int x12), (0, .ref a0), (1, .int a1), (2, .int a2)]) hx hb dX8_watcherAt_60 hl (by decide) rfl (fun ls hl => ?_)
        refine lv_iload_n hx hb dX8_watcherAt_62 rfl (lv_at hl 2 rfl) ?_
        refine lv_if_ge (tgt := 78) hx hb dX8_watcherAt_63 (by decide) (fun c63 => ?_) (fun c63 => ?_)
        · have gc63 := ai_le c63
          have l63t_x12 : (0 : Int) ≤ x12.toInt := Int.le_trans zq5 gc63
          exact absurd (Int.le_trans l63t_x12 u15f_x12) (by decide)
        · have gc63 := ai_nle c63
          have u63f_x12 : x12.toInt ≤ (-1 : Int) := u15f_x12
          refine lv_aload_n hx hb dX8_watcherAt_66 rfl (lv_at hl 3 rfl) ?_
          refine va_get (D := (dC, dI)) (ci := 8) (v := .ref a0_23) (C := RX8) (T := TX8) (N := 40) hx hb hts zi_X8_watcherAt_8 hown hK hP 0 rfl rfl 23 (by decide) (hts (.fieldLink RX8 38 "WaxTurnsModel" "from" "[I") (List.mem_cons_of_mem _ (List.mem_append_left _ (List.mem_of_getElem? (i := 1) rfl)))) (fun _ h9 => h9) rfl dX8_watcherAt_67 ?_
          refine lv_iload_n hx hb dX8_watcherAt_70 rfl (lv_at hl 4 rfl) ?_
          refine va_iald hx hb hK hP 2 1 rfl rfl (ai_in ba1_l ba1_u (by decide) (by decide)) dX8_watcherAt_71 ?_
          refine ax_ti x11 ex11.symm ?_
          refine lv_iload hx hb dX8_watcherAt_72 (lv_at hl 0 rfl) ?_
          refine lv_isub hx hb dX8_watcherAt_74 ?_
          refine lv_topi (fun x74 ex74 => ?_)
          refine lv_goto (tgt := 87) hx hb dX8_watcherAt_75 (by decide) ?_
          exact W.iret (v := x74) hx hb hr (fun t ht hW => ⟨⟨x74, (), rfl, trivial, by rw [ht]; exact hP, va_K.moved hW.alike hK, hD⟩, hS.F ht⟩) hS.2.2 dX8_watcherAt_87
    · have gc28 := ai_eq c28
      have u28f_x19 : x19.toInt ≤ (0 : Int) := Int.le_trans (Int.le_of_eq gc28) zq6
      have l28f_x19 : (1 : Int) ≤ x19.toInt := bx19.1
      exact absurd (Int.le_trans l28f_x19 u28f_x19) (by decide)
end P130_safe
section P131_safe
set_option maxHeartbeats 4000000 in
set_option maxRecDepth 100000 in
theorem c_X8_isWatched (l : Launch) (dC : Nat → ClassId) (dI : Nat → Nat → Nat) (sz : Nat) (a0 : Nat) (a1 : Int32) (a2 : Int32) (a0g_0 a0g_1 a0g_2 a0g_3 a0g_4 a0g_5 a0g_6 a0g_7 a0g_8 a0g_9 a0g_10 a0g_11 a0g_12 a0g_13 a0g_14 a0g_16 a0g_17 a0g_18 a0g_19 a0g_20 a0g_21 a0g_22 a0g_26 a0g_27 a0g_28 a0g_29 a0g_30 a0g_31 a0g_32 a0g_33 a0g_34 a0g_35 a0g_36 a0g_37 a0g_38 a0g_39 : Value) (a0_15 : Nat) (a0_23 : Nat) (a0_24 : Nat) (a0_25 : Int32) (ka0_15 : ClassId) (fa0_15 : Nat → Int32) (ka0_24 : ClassId) (fa0_24 : Nat → Int32) (ka0_23 : ClassId) (fa0_23 : Nat → Int32) (bfa0_15 : ((∀ k : Nat, 0 ≤ k → k ≤ 0 → (2 : Int) ≤ (fa0_15 k).toInt ∧ (fa0_15 k).toInt ≤ 9) ∧ (∀ k : Nat, 1 ≤ k → k ≤ 1 → (1 : Int) ≤ (fa0_15 k).toInt ∧ (fa0_15 k).toInt ≤ 20) ∧ (∀ k : Nat, 2 ≤ k → k ≤ 2 → (0 : Int) ≤ (fa0_15 k).toInt ∧ (fa0_15 k).toInt ≤ 8) ∧ (∀ k : Nat, 3 ≤ k → k ≤ 3 → (0 : Int) ≤ (fa0_15 k).toInt ∧ (fa0_15 k).toInt ≤ 100) ∧ (∀ k : Nat, 4 ≤ k → k ≤ 4 → (0 : Int) ≤ (fa0_15 k).toInt ∧ (fa0_15 k).toInt ≤ 9) ∧ (∀ k : Nat, 5 ≤ k → k ≤ 5 → (0 : Int) ≤ (fa0_15 k).toInt ∧ (fa0_15 k).toInt ≤ 3) ∧ (∀ k : Nat, 6 ≤ k → k ≤ 6 → (0 : Int) ≤ (fa0_15 k).toInt ∧ (fa0_15 k).toInt ≤ 6) ∧ (∀ k : Nat, 7 ≤ k → k ≤ 9 → (0 : Int) ≤ (fa0_15 k).toInt ∧ (fa0_15 k).toInt ≤ 8) ∧ (∀ k : Nat, 12 ≤ k → k ≤ 29 → (0 : Int) ≤ (fa0_15 k).toInt ∧ (fa0_15 k).toInt ≤ 20) ∧ (∀ k : Nat, 30 ≤ k → k ≤ 35 → (0 : Int) ≤ (fa0_15 k).toInt ∧ (fa0_15 k).toInt ≤ 8) ∧ (∀ k : Nat, 36 ≤ k → k ≤ 47 → (0 : Int) ≤ (fa0_15 k).toInt ∧ (fa0_15 k).toInt ≤ 999))) (bfa0_24 : (∀ k, (0 : Int) ≤ (fa0_24 k).toInt ∧ (fa0_24 k).toInt ≤ 80)) (bfa0_23 : (∀ k, (0 : Int) ≤ (fa0_23 k).toInt ∧ (fa0_23 k).toInt ≤ 80)) : zm l yX8_isWatched wsX8_isWatched ({ frames := 1, cells := 0, slots := 0, locals := 25 }) [.ref a0, .int a1, .int a2] dC dI sz [(a0, .inr (8, [a0g_0, a0g_1, a0g_2, a0g_3, a0g_4, a0g_5, a0g_6, a0g_7, a0g_8, a0g_9, a0g_10, a0g_11, a0g_12, a0g_13, a0g_14, Value.ref a0_15, a0g_16, a0g_17, a0g_18, a0g_19, a0g_20, a0g_21, a0g_22, Value.ref a0_23, Value.ref a0_24, Value.int a0_25, a0g_26, a0g_27, a0g_28, a0g_29, a0g_30, a0g_31, a0g_32, a0g_33, a0g_34, a0g_35, a0g_36, a0g_37, a0g_38, a0g_39])), (a0_15, .inl (ka0_15, 156, .inl (fa0_15))), (a0_24, .inl (ka0_24, 3, .inl (fa0_24))), (a0_23, .inl (ka0_23, 3, .inl (fa0_23)))] [(ka0_15, .int), (ka0_24, .int), (ka0_23, .int)] (fun A _ => True) (fun A => va_Qi (fun (r : Int32) (_ : Unit) => (r = 1) ∨ (r = 0)) (fun (_ : Unit) (t : State) => ax_B dC dI A [(a0, .inr (8, [a0g_0, a0g_1, a0g_2, a0g_3, a0g_4, a0g_5, a0g_6, a0g_7, a0g_8, a0g_9, a0g_10, a0g_11, a0g_12, a0g_13, a0g_14, Value.ref a0_15, a0g_16, a0g_17, a0g_18, a0g_19, a0g_20, a0g_21, a0g_22, Value.ref a0_23, Value.ref a0_24, Value.int a0_25, a0g_26, a0g_27, a0g_28, a0g_29, a0g_30, a0g_31, a0g_32, a0g_33, a0g_34, a0g_35, a0g_36, a0g_37, a0g_38, a0g_39])), (a0_15, .inl (ka0_15, 156, .inl (fa0_15))), (a0_24, .inl (ka0_24, 3, .inl (fa0_24))), (a0_23, .inl (ka0_23, 3, .inl (fa0_23)))] [(ka0_15, .int), (ka0_24, .int), (ka0_23, .int)] t) A) := by
  refine zh (cc := cX8_isWatched) (maxL := 4) (ret := (some .boolean)) zn_RX8 rfl (Nat.le_of_ble_eq_true rfl) (fun p e s m below meth c A ls hx hb hml hr hts (hown : s.vm.findClass RX8 = some m.cls) hlocks hA hS hP hK hD hE (hl : lv_has ls 4 [(0, .ref a0), (1, .int a1), (2, .int a2)]) => ?_)
  refine ai_open (fun K hK0 => ?_)
  refine (hK0 _ _ _).mpr ?_
  refine lv_aload_n hx hb dX8_isWatched_0 rfl (lv_at hl 0 rfl) ?_
  refine va_get (D := (dC, dI)) (ci := 8) (v := .int a0_25) (C := RX8) (T := TX8) (N := 40) hx hb hts zi_X8_isWatched_8 hown hK hP 0 rfl rfl 25 (by decide) (hts (.fieldLink RX8 235 "WaxTurnsModel" "stood" "I") (List.mem_cons_of_mem _ (List.mem_append_left _ (List.mem_of_getElem? (i := 0) rfl)))) (fun _ h9 => h9) rfl dX8_isWatched_1 ?_
  refine lv_iload_n hx hb dX8_isWatched_4 rfl (lv_at hl 1 rfl) ?_
  refine va_calli (va_runS (As := [.int a0_25, .int a1]) (rest := []) ⟨hx, hb, hml, hown, hts⟩ (c_X8_hasBit l dC dI s.heap.size a0_25 a1 ) (va_cwS 2 hts gX8_isWatched_X8_hasBit rfl rfl rfl zd_X8_hasBit.2 ⟨Nat.le_of_ble_eq_true rfl, Nat.le_of_ble_eq_true rfl⟩) ⟨ax_blind (fun _ _ _ _ _ => trivial), ax_pre (zp_P0 hP) (zp_K hK) (zp_D0 hD) (fun _ _ => trivial)⟩ rfl rfl hl.1 rfl (lv_room (Nat.le_of_ble_eq_true rfl)) dX8_isWatched_5 ⟨Nat.le_of_ble_eq_true rfl, Nat.le_of_ble_eq_true rfl⟩) hS (fun q _ h => zp_F0 hD hS hA q h) (zp_F0 hD hS hA) (fun r5 u t H locs ht hvm hw hB hz1 hk1 hS1 => zo0 hB ht hP hD hk1 (zp_F0 hD hS hA) hS1 (fun hP hK1 hD hS => ?_))
  rcases hw with hw | hw
  · subst hw
    refine lv_if_eq (tgt := 13) hx hb dX8_isWatched_8 (by decide) (fun c8 => absurd c8 (by decide +kernel)) (fun _ => ?_)
    refine lv_iconst (v := 1) hx hb dX8_isWatched_11 zk_iconst_1 ?_
    exact W.zret (v := 1) hx hb hr rfl (fun t ht hW => ⟨⟨1, (), rfl, (Or.inl (rfl)), by rw [ht]; exact hP, va_K.moved hW.alike hK, hD⟩, hS.F ht⟩) hS.2.2 dX8_isWatched_12
  · subst hw
    refine lv_if_eq (tgt := 13) hx hb dX8_isWatched_8 (by decide) (fun _ => ?_) (fun c8 => absurd (by decide +kernel) c8)
    refine lv_iconst (v := 0) hx hb dX8_isWatched_13 zk_iconst_0 ?_
    refine lv_istore_n (lv' := [(3, .int 0), (0, .ref a0), (1, .int a1), (2, .int a2)]) hx hb dX8_isWatched_14 rfl hl (by decide) rfl (fun ls hl => ?_)
    have J15 : ∀ (n : Nat) (j15l3 : Int32) (H : Heap) (locs : List Loc) (ls : Array Slot), (4 : Int) - j15l3.toInt ≤ (n : Int) → (0 : Int) ≤ j15l3.toInt → j15l3.toInt ≤ (3 : Int) → va_P (dC, dI) vwCl [(a0, .inr (8, [a0g_0, a0g_1, a0g_2, a0g_3, a0g_4, a0g_5, a0g_6, a0g_7, a0g_8, a0g_9, a0g_10, a0g_11, a0g_12, a0g_13, a0g_14, Value.ref a0_15, a0g_16, a0g_17, a0g_18, a0g_19, a0g_20, a0g_21, a0g_22, Value.ref a0_23, Value.ref a0_24, Value.int a0_25, a0g_26, a0g_27, a0g_28, a0g_29, a0g_30, a0g_31, a0g_32, a0g_33, a0g_34, a0g_35, a0g_36, a0g_37, a0g_38, a0g_39])), (a0_15, .inl (ka0_15, 156, .inl (fa0_15))), (a0_24, .inl (ka0_24, 3, .inl (fa0_24))), (a0_23, .inl (ka0_23, 3, .inl (fa0_23)))] H → va_D A [(a0, .inr (8, [a0g_0, a0g_1, a0g_2, a0g_3, a0g_4, a0g_5, a0g_6, a0g_7, a0g_8, a0g_9, a0g_10, a0g_11, a0g_12, a0g_13, a0g_14, Value.ref a0_15, a0g_16, a0g_17, a0g_18, a0g_19, a0g_20, a0g_21, a0g_22, Value.ref a0_23, Value.ref a0_24, Value.int a0_25, a0g_26, a0g_27, a0g_28, a0g_29, a0g_30, a0g_31, a0g_32, a0g_33, a0g_34, a0g_35, a0g_36, a0g_37, a0g_38, a0g_39])), (a0_15, .inl (ka0_15, 156, .inl (fa0_15))), (a0_24, .inl (ka0_24, 3, .inl (fa0_24))), (a0_23, .inl (ka0_23, 3, .inl (fa0_23)))] → va_S A s.heap H locs → lv_has ls 4 [(0, .ref a0), (1, .int a1), (2, .int a2), (3, .int j15l3)] → K H locs (F0 m 15 ls []) := by
      intro n
      induction n with
      | zero =>
        intro j15l3 H locs ls hm bj15l3_l bj15l3_u hP hD hS hl
        first | exact zg_0 hm bj15l3_u (by decide) | (have h8 := ai_min j15l3; have h9 := ai_max j15l3; exact absurd hm (by omega))
      | succ n ih15 =>
        intro j15l3 H locs ls hm bj15l3_l bj15l3_u hP hD hS hl
        refine (hK0 _ _ _).mpr ?_
        have hm15 := hm
        refine lv_iload_n hx hb dX8_isWatched_15 rfl (lv_at hl 3 rfl) ?_
        refine lv_aload_n hx hb dX8_isWatched_16 rfl (lv_at hl 0 rfl) ?_
        refine va_get (D := (dC, dI)) (ci := 8) (v := .ref a0_15) (C := RX8) (T := TX8) (N := 40) hx hb hts zi_X8_isWatched_8 hown hK hP 0 rfl rfl 15 (by decide) (hts (.fieldLink RX8 20 "WaxTurnsModel" "\x72" "[I") (List.mem_cons_of_mem _ (List.mem_append_left _ (List.mem_of_getElem? (i := 1) rfl)))) (fun _ h9 => h9) rfl dX8_isWatched_17 ?_
        refine lv_iconst (v := 5) hx hb dX8_isWatched_20 zk_iconst_5 ?_
        refine va_iald hx hb hK hP 1 0 rfl rfl (by unfold vp_in; decide +kernel) dX8_isWatched_21 ?_
        refine lv_topi (fun x21 ex21 => ?_)
        have bx21 : (0 : Int) ≤ x21.toInt ∧ x21.toInt ≤ 3 := by rw [ex21]; exact ai_rd bfa0_15.2.2.2.2.2.1 zq114 zq115 (by decide) (by decide) (by decide)
        refine lv_icmp_ge (tgt := 43) hx hb dX8_isWatched_22 (by decide) (fun c22 => ?_) (fun c22 => ?_)
        · have gc22 := ai_le c22
          have u22t_x21 : x21.toInt ≤ (3 : Int) := bx21.2
          have l22t_j15l3 : (0 : Int) ≤ j15l3.toInt := bj15l3_l
          refine lv_iconst (v := 0) hx hb dX8_isWatched_43 zk_iconst_0 ?_
          exact W.zret (v := 0) hx hb hr rfl (fun t ht hW => ⟨⟨0, (), rfl, (Or.inr (rfl)), by rw [ht]; exact hP, va_K.moved hW.alike hK, hD⟩, hS.F ht⟩) hS.2.2 dX8_isWatched_44
        · have gc22 := ai_nle c22
          have u22f_j15l3 : j15l3.toInt ≤ (2 : Int) := ai_lthi gc22 bx21.2
          have l22f_x21 : (1 : Int) ≤ x21.toInt := ai_ltlo gc22 bj15l3_l
          refine lv_aload_n hx hb dX8_isWatched_25 rfl (lv_at hl 0 rfl) ?_
          refine lv_iload_n hx hb dX8_isWatched_26 rfl (lv_at hl 3 rfl) ?_
          refine lv_iload_n hx hb dX8_isWatched_27 rfl (lv_at hl 2 rfl) ?_
          refine zc_cutc (wc := [(a0, .inr (8, [a0g_0, a0g_1, a0g_2, a0g_3, a0g_4, a0g_5, a0g_6, a0g_7, a0g_8, a0g_9, a0g_10, a0g_11, a0g_12, a0g_13, a0g_14, Value.ref a0_15, a0g_16, a0g_17, a0g_18, a0g_19, a0g_20, a0g_21, a0g_22, Value.ref a0_23, Value.ref a0_24, Value.int a0_25, a0g_26, a0g_27, a0g_28, a0g_29, a0g_30, a0g_31, a0g_32, a0g_33, a0g_34, a0g_35, a0g_36, a0g_37, a0g_38, a0g_39])), (a0_24, .inl (ka0_24, 3, .inl (fa0_24))), (a0_23, .inl (ka0_23, 3, .inl (fa0_23)))]) hP hD hS hA [0, 2, 3] (by decide +kernel) rfl (fun hPc hDc hFc hCc => ?_)
          have hKc := hK.sub (tys' := [(ka0_24, .int), (ka0_23, .int)]) [1, 2] rfl
          refine va_calli (va_runV (As := [.int j15l3, .int a2]) (rest := []) ⟨hx, hb, hml, hown, hts⟩ (c_X8_watcherAt l dC dI H.size a0 j15l3 a2 a0g_0 a0g_1 a0g_2 a0g_3 a0g_4 a0g_5 a0g_6 a0g_7 a0g_8 a0g_9 a0g_10 a0g_11 a0g_12 a0g_13 a0g_14 (Value.ref a0_15) a0g_16 a0g_17 a0g_18 a0g_19 a0g_20 a0g_21 a0g_22 (Value.int a0_25) a0g_26 a0g_27 a0g_28 a0g_29 a0g_30 a0g_31 a0g_32 a0g_33 a0g_34 a0g_35 a0g_36 a0g_37 a0g_38 a0g_39 a0_23 a0_24 ka0_24 fa0_24 ka0_23 fa0_23 bj15l3_l u22f_j15l3 bfa0_24 bfa0_23) (cwV 2 hts gX8_isWatched_X8_watcherAt rfl rfl rfl zd_X8_watcherAt ⟨Nat.le_of_ble_eq_true rfl, Nat.le_of_ble_eq_true rfl⟩) ⟨ax_blind (fun _ _ _ _ _ => trivial), zr_8 hKc hPc (q0 := 0) rfl, ax_pre hPc hKc hDc (fun _ _ => trivial)⟩ rfl rfl hl.1 rfl (lv_room (Nat.le_of_ble_eq_true rfl)) dX8_isWatched_28 ⟨Nat.le_of_ble_eq_true rfl, Nat.le_of_ble_eq_true rfl⟩) hS (fun q _ h => hFc q h) hFc (fun r28 u t H locs ht hvm hw hB hz1 hk1 hS1 => zo hB ht hS1 (fun hP1 hK1 hD1 hS => ?_))
          refine zc_backc (w := [(a0, .inr (8, [a0g_0, a0g_1, a0g_2, a0g_3, a0g_4, a0g_5, a0g_6, a0g_7, a0g_8, a0g_9, a0g_10, a0g_11, a0g_12, a0g_13, a0g_14, Value.ref a0_15, a0g_16, a0g_17, a0g_18, a0g_19, a0g_20, a0g_21, a0g_22, Value.ref a0_23, Value.ref a0_24, Value.int a0_25, a0g_26, a0g_27, a0g_28, a0g_29, a0g_30, a0g_31, a0g_32, a0g_33, a0g_34, a0g_35, a0g_36, a0g_37, a0g_38, a0g_39])), (a0_15, .inl (ka0_15, 156, .inl (fa0_15))), (a0_24, .inl (ka0_24, 3, .inl (fa0_24))), (a0_23, .inl (ka0_23, 3, .inl (fa0_23)))]) hP hD hCc hk1 hFc hP1 hD1 [.inr 0, .inl 1, .inr 1, .inr 2] (by decide +kernel) rfl (fun hP hD => ?_)
          refine lv_iload_n hx hb dX8_isWatched_31 rfl (lv_at hl 1 rfl) ?_
          refine lv_icmp_ne (tgt := 37) hx hb dX8_isWatched_32 (by decide) (fun c32 => ?_) (fun c32 => ?_)
          · have gc32 := ai_ne c32
            obtain ⟨x37, ex37⟩ : ∃ y : Int32, y = j15l3 + Int32.ofInt 1 := ⟨_, rfl⟩
            have qx37 : x37.toInt = j15l3.toInt + 1 := ai_inc ex37 (by decide) (by decide) u22f_j15l3 (by decide)
            have bx37 : (1 : Int) ≤ x37.toInt ∧ x37.toInt ≤ 3 := ⟨by rw [qx37]; exact Int.add_le_add bj15l3_l (Int.le_refl _), by rw [qx37]; exact Int.add_le_add u22f_j15l3 (Int.le_refl _)⟩
            refine lv_iinc (v := x37) (lv' := [(3, .int x37), (0, .ref a0), (1, .int a1), (2, .int a2)]) hx hb dX8_isWatched_37 hl (k := 3) rfl ex37.symm (by decide) rfl (fun ls hl => ?_)
            refine lv_goto (tgt := 15) hx hb dX8_isWatched_40 (by decide) ?_
            exact (hK0 _ _ _).mp (ih15 x37 _ _ _ (by first | exact zg_s hm15 qx37 | (have h0 := qx37; omega)) (Int.le_trans zq4 bx37.1) bx37.2 hP hD hS (lv_sub hl [1, 2, 3, 0] rfl))
          · have gc32 := ai_eq c32
            refine lv_iconst (v := 1) hx hb dX8_isWatched_35 zk_iconst_1 ?_
            exact W.zret (v := 1) hx hb hr rfl (fun t ht hW => ⟨⟨1, (), rfl, (Or.inl (rfl)), by rw [ht]; exact hP, va_K.moved hW.alike hK, hD⟩, hS.F ht⟩) hS.2.2 dX8_isWatched_36
    exact (hK0 _ _ _).mp (J15 4 0 _ _ _ (by first | decide +kernel | (have h1 : (0 : Int) ≤ (0 : Int32).toInt := zq5; have h2 : (0 : Int32).toInt ≤ (0 : Int) := zq6; omega)) zq5 (Int.le_trans zq6 zq11) hP hD hS (lv_sub hl [1, 2, 3, 0] rfl))

set_option maxHeartbeats 4000000 in
set_option maxRecDepth 100000 in
theorem c_X8_nextOf (l : Launch) (dC : Nat → ClassId) (dI : Nat → Nat → Nat) (sz : Nat) (a0 : Nat) (a1 : Int32) (a0g_0 a0g_1 a0g_2 a0g_3 a0g_4 a0g_5 a0g_6 a0g_7 a0g_8 a0g_9 a0g_10 a0g_11 a0g_12 a0g_13 a0g_14 a0g_16 a0g_17 a0g_18 a0g_19 a0g_20 a0g_21 a0g_22 a0g_23 a0g_24 a0g_25 a0g_26 a0g_27 a0g_28 a0g_29 a0g_30 a0g_31 a0g_32 a0g_33 a0g_34 a0g_35 a0g_36 a0g_37 a0g_38 a0g_39 : Value) (a0_15 : Nat) (ka0_15 : ClassId) (fa0_15 : Nat → Int32) (ba1_l : (0 : Int) ≤ a1.toInt) (ba1_u : a1.toInt ≤ (8 : Int)) (bfa0_15 : ((∀ k : Nat, 0 ≤ k → k ≤ 0 → (2 : Int) ≤ (fa0_15 k).toInt ∧ (fa0_15 k).toInt ≤ 9) ∧ (∀ k : Nat, 1 ≤ k → k ≤ 1 → (1 : Int) ≤ (fa0_15 k).toInt ∧ (fa0_15 k).toInt ≤ 20) ∧ (∀ k : Nat, 2 ≤ k → k ≤ 2 → (0 : Int) ≤ (fa0_15 k).toInt ∧ (fa0_15 k).toInt ≤ 8) ∧ (∀ k : Nat, 3 ≤ k → k ≤ 3 → (0 : Int) ≤ (fa0_15 k).toInt ∧ (fa0_15 k).toInt ≤ 100) ∧ (∀ k : Nat, 4 ≤ k → k ≤ 4 → (0 : Int) ≤ (fa0_15 k).toInt ∧ (fa0_15 k).toInt ≤ 9) ∧ (∀ k : Nat, 5 ≤ k → k ≤ 5 → (0 : Int) ≤ (fa0_15 k).toInt ∧ (fa0_15 k).toInt ≤ 3) ∧ (∀ k : Nat, 6 ≤ k → k ≤ 6 → (0 : Int) ≤ (fa0_15 k).toInt ∧ (fa0_15 k).toInt ≤ 6) ∧ (∀ k : Nat, 7 ≤ k → k ≤ 9 → (0 : Int) ≤ (fa0_15 k).toInt ∧ (fa0_15 k).toInt ≤ 8) ∧ (∀ k : Nat, 12 ≤ k → k ≤ 29 → (0 : Int) ≤ (fa0_15 k).toInt ∧ (fa0_15 k).toInt ≤ 20) ∧ (∀ k : Nat, 30 ≤ k → k ≤ 35 → (0 : Int) ≤ (fa0_15 k).toInt ∧ (fa0_15 k).toInt ≤ 8) ∧ (∀ k : Nat, 36 ≤ k → k ≤ 47 → (0 : Int) ≤ (fa0_15 k).toInt ∧ (fa0_15 k).toInt ≤ 999))) : zm l yX8_nextOf wsX8_nextOf ({ frames := 0, cells := 0, slots := 0, locals := 0 }) [.ref a0, .int a1] dC dI sz [(a0, .inr (8, [a0g_0, a0g_1, a0g_2, a0g_3, a0g_4, a0g_5, a0g_6, a0g_7, a0g_8, a0g_9, a0g_10, a0g_11, a0g_12, a0g_13, a0g_14, Value.ref a0_15, a0g_16, a0g_17, a0g_18, a0g_19, a0g_20, a0g_21, a0g_22, a0g_23, a0g_24, a0g_25, a0g_26, a0g_27, a0g_28, a0g_29, a0g_30, a0g_31, a0g_32, a0g_33, a0g_34, a0g_35, a0g_36, a0g_37, a0g_38, a0g_39])), (a0_15, .inl (ka0_15, 156, .inl (fa0_15)))] [(ka0_15, .int)] (fun A _ => True) (fun A => va_Qi (fun (r : Int32) (_ : Unit) => (0 : Int) ≤ r.toInt ∧ r.toInt ≤ (8 : Int)) (fun (_ : Unit) (t : State) => ax_B dC dI A [(a0, .inr (8, [a0g_0, a0g_1, a0g_2, a0g_3, a0g_4, a0g_5, a0g_6, a0g_7, a0g_8, a0g_9, a0g_10, a0g_11, a0g_12, a0g_13, a0g_14, Value.ref a0_15, a0g_16, a0g_17, a0g_18, a0g_19, a0g_20, a0g_21, a0g_22, a0g_23, a0g_24, a0g_25, a0g_26, a0g_27, a0g_28, a0g_29, a0g_30, a0g_31, a0g_32, a0g_33, a0g_34, a0g_35, a0g_36, a0g_37, a0g_38, a0g_39])), (a0_15, .inl (ka0_15, 156, .inl (fa0_15)))] [(ka0_15, .int)] t) A) := by
  refine zh (cc := cX8_nextOf) (maxL := 2) (ret := (some .int)) zn_RX8 rfl (Nat.le_of_ble_eq_true rfl) (fun p e s m below meth c A ls hx hb hml hr hts (hown : s.vm.findClass RX8 = some m.cls) hlocks hA hS hP hK hD hE (hl : lv_has ls 2 [(0, .ref a0), (1, .int a1)]) => ?_)
  refine lv_aload_n hx hb dX8_nextOf_0 rfl (lv_at hl 0 rfl) ?_
  refine va_get (D := (dC, dI)) (ci := 8) (v := .ref a0_15) (C := RX8) (T := TX8) (N := 40) hx hb hts zi_X8_nextOf_8 hown hK hP 0 rfl rfl 15 (by decide) (hts (.fieldLink RX8 20 "WaxTurnsModel" "\x72" "[I") (List.mem_cons_of_mem _ (List.mem_append_left _ (List.mem_of_getElem? (i := 0) rfl)))) (fun _ h9 => h9) rfl dX8_nextOf_1 ?_
  refine lv_bipush (v := 7) hx hb dX8_nextOf_4 zk_bipush_7 ?_
  refine va_iald hx hb hK hP 1 0 rfl rfl (by unfold vp_in; decide +kernel) dX8_nextOf_6 ?_
  refine lv_topi (fun x6 ex6 => ?_)
  have bx6 : (0 : Int) ≤ x6.toInt ∧ x6.toInt ≤ 8 := by rw [ex6]; exact ai_rd bfa0_15.2.2.2.2.2.2.2.1 zq116 zq117 (by decide) (by decide) (by decide)
  refine lv_iload_n hx hb dX8_nextOf_7 rfl (lv_at hl 1 rfl) ?_
  refine lv_imul hx hb dX8_nextOf_8 ?_
  refine lv_topi (fun x8 ex8 => ?_)
  have qx8 : x8.toInt = x6.toInt * a1.toInt ∧ (0 : Int) ≤ x8.toInt ∧ x8.toInt ≤ 64 := ai_mul ex8 ⟨bx6.1, bx6.2⟩ ⟨ba1_l, ba1_u⟩ (by decide) (by decide) zq18
  refine lv_aload_n hx hb dX8_nextOf_9 rfl (lv_at hl 0 rfl) ?_
  refine va_get (D := (dC, dI)) (ci := 8) (v := .ref a0_15) (C := RX8) (T := TX8) (N := 40) hx hb hts zi_X8_nextOf_8 hown hK hP 0 rfl rfl 15 (by decide) (hts (.fieldLink RX8 20 "WaxTurnsModel" "\x72" "[I") (List.mem_cons_of_mem _ (List.mem_append_left _ (List.mem_of_getElem? (i := 0) rfl)))) (fun _ h9 => h9) rfl dX8_nextOf_10 ?_
  refine lv_bipush (v := 8) hx hb dX8_nextOf_13 zk_bipush_8 ?_
  refine va_iald hx hb hK hP 1 0 rfl rfl (by unfold vp_in; decide +kernel) dX8_nextOf_15 ?_
  refine lv_topi (fun x15 ex15 => ?_)
  have bx15 : (0 : Int) ≤ x15.toInt ∧ x15.toInt ≤ 8 := by rw [ex15]; exact ai_rd bfa0_15.2.2.2.2.2.2.2.1 zq118 zq28 (by decide) (by decide) (by decide)
  refine lv_iadd hx hb dX8_nextOf_16 ?_
  refine lv_topi (fun x16 ex16 => ?_)
  have qx16 : x16.toInt = x8.toInt + x15.toInt := ai_add ex16 ⟨qx8.2.1, qx8.2.2⟩ ⟨bx15.1, bx15.2⟩ (by decide) (by decide)
  have bx16 : (0 : Int) ≤ x16.toInt ∧ x16.toInt ≤ 72 := ⟨by rw [qx16]; exact Int.add_le_add qx8.2.1 bx15.1, by rw [qx16]; exact Int.add_le_add qx8.2.2 bx15.2⟩
  refine lv_aload_n hx hb dX8_nextOf_17 rfl (lv_at hl 0 rfl) ?_
  refine va_get (D := (dC, dI)) (ci := 8) (v := .ref a0_15) (C := RX8) (T := TX8) (N := 40) hx hb hts zi_X8_nextOf_8 hown hK hP 0 rfl rfl 15 (by decide) (hts (.fieldLink RX8 20 "WaxTurnsModel" "\x72" "[I") (List.mem_cons_of_mem _ (List.mem_append_left _ (List.mem_of_getElem? (i := 0) rfl)))) (fun _ h9 => h9) rfl dX8_nextOf_18 ?_
  refine lv_iconst (v := 0) hx hb dX8_nextOf_21 zk_iconst_0 ?_
  refine va_iald hx hb hK hP 1 0 rfl rfl (by unfold vp_in; decide +kernel) dX8_nextOf_22 ?_
  refine lv_topi (fun x22 ex22 => ?_)
  have bx22 : (2 : Int) ≤ x22.toInt ∧ x22.toInt ≤ 9 := by rw [ex22]; exact ai_rd bfa0_15.1 zq5 zq6 (by decide) (by decide) (by decide)
  refine lv_irem hx hb dX8_nextOf_23 (ai_nz bx22.1 (by decide)) ?_
  refine lv_topi (fun x23 ex23 => ?_)
  have qx23 := ai_rem2 ex23 bx16.1 (Int.lt_of_lt_of_le zq102 bx22.1) bx22.2
  exact W.iret (v := x23) hx hb hr (fun t ht hW => ⟨⟨x23, (), rfl, ⟨qx23.2.1, qx23.2.2⟩, by rw [ht]; exact hP, va_K.moved hW.alike hK, hD⟩, hS.F ht⟩) hS.2.2 dX8_nextOf_24

set_option maxHeartbeats 4000000 in
set_option maxRecDepth 100000 in
theorem c_X8_walkOn (l : Launch) (dC : Nat → ClassId) (dI : Nat → Nat → Nat) (sz : Nat) (a0 : Nat) (a1 : Nat) (a2 : Int32) (a0g_0 a0g_1 a0g_2 a0g_3 a0g_4 a0g_5 a0g_6 a0g_7 a0g_8 a0g_9 a0g_10 a0g_11 a0g_12 a0g_13 a0g_14 a0g_16 a0g_17 a0g_18 a0g_19 a0g_20 a0g_21 a0g_22 a0g_26 a0g_27 a0g_28 a0g_29 a0g_30 a0g_31 a0g_32 a0g_33 a0g_34 a0g_35 a0g_36 a0g_37 a0g_38 a0g_39 : Value) (a0_15 : Nat) (a0_23 : Nat) (a0_24 : Nat) (a0_25 : Int32) (ka1 : ClassId) (fa1 : Nat → Int32) (ka0_15 : ClassId) (fa0_15 : Nat → Int32) (ka0_24 : ClassId) (fa0_24 : Nat → Int32) (ka0_23 : ClassId) (fa0_23 : Nat → Int32) (ba2_l : (0 : Int) ≤ a2.toInt) (ba2_u : a2.toInt ≤ (8 : Int)) (bfa1 : ((∀ k : Nat, 0 ≤ k → k ≤ 8 → (0 : Int) ≤ (fa1 k).toInt ∧ (fa1 k).toInt ≤ 8) ∧ (∀ k : Nat, 19 ≤ k → k ≤ 19 → (0 : Int) ≤ (fa1 k).toInt ∧ (fa1 k).toInt ≤ 8) ∧ (∀ k : Nat, 20 ≤ k → k ≤ 20 → (0 : Int) ≤ (fa1 k).toInt ∧ (fa1 k).toInt ≤ 19))) (bfa0_15 : ((∀ k : Nat, 0 ≤ k → k ≤ 0 → (2 : Int) ≤ (fa0_15 k).toInt ∧ (fa0_15 k).toInt ≤ 9) ∧ (∀ k : Nat, 1 ≤ k → k ≤ 1 → (1 : Int) ≤ (fa0_15 k).toInt ∧ (fa0_15 k).toInt ≤ 20) ∧ (∀ k : Nat, 2 ≤ k → k ≤ 2 → (0 : Int) ≤ (fa0_15 k).toInt ∧ (fa0_15 k).toInt ≤ 8) ∧ (∀ k : Nat, 3 ≤ k → k ≤ 3 → (0 : Int) ≤ (fa0_15 k).toInt ∧ (fa0_15 k).toInt ≤ 100) ∧ (∀ k : Nat, 4 ≤ k → k ≤ 4 → (0 : Int) ≤ (fa0_15 k).toInt ∧ (fa0_15 k).toInt ≤ 9) ∧ (∀ k : Nat, 5 ≤ k → k ≤ 5 → (0 : Int) ≤ (fa0_15 k).toInt ∧ (fa0_15 k).toInt ≤ 3) ∧ (∀ k : Nat, 6 ≤ k → k ≤ 6 → (0 : Int) ≤ (fa0_15 k).toInt ∧ (fa0_15 k).toInt ≤ 6) ∧ (∀ k : Nat, 7 ≤ k → k ≤ 9 → (0 : Int) ≤ (fa0_15 k).toInt ∧ (fa0_15 k).toInt ≤ 8) ∧ (∀ k : Nat, 12 ≤ k → k ≤ 29 → (0 : Int) ≤ (fa0_15 k).toInt ∧ (fa0_15 k).toInt ≤ 20) ∧ (∀ k : Nat, 30 ≤ k → k ≤ 35 → (0 : Int) ≤ (fa0_15 k).toInt ∧ (fa0_15 k).toInt ≤ 8) ∧ (∀ k : Nat, 36 ≤ k → k ≤ 47 → (0 : Int) ≤ (fa0_15 k).toInt ∧ (fa0_15 k).toInt ≤ 999))) (bfa0_24 : (∀ k, (0 : Int) ≤ (fa0_24 k).toInt ∧ (fa0_24 k).toInt ≤ 80)) (bfa0_23 : (∀ k, (0 : Int) ≤ (fa0_23 k).toInt ∧ (fa0_23 k).toInt ≤ 80)) (hkm : ∀ i : Int32, i.toInt = 13 + 2 * a2.toInt → (1 : Int) ≤ (fa0_15 i.toNatClampNeg).toInt) : zm l yX8_walkOn wsX8_walkOn ({ frames := 2, cells := 0, slots := 0, locals := 48 }) [.ref a0, .ref a1, .int a2] dC dI sz [(a0, .inr (8, [a0g_0, a0g_1, a0g_2, a0g_3, a0g_4, a0g_5, a0g_6, a0g_7, a0g_8, a0g_9, a0g_10, a0g_11, a0g_12, a0g_13, a0g_14, Value.ref a0_15, a0g_16, a0g_17, a0g_18, a0g_19, a0g_20, a0g_21, a0g_22, Value.ref a0_23, Value.ref a0_24, Value.int a0_25, a0g_26, a0g_27, a0g_28, a0g_29, a0g_30, a0g_31, a0g_32, a0g_33, a0g_34, a0g_35, a0g_36, a0g_37, a0g_38, a0g_39])), (a1, .inl (ka1, 23, .inl (fa1))), (a0_15, .inl (ka0_15, 156, .inl (fa0_15))), (a0_24, .inl (ka0_24, 3, .inl (fa0_24))), (a0_23, .inl (ka0_23, 3, .inl (fa0_23)))] [(ka1, .int), (ka0_15, .int), (ka0_24, .int), (ka0_23, .int)] (fun A _ => True) (fun A => va_Qv (fun (_ : Unit) => True) (fun (_ : Unit) (t : State) => ∃ nfa1 : Nat → Int32, ((∀ k : Nat, 0 ≤ k → k ≤ 8 → (0 : Int) ≤ (nfa1 k).toInt ∧ (nfa1 k).toInt ≤ 8) ∧ (∀ k : Nat, 19 ≤ k → k ≤ 19 → (0 : Int) ≤ (nfa1 k).toInt ∧ (nfa1 k).toInt ≤ 8) ∧ (∀ k : Nat, 20 ≤ k → k ≤ 20 → (0 : Int) ≤ (nfa1 k).toInt ∧ (nfa1 k).toInt ≤ 19)) ∧ ax_B dC dI A [(a0, .inr (8, [a0g_0, a0g_1, a0g_2, a0g_3, a0g_4, a0g_5, a0g_6, a0g_7, a0g_8, a0g_9, a0g_10, a0g_11, a0g_12, a0g_13, a0g_14, Value.ref a0_15, a0g_16, a0g_17, a0g_18, a0g_19, a0g_20, a0g_21, a0g_22, Value.ref a0_23, Value.ref a0_24, Value.int a0_25, a0g_26, a0g_27, a0g_28, a0g_29, a0g_30, a0g_31, a0g_32, a0g_33, a0g_34, a0g_35, a0g_36, a0g_37, a0g_38, a0g_39])), (a1, .inl (ka1, 23, .inl (nfa1))), (a0_15, .inl (ka0_15, 156, .inl (fa0_15))), (a0_24, .inl (ka0_24, 3, .inl (fa0_24))), (a0_23, .inl (ka0_23, 3, .inl (fa0_23)))] [(ka1, .int), (ka0_15, .int), (ka0_24, .int), (ka0_23, .int)] t) A) := by
  refine zh (cc := cX8_walkOn) (maxL := 3) (ret := none) zn_RX8 rfl (Nat.le_of_ble_eq_true rfl) (fun p e s m below meth c A ls hx hb hml hr hts (hown : s.vm.findClass RX8 = some m.cls) hlocks hA hS hP hK hD hE (hl : lv_has ls 3 [(0, .ref a0), (1, .ref a1), (2, .int a2)]) => ?_)
  refine lv_aload_n hx hb dX8_walkOn_0 rfl (lv_at hl 1 rfl) ?_
  refine lv_bipush (v := 20) hx hb dX8_walkOn_1 zk_bipush_20 ?_
  refine va_iald hx hb hK hP 1 0 rfl rfl (by unfold vp_in; decide +kernel) dX8_walkOn_3 ?_
  refine lv_topi (fun x3 ex3 => ?_)
  have bx3 : (0 : Int) ≤ x3.toInt ∧ x3.toInt ≤ 19 := by rw [ex3]; exact ai_rd bfa1.2.2 zq155 zq156 (by decide) (by decide) (by decide)
  refine lv_iconst (v := 1) hx hb dX8_walkOn_4 zk_iconst_1 ?_
  refine lv_iadd hx hb dX8_walkOn_5 ?_
  refine lv_topi (fun x5 ex5 => ?_)
  have qx5 : x5.toInt = x3.toInt + (1 : Int32).toInt := ai_add ex5 ⟨bx3.1, bx3.2⟩ ⟨zq1, zq0⟩ (by decide) (by decide)
  have bx5 : (1 : Int) ≤ x5.toInt ∧ x5.toInt ≤ 20 := ⟨by rw [qx5]; exact Int.add_le_add bx3.1 zq1, by rw [qx5]; exact Int.add_le_add bx3.2 zq0⟩
  have wx5 : x5.toInt = x3.toInt + 1 := qx5
  refine lv_aload_n hx hb dX8_walkOn_6 rfl (lv_at hl 0 rfl) ?_
  refine va_get (D := (dC, dI)) (ci := 8) (v := .ref a0_15) (C := RX8) (T := TX8) (N := 40) hx hb hts zi_X8_walkOn_8 hown hK hP 0 rfl rfl 15 (by decide) (hts (.fieldLink RX8 20 "WaxTurnsModel" "\x72" "[I") (List.mem_cons_of_mem _ (List.mem_append_left _ (List.mem_of_getElem? (i := 0) rfl)))) (fun _ h9 => h9) rfl dX8_walkOn_7 ?_
  refine lv_bipush (v := 12) hx hb dX8_walkOn_10 zk_bipush_12 ?_
  refine lv_iconst (v := 2) hx hb dX8_walkOn_12 zk_iconst_2 ?_
  refine lv_iload_n hx hb dX8_walkOn_13 rfl (lv_at hl 2 rfl) ?_
  refine lv_imul hx hb dX8_walkOn_14 ?_
  refine lv_topi (fun x14 ex14 => ?_)
  have qx14 : x14.toInt = (2 : Int32).toInt * a2.toInt ∧ (0 : Int) ≤ x14.toInt ∧ x14.toInt ≤ 16 := ai_mul ex14 ⟨zq12, zq13⟩ ⟨ba2_l, ba2_u⟩ (by decide) (by decide) zq157
  have wx14 : x14.toInt = 2 * a2.toInt := qx14.1
  refine lv_iadd hx hb dX8_walkOn_15 ?_
  refine lv_topi (fun x15 ex15 => ?_)
  have qx15 : x15.toInt = (12 : Int32).toInt + x14.toInt := ai_add ex15 ⟨zq121, zq122⟩ ⟨qx14.2.1, qx14.2.2⟩ (by decide) (by decide)
  have bx15 : (12 : Int) ≤ x15.toInt ∧ x15.toInt ≤ 28 := ⟨by rw [qx15]; exact Int.add_le_add zq121 qx14.2.1, by rw [qx15]; exact Int.add_le_add zq122 qx14.2.2⟩
  have wx15 : x15.toInt = 12 + x14.toInt := qx15
  refine lv_iconst (v := 1) hx hb dX8_walkOn_16 zk_iconst_1 ?_
  refine lv_iadd hx hb dX8_walkOn_17 ?_
  refine lv_topi (fun x17 ex17 => ?_)
  have qx17 : x17.toInt = x15.toInt + (1 : Int32).toInt := ai_add ex17 ⟨bx15.1, bx15.2⟩ ⟨zq1, zq0⟩ (by decide) (by decide)
  have bx17 : (13 : Int) ≤ x17.toInt ∧ x17.toInt ≤ 29 := ⟨by rw [qx17]; exact Int.add_le_add bx15.1 zq1, by rw [qx17]; exact Int.add_le_add bx15.2 zq0⟩
  have wx17 : x17.toInt = x15.toInt + 1 := qx17
  refine va_iald hx hb hK hP 2 1 rfl rfl (ai_in bx17.1 bx17.2 (by decide) (by decide)) dX8_walkOn_18 ?_
  refine lv_topi (fun x18 ex18 => ?_)
  have bx18 : (0 : Int) ≤ x18.toInt ∧ x18.toInt ≤ 20 := by rw [ex18]; exact ai_rd bfa0_15.2.2.2.2.2.2.2.2.1 bx17.1 bx17.2 (by decide) (by decide) (by decide)
  have l18z_x18 : (1 : Int) ≤ x18.toInt := by rw [ex18]; exact hkm x17 (by omega)
  refine lv_irem hx hb dX8_walkOn_19 (ai_nz l18z_x18 (by decide)) ?_
  refine lv_topi (fun x19 ex19 => ?_)
  have qx19 := ai_rem2 ex19 (Int.le_trans zq4 bx5.1) (Int.lt_of_lt_of_le zq19 l18z_x18) bx18.2
  refine lv_if_eq (tgt := 24) hx hb dX8_walkOn_20 (by decide) (fun c20 => ?_) (fun c20 => ?_)
  · have gc20 := ai_eq c20
    have u20t_x19 : x19.toInt ≤ (0 : Int) := Int.le_trans (Int.le_of_eq gc20) zq6
    have l20t_x19 : (0 : Int) ≤ x19.toInt := qx19.2.1
    refine lv_aload_n hx hb dX8_walkOn_24 rfl (lv_at hl 1 rfl) ?_
    refine lv_iload_n hx hb dX8_walkOn_25 rfl (lv_at hl 2 rfl) ?_
    refine lv_dup2_11 hx hb dX8_walkOn_26 rfl rfl ?_
    refine va_iald hx hb hK hP 1 0 rfl rfl (ai_in ba2_l ba2_u (by decide) (by decide)) dX8_walkOn_27 ?_
    refine lv_topi (fun x27 ex27 => ?_)
    have bx27 : (0 : Int) ≤ x27.toInt ∧ x27.toInt ≤ 8 := by rw [ex27]; exact ai_rd bfa1.1 ba2_l ba2_u (by decide) (by decide) (by decide)
    refine lv_aload_n hx hb dX8_walkOn_28 rfl (lv_at hl 1 rfl) ?_
    refine lv_iload_n hx hb dX8_walkOn_29 rfl (lv_at hl 2 rfl) ?_
    refine va_iald hx hb hK hP 1 0 rfl rfl (ai_in ba2_l ba2_u (by decide) (by decide)) dX8_walkOn_30 ?_
    refine ax_ti x27 ex27.symm ?_
    refine lv_aload_n hx hb dX8_walkOn_31 rfl (lv_at hl 0 rfl) ?_
    refine va_get (D := (dC, dI)) (ci := 8) (v := .ref a0_15) (C := RX8) (T := TX8) (N := 40) hx hb hts zi_X8_walkOn_8 hown hK hP 0 rfl rfl 15 (by decide) (hts (.fieldLink RX8 20 "WaxTurnsModel" "\x72" "[I") (List.mem_cons_of_mem _ (List.mem_append_left _ (List.mem_of_getElem? (i := 0) rfl)))) (fun _ h9 => h9) rfl dX8_walkOn_32 ?_
    refine lv_iconst (v := 2) hx hb dX8_walkOn_35 zk_iconst_2 ?_
    refine va_iald hx hb hK hP 2 1 rfl rfl (by unfold vp_in; decide +kernel) dX8_walkOn_36 ?_
    refine lv_topi (fun x36 ex36 => ?_)
    have bx36 : (0 : Int) ≤ x36.toInt ∧ x36.toInt ≤ 8 := by rw [ex36]; exact ai_rd bfa0_15.2.2.1 zq12 zq13 (by decide) (by decide) (by decide)
    refine lv_icmp_ge (tgt := 44) hx hb dX8_walkOn_37 (by decide) (fun c37 => ?_) (fun c37 => ?_)
    · have gc37 := ai_le c37
      have u37t_x36 : x36.toInt ≤ (8 : Int) := bx36.2
      have l37t_x27 : (0 : Int) ≤ x27.toInt := bx27.1
      refine lv_aload_n hx hb dX8_walkOn_44 rfl (lv_at hl 1 rfl) ?_
      refine lv_iload_n hx hb dX8_walkOn_45 rfl (lv_at hl 2 rfl) ?_
      refine va_iald hx hb hK hP 1 0 rfl rfl (ai_in ba2_l ba2_u (by decide) (by decide)) dX8_walkOn_46 ?_
      refine ax_ti x27 ex27.symm ?_
      refine lv_aload_n hx hb dX8_walkOn_47 rfl (lv_at hl 0 rfl) ?_
      refine va_get (D := (dC, dI)) (ci := 8) (v := .ref a0_15) (C := RX8) (T := TX8) (N := 40) hx hb hts zi_X8_walkOn_8 hown hK hP 0 rfl rfl 15 (by decide) (hts (.fieldLink RX8 20 "WaxTurnsModel" "\x72" "[I") (List.mem_cons_of_mem _ (List.mem_append_left _ (List.mem_of_getElem? (i := 0) rfl)))) (fun _ h9 => h9) rfl dX8_walkOn_48 ?_
      refine lv_iconst (v := 2) hx hb dX8_walkOn_51 zk_iconst_2 ?_
      refine va_iald hx hb hK hP 2 1 rfl rfl (by unfold vp_in; decide +kernel) dX8_walkOn_52 ?_
      refine ax_ti x36 ex36.symm ?_
      refine lv_icmp_le (tgt := 60) hx hb dX8_walkOn_53 (by decide) (fun c53 => ?_) (fun c53 => ?_)
      · have gc53 := ai_le c53
        have u53t_x27 : x27.toInt ≤ (8 : Int) := bx27.2
        have l53t_x36 : (0 : Int) ≤ x36.toInt := bx36.1
        refine lv_iconst (v := 0) hx hb dX8_walkOn_60 zk_iconst_0 ?_
        refine lv_iadd hx hb dX8_walkOn_61 ?_
        refine lv_topi (fun x61 ex61 => ?_)
        have qx61 : x61.toInt = x27.toInt + (0 : Int32).toInt := ai_add ex61 ⟨l37t_x27, u53t_x27⟩ ⟨zq5, zq6⟩ (by decide) (by decide)
        have bx61 : (0 : Int) ≤ x61.toInt ∧ x61.toInt ≤ 8 := ⟨by rw [qx61]; exact Int.add_le_add l37t_x27 zq5, by rw [qx61]; exact Int.add_le_add u53t_x27 zq6⟩
        have wx61 : x61.toInt = x27.toInt + 0 := qx61
        refine va_iast hx hb hK hP hD hS 1 0 rfl rfl (ai_in ba2_l ba2_u (by decide) (by decide)) dX8_walkOn_62 (fun H locs hP hD hS => ?_)
        obtain ⟨f62, ef62⟩ : ∃ g9 : Nat → Int32, g9 = upd fa1 (a2 : Int32).toNatClampNeg x61 := ⟨_, rfl⟩
        refine zs_1 (y := (a1, .inl (ka1, 23, .inl (f62)))) hP hD (by rw [ef62]) (fun hP hD => ?_)
        have bf62 : ((∀ k : Nat, 0 ≤ k → k ≤ 8 → (0 : Int) ≤ (f62 k).toInt ∧ (f62 k).toInt ≤ 8) ∧ (∀ k : Nat, 19 ≤ k → k ≤ 19 → (0 : Int) ≤ (f62 k).toInt ∧ (f62 k).toInt ≤ 8) ∧ (∀ k : Nat, 20 ≤ k → k ≤ 20 → (0 : Int) ≤ (f62 k).toInt ∧ (f62 k).toInt ≤ 19)) := by rw [ef62]; exact ⟨ai_updS bfa1.1 _ ⟨bx61.1, bx61.2⟩, ai_updO bfa1.2.1 _ (Or.inl (ai_nlt_of ba2_l ba2_u (by decide) (by decide))), ai_updO bfa1.2.2 _ (Or.inl (ai_nlt_of ba2_l ba2_u (by decide) (by decide)))⟩
        refine lv_aload_n hx hb dX8_walkOn_63 rfl (lv_at hl 0 rfl) ?_
        refine lv_aload_n hx hb dX8_walkOn_64 rfl (lv_at hl 1 rfl) ?_
        refine lv_iload_n hx hb dX8_walkOn_65 rfl (lv_at hl 2 rfl) ?_
        refine va_iald hx hb hK hP 1 0 rfl rfl (ai_in ba2_l ba2_u (by decide) (by decide)) dX8_walkOn_66 ?_
        refine lv_topi (fun x66 ex66 => ?_)
        have bx66 : (0 : Int) ≤ x66.toInt ∧ x66.toInt ≤ 8 := by rw [ex66]; exact ai_rd bf62.1 ba2_l ba2_u (by decide) (by decide) (by decide)
        refine lv_aload_n hx hb dX8_walkOn_67 rfl (lv_at hl 1 rfl) ?_
        refine lv_bipush (v := 21) hx hb dX8_walkOn_68 zk_bipush_21 ?_
        refine va_iald hx hb hK hP 1 0 rfl rfl (by unfold vp_in; decide +kernel) dX8_walkOn_70 ?_
        refine lv_topi (fun x70 ex70 => ?_)
        refine zc_cutc (wc := [(a0, .inr (8, [a0g_0, a0g_1, a0g_2, a0g_3, a0g_4, a0g_5, a0g_6, a0g_7, a0g_8, a0g_9, a0g_10, a0g_11, a0g_12, a0g_13, a0g_14, Value.ref a0_15, a0g_16, a0g_17, a0g_18, a0g_19, a0g_20, a0g_21, a0g_22, Value.ref a0_23, Value.ref a0_24, Value.int a0_25, a0g_26, a0g_27, a0g_28, a0g_29, a0g_30, a0g_31, a0g_32, a0g_33, a0g_34, a0g_35, a0g_36, a0g_37, a0g_38, a0g_39])), (a0_15, .inl (ka0_15, 156, .inl (fa0_15))), (a0_24, .inl (ka0_24, 3, .inl (fa0_24))), (a0_23, .inl (ka0_23, 3, .inl (fa0_23)))]) hP hD hS hA [0, 2, 3, 4] (by decide +kernel) rfl (fun hPc hDc hFc hCc => ?_)
        have hKc := hK.sub (tys' := [(ka0_15, .int), (ka0_24, .int), (ka0_23, .int)]) [1, 2, 3] rfl
        refine va_calli (va_runV (As := [.int x66, .int x70]) (rest := []) ⟨hx, hb, hml, hown, hts⟩ (c_X8_isWatched l dC dI H.size a0 x66 x70 a0g_0 a0g_1 a0g_2 a0g_3 a0g_4 a0g_5 a0g_6 a0g_7 a0g_8 a0g_9 a0g_10 a0g_11 a0g_12 a0g_13 a0g_14 a0g_16 a0g_17 a0g_18 a0g_19 a0g_20 a0g_21 a0g_22 a0g_26 a0g_27 a0g_28 a0g_29 a0g_30 a0g_31 a0g_32 a0g_33 a0g_34 a0g_35 a0g_36 a0g_37 a0g_38 a0g_39 a0_15 a0_23 a0_24 a0_25 ka0_15 fa0_15 ka0_24 fa0_24 ka0_23 fa0_23 bfa0_15 bfa0_24 bfa0_23) (cwV 2 hts gX8_walkOn_X8_isWatched rfl rfl rfl zd_X8_isWatched ⟨Nat.le_of_ble_eq_true rfl, Nat.le_of_ble_eq_true rfl⟩) ⟨ax_blind (fun _ _ _ _ _ => trivial), zr_8 hKc hPc (q0 := 0) rfl, ax_pre hPc hKc hDc (fun _ _ => trivial)⟩ rfl rfl hl.1 rfl (lv_room (Nat.le_of_ble_eq_true rfl)) dX8_walkOn_71 ⟨Nat.le_of_ble_eq_true rfl, Nat.le_of_ble_eq_true rfl⟩) hS (fun q _ h => hFc q h) hFc (fun r71 u t H locs ht hvm hw hB hz1 hk1 hS1 => zo hB ht hS1 (fun hP1 hK1 hD1 hS => ?_))
        refine zc_backc (w := [(a0, .inr (8, [a0g_0, a0g_1, a0g_2, a0g_3, a0g_4, a0g_5, a0g_6, a0g_7, a0g_8, a0g_9, a0g_10, a0g_11, a0g_12, a0g_13, a0g_14, Value.ref a0_15, a0g_16, a0g_17, a0g_18, a0g_19, a0g_20, a0g_21, a0g_22, Value.ref a0_23, Value.ref a0_24, Value.int a0_25, a0g_26, a0g_27, a0g_28, a0g_29, a0g_30, a0g_31, a0g_32, a0g_33, a0g_34, a0g_35, a0g_36, a0g_37, a0g_38, a0g_39])), (a1, .inl (ka1, 23, .inl (f62))), (a0_15, .inl (ka0_15, 156, .inl (fa0_15))), (a0_24, .inl (ka0_24, 3, .inl (fa0_24))), (a0_23, .inl (ka0_23, 3, .inl (fa0_23)))]) hP hD hCc hk1 hFc hP1 hD1 [.inr 0, .inl 1, .inr 1, .inr 2, .inr 3] (by decide +kernel) rfl (fun hP hD => ?_)
        rcases hw with hw | hw
        · subst hw
          refine lv_if_eq (tgt := 92) hx hb dX8_walkOn_74 (by decide) (fun c74 => absurd c74 (by decide +kernel)) (fun _ => ?_)
          refine lv_aload_n hx hb dX8_walkOn_77 rfl (lv_at hl 1 rfl) ?_
          refine lv_iload_n hx hb dX8_walkOn_78 rfl (lv_at hl 2 rfl) ?_
          refine lv_iload_n hx hb dX8_walkOn_79 rfl (lv_at hl 2 rfl) ?_
          refine va_iast hx hb hK hP hD hS 1 0 rfl rfl (ai_in ba2_l ba2_u (by decide) (by decide)) dX8_walkOn_80 (fun H locs hP hD hS => ?_)
          obtain ⟨f80, ef80⟩ : ∃ g9 : Nat → Int32, g9 = upd f62 (a2 : Int32).toNatClampNeg a2 := ⟨_, rfl⟩
          refine zs_1 (y := (a1, .inl (ka1, 23, .inl (f80)))) hP hD (by rw [ef80]) (fun hP hD => ?_)
          have bf80 : ((∀ k : Nat, 0 ≤ k → k ≤ 8 → (0 : Int) ≤ (f80 k).toInt ∧ (f80 k).toInt ≤ 8) ∧ (∀ k : Nat, 19 ≤ k → k ≤ 19 → (0 : Int) ≤ (f80 k).toInt ∧ (f80 k).toInt ≤ 8) ∧ (∀ k : Nat, 20 ≤ k → k ≤ 20 → (0 : Int) ≤ (f80 k).toInt ∧ (f80 k).toInt ≤ 19)) := by rw [ef80]; exact ⟨ai_updS bf62.1 _ ⟨ba2_l, ba2_u⟩, ai_updO bf62.2.1 _ (Or.inl (ai_nlt_of ba2_l ba2_u (by decide) (by decide))), ai_updO bf62.2.2 _ (Or.inl (ai_nlt_of ba2_l ba2_u (by decide) (by decide)))⟩
          refine lv_aload_n hx hb dX8_walkOn_81 rfl (lv_at hl 1 rfl) ?_
          refine lv_bipush (v := 22) hx hb dX8_walkOn_82 zk_bipush_22 ?_
          refine lv_dup2_11 hx hb dX8_walkOn_84 rfl rfl ?_
          refine va_iald hx hb hK hP 1 0 rfl rfl (by unfold vp_in; decide +kernel) dX8_walkOn_85 ?_
          refine lv_topi (fun x85 ex85 => ?_)
          refine lv_iconst (v := 1) hx hb dX8_walkOn_86 zk_iconst_1 ?_
          refine lv_iadd hx hb dX8_walkOn_87 ?_
          refine lv_topi (fun x87 ex87 => ?_)
          refine va_iast hx hb hK hP hD hS 1 0 rfl rfl (by unfold vp_in; decide +kernel) dX8_walkOn_88 (fun H locs hP hD hS => ?_)
          obtain ⟨f88, ef88⟩ : ∃ g9 : Nat → Int32, g9 = upd f80 (22 : Int32).toNatClampNeg x87 := ⟨_, rfl⟩
          refine zs_1 (y := (a1, .inl (ka1, 23, .inl (f88)))) hP hD (by rw [ef88]) (fun hP hD => ?_)
          have bf88 : ((∀ k : Nat, 0 ≤ k → k ≤ 8 → (0 : Int) ≤ (f88 k).toInt ∧ (f88 k).toInt ≤ 8) ∧ (∀ k : Nat, 19 ≤ k → k ≤ 19 → (0 : Int) ≤ (f88 k).toInt ∧ (f88 k).toInt ≤ 8) ∧ (∀ k : Nat, 20 ≤ k → k ≤ 20 → (0 : Int) ≤ (f88 k).toInt ∧ (f88 k).toInt ≤ 19)) := by rw [ef88]; exact ⟨ai_updO bf80.1 _ (Or.inr (ai_ngt_of zq158 (by decide) (by decide))), ai_updO bf80.2.1 _ (Or.inr (ai_ngt_of zq158 (by decide) (by decide))), ai_updO bf80.2.2 _ (Or.inr (ai_ngt_of zq158 (by decide) (by decide)))⟩
          have kf88_22 : f88 22 = x87 := by rw [ef88]; exact ai_k1 (by decide +kernel)
          refine lv_goto (tgt := 114) hx hb dX8_walkOn_89 (by decide) ?_
          exact W.vret hx hb hr (fun t ht hW => ⟨⟨(), rfl, trivial, f88, bf88, by rw [ht]; exact hP, va_K.moved hW.alike hK, hD⟩, hS.F ht⟩) hS.2.2 dX8_walkOn_114
        · subst hw
          refine lv_if_eq (tgt := 92) hx hb dX8_walkOn_74 (by decide) (fun _ => ?_) (fun c74 => absurd (by decide +kernel) c74)
          refine lv_aload_n hx hb dX8_walkOn_92 rfl (lv_at hl 1 rfl) ?_
          refine lv_iload_n hx hb dX8_walkOn_93 rfl (lv_at hl 2 rfl) ?_
          refine va_iald hx hb hK hP 1 0 rfl rfl (ai_in ba2_l ba2_u (by decide) (by decide)) dX8_walkOn_94 ?_
          refine ax_ti x66 ex66.symm ?_
          refine lv_aload_n hx hb dX8_walkOn_95 rfl (lv_at hl 0 rfl) ?_
          refine va_get (D := (dC, dI)) (ci := 8) (v := .ref a0_15) (C := RX8) (T := TX8) (N := 40) hx hb hts zi_X8_walkOn_8 hown hK hP 0 rfl rfl 15 (by decide) (hts (.fieldLink RX8 20 "WaxTurnsModel" "\x72" "[I") (List.mem_cons_of_mem _ (List.mem_append_left _ (List.mem_of_getElem? (i := 0) rfl)))) (fun _ h9 => h9) rfl dX8_walkOn_96 ?_
          refine lv_iconst (v := 2) hx hb dX8_walkOn_99 zk_iconst_2 ?_
          refine va_iald hx hb hK hP 2 1 rfl rfl (by unfold vp_in; decide +kernel) dX8_walkOn_100 ?_
          refine ax_ti x36 ex36.symm ?_
          refine lv_icmp_ne (tgt := 114) hx hb dX8_walkOn_101 (by decide) (fun c101 => ?_) (fun c101 => ?_)
          · have gc101 := ai_ne c101
            exact W.vret hx hb hr (fun t ht hW => ⟨⟨(), rfl, trivial, f62, bf62, by rw [ht]; exact hP, va_K.moved hW.alike hK, hD⟩, hS.F ht⟩) hS.2.2 dX8_walkOn_114
          · have gc101 := ai_eq c101
            have u101f_x66 : x66.toInt ≤ (8 : Int) := bx66.2
            have l101f_x66 : (0 : Int) ≤ x66.toInt := bx66.1
            have u101f_x36 : x36.toInt ≤ (8 : Int) := u37t_x36
            have l101f_x36 : (0 : Int) ≤ x36.toInt := l53t_x36
            refine lv_aload_n hx hb dX8_walkOn_104 rfl (lv_at hl 1 rfl) ?_
            refine lv_bipush (v := 18) hx hb dX8_walkOn_105 zk_bipush_18 ?_
            refine lv_dup2_11 hx hb dX8_walkOn_107 rfl rfl ?_
            refine va_iald hx hb hK hP 1 0 rfl rfl (by unfold vp_in; decide +kernel) dX8_walkOn_108 ?_
            refine lv_topi (fun x108 ex108 => ?_)
            refine lv_iconst (v := 1) hx hb dX8_walkOn_109 zk_iconst_1 ?_
            refine lv_iload_n hx hb dX8_walkOn_110 rfl (lv_at hl 2 rfl) ?_
            refine lv_ishl hx hb dX8_walkOn_111 ?_
            refine lv_topi (fun x111 ex111 => ?_)
            refine lv_ior hx hb dX8_walkOn_112 ?_
            refine lv_topi (fun x112 ex112 => ?_)
            refine va_iast hx hb hK hP hD hS 1 0 rfl rfl (by unfold vp_in; decide +kernel) dX8_walkOn_113 (fun H locs hP hD hS => ?_)
            obtain ⟨f113, ef113⟩ : ∃ g9 : Nat → Int32, g9 = upd f62 (18 : Int32).toNatClampNeg x112 := ⟨_, rfl⟩
            refine zs_1 (y := (a1, .inl (ka1, 23, .inl (f113)))) hP hD (by rw [ef113]) (fun hP hD => ?_)
            have bf113 : ((∀ k : Nat, 0 ≤ k → k ≤ 8 → (0 : Int) ≤ (f113 k).toInt ∧ (f113 k).toInt ≤ 8) ∧ (∀ k : Nat, 19 ≤ k → k ≤ 19 → (0 : Int) ≤ (f113 k).toInt ∧ (f113 k).toInt ≤ 8) ∧ (∀ k : Nat, 20 ≤ k → k ≤ 20 → (0 : Int) ≤ (f113 k).toInt ∧ (f113 k).toInt ≤ 19)) := by rw [ef113]; exact ⟨ai_updO bf62.1 _ (Or.inr (ai_ngt_of zq159 (by decide) (by decide))), ai_updO bf62.2.1 _ (Or.inl (ai_nlt_of zq159 zq160 (by decide) (by decide))), ai_updO bf62.2.2 _ (Or.inl (ai_nlt_of zq159 zq160 (by decide) (by decide)))⟩
            have kf113_18 : f113 18 = x112 := by rw [ef113]; exact ai_k1 (by decide +kernel)
            exact W.vret hx hb hr (fun t ht hW => ⟨⟨(), rfl, trivial, f113, bf113, by rw [ht]; exact hP, va_K.moved hW.alike hK, hD⟩, hS.F ht⟩) hS.2.2 dX8_walkOn_114
      · have gc53 := ai_nle c53
        have u53f_x36 : x36.toInt ≤ (7 : Int) := ai_lthi gc53 bx27.2
        have l53f_x27 : (1 : Int) ≤ x27.toInt := ai_ltlo gc53 bx36.1
        refine lv_iconst (v := (-1)) hx hb dX8_walkOn_56 zk_iconst_n1 ?_
        refine lv_goto (tgt := 61) hx hb dX8_walkOn_57 (by decide) ?_
        refine lv_iadd hx hb dX8_walkOn_61 ?_
        refine lv_topi (fun x61 ex61 => ?_)
        have qx61 : x61.toInt = x27.toInt + ((-1) : Int32).toInt := ai_add ex61 ⟨l53f_x27, bx27.2⟩ ⟨zq71, zq72⟩ (by decide) (by decide)
        have bx61 : (0 : Int) ≤ x61.toInt ∧ x61.toInt ≤ 7 := ⟨by rw [qx61]; exact Int.add_le_add l53f_x27 zq71, by rw [qx61]; exact Int.add_le_add bx27.2 zq72⟩
        have wx61 : x61.toInt = x27.toInt - 1 := qx61
        refine va_iast hx hb hK hP hD hS 1 0 rfl rfl (ai_in ba2_l ba2_u (by decide) (by decide)) dX8_walkOn_62 (fun H locs hP hD hS => ?_)
        obtain ⟨f62, ef62⟩ : ∃ g9 : Nat → Int32, g9 = upd fa1 (a2 : Int32).toNatClampNeg x61 := ⟨_, rfl⟩
        refine zs_1 (y := (a1, .inl (ka1, 23, .inl (f62)))) hP hD (by rw [ef62]) (fun hP hD => ?_)
        have bf62 : ((∀ k : Nat, 0 ≤ k → k ≤ 8 → (0 : Int) ≤ (f62 k).toInt ∧ (f62 k).toInt ≤ 8) ∧ (∀ k : Nat, 19 ≤ k → k ≤ 19 → (0 : Int) ≤ (f62 k).toInt ∧ (f62 k).toInt ≤ 8) ∧ (∀ k : Nat, 20 ≤ k → k ≤ 20 → (0 : Int) ≤ (f62 k).toInt ∧ (f62 k).toInt ≤ 19)) := by rw [ef62]; exact ⟨ai_updS bfa1.1 _ ⟨bx61.1, (Int.le_trans bx61.2 zq49)⟩, ai_updO bfa1.2.1 _ (Or.inl (ai_nlt_of ba2_l ba2_u (by decide) (by decide))), ai_updO bfa1.2.2 _ (Or.inl (ai_nlt_of ba2_l ba2_u (by decide) (by decide)))⟩
        refine lv_aload_n hx hb dX8_walkOn_63 rfl (lv_at hl 0 rfl) ?_
        refine lv_aload_n hx hb dX8_walkOn_64 rfl (lv_at hl 1 rfl) ?_
        refine lv_iload_n hx hb dX8_walkOn_65 rfl (lv_at hl 2 rfl) ?_
        refine va_iald hx hb hK hP 1 0 rfl rfl (ai_in ba2_l ba2_u (by decide) (by decide)) dX8_walkOn_66 ?_
        refine lv_topi (fun x66 ex66 => ?_)
        have bx66 : (0 : Int) ≤ x66.toInt ∧ x66.toInt ≤ 8 := by rw [ex66]; exact ai_rd bf62.1 ba2_l ba2_u (by decide) (by decide) (by decide)
        refine lv_aload_n hx hb dX8_walkOn_67 rfl (lv_at hl 1 rfl) ?_
        refine lv_bipush (v := 21) hx hb dX8_walkOn_68 zk_bipush_21 ?_
        refine va_iald hx hb hK hP 1 0 rfl rfl (by unfold vp_in; decide +kernel) dX8_walkOn_70 ?_
        refine lv_topi (fun x70 ex70 => ?_)
        refine zc_cutc (wc := [(a0, .inr (8, [a0g_0, a0g_1, a0g_2, a0g_3, a0g_4, a0g_5, a0g_6, a0g_7, a0g_8, a0g_9, a0g_10, a0g_11, a0g_12, a0g_13, a0g_14, Value.ref a0_15, a0g_16, a0g_17, a0g_18, a0g_19, a0g_20, a0g_21, a0g_22, Value.ref a0_23, Value.ref a0_24, Value.int a0_25, a0g_26, a0g_27, a0g_28, a0g_29, a0g_30, a0g_31, a0g_32, a0g_33, a0g_34, a0g_35, a0g_36, a0g_37, a0g_38, a0g_39])), (a0_15, .inl (ka0_15, 156, .inl (fa0_15))), (a0_24, .inl (ka0_24, 3, .inl (fa0_24))), (a0_23, .inl (ka0_23, 3, .inl (fa0_23)))]) hP hD hS hA [0, 2, 3, 4] (by decide +kernel) rfl (fun hPc hDc hFc hCc => ?_)
        have hKc := hK.sub (tys' := [(ka0_15, .int), (ka0_24, .int), (ka0_23, .int)]) [1, 2, 3] rfl
        refine va_calli (va_runV (As := [.int x66, .int x70]) (rest := []) ⟨hx, hb, hml, hown, hts⟩ (c_X8_isWatched l dC dI H.size a0 x66 x70 a0g_0 a0g_1 a0g_2 a0g_3 a0g_4 a0g_5 a0g_6 a0g_7 a0g_8 a0g_9 a0g_10 a0g_11 a0g_12 a0g_13 a0g_14 a0g_16 a0g_17 a0g_18 a0g_19 a0g_20 a0g_21 a0g_22 a0g_26 a0g_27 a0g_28 a0g_29 a0g_30 a0g_31 a0g_32 a0g_33 a0g_34 a0g_35 a0g_36 a0g_37 a0g_38 a0g_39 a0_15 a0_23 a0_24 a0_25 ka0_15 fa0_15 ka0_24 fa0_24 ka0_23 fa0_23 bfa0_15 bfa0_24 bfa0_23) (cwV 2 hts gX8_walkOn_X8_isWatched rfl rfl rfl zd_X8_isWatched ⟨Nat.le_of_ble_eq_true rfl, Nat.le_of_ble_eq_true rfl⟩) ⟨ax_blind (fun _ _ _ _ _ => trivial), zr_8 hKc hPc (q0 := 0) rfl, ax_pre hPc hKc hDc (fun _ _ => trivial)⟩ rfl rfl hl.1 rfl (lv_room (Nat.le_of_ble_eq_true rfl)) dX8_walkOn_71 ⟨Nat.le_of_ble_eq_true rfl, Nat.le_of_ble_eq_true rfl⟩) hS (fun q _ h => hFc q h) hFc (fun r71 u t H locs ht hvm hw hB hz1 hk1 hS1 => zo hB ht hS1 (fun hP1 hK1 hD1 hS => ?_))
        refine zc_backc (w := [(a0, .inr (8, [a0g_0, a0g_1, a0g_2, a0g_3, a0g_4, a0g_5, a0g_6, a0g_7, a0g_8, a0g_9, a0g_10, a0g_11, a0g_12, a0g_13, a0g_14, Value.ref a0_15, a0g_16, a0g_17, a0g_18, a0g_19, a0g_20, a0g_21, a0g_22, Value.ref a0_23, Value.ref a0_24, Value.int a0_25, a0g_26, a0g_27, a0g_28, a0g_29, a0g_30, a0g_31, a0g_32, a0g_33, a0g_34, a0g_35, a0g_36, a0g_37, a0g_38, a0g_39])), (a1, .inl (ka1, 23, .inl (f62))), (a0_15, .inl (ka0_15, 156, .inl (fa0_15))), (a0_24, .inl (ka0_24, 3, .inl (fa0_24))), (a0_23, .inl (ka0_23, 3, .inl (fa0_23)))]) hP hD hCc hk1 hFc hP1 hD1 [.inr 0, .inl 1, .inr 1, .inr 2, .inr 3] (by decide +kernel) rfl (fun hP hD => ?_)
        rcases hw with hw | hw
        · subst hw
          refine lv_if_eq (tgt := 92) hx hb dX8_walkOn_74 (by decide) (fun c74 => absurd c74 (by decide +kernel)) (fun _ => ?_)
          refine lv_aload_n hx hb dX8_walkOn_77 rfl (lv_at hl 1 rfl) ?_
          refine lv_iload_n hx hb dX8_walkOn_78 rfl (lv_at hl 2 rfl) ?_
          refine lv_iload_n hx hb dX8_walkOn_79 rfl (lv_at hl 2 rfl) ?_
          refine va_iast hx hb hK hP hD hS 1 0 rfl rfl (ai_in ba2_l ba2_u (by decide) (by decide)) dX8_walkOn_80 (fun H locs hP hD hS => ?_)
          obtain ⟨f80, ef80⟩ : ∃ g9 : Nat → Int32, g9 = upd f62 (a2 : Int32).toNatClampNeg a2 := ⟨_, rfl⟩
          refine zs_1 (y := (a1, .inl (ka1, 23, .inl (f80)))) hP hD (by rw [ef80]) (fun hP hD => ?_)
          have bf80 : ((∀ k : Nat, 0 ≤ k → k ≤ 8 → (0 : Int) ≤ (f80 k).toInt ∧ (f80 k).toInt ≤ 8) ∧ (∀ k : Nat, 19 ≤ k → k ≤ 19 → (0 : Int) ≤ (f80 k).toInt ∧ (f80 k).toInt ≤ 8) ∧ (∀ k : Nat, 20 ≤ k → k ≤ 20 → (0 : Int) ≤ (f80 k).toInt ∧ (f80 k).toInt ≤ 19)) := by rw [ef80]; exact ⟨ai_updS bf62.1 _ ⟨ba2_l, ba2_u⟩, ai_updO bf62.2.1 _ (Or.inl (ai_nlt_of ba2_l ba2_u (by decide) (by decide))), ai_updO bf62.2.2 _ (Or.inl (ai_nlt_of ba2_l ba2_u (by decide) (by decide)))⟩
          refine lv_aload_n hx hb dX8_walkOn_81 rfl (lv_at hl 1 rfl) ?_
          refine lv_bipush (v := 22) hx hb dX8_walkOn_82 zk_bipush_22 ?_
          refine lv_dup2_11 hx hb dX8_walkOn_84 rfl rfl ?_
          refine va_iald hx hb hK hP 1 0 rfl rfl (by unfold vp_in; decide +kernel) dX8_walkOn_85 ?_
          refine lv_topi (fun x85 ex85 => ?_)
          refine lv_iconst (v := 1) hx hb dX8_walkOn_86 zk_iconst_1 ?_
          refine lv_iadd hx hb dX8_walkOn_87 ?_
          refine lv_topi (fun x87 ex87 => ?_)
          refine va_iast hx hb hK hP hD hS 1 0 rfl rfl (by unfold vp_in; decide +kernel) dX8_walkOn_88 (fun H locs hP hD hS => ?_)
          obtain ⟨f88, ef88⟩ : ∃ g9 : Nat → Int32, g9 = upd f80 (22 : Int32).toNatClampNeg x87 := ⟨_, rfl⟩
          refine zs_1 (y := (a1, .inl (ka1, 23, .inl (f88)))) hP hD (by rw [ef88]) (fun hP hD => ?_)
          have bf88 : ((∀ k : Nat, 0 ≤ k → k ≤ 8 → (0 : Int) ≤ (f88 k).toInt ∧ (f88 k).toInt ≤ 8) ∧ (∀ k : Nat, 19 ≤ k → k ≤ 19 → (0 : Int) ≤ (f88 k).toInt ∧ (f88 k).toInt ≤ 8) ∧ (∀ k : Nat, 20 ≤ k → k ≤ 20 → (0 : Int) ≤ (f88 k).toInt ∧ (f88 k).toInt ≤ 19)) := by rw [ef88]; exact ⟨ai_updO bf80.1 _ (Or.inr (ai_ngt_of zq158 (by decide) (by decide))), ai_updO bf80.2.1 _ (Or.inr (ai_ngt_of zq158 (by decide) (by decide))), ai_updO bf80.2.2 _ (Or.inr (ai_ngt_of zq158 (by decide) (by decide)))⟩
          have kf88_22 : f88 22 = x87 := by rw [ef88]; exact ai_k1 (by decide +kernel)
          refine lv_goto (tgt := 114) hx hb dX8_walkOn_89 (by decide) ?_
          exact W.vret hx hb hr (fun t ht hW => ⟨⟨(), rfl, trivial, f88, bf88, by rw [ht]; exact hP, va_K.moved hW.alike hK, hD⟩, hS.F ht⟩) hS.2.2 dX8_walkOn_114
        · subst hw
          refine lv_if_eq (tgt := 92) hx hb dX8_walkOn_74 (by decide) (fun _ => ?_) (fun c74 => absurd (by decide +kernel) c74)
          refine lv_aload_n hx hb dX8_walkOn_92 rfl (lv_at hl 1 rfl) ?_
          refine lv_iload_n hx hb dX8_walkOn_93 rfl (lv_at hl 2 rfl) ?_
          refine va_iald hx hb hK hP 1 0 rfl rfl (ai_in ba2_l ba2_u (by decide) (by decide)) dX8_walkOn_94 ?_
          refine ax_ti x66 ex66.symm ?_
          refine lv_aload_n hx hb dX8_walkOn_95 rfl (lv_at hl 0 rfl) ?_
          refine va_get (D := (dC, dI)) (ci := 8) (v := .ref a0_15) (C := RX8) (T := TX8) (N := 40) hx hb hts zi_X8_walkOn_8 hown hK hP 0 rfl rfl 15 (by decide) (hts (.fieldLink RX8 20 "WaxTurnsModel" "\x72" "[I") (List.mem_cons_of_mem _ (List.mem_append_left _ (List.mem_of_getElem? (i := 0) rfl)))) (fun _ h9 => h9) rfl dX8_walkOn_96 ?_
          refine lv_iconst (v := 2) hx hb dX8_walkOn_99 zk_iconst_2 ?_
          refine va_iald hx hb hK hP 2 1 rfl rfl (by unfold vp_in; decide +kernel) dX8_walkOn_100 ?_
          refine ax_ti x36 ex36.symm ?_
          refine lv_icmp_ne (tgt := 114) hx hb dX8_walkOn_101 (by decide) (fun c101 => ?_) (fun c101 => ?_)
          · have gc101 := ai_ne c101
            exact W.vret hx hb hr (fun t ht hW => ⟨⟨(), rfl, trivial, f62, bf62, by rw [ht]; exact hP, va_K.moved hW.alike hK, hD⟩, hS.F ht⟩) hS.2.2 dX8_walkOn_114
          · have gc101 := ai_eq c101
            have u101f_x66 : x66.toInt ≤ (7 : Int) := Int.le_trans (Int.le_of_eq gc101) u53f_x36
            have l101f_x66 : (0 : Int) ≤ x66.toInt := bx66.1
            have u101f_x36 : x36.toInt ≤ (7 : Int) := u53f_x36
            have l101f_x36 : (0 : Int) ≤ x36.toInt := bx36.1
            refine lv_aload_n hx hb dX8_walkOn_104 rfl (lv_at hl 1 rfl) ?_
            refine lv_bipush (v := 18) hx hb dX8_walkOn_105 zk_bipush_18 ?_
            refine lv_dup2_11 hx hb dX8_walkOn_107 rfl rfl ?_
            refine va_iald hx hb hK hP 1 0 rfl rfl (by unfold vp_in; decide +kernel) dX8_walkOn_108 ?_
            refine lv_topi (fun x108 ex108 => ?_)
            refine lv_iconst (v := 1) hx hb dX8_walkOn_109 zk_iconst_1 ?_
            refine lv_iload_n hx hb dX8_walkOn_110 rfl (lv_at hl 2 rfl) ?_
            refine lv_ishl hx hb dX8_walkOn_111 ?_
            refine lv_topi (fun x111 ex111 => ?_)
            refine lv_ior hx hb dX8_walkOn_112 ?_
            refine lv_topi (fun x112 ex112 => ?_)
            refine va_iast hx hb hK hP hD hS 1 0 rfl rfl (by unfold vp_in; decide +kernel) dX8_walkOn_113 (fun H locs hP hD hS => ?_)
            obtain ⟨f113, ef113⟩ : ∃ g9 : Nat → Int32, g9 = upd f62 (18 : Int32).toNatClampNeg x112 := ⟨_, rfl⟩
            refine zs_1 (y := (a1, .inl (ka1, 23, .inl (f113)))) hP hD (by rw [ef113]) (fun hP hD => ?_)
            have bf113 : ((∀ k : Nat, 0 ≤ k → k ≤ 8 → (0 : Int) ≤ (f113 k).toInt ∧ (f113 k).toInt ≤ 8) ∧ (∀ k : Nat, 19 ≤ k → k ≤ 19 → (0 : Int) ≤ (f113 k).toInt ∧ (f113 k).toInt ≤ 8) ∧ (∀ k : Nat, 20 ≤ k → k ≤ 20 → (0 : Int) ≤ (f113 k).toInt ∧ (f113 k).toInt ≤ 19)) := by rw [ef113]; exact ⟨ai_updO bf62.1 _ (Or.inr (ai_ngt_of zq159 (by decide) (by decide))), ai_updO bf62.2.1 _ (Or.inl (ai_nlt_of zq159 zq160 (by decide) (by decide))), ai_updO bf62.2.2 _ (Or.inl (ai_nlt_of zq159 zq160 (by decide) (by decide)))⟩
            have kf113_18 : f113 18 = x112 := by rw [ef113]; exact ai_k1 (by decide +kernel)
            exact W.vret hx hb hr (fun t ht hW => ⟨⟨(), rfl, trivial, f113, bf113, by rw [ht]; exact hP, va_K.moved hW.alike hK, hD⟩, hS.F ht⟩) hS.2.2 dX8_walkOn_114
    · have gc37 := ai_nle c37
      have u37f_x27 : x27.toInt ≤ (7 : Int) := ai_lthi gc37 bx36.2
      have l37f_x36 : (1 : Int) ≤ x36.toInt := ai_ltlo gc37 bx27.1
      refine lv_iconst (v := 1) hx hb dX8_walkOn_40 zk_iconst_1 ?_
      refine lv_goto (tgt := 61) hx hb dX8_walkOn_41 (by decide) ?_
      refine lv_iadd hx hb dX8_walkOn_61 ?_
      refine lv_topi (fun x61 ex61 => ?_)
      have qx61 : x61.toInt = x27.toInt + (1 : Int32).toInt := ai_add ex61 ⟨bx27.1, u37f_x27⟩ ⟨zq1, zq0⟩ (by decide) (by decide)
      have bx61 : (1 : Int) ≤ x61.toInt ∧ x61.toInt ≤ 8 := ⟨by rw [qx61]; exact Int.add_le_add bx27.1 zq1, by rw [qx61]; exact Int.add_le_add u37f_x27 zq0⟩
      have wx61 : x61.toInt = x27.toInt + 1 := qx61
      refine va_iast hx hb hK hP hD hS 1 0 rfl rfl (ai_in ba2_l ba2_u (by decide) (by decide)) dX8_walkOn_62 (fun H locs hP hD hS => ?_)
      obtain ⟨f62, ef62⟩ : ∃ g9 : Nat → Int32, g9 = upd fa1 (a2 : Int32).toNatClampNeg x61 := ⟨_, rfl⟩
      refine zs_1 (y := (a1, .inl (ka1, 23, .inl (f62)))) hP hD (by rw [ef62]) (fun hP hD => ?_)
      have bf62 : ((∀ k : Nat, 0 ≤ k → k ≤ 8 → (0 : Int) ≤ (f62 k).toInt ∧ (f62 k).toInt ≤ 8) ∧ (∀ k : Nat, 19 ≤ k → k ≤ 19 → (0 : Int) ≤ (f62 k).toInt ∧ (f62 k).toInt ≤ 8) ∧ (∀ k : Nat, 20 ≤ k → k ≤ 20 → (0 : Int) ≤ (f62 k).toInt ∧ (f62 k).toInt ≤ 19)) := by rw [ef62]; exact ⟨ai_updS bfa1.1 _ ⟨(Int.le_trans zq4 bx61.1), bx61.2⟩, ai_updO bfa1.2.1 _ (Or.inl (ai_nlt_of ba2_l ba2_u (by decide) (by decide))), ai_updO bfa1.2.2 _ (Or.inl (ai_nlt_of ba2_l ba2_u (by decide) (by decide)))⟩
      refine lv_aload_n hx hb dX8_walkOn_63 rfl (lv_at hl 0 rfl) ?_
      refine lv_aload_n hx hb dX8_walkOn_64 rfl (lv_at hl 1 rfl) ?_
      refine lv_iload_n hx hb dX8_walkOn_65 rfl (lv_at hl 2 rfl) ?_
      refine va_iald hx hb hK hP 1 0 rfl rfl (ai_in ba2_l ba2_u (by decide) (by decide)) dX8_walkOn_66 ?_
      refine lv_topi (fun x66 ex66 => ?_)
      have bx66 : (0 : Int) ≤ x66.toInt ∧ x66.toInt ≤ 8 := by rw [ex66]; exact ai_rd bf62.1 ba2_l ba2_u (by decide) (by decide) (by decide)
      refine lv_aload_n hx hb dX8_walkOn_67 rfl (lv_at hl 1 rfl) ?_
      refine lv_bipush (v := 21) hx hb dX8_walkOn_68 zk_bipush_21 ?_
      refine va_iald hx hb hK hP 1 0 rfl rfl (by unfold vp_in; decide +kernel) dX8_walkOn_70 ?_
      refine lv_topi (fun x70 ex70 => ?_)
      refine zc_cutc (wc := [(a0, .inr (8, [a0g_0, a0g_1, a0g_2, a0g_3, a0g_4, a0g_5, a0g_6, a0g_7, a0g_8, a0g_9, a0g_10, a0g_11, a0g_12, a0g_13, a0g_14, Value.ref a0_15, a0g_16, a0g_17, a0g_18, a0g_19, a0g_20, a0g_21, a0g_22, Value.ref a0_23, Value.ref a0_24, Value.int a0_25, a0g_26, a0g_27, a0g_28, a0g_29, a0g_30, a0g_31, a0g_32, a0g_33, a0g_34, a0g_35, a0g_36, a0g_37, a0g_38, a0g_39])), (a0_15, .inl (ka0_15, 156, .inl (fa0_15))), (a0_24, .inl (ka0_24, 3, .inl (fa0_24))), (a0_23, .inl (ka0_23, 3, .inl (fa0_23)))]) hP hD hS hA [0, 2, 3, 4] (by decide +kernel) rfl (fun hPc hDc hFc hCc => ?_)
      have hKc := hK.sub (tys' := [(ka0_15, .int), (ka0_24, .int), (ka0_23, .int)]) [1, 2, 3] rfl
      refine va_calli (va_runV (As := [.int x66, .int x70]) (rest := []) ⟨hx, hb, hml, hown, hts⟩ (c_X8_isWatched l dC dI H.size a0 x66 x70 a0g_0 a0g_1 a0g_2 a0g_3 a0g_4 a0g_5 a0g_6 a0g_7 a0g_8 a0g_9 a0g_10 a0g_11 a0g_12 a0g_13 a0g_14 a0g_16 a0g_17 a0g_18 a0g_19 a0g_20 a0g_21 a0g_22 a0g_26 a0g_27 a0g_28 a0g_29 a0g_30 a0g_31 a0g_32 a0g_33 a0g_34 a0g_35 a0g_36 a0g_37 a0g_38 a0g_39 a0_15 a0_23 a0_24 a0_25 ka0_15 fa0_15 ka0_24 fa0_24 ka0_23 fa0_23 bfa0_15 bfa0_24 bfa0_23) (cwV 2 hts gX8_walkOn_X8_isWatched rfl rfl rfl zd_X8_isWatched ⟨Nat.le_of_ble_eq_true rfl, Nat.le_of_ble_eq_true rfl⟩) ⟨ax_blind (fun _ _ _ _ _ => trivial), zr_8 hKc hPc (q0 := 0) rfl, ax_pre hPc hKc hDc (fun _ _ => trivial)⟩ rfl rfl hl.1 rfl (lv_room (Nat.le_of_ble_eq_true rfl)) dX8_walkOn_71 ⟨Nat.le_of_ble_eq_true rfl, Nat.le_of_ble_eq_true rfl⟩) hS (fun q _ h => hFc q h) hFc (fun r71 u t H locs ht hvm hw hB hz1 hk1 hS1 => zo hB ht hS1 (fun hP1 hK1 hD1 hS => ?_))
      refine zc_backc (w := [(a0, .inr (8, [a0g_0, a0g_1, a0g_2, a0g_3, a0g_4, a0g_5, a0g_6, a0g_7, a0g_8, a0g_9, a0g_10, a0g_11, a0g_12, a0g_13, a0g_14, Value.ref a0_15, a0g_16, a0g_17, a0g_18, a0g_19, a0g_20, a0g_21, a0g_22, Value.ref a0_23, Value.ref a0_24, Value.int a0_25, a0g_26, a0g_27, a0g_28, a0g_29, a0g_30, a0g_31, a0g_32, a0g_33, a0g_34, a0g_35, a0g_36, a0g_37, a0g_38, a0g_39])), (a1, .inl (ka1, 23, .inl (f62))), (a0_15, .inl (ka0_15, 156, .inl (fa0_15))), (a0_24, .inl (ka0_24, 3, .inl (fa0_24))), (a0_23, .inl (ka0_23, 3, .inl (fa0_23)))]) hP hD hCc hk1 hFc hP1 hD1 [.inr 0, .inl 1, .inr 1, .inr 2, .inr 3] (by decide +kernel) rfl (fun hP hD => ?_)
      rcases hw with hw | hw
      · subst hw
        refine lv_if_eq (tgt := 92) hx hb dX8_walkOn_74 (by decide) (fun c74 => absurd c74 (by decide +kernel)) (fun _ => ?_)
        refine lv_aload_n hx hb dX8_walkOn_77 rfl (lv_at hl 1 rfl) ?_
        refine lv_iload_n hx hb dX8_walkOn_78 rfl (lv_at hl 2 rfl) ?_
        refine lv_iload_n hx hb dX8_walkOn_79 rfl (lv_at hl 2 rfl) ?_
        refine va_iast hx hb hK hP hD hS 1 0 rfl rfl (ai_in ba2_l ba2_u (by decide) (by decide)) dX8_walkOn_80 (fun H locs hP hD hS => ?_)
        obtain ⟨f80, ef80⟩ : ∃ g9 : Nat → Int32, g9 = upd f62 (a2 : Int32).toNatClampNeg a2 := ⟨_, rfl⟩
        refine zs_1 (y := (a1, .inl (ka1, 23, .inl (f80)))) hP hD (by rw [ef80]) (fun hP hD => ?_)
        have bf80 : ((∀ k : Nat, 0 ≤ k → k ≤ 8 → (0 : Int) ≤ (f80 k).toInt ∧ (f80 k).toInt ≤ 8) ∧ (∀ k : Nat, 19 ≤ k → k ≤ 19 → (0 : Int) ≤ (f80 k).toInt ∧ (f80 k).toInt ≤ 8) ∧ (∀ k : Nat, 20 ≤ k → k ≤ 20 → (0 : Int) ≤ (f80 k).toInt ∧ (f80 k).toInt ≤ 19)) := by rw [ef80]; exact ⟨ai_updS bf62.1 _ ⟨ba2_l, ba2_u⟩, ai_updO bf62.2.1 _ (Or.inl (ai_nlt_of ba2_l ba2_u (by decide) (by decide))), ai_updO bf62.2.2 _ (Or.inl (ai_nlt_of ba2_l ba2_u (by decide) (by decide)))⟩
        refine lv_aload_n hx hb dX8_walkOn_81 rfl (lv_at hl 1 rfl) ?_
        refine lv_bipush (v := 22) hx hb dX8_walkOn_82 zk_bipush_22 ?_
        refine lv_dup2_11 hx hb dX8_walkOn_84 rfl rfl ?_
        refine va_iald hx hb hK hP 1 0 rfl rfl (by unfold vp_in; decide +kernel) dX8_walkOn_85 ?_
        refine lv_topi (fun x85 ex85 => ?_)
        refine lv_iconst (v := 1) hx hb dX8_walkOn_86 zk_iconst_1 ?_
        refine lv_iadd hx hb dX8_walkOn_87 ?_
        refine lv_topi (fun x87 ex87 => ?_)
        refine va_iast hx hb hK hP hD hS 1 0 rfl rfl (by unfold vp_in; decide +kernel) dX8_walkOn_88 (fun H locs hP hD hS => ?_)
        obtain ⟨f88, ef88⟩ : ∃ g9 : Nat → Int32, g9 = upd f80 (22 : Int32).toNatClampNeg x87 := ⟨_, rfl⟩
        refine zs_1 (y := (a1, .inl (ka1, 23, .inl (f88)))) hP hD (by rw [ef88]) (fun hP hD => ?_)
        have bf88 : ((∀ k : Nat, 0 ≤ k → k ≤ 8 → (0 : Int) ≤ (f88 k).toInt ∧ (f88 k).toInt ≤ 8) ∧ (∀ k : Nat, 19 ≤ k → k ≤ 19 → (0 : Int) ≤ (f88 k).toInt ∧ (f88 k).toInt ≤ 8) ∧ (∀ k : Nat, 20 ≤ k → k ≤ 20 → (0 : Int) ≤ (f88 k).toInt ∧ (f88 k).toInt ≤ 19)) := by rw [ef88]; exact ⟨ai_updO bf80.1 _ (Or.inr (ai_ngt_of zq158 (by decide) (by decide))), ai_updO bf80.2.1 _ (Or.inr (ai_ngt_of zq158 (by decide) (by decide))), ai_updO bf80.2.2 _ (Or.inr (ai_ngt_of zq158 (by decide) (by decide)))⟩
        have kf88_22 : f88 22 = x87 := by rw [ef88]; exact ai_k1 (by decide +kernel)
        refine lv_goto (tgt := 114) hx hb dX8_walkOn_89 (by decide) ?_
        exact W.vret hx hb hr (fun t ht hW => ⟨⟨(), rfl, trivial, f88, bf88, by rw [ht]; exact hP, va_K.moved hW.alike hK, hD⟩, hS.F ht⟩) hS.2.2 dX8_walkOn_114
      · subst hw
        refine lv_if_eq (tgt := 92) hx hb dX8_walkOn_74 (by decide) (fun _ => ?_) (fun c74 => absurd (by decide +kernel) c74)
        refine lv_aload_n hx hb dX8_walkOn_92 rfl (lv_at hl 1 rfl) ?_
        refine lv_iload_n hx hb dX8_walkOn_93 rfl (lv_at hl 2 rfl) ?_
        refine va_iald hx hb hK hP 1 0 rfl rfl (ai_in ba2_l ba2_u (by decide) (by decide)) dX8_walkOn_94 ?_
        refine ax_ti x66 ex66.symm ?_
        refine lv_aload_n hx hb dX8_walkOn_95 rfl (lv_at hl 0 rfl) ?_
        refine va_get (D := (dC, dI)) (ci := 8) (v := .ref a0_15) (C := RX8) (T := TX8) (N := 40) hx hb hts zi_X8_walkOn_8 hown hK hP 0 rfl rfl 15 (by decide) (hts (.fieldLink RX8 20 "WaxTurnsModel" "\x72" "[I") (List.mem_cons_of_mem _ (List.mem_append_left _ (List.mem_of_getElem? (i := 0) rfl)))) (fun _ h9 => h9) rfl dX8_walkOn_96 ?_
        refine lv_iconst (v := 2) hx hb dX8_walkOn_99 zk_iconst_2 ?_
        refine va_iald hx hb hK hP 2 1 rfl rfl (by unfold vp_in; decide +kernel) dX8_walkOn_100 ?_
        refine ax_ti x36 ex36.symm ?_
        refine lv_icmp_ne (tgt := 114) hx hb dX8_walkOn_101 (by decide) (fun c101 => ?_) (fun c101 => ?_)
        · have gc101 := ai_ne c101
          exact W.vret hx hb hr (fun t ht hW => ⟨⟨(), rfl, trivial, f62, bf62, by rw [ht]; exact hP, va_K.moved hW.alike hK, hD⟩, hS.F ht⟩) hS.2.2 dX8_walkOn_114
        · have gc101 := ai_eq c101
          have u101f_x66 : x66.toInt ≤ (8 : Int) := bx66.2
          have l101f_x66 : (1 : Int) ≤ x66.toInt := Int.le_trans l37f_x36 (Int.le_of_eq gc101.symm)
          have u101f_x36 : x36.toInt ≤ (8 : Int) := bx36.2
          have l101f_x36 : (1 : Int) ≤ x36.toInt := l37f_x36
          refine lv_aload_n hx hb dX8_walkOn_104 rfl (lv_at hl 1 rfl) ?_
          refine lv_bipush (v := 18) hx hb dX8_walkOn_105 zk_bipush_18 ?_
          refine lv_dup2_11 hx hb dX8_walkOn_107 rfl rfl ?_
          refine va_iald hx hb hK hP 1 0 rfl rfl (by unfold vp_in; decide +kernel) dX8_walkOn_108 ?_
          refine lv_topi (fun x108 ex108 => ?_)
          refine lv_iconst (v := 1) hx hb dX8_walkOn_109 zk_iconst_1 ?_
          refine lv_iload_n hx hb dX8_walkOn_110 rfl (lv_at hl 2 rfl) ?_
          refine lv_ishl hx hb dX8_walkOn_111 ?_
          refine lv_topi (fun x111 ex111 => ?_)
          refine lv_ior hx hb dX8_walkOn_112 ?_
          refine lv_topi (fun x112 ex112 => ?_)
          refine va_iast hx hb hK hP hD hS 1 0 rfl rfl (by unfold vp_in; decide +kernel) dX8_walkOn_113 (fun H locs hP hD hS => ?_)
          obtain ⟨f113, ef113⟩ : ∃ g9 : Nat → Int32, g9 = upd f62 (18 : Int32).toNatClampNeg x112 := ⟨_, rfl⟩
          refine zs_1 (y := (a1, .inl (ka1, 23, .inl (f113)))) hP hD (by rw [ef113]) (fun hP hD => ?_)
          have bf113 : ((∀ k : Nat, 0 ≤ k → k ≤ 8 → (0 : Int) ≤ (f113 k).toInt ∧ (f113 k).toInt ≤ 8) ∧ (∀ k : Nat, 19 ≤ k → k ≤ 19 → (0 : Int) ≤ (f113 k).toInt ∧ (f113 k).toInt ≤ 8) ∧ (∀ k : Nat, 20 ≤ k → k ≤ 20 → (0 : Int) ≤ (f113 k).toInt ∧ (f113 k).toInt ≤ 19)) := by rw [ef113]; exact ⟨ai_updO bf62.1 _ (Or.inr (ai_ngt_of zq159 (by decide) (by decide))), ai_updO bf62.2.1 _ (Or.inl (ai_nlt_of zq159 zq160 (by decide) (by decide))), ai_updO bf62.2.2 _ (Or.inl (ai_nlt_of zq159 zq160 (by decide) (by decide)))⟩
          have kf113_18 : f113 18 = x112 := by rw [ef113]; exact ai_k1 (by decide +kernel)
          exact W.vret hx hb hr (fun t ht hW => ⟨⟨(), rfl, trivial, f113, bf113, by rw [ht]; exact hP, va_K.moved hW.alike hK, hD⟩, hS.F ht⟩) hS.2.2 dX8_walkOn_114
  · have gc20 := ai_ne c20
    have l20f_x19 : (1 : Int) ≤ x19.toInt := (by first | exact zg_l qx19.2.1 gc20 (by decide) (by decide) | (have h1 := qx19.2.1; have h2 : (0 : Int32).toInt = 0 := (by decide); rw [h2] at gc20; omega))
    exact W.vret hx hb hr (fun t ht hW => ⟨⟨(), rfl, trivial, fa1, bfa1, by rw [ht]; exact hP, va_K.moved hW.alike hK, hD⟩, hS.F ht⟩) hS.2.2 dX8_walkOn_23

set_option maxHeartbeats 4000000 in
set_option maxRecDepth 100000 in
theorem c_X8_speakOn (l : Launch) (dC : Nat → ClassId) (dI : Nat → Nat → Nat) (sz : Nat) (a0 : Nat) (a1 : Nat) (a2 : Int32) (a0g_0 a0g_1 a0g_2 a0g_3 a0g_4 a0g_5 a0g_6 a0g_7 a0g_8 a0g_9 a0g_10 a0g_11 a0g_12 a0g_13 a0g_14 a0g_16 a0g_17 a0g_18 a0g_19 a0g_20 a0g_21 a0g_22 a0g_26 a0g_27 a0g_29 a0g_30 a0g_31 a0g_32 a0g_33 a0g_34 a0g_35 a0g_36 a0g_37 a0g_38 a0g_39 : Value) (a0_15 : Nat) (a0_23 : Nat) (a0_24 : Nat) (a0_25 : Int32) (a0_28 : Int32) (ka1 : ClassId) (fa1 : Nat → Int32) (ka0_15 : ClassId) (fa0_15 : Nat → Int32) (ka0_24 : ClassId) (fa0_24 : Nat → Int32) (ka0_23 : ClassId) (fa0_23 : Nat → Int32) (ba2_l : (0 : Int) ≤ a2.toInt) (ba2_u : a2.toInt ≤ (8 : Int)) (bfa1 : ((∀ k : Nat, 0 ≤ k → k ≤ 8 → (0 : Int) ≤ (fa1 k).toInt ∧ (fa1 k).toInt ≤ 8) ∧ (∀ k : Nat, 19 ≤ k → k ≤ 19 → (0 : Int) ≤ (fa1 k).toInt ∧ (fa1 k).toInt ≤ 8) ∧ (∀ k : Nat, 20 ≤ k → k ≤ 20 → (0 : Int) ≤ (fa1 k).toInt ∧ (fa1 k).toInt ≤ 19))) (bfa0_15 : ((∀ k : Nat, 0 ≤ k → k ≤ 0 → (2 : Int) ≤ (fa0_15 k).toInt ∧ (fa0_15 k).toInt ≤ 9) ∧ (∀ k : Nat, 1 ≤ k → k ≤ 1 → (1 : Int) ≤ (fa0_15 k).toInt ∧ (fa0_15 k).toInt ≤ 20) ∧ (∀ k : Nat, 2 ≤ k → k ≤ 2 → (0 : Int) ≤ (fa0_15 k).toInt ∧ (fa0_15 k).toInt ≤ 8) ∧ (∀ k : Nat, 3 ≤ k → k ≤ 3 → (0 : Int) ≤ (fa0_15 k).toInt ∧ (fa0_15 k).toInt ≤ 100) ∧ (∀ k : Nat, 4 ≤ k → k ≤ 4 → (0 : Int) ≤ (fa0_15 k).toInt ∧ (fa0_15 k).toInt ≤ 9) ∧ (∀ k : Nat, 5 ≤ k → k ≤ 5 → (0 : Int) ≤ (fa0_15 k).toInt ∧ (fa0_15 k).toInt ≤ 3) ∧ (∀ k : Nat, 6 ≤ k → k ≤ 6 → (0 : Int) ≤ (fa0_15 k).toInt ∧ (fa0_15 k).toInt ≤ 6) ∧ (∀ k : Nat, 7 ≤ k → k ≤ 9 → (0 : Int) ≤ (fa0_15 k).toInt ∧ (fa0_15 k).toInt ≤ 8) ∧ (∀ k : Nat, 12 ≤ k → k ≤ 29 → (0 : Int) ≤ (fa0_15 k).toInt ∧ (fa0_15 k).toInt ≤ 20) ∧ (∀ k : Nat, 30 ≤ k → k ≤ 35 → (0 : Int) ≤ (fa0_15 k).toInt ∧ (fa0_15 k).toInt ≤ 8) ∧ (∀ k : Nat, 36 ≤ k → k ≤ 47 → (0 : Int) ≤ (fa0_15 k).toInt ∧ (fa0_15 k).toInt ≤ 999))) (bfa0_24 : (∀ k, (0 : Int) ≤ (fa0_24 k).toInt ∧ (fa0_24 k).toInt ≤ 80)) (bfa0_23 : (∀ k, (0 : Int) ≤ (fa0_23 k).toInt ∧ (fa0_23 k).toInt ≤ 80)) : zm l yX8_speakOn wsX8_speakOn ({ frames := 2, cells := 0, slots := 0, locals := 48 }) [.ref a0, .ref a1, .int a2] dC dI sz [(a0, .inr (8, [a0g_0, a0g_1, a0g_2, a0g_3, a0g_4, a0g_5, a0g_6, a0g_7, a0g_8, a0g_9, a0g_10, a0g_11, a0g_12, a0g_13, a0g_14, Value.ref a0_15, a0g_16, a0g_17, a0g_18, a0g_19, a0g_20, a0g_21, a0g_22, Value.ref a0_23, Value.ref a0_24, Value.int a0_25, a0g_26, a0g_27, Value.int a0_28, a0g_29, a0g_30, a0g_31, a0g_32, a0g_33, a0g_34, a0g_35, a0g_36, a0g_37, a0g_38, a0g_39])), (a1, .inl (ka1, 23, .inl (fa1))), (a0_15, .inl (ka0_15, 156, .inl (fa0_15))), (a0_24, .inl (ka0_24, 3, .inl (fa0_24))), (a0_23, .inl (ka0_23, 3, .inl (fa0_23)))] [(ka1, .int), (ka0_15, .int), (ka0_24, .int), (ka0_23, .int)] (fun A _ => True) (fun A => va_Qv (fun (_ : Unit) => True) (fun (_ : Unit) (t : State) => ∃ na0_28 : Int32, ∃ nfa1 : Nat → Int32, ((∀ k : Nat, 0 ≤ k → k ≤ 8 → (0 : Int) ≤ (nfa1 k).toInt ∧ (nfa1 k).toInt ≤ 8) ∧ (∀ k : Nat, 19 ≤ k → k ≤ 19 → (0 : Int) ≤ (nfa1 k).toInt ∧ (nfa1 k).toInt ≤ 8) ∧ (∀ k : Nat, 20 ≤ k → k ≤ 20 → (0 : Int) ≤ (nfa1 k).toInt ∧ (nfa1 k).toInt ≤ 19)) ∧ ax_B dC dI A [(a0, .inr (8, [a0g_0, a0g_1, a0g_2, a0g_3, a0g_4, a0g_5, a0g_6, a0g_7, a0g_8, a0g_9, a0g_10, a0g_11, a0g_12, a0g_13, a0g_14, Value.ref a0_15, a0g_16, a0g_17, a0g_18, a0g_19, a0g_20, a0g_21, a0g_22, Value.ref a0_23, Value.ref a0_24, Value.int a0_25, a0g_26, a0g_27, Value.int na0_28, a0g_29, a0g_30, a0g_31, a0g_32, a0g_33, a0g_34, a0g_35, a0g_36, a0g_37, a0g_38, a0g_39])), (a1, .inl (ka1, 23, .inl (nfa1))), (a0_15, .inl (ka0_15, 156, .inl (fa0_15))), (a0_24, .inl (ka0_24, 3, .inl (fa0_24))), (a0_23, .inl (ka0_23, 3, .inl (fa0_23)))] [(ka1, .int), (ka0_15, .int), (ka0_24, .int), (ka0_23, .int)] t) A) := by
  refine zh (cc := cX8_speakOn) (maxL := 6) (ret := none) zn_RX8 rfl (Nat.le_of_ble_eq_true rfl) (fun p e s m below meth c A ls hx hb hml hr hts (hown : s.vm.findClass RX8 = some m.cls) hlocks hA hS hP hK hD hE (hl : lv_has ls 6 [(0, .ref a0), (1, .ref a1), (2, .int a2)]) => ?_)
  refine ai_open (fun K hK0 => ?_)
  refine (hK0 _ _ _).mpr ?_
  refine lv_aload_n hx hb dX8_speakOn_0 rfl (lv_at hl 1 rfl) ?_
  refine lv_bipush (v := 20) hx hb dX8_speakOn_1 zk_bipush_20 ?_
  refine va_iald hx hb hK hP 1 0 rfl rfl (by unfold vp_in; decide +kernel) dX8_speakOn_3 ?_
  refine lv_topi (fun x3 ex3 => ?_)
  have bx3 : (0 : Int) ≤ x3.toInt ∧ x3.toInt ≤ 19 := by rw [ex3]; exact ai_rd bfa1.2.2 zq155 zq156 (by decide) (by decide) (by decide)
  refine lv_istore_n (lv' := [(3, .int x3), (0, .ref a0), (1, .ref a1), (2, .int a2)]) hx hb dX8_speakOn_4 rfl hl (by decide) rfl (fun ls hl => ?_)
  refine lv_iload_n hx hb dX8_speakOn_5 rfl (lv_at hl 0 rfl) ?_
  refine lv_aload_n hx hb dX8_speakOn_6 rfl (lv_at hl 1 rfl) ?_
  refine va_get (D := (dC, dI)) (ci := 8) (v := .ref a0_15) (C := RX8) (T := TX8) (N := 40) hx hb hts zi_X8_speakOn_8 hown hK hP 0 rfl rfl 15 (by decide) (hts (.fieldLink RX8 20 "WaxTurnsModel" "\x72" "[I") (List.mem_cons_of_mem _ (List.mem_append_left _ (List.mem_of_getElem? (i := 0) rfl)))) (fun _ h9 => h9) rfl dX8_speakOn_7 ?_
  refine lv_bipush (v := 12) hx hb dX8_speakOn_10 zk_bipush_12 ?_
  refine lv_iconst (v := 2) hx hb dX8_speakOn_12 zk_iconst_2 ?_
  refine lv_iload_n hx hb dX8_speakOn_13 rfl (lv_at hl 3 rfl) ?_
  refine lv_imul hx hb dX8_speakOn_14 ?_
  refine lv_topi (fun x14 ex14 => ?_)
  have qx14 : x14.toInt = (2 : Int32).toInt * a2.toInt ∧ (0 : Int) ≤ x14.toInt ∧ x14.toInt ≤ 16 := ai_mul ex14 ⟨zq12, zq13⟩ ⟨ba2_l, ba2_u⟩ (by decide) (by decide) zq157
  have wx14 : x14.toInt = 2 * a2.toInt := qx14.1
  refine lv_iadd hx hb dX8_speakOn_15 ?_
  refine lv_topi (fun x15 ex15 => ?_)
  have qx15 : x15.toInt = (12 : Int32).toInt + x14.toInt := ai_add ex15 ⟨zq121, zq122⟩ ⟨qx14.2.1, qx14.2.2⟩ (by decide) (by decide)
  have bx15 : (12 : Int) ≤ x15.toInt ∧ x15.toInt ≤ 28 := ⟨by rw [qx15]; exact Int.add_le_add zq121 qx14.2.1, by rw [qx15]; exact Int.add_le_add zq122 qx14.2.2⟩
  have wx15 : x15.toInt = 12 + x14.toInt := qx15
  refine lv_iconst (v := 1) hx hb dX8_speakOn_16 zk_iconst_1 ?_
  refine lv_iadd hx hb dX8_speakOn_17 ?_
  refine lv_topi (fun x17 ex17 => ?_)
  have qx17 : x17.toInt = x15.toInt + (1 : Int32).toInt := ai_add ex17 ⟨bx15.1, bx15.2⟩ ⟨zq1, zq0⟩ (by decide) (by decide)
  have bx17 : (13 : Int) ≤ x17.toInt ∧ x17.toInt ≤ 29 := ⟨by rw [qx17]; exact Int.add_le_add bx15.1 zq1, by rw [qx17]; exact Int.add_le_add bx15.2 zq0⟩
  have wx17 : x17.toInt = x15.toInt + 1 := qx17
  refine va_iald hx hb hK hP 2 1 rfl rfl (ai_in bx17.1 bx17.2 (by decide) (by decide)) dX8_speakOn_18 ?_
  refine lv_topi (fun x18 ex18 => ?_)
  have bx18 : (0 : Int) ≤ x18.toInt ∧ x18.toInt ≤ 20 := by rw [ex18]; exact ai_rd bfa0_15.2.2.2.2.2.2.2.2.1 bx17.1 bx17.2 (by decide) (by decide) (by decide)
  refine lv_icmp_lt (tgt := 23) hx hb dX8_speakOn_19 (by decide) (fun c19 => ?_) (fun c19 => ?_)
  · have gc19 := ai_lt c19
    have u19t_x3 : x3.toInt ≤ (19 : Int) := bx3.2
    have l19t_x18 : (1 : Int) ≤ x18.toInt := ai_ltlo gc19 bx3.1
    refine lv_aload_n hx hb dX8_speakOn_23 rfl (lv_at hl 1 rfl) ?_
    refine lv_iconst (v := 1) hx hb dX8_speakOn_24 zk_iconst_1 ?_
    refine lv_iload_n hx hb dX8_speakOn_25 rfl (lv_at hl 0 rfl) ?_
    refine lv_ishl hx hb dX8_speakOn_26 ?_
    refine lv_topi (fun x26 ex26 => ?_)
    refine va_put (D := (dC, dI)) (ci := 8) (v := .int x26) (ty := .int) (C := RX8) (T := TX8) (N := 40) hx hb hts zi_X8_speakOn_8 tyX8 tyX8_ok nmX8 hown hK hP hD hS 0 rfl rfl 28 (by decide) (hts (.fieldLink RX8 248 "WaxTurnsModel" "said" "I") (List.mem_cons_of_mem _ (List.mem_append_left _ (List.mem_of_getElem? (i := 1) rfl)))) (fun _ h9 => h9) rfl (tyX8_ok 28 (by decide)) rfl rfl (Nat.le_of_ble_eq_true rfl) dX8_speakOn_27 (fun H locs hP hD hS => ?_)
    refine zs_0 (y := (a0, .inr (8, [a0g_0, a0g_1, a0g_2, a0g_3, a0g_4, a0g_5, a0g_6, a0g_7, a0g_8, a0g_9, a0g_10, a0g_11, a0g_12, a0g_13, a0g_14, Value.ref a0_15, a0g_16, a0g_17, a0g_18, a0g_19, a0g_20, a0g_21, a0g_22, Value.ref a0_23, Value.ref a0_24, Value.int a0_25, a0g_26, a0g_27, Value.int x26, a0g_29, a0g_30, a0g_31, a0g_32, a0g_33, a0g_34, a0g_35, a0g_36, a0g_37, a0g_38, a0g_39]))) hP hD rfl (fun hP hD => ?_)
    refine lv_iconst (v := 0) hx hb dX8_speakOn_30 zk_iconst_0 ?_
    refine lv_istore (lv' := [(4, .int 0), (3, .int x3), (0, .ref a0), (1, .ref a1), (2, .int a2)]) hx hb dX8_speakOn_31 hl (by decide) rfl (fun ls hl => ?_)
    refine lv_aload_n hx hb dX8_speakOn_33 rfl (lv_at hl 3 rfl) ?_
    refine lv_iload_n hx hb dX8_speakOn_34 rfl (lv_at hl 4 rfl) ?_
    refine va_iald hx hb hK hP 1 0 rfl rfl (ai_in ba2_l ba2_u (by decide) (by decide)) dX8_speakOn_35 ?_
    refine lv_topi (fun x35 ex35 => ?_)
    have bx35 : (0 : Int) ≤ x35.toInt ∧ x35.toInt ≤ 8 := by rw [ex35]; exact ai_rd bfa1.1 ba2_l ba2_u (by decide) (by decide) (by decide)
    refine lv_iconst (v := 1) hx hb dX8_speakOn_36 zk_iconst_1 ?_
    refine lv_isub hx hb dX8_speakOn_37 ?_
    refine lv_topi (fun x37 ex37 => ?_)
    have qx37 : x37.toInt = x35.toInt - (1 : Int32).toInt := ai_sub ex37 ⟨bx35.1, bx35.2⟩ ⟨zq1, zq0⟩ (by decide) (by decide)
    have bx37 : (-1 : Int) ≤ x37.toInt ∧ x37.toInt ≤ 7 := ⟨by rw [qx37]; exact Int.sub_le_sub bx35.1 zq0, by rw [qx37]; exact Int.sub_le_sub bx35.2 zq1⟩
    have wx37 : x37.toInt = x35.toInt - 1 := qx37
    refine lv_istore (lv' := [(5, .int x37), (4, .int 0), (3, .int x3), (0, .ref a0), (1, .ref a1), (2, .int a2)]) hx hb dX8_speakOn_38 hl (by decide) rfl (fun ls hl => ?_)
    have J40 : ∀ (n : Nat) (j40l5 : Int32) (j40l4 : Int32) (H : Heap) (locs : List Loc) (ls : Array Slot), (11 : Int) - j40l5.toInt ≤ (n : Int) → (-1 : Int) ≤ j40l5.toInt → j40l5.toInt ≤ (10 : Int) → (0 : Int) ≤ j40l4.toInt → j40l4.toInt ≤ (1 : Int) → va_P (dC, dI) vwCl [(a0, .inr (8, [a0g_0, a0g_1, a0g_2, a0g_3, a0g_4, a0g_5, a0g_6, a0g_7, a0g_8, a0g_9, a0g_10, a0g_11, a0g_12, a0g_13, a0g_14, Value.ref a0_15, a0g_16, a0g_17, a0g_18, a0g_19, a0g_20, a0g_21, a0g_22, Value.ref a0_23, Value.ref a0_24, Value.int a0_25, a0g_26, a0g_27, Value.int x26, a0g_29, a0g_30, a0g_31, a0g_32, a0g_33, a0g_34, a0g_35, a0g_36, a0g_37, a0g_38, a0g_39])), (a1, .inl (ka1, 23, .inl (fa1))), (a0_15, .inl (ka0_15, 156, .inl (fa0_15))), (a0_24, .inl (ka0_24, 3, .inl (fa0_24))), (a0_23, .inl (ka0_23, 3, .inl (fa0_23)))] H → va_D A [(a0, .inr (8, [a0g_0, a0g_1, a0g_2, a0g_3, a0g_4, a0g_5, a0g_6, a0g_7, a0g_8, a0g_9, a0g_10, a0g_11, a0g_12, a0g_13, a0g_14, Value.ref a0_15, a0g_16, a0g_17, a0g_18, a0g_19, a0g_20, a0g_21, a0g_22, Value.ref a0_23, Value.ref a0_24, Value.int a0_25, a0g_26, a0g_27, Value.int x26, a0g_29, a0g_30, a0g_31, a0g_32, a0g_33, a0g_34, a0g_35, a0g_36, a0g_37, a0g_38, a0g_39])), (a1, .inl (ka1, 23, .inl (fa1))), (a0_15, .inl (ka0_15, 156, .inl (fa0_15))), (a0_24, .inl (ka0_24, 3, .inl (fa0_24))), (a0_23, .inl (ka0_23, 3, .inl (fa0_23)))] → va_S A s.heap H locs → lv_has ls 6 [(0, .ref a0), (1, .ref a1), (2, .int a2), (4, .int j40l4), (5, .int j40l5)] → K H locs (F0 m 40 ls []) := by
      intro n
      induction n with
      | zero =>
        intro j40l5 j40l4 H locs ls hm bj40l5_l bj40l5_u bj40l4_l bj40l4_u hP hD hS hl
        first | exact zg_0 hm bj40l5_u (by decide) | (have h8 := ai_min j40l5; have h9 := ai_max j40l5; exact absurd hm (by omega))
      | succ n ih40 =>
        intro j40l5 j40l4 H locs ls hm bj40l5_l bj40l5_u bj40l4_l bj40l4_u hP hD hS hl
        refine (hK0 _ _ _).mpr ?_
        have hm40 := hm
        refine lv_iload hx hb dX8_speakOn_40 (lv_at hl 4 rfl) ?_
        refine lv_aload_n hx hb dX8_speakOn_42 rfl (lv_at hl 1 rfl) ?_
        refine lv_iload_n hx hb dX8_speakOn_43 rfl (lv_at hl 2 rfl) ?_
        refine va_iald hx hb hK hP 1 0 rfl rfl (ai_in ba2_l ba2_u (by decide) (by decide)) dX8_speakOn_44 ?_
        refine lv_topi (fun x44 ex44 => ?_)
        have bx44 : (0 : Int) ≤ x44.toInt ∧ x44.toInt ≤ 8 := by rw [ex44]; exact ai_rd bfa1.1 ba2_l ba2_u (by decide) (by decide) (by decide)
        refine lv_iconst (v := 1) hx hb dX8_speakOn_45 zk_iconst_1 ?_
        refine lv_iadd hx hb dX8_speakOn_46 ?_
        refine lv_topi (fun x46 ex46 => ?_)
        have qx46 : x46.toInt = x44.toInt + (1 : Int32).toInt := ai_add ex46 ⟨bx44.1, bx44.2⟩ ⟨zq1, zq0⟩ (by decide) (by decide)
        have bx46 : (1 : Int) ≤ x46.toInt ∧ x46.toInt ≤ 9 := ⟨by rw [qx46]; exact Int.add_le_add bx44.1 zq1, by rw [qx46]; exact Int.add_le_add bx44.2 zq0⟩
        have wx46 : x46.toInt = x44.toInt + 1 := qx46
        refine lv_icmp_gt (tgt := 86) hx hb dX8_speakOn_47 (by decide) (fun c47 => ?_) (fun c47 => ?_)
        · have gc47 := ai_lt c47
          have u47t_x46 : x46.toInt ≤ (9 : Int) := bx46.2
          have l47t_j40l5 : (2 : Int) ≤ j40l5.toInt := ai_ltlo gc47 bx46.1
          refine lv_iload hx hb dX8_speakOn_86 (lv_at hl 3 rfl) ?_
          refine lv_if_eq (tgt := 104) hx hb dX8_speakOn_88 (by decide) (fun c88 => ?_) (fun c88 => ?_)
          · have gc88 := ai_eq c88
            have u88t_j40l4 : j40l4.toInt ≤ (0 : Int) := Int.le_trans (Int.le_of_eq gc88) zq6
            have l88t_j40l4 : (0 : Int) ≤ j40l4.toInt := bj40l4_l
            exact W.vret hx hb hr (fun t ht hW => ⟨⟨(), rfl, trivial, x26, fa1, bfa1, by rw [ht]; exact hP, va_K.moved hW.alike hK, hD⟩, hS.F ht⟩) hS.2.2 dX8_speakOn_104
          · have gc88 := ai_ne c88
            have l88f_j40l4 : (1 : Int) ≤ j40l4.toInt := (by first | exact zg_l bj40l4_l gc88 (by decide) (by decide) | (have h1 := bj40l4_l; have h2 : (0 : Int32).toInt = 0 := (by decide); rw [h2] at gc88; omega))
            refine lv_aload_n hx hb dX8_speakOn_91 rfl (lv_at hl 1 rfl) ?_
            refine lv_bipush (v := 9) hx hb dX8_speakOn_92 zk_bipush_9 ?_
            refine lv_iload_n hx hb dX8_speakOn_94 rfl (lv_at hl 2 rfl) ?_
            refine lv_iadd hx hb dX8_speakOn_95 ?_
            refine lv_topi (fun x95 ex95 => ?_)
            have qx95 : x95.toInt = (9 : Int32).toInt + a2.toInt := ai_add ex95 ⟨zq2, zq3⟩ ⟨ba2_l, ba2_u⟩ (by decide) (by decide)
            have bx95 : (9 : Int) ≤ x95.toInt ∧ x95.toInt ≤ 17 := ⟨by rw [qx95]; exact Int.add_le_add zq2 ba2_l, by rw [qx95]; exact Int.add_le_add zq3 ba2_u⟩
            have wx95 : x95.toInt = 9 + a2.toInt := qx95
            refine lv_dup2_11 hx hb dX8_speakOn_96 rfl rfl ?_
            refine va_iald hx hb hK hP 1 0 rfl rfl (ai_in bx95.1 bx95.2 (by decide) (by decide)) dX8_speakOn_97 ?_
            refine lv_topi (fun x97 ex97 => ?_)
            refine lv_aload_n hx hb dX8_speakOn_98 rfl (lv_at hl 0 rfl) ?_
            refine va_get (D := (dC, dI)) (ci := 8) (v := .int x26) (C := RX8) (T := TX8) (N := 40) hx hb hts zi_X8_speakOn_8 hown hK hP 0 rfl rfl 28 (by decide) (hts (.fieldLink RX8 248 "WaxTurnsModel" "said" "I") (List.mem_cons_of_mem _ (List.mem_append_left _ (List.mem_of_getElem? (i := 1) rfl)))) (fun _ h9 => h9) rfl dX8_speakOn_99 ?_
            refine lv_ior hx hb dX8_speakOn_102 ?_
            refine lv_topi (fun x102 ex102 => ?_)
            refine va_iast hx hb hK hP hD hS 1 0 rfl rfl (ai_in bx95.1 bx95.2 (by decide) (by decide)) dX8_speakOn_103 (fun H locs hP hD hS => ?_)
            obtain ⟨f103, ef103⟩ : ∃ g9 : Nat → Int32, g9 = upd fa1 (x95 : Int32).toNatClampNeg x102 := ⟨_, rfl⟩
            refine zs_1 (y := (a1, .inl (ka1, 23, .inl (f103)))) hP hD (by rw [ef103]) (fun hP hD => ?_)
            have bf103 : ((∀ k : Nat, 0 ≤ k → k ≤ 8 → (0 : Int) ≤ (f103 k).toInt ∧ (f103 k).toInt ≤ 8) ∧ (∀ k : Nat, 19 ≤ k → k ≤ 19 → (0 : Int) ≤ (f103 k).toInt ∧ (f103 k).toInt ≤ 8) ∧ (∀ k : Nat, 20 ≤ k → k ≤ 20 → (0 : Int) ≤ (f103 k).toInt ∧ (f103 k).toInt ≤ 19)) := by rw [ef103]; exact ⟨ai_updO bfa1.1 _ (Or.inr (ai_ngt_of bx95.1 (by decide) (by decide))), ai_updO bfa1.2.1 _ (Or.inl (ai_nlt_of bx95.1 bx95.2 (by decide) (by decide))), ai_updO bfa1.2.2 _ (Or.inl (ai_nlt_of bx95.1 bx95.2 (by decide) (by decide)))⟩
            exact W.vret hx hb hr (fun t ht hW => ⟨⟨(), rfl, trivial, x26, f103, bf103, by rw [ht]; exact hP, va_K.moved hW.alike hK, hD⟩, hS.F ht⟩) hS.2.2 dX8_speakOn_104
        · have gc47 := ai_nlt c47
          have u47f_j40l5 : j40l5.toInt ≤ (9 : Int) := Int.le_trans gc47 bx46.2
          have l47f_x46 : (1 : Int) ≤ x46.toInt := bx46.1
          refine lv_iload hx hb dX8_speakOn_50 (lv_at hl 3 rfl) ?_
          have J78 : ∀ (j78s0 : Int32) (H : Heap) (locs : List Loc) (ls : Array Slot), (0 : Int) ≤ j78s0.toInt → j78s0.toInt ≤ (1 : Int) → va_P (dC, dI) vwCl [(a0, .inr (8, [a0g_0, a0g_1, a0g_2, a0g_3, a0g_4, a0g_5, a0g_6, a0g_7, a0g_8, a0g_9, a0g_10, a0g_11, a0g_12, a0g_13, a0g_14, Value.ref a0_15, a0g_16, a0g_17, a0g_18, a0g_19, a0g_20, a0g_21, a0g_22, Value.ref a0_23, Value.ref a0_24, Value.int a0_25, a0g_26, a0g_27, Value.int x26, a0g_29, a0g_30, a0g_31, a0g_32, a0g_33, a0g_34, a0g_35, a0g_36, a0g_37, a0g_38, a0g_39])), (a1, .inl (ka1, 23, .inl (fa1))), (a0_15, .inl (ka0_15, 156, .inl (fa0_15))), (a0_24, .inl (ka0_24, 3, .inl (fa0_24))), (a0_23, .inl (ka0_23, 3, .inl (fa0_23)))] H → va_D A [(a0, .inr (8, [a0g_0, a0g_1, a0g_2, a0g_3, a0g_4, a0g_5, a0g_6, a0g_7, a0g_8, a0g_9, a0g_10, a0g_11, a0g_12, a0g_13, a0g_14, Value.ref a0_15, a0g_16, a0g_17, a0g_18, a0g_19, a0g_20, a0g_21, a0g_22, Value.ref a0_23, Value.ref a0_24, Value.int a0_25, a0g_26, a0g_27, Value.int x26, a0g_29, a0g_30, a0g_31, a0g_32, a0g_33, a0g_34, a0g_35, a0g_36, a0g_37, a0g_38, a0g_39])), (a1, .inl (ka1, 23, .inl (fa1))), (a0_15, .inl (ka0_15, 156, .inl (fa0_15))), (a0_24, .inl (ka0_24, 3, .inl (fa0_24))), (a0_23, .inl (ka0_23, 3, .inl (fa0_23)))] → va_S A s.heap H locs → lv_has ls 6 [(0, .ref a0), (1, .ref a1), (2, .int a2), (5, .int j40l5)] → K H locs (F0 m 78 ls [.int j78s0]) := by
            intro j78s0 H locs ls  bj78s0_l bj78s0_u hP hD hS hl
            refine (hK0 _ _ _).mpr ?_
            refine lv_istore (lv' := [(4, .int j78s0), (0, .ref a0), (1, .ref a1), (2, .int a2), (5, .int j40l5)]) hx hb dX8_speakOn_78 hl (by decide) rfl (fun ls hl => ?_)
            obtain ⟨x80, ex80⟩ : ∃ y : Int32, y = j40l5 + Int32.ofInt 1 := ⟨_, rfl⟩
            have qx80 : x80.toInt = j40l5.toInt + 1 := ai_inc ex80 (by decide) (by decide) u47f_j40l5 (by decide)
            have bx80 : (0 : Int) ≤ x80.toInt ∧ x80.toInt ≤ 10 := ⟨by rw [qx80]; exact Int.add_le_add bj40l5_l (Int.le_refl _), by rw [qx80]; exact Int.add_le_add u47f_j40l5 (Int.le_refl _)⟩
            refine lv_iinc (v := x80) (lv' := [(5, .int x80), (4, .int j78s0), (0, .ref a0), (1, .ref a1), (2, .int a2)]) hx hb dX8_speakOn_80 hl (k := 4) rfl ex80.symm (by decide) rfl (fun ls hl => ?_)
            refine lv_goto (tgt := 40) hx hb dX8_speakOn_83 (by decide) ?_
            exact (hK0 _ _ _).mp (ih40 x80 j78s0 _ _ _ (by first | exact zg_s hm40 qx80 | (have h0 := qx80; omega)) (Int.le_trans zq70 bx80.1) bx80.2 bj78s0_l bj78s0_u hP hD hS (lv_sub hl [2, 3, 4, 1, 0] rfl))
          have J73 : ∀ (H : Heap) (locs : List Loc) (ls : Array Slot), va_P (dC, dI) vwCl [(a0, .inr (8, [a0g_0, a0g_1, a0g_2, a0g_3, a0g_4, a0g_5, a0g_6, a0g_7, a0g_8, a0g_9, a0g_10, a0g_11, a0g_12, a0g_13, a0g_14, Value.ref a0_15, a0g_16, a0g_17, a0g_18, a0g_19, a0g_20, a0g_21, a0g_22, Value.ref a0_23, Value.ref a0_24, Value.int a0_25, a0g_26, a0g_27, Value.int x26, a0g_29, a0g_30, a0g_31, a0g_32, a0g_33, a0g_34, a0g_35, a0g_36, a0g_37, a0g_38, a0g_39])), (a1, .inl (ka1, 23, .inl (fa1))), (a0_15, .inl (ka0_15, 156, .inl (fa0_15))), (a0_24, .inl (ka0_24, 3, .inl (fa0_24))), (a0_23, .inl (ka0_23, 3, .inl (fa0_23)))] H → va_D A [(a0, .inr (8, [a0g_0, a0g_1, a0g_2, a0g_3, a0g_4, a0g_5, a0g_6, a0g_7, a0g_8, a0g_9, a0g_10, a0g_11, a0g_12, a0g_13, a0g_14, Value.ref a0_15, a0g_16, a0g_17, a0g_18, a0g_19, a0g_20, a0g_21, a0g_22, Value.ref a0_23, Value.ref a0_24, Value.int a0_25, a0g_26, a0g_27, Value.int x26, a0g_29, a0g_30, a0g_31, a0g_32, a0g_33, a0g_34, a0g_35, a0g_36, a0g_37, a0g_38, a0g_39])), (a1, .inl (ka1, 23, .inl (fa1))), (a0_15, .inl (ka0_15, 156, .inl (fa0_15))), (a0_24, .inl (ka0_24, 3, .inl (fa0_24))), (a0_23, .inl (ka0_23, 3, .inl (fa0_23)))] → va_S A s.heap H locs → lv_has ls 6 [(0, .ref a0), (1, .ref a1), (2, .int a2), (5, .int j40l5)] → K H locs (F0 m 73 ls []) := by
            intro  H locs ls   hP hD hS hl
            refine (hK0 _ _ _).mpr ?_
            refine lv_iconst (v := 1) hx hb dX8_speakOn_73 zk_iconst_1 ?_
            refine lv_goto (tgt := 78) hx hb dX8_speakOn_74 (by decide) ?_
            exact (hK0 _ _ _).mp (J78 1 _ _ _  (Int.le_trans zq4 zq1) zq0 hP hD hS (lv_sub hl [0, 1, 2, 3] rfl))
          refine lv_if_ne (tgt := 73) hx hb dX8_speakOn_52 (by decide) (fun c52 => ?_) (fun c52 => ?_)
          · have gc52 := ai_ne c52
            have l52t_j40l4 : (1 : Int) ≤ j40l4.toInt := (by first | exact zg_l bj40l4_l gc52 (by decide) (by decide) | (have h1 := bj40l4_l; have h2 : (0 : Int32).toInt = 0 := (by decide); rw [h2] at gc52; omega))
            exact (hK0 _ _ _).mp (J73  _ _ _   hP hD hS (lv_sub hl [0, 1, 2, 4] rfl))
          · have gc52 := ai_eq c52
            have u52f_j40l4 : j40l4.toInt ≤ (0 : Int) := Int.le_trans (Int.le_of_eq gc52) zq6
            have l52f_j40l4 : (0 : Int) ≤ j40l4.toInt := bj40l4_l
            refine lv_iload hx hb dX8_speakOn_55 (lv_at hl 4 rfl) ?_
            have J77 : ∀ (H : Heap) (locs : List Loc) (ls : Array Slot), va_P (dC, dI) vwCl [(a0, .inr (8, [a0g_0, a0g_1, a0g_2, a0g_3, a0g_4, a0g_5, a0g_6, a0g_7, a0g_8, a0g_9, a0g_10, a0g_11, a0g_12, a0g_13, a0g_14, Value.ref a0_15, a0g_16, a0g_17, a0g_18, a0g_19, a0g_20, a0g_21, a0g_22, Value.ref a0_23, Value.ref a0_24, Value.int a0_25, a0g_26, a0g_27, Value.int x26, a0g_29, a0g_30, a0g_31, a0g_32, a0g_33, a0g_34, a0g_35, a0g_36, a0g_37, a0g_38, a0g_39])), (a1, .inl (ka1, 23, .inl (fa1))), (a0_15, .inl (ka0_15, 156, .inl (fa0_15))), (a0_24, .inl (ka0_24, 3, .inl (fa0_24))), (a0_23, .inl (ka0_23, 3, .inl (fa0_23)))] H → va_D A [(a0, .inr (8, [a0g_0, a0g_1, a0g_2, a0g_3, a0g_4, a0g_5, a0g_6, a0g_7, a0g_8, a0g_9, a0g_10, a0g_11, a0g_12, a0g_13, a0g_14, Value.ref a0_15, a0g_16, a0g_17, a0g_18, a0g_19, a0g_20, a0g_21, a0g_22, Value.ref a0_23, Value.ref a0_24, Value.int a0_25, a0g_26, a0g_27, Value.int x26, a0g_29, a0g_30, a0g_31, a0g_32, a0g_33, a0g_34, a0g_35, a0g_36, a0g_37, a0g_38, a0g_39])), (a1, .inl (ka1, 23, .inl (fa1))), (a0_15, .inl (ka0_15, 156, .inl (fa0_15))), (a0_24, .inl (ka0_24, 3, .inl (fa0_24))), (a0_23, .inl (ka0_23, 3, .inl (fa0_23)))] → va_S A s.heap H locs → lv_has ls 6 [(0, .ref a0), (1, .ref a1), (2, .int a2), (5, .int j40l5)] → K H locs (F0 m 77 ls []) := by
              intro  H locs ls   hP hD hS hl
              refine (hK0 _ _ _).mpr ?_
              refine lv_iconst (v := 0) hx hb dX8_speakOn_77 zk_iconst_0 ?_
              exact (hK0 _ _ _).mp (J78 0 _ _ _  zq5 (Int.le_trans zq6 zq4) hP hD hS (lv_sub hl [0, 1, 2, 3] rfl))
            refine lv_if_lt (tgt := 77) hx hb dX8_speakOn_57 (by decide) (fun c57 => ?_) (fun c57 => ?_)
            · have gc57 := ai_lt c57
              have u57t_j40l5 : j40l5.toInt ≤ (-1 : Int) := ai_lthi gc57 zq6
              exact (hK0 _ _ _).mp (J77  _ _ _   hP hD hS (lv_sub hl [0, 1, 2, 4] rfl))
            · have gc57 := ai_nlt c57
              have l57f_j40l5 : (0 : Int) ≤ j40l5.toInt := Int.le_trans zq5 gc57
              refine lv_aload_n hx hb dX8_speakOn_60 rfl (lv_at hl 0 rfl) ?_
              refine lv_iload hx hb dX8_speakOn_61 (lv_at hl 4 rfl) ?_
              refine lv_aload_n hx hb dX8_speakOn_63 rfl (lv_at hl 1 rfl) ?_
              refine lv_bipush (v := 21) hx hb dX8_speakOn_64 zk_bipush_21 ?_
              refine va_iald hx hb hK hP 1 0 rfl rfl (by unfold vp_in; decide +kernel) dX8_speakOn_66 ?_
              refine lv_topi (fun x66 ex66 => ?_)
              refine zc_cutc (wc := [(a0, .inr (8, [a0g_0, a0g_1, a0g_2, a0g_3, a0g_4, a0g_5, a0g_6, a0g_7, a0g_8, a0g_9, a0g_10, a0g_11, a0g_12, a0g_13, a0g_14, Value.ref a0_15, a0g_16, a0g_17, a0g_18, a0g_19, a0g_20, a0g_21, a0g_22, Value.ref a0_23, Value.ref a0_24, Value.int a0_25, a0g_26, a0g_27, Value.int x26, a0g_29, a0g_30, a0g_31, a0g_32, a0g_33, a0g_34, a0g_35, a0g_36, a0g_37, a0g_38, a0g_39])), (a0_15, .inl (ka0_15, 156, .inl (fa0_15))), (a0_24, .inl (ka0_24, 3, .inl (fa0_24))), (a0_23, .inl (ka0_23, 3, .inl (fa0_23)))]) hP hD hS hA [0, 2, 3, 4] (by decide +kernel) rfl (fun hPc hDc hFc hCc => ?_)
              have hKc := hK.sub (tys' := [(ka0_15, .int), (ka0_24, .int), (ka0_23, .int)]) [1, 2, 3] rfl
              refine va_calli (va_runV (As := [.int j40l5, .int x66]) (rest := []) ⟨hx, hb, hml, hown, hts⟩ (c_X8_isWatched l dC dI H.size a0 j40l5 x66 a0g_0 a0g_1 a0g_2 a0g_3 a0g_4 a0g_5 a0g_6 a0g_7 a0g_8 a0g_9 a0g_10 a0g_11 a0g_12 a0g_13 a0g_14 a0g_16 a0g_17 a0g_18 a0g_19 a0g_20 a0g_21 a0g_22 a0g_26 a0g_27 (Value.int x26) a0g_29 a0g_30 a0g_31 a0g_32 a0g_33 a0g_34 a0g_35 a0g_36 a0g_37 a0g_38 a0g_39 a0_15 a0_23 a0_24 a0_25 ka0_15 fa0_15 ka0_24 fa0_24 ka0_23 fa0_23 bfa0_15 bfa0_24 bfa0_23) (cwV 2 hts gX8_speakOn_X8_isWatched rfl rfl rfl zd_X8_isWatched ⟨Nat.le_of_ble_eq_true rfl, Nat.le_of_ble_eq_true rfl⟩) ⟨ax_blind (fun _ _ _ _ _ => trivial), zr_8 hKc hPc (q0 := 0) rfl, ax_pre hPc hKc hDc (fun _ _ => trivial)⟩ rfl rfl hl.1 rfl (lv_room (Nat.le_of_ble_eq_true rfl)) dX8_speakOn_67 ⟨Nat.le_of_ble_eq_true rfl, Nat.le_of_ble_eq_true rfl⟩) hS (fun q _ h => hFc q h) hFc (fun r67 u t H locs ht hvm hw hB hz1 hk1 hS1 => zo hB ht hS1 (fun hP1 hK1 hD1 hS => ?_))
              refine zc_backc (w := [(a0, .inr (8, [a0g_0, a0g_1, a0g_2, a0g_3, a0g_4, a0g_5, a0g_6, a0g_7, a0g_8, a0g_9, a0g_10, a0g_11, a0g_12, a0g_13, a0g_14, Value.ref a0_15, a0g_16, a0g_17, a0g_18, a0g_19, a0g_20, a0g_21, a0g_22, Value.ref a0_23, Value.ref a0_24, Value.int a0_25, a0g_26, a0g_27, Value.int x26, a0g_29, a0g_30, a0g_31, a0g_32, a0g_33, a0g_34, a0g_35, a0g_36, a0g_37, a0g_38, a0g_39])), (a1, .inl (ka1, 23, .inl (fa1))), (a0_15, .inl (ka0_15, 156, .inl (fa0_15))), (a0_24, .inl (ka0_24, 3, .inl (fa0_24))), (a0_23, .inl (ka0_23, 3, .inl (fa0_23)))]) hP hD hCc hk1 hFc hP1 hD1 [.inr 0, .inl 1, .inr 1, .inr 2, .inr 3] (by decide +kernel) rfl (fun hP hD => ?_)
              rcases hw with hw | hw
              · subst hw
                refine lv_if_eq (tgt := 77) hx hb dX8_speakOn_70 (by decide) (fun c70 => absurd c70 (by decide +kernel)) (fun _ => ?_)
                exact (hK0 _ _ _).mp (J73  _ _ _   hP hD hS (lv_sub hl [0, 1, 2, 4] rfl))
              · subst hw
                refine lv_if_eq (tgt := 77) hx hb dX8_speakOn_70 (by decide) (fun _ => ?_) (fun c70 => absurd (by decide +kernel) c70)
                exact (hK0 _ _ _).mp (J77  _ _ _   hP hD hS (lv_sub hl [0, 1, 2, 4] rfl))
    exact (hK0 _ _ _).mp (J40 12 x37 0 _ _ _ (by have h1 : (-1 : Int) ≤ x37.toInt := bx37.1; have h2 : x37.toInt ≤ (7 : Int) := bx37.2; omega) bx37.1 (Int.le_trans bx37.2 zq161) zq5 (Int.le_trans zq6 zq4) hP hD hS (lv_sub hl [3, 4, 5, 1, 0] rfl))
  · have gc19 := ai_nlt c19
    have u19f_x18 : x18.toInt ≤ (19 : Int) := Int.le_trans gc19 bx3.2
    have l19f_x3 : (0 : Int) ≤ x3.toInt := bx3.1
    exact W.vret hx hb hr (fun t ht hW => ⟨⟨(), rfl, trivial, a0_28, fa1, bfa1, by rw [ht]; exact hP, va_K.moved hW.alike hK, hD⟩, hS.F ht⟩) hS.2.2 dX8_speakOn_22
end P131_safe
section P132_safe
set_option maxHeartbeats 4000000 in
set_option maxRecDepth 100000 in
theorem c_X8_minuteOn (l : Launch) (dC : Nat → ClassId) (dI : Nat → Nat → Nat) (sz : Nat) (a0 : Nat) (a1 : Nat) (a0g_0 a0g_1 a0g_2 a0g_3 a0g_4 a0g_5 a0g_6 a0g_7 a0g_8 a0g_9 a0g_10 a0g_11 a0g_12 a0g_13 a0g_14 a0g_16 a0g_17 a0g_18 a0g_19 a0g_20 a0g_21 a0g_22 a0g_29 a0g_30 a0g_31 a0g_32 a0g_33 a0g_34 a0g_35 a0g_36 a0g_37 a0g_38 a0g_39 : Value) (a0_15 : Nat) (a0_23 : Nat) (a0_24 : Nat) (a0_25 : Int32) (a0_26 : Int32) (a0_27 : Int32) (a0_28 : Int32) (ka1 : ClassId) (fa1 : Nat → Int32) (ka0_15 : ClassId) (fa0_15 : Nat → Int32) (ka0_24 : ClassId) (fa0_24 : Nat → Int32) (ka0_23 : ClassId) (fa0_23 : Nat → Int32) (bfa1 : ((∀ k : Nat, 0 ≤ k → k ≤ 8 → (0 : Int) ≤ (fa1 k).toInt ∧ (fa1 k).toInt ≤ 8) ∧ (∀ k : Nat, 19 ≤ k → k ≤ 19 → (0 : Int) ≤ (fa1 k).toInt ∧ (fa1 k).toInt ≤ 8) ∧ (∀ k : Nat, 20 ≤ k → k ≤ 20 → (0 : Int) ≤ (fa1 k).toInt ∧ (fa1 k).toInt ≤ 19))) (bfa0_15 : ((∀ k : Nat, 0 ≤ k → k ≤ 0 → (2 : Int) ≤ (fa0_15 k).toInt ∧ (fa0_15 k).toInt ≤ 9) ∧ (∀ k : Nat, 1 ≤ k → k ≤ 1 → (1 : Int) ≤ (fa0_15 k).toInt ∧ (fa0_15 k).toInt ≤ 20) ∧ (∀ k : Nat, 2 ≤ k → k ≤ 2 → (0 : Int) ≤ (fa0_15 k).toInt ∧ (fa0_15 k).toInt ≤ 8) ∧ (∀ k : Nat, 3 ≤ k → k ≤ 3 → (0 : Int) ≤ (fa0_15 k).toInt ∧ (fa0_15 k).toInt ≤ 100) ∧ (∀ k : Nat, 4 ≤ k → k ≤ 4 → (0 : Int) ≤ (fa0_15 k).toInt ∧ (fa0_15 k).toInt ≤ 9) ∧ (∀ k : Nat, 5 ≤ k → k ≤ 5 → (0 : Int) ≤ (fa0_15 k).toInt ∧ (fa0_15 k).toInt ≤ 3) ∧ (∀ k : Nat, 6 ≤ k → k ≤ 6 → (0 : Int) ≤ (fa0_15 k).toInt ∧ (fa0_15 k).toInt ≤ 6) ∧ (∀ k : Nat, 7 ≤ k → k ≤ 9 → (0 : Int) ≤ (fa0_15 k).toInt ∧ (fa0_15 k).toInt ≤ 8) ∧ (∀ k : Nat, 12 ≤ k → k ≤ 29 → (0 : Int) ≤ (fa0_15 k).toInt ∧ (fa0_15 k).toInt ≤ 20) ∧ (∀ k : Nat, 30 ≤ k → k ≤ 35 → (0 : Int) ≤ (fa0_15 k).toInt ∧ (fa0_15 k).toInt ≤ 8) ∧ (∀ k : Nat, 36 ≤ k → k ≤ 47 → (0 : Int) ≤ (fa0_15 k).toInt ∧ (fa0_15 k).toInt ≤ 999))) (bfa0_24 : (∀ k, (0 : Int) ≤ (fa0_24 k).toInt ∧ (fa0_24 k).toInt ≤ 80)) (bfa0_23 : (∀ k, (0 : Int) ≤ (fa0_23 k).toInt ∧ (fa0_23 k).toInt ≤ 80)) (hkm : ∀ (j i0 i : Int32), (0 : Int) ≤ j.toInt → j.toInt ≤ 8 → i0.toInt = 12 + 2 * j.toInt → i.toInt = 13 + 2 * j.toInt → (fa0_15 i0.toNatClampNeg).toInt = (1 : Int32).toInt → (1 : Int) ≤ (fa0_15 i.toNatClampNeg).toInt) : zm l yX8_minuteOn wsX8_minuteOn ({ frames := 3, cells := 0, slots := 0, locals := 73 }) [.ref a0, .ref a1] dC dI sz [(a0, .inr (8, [a0g_0, a0g_1, a0g_2, a0g_3, a0g_4, a0g_5, a0g_6, a0g_7, a0g_8, a0g_9, a0g_10, a0g_11, a0g_12, a0g_13, a0g_14, Value.ref a0_15, a0g_16, a0g_17, a0g_18, a0g_19, a0g_20, a0g_21, a0g_22, Value.ref a0_23, Value.ref a0_24, Value.int a0_25, Value.int a0_26, Value.int a0_27, Value.int a0_28, a0g_29, a0g_30, a0g_31, a0g_32, a0g_33, a0g_34, a0g_35, a0g_36, a0g_37, a0g_38, a0g_39])), (a1, .inl (ka1, 23, .inl (fa1))), (a0_15, .inl (ka0_15, 156, .inl (fa0_15))), (a0_24, .inl (ka0_24, 3, .inl (fa0_24))), (a0_23, .inl (ka0_23, 3, .inl (fa0_23)))] [(ka1, .int), (ka0_15, .int), (ka0_24, .int), (ka0_23, .int)] (fun A _ => True) (fun A => va_Qv (fun (_ : Unit) => True) (fun (_ : Unit) (t : State) => ∃ na0_26 : Int32, ∃ na0_27 : Int32, ∃ na0_28 : Int32, ∃ nfa1 : Nat → Int32, ((∀ k : Nat, 0 ≤ k → k ≤ 8 → (0 : Int) ≤ (nfa1 k).toInt ∧ (nfa1 k).toInt ≤ 8) ∧ (∀ k : Nat, 19 ≤ k → k ≤ 19 → (0 : Int) ≤ (nfa1 k).toInt ∧ (nfa1 k).toInt ≤ 8) ∧ (∀ k : Nat, 20 ≤ k → k ≤ 20 → (0 : Int) ≤ (nfa1 k).toInt ∧ (nfa1 k).toInt ≤ 19)) ∧ ax_B dC dI A [(a0, .inr (8, [a0g_0, a0g_1, a0g_2, a0g_3, a0g_4, a0g_5, a0g_6, a0g_7, a0g_8, a0g_9, a0g_10, a0g_11, a0g_12, a0g_13, a0g_14, Value.ref a0_15, a0g_16, a0g_17, a0g_18, a0g_19, a0g_20, a0g_21, a0g_22, Value.ref a0_23, Value.ref a0_24, Value.int a0_25, Value.int na0_26, Value.int na0_27, Value.int na0_28, a0g_29, a0g_30, a0g_31, a0g_32, a0g_33, a0g_34, a0g_35, a0g_36, a0g_37, a0g_38, a0g_39])), (a1, .inl (ka1, 23, .inl (nfa1))), (a0_15, .inl (ka0_15, 156, .inl (fa0_15))), (a0_24, .inl (ka0_24, 3, .inl (fa0_24))), (a0_23, .inl (ka0_23, 3, .inl (fa0_23)))] [(ka1, .int), (ka0_15, .int), (ka0_24, .int), (ka0_23, .int)] t) A) := by
  refine zh (cc := cX8_minuteOn) (maxL := 3) (ret := none) zn_RX8 rfl (Nat.le_of_ble_eq_true rfl) (fun p e s m below meth c A ls hx hb hml hr hts (hown : s.vm.findClass RX8 = some m.cls) hlocks hA hS hP hK hD hE (hl : lv_has ls 3 [(0, .ref a0), (1, .ref a1)]) => ?_)
  refine lv_aload_n hx hb dX8_minuteOn_0 rfl (lv_at hl 1 rfl) ?_
  refine lv_bipush (v := 19) hx hb dX8_minuteOn_1 zk_bipush_19 ?_
  refine va_iald hx hb hK hP 1 0 rfl rfl (by unfold vp_in; decide +kernel) dX8_minuteOn_3 ?_
  refine lv_topi (fun x3 ex3 => ?_)
  have bx3 : (0 : Int) ≤ x3.toInt ∧ x3.toInt ≤ 8 := by rw [ex3]; exact ai_rd bfa1.2.1 zq162 zq163 (by decide) (by decide) (by decide)
  refine lv_istore_n (lv' := [(2, .int x3), (0, .ref a0), (1, .ref a1)]) hx hb dX8_minuteOn_4 rfl hl (by decide) rfl (fun ls hl => ?_)
  refine lv_aload_n hx hb dX8_minuteOn_5 rfl (lv_at hl 1 rfl) ?_
  refine lv_iconst (v := 0) hx hb dX8_minuteOn_6 zk_iconst_0 ?_
  refine va_put (D := (dC, dI)) (ci := 8) (v := .int 0) (ty := .int) (C := RX8) (T := TX8) (N := 40) hx hb hts zi_X8_minuteOn_8 tyX8 tyX8_ok nmX8 hown hK hP hD hS 0 rfl rfl 28 (by decide) (hts (.fieldLink RX8 248 "WaxTurnsModel" "said" "I") (zm_X8_minuteOn_r1 (List.mem_of_getElem? (i := 0) rfl))) (fun _ h9 => h9) rfl (tyX8_ok 28 (by decide)) rfl rfl (Nat.le_of_ble_eq_true rfl) dX8_minuteOn_7 (fun H locs hP hD hS => ?_)
  refine zs_0 (y := (a0, .inr (8, [a0g_0, a0g_1, a0g_2, a0g_3, a0g_4, a0g_5, a0g_6, a0g_7, a0g_8, a0g_9, a0g_10, a0g_11, a0g_12, a0g_13, a0g_14, Value.ref a0_15, a0g_16, a0g_17, a0g_18, a0g_19, a0g_20, a0g_21, a0g_22, Value.ref a0_23, Value.ref a0_24, Value.int a0_25, Value.int a0_26, Value.int a0_27, Value.int 0, a0g_29, a0g_30, a0g_31, a0g_32, a0g_33, a0g_34, a0g_35, a0g_36, a0g_37, a0g_38, a0g_39]))) hP hD rfl (fun hP hD => ?_)
  refine lv_aload_n hx hb dX8_minuteOn_10 rfl (lv_at hl 2 rfl) ?_
  refine lv_bipush (v := 18) hx hb dX8_minuteOn_11 zk_bipush_18 ?_
  refine va_iald hx hb hK hP 1 0 rfl rfl (by unfold vp_in; decide +kernel) dX8_minuteOn_13 ?_
  refine lv_topi (fun x13 ex13 => ?_)
  refine lv_iload_n hx hb dX8_minuteOn_14 rfl (lv_at hl 0 rfl) ?_
  refine va_calli (va_runS (As := [.int x13, .int x3]) (rest := []) ⟨hx, hb, hml, hown, hts⟩ (c_X8_hasBit l dC dI H.size x13 x3 ) (va_cwS 2 hts gX8_minuteOn_X8_hasBit rfl rfl rfl zd_X8_hasBit.2 ⟨Nat.le_of_ble_eq_true rfl, Nat.le_of_ble_eq_true rfl⟩) ⟨ax_blind (fun _ _ _ _ _ => trivial), ax_pre (zp_P0 hP) (zp_K hK) (zp_D0 hD) (fun _ _ => trivial)⟩ rfl rfl hl.1 rfl (lv_room (Nat.le_of_ble_eq_true rfl)) dX8_minuteOn_15 ⟨Nat.le_of_ble_eq_true rfl, Nat.le_of_ble_eq_true rfl⟩) hS (fun q _ h => zp_F0 hD hS hA q h) (zp_F0 hD hS hA) (fun r15 u t H locs ht hvm hw hB hz1 hk1 hS1 => zo0 hB ht hP hD hk1 (zp_F0 hD hS hA) hS1 (fun hP hK1 hD hS => ?_))
  rcases hw with hw | hw
  · subst hw
    refine lv_if_ne (tgt := 66) hx hb dX8_minuteOn_18 (by decide) (fun _ => ?_) (fun c18 => absurd c18 (by decide +kernel))
    refine lv_aload_n hx hb dX8_minuteOn_66 rfl (lv_at hl 1 rfl) ?_
    refine lv_iload_n hx hb dX8_minuteOn_67 rfl (lv_at hl 0 rfl) ?_
    refine va_put (D := (dC, dI)) (ci := 8) (v := .int x3) (ty := .int) (C := RX8) (T := TX8) (N := 40) hx hb hts zi_X8_minuteOn_8 tyX8 tyX8_ok nmX8 hown hK hP hD hS 0 rfl rfl 26 (by decide) (hts (.fieldLink RX8 258 "WaxTurnsModel" "lived" "I") (zm_X8_minuteOn_r1 (List.mem_of_getElem? (i := 2) rfl))) (fun _ h9 => h9) rfl (tyX8_ok 26 (by decide)) rfl rfl (Nat.le_of_ble_eq_true rfl) dX8_minuteOn_68 (fun H locs hP hD hS => ?_)
    refine zs_0 (y := (a0, .inr (8, [a0g_0, a0g_1, a0g_2, a0g_3, a0g_4, a0g_5, a0g_6, a0g_7, a0g_8, a0g_9, a0g_10, a0g_11, a0g_12, a0g_13, a0g_14, Value.ref a0_15, a0g_16, a0g_17, a0g_18, a0g_19, a0g_20, a0g_21, a0g_22, Value.ref a0_23, Value.ref a0_24, Value.int a0_25, Value.int x3, Value.int a0_27, Value.int 0, a0g_29, a0g_30, a0g_31, a0g_32, a0g_33, a0g_34, a0g_35, a0g_36, a0g_37, a0g_38, a0g_39]))) hP hD rfl (fun hP hD => ?_)
    refine lv_aload_n hx hb dX8_minuteOn_71 rfl (lv_at hl 1 rfl) ?_
    refine lv_aload_n hx hb dX8_minuteOn_72 rfl (lv_at hl 2 rfl) ?_
    refine lv_bipush (v := 18) hx hb dX8_minuteOn_73 zk_bipush_18 ?_
    refine va_iald hx hb hK hP 1 0 rfl rfl (by unfold vp_in; decide +kernel) dX8_minuteOn_75 ?_
    refine ax_ti x13 ex13.symm ?_
    refine lv_iload_n hx hb dX8_minuteOn_76 rfl (lv_at hl 0 rfl) ?_
    refine va_calli (va_runS (As := [.int x13, .int x3]) (rest := [.ref a0]) ⟨hx, hb, hml, hown, hts⟩ (c_X8_hasBit l dC dI H.size x13 x3 ) (va_cwS 2 hts gX8_minuteOn_X8_hasBit rfl rfl rfl zd_X8_hasBit.2 ⟨Nat.le_of_ble_eq_true rfl, Nat.le_of_ble_eq_true rfl⟩) ⟨ax_blind (fun _ _ _ _ _ => trivial), ax_pre (zp_P0 hP) (zp_K hK) (zp_D0 hD) (fun _ _ => trivial)⟩ rfl rfl hl.1 rfl (lv_room (Nat.le_of_ble_eq_true rfl)) dX8_minuteOn_77 ⟨Nat.le_of_ble_eq_true rfl, Nat.le_of_ble_eq_true rfl⟩) hS (fun q _ h => zp_F0 hD hS hA q h) (zp_F0 hD hS hA) (fun r77 u t H locs ht hvm hw hB hz1 hk1 hS1 => zo0 hB ht hP hD hk1 (zp_F0 hD hS hA) hS1 (fun hP hK1 hD hS => ?_))
    rcases hw with hw | hw
    · subst hw
      refine lv_if_eq (tgt := 87) hx hb dX8_minuteOn_80 (by decide) (fun c80 => absurd c80 (by decide +kernel)) (fun _ => ?_)
      refine lv_iconst (v := (-1)) hx hb dX8_minuteOn_83 zk_iconst_n1 ?_
      refine lv_goto (tgt := 90) hx hb dX8_minuteOn_84 (by decide) ?_
      refine va_put (D := (dC, dI)) (ci := 8) (v := .int (-1)) (ty := .int) (C := RX8) (T := TX8) (N := 40) hx hb hts zi_X8_minuteOn_8 tyX8 tyX8_ok nmX8 hown hK hP hD hS 0 rfl rfl 27 (by decide) (hts (.fieldLink RX8 261 "WaxTurnsModel" "livedAt" "I") (zm_X8_minuteOn_r1 (List.mem_of_getElem? (i := 3) rfl))) (fun _ h9 => h9) rfl (tyX8_ok 27 (by decide)) rfl rfl (Nat.le_of_ble_eq_true rfl) dX8_minuteOn_90 (fun H locs hP hD hS => ?_)
      refine zs_0 (y := (a0, .inr (8, [a0g_0, a0g_1, a0g_2, a0g_3, a0g_4, a0g_5, a0g_6, a0g_7, a0g_8, a0g_9, a0g_10, a0g_11, a0g_12, a0g_13, a0g_14, Value.ref a0_15, a0g_16, a0g_17, a0g_18, a0g_19, a0g_20, a0g_21, a0g_22, Value.ref a0_23, Value.ref a0_24, Value.int a0_25, Value.int x3, Value.int (-1), Value.int 0, a0g_29, a0g_30, a0g_31, a0g_32, a0g_33, a0g_34, a0g_35, a0g_36, a0g_37, a0g_38, a0g_39]))) hP hD rfl (fun hP hD => ?_)
      refine lv_aload_n hx hb dX8_minuteOn_93 rfl (lv_at hl 2 rfl) ?_
      refine lv_bipush (v := 21) hx hb dX8_minuteOn_94 zk_bipush_21 ?_
      refine lv_dup2_11 hx hb dX8_minuteOn_96 rfl rfl ?_
      refine va_iald hx hb hK hP 1 0 rfl rfl (by unfold vp_in; decide +kernel) dX8_minuteOn_97 ?_
      refine lv_topi (fun x97 ex97 => ?_)
      refine lv_iconst (v := 1) hx hb dX8_minuteOn_98 zk_iconst_1 ?_
      refine lv_iadd hx hb dX8_minuteOn_99 ?_
      refine lv_topi (fun x99 ex99 => ?_)
      refine va_iast hx hb hK hP hD hS 1 0 rfl rfl (by unfold vp_in; decide +kernel) dX8_minuteOn_100 (fun H locs hP hD hS => ?_)
      obtain ⟨f100, ef100⟩ : ∃ g9 : Nat → Int32, g9 = upd fa1 (21 : Int32).toNatClampNeg x99 := ⟨_, rfl⟩
      refine zs_1 (y := (a1, .inl (ka1, 23, .inl (f100)))) hP hD (by rw [ef100]) (fun hP hD => ?_)
      have bf100 : ((∀ k : Nat, 0 ≤ k → k ≤ 8 → (0 : Int) ≤ (f100 k).toInt ∧ (f100 k).toInt ≤ 8) ∧ (∀ k : Nat, 19 ≤ k → k ≤ 19 → (0 : Int) ≤ (f100 k).toInt ∧ (f100 k).toInt ≤ 8) ∧ (∀ k : Nat, 20 ≤ k → k ≤ 20 → (0 : Int) ≤ (f100 k).toInt ∧ (f100 k).toInt ≤ 19)) := by rw [ef100]; exact ⟨ai_updO bfa1.1 _ (Or.inr (ai_ngt_of zq164 (by decide) (by decide))), ai_updO bfa1.2.1 _ (Or.inr (ai_ngt_of zq164 (by decide) (by decide))), ai_updO bfa1.2.2 _ (Or.inr (ai_ngt_of zq164 (by decide) (by decide)))⟩
      have kf100_21 : f100 21 = x99 := by rw [ef100]; exact ai_k1 (by decide +kernel)
      refine lv_aload_n hx hb dX8_minuteOn_101 rfl (lv_at hl 2 rfl) ?_
      refine lv_bipush (v := 20) hx hb dX8_minuteOn_102 zk_bipush_20 ?_
      refine lv_dup2_11 hx hb dX8_minuteOn_104 rfl rfl ?_
      refine va_iald hx hb hK hP 1 0 rfl rfl (by unfold vp_in; decide +kernel) dX8_minuteOn_105 ?_
      refine lv_topi (fun x105 ex105 => ?_)
      have bx105 : (0 : Int) ≤ x105.toInt ∧ x105.toInt ≤ 19 := by rw [ex105]; exact ai_rd bf100.2.2 zq155 zq156 (by decide) (by decide) (by decide)
      refine lv_iconst (v := 1) hx hb dX8_minuteOn_106 zk_iconst_1 ?_
      refine lv_iadd hx hb dX8_minuteOn_107 ?_
      refine lv_topi (fun x107 ex107 => ?_)
      have qx107 : x107.toInt = x105.toInt + (1 : Int32).toInt := ai_add ex107 ⟨bx105.1, bx105.2⟩ ⟨zq1, zq0⟩ (by decide) (by decide)
      have bx107 : (1 : Int) ≤ x107.toInt ∧ x107.toInt ≤ 20 := ⟨by rw [qx107]; exact Int.add_le_add bx105.1 zq1, by rw [qx107]; exact Int.add_le_add bx105.2 zq0⟩
      have wx107 : x107.toInt = x105.toInt + 1 := qx107
      refine va_iast hx hb hK hP hD hS 1 0 rfl rfl (by unfold vp_in; decide +kernel) dX8_minuteOn_108 (fun H locs hP hD hS => ?_)
      obtain ⟨f108, ef108⟩ : ∃ g9 : Nat → Int32, g9 = upd f100 (20 : Int32).toNatClampNeg x107 := ⟨_, rfl⟩
      refine zs_1 (y := (a1, .inl (ka1, 23, .inl (f108)))) hP hD (by rw [ef108]) (fun hP hD => ?_)
      have bf108 : ((∀ k : Nat, 0 ≤ k → k ≤ 8 → (0 : Int) ≤ (f108 k).toInt ∧ (f108 k).toInt ≤ 8) ∧ (∀ k : Nat, 19 ≤ k → k ≤ 19 → (0 : Int) ≤ (f108 k).toInt ∧ (f108 k).toInt ≤ 8) ∧ True) := by rw [ef108]; exact ⟨ai_updO bf100.1 _ (Or.inr (ai_ngt_of zq155 (by decide) (by decide))), ai_updO bf100.2.1 _ (Or.inr (ai_ngt_of zq155 (by decide) (by decide))), trivial⟩
      have kf108_20 : f108 20 = x107 := by rw [ef108]; exact ai_k1 (by decide +kernel)
      have kf108_21 : f108 21 = x99 := by rw [ef108]; exact ai_k2 (by decide +kernel) kf100_21
      refine lv_aload_n hx hb dX8_minuteOn_109 rfl (lv_at hl 2 rfl) ?_
      refine lv_bipush (v := 20) hx hb dX8_minuteOn_110 zk_bipush_20 ?_
      refine va_iald hx hb hK hP 1 0 rfl rfl (by unfold vp_in; decide +kernel) dX8_minuteOn_112 ?_
      refine ax_ti x107 ((congrArg f108 (by decide +kernel : (20 : Int32).toNatClampNeg = 20)).trans kf108_20) ?_
      refine lv_aload_n hx hb dX8_minuteOn_113 rfl (lv_at hl 1 rfl) ?_
      refine va_get (D := (dC, dI)) (ci := 8) (v := .ref a0_15) (C := RX8) (T := TX8) (N := 40) hx hb hts zi_X8_minuteOn_8 hown hK hP 0 rfl rfl 15 (by decide) (hts (.fieldLink RX8 20 "WaxTurnsModel" "\x72" "[I") (zm_X8_minuteOn_r1 (List.mem_of_getElem? (i := 1) rfl))) (fun _ h9 => h9) rfl dX8_minuteOn_114 ?_
      refine lv_iconst (v := 1) hx hb dX8_minuteOn_117 zk_iconst_1 ?_
      refine va_iald hx hb hK hP 2 1 rfl rfl (by unfold vp_in; decide +kernel) dX8_minuteOn_118 ?_
      refine lv_topi (fun x118 ex118 => ?_)
      have bx118 : (1 : Int) ≤ x118.toInt ∧ x118.toInt ≤ 20 := by rw [ex118]; exact ai_rd bfa0_15.2.1 zq1 zq0 (by decide) (by decide) (by decide)
      refine lv_icmp_ge (tgt := 123) hx hb dX8_minuteOn_119 (by decide) (fun c119 => ?_) (fun c119 => ?_)
      · have gc119 := ai_le c119
        have u119t_x118 : x118.toInt ≤ (20 : Int) := bx118.2
        have l119t_x107 : (1 : Int) ≤ x107.toInt := bx107.1
        refine lv_aload_n hx hb dX8_minuteOn_123 rfl (lv_at hl 2 rfl) ?_
        refine lv_bipush (v := 20) hx hb dX8_minuteOn_124 zk_bipush_20 ?_
        refine lv_iconst (v := 0) hx hb dX8_minuteOn_126 zk_iconst_0 ?_
        refine va_iast hx hb hK hP hD hS 1 0 rfl rfl (by unfold vp_in; decide +kernel) dX8_minuteOn_127 (fun H locs hP hD hS => ?_)
        obtain ⟨f127, ef127⟩ : ∃ g9 : Nat → Int32, g9 = upd f108 (20 : Int32).toNatClampNeg (0 : Int32) := ⟨_, rfl⟩
        refine zs_1 (y := (a1, .inl (ka1, 23, .inl (f127)))) hP hD (by rw [ef127]) (fun hP hD => ?_)
        have bf127 : ((∀ k : Nat, 0 ≤ k → k ≤ 8 → (0 : Int) ≤ (f127 k).toInt ∧ (f127 k).toInt ≤ 8) ∧ (∀ k : Nat, 19 ≤ k → k ≤ 19 → (0 : Int) ≤ (f127 k).toInt ∧ (f127 k).toInt ≤ 8) ∧ (∀ k : Nat, 20 ≤ k → k ≤ 20 → (0 : Int) ≤ (f127 k).toInt ∧ (f127 k).toInt ≤ 19)) := by rw [ef127]; exact ⟨ai_updO bf108.1 _ (Or.inr (ai_ngt_of zq155 (by decide) (by decide))), ai_updO bf108.2.1 _ (Or.inr (ai_ngt_of zq155 (by decide) (by decide))), ai_new (by decide +kernel) ⟨zq5, (Int.le_trans zq6 zq165)⟩⟩
        have kf127_20 : f127 20 = 0 := by rw [ef127]; exact ai_k1 (by decide +kernel)
        have kf127_21 : f127 21 = x99 := by rw [ef127]; exact ai_k2 (by decide +kernel) kf108_21
        refine lv_aload_n hx hb dX8_minuteOn_128 rfl (lv_at hl 2 rfl) ?_
        refine lv_bipush (v := 19) hx hb dX8_minuteOn_129 zk_bipush_19 ?_
        refine lv_aload_n hx hb dX8_minuteOn_131 rfl (lv_at hl 1 rfl) ?_
        refine lv_iload_n hx hb dX8_minuteOn_132 rfl (lv_at hl 0 rfl) ?_
        refine zc_cutc (wc := [(a0, .inr (8, [a0g_0, a0g_1, a0g_2, a0g_3, a0g_4, a0g_5, a0g_6, a0g_7, a0g_8, a0g_9, a0g_10, a0g_11, a0g_12, a0g_13, a0g_14, Value.ref a0_15, a0g_16, a0g_17, a0g_18, a0g_19, a0g_20, a0g_21, a0g_22, Value.ref a0_23, Value.ref a0_24, Value.int a0_25, Value.int x3, Value.int (-1), Value.int 0, a0g_29, a0g_30, a0g_31, a0g_32, a0g_33, a0g_34, a0g_35, a0g_36, a0g_37, a0g_38, a0g_39])), (a0_15, .inl (ka0_15, 156, .inl (fa0_15)))]) hP hD hS hA [0, 2] (by decide +kernel) rfl (fun hPc hDc hFc hCc => ?_)
        have hKc := hK.sub (tys' := [(ka0_15, .int)]) [1] rfl
        refine va_calli (va_runV (As := [.int x3]) (rest := [.int 19, .ref a1]) ⟨hx, hb, hml, hown, hts⟩ (c_X8_nextOf l dC dI H.size a0 x3 a0g_0 a0g_1 a0g_2 a0g_3 a0g_4 a0g_5 a0g_6 a0g_7 a0g_8 a0g_9 a0g_10 a0g_11 a0g_12 a0g_13 a0g_14 a0g_16 a0g_17 a0g_18 a0g_19 a0g_20 a0g_21 a0g_22 (Value.ref a0_23) (Value.ref a0_24) (Value.int a0_25) (Value.int x3) (Value.int (-1)) (Value.int 0) a0g_29 a0g_30 a0g_31 a0g_32 a0g_33 a0g_34 a0g_35 a0g_36 a0g_37 a0g_38 a0g_39 a0_15 ka0_15 fa0_15 bx3.1 bx3.2 bfa0_15) (cwV 1 hts gX8_minuteOn_X8_nextOf rfl rfl rfl zd_X8_nextOf ⟨Nat.le_of_ble_eq_true rfl, Nat.le_of_ble_eq_true rfl⟩) ⟨ax_blind (fun _ _ _ _ _ => trivial), zr_8 hKc hPc (q0 := 0) rfl, ax_pre hPc hKc hDc (fun _ _ => trivial)⟩ rfl rfl hl.1 rfl (lv_room (Nat.le_of_ble_eq_true rfl)) dX8_minuteOn_133 ⟨Nat.le_of_ble_eq_true rfl, Nat.le_of_ble_eq_true rfl⟩) hS (fun q _ h => hFc q h) hFc (fun r133 u t H locs ht hvm hw hB hz1 hk1 hS1 => zo hB ht hS1 (fun hP1 hK1 hD1 hS => ?_))
        refine zc_backc (w := [(a0, .inr (8, [a0g_0, a0g_1, a0g_2, a0g_3, a0g_4, a0g_5, a0g_6, a0g_7, a0g_8, a0g_9, a0g_10, a0g_11, a0g_12, a0g_13, a0g_14, Value.ref a0_15, a0g_16, a0g_17, a0g_18, a0g_19, a0g_20, a0g_21, a0g_22, Value.ref a0_23, Value.ref a0_24, Value.int a0_25, Value.int x3, Value.int (-1), Value.int 0, a0g_29, a0g_30, a0g_31, a0g_32, a0g_33, a0g_34, a0g_35, a0g_36, a0g_37, a0g_38, a0g_39])), (a1, .inl (ka1, 23, .inl (f127))), (a0_15, .inl (ka0_15, 156, .inl (fa0_15))), (a0_24, .inl (ka0_24, 3, .inl (fa0_24))), (a0_23, .inl (ka0_23, 3, .inl (fa0_23)))]) hP hD hCc hk1 hFc hP1 hD1 [.inr 0, .inl 1, .inr 1, .inl 3, .inl 4] (by decide +kernel) rfl (fun hP hD => ?_)
        have hw : (0 : Int) ≤ r133.toInt ∧ r133.toInt ≤ (8 : Int) := hw
        obtain ⟨h133_0, h133_1⟩ := hw
        refine va_iast hx hb hK hP hD hS 1 0 rfl rfl (by unfold vp_in; decide +kernel) dX8_minuteOn_136 (fun H locs hP hD hS => ?_)
        obtain ⟨f136, ef136⟩ : ∃ g9 : Nat → Int32, g9 = upd f127 (19 : Int32).toNatClampNeg r133 := ⟨_, rfl⟩
        refine zs_1 (y := (a1, .inl (ka1, 23, .inl (f136)))) hP hD (by rw [ef136]) (fun hP hD => ?_)
        have bf136 : ((∀ k : Nat, 0 ≤ k → k ≤ 8 → (0 : Int) ≤ (f136 k).toInt ∧ (f136 k).toInt ≤ 8) ∧ (∀ k : Nat, 19 ≤ k → k ≤ 19 → (0 : Int) ≤ (f136 k).toInt ∧ (f136 k).toInt ≤ 8) ∧ (∀ k : Nat, 20 ≤ k → k ≤ 20 → (0 : Int) ≤ (f136 k).toInt ∧ (f136 k).toInt ≤ 19)) := by rw [ef136]; exact ⟨ai_updO bf127.1 _ (Or.inr (ai_ngt_of zq162 (by decide) (by decide))), ai_updS bf127.2.1 _ ⟨h133_0, h133_1⟩, ai_updO bf127.2.2 _ (Or.inl (ai_nlt_of zq162 zq163 (by decide) (by decide)))⟩
        have kf136_19 : f136 19 = r133 := by rw [ef136]; exact ai_k1 (by decide +kernel)
        have kf136_20 : f136 20 = 0 := by rw [ef136]; exact ai_k2 (by decide +kernel) kf127_20
        have kf136_21 : f136 21 = x99 := by rw [ef136]; exact ai_k2 (by decide +kernel) kf127_21
        exact W.vret hx hb hr (fun t ht hW => ⟨⟨(), rfl, trivial, x3, (-1), 0, f136, bf136, by rw [ht]; exact hP, va_K.moved hW.alike hK, hD⟩, hS.F ht⟩) hS.2.2 dX8_minuteOn_137
      · have gc119 := ai_nle c119
        have u119f_x107 : x107.toInt ≤ (19 : Int) := ai_lthi gc119 bx118.2
        have u119f_x105 : x105.toInt ≤ (18 : Int) := by have h1 := wx107; have h2 := u119f_x107; omega
        have l119f_x118 : (2 : Int) ≤ x118.toInt := ai_ltlo gc119 bx107.1
        exact W.vret hx hb hr (fun t ht hW => ⟨⟨(), rfl, trivial, x3, (-1), 0, f108, ⟨bf108.1, bf108.2.1, ai_one (by rw [kf108_20]; exact ⟨(Int.le_trans zq4 bx107.1), u119f_x107⟩)⟩, by rw [ht]; exact hP, va_K.moved hW.alike hK, hD⟩, hS.F ht⟩) hS.2.2 dX8_minuteOn_122
    · subst hw
      refine lv_if_eq (tgt := 87) hx hb dX8_minuteOn_80 (by decide) (fun _ => ?_) (fun c80 => absurd (by decide +kernel) c80)
      refine lv_aload_n hx hb dX8_minuteOn_87 rfl (lv_at hl 2 rfl) ?_
      refine lv_iload_n hx hb dX8_minuteOn_88 rfl (lv_at hl 0 rfl) ?_
      refine va_iald hx hb hK hP 1 0 rfl rfl (ai_in bx3.1 bx3.2 (by decide) (by decide)) dX8_minuteOn_89 ?_
      refine lv_topi (fun x89 ex89 => ?_)
      have bx89 : (0 : Int) ≤ x89.toInt ∧ x89.toInt ≤ 8 := by rw [ex89]; exact ai_rd bfa1.1 bx3.1 bx3.2 (by decide) (by decide) (by decide)
      refine va_put (D := (dC, dI)) (ci := 8) (v := .int x89) (ty := .int) (C := RX8) (T := TX8) (N := 40) hx hb hts zi_X8_minuteOn_8 tyX8 tyX8_ok nmX8 hown hK hP hD hS 0 rfl rfl 27 (by decide) (hts (.fieldLink RX8 261 "WaxTurnsModel" "livedAt" "I") (zm_X8_minuteOn_r1 (List.mem_of_getElem? (i := 3) rfl))) (fun _ h9 => h9) rfl (tyX8_ok 27 (by decide)) rfl rfl (Nat.le_of_ble_eq_true rfl) dX8_minuteOn_90 (fun H locs hP hD hS => ?_)
      refine zs_0 (y := (a0, .inr (8, [a0g_0, a0g_1, a0g_2, a0g_3, a0g_4, a0g_5, a0g_6, a0g_7, a0g_8, a0g_9, a0g_10, a0g_11, a0g_12, a0g_13, a0g_14, Value.ref a0_15, a0g_16, a0g_17, a0g_18, a0g_19, a0g_20, a0g_21, a0g_22, Value.ref a0_23, Value.ref a0_24, Value.int a0_25, Value.int x3, Value.int x89, Value.int 0, a0g_29, a0g_30, a0g_31, a0g_32, a0g_33, a0g_34, a0g_35, a0g_36, a0g_37, a0g_38, a0g_39]))) hP hD rfl (fun hP hD => ?_)
      refine lv_aload_n hx hb dX8_minuteOn_93 rfl (lv_at hl 2 rfl) ?_
      refine lv_bipush (v := 21) hx hb dX8_minuteOn_94 zk_bipush_21 ?_
      refine lv_dup2_11 hx hb dX8_minuteOn_96 rfl rfl ?_
      refine va_iald hx hb hK hP 1 0 rfl rfl (by unfold vp_in; decide +kernel) dX8_minuteOn_97 ?_
      refine lv_topi (fun x97 ex97 => ?_)
      refine lv_iconst (v := 1) hx hb dX8_minuteOn_98 zk_iconst_1 ?_
      refine lv_iadd hx hb dX8_minuteOn_99 ?_
      refine lv_topi (fun x99 ex99 => ?_)
      refine va_iast hx hb hK hP hD hS 1 0 rfl rfl (by unfold vp_in; decide +kernel) dX8_minuteOn_100 (fun H locs hP hD hS => ?_)
      obtain ⟨f100, ef100⟩ : ∃ g9 : Nat → Int32, g9 = upd fa1 (21 : Int32).toNatClampNeg x99 := ⟨_, rfl⟩
      refine zs_1 (y := (a1, .inl (ka1, 23, .inl (f100)))) hP hD (by rw [ef100]) (fun hP hD => ?_)
      have bf100 : ((∀ k : Nat, 0 ≤ k → k ≤ 8 → (0 : Int) ≤ (f100 k).toInt ∧ (f100 k).toInt ≤ 8) ∧ (∀ k : Nat, 19 ≤ k → k ≤ 19 → (0 : Int) ≤ (f100 k).toInt ∧ (f100 k).toInt ≤ 8) ∧ (∀ k : Nat, 20 ≤ k → k ≤ 20 → (0 : Int) ≤ (f100 k).toInt ∧ (f100 k).toInt ≤ 19)) := by rw [ef100]; exact ⟨ai_updO bfa1.1 _ (Or.inr (ai_ngt_of zq164 (by decide) (by decide))), ai_updO bfa1.2.1 _ (Or.inr (ai_ngt_of zq164 (by decide) (by decide))), ai_updO bfa1.2.2 _ (Or.inr (ai_ngt_of zq164 (by decide) (by decide)))⟩
      have kf100_21 : f100 21 = x99 := by rw [ef100]; exact ai_k1 (by decide +kernel)
      refine lv_aload_n hx hb dX8_minuteOn_101 rfl (lv_at hl 2 rfl) ?_
      refine lv_bipush (v := 20) hx hb dX8_minuteOn_102 zk_bipush_20 ?_
      refine lv_dup2_11 hx hb dX8_minuteOn_104 rfl rfl ?_
      refine va_iald hx hb hK hP 1 0 rfl rfl (by unfold vp_in; decide +kernel) dX8_minuteOn_105 ?_
      refine lv_topi (fun x105 ex105 => ?_)
      have bx105 : (0 : Int) ≤ x105.toInt ∧ x105.toInt ≤ 19 := by rw [ex105]; exact ai_rd bf100.2.2 zq155 zq156 (by decide) (by decide) (by decide)
      refine lv_iconst (v := 1) hx hb dX8_minuteOn_106 zk_iconst_1 ?_
      refine lv_iadd hx hb dX8_minuteOn_107 ?_
      refine lv_topi (fun x107 ex107 => ?_)
      have qx107 : x107.toInt = x105.toInt + (1 : Int32).toInt := ai_add ex107 ⟨bx105.1, bx105.2⟩ ⟨zq1, zq0⟩ (by decide) (by decide)
      have bx107 : (1 : Int) ≤ x107.toInt ∧ x107.toInt ≤ 20 := ⟨by rw [qx107]; exact Int.add_le_add bx105.1 zq1, by rw [qx107]; exact Int.add_le_add bx105.2 zq0⟩
      have wx107 : x107.toInt = x105.toInt + 1 := qx107
      refine va_iast hx hb hK hP hD hS 1 0 rfl rfl (by unfold vp_in; decide +kernel) dX8_minuteOn_108 (fun H locs hP hD hS => ?_)
      obtain ⟨f108, ef108⟩ : ∃ g9 : Nat → Int32, g9 = upd f100 (20 : Int32).toNatClampNeg x107 := ⟨_, rfl⟩
      refine zs_1 (y := (a1, .inl (ka1, 23, .inl (f108)))) hP hD (by rw [ef108]) (fun hP hD => ?_)
      have bf108 : ((∀ k : Nat, 0 ≤ k → k ≤ 8 → (0 : Int) ≤ (f108 k).toInt ∧ (f108 k).toInt ≤ 8) ∧ (∀ k : Nat, 19 ≤ k → k ≤ 19 → (0 : Int) ≤ (f108 k).toInt ∧ (f108 k).toInt ≤ 8) ∧ True) := by rw [ef108]; exact ⟨ai_updO bf100.1 _ (Or.inr (ai_ngt_of zq155 (by decide) (by decide))), ai_updO bf100.2.1 _ (Or.inr (ai_ngt_of zq155 (by decide) (by decide))), trivial⟩
      have kf108_20 : f108 20 = x107 := by rw [ef108]; exact ai_k1 (by decide +kernel)
      have kf108_21 : f108 21 = x99 := by rw [ef108]; exact ai_k2 (by decide +kernel) kf100_21
      refine lv_aload_n hx hb dX8_minuteOn_109 rfl (lv_at hl 2 rfl) ?_
      refine lv_bipush (v := 20) hx hb dX8_minuteOn_110 zk_bipush_20 ?_
      refine va_iald hx hb hK hP 1 0 rfl rfl (by unfold vp_in; decide +kernel) dX8_minuteOn_112 ?_
      refine ax_ti x107 ((congrArg f108 (by decide +kernel : (20 : Int32).toNatClampNeg = 20)).trans kf108_20) ?_
      refine lv_aload_n hx hb dX8_minuteOn_113 rfl (lv_at hl 1 rfl) ?_
      refine va_get (D := (dC, dI)) (ci := 8) (v := .ref a0_15) (C := RX8) (T := TX8) (N := 40) hx hb hts zi_X8_minuteOn_8 hown hK hP 0 rfl rfl 15 (by decide) (hts (.fieldLink RX8 20 "WaxTurnsModel" "\x72" "[I") (zm_X8_minuteOn_r1 (List.mem_of_getElem? (i := 1) rfl))) (fun _ h9 => h9) rfl dX8_minuteOn_114 ?_
      refine lv_iconst (v := 1) hx hb dX8_minuteOn_117 zk_iconst_1 ?_
      refine va_iald hx hb hK hP 2 1 rfl rfl (by unfold vp_in; decide +kernel) dX8_minuteOn_118 ?_
      refine lv_topi (fun x118 ex118 => ?_)
      have bx118 : (1 : Int) ≤ x118.toInt ∧ x118.toInt ≤ 20 := by rw [ex118]; exact ai_rd bfa0_15.2.1 zq1 zq0 (by decide) (by decide) (by decide)
      refine lv_icmp_ge (tgt := 123) hx hb dX8_minuteOn_119 (by decide) (fun c119 => ?_) (fun c119 => ?_)
      · have gc119 := ai_le c119
        have u119t_x118 : x118.toInt ≤ (20 : Int) := bx118.2
        have l119t_x107 : (1 : Int) ≤ x107.toInt := bx107.1
        refine lv_aload_n hx hb dX8_minuteOn_123 rfl (lv_at hl 2 rfl) ?_
        refine lv_bipush (v := 20) hx hb dX8_minuteOn_124 zk_bipush_20 ?_
        refine lv_iconst (v := 0) hx hb dX8_minuteOn_126 zk_iconst_0 ?_
        refine va_iast hx hb hK hP hD hS 1 0 rfl rfl (by unfold vp_in; decide +kernel) dX8_minuteOn_127 (fun H locs hP hD hS => ?_)
        obtain ⟨f127, ef127⟩ : ∃ g9 : Nat → Int32, g9 = upd f108 (20 : Int32).toNatClampNeg (0 : Int32) := ⟨_, rfl⟩
        refine zs_1 (y := (a1, .inl (ka1, 23, .inl (f127)))) hP hD (by rw [ef127]) (fun hP hD => ?_)
        have bf127 : ((∀ k : Nat, 0 ≤ k → k ≤ 8 → (0 : Int) ≤ (f127 k).toInt ∧ (f127 k).toInt ≤ 8) ∧ (∀ k : Nat, 19 ≤ k → k ≤ 19 → (0 : Int) ≤ (f127 k).toInt ∧ (f127 k).toInt ≤ 8) ∧ (∀ k : Nat, 20 ≤ k → k ≤ 20 → (0 : Int) ≤ (f127 k).toInt ∧ (f127 k).toInt ≤ 19)) := by rw [ef127]; exact ⟨ai_updO bf108.1 _ (Or.inr (ai_ngt_of zq155 (by decide) (by decide))), ai_updO bf108.2.1 _ (Or.inr (ai_ngt_of zq155 (by decide) (by decide))), ai_new (by decide +kernel) ⟨zq5, (Int.le_trans zq6 zq165)⟩⟩
        have kf127_20 : f127 20 = 0 := by rw [ef127]; exact ai_k1 (by decide +kernel)
        have kf127_21 : f127 21 = x99 := by rw [ef127]; exact ai_k2 (by decide +kernel) kf108_21
        refine lv_aload_n hx hb dX8_minuteOn_128 rfl (lv_at hl 2 rfl) ?_
        refine lv_bipush (v := 19) hx hb dX8_minuteOn_129 zk_bipush_19 ?_
        refine lv_aload_n hx hb dX8_minuteOn_131 rfl (lv_at hl 1 rfl) ?_
        refine lv_iload_n hx hb dX8_minuteOn_132 rfl (lv_at hl 0 rfl) ?_
        refine zc_cutc (wc := [(a0, .inr (8, [a0g_0, a0g_1, a0g_2, a0g_3, a0g_4, a0g_5, a0g_6, a0g_7, a0g_8, a0g_9, a0g_10, a0g_11, a0g_12, a0g_13, a0g_14, Value.ref a0_15, a0g_16, a0g_17, a0g_18, a0g_19, a0g_20, a0g_21, a0g_22, Value.ref a0_23, Value.ref a0_24, Value.int a0_25, Value.int x3, Value.int x89, Value.int 0, a0g_29, a0g_30, a0g_31, a0g_32, a0g_33, a0g_34, a0g_35, a0g_36, a0g_37, a0g_38, a0g_39])), (a0_15, .inl (ka0_15, 156, .inl (fa0_15)))]) hP hD hS hA [0, 2] (by decide +kernel) rfl (fun hPc hDc hFc hCc => ?_)
        have hKc := hK.sub (tys' := [(ka0_15, .int)]) [1] rfl
        refine va_calli (va_runV (As := [.int x3]) (rest := [.int 19, .ref a1]) ⟨hx, hb, hml, hown, hts⟩ (c_X8_nextOf l dC dI H.size a0 x3 a0g_0 a0g_1 a0g_2 a0g_3 a0g_4 a0g_5 a0g_6 a0g_7 a0g_8 a0g_9 a0g_10 a0g_11 a0g_12 a0g_13 a0g_14 a0g_16 a0g_17 a0g_18 a0g_19 a0g_20 a0g_21 a0g_22 (Value.ref a0_23) (Value.ref a0_24) (Value.int a0_25) (Value.int x3) (Value.int x89) (Value.int 0) a0g_29 a0g_30 a0g_31 a0g_32 a0g_33 a0g_34 a0g_35 a0g_36 a0g_37 a0g_38 a0g_39 a0_15 ka0_15 fa0_15 bx3.1 bx3.2 bfa0_15) (cwV 1 hts gX8_minuteOn_X8_nextOf rfl rfl rfl zd_X8_nextOf ⟨Nat.le_of_ble_eq_true rfl, Nat.le_of_ble_eq_true rfl⟩) ⟨ax_blind (fun _ _ _ _ _ => trivial), zr_8 hKc hPc (q0 := 0) rfl, ax_pre hPc hKc hDc (fun _ _ => trivial)⟩ rfl rfl hl.1 rfl (lv_room (Nat.le_of_ble_eq_true rfl)) dX8_minuteOn_133 ⟨Nat.le_of_ble_eq_true rfl, Nat.le_of_ble_eq_true rfl⟩) hS (fun q _ h => hFc q h) hFc (fun r133 u t H locs ht hvm hw hB hz1 hk1 hS1 => zo hB ht hS1 (fun hP1 hK1 hD1 hS => ?_))
        refine zc_backc (w := [(a0, .inr (8, [a0g_0, a0g_1, a0g_2, a0g_3, a0g_4, a0g_5, a0g_6, a0g_7, a0g_8, a0g_9, a0g_10, a0g_11, a0g_12, a0g_13, a0g_14, Value.ref a0_15, a0g_16, a0g_17, a0g_18, a0g_19, a0g_20, a0g_21, a0g_22, Value.ref a0_23, Value.ref a0_24, Value.int a0_25, Value.int x3, Value.int x89, Value.int 0, a0g_29, a0g_30, a0g_31, a0g_32, a0g_33, a0g_34, a0g_35, a0g_36, a0g_37, a0g_38, a0g_39])), (a1, .inl (ka1, 23, .inl (f127))), (a0_15, .inl (ka0_15, 156, .inl (fa0_15))), (a0_24, .inl (ka0_24, 3, .inl (fa0_24))), (a0_23, .inl (ka0_23, 3, .inl (fa0_23)))]) hP hD hCc hk1 hFc hP1 hD1 [.inr 0, .inl 1, .inr 1, .inl 3, .inl 4] (by decide +kernel) rfl (fun hP hD => ?_)
        have hw : (0 : Int) ≤ r133.toInt ∧ r133.toInt ≤ (8 : Int) := hw
        obtain ⟨h133_0, h133_1⟩ := hw
        refine va_iast hx hb hK hP hD hS 1 0 rfl rfl (by unfold vp_in; decide +kernel) dX8_minuteOn_136 (fun H locs hP hD hS => ?_)
        obtain ⟨f136, ef136⟩ : ∃ g9 : Nat → Int32, g9 = upd f127 (19 : Int32).toNatClampNeg r133 := ⟨_, rfl⟩
        refine zs_1 (y := (a1, .inl (ka1, 23, .inl (f136)))) hP hD (by rw [ef136]) (fun hP hD => ?_)
        have bf136 : ((∀ k : Nat, 0 ≤ k → k ≤ 8 → (0 : Int) ≤ (f136 k).toInt ∧ (f136 k).toInt ≤ 8) ∧ (∀ k : Nat, 19 ≤ k → k ≤ 19 → (0 : Int) ≤ (f136 k).toInt ∧ (f136 k).toInt ≤ 8) ∧ (∀ k : Nat, 20 ≤ k → k ≤ 20 → (0 : Int) ≤ (f136 k).toInt ∧ (f136 k).toInt ≤ 19)) := by rw [ef136]; exact ⟨ai_updO bf127.1 _ (Or.inr (ai_ngt_of zq162 (by decide) (by decide))), ai_updS bf127.2.1 _ ⟨h133_0, h133_1⟩, ai_updO bf127.2.2 _ (Or.inl (ai_nlt_of zq162 zq163 (by decide) (by decide)))⟩
        have kf136_19 : f136 19 = r133 := by rw [ef136]; exact ai_k1 (by decide +kernel)
        have kf136_20 : f136 20 = 0 := by rw [ef136]; exact ai_k2 (by decide +kernel) kf127_20
        have kf136_21 : f136 21 = x99 := by rw [ef136]; exact ai_k2 (by decide +kernel) kf127_21
        exact W.vret hx hb hr (fun t ht hW => ⟨⟨(), rfl, trivial, x3, x89, 0, f136, bf136, by rw [ht]; exact hP, va_K.moved hW.alike hK, hD⟩, hS.F ht⟩) hS.2.2 dX8_minuteOn_137
      · have gc119 := ai_nle c119
        have u119f_x107 : x107.toInt ≤ (19 : Int) := ai_lthi gc119 bx118.2
        have u119f_x105 : x105.toInt ≤ (18 : Int) := by have h1 := wx107; have h2 := u119f_x107; omega
        have l119f_x118 : (2 : Int) ≤ x118.toInt := ai_ltlo gc119 bx107.1
        exact W.vret hx hb hr (fun t ht hW => ⟨⟨(), rfl, trivial, x3, x89, 0, f108, ⟨bf108.1, bf108.2.1, ai_one (by rw [kf108_20]; exact ⟨(Int.le_trans zq4 bx107.1), u119f_x107⟩)⟩, by rw [ht]; exact hP, va_K.moved hW.alike hK, hD⟩, hS.F ht⟩) hS.2.2 dX8_minuteOn_122
  · subst hw
    refine lv_if_ne (tgt := 66) hx hb dX8_minuteOn_18 (by decide) (fun c18 => absurd (by decide +kernel) c18) (fun _ => ?_)
    refine lv_aload_n hx hb dX8_minuteOn_21 rfl (lv_at hl 1 rfl) ?_
    refine va_get (D := (dC, dI)) (ci := 8) (v := .ref a0_15) (C := RX8) (T := TX8) (N := 40) hx hb hts zi_X8_minuteOn_8 hown hK hP 0 rfl rfl 15 (by decide) (hts (.fieldLink RX8 20 "WaxTurnsModel" "\x72" "[I") (zm_X8_minuteOn_r1 (List.mem_of_getElem? (i := 1) rfl))) (fun _ h9 => h9) rfl dX8_minuteOn_22 ?_
    refine lv_bipush (v := 12) hx hb dX8_minuteOn_25 zk_bipush_12 ?_
    refine lv_iconst (v := 2) hx hb dX8_minuteOn_27 zk_iconst_2 ?_
    refine lv_iload_n hx hb dX8_minuteOn_28 rfl (lv_at hl 0 rfl) ?_
    refine lv_imul hx hb dX8_minuteOn_29 ?_
    refine lv_topi (fun x29 ex29 => ?_)
    have qx29 : x29.toInt = (2 : Int32).toInt * x3.toInt ∧ (0 : Int) ≤ x29.toInt ∧ x29.toInt ≤ 16 := ai_mul ex29 ⟨zq12, zq13⟩ ⟨bx3.1, bx3.2⟩ (by decide) (by decide) zq157
    have wx29 : x29.toInt = 2 * x3.toInt := qx29.1
    refine lv_iadd hx hb dX8_minuteOn_30 ?_
    refine lv_topi (fun x30 ex30 => ?_)
    have qx30 : x30.toInt = (12 : Int32).toInt + x29.toInt := ai_add ex30 ⟨zq121, zq122⟩ ⟨qx29.2.1, qx29.2.2⟩ (by decide) (by decide)
    have bx30 : (12 : Int) ≤ x30.toInt ∧ x30.toInt ≤ 28 := ⟨by rw [qx30]; exact Int.add_le_add zq121 qx29.2.1, by rw [qx30]; exact Int.add_le_add zq122 qx29.2.2⟩
    have wx30 : x30.toInt = 12 + x29.toInt := qx30
    refine va_iald hx hb hK hP 2 1 rfl rfl (ai_in bx30.1 bx30.2 (by decide) (by decide)) dX8_minuteOn_31 ?_
    refine lv_topi (fun x31 ex31 => ?_)
    have bx31 : (0 : Int) ≤ x31.toInt ∧ x31.toInt ≤ 20 := by rw [ex31]; exact ai_rd bfa0_15.2.2.2.2.2.2.2.2.1 bx30.1 bx30.2 (by decide) (by decide) (by decide)
    refine lv_iconst (v := 1) hx hb dX8_minuteOn_32 zk_iconst_1 ?_
    refine lv_icmp_ne (tgt := 45) hx hb dX8_minuteOn_33 (by decide) (fun c33 => ?_) (fun c33 => ?_)
    · have gc33 := ai_ne c33
      refine lv_aload_n hx hb dX8_minuteOn_45 rfl (lv_at hl 1 rfl) ?_
      refine va_get (D := (dC, dI)) (ci := 8) (v := .ref a0_15) (C := RX8) (T := TX8) (N := 40) hx hb hts zi_X8_minuteOn_8 hown hK hP 0 rfl rfl 15 (by decide) (hts (.fieldLink RX8 20 "WaxTurnsModel" "\x72" "[I") (zm_X8_minuteOn_r1 (List.mem_of_getElem? (i := 1) rfl))) (fun _ h9 => h9) rfl dX8_minuteOn_46 ?_
      refine lv_bipush (v := 12) hx hb dX8_minuteOn_49 zk_bipush_12 ?_
      refine lv_iconst (v := 2) hx hb dX8_minuteOn_51 zk_iconst_2 ?_
      refine lv_iload_n hx hb dX8_minuteOn_52 rfl (lv_at hl 0 rfl) ?_
      refine lv_imul hx hb dX8_minuteOn_53 ?_
      refine ax_ti x29 ex29.symm ?_
      refine lv_iadd hx hb dX8_minuteOn_54 ?_
      refine ax_ti x30 ex30.symm ?_
      refine va_iald hx hb hK hP 2 1 rfl rfl (ai_in bx30.1 bx30.2 (by decide) (by decide)) dX8_minuteOn_55 ?_
      refine ax_ti x31 ex31.symm ?_
      refine lv_iconst (v := 2) hx hb dX8_minuteOn_56 zk_iconst_2 ?_
      refine lv_icmp_ne (tgt := 66) hx hb dX8_minuteOn_57 (by decide) (fun c57 => ?_) (fun c57 => ?_)
      · have gc57 := ai_ne c57
        refine lv_aload_n hx hb dX8_minuteOn_66 rfl (lv_at hl 1 rfl) ?_
        refine lv_iload_n hx hb dX8_minuteOn_67 rfl (lv_at hl 0 rfl) ?_
        refine va_put (D := (dC, dI)) (ci := 8) (v := .int x3) (ty := .int) (C := RX8) (T := TX8) (N := 40) hx hb hts zi_X8_minuteOn_8 tyX8 tyX8_ok nmX8 hown hK hP hD hS 0 rfl rfl 26 (by decide) (hts (.fieldLink RX8 258 "WaxTurnsModel" "lived" "I") (zm_X8_minuteOn_r1 (List.mem_of_getElem? (i := 2) rfl))) (fun _ h9 => h9) rfl (tyX8_ok 26 (by decide)) rfl rfl (Nat.le_of_ble_eq_true rfl) dX8_minuteOn_68 (fun H locs hP hD hS => ?_)
        refine zs_0 (y := (a0, .inr (8, [a0g_0, a0g_1, a0g_2, a0g_3, a0g_4, a0g_5, a0g_6, a0g_7, a0g_8, a0g_9, a0g_10, a0g_11, a0g_12, a0g_13, a0g_14, Value.ref a0_15, a0g_16, a0g_17, a0g_18, a0g_19, a0g_20, a0g_21, a0g_22, Value.ref a0_23, Value.ref a0_24, Value.int a0_25, Value.int x3, Value.int a0_27, Value.int 0, a0g_29, a0g_30, a0g_31, a0g_32, a0g_33, a0g_34, a0g_35, a0g_36, a0g_37, a0g_38, a0g_39]))) hP hD rfl (fun hP hD => ?_)
        refine lv_aload_n hx hb dX8_minuteOn_71 rfl (lv_at hl 1 rfl) ?_
        refine lv_aload_n hx hb dX8_minuteOn_72 rfl (lv_at hl 2 rfl) ?_
        refine lv_bipush (v := 18) hx hb dX8_minuteOn_73 zk_bipush_18 ?_
        refine va_iald hx hb hK hP 1 0 rfl rfl (by unfold vp_in; decide +kernel) dX8_minuteOn_75 ?_
        refine ax_ti x13 ex13.symm ?_
        refine lv_iload_n hx hb dX8_minuteOn_76 rfl (lv_at hl 0 rfl) ?_
        refine va_calli (va_runS (As := [.int x13, .int x3]) (rest := [.ref a0]) ⟨hx, hb, hml, hown, hts⟩ (c_X8_hasBit l dC dI H.size x13 x3 ) (va_cwS 2 hts gX8_minuteOn_X8_hasBit rfl rfl rfl zd_X8_hasBit.2 ⟨Nat.le_of_ble_eq_true rfl, Nat.le_of_ble_eq_true rfl⟩) ⟨ax_blind (fun _ _ _ _ _ => trivial), ax_pre (zp_P0 hP) (zp_K hK) (zp_D0 hD) (fun _ _ => trivial)⟩ rfl rfl hl.1 rfl (lv_room (Nat.le_of_ble_eq_true rfl)) dX8_minuteOn_77 ⟨Nat.le_of_ble_eq_true rfl, Nat.le_of_ble_eq_true rfl⟩) hS (fun q _ h => zp_F0 hD hS hA q h) (zp_F0 hD hS hA) (fun r77 u t H locs ht hvm hw hB hz1 hk1 hS1 => zo0 hB ht hP hD hk1 (zp_F0 hD hS hA) hS1 (fun hP hK1 hD hS => ?_))
        rcases hw with hw | hw
        · subst hw
          refine lv_if_eq (tgt := 87) hx hb dX8_minuteOn_80 (by decide) (fun c80 => absurd c80 (by decide +kernel)) (fun _ => ?_)
          refine lv_iconst (v := (-1)) hx hb dX8_minuteOn_83 zk_iconst_n1 ?_
          refine lv_goto (tgt := 90) hx hb dX8_minuteOn_84 (by decide) ?_
          refine va_put (D := (dC, dI)) (ci := 8) (v := .int (-1)) (ty := .int) (C := RX8) (T := TX8) (N := 40) hx hb hts zi_X8_minuteOn_8 tyX8 tyX8_ok nmX8 hown hK hP hD hS 0 rfl rfl 27 (by decide) (hts (.fieldLink RX8 261 "WaxTurnsModel" "livedAt" "I") (zm_X8_minuteOn_r1 (List.mem_of_getElem? (i := 3) rfl))) (fun _ h9 => h9) rfl (tyX8_ok 27 (by decide)) rfl rfl (Nat.le_of_ble_eq_true rfl) dX8_minuteOn_90 (fun H locs hP hD hS => ?_)
          refine zs_0 (y := (a0, .inr (8, [a0g_0, a0g_1, a0g_2, a0g_3, a0g_4, a0g_5, a0g_6, a0g_7, a0g_8, a0g_9, a0g_10, a0g_11, a0g_12, a0g_13, a0g_14, Value.ref a0_15, a0g_16, a0g_17, a0g_18, a0g_19, a0g_20, a0g_21, a0g_22, Value.ref a0_23, Value.ref a0_24, Value.int a0_25, Value.int x3, Value.int (-1), Value.int 0, a0g_29, a0g_30, a0g_31, a0g_32, a0g_33, a0g_34, a0g_35, a0g_36, a0g_37, a0g_38, a0g_39]))) hP hD rfl (fun hP hD => ?_)
          refine lv_aload_n hx hb dX8_minuteOn_93 rfl (lv_at hl 2 rfl) ?_
          refine lv_bipush (v := 21) hx hb dX8_minuteOn_94 zk_bipush_21 ?_
          refine lv_dup2_11 hx hb dX8_minuteOn_96 rfl rfl ?_
          refine va_iald hx hb hK hP 1 0 rfl rfl (by unfold vp_in; decide +kernel) dX8_minuteOn_97 ?_
          refine lv_topi (fun x97 ex97 => ?_)
          refine lv_iconst (v := 1) hx hb dX8_minuteOn_98 zk_iconst_1 ?_
          refine lv_iadd hx hb dX8_minuteOn_99 ?_
          refine lv_topi (fun x99 ex99 => ?_)
          refine va_iast hx hb hK hP hD hS 1 0 rfl rfl (by unfold vp_in; decide +kernel) dX8_minuteOn_100 (fun H locs hP hD hS => ?_)
          obtain ⟨f100, ef100⟩ : ∃ g9 : Nat → Int32, g9 = upd fa1 (21 : Int32).toNatClampNeg x99 := ⟨_, rfl⟩
          refine zs_1 (y := (a1, .inl (ka1, 23, .inl (f100)))) hP hD (by rw [ef100]) (fun hP hD => ?_)
          have bf100 : ((∀ k : Nat, 0 ≤ k → k ≤ 8 → (0 : Int) ≤ (f100 k).toInt ∧ (f100 k).toInt ≤ 8) ∧ (∀ k : Nat, 19 ≤ k → k ≤ 19 → (0 : Int) ≤ (f100 k).toInt ∧ (f100 k).toInt ≤ 8) ∧ (∀ k : Nat, 20 ≤ k → k ≤ 20 → (0 : Int) ≤ (f100 k).toInt ∧ (f100 k).toInt ≤ 19)) := by rw [ef100]; exact ⟨ai_updO bfa1.1 _ (Or.inr (ai_ngt_of zq164 (by decide) (by decide))), ai_updO bfa1.2.1 _ (Or.inr (ai_ngt_of zq164 (by decide) (by decide))), ai_updO bfa1.2.2 _ (Or.inr (ai_ngt_of zq164 (by decide) (by decide)))⟩
          have kf100_21 : f100 21 = x99 := by rw [ef100]; exact ai_k1 (by decide +kernel)
          refine lv_aload_n hx hb dX8_minuteOn_101 rfl (lv_at hl 2 rfl) ?_
          refine lv_bipush (v := 20) hx hb dX8_minuteOn_102 zk_bipush_20 ?_
          refine lv_dup2_11 hx hb dX8_minuteOn_104 rfl rfl ?_
          refine va_iald hx hb hK hP 1 0 rfl rfl (by unfold vp_in; decide +kernel) dX8_minuteOn_105 ?_
          refine lv_topi (fun x105 ex105 => ?_)
          have bx105 : (0 : Int) ≤ x105.toInt ∧ x105.toInt ≤ 19 := by rw [ex105]; exact ai_rd bf100.2.2 zq155 zq156 (by decide) (by decide) (by decide)
          refine lv_iconst (v := 1) hx hb dX8_minuteOn_106 zk_iconst_1 ?_
          refine lv_iadd hx hb dX8_minuteOn_107 ?_
          refine lv_topi (fun x107 ex107 => ?_)
          have qx107 : x107.toInt = x105.toInt + (1 : Int32).toInt := ai_add ex107 ⟨bx105.1, bx105.2⟩ ⟨zq1, zq0⟩ (by decide) (by decide)
          have bx107 : (1 : Int) ≤ x107.toInt ∧ x107.toInt ≤ 20 := ⟨by rw [qx107]; exact Int.add_le_add bx105.1 zq1, by rw [qx107]; exact Int.add_le_add bx105.2 zq0⟩
          have wx107 : x107.toInt = x105.toInt + 1 := qx107
          refine va_iast hx hb hK hP hD hS 1 0 rfl rfl (by unfold vp_in; decide +kernel) dX8_minuteOn_108 (fun H locs hP hD hS => ?_)
          obtain ⟨f108, ef108⟩ : ∃ g9 : Nat → Int32, g9 = upd f100 (20 : Int32).toNatClampNeg x107 := ⟨_, rfl⟩
          refine zs_1 (y := (a1, .inl (ka1, 23, .inl (f108)))) hP hD (by rw [ef108]) (fun hP hD => ?_)
          have bf108 : ((∀ k : Nat, 0 ≤ k → k ≤ 8 → (0 : Int) ≤ (f108 k).toInt ∧ (f108 k).toInt ≤ 8) ∧ (∀ k : Nat, 19 ≤ k → k ≤ 19 → (0 : Int) ≤ (f108 k).toInt ∧ (f108 k).toInt ≤ 8) ∧ True) := by rw [ef108]; exact ⟨ai_updO bf100.1 _ (Or.inr (ai_ngt_of zq155 (by decide) (by decide))), ai_updO bf100.2.1 _ (Or.inr (ai_ngt_of zq155 (by decide) (by decide))), trivial⟩
          have kf108_20 : f108 20 = x107 := by rw [ef108]; exact ai_k1 (by decide +kernel)
          have kf108_21 : f108 21 = x99 := by rw [ef108]; exact ai_k2 (by decide +kernel) kf100_21
          refine lv_aload_n hx hb dX8_minuteOn_109 rfl (lv_at hl 2 rfl) ?_
          refine lv_bipush (v := 20) hx hb dX8_minuteOn_110 zk_bipush_20 ?_
          refine va_iald hx hb hK hP 1 0 rfl rfl (by unfold vp_in; decide +kernel) dX8_minuteOn_112 ?_
          refine ax_ti x107 ((congrArg f108 (by decide +kernel : (20 : Int32).toNatClampNeg = 20)).trans kf108_20) ?_
          refine lv_aload_n hx hb dX8_minuteOn_113 rfl (lv_at hl 1 rfl) ?_
          refine va_get (D := (dC, dI)) (ci := 8) (v := .ref a0_15) (C := RX8) (T := TX8) (N := 40) hx hb hts zi_X8_minuteOn_8 hown hK hP 0 rfl rfl 15 (by decide) (hts (.fieldLink RX8 20 "WaxTurnsModel" "\x72" "[I") (zm_X8_minuteOn_r1 (List.mem_of_getElem? (i := 1) rfl))) (fun _ h9 => h9) rfl dX8_minuteOn_114 ?_
          refine lv_iconst (v := 1) hx hb dX8_minuteOn_117 zk_iconst_1 ?_
          refine va_iald hx hb hK hP 2 1 rfl rfl (by unfold vp_in; decide +kernel) dX8_minuteOn_118 ?_
          refine lv_topi (fun x118 ex118 => ?_)
          have bx118 : (1 : Int) ≤ x118.toInt ∧ x118.toInt ≤ 20 := by rw [ex118]; exact ai_rd bfa0_15.2.1 zq1 zq0 (by decide) (by decide) (by decide)
          refine lv_icmp_ge (tgt := 123) hx hb dX8_minuteOn_119 (by decide) (fun c119 => ?_) (fun c119 => ?_)
          · have gc119 := ai_le c119
            have u119t_x118 : x118.toInt ≤ (20 : Int) := bx118.2
            have l119t_x107 : (1 : Int) ≤ x107.toInt := bx107.1
            refine lv_aload_n hx hb dX8_minuteOn_123 rfl (lv_at hl 2 rfl) ?_
            refine lv_bipush (v := 20) hx hb dX8_minuteOn_124 zk_bipush_20 ?_
            refine lv_iconst (v := 0) hx hb dX8_minuteOn_126 zk_iconst_0 ?_
            refine va_iast hx hb hK hP hD hS 1 0 rfl rfl (by unfold vp_in; decide +kernel) dX8_minuteOn_127 (fun H locs hP hD hS => ?_)
            obtain ⟨f127, ef127⟩ : ∃ g9 : Nat → Int32, g9 = upd f108 (20 : Int32).toNatClampNeg (0 : Int32) := ⟨_, rfl⟩
            refine zs_1 (y := (a1, .inl (ka1, 23, .inl (f127)))) hP hD (by rw [ef127]) (fun hP hD => ?_)
            have bf127 : ((∀ k : Nat, 0 ≤ k → k ≤ 8 → (0 : Int) ≤ (f127 k).toInt ∧ (f127 k).toInt ≤ 8) ∧ (∀ k : Nat, 19 ≤ k → k ≤ 19 → (0 : Int) ≤ (f127 k).toInt ∧ (f127 k).toInt ≤ 8) ∧ (∀ k : Nat, 20 ≤ k → k ≤ 20 → (0 : Int) ≤ (f127 k).toInt ∧ (f127 k).toInt ≤ 19)) := by rw [ef127]; exact ⟨ai_updO bf108.1 _ (Or.inr (ai_ngt_of zq155 (by decide) (by decide))), ai_updO bf108.2.1 _ (Or.inr (ai_ngt_of zq155 (by decide) (by decide))), ai_new (by decide +kernel) ⟨zq5, (Int.le_trans zq6 zq165)⟩⟩
            have kf127_20 : f127 20 = 0 := by rw [ef127]; exact ai_k1 (by decide +kernel)
            have kf127_21 : f127 21 = x99 := by rw [ef127]; exact ai_k2 (by decide +kernel) kf108_21
            refine lv_aload_n hx hb dX8_minuteOn_128 rfl (lv_at hl 2 rfl) ?_
            refine lv_bipush (v := 19) hx hb dX8_minuteOn_129 zk_bipush_19 ?_
            refine lv_aload_n hx hb dX8_minuteOn_131 rfl (lv_at hl 1 rfl) ?_
            refine lv_iload_n hx hb dX8_minuteOn_132 rfl (lv_at hl 0 rfl) ?_
            refine zc_cutc (wc := [(a0, .inr (8, [a0g_0, a0g_1, a0g_2, a0g_3, a0g_4, a0g_5, a0g_6, a0g_7, a0g_8, a0g_9, a0g_10, a0g_11, a0g_12, a0g_13, a0g_14, Value.ref a0_15, a0g_16, a0g_17, a0g_18, a0g_19, a0g_20, a0g_21, a0g_22, Value.ref a0_23, Value.ref a0_24, Value.int a0_25, Value.int x3, Value.int (-1), Value.int 0, a0g_29, a0g_30, a0g_31, a0g_32, a0g_33, a0g_34, a0g_35, a0g_36, a0g_37, a0g_38, a0g_39])), (a0_15, .inl (ka0_15, 156, .inl (fa0_15)))]) hP hD hS hA [0, 2] (by decide +kernel) rfl (fun hPc hDc hFc hCc => ?_)
            have hKc := hK.sub (tys' := [(ka0_15, .int)]) [1] rfl
            refine va_calli (va_runV (As := [.int x3]) (rest := [.int 19, .ref a1]) ⟨hx, hb, hml, hown, hts⟩ (c_X8_nextOf l dC dI H.size a0 x3 a0g_0 a0g_1 a0g_2 a0g_3 a0g_4 a0g_5 a0g_6 a0g_7 a0g_8 a0g_9 a0g_10 a0g_11 a0g_12 a0g_13 a0g_14 a0g_16 a0g_17 a0g_18 a0g_19 a0g_20 a0g_21 a0g_22 (Value.ref a0_23) (Value.ref a0_24) (Value.int a0_25) (Value.int x3) (Value.int (-1)) (Value.int 0) a0g_29 a0g_30 a0g_31 a0g_32 a0g_33 a0g_34 a0g_35 a0g_36 a0g_37 a0g_38 a0g_39 a0_15 ka0_15 fa0_15 bx3.1 bx3.2 bfa0_15) (cwV 1 hts gX8_minuteOn_X8_nextOf rfl rfl rfl zd_X8_nextOf ⟨Nat.le_of_ble_eq_true rfl, Nat.le_of_ble_eq_true rfl⟩) ⟨ax_blind (fun _ _ _ _ _ => trivial), zr_8 hKc hPc (q0 := 0) rfl, ax_pre hPc hKc hDc (fun _ _ => trivial)⟩ rfl rfl hl.1 rfl (lv_room (Nat.le_of_ble_eq_true rfl)) dX8_minuteOn_133 ⟨Nat.le_of_ble_eq_true rfl, Nat.le_of_ble_eq_true rfl⟩) hS (fun q _ h => hFc q h) hFc (fun r133 u t H locs ht hvm hw hB hz1 hk1 hS1 => zo hB ht hS1 (fun hP1 hK1 hD1 hS => ?_))
            refine zc_backc (w := [(a0, .inr (8, [a0g_0, a0g_1, a0g_2, a0g_3, a0g_4, a0g_5, a0g_6, a0g_7, a0g_8, a0g_9, a0g_10, a0g_11, a0g_12, a0g_13, a0g_14, Value.ref a0_15, a0g_16, a0g_17, a0g_18, a0g_19, a0g_20, a0g_21, a0g_22, Value.ref a0_23, Value.ref a0_24, Value.int a0_25, Value.int x3, Value.int (-1), Value.int 0, a0g_29, a0g_30, a0g_31, a0g_32, a0g_33, a0g_34, a0g_35, a0g_36, a0g_37, a0g_38, a0g_39])), (a1, .inl (ka1, 23, .inl (f127))), (a0_15, .inl (ka0_15, 156, .inl (fa0_15))), (a0_24, .inl (ka0_24, 3, .inl (fa0_24))), (a0_23, .inl (ka0_23, 3, .inl (fa0_23)))]) hP hD hCc hk1 hFc hP1 hD1 [.inr 0, .inl 1, .inr 1, .inl 3, .inl 4] (by decide +kernel) rfl (fun hP hD => ?_)
            have hw : (0 : Int) ≤ r133.toInt ∧ r133.toInt ≤ (8 : Int) := hw
            obtain ⟨h133_0, h133_1⟩ := hw
            refine va_iast hx hb hK hP hD hS 1 0 rfl rfl (by unfold vp_in; decide +kernel) dX8_minuteOn_136 (fun H locs hP hD hS => ?_)
            obtain ⟨f136, ef136⟩ : ∃ g9 : Nat → Int32, g9 = upd f127 (19 : Int32).toNatClampNeg r133 := ⟨_, rfl⟩
            refine zs_1 (y := (a1, .inl (ka1, 23, .inl (f136)))) hP hD (by rw [ef136]) (fun hP hD => ?_)
            have bf136 : ((∀ k : Nat, 0 ≤ k → k ≤ 8 → (0 : Int) ≤ (f136 k).toInt ∧ (f136 k).toInt ≤ 8) ∧ (∀ k : Nat, 19 ≤ k → k ≤ 19 → (0 : Int) ≤ (f136 k).toInt ∧ (f136 k).toInt ≤ 8) ∧ (∀ k : Nat, 20 ≤ k → k ≤ 20 → (0 : Int) ≤ (f136 k).toInt ∧ (f136 k).toInt ≤ 19)) := by rw [ef136]; exact ⟨ai_updO bf127.1 _ (Or.inr (ai_ngt_of zq162 (by decide) (by decide))), ai_updS bf127.2.1 _ ⟨h133_0, h133_1⟩, ai_updO bf127.2.2 _ (Or.inl (ai_nlt_of zq162 zq163 (by decide) (by decide)))⟩
            have kf136_19 : f136 19 = r133 := by rw [ef136]; exact ai_k1 (by decide +kernel)
            have kf136_20 : f136 20 = 0 := by rw [ef136]; exact ai_k2 (by decide +kernel) kf127_20
            have kf136_21 : f136 21 = x99 := by rw [ef136]; exact ai_k2 (by decide +kernel) kf127_21
            exact W.vret hx hb hr (fun t ht hW => ⟨⟨(), rfl, trivial, x3, (-1), 0, f136, bf136, by rw [ht]; exact hP, va_K.moved hW.alike hK, hD⟩, hS.F ht⟩) hS.2.2 dX8_minuteOn_137
          · have gc119 := ai_nle c119
            have u119f_x107 : x107.toInt ≤ (19 : Int) := ai_lthi gc119 bx118.2
            have u119f_x105 : x105.toInt ≤ (18 : Int) := by have h1 := wx107; have h2 := u119f_x107; omega
            have l119f_x118 : (2 : Int) ≤ x118.toInt := ai_ltlo gc119 bx107.1
            exact W.vret hx hb hr (fun t ht hW => ⟨⟨(), rfl, trivial, x3, (-1), 0, f108, ⟨bf108.1, bf108.2.1, ai_one (by rw [kf108_20]; exact ⟨(Int.le_trans zq4 bx107.1), u119f_x107⟩)⟩, by rw [ht]; exact hP, va_K.moved hW.alike hK, hD⟩, hS.F ht⟩) hS.2.2 dX8_minuteOn_122
        · subst hw
          refine lv_if_eq (tgt := 87) hx hb dX8_minuteOn_80 (by decide) (fun _ => ?_) (fun c80 => absurd (by decide +kernel) c80)
          refine lv_aload_n hx hb dX8_minuteOn_87 rfl (lv_at hl 2 rfl) ?_
          refine lv_iload_n hx hb dX8_minuteOn_88 rfl (lv_at hl 0 rfl) ?_
          refine va_iald hx hb hK hP 1 0 rfl rfl (ai_in bx3.1 bx3.2 (by decide) (by decide)) dX8_minuteOn_89 ?_
          refine lv_topi (fun x89 ex89 => ?_)
          have bx89 : (0 : Int) ≤ x89.toInt ∧ x89.toInt ≤ 8 := by rw [ex89]; exact ai_rd bfa1.1 bx3.1 bx3.2 (by decide) (by decide) (by decide)
          refine va_put (D := (dC, dI)) (ci := 8) (v := .int x89) (ty := .int) (C := RX8) (T := TX8) (N := 40) hx hb hts zi_X8_minuteOn_8 tyX8 tyX8_ok nmX8 hown hK hP hD hS 0 rfl rfl 27 (by decide) (hts (.fieldLink RX8 261 "WaxTurnsModel" "livedAt" "I") (zm_X8_minuteOn_r1 (List.mem_of_getElem? (i := 3) rfl))) (fun _ h9 => h9) rfl (tyX8_ok 27 (by decide)) rfl rfl (Nat.le_of_ble_eq_true rfl) dX8_minuteOn_90 (fun H locs hP hD hS => ?_)
          refine zs_0 (y := (a0, .inr (8, [a0g_0, a0g_1, a0g_2, a0g_3, a0g_4, a0g_5, a0g_6, a0g_7, a0g_8, a0g_9, a0g_10, a0g_11, a0g_12, a0g_13, a0g_14, Value.ref a0_15, a0g_16, a0g_17, a0g_18, a0g_19, a0g_20, a0g_21, a0g_22, Value.ref a0_23, Value.ref a0_24, Value.int a0_25, Value.int x3, Value.int x89, Value.int 0, a0g_29, a0g_30, a0g_31, a0g_32, a0g_33, a0g_34, a0g_35, a0g_36, a0g_37, a0g_38, a0g_39]))) hP hD rfl (fun hP hD => ?_)
          refine lv_aload_n hx hb dX8_minuteOn_93 rfl (lv_at hl 2 rfl) ?_
          refine lv_bipush (v := 21) hx hb dX8_minuteOn_94 zk_bipush_21 ?_
          refine lv_dup2_11 hx hb dX8_minuteOn_96 rfl rfl ?_
          refine va_iald hx hb hK hP 1 0 rfl rfl (by unfold vp_in; decide +kernel) dX8_minuteOn_97 ?_
          refine lv_topi (fun x97 ex97 => ?_)
          refine lv_iconst (v := 1) hx hb dX8_minuteOn_98 zk_iconst_1 ?_
          refine lv_iadd hx hb dX8_minuteOn_99 ?_
          refine lv_topi (fun x99 ex99 => ?_)
          refine va_iast hx hb hK hP hD hS 1 0 rfl rfl (by unfold vp_in; decide +kernel) dX8_minuteOn_100 (fun H locs hP hD hS => ?_)
          obtain ⟨f100, ef100⟩ : ∃ g9 : Nat → Int32, g9 = upd fa1 (21 : Int32).toNatClampNeg x99 := ⟨_, rfl⟩
          refine zs_1 (y := (a1, .inl (ka1, 23, .inl (f100)))) hP hD (by rw [ef100]) (fun hP hD => ?_)
          have bf100 : ((∀ k : Nat, 0 ≤ k → k ≤ 8 → (0 : Int) ≤ (f100 k).toInt ∧ (f100 k).toInt ≤ 8) ∧ (∀ k : Nat, 19 ≤ k → k ≤ 19 → (0 : Int) ≤ (f100 k).toInt ∧ (f100 k).toInt ≤ 8) ∧ (∀ k : Nat, 20 ≤ k → k ≤ 20 → (0 : Int) ≤ (f100 k).toInt ∧ (f100 k).toInt ≤ 19)) := by rw [ef100]; exact ⟨ai_updO bfa1.1 _ (Or.inr (ai_ngt_of zq164 (by decide) (by decide))), ai_updO bfa1.2.1 _ (Or.inr (ai_ngt_of zq164 (by decide) (by decide))), ai_updO bfa1.2.2 _ (Or.inr (ai_ngt_of zq164 (by decide) (by decide)))⟩
          have kf100_21 : f100 21 = x99 := by rw [ef100]; exact ai_k1 (by decide +kernel)
          refine lv_aload_n hx hb dX8_minuteOn_101 rfl (lv_at hl 2 rfl) ?_
          refine lv_bipush (v := 20) hx hb dX8_minuteOn_102 zk_bipush_20 ?_
          refine lv_dup2_11 hx hb dX8_minuteOn_104 rfl rfl ?_
          refine va_iald hx hb hK hP 1 0 rfl rfl (by unfold vp_in; decide +kernel) dX8_minuteOn_105 ?_
          refine lv_topi (fun x105 ex105 => ?_)
          have bx105 : (0 : Int) ≤ x105.toInt ∧ x105.toInt ≤ 19 := by rw [ex105]; exact ai_rd bf100.2.2 zq155 zq156 (by decide) (by decide) (by decide)
          refine lv_iconst (v := 1) hx hb dX8_minuteOn_106 zk_iconst_1 ?_
          refine lv_iadd hx hb dX8_minuteOn_107 ?_
          refine lv_topi (fun x107 ex107 => ?_)
          have qx107 : x107.toInt = x105.toInt + (1 : Int32).toInt := ai_add ex107 ⟨bx105.1, bx105.2⟩ ⟨zq1, zq0⟩ (by decide) (by decide)
          have bx107 : (1 : Int) ≤ x107.toInt ∧ x107.toInt ≤ 20 := ⟨by rw [qx107]; exact Int.add_le_add bx105.1 zq1, by rw [qx107]; exact Int.add_le_add bx105.2 zq0⟩
          have wx107 : x107.toInt = x105.toInt + 1 := qx107
          refine va_iast hx hb hK hP hD hS 1 0 rfl rfl (by unfold vp_in; decide +kernel) dX8_minuteOn_108 (fun H locs hP hD hS => ?_)
          obtain ⟨f108, ef108⟩ : ∃ g9 : Nat → Int32, g9 = upd f100 (20 : Int32).toNatClampNeg x107 := ⟨_, rfl⟩
          refine zs_1 (y := (a1, .inl (ka1, 23, .inl (f108)))) hP hD (by rw [ef108]) (fun hP hD => ?_)
          have bf108 : ((∀ k : Nat, 0 ≤ k → k ≤ 8 → (0 : Int) ≤ (f108 k).toInt ∧ (f108 k).toInt ≤ 8) ∧ (∀ k : Nat, 19 ≤ k → k ≤ 19 → (0 : Int) ≤ (f108 k).toInt ∧ (f108 k).toInt ≤ 8) ∧ True) := by rw [ef108]; exact ⟨ai_updO bf100.1 _ (Or.inr (ai_ngt_of zq155 (by decide) (by decide))), ai_updO bf100.2.1 _ (Or.inr (ai_ngt_of zq155 (by decide) (by decide))), trivial⟩
          have kf108_20 : f108 20 = x107 := by rw [ef108]; exact ai_k1 (by decide +kernel)
          have kf108_21 : f108 21 = x99 := by rw [ef108]; exact ai_k2 (by decide +kernel) kf100_21
          refine lv_aload_n hx hb dX8_minuteOn_109 rfl (lv_at hl 2 rfl) ?_
          refine lv_bipush (v := 20) hx hb dX8_minuteOn_110 zk_bipush_20 ?_
          refine va_iald hx hb hK hP 1 0 rfl rfl (by unfold vp_in; decide +kernel) dX8_minuteOn_112 ?_
          refine ax_ti x107 ((congrArg f108 (by decide +kernel : (20 : Int32).toNatClampNeg = 20)).trans kf108_20) ?_
          refine lv_aload_n hx hb dX8_minuteOn_113 rfl (lv_at hl 1 rfl) ?_
          refine va_get (D := (dC, dI)) (ci := 8) (v := .ref a0_15) (C := RX8) (T := TX8) (N := 40) hx hb hts zi_X8_minuteOn_8 hown hK hP 0 rfl rfl 15 (by decide) (hts (.fieldLink RX8 20 "WaxTurnsModel" "\x72" "[I") (zm_X8_minuteOn_r1 (List.mem_of_getElem? (i := 1) rfl))) (fun _ h9 => h9) rfl dX8_minuteOn_114 ?_
          refine lv_iconst (v := 1) hx hb dX8_minuteOn_117 zk_iconst_1 ?_
          refine va_iald hx hb hK hP 2 1 rfl rfl (by unfold vp_in; decide +kernel) dX8_minuteOn_118 ?_
          refine lv_topi (fun x118 ex118 => ?_)
          have bx118 : (1 : Int) ≤ x118.toInt ∧ x118.toInt ≤ 20 := by rw [ex118]; exact ai_rd bfa0_15.2.1 zq1 zq0 (by decide) (by decide) (by decide)
          refine lv_icmp_ge (tgt := 123) hx hb dX8_minuteOn_119 (by decide) (fun c119 => ?_) (fun c119 => ?_)
          · have gc119 := ai_le c119
            have u119t_x118 : x118.toInt ≤ (20 : Int) := bx118.2
            have l119t_x107 : (1 : Int) ≤ x107.toInt := bx107.1
            refine lv_aload_n hx hb dX8_minuteOn_123 rfl (lv_at hl 2 rfl) ?_
            refine lv_bipush (v := 20) hx hb dX8_minuteOn_124 zk_bipush_20 ?_
            refine lv_iconst (v := 0) hx hb dX8_minuteOn_126 zk_iconst_0 ?_
            refine va_iast hx hb hK hP hD hS 1 0 rfl rfl (by unfold vp_in; decide +kernel) dX8_minuteOn_127 (fun H locs hP hD hS => ?_)
            obtain ⟨f127, ef127⟩ : ∃ g9 : Nat → Int32, g9 = upd f108 (20 : Int32).toNatClampNeg (0 : Int32) := ⟨_, rfl⟩
            refine zs_1 (y := (a1, .inl (ka1, 23, .inl (f127)))) hP hD (by rw [ef127]) (fun hP hD => ?_)
            have bf127 : ((∀ k : Nat, 0 ≤ k → k ≤ 8 → (0 : Int) ≤ (f127 k).toInt ∧ (f127 k).toInt ≤ 8) ∧ (∀ k : Nat, 19 ≤ k → k ≤ 19 → (0 : Int) ≤ (f127 k).toInt ∧ (f127 k).toInt ≤ 8) ∧ (∀ k : Nat, 20 ≤ k → k ≤ 20 → (0 : Int) ≤ (f127 k).toInt ∧ (f127 k).toInt ≤ 19)) := by rw [ef127]; exact ⟨ai_updO bf108.1 _ (Or.inr (ai_ngt_of zq155 (by decide) (by decide))), ai_updO bf108.2.1 _ (Or.inr (ai_ngt_of zq155 (by decide) (by decide))), ai_new (by decide +kernel) ⟨zq5, (Int.le_trans zq6 zq165)⟩⟩
            have kf127_20 : f127 20 = 0 := by rw [ef127]; exact ai_k1 (by decide +kernel)
            have kf127_21 : f127 21 = x99 := by rw [ef127]; exact ai_k2 (by decide +kernel) kf108_21
            refine lv_aload_n hx hb dX8_minuteOn_128 rfl (lv_at hl 2 rfl) ?_
            refine lv_bipush (v := 19) hx hb dX8_minuteOn_129 zk_bipush_19 ?_
            refine lv_aload_n hx hb dX8_minuteOn_131 rfl (lv_at hl 1 rfl) ?_
            refine lv_iload_n hx hb dX8_minuteOn_132 rfl (lv_at hl 0 rfl) ?_
            refine zc_cutc (wc := [(a0, .inr (8, [a0g_0, a0g_1, a0g_2, a0g_3, a0g_4, a0g_5, a0g_6, a0g_7, a0g_8, a0g_9, a0g_10, a0g_11, a0g_12, a0g_13, a0g_14, Value.ref a0_15, a0g_16, a0g_17, a0g_18, a0g_19, a0g_20, a0g_21, a0g_22, Value.ref a0_23, Value.ref a0_24, Value.int a0_25, Value.int x3, Value.int x89, Value.int 0, a0g_29, a0g_30, a0g_31, a0g_32, a0g_33, a0g_34, a0g_35, a0g_36, a0g_37, a0g_38, a0g_39])), (a0_15, .inl (ka0_15, 156, .inl (fa0_15)))]) hP hD hS hA [0, 2] (by decide +kernel) rfl (fun hPc hDc hFc hCc => ?_)
            have hKc := hK.sub (tys' := [(ka0_15, .int)]) [1] rfl
            refine va_calli (va_runV (As := [.int x3]) (rest := [.int 19, .ref a1]) ⟨hx, hb, hml, hown, hts⟩ (c_X8_nextOf l dC dI H.size a0 x3 a0g_0 a0g_1 a0g_2 a0g_3 a0g_4 a0g_5 a0g_6 a0g_7 a0g_8 a0g_9 a0g_10 a0g_11 a0g_12 a0g_13 a0g_14 a0g_16 a0g_17 a0g_18 a0g_19 a0g_20 a0g_21 a0g_22 (Value.ref a0_23) (Value.ref a0_24) (Value.int a0_25) (Value.int x3) (Value.int x89) (Value.int 0) a0g_29 a0g_30 a0g_31 a0g_32 a0g_33 a0g_34 a0g_35 a0g_36 a0g_37 a0g_38 a0g_39 a0_15 ka0_15 fa0_15 bx3.1 bx3.2 bfa0_15) (cwV 1 hts gX8_minuteOn_X8_nextOf rfl rfl rfl zd_X8_nextOf ⟨Nat.le_of_ble_eq_true rfl, Nat.le_of_ble_eq_true rfl⟩) ⟨ax_blind (fun _ _ _ _ _ => trivial), zr_8 hKc hPc (q0 := 0) rfl, ax_pre hPc hKc hDc (fun _ _ => trivial)⟩ rfl rfl hl.1 rfl (lv_room (Nat.le_of_ble_eq_true rfl)) dX8_minuteOn_133 ⟨Nat.le_of_ble_eq_true rfl, Nat.le_of_ble_eq_true rfl⟩) hS (fun q _ h => hFc q h) hFc (fun r133 u t H locs ht hvm hw hB hz1 hk1 hS1 => zo hB ht hS1 (fun hP1 hK1 hD1 hS => ?_))
            refine zc_backc (w := [(a0, .inr (8, [a0g_0, a0g_1, a0g_2, a0g_3, a0g_4, a0g_5, a0g_6, a0g_7, a0g_8, a0g_9, a0g_10, a0g_11, a0g_12, a0g_13, a0g_14, Value.ref a0_15, a0g_16, a0g_17, a0g_18, a0g_19, a0g_20, a0g_21, a0g_22, Value.ref a0_23, Value.ref a0_24, Value.int a0_25, Value.int x3, Value.int x89, Value.int 0, a0g_29, a0g_30, a0g_31, a0g_32, a0g_33, a0g_34, a0g_35, a0g_36, a0g_37, a0g_38, a0g_39])), (a1, .inl (ka1, 23, .inl (f127))), (a0_15, .inl (ka0_15, 156, .inl (fa0_15))), (a0_24, .inl (ka0_24, 3, .inl (fa0_24))), (a0_23, .inl (ka0_23, 3, .inl (fa0_23)))]) hP hD hCc hk1 hFc hP1 hD1 [.inr 0, .inl 1, .inr 1, .inl 3, .inl 4] (by decide +kernel) rfl (fun hP hD => ?_)
            have hw : (0 : Int) ≤ r133.toInt ∧ r133.toInt ≤ (8 : Int) := hw
            obtain ⟨h133_0, h133_1⟩ := hw
            refine va_iast hx hb hK hP hD hS 1 0 rfl rfl (by unfold vp_in; decide +kernel) dX8_minuteOn_136 (fun H locs hP hD hS => ?_)
            obtain ⟨f136, ef136⟩ : ∃ g9 : Nat → Int32, g9 = upd f127 (19 : Int32).toNatClampNeg r133 := ⟨_, rfl⟩
            refine zs_1 (y := (a1, .inl (ka1, 23, .inl (f136)))) hP hD (by rw [ef136]) (fun hP hD => ?_)
            have bf136 : ((∀ k : Nat, 0 ≤ k → k ≤ 8 → (0 : Int) ≤ (f136 k).toInt ∧ (f136 k).toInt ≤ 8) ∧ (∀ k : Nat, 19 ≤ k → k ≤ 19 → (0 : Int) ≤ (f136 k).toInt ∧ (f136 k).toInt ≤ 8) ∧ (∀ k : Nat, 20 ≤ k → k ≤ 20 → (0 : Int) ≤ (f136 k).toInt ∧ (f136 k).toInt ≤ 19)) := by rw [ef136]; exact ⟨ai_updO bf127.1 _ (Or.inr (ai_ngt_of zq162 (by decide) (by decide))), ai_updS bf127.2.1 _ ⟨h133_0, h133_1⟩, ai_updO bf127.2.2 _ (Or.inl (ai_nlt_of zq162 zq163 (by decide) (by decide)))⟩
            have kf136_19 : f136 19 = r133 := by rw [ef136]; exact ai_k1 (by decide +kernel)
            have kf136_20 : f136 20 = 0 := by rw [ef136]; exact ai_k2 (by decide +kernel) kf127_20
            have kf136_21 : f136 21 = x99 := by rw [ef136]; exact ai_k2 (by decide +kernel) kf127_21
            exact W.vret hx hb hr (fun t ht hW => ⟨⟨(), rfl, trivial, x3, x89, 0, f136, bf136, by rw [ht]; exact hP, va_K.moved hW.alike hK, hD⟩, hS.F ht⟩) hS.2.2 dX8_minuteOn_137
          · have gc119 := ai_nle c119
            have u119f_x107 : x107.toInt ≤ (19 : Int) := ai_lthi gc119 bx118.2
            have u119f_x105 : x105.toInt ≤ (18 : Int) := by have h1 := wx107; have h2 := u119f_x107; omega
            have l119f_x118 : (2 : Int) ≤ x118.toInt := ai_ltlo gc119 bx107.1
            exact W.vret hx hb hr (fun t ht hW => ⟨⟨(), rfl, trivial, x3, x89, 0, f108, ⟨bf108.1, bf108.2.1, ai_one (by rw [kf108_20]; exact ⟨(Int.le_trans zq4 bx107.1), u119f_x107⟩)⟩, by rw [ht]; exact hP, va_K.moved hW.alike hK, hD⟩, hS.F ht⟩) hS.2.2 dX8_minuteOn_122
      · have gc57 := ai_eq c57
        have u57f_x31 : x31.toInt ≤ (2 : Int) := Int.le_trans (Int.le_of_eq gc57) zq13
        have l57f_x31 : (2 : Int) ≤ x31.toInt := Int.le_trans zq12 (Int.le_of_eq gc57.symm)
        refine lv_aload_n hx hb dX8_minuteOn_60 rfl (lv_at hl 1 rfl) ?_
        refine lv_aload_n hx hb dX8_minuteOn_61 rfl (lv_at hl 2 rfl) ?_
        refine lv_iload_n hx hb dX8_minuteOn_62 rfl (lv_at hl 0 rfl) ?_
        have hKc := hK.sub (tys' := [(ka1, .int), (ka0_15, .int), (ka0_24, .int), (ka0_23, .int)]) [0, 1, 2, 3] rfl
        refine va_callv (va_runV (As := [.ref a1, .int x3]) (rest := []) ⟨hx, hb, hml, hown, hts⟩ (c_X8_speakOn l dC dI H.size a0 a1 x3 a0g_0 a0g_1 a0g_2 a0g_3 a0g_4 a0g_5 a0g_6 a0g_7 a0g_8 a0g_9 a0g_10 a0g_11 a0g_12 a0g_13 a0g_14 a0g_16 a0g_17 a0g_18 a0g_19 a0g_20 a0g_21 a0g_22 (Value.int a0_26) (Value.int a0_27) a0g_29 a0g_30 a0g_31 a0g_32 a0g_33 a0g_34 a0g_35 a0g_36 a0g_37 a0g_38 a0g_39 a0_15 a0_23 a0_24 a0_25 0 ka1 fa1 ka0_15 fa0_15 ka0_24 fa0_24 ka0_23 fa0_23 bx3.1 bx3.2 bfa1 bfa0_15 bfa0_24 bfa0_23) (cwV 2 hts gX8_minuteOn_X8_speakOn rfl rfl rfl zd_X8_speakOn ⟨Nat.le_of_ble_eq_true rfl, Nat.le_of_ble_eq_true rfl⟩) ⟨ax_blind (fun _ _ _ _ _ => trivial), zr_8 hKc (zp_P5 hP) (q0 := 0) rfl, ax_pre (zp_P5 hP) hKc (zp_D5 hD) (fun _ _ => trivial)⟩ rfl rfl hl.1 rfl (lv_room (Nat.le_of_ble_eq_true rfl)) dX8_minuteOn_63 ⟨Nat.le_of_ble_eq_true rfl, Nat.le_of_ble_eq_true rfl⟩) hS (fun q _ h => zp_F5 hD hS hA q h) (zp_F5 hD hS hA) (fun u t H locs ht hvm hw => zx_2 (fun v63na0_28 v63nfa1 => zy_1 (fun bv63nfa1 hB hz1 hk1 hS1 => zo5 hB ht hP hD hk1 (zp_F5 hD hS hA) hS1 (fun hP hK1 hD hS => ?_))))
        refine lv_aload_n hx hb dX8_minuteOn_66 rfl (lv_at hl 1 rfl) ?_
        refine lv_iload_n hx hb dX8_minuteOn_67 rfl (lv_at hl 0 rfl) ?_
        refine va_put (D := (dC, dI)) (ci := 8) (v := .int x3) (ty := .int) (C := RX8) (T := TX8) (N := 40) hx hb hts zi_X8_minuteOn_8 tyX8 tyX8_ok nmX8 hown hK hP hD hS 0 rfl rfl 26 (by decide) (hts (.fieldLink RX8 258 "WaxTurnsModel" "lived" "I") (zm_X8_minuteOn_r1 (List.mem_of_getElem? (i := 2) rfl))) (fun _ h9 => h9) rfl (tyX8_ok 26 (by decide)) rfl rfl (Nat.le_of_ble_eq_true rfl) dX8_minuteOn_68 (fun H locs hP hD hS => ?_)
        refine zs_0 (y := (a0, .inr (8, [a0g_0, a0g_1, a0g_2, a0g_3, a0g_4, a0g_5, a0g_6, a0g_7, a0g_8, a0g_9, a0g_10, a0g_11, a0g_12, a0g_13, a0g_14, Value.ref a0_15, a0g_16, a0g_17, a0g_18, a0g_19, a0g_20, a0g_21, a0g_22, Value.ref a0_23, Value.ref a0_24, Value.int a0_25, Value.int x3, Value.int a0_27, Value.int v63na0_28, a0g_29, a0g_30, a0g_31, a0g_32, a0g_33, a0g_34, a0g_35, a0g_36, a0g_37, a0g_38, a0g_39]))) hP hD rfl (fun hP hD => ?_)
        refine lv_aload_n hx hb dX8_minuteOn_71 rfl (lv_at hl 1 rfl) ?_
        refine lv_aload_n hx hb dX8_minuteOn_72 rfl (lv_at hl 2 rfl) ?_
        refine lv_bipush (v := 18) hx hb dX8_minuteOn_73 zk_bipush_18 ?_
        refine va_iald hx hb hK hP 1 0 rfl rfl (by unfold vp_in; decide +kernel) dX8_minuteOn_75 ?_
        refine lv_topi (fun x75 ex75 => ?_)
        refine lv_iload_n hx hb dX8_minuteOn_76 rfl (lv_at hl 0 rfl) ?_
        refine va_calli (va_runS (As := [.int x75, .int x3]) (rest := [.ref a0]) ⟨hx, hb, hml, hown, hts⟩ (c_X8_hasBit l dC dI H.size x75 x3 ) (va_cwS 2 hts gX8_minuteOn_X8_hasBit rfl rfl rfl zd_X8_hasBit.2 ⟨Nat.le_of_ble_eq_true rfl, Nat.le_of_ble_eq_true rfl⟩) ⟨ax_blind (fun _ _ _ _ _ => trivial), ax_pre (zp_P0 hP) (zp_K hK) (zp_D0 hD) (fun _ _ => trivial)⟩ rfl rfl hl.1 rfl (lv_room (Nat.le_of_ble_eq_true rfl)) dX8_minuteOn_77 ⟨Nat.le_of_ble_eq_true rfl, Nat.le_of_ble_eq_true rfl⟩) hS (fun q _ h => zp_F0 hD hS hA q h) (zp_F0 hD hS hA) (fun r77 u t H locs ht hvm hw hB hz1 hk1 hS1 => zo0 hB ht hP hD hk1 (zp_F0 hD hS hA) hS1 (fun hP hK1 hD hS => ?_))
        rcases hw with hw | hw
        · subst hw
          refine lv_if_eq (tgt := 87) hx hb dX8_minuteOn_80 (by decide) (fun c80 => absurd c80 (by decide +kernel)) (fun _ => ?_)
          refine lv_iconst (v := (-1)) hx hb dX8_minuteOn_83 zk_iconst_n1 ?_
          refine lv_goto (tgt := 90) hx hb dX8_minuteOn_84 (by decide) ?_
          refine va_put (D := (dC, dI)) (ci := 8) (v := .int (-1)) (ty := .int) (C := RX8) (T := TX8) (N := 40) hx hb hts zi_X8_minuteOn_8 tyX8 tyX8_ok nmX8 hown hK hP hD hS 0 rfl rfl 27 (by decide) (hts (.fieldLink RX8 261 "WaxTurnsModel" "livedAt" "I") (zm_X8_minuteOn_r1 (List.mem_of_getElem? (i := 3) rfl))) (fun _ h9 => h9) rfl (tyX8_ok 27 (by decide)) rfl rfl (Nat.le_of_ble_eq_true rfl) dX8_minuteOn_90 (fun H locs hP hD hS => ?_)
          refine zs_0 (y := (a0, .inr (8, [a0g_0, a0g_1, a0g_2, a0g_3, a0g_4, a0g_5, a0g_6, a0g_7, a0g_8, a0g_9, a0g_10, a0g_11, a0g_12, a0g_13, a0g_14, Value.ref a0_15, a0g_16, a0g_17, a0g_18, a0g_19, a0g_20, a0g_21, a0g_22, Value.ref a0_23, Value.ref a0_24, Value.int a0_25, Value.int x3, Value.int (-1), Value.int v63na0_28, a0g_29, a0g_30, a0g_31, a0g_32, a0g_33, a0g_34, a0g_35, a0g_36, a0g_37, a0g_38, a0g_39]))) hP hD rfl (fun hP hD => ?_)
          refine lv_aload_n hx hb dX8_minuteOn_93 rfl (lv_at hl 2 rfl) ?_
          refine lv_bipush (v := 21) hx hb dX8_minuteOn_94 zk_bipush_21 ?_
          refine lv_dup2_11 hx hb dX8_minuteOn_96 rfl rfl ?_
          refine va_iald hx hb hK hP 1 0 rfl rfl (by unfold vp_in; decide +kernel) dX8_minuteOn_97 ?_
          refine lv_topi (fun x97 ex97 => ?_)
          refine lv_iconst (v := 1) hx hb dX8_minuteOn_98 zk_iconst_1 ?_
          refine lv_iadd hx hb dX8_minuteOn_99 ?_
          refine lv_topi (fun x99 ex99 => ?_)
          refine va_iast hx hb hK hP hD hS 1 0 rfl rfl (by unfold vp_in; decide +kernel) dX8_minuteOn_100 (fun H locs hP hD hS => ?_)
          obtain ⟨f100, ef100⟩ : ∃ g9 : Nat → Int32, g9 = upd v63nfa1 (21 : Int32).toNatClampNeg x99 := ⟨_, rfl⟩
          refine zs_1 (y := (a1, .inl (ka1, 23, .inl (f100)))) hP hD (by rw [ef100]) (fun hP hD => ?_)
          have bf100 : ((∀ k : Nat, 0 ≤ k → k ≤ 8 → (0 : Int) ≤ (f100 k).toInt ∧ (f100 k).toInt ≤ 8) ∧ (∀ k : Nat, 19 ≤ k → k ≤ 19 → (0 : Int) ≤ (f100 k).toInt ∧ (f100 k).toInt ≤ 8) ∧ (∀ k : Nat, 20 ≤ k → k ≤ 20 → (0 : Int) ≤ (f100 k).toInt ∧ (f100 k).toInt ≤ 19)) := by rw [ef100]; exact ⟨ai_updO bv63nfa1.1 _ (Or.inr (ai_ngt_of zq164 (by decide) (by decide))), ai_updO bv63nfa1.2.1 _ (Or.inr (ai_ngt_of zq164 (by decide) (by decide))), ai_updO bv63nfa1.2.2 _ (Or.inr (ai_ngt_of zq164 (by decide) (by decide)))⟩
          have kf100_21 : f100 21 = x99 := by rw [ef100]; exact ai_k1 (by decide +kernel)
          refine lv_aload_n hx hb dX8_minuteOn_101 rfl (lv_at hl 2 rfl) ?_
          refine lv_bipush (v := 20) hx hb dX8_minuteOn_102 zk_bipush_20 ?_
          refine lv_dup2_11 hx hb dX8_minuteOn_104 rfl rfl ?_
          refine va_iald hx hb hK hP 1 0 rfl rfl (by unfold vp_in; decide +kernel) dX8_minuteOn_105 ?_
          refine lv_topi (fun x105 ex105 => ?_)
          have bx105 : (0 : Int) ≤ x105.toInt ∧ x105.toInt ≤ 19 := by rw [ex105]; exact ai_rd bf100.2.2 zq155 zq156 (by decide) (by decide) (by decide)
          refine lv_iconst (v := 1) hx hb dX8_minuteOn_106 zk_iconst_1 ?_
          refine lv_iadd hx hb dX8_minuteOn_107 ?_
          refine lv_topi (fun x107 ex107 => ?_)
          have qx107 : x107.toInt = x105.toInt + (1 : Int32).toInt := ai_add ex107 ⟨bx105.1, bx105.2⟩ ⟨zq1, zq0⟩ (by decide) (by decide)
          have bx107 : (1 : Int) ≤ x107.toInt ∧ x107.toInt ≤ 20 := ⟨by rw [qx107]; exact Int.add_le_add bx105.1 zq1, by rw [qx107]; exact Int.add_le_add bx105.2 zq0⟩
          have wx107 : x107.toInt = x105.toInt + 1 := qx107
          refine va_iast hx hb hK hP hD hS 1 0 rfl rfl (by unfold vp_in; decide +kernel) dX8_minuteOn_108 (fun H locs hP hD hS => ?_)
          obtain ⟨f108, ef108⟩ : ∃ g9 : Nat → Int32, g9 = upd f100 (20 : Int32).toNatClampNeg x107 := ⟨_, rfl⟩
          refine zs_1 (y := (a1, .inl (ka1, 23, .inl (f108)))) hP hD (by rw [ef108]) (fun hP hD => ?_)
          have bf108 : ((∀ k : Nat, 0 ≤ k → k ≤ 8 → (0 : Int) ≤ (f108 k).toInt ∧ (f108 k).toInt ≤ 8) ∧ (∀ k : Nat, 19 ≤ k → k ≤ 19 → (0 : Int) ≤ (f108 k).toInt ∧ (f108 k).toInt ≤ 8) ∧ True) := by rw [ef108]; exact ⟨ai_updO bf100.1 _ (Or.inr (ai_ngt_of zq155 (by decide) (by decide))), ai_updO bf100.2.1 _ (Or.inr (ai_ngt_of zq155 (by decide) (by decide))), trivial⟩
          have kf108_20 : f108 20 = x107 := by rw [ef108]; exact ai_k1 (by decide +kernel)
          have kf108_21 : f108 21 = x99 := by rw [ef108]; exact ai_k2 (by decide +kernel) kf100_21
          refine lv_aload_n hx hb dX8_minuteOn_109 rfl (lv_at hl 2 rfl) ?_
          refine lv_bipush (v := 20) hx hb dX8_minuteOn_110 zk_bipush_20 ?_
          refine va_iald hx hb hK hP 1 0 rfl rfl (by unfold vp_in; decide +kernel) dX8_minuteOn_112 ?_
          refine ax_ti x107 ((congrArg f108 (by decide +kernel : (20 : Int32).toNatClampNeg = 20)).trans kf108_20) ?_
          refine lv_aload_n hx hb dX8_minuteOn_113 rfl (lv_at hl 1 rfl) ?_
          refine va_get (D := (dC, dI)) (ci := 8) (v := .ref a0_15) (C := RX8) (T := TX8) (N := 40) hx hb hts zi_X8_minuteOn_8 hown hK hP 0 rfl rfl 15 (by decide) (hts (.fieldLink RX8 20 "WaxTurnsModel" "\x72" "[I") (zm_X8_minuteOn_r1 (List.mem_of_getElem? (i := 1) rfl))) (fun _ h9 => h9) rfl dX8_minuteOn_114 ?_
          refine lv_iconst (v := 1) hx hb dX8_minuteOn_117 zk_iconst_1 ?_
          refine va_iald hx hb hK hP 2 1 rfl rfl (by unfold vp_in; decide +kernel) dX8_minuteOn_118 ?_
          refine lv_topi (fun x118 ex118 => ?_)
          have bx118 : (1 : Int) ≤ x118.toInt ∧ x118.toInt ≤ 20 := by rw [ex118]; exact ai_rd bfa0_15.2.1 zq1 zq0 (by decide) (by decide) (by decide)
          refine lv_icmp_ge (tgt := 123) hx hb dX8_minuteOn_119 (by decide) (fun c119 => ?_) (fun c119 => ?_)
          · have gc119 := ai_le c119
            have u119t_x118 : x118.toInt ≤ (20 : Int) := bx118.2
            have l119t_x107 : (1 : Int) ≤ x107.toInt := bx107.1
            refine lv_aload_n hx hb dX8_minuteOn_123 rfl (lv_at hl 2 rfl) ?_
            refine lv_bipush (v := 20) hx hb dX8_minuteOn_124 zk_bipush_20 ?_
            refine lv_iconst (v := 0) hx hb dX8_minuteOn_126 zk_iconst_0 ?_
            refine va_iast hx hb hK hP hD hS 1 0 rfl rfl (by unfold vp_in; decide +kernel) dX8_minuteOn_127 (fun H locs hP hD hS => ?_)
            obtain ⟨f127, ef127⟩ : ∃ g9 : Nat → Int32, g9 = upd f108 (20 : Int32).toNatClampNeg (0 : Int32) := ⟨_, rfl⟩
            refine zs_1 (y := (a1, .inl (ka1, 23, .inl (f127)))) hP hD (by rw [ef127]) (fun hP hD => ?_)
            have bf127 : ((∀ k : Nat, 0 ≤ k → k ≤ 8 → (0 : Int) ≤ (f127 k).toInt ∧ (f127 k).toInt ≤ 8) ∧ (∀ k : Nat, 19 ≤ k → k ≤ 19 → (0 : Int) ≤ (f127 k).toInt ∧ (f127 k).toInt ≤ 8) ∧ (∀ k : Nat, 20 ≤ k → k ≤ 20 → (0 : Int) ≤ (f127 k).toInt ∧ (f127 k).toInt ≤ 19)) := by rw [ef127]; exact ⟨ai_updO bf108.1 _ (Or.inr (ai_ngt_of zq155 (by decide) (by decide))), ai_updO bf108.2.1 _ (Or.inr (ai_ngt_of zq155 (by decide) (by decide))), ai_new (by decide +kernel) ⟨zq5, (Int.le_trans zq6 zq165)⟩⟩
            have kf127_20 : f127 20 = 0 := by rw [ef127]; exact ai_k1 (by decide +kernel)
            have kf127_21 : f127 21 = x99 := by rw [ef127]; exact ai_k2 (by decide +kernel) kf108_21
            refine lv_aload_n hx hb dX8_minuteOn_128 rfl (lv_at hl 2 rfl) ?_
            refine lv_bipush (v := 19) hx hb dX8_minuteOn_129 zk_bipush_19 ?_
            refine lv_aload_n hx hb dX8_minuteOn_131 rfl (lv_at hl 1 rfl) ?_
            refine lv_iload_n hx hb dX8_minuteOn_132 rfl (lv_at hl 0 rfl) ?_
            refine zc_cutc (wc := [(a0, .inr (8, [a0g_0, a0g_1, a0g_2, a0g_3, a0g_4, a0g_5, a0g_6, a0g_7, a0g_8, a0g_9, a0g_10, a0g_11, a0g_12, a0g_13, a0g_14, Value.ref a0_15, a0g_16, a0g_17, a0g_18, a0g_19, a0g_20, a0g_21, a0g_22, Value.ref a0_23, Value.ref a0_24, Value.int a0_25, Value.int x3, Value.int (-1), Value.int v63na0_28, a0g_29, a0g_30, a0g_31, a0g_32, a0g_33, a0g_34, a0g_35, a0g_36, a0g_37, a0g_38, a0g_39])), (a0_15, .inl (ka0_15, 156, .inl (fa0_15)))]) hP hD hS hA [0, 2] (by decide +kernel) rfl (fun hPc hDc hFc hCc => ?_)
            have hKc := hK.sub (tys' := [(ka0_15, .int)]) [1] rfl
            refine va_calli (va_runV (As := [.int x3]) (rest := [.int 19, .ref a1]) ⟨hx, hb, hml, hown, hts⟩ (c_X8_nextOf l dC dI H.size a0 x3 a0g_0 a0g_1 a0g_2 a0g_3 a0g_4 a0g_5 a0g_6 a0g_7 a0g_8 a0g_9 a0g_10 a0g_11 a0g_12 a0g_13 a0g_14 a0g_16 a0g_17 a0g_18 a0g_19 a0g_20 a0g_21 a0g_22 (Value.ref a0_23) (Value.ref a0_24) (Value.int a0_25) (Value.int x3) (Value.int (-1)) (Value.int v63na0_28) a0g_29 a0g_30 a0g_31 a0g_32 a0g_33 a0g_34 a0g_35 a0g_36 a0g_37 a0g_38 a0g_39 a0_15 ka0_15 fa0_15 bx3.1 bx3.2 bfa0_15) (cwV 1 hts gX8_minuteOn_X8_nextOf rfl rfl rfl zd_X8_nextOf ⟨Nat.le_of_ble_eq_true rfl, Nat.le_of_ble_eq_true rfl⟩) ⟨ax_blind (fun _ _ _ _ _ => trivial), zr_8 hKc hPc (q0 := 0) rfl, ax_pre hPc hKc hDc (fun _ _ => trivial)⟩ rfl rfl hl.1 rfl (lv_room (Nat.le_of_ble_eq_true rfl)) dX8_minuteOn_133 ⟨Nat.le_of_ble_eq_true rfl, Nat.le_of_ble_eq_true rfl⟩) hS (fun q _ h => hFc q h) hFc (fun r133 u t H locs ht hvm hw hB hz1 hk1 hS1 => zo hB ht hS1 (fun hP1 hK1 hD1 hS => ?_))
            refine zc_backc (w := [(a0, .inr (8, [a0g_0, a0g_1, a0g_2, a0g_3, a0g_4, a0g_5, a0g_6, a0g_7, a0g_8, a0g_9, a0g_10, a0g_11, a0g_12, a0g_13, a0g_14, Value.ref a0_15, a0g_16, a0g_17, a0g_18, a0g_19, a0g_20, a0g_21, a0g_22, Value.ref a0_23, Value.ref a0_24, Value.int a0_25, Value.int x3, Value.int (-1), Value.int v63na0_28, a0g_29, a0g_30, a0g_31, a0g_32, a0g_33, a0g_34, a0g_35, a0g_36, a0g_37, a0g_38, a0g_39])), (a1, .inl (ka1, 23, .inl (f127))), (a0_15, .inl (ka0_15, 156, .inl (fa0_15))), (a0_24, .inl (ka0_24, 3, .inl (fa0_24))), (a0_23, .inl (ka0_23, 3, .inl (fa0_23)))]) hP hD hCc hk1 hFc hP1 hD1 [.inr 0, .inl 1, .inr 1, .inl 3, .inl 4] (by decide +kernel) rfl (fun hP hD => ?_)
            have hw : (0 : Int) ≤ r133.toInt ∧ r133.toInt ≤ (8 : Int) := hw
            obtain ⟨h133_0, h133_1⟩ := hw
            refine va_iast hx hb hK hP hD hS 1 0 rfl rfl (by unfold vp_in; decide +kernel) dX8_minuteOn_136 (fun H locs hP hD hS => ?_)
            obtain ⟨f136, ef136⟩ : ∃ g9 : Nat → Int32, g9 = upd f127 (19 : Int32).toNatClampNeg r133 := ⟨_, rfl⟩
            refine zs_1 (y := (a1, .inl (ka1, 23, .inl (f136)))) hP hD (by rw [ef136]) (fun hP hD => ?_)
            have bf136 : ((∀ k : Nat, 0 ≤ k → k ≤ 8 → (0 : Int) ≤ (f136 k).toInt ∧ (f136 k).toInt ≤ 8) ∧ (∀ k : Nat, 19 ≤ k → k ≤ 19 → (0 : Int) ≤ (f136 k).toInt ∧ (f136 k).toInt ≤ 8) ∧ (∀ k : Nat, 20 ≤ k → k ≤ 20 → (0 : Int) ≤ (f136 k).toInt ∧ (f136 k).toInt ≤ 19)) := by rw [ef136]; exact ⟨ai_updO bf127.1 _ (Or.inr (ai_ngt_of zq162 (by decide) (by decide))), ai_updS bf127.2.1 _ ⟨h133_0, h133_1⟩, ai_updO bf127.2.2 _ (Or.inl (ai_nlt_of zq162 zq163 (by decide) (by decide)))⟩
            have kf136_19 : f136 19 = r133 := by rw [ef136]; exact ai_k1 (by decide +kernel)
            have kf136_20 : f136 20 = 0 := by rw [ef136]; exact ai_k2 (by decide +kernel) kf127_20
            have kf136_21 : f136 21 = x99 := by rw [ef136]; exact ai_k2 (by decide +kernel) kf127_21
            exact W.vret hx hb hr (fun t ht hW => ⟨⟨(), rfl, trivial, x3, (-1), v63na0_28, f136, bf136, by rw [ht]; exact hP, va_K.moved hW.alike hK, hD⟩, hS.F ht⟩) hS.2.2 dX8_minuteOn_137
          · have gc119 := ai_nle c119
            have u119f_x107 : x107.toInt ≤ (19 : Int) := ai_lthi gc119 bx118.2
            have u119f_x105 : x105.toInt ≤ (18 : Int) := by have h1 := wx107; have h2 := u119f_x107; omega
            have l119f_x118 : (2 : Int) ≤ x118.toInt := ai_ltlo gc119 bx107.1
            exact W.vret hx hb hr (fun t ht hW => ⟨⟨(), rfl, trivial, x3, (-1), v63na0_28, f108, ⟨bf108.1, bf108.2.1, ai_one (by rw [kf108_20]; exact ⟨(Int.le_trans zq4 bx107.1), u119f_x107⟩)⟩, by rw [ht]; exact hP, va_K.moved hW.alike hK, hD⟩, hS.F ht⟩) hS.2.2 dX8_minuteOn_122
        · subst hw
          refine lv_if_eq (tgt := 87) hx hb dX8_minuteOn_80 (by decide) (fun _ => ?_) (fun c80 => absurd (by decide +kernel) c80)
          refine lv_aload_n hx hb dX8_minuteOn_87 rfl (lv_at hl 2 rfl) ?_
          refine lv_iload_n hx hb dX8_minuteOn_88 rfl (lv_at hl 0 rfl) ?_
          refine va_iald hx hb hK hP 1 0 rfl rfl (ai_in bx3.1 bx3.2 (by decide) (by decide)) dX8_minuteOn_89 ?_
          refine lv_topi (fun x89 ex89 => ?_)
          have bx89 : (0 : Int) ≤ x89.toInt ∧ x89.toInt ≤ 8 := by rw [ex89]; exact ai_rd bv63nfa1.1 bx3.1 bx3.2 (by decide) (by decide) (by decide)
          refine va_put (D := (dC, dI)) (ci := 8) (v := .int x89) (ty := .int) (C := RX8) (T := TX8) (N := 40) hx hb hts zi_X8_minuteOn_8 tyX8 tyX8_ok nmX8 hown hK hP hD hS 0 rfl rfl 27 (by decide) (hts (.fieldLink RX8 261 "WaxTurnsModel" "livedAt" "I") (zm_X8_minuteOn_r1 (List.mem_of_getElem? (i := 3) rfl))) (fun _ h9 => h9) rfl (tyX8_ok 27 (by decide)) rfl rfl (Nat.le_of_ble_eq_true rfl) dX8_minuteOn_90 (fun H locs hP hD hS => ?_)
          refine zs_0 (y := (a0, .inr (8, [a0g_0, a0g_1, a0g_2, a0g_3, a0g_4, a0g_5, a0g_6, a0g_7, a0g_8, a0g_9, a0g_10, a0g_11, a0g_12, a0g_13, a0g_14, Value.ref a0_15, a0g_16, a0g_17, a0g_18, a0g_19, a0g_20, a0g_21, a0g_22, Value.ref a0_23, Value.ref a0_24, Value.int a0_25, Value.int x3, Value.int x89, Value.int v63na0_28, a0g_29, a0g_30, a0g_31, a0g_32, a0g_33, a0g_34, a0g_35, a0g_36, a0g_37, a0g_38, a0g_39]))) hP hD rfl (fun hP hD => ?_)
          refine lv_aload_n hx hb dX8_minuteOn_93 rfl (lv_at hl 2 rfl) ?_
          refine lv_bipush (v := 21) hx hb dX8_minuteOn_94 zk_bipush_21 ?_
          refine lv_dup2_11 hx hb dX8_minuteOn_96 rfl rfl ?_
          refine va_iald hx hb hK hP 1 0 rfl rfl (by unfold vp_in; decide +kernel) dX8_minuteOn_97 ?_
          refine lv_topi (fun x97 ex97 => ?_)
          refine lv_iconst (v := 1) hx hb dX8_minuteOn_98 zk_iconst_1 ?_
          refine lv_iadd hx hb dX8_minuteOn_99 ?_
          refine lv_topi (fun x99 ex99 => ?_)
          refine va_iast hx hb hK hP hD hS 1 0 rfl rfl (by unfold vp_in; decide +kernel) dX8_minuteOn_100 (fun H locs hP hD hS => ?_)
          obtain ⟨f100, ef100⟩ : ∃ g9 : Nat → Int32, g9 = upd v63nfa1 (21 : Int32).toNatClampNeg x99 := ⟨_, rfl⟩
          refine zs_1 (y := (a1, .inl (ka1, 23, .inl (f100)))) hP hD (by rw [ef100]) (fun hP hD => ?_)
          have bf100 : ((∀ k : Nat, 0 ≤ k → k ≤ 8 → (0 : Int) ≤ (f100 k).toInt ∧ (f100 k).toInt ≤ 8) ∧ (∀ k : Nat, 19 ≤ k → k ≤ 19 → (0 : Int) ≤ (f100 k).toInt ∧ (f100 k).toInt ≤ 8) ∧ (∀ k : Nat, 20 ≤ k → k ≤ 20 → (0 : Int) ≤ (f100 k).toInt ∧ (f100 k).toInt ≤ 19)) := by rw [ef100]; exact ⟨ai_updO bv63nfa1.1 _ (Or.inr (ai_ngt_of zq164 (by decide) (by decide))), ai_updO bv63nfa1.2.1 _ (Or.inr (ai_ngt_of zq164 (by decide) (by decide))), ai_updO bv63nfa1.2.2 _ (Or.inr (ai_ngt_of zq164 (by decide) (by decide)))⟩
          have kf100_21 : f100 21 = x99 := by rw [ef100]; exact ai_k1 (by decide +kernel)
          refine lv_aload_n hx hb dX8_minuteOn_101 rfl (lv_at hl 2 rfl) ?_
          refine lv_bipush (v := 20) hx hb dX8_minuteOn_102 zk_bipush_20 ?_
          refine lv_dup2_11 hx hb dX8_minuteOn_104 rfl rfl ?_
          refine va_iald hx hb hK hP 1 0 rfl rfl (by unfold vp_in; decide +kernel) dX8_minuteOn_105 ?_
          refine lv_topi (fun x105 ex105 => ?_)
          have bx105 : (0 : Int) ≤ x105.toInt ∧ x105.toInt ≤ 19 := by rw [ex105]; exact ai_rd bf100.2.2 zq155 zq156 (by decide) (by decide) (by decide)
          refine lv_iconst (v := 1) hx hb dX8_minuteOn_106 zk_iconst_1 ?_
          refine lv_iadd hx hb dX8_minuteOn_107 ?_
          refine lv_topi (fun x107 ex107 => ?_)
          have qx107 : x107.toInt = x105.toInt + (1 : Int32).toInt := ai_add ex107 ⟨bx105.1, bx105.2⟩ ⟨zq1, zq0⟩ (by decide) (by decide)
          have bx107 : (1 : Int) ≤ x107.toInt ∧ x107.toInt ≤ 20 := ⟨by rw [qx107]; exact Int.add_le_add bx105.1 zq1, by rw [qx107]; exact Int.add_le_add bx105.2 zq0⟩
          have wx107 : x107.toInt = x105.toInt + 1 := qx107
          refine va_iast hx hb hK hP hD hS 1 0 rfl rfl (by unfold vp_in; decide +kernel) dX8_minuteOn_108 (fun H locs hP hD hS => ?_)
          obtain ⟨f108, ef108⟩ : ∃ g9 : Nat → Int32, g9 = upd f100 (20 : Int32).toNatClampNeg x107 := ⟨_, rfl⟩
          refine zs_1 (y := (a1, .inl (ka1, 23, .inl (f108)))) hP hD (by rw [ef108]) (fun hP hD => ?_)
          have bf108 : ((∀ k : Nat, 0 ≤ k → k ≤ 8 → (0 : Int) ≤ (f108 k).toInt ∧ (f108 k).toInt ≤ 8) ∧ (∀ k : Nat, 19 ≤ k → k ≤ 19 → (0 : Int) ≤ (f108 k).toInt ∧ (f108 k).toInt ≤ 8) ∧ True) := by rw [ef108]; exact ⟨ai_updO bf100.1 _ (Or.inr (ai_ngt_of zq155 (by decide) (by decide))), ai_updO bf100.2.1 _ (Or.inr (ai_ngt_of zq155 (by decide) (by decide))), trivial⟩
          have kf108_20 : f108 20 = x107 := by rw [ef108]; exact ai_k1 (by decide +kernel)
          have kf108_21 : f108 21 = x99 := by rw [ef108]; exact ai_k2 (by decide +kernel) kf100_21
          refine lv_aload_n hx hb dX8_minuteOn_109 rfl (lv_at hl 2 rfl) ?_
          refine lv_bipush (v := 20) hx hb dX8_minuteOn_110 zk_bipush_20 ?_
          refine va_iald hx hb hK hP 1 0 rfl rfl (by unfold vp_in; decide +kernel) dX8_minuteOn_112 ?_
          refine ax_ti x107 ((congrArg f108 (by decide +kernel : (20 : Int32).toNatClampNeg = 20)).trans kf108_20) ?_
          refine lv_aload_n hx hb dX8_minuteOn_113 rfl (lv_at hl 1 rfl) ?_
          refine va_get (D := (dC, dI)) (ci := 8) (v := .ref a0_15) (C := RX8) (T := TX8) (N := 40) hx hb hts zi_X8_minuteOn_8 hown hK hP 0 rfl rfl 15 (by decide) (hts (.fieldLink RX8 20 "WaxTurnsModel" "\x72" "[I") (zm_X8_minuteOn_r1 (List.mem_of_getElem? (i := 1) rfl))) (fun _ h9 => h9) rfl dX8_minuteOn_114 ?_
          refine lv_iconst (v := 1) hx hb dX8_minuteOn_117 zk_iconst_1 ?_
          refine va_iald hx hb hK hP 2 1 rfl rfl (by unfold vp_in; decide +kernel) dX8_minuteOn_118 ?_
          refine lv_topi (fun x118 ex118 => ?_)
          have bx118 : (1 : Int) ≤ x118.toInt ∧ x118.toInt ≤ 20 := by rw [ex118]; exact ai_rd bfa0_15.2.1 zq1 zq0 (by decide) (by decide) (by decide)
          refine lv_icmp_ge (tgt := 123) hx hb dX8_minuteOn_119 (by decide) (fun c119 => ?_) (fun c119 => ?_)
          · have gc119 := ai_le c119
            have u119t_x118 : x118.toInt ≤ (20 : Int) := bx118.2
            have l119t_x107 : (1 : Int) ≤ x107.toInt := bx107.1
            refine lv_aload_n hx hb dX8_minuteOn_123 rfl (lv_at hl 2 rfl) ?_
            refine lv_bipush (v := 20) hx hb dX8_minuteOn_124 zk_bipush_20 ?_
            refine lv_iconst (v := 0) hx hb dX8_minuteOn_126 zk_iconst_0 ?_
            refine va_iast hx hb hK hP hD hS 1 0 rfl rfl (by unfold vp_in; decide +kernel) dX8_minuteOn_127 (fun H locs hP hD hS => ?_)
            obtain ⟨f127, ef127⟩ : ∃ g9 : Nat → Int32, g9 = upd f108 (20 : Int32).toNatClampNeg (0 : Int32) := ⟨_, rfl⟩
            refine zs_1 (y := (a1, .inl (ka1, 23, .inl (f127)))) hP hD (by rw [ef127]) (fun hP hD => ?_)
            have bf127 : ((∀ k : Nat, 0 ≤ k → k ≤ 8 → (0 : Int) ≤ (f127 k).toInt ∧ (f127 k).toInt ≤ 8) ∧ (∀ k : Nat, 19 ≤ k → k ≤ 19 → (0 : Int) ≤ (f127 k).toInt ∧ (f127 k).toInt ≤ 8) ∧ (∀ k : Nat, 20 ≤ k → k ≤ 20 → (0 : Int) ≤ (f127 k).toInt ∧ (f127 k).toInt ≤ 19)) := by rw [ef127]; exact ⟨ai_updO bf108.1 _ (Or.inr (ai_ngt_of zq155 (by decide) (by decide))), ai_updO bf108.2.1 _ (Or.inr (ai_ngt_of zq155 (by decide) (by decide))), ai_new (by decide +kernel) ⟨zq5, (Int.le_trans zq6 zq165)⟩⟩
            have kf127_20 : f127 20 = 0 := by rw [ef127]; exact ai_k1 (by decide +kernel)
            have kf127_21 : f127 21 = x99 := by rw [ef127]; exact ai_k2 (by decide +kernel) kf108_21
            refine lv_aload_n hx hb dX8_minuteOn_128 rfl (lv_at hl 2 rfl) ?_
            refine lv_bipush (v := 19) hx hb dX8_minuteOn_129 zk_bipush_19 ?_
            refine lv_aload_n hx hb dX8_minuteOn_131 rfl (lv_at hl 1 rfl) ?_
            refine lv_iload_n hx hb dX8_minuteOn_132 rfl (lv_at hl 0 rfl) ?_
            refine zc_cutc (wc := [(a0, .inr (8, [a0g_0, a0g_1, a0g_2, a0g_3, a0g_4, a0g_5, a0g_6, a0g_7, a0g_8, a0g_9, a0g_10, a0g_11, a0g_12, a0g_13, a0g_14, Value.ref a0_15, a0g_16, a0g_17, a0g_18, a0g_19, a0g_20, a0g_21, a0g_22, Value.ref a0_23, Value.ref a0_24, Value.int a0_25, Value.int x3, Value.int x89, Value.int v63na0_28, a0g_29, a0g_30, a0g_31, a0g_32, a0g_33, a0g_34, a0g_35, a0g_36, a0g_37, a0g_38, a0g_39])), (a0_15, .inl (ka0_15, 156, .inl (fa0_15)))]) hP hD hS hA [0, 2] (by decide +kernel) rfl (fun hPc hDc hFc hCc => ?_)
            have hKc := hK.sub (tys' := [(ka0_15, .int)]) [1] rfl
            refine va_calli (va_runV (As := [.int x3]) (rest := [.int 19, .ref a1]) ⟨hx, hb, hml, hown, hts⟩ (c_X8_nextOf l dC dI H.size a0 x3 a0g_0 a0g_1 a0g_2 a0g_3 a0g_4 a0g_5 a0g_6 a0g_7 a0g_8 a0g_9 a0g_10 a0g_11 a0g_12 a0g_13 a0g_14 a0g_16 a0g_17 a0g_18 a0g_19 a0g_20 a0g_21 a0g_22 (Value.ref a0_23) (Value.ref a0_24) (Value.int a0_25) (Value.int x3) (Value.int x89) (Value.int v63na0_28) a0g_29 a0g_30 a0g_31 a0g_32 a0g_33 a0g_34 a0g_35 a0g_36 a0g_37 a0g_38 a0g_39 a0_15 ka0_15 fa0_15 bx3.1 bx3.2 bfa0_15) (cwV 1 hts gX8_minuteOn_X8_nextOf rfl rfl rfl zd_X8_nextOf ⟨Nat.le_of_ble_eq_true rfl, Nat.le_of_ble_eq_true rfl⟩) ⟨ax_blind (fun _ _ _ _ _ => trivial), zr_8 hKc hPc (q0 := 0) rfl, ax_pre hPc hKc hDc (fun _ _ => trivial)⟩ rfl rfl hl.1 rfl (lv_room (Nat.le_of_ble_eq_true rfl)) dX8_minuteOn_133 ⟨Nat.le_of_ble_eq_true rfl, Nat.le_of_ble_eq_true rfl⟩) hS (fun q _ h => hFc q h) hFc (fun r133 u t H locs ht hvm hw hB hz1 hk1 hS1 => zo hB ht hS1 (fun hP1 hK1 hD1 hS => ?_))
            refine zc_backc (w := [(a0, .inr (8, [a0g_0, a0g_1, a0g_2, a0g_3, a0g_4, a0g_5, a0g_6, a0g_7, a0g_8, a0g_9, a0g_10, a0g_11, a0g_12, a0g_13, a0g_14, Value.ref a0_15, a0g_16, a0g_17, a0g_18, a0g_19, a0g_20, a0g_21, a0g_22, Value.ref a0_23, Value.ref a0_24, Value.int a0_25, Value.int x3, Value.int x89, Value.int v63na0_28, a0g_29, a0g_30, a0g_31, a0g_32, a0g_33, a0g_34, a0g_35, a0g_36, a0g_37, a0g_38, a0g_39])), (a1, .inl (ka1, 23, .inl (f127))), (a0_15, .inl (ka0_15, 156, .inl (fa0_15))), (a0_24, .inl (ka0_24, 3, .inl (fa0_24))), (a0_23, .inl (ka0_23, 3, .inl (fa0_23)))]) hP hD hCc hk1 hFc hP1 hD1 [.inr 0, .inl 1, .inr 1, .inl 3, .inl 4] (by decide +kernel) rfl (fun hP hD => ?_)
            have hw : (0 : Int) ≤ r133.toInt ∧ r133.toInt ≤ (8 : Int) := hw
            obtain ⟨h133_0, h133_1⟩ := hw
            refine va_iast hx hb hK hP hD hS 1 0 rfl rfl (by unfold vp_in; decide +kernel) dX8_minuteOn_136 (fun H locs hP hD hS => ?_)
            obtain ⟨f136, ef136⟩ : ∃ g9 : Nat → Int32, g9 = upd f127 (19 : Int32).toNatClampNeg r133 := ⟨_, rfl⟩
            refine zs_1 (y := (a1, .inl (ka1, 23, .inl (f136)))) hP hD (by rw [ef136]) (fun hP hD => ?_)
            have bf136 : ((∀ k : Nat, 0 ≤ k → k ≤ 8 → (0 : Int) ≤ (f136 k).toInt ∧ (f136 k).toInt ≤ 8) ∧ (∀ k : Nat, 19 ≤ k → k ≤ 19 → (0 : Int) ≤ (f136 k).toInt ∧ (f136 k).toInt ≤ 8) ∧ (∀ k : Nat, 20 ≤ k → k ≤ 20 → (0 : Int) ≤ (f136 k).toInt ∧ (f136 k).toInt ≤ 19)) := by rw [ef136]; exact ⟨ai_updO bf127.1 _ (Or.inr (ai_ngt_of zq162 (by decide) (by decide))), ai_updS bf127.2.1 _ ⟨h133_0, h133_1⟩, ai_updO bf127.2.2 _ (Or.inl (ai_nlt_of zq162 zq163 (by decide) (by decide)))⟩
            have kf136_19 : f136 19 = r133 := by rw [ef136]; exact ai_k1 (by decide +kernel)
            have kf136_20 : f136 20 = 0 := by rw [ef136]; exact ai_k2 (by decide +kernel) kf127_20
            have kf136_21 : f136 21 = x99 := by rw [ef136]; exact ai_k2 (by decide +kernel) kf127_21
            exact W.vret hx hb hr (fun t ht hW => ⟨⟨(), rfl, trivial, x3, x89, v63na0_28, f136, bf136, by rw [ht]; exact hP, va_K.moved hW.alike hK, hD⟩, hS.F ht⟩) hS.2.2 dX8_minuteOn_137
          · have gc119 := ai_nle c119
            have u119f_x107 : x107.toInt ≤ (19 : Int) := ai_lthi gc119 bx118.2
            have u119f_x105 : x105.toInt ≤ (18 : Int) := by have h1 := wx107; have h2 := u119f_x107; omega
            have l119f_x118 : (2 : Int) ≤ x118.toInt := ai_ltlo gc119 bx107.1
            exact W.vret hx hb hr (fun t ht hW => ⟨⟨(), rfl, trivial, x3, x89, v63na0_28, f108, ⟨bf108.1, bf108.2.1, ai_one (by rw [kf108_20]; exact ⟨(Int.le_trans zq4 bx107.1), u119f_x107⟩)⟩, by rw [ht]; exact hP, va_K.moved hW.alike hK, hD⟩, hS.F ht⟩) hS.2.2 dX8_minuteOn_122
    · have gc33 := ai_eq c33
      have u33f_x31 : x31.toInt ≤ (1 : Int) := Int.le_trans (Int.le_of_eq gc33) zq0
      have l33f_x31 : (1 : Int) ≤ x31.toInt := Int.le_trans zq1 (Int.le_of_eq gc33.symm)
      refine lv_aload_n hx hb dX8_minuteOn_36 rfl (lv_at hl 1 rfl) ?_
      refine lv_aload_n hx hb dX8_minuteOn_37 rfl (lv_at hl 2 rfl) ?_
      refine lv_iload_n hx hb dX8_minuteOn_38 rfl (lv_at hl 0 rfl) ?_
      have hKc := hK.sub (tys' := [(ka1, .int), (ka0_15, .int), (ka0_24, .int), (ka0_23, .int)]) [0, 1, 2, 3] rfl
      refine va_callv (va_runV (As := [.ref a1, .int x3]) (rest := []) ⟨hx, hb, hml, hown, hts⟩ (c_X8_walkOn l dC dI H.size a0 a1 x3 a0g_0 a0g_1 a0g_2 a0g_3 a0g_4 a0g_5 a0g_6 a0g_7 a0g_8 a0g_9 a0g_10 a0g_11 a0g_12 a0g_13 a0g_14 a0g_16 a0g_17 a0g_18 a0g_19 a0g_20 a0g_21 a0g_22 (Value.int a0_26) (Value.int a0_27) (Value.int 0) a0g_29 a0g_30 a0g_31 a0g_32 a0g_33 a0g_34 a0g_35 a0g_36 a0g_37 a0g_38 a0g_39 a0_15 a0_23 a0_24 a0_25 ka1 fa1 ka0_15 fa0_15 ka0_24 fa0_24 ka0_23 fa0_23 bx3.1 bx3.2 bfa1 bfa0_15 bfa0_24 bfa0_23 (fun i hi => hkm x3 x30 i bx3.1 bx3.2 (by omega) (by omega) (by rw [← ex31]; exact (ai_eq c33)))) (cwV 2 hts gX8_minuteOn_X8_walkOn rfl rfl rfl zd_X8_walkOn ⟨Nat.le_of_ble_eq_true rfl, Nat.le_of_ble_eq_true rfl⟩) ⟨ax_blind (fun _ _ _ _ _ => trivial), zr_8 hKc (zp_P5 hP) (q0 := 0) rfl, ax_pre (zp_P5 hP) hKc (zp_D5 hD) (fun _ _ => trivial)⟩ rfl rfl hl.1 rfl (lv_room (Nat.le_of_ble_eq_true rfl)) dX8_minuteOn_39 ⟨Nat.le_of_ble_eq_true rfl, Nat.le_of_ble_eq_true rfl⟩) hS (fun q _ h => zp_F5 hD hS hA q h) (zp_F5 hD hS hA) (fun u t H locs ht hvm hw => zx_1 (fun v39nfa1 => zy_1 (fun bv39nfa1 hB hz1 hk1 hS1 => zo5 hB ht hP hD hk1 (zp_F5 hD hS hA) hS1 (fun hP hK1 hD hS => ?_))))
      refine lv_goto (tgt := 66) hx hb dX8_minuteOn_42 (by decide) ?_
      refine lv_aload_n hx hb dX8_minuteOn_66 rfl (lv_at hl 1 rfl) ?_
      refine lv_iload_n hx hb dX8_minuteOn_67 rfl (lv_at hl 0 rfl) ?_
      refine va_put (D := (dC, dI)) (ci := 8) (v := .int x3) (ty := .int) (C := RX8) (T := TX8) (N := 40) hx hb hts zi_X8_minuteOn_8 tyX8 tyX8_ok nmX8 hown hK hP hD hS 0 rfl rfl 26 (by decide) (hts (.fieldLink RX8 258 "WaxTurnsModel" "lived" "I") (zm_X8_minuteOn_r1 (List.mem_of_getElem? (i := 2) rfl))) (fun _ h9 => h9) rfl (tyX8_ok 26 (by decide)) rfl rfl (Nat.le_of_ble_eq_true rfl) dX8_minuteOn_68 (fun H locs hP hD hS => ?_)
      refine zs_0 (y := (a0, .inr (8, [a0g_0, a0g_1, a0g_2, a0g_3, a0g_4, a0g_5, a0g_6, a0g_7, a0g_8, a0g_9, a0g_10, a0g_11, a0g_12, a0g_13, a0g_14, Value.ref a0_15, a0g_16, a0g_17, a0g_18, a0g_19, a0g_20, a0g_21, a0g_22, Value.ref a0_23, Value.ref a0_24, Value.int a0_25, Value.int x3, Value.int a0_27, Value.int 0, a0g_29, a0g_30, a0g_31, a0g_32, a0g_33, a0g_34, a0g_35, a0g_36, a0g_37, a0g_38, a0g_39]))) hP hD rfl (fun hP hD => ?_)
      refine lv_aload_n hx hb dX8_minuteOn_71 rfl (lv_at hl 1 rfl) ?_
      refine lv_aload_n hx hb dX8_minuteOn_72 rfl (lv_at hl 2 rfl) ?_
      refine lv_bipush (v := 18) hx hb dX8_minuteOn_73 zk_bipush_18 ?_
      refine va_iald hx hb hK hP 1 0 rfl rfl (by unfold vp_in; decide +kernel) dX8_minuteOn_75 ?_
      refine lv_topi (fun x75 ex75 => ?_)
      refine lv_iload_n hx hb dX8_minuteOn_76 rfl (lv_at hl 0 rfl) ?_
      refine va_calli (va_runS (As := [.int x75, .int x3]) (rest := [.ref a0]) ⟨hx, hb, hml, hown, hts⟩ (c_X8_hasBit l dC dI H.size x75 x3 ) (va_cwS 2 hts gX8_minuteOn_X8_hasBit rfl rfl rfl zd_X8_hasBit.2 ⟨Nat.le_of_ble_eq_true rfl, Nat.le_of_ble_eq_true rfl⟩) ⟨ax_blind (fun _ _ _ _ _ => trivial), ax_pre (zp_P0 hP) (zp_K hK) (zp_D0 hD) (fun _ _ => trivial)⟩ rfl rfl hl.1 rfl (lv_room (Nat.le_of_ble_eq_true rfl)) dX8_minuteOn_77 ⟨Nat.le_of_ble_eq_true rfl, Nat.le_of_ble_eq_true rfl⟩) hS (fun q _ h => zp_F0 hD hS hA q h) (zp_F0 hD hS hA) (fun r77 u t H locs ht hvm hw hB hz1 hk1 hS1 => zo0 hB ht hP hD hk1 (zp_F0 hD hS hA) hS1 (fun hP hK1 hD hS => ?_))
      rcases hw with hw | hw
      · subst hw
        refine lv_if_eq (tgt := 87) hx hb dX8_minuteOn_80 (by decide) (fun c80 => absurd c80 (by decide +kernel)) (fun _ => ?_)
        refine lv_iconst (v := (-1)) hx hb dX8_minuteOn_83 zk_iconst_n1 ?_
        refine lv_goto (tgt := 90) hx hb dX8_minuteOn_84 (by decide) ?_
        refine va_put (D := (dC, dI)) (ci := 8) (v := .int (-1)) (ty := .int) (C := RX8) (T := TX8) (N := 40) hx hb hts zi_X8_minuteOn_8 tyX8 tyX8_ok nmX8 hown hK hP hD hS 0 rfl rfl 27 (by decide) (hts (.fieldLink RX8 261 "WaxTurnsModel" "livedAt" "I") (zm_X8_minuteOn_r1 (List.mem_of_getElem? (i := 3) rfl))) (fun _ h9 => h9) rfl (tyX8_ok 27 (by decide)) rfl rfl (Nat.le_of_ble_eq_true rfl) dX8_minuteOn_90 (fun H locs hP hD hS => ?_)
        refine zs_0 (y := (a0, .inr (8, [a0g_0, a0g_1, a0g_2, a0g_3, a0g_4, a0g_5, a0g_6, a0g_7, a0g_8, a0g_9, a0g_10, a0g_11, a0g_12, a0g_13, a0g_14, Value.ref a0_15, a0g_16, a0g_17, a0g_18, a0g_19, a0g_20, a0g_21, a0g_22, Value.ref a0_23, Value.ref a0_24, Value.int a0_25, Value.int x3, Value.int (-1), Value.int 0, a0g_29, a0g_30, a0g_31, a0g_32, a0g_33, a0g_34, a0g_35, a0g_36, a0g_37, a0g_38, a0g_39]))) hP hD rfl (fun hP hD => ?_)
        refine lv_aload_n hx hb dX8_minuteOn_93 rfl (lv_at hl 2 rfl) ?_
        refine lv_bipush (v := 21) hx hb dX8_minuteOn_94 zk_bipush_21 ?_
        refine lv_dup2_11 hx hb dX8_minuteOn_96 rfl rfl ?_
        refine va_iald hx hb hK hP 1 0 rfl rfl (by unfold vp_in; decide +kernel) dX8_minuteOn_97 ?_
        refine lv_topi (fun x97 ex97 => ?_)
        refine lv_iconst (v := 1) hx hb dX8_minuteOn_98 zk_iconst_1 ?_
        refine lv_iadd hx hb dX8_minuteOn_99 ?_
        refine lv_topi (fun x99 ex99 => ?_)
        refine va_iast hx hb hK hP hD hS 1 0 rfl rfl (by unfold vp_in; decide +kernel) dX8_minuteOn_100 (fun H locs hP hD hS => ?_)
        obtain ⟨f100, ef100⟩ : ∃ g9 : Nat → Int32, g9 = upd v39nfa1 (21 : Int32).toNatClampNeg x99 := ⟨_, rfl⟩
        refine zs_1 (y := (a1, .inl (ka1, 23, .inl (f100)))) hP hD (by rw [ef100]) (fun hP hD => ?_)
        have bf100 : ((∀ k : Nat, 0 ≤ k → k ≤ 8 → (0 : Int) ≤ (f100 k).toInt ∧ (f100 k).toInt ≤ 8) ∧ (∀ k : Nat, 19 ≤ k → k ≤ 19 → (0 : Int) ≤ (f100 k).toInt ∧ (f100 k).toInt ≤ 8) ∧ (∀ k : Nat, 20 ≤ k → k ≤ 20 → (0 : Int) ≤ (f100 k).toInt ∧ (f100 k).toInt ≤ 19)) := by rw [ef100]; exact ⟨ai_updO bv39nfa1.1 _ (Or.inr (ai_ngt_of zq164 (by decide) (by decide))), ai_updO bv39nfa1.2.1 _ (Or.inr (ai_ngt_of zq164 (by decide) (by decide))), ai_updO bv39nfa1.2.2 _ (Or.inr (ai_ngt_of zq164 (by decide) (by decide)))⟩
        have kf100_21 : f100 21 = x99 := by rw [ef100]; exact ai_k1 (by decide +kernel)
        refine lv_aload_n hx hb dX8_minuteOn_101 rfl (lv_at hl 2 rfl) ?_
        refine lv_bipush (v := 20) hx hb dX8_minuteOn_102 zk_bipush_20 ?_
        refine lv_dup2_11 hx hb dX8_minuteOn_104 rfl rfl ?_
        refine va_iald hx hb hK hP 1 0 rfl rfl (by unfold vp_in; decide +kernel) dX8_minuteOn_105 ?_
        refine lv_topi (fun x105 ex105 => ?_)
        have bx105 : (0 : Int) ≤ x105.toInt ∧ x105.toInt ≤ 19 := by rw [ex105]; exact ai_rd bf100.2.2 zq155 zq156 (by decide) (by decide) (by decide)
        refine lv_iconst (v := 1) hx hb dX8_minuteOn_106 zk_iconst_1 ?_
        refine lv_iadd hx hb dX8_minuteOn_107 ?_
        refine lv_topi (fun x107 ex107 => ?_)
        have qx107 : x107.toInt = x105.toInt + (1 : Int32).toInt := ai_add ex107 ⟨bx105.1, bx105.2⟩ ⟨zq1, zq0⟩ (by decide) (by decide)
        have bx107 : (1 : Int) ≤ x107.toInt ∧ x107.toInt ≤ 20 := ⟨by rw [qx107]; exact Int.add_le_add bx105.1 zq1, by rw [qx107]; exact Int.add_le_add bx105.2 zq0⟩
        have wx107 : x107.toInt = x105.toInt + 1 := qx107
        refine va_iast hx hb hK hP hD hS 1 0 rfl rfl (by unfold vp_in; decide +kernel) dX8_minuteOn_108 (fun H locs hP hD hS => ?_)
        obtain ⟨f108, ef108⟩ : ∃ g9 : Nat → Int32, g9 = upd f100 (20 : Int32).toNatClampNeg x107 := ⟨_, rfl⟩
        refine zs_1 (y := (a1, .inl (ka1, 23, .inl (f108)))) hP hD (by rw [ef108]) (fun hP hD => ?_)
        have bf108 : ((∀ k : Nat, 0 ≤ k → k ≤ 8 → (0 : Int) ≤ (f108 k).toInt ∧ (f108 k).toInt ≤ 8) ∧ (∀ k : Nat, 19 ≤ k → k ≤ 19 → (0 : Int) ≤ (f108 k).toInt ∧ (f108 k).toInt ≤ 8) ∧ True) := by rw [ef108]; exact ⟨ai_updO bf100.1 _ (Or.inr (ai_ngt_of zq155 (by decide) (by decide))), ai_updO bf100.2.1 _ (Or.inr (ai_ngt_of zq155 (by decide) (by decide))), trivial⟩
        have kf108_20 : f108 20 = x107 := by rw [ef108]; exact ai_k1 (by decide +kernel)
        have kf108_21 : f108 21 = x99 := by rw [ef108]; exact ai_k2 (by decide +kernel) kf100_21
        refine lv_aload_n hx hb dX8_minuteOn_109 rfl (lv_at hl 2 rfl) ?_
        refine lv_bipush (v := 20) hx hb dX8_minuteOn_110 zk_bipush_20 ?_
        refine va_iald hx hb hK hP 1 0 rfl rfl (by unfold vp_in; decide +kernel) dX8_minuteOn_112 ?_
        refine ax_ti x107 ((congrArg f108 (by decide +kernel : (20 : Int32).toNatClampNeg = 20)).trans kf108_20) ?_
        refine lv_aload_n hx hb dX8_minuteOn_113 rfl (lv_at hl 1 rfl) ?_
        refine va_get (D := (dC, dI)) (ci := 8) (v := .ref a0_15) (C := RX8) (T := TX8) (N := 40) hx hb hts zi_X8_minuteOn_8 hown hK hP 0 rfl rfl 15 (by decide) (hts (.fieldLink RX8 20 "WaxTurnsModel" "\x72" "[I") (zm_X8_minuteOn_r1 (List.mem_of_getElem? (i := 1) rfl))) (fun _ h9 => h9) rfl dX8_minuteOn_114 ?_
        refine lv_iconst (v := 1) hx hb dX8_minuteOn_117 zk_iconst_1 ?_
        refine va_iald hx hb hK hP 2 1 rfl rfl (by unfold vp_in; decide +kernel) dX8_minuteOn_118 ?_
        refine lv_topi (fun x118 ex118 => ?_)
        have bx118 : (1 : Int) ≤ x118.toInt ∧ x118.toInt ≤ 20 := by rw [ex118]; exact ai_rd bfa0_15.2.1 zq1 zq0 (by decide) (by decide) (by decide)
        refine lv_icmp_ge (tgt := 123) hx hb dX8_minuteOn_119 (by decide) (fun c119 => ?_) (fun c119 => ?_)
        · have gc119 := ai_le c119
          have u119t_x118 : x118.toInt ≤ (20 : Int) := bx118.2
          have l119t_x107 : (1 : Int) ≤ x107.toInt := bx107.1
          refine lv_aload_n hx hb dX8_minuteOn_123 rfl (lv_at hl 2 rfl) ?_
          refine lv_bipush (v := 20) hx hb dX8_minuteOn_124 zk_bipush_20 ?_
          refine lv_iconst (v := 0) hx hb dX8_minuteOn_126 zk_iconst_0 ?_
          refine va_iast hx hb hK hP hD hS 1 0 rfl rfl (by unfold vp_in; decide +kernel) dX8_minuteOn_127 (fun H locs hP hD hS => ?_)
          obtain ⟨f127, ef127⟩ : ∃ g9 : Nat → Int32, g9 = upd f108 (20 : Int32).toNatClampNeg (0 : Int32) := ⟨_, rfl⟩
          refine zs_1 (y := (a1, .inl (ka1, 23, .inl (f127)))) hP hD (by rw [ef127]) (fun hP hD => ?_)
          have bf127 : ((∀ k : Nat, 0 ≤ k → k ≤ 8 → (0 : Int) ≤ (f127 k).toInt ∧ (f127 k).toInt ≤ 8) ∧ (∀ k : Nat, 19 ≤ k → k ≤ 19 → (0 : Int) ≤ (f127 k).toInt ∧ (f127 k).toInt ≤ 8) ∧ (∀ k : Nat, 20 ≤ k → k ≤ 20 → (0 : Int) ≤ (f127 k).toInt ∧ (f127 k).toInt ≤ 19)) := by rw [ef127]; exact ⟨ai_updO bf108.1 _ (Or.inr (ai_ngt_of zq155 (by decide) (by decide))), ai_updO bf108.2.1 _ (Or.inr (ai_ngt_of zq155 (by decide) (by decide))), ai_new (by decide +kernel) ⟨zq5, (Int.le_trans zq6 zq165)⟩⟩
          have kf127_20 : f127 20 = 0 := by rw [ef127]; exact ai_k1 (by decide +kernel)
          have kf127_21 : f127 21 = x99 := by rw [ef127]; exact ai_k2 (by decide +kernel) kf108_21
          refine lv_aload_n hx hb dX8_minuteOn_128 rfl (lv_at hl 2 rfl) ?_
          refine lv_bipush (v := 19) hx hb dX8_minuteOn_129 zk_bipush_19 ?_
          refine lv_aload_n hx hb dX8_minuteOn_131 rfl (lv_at hl 1 rfl) ?_
          refine lv_iload_n hx hb dX8_minuteOn_132 rfl (lv_at hl 0 rfl) ?_
          refine zc_cutc (wc := [(a0, .inr (8, [a0g_0, a0g_1, a0g_2, a0g_3, a0g_4, a0g_5, a0g_6, a0g_7, a0g_8, a0g_9, a0g_10, a0g_11, a0g_12, a0g_13, a0g_14, Value.ref a0_15, a0g_16, a0g_17, a0g_18, a0g_19, a0g_20, a0g_21, a0g_22, Value.ref a0_23, Value.ref a0_24, Value.int a0_25, Value.int x3, Value.int (-1), Value.int 0, a0g_29, a0g_30, a0g_31, a0g_32, a0g_33, a0g_34, a0g_35, a0g_36, a0g_37, a0g_38, a0g_39])), (a0_15, .inl (ka0_15, 156, .inl (fa0_15)))]) hP hD hS hA [0, 2] (by decide +kernel) rfl (fun hPc hDc hFc hCc => ?_)
          have hKc := hK.sub (tys' := [(ka0_15, .int)]) [1] rfl
          refine va_calli (va_runV (As := [.int x3]) (rest := [.int 19, .ref a1]) ⟨hx, hb, hml, hown, hts⟩ (c_X8_nextOf l dC dI H.size a0 x3 a0g_0 a0g_1 a0g_2 a0g_3 a0g_4 a0g_5 a0g_6 a0g_7 a0g_8 a0g_9 a0g_10 a0g_11 a0g_12 a0g_13 a0g_14 a0g_16 a0g_17 a0g_18 a0g_19 a0g_20 a0g_21 a0g_22 (Value.ref a0_23) (Value.ref a0_24) (Value.int a0_25) (Value.int x3) (Value.int (-1)) (Value.int 0) a0g_29 a0g_30 a0g_31 a0g_32 a0g_33 a0g_34 a0g_35 a0g_36 a0g_37 a0g_38 a0g_39 a0_15 ka0_15 fa0_15 bx3.1 bx3.2 bfa0_15) (cwV 1 hts gX8_minuteOn_X8_nextOf rfl rfl rfl zd_X8_nextOf ⟨Nat.le_of_ble_eq_true rfl, Nat.le_of_ble_eq_true rfl⟩) ⟨ax_blind (fun _ _ _ _ _ => trivial), zr_8 hKc hPc (q0 := 0) rfl, ax_pre hPc hKc hDc (fun _ _ => trivial)⟩ rfl rfl hl.1 rfl (lv_room (Nat.le_of_ble_eq_true rfl)) dX8_minuteOn_133 ⟨Nat.le_of_ble_eq_true rfl, Nat.le_of_ble_eq_true rfl⟩) hS (fun q _ h => hFc q h) hFc (fun r133 u t H locs ht hvm hw hB hz1 hk1 hS1 => zo hB ht hS1 (fun hP1 hK1 hD1 hS => ?_))
          refine zc_backc (w := [(a0, .inr (8, [a0g_0, a0g_1, a0g_2, a0g_3, a0g_4, a0g_5, a0g_6, a0g_7, a0g_8, a0g_9, a0g_10, a0g_11, a0g_12, a0g_13, a0g_14, Value.ref a0_15, a0g_16, a0g_17, a0g_18, a0g_19, a0g_20, a0g_21, a0g_22, Value.ref a0_23, Value.ref a0_24, Value.int a0_25, Value.int x3, Value.int (-1), Value.int 0, a0g_29, a0g_30, a0g_31, a0g_32, a0g_33, a0g_34, a0g_35, a0g_36, a0g_37, a0g_38, a0g_39])), (a1, .inl (ka1, 23, .inl (f127))), (a0_15, .inl (ka0_15, 156, .inl (fa0_15))), (a0_24, .inl (ka0_24, 3, .inl (fa0_24))), (a0_23, .inl (ka0_23, 3, .inl (fa0_23)))]) hP hD hCc hk1 hFc hP1 hD1 [.inr 0, .inl 1, .inr 1, .inl 3, .inl 4] (by decide +kernel) rfl (fun hP hD => ?_)
          have hw : (0 : Int) ≤ r133.toInt ∧ r133.toInt ≤ (8 : Int) := hw
          obtain ⟨h133_0, h133_1⟩ := hw
          refine va_iast hx hb hK hP hD hS 1 0 rfl rfl (by unfold vp_in; decide +kernel) dX8_minuteOn_136 (fun H locs hP hD hS => ?_)
          obtain ⟨f136, ef136⟩ : ∃ g9 : Nat → Int32, g9 = upd f127 (19 : Int32).toNatClampNeg r133 := ⟨_, rfl⟩
          refine zs_1 (y := (a1, .inl (ka1, 23, .inl (f136)))) hP hD (by rw [ef136]) (fun hP hD => ?_)
          have bf136 : ((∀ k : Nat, 0 ≤ k → k ≤ 8 → (0 : Int) ≤ (f136 k).toInt ∧ (f136 k).toInt ≤ 8) ∧ (∀ k : Nat, 19 ≤ k → k ≤ 19 → (0 : Int) ≤ (f136 k).toInt ∧ (f136 k).toInt ≤ 8) ∧ (∀ k : Nat, 20 ≤ k → k ≤ 20 → (0 : Int) ≤ (f136 k).toInt ∧ (f136 k).toInt ≤ 19)) := by rw [ef136]; exact ⟨ai_updO bf127.1 _ (Or.inr (ai_ngt_of zq162 (by decide) (by decide))), ai_updS bf127.2.1 _ ⟨h133_0, h133_1⟩, ai_updO bf127.2.2 _ (Or.inl (ai_nlt_of zq162 zq163 (by decide) (by decide)))⟩
          have kf136_19 : f136 19 = r133 := by rw [ef136]; exact ai_k1 (by decide +kernel)
          have kf136_20 : f136 20 = 0 := by rw [ef136]; exact ai_k2 (by decide +kernel) kf127_20
          have kf136_21 : f136 21 = x99 := by rw [ef136]; exact ai_k2 (by decide +kernel) kf127_21
          exact W.vret hx hb hr (fun t ht hW => ⟨⟨(), rfl, trivial, x3, (-1), 0, f136, bf136, by rw [ht]; exact hP, va_K.moved hW.alike hK, hD⟩, hS.F ht⟩) hS.2.2 dX8_minuteOn_137
        · have gc119 := ai_nle c119
          have u119f_x107 : x107.toInt ≤ (19 : Int) := ai_lthi gc119 bx118.2
          have u119f_x105 : x105.toInt ≤ (18 : Int) := by have h1 := wx107; have h2 := u119f_x107; omega
          have l119f_x118 : (2 : Int) ≤ x118.toInt := ai_ltlo gc119 bx107.1
          exact W.vret hx hb hr (fun t ht hW => ⟨⟨(), rfl, trivial, x3, (-1), 0, f108, ⟨bf108.1, bf108.2.1, ai_one (by rw [kf108_20]; exact ⟨(Int.le_trans zq4 bx107.1), u119f_x107⟩)⟩, by rw [ht]; exact hP, va_K.moved hW.alike hK, hD⟩, hS.F ht⟩) hS.2.2 dX8_minuteOn_122
      · subst hw
        refine lv_if_eq (tgt := 87) hx hb dX8_minuteOn_80 (by decide) (fun _ => ?_) (fun c80 => absurd (by decide +kernel) c80)
        refine lv_aload_n hx hb dX8_minuteOn_87 rfl (lv_at hl 2 rfl) ?_
        refine lv_iload_n hx hb dX8_minuteOn_88 rfl (lv_at hl 0 rfl) ?_
        refine va_iald hx hb hK hP 1 0 rfl rfl (ai_in bx3.1 bx3.2 (by decide) (by decide)) dX8_minuteOn_89 ?_
        refine lv_topi (fun x89 ex89 => ?_)
        have bx89 : (0 : Int) ≤ x89.toInt ∧ x89.toInt ≤ 8 := by rw [ex89]; exact ai_rd bv39nfa1.1 bx3.1 bx3.2 (by decide) (by decide) (by decide)
        refine va_put (D := (dC, dI)) (ci := 8) (v := .int x89) (ty := .int) (C := RX8) (T := TX8) (N := 40) hx hb hts zi_X8_minuteOn_8 tyX8 tyX8_ok nmX8 hown hK hP hD hS 0 rfl rfl 27 (by decide) (hts (.fieldLink RX8 261 "WaxTurnsModel" "livedAt" "I") (zm_X8_minuteOn_r1 (List.mem_of_getElem? (i := 3) rfl))) (fun _ h9 => h9) rfl (tyX8_ok 27 (by decide)) rfl rfl (Nat.le_of_ble_eq_true rfl) dX8_minuteOn_90 (fun H locs hP hD hS => ?_)
        refine zs_0 (y := (a0, .inr (8, [a0g_0, a0g_1, a0g_2, a0g_3, a0g_4, a0g_5, a0g_6, a0g_7, a0g_8, a0g_9, a0g_10, a0g_11, a0g_12, a0g_13, a0g_14, Value.ref a0_15, a0g_16, a0g_17, a0g_18, a0g_19, a0g_20, a0g_21, a0g_22, Value.ref a0_23, Value.ref a0_24, Value.int a0_25, Value.int x3, Value.int x89, Value.int 0, a0g_29, a0g_30, a0g_31, a0g_32, a0g_33, a0g_34, a0g_35, a0g_36, a0g_37, a0g_38, a0g_39]))) hP hD rfl (fun hP hD => ?_)
        refine lv_aload_n hx hb dX8_minuteOn_93 rfl (lv_at hl 2 rfl) ?_
        refine lv_bipush (v := 21) hx hb dX8_minuteOn_94 zk_bipush_21 ?_
        refine lv_dup2_11 hx hb dX8_minuteOn_96 rfl rfl ?_
        refine va_iald hx hb hK hP 1 0 rfl rfl (by unfold vp_in; decide +kernel) dX8_minuteOn_97 ?_
        refine lv_topi (fun x97 ex97 => ?_)
        refine lv_iconst (v := 1) hx hb dX8_minuteOn_98 zk_iconst_1 ?_
        refine lv_iadd hx hb dX8_minuteOn_99 ?_
        refine lv_topi (fun x99 ex99 => ?_)
        refine va_iast hx hb hK hP hD hS 1 0 rfl rfl (by unfold vp_in; decide +kernel) dX8_minuteOn_100 (fun H locs hP hD hS => ?_)
        obtain ⟨f100, ef100⟩ : ∃ g9 : Nat → Int32, g9 = upd v39nfa1 (21 : Int32).toNatClampNeg x99 := ⟨_, rfl⟩
        refine zs_1 (y := (a1, .inl (ka1, 23, .inl (f100)))) hP hD (by rw [ef100]) (fun hP hD => ?_)
        have bf100 : ((∀ k : Nat, 0 ≤ k → k ≤ 8 → (0 : Int) ≤ (f100 k).toInt ∧ (f100 k).toInt ≤ 8) ∧ (∀ k : Nat, 19 ≤ k → k ≤ 19 → (0 : Int) ≤ (f100 k).toInt ∧ (f100 k).toInt ≤ 8) ∧ (∀ k : Nat, 20 ≤ k → k ≤ 20 → (0 : Int) ≤ (f100 k).toInt ∧ (f100 k).toInt ≤ 19)) := by rw [ef100]; exact ⟨ai_updO bv39nfa1.1 _ (Or.inr (ai_ngt_of zq164 (by decide) (by decide))), ai_updO bv39nfa1.2.1 _ (Or.inr (ai_ngt_of zq164 (by decide) (by decide))), ai_updO bv39nfa1.2.2 _ (Or.inr (ai_ngt_of zq164 (by decide) (by decide)))⟩
        have kf100_21 : f100 21 = x99 := by rw [ef100]; exact ai_k1 (by decide +kernel)
        refine lv_aload_n hx hb dX8_minuteOn_101 rfl (lv_at hl 2 rfl) ?_
        refine lv_bipush (v := 20) hx hb dX8_minuteOn_102 zk_bipush_20 ?_
        refine lv_dup2_11 hx hb dX8_minuteOn_104 rfl rfl ?_
        refine va_iald hx hb hK hP 1 0 rfl rfl (by unfold vp_in; decide +kernel) dX8_minuteOn_105 ?_
        refine lv_topi (fun x105 ex105 => ?_)
        have bx105 : (0 : Int) ≤ x105.toInt ∧ x105.toInt ≤ 19 := by rw [ex105]; exact ai_rd bf100.2.2 zq155 zq156 (by decide) (by decide) (by decide)
        refine lv_iconst (v := 1) hx hb dX8_minuteOn_106 zk_iconst_1 ?_
        refine lv_iadd hx hb dX8_minuteOn_107 ?_
        refine lv_topi (fun x107 ex107 => ?_)
        have qx107 : x107.toInt = x105.toInt + (1 : Int32).toInt := ai_add ex107 ⟨bx105.1, bx105.2⟩ ⟨zq1, zq0⟩ (by decide) (by decide)
        have bx107 : (1 : Int) ≤ x107.toInt ∧ x107.toInt ≤ 20 := ⟨by rw [qx107]; exact Int.add_le_add bx105.1 zq1, by rw [qx107]; exact Int.add_le_add bx105.2 zq0⟩
        have wx107 : x107.toInt = x105.toInt + 1 := qx107
        refine va_iast hx hb hK hP hD hS 1 0 rfl rfl (by unfold vp_in; decide +kernel) dX8_minuteOn_108 (fun H locs hP hD hS => ?_)
        obtain ⟨f108, ef108⟩ : ∃ g9 : Nat → Int32, g9 = upd f100 (20 : Int32).toNatClampNeg x107 := ⟨_, rfl⟩
        refine zs_1 (y := (a1, .inl (ka1, 23, .inl (f108)))) hP hD (by rw [ef108]) (fun hP hD => ?_)
        have bf108 : ((∀ k : Nat, 0 ≤ k → k ≤ 8 → (0 : Int) ≤ (f108 k).toInt ∧ (f108 k).toInt ≤ 8) ∧ (∀ k : Nat, 19 ≤ k → k ≤ 19 → (0 : Int) ≤ (f108 k).toInt ∧ (f108 k).toInt ≤ 8) ∧ True) := by rw [ef108]; exact ⟨ai_updO bf100.1 _ (Or.inr (ai_ngt_of zq155 (by decide) (by decide))), ai_updO bf100.2.1 _ (Or.inr (ai_ngt_of zq155 (by decide) (by decide))), trivial⟩
        have kf108_20 : f108 20 = x107 := by rw [ef108]; exact ai_k1 (by decide +kernel)
        have kf108_21 : f108 21 = x99 := by rw [ef108]; exact ai_k2 (by decide +kernel) kf100_21
        refine lv_aload_n hx hb dX8_minuteOn_109 rfl (lv_at hl 2 rfl) ?_
        refine lv_bipush (v := 20) hx hb dX8_minuteOn_110 zk_bipush_20 ?_
        refine va_iald hx hb hK hP 1 0 rfl rfl (by unfold vp_in; decide +kernel) dX8_minuteOn_112 ?_
        refine ax_ti x107 ((congrArg f108 (by decide +kernel : (20 : Int32).toNatClampNeg = 20)).trans kf108_20) ?_
        refine lv_aload_n hx hb dX8_minuteOn_113 rfl (lv_at hl 1 rfl) ?_
        refine va_get (D := (dC, dI)) (ci := 8) (v := .ref a0_15) (C := RX8) (T := TX8) (N := 40) hx hb hts zi_X8_minuteOn_8 hown hK hP 0 rfl rfl 15 (by decide) (hts (.fieldLink RX8 20 "WaxTurnsModel" "\x72" "[I") (zm_X8_minuteOn_r1 (List.mem_of_getElem? (i := 1) rfl))) (fun _ h9 => h9) rfl dX8_minuteOn_114 ?_
        refine lv_iconst (v := 1) hx hb dX8_minuteOn_117 zk_iconst_1 ?_
        refine va_iald hx hb hK hP 2 1 rfl rfl (by unfold vp_in; decide +kernel) dX8_minuteOn_118 ?_
        refine lv_topi (fun x118 ex118 => ?_)
        have bx118 : (1 : Int) ≤ x118.toInt ∧ x118.toInt ≤ 20 := by rw [ex118]; exact ai_rd bfa0_15.2.1 zq1 zq0 (by decide) (by decide) (by decide)
        refine lv_icmp_ge (tgt := 123) hx hb dX8_minuteOn_119 (by decide) (fun c119 => ?_) (fun c119 => ?_)
        · have gc119 := ai_le c119
          have u119t_x118 : x118.toInt ≤ (20 : Int) := bx118.2
          have l119t_x107 : (1 : Int) ≤ x107.toInt := bx107.1
          refine lv_aload_n hx hb dX8_minuteOn_123 rfl (lv_at hl 2 rfl) ?_
          refine lv_bipush (v := 20) hx hb dX8_minuteOn_124 zk_bipush_20 ?_
          refine lv_iconst (v := 0) hx hb dX8_minuteOn_126 zk_iconst_0 ?_
          refine va_iast hx hb hK hP hD hS 1 0 rfl rfl (by unfold vp_in; decide +kernel) dX8_minuteOn_127 (fun H locs hP hD hS => ?_)
          obtain ⟨f127, ef127⟩ : ∃ g9 : Nat → Int32, g9 = upd f108 (20 : Int32).toNatClampNeg (0 : Int32) := ⟨_, rfl⟩
          refine zs_1 (y := (a1, .inl (ka1, 23, .inl (f127)))) hP hD (by rw [ef127]) (fun hP hD => ?_)
          have bf127 : ((∀ k : Nat, 0 ≤ k → k ≤ 8 → (0 : Int) ≤ (f127 k).toInt ∧ (f127 k).toInt ≤ 8) ∧ (∀ k : Nat, 19 ≤ k → k ≤ 19 → (0 : Int) ≤ (f127 k).toInt ∧ (f127 k).toInt ≤ 8) ∧ (∀ k : Nat, 20 ≤ k → k ≤ 20 → (0 : Int) ≤ (f127 k).toInt ∧ (f127 k).toInt ≤ 19)) := by rw [ef127]; exact ⟨ai_updO bf108.1 _ (Or.inr (ai_ngt_of zq155 (by decide) (by decide))), ai_updO bf108.2.1 _ (Or.inr (ai_ngt_of zq155 (by decide) (by decide))), ai_new (by decide +kernel) ⟨zq5, (Int.le_trans zq6 zq165)⟩⟩
          have kf127_20 : f127 20 = 0 := by rw [ef127]; exact ai_k1 (by decide +kernel)
          have kf127_21 : f127 21 = x99 := by rw [ef127]; exact ai_k2 (by decide +kernel) kf108_21
          refine lv_aload_n hx hb dX8_minuteOn_128 rfl (lv_at hl 2 rfl) ?_
          refine lv_bipush (v := 19) hx hb dX8_minuteOn_129 zk_bipush_19 ?_
          refine lv_aload_n hx hb dX8_minuteOn_131 rfl (lv_at hl 1 rfl) ?_
          refine lv_iload_n hx hb dX8_minuteOn_132 rfl (lv_at hl 0 rfl) ?_
          refine zc_cutc (wc := [(a0, .inr (8, [a0g_0, a0g_1, a0g_2, a0g_3, a0g_4, a0g_5, a0g_6, a0g_7, a0g_8, a0g_9, a0g_10, a0g_11, a0g_12, a0g_13, a0g_14, Value.ref a0_15, a0g_16, a0g_17, a0g_18, a0g_19, a0g_20, a0g_21, a0g_22, Value.ref a0_23, Value.ref a0_24, Value.int a0_25, Value.int x3, Value.int x89, Value.int 0, a0g_29, a0g_30, a0g_31, a0g_32, a0g_33, a0g_34, a0g_35, a0g_36, a0g_37, a0g_38, a0g_39])), (a0_15, .inl (ka0_15, 156, .inl (fa0_15)))]) hP hD hS hA [0, 2] (by decide +kernel) rfl (fun hPc hDc hFc hCc => ?_)
          have hKc := hK.sub (tys' := [(ka0_15, .int)]) [1] rfl
          refine va_calli (va_runV (As := [.int x3]) (rest := [.int 19, .ref a1]) ⟨hx, hb, hml, hown, hts⟩ (c_X8_nextOf l dC dI H.size a0 x3 a0g_0 a0g_1 a0g_2 a0g_3 a0g_4 a0g_5 a0g_6 a0g_7 a0g_8 a0g_9 a0g_10 a0g_11 a0g_12 a0g_13 a0g_14 a0g_16 a0g_17 a0g_18 a0g_19 a0g_20 a0g_21 a0g_22 (Value.ref a0_23) (Value.ref a0_24) (Value.int a0_25) (Value.int x3) (Value.int x89) (Value.int 0) a0g_29 a0g_30 a0g_31 a0g_32 a0g_33 a0g_34 a0g_35 a0g_36 a0g_37 a0g_38 a0g_39 a0_15 ka0_15 fa0_15 bx3.1 bx3.2 bfa0_15) (cwV 1 hts gX8_minuteOn_X8_nextOf rfl rfl rfl zd_X8_nextOf ⟨Nat.le_of_ble_eq_true rfl, Nat.le_of_ble_eq_true rfl⟩) ⟨ax_blind (fun _ _ _ _ _ => trivial), zr_8 hKc hPc (q0 := 0) rfl, ax_pre hPc hKc hDc (fun _ _ => trivial)⟩ rfl rfl hl.1 rfl (lv_room (Nat.le_of_ble_eq_true rfl)) dX8_minuteOn_133 ⟨Nat.le_of_ble_eq_true rfl, Nat.le_of_ble_eq_true rfl⟩) hS (fun q _ h => hFc q h) hFc (fun r133 u t H locs ht hvm hw hB hz1 hk1 hS1 => zo hB ht hS1 (fun hP1 hK1 hD1 hS => ?_))
          refine zc_backc (w := [(a0, .inr (8, [a0g_0, a0g_1, a0g_2, a0g_3, a0g_4, a0g_5, a0g_6, a0g_7, a0g_8, a0g_9, a0g_10, a0g_11, a0g_12, a0g_13, a0g_14, Value.ref a0_15, a0g_16, a0g_17, a0g_18, a0g_19, a0g_20, a0g_21, a0g_22, Value.ref a0_23, Value.ref a0_24, Value.int a0_25, Value.int x3, Value.int x89, Value.int 0, a0g_29, a0g_30, a0g_31, a0g_32, a0g_33, a0g_34, a0g_35, a0g_36, a0g_37, a0g_38, a0g_39])), (a1, .inl (ka1, 23, .inl (f127))), (a0_15, .inl (ka0_15, 156, .inl (fa0_15))), (a0_24, .inl (ka0_24, 3, .inl (fa0_24))), (a0_23, .inl (ka0_23, 3, .inl (fa0_23)))]) hP hD hCc hk1 hFc hP1 hD1 [.inr 0, .inl 1, .inr 1, .inl 3, .inl 4] (by decide +kernel) rfl (fun hP hD => ?_)
          have hw : (0 : Int) ≤ r133.toInt ∧ r133.toInt ≤ (8 : Int) := hw
          obtain ⟨h133_0, h133_1⟩ := hw
          refine va_iast hx hb hK hP hD hS 1 0 rfl rfl (by unfold vp_in; decide +kernel) dX8_minuteOn_136 (fun H locs hP hD hS => ?_)
          obtain ⟨f136, ef136⟩ : ∃ g9 : Nat → Int32, g9 = upd f127 (19 : Int32).toNatClampNeg r133 := ⟨_, rfl⟩
          refine zs_1 (y := (a1, .inl (ka1, 23, .inl (f136)))) hP hD (by rw [ef136]) (fun hP hD => ?_)
          have bf136 : ((∀ k : Nat, 0 ≤ k → k ≤ 8 → (0 : Int) ≤ (f136 k).toInt ∧ (f136 k).toInt ≤ 8) ∧ (∀ k : Nat, 19 ≤ k → k ≤ 19 → (0 : Int) ≤ (f136 k).toInt ∧ (f136 k).toInt ≤ 8) ∧ (∀ k : Nat, 20 ≤ k → k ≤ 20 → (0 : Int) ≤ (f136 k).toInt ∧ (f136 k).toInt ≤ 19)) := by rw [ef136]; exact ⟨ai_updO bf127.1 _ (Or.inr (ai_ngt_of zq162 (by decide) (by decide))), ai_updS bf127.2.1 _ ⟨h133_0, h133_1⟩, ai_updO bf127.2.2 _ (Or.inl (ai_nlt_of zq162 zq163 (by decide) (by decide)))⟩
          have kf136_19 : f136 19 = r133 := by rw [ef136]; exact ai_k1 (by decide +kernel)
          have kf136_20 : f136 20 = 0 := by rw [ef136]; exact ai_k2 (by decide +kernel) kf127_20
          have kf136_21 : f136 21 = x99 := by rw [ef136]; exact ai_k2 (by decide +kernel) kf127_21
          exact W.vret hx hb hr (fun t ht hW => ⟨⟨(), rfl, trivial, x3, x89, 0, f136, bf136, by rw [ht]; exact hP, va_K.moved hW.alike hK, hD⟩, hS.F ht⟩) hS.2.2 dX8_minuteOn_137
        · have gc119 := ai_nle c119
          have u119f_x107 : x107.toInt ≤ (19 : Int) := ai_lthi gc119 bx118.2
          have u119f_x105 : x105.toInt ≤ (18 : Int) := by have h1 := wx107; have h2 := u119f_x107; omega
          have l119f_x118 : (2 : Int) ≤ x118.toInt := ai_ltlo gc119 bx107.1
          exact W.vret hx hb hr (fun t ht hW => ⟨⟨(), rfl, trivial, x3, x89, 0, f108, ⟨bf108.1, bf108.2.1, ai_one (by rw [kf108_20]; exact ⟨(Int.le_trans zq4 bx107.1), u119f_x107⟩)⟩, by rw [ht]; exact hP, va_K.moved hW.alike hK, hD⟩, hS.F ht⟩) hS.2.2 dX8_minuteOn_122
end P132_safe
section P200_good
set_option maxRecDepth 20000 in
theorem gX3_read_X0_clear : GoodIn wsX3_read (wsV RX3 39 RX0 yX0_clear wsX0_clear) := goodIn_s _ [(14, 13), (202, 19)] rfl (by decide +kernel)
set_option maxRecDepth 20000 in
theorem gX3_read_X3_advance : GoodIn wsX3_read (wsV RX3 54 RX3 yX3_advance wsX3_advance) := goodIn_s _ [(27, 5), (11, 1), (6, 1), (32, 2), (12, 1), (34, 3), (30, 1), (37, 7), (188, 14)] rfl (by decide +kernel)
set_option maxRecDepth 20000 in
theorem gX3_read_X3_readLine : GoodIn wsX3_read (wsV RX3 57 RX3 yX3_readLine wsX3_readLine) := goodIn_s _ [(44, 3), (30, 1), (47, 1), (7, 1), (48, 1), (13, 1), (49, 7), (30, 1), (56, 1), (12, 1), (38, 1), (57, 53), (9, 1), (33, 1), (10, 1), (110, 8), (27, 3), (31, 1), (11, 1), (6, 1), (32, 1), (34, 4), (39, 5), (118, 33), (8, 1), (151, 10), (17, 1), (161, 1), (21, 1), (25, 2), (162, 20), (22, 1), (182, 39)] rfl (by decide +kernel)
set_option maxRecDepth 20000 in
theorem gX3_read_X3_fails : GoodIn wsX3_read (wsV RX3 64 RX3 yX3_fails wsX3_fails) := goodIn_s _ [(106, 3), (30, 1), (109, 1), (9, 1), (33, 1), (10, 1), (188, 14)] rfl (by decide +kernel)
set_option maxRecDepth 20000 in
theorem gX3_isWord_J0_length_8abf5 : GoodIn wsX3_isWord (wsV RX3 88 RJ0 yJ0_length_8abf5 wsJ0_length_8abf5) := goodIn_s _ [(3, 9), (6, 1), (12, 3)] rfl (by decide +kernel)
set_option maxRecDepth 20000 in
theorem gX3_isWord_J0_charAt_5068e : GoodIn wsX3_isWord (wsV RX3 94 RJ0 yJ0_charAt_5068e wsJ0_charAt_5068e) := goodIn_s _ [(15, 3), (6, 1), (18, 1), (8, 1), (19, 3), (6, 1), (22, 1), (13, 2), (23, 29)] rfl (by decide +kernel)
set_option maxRecDepth 20000 in
theorem gX3_readLine_X3_isWord : GoodIn wsX3_readLine (wsV RX3 100 RX3 yX3_isWord wsX3_isWord) := goodIn_s _ [(8, 56), (171, 14)] rfl (by decide +kernel)
set_option maxRecDepth 20000 in
theorem gX3_readLine_X3_fails : GoodIn wsX3_readLine (wsV RX3 64 RX3 yX3_fails wsX3_fails) := goodIn_s _ [(64, 3), (11, 1), (67, 4), (171, 14)] rfl (by decide +kernel)
set_option maxRecDepth 20000 in
theorem gX3_readLine_X3_readHall : GoodIn wsX3_readLine (wsV RX3 107 RX3 yX3_readHall wsX3_readHall) := goodIn_s _ [(71, 3), (11, 1), (74, 2), (1, 1), (76, 3), (2, 1), (79, 3), (11, 1), (82, 4), (69, 1), (13, 1), (86, 4), (14, 1), (90, 9), (8, 3), (12, 1), (15, 54), (70, 1), (99, 7), (171, 29)] rfl (by decide +kernel)
set_option maxRecDepth 20000 in
theorem gX3_readLine_X3_readLaw : GoodIn wsX3_readLine (wsV RX3 118 RX3 yX3_readLaw wsX3_readLaw) := goodIn_s _ [(106, 3), (11, 1), (109, 1), (1, 2), (75, 1), (110, 3), (3, 1), (79, 3), (11, 1), (82, 4), (69, 1), (13, 1), (86, 4), (14, 1), (90, 9), (8, 3), (12, 1), (15, 54), (70, 1), (99, 7), (171, 29)] rfl (by decide +kernel)
set_option maxRecDepth 20000 in
theorem gX3_readLine_J6_bitCount_0f7a4 : GoodIn wsX3_readLine (va_wsS RX3 124 yJ6_bitCount_0f7a4 wsJ6_bitCount_0f7a4) := goodIn_s _ [(113, 7)] rfl (by decide +kernel)
set_option maxRecDepth 20000 in
theorem gX3_readLine_X3_readFigure : GoodIn wsX3_readLine (wsV RX3 130 RX3 yX3_readFigure wsX3_readFigure) := goodIn_s _ [(120, 3), (11, 1), (123, 1), (1, 2), (94, 1), (4, 1), (75, 1), (79, 3), (11, 1), (82, 4), (69, 1), (13, 1), (86, 4), (14, 1), (90, 4), (124, 6), (8, 3), (12, 1), (15, 54), (70, 1), (130, 4), (99, 7), (134, 2), (95, 4), (136, 8), (171, 29)] rfl (by decide +kernel)
set_option maxRecDepth 20000 in
theorem gX3_readLine_X3_readWatcher : GoodIn wsX3_readLine (wsV RX3 142 RX3 yX3_readWatcher wsX3_readWatcher) := goodIn_s _ [(144, 3), (11, 1), (147, 1), (1, 2), (75, 1), (5, 1), (79, 3), (11, 1), (82, 4), (69, 1), (13, 1), (86, 4), (14, 1), (90, 5), (124, 6), (8, 3), (12, 1), (15, 54), (70, 1), (95, 11), (148, 8), (171, 33)] rfl (by decide +kernel)
set_option maxRecDepth 20000 in
theorem gX3_readLine_X3_readSeen : GoodIn wsX3_readLine (wsV RX3 148 RX3 yX3_readSeen wsX3_readSeen) := goodIn_s _ [(156, 3), (11, 1), (159, 1), (1, 2), (75, 1), (94, 4), (11, 1), (98, 1), (8, 3), (12, 59), (79, 15), (99, 7), (130, 4), (160, 3), (139, 1), (163, 37)] rfl (by decide +kernel)
set_option maxRecDepth 20000 in
theorem gX3_readHall_X3_advance : GoodIn wsX3_readHall (wsV RX3 54 RX3 yX3_advance wsX3_advance) := goodIn_s _ [(7, 13), (10, 1), (20, 7), (97, 14)] rfl (by decide +kernel)
set_option maxRecDepth 20000 in
theorem gX3_readHall_X3_takeWhole : GoodIn wsX3_readHall (wsV RX3 152 RX3 yX3_takeWhole wsX3_takeWhole) := goodIn_s _ [(27, 3), (10, 1), (30, 1), (26, 1), (1, 1), (31, 3), (10, 1), (34, 1), (16, 1), (21, 1), (35, 54), (15, 1), (89, 1), (7, 3), (11, 4), (17, 4), (22, 4), (90, 21)] rfl (by decide +kernel)
set_option maxRecDepth 20000 in
theorem gX3_readLaw_X3_advance : GoodIn wsX3_readLaw (wsV RX3 54 RX3 yX3_advance wsX3_advance) := goodIn_s _ [(8, 13), (11, 1), (21, 7), (98, 14)] rfl (by decide +kernel)
set_option maxRecDepth 20000 in
theorem gX3_readLaw_X3_takeWhole : GoodIn wsX3_readLaw (wsV RX3 152 RX3 yX3_takeWhole wsX3_takeWhole) := goodIn_s _ [(28, 3), (11, 1), (31, 1), (27, 1), (3, 1), (32, 3), (11, 1), (35, 1), (17, 1), (22, 1), (36, 54), (16, 1), (90, 1), (8, 3), (12, 4), (18, 4), (23, 4), (91, 21)] rfl (by decide +kernel)
set_option maxRecDepth 20000 in
theorem gX3_readFigure_X3_advance : GoodIn wsX3_readFigure (wsV RX3 54 RX3 yX3_advance wsX3_advance) := goodIn_s _ [(6, 13), (9, 1), (19, 6), (3, 1), (115, 14)] rfl (by decide +kernel)
set_option maxRecDepth 20000 in
theorem gX3_readFigure_X3_takeName : GoodIn wsX3_readFigure (wsV RX3 184 RX3 yX3_takeName wsX3_takeName) := goodIn_s _ [(25, 3), (9, 1), (28, 1), (15, 1), (29, 2), (20, 1), (31, 3), (9, 1), (34, 55), (14, 1), (89, 1), (6, 3), (10, 4), (16, 4), (21, 4), (3, 1), (115, 14)] rfl (by decide +kernel)
set_option maxRecDepth 20000 in
theorem gX3_readFigure_X3_takeWord : GoodIn wsX3_readFigure (wsV RX3 189 RX3 yX3_takeWord wsX3_takeWord) := goodIn_s _ [(90, 3), (9, 1), (93, 1), (31, 3), (9, 1), (34, 1), (15, 1), (20, 1), (35, 54), (14, 1), (89, 1), (6, 3), (10, 4), (16, 4), (21, 4), (3, 1), (115, 14)] rfl (by decide +kernel)
set_option maxRecDepth 20000 in
theorem gX3_readFigure_X3_isWholeWithin : GoodIn wsX3_readFigure (wsV RX3 192 RX3 yX3_isWholeWithin wsX3_isWholeWithin) := goodIn_s _ [(94, 3), (9, 1), (97, 1), (15, 1), (3, 1), (84, 3), (9, 1), (87, 2), (14, 1), (89, 1), (98, 3), (115, 14)] rfl (by decide +kernel)
set_option maxRecDepth 20000 in
theorem gX3_readFigure_X7_hasBit_n196 : GoodIn wsX3_readFigure (wsX7_hasBit) := goodIn_s _ [(102, 1)] rfl (by decide +kernel)
set_option maxRecDepth 20000 in
theorem gX3_readFigure_X3_fails : GoodIn wsX3_readFigure (wsV RX3 64 RX3 yX3_fails wsX3_fails) := goodIn_s _ [(84, 3), (9, 1), (87, 2), (14, 1), (89, 1), (115, 14)] rfl (by decide +kernel)
set_option maxRecDepth 20000 in
theorem gX3_readFigure_X3_isWord : GoodIn wsX3_readFigure (wsV RX3 100 RX3 yX3_isWord wsX3_isWord) := goodIn_s _ [(31, 3), (9, 1), (34, 1), (15, 1), (20, 1), (35, 49), (115, 14)] rfl (by decide +kernel)
set_option maxRecDepth 20000 in
theorem gX3_readFigure_X3_takeWhole : GoodIn wsX3_readFigure (wsV RX3 152 RX3 yX3_takeWhole wsX3_takeWhole) := goodIn_s _ [(103, 3), (9, 1), (106, 1), (3, 1), (5, 1), (31, 3), (9, 1), (34, 1), (15, 1), (20, 1), (35, 54), (14, 1), (89, 1), (6, 3), (10, 4), (16, 4), (21, 4), (94, 7), (115, 14)] rfl (by decide +kernel)
set_option maxRecDepth 20000 in
theorem gX3_readFigure_X0_addFigure : GoodIn wsX3_readFigure (wsV RX3 203 RX0 yX0_addFigure wsX0_addFigure) := goodIn_s _ [(107, 8), (129, 15)] rfl (by decide +kernel)
set_option maxRecDepth 20000 in
theorem gX3_readWatcher_X3_advance : GoodIn wsX3_readWatcher (wsV RX3 54 RX3 yX3_advance wsX3_advance) := goodIn_s _ [(5, 13), (8, 1), (18, 7), (109, 14)] rfl (by decide +kernel)
set_option maxRecDepth 20000 in
theorem gX3_readWatcher_X3_takeName : GoodIn wsX3_readWatcher (wsV RX3 184 RX3 yX3_takeName wsX3_takeName) := goodIn_s _ [(25, 3), (8, 1), (28, 1), (14, 1), (29, 2), (19, 1), (31, 3), (8, 1), (34, 55), (13, 1), (89, 1), (5, 3), (9, 4), (15, 4), (20, 5), (109, 14)] rfl (by decide +kernel)
set_option maxRecDepth 20000 in
theorem gX3_readWatcher_X3_takeWhole : GoodIn wsX3_readWatcher (wsV RX3 152 RX3 yX3_takeWhole wsX3_takeWhole) := goodIn_s _ [(90, 3), (8, 1), (93, 1), (24, 1), (3, 1), (31, 3), (8, 1), (34, 1), (14, 1), (19, 1), (35, 54), (13, 1), (89, 1), (5, 3), (9, 4), (15, 4), (20, 4), (94, 7), (109, 14)] rfl (by decide +kernel)
theorem mnX3_read : (Cond.code Lib.Math.min.name Lib.Math.min.code 2 (some .int)) ∈ wsX3_read := List.mem_of_getElem? (i := 5) rfl
end P200_good
section P200_good_1
set_option maxRecDepth 20000 in
theorem gX3_readWatcher_X6_add : GoodIn wsX3_readWatcher (wsV RX3 211 RX6 yX6_add wsX6_add) := goodIn_s _ [(101, 8), (138, 4)] rfl (by decide +kernel)
set_option maxRecDepth 20000 in
theorem gX3_readSeen_X3_takeWhole : GoodIn wsX3_readSeen (wsV RX3 152 RX3 yX3_takeWhole wsX3_takeWhole) := goodIn_s _ [(5, 5), (4, 1), (3, 1), (10, 3), (8, 1), (13, 81), (110, 14)] rfl (by decide +kernel)
set_option maxRecDepth 20000 in
theorem gX3_readSeen_X3_takeWord : GoodIn wsX3_readSeen (wsV RX3 189 RX3 yX3_takeWord wsX3_takeWord) := goodIn_s _ [(94, 3), (8, 1), (97, 1), (10, 3), (8, 1), (13, 74), (4, 1), (110, 14)] rfl (by decide +kernel)
set_option maxRecDepth 20000 in
theorem gX3_readSeen_X3_isWholeWithin : GoodIn wsX3_readSeen (wsV RX3 192 RX3 yX3_isWholeWithin wsX3_isWholeWithin) := goodIn_s _ [(87, 3), (8, 1), (90, 1), (14, 1), (4, 1), (65, 3), (8, 1), (68, 4), (91, 3), (110, 14)] rfl (by decide +kernel)
set_option maxRecDepth 20000 in
theorem gX3_readSeen_X0_isSeenMinute : GoodIn wsX3_readSeen (wsV RX3 217 RX0 yX0_isSeenMinute wsX0_isSeenMinute) := goodIn_s _ [(98, 7), (124, 15)] rfl (by decide +kernel)
set_option maxRecDepth 20000 in
theorem gX3_readSeen_X3_fails : GoodIn wsX3_readSeen (wsV RX3 64 RX3 yX3_fails wsX3_fails) := goodIn_s _ [(65, 3), (8, 1), (68, 4), (110, 14)] rfl (by decide +kernel)
set_option maxRecDepth 20000 in
theorem gX3_readSeen_X0_addSeen : GoodIn wsX3_readSeen (wsV RX3 220 RX0 yX0_addSeen wsX0_addSeen) := goodIn_s _ [(105, 3), (101, 1), (108, 1), (103, 1), (109, 1), (104, 1), (124, 15)] rfl (by decide +kernel)
set_option maxRecDepth 20000 in
theorem gX3_readSeen_X3_advance : GoodIn wsX3_readSeen (wsV RX3 54 RX3 yX3_advance wsX3_advance) := goodIn_s _ [(72, 3), (8, 1), (75, 4), (70, 1), (14, 1), (79, 3), (8, 1), (82, 1), (15, 1), (83, 4), (4, 1), (110, 14)] rfl (by decide +kernel)
set_option maxRecDepth 20000 in
theorem gX3_takeWord_X3_isWord : GoodIn wsX3_takeWord (wsV RX3 100 RX3 yX3_isWord wsX3_isWord) := goodIn_s _ [(1, 56), (80, 14)] rfl (by decide +kernel)
set_option maxRecDepth 20000 in
theorem gX3_takeWord_X3_fails : GoodIn wsX3_takeWord (wsV RX3 64 RX3 yX3_fails wsX3_fails) := goodIn_s _ [(57, 3), (4, 1), (60, 4), (80, 14)] rfl (by decide +kernel)
set_option maxRecDepth 20000 in
theorem gX3_takeWord_X3_advance : GoodIn wsX3_takeWord (wsV RX3 54 RX3 yX3_advance wsX3_advance) := goodIn_s _ [(64, 3), (4, 1), (67, 4), (62, 1), (6, 1), (71, 3), (4, 1), (74, 1), (7, 1), (75, 19)] rfl (by decide +kernel)
set_option maxRecDepth 20000 in
theorem gX3_takeWhole_X3_isWord : GoodIn wsX3_takeWhole (wsV RX3 100 RX3 yX3_isWord wsX3_isWord) := goodIn_s _ [(3, 56), (88, 14)] rfl (by decide +kernel)
set_option maxRecDepth 20000 in
theorem gX3_takeWhole_X3_fails : GoodIn wsX3_takeWhole (wsV RX3 64 RX3 yX3_fails wsX3_fails) := goodIn_s _ [(59, 3), (6, 1), (62, 4), (88, 14)] rfl (by decide +kernel)
set_option maxRecDepth 20000 in
theorem gX3_takeWhole_X3_advance : GoodIn wsX3_takeWhole (wsV RX3 54 RX3 yX3_advance wsX3_advance) := goodIn_s _ [(66, 3), (6, 1), (69, 4), (64, 1), (8, 1), (73, 3), (6, 1), (76, 1), (9, 1), (77, 4), (1, 1), (88, 14)] rfl (by decide +kernel)
set_option maxRecDepth 20000 in
theorem gX3_takeWhole_X3_isWholeWithin : GoodIn wsX3_takeWhole (wsV RX3 192 RX3 yX3_isWholeWithin wsX3_isWholeWithin) := goodIn_s _ [(81, 3), (6, 1), (84, 1), (8, 1), (1, 1), (59, 3), (6, 1), (62, 4), (85, 17)] rfl (by decide +kernel)
set_option maxRecDepth 20000 in
theorem gX3_takeName_X3_isWord : GoodIn wsX3_takeName (wsV RX3 100 RX3 yX3_isWord wsX3_isWord) := goodIn_s _ [(5, 5), (1, 1), (4, 1), (10, 49), (82, 14)] rfl (by decide +kernel)
set_option maxRecDepth 20000 in
theorem gX3_takeName_X3_fails : GoodIn wsX3_takeName (wsV RX3 64 RX3 yX3_fails wsX3_fails) := goodIn_s _ [(59, 3), (8, 1), (62, 4), (82, 14)] rfl (by decide +kernel)
set_option maxRecDepth 20000 in
theorem gX3_takeName_X3_advance : GoodIn wsX3_takeName (wsV RX3 54 RX3 yX3_advance wsX3_advance) := goodIn_s _ [(66, 3), (8, 1), (69, 4), (64, 1), (1, 1), (73, 3), (8, 1), (76, 1), (4, 1), (77, 19)] rfl (by decide +kernel)
set_option maxRecDepth 20000 in
theorem gX7_feed_X3_append : GoodIn wsX7_feed (wsV RX7 74 RX3 yX3_append wsX3_append) := goodIn_s _ [(3, 7), (21, 14)] rfl (by decide +kernel)
set_option maxRecDepth 20000 in
theorem gX7_gallery_X7_within : GoodIn wsX7_gallery (va_wsS RX7 78 yX7_within wsX7_within) := goodIn_s _ [(13, 4)] rfl (by decide +kernel)
set_option maxRecDepth 20000 in
theorem gX7_gallery_X7_refused : GoodIn wsX7_gallery (wsV RX7 82 RX7 yX7_refused wsX7_refused) := goodIn_s _ [(17, 3), (15, 1), (20, 2), (248, 11)] rfl (by decide +kernel)
set_option maxRecDepth 20000 in
theorem gX7_gallery_X3_read : GoodIn wsX7_gallery (wsV RX7 86 RX3 yX3_read wsX3_read) := goodIn_s _ [(22, 34), (25, 1), (56, 95), (14, 3), (151, 59), (259, 33)] rfl (by decide +kernel)
set_option maxRecDepth 20000 in
theorem gX7_gallery_X3_exchange : GoodIn wsX7_gallery (wsV RX7 94 RX3 yX3_exchange wsX3_exchange) := goodIn_s _ [(210, 3), (25, 1), (213, 1), (33, 1), (259, 14)] rfl (by decide +kernel)
set_option maxRecDepth 20000 in
theorem gX7_gallery_X5_begin : GoodIn wsX7_gallery (wsV RX7 101 RX5 yX5_begin wsX5_begin) := goodIn_s _ [(214, 13), (217, 1), (227, 3), (292, 7)] rfl (by decide +kernel)
set_option maxRecDepth 20000 in
theorem gX7_gallery_X1_clear : GoodIn wsX7_gallery (wsV RX7 104 RX1 yX1_clear wsX1_clear) := goodIn_s _ [(230, 7), (299, 5)] rfl (by decide +kernel)
set_option maxRecDepth 20000 in
theorem gX7_gallery_X2_forget : GoodIn wsX7_gallery (wsV RX7 107 RX2 yX2_forget wsX2_forget) := goodIn_s _ [(237, 7), (304, 7)] rfl (by decide +kernel)
set_option maxRecDepth 20000 in
theorem gX7_gallery_X7_answered : GoodIn wsX7_gallery (wsV RX7 113 RX7 yX7_answered wsX7_answered) := goodIn_s _ [(244, 3), (15, 1), (247, 1), (21, 1), (248, 11)] rfl (by decide +kernel)
set_option maxRecDepth 20000 in
theorem gJ0_length_8abf5_J0_coder_7d493 : GoodIn wsJ0_length_8abf5 (wsV RJ0 335 RJ0 yJ0_coder_7d493 wsJ0_coder_7d493) := goodIn_s _ [(2, 7)] rfl (by decide +kernel)
set_option maxRecDepth 20000 in
theorem gJ0_charAt_5068e_J0_isLatin1_aae02 : GoodIn wsJ0_charAt_5068e (wsV RJ0 492 RJ0 yJ0_isLatin1_aae02 wsJ0_isLatin1_aae02) := goodIn_s _ [(2, 7)] rfl (by decide +kernel)
set_option maxRecDepth 20000 in
theorem gJ0_charAt_5068e_J1_charAt_3b067 : GoodIn wsJ0_charAt_5068e (va_wsS RJ0 495 yJ1_charAt_3b067 wsJ1_charAt_3b067) := goodIn_s _ [(9, 6), (5, 1), (15, 6)] rfl (by decide +kernel)
set_option maxRecDepth 20000 in
theorem gJ0_checkIndex_df160_J3_checkIndex_8e157 : GoodIn wsJ0_checkIndex_df160 (va_wsS RJ0 1059 yJ3_checkIndex_8e157 wsJ3_checkIndex_8e157) := goodIn_s _ [(2, 4)] rfl (by decide +kernel)
set_option maxRecDepth 20000 in
theorem gJ1_charAt_3b067_J0_checkIndex_df160 : GoodIn wsJ1_charAt_3b067 (va_wsS RJ1 9 yJ0_checkIndex_df160 wsJ0_checkIndex_df160) := goodIn_s _ [(1, 9)] rfl (by decide +kernel)
end P200_good_1
section P201_str
section STR
/-- what String's own methods rest on beside the tables -/
def sx_Z (A : Nat → Prop) (U : State) : Prop := va_Z "java/lang/String" "COMPACT_STRINGS" "Z" (.int 1) A U U.heap ∧ va_Zq "jdk/internal/util/Preconditions" "SIOOBE_FORMATTER" "Ljava/util/function/BiFunction;" A U U.heap
/-- a row of n bytes at v -/
def sx_V (v n : Nat) (f : Nat → Int32) (A : Nat → Prop) (U : State) : Prop := sx_Z A U ∧ n ≤ 8 ∧ va_T .byte v n (fun j => .int (f j)) A U U.heap
/-- a String of n bytes at w -/
def sx_W (w n : Nat) (A : Nat → Prop) (U : State) : Prop := sx_Z A U ∧ n ≤ 8 ∧ va_O "java/lang/String" w A U U.heap ∧ va_OF "java/lang/String" "code\x72" "B" (.int 0) w A U U.heap ∧ ∃ (v : Nat) (f : Nat → Int32), va_OF "java/lang/String" "value" "[B" (.ref v) w A U U.heap ∧ va_T .byte v n (fun j => .int (f j)) A U U.heap
theorem sx_Z_same {A : Nat → Prop} (a : Array Value) (U : State) (g : JFrame) (mk : MethodId) (h : sx_Z A U) : sx_Z A (U.calling g mk a) :=
  ⟨va_Z.moved (u := U) (U := U.calling g mk a) (Vm.Alike.refl U.vm) h.1, va_Zq.moved (u := U) (U := U.calling g mk a) (Vm.Alike.refl U.vm) h.2⟩
theorem sx_V_same {v n : Nat} {f : Nat → Int32} {A : Nat → Prop} (a : Array Value) (U : State) (g : JFrame) (mk : MethodId) (h : sx_V v n f A U) : sx_V v n f A (U.calling g mk a) :=
  ⟨sx_Z_same a U g mk h.1, h.2.1, va_T.moved (u := U) (U := U.calling g mk a) (Vm.Alike.refl U.vm) h.2.2⟩
theorem sx_Z_to {A B : Nat → Prop} {s U : State} {H : Heap} (h : sx_Z A s) (hq : ∀ a : Nat, a < s.heap.size → ¬ A a → H[a]? = s.heap[a]?) (hAB : ∀ q, B q → A q) (hU : U.heap = H) (hW : s.WarmedH U.vm) : sx_Z B U := by
  subst hU
  exact ⟨((h.1.kept hq).moved hW.alike).narrow hAB, ((h.2.kept hq).moved hW.alike).narrow hAB⟩
theorem sx_V_to {v n : Nat} {f : Nat → Int32} {A B : Nat → Prop} {s U : State} {H : Heap} (h : sx_V v n f A s) (hq : ∀ a : Nat, a < s.heap.size → ¬ A a → H[a]? = s.heap[a]?) (hAB : ∀ q, B q → A q) (hU : U.heap = H) (hW : s.WarmedH U.vm) : sx_V v n f B U := by
  refine ⟨sx_Z_to h.1 hq hAB hU hW, h.2.1, ?_⟩
  subst hU
  exact ((h.2.2.kept hq).moved hW.alike).narrow hAB
theorem sx_recv {w n : Nat} {A : Nat → Prop} {s : State} {H : Heap} {locs : List Loc} (h : sx_W w n A s) (hS : va_S A s.heap H locs) : ∃ cell : Cell, H[w]? = some cell ∧ cell.vm.isStatics = false ∧ s.vm.findClass "java/lang/String" = some cell.cls := by
  obtain ⟨cell, h1, h2, h3, -⟩ := h.2.2.1.kept hS.2.1
  exact ⟨cell, h1, h2, h3⟩
theorem sx_len {n : Nat} (h : n ≤ 8) : ((Int32.ofNat n) >>> ((0 : Int32) &&& 31)).toInt = (n : Int) := by
  have q : ∀ k : Fin 9, ((Int32.ofNat k.val) >>> ((0 : Int32) &&& 31)).toInt = (k.val : Int) := by decide
  exact q ⟨n, by omega⟩
theorem sx_lt {n : Nat} (h : n ≤ 8) : (Int32.ofNat n).toInt = (n : Int) := nI_toInt (by omega)
theorem ax_preE {av : List Value} {s : State} {H : Heap} {A : Nat → Prop} {dC : Nat → ClassId} {dI : Nat → Nat → Nat} {ws : va_W} {tys : List (ClassId × FieldType)} {E : State → Prop}
    (hP : va_P (dC, dI) vwCl ws H) (hK : va_K (dC, dI) vwCl tys s) (hD : va_D A ws) (hE : ∀ U : State, U.heap = H → s.WarmedH U.vm → E U) :
    ∀ U : State, U.heap = H → s.WarmedH U.vm → va_Pc av (ax_C dC dI H.size ws tys E) av.toArray U :=
  fun U hU hW => ⟨rfl, by rw [hU], by rw [hU]; exact hP, va_K.moved hW.alike hK, hD.weaken (fun _ _ _ _ => trivial), hE U hU hW⟩

set_option maxHeartbeats 4000000 in
set_option maxRecDepth 100000 in
theorem c_J3_checkIndex_8e157_r (l : Launch) (dC : Nat → ClassId) (dI : Nat → Nat → Nat) (sz : Nat) (i k : Int32) (q9 : Nat) (h0 : (0 : Int) ≤ i.toInt) (hk : i.toInt < k.toInt) : zm l yJ3_checkIndex_8e157 wsJ3_checkIndex_8e157 ({ frames := 0, cells := 0, slots := 0, locals := 0 }) [.int i, .int k, .ref q9] dC dI sz [] [] (fun A _ => True) (fun A => va_Qi (fun (r : Int32) (_ : Unit) => True) (fun (_ : Unit) (t : State) => ax_B dC dI A [] [] t) A) := by
  refine zh (cc := cJ3_checkIndex_8e157) (maxL := 3) (ret := (some .int)) zn_RJ3 rfl (Nat.le_of_ble_eq_true rfl) (fun p e s m below meth c A ls hx hb hml hr hts (hown : s.vm.findClass RJ3 = some m.cls) hlocks hA hS hP hK hD hE (hl : lv_has ls 3 [(0, .int i), (1, .int k), (2, .ref q9)]) => ?_)
  refine lv_iload_n hx hb dJ3_checkIndex_8e157_0 rfl (lv_at hl 0 rfl) ?_
  refine lv_if_lt (tgt := 9) hx hb dJ3_checkIndex_8e157_1 (by decide) (fun c9 => absurd (ai_lt c9) (by have h9 : (0 : Int32).toInt = 0 := (by decide); omega)) (fun _ => ?_)
  refine lv_iload_n hx hb dJ3_checkIndex_8e157_4 rfl (lv_at hl 0 rfl) ?_
  refine lv_iload_n hx hb dJ3_checkIndex_8e157_5 rfl (lv_at hl 1 rfl) ?_
  refine lv_icmp_lt (tgt := 16) hx hb dJ3_checkIndex_8e157_6 (by decide) (fun _ => ?_) (fun c9 => absurd (Int32.lt_iff_toInt_lt.mpr hk) c9)
  refine lv_iload_n hx hb dJ3_checkIndex_8e157_16 rfl (lv_at hl 0 rfl) ?_
  exact W.iret (v := i) hx hb hr (fun t ht hW => ⟨⟨i, (), rfl, trivial, by rw [ht]; exact hP, va_K.moved hW.alike hK, hD⟩, hS.F ht⟩) hS.2.2 dJ3_checkIndex_8e157_17

set_option maxHeartbeats 4000000 in
set_option maxRecDepth 100000 in
theorem c_J3_checkIndex_8e157_n (l : Launch) (dC : Nat → ClassId) (dI : Nat → Nat → Nat) (sz : Nat) (i k : Int32)  (h0 : (0 : Int) ≤ i.toInt) (hk : i.toInt < k.toInt) : zm l yJ3_checkIndex_8e157 wsJ3_checkIndex_8e157 ({ frames := 0, cells := 0, slots := 0, locals := 0 }) [.int i, .int k, .null] dC dI sz [] [] (fun A _ => True) (fun A => va_Qi (fun (r : Int32) (_ : Unit) => True) (fun (_ : Unit) (t : State) => ax_B dC dI A [] [] t) A) := by
  refine zh (cc := cJ3_checkIndex_8e157) (maxL := 3) (ret := (some .int)) zn_RJ3 rfl (Nat.le_of_ble_eq_true rfl) (fun p e s m below meth c A ls hx hb hml hr hts (hown : s.vm.findClass RJ3 = some m.cls) hlocks hA hS hP hK hD hE (hl : lv_has ls 3 [(0, .int i), (1, .int k), (2, .null)]) => ?_)
  refine lv_iload_n hx hb dJ3_checkIndex_8e157_0 rfl (lv_at hl 0 rfl) ?_
  refine lv_if_lt (tgt := 9) hx hb dJ3_checkIndex_8e157_1 (by decide) (fun c9 => absurd (ai_lt c9) (by have h9 : (0 : Int32).toInt = 0 := (by decide); omega)) (fun _ => ?_)
  refine lv_iload_n hx hb dJ3_checkIndex_8e157_4 rfl (lv_at hl 0 rfl) ?_
  refine lv_iload_n hx hb dJ3_checkIndex_8e157_5 rfl (lv_at hl 1 rfl) ?_
  refine lv_icmp_lt (tgt := 16) hx hb dJ3_checkIndex_8e157_6 (by decide) (fun _ => ?_) (fun c9 => absurd (Int32.lt_iff_toInt_lt.mpr hk) c9)
  refine lv_iload_n hx hb dJ3_checkIndex_8e157_16 rfl (lv_at hl 0 rfl) ?_
  exact W.iret (v := i) hx hb hr (fun t ht hW => ⟨⟨i, (), rfl, trivial, by rw [ht]; exact hP, va_K.moved hW.alike hK, hD⟩, hS.F ht⟩) hS.2.2 dJ3_checkIndex_8e157_17

set_option maxHeartbeats 4000000 in
set_option maxRecDepth 100000 in
theorem c_J0_checkIndex_df160 (l : Launch) (dC : Nat → ClassId) (dI : Nat → Nat → Nat) (sz : Nat) (i k : Int32) (h0 : (0 : Int) ≤ i.toInt) (hk : i.toInt < k.toInt) : Met l yJ0_checkIndex_df160 wsJ0_checkIndex_df160 ({ frames := 1, cells := 0, slots := 0, locals := 22 }) (va_Pc [.int i, .int k] (ax_C dC dI sz [] [] (sx_Z (va_A [] sz)))) (va_Qv (fun (_ : Unit) => True) (fun (_ : Unit) (t : State) => ax_B dC dI (va_A [] sz) [] [] t) (va_A [] sz)) 0 0 (va_A [] sz) := by
  refine Met.ofW (cc := cJ0_checkIndex_df160) (maxL := 2) (ret := none) (by decide) rfl ?_
  intro p e s m args below meth c s₁ B hml hv
  obtain ⟨rfl, hsz, hP, hK, hD0, hE⟩ := hv
  have hx := B.exec
  have hb := B.bytes
  have hr := B.returns
  have hts := atoms_spec (ws := wsJ0_checkIndex_df160) B.pre
  have hown : s.vm.findClass RJ0 = some m.cls := findClass_of_methodNamed B.named
  have hlocks := B.notSynchronized
  subst hsz
  have hD := hD0.self (sz := s.heap.size)
  generalize hAe : va_A [] s.heap.size = A at hD hE ⊢
  have hA : ∀ q : Nat, s.heap.size ≤ q → A q := fun q h => by rw [← hAe]; exact Or.inr h
  have hS : va_S A s.heap s.heap [] := va_S.rf
  have hP : va_P (dC, dI) vwCl [] s.heap := hP
  have hl := lv_entry ([.int i, .int k]) (n := 2) (Nat.le_of_ble_eq_true rfl)
  rw [lg_entry_eq]
  generalize (lg_sl ([.int i, .int k]) ++ List.replicate (2 - (lg_sl ([.int i, .int k])).length) Slot.unset).toArray = ls at hl ⊢
  have hl : lv_has ls 2 [(0, .int i), (1, .int k)] := hl
  refine lv_iload_n hx hb dJ0_checkIndex_df160_0 rfl (lv_at hl 0 rfl) ?_
  refine lv_iload_n hx hb dJ0_checkIndex_df160_1 rfl (lv_at hl 1 rfl) ?_
  rcases hE.2 with hq9 | ⟨q9, hq9⟩
  · refine va_gets hx hb hq9 hS hown (hts (.fieldLink RJ0 1053 "jdk/internal/util/Preconditions" "SIOOBE_FORMATTER" "Ljava/util/function/BiFunction;") (List.mem_cons_of_mem _ (List.mem_of_getElem? (i := 0) rfl))) (fun _ h => h) dJ0_checkIndex_df160_2 ?_
    have hFc := va_free (wc := []) hD hS hA [] rfl
    refine va_calli (va_runS (As := [.int i, .int k, .null]) (rest := []) ⟨hx, hb, hml, hown, hts⟩ (c_J3_checkIndex_8e157_n l dC dI s.heap.size i k h0 hk) (va_cwS 3 hts gJ0_checkIndex_df160_J3_checkIndex_8e157 rfl rfl rfl zd_J3_checkIndex_8e157.2 ⟨Nat.le_of_ble_eq_true rfl, Nat.le_of_ble_eq_true rfl⟩) ⟨ax_blind (fun _ _ _ _ _ => trivial), ax_preE hP hK hD (fun _ _ _ => trivial)⟩ rfl rfl hl.1 rfl (lv_room (Nat.le_of_ble_eq_true rfl)) dJ0_checkIndex_df160_5 ⟨Nat.le_of_ble_eq_true rfl, Nat.le_of_ble_eq_true rfl⟩) hS (fun q _ h => hFc q h) hFc (fun r5 u t H1 locs ht hvm hw hB hz1 hk1 hS => ?_)
    obtain ⟨hP1, hK1, hD1⟩ := hB
    rw [ht] at hP1
    generalize H1 = H at hP1 hS ⊢
    have hP : va_P (dC, dI) vwCl [] H := hP1
    refine lv_pop hx hb dJ0_checkIndex_df160_8 rfl ?_
    exact W.vret hx hb hr (fun t ht hW => ⟨⟨(), rfl, trivial, by rw [ht]; exact hP, va_K.moved hW.alike hK, hD⟩, hS.F ht⟩) hS.2.2 dJ0_checkIndex_df160_9
  · refine va_gets hx hb hq9 hS hown (hts (.fieldLink RJ0 1053 "jdk/internal/util/Preconditions" "SIOOBE_FORMATTER" "Ljava/util/function/BiFunction;") (List.mem_cons_of_mem _ (List.mem_of_getElem? (i := 0) rfl))) (fun _ h => h) dJ0_checkIndex_df160_2 ?_
    have hFc := va_free (wc := []) hD hS hA [] rfl
    refine va_calli (va_runS (As := [.int i, .int k, .ref q9]) (rest := []) ⟨hx, hb, hml, hown, hts⟩ (c_J3_checkIndex_8e157_r l dC dI s.heap.size i k q9 h0 hk) (va_cwS 3 hts gJ0_checkIndex_df160_J3_checkIndex_8e157 rfl rfl rfl zd_J3_checkIndex_8e157.2 ⟨Nat.le_of_ble_eq_true rfl, Nat.le_of_ble_eq_true rfl⟩) ⟨ax_blind (fun _ _ _ _ _ => trivial), ax_preE hP hK hD (fun _ _ _ => trivial)⟩ rfl rfl hl.1 rfl (lv_room (Nat.le_of_ble_eq_true rfl)) dJ0_checkIndex_df160_5 ⟨Nat.le_of_ble_eq_true rfl, Nat.le_of_ble_eq_true rfl⟩) hS (fun q _ h => hFc q h) hFc (fun r5 u t H1 locs ht hvm hw hB hz1 hk1 hS => ?_)
    obtain ⟨hP1, hK1, hD1⟩ := hB
    rw [ht] at hP1
    generalize H1 = H at hP1 hS ⊢
    have hP : va_P (dC, dI) vwCl [] H := hP1
    refine lv_pop hx hb dJ0_checkIndex_df160_8 rfl ?_
    exact W.vret hx hb hr (fun t ht hW => ⟨⟨(), rfl, trivial, by rw [ht]; exact hP, va_K.moved hW.alike hK, hD⟩, hS.F ht⟩) hS.2.2 dJ0_checkIndex_df160_9

end STR
section STX
def sx_ln : List Nat := [7, 3, 6, 7, 4, 7, 4, 6, 4, 5, 4, 5, 2, 5, 6, 4, 2, 2, 7, 3, 6, 7, 4, 7, 4, 6, 4, 5, 4, 5, 2, 5, 6, 4, 2, 2]
end STX
end P201_str
section P222_sxc
section SXC
def sxc_W (w n : Nat) (cs : Nat → Int32) (A : Nat → Prop) (U : State) : Prop := sx_Z A U ∧ n ≤ 8 ∧ va_O "java/lang/String" w A U U.heap ∧ va_OF "java/lang/String" "code\x72" "B" (.int 0) w A U U.heap ∧ (∀ j : Nat, j < n → (0 : Int) ≤ (cs j).toInt ∧ (cs j).toInt ≤ 127) ∧ ∃ v : Nat, va_OF "java/lang/String" "value" "[B" (.ref v) w A U U.heap ∧ va_T .byte v n (fun j => .int (cs j)) A U U.heap
theorem sxc_W_w {w n : Nat} {cs : Nat → Int32} {A : Nat → Prop} {U : State} (h : sxc_W w n cs A U) : sx_W w n A U := by
  obtain ⟨h1, h2, h3, h4, _, v, h5, h6⟩ := h
  exact ⟨h1, h2, h3, h4, v, cs, h5, h6⟩
theorem sxc_W_same {w n : Nat} {cs : Nat → Int32} {A : Nat → Prop} (a : Array Value) (U : State) (g : JFrame) (mk : MethodId) (h : sxc_W w n cs A U) : sxc_W w n cs A (U.calling g mk a) := by
  obtain ⟨h1, h2, h3, h4, h7, v, h5, h6⟩ := h
  exact ⟨sx_Z_same a U g mk h1, h2, va_O.moved (u := U) (U := U.calling g mk a) (Vm.Alike.refl U.vm) h3, va_OF.moved (u := U) (U := U.calling g mk a) (Vm.Alike.refl U.vm) h4, h7, v, va_OF.moved (u := U) (U := U.calling g mk a) (Vm.Alike.refl U.vm) h5, va_T.moved (u := U) (U := U.calling g mk a) (Vm.Alike.refl U.vm) h6⟩
theorem sxc_W_to {w n : Nat} {cs : Nat → Int32} {A B : Nat → Prop} {s U : State} {H : Heap} (h : sxc_W w n cs A s) (hq : ∀ a : Nat, a < s.heap.size → ¬ A a → H[a]? = s.heap[a]?) (hAB : ∀ q, B q → A q) (hU : U.heap = H) (hW : s.WarmedH U.vm) : sxc_W w n cs B U := by
  obtain ⟨h1, h2, h3, h4, h7, v, h5, h6⟩ := h
  refine ⟨sx_Z_to h1 hq hAB hU hW, h2, ?_⟩
  subst hU
  exact ⟨((h3.kept hq).moved hW.alike).narrow hAB, ((h4.kept hq).moved hW.alike).narrow hAB, h7, v, ((h5.kept hq).moved hW.alike).narrow hAB, ((h6.kept hq).moved hW.alike).narrow hAB⟩
theorem sxc_recv {w n : Nat} {cs : Nat → Int32} {A : Nat → Prop} {s : State} {H : Heap} {locs : List Loc} (h : sxc_W w n cs A s) (hS : va_S A s.heap H locs) : ∃ cell : Cell, H[w]? = some cell ∧ cell.vm.isStatics = false ∧ s.vm.findClass "java/lang/String" = some cell.cls := sx_recv (sxc_W_w h) hS
theorem sxc_ch {x : Int32} (h : (0 : Int) ≤ x.toInt ∧ x.toInt ≤ 127) : ((x &&& 255).toUInt32 % 65536).toInt32 = x := by
  have q : ∀ k : Fin 128, (((Int32.ofNat k.val) &&& 255).toUInt32 % 65536).toInt32 = Int32.ofNat k.val := by decide
  have h1 := q ⟨x.toInt.toNat, by omega⟩
  have h2 : Int32.ofNat x.toInt.toNat = x := by
    apply Int32.toInt_inj.mp
    exact (show (Int32.ofNat x.toInt.toNat).toInt = ((x.toInt.toNat : Nat) : Int) from nI_toInt (by omega)).trans (by omega)
  simp only [h2] at h1
  exact h1
set_option maxHeartbeats 4000000 in
set_option maxRecDepth 100000 in
theorem f_J0_coder_7d493 (l : Launch) (dC : Nat → ClassId) (dI : Nat → Nat → Nat) (sz : Nat) (w n : Nat) (cs : Nat → Int32)  : Met l yJ0_coder_7d493 wsJ0_coder_7d493 ({ frames := 0, cells := 0, slots := 0, locals := 0 }) (va_Pc [.ref w] (ax_C dC dI sz [] [] (sxc_W w n cs (va_A [] sz)))) (va_Qi (fun (r : Int32) (_ : Unit) => r = 0) (fun (_ : Unit) (t : State) => ax_B dC dI (va_A [] sz) [] [] t) (va_A [] sz)) 0 0 (va_A [] sz) := by
  refine Met.ofW (cc := cJ0_coder_7d493) (maxL := 1) (ret := (some .byte)) (by decide) rfl ?_
  intro p e s m args below meth c s₁ B hml hv
  obtain ⟨rfl, hsz, hP, hK, hD0, hE⟩ := hv
  have hx := B.exec
  have hb := B.bytes
  have hr := B.returns
  have hts := atoms_spec (ws := wsJ0_coder_7d493) B.pre
  have hown : s.vm.findClass RJ0 = some m.cls := findClass_of_methodNamed B.named
  have hlocks := B.notSynchronized
  subst hsz
  have hD := hD0.self (sz := s.heap.size)
  generalize hAe : va_A [] s.heap.size = A at hD hE ⊢
  have hA : ∀ q : Nat, s.heap.size ≤ q → A q := fun q h => by rw [← hAe]; exact Or.inr h
  have hS : va_S A s.heap s.heap [] := va_S.rf
  have hP : va_P (dC, dI) vwCl [] s.heap := hP
  have hl := lv_entry ([.ref w]) (n := 1) (Nat.le_of_ble_eq_true rfl)
  rw [lg_entry_eq]
  generalize (lg_sl ([.ref w]) ++ List.replicate (1 - (lg_sl ([.ref w])).length) Slot.unset).toArray = ls at hl ⊢
  have hl : lv_has ls 1 [(0, .ref w)] := hl
  obtain ⟨hz, hn, hO, hco, hcb, v, hv, hT⟩ := id hE
  refine va_gets hx hb hz.1 hS hown (hts (.fieldLink RJ0 38 "java/lang/String" "COMPACT_STRINGS" "Z") (List.mem_cons_of_mem _ (List.mem_of_getElem? (i := 0) rfl))) (fun _ h => h) dJ0_coder_7d493_0 ?_
  refine lv_if_eq (tgt := 13) hx hb dJ0_coder_7d493_3 (by decide) (fun c9 => absurd c9 (by decide +kernel)) (fun _ => ?_)
  refine lv_aload_n hx hb dJ0_coder_7d493_6 rfl (lv_at hl 0 rfl) ?_
  refine vk_getf hx hb hco hS hown (hts (.fieldLink RJ0 15 "java/lang/String" "code\x72" "B") (List.mem_cons_of_mem _ (List.mem_of_getElem? (i := 1) rfl))) (fun _ h => h) dJ0_coder_7d493_7 ?_
  refine lv_goto (tgt := 14) hx hb dJ0_coder_7d493_10 (by decide) ?_
  exact W.zret (v := 0) hx hb hr rfl (fun t ht hW => ⟨⟨0, (), rfl, rfl, by rw [ht]; exact hP, va_K.moved hW.alike hK, hD⟩, hS.F ht⟩) hS.2.2 dJ0_coder_7d493_14


set_option maxHeartbeats 4000000 in
set_option maxRecDepth 100000 in
theorem f_J0_isLatin1_aae02 (l : Launch) (dC : Nat → ClassId) (dI : Nat → Nat → Nat) (sz : Nat) (w n : Nat) (cs : Nat → Int32)  : Met l yJ0_isLatin1_aae02 wsJ0_isLatin1_aae02 ({ frames := 0, cells := 0, slots := 0, locals := 0 }) (va_Pc [.ref w] (ax_C dC dI sz [] [] (sxc_W w n cs (va_A [] sz)))) (va_Qi (fun (r : Int32) (_ : Unit) => r = 1) (fun (_ : Unit) (t : State) => ax_B dC dI (va_A [] sz) [] [] t) (va_A [] sz)) 0 0 (va_A [] sz) := by
  refine Met.ofW (cc := cJ0_isLatin1_aae02) (maxL := 1) (ret := (some .boolean)) (by decide) rfl ?_
  intro p e s m args below meth c s₁ B hml hv
  obtain ⟨rfl, hsz, hP, hK, hD0, hE⟩ := hv
  have hx := B.exec
  have hb := B.bytes
  have hr := B.returns
  have hts := atoms_spec (ws := wsJ0_isLatin1_aae02) B.pre
  have hown : s.vm.findClass RJ0 = some m.cls := findClass_of_methodNamed B.named
  have hlocks := B.notSynchronized
  subst hsz
  have hD := hD0.self (sz := s.heap.size)
  generalize hAe : va_A [] s.heap.size = A at hD hE ⊢
  have hA : ∀ q : Nat, s.heap.size ≤ q → A q := fun q h => by rw [← hAe]; exact Or.inr h
  have hS : va_S A s.heap s.heap [] := va_S.rf
  have hP : va_P (dC, dI) vwCl [] s.heap := hP
  have hl := lv_entry ([.ref w]) (n := 1) (Nat.le_of_ble_eq_true rfl)
  rw [lg_entry_eq]
  generalize (lg_sl ([.ref w]) ++ List.replicate (1 - (lg_sl ([.ref w])).length) Slot.unset).toArray = ls at hl ⊢
  have hl : lv_has ls 1 [(0, .ref w)] := hl
  obtain ⟨hz, hn, hO, hco, hcb, v, hv, hT⟩ := id hE
  refine va_gets hx hb hz.1 hS hown (hts (.fieldLink RJ0 38 "java/lang/String" "COMPACT_STRINGS" "Z") (List.mem_cons_of_mem _ (List.mem_of_getElem? (i := 0) rfl))) (fun _ h => h) dJ0_isLatin1_aae02_0 ?_
  refine lv_if_eq (tgt := 17) hx hb dJ0_isLatin1_aae02_3 (by decide) (fun c9 => absurd c9 (by decide +kernel)) (fun _ => ?_)
  refine lv_aload_n hx hb dJ0_isLatin1_aae02_6 rfl (lv_at hl 0 rfl) ?_
  refine vk_getf hx hb hco hS hown (hts (.fieldLink RJ0 15 "java/lang/String" "code\x72" "B") (List.mem_cons_of_mem _ (List.mem_of_getElem? (i := 1) rfl))) (fun _ h => h) dJ0_isLatin1_aae02_7 ?_
  refine lv_if_ne (tgt := 17) hx hb dJ0_isLatin1_aae02_10 (by decide) (fun c9 => absurd (by decide +kernel) c9) (fun _ => ?_)
  refine lv_iconst (v := 1) hx hb dJ0_isLatin1_aae02_13 zk_iconst_1 ?_
  refine lv_goto (tgt := 18) hx hb dJ0_isLatin1_aae02_14 (by decide) ?_
  exact W.zret (v := 1) hx hb hr rfl (fun t ht hW => ⟨⟨1, (), rfl, rfl, by rw [ht]; exact hP, va_K.moved hW.alike hK, hD⟩, hS.F ht⟩) hS.2.2 dJ0_isLatin1_aae02_18


set_option maxHeartbeats 4000000 in
set_option maxRecDepth 100000 in
theorem f_J0_length_8abf5 (l : Launch) (dC : Nat → ClassId) (dI : Nat → Nat → Nat) (sz : Nat) (w n : Nat) (cs : Nat → Int32)  : Met l yJ0_length_8abf5 wsJ0_length_8abf5 ({ frames := 1, cells := 0, slots := 0, locals := 20 }) (va_Pc [.ref w] (ax_C dC dI sz [] [] (sxc_W w n cs (va_A [] sz)))) (va_Qi (fun (r : Int32) (_ : Unit) => (r.toInt = (n : Int) ∧ n ≤ 8) ∧ r.toInt = (n : Int)) (fun (_ : Unit) (t : State) => ax_B dC dI (va_A [] sz) [] [] t) (va_A [] sz)) 0 0 (va_A [] sz) := by
  refine Met.ofW (cc := cJ0_length_8abf5) (maxL := 1) (ret := (some .int)) (by decide) rfl ?_
  intro p e s m args below meth c s₁ B hml hv
  obtain ⟨rfl, hsz, hP, hK, hD0, hE⟩ := hv
  have hx := B.exec
  have hb := B.bytes
  have hr := B.returns
  have hts := atoms_spec (ws := wsJ0_length_8abf5) B.pre
  have hown : s.vm.findClass RJ0 = some m.cls := findClass_of_methodNamed B.named
  have hlocks := B.notSynchronized
  subst hsz
  have hD := hD0.self (sz := s.heap.size)
  generalize hAe : va_A [] s.heap.size = A at hD hE ⊢
  have hA : ∀ q : Nat, s.heap.size ≤ q → A q := fun q h => by rw [← hAe]; exact Or.inr h
  have hS : va_S A s.heap s.heap [] := va_S.rf
  have hP : va_P (dC, dI) vwCl [] s.heap := hP
  have hl := lv_entry ([.ref w]) (n := 1) (Nat.le_of_ble_eq_true rfl)
  rw [lg_entry_eq]
  generalize (lg_sl ([.ref w]) ++ List.replicate (1 - (lg_sl ([.ref w])).length) Slot.unset).toArray = ls at hl ⊢
  have hl : lv_has ls 1 [(0, .ref w)] := hl
  obtain ⟨hz, hn, hO, hco, hcb, v, hv, hT⟩ := id hE
  refine lv_aload_n hx hb dJ0_length_8abf5_0 rfl (lv_at hl 0 rfl) ?_
  refine vk_getf hx hb hv hS hown (hts (.fieldLink RJ0 9 "java/lang/String" "value" "[B") (List.mem_cons_of_mem _ (List.mem_of_getElem? (i := 0) rfl))) (fun _ h => h) dJ0_length_8abf5_1 ?_
  refine va_tlen hx hb hT hS (v := Int32.ofNat n) rfl dJ0_length_8abf5_4 ?_
  refine lv_aload_n hx hb dJ0_length_8abf5_5 rfl (lv_at hl 0 rfl) ?_
  have hFc := va_free (wc := []) hD hS hA [] rfl
  refine va_calli (va_runV (As := []) (rest := [.int (Int32.ofNat n)]) ⟨hx, hb, hml, hown, hts⟩ (f_J0_coder_7d493 l dC dI s.heap.size w n cs) (cwV 0 hts gJ0_length_8abf5_J0_coder_7d493 rfl rfl rfl zd_J0_coder_7d493 ⟨Nat.le_of_ble_eq_true rfl, Nat.le_of_ble_eq_true rfl⟩) ⟨ax_blind sxc_W_same, sxc_recv hE hS, ax_preE hP hK hD (fun U hU hW => sxc_W_to hE hS.2.1 hFc hU hW)⟩ rfl rfl hl.1 rfl (lv_room (Nat.le_of_ble_eq_true rfl)) dJ0_length_8abf5_6 ⟨Nat.le_of_ble_eq_true rfl, Nat.le_of_ble_eq_true rfl⟩) hS (fun q _ h => hFc q h) hFc (fun r6 u t H1 locs ht hvm hw hB hz1 hk1 hS => ?_)
  obtain ⟨hP1, hK1, hD1⟩ := hB
  rw [ht] at hP1
  generalize H1 = H at hP1 hS ⊢
  have hP : va_P (dC, dI) vwCl [] H := hP1
  have hw : r6 = 0 := hw
  subst hw
  refine lv_ishr hx hb dJ0_length_8abf5_9 ?_
  refine lv_topi (fun x9 ex9 => ?_)
  exact W.iret (v := x9) hx hb hr (fun t ht hW => ⟨⟨x9, (), rfl, ⟨⟨by rw [ex9]; exact sx_len hn, hn⟩, by rw [ex9]; exact sx_len hn⟩, by rw [ht]; exact hP, va_K.moved hW.alike hK, hD⟩, hS.F ht⟩) hS.2.2 dJ0_length_8abf5_10


set_option maxHeartbeats 4000000 in
set_option maxRecDepth 100000 in
theorem f_J1_charAt_3b067 (l : Launch) (dC : Nat → ClassId) (dI : Nat → Nat → Nat) (sz : Nat) (v n : Nat) (f : Nat → Int32) (i : Int32) (h0 : (0 : Int) ≤ i.toInt) (hk : i.toInt < (n : Int)) : Met l yJ1_charAt_3b067 wsJ1_charAt_3b067 ({ frames := 2, cells := 0, slots := 0, locals := 43 }) (va_Pc [.ref v, .int i] (ax_C dC dI sz [] [] (sx_V v n f (va_A [] sz)))) (va_Qi (fun (r : Int32) (_ : Unit) => narrow .char (.int r) = .int r ∧ r = ((f i.toNatClampNeg &&& 255).toUInt32 % 65536).toInt32) (fun (_ : Unit) (t : State) => ax_B dC dI (va_A [] sz) [] [] t) (va_A [] sz)) 0 0 (va_A [] sz) := by
  refine Met.ofW (cc := cJ1_charAt_3b067) (maxL := 2) (ret := (some .char)) (by decide) rfl ?_
  intro p e s m args below meth c s₁ B hml hv
  obtain ⟨rfl, hsz, hP, hK, hD0, hE⟩ := hv
  have hx := B.exec
  have hb := B.bytes
  have hr := B.returns
  have hts := atoms_spec (ws := wsJ1_charAt_3b067) B.pre
  have hown : s.vm.findClass RJ1 = some m.cls := findClass_of_methodNamed B.named
  have hlocks := B.notSynchronized
  subst hsz
  have hD := hD0.self (sz := s.heap.size)
  generalize hAe : va_A [] s.heap.size = A at hD hE ⊢
  have hA : ∀ q : Nat, s.heap.size ≤ q → A q := fun q h => by rw [← hAe]; exact Or.inr h
  have hS : va_S A s.heap s.heap [] := va_S.rf
  have hP : va_P (dC, dI) vwCl [] s.heap := hP
  have hl := lv_entry ([.ref v, .int i]) (n := 2) (Nat.le_of_ble_eq_true rfl)
  rw [lg_entry_eq]
  generalize (lg_sl ([.ref v, .int i]) ++ List.replicate (2 - (lg_sl ([.ref v, .int i])).length) Slot.unset).toArray = ls at hl ⊢
  have hl : lv_has ls 2 [(0, .ref v), (1, .int i)] := hl
  obtain ⟨hz, hn, hT⟩ := id hE
  refine lv_iload_n hx hb dJ1_charAt_3b067_0 rfl (lv_at hl 1 rfl) ?_
  refine lv_aload_n hx hb dJ1_charAt_3b067_1 rfl (lv_at hl 0 rfl) ?_
  refine va_tlen hx hb hT hS (v := Int32.ofNat n) rfl dJ1_charAt_3b067_2 ?_
  have hFc := va_free (wc := []) hD hS hA [] rfl
  refine va_callv (va_runS (As := [.int i, .int (Int32.ofNat n)]) (rest := []) ⟨hx, hb, hml, hown, hts⟩ (c_J0_checkIndex_df160 l dC dI s.heap.size i (Int32.ofNat n) h0 (by rw [sx_lt hn]; exact hk)) (va_cwS 2 hts gJ1_charAt_3b067_J0_checkIndex_df160 rfl rfl rfl zd_J0_checkIndex_df160.2 ⟨Nat.le_of_ble_eq_true rfl, Nat.le_of_ble_eq_true rfl⟩) ⟨ax_blind sx_Z_same, ax_preE hP hK hD (fun U hU hW => sx_Z_to hz hS.2.1 hFc hU hW)⟩ rfl rfl hl.1 rfl (lv_room (Nat.le_of_ble_eq_true rfl)) dJ1_charAt_3b067_3 ⟨Nat.le_of_ble_eq_true rfl, Nat.le_of_ble_eq_true rfl⟩) hS (fun q _ h => hFc q h) hFc (fun u t H1 locs ht hvm hw hB hz1 hk1 hS => ?_)
  obtain ⟨hP1, hK1, hD1⟩ := hB
  rw [ht] at hP1
  generalize H1 = H at hP1 hS ⊢
  have hP : va_P (dC, dI) vwCl [] H := hP1
  refine lv_aload_n hx hb dJ1_charAt_3b067_6 rfl (lv_at hl 0 rfl) ?_
  refine lv_iload_n hx hb dJ1_charAt_3b067_7 rfl (lv_at hl 1 rfl) ?_
  refine va_tb hx hb hT hS (vp_in_iff.mpr ⟨h0, hk⟩) (v := .int (f i.toNatClampNeg)) rfl dJ1_charAt_3b067_8 ?_
  refine lv_sipush (v := 255) hx hb dJ1_charAt_3b067_9 zk_sipush_255 ?_
  refine lv_iand hx hb dJ1_charAt_3b067_12 ?_
  refine lv_topi (fun x9 ex9 => ?_)
  refine lv_i2c (v := (x9.toUInt32 % 65536).toInt32) hx hb dJ1_charAt_3b067_13 rfl ?_
  exact W.zret (v := (x9.toUInt32 % 65536).toInt32) hx hb hr (pk_nc x9) (fun t ht hW => ⟨⟨(x9.toUInt32 % 65536).toInt32, (), rfl, ⟨pk_nc x9, by rw [ex9]⟩, by rw [ht]; exact hP, va_K.moved hW.alike hK, hD⟩, hS.F ht⟩) hS.2.2 dJ1_charAt_3b067_14


set_option maxHeartbeats 4000000 in
set_option maxRecDepth 100000 in
theorem f_J0_charAt_5068e (l : Launch) (dC : Nat → ClassId) (dI : Nat → Nat → Nat) (sz : Nat) (w n : Nat) (cs : Nat → Int32) (i : Int32) (h0 : (0 : Int) ≤ i.toInt) (hk : i.toInt < (n : Int)) : Met l yJ0_charAt_5068e wsJ0_charAt_5068e ({ frames := 3, cells := 0, slots := 0, locals := 64 }) (va_Pc [.ref w, .int i] (ax_C dC dI sz [] [] (sxc_W w n cs (va_A [] sz)))) (va_Qi (fun (r : Int32) (_ : Unit) => narrow .char (.int r) = .int r ∧ r.toInt = (cs i.toNatClampNeg).toInt) (fun (_ : Unit) (t : State) => ax_B dC dI (va_A [] sz) [] [] t) (va_A [] sz)) 0 0 (va_A [] sz) := by
  refine Met.ofW (cc := cJ0_charAt_5068e) (maxL := 2) (ret := (some .char)) (by decide) rfl ?_
  intro p e s m args below meth c s₁ B hml hv
  obtain ⟨rfl, hsz, hP, hK, hD0, hE⟩ := hv
  have hx := B.exec
  have hb := B.bytes
  have hr := B.returns
  have hts := atoms_spec (ws := wsJ0_charAt_5068e) B.pre
  have hown : s.vm.findClass RJ0 = some m.cls := findClass_of_methodNamed B.named
  have hlocks := B.notSynchronized
  subst hsz
  have hD := hD0.self (sz := s.heap.size)
  generalize hAe : va_A [] s.heap.size = A at hD hE ⊢
  have hA : ∀ q : Nat, s.heap.size ≤ q → A q := fun q h => by rw [← hAe]; exact Or.inr h
  have hS : va_S A s.heap s.heap [] := va_S.rf
  have hP : va_P (dC, dI) vwCl [] s.heap := hP
  have hl := lv_entry ([.ref w, .int i]) (n := 2) (Nat.le_of_ble_eq_true rfl)
  rw [lg_entry_eq]
  generalize (lg_sl ([.ref w, .int i]) ++ List.replicate (2 - (lg_sl ([.ref w, .int i])).length) Slot.unset).toArray = ls at hl ⊢
  have hl : lv_has ls 2 [(0, .ref w), (1, .int i)] := hl
  obtain ⟨hz, hn, hO, hco, hcb, v, hv, hT⟩ := id hE
  refine lv_aload_n hx hb dJ0_charAt_5068e_0 rfl (lv_at hl 0 rfl) ?_
  have hFc := va_free (wc := []) hD hS hA [] rfl
  refine va_calli (va_runV (As := []) (rest := []) ⟨hx, hb, hml, hown, hts⟩ (f_J0_isLatin1_aae02 l dC dI s.heap.size w n cs) (cwV 0 hts gJ0_charAt_5068e_J0_isLatin1_aae02 rfl rfl rfl zd_J0_isLatin1_aae02 ⟨Nat.le_of_ble_eq_true rfl, Nat.le_of_ble_eq_true rfl⟩) ⟨ax_blind sxc_W_same, sxc_recv hE hS, ax_preE hP hK hD (fun U hU hW => sxc_W_to hE hS.2.1 hFc hU hW)⟩ rfl rfl hl.1 rfl (lv_room (Nat.le_of_ble_eq_true rfl)) dJ0_charAt_5068e_1 ⟨Nat.le_of_ble_eq_true rfl, Nat.le_of_ble_eq_true rfl⟩) hS (fun q _ h => hFc q h) hFc (fun r1 u t H1 locs ht hvm hw hB hz1 hk1 hS => ?_)
  obtain ⟨hP1, hK1, hD1⟩ := hB
  rw [ht] at hP1
  generalize H1 = H at hP1 hS ⊢
  have hP : va_P (dC, dI) vwCl [] H := hP1
  have hw : r1 = 1 := hw
  subst hw
  refine lv_if_eq (tgt := 16) hx hb dJ0_charAt_5068e_4 (by decide) (fun c9 => absurd c9 (by decide +kernel)) (fun _ => ?_)
  refine lv_aload_n hx hb dJ0_charAt_5068e_7 rfl (lv_at hl 0 rfl) ?_
  refine vk_getf hx hb hv hS hown (hts (.fieldLink RJ0 9 "java/lang/String" "value" "[B") (zm_J0_charAt_5068e_r1 (List.mem_of_getElem? (i := 0) rfl))) (fun _ h => h) dJ0_charAt_5068e_8 ?_
  refine lv_iload_n hx hb dJ0_charAt_5068e_11 rfl (lv_at hl 1 rfl) ?_
  have hFc := va_free (wc := []) hD hS hA [] rfl
  refine va_calli (va_runS (As := [.ref v, .int i]) (rest := []) ⟨hx, hb, hml, hown, hts⟩ (f_J1_charAt_3b067 l dC dI H.size v n cs i h0 hk) (va_cwS 2 hts gJ0_charAt_5068e_J1_charAt_3b067 rfl rfl rfl zd_J1_charAt_3b067.2 ⟨Nat.le_of_ble_eq_true rfl, Nat.le_of_ble_eq_true rfl⟩) ⟨ax_blind sx_V_same, ax_preE hP hK hD (fun U hU hW => sx_V_to (⟨hz, hn, hT⟩ : sx_V v n cs A s) hS.2.1 hFc hU hW)⟩ rfl rfl hl.1 rfl (lv_room (Nat.le_of_ble_eq_true rfl)) dJ0_charAt_5068e_12 ⟨Nat.le_of_ble_eq_true rfl, Nat.le_of_ble_eq_true rfl⟩) hS (fun q _ h => hFc q h) hFc (fun r12 u t H1 locs ht hvm hw hB hz1 hk1 hS => ?_)
  obtain ⟨hP1, hK1, hD1⟩ := hB
  rw [ht] at hP1
  generalize H1 = H at hP1 hS ⊢
  have hP : va_P (dC, dI) vwCl [] H := hP1
  exact W.zret (v := r12) hx hb hr hw.1 (fun t ht hW => ⟨⟨r12, (), rfl, ⟨hw.1, by rw [hw.2]; exact congrArg Int32.toInt (sxc_ch (hcb _ (by have e9 : i.toNatClampNeg = i.toInt.toNat := rfl; omega)))⟩, by rw [ht]; exact hP, va_K.moved hW.alike hK, hD⟩, hS.F ht⟩) hS.2.2 dJ0_charAt_5068e_15


def sxc_T (ad : Nat → Nat) (A : Nat → Prop) (U : State) : Prop := (∀ i : Nat, i < 36 → sxc_W (ad i) (sx_ln.getD i 0) (sxc i) A U) ∧ vk_R RX3 98 "gallery" (ad 0) U ∧ vk_R RX3 110 "law" (ad 1) U ∧ vk_R RX3 112 "figure" (ad 2) U ∧ vk_R RX3 114 "watche\x72" (ad 3) U ∧ vk_R RX3 116 "seen" (ad 4) U ∧ vk_R RX3 151 "figures" (ad 5) U ∧ vk_R RX3 159 "span" (ad 6) U ∧ vk_R RX3 163 "stairs" (ad 7) U ∧ vk_R RX3 168 "shut" (ad 8) U ∧ vk_R RX3 172 "times" (ad 9) U ∧ vk_R RX3 176 "plus" (ad 10) U ∧ vk_R RX3 180 "first" (ad 11) U ∧ vk_R RX3 187 "is" (ad 12) U ∧ vk_R RX3 199 "walks" (ad 13) U ∧ vk_R RX3 201 "speaks" (ad 14) U ∧ vk_R RX3 207 "from" (ad 15) U ∧ vk_R RX3 209 "to" (ad 16) U ∧ vk_R RX3 215 "at" (ad 17) U ∧ vk_R RX8 128 "gallery" (ad 18) U ∧ vk_R RX8 130 "law" (ad 19) U ∧ vk_R RX8 132 "figure" (ad 20) U ∧ vk_R RX8 134 "watche\x72" (ad 21) U ∧ vk_R RX8 136 "seen" (ad 22) U ∧ vk_R RX8 201 "figures" (ad 23) U ∧ vk_R RX8 207 "span" (ad 24) U ∧ vk_R RX8 209 "stairs" (ad 25) U ∧ vk_R RX8 211 "shut" (ad 26) U ∧ vk_R RX8 213 "times" (ad 27) U ∧ vk_R RX8 218 "plus" (ad 28) U ∧ vk_R RX8 220 "first" (ad 29) U ∧ vk_R RX8 226 "is" (ad 30) U ∧ vk_R RX8 228 "walks" (ad 31) U ∧ vk_R RX8 230 "speaks" (ad 32) U ∧ vk_R RX8 232 "from" (ad 33) U ∧ vk_R RX8 233 "to" (ad 34) U ∧ vk_R RX8 234 "at" (ad 35) U
theorem sxc_T_w {ad : Nat → Nat} {A : Nat → Prop} {U : State} (h : sxc_T ad A U) {i : Nat} (hi : i < 36) : sxc_W (ad i) (sx_ln.getD i 0) (sxc i) A U := h.1 i hi
theorem sxc_R0 {ad : Nat → Nat} {A : Nat → Prop} {U : State} (h : sxc_T ad A U) : vk_R RX3 98 "gallery" (ad 0) U := h.2.1
theorem sxc_R1 {ad : Nat → Nat} {A : Nat → Prop} {U : State} (h : sxc_T ad A U) : vk_R RX3 110 "law" (ad 1) U := h.2.2.1
theorem sxc_R2 {ad : Nat → Nat} {A : Nat → Prop} {U : State} (h : sxc_T ad A U) : vk_R RX3 112 "figure" (ad 2) U := h.2.2.2.1
theorem sxc_R3 {ad : Nat → Nat} {A : Nat → Prop} {U : State} (h : sxc_T ad A U) : vk_R RX3 114 "watche\x72" (ad 3) U := h.2.2.2.2.1
theorem sxc_R4 {ad : Nat → Nat} {A : Nat → Prop} {U : State} (h : sxc_T ad A U) : vk_R RX3 116 "seen" (ad 4) U := h.2.2.2.2.2.1
theorem sxc_R5 {ad : Nat → Nat} {A : Nat → Prop} {U : State} (h : sxc_T ad A U) : vk_R RX3 151 "figures" (ad 5) U := h.2.2.2.2.2.2.1
theorem sxc_R6 {ad : Nat → Nat} {A : Nat → Prop} {U : State} (h : sxc_T ad A U) : vk_R RX3 159 "span" (ad 6) U := h.2.2.2.2.2.2.2.1
theorem sxc_R7 {ad : Nat → Nat} {A : Nat → Prop} {U : State} (h : sxc_T ad A U) : vk_R RX3 163 "stairs" (ad 7) U := h.2.2.2.2.2.2.2.2.1
theorem sxc_R8 {ad : Nat → Nat} {A : Nat → Prop} {U : State} (h : sxc_T ad A U) : vk_R RX3 168 "shut" (ad 8) U := h.2.2.2.2.2.2.2.2.2.1
theorem sxc_R9 {ad : Nat → Nat} {A : Nat → Prop} {U : State} (h : sxc_T ad A U) : vk_R RX3 172 "times" (ad 9) U := h.2.2.2.2.2.2.2.2.2.2.1
theorem sxc_R10 {ad : Nat → Nat} {A : Nat → Prop} {U : State} (h : sxc_T ad A U) : vk_R RX3 176 "plus" (ad 10) U := h.2.2.2.2.2.2.2.2.2.2.2.1
theorem sxc_R11 {ad : Nat → Nat} {A : Nat → Prop} {U : State} (h : sxc_T ad A U) : vk_R RX3 180 "first" (ad 11) U := h.2.2.2.2.2.2.2.2.2.2.2.2.1
theorem sxc_R12 {ad : Nat → Nat} {A : Nat → Prop} {U : State} (h : sxc_T ad A U) : vk_R RX3 187 "is" (ad 12) U := h.2.2.2.2.2.2.2.2.2.2.2.2.2.1
theorem sxc_R13 {ad : Nat → Nat} {A : Nat → Prop} {U : State} (h : sxc_T ad A U) : vk_R RX3 199 "walks" (ad 13) U := h.2.2.2.2.2.2.2.2.2.2.2.2.2.2.1
theorem sxc_R14 {ad : Nat → Nat} {A : Nat → Prop} {U : State} (h : sxc_T ad A U) : vk_R RX3 201 "speaks" (ad 14) U := h.2.2.2.2.2.2.2.2.2.2.2.2.2.2.2.1
theorem sxc_R15 {ad : Nat → Nat} {A : Nat → Prop} {U : State} (h : sxc_T ad A U) : vk_R RX3 207 "from" (ad 15) U := h.2.2.2.2.2.2.2.2.2.2.2.2.2.2.2.2.1
theorem sxc_R16 {ad : Nat → Nat} {A : Nat → Prop} {U : State} (h : sxc_T ad A U) : vk_R RX3 209 "to" (ad 16) U := h.2.2.2.2.2.2.2.2.2.2.2.2.2.2.2.2.2.1
theorem sxc_R17 {ad : Nat → Nat} {A : Nat → Prop} {U : State} (h : sxc_T ad A U) : vk_R RX3 215 "at" (ad 17) U := h.2.2.2.2.2.2.2.2.2.2.2.2.2.2.2.2.2.2.1
theorem sxc_R18 {ad : Nat → Nat} {A : Nat → Prop} {U : State} (h : sxc_T ad A U) : vk_R RX8 128 "gallery" (ad 18) U := h.2.2.2.2.2.2.2.2.2.2.2.2.2.2.2.2.2.2.2.1
theorem sxc_R19 {ad : Nat → Nat} {A : Nat → Prop} {U : State} (h : sxc_T ad A U) : vk_R RX8 130 "law" (ad 19) U := h.2.2.2.2.2.2.2.2.2.2.2.2.2.2.2.2.2.2.2.2.1
theorem sxc_R20 {ad : Nat → Nat} {A : Nat → Prop} {U : State} (h : sxc_T ad A U) : vk_R RX8 132 "figure" (ad 20) U := h.2.2.2.2.2.2.2.2.2.2.2.2.2.2.2.2.2.2.2.2.2.1
theorem sxc_R21 {ad : Nat → Nat} {A : Nat → Prop} {U : State} (h : sxc_T ad A U) : vk_R RX8 134 "watche\x72" (ad 21) U := h.2.2.2.2.2.2.2.2.2.2.2.2.2.2.2.2.2.2.2.2.2.2.1
theorem sxc_R22 {ad : Nat → Nat} {A : Nat → Prop} {U : State} (h : sxc_T ad A U) : vk_R RX8 136 "seen" (ad 22) U := h.2.2.2.2.2.2.2.2.2.2.2.2.2.2.2.2.2.2.2.2.2.2.2.1
theorem sxc_R23 {ad : Nat → Nat} {A : Nat → Prop} {U : State} (h : sxc_T ad A U) : vk_R RX8 201 "figures" (ad 23) U := h.2.2.2.2.2.2.2.2.2.2.2.2.2.2.2.2.2.2.2.2.2.2.2.2.1
theorem sxc_R24 {ad : Nat → Nat} {A : Nat → Prop} {U : State} (h : sxc_T ad A U) : vk_R RX8 207 "span" (ad 24) U := h.2.2.2.2.2.2.2.2.2.2.2.2.2.2.2.2.2.2.2.2.2.2.2.2.2.1
theorem sxc_R25 {ad : Nat → Nat} {A : Nat → Prop} {U : State} (h : sxc_T ad A U) : vk_R RX8 209 "stairs" (ad 25) U := h.2.2.2.2.2.2.2.2.2.2.2.2.2.2.2.2.2.2.2.2.2.2.2.2.2.2.1
theorem sxc_R26 {ad : Nat → Nat} {A : Nat → Prop} {U : State} (h : sxc_T ad A U) : vk_R RX8 211 "shut" (ad 26) U := h.2.2.2.2.2.2.2.2.2.2.2.2.2.2.2.2.2.2.2.2.2.2.2.2.2.2.2.1
theorem sxc_R27 {ad : Nat → Nat} {A : Nat → Prop} {U : State} (h : sxc_T ad A U) : vk_R RX8 213 "times" (ad 27) U := h.2.2.2.2.2.2.2.2.2.2.2.2.2.2.2.2.2.2.2.2.2.2.2.2.2.2.2.2.1
theorem sxc_R28 {ad : Nat → Nat} {A : Nat → Prop} {U : State} (h : sxc_T ad A U) : vk_R RX8 218 "plus" (ad 28) U := h.2.2.2.2.2.2.2.2.2.2.2.2.2.2.2.2.2.2.2.2.2.2.2.2.2.2.2.2.2.1
theorem sxc_R29 {ad : Nat → Nat} {A : Nat → Prop} {U : State} (h : sxc_T ad A U) : vk_R RX8 220 "first" (ad 29) U := h.2.2.2.2.2.2.2.2.2.2.2.2.2.2.2.2.2.2.2.2.2.2.2.2.2.2.2.2.2.2.1
theorem sxc_R30 {ad : Nat → Nat} {A : Nat → Prop} {U : State} (h : sxc_T ad A U) : vk_R RX8 226 "is" (ad 30) U := h.2.2.2.2.2.2.2.2.2.2.2.2.2.2.2.2.2.2.2.2.2.2.2.2.2.2.2.2.2.2.2.1
theorem sxc_R31 {ad : Nat → Nat} {A : Nat → Prop} {U : State} (h : sxc_T ad A U) : vk_R RX8 228 "walks" (ad 31) U := h.2.2.2.2.2.2.2.2.2.2.2.2.2.2.2.2.2.2.2.2.2.2.2.2.2.2.2.2.2.2.2.2.1
theorem sxc_R32 {ad : Nat → Nat} {A : Nat → Prop} {U : State} (h : sxc_T ad A U) : vk_R RX8 230 "speaks" (ad 32) U := h.2.2.2.2.2.2.2.2.2.2.2.2.2.2.2.2.2.2.2.2.2.2.2.2.2.2.2.2.2.2.2.2.2.1
theorem sxc_R33 {ad : Nat → Nat} {A : Nat → Prop} {U : State} (h : sxc_T ad A U) : vk_R RX8 232 "from" (ad 33) U := h.2.2.2.2.2.2.2.2.2.2.2.2.2.2.2.2.2.2.2.2.2.2.2.2.2.2.2.2.2.2.2.2.2.2.1
theorem sxc_R34 {ad : Nat → Nat} {A : Nat → Prop} {U : State} (h : sxc_T ad A U) : vk_R RX8 233 "to" (ad 34) U := h.2.2.2.2.2.2.2.2.2.2.2.2.2.2.2.2.2.2.2.2.2.2.2.2.2.2.2.2.2.2.2.2.2.2.2.1
theorem sxc_R35 {ad : Nat → Nat} {A : Nat → Prop} {U : State} (h : sxc_T ad A U) : vk_R RX8 234 "at" (ad 35) U := h.2.2.2.2.2.2.2.2.2.2.2.2.2.2.2.2.2.2.2.2.2.2.2.2.2.2.2.2.2.2.2.2.2.2.2.2
theorem sxc_T_same {ad : Nat → Nat} {A : Nat → Prop} (a : Array Value) (U : State) (g : JFrame) (mk : MethodId) (h : sxc_T ad A U) : sxc_T ad A (U.calling g mk a) := ⟨fun i hi => sxc_W_same a U g mk (h.1 i hi), vk_R.same rfl (h.2.1), vk_R.same rfl (h.2.2.1), vk_R.same rfl (h.2.2.2.1), vk_R.same rfl (h.2.2.2.2.1), vk_R.same rfl (h.2.2.2.2.2.1), vk_R.same rfl (h.2.2.2.2.2.2.1), vk_R.same rfl (h.2.2.2.2.2.2.2.1), vk_R.same rfl (h.2.2.2.2.2.2.2.2.1), vk_R.same rfl (h.2.2.2.2.2.2.2.2.2.1), vk_R.same rfl (h.2.2.2.2.2.2.2.2.2.2.1), vk_R.same rfl (h.2.2.2.2.2.2.2.2.2.2.2.1), vk_R.same rfl (h.2.2.2.2.2.2.2.2.2.2.2.2.1), vk_R.same rfl (h.2.2.2.2.2.2.2.2.2.2.2.2.2.1), vk_R.same rfl (h.2.2.2.2.2.2.2.2.2.2.2.2.2.2.1), vk_R.same rfl (h.2.2.2.2.2.2.2.2.2.2.2.2.2.2.2.1), vk_R.same rfl (h.2.2.2.2.2.2.2.2.2.2.2.2.2.2.2.2.1), vk_R.same rfl (h.2.2.2.2.2.2.2.2.2.2.2.2.2.2.2.2.2.1), vk_R.same rfl (h.2.2.2.2.2.2.2.2.2.2.2.2.2.2.2.2.2.2.1), vk_R.same rfl (h.2.2.2.2.2.2.2.2.2.2.2.2.2.2.2.2.2.2.2.1), vk_R.same rfl (h.2.2.2.2.2.2.2.2.2.2.2.2.2.2.2.2.2.2.2.2.1), vk_R.same rfl (h.2.2.2.2.2.2.2.2.2.2.2.2.2.2.2.2.2.2.2.2.2.1), vk_R.same rfl (h.2.2.2.2.2.2.2.2.2.2.2.2.2.2.2.2.2.2.2.2.2.2.1), vk_R.same rfl (h.2.2.2.2.2.2.2.2.2.2.2.2.2.2.2.2.2.2.2.2.2.2.2.1), vk_R.same rfl (h.2.2.2.2.2.2.2.2.2.2.2.2.2.2.2.2.2.2.2.2.2.2.2.2.1), vk_R.same rfl (h.2.2.2.2.2.2.2.2.2.2.2.2.2.2.2.2.2.2.2.2.2.2.2.2.2.1), vk_R.same rfl (h.2.2.2.2.2.2.2.2.2.2.2.2.2.2.2.2.2.2.2.2.2.2.2.2.2.2.1), vk_R.same rfl (h.2.2.2.2.2.2.2.2.2.2.2.2.2.2.2.2.2.2.2.2.2.2.2.2.2.2.2.1), vk_R.same rfl (h.2.2.2.2.2.2.2.2.2.2.2.2.2.2.2.2.2.2.2.2.2.2.2.2.2.2.2.2.1), vk_R.same rfl (h.2.2.2.2.2.2.2.2.2.2.2.2.2.2.2.2.2.2.2.2.2.2.2.2.2.2.2.2.2.1), vk_R.same rfl (h.2.2.2.2.2.2.2.2.2.2.2.2.2.2.2.2.2.2.2.2.2.2.2.2.2.2.2.2.2.2.1), vk_R.same rfl (h.2.2.2.2.2.2.2.2.2.2.2.2.2.2.2.2.2.2.2.2.2.2.2.2.2.2.2.2.2.2.2.1), vk_R.same rfl (h.2.2.2.2.2.2.2.2.2.2.2.2.2.2.2.2.2.2.2.2.2.2.2.2.2.2.2.2.2.2.2.2.1), vk_R.same rfl (h.2.2.2.2.2.2.2.2.2.2.2.2.2.2.2.2.2.2.2.2.2.2.2.2.2.2.2.2.2.2.2.2.2.1), vk_R.same rfl (h.2.2.2.2.2.2.2.2.2.2.2.2.2.2.2.2.2.2.2.2.2.2.2.2.2.2.2.2.2.2.2.2.2.2.1), vk_R.same rfl (h.2.2.2.2.2.2.2.2.2.2.2.2.2.2.2.2.2.2.2.2.2.2.2.2.2.2.2.2.2.2.2.2.2.2.2.1), vk_R.same rfl (h.2.2.2.2.2.2.2.2.2.2.2.2.2.2.2.2.2.2.2.2.2.2.2.2.2.2.2.2.2.2.2.2.2.2.2.2)⟩
theorem sxc_T_to {ad : Nat → Nat} {A B : Nat → Prop} {s U : State} {H : Heap} (h : sxc_T ad A s) (hq : ∀ a : Nat, a < s.heap.size → ¬ A a → H[a]? = s.heap[a]?) (hAB : ∀ q, B q → A q) (hU : U.heap = H) (hW : s.WarmedH U.vm) : sxc_T ad B U := ⟨fun i hi => sxc_W_to (h.1 i hi) hq hAB hU hW, vk_R.warm hW (h.2.1), vk_R.warm hW (h.2.2.1), vk_R.warm hW (h.2.2.2.1), vk_R.warm hW (h.2.2.2.2.1), vk_R.warm hW (h.2.2.2.2.2.1), vk_R.warm hW (h.2.2.2.2.2.2.1), vk_R.warm hW (h.2.2.2.2.2.2.2.1), vk_R.warm hW (h.2.2.2.2.2.2.2.2.1), vk_R.warm hW (h.2.2.2.2.2.2.2.2.2.1), vk_R.warm hW (h.2.2.2.2.2.2.2.2.2.2.1), vk_R.warm hW (h.2.2.2.2.2.2.2.2.2.2.2.1), vk_R.warm hW (h.2.2.2.2.2.2.2.2.2.2.2.2.1), vk_R.warm hW (h.2.2.2.2.2.2.2.2.2.2.2.2.2.1), vk_R.warm hW (h.2.2.2.2.2.2.2.2.2.2.2.2.2.2.1), vk_R.warm hW (h.2.2.2.2.2.2.2.2.2.2.2.2.2.2.2.1), vk_R.warm hW (h.2.2.2.2.2.2.2.2.2.2.2.2.2.2.2.2.1), vk_R.warm hW (h.2.2.2.2.2.2.2.2.2.2.2.2.2.2.2.2.2.1), vk_R.warm hW (h.2.2.2.2.2.2.2.2.2.2.2.2.2.2.2.2.2.2.1), vk_R.warm hW (h.2.2.2.2.2.2.2.2.2.2.2.2.2.2.2.2.2.2.2.1), vk_R.warm hW (h.2.2.2.2.2.2.2.2.2.2.2.2.2.2.2.2.2.2.2.2.1), vk_R.warm hW (h.2.2.2.2.2.2.2.2.2.2.2.2.2.2.2.2.2.2.2.2.2.1), vk_R.warm hW (h.2.2.2.2.2.2.2.2.2.2.2.2.2.2.2.2.2.2.2.2.2.2.1), vk_R.warm hW (h.2.2.2.2.2.2.2.2.2.2.2.2.2.2.2.2.2.2.2.2.2.2.2.1), vk_R.warm hW (h.2.2.2.2.2.2.2.2.2.2.2.2.2.2.2.2.2.2.2.2.2.2.2.2.1), vk_R.warm hW (h.2.2.2.2.2.2.2.2.2.2.2.2.2.2.2.2.2.2.2.2.2.2.2.2.2.1), vk_R.warm hW (h.2.2.2.2.2.2.2.2.2.2.2.2.2.2.2.2.2.2.2.2.2.2.2.2.2.2.1), vk_R.warm hW (h.2.2.2.2.2.2.2.2.2.2.2.2.2.2.2.2.2.2.2.2.2.2.2.2.2.2.2.1), vk_R.warm hW (h.2.2.2.2.2.2.2.2.2.2.2.2.2.2.2.2.2.2.2.2.2.2.2.2.2.2.2.2.1), vk_R.warm hW (h.2.2.2.2.2.2.2.2.2.2.2.2.2.2.2.2.2.2.2.2.2.2.2.2.2.2.2.2.2.1), vk_R.warm hW (h.2.2.2.2.2.2.2.2.2.2.2.2.2.2.2.2.2.2.2.2.2.2.2.2.2.2.2.2.2.2.1), vk_R.warm hW (h.2.2.2.2.2.2.2.2.2.2.2.2.2.2.2.2.2.2.2.2.2.2.2.2.2.2.2.2.2.2.2.1), vk_R.warm hW (h.2.2.2.2.2.2.2.2.2.2.2.2.2.2.2.2.2.2.2.2.2.2.2.2.2.2.2.2.2.2.2.2.1), vk_R.warm hW (h.2.2.2.2.2.2.2.2.2.2.2.2.2.2.2.2.2.2.2.2.2.2.2.2.2.2.2.2.2.2.2.2.2.1), vk_R.warm hW (h.2.2.2.2.2.2.2.2.2.2.2.2.2.2.2.2.2.2.2.2.2.2.2.2.2.2.2.2.2.2.2.2.2.2.1), vk_R.warm hW (h.2.2.2.2.2.2.2.2.2.2.2.2.2.2.2.2.2.2.2.2.2.2.2.2.2.2.2.2.2.2.2.2.2.2.2.1), vk_R.warm hW (h.2.2.2.2.2.2.2.2.2.2.2.2.2.2.2.2.2.2.2.2.2.2.2.2.2.2.2.2.2.2.2.2.2.2.2.2)⟩
end SXC
end P222_sxc
section P225_ref
section REF
/-- rows of 23, each as a state has it -/
def md_S (f : Nat → Int32) : Prop := ∀ j : Nat, ((∀ k : Nat, 0 ≤ k → k ≤ 8 → (0 : Int) ≤ (f (23 * j + k)).toInt ∧ (f (23 * j + k)).toInt ≤ 8) ∧ (∀ k : Nat, 19 ≤ k → k ≤ 19 → (0 : Int) ≤ (f (23 * j + k)).toInt ∧ (f (23 * j + k)).toInt ≤ 8) ∧ (∀ k : Nat, 20 ≤ k → k ≤ 20 → (0 : Int) ≤ (f (23 * j + k)).toInt ∧ (f (23 * j + k)).toInt ≤ 19))
theorem md_sh {f : Nat → Int32} {i k v : Int32} (h : md_S f) (ev : v = f k.toNatClampNeg) (hk : k.toInt = i.toInt + 23) (h0 : (0 : Int) ≤ i.toInt) : md_S (upd f i.toNatClampNeg v) := by
  have e1 : k.toNatClampNeg = i.toNatClampNeg + 23 := by
    have a1 : k.toNatClampNeg = k.toInt.toNat := rfl
    have a2 : i.toNatClampNeg = i.toInt.toNat := rfl
    omega
  have q : ∀ (j r : Nat) (P : Int32 → Prop), (∀ j, P (f (23 * j + r))) → P (upd f i.toNatClampNeg v (23 * j + r)) := by
    intro j r P hp
    unfold upd
    split
    · rename_i e
      have e3 : k.toNatClampNeg = 23 * (j + 1) + r := by omega
      rw [ev, e3]; exact hp (j + 1)
    · exact hp j
  intro j
  refine ⟨fun r a b => q j r (fun x => (0 : Int) ≤ x.toInt ∧ x.toInt ≤ 8) (fun j => (h j).1 r a b), fun r a b => q j r (fun x => (0 : Int) ≤ x.toInt ∧ x.toInt ≤ 8) (fun j => (h j).2.1 r a b), fun r a b => q j r (fun x => (0 : Int) ≤ x.toInt ∧ x.toInt ≤ 19) (fun j => (h j).2.2 r a b)⟩
theorem md_0 : md_S (fun _ => 0) := fun j => ⟨fun _ _ _ => zq167, fun _ _ _ => zq167, fun _ _ _ => zq168⟩
theorem md_ix {x u : Int32} (h : x.toInt = 23 * u.toInt) (h0 : (0 : Int) ≤ u.toInt) : x.toNatClampNeg = 23 * u.toNatClampNeg := by
  have a1 : x.toNatClampNeg = x.toInt.toNat := rfl
  have a2 : u.toNatClampNeg = u.toInt.toNat := rfl
  omega
theorem cp_0 {f g : Nat → Int32} {sp dp n : Nat} (h : n = 0) : g = va_cpy f g sp dp n := by
  funext m; rw [pk_cpy_out (by omega)]
theorem cp_s {f g h h' : Nat → Int32} {sp dp : Nat} {k k2 i j v : Int32} (hh : h = va_cpy f g sp dp k.toNatClampNeg) (e1 : h' = upd h i.toNatClampNeg v) (e2 : v = f j.toNatClampNeg) (hi : i.toNatClampNeg = dp + k.toNatClampNeg) (hj : j.toNatClampNeg = sp + k.toNatClampNeg) (hk : k2.toNatClampNeg = k.toNatClampNeg + 1) : h' = va_cpy f g sp dp k2.toNatClampNeg := by
  rw [e1, hh, e2, hk, hi, hj]
  generalize k.toNatClampNeg = n
  funext m
  unfold upd
  split
  · rename_i e
    rw [pk_cpy_in (by omega) (by omega)]
    exact congrArg f (by omega)
  · rename_i e
    by_cases h2 : dp ≤ m ∧ m < dp + n
    · rw [pk_cpy_in h2.1 h2.2, pk_cpy_in h2.1 (by omega)]
    · rw [pk_cpy_out (by omega), pk_cpy_out (by omega)]
theorem cp_i {i a k : Int32} (h : i.toInt = a.toInt + k.toInt) (ha : (0 : Int) ≤ a.toInt) (hk : (0 : Int) ≤ k.toInt) : i.toNatClampNeg = a.toNatClampNeg + k.toNatClampNeg := by
  have a1 : i.toNatClampNeg = i.toInt.toNat := rfl
  have a2 : a.toNatClampNeg = a.toInt.toNat := rfl
  have a3 : k.toNatClampNeg = k.toInt.toNat := rfl
  omega
theorem cp_k {k2 k : Int32} (h : k2.toInt = k.toInt + 1) (hk : (0 : Int) ≤ k.toInt) : k2.toNatClampNeg = k.toNatClampNeg + 1 := by
  have a1 : k2.toNatClampNeg = k2.toInt.toNat := rfl
  have a3 : k.toNatClampNeg = k.toInt.toNat := rfl
  omega
theorem cp_e {k : Int32} {n : Nat} (h : k.toInt = (n : Int)) : k.toNatClampNeg = n := by
  have a3 : k.toNatClampNeg = k.toInt.toNat := rfl
  omega
theorem cp_SS {f g h : Nat → Int32} {sp dp : Nat} (e : h = va_cpy f g sp dp 23) (h1 : sp = 0) (h2 : dp = 0) (hf : ((∀ k : Nat, 0 ≤ k → k ≤ 8 → (0 : Int) ≤ (f k).toInt ∧ (f k).toInt ≤ 8) ∧ (∀ k : Nat, 19 ≤ k → k ≤ 19 → (0 : Int) ≤ (f k).toInt ∧ (f k).toInt ≤ 8) ∧ (∀ k : Nat, 20 ≤ k → k ≤ 20 → (0 : Int) ≤ (f k).toInt ∧ (f k).toInt ≤ 19))) : ((∀ k : Nat, 0 ≤ k → k ≤ 8 → (0 : Int) ≤ (h k).toInt ∧ (h k).toInt ≤ 8) ∧ (∀ k : Nat, 19 ≤ k → k ≤ 19 → (0 : Int) ≤ (h k).toInt ∧ (h k).toInt ≤ 8) ∧ (∀ k : Nat, 20 ≤ k → k ≤ 20 → (0 : Int) ≤ (h k).toInt ∧ (h k).toInt ≤ 19)) := by
  have q : ∀ k : Nat, k < 23 → h k = f k := fun k hk => by rw [e, pk_cpy_in (by omega) (by omega)]; exact congrArg f (by omega)
  exact ⟨fun k a b => by rw [q k (by omega)]; exact hf.1 k a b, fun k a b => by rw [q k (by omega)]; exact hf.2.1 k a b, fun k a b => by rw [q k (by omega)]; exact hf.2.2 k a b⟩
theorem cp_SM {f g h : Nat → Int32} {sp dp u : Nat} (e : h = va_cpy f g sp dp 23) (h1 : sp = 0) (h2 : dp = 23 * u) (hf : ((∀ k : Nat, 0 ≤ k → k ≤ 8 → (0 : Int) ≤ (f k).toInt ∧ (f k).toInt ≤ 8) ∧ (∀ k : Nat, 19 ≤ k → k ≤ 19 → (0 : Int) ≤ (f k).toInt ∧ (f k).toInt ≤ 8) ∧ (∀ k : Nat, 20 ≤ k → k ≤ 20 → (0 : Int) ≤ (f k).toInt ∧ (f k).toInt ≤ 19))) (hg : md_S g) : md_S h := by
  intro j
  by_cases hj : j = u
  · have q : ∀ k : Nat, k < 23 → h (23 * j + k) = f k := fun k hk => by rw [e, pk_cpy_in (by omega) (by omega)]; exact congrArg f (by omega)
    exact ⟨fun k a b => by rw [q k (by omega)]; exact hf.1 k a b, fun k a b => by rw [q k (by omega)]; exact hf.2.1 k a b, fun k a b => by rw [q k (by omega)]; exact hf.2.2 k a b⟩
  · have q : ∀ k : Nat, k < 23 → h (23 * j + k) = g (23 * j + k) := fun k hk => by rw [e, pk_cpy_out (by omega)]
    have hg := hg j
    exact ⟨fun k a b => by rw [q k (by omega)]; exact hg.1 k a b, fun k a b => by rw [q k (by omega)]; exact hg.2.1 k a b, fun k a b => by rw [q k (by omega)]; exact hg.2.2 k a b⟩
theorem cp_MS {f g h : Nat → Int32} {sp dp u : Nat} (e : h = va_cpy f g sp dp 23) (h1 : sp = 23 * u) (h2 : dp = 0) (hf : md_S f) : ((∀ k : Nat, 0 ≤ k → k ≤ 8 → (0 : Int) ≤ (h k).toInt ∧ (h k).toInt ≤ 8) ∧ (∀ k : Nat, 19 ≤ k → k ≤ 19 → (0 : Int) ≤ (h k).toInt ∧ (h k).toInt ≤ 8) ∧ (∀ k : Nat, 20 ≤ k → k ≤ 20 → (0 : Int) ≤ (h k).toInt ∧ (h k).toInt ≤ 19)) := by
  have q : ∀ k : Nat, k < 23 → h k = f (23 * u + k) := fun k hk => by rw [e, pk_cpy_in (by omega) (by omega)]; exact congrArg f (by omega)
  have hf := hf u
  exact ⟨fun k a b => by rw [q k (by omega)]; exact hf.1 k a b, fun k a b => by rw [q k (by omega)]; exact hf.2.1 k a b, fun k a b => by rw [q k (by omega)]; exact hf.2.2 k a b⟩
/-- the first n entries are apart, each 0 .. 8 -/
def gr_D (row : Nat → Int32) (n : Nat) : Prop := (∀ i j : Nat, i < n → j < n → row i = row j → i = j) ∧ ∀ i : Nat, i < n → (0 : Int) ≤ (row i).toInt ∧ (row i).toInt ≤ 8
theorem pg_nat : ∀ (m n : Nat) (f : Nat → Nat), (∀ i j : Nat, i < n → j < n → f i = f j → i = j) → (∀ i : Nat, i < n → f i < m) → n ≤ m := by
  intro m
  induction m with
  | zero =>
    intro n f _ hb
    cases n with
    | zero => exact Nat.le_refl _
    | succ n => exact absurd (hb 0 (by omega)) (by omega)
  | succ m ih =>
    intro n f hi hb
    by_cases h : ∃ i, i < n ∧ f i = m
    · obtain ⟨i0, h0, e0⟩ := h
      have g1 : ∀ i, i < n - 1 → (if i < i0 then i else i + 1) < n := fun i h9 => by split <;> omega
      have g2 : ∀ i, (if i < i0 then i else i + 1) ≠ i0 := fun i => by split <;> omega
      have g3 : ∀ i j, (if i < i0 then i else i + 1) = (if j < i0 then j else j + 1) → i = j := fun i j h9 => by split at h9 <;> split at h9 <;> omega
      have h1 := ih (n - 1) (fun i => f (if i < i0 then i else i + 1)) (fun i j a b e => g3 i j (hi _ _ (g1 i a) (g1 j b) e)) (fun i a => by
        have h2 := hb _ (g1 i a)
        have h3 : f (if i < i0 then i else i + 1) ≠ m := fun e => g2 i (hi _ _ (g1 i a) h0 (e.trans e0.symm))
        show f (if i < i0 then i else i + 1) < m
        omega)
      omega
    · have h1 := ih n f hi (fun i a => by
        have h2 := hb i a
        have h3 : f i ≠ m := fun e => h ⟨i, a, e⟩
        omega)
      omega
theorem gr_le {row : Nat → Int32} {n : Nat} (h : gr_D row n) : n ≤ 9 :=
  pg_nat 9 n (fun i => (row i).toInt.toNat) (fun i j a b e => h.1 i j a b (by
    have h1 := h.2 i a
    have h2 := h.2 j b
    have e : (row i).toInt.toNat = (row j).toInt.toNat := e
    exact Int32.toInt_inj.mp (by omega))) (fun i a => by
    have h1 := h.2 i a
    show (row i).toInt.toNat < 9
    omega)
theorem gr_i {row : Nat → Int32} {n : Int32} (h : gr_D row n.toNatClampNeg) : n.toInt ≤ 9 := by
  have a3 : n.toNatClampNeg = n.toInt.toNat := rfl
  have h1 := gr_le h
  omega
theorem gr_z0 {row : Nat → Int32} {n : Nat} (h : n = 0) : gr_D row n := ⟨fun i j a => by omega, fun i a => by omega⟩
theorem gr_s {row row' : Nat → Int32} {n n2 f : Int32} (h : gr_D row n.toNatClampNeg) (hne : ∀ i : Nat, i < n.toNatClampNeg → row i ≠ f) (e : row' = upd row n.toNatClampNeg f) (hf : (0 : Int) ≤ f.toInt) (hf2 : f.toInt ≤ 8) (hk : n2.toInt = n.toInt + 1) (h0 : (0 : Int) ≤ n.toInt) : gr_D row' n2.toNatClampNeg := by
  rw [cp_k hk h0, e]
  generalize n.toNatClampNeg = m at *
  refine ⟨fun i j a b q => ?_, fun i a => ?_⟩
  · unfold upd at q
    split at q <;> split at q
    · omega
    · rename_i e1 e2; exact absurd q.symm (hne j (by omega))
    · rename_i e1 e2; exact absurd q (hne i (by omega))
    · exact h.1 i j (by omega) (by omega) q
  · unfold upd; split
    · exact ⟨hf, hf2⟩
    · exact h.2 i (by omega)
/-- settled so far -/
def gr_K (row : Nat → Int32) (s k f n : Int32) : Prop := (s.toInt = -1 ∧ ∀ i : Nat, i < k.toNatClampNeg → row i ≠ f) ∨ ((0 : Int) ≤ s.toInt ∧ s.toInt < n.toInt)
theorem gr_K0 {row : Nat → Int32} {s k f n : Int32} (h : s.toInt = -1) (hk : k.toNatClampNeg = 0) : gr_K row s k f n := Or.inl ⟨h, fun i a => by omega⟩
theorem gr_Ks {row : Nat → Int32} {s k k2 f n x : Int32} (h : gr_K row s k f n) (ex : x = row k.toNatClampNeg) (hne : ¬ x = f) (hk : k2.toInt = k.toInt + 1) (h0 : (0 : Int) ≤ k.toInt) : gr_K row s k2 f n := by
  rcases h with h | h
  · refine Or.inl ⟨h.1, fun i a => ?_⟩
    rw [cp_k hk h0] at a
    by_cases e : i = k.toNatClampNeg
    · rw [e, ← ex]; exact hne
    · exact h.2 i (by omega)
  · exact Or.inr h
theorem gr_Kn {row : Nat → Int32} {s k f n : Int32} (h : gr_K row s k f n) (hs : s.toInt < 0) (hk : n.toInt ≤ k.toInt) : ∀ i : Nat, i < n.toNatClampNeg → row i ≠ f := by
  rcases h with h | h
  · intro i a
    have a1 : k.toNatClampNeg = k.toInt.toNat := rfl
    have a2 : n.toNatClampNeg = n.toInt.toNat := rfl
    exact h.2 i (by omega)
  · omega
theorem gr_Km {row : Nat → Int32} {s k f n : Int32} (h : gr_K row s k f n) (hs : s.toInt < 0) : s.toInt = -1 := by
  rcases h with h | h
  · exact h.1
  · omega
theorem gr_Kp {row : Nat → Int32} {s k f n : Int32} (h : gr_K row s k f n) (hs : (0 : Int) ≤ s.toInt) : s.toInt < n.toInt := by
  rcases h with h | h <;> omega
/-- no entry of the nine is gone or more -/
def tb_M (f : Nat → Int32) (g : Int) : Prop := ∀ i : Nat, i ≤ 8 → (-1 : Int) ≤ (f i).toInt ∧ (f i).toInt < g
theorem tb_f {f g : Nat → Int32} {k k2 v : Int32} (h : ∀ i : Nat, i < k.toNatClampNeg → (f i).toInt = -1) (e : g = upd f k.toNatClampNeg v) (hv : v.toInt = -1) (hk : k2.toInt = k.toInt + 1) (h0 : (0 : Int) ≤ k.toInt) : ∀ i : Nat, i < k2.toNatClampNeg → (g i).toInt = -1 := by
  intro i a
  rw [cp_k hk h0] at a
  rw [e]; unfold upd; split
  · exact hv
  · exact h i (by omega)
theorem tb_0 {f : Nat → Int32} {k : Int32} {g : Int} (h : ∀ i : Nat, i < k.toNatClampNeg → (f i).toInt = -1) (hk : (9 : Int) ≤ k.toInt) (hg : g = 0) : tb_M f g := by
  intro i a
  have a1 : k.toNatClampNeg = k.toInt.toNat := rfl
  have h1 := h i (by omega)
  omega
theorem tb_s {f f' : Nat → Int32} {j g g2 : Int32} (h : tb_M f g.toInt) (e : f' = upd f j.toNatClampNeg g) (hg : g2.toInt = g.toInt + 1) (h0 : (0 : Int) ≤ g.toInt) : tb_M f' g2.toInt := by
  intro i a
  rw [e]; unfold upd; split
  · omega
  · have h1 := h i a; omega
theorem tb_r {f : Nat → Int32} {j x : Int32} {g : Int} (h : tb_M f g) (ex : x = f j.toNatClampNeg) (h0 : (0 : Int) ≤ j.toInt) (h1 : j.toInt ≤ 8) : (-1 : Int) ≤ x.toInt ∧ x.toInt < g := by
  have a1 : j.toNatClampNeg = j.toInt.toNat := rfl
  rw [ex]; exact h _ (by omega)
theorem tb_c {t f p F y z w : Int32} (ht : t.toInt = 0) (ey : y.toInt = t.toInt * f.toInt) (ez : z.toInt = y.toInt + p.toInt) (ew : w.toInt = z.toInt % F.toInt) (h0 : (0 : Int) ≤ p.toInt) (hp : p.toInt < F.toInt) : w.toInt = p.toInt := by
  rw [ht, Int.zero_mul] at ey
  have e : z.toInt = p.toInt := by omega
  rw [ew, e]; exact Int.emod_eq_of_lt h0 hp
theorem bc_ok {F p c : Int} (h1 : 2 ≤ F) (h2 : F ≤ 9) (h3 : 0 ≤ p) (h4 : p < F) (hc : c = p * F + p) : c / (F * F) = 0 ∧ c / F % F = p ∧ c % F = p := by
  have h5 : c / F = p := by rcases (show F = 2 ∨ F = 3 ∨ F = 4 ∨ F = 5 ∨ F = 6 ∨ F = 7 ∨ F = 8 ∨ F = 9 by omega) with e | e | e | e | e | e | e | e <;> subst e <;> omega
  have h6 : c / (F * F) = 0 := by rcases (show F = 2 ∨ F = 3 ∨ F = 4 ∨ F = 5 ∨ F = 6 ∨ F = 7 ∨ F = 8 ∨ F = 9 by omega) with e | e | e | e | e | e | e | e <;> subst e <;> omega
  have h7 : c % F = p := by rcases (show F = 2 ∨ F = 3 ∨ F = 4 ∨ F = 5 ∨ F = 6 ∨ F = 7 ∨ F = 8 ∨ F = 9 by omega) with e | e | e | e | e | e | e | e <;> subst e <;> omega
  exact ⟨h6, by rw [h5]; exact Int.emod_eq_of_lt h3 h4, h7⟩
theorem lw_mod {x y : Int64} (hy : ¬ y = 0) : (x - x / y * y).toInt.natAbs < y.toInt.natAbs := by
  have hY : y.toInt ≠ 0 := fun h => hy (Int64.toInt_inj.mp (h.trans (by decide)))
  have e : (x - x / y * y).toInt = (x.toInt.tmod y.toInt).bmod (2 ^ 64) := by
    rw [Int64.toInt_sub, Int64.toInt_mul, Int64.toInt_div, Int.tmod_def, Int.sub_bmod_bmod, ← Int.sub_bmod_bmod, Int.bmod_mul_bmod, Int.sub_bmod_bmod, Int.mul_comm y.toInt]
  have h1 : (x.toInt.tmod y.toInt).natAbs = x.toInt.natAbs % y.toInt.natAbs := Int.natAbs_tmod _ _
  have h2 := Nat.mod_lt x.toInt.natAbs (show 0 < y.toInt.natAbs by omega)
  have h3 := Int64.le_toInt y
  have h4 := Int64.toInt_lt y
  rw [e, Int.bmod_eq_of_le (by omega) (by omega)]
  omega
theorem lw_b (y : Int64) : y.toInt.natAbs < 9223372036854775809 := by
  have h3 := Int64.le_toInt y
  have h4 := Int64.toInt_lt y
  omega
theorem sh_1 {y z : Int32} (e : z = 1 <<< (y &&& 31)) (h0 : (0 : Int) ≤ y.toInt) (h1 : y.toInt ≤ 9) : (1 : Int) ≤ z.toInt ∧ z.toInt ≤ 512 := by
  have q : ∀ k : Fin 10, (1 : Int) ≤ ((1 : Int32) <<< (Int32.ofNat k.val &&& 31)).toInt ∧ ((1 : Int32) <<< (Int32.ofNat k.val &&& 31)).toInt ≤ 512 := by decide
  have e2 : y = Int32.ofNat y.toInt.toNat := Int32.toInt_inj.mp (by rw [show (Int32.ofNat y.toInt.toNat).toInt = (y.toInt.toNat : Int) from nI_toInt (by omega)]; omega)
  rw [e, e2]; exact q ⟨y.toInt.toNat, by omega⟩
theorem tb_z {f : Nat → Int32} {n : Nat} (h : n = 0) : ∀ i : Nat, i < n → (f i).toInt = -1 := fun i a => by omega
theorem lf_s {code code2 r a : Int32} {F : Int} (h : code.toInt ≤ a.toInt * F + a.toInt) (hw : ∀ p : Int, 0 ≤ p → p < F → code.toInt = p * F + p → r.toInt = p) (hne : ¬ r = a) (h0 : 0 ≤ a.toInt) (h1 : a.toInt < F) (hc : code2.toInt = code.toInt + 1) : code2.toInt ≤ a.toInt * F + a.toInt := by
  have h2 : code.toInt ≠ a.toInt * F + a.toInt := fun e => hne (Int32.toInt_inj.mp (hw _ h0 h1 e))
  omega
theorem lf_b {a : Int32} {c F : Int} (h : c ≤ a.toInt * F + a.toInt) (h0 : 0 ≤ a.toInt) (h1 : a.toInt ≤ 8) (h2 : 0 ≤ F) (h3 : F ≤ 9) : c ≤ 80 := by
  have h4 : a.toInt * F ≤ 8 * 9 := Int.mul_le_mul h1 h3 h2 (by decide)
  omega
theorem lf_0 {a : Int32} {F : Int} (h0 : 0 ≤ a.toInt) (h2 : 0 ≤ F) : (0 : Int32).toInt ≤ a.toInt * F + a.toInt := by
  have h4 := Int.mul_nonneg h0 h2
  have h5 : (0 : Int32).toInt = 0 := by decide
  omega
end REF
end P225_ref
section P226_good
set_option maxRecDepth 20000 in
theorem gX8_begin_X8_watchAsTold : GoodIn wsX8_begin (wsV RX8 267 RX8 yX8_watchAsTold wsX8_watchAsTold) := goodIn_s _ [(3, 9), (15, 40)] rfl (by decide +kernel)
set_option maxRecDepth 20000 in
theorem gX8_begin_X8_copy : GoodIn wsX8_begin (va_wsS RX8 169 yX8_copy wsX8_copy) := goodIn_s _ [(12, 2), (6, 1), (14, 1)] rfl (by decide +kernel)
set_option maxRecDepth 20000 in
theorem gX8_minutesOn_X8_begin : GoodIn wsX8_minutesOn (wsV RX8 270 RX8 yX8_begin wsX8_begin) := goodIn_s _ [(2, 6), (1, 1), (8, 3), (5, 1), (11, 8), (49, 40)] rfl (by decide +kernel)
set_option maxRecDepth 20000 in
theorem gX8_minutesOn_X8_minuteOn : GoodIn wsX8_minutesOn (wsV RX8 273 RX8 yX8_minuteOn wsX8_minuteOn) := goodIn_s _ [(19, 3), (5, 1), (22, 2), (12, 1), (24, 4), (5, 1), (28, 9), (15, 1), (37, 4), (14, 1), (13, 1), (41, 48)] rfl (by decide +kernel)
set_option maxRecDepth 20000 in
theorem gX8_figure_X8_good : GoodIn wsX8_figure (wsV RX8 160 RX8 yX8_good wsX8_good) := goodIn_s _ [(3, 7), (22, 40)] rfl (by decide +kernel)
set_option maxRecDepth 20000 in
theorem gX8_figure_X8_isFigure : GoodIn wsX8_figure (wsV RX8 277 RX8 yX8_isFigure wsX8_isFigure) := goodIn_s _ [(10, 3), (6, 1), (13, 2), (1, 1), (15, 2), (6, 1), (17, 1), (22, 40)] rfl (by decide +kernel)
set_option maxRecDepth 20000 in
theorem gX8_figure_X8_in : GoodIn wsX8_figure (va_wsS RX8 142 yX8_in wsX8_in) := goodIn_s _ [(15, 2), (6, 1), (17, 1)] rfl (by decide +kernel)
set_option maxRecDepth 20000 in
theorem gX8_figure_X8_no : GoodIn wsX8_figure (wsV RX8 163 RX8 yX8_no wsX8_no) := goodIn_s _ [(18, 3), (6, 1), (21, 1), (9, 1), (22, 40)] rfl (by decide +kernel)
set_option maxRecDepth 20000 in
theorem gX8_watcher_X8_good : GoodIn wsX8_watcher (wsV RX8 160 RX8 yX8_good wsX8_good) := goodIn_s _ [(3, 7), (33, 40)] rfl (by decide +kernel)
set_option maxRecDepth 20000 in
theorem gX8_watcher_X8_isWatcher : GoodIn wsX8_watcher (wsV RX8 280 RX8 yX8_isWatcher wsX8_isWatcher) := goodIn_s _ [(10, 3), (6, 1), (13, 2), (1, 1), (15, 2), (6, 1), (17, 1), (33, 40)] rfl (by decide +kernel)
set_option maxRecDepth 20000 in
theorem gX8_watcher_X8_in : GoodIn wsX8_watcher (va_wsS RX8 142 yX8_in wsX8_in) := goodIn_s _ [(15, 2), (6, 1), (17, 1)] rfl (by decide +kernel)
set_option maxRecDepth 20000 in
theorem gX8_watcher_X8_no : GoodIn wsX8_watcher (wsV RX8 163 RX8 yX8_no wsX8_no) := goodIn_s _ [(18, 3), (6, 1), (21, 1), (9, 1), (33, 40)] rfl (by decide +kernel)
set_option maxRecDepth 20000 in
theorem gX8_watcher_X8_watchAsTold : GoodIn wsX8_watcher (wsV RX8 267 RX8 yX8_watchAsTold wsX8_watchAsTold) := goodIn_s _ [(22, 3), (6, 1), (25, 1), (1, 1), (26, 3), (33, 40)] rfl (by decide +kernel)
set_option maxRecDepth 20000 in
theorem gX8_watcher_X8_watcherAt : GoodIn wsX8_watcher (wsV RX8 242 RX8 yX8_watcherAt wsX8_watcherAt) := goodIn_s _ [(29, 3), (6, 1), (32, 1), (27, 1), (26, 1), (33, 40)] rfl (by decide +kernel)
set_option maxRecDepth 20000 in
theorem gX8_alive_X8_good : GoodIn wsX8_alive (wsV RX8 160 RX8 yX8_good wsX8_good) := goodIn_s _ [(3, 7), (14, 40)] rfl (by decide +kernel)
set_option maxRecDepth 20000 in
theorem gX8_alive_X8_no : GoodIn wsX8_alive (wsV RX8 163 RX8 yX8_no wsX8_no) := goodIn_s _ [(10, 3), (6, 1), (13, 1), (9, 1), (14, 40)] rfl (by decide +kernel)
set_option maxRecDepth 20000 in
theorem gX8_left_X8_good : GoodIn wsX8_left (wsV RX8 160 RX8 yX8_good wsX8_good) := goodIn_s _ [(4, 7), (15, 40)] rfl (by decide +kernel)
set_option maxRecDepth 20000 in
theorem gX8_left_X8_no : GoodIn wsX8_left (wsV RX8 163 RX8 yX8_no wsX8_no) := goodIn_s _ [(11, 3), (7, 1), (14, 1), (10, 1), (15, 40)] rfl (by decide +kernel)
set_option maxRecDepth 20000 in
theorem gX8_caught_X8_good : GoodIn wsX8_caught (wsV RX8 160 RX8 yX8_good wsX8_good) := goodIn_s _ [(3, 7), (14, 40)] rfl (by decide +kernel)
set_option maxRecDepth 20000 in
theorem gX8_caught_X8_no : GoodIn wsX8_caught (wsV RX8 163 RX8 yX8_no wsX8_no) := goodIn_s _ [(10, 3), (6, 1), (13, 1), (9, 1), (14, 40)] rfl (by decide +kernel)
set_option maxRecDepth 20000 in
theorem gX8_goRound_X8_nextOf : GoodIn wsX8_goRound (wsV RX8 264 RX8 yX8_nextOf wsX8_nextOf) := goodIn_s _ [(5, 46)] rfl (by decide +kernel)
set_option maxRecDepth 20000 in
theorem gX8_turnOf_X8_good : GoodIn wsX8_turnOf (wsV RX8 160 RX8 yX8_good wsX8_good) := goodIn_s _ [(3, 7), (38, 40)] rfl (by decide +kernel)
set_option maxRecDepth 20000 in
theorem gX8_turnOf_X8_in : GoodIn wsX8_turnOf (va_wsS RX8 142 yX8_in wsX8_in) := goodIn_s _ [(10, 2), (6, 1), (12, 1)] rfl (by decide +kernel)
set_option maxRecDepth 20000 in
theorem gX8_turnOf_X8_why : GoodIn wsX8_turnOf (wsV RX8 290 RX8 yX8_why wsX8_why) := goodIn_s _ [(13, 3), (6, 1), (16, 1)] rfl (by decide +kernel)
set_option maxRecDepth 20000 in
theorem gX8_turnOf_X8_no : GoodIn wsX8_turnOf (wsV RX8 163 RX8 yX8_no wsX8_no) := goodIn_s _ [(17, 3), (6, 1), (20, 1), (9, 1), (38, 40)] rfl (by decide +kernel)
set_option maxRecDepth 20000 in
theorem gX8_turnOf_X8_goRound : GoodIn wsX8_turnOf (wsV RX8 294 RX8 yX8_goRound wsX8_goRound) := goodIn_s _ [(21, 3), (6, 1), (24, 8), (6, 1), (32, 2), (38, 40)] rfl (by decide +kernel)
set_option maxRecDepth 20000 in
theorem gX8_turnOf_X8_turnAt : GoodIn wsX8_turnOf (wsV RX8 297 RX8 yX8_turnAt wsX8_turnAt) := goodIn_s _ [(34, 3), (6, 1), (37, 1), (27, 1), (26, 1), (28, 1), (38, 40)] rfl (by decide +kernel)
set_option maxRecDepth 20000 in
theorem gX8_turnIn_X8_good : GoodIn wsX8_turnIn (wsV RX8 160 RX8 yX8_good wsX8_good) := goodIn_s _ [(4, 7), (33, 40)] rfl (by decide +kernel)
set_option maxRecDepth 20000 in
theorem gX8_turnIn_X8_isFigure : GoodIn wsX8_turnIn (wsV RX8 277 RX8 yX8_isFigure wsX8_isFigure) := goodIn_s _ [(11, 3), (7, 1), (14, 5), (7, 1), (19, 1), (33, 40)] rfl (by decide +kernel)
set_option maxRecDepth 20000 in
theorem gX8_turnIn_X8_no : GoodIn wsX8_turnIn (wsV RX8 163 RX8 yX8_no wsX8_no) := goodIn_s _ [(20, 3), (7, 1), (23, 1), (10, 1), (33, 40)] rfl (by decide +kernel)
end P226_good
section P226_good_1
set_option maxRecDepth 20000 in
theorem gX8_turnIn_X8_goRound : GoodIn wsX8_turnIn (wsV RX8 294 RX8 yX8_goRound wsX8_goRound) := goodIn_s _ [(24, 3), (7, 1), (27, 2), (1, 1), (3, 1), (2, 1), (29, 3), (7, 1), (32, 1), (16, 1), (33, 40)] rfl (by decide +kernel)
set_option maxRecDepth 20000 in
theorem gX8_settles_X8_good : GoodIn wsX8_settles (wsV RX8 160 RX8 yX8_good wsX8_good) := goodIn_s _ [(3, 7), (26, 40)] rfl (by decide +kernel)
set_option maxRecDepth 20000 in
theorem gX8_settles_X8_no : GoodIn wsX8_settles (wsV RX8 163 RX8 yX8_no wsX8_no) := goodIn_s _ [(10, 3), (6, 1), (13, 1), (9, 1), (26, 40)] rfl (by decide +kernel)
set_option maxRecDepth 20000 in
theorem gX8_settles_X8_goRound : GoodIn wsX8_settles (wsV RX8 294 RX8 yX8_goRound wsX8_goRound) := goodIn_s _ [(14, 3), (6, 1), (17, 2), (2, 1), (19, 5), (6, 1), (24, 42)] rfl (by decide +kernel)
set_option maxRecDepth 20000 in
theorem gX8_round_X8_good : GoodIn wsX8_round (wsV RX8 160 RX8 yX8_good wsX8_good) := goodIn_s _ [(3, 7), (26, 40)] rfl (by decide +kernel)
set_option maxRecDepth 20000 in
theorem gX8_round_X8_no : GoodIn wsX8_round (wsV RX8 163 RX8 yX8_no wsX8_no) := goodIn_s _ [(10, 3), (6, 1), (13, 1), (9, 1), (26, 40)] rfl (by decide +kernel)
set_option maxRecDepth 20000 in
theorem gX8_round_X8_goRound : GoodIn wsX8_round (wsV RX8 294 RX8 yX8_goRound wsX8_goRound) := goodIn_s _ [(14, 3), (6, 1), (17, 4), (2, 1), (21, 3), (6, 1), (24, 42)] rfl (by decide +kernel)
set_option maxRecDepth 20000 in
theorem gX8_called_X8_good : GoodIn wsX8_called (wsV RX8 160 RX8 yX8_good wsX8_good) := goodIn_s _ [(5, 7), (26, 40)] rfl (by decide +kernel)
set_option maxRecDepth 20000 in
theorem gX8_called_X8_no : GoodIn wsX8_called (wsV RX8 163 RX8 yX8_no wsX8_no) := goodIn_s _ [(12, 3), (8, 1), (15, 1), (11, 1), (26, 40)] rfl (by decide +kernel)
set_option maxRecDepth 20000 in
theorem gX8_called_X8_goRound : GoodIn wsX8_called (wsV RX8 294 RX8 yX8_goRound wsX8_goRound) := goodIn_s _ [(16, 3), (8, 1), (19, 2), (2, 1), (4, 1), (3, 1), (21, 3), (8, 1), (24, 42)] rfl (by decide +kernel)
set_option maxRecDepth 20000 in
theorem gX8_minutesOf_X8_good : GoodIn wsX8_minutesOf (wsV RX8 160 RX8 yX8_good wsX8_good) := goodIn_s _ [(3, 7), (41, 40)] rfl (by decide +kernel)
set_option maxRecDepth 20000 in
theorem gX8_minutesOf_X8_isFigure : GoodIn wsX8_minutesOf (wsV RX8 277 RX8 yX8_isFigure wsX8_isFigure) := goodIn_s _ [(10, 3), (6, 1), (13, 2), (2, 1), (15, 2), (6, 1), (17, 1), (41, 40)] rfl (by decide +kernel)
set_option maxRecDepth 20000 in
theorem gX8_minutesOf_X8_in : GoodIn wsX8_minutesOf (va_wsS RX8 142 yX8_in wsX8_in) := goodIn_s _ [(15, 2), (6, 1), (17, 1)] rfl (by decide +kernel)
set_option maxRecDepth 20000 in
theorem gX8_minutesOf_X8_why : GoodIn wsX8_minutesOf (wsV RX8 290 RX8 yX8_why wsX8_why) := goodIn_s _ [(18, 3), (6, 1), (21, 1)] rfl (by decide +kernel)
set_option maxRecDepth 20000 in
theorem gX8_minutesOf_X8_no : GoodIn wsX8_minutesOf (wsV RX8 163 RX8 yX8_no wsX8_no) := goodIn_s _ [(22, 3), (6, 1), (25, 1), (9, 1), (41, 40)] rfl (by decide +kernel)
set_option maxRecDepth 20000 in
theorem gX8_minutesOf_X8_goRound : GoodIn wsX8_minutesOf (wsV RX8 294 RX8 yX8_goRound wsX8_goRound) := goodIn_s _ [(26, 3), (6, 1), (29, 1), (1, 1), (30, 6), (6, 1), (36, 1), (2, 1), (41, 40)] rfl (by decide +kernel)
set_option maxRecDepth 20000 in
theorem gX8_minutesOf_X8_turnAt : GoodIn wsX8_minutesOf (wsV RX8 297 RX8 yX8_turnAt wsX8_turnAt) := goodIn_s _ [(37, 3), (6, 1), (40, 1), (31, 1), (30, 1), (32, 1), (41, 40)] rfl (by decide +kernel)
set_option maxRecDepth 20000 in
theorem gX8_aheadWhy_X8_in : GoodIn wsX8_aheadWhy (va_wsS RX8 142 yX8_in wsX8_in) := goodIn_s _ [(1, 4)] rfl (by decide +kernel)
set_option maxRecDepth 20000 in
theorem gX8_aheadWhy_X8_why : GoodIn wsX8_aheadWhy (wsV RX8 290 RX8 yX8_why wsX8_why) := goodIn_s _ [(5, 3), (3, 1), (8, 1)] rfl (by decide +kernel)
set_option maxRecDepth 20000 in
theorem gX8_place_X8_good : GoodIn wsX8_place (wsV RX8 160 RX8 yX8_good wsX8_good) := goodIn_s _ [(2, 7), (79, 40)] rfl (by decide +kernel)
set_option maxRecDepth 20000 in
theorem gX8_place_X8_isFigure : GoodIn wsX8_place (wsV RX8 277 RX8 yX8_isFigure wsX8_isFigure) := goodIn_s _ [(9, 3), (5, 1), (12, 5), (5, 1), (17, 1), (79, 40)] rfl (by decide +kernel)
set_option maxRecDepth 20000 in
theorem gX8_place_X8_aheadWhy : GoodIn wsX8_place (wsV RX8 300 RX8 yX8_aheadWhy wsX8_aheadWhy) := goodIn_s _ [(18, 3), (5, 1), (21, 1), (15, 2), (5, 1), (17, 1), (22, 4)] rfl (by decide +kernel)
set_option maxRecDepth 20000 in
theorem gX8_place_X8_no : GoodIn wsX8_place (wsV RX8 163 RX8 yX8_no wsX8_no) := goodIn_s _ [(26, 3), (5, 1), (29, 1), (8, 1), (79, 40)] rfl (by decide +kernel)
set_option maxRecDepth 20000 in
theorem gX8_place_X8_minutesOn : GoodIn wsX8_place (wsV RX8 304 RX8 yX8_minutesOn wsX8_minutesOn) := goodIn_s _ [(30, 3), (5, 1), (33, 1), (1, 1), (34, 3), (5, 1), (37, 6), (14, 1), (43, 76)] rfl (by decide +kernel)
set_option maxRecDepth 20000 in
theorem gX8_watch_X8_good : GoodIn wsX8_watch (wsV RX8 160 RX8 yX8_good wsX8_good) := goodIn_s _ [(2, 7), (41, 40)] rfl (by decide +kernel)
set_option maxRecDepth 20000 in
theorem gX8_watch_X8_isWatcher : GoodIn wsX8_watch (wsV RX8 280 RX8 yX8_isWatcher wsX8_isWatcher) := goodIn_s _ [(9, 3), (5, 1), (12, 5), (5, 1), (17, 1), (41, 40)] rfl (by decide +kernel)
set_option maxRecDepth 20000 in
theorem gX8_watch_X8_aheadWhy : GoodIn wsX8_watch (wsV RX8 300 RX8 yX8_aheadWhy wsX8_aheadWhy) := goodIn_s _ [(18, 3), (5, 1), (21, 1), (15, 2), (5, 1), (17, 1), (22, 4)] rfl (by decide +kernel)
set_option maxRecDepth 20000 in
theorem gX8_watch_X8_no : GoodIn wsX8_watch (wsV RX8 163 RX8 yX8_no wsX8_no) := goodIn_s _ [(26, 3), (5, 1), (29, 1), (8, 1), (41, 40)] rfl (by decide +kernel)
set_option maxRecDepth 20000 in
theorem gX8_watch_X8_watchAsTold : GoodIn wsX8_watch (wsV RX8 267 RX8 yX8_watchAsTold wsX8_watchAsTold) := goodIn_s _ [(30, 3), (5, 1), (33, 1), (14, 1), (34, 3), (41, 40)] rfl (by decide +kernel)
set_option maxRecDepth 20000 in
theorem gX8_watch_X8_watcherAt : GoodIn wsX8_watch (wsV RX8 242 RX8 yX8_watcherAt wsX8_watcherAt) := goodIn_s _ [(37, 3), (5, 1), (40, 1), (35, 1), (34, 1), (41, 40)] rfl (by decide +kernel)
set_option maxRecDepth 20000 in
theorem gX8_gone_X8_good : GoodIn wsX8_gone (wsV RX8 160 RX8 yX8_good wsX8_good) := goodIn_s _ [(3, 7), (75, 40)] rfl (by decide +kernel)
set_option maxRecDepth 20000 in
theorem gX8_gone_X8_aheadWhy : GoodIn wsX8_gone (wsV RX8 300 RX8 yX8_aheadWhy wsX8_aheadWhy) := goodIn_s _ [(10, 3), (6, 1), (13, 3), (6, 1), (16, 5)] rfl (by decide +kernel)
set_option maxRecDepth 20000 in
theorem gX8_gone_X8_no : GoodIn wsX8_gone (wsV RX8 163 RX8 yX8_no wsX8_no) := goodIn_s _ [(21, 3), (6, 1), (24, 1), (9, 1), (75, 40)] rfl (by decide +kernel)
set_option maxRecDepth 20000 in
theorem gX8_gone_X8_minutesOn : GoodIn wsX8_gone (wsV RX8 304 RX8 yX8_minutesOn wsX8_minutesOn) := goodIn_s _ [(25, 3), (6, 1), (28, 1), (2, 1), (29, 3), (6, 1), (32, 83)] rfl (by decide +kernel)
set_option maxRecDepth 20000 in
theorem gX8_nextGone_X8_minuteOn : GoodIn wsX8_nextGone (wsV RX8 273 RX8 yX8_minuteOn wsX8_minuteOn) := goodIn_s _ [(2, 11), (5, 1), (13, 64)] rfl (by decide +kernel)
set_option maxRecDepth 20000 in
theorem gX8_stairs_X8_good : GoodIn wsX8_stairs (wsV RX8 160 RX8 yX8_good wsX8_good) := goodIn_s _ [(2, 7), (64, 40)] rfl (by decide +kernel)
set_option maxRecDepth 20000 in
theorem gX8_stairs_X8_no : GoodIn wsX8_stairs (wsV RX8 163 RX8 yX8_no wsX8_no) := goodIn_s _ [(9, 3), (5, 1), (12, 1), (8, 1), (64, 40)] rfl (by decide +kernel)
set_option maxRecDepth 20000 in
theorem gX8_stairs_X8_begin : GoodIn wsX8_stairs (wsV RX8 270 RX8 yX8_begin wsX8_begin) := goodIn_s _ [(13, 3), (5, 1), (16, 6), (5, 1), (22, 8), (64, 40)] rfl (by decide +kernel)
set_option maxRecDepth 20000 in
theorem gX8_stairs_X8_nextGone : GoodIn wsX8_stairs (wsV RX8 307 RX8 yX8_nextGone wsX8_nextGone) := goodIn_s _ [(30, 3), (5, 1), (33, 1), (18, 1), (34, 3), (5, 1), (37, 2), (23, 1), (39, 13), (26, 1), (52, 4), (25, 1), (24, 1), (56, 48)] rfl (by decide +kernel)
set_option maxRecDepth 20000 in
theorem gX8_catches_X8_good : GoodIn wsX8_catches (wsV RX8 160 RX8 yX8_good wsX8_good) := goodIn_s _ [(4, 7), (75, 40)] rfl (by decide +kernel)
set_option maxRecDepth 20000 in
theorem gX8_catches_X8_aheadWhy : GoodIn wsX8_catches (wsV RX8 300 RX8 yX8_aheadWhy wsX8_aheadWhy) := goodIn_s _ [(11, 3), (7, 1), (14, 3), (7, 1), (17, 5)] rfl (by decide +kernel)
set_option maxRecDepth 20000 in
theorem gX8_catches_X8_no : GoodIn wsX8_catches (wsV RX8 163 RX8 yX8_no wsX8_no) := goodIn_s _ [(22, 3), (7, 1), (25, 1), (10, 1), (75, 40)] rfl (by decide +kernel)
set_option maxRecDepth 20000 in
theorem gX8_catches_X8_minutesOn : GoodIn wsX8_catches (wsV RX8 304 RX8 yX8_minutesOn wsX8_minutesOn) := goodIn_s _ [(26, 3), (7, 1), (29, 1), (2, 1), (30, 3), (7, 1), (33, 1), (3, 1), (34, 81)] rfl (by decide +kernel)
set_option maxRecDepth 20000 in
theorem gX8_heard_X8_good : GoodIn wsX8_heard (wsV RX8 160 RX8 yX8_good wsX8_good) := goodIn_s _ [(2, 7), (75, 40)] rfl (by decide +kernel)
set_option maxRecDepth 20000 in
theorem gX8_heard_X8_isFigure : GoodIn wsX8_heard (wsV RX8 277 RX8 yX8_isFigure wsX8_isFigure) := goodIn_s _ [(9, 3), (5, 1), (12, 5), (5, 1), (17, 1), (75, 40)] rfl (by decide +kernel)
set_option maxRecDepth 20000 in
theorem gX8_heard_X8_aheadWhy : GoodIn wsX8_heard (wsV RX8 300 RX8 yX8_aheadWhy wsX8_aheadWhy) := goodIn_s _ [(18, 3), (5, 1), (21, 1), (15, 2), (5, 1), (17, 1), (22, 4)] rfl (by decide +kernel)
set_option maxRecDepth 20000 in
theorem gX8_heard_X8_no : GoodIn wsX8_heard (wsV RX8 163 RX8 yX8_no wsX8_no) := goodIn_s _ [(26, 3), (5, 1), (29, 1), (8, 1), (75, 40)] rfl (by decide +kernel)
set_option maxRecDepth 20000 in
theorem gX8_heard_X8_begin : GoodIn wsX8_heard (wsV RX8 270 RX8 yX8_begin wsX8_begin) := goodIn_s _ [(30, 3), (5, 1), (33, 2), (1, 1), (35, 3), (5, 1), (38, 1), (14, 1), (39, 6), (75, 40)] rfl (by decide +kernel)
set_option maxRecDepth 20000 in
theorem gX8_heard_X8_minuteOn : GoodIn wsX8_heard (wsV RX8 273 RX8 yX8_minuteOn wsX8_minuteOn) := goodIn_s _ [(45, 3), (5, 1), (48, 2), (14, 1), (50, 4), (5, 1), (54, 9), (41, 1), (63, 4), (40, 1), (39, 1), (67, 48)] rfl (by decide +kernel)
set_option maxRecDepth 20000 in
theorem gX8_allIn_X8_good : GoodIn wsX8_allIn (wsV RX8 160 RX8 yX8_good wsX8_good) := goodIn_s _ [(3, 7), (67, 40)] rfl (by decide +kernel)
set_option maxRecDepth 20000 in
theorem gX8_allIn_X8_isFigure : GoodIn wsX8_allIn (wsV RX8 277 RX8 yX8_isFigure wsX8_isFigure) := goodIn_s _ [(10, 3), (6, 1), (13, 2), (1, 1), (15, 2), (6, 1), (17, 1), (67, 40)] rfl (by decide +kernel)
set_option maxRecDepth 20000 in
theorem gX8_allIn_X8_no : GoodIn wsX8_allIn (wsV RX8 163 RX8 yX8_no wsX8_no) := goodIn_s _ [(18, 3), (6, 1), (21, 1), (9, 1), (67, 40)] rfl (by decide +kernel)
set_option maxRecDepth 20000 in
theorem gX8_allIn_X8_begin : GoodIn wsX8_allIn (wsV RX8 270 RX8 yX8_begin wsX8_begin) := goodIn_s _ [(22, 3), (6, 1), (25, 2), (2, 1), (27, 3), (6, 1), (30, 1), (1, 1), (31, 6), (67, 40)] rfl (by decide +kernel)
set_option maxRecDepth 20000 in
theorem gX8_allIn_X8_minuteOn : GoodIn wsX8_allIn (wsV RX8 273 RX8 yX8_minuteOn wsX8_minuteOn) := goodIn_s _ [(37, 3), (6, 1), (40, 2), (1, 1), (42, 4), (6, 1), (46, 9), (33, 1), (55, 4), (32, 1), (31, 1), (59, 48)] rfl (by decide +kernel)
set_option maxRecDepth 20000 in
theorem gX8_meets_X8_good : GoodIn wsX8_meets (wsV RX8 160 RX8 yX8_good wsX8_good) := goodIn_s _ [(3, 7), (67, 40)] rfl (by decide +kernel)
set_option maxRecDepth 20000 in
theorem gX8_meets_X8_isWatcher : GoodIn wsX8_meets (wsV RX8 280 RX8 yX8_isWatcher wsX8_isWatcher) := goodIn_s _ [(10, 3), (6, 1), (13, 5), (6, 1), (18, 1), (67, 40)] rfl (by decide +kernel)
set_option maxRecDepth 20000 in
theorem gX8_meets_X8_no : GoodIn wsX8_meets (wsV RX8 163 RX8 yX8_no wsX8_no) := goodIn_s _ [(19, 3), (6, 1), (22, 1), (9, 1), (67, 40)] rfl (by decide +kernel)
set_option maxRecDepth 20000 in
theorem gX8_meets_X8_begin : GoodIn wsX8_meets (wsV RX8 270 RX8 yX8_begin wsX8_begin) := goodIn_s _ [(23, 3), (6, 1), (26, 2), (1, 1), (28, 3), (6, 1), (31, 1), (15, 1), (32, 6), (67, 40)] rfl (by decide +kernel)
set_option maxRecDepth 20000 in
theorem gX8_meets_X8_watcherAt : GoodIn wsX8_meets (wsV RX8 242 RX8 yX8_watcherAt wsX8_watcherAt) := goodIn_s _ [(38, 3), (6, 1), (41, 1), (33, 1), (32, 1), (67, 40)] rfl (by decide +kernel)
set_option maxRecDepth 20000 in
theorem gX8_meets_X8_minuteOn : GoodIn wsX8_meets (wsV RX8 273 RX8 yX8_minuteOn wsX8_minuteOn) := goodIn_s _ [(42, 3), (6, 1), (45, 2), (15, 1), (47, 1), (2, 1), (48, 2), (6, 1), (50, 9), (34, 1), (38, 4), (33, 1), (32, 1), (59, 48)] rfl (by decide +kernel)
set_option maxRecDepth 20000 in
theorem gX8_crowd_X8_good : GoodIn wsX8_crowd (wsV RX8 160 RX8 yX8_good wsX8_good) := goodIn_s _ [(4, 7), (75, 40)] rfl (by decide +kernel)
set_option maxRecDepth 20000 in
theorem gX8_crowd_X8_aheadWhy : GoodIn wsX8_crowd (wsV RX8 300 RX8 yX8_aheadWhy wsX8_aheadWhy) := goodIn_s _ [(11, 3), (7, 1), (14, 3), (7, 1), (17, 5)] rfl (by decide +kernel)
set_option maxRecDepth 20000 in
theorem gX8_crowd_X8_no : GoodIn wsX8_crowd (wsV RX8 163 RX8 yX8_no wsX8_no) := goodIn_s _ [(22, 3), (7, 1), (25, 1), (10, 1), (75, 40)] rfl (by decide +kernel)
set_option maxRecDepth 20000 in
theorem gX8_crowd_X8_minutesOn : GoodIn wsX8_crowd (wsV RX8 304 RX8 yX8_minutesOn wsX8_minutesOn) := goodIn_s _ [(26, 3), (7, 1), (29, 1), (3, 1), (30, 3), (7, 1), (33, 6), (2, 1), (39, 76)] rfl (by decide +kernel)
set_option maxRecDepth 20000 in
theorem gX8_crowd_X8_hasBit : GoodIn wsX8_crowd (va_wsS RX8 238 yX8_hasBit wsX8_hasBit) := goodIn_s _ [(52, 2), (7, 1), (54, 1)] rfl (by decide +kernel)
set_option maxRecDepth 20000 in
theorem gX8_farthest_X8_good : GoodIn wsX8_farthest (wsV RX8 160 RX8 yX8_good wsX8_good) := goodIn_s _ [(4, 7), (78, 40)] rfl (by decide +kernel)
set_option maxRecDepth 20000 in
theorem gX8_farthest_X8_aheadWhy : GoodIn wsX8_farthest (wsV RX8 300 RX8 yX8_aheadWhy wsX8_aheadWhy) := goodIn_s _ [(11, 3), (7, 1), (14, 3), (7, 1), (17, 5)] rfl (by decide +kernel)
set_option maxRecDepth 20000 in
theorem gX8_farthest_X8_no : GoodIn wsX8_farthest (wsV RX8 163 RX8 yX8_no wsX8_no) := goodIn_s _ [(22, 3), (7, 1), (25, 1), (10, 1), (78, 40)] rfl (by decide +kernel)
set_option maxRecDepth 20000 in
theorem gX8_farthest_X8_minutesOn : GoodIn wsX8_farthest (wsV RX8 304 RX8 yX8_minutesOn wsX8_minutesOn) := goodIn_s _ [(26, 3), (7, 1), (29, 1), (3, 1), (30, 3), (7, 1), (33, 6), (2, 1), (39, 36), (78, 40)] rfl (by decide +kernel)
set_option maxRecDepth 20000 in
theorem gX8_farthest_X8_between : GoodIn wsX8_farthest (va_wsS RX8 310 yX8_between wsX8_between) := goodIn_s _ [(75, 2), (7, 1), (77, 1)] rfl (by decide +kernel)
set_option maxRecDepth 20000 in
theorem gX8_nearBy_X8_good : GoodIn wsX8_nearBy (wsV RX8 160 RX8 yX8_good wsX8_good) := goodIn_s _ [(2, 7), (75, 40)] rfl (by decide +kernel)
set_option maxRecDepth 20000 in
theorem gX8_nearBy_X8_isFigure : GoodIn wsX8_nearBy (wsV RX8 277 RX8 yX8_isFigure wsX8_isFigure) := goodIn_s _ [(9, 3), (5, 1), (12, 5), (5, 1), (17, 1), (75, 40)] rfl (by decide +kernel)
set_option maxRecDepth 20000 in
theorem gX8_nearBy_X8_aheadWhy : GoodIn wsX8_nearBy (wsV RX8 300 RX8 yX8_aheadWhy wsX8_aheadWhy) := goodIn_s _ [(18, 3), (5, 1), (21, 1), (15, 2), (5, 1), (17, 1), (22, 4)] rfl (by decide +kernel)
set_option maxRecDepth 20000 in
theorem gX8_nearBy_X8_no : GoodIn wsX8_nearBy (wsV RX8 163 RX8 yX8_no wsX8_no) := goodIn_s _ [(26, 3), (5, 1), (29, 1), (8, 1), (75, 40)] rfl (by decide +kernel)
set_option maxRecDepth 20000 in
theorem gX8_nearBy_X8_begin : GoodIn wsX8_nearBy (wsV RX8 270 RX8 yX8_begin wsX8_begin) := goodIn_s _ [(30, 3), (5, 1), (33, 2), (1, 1), (35, 3), (5, 1), (38, 1), (14, 1), (39, 6), (75, 40)] rfl (by decide +kernel)
set_option maxRecDepth 20000 in
theorem gX8_nearBy_X8_minuteOn : GoodIn wsX8_nearBy (wsV RX8 273 RX8 yX8_minuteOn wsX8_minuteOn) := goodIn_s _ [(45, 3), (5, 1), (48, 2), (14, 1), (50, 4), (5, 1), (54, 9), (41, 1), (63, 4), (40, 1), (39, 1), (67, 48)] rfl (by decide +kernel)
set_option maxRecDepth 20000 in
theorem gX8_nearBy_X8_hasBit : GoodIn wsX8_nearBy (va_wsS RX8 238 yX8_hasBit wsX8_hasBit) := goodIn_s _ [(52, 2), (5, 1), (54, 1)] rfl (by decide +kernel)
set_option maxRecDepth 20000 in
theorem gX8_nearBy_X8_isWatched : GoodIn wsX8_nearBy (wsV RX8 245 RX8 yX8_isWatched wsX8_isWatched) := goodIn_s _ [(59, 3), (5, 1), (62, 1), (41, 1), (14, 1), (52, 2), (5, 1), (54, 1), (63, 4), (40, 1), (39, 1), (75, 40)] rfl (by decide +kernel)
set_option maxRecDepth 20000 in
theorem gX8_spoken_X8_good : GoodIn wsX8_spoken (wsV RX8 160 RX8 yX8_good wsX8_good) := goodIn_s _ [(4, 7), (75, 40)] rfl (by decide +kernel)
set_option maxRecDepth 20000 in
theorem gX8_spoken_X8_isFigure : GoodIn wsX8_spoken (wsV RX8 277 RX8 yX8_isFigure wsX8_isFigure) := goodIn_s _ [(11, 3), (7, 1), (14, 5), (7, 1), (19, 1), (75, 40)] rfl (by decide +kernel)
set_option maxRecDepth 20000 in
theorem gX8_spoken_X8_aheadWhy : GoodIn wsX8_spoken (wsV RX8 300 RX8 yX8_aheadWhy wsX8_aheadWhy) := goodIn_s _ [(20, 3), (7, 1), (23, 1), (17, 2), (7, 1), (19, 1), (24, 4)] rfl (by decide +kernel)
set_option maxRecDepth 20000 in
theorem gX8_spoken_X8_no : GoodIn wsX8_spoken (wsV RX8 163 RX8 yX8_no wsX8_no) := goodIn_s _ [(28, 3), (7, 1), (31, 1), (10, 1), (75, 40)] rfl (by decide +kernel)
set_option maxRecDepth 20000 in
theorem gX8_spoken_X8_begin : GoodIn wsX8_spoken (wsV RX8 270 RX8 yX8_begin wsX8_begin) := goodIn_s _ [(32, 3), (7, 1), (35, 2), (1, 1), (37, 3), (7, 1), (40, 1), (16, 1), (41, 6), (75, 40)] rfl (by decide +kernel)
set_option maxRecDepth 20000 in
theorem gX8_spoken_X8_minuteOn : GoodIn wsX8_spoken (wsV RX8 273 RX8 yX8_minuteOn wsX8_minuteOn) := goodIn_s _ [(47, 3), (7, 1), (50, 1), (3, 1), (16, 1), (2, 1), (51, 3), (7, 1), (54, 9), (43, 1), (63, 4), (42, 1), (41, 1), (67, 48)] rfl (by decide +kernel)
set_option maxRecDepth 20000 in
theorem gX8_windBest_X8_good : GoodIn wsX8_windBest (wsV RX8 160 RX8 yX8_good wsX8_good) := goodIn_s _ [(4, 7), (64, 40)] rfl (by decide +kernel)
set_option maxRecDepth 20000 in
theorem gX8_windBest_X8_no : GoodIn wsX8_windBest (wsV RX8 163 RX8 yX8_no wsX8_no) := goodIn_s _ [(11, 3), (7, 1), (14, 1), (10, 1), (64, 40)] rfl (by decide +kernel)
set_option maxRecDepth 20000 in
theorem gX8_windBest_X8_begin : GoodIn wsX8_windBest (wsV RX8 270 RX8 yX8_begin wsX8_begin) := goodIn_s _ [(15, 3), (7, 1), (18, 2), (3, 1), (20, 3), (7, 1), (23, 1), (2, 1), (24, 6), (64, 40)] rfl (by decide +kernel)
set_option maxRecDepth 20000 in
theorem gX8_windBest_X8_nextGone : GoodIn wsX8_windBest (wsV RX8 307 RX8 yX8_nextGone wsX8_nextGone) := goodIn_s _ [(30, 3), (7, 1), (33, 1), (3, 1), (34, 3), (7, 1), (37, 2), (2, 1), (39, 13), (26, 1), (52, 4), (25, 1), (24, 1), (56, 48)] rfl (by decide +kernel)
set_option maxRecDepth 20000 in
theorem gX8_patrol_X8_good : GoodIn wsX8_patrol (wsV RX8 160 RX8 yX8_good wsX8_good) := goodIn_s _ [(6, 7), (75, 40)] rfl (by decide +kernel)
set_option maxRecDepth 20000 in
theorem gX8_patrol_X8_isWatcher : GoodIn wsX8_patrol (wsV RX8 280 RX8 yX8_isWatcher wsX8_isWatcher) := goodIn_s _ [(13, 3), (9, 1), (16, 2), (2, 1), (18, 2), (9, 1), (20, 1), (75, 40)] rfl (by decide +kernel)
set_option maxRecDepth 20000 in
theorem gX8_patrol_X8_in : GoodIn wsX8_patrol (va_wsS RX8 142 yX8_in wsX8_in) := goodIn_s _ [(18, 2), (9, 1), (20, 1)] rfl (by decide +kernel)
set_option maxRecDepth 20000 in
theorem gX8_patrol_X8_why : GoodIn wsX8_patrol (wsV RX8 290 RX8 yX8_why wsX8_why) := goodIn_s _ [(21, 3), (9, 1), (24, 1)] rfl (by decide +kernel)
set_option maxRecDepth 20000 in
theorem gX8_patrol_X8_no : GoodIn wsX8_patrol (wsV RX8 163 RX8 yX8_no wsX8_no) := goodIn_s _ [(25, 3), (9, 1), (28, 1), (12, 1), (75, 40)] rfl (by decide +kernel)
set_option maxRecDepth 20000 in
theorem gX8_patrol_X8_begin : GoodIn wsX8_patrol (wsV RX8 270 RX8 yX8_begin wsX8_begin) := goodIn_s _ [(29, 3), (9, 1), (32, 2), (5, 1), (34, 3), (9, 1), (37, 1), (2, 3), (38, 4), (75, 40)] rfl (by decide +kernel)
set_option maxRecDepth 20000 in
theorem gX8_patrol_X8_minuteOn : GoodIn wsX8_patrol (wsV RX8 273 RX8 yX8_minuteOn wsX8_minuteOn) := goodIn_s _ [(42, 3), (9, 1), (45, 2), (2, 1), (47, 4), (9, 1), (51, 9), (38, 1), (60, 4), (4, 1), (3, 1), (64, 8), (75, 40)] rfl (by decide +kernel)
set_option maxRecDepth 20000 in
theorem gX8_patrol_X8_ones : GoodIn wsX8_patrol (va_wsS RX8 314 yX8_ones wsX8_ones) := goodIn_s _ [(72, 2), (9, 1), (74, 1)] rfl (by decide +kernel)
set_option maxRecDepth 20000 in
theorem gX8_layRoute_X8_begin : GoodIn wsX8_layRoute (wsV RX8 270 RX8 yX8_begin wsX8_begin) := goodIn_s _ [(6, 6), (1, 1), (12, 3), (9, 1), (15, 1), (5, 1), (16, 6), (58, 40)] rfl (by decide +kernel)
set_option maxRecDepth 20000 in
theorem gX8_layRoute_X8_minuteOn : GoodIn wsX8_layRoute (wsV RX8 273 RX8 yX8_minuteOn wsX8_minuteOn) := goodIn_s _ [(22, 3), (9, 1), (25, 2), (5, 1), (27, 1), (3, 1), (28, 2), (9, 1), (30, 9), (18, 1), (39, 4), (17, 1), (16, 1), (43, 8), (58, 40)] rfl (by decide +kernel)
set_option maxRecDepth 20000 in
theorem gX8_layRoute_X8_bestFrom : GoodIn wsX8_layRoute (wsV RX8 317 RX8 yX8_bestFrom wsX8_bestFrom) := goodIn_s _ [(51, 3), (9, 1), (54, 1), (5, 1), (4, 1), (2, 1), (55, 2), (9, 1), (57, 41)] rfl (by decide +kernel)
set_option maxRecDepth 20000 in
theorem gX8_bestFrom_X8_in : GoodIn wsX8_bestFrom (va_wsS RX8 142 yX8_in wsX8_in) := goodIn_s _ [(4, 4)] rfl (by decide +kernel)
set_option maxRecDepth 20000 in
theorem gX8_routeWhy_X8_isFigure : GoodIn wsX8_routeWhy (wsV RX8 277 RX8 yX8_isFigure wsX8_isFigure) := goodIn_s _ [(1, 9), (4, 1), (10, 1), (15, 40)] rfl (by decide +kernel)
set_option maxRecDepth 20000 in
theorem gX8_routeWhy_X8_in : GoodIn wsX8_routeWhy (va_wsS RX8 142 yX8_in wsX8_in) := goodIn_s _ [(8, 2), (4, 1), (10, 1)] rfl (by decide +kernel)
set_option maxRecDepth 20000 in
theorem gX8_routeWhy_X8_why : GoodIn wsX8_routeWhy (wsV RX8 290 RX8 yX8_why wsX8_why) := goodIn_s _ [(11, 3), (4, 1), (14, 1)] rfl (by decide +kernel)
set_option maxRecDepth 20000 in
theorem gX8_route_X8_good : GoodIn wsX8_route (wsV RX8 160 RX8 yX8_good wsX8_good) := goodIn_s _ [(2, 7), (85, 40)] rfl (by decide +kernel)
set_option maxRecDepth 20000 in
theorem gX8_route_X8_routeWhy : GoodIn wsX8_route (wsV RX8 321 RX8 yX8_routeWhy wsX8_routeWhy) := goodIn_s _ [(9, 3), (5, 1), (12, 4), (5, 1), (16, 10), (85, 40)] rfl (by decide +kernel)
set_option maxRecDepth 20000 in
theorem gX8_route_X8_no : GoodIn wsX8_route (wsV RX8 163 RX8 yX8_no wsX8_no) := goodIn_s _ [(26, 3), (5, 1), (29, 1), (8, 1), (85, 40)] rfl (by decide +kernel)
set_option maxRecDepth 20000 in
theorem gX8_route_X8_layRoute : GoodIn wsX8_route (wsV RX8 324 RX8 yX8_layRoute wsX8_layRoute) := goodIn_s _ [(30, 3), (5, 1), (33, 4), (1, 1), (18, 1), (37, 3), (5, 1), (40, 45), (19, 3), (85, 40)] rfl (by decide +kernel)
set_option maxRecDepth 20000 in
theorem gX8_routeAt_X8_good : GoodIn wsX8_routeAt (wsV RX8 160 RX8 yX8_good wsX8_good) := goodIn_s _ [(1, 7), (85, 40)] rfl (by decide +kernel)
set_option maxRecDepth 20000 in
theorem gX8_routeAt_X8_routeWhy : GoodIn wsX8_routeAt (wsV RX8 321 RX8 yX8_routeWhy wsX8_routeWhy) := goodIn_s _ [(8, 3), (4, 1), (11, 4), (4, 1), (15, 10), (85, 40)] rfl (by decide +kernel)
set_option maxRecDepth 20000 in
theorem gX8_routeAt_X8_in : GoodIn wsX8_routeAt (va_wsS RX8 142 yX8_in wsX8_in) := goodIn_s _ [(18, 2), (4, 1), (20, 1)] rfl (by decide +kernel)
set_option maxRecDepth 20000 in
theorem gX8_routeAt_X8_no : GoodIn wsX8_routeAt (wsV RX8 163 RX8 yX8_no wsX8_no) := goodIn_s _ [(25, 3), (4, 1), (28, 1), (7, 1), (85, 40)] rfl (by decide +kernel)
set_option maxRecDepth 20000 in
theorem gX8_routeAt_X8_layRoute : GoodIn wsX8_routeAt (wsV RX8 324 RX8 yX8_layRoute wsX8_layRoute) := goodIn_s _ [(29, 3), (4, 1), (32, 5), (17, 1), (37, 3), (4, 1), (40, 45), (18, 3), (85, 40)] rfl (by decide +kernel)
set_option maxRecDepth 20000 in
theorem gX8_routeAt_X8_bestFrom : GoodIn wsX8_routeAt (wsV RX8 317 RX8 yX8_bestFrom wsX8_bestFrom) := goodIn_s _ [(81, 3), (4, 1), (84, 1), (17, 1), (36, 1), (34, 1), (18, 2), (4, 1), (20, 1), (85, 40)] rfl (by decide +kernel)
set_option maxRecDepth 20000 in
theorem gX8_stand_X8_good : GoodIn wsX8_stand (wsV RX8 160 RX8 yX8_good wsX8_good) := goodIn_s _ [(4, 7), (77, 40)] rfl (by decide +kernel)
set_option maxRecDepth 20000 in
theorem gX8_stand_X8_in : GoodIn wsX8_stand (va_wsS RX8 142 yX8_in wsX8_in) := goodIn_s _ [(11, 2), (7, 1), (13, 1)] rfl (by decide +kernel)
set_option maxRecDepth 20000 in
theorem gX8_stand_X8_why : GoodIn wsX8_stand (wsV RX8 290 RX8 yX8_why wsX8_why) := goodIn_s _ [(14, 3), (7, 1), (17, 1)] rfl (by decide +kernel)
set_option maxRecDepth 20000 in
theorem gX8_stand_X8_no : GoodIn wsX8_stand (wsV RX8 163 RX8 yX8_no wsX8_no) := goodIn_s _ [(18, 3), (7, 1), (21, 1), (10, 1), (77, 40)] rfl (by decide +kernel)
set_option maxRecDepth 20000 in
theorem gX8_stand_X8_layRoute : GoodIn wsX8_stand (wsV RX8 324 RX8 yX8_layRoute wsX8_layRoute) := goodIn_s _ [(22, 3), (7, 1), (25, 4), (3, 1), (2, 1), (29, 3), (7, 1), (32, 45), (11, 3), (77, 40)] rfl (by decide +kernel)
set_option maxRecDepth 20000 in
theorem gX8_guard_X8_good : GoodIn wsX8_guard (wsV RX8 160 RX8 yX8_good wsX8_good) := goodIn_s _ [(6, 7), (70, 40)] rfl (by decide +kernel)
set_option maxRecDepth 20000 in
theorem gX8_guard_X8_in : GoodIn wsX8_guard (va_wsS RX8 142 yX8_in wsX8_in) := goodIn_s _ [(13, 2), (9, 1), (15, 1)] rfl (by decide +kernel)
end P226_good_1
section P226_good_2
set_option maxRecDepth 20000 in
theorem gX8_guard_X8_why : GoodIn wsX8_guard (wsV RX8 290 RX8 yX8_why wsX8_why) := goodIn_s _ [(16, 3), (9, 1), (19, 1)] rfl (by decide +kernel)
set_option maxRecDepth 20000 in
theorem gX8_guard_X8_no : GoodIn wsX8_guard (wsV RX8 163 RX8 yX8_no wsX8_no) := goodIn_s _ [(20, 3), (9, 1), (23, 1), (12, 1), (70, 40)] rfl (by decide +kernel)
set_option maxRecDepth 20000 in
theorem gX8_guard_X8_ones : GoodIn wsX8_guard (va_wsS RX8 314 yX8_ones wsX8_ones) := goodIn_s _ [(24, 2), (9, 1), (26, 1)] rfl (by decide +kernel)
set_option maxRecDepth 20000 in
theorem gX8_guard_X8_begin : GoodIn wsX8_guard (wsV RX8 270 RX8 yX8_begin wsX8_begin) := goodIn_s _ [(27, 3), (9, 1), (30, 1), (5, 1), (4, 1), (31, 3), (9, 1), (34, 1), (2, 1), (35, 2), (3, 1), (37, 3), (70, 40)] rfl (by decide +kernel)
set_option maxRecDepth 20000 in
theorem gX8_guard_X8_minuteOn : GoodIn wsX8_guard (wsV RX8 273 RX8 yX8_minuteOn wsX8_minuteOn) := goodIn_s _ [(40, 3), (9, 1), (43, 2), (2, 1), (45, 4), (9, 1), (49, 9), (3, 1), (58, 4), (36, 1), (35, 1), (62, 48)] rfl (by decide +kernel)
set_option maxRecDepth 20000 in
theorem gX8_byCode_X8_turnBy : GoodIn wsX8_byCode (wsV RX8 327 RX8 yX8_turnBy wsX8_turnBy) := goodIn_s _ [(2, 6), (1, 1), (8, 40)] rfl (by decide +kernel)
set_option maxRecDepth 20000 in
theorem gX8_doesFit_X8_byCode : GoodIn wsX8_doesFit (wsV RX8 331 RX8 yX8_byCode wsX8_byCode) := goodIn_s _ [(2, 5), (1, 1), (7, 3), (5, 1), (10, 42)] rfl (by decide +kernel)
set_option maxRecDepth 20000 in
theorem gX8_fits_X8_good : GoodIn wsX8_fits (wsV RX8 160 RX8 yX8_good wsX8_good) := goodIn_s _ [(2, 7), (31, 40)] rfl (by decide +kernel)
set_option maxRecDepth 20000 in
theorem gX8_fits_X8_no : GoodIn wsX8_fits (wsV RX8 163 RX8 yX8_no wsX8_no) := goodIn_s _ [(9, 3), (5, 1), (12, 1), (8, 1), (31, 40)] rfl (by decide +kernel)
set_option maxRecDepth 20000 in
theorem gX8_fits_X8_codes : GoodIn wsX8_fits (wsV RX8 334 RX8 yX8_codes wsX8_codes) := goodIn_s _ [(13, 3), (5, 1), (16, 2), (31, 40)] rfl (by decide +kernel)
set_option maxRecDepth 20000 in
theorem gX8_fits_X8_doesFit : GoodIn wsX8_fits (wsV RX8 337 RX8 yX8_doesFit wsX8_doesFit) := goodIn_s _ [(18, 3), (5, 1), (21, 1), (17, 1), (22, 3), (5, 1), (25, 46)] rfl (by decide +kernel)
set_option maxRecDepth 20000 in
theorem gX8_fitAt_X8_good : GoodIn wsX8_fitAt (wsV RX8 160 RX8 yX8_good wsX8_good) := goodIn_s _ [(2, 7), (35, 40)] rfl (by decide +kernel)
set_option maxRecDepth 20000 in
theorem gX8_fitAt_X8_no : GoodIn wsX8_fitAt (wsV RX8 163 RX8 yX8_no wsX8_no) := goodIn_s _ [(9, 3), (5, 1), (12, 1), (8, 1), (35, 40)] rfl (by decide +kernel)
set_option maxRecDepth 20000 in
theorem gX8_fitAt_X8_codes : GoodIn wsX8_fitAt (wsV RX8 334 RX8 yX8_codes wsX8_codes) := goodIn_s _ [(13, 3), (5, 1), (16, 2), (35, 40)] rfl (by decide +kernel)
set_option maxRecDepth 20000 in
theorem gX8_fitAt_X8_doesFit : GoodIn wsX8_fitAt (wsV RX8 337 RX8 yX8_doesFit wsX8_doesFit) := goodIn_s _ [(18, 3), (5, 1), (21, 1), (17, 1), (22, 3), (5, 1), (25, 6), (35, 40)] rfl (by decide +kernel)
set_option maxRecDepth 20000 in
theorem gX8_fitAt_X8_numberOf : GoodIn wsX8_fitAt (wsV RX8 340 RX8 yX8_numberOf wsX8_numberOf) := goodIn_s _ [(31, 3), (5, 1), (34, 1), (17, 1), (35, 40)] rfl (by decide +kernel)
set_option maxRecDepth 20000 in
theorem gX8_layOften_X8_codes : GoodIn wsX8_layOften (wsV RX8 334 RX8 yX8_codes wsX8_codes) := goodIn_s _ [(2, 6), (21, 40)] rfl (by decide +kernel)
set_option maxRecDepth 20000 in
theorem gX8_layOften_X8_doesFit : GoodIn wsX8_layOften (wsV RX8 337 RX8 yX8_doesFit wsX8_doesFit) := goodIn_s _ [(8, 3), (5, 1), (11, 1), (7, 1), (12, 3), (5, 1), (15, 46)] rfl (by decide +kernel)
set_option maxRecDepth 20000 in
theorem gX8_layOften_X8_byCode : GoodIn wsX8_layOften (wsV RX8 331 RX8 yX8_byCode wsX8_byCode) := goodIn_s _ [(12, 3), (5, 1), (15, 1), (7, 1), (16, 3), (5, 1), (19, 42)] rfl (by decide +kernel)
set_option maxRecDepth 20000 in
theorem gX8_could_X8_good : GoodIn wsX8_could (wsV RX8 160 RX8 yX8_good wsX8_good) := goodIn_s _ [(4, 7), (43, 40)] rfl (by decide +kernel)
set_option maxRecDepth 20000 in
theorem gX8_could_X8_in : GoodIn wsX8_could (va_wsS RX8 142 yX8_in wsX8_in) := goodIn_s _ [(11, 2), (7, 1), (13, 1)] rfl (by decide +kernel)
set_option maxRecDepth 20000 in
theorem gX8_could_X8_why : GoodIn wsX8_could (wsV RX8 290 RX8 yX8_why wsX8_why) := goodIn_s _ [(14, 3), (7, 1), (17, 1)] rfl (by decide +kernel)
set_option maxRecDepth 20000 in
theorem gX8_could_X8_no : GoodIn wsX8_could (wsV RX8 163 RX8 yX8_no wsX8_no) := goodIn_s _ [(18, 3), (7, 1), (21, 1), (10, 1), (43, 40)] rfl (by decide +kernel)
set_option maxRecDepth 20000 in
theorem gX8_could_X8_layOften : GoodIn wsX8_could (wsV RX8 343 RX8 yX8_layOften wsX8_layOften) := goodIn_s _ [(22, 3), (7, 1), (25, 1), (3, 1), (26, 3), (7, 1), (29, 1), (2, 1), (30, 53)] rfl (by decide +kernel)
set_option maxRecDepth 20000 in
theorem gX8_aliveBy_X8_good : GoodIn wsX8_aliveBy (wsV RX8 160 RX8 yX8_good wsX8_good) := goodIn_s _ [(3, 7), (47, 40)] rfl (by decide +kernel)
set_option maxRecDepth 20000 in
theorem gX8_aliveBy_X8_isFigure : GoodIn wsX8_aliveBy (wsV RX8 277 RX8 yX8_isFigure wsX8_isFigure) := goodIn_s _ [(10, 3), (6, 1), (13, 2), (1, 1), (15, 2), (6, 1), (17, 1), (47, 40)] rfl (by decide +kernel)
set_option maxRecDepth 20000 in
theorem gX8_aliveBy_X8_in : GoodIn wsX8_aliveBy (va_wsS RX8 142 yX8_in wsX8_in) := goodIn_s _ [(15, 2), (6, 1), (17, 1)] rfl (by decide +kernel)
set_option maxRecDepth 20000 in
theorem gX8_aliveBy_X8_why : GoodIn wsX8_aliveBy (wsV RX8 290 RX8 yX8_why wsX8_why) := goodIn_s _ [(18, 3), (6, 1), (21, 1)] rfl (by decide +kernel)
set_option maxRecDepth 20000 in
theorem gX8_aliveBy_X8_no : GoodIn wsX8_aliveBy (wsV RX8 163 RX8 yX8_no wsX8_no) := goodIn_s _ [(22, 3), (6, 1), (25, 1), (9, 1), (47, 40)] rfl (by decide +kernel)
set_option maxRecDepth 20000 in
theorem gX8_aliveBy_X8_layOften : GoodIn wsX8_aliveBy (wsV RX8 343 RX8 yX8_layOften wsX8_layOften) := goodIn_s _ [(26, 3), (6, 1), (29, 1), (2, 1), (30, 3), (6, 1), (33, 1), (1, 1), (34, 53)] rfl (by decide +kernel)
set_option maxRecDepth 20000 in
theorem gX8_lookOf_X8_layOften : GoodIn wsX8_lookOf (wsV RX8 343 RX8 yX8_layOften wsX8_layOften) := goodIn_s _ [(4, 5), (3, 1), (9, 3), (7, 1), (12, 1), (2, 1), (13, 53)] rfl (by decide +kernel)
set_option maxRecDepth 20000 in
theorem gX8_look_X8_good : GoodIn wsX8_look (wsV RX8 160 RX8 yX8_good wsX8_good) := goodIn_s _ [(2, 7), (41, 40)] rfl (by decide +kernel)
set_option maxRecDepth 20000 in
theorem gX8_look_X8_lookOf : GoodIn wsX8_look (wsV RX8 349 RX8 yX8_lookOf wsX8_lookOf) := goodIn_s _ [(9, 3), (5, 1), (12, 7), (5, 1), (19, 18), (41, 40)] rfl (by decide +kernel)
set_option maxRecDepth 20000 in
theorem gX8_look_X8_no : GoodIn wsX8_look (wsV RX8 163 RX8 yX8_no wsX8_no) := goodIn_s _ [(37, 3), (5, 1), (40, 1), (8, 1), (41, 40)] rfl (by decide +kernel)
set_option maxRecDepth 20000 in
theorem gX8_lookLeaves_X8_good : GoodIn wsX8_lookLeaves (wsV RX8 160 RX8 yX8_good wsX8_good) := goodIn_s _ [(3, 7), (41, 40)] rfl (by decide +kernel)
set_option maxRecDepth 20000 in
theorem gX8_lookLeaves_X8_no : GoodIn wsX8_lookLeaves (wsV RX8 163 RX8 yX8_no wsX8_no) := goodIn_s _ [(10, 3), (6, 1), (13, 1), (9, 1), (41, 40)] rfl (by decide +kernel)
set_option maxRecDepth 20000 in
theorem gX8_lookLeaves_X8_lookOf : GoodIn wsX8_lookLeaves (wsV RX8 349 RX8 yX8_lookOf wsX8_lookOf) := goodIn_s _ [(14, 3), (6, 1), (17, 1), (2, 1), (18, 5), (6, 1), (23, 58)] rfl (by decide +kernel)
set_option maxRecDepth 20000 in
theorem gX8_judge_X8_good : GoodIn wsX8_judge (wsV RX8 160 RX8 yX8_good wsX8_good) := goodIn_s _ [(3, 7), (19, 40)] rfl (by decide +kernel)
set_option maxRecDepth 20000 in
theorem gX8_judge_X8_no : GoodIn wsX8_judge (wsV RX8 163 RX8 yX8_no wsX8_no) := goodIn_s _ [(10, 3), (6, 1), (13, 1), (9, 1), (19, 40)] rfl (by decide +kernel)
set_option maxRecDepth 20000 in
theorem gX8_judge_X8_turnBy : GoodIn wsX8_judge (wsV RX8 327 RX8 yX8_turnBy wsX8_turnBy) := goodIn_s _ [(14, 3), (6, 1), (17, 2), (2, 1), (19, 40)] rfl (by decide +kernel)
set_option maxRecDepth 20000 in
theorem gX8_lawsLike_X8_good : GoodIn wsX8_lawsLike (wsV RX8 160 RX8 yX8_good wsX8_good) := goodIn_s _ [(3, 7), (27, 40)] rfl (by decide +kernel)
set_option maxRecDepth 20000 in
theorem gX8_lawsLike_X8_no : GoodIn wsX8_lawsLike (wsV RX8 163 RX8 yX8_no wsX8_no) := goodIn_s _ [(10, 3), (6, 1), (13, 1), (9, 1), (27, 40)] rfl (by decide +kernel)
set_option maxRecDepth 20000 in
theorem gX8_lawsLike_X8_codes : GoodIn wsX8_lawsLike (wsV RX8 334 RX8 yX8_codes wsX8_codes) := goodIn_s _ [(14, 3), (6, 1), (17, 1), (2, 1), (27, 40)] rfl (by decide +kernel)
set_option maxRecDepth 20000 in
theorem gX8_lawsLike_X8_byCode : GoodIn wsX8_lawsLike (wsV RX8 331 RX8 yX8_byCode wsX8_byCode) := goodIn_s _ [(18, 3), (6, 1), (21, 1), (2, 1), (22, 3), (6, 1), (25, 42)] rfl (by decide +kernel)
set_option maxRecDepth 20000 in
theorem gX8_lawsLike_X8_turnBy : GoodIn wsX8_lawsLike (wsV RX8 327 RX8 yX8_turnBy wsX8_turnBy) := goodIn_s _ [(22, 3), (6, 1), (25, 2), (2, 1), (27, 40)] rfl (by decide +kernel)
set_option maxRecDepth 20000 in
theorem gX8_lawFor_X8_good : GoodIn wsX8_lawFor (wsV RX8 160 RX8 yX8_good wsX8_good) := goodIn_s _ [(1, 7), (38, 40)] rfl (by decide +kernel)
set_option maxRecDepth 20000 in
theorem gX8_lawFor_X8_isFigure : GoodIn wsX8_lawFor (wsV RX8 277 RX8 yX8_isFigure wsX8_isFigure) := goodIn_s _ [(8, 3), (4, 1), (11, 5), (4, 1), (16, 1), (38, 40)] rfl (by decide +kernel)
set_option maxRecDepth 20000 in
theorem gX8_lawFor_X8_in : GoodIn wsX8_lawFor (va_wsS RX8 142 yX8_in wsX8_in) := goodIn_s _ [(14, 2), (4, 1), (16, 1)] rfl (by decide +kernel)
set_option maxRecDepth 20000 in
theorem gX8_lawFor_X8_why : GoodIn wsX8_lawFor (wsV RX8 290 RX8 yX8_why wsX8_why) := goodIn_s _ [(17, 3), (4, 1), (20, 1)] rfl (by decide +kernel)
set_option maxRecDepth 20000 in
theorem gX8_lawFor_X8_no : GoodIn wsX8_lawFor (wsV RX8 163 RX8 yX8_no wsX8_no) := goodIn_s _ [(21, 3), (4, 1), (24, 1), (7, 1), (38, 40)] rfl (by decide +kernel)
set_option maxRecDepth 20000 in
theorem gX8_lawFor_X8_byCode : GoodIn wsX8_lawFor (wsV RX8 331 RX8 yX8_byCode wsX8_byCode) := goodIn_s _ [(25, 3), (4, 1), (28, 1), (13, 1), (29, 3), (4, 1), (32, 2), (38, 40)] rfl (by decide +kernel)
set_option maxRecDepth 20000 in
theorem gX8_lawFor_X8_numberOf : GoodIn wsX8_lawFor (wsV RX8 340 RX8 yX8_numberOf wsX8_numberOf) := goodIn_s _ [(34, 3), (4, 1), (37, 1), (13, 1), (38, 40)] rfl (by decide +kernel)
set_option maxRecDepth 20000 in
theorem gX8_dares_X8_good : GoodIn wsX8_dares (wsV RX8 160 RX8 yX8_good wsX8_good) := goodIn_s _ [(3, 6), (2, 1), (22, 40)] rfl (by decide +kernel)
set_option maxRecDepth 20000 in
theorem gX8_dares_X8_in : GoodIn wsX8_dares (va_wsS RX8 142 yX8_in wsX8_in) := goodIn_s _ [(9, 2), (6, 1), (11, 1)] rfl (by decide +kernel)
set_option maxRecDepth 20000 in
theorem gX8_dares_X8_why : GoodIn wsX8_dares (wsV RX8 290 RX8 yX8_why wsX8_why) := goodIn_s _ [(12, 3), (6, 1), (15, 1)] rfl (by decide +kernel)
set_option maxRecDepth 20000 in
theorem gX8_dares_X8_otherHas : GoodIn wsX8_dares (va_wsS RX8 352 yX8_otherHas wsX8_otherHas) := goodIn_s _ [(16, 2), (6, 1), (18, 1)] rfl (by decide +kernel)
set_option maxRecDepth 20000 in
theorem gX8_dares_X8_figureHas : GoodIn wsX8_dares (va_wsS RX8 355 yX8_figureHas wsX8_figureHas) := goodIn_s _ [(19, 2), (6, 1), (21, 1)] rfl (by decide +kernel)
set_option maxRecDepth 20000 in
theorem gX8_seekRests_X8_figureHas : GoodIn wsX8_seekRests (va_wsS RX8 355 yX8_figureHas wsX8_figureHas) := goodIn_s _ [(2, 4)] rfl (by decide +kernel)
set_option maxRecDepth 20000 in
theorem gX8_seekRests_X8_otherHas : GoodIn wsX8_seekRests (va_wsS RX8 352 yX8_otherHas wsX8_otherHas) := goodIn_s _ [(6, 2), (4, 1), (8, 1)] rfl (by decide +kernel)
set_option maxRecDepth 20000 in
theorem gX8_rests_X8_good : GoodIn wsX8_rests (wsV RX8 160 RX8 yX8_good wsX8_good) := goodIn_s _ [(2, 7), (31, 40)] rfl (by decide +kernel)
set_option maxRecDepth 20000 in
theorem gX8_rests_X8_in : GoodIn wsX8_rests (va_wsS RX8 142 yX8_in wsX8_in) := goodIn_s _ [(9, 2), (5, 1), (11, 1)] rfl (by decide +kernel)
set_option maxRecDepth 20000 in
theorem gX8_rests_X8_why : GoodIn wsX8_rests (wsV RX8 290 RX8 yX8_why wsX8_why) := goodIn_s _ [(12, 3), (5, 1), (15, 1)] rfl (by decide +kernel)
set_option maxRecDepth 20000 in
theorem gX8_rests_X8_no : GoodIn wsX8_rests (wsV RX8 163 RX8 yX8_no wsX8_no) := goodIn_s _ [(16, 3), (5, 1), (19, 1), (8, 1), (31, 40)] rfl (by decide +kernel)
set_option maxRecDepth 20000 in
theorem gX8_rests_X8_seekRests : GoodIn wsX8_rests (wsV RX8 362 RX8 yX8_seekRests wsX8_seekRests) := goodIn_s _ [(20, 3), (5, 1), (23, 4), (5, 1), (27, 44)] rfl (by decide +kernel)
set_option maxRecDepth 20000 in
theorem gX8_rest_X8_good : GoodIn wsX8_rest (wsV RX8 160 RX8 yX8_good wsX8_good) := goodIn_s _ [(3, 7), (31, 40)] rfl (by decide +kernel)
set_option maxRecDepth 20000 in
theorem gX8_rest_X8_in : GoodIn wsX8_rest (va_wsS RX8 142 yX8_in wsX8_in) := goodIn_s _ [(10, 2), (6, 1), (12, 1)] rfl (by decide +kernel)
set_option maxRecDepth 20000 in
theorem gX8_rest_X8_why : GoodIn wsX8_rest (wsV RX8 290 RX8 yX8_why wsX8_why) := goodIn_s _ [(13, 3), (6, 1), (16, 1)] rfl (by decide +kernel)
set_option maxRecDepth 20000 in
theorem gX8_rest_X8_no : GoodIn wsX8_rest (wsV RX8 163 RX8 yX8_no wsX8_no) := goodIn_s _ [(17, 3), (6, 1), (20, 1), (9, 1), (31, 40)] rfl (by decide +kernel)
set_option maxRecDepth 20000 in
theorem gX8_rest_X8_seekRests : GoodIn wsX8_rest (wsV RX8 362 RX8 yX8_seekRests wsX8_seekRests) := goodIn_s _ [(21, 3), (6, 1), (24, 1), (2, 1), (25, 2), (6, 1), (27, 44)] rfl (by decide +kernel)
set_option maxRecDepth 20000 in
theorem gX8_turnsOf_X8_goRound : GoodIn wsX8_turnsOf (wsV RX8 294 RX8 yX8_goRound wsX8_goRound) := goodIn_s _ [(1, 12), (4, 1), (13, 2), (19, 40)] rfl (by decide +kernel)
set_option maxRecDepth 20000 in
theorem gX8_turnsOf_X8_turnAt : GoodIn wsX8_turnsOf (wsV RX8 297 RX8 yX8_turnAt wsX8_turnAt) := goodIn_s _ [(15, 3), (4, 1), (18, 1), (8, 1), (7, 1), (9, 1), (19, 40)] rfl (by decide +kernel)
set_option maxRecDepth 20000 in
theorem gX8_odds_X8_good : GoodIn wsX8_odds (wsV RX8 160 RX8 yX8_good wsX8_good) := goodIn_s _ [(3, 7), (49, 40)] rfl (by decide +kernel)
set_option maxRecDepth 20000 in
theorem gX8_odds_X8_isFigure : GoodIn wsX8_odds (wsV RX8 277 RX8 yX8_isFigure wsX8_isFigure) := goodIn_s _ [(10, 3), (6, 1), (13, 2), (2, 1), (15, 2), (6, 1), (17, 1), (49, 40)] rfl (by decide +kernel)
set_option maxRecDepth 20000 in
theorem gX8_odds_X8_in : GoodIn wsX8_odds (va_wsS RX8 142 yX8_in wsX8_in) := goodIn_s _ [(15, 2), (6, 1), (17, 1)] rfl (by decide +kernel)
set_option maxRecDepth 20000 in
theorem gX8_odds_X8_why : GoodIn wsX8_odds (wsV RX8 290 RX8 yX8_why wsX8_why) := goodIn_s _ [(18, 3), (6, 1), (21, 1)] rfl (by decide +kernel)
set_option maxRecDepth 20000 in
theorem gX8_odds_X8_no : GoodIn wsX8_odds (wsV RX8 163 RX8 yX8_no wsX8_no) := goodIn_s _ [(22, 3), (6, 1), (25, 1), (9, 1), (49, 40)] rfl (by decide +kernel)
set_option maxRecDepth 20000 in
theorem gX8_odds_X8_turnsOf : GoodIn wsX8_odds (wsV RX8 365 RX8 yX8_turnsOf wsX8_turnsOf) := goodIn_s _ [(26, 3), (6, 1), (29, 4), (6, 1), (33, 9), (2, 1), (42, 4), (49, 40)] rfl (by decide +kernel)
set_option maxRecDepth 20000 in
theorem gX8_odds_X8_lowest : GoodIn wsX8_odds (va_wsS RX8 370 yX8_lowest wsX8_lowest) := goodIn_s _ [(46, 2), (6, 1), (48, 1)] rfl (by decide +kernel)
set_option maxRecDepth 20000 in
theorem gX8_mean_X8_good : GoodIn wsX8_mean (wsV RX8 160 RX8 yX8_good wsX8_good) := goodIn_s _ [(3, 7), (49, 40)] rfl (by decide +kernel)
set_option maxRecDepth 20000 in
theorem gX8_mean_X8_isFigure : GoodIn wsX8_mean (wsV RX8 277 RX8 yX8_isFigure wsX8_isFigure) := goodIn_s _ [(10, 3), (6, 1), (13, 2), (1, 1), (15, 2), (6, 1), (17, 1), (49, 40)] rfl (by decide +kernel)
set_option maxRecDepth 20000 in
theorem gX8_mean_X8_in : GoodIn wsX8_mean (va_wsS RX8 142 yX8_in wsX8_in) := goodIn_s _ [(15, 2), (6, 1), (17, 1)] rfl (by decide +kernel)
set_option maxRecDepth 20000 in
theorem gX8_mean_X8_why : GoodIn wsX8_mean (wsV RX8 290 RX8 yX8_why wsX8_why) := goodIn_s _ [(18, 3), (6, 1), (21, 1)] rfl (by decide +kernel)
set_option maxRecDepth 20000 in
theorem gX8_mean_X8_no : GoodIn wsX8_mean (wsV RX8 163 RX8 yX8_no wsX8_no) := goodIn_s _ [(22, 3), (6, 1), (25, 1), (9, 1), (49, 40)] rfl (by decide +kernel)
set_option maxRecDepth 20000 in
theorem gX8_mean_X8_turnsOf : GoodIn wsX8_mean (wsV RX8 365 RX8 yX8_turnsOf wsX8_turnsOf) := goodIn_s _ [(26, 3), (6, 1), (29, 4), (6, 1), (33, 9), (1, 1), (42, 4), (49, 40)] rfl (by decide +kernel)
set_option maxRecDepth 20000 in
theorem gX8_mean_X8_lowest : GoodIn wsX8_mean (va_wsS RX8 370 yX8_lowest wsX8_lowest) := goodIn_s _ [(46, 2), (6, 1), (48, 1)] rfl (by decide +kernel)
set_option maxRecDepth 20000 in
theorem gX8_drawWhy_X8_in : GoodIn wsX8_drawWhy (va_wsS RX8 142 yX8_in wsX8_in) := goodIn_s _ [(6, 4)] rfl (by decide +kernel)
set_option maxRecDepth 20000 in
theorem gX8_drawWhy_X8_why : GoodIn wsX8_drawWhy (wsV RX8 290 RX8 yX8_why wsX8_why) := goodIn_s _ [(10, 3), (8, 1), (13, 1)] rfl (by decide +kernel)
set_option maxRecDepth 20000 in
theorem gX8_drawWhy_X8_goRound : GoodIn wsX8_drawWhy (wsV RX8 294 RX8 yX8_goRound wsX8_goRound) := goodIn_s _ [(14, 3), (8, 1), (17, 8), (8, 1), (25, 1), (5, 1), (30, 40)] rfl (by decide +kernel)
set_option maxRecDepth 20000 in
theorem gX8_drawWhy_X8_turnAt : GoodIn wsX8_drawWhy (wsV RX8 297 RX8 yX8_turnAt wsX8_turnAt) := goodIn_s _ [(26, 3), (8, 1), (29, 1), (20, 1), (19, 1), (21, 1), (30, 40)] rfl (by decide +kernel)
set_option maxRecDepth 20000 in
theorem gX8_drawn_X8_good : GoodIn wsX8_drawn (wsV RX8 160 RX8 yX8_good wsX8_good) := goodIn_s _ [(2, 7), (49, 40)] rfl (by decide +kernel)
set_option maxRecDepth 20000 in
theorem gX8_drawn_X8_isFigure : GoodIn wsX8_drawn (wsV RX8 277 RX8 yX8_isFigure wsX8_isFigure) := goodIn_s _ [(9, 3), (5, 1), (12, 5), (5, 1), (17, 1), (49, 40)] rfl (by decide +kernel)
set_option maxRecDepth 20000 in
theorem gX8_drawn_X8_drawWhy : GoodIn wsX8_drawn (wsV RX8 382 RX8 yX8_drawWhy wsX8_drawWhy) := goodIn_s _ [(18, 3), (5, 1), (21, 3), (1, 1), (24, 1), (14, 3), (5, 1), (17, 1), (25, 20), (49, 40)] rfl (by decide +kernel)
set_option maxRecDepth 20000 in
theorem gX8_drawn_X8_no : GoodIn wsX8_drawn (wsV RX8 163 RX8 yX8_no wsX8_no) := goodIn_s _ [(45, 3), (5, 1), (48, 1), (8, 1), (49, 40)] rfl (by decide +kernel)
set_option maxRecDepth 20000 in
theorem gX8_firstShut_X8_good : GoodIn wsX8_firstShut (wsV RX8 160 RX8 yX8_good wsX8_good) := goodIn_s _ [(3, 7), (45, 40)] rfl (by decide +kernel)
set_option maxRecDepth 20000 in
theorem gX8_firstShut_X8_drawWhy : GoodIn wsX8_firstShut (wsV RX8 382 RX8 yX8_drawWhy wsX8_drawWhy) := goodIn_s _ [(10, 3), (6, 1), (13, 2), (2, 1), (15, 5), (6, 1), (20, 21), (45, 40)] rfl (by decide +kernel)
set_option maxRecDepth 20000 in
theorem gX8_firstShut_X8_no : GoodIn wsX8_firstShut (wsV RX8 163 RX8 yX8_no wsX8_no) := goodIn_s _ [(41, 3), (6, 1), (44, 1), (9, 1), (45, 40)] rfl (by decide +kernel)
set_option maxRecDepth 20000 in
theorem gX8_note_X8_copy : GoodIn wsX8_note (va_wsS RX8 169 yX8_copy wsX8_copy) := goodIn_s _ [(4, 4)] rfl (by decide +kernel)
set_option maxRecDepth 20000 in
theorem gX8_go_X8_good : GoodIn wsX8_go (wsV RX8 160 RX8 yX8_good wsX8_good) := goodIn_s _ [(3, 7), (68, 40)] rfl (by decide +kernel)
set_option maxRecDepth 20000 in
theorem gX8_go_X8_in : GoodIn wsX8_go (va_wsS RX8 142 yX8_in wsX8_in) := goodIn_s _ [(10, 2), (6, 1), (12, 1)] rfl (by decide +kernel)
set_option maxRecDepth 20000 in
theorem gX8_go_X8_why : GoodIn wsX8_go (wsV RX8 290 RX8 yX8_why wsX8_why) := goodIn_s _ [(13, 3), (6, 1), (16, 1)] rfl (by decide +kernel)
set_option maxRecDepth 20000 in
theorem gX8_go_X8_no : GoodIn wsX8_go (wsV RX8 163 RX8 yX8_no wsX8_no) := goodIn_s _ [(17, 3), (6, 1), (20, 1), (9, 1), (68, 40)] rfl (by decide +kernel)
set_option maxRecDepth 20000 in
theorem gX8_go_X8_note : GoodIn wsX8_go (wsV RX8 386 RX8 yX8_note wsX8_note) := goodIn_s _ [(21, 3), (6, 1), (24, 3), (2, 1), (27, 2), (6, 1), (29, 1), (68, 40)] rfl (by decide +kernel)
set_option maxRecDepth 20000 in
theorem gX8_go_X8_watchAsTold : GoodIn wsX8_go (wsV RX8 267 RX8 yX8_watchAsTold wsX8_watchAsTold) := goodIn_s _ [(30, 3), (6, 1), (33, 5), (68, 40)] rfl (by decide +kernel)
set_option maxRecDepth 20000 in
theorem gX8_go_X8_minuteOn : GoodIn wsX8_go (wsV RX8 273 RX8 yX8_minuteOn wsX8_minuteOn) := goodIn_s _ [(38, 3), (6, 1), (41, 2), (34, 1), (43, 4), (6, 1), (47, 9), (37, 1), (56, 4), (36, 1), (35, 1), (60, 48)] rfl (by decide +kernel)
set_option maxRecDepth 20000 in
theorem gX8_put_X8_good : GoodIn wsX8_put (wsV RX8 160 RX8 yX8_good wsX8_good) := goodIn_s _ [(2, 7), (34, 40)] rfl (by decide +kernel)
set_option maxRecDepth 20000 in
theorem gX8_put_X8_isFigure : GoodIn wsX8_put (wsV RX8 277 RX8 yX8_isFigure wsX8_isFigure) := goodIn_s _ [(9, 3), (5, 1), (12, 5), (5, 1), (17, 1), (34, 40)] rfl (by decide +kernel)
set_option maxRecDepth 20000 in
theorem gX8_put_X8_no : GoodIn wsX8_put (wsV RX8 163 RX8 yX8_no wsX8_no) := goodIn_s _ [(18, 3), (5, 1), (21, 1), (8, 1), (34, 40)] rfl (by decide +kernel)
set_option maxRecDepth 20000 in
theorem gX8_put_X8_hasBit : GoodIn wsX8_put (va_wsS RX8 238 yX8_hasBit wsX8_hasBit) := goodIn_s _ [(22, 2), (5, 1), (24, 1)] rfl (by decide +kernel)
set_option maxRecDepth 20000 in
theorem gX8_put_X8_note : GoodIn wsX8_put (wsV RX8 386 RX8 yX8_note wsX8_note) := goodIn_s _ [(25, 3), (5, 1), (28, 3), (1, 1), (31, 2), (5, 1), (33, 41)] rfl (by decide +kernel)
set_option maxRecDepth 20000 in
theorem gX8_wind_X8_good : GoodIn wsX8_wind (wsV RX8 160 RX8 yX8_good wsX8_good) := goodIn_s _ [(2, 7), (31, 40)] rfl (by decide +kernel)
set_option maxRecDepth 20000 in
theorem gX8_wind_X8_isFigure : GoodIn wsX8_wind (wsV RX8 277 RX8 yX8_isFigure wsX8_isFigure) := goodIn_s _ [(9, 3), (5, 1), (12, 5), (5, 1), (17, 1), (31, 40)] rfl (by decide +kernel)
set_option maxRecDepth 20000 in
theorem gX8_wind_X8_no : GoodIn wsX8_wind (wsV RX8 163 RX8 yX8_no wsX8_no) := goodIn_s _ [(18, 3), (5, 1), (21, 1), (8, 1), (31, 40)] rfl (by decide +kernel)
set_option maxRecDepth 20000 in
theorem gX8_wind_X8_note : GoodIn wsX8_wind (wsV RX8 386 RX8 yX8_note wsX8_note) := goodIn_s _ [(22, 3), (5, 1), (25, 3), (1, 1), (28, 2), (5, 1), (30, 41)] rfl (by decide +kernel)
set_option maxRecDepth 20000 in
theorem gX8_undo_X8_good : GoodIn wsX8_undo (wsV RX8 160 RX8 yX8_good wsX8_good) := goodIn_s _ [(4, 7), (18, 40)] rfl (by decide +kernel)
set_option maxRecDepth 20000 in
theorem gX8_undo_X8_isNot : GoodIn wsX8_undo (wsV RX8 389 RX8 yX8_isNot wsX8_isNot) := goodIn_s _ [(11, 3), (7, 1), (14, 1), (10, 1), (18, 40)] rfl (by decide +kernel)
set_option maxRecDepth 20000 in
theorem gX8_undo_X8_copy : GoodIn wsX8_undo (va_wsS RX8 169 yX8_copy wsX8_copy) := goodIn_s _ [(15, 2), (7, 1), (17, 1)] rfl (by decide +kernel)
set_option maxRecDepth 20000 in
theorem gX8_image_X8_good : GoodIn wsX8_image (wsV RX8 160 RX8 yX8_good wsX8_good) := goodIn_s _ [(5, 7), (19, 40)] rfl (by decide +kernel)
set_option maxRecDepth 20000 in
theorem gX8_image_X8_no : GoodIn wsX8_image (wsV RX8 163 RX8 yX8_no wsX8_no) := goodIn_s _ [(12, 3), (8, 1), (15, 1), (11, 1), (19, 40)] rfl (by decide +kernel)
set_option maxRecDepth 20000 in
theorem gX8_image_X8_copy : GoodIn wsX8_image (va_wsS RX8 169 yX8_copy wsX8_copy) := goodIn_s _ [(16, 2), (8, 1), (18, 1)] rfl (by decide +kernel)
set_option maxRecDepth 20000 in
theorem gX8_back_X8_good : GoodIn wsX8_back (wsV RX8 160 RX8 yX8_good wsX8_good) := goodIn_s _ [(5, 7), (22, 40)] rfl (by decide +kernel)
end P226_good_2
section P226_good_3
set_option maxRecDepth 20000 in
theorem gX8_back_X8_in : GoodIn wsX8_back (va_wsS RX8 142 yX8_in wsX8_in) := goodIn_s _ [(12, 2), (8, 1), (14, 1)] rfl (by decide +kernel)
set_option maxRecDepth 20000 in
theorem gX8_back_X8_isNot : GoodIn wsX8_back (wsV RX8 389 RX8 yX8_isNot wsX8_isNot) := goodIn_s _ [(15, 3), (8, 1), (18, 1), (11, 1), (22, 40)] rfl (by decide +kernel)
set_option maxRecDepth 20000 in
theorem gX8_back_X8_copy : GoodIn wsX8_back (va_wsS RX8 169 yX8_copy wsX8_copy) := goodIn_s _ [(19, 2), (8, 1), (21, 1)] rfl (by decide +kernel)
set_option maxRecDepth 20000 in
theorem gX8_size_X8_in : GoodIn wsX8_size (va_wsS RX8 142 yX8_in wsX8_in) := goodIn_s _ [(8, 4)] rfl (by decide +kernel)
end P226_good_3
section P230_00_safe
set_option maxHeartbeats 4000000 in
set_option maxRecDepth 100000 in
theorem c_X8_copy_23_23 (l : Launch) (dC : Nat → ClassId) (dI : Nat → Nat → Nat) (sz : Nat) (a1 : Nat) (a2 : Int32) (a3 : Nat) (a4 : Int32) (a5 : Int32) (ka1 : ClassId) (fa1 : Nat → Int32) (ka3 : ClassId) (fa3 : Nat → Int32) (ba2_l : (0 : Int) ≤ a2.toInt) (ba2_u : a2.toInt ≤ (0 : Int)) (ba4_l : (0 : Int) ≤ a4.toInt) (ba4_u : a4.toInt ≤ (0 : Int)) (ba5_l : (23 : Int) ≤ a5.toInt) (ba5_u : a5.toInt ≤ (23 : Int)) : zm l yX8_copy wsX8_copy ({ frames := 0, cells := 0, slots := 0, locals := 0 }) [.ref a1, .int a2, .ref a3, .int a4, .int a5] dC dI sz [(a1, .inl (ka1, 23, .inl (fa1))), (a3, .inl (ka3, 23, .inl (fa3)))] [(ka1, .int), (ka3, .int)] (fun A _ => True) (fun A => va_Qv (fun (_ : Unit) => True) (fun (_ : Unit) (t : State) => ∃ nfa3 : Nat → Int32, nfa3 = va_cpy fa1 fa3 a2.toNatClampNeg a4.toNatClampNeg 23 ∧ ax_B dC dI A [(a1, .inl (ka1, 23, .inl (fa1))), (a3, .inl (ka3, 23, .inl (nfa3)))] [(ka1, .int), (ka3, .int)] t) A) := by
  refine zh (cc := cX8_copy) (maxL := 6) (ret := none) zn_RX8 rfl (Nat.le_of_ble_eq_true rfl) (fun p e s m below meth c A ls hx hb hml hr hts (hown : s.vm.findClass RX8 = some m.cls) hlocks hA hS hP hK hD hE (hl : lv_has ls 6 [(0, .ref a1), (1, .int a2), (2, .ref a3), (3, .int a4), (4, .int a5)]) => ?_)
  refine ai_open (fun K hK0 => ?_)
  refine (hK0 _ _ _).mpr ?_
  refine lv_iconst (v := 0) hx hb dX8_copy_0 zk_iconst_0 ?_
  refine lv_istore (lv' := [(5, .int 0), (0, .ref a1), (1, .int a2), (2, .ref a3), (3, .int a4), (4, .int a5)]) hx hb dX8_copy_1 hl (by decide) rfl (fun ls hl => ?_)
  have J3 : ∀ (n : Nat) (j3l5 : Int32) (j3a3_a : Nat → Int32) (H : Heap) (locs : List Loc) (ls : Array Slot), (24 : Int) - j3l5.toInt ≤ (n : Int) → (0 : Int) ≤ j3l5.toInt → j3l5.toInt ≤ (23 : Int) → (j3a3_a = va_cpy fa1 fa3 a2.toNatClampNeg a4.toNatClampNeg j3l5.toNatClampNeg) → va_P (dC, dI) vwCl [(a1, .inl (ka1, 23, .inl (fa1))), (a3, .inl (ka3, 23, .inl (j3a3_a)))] H → va_D A [(a1, .inl (ka1, 23, .inl (fa1))), (a3, .inl (ka3, 23, .inl (j3a3_a)))] → va_S A s.heap H locs → lv_has ls 6 [(0, .ref a1), (1, .int a2), (2, .ref a3), (3, .int a4), (4, .int a5), (5, .int j3l5)] → K H locs (F0 m 3 ls []) := by
    intro n
    induction n with
    | zero =>
      intro j3l5 j3a3_a H locs ls hm bj3l5_l bj3l5_u cpy3 hP hD hS hl
      first | exact zg_0 hm bj3l5_u (by decide) | (have h8 := ai_min j3l5; have h9 := ai_max j3l5; exact absurd hm (by omega))
    | succ n ih3 =>
      intro j3l5 j3a3_a H locs ls hm bj3l5_l bj3l5_u cpy3 hP hD hS hl
      refine (hK0 _ _ _).mpr ?_
      have hm3 := hm
      refine lv_iload hx hb dX8_copy_3 (lv_at hl 5 rfl) ?_
      refine lv_iload hx hb dX8_copy_5 (lv_at hl 4 rfl) ?_
      refine lv_icmp_ge (tgt := 28) hx hb dX8_copy_7 (by decide) (fun c7 => ?_) (fun c7 => ?_)
      · have gc7 := ai_le c7
        have u7t_a5 : a5.toInt ≤ (23 : Int) := ba5_u
        have l7t_j3l5 : (23 : Int) ≤ j3l5.toInt := Int.le_trans ba5_l gc7
        exact W.vret hx hb hr (fun t ht hW => ⟨⟨(), rfl, trivial, j3a3_a, (cpy3.trans (congrArg (va_cpy fa1 fa3 a2.toNatClampNeg a4.toNatClampNeg) (cp_e (n := 23) (by omega)))), by rw [ht]; exact hP, va_K.moved hW.alike hK, hD⟩, hS.F ht⟩) hS.2.2 dX8_copy_28
      · have gc7 := ai_nle c7
        have u7f_j3l5 : j3l5.toInt ≤ (22 : Int) := ai_lthi gc7 ba5_u
        have l7f_a5 : (23 : Int) ≤ a5.toInt := ba5_l
        refine lv_aload_n hx hb dX8_copy_10 rfl (lv_at hl 2 rfl) ?_
        refine lv_iload_n hx hb dX8_copy_11 rfl (lv_at hl 3 rfl) ?_
        refine lv_iload hx hb dX8_copy_12 (lv_at hl 5 rfl) ?_
        refine lv_iadd hx hb dX8_copy_14 ?_
        refine lv_topi (fun x14 ex14 => ?_)
        have qx14 : x14.toInt = a4.toInt + j3l5.toInt := ai_add ex14 ⟨ba4_l, ba4_u⟩ ⟨bj3l5_l, u7f_j3l5⟩ (by decide) (by decide)
        have bx14 : (0 : Int) ≤ x14.toInt ∧ x14.toInt ≤ 22 := ⟨by rw [qx14]; exact Int.add_le_add ba4_l bj3l5_l, by rw [qx14]; exact Int.add_le_add ba4_u u7f_j3l5⟩
        refine lv_aload_n hx hb dX8_copy_15 rfl (lv_at hl 0 rfl) ?_
        refine lv_iload_n hx hb dX8_copy_16 rfl (lv_at hl 1 rfl) ?_
        refine lv_iload hx hb dX8_copy_17 (lv_at hl 5 rfl) ?_
        refine lv_iadd hx hb dX8_copy_19 ?_
        refine lv_topi (fun x19 ex19 => ?_)
        have qx19 : x19.toInt = a2.toInt + j3l5.toInt := ai_add ex19 ⟨ba2_l, ba2_u⟩ ⟨bj3l5_l, u7f_j3l5⟩ (by decide) (by decide)
        have bx19 : (0 : Int) ≤ x19.toInt ∧ x19.toInt ≤ 22 := ⟨by rw [qx19]; exact Int.add_le_add ba2_l bj3l5_l, by rw [qx19]; exact Int.add_le_add ba2_u u7f_j3l5⟩
        refine va_iald hx hb hK hP 0 0 rfl rfl (ai_in bx19.1 bx19.2 (by decide) (by decide)) dX8_copy_20 ?_
        refine lv_topi (fun x20 ex20 => ?_)
        refine va_iast hx hb hK hP hD hS 1 1 rfl rfl (ai_in bx14.1 bx14.2 (by decide) (by decide)) dX8_copy_21 (fun H locs hP hD hS => ?_)
        obtain ⟨f21, ef21, hP, hD⟩ : ∃ g9 : Nat → Int32, g9 = upd j3a3_a (x14 : Int32).toNatClampNeg x20 ∧ va_P (dC, dI) vwCl [(a1, .inl (ka1, 23, .inl (fa1))), (a3, .inl (ka3, 23, .inl (g9)))] H ∧ va_D A [(a1, .inl (ka1, 23, .inl (fa1))), (a3, .inl (ka3, 23, .inl (g9)))] := ⟨_, rfl, hP, hD⟩
        obtain ⟨x22, ex22⟩ : ∃ y : Int32, y = j3l5 + Int32.ofInt 1 := ⟨_, rfl⟩
        have qx22 : x22.toInt = j3l5.toInt + 1 := ai_inc ex22 (by decide) (by decide) u7f_j3l5 (by decide)
        have bx22 : (1 : Int) ≤ x22.toInt ∧ x22.toInt ≤ 23 := ⟨by rw [qx22]; exact Int.add_le_add bj3l5_l (Int.le_refl _), by rw [qx22]; exact Int.add_le_add u7f_j3l5 (Int.le_refl _)⟩
        refine lv_iinc (v := x22) (lv' := [(5, .int x22), (0, .ref a1), (1, .int a2), (2, .ref a3), (3, .int a4), (4, .int a5)]) hx hb dX8_copy_22 hl (k := 5) rfl ex22.symm (by decide) rfl (fun ls hl => ?_)
        refine lv_goto (tgt := 3) hx hb dX8_copy_25 (by decide) ?_
        exact (hK0 _ _ _).mp (ih3 x22 f21 _ _ _ (by first | exact zg_s hm3 qx22 | (have h0 := qx22; omega)) (Int.le_trans zq4 bx22.1) bx22.2 (cp_s cpy3 ef21 ex20 (cp_i qx14 ba4_l bj3l5_l) (cp_i qx19 ba2_l bj3l5_l) (cp_k qx22 bj3l5_l)) hP hD hS (lv_sub hl [1, 2, 3, 4, 5, 0] rfl))
  exact (hK0 _ _ _).mp (J3 24 0 fa3 _ _ _ (by first | decide +kernel | (have h1 : (0 : Int) ≤ (0 : Int32).toInt := zq5; have h2 : (0 : Int32).toInt ≤ (0 : Int) := zq6; omega)) zq5 (Int.le_trans zq6 zq166) (cp_0 (by decide)) hP hD hS (lv_sub hl [1, 2, 3, 4, 5, 0] rfl))

set_option maxHeartbeats 4000000 in
set_option maxRecDepth 100000 in
theorem c_X8_copy_23_368 (l : Launch) (dC : Nat → ClassId) (dI : Nat → Nat → Nat) (sz : Nat) (a1 : Nat) (a2 : Int32) (a3 : Nat) (a4 : Int32) (a5 : Int32) (ka1 : ClassId) (fa1 : Nat → Int32) (ka3 : ClassId) (fa3 : Nat → Int32) (ba2_l : (0 : Int) ≤ a2.toInt) (ba2_u : a2.toInt ≤ (0 : Int)) (ba4_l : (0 : Int) ≤ a4.toInt) (ba4_u : a4.toInt ≤ (345 : Int)) (ba5_l : (23 : Int) ≤ a5.toInt) (ba5_u : a5.toInt ≤ (23 : Int)) : zm l yX8_copy wsX8_copy ({ frames := 0, cells := 0, slots := 0, locals := 0 }) [.ref a1, .int a2, .ref a3, .int a4, .int a5] dC dI sz [(a1, .inl (ka1, 23, .inl (fa1))), (a3, .inl (ka3, 368, .inl (fa3)))] [(ka1, .int), (ka3, .int)] (fun A _ => True) (fun A => va_Qv (fun (_ : Unit) => True) (fun (_ : Unit) (t : State) => ∃ nfa3 : Nat → Int32, nfa3 = va_cpy fa1 fa3 a2.toNatClampNeg a4.toNatClampNeg 23 ∧ ax_B dC dI A [(a1, .inl (ka1, 23, .inl (fa1))), (a3, .inl (ka3, 368, .inl (nfa3)))] [(ka1, .int), (ka3, .int)] t) A) := by
  refine zh (cc := cX8_copy) (maxL := 6) (ret := none) zn_RX8 rfl (Nat.le_of_ble_eq_true rfl) (fun p e s m below meth c A ls hx hb hml hr hts (hown : s.vm.findClass RX8 = some m.cls) hlocks hA hS hP hK hD hE (hl : lv_has ls 6 [(0, .ref a1), (1, .int a2), (2, .ref a3), (3, .int a4), (4, .int a5)]) => ?_)
  refine ai_open (fun K hK0 => ?_)
  refine (hK0 _ _ _).mpr ?_
  refine lv_iconst (v := 0) hx hb dX8_copy_0 zk_iconst_0 ?_
  refine lv_istore (lv' := [(5, .int 0), (0, .ref a1), (1, .int a2), (2, .ref a3), (3, .int a4), (4, .int a5)]) hx hb dX8_copy_1 hl (by decide) rfl (fun ls hl => ?_)
  have J3 : ∀ (n : Nat) (j3l5 : Int32) (j3a3_a : Nat → Int32) (H : Heap) (locs : List Loc) (ls : Array Slot), (24 : Int) - j3l5.toInt ≤ (n : Int) → (0 : Int) ≤ j3l5.toInt → j3l5.toInt ≤ (23 : Int) → (j3a3_a = va_cpy fa1 fa3 a2.toNatClampNeg a4.toNatClampNeg j3l5.toNatClampNeg) → va_P (dC, dI) vwCl [(a1, .inl (ka1, 23, .inl (fa1))), (a3, .inl (ka3, 368, .inl (j3a3_a)))] H → va_D A [(a1, .inl (ka1, 23, .inl (fa1))), (a3, .inl (ka3, 368, .inl (j3a3_a)))] → va_S A s.heap H locs → lv_has ls 6 [(0, .ref a1), (1, .int a2), (2, .ref a3), (3, .int a4), (4, .int a5), (5, .int j3l5)] → K H locs (F0 m 3 ls []) := by
    intro n
    induction n with
    | zero =>
      intro j3l5 j3a3_a H locs ls hm bj3l5_l bj3l5_u cpy3 hP hD hS hl
      first | exact zg_0 hm bj3l5_u (by decide) | (have h8 := ai_min j3l5; have h9 := ai_max j3l5; exact absurd hm (by omega))
    | succ n ih3 =>
      intro j3l5 j3a3_a H locs ls hm bj3l5_l bj3l5_u cpy3 hP hD hS hl
      refine (hK0 _ _ _).mpr ?_
      have hm3 := hm
      refine lv_iload hx hb dX8_copy_3 (lv_at hl 5 rfl) ?_
      refine lv_iload hx hb dX8_copy_5 (lv_at hl 4 rfl) ?_
      refine lv_icmp_ge (tgt := 28) hx hb dX8_copy_7 (by decide) (fun c7 => ?_) (fun c7 => ?_)
      · have gc7 := ai_le c7
        have u7t_a5 : a5.toInt ≤ (23 : Int) := ba5_u
        have l7t_j3l5 : (23 : Int) ≤ j3l5.toInt := Int.le_trans ba5_l gc7
        exact W.vret hx hb hr (fun t ht hW => ⟨⟨(), rfl, trivial, j3a3_a, (cpy3.trans (congrArg (va_cpy fa1 fa3 a2.toNatClampNeg a4.toNatClampNeg) (cp_e (n := 23) (by omega)))), by rw [ht]; exact hP, va_K.moved hW.alike hK, hD⟩, hS.F ht⟩) hS.2.2 dX8_copy_28
      · have gc7 := ai_nle c7
        have u7f_j3l5 : j3l5.toInt ≤ (22 : Int) := ai_lthi gc7 ba5_u
        have l7f_a5 : (23 : Int) ≤ a5.toInt := ba5_l
        refine lv_aload_n hx hb dX8_copy_10 rfl (lv_at hl 2 rfl) ?_
        refine lv_iload_n hx hb dX8_copy_11 rfl (lv_at hl 3 rfl) ?_
        refine lv_iload hx hb dX8_copy_12 (lv_at hl 5 rfl) ?_
        refine lv_iadd hx hb dX8_copy_14 ?_
        refine lv_topi (fun x14 ex14 => ?_)
        have qx14 : x14.toInt = a4.toInt + j3l5.toInt := ai_add ex14 ⟨ba4_l, ba4_u⟩ ⟨bj3l5_l, u7f_j3l5⟩ (by decide) (by decide)
        have bx14 : (0 : Int) ≤ x14.toInt ∧ x14.toInt ≤ 367 := ⟨by rw [qx14]; exact Int.add_le_add ba4_l bj3l5_l, by rw [qx14]; exact Int.add_le_add ba4_u u7f_j3l5⟩
        refine lv_aload_n hx hb dX8_copy_15 rfl (lv_at hl 0 rfl) ?_
        refine lv_iload_n hx hb dX8_copy_16 rfl (lv_at hl 1 rfl) ?_
        refine lv_iload hx hb dX8_copy_17 (lv_at hl 5 rfl) ?_
        refine lv_iadd hx hb dX8_copy_19 ?_
        refine lv_topi (fun x19 ex19 => ?_)
        have qx19 : x19.toInt = a2.toInt + j3l5.toInt := ai_add ex19 ⟨ba2_l, ba2_u⟩ ⟨bj3l5_l, u7f_j3l5⟩ (by decide) (by decide)
        have bx19 : (0 : Int) ≤ x19.toInt ∧ x19.toInt ≤ 22 := ⟨by rw [qx19]; exact Int.add_le_add ba2_l bj3l5_l, by rw [qx19]; exact Int.add_le_add ba2_u u7f_j3l5⟩
        refine va_iald hx hb hK hP 0 0 rfl rfl (ai_in bx19.1 bx19.2 (by decide) (by decide)) dX8_copy_20 ?_
        refine lv_topi (fun x20 ex20 => ?_)
        refine va_iast hx hb hK hP hD hS 1 1 rfl rfl (ai_in bx14.1 bx14.2 (by decide) (by decide)) dX8_copy_21 (fun H locs hP hD hS => ?_)
        obtain ⟨f21, ef21, hP, hD⟩ : ∃ g9 : Nat → Int32, g9 = upd j3a3_a (x14 : Int32).toNatClampNeg x20 ∧ va_P (dC, dI) vwCl [(a1, .inl (ka1, 23, .inl (fa1))), (a3, .inl (ka3, 368, .inl (g9)))] H ∧ va_D A [(a1, .inl (ka1, 23, .inl (fa1))), (a3, .inl (ka3, 368, .inl (g9)))] := ⟨_, rfl, hP, hD⟩
        obtain ⟨x22, ex22⟩ : ∃ y : Int32, y = j3l5 + Int32.ofInt 1 := ⟨_, rfl⟩
        have qx22 : x22.toInt = j3l5.toInt + 1 := ai_inc ex22 (by decide) (by decide) u7f_j3l5 (by decide)
        have bx22 : (1 : Int) ≤ x22.toInt ∧ x22.toInt ≤ 23 := ⟨by rw [qx22]; exact Int.add_le_add bj3l5_l (Int.le_refl _), by rw [qx22]; exact Int.add_le_add u7f_j3l5 (Int.le_refl _)⟩
        refine lv_iinc (v := x22) (lv' := [(5, .int x22), (0, .ref a1), (1, .int a2), (2, .ref a3), (3, .int a4), (4, .int a5)]) hx hb dX8_copy_22 hl (k := 5) rfl ex22.symm (by decide) rfl (fun ls hl => ?_)
        refine lv_goto (tgt := 3) hx hb dX8_copy_25 (by decide) ?_
        exact (hK0 _ _ _).mp (ih3 x22 f21 _ _ _ (by first | exact zg_s hm3 qx22 | (have h0 := qx22; omega)) (Int.le_trans zq4 bx22.1) bx22.2 (cp_s cpy3 ef21 ex20 (cp_i qx14 ba4_l bj3l5_l) (cp_i qx19 ba2_l bj3l5_l) (cp_k qx22 bj3l5_l)) hP hD hS (lv_sub hl [1, 2, 3, 4, 5, 0] rfl))
  exact (hK0 _ _ _).mp (J3 24 0 fa3 _ _ _ (by first | decide +kernel | (have h1 : (0 : Int) ≤ (0 : Int32).toInt := zq5; have h2 : (0 : Int32).toInt ≤ (0 : Int) := zq6; omega)) zq5 (Int.le_trans zq6 zq166) (cp_0 (by decide)) hP hD hS (lv_sub hl [1, 2, 3, 4, 5, 0] rfl))

set_option maxHeartbeats 4000000 in
set_option maxRecDepth 100000 in
theorem c_X8_copy_368_23 (l : Launch) (dC : Nat → ClassId) (dI : Nat → Nat → Nat) (sz : Nat) (a1 : Nat) (a2 : Int32) (a3 : Nat) (a4 : Int32) (a5 : Int32) (ka1 : ClassId) (fa1 : Nat → Int32) (ka3 : ClassId) (fa3 : Nat → Int32) (ba2_l : (0 : Int) ≤ a2.toInt) (ba2_u : a2.toInt ≤ (345 : Int)) (ba4_l : (0 : Int) ≤ a4.toInt) (ba4_u : a4.toInt ≤ (0 : Int)) (ba5_l : (23 : Int) ≤ a5.toInt) (ba5_u : a5.toInt ≤ (23 : Int)) : zm l yX8_copy wsX8_copy ({ frames := 0, cells := 0, slots := 0, locals := 0 }) [.ref a1, .int a2, .ref a3, .int a4, .int a5] dC dI sz [(a1, .inl (ka1, 368, .inl (fa1))), (a3, .inl (ka3, 23, .inl (fa3)))] [(ka1, .int), (ka3, .int)] (fun A _ => True) (fun A => va_Qv (fun (_ : Unit) => True) (fun (_ : Unit) (t : State) => ∃ nfa3 : Nat → Int32, nfa3 = va_cpy fa1 fa3 a2.toNatClampNeg a4.toNatClampNeg 23 ∧ ax_B dC dI A [(a1, .inl (ka1, 368, .inl (fa1))), (a3, .inl (ka3, 23, .inl (nfa3)))] [(ka1, .int), (ka3, .int)] t) A) := by
  refine zh (cc := cX8_copy) (maxL := 6) (ret := none) zn_RX8 rfl (Nat.le_of_ble_eq_true rfl) (fun p e s m below meth c A ls hx hb hml hr hts (hown : s.vm.findClass RX8 = some m.cls) hlocks hA hS hP hK hD hE (hl : lv_has ls 6 [(0, .ref a1), (1, .int a2), (2, .ref a3), (3, .int a4), (4, .int a5)]) => ?_)
  refine ai_open (fun K hK0 => ?_)
  refine (hK0 _ _ _).mpr ?_
  refine lv_iconst (v := 0) hx hb dX8_copy_0 zk_iconst_0 ?_
  refine lv_istore (lv' := [(5, .int 0), (0, .ref a1), (1, .int a2), (2, .ref a3), (3, .int a4), (4, .int a5)]) hx hb dX8_copy_1 hl (by decide) rfl (fun ls hl => ?_)
  have J3 : ∀ (n : Nat) (j3l5 : Int32) (j3a3_a : Nat → Int32) (H : Heap) (locs : List Loc) (ls : Array Slot), (24 : Int) - j3l5.toInt ≤ (n : Int) → (0 : Int) ≤ j3l5.toInt → j3l5.toInt ≤ (23 : Int) → (j3a3_a = va_cpy fa1 fa3 a2.toNatClampNeg a4.toNatClampNeg j3l5.toNatClampNeg) → va_P (dC, dI) vwCl [(a1, .inl (ka1, 368, .inl (fa1))), (a3, .inl (ka3, 23, .inl (j3a3_a)))] H → va_D A [(a1, .inl (ka1, 368, .inl (fa1))), (a3, .inl (ka3, 23, .inl (j3a3_a)))] → va_S A s.heap H locs → lv_has ls 6 [(0, .ref a1), (1, .int a2), (2, .ref a3), (3, .int a4), (4, .int a5), (5, .int j3l5)] → K H locs (F0 m 3 ls []) := by
    intro n
    induction n with
    | zero =>
      intro j3l5 j3a3_a H locs ls hm bj3l5_l bj3l5_u cpy3 hP hD hS hl
      first | exact zg_0 hm bj3l5_u (by decide) | (have h8 := ai_min j3l5; have h9 := ai_max j3l5; exact absurd hm (by omega))
    | succ n ih3 =>
      intro j3l5 j3a3_a H locs ls hm bj3l5_l bj3l5_u cpy3 hP hD hS hl
      refine (hK0 _ _ _).mpr ?_
      have hm3 := hm
      refine lv_iload hx hb dX8_copy_3 (lv_at hl 5 rfl) ?_
      refine lv_iload hx hb dX8_copy_5 (lv_at hl 4 rfl) ?_
      refine lv_icmp_ge (tgt := 28) hx hb dX8_copy_7 (by decide) (fun c7 => ?_) (fun c7 => ?_)
      · have gc7 := ai_le c7
        have u7t_a5 : a5.toInt ≤ (23 : Int) := ba5_u
        have l7t_j3l5 : (23 : Int) ≤ j3l5.toInt := Int.le_trans ba5_l gc7
        exact W.vret hx hb hr (fun t ht hW => ⟨⟨(), rfl, trivial, j3a3_a, (cpy3.trans (congrArg (va_cpy fa1 fa3 a2.toNatClampNeg a4.toNatClampNeg) (cp_e (n := 23) (by omega)))), by rw [ht]; exact hP, va_K.moved hW.alike hK, hD⟩, hS.F ht⟩) hS.2.2 dX8_copy_28
      · have gc7 := ai_nle c7
        have u7f_j3l5 : j3l5.toInt ≤ (22 : Int) := ai_lthi gc7 ba5_u
        have l7f_a5 : (23 : Int) ≤ a5.toInt := ba5_l
        refine lv_aload_n hx hb dX8_copy_10 rfl (lv_at hl 2 rfl) ?_
        refine lv_iload_n hx hb dX8_copy_11 rfl (lv_at hl 3 rfl) ?_
        refine lv_iload hx hb dX8_copy_12 (lv_at hl 5 rfl) ?_
        refine lv_iadd hx hb dX8_copy_14 ?_
        refine lv_topi (fun x14 ex14 => ?_)
        have qx14 : x14.toInt = a4.toInt + j3l5.toInt := ai_add ex14 ⟨ba4_l, ba4_u⟩ ⟨bj3l5_l, u7f_j3l5⟩ (by decide) (by decide)
        have bx14 : (0 : Int) ≤ x14.toInt ∧ x14.toInt ≤ 22 := ⟨by rw [qx14]; exact Int.add_le_add ba4_l bj3l5_l, by rw [qx14]; exact Int.add_le_add ba4_u u7f_j3l5⟩
        refine lv_aload_n hx hb dX8_copy_15 rfl (lv_at hl 0 rfl) ?_
        refine lv_iload_n hx hb dX8_copy_16 rfl (lv_at hl 1 rfl) ?_
        refine lv_iload hx hb dX8_copy_17 (lv_at hl 5 rfl) ?_
        refine lv_iadd hx hb dX8_copy_19 ?_
        refine lv_topi (fun x19 ex19 => ?_)
        have qx19 : x19.toInt = a2.toInt + j3l5.toInt := ai_add ex19 ⟨ba2_l, ba2_u⟩ ⟨bj3l5_l, u7f_j3l5⟩ (by decide) (by decide)
        have bx19 : (0 : Int) ≤ x19.toInt ∧ x19.toInt ≤ 367 := ⟨by rw [qx19]; exact Int.add_le_add ba2_l bj3l5_l, by rw [qx19]; exact Int.add_le_add ba2_u u7f_j3l5⟩
        refine va_iald hx hb hK hP 0 0 rfl rfl (ai_in bx19.1 bx19.2 (by decide) (by decide)) dX8_copy_20 ?_
        refine lv_topi (fun x20 ex20 => ?_)
        refine va_iast hx hb hK hP hD hS 1 1 rfl rfl (ai_in bx14.1 bx14.2 (by decide) (by decide)) dX8_copy_21 (fun H locs hP hD hS => ?_)
        obtain ⟨f21, ef21, hP, hD⟩ : ∃ g9 : Nat → Int32, g9 = upd j3a3_a (x14 : Int32).toNatClampNeg x20 ∧ va_P (dC, dI) vwCl [(a1, .inl (ka1, 368, .inl (fa1))), (a3, .inl (ka3, 23, .inl (g9)))] H ∧ va_D A [(a1, .inl (ka1, 368, .inl (fa1))), (a3, .inl (ka3, 23, .inl (g9)))] := ⟨_, rfl, hP, hD⟩
        obtain ⟨x22, ex22⟩ : ∃ y : Int32, y = j3l5 + Int32.ofInt 1 := ⟨_, rfl⟩
        have qx22 : x22.toInt = j3l5.toInt + 1 := ai_inc ex22 (by decide) (by decide) u7f_j3l5 (by decide)
        have bx22 : (1 : Int) ≤ x22.toInt ∧ x22.toInt ≤ 23 := ⟨by rw [qx22]; exact Int.add_le_add bj3l5_l (Int.le_refl _), by rw [qx22]; exact Int.add_le_add u7f_j3l5 (Int.le_refl _)⟩
        refine lv_iinc (v := x22) (lv' := [(5, .int x22), (0, .ref a1), (1, .int a2), (2, .ref a3), (3, .int a4), (4, .int a5)]) hx hb dX8_copy_22 hl (k := 5) rfl ex22.symm (by decide) rfl (fun ls hl => ?_)
        refine lv_goto (tgt := 3) hx hb dX8_copy_25 (by decide) ?_
        exact (hK0 _ _ _).mp (ih3 x22 f21 _ _ _ (by first | exact zg_s hm3 qx22 | (have h0 := qx22; omega)) (Int.le_trans zq4 bx22.1) bx22.2 (cp_s cpy3 ef21 ex20 (cp_i qx14 ba4_l bj3l5_l) (cp_i qx19 ba2_l bj3l5_l) (cp_k qx22 bj3l5_l)) hP hD hS (lv_sub hl [1, 2, 3, 4, 5, 0] rfl))
  exact (hK0 _ _ _).mp (J3 24 0 fa3 _ _ _ (by first | decide +kernel | (have h1 : (0 : Int) ≤ (0 : Int32).toInt := zq5; have h2 : (0 : Int32).toInt ≤ (0 : Int) := zq6; omega)) zq5 (Int.le_trans zq6 zq166) (cp_0 (by decide)) hP hD hS (lv_sub hl [1, 2, 3, 4, 5, 0] rfl))

set_option maxHeartbeats 4000000 in
set_option maxRecDepth 100000 in
theorem c_X8_copy_23_69 (l : Launch) (dC : Nat → ClassId) (dI : Nat → Nat → Nat) (sz : Nat) (a1 : Nat) (a2 : Int32) (a3 : Nat) (a4 : Int32) (a5 : Int32) (ka1 : ClassId) (fa1 : Nat → Int32) (ka3 : ClassId) (fa3 : Nat → Int32) (ba2_l : (0 : Int) ≤ a2.toInt) (ba2_u : a2.toInt ≤ (0 : Int)) (ba4_l : (0 : Int) ≤ a4.toInt) (ba4_u : a4.toInt ≤ (46 : Int)) (ba5_l : (23 : Int) ≤ a5.toInt) (ba5_u : a5.toInt ≤ (23 : Int)) : zm l yX8_copy wsX8_copy ({ frames := 0, cells := 0, slots := 0, locals := 0 }) [.ref a1, .int a2, .ref a3, .int a4, .int a5] dC dI sz [(a1, .inl (ka1, 23, .inl (fa1))), (a3, .inl (ka3, 69, .inl (fa3)))] [(ka1, .int), (ka3, .int)] (fun A _ => True) (fun A => va_Qv (fun (_ : Unit) => True) (fun (_ : Unit) (t : State) => ∃ nfa3 : Nat → Int32, nfa3 = va_cpy fa1 fa3 a2.toNatClampNeg a4.toNatClampNeg 23 ∧ ax_B dC dI A [(a1, .inl (ka1, 23, .inl (fa1))), (a3, .inl (ka3, 69, .inl (nfa3)))] [(ka1, .int), (ka3, .int)] t) A) := by
  refine zh (cc := cX8_copy) (maxL := 6) (ret := none) zn_RX8 rfl (Nat.le_of_ble_eq_true rfl) (fun p e s m below meth c A ls hx hb hml hr hts (hown : s.vm.findClass RX8 = some m.cls) hlocks hA hS hP hK hD hE (hl : lv_has ls 6 [(0, .ref a1), (1, .int a2), (2, .ref a3), (3, .int a4), (4, .int a5)]) => ?_)
  refine ai_open (fun K hK0 => ?_)
  refine (hK0 _ _ _).mpr ?_
  refine lv_iconst (v := 0) hx hb dX8_copy_0 zk_iconst_0 ?_
  refine lv_istore (lv' := [(5, .int 0), (0, .ref a1), (1, .int a2), (2, .ref a3), (3, .int a4), (4, .int a5)]) hx hb dX8_copy_1 hl (by decide) rfl (fun ls hl => ?_)
  have J3 : ∀ (n : Nat) (j3l5 : Int32) (j3a3_a : Nat → Int32) (H : Heap) (locs : List Loc) (ls : Array Slot), (24 : Int) - j3l5.toInt ≤ (n : Int) → (0 : Int) ≤ j3l5.toInt → j3l5.toInt ≤ (23 : Int) → (j3a3_a = va_cpy fa1 fa3 a2.toNatClampNeg a4.toNatClampNeg j3l5.toNatClampNeg) → va_P (dC, dI) vwCl [(a1, .inl (ka1, 23, .inl (fa1))), (a3, .inl (ka3, 69, .inl (j3a3_a)))] H → va_D A [(a1, .inl (ka1, 23, .inl (fa1))), (a3, .inl (ka3, 69, .inl (j3a3_a)))] → va_S A s.heap H locs → lv_has ls 6 [(0, .ref a1), (1, .int a2), (2, .ref a3), (3, .int a4), (4, .int a5), (5, .int j3l5)] → K H locs (F0 m 3 ls []) := by
    intro n
    induction n with
    | zero =>
      intro j3l5 j3a3_a H locs ls hm bj3l5_l bj3l5_u cpy3 hP hD hS hl
      first | exact zg_0 hm bj3l5_u (by decide) | (have h8 := ai_min j3l5; have h9 := ai_max j3l5; exact absurd hm (by omega))
    | succ n ih3 =>
      intro j3l5 j3a3_a H locs ls hm bj3l5_l bj3l5_u cpy3 hP hD hS hl
      refine (hK0 _ _ _).mpr ?_
      have hm3 := hm
      refine lv_iload hx hb dX8_copy_3 (lv_at hl 5 rfl) ?_
      refine lv_iload hx hb dX8_copy_5 (lv_at hl 4 rfl) ?_
      refine lv_icmp_ge (tgt := 28) hx hb dX8_copy_7 (by decide) (fun c7 => ?_) (fun c7 => ?_)
      · have gc7 := ai_le c7
        have u7t_a5 : a5.toInt ≤ (23 : Int) := ba5_u
        have l7t_j3l5 : (23 : Int) ≤ j3l5.toInt := Int.le_trans ba5_l gc7
        exact W.vret hx hb hr (fun t ht hW => ⟨⟨(), rfl, trivial, j3a3_a, (cpy3.trans (congrArg (va_cpy fa1 fa3 a2.toNatClampNeg a4.toNatClampNeg) (cp_e (n := 23) (by omega)))), by rw [ht]; exact hP, va_K.moved hW.alike hK, hD⟩, hS.F ht⟩) hS.2.2 dX8_copy_28
      · have gc7 := ai_nle c7
        have u7f_j3l5 : j3l5.toInt ≤ (22 : Int) := ai_lthi gc7 ba5_u
        have l7f_a5 : (23 : Int) ≤ a5.toInt := ba5_l
        refine lv_aload_n hx hb dX8_copy_10 rfl (lv_at hl 2 rfl) ?_
        refine lv_iload_n hx hb dX8_copy_11 rfl (lv_at hl 3 rfl) ?_
        refine lv_iload hx hb dX8_copy_12 (lv_at hl 5 rfl) ?_
        refine lv_iadd hx hb dX8_copy_14 ?_
        refine lv_topi (fun x14 ex14 => ?_)
        have qx14 : x14.toInt = a4.toInt + j3l5.toInt := ai_add ex14 ⟨ba4_l, ba4_u⟩ ⟨bj3l5_l, u7f_j3l5⟩ (by decide) (by decide)
        have bx14 : (0 : Int) ≤ x14.toInt ∧ x14.toInt ≤ 68 := ⟨by rw [qx14]; exact Int.add_le_add ba4_l bj3l5_l, by rw [qx14]; exact Int.add_le_add ba4_u u7f_j3l5⟩
        refine lv_aload_n hx hb dX8_copy_15 rfl (lv_at hl 0 rfl) ?_
        refine lv_iload_n hx hb dX8_copy_16 rfl (lv_at hl 1 rfl) ?_
        refine lv_iload hx hb dX8_copy_17 (lv_at hl 5 rfl) ?_
        refine lv_iadd hx hb dX8_copy_19 ?_
        refine lv_topi (fun x19 ex19 => ?_)
        have qx19 : x19.toInt = a2.toInt + j3l5.toInt := ai_add ex19 ⟨ba2_l, ba2_u⟩ ⟨bj3l5_l, u7f_j3l5⟩ (by decide) (by decide)
        have bx19 : (0 : Int) ≤ x19.toInt ∧ x19.toInt ≤ 22 := ⟨by rw [qx19]; exact Int.add_le_add ba2_l bj3l5_l, by rw [qx19]; exact Int.add_le_add ba2_u u7f_j3l5⟩
        refine va_iald hx hb hK hP 0 0 rfl rfl (ai_in bx19.1 bx19.2 (by decide) (by decide)) dX8_copy_20 ?_
        refine lv_topi (fun x20 ex20 => ?_)
        refine va_iast hx hb hK hP hD hS 1 1 rfl rfl (ai_in bx14.1 bx14.2 (by decide) (by decide)) dX8_copy_21 (fun H locs hP hD hS => ?_)
        obtain ⟨f21, ef21, hP, hD⟩ : ∃ g9 : Nat → Int32, g9 = upd j3a3_a (x14 : Int32).toNatClampNeg x20 ∧ va_P (dC, dI) vwCl [(a1, .inl (ka1, 23, .inl (fa1))), (a3, .inl (ka3, 69, .inl (g9)))] H ∧ va_D A [(a1, .inl (ka1, 23, .inl (fa1))), (a3, .inl (ka3, 69, .inl (g9)))] := ⟨_, rfl, hP, hD⟩
        obtain ⟨x22, ex22⟩ : ∃ y : Int32, y = j3l5 + Int32.ofInt 1 := ⟨_, rfl⟩
        have qx22 : x22.toInt = j3l5.toInt + 1 := ai_inc ex22 (by decide) (by decide) u7f_j3l5 (by decide)
        have bx22 : (1 : Int) ≤ x22.toInt ∧ x22.toInt ≤ 23 := ⟨by rw [qx22]; exact Int.add_le_add bj3l5_l (Int.le_refl _), by rw [qx22]; exact Int.add_le_add u7f_j3l5 (Int.le_refl _)⟩
        refine lv_iinc (v := x22) (lv' := [(5, .int x22), (0, .ref a1), (1, .int a2), (2, .ref a3), (3, .int a4), (4, .int a5)]) hx hb dX8_copy_22 hl (k := 5) rfl ex22.symm (by decide) rfl (fun ls hl => ?_)
        refine lv_goto (tgt := 3) hx hb dX8_copy_25 (by decide) ?_
        exact (hK0 _ _ _).mp (ih3 x22 f21 _ _ _ (by first | exact zg_s hm3 qx22 | (have h0 := qx22; omega)) (Int.le_trans zq4 bx22.1) bx22.2 (cp_s cpy3 ef21 ex20 (cp_i qx14 ba4_l bj3l5_l) (cp_i qx19 ba2_l bj3l5_l) (cp_k qx22 bj3l5_l)) hP hD hS (lv_sub hl [1, 2, 3, 4, 5, 0] rfl))
  exact (hK0 _ _ _).mp (J3 24 0 fa3 _ _ _ (by first | decide +kernel | (have h1 : (0 : Int) ≤ (0 : Int32).toInt := zq5; have h2 : (0 : Int32).toInt ≤ (0 : Int) := zq6; omega)) zq5 (Int.le_trans zq6 zq166) (cp_0 (by decide)) hP hD hS (lv_sub hl [1, 2, 3, 4, 5, 0] rfl))

set_option maxHeartbeats 4000000 in
set_option maxRecDepth 100000 in
theorem c_X8_copy_69_23 (l : Launch) (dC : Nat → ClassId) (dI : Nat → Nat → Nat) (sz : Nat) (a1 : Nat) (a2 : Int32) (a3 : Nat) (a4 : Int32) (a5 : Int32) (ka1 : ClassId) (fa1 : Nat → Int32) (ka3 : ClassId) (fa3 : Nat → Int32) (ba2_l : (0 : Int) ≤ a2.toInt) (ba2_u : a2.toInt ≤ (46 : Int)) (ba4_l : (0 : Int) ≤ a4.toInt) (ba4_u : a4.toInt ≤ (0 : Int)) (ba5_l : (23 : Int) ≤ a5.toInt) (ba5_u : a5.toInt ≤ (23 : Int)) : zm l yX8_copy wsX8_copy ({ frames := 0, cells := 0, slots := 0, locals := 0 }) [.ref a1, .int a2, .ref a3, .int a4, .int a5] dC dI sz [(a1, .inl (ka1, 69, .inl (fa1))), (a3, .inl (ka3, 23, .inl (fa3)))] [(ka1, .int), (ka3, .int)] (fun A _ => True) (fun A => va_Qv (fun (_ : Unit) => True) (fun (_ : Unit) (t : State) => ∃ nfa3 : Nat → Int32, nfa3 = va_cpy fa1 fa3 a2.toNatClampNeg a4.toNatClampNeg 23 ∧ ax_B dC dI A [(a1, .inl (ka1, 69, .inl (fa1))), (a3, .inl (ka3, 23, .inl (nfa3)))] [(ka1, .int), (ka3, .int)] t) A) := by
  refine zh (cc := cX8_copy) (maxL := 6) (ret := none) zn_RX8 rfl (Nat.le_of_ble_eq_true rfl) (fun p e s m below meth c A ls hx hb hml hr hts (hown : s.vm.findClass RX8 = some m.cls) hlocks hA hS hP hK hD hE (hl : lv_has ls 6 [(0, .ref a1), (1, .int a2), (2, .ref a3), (3, .int a4), (4, .int a5)]) => ?_)
  refine ai_open (fun K hK0 => ?_)
  refine (hK0 _ _ _).mpr ?_
  refine lv_iconst (v := 0) hx hb dX8_copy_0 zk_iconst_0 ?_
  refine lv_istore (lv' := [(5, .int 0), (0, .ref a1), (1, .int a2), (2, .ref a3), (3, .int a4), (4, .int a5)]) hx hb dX8_copy_1 hl (by decide) rfl (fun ls hl => ?_)
  have J3 : ∀ (n : Nat) (j3l5 : Int32) (j3a3_a : Nat → Int32) (H : Heap) (locs : List Loc) (ls : Array Slot), (24 : Int) - j3l5.toInt ≤ (n : Int) → (0 : Int) ≤ j3l5.toInt → j3l5.toInt ≤ (23 : Int) → (j3a3_a = va_cpy fa1 fa3 a2.toNatClampNeg a4.toNatClampNeg j3l5.toNatClampNeg) → va_P (dC, dI) vwCl [(a1, .inl (ka1, 69, .inl (fa1))), (a3, .inl (ka3, 23, .inl (j3a3_a)))] H → va_D A [(a1, .inl (ka1, 69, .inl (fa1))), (a3, .inl (ka3, 23, .inl (j3a3_a)))] → va_S A s.heap H locs → lv_has ls 6 [(0, .ref a1), (1, .int a2), (2, .ref a3), (3, .int a4), (4, .int a5), (5, .int j3l5)] → K H locs (F0 m 3 ls []) := by
    intro n
    induction n with
    | zero =>
      intro j3l5 j3a3_a H locs ls hm bj3l5_l bj3l5_u cpy3 hP hD hS hl
      first | exact zg_0 hm bj3l5_u (by decide) | (have h8 := ai_min j3l5; have h9 := ai_max j3l5; exact absurd hm (by omega))
    | succ n ih3 =>
      intro j3l5 j3a3_a H locs ls hm bj3l5_l bj3l5_u cpy3 hP hD hS hl
      refine (hK0 _ _ _).mpr ?_
      have hm3 := hm
      refine lv_iload hx hb dX8_copy_3 (lv_at hl 5 rfl) ?_
      refine lv_iload hx hb dX8_copy_5 (lv_at hl 4 rfl) ?_
      refine lv_icmp_ge (tgt := 28) hx hb dX8_copy_7 (by decide) (fun c7 => ?_) (fun c7 => ?_)
      · have gc7 := ai_le c7
        have u7t_a5 : a5.toInt ≤ (23 : Int) := ba5_u
        have l7t_j3l5 : (23 : Int) ≤ j3l5.toInt := Int.le_trans ba5_l gc7
        exact W.vret hx hb hr (fun t ht hW => ⟨⟨(), rfl, trivial, j3a3_a, (cpy3.trans (congrArg (va_cpy fa1 fa3 a2.toNatClampNeg a4.toNatClampNeg) (cp_e (n := 23) (by omega)))), by rw [ht]; exact hP, va_K.moved hW.alike hK, hD⟩, hS.F ht⟩) hS.2.2 dX8_copy_28
      · have gc7 := ai_nle c7
        have u7f_j3l5 : j3l5.toInt ≤ (22 : Int) := ai_lthi gc7 ba5_u
        have l7f_a5 : (23 : Int) ≤ a5.toInt := ba5_l
        refine lv_aload_n hx hb dX8_copy_10 rfl (lv_at hl 2 rfl) ?_
        refine lv_iload_n hx hb dX8_copy_11 rfl (lv_at hl 3 rfl) ?_
        refine lv_iload hx hb dX8_copy_12 (lv_at hl 5 rfl) ?_
        refine lv_iadd hx hb dX8_copy_14 ?_
        refine lv_topi (fun x14 ex14 => ?_)
        have qx14 : x14.toInt = a4.toInt + j3l5.toInt := ai_add ex14 ⟨ba4_l, ba4_u⟩ ⟨bj3l5_l, u7f_j3l5⟩ (by decide) (by decide)
        have bx14 : (0 : Int) ≤ x14.toInt ∧ x14.toInt ≤ 22 := ⟨by rw [qx14]; exact Int.add_le_add ba4_l bj3l5_l, by rw [qx14]; exact Int.add_le_add ba4_u u7f_j3l5⟩
        refine lv_aload_n hx hb dX8_copy_15 rfl (lv_at hl 0 rfl) ?_
        refine lv_iload_n hx hb dX8_copy_16 rfl (lv_at hl 1 rfl) ?_
        refine lv_iload hx hb dX8_copy_17 (lv_at hl 5 rfl) ?_
        refine lv_iadd hx hb dX8_copy_19 ?_
        refine lv_topi (fun x19 ex19 => ?_)
        have qx19 : x19.toInt = a2.toInt + j3l5.toInt := ai_add ex19 ⟨ba2_l, ba2_u⟩ ⟨bj3l5_l, u7f_j3l5⟩ (by decide) (by decide)
        have bx19 : (0 : Int) ≤ x19.toInt ∧ x19.toInt ≤ 68 := ⟨by rw [qx19]; exact Int.add_le_add ba2_l bj3l5_l, by rw [qx19]; exact Int.add_le_add ba2_u u7f_j3l5⟩
        refine va_iald hx hb hK hP 0 0 rfl rfl (ai_in bx19.1 bx19.2 (by decide) (by decide)) dX8_copy_20 ?_
        refine lv_topi (fun x20 ex20 => ?_)
        refine va_iast hx hb hK hP hD hS 1 1 rfl rfl (ai_in bx14.1 bx14.2 (by decide) (by decide)) dX8_copy_21 (fun H locs hP hD hS => ?_)
        obtain ⟨f21, ef21, hP, hD⟩ : ∃ g9 : Nat → Int32, g9 = upd j3a3_a (x14 : Int32).toNatClampNeg x20 ∧ va_P (dC, dI) vwCl [(a1, .inl (ka1, 69, .inl (fa1))), (a3, .inl (ka3, 23, .inl (g9)))] H ∧ va_D A [(a1, .inl (ka1, 69, .inl (fa1))), (a3, .inl (ka3, 23, .inl (g9)))] := ⟨_, rfl, hP, hD⟩
        obtain ⟨x22, ex22⟩ : ∃ y : Int32, y = j3l5 + Int32.ofInt 1 := ⟨_, rfl⟩
        have qx22 : x22.toInt = j3l5.toInt + 1 := ai_inc ex22 (by decide) (by decide) u7f_j3l5 (by decide)
        have bx22 : (1 : Int) ≤ x22.toInt ∧ x22.toInt ≤ 23 := ⟨by rw [qx22]; exact Int.add_le_add bj3l5_l (Int.le_refl _), by rw [qx22]; exact Int.add_le_add u7f_j3l5 (Int.le_refl _)⟩
        refine lv_iinc (v := x22) (lv' := [(5, .int x22), (0, .ref a1), (1, .int a2), (2, .ref a3), (3, .int a4), (4, .int a5)]) hx hb dX8_copy_22 hl (k := 5) rfl ex22.symm (by decide) rfl (fun ls hl => ?_)
        refine lv_goto (tgt := 3) hx hb dX8_copy_25 (by decide) ?_
        exact (hK0 _ _ _).mp (ih3 x22 f21 _ _ _ (by first | exact zg_s hm3 qx22 | (have h0 := qx22; omega)) (Int.le_trans zq4 bx22.1) bx22.2 (cp_s cpy3 ef21 ex20 (cp_i qx14 ba4_l bj3l5_l) (cp_i qx19 ba2_l bj3l5_l) (cp_k qx22 bj3l5_l)) hP hD hS (lv_sub hl [1, 2, 3, 4, 5, 0] rfl))
  exact (hK0 _ _ _).mp (J3 24 0 fa3 _ _ _ (by first | decide +kernel | (have h1 : (0 : Int) ≤ (0 : Int32).toInt := zq5; have h2 : (0 : Int32).toInt ≤ (0 : Int) := zq6; omega)) zq5 (Int.le_trans zq6 zq166) (cp_0 (by decide)) hP hD hS (lv_sub hl [1, 2, 3, 4, 5, 0] rfl))

set_option maxHeartbeats 4000000 in
set_option maxRecDepth 100000 in
theorem c_X8_copy_156_156 (l : Launch) (dC : Nat → ClassId) (dI : Nat → Nat → Nat) (sz : Nat) (a1 : Nat) (a2 : Int32) (a3 : Nat) (a4 : Int32) (a5 : Int32) (ka1 : ClassId) (fa1 : Nat → Int32) (ka3 : ClassId) (fa3 : Nat → Int32) (ba2_l : (0 : Int) ≤ a2.toInt) (ba2_u : a2.toInt ≤ (0 : Int)) (ba4_l : (0 : Int) ≤ a4.toInt) (ba4_u : a4.toInt ≤ (0 : Int)) (ba5_l : (156 : Int) ≤ a5.toInt) (ba5_u : a5.toInt ≤ (156 : Int)) : zm l yX8_copy wsX8_copy ({ frames := 0, cells := 0, slots := 0, locals := 0 }) [.ref a1, .int a2, .ref a3, .int a4, .int a5] dC dI sz [(a1, .inl (ka1, 156, .inl (fa1))), (a3, .inl (ka3, 156, .inl (fa3)))] [(ka1, .int), (ka3, .int)] (fun A _ => True) (fun A => va_Qv (fun (_ : Unit) => True) (fun (_ : Unit) (t : State) => ∃ nfa3 : Nat → Int32, nfa3 = va_cpy fa1 fa3 a2.toNatClampNeg a4.toNatClampNeg 156 ∧ ax_B dC dI A [(a1, .inl (ka1, 156, .inl (fa1))), (a3, .inl (ka3, 156, .inl (nfa3)))] [(ka1, .int), (ka3, .int)] t) A) := by
  refine zh (cc := cX8_copy) (maxL := 6) (ret := none) zn_RX8 rfl (Nat.le_of_ble_eq_true rfl) (fun p e s m below meth c A ls hx hb hml hr hts (hown : s.vm.findClass RX8 = some m.cls) hlocks hA hS hP hK hD hE (hl : lv_has ls 6 [(0, .ref a1), (1, .int a2), (2, .ref a3), (3, .int a4), (4, .int a5)]) => ?_)
  refine ai_open (fun K hK0 => ?_)
  refine (hK0 _ _ _).mpr ?_
  refine lv_iconst (v := 0) hx hb dX8_copy_0 zk_iconst_0 ?_
  refine lv_istore (lv' := [(5, .int 0), (0, .ref a1), (1, .int a2), (2, .ref a3), (3, .int a4), (4, .int a5)]) hx hb dX8_copy_1 hl (by decide) rfl (fun ls hl => ?_)
  have J3 : ∀ (n : Nat) (j3l5 : Int32) (j3a3_a : Nat → Int32) (H : Heap) (locs : List Loc) (ls : Array Slot), (157 : Int) - j3l5.toInt ≤ (n : Int) → (0 : Int) ≤ j3l5.toInt → j3l5.toInt ≤ (156 : Int) → (j3a3_a = va_cpy fa1 fa3 a2.toNatClampNeg a4.toNatClampNeg j3l5.toNatClampNeg) → va_P (dC, dI) vwCl [(a1, .inl (ka1, 156, .inl (fa1))), (a3, .inl (ka3, 156, .inl (j3a3_a)))] H → va_D A [(a1, .inl (ka1, 156, .inl (fa1))), (a3, .inl (ka3, 156, .inl (j3a3_a)))] → va_S A s.heap H locs → lv_has ls 6 [(0, .ref a1), (1, .int a2), (2, .ref a3), (3, .int a4), (4, .int a5), (5, .int j3l5)] → K H locs (F0 m 3 ls []) := by
    intro n
    induction n with
    | zero =>
      intro j3l5 j3a3_a H locs ls hm bj3l5_l bj3l5_u cpy3 hP hD hS hl
      first | exact zg_0 hm bj3l5_u (by decide) | (have h8 := ai_min j3l5; have h9 := ai_max j3l5; exact absurd hm (by omega))
    | succ n ih3 =>
      intro j3l5 j3a3_a H locs ls hm bj3l5_l bj3l5_u cpy3 hP hD hS hl
      refine (hK0 _ _ _).mpr ?_
      have hm3 := hm
      refine lv_iload hx hb dX8_copy_3 (lv_at hl 5 rfl) ?_
      refine lv_iload hx hb dX8_copy_5 (lv_at hl 4 rfl) ?_
      refine lv_icmp_ge (tgt := 28) hx hb dX8_copy_7 (by decide) (fun c7 => ?_) (fun c7 => ?_)
      · have gc7 := ai_le c7
        have u7t_a5 : a5.toInt ≤ (156 : Int) := ba5_u
        have l7t_j3l5 : (156 : Int) ≤ j3l5.toInt := Int.le_trans ba5_l gc7
        exact W.vret hx hb hr (fun t ht hW => ⟨⟨(), rfl, trivial, j3a3_a, (cpy3.trans (congrArg (va_cpy fa1 fa3 a2.toNatClampNeg a4.toNatClampNeg) (cp_e (n := 156) (by omega)))), by rw [ht]; exact hP, va_K.moved hW.alike hK, hD⟩, hS.F ht⟩) hS.2.2 dX8_copy_28
      · have gc7 := ai_nle c7
        have u7f_j3l5 : j3l5.toInt ≤ (155 : Int) := ai_lthi gc7 ba5_u
        have l7f_a5 : (156 : Int) ≤ a5.toInt := ba5_l
        refine lv_aload_n hx hb dX8_copy_10 rfl (lv_at hl 2 rfl) ?_
        refine lv_iload_n hx hb dX8_copy_11 rfl (lv_at hl 3 rfl) ?_
        refine lv_iload hx hb dX8_copy_12 (lv_at hl 5 rfl) ?_
        refine lv_iadd hx hb dX8_copy_14 ?_
        refine lv_topi (fun x14 ex14 => ?_)
        have qx14 : x14.toInt = a4.toInt + j3l5.toInt := ai_add ex14 ⟨ba4_l, ba4_u⟩ ⟨bj3l5_l, u7f_j3l5⟩ (by decide) (by decide)
        have bx14 : (0 : Int) ≤ x14.toInt ∧ x14.toInt ≤ 155 := ⟨by rw [qx14]; exact Int.add_le_add ba4_l bj3l5_l, by rw [qx14]; exact Int.add_le_add ba4_u u7f_j3l5⟩
        refine lv_aload_n hx hb dX8_copy_15 rfl (lv_at hl 0 rfl) ?_
        refine lv_iload_n hx hb dX8_copy_16 rfl (lv_at hl 1 rfl) ?_
        refine lv_iload hx hb dX8_copy_17 (lv_at hl 5 rfl) ?_
        refine lv_iadd hx hb dX8_copy_19 ?_
        refine lv_topi (fun x19 ex19 => ?_)
        have qx19 : x19.toInt = a2.toInt + j3l5.toInt := ai_add ex19 ⟨ba2_l, ba2_u⟩ ⟨bj3l5_l, u7f_j3l5⟩ (by decide) (by decide)
        have bx19 : (0 : Int) ≤ x19.toInt ∧ x19.toInt ≤ 155 := ⟨by rw [qx19]; exact Int.add_le_add ba2_l bj3l5_l, by rw [qx19]; exact Int.add_le_add ba2_u u7f_j3l5⟩
        refine va_iald hx hb hK hP 0 0 rfl rfl (ai_in bx19.1 bx19.2 (by decide) (by decide)) dX8_copy_20 ?_
        refine lv_topi (fun x20 ex20 => ?_)
        refine va_iast hx hb hK hP hD hS 1 1 rfl rfl (ai_in bx14.1 bx14.2 (by decide) (by decide)) dX8_copy_21 (fun H locs hP hD hS => ?_)
        obtain ⟨f21, ef21, hP, hD⟩ : ∃ g9 : Nat → Int32, g9 = upd j3a3_a (x14 : Int32).toNatClampNeg x20 ∧ va_P (dC, dI) vwCl [(a1, .inl (ka1, 156, .inl (fa1))), (a3, .inl (ka3, 156, .inl (g9)))] H ∧ va_D A [(a1, .inl (ka1, 156, .inl (fa1))), (a3, .inl (ka3, 156, .inl (g9)))] := ⟨_, rfl, hP, hD⟩
        obtain ⟨x22, ex22⟩ : ∃ y : Int32, y = j3l5 + Int32.ofInt 1 := ⟨_, rfl⟩
        have qx22 : x22.toInt = j3l5.toInt + 1 := ai_inc ex22 (by decide) (by decide) u7f_j3l5 (by decide)
        have bx22 : (1 : Int) ≤ x22.toInt ∧ x22.toInt ≤ 156 := ⟨by rw [qx22]; exact Int.add_le_add bj3l5_l (Int.le_refl _), by rw [qx22]; exact Int.add_le_add u7f_j3l5 (Int.le_refl _)⟩
        refine lv_iinc (v := x22) (lv' := [(5, .int x22), (0, .ref a1), (1, .int a2), (2, .ref a3), (3, .int a4), (4, .int a5)]) hx hb dX8_copy_22 hl (k := 5) rfl ex22.symm (by decide) rfl (fun ls hl => ?_)
        refine lv_goto (tgt := 3) hx hb dX8_copy_25 (by decide) ?_
        exact (hK0 _ _ _).mp (ih3 x22 f21 _ _ _ (by first | exact zg_s hm3 qx22 | (have h0 := qx22; omega)) (Int.le_trans zq4 bx22.1) bx22.2 (cp_s cpy3 ef21 ex20 (cp_i qx14 ba4_l bj3l5_l) (cp_i qx19 ba2_l bj3l5_l) (cp_k qx22 bj3l5_l)) hP hD hS (lv_sub hl [1, 2, 3, 4, 5, 0] rfl))
  exact (hK0 _ _ _).mp (J3 157 0 fa3 _ _ _ (by first | decide +kernel | (have h1 : (0 : Int) ≤ (0 : Int32).toInt := zq5; have h2 : (0 : Int32).toInt ≤ (0 : Int) := zq6; omega)) zq5 (Int.le_trans zq6 zq169) (cp_0 (by decide)) hP hD hS (lv_sub hl [1, 2, 3, 4, 5, 0] rfl))
end P230_00_safe
section P232_00_safe
set_option maxHeartbeats 4000000 in
set_option maxRecDepth 100000 in
theorem c_X8_goRound (l : Launch) (dC : Nat → ClassId) (dI : Nat → Nat → Nat) (sz : Nat) (a0 : Nat) (a0g_0 a0g_1 a0g_2 a0g_3 a0g_4 a0g_5 a0g_6 a0g_7 a0g_8 a0g_9 a0g_10 a0g_11 a0g_12 a0g_13 a0g_14 a0g_16 a0g_18 a0g_19 a0g_20 a0g_21 a0g_22 a0g_23 a0g_24 a0g_25 a0g_26 a0g_27 a0g_28 a0g_32 a0g_33 a0g_34 a0g_35 a0g_36 a0g_37 a0g_38 a0g_39 : Value) (a0_15 : Nat) (a0_17 : Nat) (a0_29 : Nat) (a0_30 : Int32) (a0_31 : Int32) (ka0_17 : ClassId) (fa0_17 : Nat → Int32) (ka0_29 : ClassId) (fa0_29 : Nat → Int32) (ka0_15 : ClassId) (fa0_15 : Nat → Int32) (bfa0_17 : ((∀ k : Nat, 0 ≤ k → k ≤ 8 → (0 : Int) ≤ (fa0_17 k).toInt ∧ (fa0_17 k).toInt ≤ 8) ∧ (∀ k : Nat, 19 ≤ k → k ≤ 19 → (0 : Int) ≤ (fa0_17 k).toInt ∧ (fa0_17 k).toInt ≤ 8) ∧ (∀ k : Nat, 20 ≤ k → k ≤ 20 → (0 : Int) ≤ (fa0_17 k).toInt ∧ (fa0_17 k).toInt ≤ 19))) (bfa0_29 : (∀ k, (0 : Int) ≤ (fa0_29 k).toInt ∧ (fa0_29 k).toInt ≤ 8)) (bfa0_15 : ((∀ k : Nat, 0 ≤ k → k ≤ 0 → (2 : Int) ≤ (fa0_15 k).toInt ∧ (fa0_15 k).toInt ≤ 9) ∧ (∀ k : Nat, 1 ≤ k → k ≤ 1 → (1 : Int) ≤ (fa0_15 k).toInt ∧ (fa0_15 k).toInt ≤ 20) ∧ (∀ k : Nat, 2 ≤ k → k ≤ 2 → (0 : Int) ≤ (fa0_15 k).toInt ∧ (fa0_15 k).toInt ≤ 8) ∧ (∀ k : Nat, 3 ≤ k → k ≤ 3 → (0 : Int) ≤ (fa0_15 k).toInt ∧ (fa0_15 k).toInt ≤ 100) ∧ (∀ k : Nat, 4 ≤ k → k ≤ 4 → (0 : Int) ≤ (fa0_15 k).toInt ∧ (fa0_15 k).toInt ≤ 9) ∧ (∀ k : Nat, 5 ≤ k → k ≤ 5 → (0 : Int) ≤ (fa0_15 k).toInt ∧ (fa0_15 k).toInt ≤ 3) ∧ (∀ k : Nat, 6 ≤ k → k ≤ 6 → (0 : Int) ≤ (fa0_15 k).toInt ∧ (fa0_15 k).toInt ≤ 6) ∧ (∀ k : Nat, 7 ≤ k → k ≤ 9 → (0 : Int) ≤ (fa0_15 k).toInt ∧ (fa0_15 k).toInt ≤ 8) ∧ (∀ k : Nat, 12 ≤ k → k ≤ 29 → (0 : Int) ≤ (fa0_15 k).toInt ∧ (fa0_15 k).toInt ≤ 20) ∧ (∀ k : Nat, 30 ≤ k → k ≤ 35 → (0 : Int) ≤ (fa0_15 k).toInt ∧ (fa0_15 k).toInt ≤ 8) ∧ (∀ k : Nat, 36 ≤ k → k ≤ 47 → (0 : Int) ≤ (fa0_15 k).toInt ∧ (fa0_15 k).toInt ≤ 999))) : zm l yX8_goRound wsX8_goRound ({ frames := 1, cells := 0, slots := 0, locals := 21 }) [.ref a0] dC dI sz [(a0, .inr (8, [a0g_0, a0g_1, a0g_2, a0g_3, a0g_4, a0g_5, a0g_6, a0g_7, a0g_8, a0g_9, a0g_10, a0g_11, a0g_12, a0g_13, a0g_14, Value.ref a0_15, a0g_16, Value.ref a0_17, a0g_18, a0g_19, a0g_20, a0g_21, a0g_22, a0g_23, a0g_24, a0g_25, a0g_26, a0g_27, a0g_28, Value.ref a0_29, Value.int a0_30, Value.int a0_31, a0g_32, a0g_33, a0g_34, a0g_35, a0g_36, a0g_37, a0g_38, a0g_39])), (a0_17, .inl (ka0_17, 23, .inl (fa0_17))), (a0_29, .inl (ka0_29, 10, .inl (fa0_29))), (a0_15, .inl (ka0_15, 156, .inl (fa0_15)))] [(ka0_17, .int), (ka0_29, .int), (ka0_15, .int)] (fun A _ => True) (fun A => va_Qv (fun (_ : Unit) => True) (fun (_ : Unit) (t : State) => ∃ na0_30 : Int32, ∃ na0_31 : Int32, ∃ nfa0_29 : Nat → Int32, (∀ k, (0 : Int) ≤ (nfa0_29 k).toInt ∧ (nfa0_29 k).toInt ≤ 8) ∧ ((0 : Int) ≤ na0_30.toInt ∧ (1 : Int) ≤ na0_31.toInt ∧ na0_30.toInt + na0_31.toInt ≤ 9) ∧ ax_B dC dI A [(a0, .inr (8, [a0g_0, a0g_1, a0g_2, a0g_3, a0g_4, a0g_5, a0g_6, a0g_7, a0g_8, a0g_9, a0g_10, a0g_11, a0g_12, a0g_13, a0g_14, Value.ref a0_15, a0g_16, Value.ref a0_17, a0g_18, a0g_19, a0g_20, a0g_21, a0g_22, a0g_23, a0g_24, a0g_25, a0g_26, a0g_27, a0g_28, Value.ref a0_29, Value.int na0_30, Value.int na0_31, a0g_32, a0g_33, a0g_34, a0g_35, a0g_36, a0g_37, a0g_38, a0g_39])), (a0_17, .inl (ka0_17, 23, .inl (fa0_17))), (a0_29, .inl (ka0_29, 10, .inl (nfa0_29))), (a0_15, .inl (ka0_15, 156, .inl (fa0_15)))] [(ka0_17, .int), (ka0_29, .int), (ka0_15, .int)] t) A) := by
  refine zh (cc := cX8_goRound) (maxL := 4) (ret := none) zn_RX8 rfl (Nat.le_of_ble_eq_true rfl) (fun p e s m below meth c A ls hx hb hml hr hts (hown : s.vm.findClass RX8 = some m.cls) hlocks hA hS hP hK hD hE (hl : lv_has ls 4 [(0, .ref a0)]) => ?_)
  refine ai_open (fun K hK0 => ?_)
  refine (hK0 _ _ _).mpr ?_
  refine lv_iconst (v := 0) hx hb dX8_goRound_0 zk_iconst_0 ?_
  refine lv_istore_n (lv' := [(1, .int 0), (0, .ref a0)]) hx hb dX8_goRound_1 rfl hl (by decide) rfl (fun ls hl => ?_)
  refine lv_aload_n hx hb dX8_goRound_2 rfl (lv_at hl 1 rfl) ?_
  refine va_get (D := (dC, dI)) (ci := 8) (v := .ref a0_17) (C := RX8) (T := TX8) (N := 40) hx hb hts zi_X8_goRound_8 hown hK hP 0 rfl rfl 17 (by decide) (hts (.fieldLink RX8 26 "WaxTurnsModel" "st" "[I") (List.mem_cons_of_mem _ (List.mem_append_left _ (List.mem_of_getElem? (i := 0) rfl)))) (fun _ h9 => h9) rfl dX8_goRound_3 ?_
  refine lv_bipush (v := 19) hx hb dX8_goRound_6 zk_bipush_19 ?_
  refine va_iald hx hb hK hP 1 0 rfl rfl (by unfold vp_in; decide +kernel) dX8_goRound_8 ?_
  refine lv_topi (fun x8 ex8 => ?_)
  have bx8 : (0 : Int) ≤ x8.toInt ∧ x8.toInt ≤ 8 := by rw [ex8]; exact ai_rd bfa0_17.2.1 zq162 zq163 (by decide) (by decide) (by decide)
  refine lv_istore_n (lv' := [(2, .int x8), (1, .int 0), (0, .ref a0)]) hx hb dX8_goRound_9 rfl hl (by decide) rfl (fun ls hl => ?_)
  refine lv_aload_n hx hb dX8_goRound_10 rfl (lv_at hl 2 rfl) ?_
  refine lv_iconst (v := (-1)) hx hb dX8_goRound_11 zk_iconst_n1 ?_
  refine va_put (D := (dC, dI)) (ci := 8) (v := .int (-1)) (ty := .int) (C := RX8) (T := TX8) (N := 40) hx hb hts zi_X8_goRound_8 tyX8 tyX8_ok nmX8 hown hK hP hD hS 0 rfl rfl 30 (by decide) (hts (.fieldLink RX8 283 "WaxTurnsModel" "settled" "I") (List.mem_cons_of_mem _ (List.mem_append_left _ (List.mem_of_getElem? (i := 1) rfl)))) (fun _ h9 => h9) rfl (tyX8_ok 30 (by decide)) rfl rfl (Nat.le_of_ble_eq_true rfl) dX8_goRound_12 (fun H locs hP hD hS => ?_)
  refine zs_0 (y := (a0, .inr (8, [a0g_0, a0g_1, a0g_2, a0g_3, a0g_4, a0g_5, a0g_6, a0g_7, a0g_8, a0g_9, a0g_10, a0g_11, a0g_12, a0g_13, a0g_14, Value.ref a0_15, a0g_16, Value.ref a0_17, a0g_18, a0g_19, a0g_20, a0g_21, a0g_22, a0g_23, a0g_24, a0g_25, a0g_26, a0g_27, a0g_28, Value.ref a0_29, Value.int (-1), Value.int a0_31, a0g_32, a0g_33, a0g_34, a0g_35, a0g_36, a0g_37, a0g_38, a0g_39]))) hP hD rfl (fun hP hD => ?_)
  have J15 : ∀ (n : Nat) (j15l2 : Int32) (j15l1 : Int32) (j15a0_30 : Int32) (j15a0_29_a : Nat → Int32) (H : Heap) (locs : List Loc) (ls : Array Slot), (13 : Int) - j15l1.toInt ≤ (n : Int) → (0 : Int) ≤ j15l2.toInt → j15l2.toInt ≤ (8 : Int) → (0 : Int) ≤ j15l1.toInt → j15l1.toInt ≤ (12 : Int) → (∀ k, (0 : Int) ≤ (j15a0_29_a k).toInt ∧ (j15a0_29_a k).toInt ≤ 8) → (gr_D j15a0_29_a j15l1.toNatClampNeg) → (j15a0_30.toInt = -1) → va_P (dC, dI) vwCl [(a0, .inr (8, [a0g_0, a0g_1, a0g_2, a0g_3, a0g_4, a0g_5, a0g_6, a0g_7, a0g_8, a0g_9, a0g_10, a0g_11, a0g_12, a0g_13, a0g_14, Value.ref a0_15, a0g_16, Value.ref a0_17, a0g_18, a0g_19, a0g_20, a0g_21, a0g_22, a0g_23, a0g_24, a0g_25, a0g_26, a0g_27, a0g_28, Value.ref a0_29, Value.int j15a0_30, Value.int a0_31, a0g_32, a0g_33, a0g_34, a0g_35, a0g_36, a0g_37, a0g_38, a0g_39])), (a0_17, .inl (ka0_17, 23, .inl (fa0_17))), (a0_29, .inl (ka0_29, 10, .inl (j15a0_29_a))), (a0_15, .inl (ka0_15, 156, .inl (fa0_15)))] H → va_D A [(a0, .inr (8, [a0g_0, a0g_1, a0g_2, a0g_3, a0g_4, a0g_5, a0g_6, a0g_7, a0g_8, a0g_9, a0g_10, a0g_11, a0g_12, a0g_13, a0g_14, Value.ref a0_15, a0g_16, Value.ref a0_17, a0g_18, a0g_19, a0g_20, a0g_21, a0g_22, a0g_23, a0g_24, a0g_25, a0g_26, a0g_27, a0g_28, Value.ref a0_29, Value.int j15a0_30, Value.int a0_31, a0g_32, a0g_33, a0g_34, a0g_35, a0g_36, a0g_37, a0g_38, a0g_39])), (a0_17, .inl (ka0_17, 23, .inl (fa0_17))), (a0_29, .inl (ka0_29, 10, .inl (j15a0_29_a))), (a0_15, .inl (ka0_15, 156, .inl (fa0_15)))] → va_S A s.heap H locs → lv_has ls 4 [(0, .ref a0), (1, .int j15l1), (2, .int j15l2)] → K H locs (F0 m 15 ls []) := by
    intro n
    induction n with
    | zero =>
      intro j15l2 j15l1 j15a0_30 j15a0_29_a H locs ls hm bj15l2_l bj15l2_u bj15l1_l bj15l1_u bj15a0_29_a gr15 sm15 hP hD hS hl
      first | exact zg_0 hm bj15l1_u (by decide) | (have h8 := ai_min j15l1; have h9 := ai_max j15l1; exact absurd hm (by omega))
    | succ n ih15 =>
      intro j15l2 j15l1 j15a0_30 j15a0_29_a H locs ls hm bj15l2_l bj15l2_u bj15l1_l bj15l1_u bj15a0_29_a gr15 sm15 hP hD hS hl
      refine (hK0 _ _ _).mpr ?_
      have hm15 := hm
      refine lv_aload_n hx hb dX8_goRound_15 rfl (lv_at hl 0 rfl) ?_
      refine va_get (D := (dC, dI)) (ci := 8) (v := .int j15a0_30) (C := RX8) (T := TX8) (N := 40) hx hb hts zi_X8_goRound_8 hown hK hP 0 rfl rfl 30 (by decide) (hts (.fieldLink RX8 283 "WaxTurnsModel" "settled" "I") (List.mem_cons_of_mem _ (List.mem_append_left _ (List.mem_of_getElem? (i := 1) rfl)))) (fun _ h9 => h9) rfl dX8_goRound_16 ?_
      refine lv_if_ge (tgt := 79) hx hb dX8_goRound_19 (by decide) (fun c19 => ?_) (fun c19 => ?_)
      · have gc19 := ai_le c19
        have l19t_j15a0_30 : (0 : Int) ≤ j15a0_30.toInt := Int.le_trans zq5 gc19
        exact absurd (Int.le_trans l19t_j15a0_30 (Int.le_of_eq sm15)) (by decide)
      · have gc19 := ai_nle c19
        have u19f_j15a0_30 : j15a0_30.toInt ≤ (-1 : Int) := (Int.le_of_eq sm15)
        refine lv_iconst (v := 0) hx hb dX8_goRound_22 zk_iconst_0 ?_
        have u22z_j15l1 : j15l1.toInt ≤ (9 : Int) := gr_i gr15
        refine lv_istore_n (lv' := [(3, .int 0), (0, .ref a0), (1, .int j15l1), (2, .int j15l2)]) hx hb dX8_goRound_23 rfl hl (by decide) rfl (fun ls hl => ?_)
        have J24 : ∀ (n : Nat) (j24l3 : Int32) (j24a0_30 : Int32) (H : Heap) (locs : List Loc) (ls : Array Slot), (10 : Int) - j24l3.toInt ≤ (n : Int) → (0 : Int) ≤ j24l3.toInt → j24l3.toInt ≤ (9 : Int) → (gr_K j15a0_29_a j24a0_30 j24l3 j15l2 j15l1) → va_P (dC, dI) vwCl [(a0, .inr (8, [a0g_0, a0g_1, a0g_2, a0g_3, a0g_4, a0g_5, a0g_6, a0g_7, a0g_8, a0g_9, a0g_10, a0g_11, a0g_12, a0g_13, a0g_14, Value.ref a0_15, a0g_16, Value.ref a0_17, a0g_18, a0g_19, a0g_20, a0g_21, a0g_22, a0g_23, a0g_24, a0g_25, a0g_26, a0g_27, a0g_28, Value.ref a0_29, Value.int j24a0_30, Value.int a0_31, a0g_32, a0g_33, a0g_34, a0g_35, a0g_36, a0g_37, a0g_38, a0g_39])), (a0_17, .inl (ka0_17, 23, .inl (fa0_17))), (a0_29, .inl (ka0_29, 10, .inl (j15a0_29_a))), (a0_15, .inl (ka0_15, 156, .inl (fa0_15)))] H → va_D A [(a0, .inr (8, [a0g_0, a0g_1, a0g_2, a0g_3, a0g_4, a0g_5, a0g_6, a0g_7, a0g_8, a0g_9, a0g_10, a0g_11, a0g_12, a0g_13, a0g_14, Value.ref a0_15, a0g_16, Value.ref a0_17, a0g_18, a0g_19, a0g_20, a0g_21, a0g_22, a0g_23, a0g_24, a0g_25, a0g_26, a0g_27, a0g_28, Value.ref a0_29, Value.int j24a0_30, Value.int a0_31, a0g_32, a0g_33, a0g_34, a0g_35, a0g_36, a0g_37, a0g_38, a0g_39])), (a0_17, .inl (ka0_17, 23, .inl (fa0_17))), (a0_29, .inl (ka0_29, 10, .inl (j15a0_29_a))), (a0_15, .inl (ka0_15, 156, .inl (fa0_15)))] → va_S A s.heap H locs → lv_has ls 4 [(0, .ref a0), (1, .int j15l1), (2, .int j15l2), (3, .int j24l3)] → K H locs (F0 m 24 ls []) := by
          intro n
          induction n with
          | zero =>
            intro j24l3 j24a0_30 H locs ls hm bj24l3_l bj24l3_u sk24 hP hD hS hl
            first | exact zg_0 hm bj24l3_u (by decide) | (have h8 := ai_min j24l3; have h9 := ai_max j24l3; exact absurd hm (by omega))
          | succ n ih24 =>
            intro j24l3 j24a0_30 H locs ls hm bj24l3_l bj24l3_u sk24 hP hD hS hl
            refine (hK0 _ _ _).mpr ?_
            have hm24 := hm
            refine lv_iload_n hx hb dX8_goRound_24 rfl (lv_at hl 3 rfl) ?_
            refine lv_iload_n hx hb dX8_goRound_25 rfl (lv_at hl 1 rfl) ?_
            refine lv_icmp_ge (tgt := 50) hx hb dX8_goRound_26 (by decide) (fun c26 => ?_) (fun c26 => ?_)
            · have gc26 := ai_le c26
              have u26t_j15l1 : j15l1.toInt ≤ (9 : Int) := u22z_j15l1
              have l26t_j24l3 : (0 : Int) ≤ j24l3.toInt := bj24l3_l
              refine lv_aload_n hx hb dX8_goRound_50 rfl (lv_at hl 0 rfl) ?_
              refine va_get (D := (dC, dI)) (ci := 8) (v := .int j24a0_30) (C := RX8) (T := TX8) (N := 40) hx hb hts zi_X8_goRound_8 hown hK hP 0 rfl rfl 30 (by decide) (hts (.fieldLink RX8 283 "WaxTurnsModel" "settled" "I") (List.mem_cons_of_mem _ (List.mem_append_left _ (List.mem_of_getElem? (i := 1) rfl)))) (fun _ h9 => h9) rfl dX8_goRound_51 ?_
              refine lv_if_lt (tgt := 60) hx hb dX8_goRound_54 (by decide) (fun c54 => ?_) (fun c54 => ?_)
              · have gc54 := ai_lt c54
                have u54t_j24a0_30 : j24a0_30.toInt ≤ (-1 : Int) := ai_lthi gc54 zq6
                refine lv_aload_n hx hb dX8_goRound_60 rfl (lv_at hl 0 rfl) ?_
                have hne60 := gr_Kn sk24 (by omega) (by omega)
                have u60z_j15l1 : j15l1.toInt ≤ (9 : Int) := u26t_j15l1
                refine va_get (D := (dC, dI)) (ci := 8) (v := .ref a0_29) (C := RX8) (T := TX8) (N := 40) hx hb hts zi_X8_goRound_8 hown hK hP 0 rfl rfl 29 (by decide) (hts (.fieldLink RX8 44 "WaxTurnsModel" "row" "[I") (List.mem_cons_of_mem _ (List.mem_append_left _ (List.mem_of_getElem? (i := 2) rfl)))) (fun _ h9 => h9) rfl dX8_goRound_61 ?_
                refine lv_iload_n hx hb dX8_goRound_64 rfl (lv_at hl 1 rfl) ?_
                refine lv_iload_n hx hb dX8_goRound_65 rfl (lv_at hl 2 rfl) ?_
                refine va_iast hx hb hK hP hD hS 2 1 rfl rfl (ai_in bj15l1_l u60z_j15l1 (by decide) (by decide)) dX8_goRound_66 (fun H locs hP hD hS => ?_)
                obtain ⟨f66, ef66⟩ : ∃ g9 : Nat → Int32, g9 = upd j15a0_29_a (j15l1 : Int32).toNatClampNeg j15l2 := ⟨_, rfl⟩
                refine zs_2 (y := (a0_29, .inl (ka0_29, 10, .inl (f66)))) hP hD (by rw [ef66]) (fun hP hD => ?_)
                have bf66 : (∀ k, (0 : Int) ≤ (f66 k).toInt ∧ (f66 k).toInt ≤ 8) := by rw [ef66]; exact ai_upd bj15a0_29_a _ ⟨bj15l2_l, bj15l2_u⟩
                obtain ⟨x67, ex67⟩ : ∃ y : Int32, y = j15l1 + Int32.ofInt 1 := ⟨_, rfl⟩
                have qx67 : x67.toInt = j15l1.toInt + 1 := ai_inc ex67 (by decide) (by decide) u60z_j15l1 (by decide)
                have bx67 : (1 : Int) ≤ x67.toInt ∧ x67.toInt ≤ 10 := ⟨by rw [qx67]; exact Int.add_le_add bj15l1_l (Int.le_refl _), by rw [qx67]; exact Int.add_le_add u60z_j15l1 (Int.le_refl _)⟩
                refine lv_iinc (v := x67) (lv' := [(1, .int x67), (0, .ref a0), (2, .int j15l2), (3, .int j24l3)]) hx hb dX8_goRound_67 hl (k := 1) rfl ex67.symm (by decide) rfl (fun ls hl => ?_)
                refine lv_aload_n hx hb dX8_goRound_70 rfl (lv_at hl 1 rfl) ?_
                refine lv_iload_n hx hb dX8_goRound_71 rfl (lv_at hl 2 rfl) ?_
                refine zc_cutc (wc := [(a0, .inr (8, [a0g_0, a0g_1, a0g_2, a0g_3, a0g_4, a0g_5, a0g_6, a0g_7, a0g_8, a0g_9, a0g_10, a0g_11, a0g_12, a0g_13, a0g_14, Value.ref a0_15, a0g_16, Value.ref a0_17, a0g_18, a0g_19, a0g_20, a0g_21, a0g_22, a0g_23, a0g_24, a0g_25, a0g_26, a0g_27, a0g_28, Value.ref a0_29, Value.int j24a0_30, Value.int a0_31, a0g_32, a0g_33, a0g_34, a0g_35, a0g_36, a0g_37, a0g_38, a0g_39])), (a0_15, .inl (ka0_15, 156, .inl (fa0_15)))]) hP hD hS hA [0, 3] (by decide +kernel) rfl (fun hPc hDc hFc hCc => ?_)
                have hKc := hK.sub (tys' := [(ka0_15, .int)]) [2] rfl
                refine va_calli (va_runV (As := [.int j15l2]) (rest := []) ⟨hx, hb, hml, hown, hts⟩ (c_X8_nextOf l dC dI H.size a0 j15l2 a0g_0 a0g_1 a0g_2 a0g_3 a0g_4 a0g_5 a0g_6 a0g_7 a0g_8 a0g_9 a0g_10 a0g_11 a0g_12 a0g_13 a0g_14 a0g_16 (Value.ref a0_17) a0g_18 a0g_19 a0g_20 a0g_21 a0g_22 a0g_23 a0g_24 a0g_25 a0g_26 a0g_27 a0g_28 (Value.ref a0_29) (Value.int j24a0_30) (Value.int a0_31) a0g_32 a0g_33 a0g_34 a0g_35 a0g_36 a0g_37 a0g_38 a0g_39 a0_15 ka0_15 fa0_15 bj15l2_l bj15l2_u bfa0_15) (cwV 1 hts gX8_goRound_X8_nextOf rfl rfl rfl zd_X8_nextOf ⟨Nat.le_of_ble_eq_true rfl, Nat.le_of_ble_eq_true rfl⟩) ⟨ax_blind (fun _ _ _ _ _ => trivial), zr_8 hKc hPc (q0 := 0) rfl, ax_pre hPc hKc hDc (fun _ _ => trivial)⟩ rfl rfl hl.1 rfl (lv_room (Nat.le_of_ble_eq_true rfl)) dX8_goRound_72 ⟨Nat.le_of_ble_eq_true rfl, Nat.le_of_ble_eq_true rfl⟩) hS (fun q _ h => hFc q h) hFc (fun r72 u t H locs ht hvm hw hB hz1 hk1 hS1 => zo hB ht hS1 (fun hP1 hK1 hD1 hS => ?_))
                refine zc_backc (w := [(a0, .inr (8, [a0g_0, a0g_1, a0g_2, a0g_3, a0g_4, a0g_5, a0g_6, a0g_7, a0g_8, a0g_9, a0g_10, a0g_11, a0g_12, a0g_13, a0g_14, Value.ref a0_15, a0g_16, Value.ref a0_17, a0g_18, a0g_19, a0g_20, a0g_21, a0g_22, a0g_23, a0g_24, a0g_25, a0g_26, a0g_27, a0g_28, Value.ref a0_29, Value.int j24a0_30, Value.int a0_31, a0g_32, a0g_33, a0g_34, a0g_35, a0g_36, a0g_37, a0g_38, a0g_39])), (a0_17, .inl (ka0_17, 23, .inl (fa0_17))), (a0_29, .inl (ka0_29, 10, .inl (f66))), (a0_15, .inl (ka0_15, 156, .inl (fa0_15)))]) hP hD hCc hk1 hFc hP1 hD1 [.inr 0, .inl 1, .inl 2, .inr 1] (by decide +kernel) rfl (fun hP hD => ?_)
                have hw : (0 : Int) ≤ r72.toInt ∧ r72.toInt ≤ (8 : Int) := hw
                obtain ⟨h72_0, h72_1⟩ := hw
                refine lv_istore_n (lv' := [(2, .int r72), (1, .int x67), (0, .ref a0), (3, .int j24l3)]) hx hb dX8_goRound_75 rfl hl (by decide) rfl (fun ls hl => ?_)
                refine lv_goto (tgt := 15) hx hb dX8_goRound_76 (by decide) ?_
                exact (hK0 _ _ _).mp (ih15 r72 x67 j24a0_30 f66 _ _ _ (by first | exact zg_s hm15 qx67 | (have h0 := qx67; omega)) h72_0 h72_1 (Int.le_trans zq4 bx67.1) (Int.le_trans bx67.2 zq170) bf66 (gr_s gr15 hne60 ef66 bj15l2_l bj15l2_u qx67 bj15l1_l) (gr_Km sk24 (by omega)) hP hD hS (lv_sub hl [2, 1, 0] rfl))
              · have gc54 := ai_nlt c54
                have l54f_j24a0_30 : (0 : Int) ≤ j24a0_30.toInt := Int.le_trans zq5 gc54
                refine lv_goto (tgt := 15) hx hb dX8_goRound_57 (by decide) ?_
                have u57z_j15l1 : j15l1.toInt ≤ (9 : Int) := u26t_j15l1
                have hs57 := gr_Kp sk24 (by omega)
                have l57z_j24a0_30 : (0 : Int) ≤ j24a0_30.toInt := l54f_j24a0_30
                have u57z_j24a0_30 : j24a0_30.toInt ≤ (8 : Int) := by omega
                refine lv_aload_n hx hb dX8_goRound_15 rfl (lv_at hl 0 rfl) ?_
                refine va_get (D := (dC, dI)) (ci := 8) (v := .int j24a0_30) (C := RX8) (T := TX8) (N := 40) hx hb hts zi_X8_goRound_8 hown hK hP 0 rfl rfl 30 (by decide) (hts (.fieldLink RX8 283 "WaxTurnsModel" "settled" "I") (List.mem_cons_of_mem _ (List.mem_append_left _ (List.mem_of_getElem? (i := 1) rfl)))) (fun _ h9 => h9) rfl dX8_goRound_16 ?_
                refine lv_if_ge (tgt := 79) hx hb dX8_goRound_19 (by decide) (fun c19 => ?_) (fun c19 => ?_)
                · have gc19 := ai_le c19
                  have l19t_j24a0_30 : (0 : Int) ≤ j24a0_30.toInt := l57z_j24a0_30
                  refine lv_aload_n hx hb dX8_goRound_79 rfl (lv_at hl 0 rfl) ?_
                  refine lv_iload_n hx hb dX8_goRound_80 rfl (lv_at hl 1 rfl) ?_
                  refine lv_aload_n hx hb dX8_goRound_81 rfl (lv_at hl 0 rfl) ?_
                  refine va_get (D := (dC, dI)) (ci := 8) (v := .int j24a0_30) (C := RX8) (T := TX8) (N := 40) hx hb hts zi_X8_goRound_8 hown hK hP 0 rfl rfl 30 (by decide) (hts (.fieldLink RX8 283 "WaxTurnsModel" "settled" "I") (List.mem_cons_of_mem _ (List.mem_append_left _ (List.mem_of_getElem? (i := 1) rfl)))) (fun _ h9 => h9) rfl dX8_goRound_82 ?_
                  refine lv_isub hx hb dX8_goRound_85 ?_
                  refine lv_topi (fun x85 ex85 => ?_)
                  have qx85 : x85.toInt = j15l1.toInt - j24a0_30.toInt := ai_sub ex85 ⟨bj15l1_l, u57z_j15l1⟩ ⟨l19t_j24a0_30, u57z_j24a0_30⟩ (by decide) (by decide)
                  have bx85 : (-8 : Int) ≤ x85.toInt ∧ x85.toInt ≤ 9 := ⟨by rw [qx85]; exact Int.sub_le_sub bj15l1_l u57z_j24a0_30, by rw [qx85]; exact Int.sub_le_sub u57z_j15l1 l19t_j24a0_30⟩
                  refine va_put (D := (dC, dI)) (ci := 8) (v := .int x85) (ty := .int) (C := RX8) (T := TX8) (N := 40) hx hb hts zi_X8_goRound_8 tyX8 tyX8_ok nmX8 hown hK hP hD hS 0 rfl rfl 31 (by decide) (hts (.fieldLink RX8 286 "WaxTurnsModel" "again" "I") (List.mem_cons_of_mem _ (List.mem_append_left _ (List.mem_of_getElem? (i := 3) rfl)))) (fun _ h9 => h9) rfl (tyX8_ok 31 (by decide)) rfl rfl (Nat.le_of_ble_eq_true rfl) dX8_goRound_86 (fun H locs hP hD hS => ?_)
                  refine zs_0 (y := (a0, .inr (8, [a0g_0, a0g_1, a0g_2, a0g_3, a0g_4, a0g_5, a0g_6, a0g_7, a0g_8, a0g_9, a0g_10, a0g_11, a0g_12, a0g_13, a0g_14, Value.ref a0_15, a0g_16, Value.ref a0_17, a0g_18, a0g_19, a0g_20, a0g_21, a0g_22, a0g_23, a0g_24, a0g_25, a0g_26, a0g_27, a0g_28, Value.ref a0_29, Value.int j24a0_30, Value.int x85, a0g_32, a0g_33, a0g_34, a0g_35, a0g_36, a0g_37, a0g_38, a0g_39]))) hP hD rfl (fun hP hD => ?_)
                  exact W.vret hx hb hr (fun t ht hW => ⟨⟨(), rfl, trivial, j24a0_30, x85, j15a0_29_a, bj15a0_29_a, ⟨by omega, by omega, by omega⟩, by rw [ht]; exact hP, va_K.moved hW.alike hK, hD⟩, hS.F ht⟩) hS.2.2 dX8_goRound_89
                · have gc19 := ai_nle c19
                  have u19f_j24a0_30 : j24a0_30.toInt ≤ (-1 : Int) := ai_lthi gc19 zq6
                  exact absurd (Int.le_trans l57z_j24a0_30 u19f_j24a0_30) (by decide)
            · have gc26 := ai_nle c26
              have u26f_j24l3 : j24l3.toInt ≤ (8 : Int) := ai_lthi gc26 u22z_j15l1
              have l26f_j15l1 : (1 : Int) ≤ j15l1.toInt := ai_ltlo gc26 bj24l3_l
              refine lv_aload_n hx hb dX8_goRound_29 rfl (lv_at hl 0 rfl) ?_
              refine va_get (D := (dC, dI)) (ci := 8) (v := .ref a0_29) (C := RX8) (T := TX8) (N := 40) hx hb hts zi_X8_goRound_8 hown hK hP 0 rfl rfl 29 (by decide) (hts (.fieldLink RX8 44 "WaxTurnsModel" "row" "[I") (List.mem_cons_of_mem _ (List.mem_append_left _ (List.mem_of_getElem? (i := 2) rfl)))) (fun _ h9 => h9) rfl dX8_goRound_30 ?_
              refine lv_iload_n hx hb dX8_goRound_33 rfl (lv_at hl 3 rfl) ?_
              refine va_iald hx hb hK hP 2 1 rfl rfl (ai_in bj24l3_l u26f_j24l3 (by decide) (by decide)) dX8_goRound_34 ?_
              refine lv_topi (fun x34 ex34 => ?_)
              have bx34 : (0 : Int) ≤ x34.toInt ∧ x34.toInt ≤ 8 := by rw [ex34]; exact bj15a0_29_a _
              refine lv_iload_n hx hb dX8_goRound_35 rfl (lv_at hl 2 rfl) ?_
              refine lv_icmp_ne (tgt := 44) hx hb dX8_goRound_36 (by decide) (fun c36 => ?_) (fun c36 => ?_)
              · have gc36 := ai_ne c36
                obtain ⟨x44, ex44⟩ : ∃ y : Int32, y = j24l3 + Int32.ofInt 1 := ⟨_, rfl⟩
                have qx44 : x44.toInt = j24l3.toInt + 1 := ai_inc ex44 (by decide) (by decide) u26f_j24l3 (by decide)
                have bx44 : (1 : Int) ≤ x44.toInt ∧ x44.toInt ≤ 9 := ⟨by rw [qx44]; exact Int.add_le_add bj24l3_l (Int.le_refl _), by rw [qx44]; exact Int.add_le_add u26f_j24l3 (Int.le_refl _)⟩
                refine lv_iinc (v := x44) (lv' := [(3, .int x44), (0, .ref a0), (1, .int j15l1), (2, .int j15l2)]) hx hb dX8_goRound_44 hl (k := 3) rfl ex44.symm (by decide) rfl (fun ls hl => ?_)
                refine lv_goto (tgt := 24) hx hb dX8_goRound_47 (by decide) ?_
                exact (hK0 _ _ _).mp (ih24 x44 j24a0_30 _ _ _ (by first | exact zg_s hm24 qx44 | (have h0 := qx44; omega)) (Int.le_trans zq4 bx44.1) bx44.2 (gr_Ks sk24 ex34 c36 qx44 bj24l3_l) hP hD hS (lv_sub hl [1, 2, 3, 0] rfl))
              · have gc36 := ai_eq c36
                have u36f_x34 : x34.toInt ≤ (8 : Int) := bx34.2
                have l36f_x34 : (0 : Int) ≤ x34.toInt := bx34.1
                have u36f_j15l2 : j15l2.toInt ≤ (8 : Int) := bj15l2_u
                have l36f_j15l2 : (0 : Int) ≤ j15l2.toInt := bj15l2_l
                refine lv_aload_n hx hb dX8_goRound_39 rfl (lv_at hl 0 rfl) ?_
                refine lv_iload_n hx hb dX8_goRound_40 rfl (lv_at hl 3 rfl) ?_
                refine va_put (D := (dC, dI)) (ci := 8) (v := .int j24l3) (ty := .int) (C := RX8) (T := TX8) (N := 40) hx hb hts zi_X8_goRound_8 tyX8 tyX8_ok nmX8 hown hK hP hD hS 0 rfl rfl 30 (by decide) (hts (.fieldLink RX8 283 "WaxTurnsModel" "settled" "I") (List.mem_cons_of_mem _ (List.mem_append_left _ (List.mem_of_getElem? (i := 1) rfl)))) (fun _ h9 => h9) rfl (tyX8_ok 30 (by decide)) rfl rfl (Nat.le_of_ble_eq_true rfl) dX8_goRound_41 (fun H locs hP hD hS => ?_)
                refine zs_0 (y := (a0, .inr (8, [a0g_0, a0g_1, a0g_2, a0g_3, a0g_4, a0g_5, a0g_6, a0g_7, a0g_8, a0g_9, a0g_10, a0g_11, a0g_12, a0g_13, a0g_14, Value.ref a0_15, a0g_16, Value.ref a0_17, a0g_18, a0g_19, a0g_20, a0g_21, a0g_22, a0g_23, a0g_24, a0g_25, a0g_26, a0g_27, a0g_28, Value.ref a0_29, Value.int j24l3, Value.int a0_31, a0g_32, a0g_33, a0g_34, a0g_35, a0g_36, a0g_37, a0g_38, a0g_39]))) hP hD rfl (fun hP hD => ?_)
                obtain ⟨x44, ex44⟩ : ∃ y : Int32, y = j24l3 + Int32.ofInt 1 := ⟨_, rfl⟩
                have qx44 : x44.toInt = j24l3.toInt + 1 := ai_inc ex44 (by decide) (by decide) u26f_j24l3 (by decide)
                have bx44 : (1 : Int) ≤ x44.toInt ∧ x44.toInt ≤ 9 := ⟨by rw [qx44]; exact Int.add_le_add bj24l3_l (Int.le_refl _), by rw [qx44]; exact Int.add_le_add u26f_j24l3 (Int.le_refl _)⟩
                refine lv_iinc (v := x44) (lv' := [(3, .int x44), (0, .ref a0), (1, .int j15l1), (2, .int j15l2)]) hx hb dX8_goRound_44 hl (k := 3) rfl ex44.symm (by decide) rfl (fun ls hl => ?_)
                refine lv_goto (tgt := 24) hx hb dX8_goRound_47 (by decide) ?_
                exact (hK0 _ _ _).mp (ih24 x44 j24l3 _ _ _ (by first | exact zg_s hm24 qx44 | (have h0 := qx44; omega)) (Int.le_trans zq4 bx44.1) bx44.2 (Or.inr ⟨bj24l3_l, by omega⟩) hP hD hS (lv_sub hl [1, 2, 3, 0] rfl))
        exact (hK0 _ _ _).mp (J24 10 0 j15a0_30 _ _ _ (by first | decide +kernel | (have h1 : (0 : Int) ≤ (0 : Int32).toInt := zq5; have h2 : (0 : Int32).toInt ≤ (0 : Int) := zq6; omega)) zq5 (Int.le_trans zq6 zq7) (gr_K0 sm15 (by decide)) hP hD hS (lv_sub hl [1, 2, 3, 0] rfl))
  exact (hK0 _ _ _).mp (J15 13 x8 0 (-1) fa0_29 _ _ _ (by first | decide +kernel | (have h1 : (0 : Int) ≤ (0 : Int32).toInt := zq5; have h2 : (0 : Int32).toInt ≤ (0 : Int) := zq6; omega)) bx8.1 bx8.2 zq5 (Int.le_trans zq6 zq171) bfa0_29 (gr_z0 (by decide)) (by decide) hP hD hS (lv_sub hl [2, 1, 0] rfl))

set_option maxHeartbeats 4000000 in
set_option maxRecDepth 100000 in
theorem c_X8_turnAt (l : Launch) (dC : Nat → ClassId) (dI : Nat → Nat → Nat) (sz : Nat) (a0 : Nat) (a1 : Int32) (a0g_0 a0g_1 a0g_2 a0g_3 a0g_4 a0g_5 a0g_6 a0g_7 a0g_8 a0g_9 a0g_10 a0g_11 a0g_12 a0g_13 a0g_14 a0g_15 a0g_16 a0g_17 a0g_18 a0g_19 a0g_20 a0g_21 a0g_22 a0g_23 a0g_24 a0g_25 a0g_26 a0g_27 a0g_28 a0g_32 a0g_33 a0g_34 a0g_35 a0g_36 a0g_37 a0g_38 a0g_39 : Value) (a0_29 : Nat) (a0_30 : Int32) (a0_31 : Int32) (ka0_29 : ClassId) (fa0_29 : Nat → Int32) (ba1_l : (0 : Int) ≤ a1.toInt) (ba0_30_l : (0 : Int) ≤ a0_30.toInt) (ba0_30_u : a0_30.toInt ≤ (8 : Int)) (ba0_31_l : (1 : Int) ≤ a0_31.toInt) (ba0_31_u : a0_31.toInt ≤ (9 : Int)) (bfa0_29 : (∀ k, (0 : Int) ≤ (fa0_29 k).toInt ∧ (fa0_29 k).toInt ≤ 8)) (hsa : (0 : Int) ≤ a0_30.toInt ∧ (1 : Int) ≤ a0_31.toInt ∧ a0_30.toInt + a0_31.toInt ≤ 9) : zm l yX8_turnAt wsX8_turnAt ({ frames := 0, cells := 0, slots := 0, locals := 0 }) [.ref a0, .int a1] dC dI sz [(a0, .inr (8, [a0g_0, a0g_1, a0g_2, a0g_3, a0g_4, a0g_5, a0g_6, a0g_7, a0g_8, a0g_9, a0g_10, a0g_11, a0g_12, a0g_13, a0g_14, a0g_15, a0g_16, a0g_17, a0g_18, a0g_19, a0g_20, a0g_21, a0g_22, a0g_23, a0g_24, a0g_25, a0g_26, a0g_27, a0g_28, Value.ref a0_29, Value.int a0_30, Value.int a0_31, a0g_32, a0g_33, a0g_34, a0g_35, a0g_36, a0g_37, a0g_38, a0g_39])), (a0_29, .inl (ka0_29, 10, .inl (fa0_29)))] [(ka0_29, .int)] (fun A _ => True) (fun A => va_Qi (fun (r : Int32) (_ : Unit) => (0 : Int) ≤ r.toInt ∧ r.toInt ≤ (8 : Int)) (fun (_ : Unit) (t : State) => ax_B dC dI A [(a0, .inr (8, [a0g_0, a0g_1, a0g_2, a0g_3, a0g_4, a0g_5, a0g_6, a0g_7, a0g_8, a0g_9, a0g_10, a0g_11, a0g_12, a0g_13, a0g_14, a0g_15, a0g_16, a0g_17, a0g_18, a0g_19, a0g_20, a0g_21, a0g_22, a0g_23, a0g_24, a0g_25, a0g_26, a0g_27, a0g_28, Value.ref a0_29, Value.int a0_30, Value.int a0_31, a0g_32, a0g_33, a0g_34, a0g_35, a0g_36, a0g_37, a0g_38, a0g_39])), (a0_29, .inl (ka0_29, 10, .inl (fa0_29)))] [(ka0_29, .int)] t) A) := by
  refine zh (cc := cX8_turnAt) (maxL := 2) (ret := (some .int)) zn_RX8 rfl (Nat.le_of_ble_eq_true rfl) (fun p e s m below meth c A ls hx hb hml hr hts (hown : s.vm.findClass RX8 = some m.cls) hlocks hA hS hP hK hD hE (hl : lv_has ls 2 [(0, .ref a0), (1, .int a1)]) => ?_)
  refine lv_aload_n hx hb dX8_turnAt_0 rfl (lv_at hl 0 rfl) ?_
  refine va_get (D := (dC, dI)) (ci := 8) (v := .ref a0_29) (C := RX8) (T := TX8) (N := 40) hx hb hts zi_X8_turnAt_8 hown hK hP 0 rfl rfl 29 (by decide) (hts (.fieldLink RX8 44 "WaxTurnsModel" "row" "[I") (List.mem_cons_of_mem _ (List.mem_append_left _ (List.mem_of_getElem? (i := 0) rfl)))) (fun _ h9 => h9) rfl dX8_turnAt_1 ?_
  refine lv_iload_n hx hb dX8_turnAt_4 rfl (lv_at hl 1 rfl) ?_
  refine lv_aload_n hx hb dX8_turnAt_5 rfl (lv_at hl 0 rfl) ?_
  refine va_get (D := (dC, dI)) (ci := 8) (v := .int a0_30) (C := RX8) (T := TX8) (N := 40) hx hb hts zi_X8_turnAt_8 hown hK hP 0 rfl rfl 30 (by decide) (hts (.fieldLink RX8 283 "WaxTurnsModel" "settled" "I") (List.mem_cons_of_mem _ (List.mem_append_left _ (List.mem_of_getElem? (i := 1) rfl)))) (fun _ h9 => h9) rfl dX8_turnAt_6 ?_
  refine lv_icmp_ge (tgt := 16) hx hb dX8_turnAt_9 (by decide) (fun c9 => ?_) (fun c9 => ?_)
  · have gc9 := ai_le c9
    have l9t_a1 : (0 : Int) ≤ a1.toInt := ba1_l
    refine lv_aload_n hx hb dX8_turnAt_16 rfl (lv_at hl 0 rfl) ?_
    refine va_get (D := (dC, dI)) (ci := 8) (v := .int a0_30) (C := RX8) (T := TX8) (N := 40) hx hb hts zi_X8_turnAt_8 hown hK hP 0 rfl rfl 30 (by decide) (hts (.fieldLink RX8 283 "WaxTurnsModel" "settled" "I") (List.mem_cons_of_mem _ (List.mem_append_left _ (List.mem_of_getElem? (i := 1) rfl)))) (fun _ h9 => h9) rfl dX8_turnAt_17 ?_
    refine lv_iload_n hx hb dX8_turnAt_20 rfl (lv_at hl 1 rfl) ?_
    refine lv_aload_n hx hb dX8_turnAt_21 rfl (lv_at hl 0 rfl) ?_
    refine va_get (D := (dC, dI)) (ci := 8) (v := .int a0_30) (C := RX8) (T := TX8) (N := 40) hx hb hts zi_X8_turnAt_8 hown hK hP 0 rfl rfl 30 (by decide) (hts (.fieldLink RX8 283 "WaxTurnsModel" "settled" "I") (List.mem_cons_of_mem _ (List.mem_append_left _ (List.mem_of_getElem? (i := 1) rfl)))) (fun _ h9 => h9) rfl dX8_turnAt_22 ?_
    refine lv_isub hx hb dX8_turnAt_25 ?_
    refine lv_topi (fun x25 ex25 => ?_)
    have qx25 : x25.toInt = a1.toInt - a0_30.toInt := ai_sub ex25 ⟨l9t_a1, (ai_max a1)⟩ ⟨ba0_30_l, ba0_30_u⟩ (by decide) (by decide)
    have bx25 : (-8 : Int) ≤ x25.toInt ∧ x25.toInt ≤ 2147483647 := ⟨by rw [qx25]; exact Int.sub_le_sub l9t_a1 ba0_30_u, by rw [qx25]; exact Int.sub_le_sub (ai_max a1) ba0_30_l⟩
    have l25z_x25 : (0 : Int) ≤ x25.toInt := by omega
    refine lv_aload_n hx hb dX8_turnAt_26 rfl (lv_at hl 0 rfl) ?_
    refine va_get (D := (dC, dI)) (ci := 8) (v := .int a0_31) (C := RX8) (T := TX8) (N := 40) hx hb hts zi_X8_turnAt_8 hown hK hP 0 rfl rfl 31 (by decide) (hts (.fieldLink RX8 286 "WaxTurnsModel" "again" "I") (List.mem_cons_of_mem _ (List.mem_append_left _ (List.mem_of_getElem? (i := 2) rfl)))) (fun _ h9 => h9) rfl dX8_turnAt_27 ?_
    refine lv_irem hx hb dX8_turnAt_30 (ai_nz ba0_31_l (by decide)) ?_
    refine lv_topi (fun x30 ex30 => ?_)
    have qx30 := ai_rem2 ex30 l25z_x25 (Int.lt_of_lt_of_le zq19 ba0_31_l) ba0_31_u
    refine lv_iadd hx hb dX8_turnAt_31 ?_
    refine lv_topi (fun x31 ex31 => ?_)
    have qx31 : x31.toInt = a0_30.toInt + x30.toInt := ai_add ex31 ⟨ba0_30_l, ba0_30_u⟩ ⟨qx30.2.1, qx30.2.2⟩ (by decide) (by decide)
    have bx31 : (0 : Int) ≤ x31.toInt ∧ x31.toInt ≤ 16 := ⟨by rw [qx31]; exact Int.add_le_add ba0_30_l qx30.2.1, by rw [qx31]; exact Int.add_le_add ba0_30_u qx30.2.2⟩
    have hlt31 := Int.emod_lt_of_pos x25.toInt (show 0 < a0_31.toInt by omega)
    have hq31 := qx30.1
    have u31z_x31 : x31.toInt ≤ (9 : Int) := by omega
    refine va_iald hx hb hK hP 1 0 rfl rfl (ai_in bx31.1 u31z_x31 (by decide) (by decide)) dX8_turnAt_32 ?_
    refine lv_topi (fun x32 ex32 => ?_)
    have bx32 : (0 : Int) ≤ x32.toInt ∧ x32.toInt ≤ 8 := by rw [ex32]; exact bfa0_29 _
    exact W.iret (v := x32) hx hb hr (fun t ht hW => ⟨⟨x32, (), rfl, ⟨bx32.1, bx32.2⟩, by rw [ht]; exact hP, va_K.moved hW.alike hK, hD⟩, hS.F ht⟩) hS.2.2 dX8_turnAt_33
  · have gc9 := ai_nle c9
    have u9f_a1 : a1.toInt ≤ (7 : Int) := ai_lthi gc9 ba0_30_u
    have l9f_a0_30 : (1 : Int) ≤ a0_30.toInt := ai_ltlo gc9 ba1_l
    refine lv_iload_n hx hb dX8_turnAt_12 rfl (lv_at hl 1 rfl) ?_
    refine lv_goto (tgt := 32) hx hb dX8_turnAt_13 (by decide) ?_
    refine va_iald hx hb hK hP 1 0 rfl rfl (ai_in ba1_l u9f_a1 (by decide) (by decide)) dX8_turnAt_32 ?_
    refine lv_topi (fun x32 ex32 => ?_)
    have bx32 : (0 : Int) ≤ x32.toInt ∧ x32.toInt ≤ 8 := by rw [ex32]; exact bfa0_29 _
    exact W.iret (v := x32) hx hb hr (fun t ht hW => ⟨⟨x32, (), rfl, ⟨bx32.1, bx32.2⟩, by rw [ht]; exact hP, va_K.moved hW.alike hK, hD⟩, hS.F ht⟩) hS.2.2 dX8_turnAt_33
end P232_00_safe
