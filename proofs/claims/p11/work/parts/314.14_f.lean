set_option maxHeartbeats 4000000 in
set_option maxRecDepth 100000 in
theorem f_X8_image (l : Launch) (dC : Nat → ClassId) (dI : Nat → Nat → Nat) (sz : Nat) (a0 : Nat) (a0_0 : Int32) (a0g_1 a0g_2 a0g_3 a0g_4 a0g_5 a0g_6 a0g_7 a0g_8 a0g_9 a0g_10 a0g_12 a0g_13 a0g_15 a0g_16 a0g_18 a0g_19 a0g_21 a0g_23 a0g_24 a0g_25 a0g_26 a0g_27 a0g_28 a0g_29 a0g_30 a0g_31 a0g_32 a0g_33 a0g_34 a0g_35 a0g_36 a0g_37 a0g_38 a0g_39 : Value) (a0_11 : Int32) (a0_14 : Int32) (a0_17 : Nat) (a0_20 : Nat) (a0_22 : Int32) (ka0_17 : ClassId) (fa0_17 : Nat → Int32) (ka0_20 : ClassId) (fa0_20 : Nat → Int32) (ba0_14_l : (1 : Int) ≤ a0_14.toInt) (ba0_14_u : a0_14.toInt ≤ (1 : Int)) (ba0_22_l : (0 : Int) ≤ a0_22.toInt) (ba0_22_u : a0_22.toInt ≤ (3 : Int)) (bfa0_17 : ((∀ k : Nat, 0 ≤ k → k ≤ 8 → (0 : Int) ≤ (fa0_17 k).toInt ∧ (fa0_17 k).toInt ≤ 8) ∧ (∀ k : Nat, 19 ≤ k → k ≤ 19 → (0 : Int) ≤ (fa0_17 k).toInt ∧ (fa0_17 k).toInt ≤ 8) ∧ (∀ k : Nat, 20 ≤ k → k ≤ 20 → (0 : Int) ≤ (fa0_17 k).toInt ∧ (fa0_17 k).toInt ≤ 19))) (bfa0_20 : (md_S fa0_20)) : Met l yX8_image wsX8_image ({ frames := 1, cells := 0, slots := 0, locals := 25 }) (va_Pc [.ref a0] (ax_C dC dI sz [(a0, .inr (8, [Value.int a0_0, a0g_1, a0g_2, a0g_3, a0g_4, a0g_5, a0g_6, a0g_7, a0g_8, a0g_9, a0g_10, Value.int a0_11, a0g_12, a0g_13, Value.int a0_14, a0g_15, a0g_16, Value.ref a0_17, a0g_18, a0g_19, Value.ref a0_20, a0g_21, Value.int a0_22, a0g_23, a0g_24, a0g_25, a0g_26, a0g_27, a0g_28, a0g_29, a0g_30, a0g_31, a0g_32, a0g_33, a0g_34, a0g_35, a0g_36, a0g_37, a0g_38, a0g_39])), (a0_17, .inl (ka0_17, 23, .inl (fa0_17))), (a0_20, .inl (ka0_20, 69, .inl (fa0_20)))] [(ka0_17, .int), (ka0_20, .int)] (fun _ => True))) (va_Qi (fun (r : Int32) (_ : Unit) => ((-1 : Int) ≤ r.toInt ∧ r.toInt ≤ (2 : Int)) ∧ r.toInt = (Ff_X8_image a0_14.toInt a0_22.toInt (fl_A fa0_17) (fl_A fa0_20)).1) (fun (_ : Unit) (t : State) => ∃ na0_0 : Int32, ∃ na0_11 : Int32, ∃ na0_22 : Int32, ∃ nfa0_20 : Nat → Int32, ((0 : Int) ≤ na0_22.toInt ∧ na0_22.toInt ≤ 3) ∧ (md_S nfa0_20) ∧ ((Ff_X8_image a0_14.toInt a0_22.toInt (fl_A fa0_17) (fl_A fa0_20)).2 = (na0_0.toInt, na0_11.toInt, na0_22.toInt, (fl_A nfa0_20))) ∧ ax_B dC dI (va_A [(a0, .inr (8, [Value.int a0_0, a0g_1, a0g_2, a0g_3, a0g_4, a0g_5, a0g_6, a0g_7, a0g_8, a0g_9, a0g_10, Value.int a0_11, a0g_12, a0g_13, Value.int a0_14, a0g_15, a0g_16, Value.ref a0_17, a0g_18, a0g_19, Value.ref a0_20, a0g_21, Value.int a0_22, a0g_23, a0g_24, a0g_25, a0g_26, a0g_27, a0g_28, a0g_29, a0g_30, a0g_31, a0g_32, a0g_33, a0g_34, a0g_35, a0g_36, a0g_37, a0g_38, a0g_39])), (a0_17, .inl (ka0_17, 23, .inl (fa0_17))), (a0_20, .inl (ka0_20, 69, .inl (fa0_20)))] sz) [(a0, .inr (8, [Value.int na0_0, a0g_1, a0g_2, a0g_3, a0g_4, a0g_5, a0g_6, a0g_7, a0g_8, a0g_9, a0g_10, Value.int na0_11, a0g_12, a0g_13, Value.int a0_14, a0g_15, a0g_16, Value.ref a0_17, a0g_18, a0g_19, Value.ref a0_20, a0g_21, Value.int na0_22, a0g_23, a0g_24, a0g_25, a0g_26, a0g_27, a0g_28, a0g_29, a0g_30, a0g_31, a0g_32, a0g_33, a0g_34, a0g_35, a0g_36, a0g_37, a0g_38, a0g_39])), (a0_17, .inl (ka0_17, 23, .inl (fa0_17))), (a0_20, .inl (ka0_20, 69, .inl (nfa0_20)))] [(ka0_17, .int), (ka0_20, .int)] t) (va_A [(a0, .inr (8, [Value.int a0_0, a0g_1, a0g_2, a0g_3, a0g_4, a0g_5, a0g_6, a0g_7, a0g_8, a0g_9, a0g_10, Value.int a0_11, a0g_12, a0g_13, Value.int a0_14, a0g_15, a0g_16, Value.ref a0_17, a0g_18, a0g_19, Value.ref a0_20, a0g_21, Value.int a0_22, a0g_23, a0g_24, a0g_25, a0g_26, a0g_27, a0g_28, a0g_29, a0g_30, a0g_31, a0g_32, a0g_33, a0g_34, a0g_35, a0g_36, a0g_37, a0g_38, a0g_39])), (a0_17, .inl (ka0_17, 23, .inl (fa0_17))), (a0_20, .inl (ka0_20, 69, .inl (fa0_20)))] sz)) 0 0 (va_A [(a0, .inr (8, [Value.int a0_0, a0g_1, a0g_2, a0g_3, a0g_4, a0g_5, a0g_6, a0g_7, a0g_8, a0g_9, a0g_10, Value.int a0_11, a0g_12, a0g_13, Value.int a0_14, a0g_15, a0g_16, Value.ref a0_17, a0g_18, a0g_19, Value.ref a0_20, a0g_21, Value.int a0_22, a0g_23, a0g_24, a0g_25, a0g_26, a0g_27, a0g_28, a0g_29, a0g_30, a0g_31, a0g_32, a0g_33, a0g_34, a0g_35, a0g_36, a0g_37, a0g_38, a0g_39])), (a0_17, .inl (ka0_17, 23, .inl (fa0_17))), (a0_20, .inl (ka0_20, 69, .inl (fa0_20)))] sz) := by
  refine Met.ofW (cc := cX8_image) (maxL := 1) (ret := (some .int)) (by decide) rfl ?_
  intro p e s m args below meth c s₁ B hml hv
  obtain ⟨rfl, hsz, hP, hK, hD0, hE⟩ := hv
  have hx := B.exec
  have hb := B.bytes
  have hr := B.returns
  have hts := atoms_spec (ws := wsX8_image) B.pre
  have hown : s.vm.findClass RX8 = some m.cls := findClass_of_methodNamed B.named
  have hlocks := B.notSynchronized
  subst hsz
  have hD := hD0.self (sz := s.heap.size)
  generalize hAe : va_A [(a0, .inr (8, [Value.int a0_0, a0g_1, a0g_2, a0g_3, a0g_4, a0g_5, a0g_6, a0g_7, a0g_8, a0g_9, a0g_10, Value.int a0_11, a0g_12, a0g_13, Value.int a0_14, a0g_15, a0g_16, Value.ref a0_17, a0g_18, a0g_19, Value.ref a0_20, a0g_21, Value.int a0_22, a0g_23, a0g_24, a0g_25, a0g_26, a0g_27, a0g_28, a0g_29, a0g_30, a0g_31, a0g_32, a0g_33, a0g_34, a0g_35, a0g_36, a0g_37, a0g_38, a0g_39])), (a0_17, .inl (ka0_17, 23, .inl (fa0_17))), (a0_20, .inl (ka0_20, 69, .inl (fa0_20)))] s.heap.size = A at hD ⊢
  have hA : ∀ q : Nat, s.heap.size ≤ q → A q := fun q h => by rw [← hAe]; exact Or.inr h
  have hS : va_S A s.heap s.heap [] := va_S.rf
  have hP : va_P (dC, dI) vwCl [(a0, .inr (8, [Value.int a0_0, a0g_1, a0g_2, a0g_3, a0g_4, a0g_5, a0g_6, a0g_7, a0g_8, a0g_9, a0g_10, Value.int a0_11, a0g_12, a0g_13, Value.int a0_14, a0g_15, a0g_16, Value.ref a0_17, a0g_18, a0g_19, Value.ref a0_20, a0g_21, Value.int a0_22, a0g_23, a0g_24, a0g_25, a0g_26, a0g_27, a0g_28, a0g_29, a0g_30, a0g_31, a0g_32, a0g_33, a0g_34, a0g_35, a0g_36, a0g_37, a0g_38, a0g_39])), (a0_17, .inl (ka0_17, 23, .inl (fa0_17))), (a0_20, .inl (ka0_20, 69, .inl (fa0_20)))] s.heap := hP
  have hl := lv_entry ([.ref a0]) (n := 1) (Nat.le_of_ble_eq_true rfl)
  rw [lg_entry_eq]
  generalize (lg_sl ([.ref a0]) ++ List.replicate (1 - (lg_sl ([.ref a0])).length) Slot.unset).toArray = ls at hl ⊢
  have hl : lv_has ls 1 [(0, .ref a0)] := hl
  generalize hFX : Ff_X8_image a0_14.toInt a0_22.toInt (fl_A fa0_17) (fl_A fa0_20) = FX at ⊢
  have hF0 := hFX.symm.trans (Ff_X8_image.eq_1 a0_14.toInt a0_22.toInt (fl_A fa0_17) (fl_A fa0_20))
  refine lv_aload_n hx hb dX8_image_0 rfl (lv_at hl 0 rfl) ?_
  obtain ⟨hPc, hDc, hFc, hCc⟩ := zc_cut (wc := [(a0, .inr (8, [Value.int a0_0, a0g_1, a0g_2, a0g_3, a0g_4, a0g_5, a0g_6, a0g_7, a0g_8, a0g_9, a0g_10, Value.int a0_11, a0g_12, a0g_13, Value.int a0_14, a0g_15, a0g_16, Value.ref a0_17, a0g_18, a0g_19, Value.ref a0_20, a0g_21, Value.int a0_22, a0g_23, a0g_24, a0g_25, a0g_26, a0g_27, a0g_28, a0g_29, a0g_30, a0g_31, a0g_32, a0g_33, a0g_34, a0g_35, a0g_36, a0g_37, a0g_38, a0g_39]))]) hP hD hS hA [0] (by decide +kernel) rfl
  have hKc := hK.sub (tys' := []) [] rfl
  refine va_callv (va_runV (As := []) (rest := []) ⟨hx, hb, hml, hown, hts⟩ (f_X8_good l dC dI s.heap.size a0 a0_0 a0g_1 a0g_2 a0g_3 a0g_4 a0g_5 a0g_6 a0g_7 a0g_8 a0g_9 a0g_10 a0g_12 a0g_13 (Value.int a0_14) a0g_15 a0g_16 (Value.ref a0_17) a0g_18 a0g_19 (Value.ref a0_20) a0g_21 (Value.int a0_22) a0g_23 a0g_24 a0g_25 a0g_26 a0g_27 a0g_28 a0g_29 a0g_30 a0g_31 a0g_32 a0g_33 a0g_34 a0g_35 a0g_36 a0g_37 a0g_38 a0g_39 a0_11 ) (cwV 0 hts gX8_image_X8_good rfl rfl rfl zd_X8_good ⟨Nat.le_of_ble_eq_true rfl, Nat.le_of_ble_eq_true rfl⟩) ⟨ax_blind (fun _ _ _ _ _ => trivial), zr_8 hKc hPc (q0 := 0) rfl, ax_pre hPc hKc hDc (fun _ _ => trivial)⟩ rfl rfl hl.1 rfl (lv_room (Nat.le_of_ble_eq_true rfl)) dX8_image_1 ⟨Nat.le_of_ble_eq_true rfl, Nat.le_of_ble_eq_true rfl⟩) hS (fun q _ h => hFc q h) hFc (fun u t H locs ht hvm hw hB hz1 hk1 hS => ?_)
  obtain ⟨v1na0_0, v1na0_11, hraw1_0, hP1, hK1, hD1⟩ := hB
  rw [ht] at hP1
  obtain ⟨hP, hD⟩ := zc_back (w := [(a0, .inr (8, [Value.int v1na0_0, a0g_1, a0g_2, a0g_3, a0g_4, a0g_5, a0g_6, a0g_7, a0g_8, a0g_9, a0g_10, Value.int v1na0_11, a0g_12, a0g_13, Value.int a0_14, a0g_15, a0g_16, Value.ref a0_17, a0g_18, a0g_19, Value.ref a0_20, a0g_21, Value.int a0_22, a0g_23, a0g_24, a0g_25, a0g_26, a0g_27, a0g_28, a0g_29, a0g_30, a0g_31, a0g_32, a0g_33, a0g_34, a0g_35, a0g_36, a0g_37, a0g_38, a0g_39])), (a0_17, .inl (ka0_17, 23, .inl (fa0_17))), (a0_20, .inl (ka0_20, 69, .inl (fa0_20)))]) hP hD hCc hk1 hFc hP1 hD1 [.inr 0, .inl 1, .inl 2] (by decide +kernel) rfl
  have hc1 : Ff_X8_good = (v1na0_0.toInt, v1na0_11.toInt) := hraw1_0
  have hF0 := hF0.trans (fl_c2_eq hc1)
  refine lv_aload_n hx hb dX8_image_4 rfl (lv_at hl 0 rfl) ?_
  refine va_get (D := (dC, dI)) (ci := 8) (v := .int a0_14) (C := RX8) (T := TX8) (N := 40) hx hb hts zi_X8_image_8 hown hK hP 0 rfl rfl 14 (by decide) (hts (.fieldLink RX8 173 "WaxTurnsModel" "hasGallery" "Z") (List.mem_cons_of_mem _ (List.mem_append_left _ (List.mem_of_getElem? (i := 0) rfl)))) (fun _ h9 => h9) rfl dX8_image_5 ?_
  refine lv_if_ne (tgt := 17) hx hb dX8_image_8 (by decide) (fun c8 => ?_) (fun c8 => ?_)
  · have gc8 := ai_ne c8
    have hF0 := hF0.trans (if_neg (show ¬ (a0_14.toInt = 0) from  gc8))
    refine lv_aload_n hx hb dX8_image_17 rfl (lv_at hl 0 rfl) ?_
    refine va_get (D := (dC, dI)) (ci := 8) (v := .int a0_22) (C := RX8) (T := TX8) (N := 40) hx hb hts zi_X8_image_8 hown hK hP 0 rfl rfl 22 (by decide) (hts (.fieldLink RX8 179 "WaxTurnsModel" "images" "I") (List.mem_cons_of_mem _ (List.mem_append_left _ (List.mem_of_getElem? (i := 1) rfl)))) (fun _ h9 => h9) rfl dX8_image_18 ?_
    refine lv_iconst (v := 3) hx hb dX8_image_21 zk_iconst_3 ?_
    refine lv_icmp_ne (tgt := 31) hx hb dX8_image_22 (by decide) (fun c22 => ?_) (fun c22 => ?_)
    · have gc22 := ai_ne c22
      have u22t_a0_22 : a0_22.toInt ≤ (2 : Int) := (by have h1 := ba0_22_u; have h2 : (3 : Int32).toInt = 3 := (by decide); rw [h2] at gc22; omega)
      have hF0 := hF0.trans (if_neg (show ¬ (a0_22.toInt = 3) from  gc22))
      refine lv_aload_n hx hb dX8_image_31 rfl (lv_at hl 0 rfl) ?_
      refine va_get (D := (dC, dI)) (ci := 8) (v := .ref a0_17) (C := RX8) (T := TX8) (N := 40) hx hb hts zi_X8_image_8 hown hK hP 0 rfl rfl 17 (by decide) (hts (.fieldLink RX8 26 "WaxTurnsModel" "st" "[I") (List.mem_cons_of_mem _ (List.mem_append_left _ (List.mem_of_getElem? (i := 2) rfl)))) (fun _ h9 => h9) rfl dX8_image_32 ?_
      refine lv_iconst (v := 0) hx hb dX8_image_35 zk_iconst_0 ?_
      refine lv_aload_n hx hb dX8_image_36 rfl (lv_at hl 0 rfl) ?_
      refine va_get (D := (dC, dI)) (ci := 8) (v := .ref a0_20) (C := RX8) (T := TX8) (N := 40) hx hb hts zi_X8_image_8 hown hK hP 0 rfl rfl 20 (by decide) (hts (.fieldLink RX8 35 "WaxTurnsModel" "kept" "[I") (List.mem_cons_of_mem _ (List.mem_append_left _ (List.mem_of_getElem? (i := 3) rfl)))) (fun _ h9 => h9) rfl dX8_image_37 ?_
      refine lv_bipush (v := 23) hx hb dX8_image_40 zk_bipush_23 ?_
      refine lv_aload_n hx hb dX8_image_42 rfl (lv_at hl 0 rfl) ?_
      refine va_get (D := (dC, dI)) (ci := 8) (v := .int a0_22) (C := RX8) (T := TX8) (N := 40) hx hb hts zi_X8_image_8 hown hK hP 0 rfl rfl 22 (by decide) (hts (.fieldLink RX8 179 "WaxTurnsModel" "images" "I") (List.mem_cons_of_mem _ (List.mem_append_left _ (List.mem_of_getElem? (i := 1) rfl)))) (fun _ h9 => h9) rfl dX8_image_43 ?_
      refine lv_imul hx hb dX8_image_46 ?_
      refine lv_topi (fun x46 ex46 => ?_)
      have qx46 : x46.toInt = (23 : Int32).toInt * a0_22.toInt ∧ (0 : Int) ≤ x46.toInt ∧ x46.toInt ≤ 46 := ai_mul ex46 ⟨zq170, zq171⟩ ⟨ba0_22_l, u22t_a0_22⟩ (by decide) (by decide) zq216
      have wx46 : x46.toInt = 23 * a0_22.toInt := qx46.1
      have hF0 := hF0.trans (fl_lt_eq (show x46.toInt = 23 * a0_22.toInt from qx46.1))
      refine lv_bipush (v := 23) hx hb dX8_image_47 zk_bipush_23 ?_
      obtain ⟨hPc, hDc, hFc, hCc⟩ := zc_cut (wc := [(a0_17, .inl (ka0_17, 23, .inl (fa0_17))), (a0_20, .inl (ka0_20, 69, .inl (fa0_20)))]) hP hD hS hA [1, 2] (by decide +kernel) rfl
      have hKc := hK.sub (tys' := [(ka0_17, .int), (ka0_20, .int)]) [0, 1] rfl
      refine va_callv (va_runS (As := [.ref a0_17, .int 0, .ref a0_20, .int x46, .int 23]) (rest := []) ⟨hx, hb, hml, hown, hts⟩ (c_X8_copy_23_69 l dC dI H.size a0_17 0 a0_20 x46 23 ka0_17 fa0_17 ka0_20 fa0_20 zq5 zq6 qx46.2.1 qx46.2.2 zq170 zq171) (va_cwS 5 hts gX8_image_X8_copy rfl rfl rfl zd_X8_copy.2 ⟨Nat.le_of_ble_eq_true rfl, Nat.le_of_ble_eq_true rfl⟩) ⟨ax_blind (fun _ _ _ _ _ => trivial), ax_pre hPc hKc hDc (fun _ _ => trivial)⟩ rfl rfl hl.1 rfl (lv_room (Nat.le_of_ble_eq_true rfl)) dX8_image_49 ⟨Nat.le_of_ble_eq_true rfl, Nat.le_of_ble_eq_true rfl⟩) hS (fun q _ h => hFc q h) hFc (fun u t H locs ht hvm hw hB hz1 hk1 hS => ?_)
      obtain ⟨v49nfa3, hraw49_0, hP1, hK1, hD1⟩ := hB
      rw [ht] at hP1
      obtain ⟨hP, hD⟩ := zc_back (w := [(a0, .inr (8, [Value.int v1na0_0, a0g_1, a0g_2, a0g_3, a0g_4, a0g_5, a0g_6, a0g_7, a0g_8, a0g_9, a0g_10, Value.int v1na0_11, a0g_12, a0g_13, Value.int a0_14, a0g_15, a0g_16, Value.ref a0_17, a0g_18, a0g_19, Value.ref a0_20, a0g_21, Value.int a0_22, a0g_23, a0g_24, a0g_25, a0g_26, a0g_27, a0g_28, a0g_29, a0g_30, a0g_31, a0g_32, a0g_33, a0g_34, a0g_35, a0g_36, a0g_37, a0g_38, a0g_39])), (a0_17, .inl (ka0_17, 23, .inl (fa0_17))), (a0_20, .inl (ka0_20, 69, .inl (v49nfa3)))]) hP hD hCc hk1 hFc hP1 hD1 [.inl 0, .inr 0, .inr 1] (by decide +kernel) rfl
      have hc49 : va_cpy (fl_A fa0_17) (fl_A fa0_20) (0) (x46.toInt.toNat) 23 = (fl_A v49nfa3) := (fl_cpy hraw49_0).symm
      have hF0 := hF0.trans (fl_lt_eq hc49.symm)
      have bv49nfa3 : (md_S v49nfa3) := cp_SM hraw49_0 (by decide) (md_ix (u := a0_22) wx46 ba0_22_l) bfa0_17 bfa0_20
      refine lv_aload_n hx hb dX8_image_52 rfl (lv_at hl 0 rfl) ?_
      refine lv_dup hx hb dX8_image_53 rfl ?_
      refine va_get (D := (dC, dI)) (ci := 8) (v := .int a0_22) (C := RX8) (T := TX8) (N := 40) hx hb hts zi_X8_image_8 hown hK hP 0 rfl rfl 22 (by decide) (hts (.fieldLink RX8 179 "WaxTurnsModel" "images" "I") (List.mem_cons_of_mem _ (List.mem_append_left _ (List.mem_of_getElem? (i := 1) rfl)))) (fun _ h9 => h9) rfl dX8_image_54 ?_
      refine lv_iconst (v := 1) hx hb dX8_image_57 zk_iconst_1 ?_
      refine lv_iadd hx hb dX8_image_58 ?_
      refine lv_topi (fun x58 ex58 => ?_)
      have qx58 : x58.toInt = a0_22.toInt + (1 : Int32).toInt := ai_add ex58 ⟨ba0_22_l, u22t_a0_22⟩ ⟨zq1, zq0⟩ (by decide) (by decide)
      have bx58 : (1 : Int) ≤ x58.toInt ∧ x58.toInt ≤ 3 := ⟨by rw [qx58]; exact Int.add_le_add ba0_22_l zq1, by rw [qx58]; exact Int.add_le_add u22t_a0_22 zq0⟩
      have wx58 : x58.toInt = a0_22.toInt + 1 := qx58
      have hF0 := hF0.trans (fl_lt_eq (show x58.toInt = a0_22.toInt + 1 from qx58))
      refine va_put (D := (dC, dI)) (ci := 8) (v := .int x58) (ty := .int) (C := RX8) (T := TX8) (N := 40) hx hb hts zi_X8_image_8 tyX8 tyX8_ok nmX8 hown hK hP hD hS 0 rfl rfl 22 (by decide) (hts (.fieldLink RX8 179 "WaxTurnsModel" "images" "I") (List.mem_cons_of_mem _ (List.mem_append_left _ (List.mem_of_getElem? (i := 1) rfl)))) (fun _ h9 => h9) rfl (tyX8_ok 22 (by decide)) rfl rfl (Nat.le_of_ble_eq_true rfl) dX8_image_59 (fun H locs hP hD hS => ?_)
      obtain ⟨hP, hD⟩ := zc_re (w := [(a0, .inr (8, [Value.int v1na0_0, a0g_1, a0g_2, a0g_3, a0g_4, a0g_5, a0g_6, a0g_7, a0g_8, a0g_9, a0g_10, Value.int v1na0_11, a0g_12, a0g_13, Value.int a0_14, a0g_15, a0g_16, Value.ref a0_17, a0g_18, a0g_19, Value.ref a0_20, a0g_21, Value.int x58, a0g_23, a0g_24, a0g_25, a0g_26, a0g_27, a0g_28, a0g_29, a0g_30, a0g_31, a0g_32, a0g_33, a0g_34, a0g_35, a0g_36, a0g_37, a0g_38, a0g_39])), (a0_17, .inl (ka0_17, 23, .inl (fa0_17))), (a0_20, .inl (ka0_20, 69, .inl (v49nfa3)))]) hP hD rfl
      refine lv_aload_n hx hb dX8_image_62 rfl (lv_at hl 0 rfl) ?_
      refine va_get (D := (dC, dI)) (ci := 8) (v := .int x58) (C := RX8) (T := TX8) (N := 40) hx hb hts zi_X8_image_8 hown hK hP 0 rfl rfl 22 (by decide) (hts (.fieldLink RX8 179 "WaxTurnsModel" "images" "I") (List.mem_cons_of_mem _ (List.mem_append_left _ (List.mem_of_getElem? (i := 1) rfl)))) (fun _ h9 => h9) rfl dX8_image_63 ?_
      refine lv_iconst (v := 1) hx hb dX8_image_66 zk_iconst_1 ?_
      refine lv_isub hx hb dX8_image_67 ?_
      refine lv_topi (fun x67 ex67 => ?_)
      have qx67 : x67.toInt = x58.toInt - (1 : Int32).toInt := ai_sub ex67 ⟨bx58.1, bx58.2⟩ ⟨zq1, zq0⟩ (by decide) (by decide)
      have bx67 : (0 : Int) ≤ x67.toInt ∧ x67.toInt ≤ 2 := ⟨by rw [qx67]; exact Int.sub_le_sub bx58.1 zq0, by rw [qx67]; exact Int.sub_le_sub bx58.2 zq1⟩
      have wx67 : x67.toInt = x58.toInt - 1 := qx67
      have hF0 := hF0.trans (fl_lt_eq (show x67.toInt = x58.toInt - 1 from qx67))
      have hFe : FX = (x67.toInt, v1na0_0.toInt, v1na0_11.toInt, x58.toInt, (fl_A v49nfa3)) := hF0
      exact W.iret (v := x67) hx hb hr (fun t ht hW => ⟨⟨x67, (), rfl, ⟨⟨(Int.le_trans zq69 bx67.1), bx67.2⟩, (congrArg Prod.fst hFe).symm⟩, v1na0_0, v1na0_11, x58, v49nfa3, ⟨Int.le_trans (by decide) bx58.1, bx58.2⟩, bv49nfa3, (congrArg Prod.snd hFe), by rw [ht]; exact hP, va_K.moved hW.alike hK, hD⟩, hS.F ht⟩) hS.2.2 dX8_image_68
    · have gc22 := ai_eq c22
      have u22f_a0_22 : a0_22.toInt ≤ (3 : Int) := ba0_22_u
      have l22f_a0_22 : (3 : Int) ≤ a0_22.toInt := Int.le_trans zq8 (Int.le_of_eq gc22.symm)
      have hF0 := hF0.trans (if_pos (show a0_22.toInt = 3 from gc22))
      refine lv_aload_n hx hb dX8_image_25 rfl (lv_at hl 0 rfl) ?_
      refine lv_iconst (v := 3) hx hb dX8_image_26 zk_iconst_3 ?_
      obtain ⟨hPc, hDc, hFc, hCc⟩ := zc_cut (wc := [(a0, .inr (8, [Value.int v1na0_0, a0g_1, a0g_2, a0g_3, a0g_4, a0g_5, a0g_6, a0g_7, a0g_8, a0g_9, a0g_10, Value.int v1na0_11, a0g_12, a0g_13, Value.int a0_14, a0g_15, a0g_16, Value.ref a0_17, a0g_18, a0g_19, Value.ref a0_20, a0g_21, Value.int a0_22, a0g_23, a0g_24, a0g_25, a0g_26, a0g_27, a0g_28, a0g_29, a0g_30, a0g_31, a0g_32, a0g_33, a0g_34, a0g_35, a0g_36, a0g_37, a0g_38, a0g_39]))]) hP hD hS hA [0] (by decide +kernel) rfl
      have hKc := hK.sub (tys' := []) [] rfl
      refine va_calli (va_runV (As := [.int 3]) (rest := []) ⟨hx, hb, hml, hown, hts⟩ (f_X8_no l dC dI H.size a0 3 (Value.int v1na0_0) a0g_1 a0g_2 a0g_3 a0g_4 a0g_5 a0g_6 a0g_7 a0g_8 a0g_9 a0g_10 a0g_12 a0g_13 (Value.int a0_14) a0g_15 a0g_16 (Value.ref a0_17) a0g_18 a0g_19 (Value.ref a0_20) a0g_21 (Value.int a0_22) a0g_23 a0g_24 a0g_25 a0g_26 a0g_27 a0g_28 a0g_29 a0g_30 a0g_31 a0g_32 a0g_33 a0g_34 a0g_35 a0g_36 a0g_37 a0g_38 a0g_39 v1na0_11 ) (cwV 1 hts gX8_image_X8_no rfl rfl rfl zd_X8_no ⟨Nat.le_of_ble_eq_true rfl, Nat.le_of_ble_eq_true rfl⟩) ⟨ax_blind (fun _ _ _ _ _ => trivial), zr_8 hKc hPc (q0 := 0) rfl, ax_pre hPc hKc hDc (fun _ _ => trivial)⟩ rfl rfl hl.1 rfl (lv_room (Nat.le_of_ble_eq_true rfl)) dX8_image_27 ⟨Nat.le_of_ble_eq_true rfl, Nat.le_of_ble_eq_true rfl⟩) hS (fun q _ h => hFc q h) hFc (fun r27 u t H locs ht hvm hw hB hz1 hk1 hS => ?_)
      obtain ⟨v27na0_11, hraw27_0, hP1, hK1, hD1⟩ := hB
      rw [ht] at hP1
      obtain ⟨hP, hD⟩ := zc_back (w := [(a0, .inr (8, [Value.int v1na0_0, a0g_1, a0g_2, a0g_3, a0g_4, a0g_5, a0g_6, a0g_7, a0g_8, a0g_9, a0g_10, Value.int v27na0_11, a0g_12, a0g_13, Value.int a0_14, a0g_15, a0g_16, Value.ref a0_17, a0g_18, a0g_19, Value.ref a0_20, a0g_21, Value.int a0_22, a0g_23, a0g_24, a0g_25, a0g_26, a0g_27, a0g_28, a0g_29, a0g_30, a0g_31, a0g_32, a0g_33, a0g_34, a0g_35, a0g_36, a0g_37, a0g_38, a0g_39])), (a0_17, .inl (ka0_17, 23, .inl (fa0_17))), (a0_20, .inl (ka0_20, 69, .inl (fa0_20)))]) hP hD hCc hk1 hFc hP1 hD1 [.inr 0, .inl 1, .inl 2] (by decide +kernel) rfl
      obtain ⟨hw, hfr27⟩ := hw
      rw [show (3 : Int32).toInt = 3 from by decide] at hfr27 hraw27_0
      have hc27 : Ff_X8_no 3 = (r27.toInt, v27na0_11.toInt) := Prod.ext hfr27.symm hraw27_0
      have hF0 := hF0.trans (fl_c2_eq hc27)
      have hw : r27 = (-1) := hw
      have hw := hw.symm
      subst hw
      have hFe : FX = ((-1), v1na0_0.toInt, v27na0_11.toInt, a0_22.toInt, (fl_A fa0_20)) := hF0
      exact W.iret (v := (-1)) hx hb hr (fun t ht hW => ⟨⟨(-1), (), rfl, ⟨⟨zq70, (Int.le_trans zq71 zq217)⟩, (congrArg Prod.fst hFe).symm⟩, v1na0_0, v27na0_11, a0_22, fa0_20, ⟨Int.le_trans (by decide) l22f_a0_22, u22f_a0_22⟩, bfa0_20, (congrArg Prod.snd hFe), by rw [ht]; exact hP, va_K.moved hW.alike hK, hD⟩, hS.F ht⟩) hS.2.2 dX8_image_30
  · have gc8 := ai_eq c8
    have u8f_a0_14 : a0_14.toInt ≤ (0 : Int) := Int.le_trans (Int.le_of_eq gc8) zq6
    have l8f_a0_14 : (1 : Int) ≤ a0_14.toInt := ba0_14_l
    exact absurd (Int.le_trans l8f_a0_14 u8f_a0_14) (by decide)

set_option maxHeartbeats 4000000 in
set_option maxRecDepth 100000 in
theorem f_X8_back (l : Launch) (dC : Nat → ClassId) (dI : Nat → Nat → Nat) (sz : Nat) (a0 : Nat) (a1 : Int32) (a0_0 : Int32) (a0g_1 a0g_2 a0g_3 a0g_4 a0g_5 a0g_6 a0g_7 a0g_8 a0g_9 a0g_10 a0g_12 a0g_13 a0g_14 a0g_15 a0g_16 a0g_18 a0g_19 a0g_23 a0g_24 a0g_25 a0g_26 a0g_27 a0g_28 a0g_29 a0g_30 a0g_31 a0g_32 a0g_33 a0g_34 a0g_35 a0g_36 a0g_37 a0g_38 a0g_39 : Value) (a0_11 : Int32) (a0_17 : Nat) (a0_20 : Nat) (a0_21 : Int32) (a0_22 : Int32) (ka0_20 : ClassId) (fa0_20 : Nat → Int32) (ka0_17 : ClassId) (fa0_17 : Nat → Int32) (ba0_21_l : (0 : Int) ≤ a0_21.toInt) (ba0_21_u : a0_21.toInt ≤ (16 : Int)) (ba0_22_l : (0 : Int) ≤ a0_22.toInt) (ba0_22_u : a0_22.toInt ≤ (3 : Int)) (bfa0_20 : (md_S fa0_20)) (bfa0_17 : ((∀ k : Nat, 0 ≤ k → k ≤ 8 → (0 : Int) ≤ (fa0_17 k).toInt ∧ (fa0_17 k).toInt ≤ 8) ∧ (∀ k : Nat, 19 ≤ k → k ≤ 19 → (0 : Int) ≤ (fa0_17 k).toInt ∧ (fa0_17 k).toInt ≤ 8) ∧ (∀ k : Nat, 20 ≤ k → k ≤ 20 → (0 : Int) ≤ (fa0_17 k).toInt ∧ (fa0_17 k).toInt ≤ 19))) : Met l yX8_back wsX8_back ({ frames := 1, cells := 0, slots := 0, locals := 25 }) (va_Pc [.ref a0, .int a1] (ax_C dC dI sz [(a0, .inr (8, [Value.int a0_0, a0g_1, a0g_2, a0g_3, a0g_4, a0g_5, a0g_6, a0g_7, a0g_8, a0g_9, a0g_10, Value.int a0_11, a0g_12, a0g_13, a0g_14, a0g_15, a0g_16, Value.ref a0_17, a0g_18, a0g_19, Value.ref a0_20, Value.int a0_21, Value.int a0_22, a0g_23, a0g_24, a0g_25, a0g_26, a0g_27, a0g_28, a0g_29, a0g_30, a0g_31, a0g_32, a0g_33, a0g_34, a0g_35, a0g_36, a0g_37, a0g_38, a0g_39])), (a0_20, .inl (ka0_20, 69, .inl (fa0_20))), (a0_17, .inl (ka0_17, 23, .inl (fa0_17)))] [(ka0_20, .int), (ka0_17, .int)] (fun _ => True))) (va_Qi (fun (r : Int32) (_ : Unit) => ((r = 1 ∧ (0 : Int) ≤ a1.toInt ∧ a1.toInt ≤ (2 : Int) ∧ (1 : Int) ≤ a0_22.toInt ∧ a0_22.toInt ≤ (3 : Int)) ∨ (r = 0)) ∧ r.toInt = (Ff_X8_back a1.toInt a0_21.toInt a0_22.toInt (fl_A fa0_20) (fl_A fa0_17)).1) (fun (_ : Unit) (t : State) => ∃ na0_0 : Int32, ∃ na0_11 : Int32, ∃ na0_21 : Int32, ∃ nfa0_17 : Nat → Int32, ((0 : Int) ≤ na0_21.toInt ∧ na0_21.toInt ≤ 16) ∧ ((∀ k : Nat, 0 ≤ k → k ≤ 8 → (0 : Int) ≤ (nfa0_17 k).toInt ∧ (nfa0_17 k).toInt ≤ 8) ∧ (∀ k : Nat, 19 ≤ k → k ≤ 19 → (0 : Int) ≤ (nfa0_17 k).toInt ∧ (nfa0_17 k).toInt ≤ 8) ∧ (∀ k : Nat, 20 ≤ k → k ≤ 20 → (0 : Int) ≤ (nfa0_17 k).toInt ∧ (nfa0_17 k).toInt ≤ 19)) ∧ ((Ff_X8_back a1.toInt a0_21.toInt a0_22.toInt (fl_A fa0_20) (fl_A fa0_17)).2 = (na0_0.toInt, na0_11.toInt, na0_21.toInt, (fl_A nfa0_17))) ∧ ax_B dC dI (va_A [(a0, .inr (8, [Value.int a0_0, a0g_1, a0g_2, a0g_3, a0g_4, a0g_5, a0g_6, a0g_7, a0g_8, a0g_9, a0g_10, Value.int a0_11, a0g_12, a0g_13, a0g_14, a0g_15, a0g_16, Value.ref a0_17, a0g_18, a0g_19, Value.ref a0_20, Value.int a0_21, Value.int a0_22, a0g_23, a0g_24, a0g_25, a0g_26, a0g_27, a0g_28, a0g_29, a0g_30, a0g_31, a0g_32, a0g_33, a0g_34, a0g_35, a0g_36, a0g_37, a0g_38, a0g_39])), (a0_20, .inl (ka0_20, 69, .inl (fa0_20))), (a0_17, .inl (ka0_17, 23, .inl (fa0_17)))] sz) [(a0, .inr (8, [Value.int na0_0, a0g_1, a0g_2, a0g_3, a0g_4, a0g_5, a0g_6, a0g_7, a0g_8, a0g_9, a0g_10, Value.int na0_11, a0g_12, a0g_13, a0g_14, a0g_15, a0g_16, Value.ref a0_17, a0g_18, a0g_19, Value.ref a0_20, Value.int na0_21, Value.int a0_22, a0g_23, a0g_24, a0g_25, a0g_26, a0g_27, a0g_28, a0g_29, a0g_30, a0g_31, a0g_32, a0g_33, a0g_34, a0g_35, a0g_36, a0g_37, a0g_38, a0g_39])), (a0_20, .inl (ka0_20, 69, .inl (fa0_20))), (a0_17, .inl (ka0_17, 23, .inl (nfa0_17)))] [(ka0_20, .int), (ka0_17, .int)] t) (va_A [(a0, .inr (8, [Value.int a0_0, a0g_1, a0g_2, a0g_3, a0g_4, a0g_5, a0g_6, a0g_7, a0g_8, a0g_9, a0g_10, Value.int a0_11, a0g_12, a0g_13, a0g_14, a0g_15, a0g_16, Value.ref a0_17, a0g_18, a0g_19, Value.ref a0_20, Value.int a0_21, Value.int a0_22, a0g_23, a0g_24, a0g_25, a0g_26, a0g_27, a0g_28, a0g_29, a0g_30, a0g_31, a0g_32, a0g_33, a0g_34, a0g_35, a0g_36, a0g_37, a0g_38, a0g_39])), (a0_20, .inl (ka0_20, 69, .inl (fa0_20))), (a0_17, .inl (ka0_17, 23, .inl (fa0_17)))] sz)) 0 0 (va_A [(a0, .inr (8, [Value.int a0_0, a0g_1, a0g_2, a0g_3, a0g_4, a0g_5, a0g_6, a0g_7, a0g_8, a0g_9, a0g_10, Value.int a0_11, a0g_12, a0g_13, a0g_14, a0g_15, a0g_16, Value.ref a0_17, a0g_18, a0g_19, Value.ref a0_20, Value.int a0_21, Value.int a0_22, a0g_23, a0g_24, a0g_25, a0g_26, a0g_27, a0g_28, a0g_29, a0g_30, a0g_31, a0g_32, a0g_33, a0g_34, a0g_35, a0g_36, a0g_37, a0g_38, a0g_39])), (a0_20, .inl (ka0_20, 69, .inl (fa0_20))), (a0_17, .inl (ka0_17, 23, .inl (fa0_17)))] sz) := by
  refine Met.ofW (cc := cX8_back) (maxL := 2) (ret := (some .boolean)) (by decide) rfl ?_
  intro p e s m args below meth c s₁ B hml hv
  obtain ⟨rfl, hsz, hP, hK, hD0, hE⟩ := hv
  have hx := B.exec
  have hb := B.bytes
  have hr := B.returns
  have hts := atoms_spec (ws := wsX8_back) B.pre
  have hown : s.vm.findClass RX8 = some m.cls := findClass_of_methodNamed B.named
  have hlocks := B.notSynchronized
  subst hsz
  have hD := hD0.self (sz := s.heap.size)
  generalize hAe : va_A [(a0, .inr (8, [Value.int a0_0, a0g_1, a0g_2, a0g_3, a0g_4, a0g_5, a0g_6, a0g_7, a0g_8, a0g_9, a0g_10, Value.int a0_11, a0g_12, a0g_13, a0g_14, a0g_15, a0g_16, Value.ref a0_17, a0g_18, a0g_19, Value.ref a0_20, Value.int a0_21, Value.int a0_22, a0g_23, a0g_24, a0g_25, a0g_26, a0g_27, a0g_28, a0g_29, a0g_30, a0g_31, a0g_32, a0g_33, a0g_34, a0g_35, a0g_36, a0g_37, a0g_38, a0g_39])), (a0_20, .inl (ka0_20, 69, .inl (fa0_20))), (a0_17, .inl (ka0_17, 23, .inl (fa0_17)))] s.heap.size = A at hD ⊢
  have hA : ∀ q : Nat, s.heap.size ≤ q → A q := fun q h => by rw [← hAe]; exact Or.inr h
  have hS : va_S A s.heap s.heap [] := va_S.rf
  have hP : va_P (dC, dI) vwCl [(a0, .inr (8, [Value.int a0_0, a0g_1, a0g_2, a0g_3, a0g_4, a0g_5, a0g_6, a0g_7, a0g_8, a0g_9, a0g_10, Value.int a0_11, a0g_12, a0g_13, a0g_14, a0g_15, a0g_16, Value.ref a0_17, a0g_18, a0g_19, Value.ref a0_20, Value.int a0_21, Value.int a0_22, a0g_23, a0g_24, a0g_25, a0g_26, a0g_27, a0g_28, a0g_29, a0g_30, a0g_31, a0g_32, a0g_33, a0g_34, a0g_35, a0g_36, a0g_37, a0g_38, a0g_39])), (a0_20, .inl (ka0_20, 69, .inl (fa0_20))), (a0_17, .inl (ka0_17, 23, .inl (fa0_17)))] s.heap := hP
  have hl := lv_entry ([.ref a0, .int a1]) (n := 2) (Nat.le_of_ble_eq_true rfl)
  rw [lg_entry_eq]
  generalize (lg_sl ([.ref a0, .int a1]) ++ List.replicate (2 - (lg_sl ([.ref a0, .int a1])).length) Slot.unset).toArray = ls at hl ⊢
  have hl : lv_has ls 2 [(0, .ref a0), (1, .int a1)] := hl
  generalize hFX : Ff_X8_back a1.toInt a0_21.toInt a0_22.toInt (fl_A fa0_20) (fl_A fa0_17) = FX at ⊢
  have hF0 := hFX.symm.trans (Ff_X8_back.eq_1 a1.toInt a0_21.toInt a0_22.toInt (fl_A fa0_20) (fl_A fa0_17))
  refine lv_aload_n hx hb dX8_back_0 rfl (lv_at hl 0 rfl) ?_
  obtain ⟨hPc, hDc, hFc, hCc⟩ := zc_cut (wc := [(a0, .inr (8, [Value.int a0_0, a0g_1, a0g_2, a0g_3, a0g_4, a0g_5, a0g_6, a0g_7, a0g_8, a0g_9, a0g_10, Value.int a0_11, a0g_12, a0g_13, a0g_14, a0g_15, a0g_16, Value.ref a0_17, a0g_18, a0g_19, Value.ref a0_20, Value.int a0_21, Value.int a0_22, a0g_23, a0g_24, a0g_25, a0g_26, a0g_27, a0g_28, a0g_29, a0g_30, a0g_31, a0g_32, a0g_33, a0g_34, a0g_35, a0g_36, a0g_37, a0g_38, a0g_39]))]) hP hD hS hA [0] (by decide +kernel) rfl
  have hKc := hK.sub (tys' := []) [] rfl
  refine va_callv (va_runV (As := []) (rest := []) ⟨hx, hb, hml, hown, hts⟩ (f_X8_good l dC dI s.heap.size a0 a0_0 a0g_1 a0g_2 a0g_3 a0g_4 a0g_5 a0g_6 a0g_7 a0g_8 a0g_9 a0g_10 a0g_12 a0g_13 a0g_14 a0g_15 a0g_16 (Value.ref a0_17) a0g_18 a0g_19 (Value.ref a0_20) (Value.int a0_21) (Value.int a0_22) a0g_23 a0g_24 a0g_25 a0g_26 a0g_27 a0g_28 a0g_29 a0g_30 a0g_31 a0g_32 a0g_33 a0g_34 a0g_35 a0g_36 a0g_37 a0g_38 a0g_39 a0_11 ) (cwV 0 hts gX8_back_X8_good rfl rfl rfl zd_X8_good ⟨Nat.le_of_ble_eq_true rfl, Nat.le_of_ble_eq_true rfl⟩) ⟨ax_blind (fun _ _ _ _ _ => trivial), zr_8 hKc hPc (q0 := 0) rfl, ax_pre hPc hKc hDc (fun _ _ => trivial)⟩ rfl rfl hl.1 rfl (lv_room (Nat.le_of_ble_eq_true rfl)) dX8_back_1 ⟨Nat.le_of_ble_eq_true rfl, Nat.le_of_ble_eq_true rfl⟩) hS (fun q _ h => hFc q h) hFc (fun u t H locs ht hvm hw hB hz1 hk1 hS => ?_)
  obtain ⟨v1na0_0, v1na0_11, hraw1_0, hP1, hK1, hD1⟩ := hB
  rw [ht] at hP1
  obtain ⟨hP, hD⟩ := zc_back (w := [(a0, .inr (8, [Value.int v1na0_0, a0g_1, a0g_2, a0g_3, a0g_4, a0g_5, a0g_6, a0g_7, a0g_8, a0g_9, a0g_10, Value.int v1na0_11, a0g_12, a0g_13, a0g_14, a0g_15, a0g_16, Value.ref a0_17, a0g_18, a0g_19, Value.ref a0_20, Value.int a0_21, Value.int a0_22, a0g_23, a0g_24, a0g_25, a0g_26, a0g_27, a0g_28, a0g_29, a0g_30, a0g_31, a0g_32, a0g_33, a0g_34, a0g_35, a0g_36, a0g_37, a0g_38, a0g_39])), (a0_20, .inl (ka0_20, 69, .inl (fa0_20))), (a0_17, .inl (ka0_17, 23, .inl (fa0_17)))]) hP hD hCc hk1 hFc hP1 hD1 [.inr 0, .inl 1, .inl 2] (by decide +kernel) rfl
  have hc1 : Ff_X8_good = (v1na0_0.toInt, v1na0_11.toInt) := hraw1_0
  have hF0 := hF0.trans (fl_c2_eq hc1)
  refine lv_iload_n hx hb dX8_back_4 rfl (lv_at hl 1 rfl) ?_
  refine lv_iconst (v := 0) hx hb dX8_back_5 zk_iconst_0 ?_
  refine lv_aload_n hx hb dX8_back_6 rfl (lv_at hl 0 rfl) ?_
  refine va_get (D := (dC, dI)) (ci := 8) (v := .int a0_22) (C := RX8) (T := TX8) (N := 40) hx hb hts zi_X8_back_8 hown hK hP 0 rfl rfl 22 (by decide) (hts (.fieldLink RX8 179 "WaxTurnsModel" "images" "I") (List.mem_cons_of_mem _ (List.mem_append_left _ (List.mem_of_getElem? (i := 0) rfl)))) (fun _ h9 => h9) rfl dX8_back_7 ?_
  refine lv_iconst (v := 1) hx hb dX8_back_10 zk_iconst_1 ?_
  refine lv_isub hx hb dX8_back_11 ?_
  refine lv_topi (fun x11 ex11 => ?_)
  have qx11 : x11.toInt = a0_22.toInt - (1 : Int32).toInt := ai_sub ex11 ⟨ba0_22_l, ba0_22_u⟩ ⟨zq1, zq0⟩ (by decide) (by decide)
  have bx11 : (-1 : Int) ≤ x11.toInt ∧ x11.toInt ≤ 2 := ⟨by rw [qx11]; exact Int.sub_le_sub ba0_22_l zq0, by rw [qx11]; exact Int.sub_le_sub ba0_22_u zq1⟩
  have wx11 : x11.toInt = a0_22.toInt - 1 := qx11
  have hF0 := hF0.trans (fl_lt_eq (show x11.toInt = a0_22.toInt - 1 from qx11))
  obtain ⟨hPc, hDc, hFc, hCc⟩ := zc_cut (wc := []) hP hD hS hA [] (by decide +kernel) rfl
  have hKc := hK.sub (tys' := []) [] rfl
  refine va_calli (va_runS (As := [.int a1, .int 0, .int x11]) (rest := []) ⟨hx, hb, hml, hown, hts⟩ (f_X8_in l dC dI H.size a1 0 x11 ) (va_cwS 3 hts gX8_back_X8_in rfl rfl rfl zd_X8_in.2 ⟨Nat.le_of_ble_eq_true rfl, Nat.le_of_ble_eq_true rfl⟩) ⟨ax_blind (fun _ _ _ _ _ => trivial), ax_pre hPc hKc hDc (fun _ _ => trivial)⟩ rfl rfl hl.1 rfl (lv_room (Nat.le_of_ble_eq_true rfl)) dX8_back_12 ⟨Nat.le_of_ble_eq_true rfl, Nat.le_of_ble_eq_true rfl⟩) hS (fun q _ h => hFc q h) hFc (fun r12 u t H locs ht hvm hw hB hz1 hk1 hS => ?_)
  obtain ⟨hP1, hK1, hD1⟩ := hB
  rw [ht] at hP1
  obtain ⟨hP, hD⟩ := zc_back (w := [(a0, .inr (8, [Value.int v1na0_0, a0g_1, a0g_2, a0g_3, a0g_4, a0g_5, a0g_6, a0g_7, a0g_8, a0g_9, a0g_10, Value.int v1na0_11, a0g_12, a0g_13, a0g_14, a0g_15, a0g_16, Value.ref a0_17, a0g_18, a0g_19, Value.ref a0_20, Value.int a0_21, Value.int a0_22, a0g_23, a0g_24, a0g_25, a0g_26, a0g_27, a0g_28, a0g_29, a0g_30, a0g_31, a0g_32, a0g_33, a0g_34, a0g_35, a0g_36, a0g_37, a0g_38, a0g_39])), (a0_20, .inl (ka0_20, 69, .inl (fa0_20))), (a0_17, .inl (ka0_17, 23, .inl (fa0_17)))]) hP hD hCc hk1 hFc hP1 hD1 [.inl 0, .inl 1, .inl 2] (by decide +kernel) rfl
  obtain ⟨hw, hfr12⟩ := hw
  rw [show (0 : Int32).toInt = 0 from by decide] at hfr12
  have hc12 : Ff_X8_in a1.toInt 0 x11.toInt = r12.toInt := hfr12.symm
  have hF0 := hF0.trans (fl_lt_eq hc12.symm)
  rcases hw with hw | hw
  · obtain ⟨hw, h12⟩ := hw
    subst hw
    have l12k0_a1 : (0 : Int) ≤ a1.toInt := Int.le_trans zq5 h12.1
    have u12k0_a1 : a1.toInt ≤ (2 : Int) := Int.le_trans h12.2 bx11.2
    have l12k0_x11 : (0 : Int) ≤ x11.toInt := Int.le_trans zq5 (Int.le_trans h12.1 h12.2)
    have l12k0_a0_22 : (1 : Int) ≤ a0_22.toInt := by have h1 := wx11; have h2 := l12k0_x11; omega
    have hF0 := hF0.trans (if_pos (by decide))
    refine lv_if_ne (tgt := 24) hx hb dX8_back_15 (by decide) (fun _ => ?_) (fun c15 => absurd c15 (by decide +kernel))
    refine lv_aload_n hx hb dX8_back_24 rfl (lv_at hl 0 rfl) ?_
    refine va_get (D := (dC, dI)) (ci := 8) (v := .ref a0_20) (C := RX8) (T := TX8) (N := 40) hx hb hts zi_X8_back_8 hown hK hP 0 rfl rfl 20 (by decide) (hts (.fieldLink RX8 35 "WaxTurnsModel" "kept" "[I") (List.mem_cons_of_mem _ (List.mem_append_left _ (List.mem_of_getElem? (i := 1) rfl)))) (fun _ h9 => h9) rfl dX8_back_25 ?_
    refine lv_bipush (v := 23) hx hb dX8_back_28 zk_bipush_23 ?_
    refine lv_iload_n hx hb dX8_back_30 rfl (lv_at hl 1 rfl) ?_
    refine lv_imul hx hb dX8_back_31 ?_
    refine lv_topi (fun x31 ex31 => ?_)
    have qx31 : x31.toInt = (23 : Int32).toInt * a1.toInt ∧ (0 : Int) ≤ x31.toInt ∧ x31.toInt ≤ 46 := ai_mul ex31 ⟨zq170, zq171⟩ ⟨l12k0_a1, u12k0_a1⟩ (by decide) (by decide) zq216
    have wx31 : x31.toInt = 23 * a1.toInt := qx31.1
    have hF0 := hF0.trans (fl_lt_eq (show x31.toInt = 23 * a1.toInt from qx31.1))
    refine lv_aload_n hx hb dX8_back_32 rfl (lv_at hl 0 rfl) ?_
    refine va_get (D := (dC, dI)) (ci := 8) (v := .ref a0_17) (C := RX8) (T := TX8) (N := 40) hx hb hts zi_X8_back_8 hown hK hP 0 rfl rfl 17 (by decide) (hts (.fieldLink RX8 26 "WaxTurnsModel" "st" "[I") (List.mem_cons_of_mem _ (List.mem_append_left _ (List.mem_of_getElem? (i := 2) rfl)))) (fun _ h9 => h9) rfl dX8_back_33 ?_
    refine lv_iconst (v := 0) hx hb dX8_back_36 zk_iconst_0 ?_
    refine lv_bipush (v := 23) hx hb dX8_back_37 zk_bipush_23 ?_
    obtain ⟨hPc, hDc, hFc, hCc⟩ := zc_cut (wc := [(a0_20, .inl (ka0_20, 69, .inl (fa0_20))), (a0_17, .inl (ka0_17, 23, .inl (fa0_17)))]) hP hD hS hA [1, 2] (by decide +kernel) rfl
    have hKc := hK.sub (tys' := [(ka0_20, .int), (ka0_17, .int)]) [0, 1] rfl
    refine va_callv (va_runS (As := [.ref a0_20, .int x31, .ref a0_17, .int 0, .int 23]) (rest := []) ⟨hx, hb, hml, hown, hts⟩ (c_X8_copy_69_23 l dC dI H.size a0_20 x31 a0_17 0 23 ka0_20 fa0_20 ka0_17 fa0_17 qx31.2.1 qx31.2.2 zq5 zq6 zq170 zq171) (va_cwS 5 hts gX8_back_X8_copy rfl rfl rfl zd_X8_copy.2 ⟨Nat.le_of_ble_eq_true rfl, Nat.le_of_ble_eq_true rfl⟩) ⟨ax_blind (fun _ _ _ _ _ => trivial), ax_pre hPc hKc hDc (fun _ _ => trivial)⟩ rfl rfl hl.1 rfl (lv_room (Nat.le_of_ble_eq_true rfl)) dX8_back_39 ⟨Nat.le_of_ble_eq_true rfl, Nat.le_of_ble_eq_true rfl⟩) hS (fun q _ h => hFc q h) hFc (fun u t H locs ht hvm hw hB hz1 hk1 hS => ?_)
    obtain ⟨v39nfa3, hraw39_0, hP1, hK1, hD1⟩ := hB
    rw [ht] at hP1
    obtain ⟨hP, hD⟩ := zc_back (w := [(a0, .inr (8, [Value.int v1na0_0, a0g_1, a0g_2, a0g_3, a0g_4, a0g_5, a0g_6, a0g_7, a0g_8, a0g_9, a0g_10, Value.int v1na0_11, a0g_12, a0g_13, a0g_14, a0g_15, a0g_16, Value.ref a0_17, a0g_18, a0g_19, Value.ref a0_20, Value.int a0_21, Value.int a0_22, a0g_23, a0g_24, a0g_25, a0g_26, a0g_27, a0g_28, a0g_29, a0g_30, a0g_31, a0g_32, a0g_33, a0g_34, a0g_35, a0g_36, a0g_37, a0g_38, a0g_39])), (a0_20, .inl (ka0_20, 69, .inl (fa0_20))), (a0_17, .inl (ka0_17, 23, .inl (v39nfa3)))]) hP hD hCc hk1 hFc hP1 hD1 [.inl 0, .inr 0, .inr 1] (by decide +kernel) rfl
    have hc39 : va_cpy (fl_A fa0_20) (fl_A fa0_17) (x31.toInt.toNat) (0) 23 = (fl_A v39nfa3) := (fl_cpy hraw39_0).symm
    have hF0 := hF0.trans (fl_lt_eq hc39.symm)
    have bv39nfa3 : ((∀ k : Nat, 0 ≤ k → k ≤ 8 → (0 : Int) ≤ (v39nfa3 k).toInt ∧ (v39nfa3 k).toInt ≤ 8) ∧ (∀ k : Nat, 19 ≤ k → k ≤ 19 → (0 : Int) ≤ (v39nfa3 k).toInt ∧ (v39nfa3 k).toInt ≤ 8) ∧ (∀ k : Nat, 20 ≤ k → k ≤ 20 → (0 : Int) ≤ (v39nfa3 k).toInt ∧ (v39nfa3 k).toInt ≤ 19)) := cp_MS hraw39_0 (md_ix (u := a1) wx31 l12k0_a1) (by decide) bfa0_20
    refine lv_aload_n hx hb dX8_back_42 rfl (lv_at hl 0 rfl) ?_
    refine lv_iconst (v := 0) hx hb dX8_back_43 zk_iconst_0 ?_
    refine va_put (D := (dC, dI)) (ci := 8) (v := .int 0) (ty := .int) (C := RX8) (T := TX8) (N := 40) hx hb hts zi_X8_back_8 tyX8 tyX8_ok nmX8 hown hK hP hD hS 0 rfl rfl 21 (by decide) (hts (.fieldLink RX8 176 "WaxTurnsModel" "undos" "I") (List.mem_cons_of_mem _ (List.mem_append_left _ (List.mem_of_getElem? (i := 3) rfl)))) (fun _ h9 => h9) rfl (tyX8_ok 21 (by decide)) rfl rfl (Nat.le_of_ble_eq_true rfl) dX8_back_44 (fun H locs hP hD hS => ?_)
    obtain ⟨hP, hD⟩ := zc_re (w := [(a0, .inr (8, [Value.int v1na0_0, a0g_1, a0g_2, a0g_3, a0g_4, a0g_5, a0g_6, a0g_7, a0g_8, a0g_9, a0g_10, Value.int v1na0_11, a0g_12, a0g_13, a0g_14, a0g_15, a0g_16, Value.ref a0_17, a0g_18, a0g_19, Value.ref a0_20, Value.int 0, Value.int a0_22, a0g_23, a0g_24, a0g_25, a0g_26, a0g_27, a0g_28, a0g_29, a0g_30, a0g_31, a0g_32, a0g_33, a0g_34, a0g_35, a0g_36, a0g_37, a0g_38, a0g_39])), (a0_20, .inl (ka0_20, 69, .inl (fa0_20))), (a0_17, .inl (ka0_17, 23, .inl (v39nfa3)))]) hP hD rfl
    refine lv_iconst (v := 1) hx hb dX8_back_47 zk_iconst_1 ?_
    have hFe : FX = (1, v1na0_0.toInt, v1na0_11.toInt, 0, (fl_A v39nfa3)) := hF0
    exact W.zret (v := 1) hx hb hr rfl (fun t ht hW => ⟨⟨1, (), rfl, ⟨(Or.inl ⟨rfl, l12k0_a1, u12k0_a1, l12k0_a0_22, ba0_22_u⟩), (congrArg Prod.fst hFe).symm⟩, v1na0_0, v1na0_11, 0, v39nfa3, ⟨zq5, Int.le_trans zq6 (by decide)⟩, bv39nfa3, (congrArg Prod.snd hFe), by rw [ht]; exact hP, va_K.moved hW.alike hK, hD⟩, hS.F ht⟩) hS.2.2 dX8_back_48
  · obtain ⟨hw, h12⟩ := hw
    subst hw
    have hF0 := hF0.trans (if_neg (by decide))
    refine lv_if_ne (tgt := 24) hx hb dX8_back_15 (by decide) (fun c15 => absurd (by decide +kernel) c15) (fun _ => ?_)
    refine lv_aload_n hx hb dX8_back_18 rfl (lv_at hl 0 rfl) ?_
    refine lv_iconst (v := 1) hx hb dX8_back_19 zk_iconst_1 ?_
    obtain ⟨hPc, hDc, hFc, hCc⟩ := zc_cut (wc := [(a0, .inr (8, [Value.int v1na0_0, a0g_1, a0g_2, a0g_3, a0g_4, a0g_5, a0g_6, a0g_7, a0g_8, a0g_9, a0g_10, Value.int v1na0_11, a0g_12, a0g_13, a0g_14, a0g_15, a0g_16, Value.ref a0_17, a0g_18, a0g_19, Value.ref a0_20, Value.int a0_21, Value.int a0_22, a0g_23, a0g_24, a0g_25, a0g_26, a0g_27, a0g_28, a0g_29, a0g_30, a0g_31, a0g_32, a0g_33, a0g_34, a0g_35, a0g_36, a0g_37, a0g_38, a0g_39]))]) hP hD hS hA [0] (by decide +kernel) rfl
    have hKc := hK.sub (tys' := []) [] rfl
    refine va_calli (va_runV (As := [.int 1]) (rest := []) ⟨hx, hb, hml, hown, hts⟩ (f_X8_isNot l dC dI H.size a0 1 (Value.int v1na0_0) a0g_1 a0g_2 a0g_3 a0g_4 a0g_5 a0g_6 a0g_7 a0g_8 a0g_9 a0g_10 a0g_12 a0g_13 a0g_14 a0g_15 a0g_16 (Value.ref a0_17) a0g_18 a0g_19 (Value.ref a0_20) (Value.int a0_21) (Value.int a0_22) a0g_23 a0g_24 a0g_25 a0g_26 a0g_27 a0g_28 a0g_29 a0g_30 a0g_31 a0g_32 a0g_33 a0g_34 a0g_35 a0g_36 a0g_37 a0g_38 a0g_39 v1na0_11 ) (cwV 1 hts gX8_back_X8_isNot rfl rfl rfl zd_X8_isNot ⟨Nat.le_of_ble_eq_true rfl, Nat.le_of_ble_eq_true rfl⟩) ⟨ax_blind (fun _ _ _ _ _ => trivial), zr_8 hKc hPc (q0 := 0) rfl, ax_pre hPc hKc hDc (fun _ _ => trivial)⟩ rfl rfl hl.1 rfl (lv_room (Nat.le_of_ble_eq_true rfl)) dX8_back_20 ⟨Nat.le_of_ble_eq_true rfl, Nat.le_of_ble_eq_true rfl⟩) hS (fun q _ h => hFc q h) hFc (fun r20 u t H locs ht hvm hw hB hz1 hk1 hS => ?_)
    obtain ⟨v20na0_11, hraw20_0, hP1, hK1, hD1⟩ := hB
    rw [ht] at hP1
    obtain ⟨hP, hD⟩ := zc_back (w := [(a0, .inr (8, [Value.int v1na0_0, a0g_1, a0g_2, a0g_3, a0g_4, a0g_5, a0g_6, a0g_7, a0g_8, a0g_9, a0g_10, Value.int v20na0_11, a0g_12, a0g_13, a0g_14, a0g_15, a0g_16, Value.ref a0_17, a0g_18, a0g_19, Value.ref a0_20, Value.int a0_21, Value.int a0_22, a0g_23, a0g_24, a0g_25, a0g_26, a0g_27, a0g_28, a0g_29, a0g_30, a0g_31, a0g_32, a0g_33, a0g_34, a0g_35, a0g_36, a0g_37, a0g_38, a0g_39])), (a0_20, .inl (ka0_20, 69, .inl (fa0_20))), (a0_17, .inl (ka0_17, 23, .inl (fa0_17)))]) hP hD hCc hk1 hFc hP1 hD1 [.inr 0, .inl 1, .inl 2] (by decide +kernel) rfl
    obtain ⟨hw, hfr20⟩ := hw
    rw [show (1 : Int32).toInt = 1 from by decide] at hfr20 hraw20_0
    have hc20 : Ff_X8_isNot 1 = (r20.toInt, v20na0_11.toInt) := Prod.ext hfr20.symm hraw20_0
    have hF0 := hF0.trans (fl_c2_eq hc20)
    have hw : r20 = 0 := hw
    have hw := hw.symm
    subst hw
    have hFe : FX = (0, v1na0_0.toInt, v20na0_11.toInt, a0_21.toInt, (fl_A fa0_17)) := hF0
    exact W.zret (v := 0) hx hb hr rfl (fun t ht hW => ⟨⟨0, (), rfl, ⟨(Or.inr (rfl)), (congrArg Prod.fst hFe).symm⟩, v1na0_0, v20na0_11, a0_21, fa0_17, ⟨ba0_21_l, ba0_21_u⟩, bfa0_17, (congrArg Prod.snd hFe), by rw [ht]; exact hP, va_K.moved hW.alike hK, hD⟩, hS.F ht⟩) hS.2.2 dX8_back_23

set_option maxHeartbeats 4000000 in
set_option maxRecDepth 100000 in
theorem f_X7_laterTurn (l : Launch) (dC : Nat → ClassId) (dI : Nat → Nat → Nat) (sz : Nat) (a1 : Int32) (a2 : Int32) (a3 : Int32) (a4 : Int32) (a5 : Int32) (ba1_l : (0 : Int) ≤ a1.toInt) (ba1_u : a1.toInt ≤ (9 : Int)) (ba2_l : (0 : Int) ≤ a2.toInt) (ba2_u : a2.toInt ≤ (8 : Int)) (ba3_l : (0 : Int) ≤ a3.toInt) (ba3_u : a3.toInt ≤ (8 : Int)) (ba4_l : (0 : Int) ≤ a4.toInt) (ba4_u : a4.toInt ≤ (8 : Int)) : Met l yX7_laterTurn wsX7_laterTurn ({ frames := 0, cells := 0, slots := 0, locals := 0 }) (va_Pc [.int a1, .int a2, .int a3, .int a4, .int a5] (ax_C dC dI sz [] [] (fun _ => True))) (va_Qi (fun (r : Int32) (_ : Unit) => ((0 : Int) ≤ r.toInt ∧ r.toInt ≤ (8 : Int)) ∧ r.toInt = Ff_X7_laterTurn a1.toInt a2.toInt a3.toInt a4.toInt a5.toInt) (fun (_ : Unit) (t : State) => ax_B dC dI (va_A [] sz) [] [] t) (va_A [] sz)) 0 0 (va_A [] sz) := by
  refine Met.ofW (cc := cX7_laterTurn) (maxL := 9) (ret := (some .int)) (by decide) rfl ?_
  intro p e s m args below meth c s₁ B hml hv
  obtain ⟨rfl, hsz, hP, hK, hD0, hE⟩ := hv
  have hx := B.exec
  have hb := B.bytes
  have hr := B.returns
  have hts := atoms_spec (ws := wsX7_laterTurn) B.pre
  have hown : s.vm.findClass RX7 = some m.cls := findClass_of_methodNamed B.named
  have hlocks := B.notSynchronized
  subst hsz
  have hD := hD0.self (sz := s.heap.size)
  generalize hAe : va_A [] s.heap.size = A at hD ⊢
  have hA : ∀ q : Nat, s.heap.size ≤ q → A q := fun q h => by rw [← hAe]; exact Or.inr h
  have hS : va_S A s.heap s.heap [] := va_S.rf
  have hP : va_P (dC, dI) vwCl [] s.heap := hP
  have hl := lv_entry ([.int a1, .int a2, .int a3, .int a4, .int a5]) (n := 9) (Nat.le_of_ble_eq_true rfl)
  rw [lg_entry_eq]
  generalize (lg_sl ([.int a1, .int a2, .int a3, .int a4, .int a5]) ++ List.replicate (9 - (lg_sl ([.int a1, .int a2, .int a3, .int a4, .int a5])).length) Slot.unset).toArray = ls at hl ⊢
  have hl : lv_has ls 9 [(0, .int a1), (1, .int a2), (2, .int a3), (3, .int a4), (4, .int a5)] := hl
  generalize hFX : Ff_X7_laterTurn a1.toInt a2.toInt a3.toInt a4.toInt a5.toInt = FX at ⊢
  have hF0 := hFX.symm.trans (Ff_X7_laterTurn.eq_1 a1.toInt a2.toInt a3.toInt a4.toInt a5.toInt)
  refine ai_open (fun K hK0 => ?_)
  refine (hK0 _ _ _).mpr ?_
  refine lv_iload_n hx hb dX7_laterTurn_0 rfl (lv_at hl 0 rfl) ?_
  refine lv_if_gt (tgt := 6) hx hb dX7_laterTurn_1 (by decide) (fun c1 => ?_) (fun c1 => ?_)
  · have gc1 := ai_lt c1
    have l1t_a1 : (1 : Int) ≤ a1.toInt := ai_ltlo gc1 zq5
    have hF0 := hF0.trans (if_pos (show 0 < a1.toInt from gc1))
    refine lv_iload_n hx hb dX7_laterTurn_6 rfl (lv_at hl 1 rfl) ?_
    refine lv_istore (lv' := [(5, .int a2), (0, .int a1), (1, .int a2), (2, .int a3), (3, .int a4), (4, .int a5)]) hx hb dX7_laterTurn_7 hl (by decide) rfl (fun ls hl => ?_)
    refine lv_iload_n hx hb dX7_laterTurn_9 rfl (lv_at hl 3 rfl) ?_
    refine lv_istore (lv' := [(6, .int a3), (5, .int a2), (0, .int a1), (1, .int a2), (2, .int a3), (3, .int a4), (4, .int a5)]) hx hb dX7_laterTurn_10 hl (by decide) rfl (fun ls hl => ?_)
    refine lv_iload_n hx hb dX7_laterTurn_12 rfl (lv_at hl 5 rfl) ?_
    refine lv_istore (lv' := [(7, .int a4), (6, .int a3), (5, .int a2), (0, .int a1), (1, .int a2), (2, .int a3), (3, .int a4), (4, .int a5)]) hx hb dX7_laterTurn_13 hl (by decide) rfl (fun ls hl => ?_)
    refine lv_iload hx hb dX7_laterTurn_15 (lv_at hl 7 rfl) ?_
    refine lv_istore (lv' := [(8, .int a5), (7, .int a4), (6, .int a3), (5, .int a2), (0, .int a1), (1, .int a2), (2, .int a3), (3, .int a4), (4, .int a5)]) hx hb dX7_laterTurn_17 hl (by decide) rfl (fun ls hl => ?_)
    have J19 : ∀ (n : Nat) (j19l8 : Int32) (j19l7 : Int32) (j19l6 : Int32) (j19l5 : Int32) (H : Heap) (locs : List Loc) (ls : Array Slot), j19l8.toInt - (-2147483649 : Int) ≤ (n : Int) → (0 : Int) ≤ j19l7.toInt → j19l7.toInt ≤ (8 : Int) → (0 : Int) ≤ j19l6.toInt → j19l6.toInt ≤ (8 : Int) → (0 : Int) ≤ j19l5.toInt → j19l5.toInt ≤ (8 : Int) → (FX = fl_wh (fun t9 => Sf_X7_laterTurn_19_1 a1.toInt t9.1 t9.2.1 t9.2.2.1 t9.2.2.2) 0 n (j19l8.toInt, j19l7.toInt, j19l6.toInt, j19l5.toInt)) → va_P (dC, dI) vwCl [] H → va_D A [] → va_S A s.heap H locs → lv_has ls 9 [(0, .int a1), (5, .int j19l5), (6, .int j19l6), (7, .int j19l7), (8, .int j19l8)] → K H locs (F0 m 19 ls []) := by
      intro n
      induction n with
      | zero =>
        intro j19l8 j19l7 j19l6 j19l5 H locs ls hm bj19l7_l bj19l7_u bj19l6_l bj19l6_u bj19l5_l bj19l5_u hF0 hP hD hS hl
        have h8 := ai_min j19l8
        have h9 := ai_max j19l8
        exact absurd hm (by omega)
      | succ n ih19 =>
        intro j19l8 j19l7 j19l6 j19l5 H locs ls hm bj19l7_l bj19l7_u bj19l6_l bj19l6_u bj19l5_l bj19l5_u hF0 hP hD hS hl
        refine (hK0 _ _ _).mpr ?_
        have hm19 := hm
        obtain ⟨SX19, hSX19⟩ : ∃ q9, Sf_X7_laterTurn_19_1 a1.toInt j19l8.toInt j19l7.toInt j19l6.toInt j19l5.toInt = q9 := ⟨_, rfl⟩
        have hF1 := hSX19.symm.trans (Sf_X7_laterTurn_19_1.eq_1 a1.toInt j19l8.toInt j19l7.toInt j19l6.toInt j19l5.toInt)
        refine lv_iload hx hb dX7_laterTurn_19 (lv_at hl 4 rfl) ?_
        refine lv_if_le (tgt := 74) hx hb dX7_laterTurn_21 (by decide) (fun c21 => ?_) (fun c21 => ?_)
        · have gc21 := ai_le c21
          have u21t_j19l8 : j19l8.toInt ≤ (0 : Int) := Int.le_trans gc21 zq6
          have hF1 := hF1.trans (if_pos (show j19l8.toInt ≤ 0 from gc21))
          have hF0 := hF0.trans (fl_wh_r (hSX19.trans hF1))
          refine lv_iload hx hb dX7_laterTurn_74 (lv_at hl 3 rfl) ?_
          have hFe : FX = j19l7.toInt := hF0
          exact W.iret (v := j19l7) hx hb hr (fun t ht hW => ⟨⟨j19l7, (), rfl, ⟨⟨bj19l7_l, bj19l7_u⟩, hFe.symm⟩, by rw [ht]; exact hP, va_K.moved hW.alike hK, hD⟩, hS.F ht⟩) hS.2.2 dX7_laterTurn_76
        · have gc21 := ai_nle c21
          have l21f_j19l8 : (1 : Int) ≤ j19l8.toInt := ai_ltlo gc21 zq5
          have hF1 := hF1.trans (if_neg (show ¬ (j19l8.toInt ≤ 0) from Int.not_le.mpr gc21))
          refine lv_iload hx hb dX7_laterTurn_24 (lv_at hl 4 rfl) ?_
          refine lv_iconst (v := 1) hx hb dX7_laterTurn_26 zk_iconst_1 ?_
          refine lv_iand hx hb dX7_laterTurn_27 ?_
          refine lv_topi (fun x27 ex27 => ?_)
          have fqx27 := fl_and_eq ex27
          have hF1 := hF1.trans (fl_lt_eq (show x27.toInt = fl_and j19l8.toInt 1 from fqx27))
          refine lv_iconst (v := 1) hx hb dX7_laterTurn_28 zk_iconst_1 ?_
          have J44 : ∀ (j44l7 : Int32) (H : Heap) (locs : List Loc) (ls : Array Slot), (0 : Int) ≤ j44l7.toInt → j44l7.toInt ≤ (8 : Int) → (SX19 = Gf_X7_laterTurn_44_1 a1.toInt j19l8.toInt j19l6.toInt j19l5.toInt j44l7.toInt) → va_P (dC, dI) vwCl [] H → va_D A [] → va_S A s.heap H locs → lv_has ls 9 [(0, .int a1), (5, .int j19l5), (6, .int j19l6), (7, .int j44l7), (8, .int j19l8)] → K H locs (F0 m 44 ls []) := by
            intro j44l7 H locs ls  bj44l7_l bj44l7_u hF1 hP hD hS hl
            refine (hK0 _ _ _).mpr ?_
            have hF1 := hF1.trans (Gf_X7_laterTurn_44_1.eq_1 a1.toInt j19l8.toInt j19l6.toInt j19l5.toInt j44l7.toInt)
            refine lv_iload hx hb dX7_laterTurn_44 (lv_at hl 2 rfl) ?_
            refine lv_iload hx hb dX7_laterTurn_46 (lv_at hl 1 rfl) ?_
            refine lv_imul hx hb dX7_laterTurn_48 ?_
            refine lv_topi (fun x48 ex48 => ?_)
            have qx48 : x48.toInt = j19l6.toInt * j19l5.toInt ∧ (0 : Int) ≤ x48.toInt ∧ x48.toInt ≤ 64 := ai_mul ex48 ⟨bj19l6_l, bj19l6_u⟩ ⟨bj19l5_l, bj19l5_u⟩ (by decide) (by decide) zq18
            have hF1 := hF1.trans (fl_lt_eq (show x48.toInt = j19l6.toInt * j19l5.toInt from qx48.1))
            refine lv_iload hx hb dX7_laterTurn_49 (lv_at hl 2 rfl) ?_
            refine lv_iadd hx hb dX7_laterTurn_51 ?_
            refine lv_topi (fun x51 ex51 => ?_)
            have qx51 : x51.toInt = x48.toInt + j19l6.toInt := ai_add ex51 ⟨qx48.2.1, qx48.2.2⟩ ⟨bj19l6_l, bj19l6_u⟩ (by decide) (by decide)
            have bx51 : (0 : Int) ≤ x51.toInt ∧ x51.toInt ≤ 72 := ⟨by rw [qx51]; exact Int.add_le_add qx48.2.1 bj19l6_l, by rw [qx51]; exact Int.add_le_add qx48.2.2 bj19l6_u⟩
            have hF1 := hF1.trans (fl_lt_eq (show x51.toInt = x48.toInt + j19l6.toInt from qx51))
            refine lv_iload_n hx hb dX7_laterTurn_52 rfl (lv_at hl 0 rfl) ?_
            refine lv_irem hx hb dX7_laterTurn_53 (ai_nz l1t_a1 (by decide)) ?_
            refine lv_topi (fun x53 ex53 => ?_)
            have qx53 := ai_rem2 ex53 bx51.1 (Int.lt_of_lt_of_le zq19 l1t_a1) ba1_u
            have hF1 := hF1.trans (fl_lt_eq (show x53.toInt = x51.toInt % a1.toInt from qx53.1))
            refine lv_istore (lv' := [(6, .int x53), (0, .int a1), (5, .int j19l5), (7, .int j44l7), (8, .int j19l8)]) hx hb dX7_laterTurn_54 hl (by decide) rfl (fun ls hl => ?_)
            refine lv_iload hx hb dX7_laterTurn_56 (lv_at hl 2 rfl) ?_
            refine lv_iload hx hb dX7_laterTurn_58 (lv_at hl 2 rfl) ?_
            refine lv_imul hx hb dX7_laterTurn_60 ?_
            refine lv_topi (fun x60 ex60 => ?_)
            have qx60 : x60.toInt = j19l5.toInt * j19l5.toInt ∧ (0 : Int) ≤ x60.toInt ∧ x60.toInt ≤ 64 := ai_mul ex60 ⟨bj19l5_l, bj19l5_u⟩ ⟨bj19l5_l, bj19l5_u⟩ (by decide) (by decide) zq18
            have hF1 := hF1.trans (fl_lt_eq (show x60.toInt = j19l5.toInt * j19l5.toInt from qx60.1))
            refine lv_iload_n hx hb dX7_laterTurn_61 rfl (lv_at hl 1 rfl) ?_
            refine lv_irem hx hb dX7_laterTurn_62 (ai_nz l1t_a1 (by decide)) ?_
            refine lv_topi (fun x62 ex62 => ?_)
            have qx62 := ai_rem2 ex62 qx60.2.1 (Int.lt_of_lt_of_le zq19 l1t_a1) ba1_u
            have hF1 := hF1.trans (fl_lt_eq (show x62.toInt = x60.toInt % a1.toInt from qx62.1))
            refine lv_istore (lv' := [(5, .int x62), (6, .int x53), (0, .int a1), (7, .int j44l7), (8, .int j19l8)]) hx hb dX7_laterTurn_63 hl (by decide) rfl (fun ls hl => ?_)
            refine lv_iload hx hb dX7_laterTurn_65 (lv_at hl 4 rfl) ?_
            refine lv_iconst (v := 1) hx hb dX7_laterTurn_67 zk_iconst_1 ?_
            refine lv_ishr hx hb dX7_laterTurn_68 ?_
            refine lv_topi (fun x68 ex68 => ?_)
            have qx68 : x68.toInt = j19l8.toInt / 2 := ai_shr1 ex68
            have bx68 : (0 : Int) ≤ x68.toInt ∧ x68.toInt ≤ 1073741823 := by have h1 : (1 : Int) ≤ j19l8.toInt := l21f_j19l8; have h2 : j19l8.toInt ≤ (2147483647 : Int) := (ai_max j19l8); omega
            have hF1 := hF1.trans (fl_lt_eq (show x68.toInt = j19l8.toInt / 2 from qx68))
            refine lv_istore (lv' := [(8, .int x68), (5, .int x62), (6, .int x53), (0, .int a1), (7, .int j44l7)]) hx hb dX7_laterTurn_69 hl (by decide) rfl (fun ls hl => ?_)
            refine lv_goto (tgt := 19) hx hb dX7_laterTurn_71 (by decide) ?_
            exact (hK0 _ _ _).mp (ih19 x68 j44l7 x53 x62 _ _ _ (by have h0 := qx68; omega) bj44l7_l bj44l7_u qx53.2.1 qx53.2.2 qx62.2.1 qx62.2.2 (hF0.trans (fl_wh_l (hSX19.trans hF1))) hP hD hS (lv_sub hl [3, 1, 2, 4, 0] rfl))
          refine lv_icmp_ne (tgt := 44) hx hb dX7_laterTurn_29 (by decide) (fun c29 => ?_) (fun c29 => ?_)
          · have gc29 := ai_ne c29
            have hF1 := hF1.trans (if_neg (show ¬ (x27.toInt = 1) from  gc29))
            exact (hK0 _ _ _).mp (J44 j19l7 _ _ _  bj19l7_l bj19l7_u hF1 hP hD hS (lv_sub hl [0, 1, 2, 3, 4] rfl))
          · have gc29 := ai_eq c29
            have u29f_x27 : x27.toInt ≤ (1 : Int) := Int.le_trans (Int.le_of_eq gc29) zq0
            have l29f_x27 : (1 : Int) ≤ x27.toInt := Int.le_trans zq1 (Int.le_of_eq gc29.symm)
            have hF1 := hF1.trans (if_pos (show x27.toInt = 1 from gc29))
            refine lv_iload hx hb dX7_laterTurn_32 (lv_at hl 3 rfl) ?_
            refine lv_iload hx hb dX7_laterTurn_34 (lv_at hl 1 rfl) ?_
            refine lv_imul hx hb dX7_laterTurn_36 ?_
            refine lv_topi (fun x36 ex36 => ?_)
            have qx36 : x36.toInt = j19l7.toInt * j19l5.toInt ∧ (0 : Int) ≤ x36.toInt ∧ x36.toInt ≤ 64 := ai_mul ex36 ⟨bj19l7_l, bj19l7_u⟩ ⟨bj19l5_l, bj19l5_u⟩ (by decide) (by decide) zq18
            have hF1 := hF1.trans (fl_lt_eq (show x36.toInt = j19l7.toInt * j19l5.toInt from qx36.1))
            refine lv_iload hx hb dX7_laterTurn_37 (lv_at hl 2 rfl) ?_
            refine lv_iadd hx hb dX7_laterTurn_39 ?_
            refine lv_topi (fun x39 ex39 => ?_)
            have qx39 : x39.toInt = x36.toInt + j19l6.toInt := ai_add ex39 ⟨qx36.2.1, qx36.2.2⟩ ⟨bj19l6_l, bj19l6_u⟩ (by decide) (by decide)
            have bx39 : (0 : Int) ≤ x39.toInt ∧ x39.toInt ≤ 72 := ⟨by rw [qx39]; exact Int.add_le_add qx36.2.1 bj19l6_l, by rw [qx39]; exact Int.add_le_add qx36.2.2 bj19l6_u⟩
            have hF1 := hF1.trans (fl_lt_eq (show x39.toInt = x36.toInt + j19l6.toInt from qx39))
            refine lv_iload_n hx hb dX7_laterTurn_40 rfl (lv_at hl 0 rfl) ?_
            refine lv_irem hx hb dX7_laterTurn_41 (ai_nz l1t_a1 (by decide)) ?_
            refine lv_topi (fun x41 ex41 => ?_)
            have qx41 := ai_rem2 ex41 bx39.1 (Int.lt_of_lt_of_le zq19 l1t_a1) ba1_u
            have hF1 := hF1.trans (fl_lt_eq (show x41.toInt = x39.toInt % a1.toInt from qx41.1))
            refine lv_istore (lv' := [(7, .int x41), (0, .int a1), (5, .int j19l5), (6, .int j19l6), (8, .int j19l8)]) hx hb dX7_laterTurn_42 hl (by decide) rfl (fun ls hl => ?_)
            exact (hK0 _ _ _).mp (J44 x41 _ _ _  qx41.2.1 qx41.2.2 hF1 hP hD hS (lv_sub hl [1, 2, 3, 0, 4] rfl))
    exact (hK0 _ _ _).mp (J19 4294967296 a5 a4 a3 a2 _ _ _ (by have h1 : (-2147483648 : Int) ≤ a5.toInt := (ai_min a5); have h2 : a5.toInt ≤ (2147483647 : Int) := (ai_max a5); omega) ba4_l ba4_u ba3_l ba3_u ba2_l ba2_u hF0 hP hD hS (lv_sub hl [4, 3, 2, 1, 0] rfl))
  · have gc1 := ai_nlt c1
    have u1f_a1 : a1.toInt ≤ (0 : Int) := Int.le_trans gc1 zq6
    have hF0 := hF0.trans (if_neg (show ¬ (0 < a1.toInt) from Int.not_lt.mpr gc1))
    refine lv_iconst (v := 0) hx hb dX7_laterTurn_4 zk_iconst_0 ?_
    have hFe : FX = 0 := hF0
    exact W.iret (v := 0) hx hb hr (fun t ht hW => ⟨⟨0, (), rfl, ⟨⟨zq5, (Int.le_trans zq6 zq20)⟩, hFe.symm⟩, by rw [ht]; exact hP, va_K.moved hW.alike hK, hD⟩, hS.F ht⟩) hS.2.2 dX7_laterTurn_5

set_option maxHeartbeats 4000000 in
set_option maxRecDepth 100000 in
theorem f_X7_turnFromNow (l : Launch) (dC : Nat → ClassId) (dI : Nat → Nat → Nat) (sz : Nat) (a0 : Nat) (a1 : Int32) (a0g_0 a0g_2 a0g_3 a0g_4 a0g_5 a0g_6 a0g_8 a0g_9 a0g_10 : Value) (a0_1 : Nat) (a0_7 : Nat) (a0_7_0 : Int32) (a0_7g_1 a0_7g_2 a0_7g_3 a0_7g_4 a0_7g_7 a0_7g_8 a0_7g_9 a0_7g_10 a0_7g_11 a0_7g_12 a0_7g_13 a0_7g_14 : Value) (a0_7_5 : Int32) (a0_7_6 : Int32) (a0_1g_0 a0_1g_2 a0_1g_3 a0_1g_4 a0_1g_5 a0_1g_6 : Value) (a0_1_1 : Int32) (ba0_7_0_l : (0 : Int) ≤ a0_7_0.toInt) (ba0_7_0_u : a0_7_0.toInt ≤ (9 : Int)) (ba0_7_5_l : (0 : Int) ≤ a0_7_5.toInt) (ba0_7_5_u : a0_7_5.toInt ≤ (8 : Int)) (ba0_7_6_l : (0 : Int) ≤ a0_7_6.toInt) (ba0_7_6_u : a0_7_6.toInt ≤ (8 : Int)) (ba0_1_1_l : (0 : Int) ≤ a0_1_1.toInt) (ba0_1_1_u : a0_1_1.toInt ≤ (8 : Int)) : Met l yX7_turnFromNow wsX7_turnFromNow ({ frames := 1, cells := 0, slots := 0, locals := 28 }) (va_Pc [.ref a0, .int a1] (ax_C dC dI sz [(a0, .inr (7, [a0g_0, .ref a0_1, a0g_2, a0g_3, a0g_4, a0g_5, a0g_6, .ref a0_7, a0g_8, a0g_9, a0g_10])), (a0_7, .inr (0, [.int a0_7_0, a0_7g_1, a0_7g_2, a0_7g_3, a0_7g_4, .int a0_7_5, .int a0_7_6, a0_7g_7, a0_7g_8, a0_7g_9, a0_7g_10, a0_7g_11, a0_7g_12, a0_7g_13, a0_7g_14])), (a0_1, .inr (5, [a0_1g_0, .int a0_1_1, a0_1g_2, a0_1g_3, a0_1g_4, a0_1g_5, a0_1g_6]))] [] (fun _ => True))) (va_Qi (fun (r : Int32) (_ : Unit) => ((0 : Int) ≤ r.toInt ∧ r.toInt ≤ (8 : Int)) ∧ r.toInt = Ff_X7_turnFromNow a1.toInt a0_7_0.toInt a0_7_5.toInt a0_7_6.toInt a0_1_1.toInt) (fun (_ : Unit) (t : State) => ax_B dC dI (va_A [(a0, .inr (7, [a0g_0, .ref a0_1, a0g_2, a0g_3, a0g_4, a0g_5, a0g_6, .ref a0_7, a0g_8, a0g_9, a0g_10])), (a0_7, .inr (0, [.int a0_7_0, a0_7g_1, a0_7g_2, a0_7g_3, a0_7g_4, .int a0_7_5, .int a0_7_6, a0_7g_7, a0_7g_8, a0_7g_9, a0_7g_10, a0_7g_11, a0_7g_12, a0_7g_13, a0_7g_14])), (a0_1, .inr (5, [a0_1g_0, .int a0_1_1, a0_1g_2, a0_1g_3, a0_1g_4, a0_1g_5, a0_1g_6]))] sz) [(a0, .inr (7, [a0g_0, .ref a0_1, a0g_2, a0g_3, a0g_4, a0g_5, a0g_6, .ref a0_7, a0g_8, a0g_9, a0g_10])), (a0_7, .inr (0, [.int a0_7_0, a0_7g_1, a0_7g_2, a0_7g_3, a0_7g_4, .int a0_7_5, .int a0_7_6, a0_7g_7, a0_7g_8, a0_7g_9, a0_7g_10, a0_7g_11, a0_7g_12, a0_7g_13, a0_7g_14])), (a0_1, .inr (5, [a0_1g_0, .int a0_1_1, a0_1g_2, a0_1g_3, a0_1g_4, a0_1g_5, a0_1g_6]))] [] t) (va_A [(a0, .inr (7, [a0g_0, .ref a0_1, a0g_2, a0g_3, a0g_4, a0g_5, a0g_6, .ref a0_7, a0g_8, a0g_9, a0g_10])), (a0_7, .inr (0, [.int a0_7_0, a0_7g_1, a0_7g_2, a0_7g_3, a0_7g_4, .int a0_7_5, .int a0_7_6, a0_7g_7, a0_7g_8, a0_7g_9, a0_7g_10, a0_7g_11, a0_7g_12, a0_7g_13, a0_7g_14])), (a0_1, .inr (5, [a0_1g_0, .int a0_1_1, a0_1g_2, a0_1g_3, a0_1g_4, a0_1g_5, a0_1g_6]))] sz)) 0 0 (va_A [(a0, .inr (7, [a0g_0, .ref a0_1, a0g_2, a0g_3, a0g_4, a0g_5, a0g_6, .ref a0_7, a0g_8, a0g_9, a0g_10])), (a0_7, .inr (0, [.int a0_7_0, a0_7g_1, a0_7g_2, a0_7g_3, a0_7g_4, .int a0_7_5, .int a0_7_6, a0_7g_7, a0_7g_8, a0_7g_9, a0_7g_10, a0_7g_11, a0_7g_12, a0_7g_13, a0_7g_14])), (a0_1, .inr (5, [a0_1g_0, .int a0_1_1, a0_1g_2, a0_1g_3, a0_1g_4, a0_1g_5, a0_1g_6]))] sz) := by
  refine Met.ofW (cc := cX7_turnFromNow) (maxL := 2) (ret := (some .int)) (by decide) rfl ?_
  intro p e s m args below meth c s₁ B hml hv
  obtain ⟨rfl, hsz, hP, hK, hD0, hE⟩ := hv
  have hx := B.exec
  have hb := B.bytes
  have hr := B.returns
  have hts := atoms_spec (ws := wsX7_turnFromNow) B.pre
  have hown : s.vm.findClass RX7 = some m.cls := findClass_of_methodNamed B.named
  have hlocks := B.notSynchronized
  subst hsz
  have hD := hD0.self (sz := s.heap.size)
  generalize hAe : va_A [(a0, .inr (7, [a0g_0, .ref a0_1, a0g_2, a0g_3, a0g_4, a0g_5, a0g_6, .ref a0_7, a0g_8, a0g_9, a0g_10])), (a0_7, .inr (0, [.int a0_7_0, a0_7g_1, a0_7g_2, a0_7g_3, a0_7g_4, .int a0_7_5, .int a0_7_6, a0_7g_7, a0_7g_8, a0_7g_9, a0_7g_10, a0_7g_11, a0_7g_12, a0_7g_13, a0_7g_14])), (a0_1, .inr (5, [a0_1g_0, .int a0_1_1, a0_1g_2, a0_1g_3, a0_1g_4, a0_1g_5, a0_1g_6]))] s.heap.size = A at hD ⊢
  have hA : ∀ q : Nat, s.heap.size ≤ q → A q := fun q h => by rw [← hAe]; exact Or.inr h
  have hS : va_S A s.heap s.heap [] := va_S.rf
  have hP : va_P (dC, dI) vwCl [(a0, .inr (7, [a0g_0, .ref a0_1, a0g_2, a0g_3, a0g_4, a0g_5, a0g_6, .ref a0_7, a0g_8, a0g_9, a0g_10])), (a0_7, .inr (0, [.int a0_7_0, a0_7g_1, a0_7g_2, a0_7g_3, a0_7g_4, .int a0_7_5, .int a0_7_6, a0_7g_7, a0_7g_8, a0_7g_9, a0_7g_10, a0_7g_11, a0_7g_12, a0_7g_13, a0_7g_14])), (a0_1, .inr (5, [a0_1g_0, .int a0_1_1, a0_1g_2, a0_1g_3, a0_1g_4, a0_1g_5, a0_1g_6]))] s.heap := hP
  have hl := lv_entry ([.ref a0, .int a1]) (n := 2) (Nat.le_of_ble_eq_true rfl)
  rw [lg_entry_eq]
  generalize (lg_sl ([.ref a0, .int a1]) ++ List.replicate (2 - (lg_sl ([.ref a0, .int a1])).length) Slot.unset).toArray = ls at hl ⊢
  have hl : lv_has ls 2 [(0, .ref a0), (1, .int a1)] := hl
  generalize hFX : Ff_X7_turnFromNow a1.toInt a0_7_0.toInt a0_7_5.toInt a0_7_6.toInt a0_1_1.toInt = FX at ⊢
  have hF0 := hFX.symm.trans (Ff_X7_turnFromNow.eq_1 a1.toInt a0_7_0.toInt a0_7_5.toInt a0_7_6.toInt a0_1_1.toInt)
  refine lv_aload_n hx hb dX7_turnFromNow_0 rfl (lv_at hl 0 rfl) ?_
  refine va_get (D := (dC, dI)) (ci := 7) (v := .ref a0_7) (C := RX7) (T := TX7) (N := 11) hx hb hts zi_X7_turnFromNow_7 hown hK hP 0 rfl rfl 7 (by decide) (hts (.fieldLink RX7 57 "WaxTurns" "hall" "LWaxTurns$Hall;") (List.mem_cons_of_mem _ (List.mem_append_left _ (List.mem_append_left _ (List.mem_append_left _ (List.mem_of_getElem? (i := 0) rfl)))))) (fun _ h9 => h9) rfl dX7_turnFromNow_1 ?_
  refine va_get (D := (dC, dI)) (ci := 0) (v := .int a0_7_0) (C := RX0) (T := TX0) (N := 15) hx hb hts zi_X7_turnFromNow_0 hown hK hP 1 rfl rfl 0 (by decide) (hts (.fieldLink RX7 110 "WaxTurns$Hall" "figures" "I") (List.mem_cons_of_mem _ (List.mem_append_left _ (List.mem_append_left _ (List.mem_append_left _ (List.mem_of_getElem? (i := 1) rfl)))))) (fun _ h9 => h9) rfl dX7_turnFromNow_4 ?_
  refine lv_aload_n hx hb dX7_turnFromNow_7 rfl (lv_at hl 0 rfl) ?_
  refine va_get (D := (dC, dI)) (ci := 7) (v := .ref a0_7) (C := RX7) (T := TX7) (N := 11) hx hb hts zi_X7_turnFromNow_7 hown hK hP 0 rfl rfl 7 (by decide) (hts (.fieldLink RX7 57 "WaxTurns" "hall" "LWaxTurns$Hall;") (List.mem_cons_of_mem _ (List.mem_append_left _ (List.mem_append_left _ (List.mem_append_left _ (List.mem_of_getElem? (i := 0) rfl)))))) (fun _ h9 => h9) rfl dX7_turnFromNow_8 ?_
  refine va_get (D := (dC, dI)) (ci := 0) (v := .int a0_7_5) (C := RX0) (T := TX0) (N := 15) hx hb hts zi_X7_turnFromNow_0 hown hK hP 1 rfl rfl 5 (by decide) (hts (.fieldLink RX7 284 "WaxTurns$Hall" "times" "I") (List.mem_cons_of_mem _ (List.mem_append_left _ (List.mem_append_left _ (List.mem_append_left _ (List.mem_of_getElem? (i := 2) rfl)))))) (fun _ h9 => h9) rfl dX7_turnFromNow_11 ?_
  refine lv_aload_n hx hb dX7_turnFromNow_14 rfl (lv_at hl 0 rfl) ?_
  refine va_get (D := (dC, dI)) (ci := 7) (v := .ref a0_7) (C := RX7) (T := TX7) (N := 11) hx hb hts zi_X7_turnFromNow_7 hown hK hP 0 rfl rfl 7 (by decide) (hts (.fieldLink RX7 57 "WaxTurns" "hall" "LWaxTurns$Hall;") (List.mem_cons_of_mem _ (List.mem_append_left _ (List.mem_append_left _ (List.mem_append_left _ (List.mem_of_getElem? (i := 0) rfl)))))) (fun _ h9 => h9) rfl dX7_turnFromNow_15 ?_
  refine va_get (D := (dC, dI)) (ci := 0) (v := .int a0_7_6) (C := RX0) (T := TX0) (N := 15) hx hb hts zi_X7_turnFromNow_0 hown hK hP 1 rfl rfl 6 (by decide) (hts (.fieldLink RX7 287 "WaxTurns$Hall" "plus" "I") (List.mem_cons_of_mem _ (List.mem_append_left _ (List.mem_append_left _ (List.mem_append_left _ (List.mem_of_getElem? (i := 3) rfl)))))) (fun _ h9 => h9) rfl dX7_turnFromNow_18 ?_
  refine lv_aload_n hx hb dX7_turnFromNow_21 rfl (lv_at hl 0 rfl) ?_
  refine va_get (D := (dC, dI)) (ci := 7) (v := .ref a0_1) (C := RX7) (T := TX7) (N := 11) hx hb hts zi_X7_turnFromNow_7 hown hK hP 0 rfl rfl 1 (by decide) (hts (.fieldLink RX7 19 "WaxTurns" "now" "LWaxTurns$Scene;") (List.mem_cons_of_mem _ (List.mem_append_left _ (List.mem_append_left _ (List.mem_append_left _ (List.mem_of_getElem? (i := 4) rfl)))))) (fun _ h9 => h9) rfl dX7_turnFromNow_22 ?_
  refine va_get (D := (dC, dI)) (ci := 5) (v := .int a0_1_1) (C := RX5) (T := TX5) (N := 7) hx hb hts zi_X7_turnFromNow_5 hown hK hP 2 rfl rfl 1 (by decide) (hts (.fieldLink RX7 158 "WaxTurns$Scene" "turn" "I") (List.mem_cons_of_mem _ (List.mem_append_left _ (List.mem_append_left _ (List.mem_append_left _ (List.mem_of_getElem? (i := 5) rfl)))))) (fun _ h9 => h9) rfl dX7_turnFromNow_25 ?_
  refine lv_iload_n hx hb dX7_turnFromNow_28 rfl (lv_at hl 1 rfl) ?_
  obtain ⟨hPc, hDc, hFc, hCc⟩ := zc_cut (wc := []) hP hD hS hA [] (by decide +kernel) rfl
  have hKc := hK.sub (tys' := []) [] rfl
  refine va_calli (va_runS (As := [.int a0_7_0, .int a0_7_5, .int a0_7_6, .int a0_1_1, .int a1]) (rest := []) ⟨hx, hb, hml, hown, hts⟩ (f_X7_laterTurn l dC dI s.heap.size a0_7_0 a0_7_5 a0_7_6 a0_1_1 a1 ba0_7_0_l ba0_7_0_u ba0_7_5_l ba0_7_5_u ba0_7_6_l ba0_7_6_u ba0_1_1_l ba0_1_1_u) (va_cwS 5 hts gX7_turnFromNow_X7_laterTurn rfl rfl rfl zd_X7_laterTurn.2 ⟨Nat.le_of_ble_eq_true rfl, Nat.le_of_ble_eq_true rfl⟩) ⟨ax_blind (fun _ _ _ _ _ => trivial), ax_pre hPc hKc hDc (fun _ _ => trivial)⟩ rfl rfl hl.1 rfl (lv_room (Nat.le_of_ble_eq_true rfl)) dX7_turnFromNow_29 ⟨Nat.le_of_ble_eq_true rfl, Nat.le_of_ble_eq_true rfl⟩) hS (fun q _ h => hFc q h) hFc (fun r29 u t H locs ht hvm hw hB hz1 hk1 hS => ?_)
  obtain ⟨hP1, hK1, hD1⟩ := hB
  rw [ht] at hP1
  obtain ⟨hP, hD⟩ := zc_back (w := [(a0, .inr (7, [a0g_0, .ref a0_1, a0g_2, a0g_3, a0g_4, a0g_5, a0g_6, .ref a0_7, a0g_8, a0g_9, a0g_10])), (a0_7, .inr (0, [.int a0_7_0, a0_7g_1, a0_7g_2, a0_7g_3, a0_7g_4, .int a0_7_5, .int a0_7_6, a0_7g_7, a0_7g_8, a0_7g_9, a0_7g_10, a0_7g_11, a0_7g_12, a0_7g_13, a0_7g_14])), (a0_1, .inr (5, [a0_1g_0, .int a0_1_1, a0_1g_2, a0_1g_3, a0_1g_4, a0_1g_5, a0_1g_6]))]) hP hD hCc hk1 hFc hP1 hD1 [.inl 0, .inl 1, .inl 2] (by decide +kernel) rfl
  obtain ⟨hw, hfr29⟩ := hw
  have hc29 : Ff_X7_laterTurn a0_7_0.toInt a0_7_5.toInt a0_7_6.toInt a0_1_1.toInt a1.toInt = r29.toInt := hfr29.symm
  have hF0 := hF0.trans (fl_lt_eq hc29.symm)
  have hw : (0 : Int) ≤ r29.toInt ∧ r29.toInt ≤ (8 : Int) := hw
  obtain ⟨h29_0, h29_1⟩ := hw
  have hFe : FX = r29.toInt := hF0
  exact W.iret (v := r29) hx hb hr (fun t ht hW => ⟨⟨r29, (), rfl, ⟨⟨h29_0, h29_1⟩, hFe.symm⟩, by rw [ht]; exact hP, va_K.moved hW.alike hK, hD⟩, hS.F ht⟩) hS.2.2 dX7_turnFromNow_32

set_option maxHeartbeats 4000000 in
set_option maxRecDepth 100000 in
theorem f_X7_roundLength (l : Launch) (dC : Nat → ClassId) (dI : Nat → Nat → Nat) (sz : Nat) (a0 : Nat) (a0g_0 a0g_2 a0g_3 a0g_4 a0g_5 a0g_6 a0g_8 a0g_9 a0g_10 : Value) (a0_1 : Nat) (a0_7 : Nat) (a0_7_0 : Int32) (a0_7g_1 a0_7g_2 a0_7g_3 a0_7g_4 a0_7g_7 a0_7g_8 a0_7g_9 a0_7g_10 a0_7g_11 a0_7g_12 a0_7g_13 a0_7g_14 : Value) (a0_7_5 : Int32) (a0_7_6 : Int32) (a0_1g_0 a0_1g_2 a0_1g_3 a0_1g_4 a0_1g_5 a0_1g_6 : Value) (a0_1_1 : Int32) (ba0_7_0_l : (0 : Int) ≤ a0_7_0.toInt) (ba0_7_0_u : a0_7_0.toInt ≤ (9 : Int)) (ba0_7_5_l : (0 : Int) ≤ a0_7_5.toInt) (ba0_7_5_u : a0_7_5.toInt ≤ (8 : Int)) (ba0_7_6_l : (0 : Int) ≤ a0_7_6.toInt) (ba0_7_6_u : a0_7_6.toInt ≤ (8 : Int)) (ba0_1_1_l : (0 : Int) ≤ a0_1_1.toInt) (ba0_1_1_u : a0_1_1.toInt ≤ (8 : Int)) : Met l yX7_roundLength wsX7_roundLength ({ frames := 2, cells := 0, slots := 0, locals := 49 }) (va_Pc [.ref a0] (ax_C dC dI sz [(a0, .inr (7, [a0g_0, .ref a0_1, a0g_2, a0g_3, a0g_4, a0g_5, a0g_6, .ref a0_7, a0g_8, a0g_9, a0g_10])), (a0_7, .inr (0, [.int a0_7_0, a0_7g_1, a0_7g_2, a0_7g_3, a0_7g_4, .int a0_7_5, .int a0_7_6, a0_7g_7, a0_7g_8, a0_7g_9, a0_7g_10, a0_7g_11, a0_7g_12, a0_7g_13, a0_7g_14])), (a0_1, .inr (5, [a0_1g_0, .int a0_1_1, a0_1g_2, a0_1g_3, a0_1g_4, a0_1g_5, a0_1g_6]))] [] (fun _ => True))) (va_Qi (fun (r : Int32) (_ : Unit) => ((1 : Int) ≤ r.toInt ∧ r.toInt ≤ (9 : Int)) ∧ r.toInt = Ff_X7_roundLength a0_7_0.toInt a0_7_5.toInt a0_7_6.toInt a0_1_1.toInt) (fun (_ : Unit) (t : State) => ax_B dC dI (va_A [(a0, .inr (7, [a0g_0, .ref a0_1, a0g_2, a0g_3, a0g_4, a0g_5, a0g_6, .ref a0_7, a0g_8, a0g_9, a0g_10])), (a0_7, .inr (0, [.int a0_7_0, a0_7g_1, a0_7g_2, a0_7g_3, a0_7g_4, .int a0_7_5, .int a0_7_6, a0_7g_7, a0_7g_8, a0_7g_9, a0_7g_10, a0_7g_11, a0_7g_12, a0_7g_13, a0_7g_14])), (a0_1, .inr (5, [a0_1g_0, .int a0_1_1, a0_1g_2, a0_1g_3, a0_1g_4, a0_1g_5, a0_1g_6]))] sz) [(a0, .inr (7, [a0g_0, .ref a0_1, a0g_2, a0g_3, a0g_4, a0g_5, a0g_6, .ref a0_7, a0g_8, a0g_9, a0g_10])), (a0_7, .inr (0, [.int a0_7_0, a0_7g_1, a0_7g_2, a0_7g_3, a0_7g_4, .int a0_7_5, .int a0_7_6, a0_7g_7, a0_7g_8, a0_7g_9, a0_7g_10, a0_7g_11, a0_7g_12, a0_7g_13, a0_7g_14])), (a0_1, .inr (5, [a0_1g_0, .int a0_1_1, a0_1g_2, a0_1g_3, a0_1g_4, a0_1g_5, a0_1g_6]))] [] t) (va_A [(a0, .inr (7, [a0g_0, .ref a0_1, a0g_2, a0g_3, a0g_4, a0g_5, a0g_6, .ref a0_7, a0g_8, a0g_9, a0g_10])), (a0_7, .inr (0, [.int a0_7_0, a0_7g_1, a0_7g_2, a0_7g_3, a0_7g_4, .int a0_7_5, .int a0_7_6, a0_7g_7, a0_7g_8, a0_7g_9, a0_7g_10, a0_7g_11, a0_7g_12, a0_7g_13, a0_7g_14])), (a0_1, .inr (5, [a0_1g_0, .int a0_1_1, a0_1g_2, a0_1g_3, a0_1g_4, a0_1g_5, a0_1g_6]))] sz)) 0 0 (va_A [(a0, .inr (7, [a0g_0, .ref a0_1, a0g_2, a0g_3, a0g_4, a0g_5, a0g_6, .ref a0_7, a0g_8, a0g_9, a0g_10])), (a0_7, .inr (0, [.int a0_7_0, a0_7g_1, a0_7g_2, a0_7g_3, a0_7g_4, .int a0_7_5, .int a0_7_6, a0_7g_7, a0_7g_8, a0_7g_9, a0_7g_10, a0_7g_11, a0_7g_12, a0_7g_13, a0_7g_14])), (a0_1, .inr (5, [a0_1g_0, .int a0_1_1, a0_1g_2, a0_1g_3, a0_1g_4, a0_1g_5, a0_1g_6]))] sz) := by
  refine Met.ofW (cc := cX7_roundLength) (maxL := 4) (ret := (some .int)) (by decide) rfl ?_
  intro p e s m args below meth c s₁ B hml hv
  obtain ⟨rfl, hsz, hP, hK, hD0, hE⟩ := hv
  have hx := B.exec
  have hb := B.bytes
  have hr := B.returns
  have hts := atoms_spec (ws := wsX7_roundLength) B.pre
  have hown : s.vm.findClass RX7 = some m.cls := findClass_of_methodNamed B.named
  have hlocks := B.notSynchronized
  subst hsz
  have hD := hD0.self (sz := s.heap.size)
  generalize hAe : va_A [(a0, .inr (7, [a0g_0, .ref a0_1, a0g_2, a0g_3, a0g_4, a0g_5, a0g_6, .ref a0_7, a0g_8, a0g_9, a0g_10])), (a0_7, .inr (0, [.int a0_7_0, a0_7g_1, a0_7g_2, a0_7g_3, a0_7g_4, .int a0_7_5, .int a0_7_6, a0_7g_7, a0_7g_8, a0_7g_9, a0_7g_10, a0_7g_11, a0_7g_12, a0_7g_13, a0_7g_14])), (a0_1, .inr (5, [a0_1g_0, .int a0_1_1, a0_1g_2, a0_1g_3, a0_1g_4, a0_1g_5, a0_1g_6]))] s.heap.size = A at hD ⊢
  have hA : ∀ q : Nat, s.heap.size ≤ q → A q := fun q h => by rw [← hAe]; exact Or.inr h
  have hS : va_S A s.heap s.heap [] := va_S.rf
  have hP : va_P (dC, dI) vwCl [(a0, .inr (7, [a0g_0, .ref a0_1, a0g_2, a0g_3, a0g_4, a0g_5, a0g_6, .ref a0_7, a0g_8, a0g_9, a0g_10])), (a0_7, .inr (0, [.int a0_7_0, a0_7g_1, a0_7g_2, a0_7g_3, a0_7g_4, .int a0_7_5, .int a0_7_6, a0_7g_7, a0_7g_8, a0_7g_9, a0_7g_10, a0_7g_11, a0_7g_12, a0_7g_13, a0_7g_14])), (a0_1, .inr (5, [a0_1g_0, .int a0_1_1, a0_1g_2, a0_1g_3, a0_1g_4, a0_1g_5, a0_1g_6]))] s.heap := hP
  have hl := lv_entry ([.ref a0]) (n := 4) (Nat.le_of_ble_eq_true rfl)
  rw [lg_entry_eq]
  generalize (lg_sl ([.ref a0]) ++ List.replicate (4 - (lg_sl ([.ref a0])).length) Slot.unset).toArray = ls at hl ⊢
  have hl : lv_has ls 4 [(0, .ref a0)] := hl
  generalize hFX : Ff_X7_roundLength a0_7_0.toInt a0_7_5.toInt a0_7_6.toInt a0_1_1.toInt = FX at ⊢
  have hF0 := hFX.symm.trans (Ff_X7_roundLength.eq_1 a0_7_0.toInt a0_7_5.toInt a0_7_6.toInt a0_1_1.toInt)
  refine ai_open (fun K hK0 => ?_)
  refine (hK0 _ _ _).mpr ?_
  refine lv_aload_n hx hb dX7_roundLength_0 rfl (lv_at hl 0 rfl) ?_
  refine lv_aload_n hx hb dX7_roundLength_1 rfl (lv_at hl 0 rfl) ?_
  refine va_get (D := (dC, dI)) (ci := 7) (v := .ref a0_7) (C := RX7) (T := TX7) (N := 11) hx hb hts zi_X7_roundLength_7 hown hK hP 0 rfl rfl 7 (by decide) (hts (.fieldLink RX7 57 "WaxTurns" "hall" "LWaxTurns$Hall;") (List.mem_cons_of_mem _ (List.mem_append_left _ (List.mem_append_left _ (List.mem_append_left _ (List.mem_of_getElem? (i := 0) rfl)))))) (fun _ h9 => h9) rfl dX7_roundLength_2 ?_
  refine va_get (D := (dC, dI)) (ci := 0) (v := .int a0_7_0) (C := RX0) (T := TX0) (N := 15) hx hb hts zi_X7_roundLength_0 hown hK hP 1 rfl rfl 0 (by decide) (hts (.fieldLink RX7 110 "WaxTurns$Hall" "figures" "I") (List.mem_cons_of_mem _ (List.mem_append_left _ (List.mem_append_left _ (List.mem_append_left _ (List.mem_of_getElem? (i := 1) rfl)))))) (fun _ h9 => h9) rfl dX7_roundLength_5 ?_
  obtain ⟨hPc, hDc, hFc, hCc⟩ := zc_cut (wc := [(a0, .inr (7, [a0g_0, .ref a0_1, a0g_2, a0g_3, a0g_4, a0g_5, a0g_6, .ref a0_7, a0g_8, a0g_9, a0g_10])), (a0_7, .inr (0, [.int a0_7_0, a0_7g_1, a0_7g_2, a0_7g_3, a0_7g_4, .int a0_7_5, .int a0_7_6, a0_7g_7, a0_7g_8, a0_7g_9, a0_7g_10, a0_7g_11, a0_7g_12, a0_7g_13, a0_7g_14])), (a0_1, .inr (5, [a0_1g_0, .int a0_1_1, a0_1g_2, a0_1g_3, a0_1g_4, a0_1g_5, a0_1g_6]))]) hP hD hS hA [0, 1, 2] (by decide +kernel) rfl
  have hKc := hK.sub (tys' := []) [] rfl
  refine va_calli (va_runV (As := [.int a0_7_0]) (rest := []) ⟨hx, hb, hml, hown, hts⟩ (f_X7_turnFromNow l dC dI s.heap.size a0 a0_7_0 a0g_0 a0g_2 a0g_3 a0g_4 a0g_5 a0g_6 a0g_8 a0g_9 a0g_10 a0_1 a0_7 a0_7_0 a0_7g_1 a0_7g_2 a0_7g_3 a0_7g_4 a0_7g_7 a0_7g_8 a0_7g_9 a0_7g_10 a0_7g_11 a0_7g_12 a0_7g_13 a0_7g_14 a0_7_5 a0_7_6 a0_1g_0 a0_1g_2 a0_1g_3 a0_1g_4 a0_1g_5 a0_1g_6 a0_1_1 ba0_7_0_l ba0_7_0_u ba0_7_5_l ba0_7_5_u ba0_7_6_l ba0_7_6_u ba0_1_1_l ba0_1_1_u) (cwV 1 hts gX7_roundLength_X7_turnFromNow rfl rfl rfl zd_X7_turnFromNow ⟨Nat.le_of_ble_eq_true rfl, Nat.le_of_ble_eq_true rfl⟩) ⟨ax_blind (fun _ _ _ _ _ => trivial), zr_7 hKc hPc (q0 := 0) rfl, ax_pre hPc hKc hDc (fun _ _ => trivial)⟩ rfl rfl hl.1 rfl (lv_room (Nat.le_of_ble_eq_true rfl)) dX7_roundLength_8 ⟨Nat.le_of_ble_eq_true rfl, Nat.le_of_ble_eq_true rfl⟩) hS (fun q _ h => hFc q h) hFc (fun r8 u t H locs ht hvm hw hB hz1 hk1 hS => ?_)
  obtain ⟨hP1, hK1, hD1⟩ := hB
  rw [ht] at hP1
  obtain ⟨hP, hD⟩ := zc_back (w := [(a0, .inr (7, [a0g_0, .ref a0_1, a0g_2, a0g_3, a0g_4, a0g_5, a0g_6, .ref a0_7, a0g_8, a0g_9, a0g_10])), (a0_7, .inr (0, [.int a0_7_0, a0_7g_1, a0_7g_2, a0_7g_3, a0_7g_4, .int a0_7_5, .int a0_7_6, a0_7g_7, a0_7g_8, a0_7g_9, a0_7g_10, a0_7g_11, a0_7g_12, a0_7g_13, a0_7g_14])), (a0_1, .inr (5, [a0_1g_0, .int a0_1_1, a0_1g_2, a0_1g_3, a0_1g_4, a0_1g_5, a0_1g_6]))]) hP hD hCc hk1 hFc hP1 hD1 [.inr 0, .inr 1, .inr 2] (by decide +kernel) rfl
  obtain ⟨hw, hfr8⟩ := hw
  have hc8 : Ff_X7_turnFromNow a0_7_0.toInt a0_7_0.toInt a0_7_5.toInt a0_7_6.toInt a0_1_1.toInt = r8.toInt := hfr8.symm
  have hF0 := hF0.trans (fl_lt_eq hc8.symm)
  have hw : (0 : Int) ≤ r8.toInt ∧ r8.toInt ≤ (8 : Int) := hw
  obtain ⟨h8_0, h8_1⟩ := hw
  refine lv_istore_n (lv' := [(1, .int r8), (0, .ref a0)]) hx hb dX7_roundLength_11 rfl hl (by decide) rfl (fun ls hl => ?_)
  refine lv_aload_n hx hb dX7_roundLength_12 rfl (lv_at hl 1 rfl) ?_
  refine va_get (D := (dC, dI)) (ci := 7) (v := .ref a0_7) (C := RX7) (T := TX7) (N := 11) hx hb hts zi_X7_roundLength_7 hown hK hP 0 rfl rfl 7 (by decide) (hts (.fieldLink RX7 57 "WaxTurns" "hall" "LWaxTurns$Hall;") (List.mem_cons_of_mem _ (List.mem_append_left _ (List.mem_append_left _ (List.mem_append_left _ (List.mem_of_getElem? (i := 0) rfl)))))) (fun _ h9 => h9) rfl dX7_roundLength_13 ?_
  refine lv_iload_n hx hb dX7_roundLength_16 rfl (lv_at hl 0 rfl) ?_
  obtain ⟨hPc, hDc, hFc, hCc⟩ := zc_cut (wc := [(a0_7, .inr (0, [.int a0_7_0, a0_7g_1, a0_7g_2, a0_7g_3, a0_7g_4, .int a0_7_5, .int a0_7_6, a0_7g_7, a0_7g_8, a0_7g_9, a0_7g_10, a0_7g_11, a0_7g_12, a0_7g_13, a0_7g_14]))]) hP hD hS hA [1] (by decide +kernel) rfl
  have hKc := hK.sub (tys' := []) [] rfl
  refine va_calli (va_runV (As := [.int r8]) (rest := []) ⟨hx, hb, hml, hown, hts⟩ (f_X0_next l dC dI H.size a0_7 r8 a0_7_0 a0_7g_1 a0_7g_2 a0_7g_3 a0_7g_4 a0_7g_7 a0_7g_8 a0_7g_9 a0_7g_10 a0_7g_11 a0_7g_12 a0_7g_13 a0_7g_14 a0_7_5 a0_7_6 h8_0 h8_1 ba0_7_0_l ba0_7_0_u ba0_7_5_l ba0_7_5_u ba0_7_6_l ba0_7_6_u) (cwV 1 hts gX7_roundLength_X0_next rfl rfl rfl zd_X0_next ⟨Nat.le_of_ble_eq_true rfl, Nat.le_of_ble_eq_true rfl⟩) ⟨ax_blind (fun _ _ _ _ _ => trivial), zr_0 hKc hPc (q0 := 0) rfl, ax_pre hPc hKc hDc (fun _ _ => trivial)⟩ rfl rfl hl.1 rfl (lv_room (Nat.le_of_ble_eq_true rfl)) dX7_roundLength_17 ⟨Nat.le_of_ble_eq_true rfl, Nat.le_of_ble_eq_true rfl⟩) hS (fun q _ h => hFc q h) hFc (fun r17 u t H locs ht hvm hw hB hz1 hk1 hS => ?_)
  obtain ⟨hP1, hK1, hD1⟩ := hB
  rw [ht] at hP1
  obtain ⟨hP, hD⟩ := zc_back (w := [(a0, .inr (7, [a0g_0, .ref a0_1, a0g_2, a0g_3, a0g_4, a0g_5, a0g_6, .ref a0_7, a0g_8, a0g_9, a0g_10])), (a0_7, .inr (0, [.int a0_7_0, a0_7g_1, a0_7g_2, a0_7g_3, a0_7g_4, .int a0_7_5, .int a0_7_6, a0_7g_7, a0_7g_8, a0_7g_9, a0_7g_10, a0_7g_11, a0_7g_12, a0_7g_13, a0_7g_14])), (a0_1, .inr (5, [a0_1g_0, .int a0_1_1, a0_1g_2, a0_1g_3, a0_1g_4, a0_1g_5, a0_1g_6]))]) hP hD hCc hk1 hFc hP1 hD1 [.inl 0, .inr 0, .inl 2] (by decide +kernel) rfl
  obtain ⟨hw, hfr17⟩ := hw
  have hc17 : Ff_X0_next r8.toInt a0_7_0.toInt a0_7_5.toInt a0_7_6.toInt = r17.toInt := hfr17.symm
  have hF0 := hF0.trans (fl_lt_eq hc17.symm)
  have hw : (0 : Int) ≤ r17.toInt ∧ r17.toInt ≤ (8 : Int) := hw
  obtain ⟨h17_0, h17_1⟩ := hw
  refine lv_istore_n (lv' := [(2, .int r17), (1, .int r8), (0, .ref a0)]) hx hb dX7_roundLength_20 rfl hl (by decide) rfl (fun ls hl => ?_)
  refine lv_iconst (v := 1) hx hb dX7_roundLength_21 zk_iconst_1 ?_
  refine lv_istore_n (lv' := [(3, .int 1), (2, .int r17), (1, .int r8), (0, .ref a0)]) hx hb dX7_roundLength_22 rfl hl (by decide) rfl (fun ls hl => ?_)
  have J23 : ∀ (n : Nat) (j23l3 : Int32) (j23l2 : Int32) (H : Heap) (locs : List Loc) (ls : Array Slot), (10 : Int) - j23l3.toInt ≤ (n : Int) → (1 : Int) ≤ j23l3.toInt → j23l3.toInt ≤ (9 : Int) → (0 : Int) ≤ j23l2.toInt → j23l2.toInt ≤ (8 : Int) → (FX = fl_wh (fun t9 => Sf_X7_roundLength_23_1 a0_7_0.toInt a0_7_5.toInt a0_7_6.toInt r8.toInt t9.1 t9.2) 0 n (j23l3.toInt, j23l2.toInt)) → va_P (dC, dI) vwCl [(a0, .inr (7, [a0g_0, .ref a0_1, a0g_2, a0g_3, a0g_4, a0g_5, a0g_6, .ref a0_7, a0g_8, a0g_9, a0g_10])), (a0_7, .inr (0, [.int a0_7_0, a0_7g_1, a0_7g_2, a0_7g_3, a0_7g_4, .int a0_7_5, .int a0_7_6, a0_7g_7, a0_7g_8, a0_7g_9, a0_7g_10, a0_7g_11, a0_7g_12, a0_7g_13, a0_7g_14])), (a0_1, .inr (5, [a0_1g_0, .int a0_1_1, a0_1g_2, a0_1g_3, a0_1g_4, a0_1g_5, a0_1g_6]))] H → va_D A [(a0, .inr (7, [a0g_0, .ref a0_1, a0g_2, a0g_3, a0g_4, a0g_5, a0g_6, .ref a0_7, a0g_8, a0g_9, a0g_10])), (a0_7, .inr (0, [.int a0_7_0, a0_7g_1, a0_7g_2, a0_7g_3, a0_7g_4, .int a0_7_5, .int a0_7_6, a0_7g_7, a0_7g_8, a0_7g_9, a0_7g_10, a0_7g_11, a0_7g_12, a0_7g_13, a0_7g_14])), (a0_1, .inr (5, [a0_1g_0, .int a0_1_1, a0_1g_2, a0_1g_3, a0_1g_4, a0_1g_5, a0_1g_6]))] → va_S A s.heap H locs → lv_has ls 4 [(0, .ref a0), (1, .int r8), (2, .int j23l2), (3, .int j23l3)] → K H locs (F0 m 23 ls []) := by
    intro n
    induction n with
    | zero =>
      intro j23l3 j23l2 H locs ls hm bj23l3_l bj23l3_u bj23l2_l bj23l2_u hF0 hP hD hS hl
      have h8 := ai_min j23l3
      have h9 := ai_max j23l3
      exact absurd hm (by omega)
    | succ n ih23 =>
      intro j23l3 j23l2 H locs ls hm bj23l3_l bj23l3_u bj23l2_l bj23l2_u hF0 hP hD hS hl
      refine (hK0 _ _ _).mpr ?_
      have hm23 := hm
      obtain ⟨SX23, hSX23⟩ : ∃ q9, Sf_X7_roundLength_23_1 a0_7_0.toInt a0_7_5.toInt a0_7_6.toInt r8.toInt j23l3.toInt j23l2.toInt = q9 := ⟨_, rfl⟩
      have hF1 := hSX23.symm.trans (Sf_X7_roundLength_23_1.eq_1 a0_7_0.toInt a0_7_5.toInt a0_7_6.toInt r8.toInt j23l3.toInt j23l2.toInt)
      refine lv_iload_n hx hb dX7_roundLength_23 rfl (lv_at hl 3 rfl) ?_
      refine lv_aload_n hx hb dX7_roundLength_24 rfl (lv_at hl 0 rfl) ?_
      refine va_get (D := (dC, dI)) (ci := 7) (v := .ref a0_7) (C := RX7) (T := TX7) (N := 11) hx hb hts zi_X7_roundLength_7 hown hK hP 0 rfl rfl 7 (by decide) (hts (.fieldLink RX7 57 "WaxTurns" "hall" "LWaxTurns$Hall;") (List.mem_cons_of_mem _ (List.mem_append_left _ (List.mem_append_left _ (List.mem_append_left _ (List.mem_of_getElem? (i := 0) rfl)))))) (fun _ h9 => h9) rfl dX7_roundLength_25 ?_
      refine va_get (D := (dC, dI)) (ci := 0) (v := .int a0_7_0) (C := RX0) (T := TX0) (N := 15) hx hb hts zi_X7_roundLength_0 hown hK hP 1 rfl rfl 0 (by decide) (hts (.fieldLink RX7 110 "WaxTurns$Hall" "figures" "I") (List.mem_cons_of_mem _ (List.mem_append_left _ (List.mem_append_left _ (List.mem_append_left _ (List.mem_of_getElem? (i := 1) rfl)))))) (fun _ h9 => h9) rfl dX7_roundLength_28 ?_
      refine lv_icmp_ge (tgt := 54) hx hb dX7_roundLength_31 (by decide) (fun c31 => ?_) (fun c31 => ?_)
      · have gc31 := ai_le c31
        have u31t_a0_7_0 : a0_7_0.toInt ≤ (9 : Int) := ba0_7_0_u
        have l31t_j23l3 : (1 : Int) ≤ j23l3.toInt := bj23l3_l
        have hF1 := hF1.trans (if_pos (show a0_7_0.toInt ≤ j23l3.toInt from gc31))
        have hF0 := hF0.trans (fl_wh_r (hSX23.trans hF1))
        refine lv_iload_n hx hb dX7_roundLength_54 rfl (lv_at hl 3 rfl) ?_
        have hFe : FX = j23l3.toInt := hF0
        exact W.iret (v := j23l3) hx hb hr (fun t ht hW => ⟨⟨j23l3, (), rfl, ⟨⟨l31t_j23l3, bj23l3_u⟩, hFe.symm⟩, by rw [ht]; exact hP, va_K.moved hW.alike hK, hD⟩, hS.F ht⟩) hS.2.2 dX7_roundLength_55
      · have gc31 := ai_nle c31
        have u31f_j23l3 : j23l3.toInt ≤ (8 : Int) := ai_lthi gc31 ba0_7_0_u
        have l31f_a0_7_0 : (2 : Int) ≤ a0_7_0.toInt := ai_ltlo gc31 bj23l3_l
        have hF1 := hF1.trans (if_neg (show ¬ (a0_7_0.toInt ≤ j23l3.toInt) from Int.not_le.mpr gc31))
        refine lv_iload_n hx hb dX7_roundLength_34 rfl (lv_at hl 2 rfl) ?_
        refine lv_iload_n hx hb dX7_roundLength_35 rfl (lv_at hl 1 rfl) ?_
        refine lv_icmp_eq (tgt := 54) hx hb dX7_roundLength_36 (by decide) (fun c36 => ?_) (fun c36 => ?_)
        · have gc36 := ai_eq c36
          have u36t_j23l2 : j23l2.toInt ≤ (8 : Int) := bj23l2_u
          have l36t_j23l2 : (0 : Int) ≤ j23l2.toInt := bj23l2_l
          have u36t_r8 : r8.toInt ≤ (8 : Int) := h8_1
          have l36t_r8 : (0 : Int) ≤ r8.toInt := h8_0
          have hF1 := hF1.trans (if_pos (show j23l2.toInt = r8.toInt from gc36))
          have hF0 := hF0.trans (fl_wh_r (hSX23.trans hF1))
          refine lv_iload_n hx hb dX7_roundLength_54 rfl (lv_at hl 3 rfl) ?_
          have hFe : FX = j23l3.toInt := hF0
          exact W.iret (v := j23l3) hx hb hr (fun t ht hW => ⟨⟨j23l3, (), rfl, ⟨⟨bj23l3_l, (Int.le_trans u31f_j23l3 zq22)⟩, hFe.symm⟩, by rw [ht]; exact hP, va_K.moved hW.alike hK, hD⟩, hS.F ht⟩) hS.2.2 dX7_roundLength_55
        · have gc36 := ai_ne c36
          have hF1 := hF1.trans (if_neg (show ¬ (j23l2.toInt = r8.toInt) from  gc36))
          refine lv_aload_n hx hb dX7_roundLength_39 rfl (lv_at hl 0 rfl) ?_
          refine va_get (D := (dC, dI)) (ci := 7) (v := .ref a0_7) (C := RX7) (T := TX7) (N := 11) hx hb hts zi_X7_roundLength_7 hown hK hP 0 rfl rfl 7 (by decide) (hts (.fieldLink RX7 57 "WaxTurns" "hall" "LWaxTurns$Hall;") (List.mem_cons_of_mem _ (List.mem_append_left _ (List.mem_append_left _ (List.mem_append_left _ (List.mem_of_getElem? (i := 0) rfl)))))) (fun _ h9 => h9) rfl dX7_roundLength_40 ?_
          refine lv_iload_n hx hb dX7_roundLength_43 rfl (lv_at hl 2 rfl) ?_
          obtain ⟨hPc, hDc, hFc, hCc⟩ := zc_cut (wc := [(a0_7, .inr (0, [.int a0_7_0, a0_7g_1, a0_7g_2, a0_7g_3, a0_7g_4, .int a0_7_5, .int a0_7_6, a0_7g_7, a0_7g_8, a0_7g_9, a0_7g_10, a0_7g_11, a0_7g_12, a0_7g_13, a0_7g_14]))]) hP hD hS hA [1] (by decide +kernel) rfl
          have hKc := hK.sub (tys' := []) [] rfl
          refine va_calli (va_runV (As := [.int j23l2]) (rest := []) ⟨hx, hb, hml, hown, hts⟩ (f_X0_next l dC dI H.size a0_7 j23l2 a0_7_0 a0_7g_1 a0_7g_2 a0_7g_3 a0_7g_4 a0_7g_7 a0_7g_8 a0_7g_9 a0_7g_10 a0_7g_11 a0_7g_12 a0_7g_13 a0_7g_14 a0_7_5 a0_7_6 bj23l2_l bj23l2_u (Int.le_trans zq50 l31f_a0_7_0) ba0_7_0_u ba0_7_5_l ba0_7_5_u ba0_7_6_l ba0_7_6_u) (cwV 1 hts gX7_roundLength_X0_next rfl rfl rfl zd_X0_next ⟨Nat.le_of_ble_eq_true rfl, Nat.le_of_ble_eq_true rfl⟩) ⟨ax_blind (fun _ _ _ _ _ => trivial), zr_0 hKc hPc (q0 := 0) rfl, ax_pre hPc hKc hDc (fun _ _ => trivial)⟩ rfl rfl hl.1 rfl (lv_room (Nat.le_of_ble_eq_true rfl)) dX7_roundLength_44 ⟨Nat.le_of_ble_eq_true rfl, Nat.le_of_ble_eq_true rfl⟩) hS (fun q _ h => hFc q h) hFc (fun r44 u t H locs ht hvm hw hB hz1 hk1 hS => ?_)
          obtain ⟨hP1, hK1, hD1⟩ := hB
          rw [ht] at hP1
          obtain ⟨hP, hD⟩ := zc_back (w := [(a0, .inr (7, [a0g_0, .ref a0_1, a0g_2, a0g_3, a0g_4, a0g_5, a0g_6, .ref a0_7, a0g_8, a0g_9, a0g_10])), (a0_7, .inr (0, [.int a0_7_0, a0_7g_1, a0_7g_2, a0_7g_3, a0_7g_4, .int a0_7_5, .int a0_7_6, a0_7g_7, a0_7g_8, a0_7g_9, a0_7g_10, a0_7g_11, a0_7g_12, a0_7g_13, a0_7g_14])), (a0_1, .inr (5, [a0_1g_0, .int a0_1_1, a0_1g_2, a0_1g_3, a0_1g_4, a0_1g_5, a0_1g_6]))]) hP hD hCc hk1 hFc hP1 hD1 [.inl 0, .inr 0, .inl 2] (by decide +kernel) rfl
          obtain ⟨hw, hfr44⟩ := hw
          have hc44 : Ff_X0_next j23l2.toInt a0_7_0.toInt a0_7_5.toInt a0_7_6.toInt = r44.toInt := hfr44.symm
          have hF1 := hF1.trans (fl_lt_eq hc44.symm)
          have hw : (0 : Int) ≤ r44.toInt ∧ r44.toInt ≤ (8 : Int) := hw
          obtain ⟨h44_0, h44_1⟩ := hw
          refine lv_istore_n (lv' := [(2, .int r44), (0, .ref a0), (1, .int r8), (3, .int j23l3)]) hx hb dX7_roundLength_47 rfl hl (by decide) rfl (fun ls hl => ?_)
          obtain ⟨x48, ex48⟩ : ∃ y : Int32, y = j23l3 + Int32.ofInt 1 := ⟨_, rfl⟩
          have qx48 : x48.toInt = j23l3.toInt + 1 := ai_inc ex48 (by decide) (by decide) u31f_j23l3 (by decide)
          have bx48 : (2 : Int) ≤ x48.toInt ∧ x48.toInt ≤ 9 := ⟨by rw [qx48]; exact Int.add_le_add bj23l3_l (Int.le_refl _), by rw [qx48]; exact Int.add_le_add u31f_j23l3 (Int.le_refl _)⟩
          refine lv_iinc (v := x48) (lv' := [(3, .int x48), (2, .int r44), (0, .ref a0), (1, .int r8)]) hx hb dX7_roundLength_48 hl (k := 3) rfl ex48.symm (by decide) rfl (fun ls hl => ?_)
          have hF1 := hF1.trans (fl_lt_eq (show x48.toInt = j23l3.toInt + 1 from qx48))
          refine lv_goto (tgt := 23) hx hb dX7_roundLength_51 (by decide) ?_
          exact (hK0 _ _ _).mp (ih23 x48 r44 _ _ _ (by have h0 := qx48; omega) (Int.le_trans zq54 bx48.1) bx48.2 h44_0 h44_1 (hF0.trans (fl_wh_l (hSX23.trans hF1))) hP hD hS (lv_sub hl [2, 3, 1, 0] rfl))
  exact (hK0 _ _ _).mp (J23 9 1 r17 _ _ _ (by have h1 : (1 : Int) ≤ (1 : Int32).toInt := zq1; have h2 : (1 : Int32).toInt ≤ (1 : Int) := zq0; omega) zq1 (Int.le_trans zq0 zq56) h17_0 h17_1 (by rw [show (1 : Int32).toInt = 1 from by decide]; exact hF0) hP hD hS (lv_sub hl [3, 2, 1, 0] rfl))

set_option maxHeartbeats 4000000 in
set_option maxRecDepth 100000 in
theorem f_X7_turnOf (l : Launch) (dC : Nat → ClassId) (dI : Nat → Nat → Nat) (sz : Nat) (a0 : Nat) (a1 : Int32) (a0g_0 a0g_2 a0g_3 a0g_4 a0g_5 a0g_6 a0g_9 a0g_10 : Value) (a0_1 : Nat) (a0_7 : Nat) (a0_8 : Int32) (a0_7_0 : Int32) (a0_7g_1 a0_7g_2 a0_7g_3 a0_7g_4 a0_7g_7 a0_7g_8 a0_7g_9 a0_7g_10 a0_7g_11 a0_7g_12 a0_7g_13 a0_7g_14 : Value) (a0_7_5 : Int32) (a0_7_6 : Int32) (a0_1g_0 a0_1g_2 a0_1g_3 a0_1g_4 a0_1g_5 a0_1g_6 : Value) (a0_1_1 : Int32) (ba0_7_0_l : (0 : Int) ≤ a0_7_0.toInt) (ba0_7_0_u : a0_7_0.toInt ≤ (9 : Int)) (ba0_7_5_l : (0 : Int) ≤ a0_7_5.toInt) (ba0_7_5_u : a0_7_5.toInt ≤ (8 : Int)) (ba0_7_6_l : (0 : Int) ≤ a0_7_6.toInt) (ba0_7_6_u : a0_7_6.toInt ≤ (8 : Int)) (ba0_1_1_l : (0 : Int) ≤ a0_1_1.toInt) (ba0_1_1_u : a0_1_1.toInt ≤ (8 : Int)) : Met l yX7_turnOf wsX7_turnOf ({ frames := 2, cells := 0, slots := 0, locals := 49 }) (va_Pc [.ref a0, .int a1] (ax_C dC dI sz [(a0, .inr (7, [a0g_0, .ref a0_1, a0g_2, a0g_3, a0g_4, a0g_5, a0g_6, .ref a0_7, .int a0_8, a0g_9, a0g_10])), (a0_7, .inr (0, [.int a0_7_0, a0_7g_1, a0_7g_2, a0_7g_3, a0_7g_4, .int a0_7_5, .int a0_7_6, a0_7g_7, a0_7g_8, a0_7g_9, a0_7g_10, a0_7g_11, a0_7g_12, a0_7g_13, a0_7g_14])), (a0_1, .inr (5, [a0_1g_0, .int a0_1_1, a0_1g_2, a0_1g_3, a0_1g_4, a0_1g_5, a0_1g_6]))] [] (fun _ => True))) (va_Qi (fun (r : Int32) (_ : Unit) => ((-1 : Int) ≤ r.toInt ∧ r.toInt ≤ (8 : Int)) ∧ r.toInt = (Ff_X7_turnOf a1.toInt a0_7_0.toInt a0_7_5.toInt a0_7_6.toInt a0_1_1.toInt).1) (fun (_ : Unit) (t : State) => ∃ na0_8 : Int32, ((Ff_X7_turnOf a1.toInt a0_7_0.toInt a0_7_5.toInt a0_7_6.toInt a0_1_1.toInt).2 = na0_8.toInt) ∧ ax_B dC dI (va_A [(a0, .inr (7, [a0g_0, .ref a0_1, a0g_2, a0g_3, a0g_4, a0g_5, a0g_6, .ref a0_7, .int a0_8, a0g_9, a0g_10])), (a0_7, .inr (0, [.int a0_7_0, a0_7g_1, a0_7g_2, a0_7g_3, a0_7g_4, .int a0_7_5, .int a0_7_6, a0_7g_7, a0_7g_8, a0_7g_9, a0_7g_10, a0_7g_11, a0_7g_12, a0_7g_13, a0_7g_14])), (a0_1, .inr (5, [a0_1g_0, .int a0_1_1, a0_1g_2, a0_1g_3, a0_1g_4, a0_1g_5, a0_1g_6]))] sz) [(a0, .inr (7, [a0g_0, .ref a0_1, a0g_2, a0g_3, a0g_4, a0g_5, a0g_6, .ref a0_7, .int na0_8, a0g_9, a0g_10])), (a0_7, .inr (0, [.int a0_7_0, a0_7g_1, a0_7g_2, a0_7g_3, a0_7g_4, .int a0_7_5, .int a0_7_6, a0_7g_7, a0_7g_8, a0_7g_9, a0_7g_10, a0_7g_11, a0_7g_12, a0_7g_13, a0_7g_14])), (a0_1, .inr (5, [a0_1g_0, .int a0_1_1, a0_1g_2, a0_1g_3, a0_1g_4, a0_1g_5, a0_1g_6]))] [] t) (va_A [(a0, .inr (7, [a0g_0, .ref a0_1, a0g_2, a0g_3, a0g_4, a0g_5, a0g_6, .ref a0_7, .int a0_8, a0g_9, a0g_10])), (a0_7, .inr (0, [.int a0_7_0, a0_7g_1, a0_7g_2, a0_7g_3, a0_7g_4, .int a0_7_5, .int a0_7_6, a0_7g_7, a0_7g_8, a0_7g_9, a0_7g_10, a0_7g_11, a0_7g_12, a0_7g_13, a0_7g_14])), (a0_1, .inr (5, [a0_1g_0, .int a0_1_1, a0_1g_2, a0_1g_3, a0_1g_4, a0_1g_5, a0_1g_6]))] sz)) 0 0 (va_A [(a0, .inr (7, [a0g_0, .ref a0_1, a0g_2, a0g_3, a0g_4, a0g_5, a0g_6, .ref a0_7, .int a0_8, a0g_9, a0g_10])), (a0_7, .inr (0, [.int a0_7_0, a0_7g_1, a0_7g_2, a0_7g_3, a0_7g_4, .int a0_7_5, .int a0_7_6, a0_7g_7, a0_7g_8, a0_7g_9, a0_7g_10, a0_7g_11, a0_7g_12, a0_7g_13, a0_7g_14])), (a0_1, .inr (5, [a0_1g_0, .int a0_1_1, a0_1g_2, a0_1g_3, a0_1g_4, a0_1g_5, a0_1g_6]))] sz) := by
  refine Met.ofW (cc := cX7_turnOf) (maxL := 2) (ret := (some .int)) (by decide) rfl ?_
  intro p e s m args below meth c s₁ B hml hv
  obtain ⟨rfl, hsz, hP, hK, hD0, hE⟩ := hv
  have hx := B.exec
  have hb := B.bytes
  have hr := B.returns
  have hts := atoms_spec (ws := wsX7_turnOf) B.pre
  have hown : s.vm.findClass RX7 = some m.cls := findClass_of_methodNamed B.named
  have hlocks := B.notSynchronized
  subst hsz
  have hD := hD0.self (sz := s.heap.size)
  generalize hAe : va_A [(a0, .inr (7, [a0g_0, .ref a0_1, a0g_2, a0g_3, a0g_4, a0g_5, a0g_6, .ref a0_7, .int a0_8, a0g_9, a0g_10])), (a0_7, .inr (0, [.int a0_7_0, a0_7g_1, a0_7g_2, a0_7g_3, a0_7g_4, .int a0_7_5, .int a0_7_6, a0_7g_7, a0_7g_8, a0_7g_9, a0_7g_10, a0_7g_11, a0_7g_12, a0_7g_13, a0_7g_14])), (a0_1, .inr (5, [a0_1g_0, .int a0_1_1, a0_1g_2, a0_1g_3, a0_1g_4, a0_1g_5, a0_1g_6]))] s.heap.size = A at hD ⊢
  have hA : ∀ q : Nat, s.heap.size ≤ q → A q := fun q h => by rw [← hAe]; exact Or.inr h
  have hS : va_S A s.heap s.heap [] := va_S.rf
  have hP : va_P (dC, dI) vwCl [(a0, .inr (7, [a0g_0, .ref a0_1, a0g_2, a0g_3, a0g_4, a0g_5, a0g_6, .ref a0_7, .int a0_8, a0g_9, a0g_10])), (a0_7, .inr (0, [.int a0_7_0, a0_7g_1, a0_7g_2, a0_7g_3, a0_7g_4, .int a0_7_5, .int a0_7_6, a0_7g_7, a0_7g_8, a0_7g_9, a0_7g_10, a0_7g_11, a0_7g_12, a0_7g_13, a0_7g_14])), (a0_1, .inr (5, [a0_1g_0, .int a0_1_1, a0_1g_2, a0_1g_3, a0_1g_4, a0_1g_5, a0_1g_6]))] s.heap := hP
  have hl := lv_entry ([.ref a0, .int a1]) (n := 2) (Nat.le_of_ble_eq_true rfl)
  rw [lg_entry_eq]
  generalize (lg_sl ([.ref a0, .int a1]) ++ List.replicate (2 - (lg_sl ([.ref a0, .int a1])).length) Slot.unset).toArray = ls at hl ⊢
  have hl : lv_has ls 2 [(0, .ref a0), (1, .int a1)] := hl
  generalize hFX : Ff_X7_turnOf a1.toInt a0_7_0.toInt a0_7_5.toInt a0_7_6.toInt a0_1_1.toInt = FX at ⊢
  have hF0 := hFX.symm.trans (Ff_X7_turnOf.eq_1 a1.toInt a0_7_0.toInt a0_7_5.toInt a0_7_6.toInt a0_1_1.toInt)
  refine lv_aload_n hx hb dX7_turnOf_0 rfl (lv_at hl 0 rfl) ?_
  obtain ⟨hPc, hDc, hFc, hCc⟩ := zc_cut (wc := [(a0, .inr (7, [a0g_0, .ref a0_1, a0g_2, a0g_3, a0g_4, a0g_5, a0g_6, .ref a0_7, .int a0_8, a0g_9, a0g_10])), (a0_7, .inr (0, [.int a0_7_0, a0_7g_1, a0_7g_2, a0_7g_3, a0_7g_4, .int a0_7_5, .int a0_7_6, a0_7g_7, a0_7g_8, a0_7g_9, a0_7g_10, a0_7g_11, a0_7g_12, a0_7g_13, a0_7g_14]))]) hP hD hS hA [0, 1] (by decide +kernel) rfl
  have hKc := hK.sub (tys' := []) [] rfl
  refine va_calli (va_runV (As := []) (rest := []) ⟨hx, hb, hml, hown, hts⟩ (f_X7_hasGallery l dC dI s.heap.size a0 a0g_0 (.ref a0_1) a0g_2 a0g_3 a0g_4 a0g_5 a0g_6 (.int a0_8) a0g_9 a0g_10 a0_7 a0_7_0 a0_7g_1 a0_7g_2 a0_7g_3 a0_7g_4 (.int a0_7_5) (.int a0_7_6) a0_7g_7 a0_7g_8 a0_7g_9 a0_7g_10 a0_7g_11 a0_7g_12 a0_7g_13 a0_7g_14 ba0_7_0_l ba0_7_0_u) (cwV 0 hts gX7_turnOf_X7_hasGallery rfl rfl rfl zd_X7_hasGallery ⟨Nat.le_of_ble_eq_true rfl, Nat.le_of_ble_eq_true rfl⟩) ⟨ax_blind (fun _ _ _ _ _ => trivial), zr_7 hKc hPc (q0 := 0) rfl, ax_pre hPc hKc hDc (fun _ _ => trivial)⟩ rfl rfl hl.1 rfl (lv_room (Nat.le_of_ble_eq_true rfl)) dX7_turnOf_1 ⟨Nat.le_of_ble_eq_true rfl, Nat.le_of_ble_eq_true rfl⟩) hS (fun q _ h => hFc q h) hFc (fun r1 u t H locs ht hvm hw hB hz1 hk1 hS => ?_)
  obtain ⟨hP1, hK1, hD1⟩ := hB
  rw [ht] at hP1
  obtain ⟨hP, hD⟩ := zc_back (w := [(a0, .inr (7, [a0g_0, .ref a0_1, a0g_2, a0g_3, a0g_4, a0g_5, a0g_6, .ref a0_7, .int a0_8, a0g_9, a0g_10])), (a0_7, .inr (0, [.int a0_7_0, a0_7g_1, a0_7g_2, a0_7g_3, a0_7g_4, .int a0_7_5, .int a0_7_6, a0_7g_7, a0_7g_8, a0_7g_9, a0_7g_10, a0_7g_11, a0_7g_12, a0_7g_13, a0_7g_14])), (a0_1, .inr (5, [a0_1g_0, .int a0_1_1, a0_1g_2, a0_1g_3, a0_1g_4, a0_1g_5, a0_1g_6]))]) hP hD hCc hk1 hFc hP1 hD1 [.inr 0, .inr 1, .inl 2] (by decide +kernel) rfl
  obtain ⟨hw, hfr1⟩ := hw
  have hc1 : Ff_X7_hasGallery a0_7_0.toInt = r1.toInt := hfr1.symm
  have hF0 := hF0.trans (fl_lt_eq hc1.symm)
  rcases hw with hw | hw
  · obtain ⟨hw, h1_0, h1_1⟩ := hw
    subst hw
    have l1k0_a0_7_0 : (1 : Int) ≤ a0_7_0.toInt := h1_0
    have u1k0_a0_7_0 : a0_7_0.toInt ≤ (9 : Int) := ba0_7_0_u
    have hF0 := hF0.trans (if_pos (by decide))
    refine lv_if_ne (tgt := 13) hx hb dX7_turnOf_4 (by decide) (fun _ => ?_) (fun c4 => absurd c4 (by decide +kernel))
    refine lv_iload_n hx hb dX7_turnOf_13 rfl (lv_at hl 1 rfl) ?_
    refine lv_iconst (v := 0) hx hb dX7_turnOf_14 zk_iconst_0 ?_
    refine lv_ldc (v := 2000000000) hx hb hown (hts (.constant RX7 170 (2000000000)) (zm_X7_turnOf_r1 (List.mem_of_getElem? (i := 0) rfl))) dX7_turnOf_15 ?_
    obtain ⟨hPc, hDc, hFc, hCc⟩ := zc_cut (wc := []) hP hD hS hA [] (by decide +kernel) rfl
    have hKc := hK.sub (tys' := []) [] rfl
    refine va_calli (va_runS (As := [.int a1, .int 0, .int 2000000000]) (rest := []) ⟨hx, hb, hml, hown, hts⟩ (f_X7_within l dC dI H.size a1 0 2000000000 ) (va_cwS 3 hts gX7_turnOf_X7_within rfl rfl rfl zd_X7_within.2 ⟨Nat.le_of_ble_eq_true rfl, Nat.le_of_ble_eq_true rfl⟩) ⟨ax_blind (fun _ _ _ _ _ => trivial), ax_pre hPc hKc hDc (fun _ _ => trivial)⟩ rfl rfl hl.1 rfl (lv_room (Nat.le_of_ble_eq_true rfl)) dX7_turnOf_17 ⟨Nat.le_of_ble_eq_true rfl, Nat.le_of_ble_eq_true rfl⟩) hS (fun q _ h => hFc q h) hFc (fun r17 u t H locs ht hvm hw hB hz1 hk1 hS => ?_)
    obtain ⟨hP1, hK1, hD1⟩ := hB
    rw [ht] at hP1
    obtain ⟨hP, hD⟩ := zc_back (w := [(a0, .inr (7, [a0g_0, .ref a0_1, a0g_2, a0g_3, a0g_4, a0g_5, a0g_6, .ref a0_7, .int a0_8, a0g_9, a0g_10])), (a0_7, .inr (0, [.int a0_7_0, a0_7g_1, a0_7g_2, a0_7g_3, a0_7g_4, .int a0_7_5, .int a0_7_6, a0_7g_7, a0_7g_8, a0_7g_9, a0_7g_10, a0_7g_11, a0_7g_12, a0_7g_13, a0_7g_14])), (a0_1, .inr (5, [a0_1g_0, .int a0_1_1, a0_1g_2, a0_1g_3, a0_1g_4, a0_1g_5, a0_1g_6]))]) hP hD hCc hk1 hFc hP1 hD1 [.inl 0, .inl 1, .inl 2] (by decide +kernel) rfl
    obtain ⟨hw, hfr17⟩ := hw
    rw [show (0 : Int32).toInt = 0 from by decide, show (2000000000 : Int32).toInt = 2000000000 from by decide] at hfr17
    have hc17 : Ff_X7_within a1.toInt 0 2000000000 = r17.toInt := hfr17.symm
    have hF0 := hF0.trans (fl_lt_eq hc17.symm)
    rcases hw with hw | hw
    · obtain ⟨hw, h17⟩ := hw
      subst hw
      have l17k0_a1 : (0 : Int) ≤ a1.toInt := Int.le_trans zq5 h17.1
      have u17k0_a1 : a1.toInt ≤ (2000000000 : Int) := Int.le_trans h17.2 zq73
      have hF0 := hF0.trans (if_pos (by decide))
      refine lv_if_ne (tgt := 29) hx hb dX7_turnOf_20 (by decide) (fun _ => ?_) (fun c20 => absurd c20 (by decide +kernel))
      refine lv_aload_n hx hb dX7_turnOf_29 rfl (lv_at hl 0 rfl) ?_
      refine lv_aload_n hx hb dX7_turnOf_30 rfl (lv_at hl 0 rfl) ?_
      refine lv_iload_n hx hb dX7_turnOf_31 rfl (lv_at hl 1 rfl) ?_
      obtain ⟨hPc, hDc, hFc, hCc⟩ := zc_cut (wc := [(a0, .inr (7, [a0g_0, .ref a0_1, a0g_2, a0g_3, a0g_4, a0g_5, a0g_6, .ref a0_7, .int a0_8, a0g_9, a0g_10])), (a0_7, .inr (0, [.int a0_7_0, a0_7g_1, a0_7g_2, a0_7g_3, a0_7g_4, .int a0_7_5, .int a0_7_6, a0_7g_7, a0_7g_8, a0_7g_9, a0_7g_10, a0_7g_11, a0_7g_12, a0_7g_13, a0_7g_14])), (a0_1, .inr (5, [a0_1g_0, .int a0_1_1, a0_1g_2, a0_1g_3, a0_1g_4, a0_1g_5, a0_1g_6]))]) hP hD hS hA [0, 1, 2] (by decide +kernel) rfl
      have hKc := hK.sub (tys' := []) [] rfl
      refine va_calli (va_runV (As := [.int a1]) (rest := [.ref a0]) ⟨hx, hb, hml, hown, hts⟩ (f_X7_turnFromNow l dC dI H.size a0 a1 a0g_0 a0g_2 a0g_3 a0g_4 a0g_5 a0g_6 (.int a0_8) a0g_9 a0g_10 a0_1 a0_7 a0_7_0 a0_7g_1 a0_7g_2 a0_7g_3 a0_7g_4 a0_7g_7 a0_7g_8 a0_7g_9 a0_7g_10 a0_7g_11 a0_7g_12 a0_7g_13 a0_7g_14 a0_7_5 a0_7_6 a0_1g_0 a0_1g_2 a0_1g_3 a0_1g_4 a0_1g_5 a0_1g_6 a0_1_1 (Int.le_trans zq4 l1k0_a0_7_0) u1k0_a0_7_0 ba0_7_5_l ba0_7_5_u ba0_7_6_l ba0_7_6_u ba0_1_1_l ba0_1_1_u) (cwV 1 hts gX7_turnOf_X7_turnFromNow rfl rfl rfl zd_X7_turnFromNow ⟨Nat.le_of_ble_eq_true rfl, Nat.le_of_ble_eq_true rfl⟩) ⟨ax_blind (fun _ _ _ _ _ => trivial), zr_7 hKc hPc (q0 := 0) rfl, ax_pre hPc hKc hDc (fun _ _ => trivial)⟩ rfl rfl hl.1 rfl (lv_room (Nat.le_of_ble_eq_true rfl)) dX7_turnOf_32 ⟨Nat.le_of_ble_eq_true rfl, Nat.le_of_ble_eq_true rfl⟩) hS (fun q _ h => hFc q h) hFc (fun r32 u t H locs ht hvm hw hB hz1 hk1 hS => ?_)
      obtain ⟨hP1, hK1, hD1⟩ := hB
      rw [ht] at hP1
      obtain ⟨hP, hD⟩ := zc_back (w := [(a0, .inr (7, [a0g_0, .ref a0_1, a0g_2, a0g_3, a0g_4, a0g_5, a0g_6, .ref a0_7, .int a0_8, a0g_9, a0g_10])), (a0_7, .inr (0, [.int a0_7_0, a0_7g_1, a0_7g_2, a0_7g_3, a0_7g_4, .int a0_7_5, .int a0_7_6, a0_7g_7, a0_7g_8, a0_7g_9, a0_7g_10, a0_7g_11, a0_7g_12, a0_7g_13, a0_7g_14])), (a0_1, .inr (5, [a0_1g_0, .int a0_1_1, a0_1g_2, a0_1g_3, a0_1g_4, a0_1g_5, a0_1g_6]))]) hP hD hCc hk1 hFc hP1 hD1 [.inr 0, .inr 1, .inr 2] (by decide +kernel) rfl
      obtain ⟨hw, hfr32⟩ := hw
      have hc32 : Ff_X7_turnFromNow a1.toInt a0_7_0.toInt a0_7_5.toInt a0_7_6.toInt a0_1_1.toInt = r32.toInt := hfr32.symm
      have hF0 := hF0.trans (fl_lt_eq hc32.symm)
      have hw : (0 : Int) ≤ r32.toInt ∧ r32.toInt ≤ (8 : Int) := hw
      obtain ⟨h32_0, h32_1⟩ := hw
      obtain ⟨hPc, hDc, hFc, hCc⟩ := zc_cut (wc := [(a0, .inr (7, [a0g_0, .ref a0_1, a0g_2, a0g_3, a0g_4, a0g_5, a0g_6, .ref a0_7, .int a0_8, a0g_9, a0g_10]))]) hP hD hS hA [0] (by decide +kernel) rfl
      have hKc := hK.sub (tys' := []) [] rfl
      refine va_calli (va_runV (As := [.int r32]) (rest := []) ⟨hx, hb, hml, hown, hts⟩ (f_X7_answered l dC dI H.size a0 r32 a0g_0 (.ref a0_1) a0g_2 a0g_3 a0g_4 a0g_5 a0g_6 (.ref a0_7) a0g_9 a0g_10 a0_8 ) (cwV 1 hts gX7_turnOf_X7_answered rfl rfl rfl zd_X7_answered ⟨Nat.le_of_ble_eq_true rfl, Nat.le_of_ble_eq_true rfl⟩) ⟨ax_blind (fun _ _ _ _ _ => trivial), zr_7 hKc hPc (q0 := 0) rfl, ax_pre hPc hKc hDc (fun _ _ => trivial)⟩ rfl rfl hl.1 rfl (lv_room (Nat.le_of_ble_eq_true rfl)) dX7_turnOf_35 ⟨Nat.le_of_ble_eq_true rfl, Nat.le_of_ble_eq_true rfl⟩) hS (fun q _ h => hFc q h) hFc (fun r35 u t H locs ht hvm hw hB hz1 hk1 hS => ?_)
      obtain ⟨v35na0_8, hraw35_0, hP1, hK1, hD1⟩ := hB
      rw [ht] at hP1
      obtain ⟨hP, hD⟩ := zc_back (w := [(a0, .inr (7, [a0g_0, .ref a0_1, a0g_2, a0g_3, a0g_4, a0g_5, a0g_6, .ref a0_7, .int v35na0_8, a0g_9, a0g_10])), (a0_7, .inr (0, [.int a0_7_0, a0_7g_1, a0_7g_2, a0_7g_3, a0_7g_4, .int a0_7_5, .int a0_7_6, a0_7g_7, a0_7g_8, a0_7g_9, a0_7g_10, a0_7g_11, a0_7g_12, a0_7g_13, a0_7g_14])), (a0_1, .inr (5, [a0_1g_0, .int a0_1_1, a0_1g_2, a0_1g_3, a0_1g_4, a0_1g_5, a0_1g_6]))]) hP hD hCc hk1 hFc hP1 hD1 [.inr 0, .inl 1, .inl 2] (by decide +kernel) rfl
      obtain ⟨hw, hfr35⟩ := hw
      have hc35 : Ff_X7_answered r32.toInt = (r35.toInt, v35na0_8.toInt) := Prod.ext hfr35.symm hraw35_0
      have hF0 := hF0.trans (fl_c2_eq hc35)
      have hw : r35 = r32 := hw
      have hw := hw.symm
      subst hw
      have hFe : FX = (r32.toInt, v35na0_8.toInt) := hF0
      exact W.iret (v := r32) hx hb hr (fun t ht hW => ⟨⟨r32, (), rfl, ⟨⟨(Int.le_trans zq69 h32_0), h32_1⟩, (congrArg Prod.fst hFe).symm⟩, v35na0_8, (congrArg Prod.snd hFe), by rw [ht]; exact hP, va_K.moved hW.alike hK, hD⟩, hS.F ht⟩) hS.2.2 dX7_turnOf_38
    · obtain ⟨hw, h17⟩ := hw
      subst hw
      have hF0 := hF0.trans (if_neg (by decide))
      refine lv_if_ne (tgt := 29) hx hb dX7_turnOf_20 (by decide) (fun c20 => absurd (by decide +kernel) c20) (fun _ => ?_)
      refine lv_aload_n hx hb dX7_turnOf_23 rfl (lv_at hl 0 rfl) ?_
      refine lv_iconst (v := 2) hx hb dX7_turnOf_24 zk_iconst_2 ?_
      obtain ⟨hPc, hDc, hFc, hCc⟩ := zc_cut (wc := [(a0, .inr (7, [a0g_0, .ref a0_1, a0g_2, a0g_3, a0g_4, a0g_5, a0g_6, .ref a0_7, .int a0_8, a0g_9, a0g_10]))]) hP hD hS hA [0] (by decide +kernel) rfl
      have hKc := hK.sub (tys' := []) [] rfl
      refine va_calli (va_runV (As := [.int 2]) (rest := []) ⟨hx, hb, hml, hown, hts⟩ (f_X7_refused l dC dI H.size a0 2 a0g_0 (.ref a0_1) a0g_2 a0g_3 a0g_4 a0g_5 a0g_6 (.ref a0_7) a0g_9 a0g_10 a0_8 ) (cwV 1 hts gX7_turnOf_X7_refused rfl rfl rfl zd_X7_refused ⟨Nat.le_of_ble_eq_true rfl, Nat.le_of_ble_eq_true rfl⟩) ⟨ax_blind (fun _ _ _ _ _ => trivial), zr_7 hKc hPc (q0 := 0) rfl, ax_pre hPc hKc hDc (fun _ _ => trivial)⟩ rfl rfl hl.1 rfl (lv_room (Nat.le_of_ble_eq_true rfl)) dX7_turnOf_25 ⟨Nat.le_of_ble_eq_true rfl, Nat.le_of_ble_eq_true rfl⟩) hS (fun q _ h => hFc q h) hFc (fun r25 u t H locs ht hvm hw hB hz1 hk1 hS => ?_)
      obtain ⟨v25na0_8, hraw25_0, hP1, hK1, hD1⟩ := hB
      rw [ht] at hP1
      obtain ⟨hP, hD⟩ := zc_back (w := [(a0, .inr (7, [a0g_0, .ref a0_1, a0g_2, a0g_3, a0g_4, a0g_5, a0g_6, .ref a0_7, .int v25na0_8, a0g_9, a0g_10])), (a0_7, .inr (0, [.int a0_7_0, a0_7g_1, a0_7g_2, a0_7g_3, a0_7g_4, .int a0_7_5, .int a0_7_6, a0_7g_7, a0_7g_8, a0_7g_9, a0_7g_10, a0_7g_11, a0_7g_12, a0_7g_13, a0_7g_14])), (a0_1, .inr (5, [a0_1g_0, .int a0_1_1, a0_1g_2, a0_1g_3, a0_1g_4, a0_1g_5, a0_1g_6]))]) hP hD hCc hk1 hFc hP1 hD1 [.inr 0, .inl 1, .inl 2] (by decide +kernel) rfl
      obtain ⟨hw, hfr25⟩ := hw
      rw [show (2 : Int32).toInt = 2 from by decide] at hfr25 hraw25_0
      have hc25 : Ff_X7_refused 2 = (r25.toInt, v25na0_8.toInt) := Prod.ext hfr25.symm hraw25_0
      have hF0 := hF0.trans (fl_c2_eq hc25)
      have hw : r25 = (-1) := hw
      have hw := hw.symm
      subst hw
      have hFe : FX = ((-1), v25na0_8.toInt) := hF0
      exact W.iret (v := (-1)) hx hb hr (fun t ht hW => ⟨⟨(-1), (), rfl, ⟨⟨zq70, (Int.le_trans zq71 zq72)⟩, (congrArg Prod.fst hFe).symm⟩, v25na0_8, (congrArg Prod.snd hFe), by rw [ht]; exact hP, va_K.moved hW.alike hK, hD⟩, hS.F ht⟩) hS.2.2 dX7_turnOf_28
  · obtain ⟨hw, h1_0, h1_1⟩ := hw
    subst hw
    have l1k1_a0_7_0 : (0 : Int) ≤ a0_7_0.toInt := ba0_7_0_l
    have u1k1_a0_7_0 : a0_7_0.toInt ≤ (0 : Int) := h1_1
    have hF0 := hF0.trans (if_neg (by decide))
    refine lv_if_ne (tgt := 13) hx hb dX7_turnOf_4 (by decide) (fun c4 => absurd (by decide +kernel) c4) (fun _ => ?_)
    refine lv_aload_n hx hb dX7_turnOf_7 rfl (lv_at hl 0 rfl) ?_
    refine lv_iconst (v := 1) hx hb dX7_turnOf_8 zk_iconst_1 ?_
    obtain ⟨hPc, hDc, hFc, hCc⟩ := zc_cut (wc := [(a0, .inr (7, [a0g_0, .ref a0_1, a0g_2, a0g_3, a0g_4, a0g_5, a0g_6, .ref a0_7, .int a0_8, a0g_9, a0g_10]))]) hP hD hS hA [0] (by decide +kernel) rfl
    have hKc := hK.sub (tys' := []) [] rfl
    refine va_calli (va_runV (As := [.int 1]) (rest := []) ⟨hx, hb, hml, hown, hts⟩ (f_X7_refused l dC dI H.size a0 1 a0g_0 (.ref a0_1) a0g_2 a0g_3 a0g_4 a0g_5 a0g_6 (.ref a0_7) a0g_9 a0g_10 a0_8 ) (cwV 1 hts gX7_turnOf_X7_refused rfl rfl rfl zd_X7_refused ⟨Nat.le_of_ble_eq_true rfl, Nat.le_of_ble_eq_true rfl⟩) ⟨ax_blind (fun _ _ _ _ _ => trivial), zr_7 hKc hPc (q0 := 0) rfl, ax_pre hPc hKc hDc (fun _ _ => trivial)⟩ rfl rfl hl.1 rfl (lv_room (Nat.le_of_ble_eq_true rfl)) dX7_turnOf_9 ⟨Nat.le_of_ble_eq_true rfl, Nat.le_of_ble_eq_true rfl⟩) hS (fun q _ h => hFc q h) hFc (fun r9 u t H locs ht hvm hw hB hz1 hk1 hS => ?_)
    obtain ⟨v9na0_8, hraw9_0, hP1, hK1, hD1⟩ := hB
    rw [ht] at hP1
    obtain ⟨hP, hD⟩ := zc_back (w := [(a0, .inr (7, [a0g_0, .ref a0_1, a0g_2, a0g_3, a0g_4, a0g_5, a0g_6, .ref a0_7, .int v9na0_8, a0g_9, a0g_10])), (a0_7, .inr (0, [.int a0_7_0, a0_7g_1, a0_7g_2, a0_7g_3, a0_7g_4, .int a0_7_5, .int a0_7_6, a0_7g_7, a0_7g_8, a0_7g_9, a0_7g_10, a0_7g_11, a0_7g_12, a0_7g_13, a0_7g_14])), (a0_1, .inr (5, [a0_1g_0, .int a0_1_1, a0_1g_2, a0_1g_3, a0_1g_4, a0_1g_5, a0_1g_6]))]) hP hD hCc hk1 hFc hP1 hD1 [.inr 0, .inl 1, .inl 2] (by decide +kernel) rfl
    obtain ⟨hw, hfr9⟩ := hw
    rw [show (1 : Int32).toInt = 1 from by decide] at hfr9 hraw9_0
    have hc9 : Ff_X7_refused 1 = (r9.toInt, v9na0_8.toInt) := Prod.ext hfr9.symm hraw9_0
    have hF0 := hF0.trans (fl_c2_eq hc9)
    have hw : r9 = (-1) := hw
    have hw := hw.symm
    subst hw
    have hFe : FX = ((-1), v9na0_8.toInt) := hF0
    exact W.iret (v := (-1)) hx hb hr (fun t ht hW => ⟨⟨(-1), (), rfl, ⟨⟨zq70, (Int.le_trans zq71 zq72)⟩, (congrArg Prod.fst hFe).symm⟩, v9na0_8, (congrArg Prod.snd hFe), by rw [ht]; exact hP, va_K.moved hW.alike hK, hD⟩, hS.F ht⟩) hS.2.2 dX7_turnOf_12
