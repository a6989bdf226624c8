set_option maxHeartbeats 4000000 in
set_option maxRecDepth 100000 in
theorem c_X8_image (l : Launch) (dC : Nat → ClassId) (dI : Nat → Nat → Nat) (sz : Nat) (a0 : Nat) (a0_0 : Int32) (a0g_1 a0g_2 a0g_3 a0g_4 a0g_5 a0g_6 a0g_7 a0g_8 a0g_9 a0g_10 a0g_12 a0g_13 a0g_15 a0g_16 a0g_18 a0g_19 a0g_21 a0g_23 a0g_24 a0g_25 a0g_26 a0g_27 a0g_28 a0g_29 a0g_30 a0g_31 a0g_32 a0g_33 a0g_34 a0g_35 a0g_36 a0g_37 a0g_38 a0g_39 : Value) (a0_11 : Int32) (a0_14 : Int32) (a0_17 : Nat) (a0_20 : Nat) (a0_22 : Int32) (ka0_17 : ClassId) (fa0_17 : Nat → Int32) (ka0_20 : ClassId) (fa0_20 : Nat → Int32) (ba0_14_l : (1 : Int) ≤ a0_14.toInt) (ba0_14_u : a0_14.toInt ≤ (1 : Int)) (ba0_22_l : (0 : Int) ≤ a0_22.toInt) (ba0_22_u : a0_22.toInt ≤ (3 : Int)) (bfa0_17 : ((∀ k : Nat, 0 ≤ k → k ≤ 8 → (0 : Int) ≤ (fa0_17 k).toInt ∧ (fa0_17 k).toInt ≤ 8) ∧ (∀ k : Nat, 19 ≤ k → k ≤ 19 → (0 : Int) ≤ (fa0_17 k).toInt ∧ (fa0_17 k).toInt ≤ 8) ∧ (∀ k : Nat, 20 ≤ k → k ≤ 20 → (0 : Int) ≤ (fa0_17 k).toInt ∧ (fa0_17 k).toInt ≤ 19))) (bfa0_20 : (md_S fa0_20)) : Met l yX8_image wsX8_image ({ frames := 1, cells := 0, slots := 0, locals := 25 }) (va_Pc [.ref a0] (ax_C dC dI sz [(a0, .inr (8, [Value.int a0_0, a0g_1, a0g_2, a0g_3, a0g_4, a0g_5, a0g_6, a0g_7, a0g_8, a0g_9, a0g_10, Value.int a0_11, a0g_12, a0g_13, Value.int a0_14, a0g_15, a0g_16, Value.ref a0_17, a0g_18, a0g_19, Value.ref a0_20, a0g_21, Value.int a0_22, a0g_23, a0g_24, a0g_25, a0g_26, a0g_27, a0g_28, a0g_29, a0g_30, a0g_31, a0g_32, a0g_33, a0g_34, a0g_35, a0g_36, a0g_37, a0g_38, a0g_39])), (a0_17, .inl (ka0_17, 23, .inl (fa0_17))), (a0_20, .inl (ka0_20, 69, .inl (fa0_20)))] [(ka0_17, .int), (ka0_20, .int)] (fun _ => True))) (va_Qi (fun (r : Int32) (_ : Unit) => (-1 : Int) ≤ r.toInt ∧ r.toInt ≤ (2 : Int)) (fun (_ : Unit) (t : State) => ∃ na0_0 : Int32, ∃ na0_11 : Int32, ∃ na0_22 : Int32, ∃ nfa0_20 : Nat → Int32, ((0 : Int) ≤ na0_22.toInt ∧ na0_22.toInt ≤ 3) ∧ (md_S nfa0_20) ∧ ax_B dC dI (va_A [(a0, .inr (8, [Value.int a0_0, a0g_1, a0g_2, a0g_3, a0g_4, a0g_5, a0g_6, a0g_7, a0g_8, a0g_9, a0g_10, Value.int a0_11, a0g_12, a0g_13, Value.int a0_14, a0g_15, a0g_16, Value.ref a0_17, a0g_18, a0g_19, Value.ref a0_20, a0g_21, Value.int a0_22, a0g_23, a0g_24, a0g_25, a0g_26, a0g_27, a0g_28, a0g_29, a0g_30, a0g_31, a0g_32, a0g_33, a0g_34, a0g_35, a0g_36, a0g_37, a0g_38, a0g_39])), (a0_17, .inl (ka0_17, 23, .inl (fa0_17))), (a0_20, .inl (ka0_20, 69, .inl (fa0_20)))] sz) [(a0, .inr (8, [Value.int na0_0, a0g_1, a0g_2, a0g_3, a0g_4, a0g_5, a0g_6, a0g_7, a0g_8, a0g_9, a0g_10, Value.int na0_11, a0g_12, a0g_13, Value.int a0_14, a0g_15, a0g_16, Value.ref a0_17, a0g_18, a0g_19, Value.ref a0_20, a0g_21, Value.int na0_22, a0g_23, a0g_24, a0g_25, a0g_26, a0g_27, a0g_28, a0g_29, a0g_30, a0g_31, a0g_32, a0g_33, a0g_34, a0g_35, a0g_36, a0g_37, a0g_38, a0g_39])), (a0_17, .inl (ka0_17, 23, .inl (fa0_17))), (a0_20, .inl (ka0_20, 69, .inl (nfa0_20)))] [(ka0_17, .int), (ka0_20, .int)] t) (va_A [(a0, .inr (8, [Value.int a0_0, a0g_1, a0g_2, a0g_3, a0g_4, a0g_5, a0g_6, a0g_7, a0g_8, a0g_9, a0g_10, Value.int a0_11, a0g_12, a0g_13, Value.int a0_14, a0g_15, a0g_16, Value.ref a0_17, a0g_18, a0g_19, Value.ref a0_20, a0g_21, Value.int a0_22, a0g_23, a0g_24, a0g_25, a0g_26, a0g_27, a0g_28, a0g_29, a0g_30, a0g_31, a0g_32, a0g_33, a0g_34, a0g_35, a0g_36, a0g_37, a0g_38, a0g_39])), (a0_17, .inl (ka0_17, 23, .inl (fa0_17))), (a0_20, .inl (ka0_20, 69, .inl (fa0_20)))] sz)) 0 0 (va_A [(a0, .inr (8, [Value.int a0_0, a0g_1, a0g_2, a0g_3, a0g_4, a0g_5, a0g_6, a0g_7, a0g_8, a0g_9, a0g_10, Value.int a0_11, a0g_12, a0g_13, Value.int a0_14, a0g_15, a0g_16, Value.ref a0_17, a0g_18, a0g_19, Value.ref a0_20, a0g_21, Value.int a0_22, a0g_23, a0g_24, a0g_25, a0g_26, a0g_27, a0g_28, a0g_29, a0g_30, a0g_31, a0g_32, a0g_33, a0g_34, a0g_35, a0g_36, a0g_37, a0g_38, a0g_39])), (a0_17, .inl (ka0_17, 23, .inl (fa0_17))), (a0_20, .inl (ka0_20, 69, .inl (fa0_20)))] sz) := by
  refine Met.ofW (cc := cX8_image) (maxL := 1) (ret := (some .int)) (by decide) rfl ?_
  intro p e s m args below meth c s₁ B hml hv
  obtain ⟨rfl, hsz, hP, hK, hD0, hE⟩ := hv
  have hx := B.exec
  have hb := B.bytes
  have hr := B.returns
  have hts := atoms_spec (ws := wsX8_image) B.pre
  have hown : s.vm.findClass RX8 = some m.cls := findClass_of_methodNamed B.named
  have hlocks := B.notSynchronized
  subst hsz
  have hD := hD0.self (sz := s.heap.size)
  generalize hAe : va_A [(a0, .inr (8, [Value.int a0_0, a0g_1, a0g_2, a0g_3, a0g_4, a0g_5, a0g_6, a0g_7, a0g_8, a0g_9, a0g_10, Value.int a0_11, a0g_12, a0g_13, Value.int a0_14, a0g_15, a0g_16, Value.ref a0_17, a0g_18, a0g_19, Value.ref a0_20, a0g_21, Value.int a0_22, a0g_23, a0g_24, a0g_25, a0g_26, a0g_27, a0g_28, a0g_29, a0g_30, a0g_31, a0g_32, a0g_33, a0g_34, a0g_35, a0g_36, a0g_37, a0g_38, a0g_39])), (a0_17, .inl (ka0_17, 23, .inl (fa0_17))), (a0_20, .inl (ka0_20, 69, .inl (fa0_20)))] s.heap.size = A at hD ⊢
  have hA : ∀ q : Nat, s.heap.size ≤ q → A q := fun q h => by rw [← hAe]; exact Or.inr h
  have hS : va_S A s.heap s.heap [] := va_S.rf
  have hP : va_P (dC, dI) vwCl [(a0, .inr (8, [Value.int a0_0, a0g_1, a0g_2, a0g_3, a0g_4, a0g_5, a0g_6, a0g_7, a0g_8, a0g_9, a0g_10, Value.int a0_11, a0g_12, a0g_13, Value.int a0_14, a0g_15, a0g_16, Value.ref a0_17, a0g_18, a0g_19, Value.ref a0_20, a0g_21, Value.int a0_22, a0g_23, a0g_24, a0g_25, a0g_26, a0g_27, a0g_28, a0g_29, a0g_30, a0g_31, a0g_32, a0g_33, a0g_34, a0g_35, a0g_36, a0g_37, a0g_38, a0g_39])), (a0_17, .inl (ka0_17, 23, .inl (fa0_17))), (a0_20, .inl (ka0_20, 69, .inl (fa0_20)))] s.heap := hP
  have hl := lv_entry ([.ref a0]) (n := 1) (Nat.le_of_ble_eq_true rfl)
  rw [lg_entry_eq]
  generalize (lg_sl ([.ref a0]) ++ List.replicate (1 - (lg_sl ([.ref a0])).length) Slot.unset).toArray = ls at hl ⊢
  have hl : lv_has ls 1 [(0, .ref a0)] := hl
  refine lv_aload_n hx hb dX8_image_0 rfl (lv_at hl 0 rfl) ?_
  obtain ⟨hPc, hDc, hFc, hCc⟩ := zc_cut (wc := [(a0, .inr (8, [Value.int a0_0, a0g_1, a0g_2, a0g_3, a0g_4, a0g_5, a0g_6, a0g_7, a0g_8, a0g_9, a0g_10, Value.int a0_11, a0g_12, a0g_13, Value.int a0_14, a0g_15, a0g_16, Value.ref a0_17, a0g_18, a0g_19, Value.ref a0_20, a0g_21, Value.int a0_22, a0g_23, a0g_24, a0g_25, a0g_26, a0g_27, a0g_28, a0g_29, a0g_30, a0g_31, a0g_32, a0g_33, a0g_34, a0g_35, a0g_36, a0g_37, a0g_38, a0g_39]))]) hP hD hS hA [0] (by decide +kernel) rfl
  have hKc := hK.sub (tys' := []) [] rfl
  refine va_callv (va_runV (As := []) (rest := []) ⟨hx, hb, hml, hown, hts⟩ (c_X8_good l dC dI s.heap.size a0 a0_0 a0g_1 a0g_2 a0g_3 a0g_4 a0g_5 a0g_6 a0g_7 a0g_8 a0g_9 a0g_10 a0g_12 a0g_13 (Value.int a0_14) a0g_15 a0g_16 (Value.ref a0_17) a0g_18 a0g_19 (Value.ref a0_20) a0g_21 (Value.int a0_22) a0g_23 a0g_24 a0g_25 a0g_26 a0g_27 a0g_28 a0g_29 a0g_30 a0g_31 a0g_32 a0g_33 a0g_34 a0g_35 a0g_36 a0g_37 a0g_38 a0g_39 a0_11 ) (cwV 0 hts gX8_image_X8_good rfl rfl rfl zd_X8_good ⟨Nat.le_of_ble_eq_true rfl, Nat.le_of_ble_eq_true rfl⟩) ⟨ax_blind (fun _ _ _ _ _ => trivial), zr_8 hKc hPc (q0 := 0) rfl, ax_pre hPc hKc hDc (fun _ _ => trivial)⟩ rfl rfl hl.1 rfl (lv_room (Nat.le_of_ble_eq_true rfl)) dX8_image_1 ⟨Nat.le_of_ble_eq_true rfl, Nat.le_of_ble_eq_true rfl⟩) hS (fun q _ h => hFc q h) hFc (fun u t H locs ht hvm hw hB hz1 hk1 hS => ?_)
  obtain ⟨v1na0_0, v1na0_11, hP1, hK1, hD1⟩ := hB
  rw [ht] at hP1
  obtain ⟨hP, hD⟩ := zc_back (w := [(a0, .inr (8, [Value.int v1na0_0, a0g_1, a0g_2, a0g_3, a0g_4, a0g_5, a0g_6, a0g_7, a0g_8, a0g_9, a0g_10, Value.int v1na0_11, a0g_12, a0g_13, Value.int a0_14, a0g_15, a0g_16, Value.ref a0_17, a0g_18, a0g_19, Value.ref a0_20, a0g_21, Value.int a0_22, a0g_23, a0g_24, a0g_25, a0g_26, a0g_27, a0g_28, a0g_29, a0g_30, a0g_31, a0g_32, a0g_33, a0g_34, a0g_35, a0g_36, a0g_37, a0g_38, a0g_39])), (a0_17, .inl (ka0_17, 23, .inl (fa0_17))), (a0_20, .inl (ka0_20, 69, .inl (fa0_20)))]) hP hD hCc hk1 hFc hP1 hD1 [.inr 0, .inl 1, .inl 2] (by decide +kernel) rfl
  refine lv_aload_n hx hb dX8_image_4 rfl (lv_at hl 0 rfl) ?_
  refine va_get (D := (dC, dI)) (ci := 8) (v := .int a0_14) (C := RX8) (T := TX8) (N := 40) hx hb hts zi_X8_image_8 hown hK hP 0 rfl rfl 14 (by decide) (hts (.fieldLink RX8 173 "WaxTurnsModel" "hasGallery" "Z") (List.mem_cons_of_mem _ (List.mem_append_left _ (List.mem_of_getElem? (i := 0) rfl)))) (fun _ h9 => h9) rfl dX8_image_5 ?_
  refine lv_if_ne (tgt := 17) hx hb dX8_image_8 (by decide) (fun c8 => ?_) (fun c8 => ?_)
  · have gc8 := ai_ne c8
    refine lv_aload_n hx hb dX8_image_17 rfl (lv_at hl 0 rfl) ?_
    refine va_get (D := (dC, dI)) (ci := 8) (v := .int a0_22) (C := RX8) (T := TX8) (N := 40) hx hb hts zi_X8_image_8 hown hK hP 0 rfl rfl 22 (by decide) (hts (.fieldLink RX8 179 "WaxTurnsModel" "images" "I") (List.mem_cons_of_mem _ (List.mem_append_left _ (List.mem_of_getElem? (i := 1) rfl)))) (fun _ h9 => h9) rfl dX8_image_18 ?_
    refine lv_iconst (v := 3) hx hb dX8_image_21 zk_iconst_3 ?_
    refine lv_icmp_ne (tgt := 31) hx hb dX8_image_22 (by decide) (fun c22 => ?_) (fun c22 => ?_)
    · have gc22 := ai_ne c22
      have u22t_a0_22 : a0_22.toInt ≤ (2 : Int) := (by have h1 := ba0_22_u; have h2 : (3 : Int32).toInt = 3 := (by decide); rw [h2] at gc22; omega)
      refine lv_aload_n hx hb dX8_image_31 rfl (lv_at hl 0 rfl) ?_
      refine va_get (D := (dC, dI)) (ci := 8) (v := .ref a0_17) (C := RX8) (T := TX8) (N := 40) hx hb hts zi_X8_image_8 hown hK hP 0 rfl rfl 17 (by decide) (hts (.fieldLink RX8 26 "WaxTurnsModel" "st" "[I") (List.mem_cons_of_mem _ (List.mem_append_left _ (List.mem_of_getElem? (i := 2) rfl)))) (fun _ h9 => h9) rfl dX8_image_32 ?_
      refine lv_iconst (v := 0) hx hb dX8_image_35 zk_iconst_0 ?_
      refine lv_aload_n hx hb dX8_image_36 rfl (lv_at hl 0 rfl) ?_
      refine va_get (D := (dC, dI)) (ci := 8) (v := .ref a0_20) (C := RX8) (T := TX8) (N := 40) hx hb hts zi_X8_image_8 hown hK hP 0 rfl rfl 20 (by decide) (hts (.fieldLink RX8 35 "WaxTurnsModel" "kept" "[I") (List.mem_cons_of_mem _ (List.mem_append_left _ (List.mem_of_getElem? (i := 3) rfl)))) (fun _ h9 => h9) rfl dX8_image_37 ?_
      refine lv_bipush (v := 23) hx hb dX8_image_40 zk_bipush_23 ?_
      refine lv_aload_n hx hb dX8_image_42 rfl (lv_at hl 0 rfl) ?_
      refine va_get (D := (dC, dI)) (ci := 8) (v := .int a0_22) (C := RX8) (T := TX8) (N := 40) hx hb hts zi_X8_image_8 hown hK hP 0 rfl rfl 22 (by decide) (hts (.fieldLink RX8 179 "WaxTurnsModel" "images" "I") (List.mem_cons_of_mem _ (List.mem_append_left _ (List.mem_of_getElem? (i := 1) rfl)))) (fun _ h9 => h9) rfl dX8_image_43 ?_
      refine lv_imul hx hb dX8_image_46 ?_
      refine lv_topi (fun x46 ex46 => ?_)
      have qx46 : x46.toInt = (23 : Int32).toInt * a0_22.toInt ∧ (0 : Int) ≤ x46.toInt ∧ x46.toInt ≤ 46 := ai_mul ex46 ⟨zq170, zq171⟩ ⟨ba0_22_l, u22t_a0_22⟩ (by decide) (by decide) zq216
      have wx46 : x46.toInt = 23 * a0_22.toInt := qx46.1
      refine lv_bipush (v := 23) hx hb dX8_image_47 zk_bipush_23 ?_
      obtain ⟨hPc, hDc, hFc, hCc⟩ := zc_cut (wc := [(a0_17, .inl (ka0_17, 23, .inl (fa0_17))), (a0_20, .inl (ka0_20, 69, .inl (fa0_20)))]) hP hD hS hA [1, 2] (by decide +kernel) rfl
      have hKc := hK.sub (tys' := [(ka0_17, .int), (ka0_20, .int)]) [0, 1] rfl
      refine va_callv (va_runS (As := [.ref a0_17, .int 0, .ref a0_20, .int x46, .int 23]) (rest := []) ⟨hx, hb, hml, hown, hts⟩ (c_X8_copy_23_69 l dC dI H.size a0_17 0 a0_20 x46 23 ka0_17 fa0_17 ka0_20 fa0_20 zq5 zq6 qx46.2.1 qx46.2.2 zq170 zq171) (va_cwS 5 hts gX8_image_X8_copy rfl rfl rfl zd_X8_copy.2 ⟨Nat.le_of_ble_eq_true rfl, Nat.le_of_ble_eq_true rfl⟩) ⟨ax_blind (fun _ _ _ _ _ => trivial), ax_pre hPc hKc hDc (fun _ _ => trivial)⟩ rfl rfl hl.1 rfl (lv_room (Nat.le_of_ble_eq_true rfl)) dX8_image_49 ⟨Nat.le_of_ble_eq_true rfl, Nat.le_of_ble_eq_true rfl⟩) hS (fun q _ h => hFc q h) hFc (fun u t H locs ht hvm hw hB hz1 hk1 hS => ?_)
      obtain ⟨v49nfa3, hraw49_0, hP1, hK1, hD1⟩ := hB
      rw [ht] at hP1
      obtain ⟨hP, hD⟩ := zc_back (w := [(a0, .inr (8, [Value.int v1na0_0, a0g_1, a0g_2, a0g_3, a0g_4, a0g_5, a0g_6, a0g_7, a0g_8, a0g_9, a0g_10, Value.int v1na0_11, a0g_12, a0g_13, Value.int a0_14, a0g_15, a0g_16, Value.ref a0_17, a0g_18, a0g_19, Value.ref a0_20, a0g_21, Value.int a0_22, a0g_23, a0g_24, a0g_25, a0g_26, a0g_27, a0g_28, a0g_29, a0g_30, a0g_31, a0g_32, a0g_33, a0g_34, a0g_35, a0g_36, a0g_37, a0g_38, a0g_39])), (a0_17, .inl (ka0_17, 23, .inl (fa0_17))), (a0_20, .inl (ka0_20, 69, .inl (v49nfa3)))]) hP hD hCc hk1 hFc hP1 hD1 [.inl 0, .inr 0, .inr 1] (by decide +kernel) rfl
      have bv49nfa3 : (md_S v49nfa3) := cp_SM hraw49_0 (by decide) (md_ix (u := a0_22) wx46 ba0_22_l) bfa0_17 bfa0_20
      refine lv_aload_n hx hb dX8_image_52 rfl (lv_at hl 0 rfl) ?_
      refine lv_dup hx hb dX8_image_53 rfl ?_
      refine va_get (D := (dC, dI)) (ci := 8) (v := .int a0_22) (C := RX8) (T := TX8) (N := 40) hx hb hts zi_X8_image_8 hown hK hP 0 rfl rfl 22 (by decide) (hts (.fieldLink RX8 179 "WaxTurnsModel" "images" "I") (List.mem_cons_of_mem _ (List.mem_append_left _ (List.mem_of_getElem? (i := 1) rfl)))) (fun _ h9 => h9) rfl dX8_image_54 ?_
      refine lv_iconst (v := 1) hx hb dX8_image_57 zk_iconst_1 ?_
      refine lv_iadd hx hb dX8_image_58 ?_
      refine lv_topi (fun x58 ex58 => ?_)
      have qx58 : x58.toInt = a0_22.toInt + (1 : Int32).toInt := ai_add ex58 ⟨ba0_22_l, u22t_a0_22⟩ ⟨zq1, zq0⟩ (by decide) (by decide)
      have bx58 : (1 : Int) ≤ x58.toInt ∧ x58.toInt ≤ 3 := ⟨by rw [qx58]; exact Int.add_le_add ba0_22_l zq1, by rw [qx58]; exact Int.add_le_add u22t_a0_22 zq0⟩
      have wx58 : x58.toInt = a0_22.toInt + 1 := qx58
      refine va_put (D := (dC, dI)) (ci := 8) (v := .int x58) (ty := .int) (C := RX8) (T := TX8) (N := 40) hx hb hts zi_X8_image_8 tyX8 tyX8_ok nmX8 hown hK hP hD hS 0 rfl rfl 22 (by decide) (hts (.fieldLink RX8 179 "WaxTurnsModel" "images" "I") (List.mem_cons_of_mem _ (List.mem_append_left _ (List.mem_of_getElem? (i := 1) rfl)))) (fun _ h9 => h9) rfl (tyX8_ok 22 (by decide)) rfl rfl (Nat.le_of_ble_eq_true rfl) dX8_image_59 (fun H locs hP hD hS => ?_)
      obtain ⟨hP, hD⟩ := zc_re (w := [(a0, .inr (8, [Value.int v1na0_0, a0g_1, a0g_2, a0g_3, a0g_4, a0g_5, a0g_6, a0g_7, a0g_8, a0g_9, a0g_10, Value.int v1na0_11, a0g_12, a0g_13, Value.int a0_14, a0g_15, a0g_16, Value.ref a0_17, a0g_18, a0g_19, Value.ref a0_20, a0g_21, Value.int x58, a0g_23, a0g_24, a0g_25, a0g_26, a0g_27, a0g_28, a0g_29, a0g_30, a0g_31, a0g_32, a0g_33, a0g_34, a0g_35, a0g_36, a0g_37, a0g_38, a0g_39])), (a0_17, .inl (ka0_17, 23, .inl (fa0_17))), (a0_20, .inl (ka0_20, 69, .inl (v49nfa3)))]) hP hD rfl
      refine lv_aload_n hx hb dX8_image_62 rfl (lv_at hl 0 rfl) ?_
      refine va_get (D := (dC, dI)) (ci := 8) (v := .int x58) (C := RX8) (T := TX8) (N := 40) hx hb hts zi_X8_image_8 hown hK hP 0 rfl rfl 22 (by decide) (hts (.fieldLink RX8 179 "WaxTurnsModel" "images" "I") (List.mem_cons_of_mem _ (List.mem_append_left _ (List.mem_of_getElem? (i := 1) rfl)))) (fun _ h9 => h9) rfl dX8_image_63 ?_
      refine lv_iconst (v := 1) hx hb dX8_image_66 zk_iconst_1 ?_
      refine lv_isub hx hb dX8_image_67 ?_
      refine lv_topi (fun x67 ex67 => ?_)
      have qx67 : x67.toInt = x58.toInt - (1 : Int32).toInt := ai_sub ex67 ⟨bx58.1, bx58.2⟩ ⟨zq1, zq0⟩ (by decide) (by decide)
      have bx67 : (0 : Int) ≤ x67.toInt ∧ x67.toInt ≤ 2 := ⟨by rw [qx67]; exact Int.sub_le_sub bx58.1 zq0, by rw [qx67]; exact Int.sub_le_sub bx58.2 zq1⟩
      have wx67 : x67.toInt = x58.toInt - 1 := qx67
      exact W.iret (v := x67) hx hb hr (fun t ht hW => ⟨⟨x67, (), rfl, ⟨(Int.le_trans zq69 bx67.1), bx67.2⟩, v1na0_0, v1na0_11, x58, v49nfa3, ⟨Int.le_trans (by decide) bx58.1, bx58.2⟩, bv49nfa3, by rw [ht]; exact hP, va_K.moved hW.alike hK, hD⟩, hS.F ht⟩) hS.2.2 dX8_image_68
    · have gc22 := ai_eq c22
      have u22f_a0_22 : a0_22.toInt ≤ (3 : Int) := ba0_22_u
      have l22f_a0_22 : (3 : Int) ≤ a0_22.toInt := Int.le_trans zq8 (Int.le_of_eq gc22.symm)
      refine lv_aload_n hx hb dX8_image_25 rfl (lv_at hl 0 rfl) ?_
      refine lv_iconst (v := 3) hx hb dX8_image_26 zk_iconst_3 ?_
      obtain ⟨hPc, hDc, hFc, hCc⟩ := zc_cut (wc := [(a0, .inr (8, [Value.int v1na0_0, a0g_1, a0g_2, a0g_3, a0g_4, a0g_5, a0g_6, a0g_7, a0g_8, a0g_9, a0g_10, Value.int v1na0_11, a0g_12, a0g_13, Value.int a0_14, a0g_15, a0g_16, Value.ref a0_17, a0g_18, a0g_19, Value.ref a0_20, a0g_21, Value.int a0_22, a0g_23, a0g_24, a0g_25, a0g_26, a0g_27, a0g_28, a0g_29, a0g_30, a0g_31, a0g_32, a0g_33, a0g_34, a0g_35, a0g_36, a0g_37, a0g_38, a0g_39]))]) hP hD hS hA [0] (by decide +kernel) rfl
      have hKc := hK.sub (tys' := []) [] rfl
      refine va_calli (va_runV (As := [.int 3]) (rest := []) ⟨hx, hb, hml, hown, hts⟩ (c_X8_no l dC dI H.size a0 3 (Value.int v1na0_0) a0g_1 a0g_2 a0g_3 a0g_4 a0g_5 a0g_6 a0g_7 a0g_8 a0g_9 a0g_10 a0g_12 a0g_13 (Value.int a0_14) a0g_15 a0g_16 (Value.ref a0_17) a0g_18 a0g_19 (Value.ref a0_20) a0g_21 (Value.int a0_22) a0g_23 a0g_24 a0g_25 a0g_26 a0g_27 a0g_28 a0g_29 a0g_30 a0g_31 a0g_32 a0g_33 a0g_34 a0g_35 a0g_36 a0g_37 a0g_38 a0g_39 v1na0_11 ) (cwV 1 hts gX8_image_X8_no rfl rfl rfl zd_X8_no ⟨Nat.le_of_ble_eq_true rfl, Nat.le_of_ble_eq_true rfl⟩) ⟨ax_blind (fun _ _ _ _ _ => trivial), zr_8 hKc hPc (q0 := 0) rfl, ax_pre hPc hKc hDc (fun _ _ => trivial)⟩ rfl rfl hl.1 rfl (lv_room (Nat.le_of_ble_eq_true rfl)) dX8_image_27 ⟨Nat.le_of_ble_eq_true rfl, Nat.le_of_ble_eq_true rfl⟩) hS (fun q _ h => hFc q h) hFc (fun r27 u t H locs ht hvm hw hB hz1 hk1 hS => ?_)
      obtain ⟨v27na0_11, hP1, hK1, hD1⟩ := hB
      rw [ht] at hP1
      obtain ⟨hP, hD⟩ := zc_back (w := [(a0, .inr (8, [Value.int v1na0_0, a0g_1, a0g_2, a0g_3, a0g_4, a0g_5, a0g_6, a0g_7, a0g_8, a0g_9, a0g_10, Value.int v27na0_11, a0g_12, a0g_13, Value.int a0_14, a0g_15, a0g_16, Value.ref a0_17, a0g_18, a0g_19, Value.ref a0_20, a0g_21, Value.int a0_22, a0g_23, a0g_24, a0g_25, a0g_26, a0g_27, a0g_28, a0g_29, a0g_30, a0g_31, a0g_32, a0g_33, a0g_34, a0g_35, a0g_36, a0g_37, a0g_38, a0g_39])), (a0_17, .inl (ka0_17, 23, .inl (fa0_17))), (a0_20, .inl (ka0_20, 69, .inl (fa0_20)))]) hP hD hCc hk1 hFc hP1 hD1 [.inr 0, .inl 1, .inl 2] (by decide +kernel) rfl
      have hw : r27 = (-1) := hw
      have hw := hw.symm
      subst hw
      exact W.iret (v := (-1)) hx hb hr (fun t ht hW => ⟨⟨(-1), (), rfl, ⟨zq70, (Int.le_trans zq71 zq217)⟩, v1na0_0, v27na0_11, a0_22, fa0_20, ⟨Int.le_trans (by decide) l22f_a0_22, u22f_a0_22⟩, bfa0_20, by rw [ht]; exact hP, va_K.moved hW.alike hK, hD⟩, hS.F ht⟩) hS.2.2 dX8_image_30
  · have gc8 := ai_eq c8
    have u8f_a0_14 : a0_14.toInt ≤ (0 : Int) := Int.le_trans (Int.le_of_eq gc8) zq6
    have l8f_a0_14 : (1 : Int) ≤ a0_14.toInt := ba0_14_l
    exact absurd (Int.le_trans l8f_a0_14 u8f_a0_14) (by decide)

set_option maxHeartbeats 4000000 in
set_option maxRecDepth 100000 in
theorem c_X8_back (l : Launch) (dC : Nat → ClassId) (dI : Nat → Nat → Nat) (sz : Nat) (a0 : Nat) (a1 : Int32) (a0_0 : Int32) (a0g_1 a0g_2 a0g_3 a0g_4 a0g_5 a0g_6 a0g_7 a0g_8 a0g_9 a0g_10 a0g_12 a0g_13 a0g_14 a0g_15 a0g_16 a0g_18 a0g_19 a0g_23 a0g_24 a0g_25 a0g_26 a0g_27 a0g_28 a0g_29 a0g_30 a0g_31 a0g_32 a0g_33 a0g_34 a0g_35 a0g_36 a0g_37 a0g_38 a0g_39 : Value) (a0_11 : Int32) (a0_17 : Nat) (a0_20 : Nat) (a0_21 : Int32) (a0_22 : Int32) (ka0_20 : ClassId) (fa0_20 : Nat → Int32) (ka0_17 : ClassId) (fa0_17 : Nat → Int32) (ba0_21_l : (0 : Int) ≤ a0_21.toInt) (ba0_21_u : a0_21.toInt ≤ (16 : Int)) (ba0_22_l : (0 : Int) ≤ a0_22.toInt) (ba0_22_u : a0_22.toInt ≤ (3 : Int)) (bfa0_20 : (md_S fa0_20)) (bfa0_17 : ((∀ k : Nat, 0 ≤ k → k ≤ 8 → (0 : Int) ≤ (fa0_17 k).toInt ∧ (fa0_17 k).toInt ≤ 8) ∧ (∀ k : Nat, 19 ≤ k → k ≤ 19 → (0 : Int) ≤ (fa0_17 k).toInt ∧ (fa0_17 k).toInt ≤ 8) ∧ (∀ k : Nat, 20 ≤ k → k ≤ 20 → (0 : Int) ≤ (fa0_17 k).toInt ∧ (fa0_17 k).toInt ≤ 19))) : Met l yX8_back wsX8_back ({ frames := 1, cells := 0, slots := 0, locals := 25 }) (va_Pc [.ref a0, .int a1] (ax_C dC dI sz [(a0, .inr (8, [Value.int a0_0, a0g_1, a0g_2, a0g_3, a0g_4, a0g_5, a0g_6, a0g_7, a0g_8, a0g_9, a0g_10, Value.int a0_11, a0g_12, a0g_13, a0g_14, a0g_15, a0g_16, Value.ref a0_17, a0g_18, a0g_19, Value.ref a0_20, Value.int a0_21, Value.int a0_22, a0g_23, a0g_24, a0g_25, a0g_26, a0g_27, a0g_28, a0g_29, a0g_30, a0g_31, a0g_32, a0g_33, a0g_34, a0g_35, a0g_36, a0g_37, a0g_38, a0g_39])), (a0_20, .inl (ka0_20, 69, .inl (fa0_20))), (a0_17, .inl (ka0_17, 23, .inl (fa0_17)))] [(ka0_20, .int), (ka0_17, .int)] (fun _ => True))) (va_Qi (fun (r : Int32) (_ : Unit) => (r = 1 ∧ (0 : Int) ≤ a1.toInt ∧ a1.toInt ≤ (2 : Int) ∧ (1 : Int) ≤ a0_22.toInt ∧ a0_22.toInt ≤ (3 : Int)) ∨ (r = 0)) (fun (_ : Unit) (t : State) => ∃ na0_0 : Int32, ∃ na0_11 : Int32, ∃ na0_21 : Int32, ∃ nfa0_17 : Nat → Int32, ((0 : Int) ≤ na0_21.toInt ∧ na0_21.toInt ≤ 16) ∧ ((∀ k : Nat, 0 ≤ k → k ≤ 8 → (0 : Int) ≤ (nfa0_17 k).toInt ∧ (nfa0_17 k).toInt ≤ 8) ∧ (∀ k : Nat, 19 ≤ k → k ≤ 19 → (0 : Int) ≤ (nfa0_17 k).toInt ∧ (nfa0_17 k).toInt ≤ 8) ∧ (∀ k : Nat, 20 ≤ k → k ≤ 20 → (0 : Int) ≤ (nfa0_17 k).toInt ∧ (nfa0_17 k).toInt ≤ 19)) ∧ ax_B dC dI (va_A [(a0, .inr (8, [Value.int a0_0, a0g_1, a0g_2, a0g_3, a0g_4, a0g_5, a0g_6, a0g_7, a0g_8, a0g_9, a0g_10, Value.int a0_11, a0g_12, a0g_13, a0g_14, a0g_15, a0g_16, Value.ref a0_17, a0g_18, a0g_19, Value.ref a0_20, Value.int a0_21, Value.int a0_22, a0g_23, a0g_24, a0g_25, a0g_26, a0g_27, a0g_28, a0g_29, a0g_30, a0g_31, a0g_32, a0g_33, a0g_34, a0g_35, a0g_36, a0g_37, a0g_38, a0g_39])), (a0_20, .inl (ka0_20, 69, .inl (fa0_20))), (a0_17, .inl (ka0_17, 23, .inl (fa0_17)))] sz) [(a0, .inr (8, [Value.int na0_0, a0g_1, a0g_2, a0g_3, a0g_4, a0g_5, a0g_6, a0g_7, a0g_8, a0g_9, a0g_10, Value.int na0_11, a0g_12, a0g_13, a0g_14, a0g_15, a0g_16, Value.ref a0_17, a0g_18, a0g_19, Value.ref a0_20, Value.int na0_21, Value.int a0_22, a0g_23, a0g_24, a0g_25, a0g_26, a0g_27, a0g_28, a0g_29, a0g_30, a0g_31, a0g_32, a0g_33, a0g_34, a0g_35, a0g_36, a0g_37, a0g_38, a0g_39])), (a0_20, .inl (ka0_20, 69, .inl (fa0_20))), (a0_17, .inl (ka0_17, 23, .inl (nfa0_17)))] [(ka0_20, .int), (ka0_17, .int)] t) (va_A [(a0, .inr (8, [Value.int a0_0, a0g_1, a0g_2, a0g_3, a0g_4, a0g_5, a0g_6, a0g_7, a0g_8, a0g_9, a0g_10, Value.int a0_11, a0g_12, a0g_13, a0g_14, a0g_15, a0g_16, Value.ref a0_17, a0g_18, a0g_19, Value.ref a0_20, Value.int a0_21, Value.int a0_22, a0g_23, a0g_24, a0g_25, a0g_26, a0g_27, a0g_28, a0g_29, a0g_30, a0g_31, a0g_32, a0g_33, a0g_34, a0g_35, a0g_36, a0g_37, a0g_38, a0g_39])), (a0_20, .inl (ka0_20, 69, .inl (fa0_20))), (a0_17, .inl (ka0_17, 23, .inl (fa0_17)))] sz)) 0 0 (va_A [(a0, .inr (8, [Value.int a0_0, a0g_1, a0g_2, a0g_3, a0g_4, a0g_5, a0g_6, a0g_7, a0g_8, a0g_9, a0g_10, Value.int a0_11, a0g_12, a0g_13, a0g_14, a0g_15, a0g_16, Value.ref a0_17, a0g_18, a0g_19, Value.ref a0_20, Value.int a0_21, Value.int a0_22, a0g_23, a0g_24, a0g_25, a0g_26, a0g_27, a0g_28, a0g_29, a0g_30, a0g_31, a0g_32, a0g_33, a0g_34, a0g_35, a0g_36, a0g_37, a0g_38, a0g_39])), (a0_20, .inl (ka0_20, 69, .inl (fa0_20))), (a0_17, .inl (ka0_17, 23, .inl (fa0_17)))] sz) := by
  refine Met.ofW (cc := cX8_back) (maxL := 2) (ret := (some .boolean)) (by decide) rfl ?_
  intro p e s m args below meth c s₁ B hml hv
  obtain ⟨rfl, hsz, hP, hK, hD0, hE⟩ := hv
  have hx := B.exec
  have hb := B.bytes
  have hr := B.returns
  have hts := atoms_spec (ws := wsX8_back) B.pre
  have hown : s.vm.findClass RX8 = some m.cls := findClass_of_methodNamed B.named
  have hlocks := B.notSynchronized
  subst hsz
  have hD := hD0.self (sz := s.heap.size)
  generalize hAe : va_A [(a0, .inr (8, [Value.int a0_0, a0g_1, a0g_2, a0g_3, a0g_4, a0g_5, a0g_6, a0g_7, a0g_8, a0g_9, a0g_10, Value.int a0_11, a0g_12, a0g_13, a0g_14, a0g_15, a0g_16, Value.ref a0_17, a0g_18, a0g_19, Value.ref a0_20, Value.int a0_21, Value.int a0_22, a0g_23, a0g_24, a0g_25, a0g_26, a0g_27, a0g_28, a0g_29, a0g_30, a0g_31, a0g_32, a0g_33, a0g_34, a0g_35, a0g_36, a0g_37, a0g_38, a0g_39])), (a0_20, .inl (ka0_20, 69, .inl (fa0_20))), (a0_17, .inl (ka0_17, 23, .inl (fa0_17)))] s.heap.size = A at hD ⊢
  have hA : ∀ q : Nat, s.heap.size ≤ q → A q := fun q h => by rw [← hAe]; exact Or.inr h
  have hS : va_S A s.heap s.heap [] := va_S.rf
  have hP : va_P (dC, dI) vwCl [(a0, .inr (8, [Value.int a0_0, a0g_1, a0g_2, a0g_3, a0g_4, a0g_5, a0g_6, a0g_7, a0g_8, a0g_9, a0g_10, Value.int a0_11, a0g_12, a0g_13, a0g_14, a0g_15, a0g_16, Value.ref a0_17, a0g_18, a0g_19, Value.ref a0_20, Value.int a0_21, Value.int a0_22, a0g_23, a0g_24, a0g_25, a0g_26, a0g_27, a0g_28, a0g_29, a0g_30, a0g_31, a0g_32, a0g_33, a0g_34, a0g_35, a0g_36, a0g_37, a0g_38, a0g_39])), (a0_20, .inl (ka0_20, 69, .inl (fa0_20))), (a0_17, .inl (ka0_17, 23, .inl (fa0_17)))] s.heap := hP
  have hl := lv_entry ([.ref a0, .int a1]) (n := 2) (Nat.le_of_ble_eq_true rfl)
  rw [lg_entry_eq]
  generalize (lg_sl ([.ref a0, .int a1]) ++ List.replicate (2 - (lg_sl ([.ref a0, .int a1])).length) Slot.unset).toArray = ls at hl ⊢
  have hl : lv_has ls 2 [(0, .ref a0), (1, .int a1)] := hl
  refine lv_aload_n hx hb dX8_back_0 rfl (lv_at hl 0 rfl) ?_
  obtain ⟨hPc, hDc, hFc, hCc⟩ := zc_cut (wc := [(a0, .inr (8, [Value.int a0_0, a0g_1, a0g_2, a0g_3, a0g_4, a0g_5, a0g_6, a0g_7, a0g_8, a0g_9, a0g_10, Value.int a0_11, a0g_12, a0g_13, a0g_14, a0g_15, a0g_16, Value.ref a0_17, a0g_18, a0g_19, Value.ref a0_20, Value.int a0_21, Value.int a0_22, a0g_23, a0g_24, a0g_25, a0g_26, a0g_27, a0g_28, a0g_29, a0g_30, a0g_31, a0g_32, a0g_33, a0g_34, a0g_35, a0g_36, a0g_37, a0g_38, a0g_39]))]) hP hD hS hA [0] (by decide +kernel) rfl
  have hKc := hK.sub (tys' := []) [] rfl
  refine va_callv (va_runV (As := []) (rest := []) ⟨hx, hb, hml, hown, hts⟩ (c_X8_good l dC dI s.heap.size a0 a0_0 a0g_1 a0g_2 a0g_3 a0g_4 a0g_5 a0g_6 a0g_7 a0g_8 a0g_9 a0g_10 a0g_12 a0g_13 a0g_14 a0g_15 a0g_16 (Value.ref a0_17) a0g_18 a0g_19 (Value.ref a0_20) (Value.int a0_21) (Value.int a0_22) a0g_23 a0g_24 a0g_25 a0g_26 a0g_27 a0g_28 a0g_29 a0g_30 a0g_31 a0g_32 a0g_33 a0g_34 a0g_35 a0g_36 a0g_37 a0g_38 a0g_39 a0_11 ) (cwV 0 hts gX8_back_X8_good rfl rfl rfl zd_X8_good ⟨Nat.le_of_ble_eq_true rfl, Nat.le_of_ble_eq_true rfl⟩) ⟨ax_blind (fun _ _ _ _ _ => trivial), zr_8 hKc hPc (q0 := 0) rfl, ax_pre hPc hKc hDc (fun _ _ => trivial)⟩ rfl rfl hl.1 rfl (lv_room (Nat.le_of_ble_eq_true rfl)) dX8_back_1 ⟨Nat.le_of_ble_eq_true rfl, Nat.le_of_ble_eq_true rfl⟩) hS (fun q _ h => hFc q h) hFc (fun u t H locs ht hvm hw hB hz1 hk1 hS => ?_)
  obtain ⟨v1na0_0, v1na0_11, hP1, hK1, hD1⟩ := hB
  rw [ht] at hP1
  obtain ⟨hP, hD⟩ := zc_back (w := [(a0, .inr (8, [Value.int v1na0_0, a0g_1, a0g_2, a0g_3, a0g_4, a0g_5, a0g_6, a0g_7, a0g_8, a0g_9, a0g_10, Value.int v1na0_11, a0g_12, a0g_13, a0g_14, a0g_15, a0g_16, Value.ref a0_17, a0g_18, a0g_19, Value.ref a0_20, Value.int a0_21, Value.int a0_22, a0g_23, a0g_24, a0g_25, a0g_26, a0g_27, a0g_28, a0g_29, a0g_30, a0g_31, a0g_32, a0g_33, a0g_34, a0g_35, a0g_36, a0g_37, a0g_38, a0g_39])), (a0_20, .inl (ka0_20, 69, .inl (fa0_20))), (a0_17, .inl (ka0_17, 23, .inl (fa0_17)))]) hP hD hCc hk1 hFc hP1 hD1 [.inr 0, .inl 1, .inl 2] (by decide +kernel) rfl
  refine lv_iload_n hx hb dX8_back_4 rfl (lv_at hl 1 rfl) ?_
  refine lv_iconst (v := 0) hx hb dX8_back_5 zk_iconst_0 ?_
  refine lv_aload_n hx hb dX8_back_6 rfl (lv_at hl 0 rfl) ?_
  refine va_get (D := (dC, dI)) (ci := 8) (v := .int a0_22) (C := RX8) (T := TX8) (N := 40) hx hb hts zi_X8_back_8 hown hK hP 0 rfl rfl 22 (by decide) (hts (.fieldLink RX8 179 "WaxTurnsModel" "images" "I") (List.mem_cons_of_mem _ (List.mem_append_left _ (List.mem_of_getElem? (i := 0) rfl)))) (fun _ h9 => h9) rfl dX8_back_7 ?_
  refine lv_iconst (v := 1) hx hb dX8_back_10 zk_iconst_1 ?_
  refine lv_isub hx hb dX8_back_11 ?_
  refine lv_topi (fun x11 ex11 => ?_)
  have qx11 : x11.toInt = a0_22.toInt - (1 : Int32).toInt := ai_sub ex11 ⟨ba0_22_l, ba0_22_u⟩ ⟨zq1, zq0⟩ (by decide) (by decide)
  have bx11 : (-1 : Int) ≤ x11.toInt ∧ x11.toInt ≤ 2 := ⟨by rw [qx11]; exact Int.sub_le_sub ba0_22_l zq0, by rw [qx11]; exact Int.sub_le_sub ba0_22_u zq1⟩
  have wx11 : x11.toInt = a0_22.toInt - 1 := qx11
  obtain ⟨hPc, hDc, hFc, hCc⟩ := zc_cut (wc := []) hP hD hS hA [] (by decide +kernel) rfl
  have hKc := hK.sub (tys' := []) [] rfl
  refine va_calli (va_runS (As := [.int a1, .int 0, .int x11]) (rest := []) ⟨hx, hb, hml, hown, hts⟩ (c_X8_in l dC dI H.size a1 0 x11 ) (va_cwS 3 hts gX8_back_X8_in rfl rfl rfl zd_X8_in.2 ⟨Nat.le_of_ble_eq_true rfl, Nat.le_of_ble_eq_true rfl⟩) ⟨ax_blind (fun _ _ _ _ _ => trivial), ax_pre hPc hKc hDc (fun _ _ => trivial)⟩ rfl rfl hl.1 rfl (lv_room (Nat.le_of_ble_eq_true rfl)) dX8_back_12 ⟨Nat.le_of_ble_eq_true rfl, Nat.le_of_ble_eq_true rfl⟩) hS (fun q _ h => hFc q h) hFc (fun r12 u t H locs ht hvm hw hB hz1 hk1 hS => ?_)
  obtain ⟨hP1, hK1, hD1⟩ := hB
  rw [ht] at hP1
  obtain ⟨hP, hD⟩ := zc_back (w := [(a0, .inr (8, [Value.int v1na0_0, a0g_1, a0g_2, a0g_3, a0g_4, a0g_5, a0g_6, a0g_7, a0g_8, a0g_9, a0g_10, Value.int v1na0_11, a0g_12, a0g_13, a0g_14, a0g_15, a0g_16, Value.ref a0_17, a0g_18, a0g_19, Value.ref a0_20, Value.int a0_21, Value.int a0_22, a0g_23, a0g_24, a0g_25, a0g_26, a0g_27, a0g_28, a0g_29, a0g_30, a0g_31, a0g_32, a0g_33, a0g_34, a0g_35, a0g_36, a0g_37, a0g_38, a0g_39])), (a0_20, .inl (ka0_20, 69, .inl (fa0_20))), (a0_17, .inl (ka0_17, 23, .inl (fa0_17)))]) hP hD hCc hk1 hFc hP1 hD1 [.inl 0, .inl 1, .inl 2] (by decide +kernel) rfl
  rcases hw with hw | hw
  · obtain ⟨hw, h12⟩ := hw
    subst hw
    have l12k0_a1 : (0 : Int) ≤ a1.toInt := Int.le_trans zq5 h12.1
    have u12k0_a1 : a1.toInt ≤ (2 : Int) := Int.le_trans h12.2 bx11.2
    have l12k0_x11 : (0 : Int) ≤ x11.toInt := Int.le_trans zq5 (Int.le_trans h12.1 h12.2)
    have l12k0_a0_22 : (1 : Int) ≤ a0_22.toInt := by have h1 := wx11; have h2 := l12k0_x11; omega
    refine lv_if_ne (tgt := 24) hx hb dX8_back_15 (by decide) (fun _ => ?_) (fun c15 => absurd c15 (by decide +kernel))
    refine lv_aload_n hx hb dX8_back_24 rfl (lv_at hl 0 rfl) ?_
    refine va_get (D := (dC, dI)) (ci := 8) (v := .ref a0_20) (C := RX8) (T := TX8) (N := 40) hx hb hts zi_X8_back_8 hown hK hP 0 rfl rfl 20 (by decide) (hts (.fieldLink RX8 35 "WaxTurnsModel" "kept" "[I") (List.mem_cons_of_mem _ (List.mem_append_left _ (List.mem_of_getElem? (i := 1) rfl)))) (fun _ h9 => h9) rfl dX8_back_25 ?_
    refine lv_bipush (v := 23) hx hb dX8_back_28 zk_bipush_23 ?_
    refine lv_iload_n hx hb dX8_back_30 rfl (lv_at hl 1 rfl) ?_
    refine lv_imul hx hb dX8_back_31 ?_
    refine lv_topi (fun x31 ex31 => ?_)
    have qx31 : x31.toInt = (23 : Int32).toInt * a1.toInt ∧ (0 : Int) ≤ x31.toInt ∧ x31.toInt ≤ 46 := ai_mul ex31 ⟨zq170, zq171⟩ ⟨l12k0_a1, u12k0_a1⟩ (by decide) (by decide) zq216
    have wx31 : x31.toInt = 23 * a1.toInt := qx31.1
    refine lv_aload_n hx hb dX8_back_32 rfl (lv_at hl 0 rfl) ?_
    refine va_get (D := (dC, dI)) (ci := 8) (v := .ref a0_17) (C := RX8) (T := TX8) (N := 40) hx hb hts zi_X8_back_8 hown hK hP 0 rfl rfl 17 (by decide) (hts (.fieldLink RX8 26 "WaxTurnsModel" "st" "[I") (List.mem_cons_of_mem _ (List.mem_append_left _ (List.mem_of_getElem? (i := 2) rfl)))) (fun _ h9 => h9) rfl dX8_back_33 ?_
    refine lv_iconst (v := 0) hx hb dX8_back_36 zk_iconst_0 ?_
    refine lv_bipush (v := 23) hx hb dX8_back_37 zk_bipush_23 ?_
    obtain ⟨hPc, hDc, hFc, hCc⟩ := zc_cut (wc := [(a0_20, .inl (ka0_20, 69, .inl (fa0_20))), (a0_17, .inl (ka0_17, 23, .inl (fa0_17)))]) hP hD hS hA [1, 2] (by decide +kernel) rfl
    have hKc := hK.sub (tys' := [(ka0_20, .int), (ka0_17, .int)]) [0, 1] rfl
    refine va_callv (va_runS (As := [.ref a0_20, .int x31, .ref a0_17, .int 0, .int 23]) (rest := []) ⟨hx, hb, hml, hown, hts⟩ (c_X8_copy_69_23 l dC dI H.size a0_20 x31 a0_17 0 23 ka0_20 fa0_20 ka0_17 fa0_17 qx31.2.1 qx31.2.2 zq5 zq6 zq170 zq171) (va_cwS 5 hts gX8_back_X8_copy rfl rfl rfl zd_X8_copy.2 ⟨Nat.le_of_ble_eq_true rfl, Nat.le_of_ble_eq_true rfl⟩) ⟨ax_blind (fun _ _ _ _ _ => trivial), ax_pre hPc hKc hDc (fun _ _ => trivial)⟩ rfl rfl hl.1 rfl (lv_room (Nat.le_of_ble_eq_true rfl)) dX8_back_39 ⟨Nat.le_of_ble_eq_true rfl, Nat.le_of_ble_eq_true rfl⟩) hS (fun q _ h => hFc q h) hFc (fun u t H locs ht hvm hw hB hz1 hk1 hS => ?_)
    obtain ⟨v39nfa3, hraw39_0, hP1, hK1, hD1⟩ := hB
    rw [ht] at hP1
    obtain ⟨hP, hD⟩ := zc_back (w := [(a0, .inr (8, [Value.int v1na0_0, a0g_1, a0g_2, a0g_3, a0g_4, a0g_5, a0g_6, a0g_7, a0g_8, a0g_9, a0g_10, Value.int v1na0_11, a0g_12, a0g_13, a0g_14, a0g_15, a0g_16, Value.ref a0_17, a0g_18, a0g_19, Value.ref a0_20, Value.int a0_21, Value.int a0_22, a0g_23, a0g_24, a0g_25, a0g_26, a0g_27, a0g_28, a0g_29, a0g_30, a0g_31, a0g_32, a0g_33, a0g_34, a0g_35, a0g_36, a0g_37, a0g_38, a0g_39])), (a0_20, .inl (ka0_20, 69, .inl (fa0_20))), (a0_17, .inl (ka0_17, 23, .inl (v39nfa3)))]) hP hD hCc hk1 hFc hP1 hD1 [.inl 0, .inr 0, .inr 1] (by decide +kernel) rfl
    have bv39nfa3 : ((∀ k : Nat, 0 ≤ k → k ≤ 8 → (0 : Int) ≤ (v39nfa3 k).toInt ∧ (v39nfa3 k).toInt ≤ 8) ∧ (∀ k : Nat, 19 ≤ k → k ≤ 19 → (0 : Int) ≤ (v39nfa3 k).toInt ∧ (v39nfa3 k).toInt ≤ 8) ∧ (∀ k : Nat, 20 ≤ k → k ≤ 20 → (0 : Int) ≤ (v39nfa3 k).toInt ∧ (v39nfa3 k).toInt ≤ 19)) := cp_MS hraw39_0 (md_ix (u := a1) wx31 l12k0_a1) (by decide) bfa0_20
    refine lv_aload_n hx hb dX8_back_42 rfl (lv_at hl 0 rfl) ?_
    refine lv_iconst (v := 0) hx hb dX8_back_43 zk_iconst_0 ?_
    refine va_put (D := (dC, dI)) (ci := 8) (v := .int 0) (ty := .int) (C := RX8) (T := TX8) (N := 40) hx hb hts zi_X8_back_8 tyX8 tyX8_ok nmX8 hown hK hP hD hS 0 rfl rfl 21 (by decide) (hts (.fieldLink RX8 176 "WaxTurnsModel" "undos" "I") (List.mem_cons_of_mem _ (List.mem_append_left _ (List.mem_of_getElem? (i := 3) rfl)))) (fun _ h9 => h9) rfl (tyX8_ok 21 (by decide)) rfl rfl (Nat.le_of_ble_eq_true rfl) dX8_back_44 (fun H locs hP hD hS => ?_)
    obtain ⟨hP, hD⟩ := zc_re (w := [(a0, .inr (8, [Value.int v1na0_0, a0g_1, a0g_2, a0g_3, a0g_4, a0g_5, a0g_6, a0g_7, a0g_8, a0g_9, a0g_10, Value.int v1na0_11, a0g_12, a0g_13, a0g_14, a0g_15, a0g_16, Value.ref a0_17, a0g_18, a0g_19, Value.ref a0_20, Value.int 0, Value.int a0_22, a0g_23, a0g_24, a0g_25, a0g_26, a0g_27, a0g_28, a0g_29, a0g_30, a0g_31, a0g_32, a0g_33, a0g_34, a0g_35, a0g_36, a0g_37, a0g_38, a0g_39])), (a0_20, .inl (ka0_20, 69, .inl (fa0_20))), (a0_17, .inl (ka0_17, 23, .inl (v39nfa3)))]) hP hD rfl
    refine lv_iconst (v := 1) hx hb dX8_back_47 zk_iconst_1 ?_
    exact W.zret (v := 1) hx hb hr rfl (fun t ht hW => ⟨⟨1, (), rfl, (Or.inl ⟨rfl, l12k0_a1, u12k0_a1, l12k0_a0_22, ba0_22_u⟩), v1na0_0, v1na0_11, 0, v39nfa3, ⟨zq5, Int.le_trans zq6 (by decide)⟩, bv39nfa3, by rw [ht]; exact hP, va_K.moved hW.alike hK, hD⟩, hS.F ht⟩) hS.2.2 dX8_back_48
  · obtain ⟨hw, h12⟩ := hw
    subst hw
    refine lv_if_ne (tgt := 24) hx hb dX8_back_15 (by decide) (fun c15 => absurd (by decide +kernel) c15) (fun _ => ?_)
    refine lv_aload_n hx hb dX8_back_18 rfl (lv_at hl 0 rfl) ?_
    refine lv_iconst (v := 1) hx hb dX8_back_19 zk_iconst_1 ?_
    obtain ⟨hPc, hDc, hFc, hCc⟩ := zc_cut (wc := [(a0, .inr (8, [Value.int v1na0_0, a0g_1, a0g_2, a0g_3, a0g_4, a0g_5, a0g_6, a0g_7, a0g_8, a0g_9, a0g_10, Value.int v1na0_11, a0g_12, a0g_13, a0g_14, a0g_15, a0g_16, Value.ref a0_17, a0g_18, a0g_19, Value.ref a0_20, Value.int a0_21, Value.int a0_22, a0g_23, a0g_24, a0g_25, a0g_26, a0g_27, a0g_28, a0g_29, a0g_30, a0g_31, a0g_32, a0g_33, a0g_34, a0g_35, a0g_36, a0g_37, a0g_38, a0g_39]))]) hP hD hS hA [0] (by decide +kernel) rfl
    have hKc := hK.sub (tys' := []) [] rfl
    refine va_calli (va_runV (As := [.int 1]) (rest := []) ⟨hx, hb, hml, hown, hts⟩ (c_X8_isNot l dC dI H.size a0 1 (Value.int v1na0_0) a0g_1 a0g_2 a0g_3 a0g_4 a0g_5 a0g_6 a0g_7 a0g_8 a0g_9 a0g_10 a0g_12 a0g_13 a0g_14 a0g_15 a0g_16 (Value.ref a0_17) a0g_18 a0g_19 (Value.ref a0_20) (Value.int a0_21) (Value.int a0_22) a0g_23 a0g_24 a0g_25 a0g_26 a0g_27 a0g_28 a0g_29 a0g_30 a0g_31 a0g_32 a0g_33 a0g_34 a0g_35 a0g_36 a0g_37 a0g_38 a0g_39 v1na0_11 ) (cwV 1 hts gX8_back_X8_isNot rfl rfl rfl zd_X8_isNot ⟨Nat.le_of_ble_eq_true rfl, Nat.le_of_ble_eq_true rfl⟩) ⟨ax_blind (fun _ _ _ _ _ => trivial), zr_8 hKc hPc (q0 := 0) rfl, ax_pre hPc hKc hDc (fun _ _ => trivial)⟩ rfl rfl hl.1 rfl (lv_room (Nat.le_of_ble_eq_true rfl)) dX8_back_20 ⟨Nat.le_of_ble_eq_true rfl, Nat.le_of_ble_eq_true rfl⟩) hS (fun q _ h => hFc q h) hFc (fun r20 u t H locs ht hvm hw hB hz1 hk1 hS => ?_)
    obtain ⟨v20na0_11, hP1, hK1, hD1⟩ := hB
    rw [ht] at hP1
    obtain ⟨hP, hD⟩ := zc_back (w := [(a0, .inr (8, [Value.int v1na0_0, a0g_1, a0g_2, a0g_3, a0g_4, a0g_5, a0g_6, a0g_7, a0g_8, a0g_9, a0g_10, Value.int v20na0_11, a0g_12, a0g_13, a0g_14, a0g_15, a0g_16, Value.ref a0_17, a0g_18, a0g_19, Value.ref a0_20, Value.int a0_21, Value.int a0_22, a0g_23, a0g_24, a0g_25, a0g_26, a0g_27, a0g_28, a0g_29, a0g_30, a0g_31, a0g_32, a0g_33, a0g_34, a0g_35, a0g_36, a0g_37, a0g_38, a0g_39])), (a0_20, .inl (ka0_20, 69, .inl (fa0_20))), (a0_17, .inl (ka0_17, 23, .inl (fa0_17)))]) hP hD hCc hk1 hFc hP1 hD1 [.inr 0, .inl 1, .inl 2] (by decide +kernel) rfl
    have hw : r20 = 0 := hw
    have hw := hw.symm
    subst hw
    exact W.zret (v := 0) hx hb hr rfl (fun t ht hW => ⟨⟨0, (), rfl, (Or.inr (rfl)), v1na0_0, v20na0_11, a0_21, fa0_17, ⟨ba0_21_l, ba0_21_u⟩, bfa0_17, by rw [ht]; exact hP, va_K.moved hW.alike hK, hD⟩, hS.F ht⟩) hS.2.2 dX8_back_23

set_option maxHeartbeats 4000000 in
set_option maxRecDepth 100000 in
theorem c_X8_led (l : Launch) (dC : Nat → ClassId) (dI : Nat → Nat → Nat) (sz : Nat) (a0 : Nat) (a1 : Int32) (a0_0 : Int32) (a0g_1 a0g_2 a0g_3 a0g_4 a0g_5 a0g_6 a0g_7 a0g_8 a0g_9 a0g_10 a0g_11 a0g_12 a0g_13 a0g_16 a0g_18 a0g_19 a0g_20 a0g_21 a0g_22 a0g_23 a0g_24 a0g_25 a0g_26 a0g_27 a0g_28 a0g_29 a0g_30 a0g_31 a0g_32 a0g_33 a0g_34 a0g_35 a0g_36 a0g_37 a0g_38 a0g_39 : Value) (a0_14 : Int32) (a0_15 : Nat) (a0_17 : Nat) (ka0_15 : ClassId) (fa0_15 : Nat → Int32) (ka0_17 : ClassId) (fa0_17 : Nat → Int32) (ba0_14_l : (1 : Int) ≤ a0_14.toInt) (ba0_14_u : a0_14.toInt ≤ (1 : Int)) (bfa0_15 : ((∀ k : Nat, 0 ≤ k → k ≤ 0 → (2 : Int) ≤ (fa0_15 k).toInt ∧ (fa0_15 k).toInt ≤ 9) ∧ (∀ k : Nat, 1 ≤ k → k ≤ 1 → (1 : Int) ≤ (fa0_15 k).toInt ∧ (fa0_15 k).toInt ≤ 20) ∧ (∀ k : Nat, 2 ≤ k → k ≤ 2 → (0 : Int) ≤ (fa0_15 k).toInt ∧ (fa0_15 k).toInt ≤ 8) ∧ (∀ k : Nat, 3 ≤ k → k ≤ 3 → (0 : Int) ≤ (fa0_15 k).toInt ∧ (fa0_15 k).toInt ≤ 100) ∧ (∀ k : Nat, 4 ≤ k → k ≤ 4 → (0 : Int) ≤ (fa0_15 k).toInt ∧ (fa0_15 k).toInt ≤ 9) ∧ (∀ k : Nat, 5 ≤ k → k ≤ 5 → (0 : Int) ≤ (fa0_15 k).toInt ∧ (fa0_15 k).toInt ≤ 3) ∧ (∀ k : Nat, 6 ≤ k → k ≤ 6 → (0 : Int) ≤ (fa0_15 k).toInt ∧ (fa0_15 k).toInt ≤ 6) ∧ (∀ k : Nat, 7 ≤ k → k ≤ 9 → (0 : Int) ≤ (fa0_15 k).toInt ∧ (fa0_15 k).toInt ≤ 8) ∧ (∀ k : Nat, 12 ≤ k → k ≤ 29 → (0 : Int) ≤ (fa0_15 k).toInt ∧ (fa0_15 k).toInt ≤ 20) ∧ (∀ k : Nat, 30 ≤ k → k ≤ 35 → (0 : Int) ≤ (fa0_15 k).toInt ∧ (fa0_15 k).toInt ≤ 8) ∧ (∀ k : Nat, 36 ≤ k → k ≤ 47 → (0 : Int) ≤ (fa0_15 k).toInt ∧ (fa0_15 k).toInt ≤ 999))) (bfa0_17 : ((∀ k : Nat, 0 ≤ k → k ≤ 8 → (0 : Int) ≤ (fa0_17 k).toInt ∧ (fa0_17 k).toInt ≤ 8) ∧ (∀ k : Nat, 19 ≤ k → k ≤ 19 → (0 : Int) ≤ (fa0_17 k).toInt ∧ (fa0_17 k).toInt ≤ 8) ∧ (∀ k : Nat, 20 ≤ k → k ≤ 20 → (0 : Int) ≤ (fa0_17 k).toInt ∧ (fa0_17 k).toInt ≤ 19))) : Met l yX8_led wsX8_led ({ frames := 0, cells := 0, slots := 0, locals := 0 }) (va_Pc [.ref a0, .int a1] (ax_C dC dI sz [(a0, .inr (8, [Value.int a0_0, a0g_1, a0g_2, a0g_3, a0g_4, a0g_5, a0g_6, a0g_7, a0g_8, a0g_9, a0g_10, a0g_11, a0g_12, a0g_13, Value.int a0_14, Value.ref a0_15, a0g_16, Value.ref a0_17, a0g_18, a0g_19, a0g_20, a0g_21, a0g_22, a0g_23, a0g_24, a0g_25, a0g_26, a0g_27, a0g_28, a0g_29, a0g_30, a0g_31, a0g_32, a0g_33, a0g_34, a0g_35, a0g_36, a0g_37, a0g_38, a0g_39])), (a0_15, .inl (ka0_15, 156, .inl (fa0_15))), (a0_17, .inl (ka0_17, 23, .inl (fa0_17)))] [(ka0_15, .int), (ka0_17, .int)] (fun _ => True))) (va_Qi (fun (r : Int32) (_ : Unit) => (0 : Int) ≤ r.toInt ∧ r.toInt ≤ (8 : Int)) (fun (_ : Unit) (t : State) => ∃ na0_0 : Int32, ax_B dC dI (va_A [(a0, .inr (8, [Value.int a0_0, a0g_1, a0g_2, a0g_3, a0g_4, a0g_5, a0g_6, a0g_7, a0g_8, a0g_9, a0g_10, a0g_11, a0g_12, a0g_13, Value.int a0_14, Value.ref a0_15, a0g_16, Value.ref a0_17, a0g_18, a0g_19, a0g_20, a0g_21, a0g_22, a0g_23, a0g_24, a0g_25, a0g_26, a0g_27, a0g_28, a0g_29, a0g_30, a0g_31, a0g_32, a0g_33, a0g_34, a0g_35, a0g_36, a0g_37, a0g_38, a0g_39])), (a0_15, .inl (ka0_15, 156, .inl (fa0_15))), (a0_17, .inl (ka0_17, 23, .inl (fa0_17)))] sz) [(a0, .inr (8, [Value.int na0_0, a0g_1, a0g_2, a0g_3, a0g_4, a0g_5, a0g_6, a0g_7, a0g_8, a0g_9, a0g_10, a0g_11, a0g_12, a0g_13, Value.int a0_14, Value.ref a0_15, a0g_16, Value.ref a0_17, a0g_18, a0g_19, a0g_20, a0g_21, a0g_22, a0g_23, a0g_24, a0g_25, a0g_26, a0g_27, a0g_28, a0g_29, a0g_30, a0g_31, a0g_32, a0g_33, a0g_34, a0g_35, a0g_36, a0g_37, a0g_38, a0g_39])), (a0_15, .inl (ka0_15, 156, .inl (fa0_15))), (a0_17, .inl (ka0_17, 23, .inl (fa0_17)))] [(ka0_15, .int), (ka0_17, .int)] t) (va_A [(a0, .inr (8, [Value.int a0_0, a0g_1, a0g_2, a0g_3, a0g_4, a0g_5, a0g_6, a0g_7, a0g_8, a0g_9, a0g_10, a0g_11, a0g_12, a0g_13, Value.int a0_14, Value.ref a0_15, a0g_16, Value.ref a0_17, a0g_18, a0g_19, a0g_20, a0g_21, a0g_22, a0g_23, a0g_24, a0g_25, a0g_26, a0g_27, a0g_28, a0g_29, a0g_30, a0g_31, a0g_32, a0g_33, a0g_34, a0g_35, a0g_36, a0g_37, a0g_38, a0g_39])), (a0_15, .inl (ka0_15, 156, .inl (fa0_15))), (a0_17, .inl (ka0_17, 23, .inl (fa0_17)))] sz)) 0 0 (va_A [(a0, .inr (8, [Value.int a0_0, a0g_1, a0g_2, a0g_3, a0g_4, a0g_5, a0g_6, a0g_7, a0g_8, a0g_9, a0g_10, a0g_11, a0g_12, a0g_13, Value.int a0_14, Value.ref a0_15, a0g_16, Value.ref a0_17, a0g_18, a0g_19, a0g_20, a0g_21, a0g_22, a0g_23, a0g_24, a0g_25, a0g_26, a0g_27, a0g_28, a0g_29, a0g_30, a0g_31, a0g_32, a0g_33, a0g_34, a0g_35, a0g_36, a0g_37, a0g_38, a0g_39])), (a0_15, .inl (ka0_15, 156, .inl (fa0_15))), (a0_17, .inl (ka0_17, 23, .inl (fa0_17)))] sz) := by
  refine Met.ofW (cc := cX8_led) (maxL := 4) (ret := (some .int)) (by decide) rfl ?_
  intro p e s m args below meth c s₁ B hml hv
  obtain ⟨rfl, hsz, hP, hK, hD0, hE⟩ := hv
  have hx := B.exec
  have hb := B.bytes
  have hr := B.returns
  have hts := atoms_spec (ws := wsX8_led) B.pre
  have hown : s.vm.findClass RX8 = some m.cls := findClass_of_methodNamed B.named
  have hlocks := B.notSynchronized
  subst hsz
  have hD := hD0.self (sz := s.heap.size)
  generalize hAe : va_A [(a0, .inr (8, [Value.int a0_0, a0g_1, a0g_2, a0g_3, a0g_4, a0g_5, a0g_6, a0g_7, a0g_8, a0g_9, a0g_10, a0g_11, a0g_12, a0g_13, Value.int a0_14, Value.ref a0_15, a0g_16, Value.ref a0_17, a0g_18, a0g_19, a0g_20, a0g_21, a0g_22, a0g_23, a0g_24, a0g_25, a0g_26, a0g_27, a0g_28, a0g_29, a0g_30, a0g_31, a0g_32, a0g_33, a0g_34, a0g_35, a0g_36, a0g_37, a0g_38, a0g_39])), (a0_15, .inl (ka0_15, 156, .inl (fa0_15))), (a0_17, .inl (ka0_17, 23, .inl (fa0_17)))] s.heap.size = A at hD ⊢
  have hA : ∀ q : Nat, s.heap.size ≤ q → A q := fun q h => by rw [← hAe]; exact Or.inr h
  have hS : va_S A s.heap s.heap [] := va_S.rf
  have hP : va_P (dC, dI) vwCl [(a0, .inr (8, [Value.int a0_0, a0g_1, a0g_2, a0g_3, a0g_4, a0g_5, a0g_6, a0g_7, a0g_8, a0g_9, a0g_10, a0g_11, a0g_12, a0g_13, Value.int a0_14, Value.ref a0_15, a0g_16, Value.ref a0_17, a0g_18, a0g_19, a0g_20, a0g_21, a0g_22, a0g_23, a0g_24, a0g_25, a0g_26, a0g_27, a0g_28, a0g_29, a0g_30, a0g_31, a0g_32, a0g_33, a0g_34, a0g_35, a0g_36, a0g_37, a0g_38, a0g_39])), (a0_15, .inl (ka0_15, 156, .inl (fa0_15))), (a0_17, .inl (ka0_17, 23, .inl (fa0_17)))] s.heap := hP
  have hl := lv_entry ([.ref a0, .int a1]) (n := 4) (Nat.le_of_ble_eq_true rfl)
  rw [lg_entry_eq]
  generalize (lg_sl ([.ref a0, .int a1]) ++ List.replicate (4 - (lg_sl ([.ref a0, .int a1])).length) Slot.unset).toArray = ls at hl ⊢
  have hl : lv_has ls 4 [(0, .ref a0), (1, .int a1)] := hl
  refine ai_open (fun K hK0 => ?_)
  refine (hK0 _ _ _).mpr ?_
  refine lv_iconst (v := 0) hx hb dX8_led_0 zk_iconst_0 ?_
  refine lv_istore_n (lv' := [(2, .int 0), (0, .ref a0), (1, .int a1)]) hx hb dX8_led_1 rfl hl (by decide) rfl (fun ls hl => ?_)
  refine lv_iconst (v := 0) hx hb dX8_led_2 zk_iconst_0 ?_
  refine lv_istore_n (lv' := [(3, .int 0), (2, .int 0), (0, .ref a0), (1, .int a1)]) hx hb dX8_led_3 rfl hl (by decide) rfl (fun ls hl => ?_)
  have J4 : ∀ (n : Nat) (j4l3 : Int32) (j4l2 : Int32) (H : Heap) (locs : List Loc) (ls : Array Slot), (10 : Int) - j4l3.toInt ≤ (n : Int) → (0 : Int) ≤ j4l3.toInt → j4l3.toInt ≤ (9 : Int) → va_P (dC, dI) vwCl [(a0, .inr (8, [Value.int a0_0, a0g_1, a0g_2, a0g_3, a0g_4, a0g_5, a0g_6, a0g_7, a0g_8, a0g_9, a0g_10, a0g_11, a0g_12, a0g_13, Value.int a0_14, Value.ref a0_15, a0g_16, Value.ref a0_17, a0g_18, a0g_19, a0g_20, a0g_21, a0g_22, a0g_23, a0g_24, a0g_25, a0g_26, a0g_27, a0g_28, a0g_29, a0g_30, a0g_31, a0g_32, a0g_33, a0g_34, a0g_35, a0g_36, a0g_37, a0g_38, a0g_39])), (a0_15, .inl (ka0_15, 156, .inl (fa0_15))), (a0_17, .inl (ka0_17, 23, .inl (fa0_17)))] H → va_D A [(a0, .inr (8, [Value.int a0_0, a0g_1, a0g_2, a0g_3, a0g_4, a0g_5, a0g_6, a0g_7, a0g_8, a0g_9, a0g_10, a0g_11, a0g_12, a0g_13, Value.int a0_14, Value.ref a0_15, a0g_16, Value.ref a0_17, a0g_18, a0g_19, a0g_20, a0g_21, a0g_22, a0g_23, a0g_24, a0g_25, a0g_26, a0g_27, a0g_28, a0g_29, a0g_30, a0g_31, a0g_32, a0g_33, a0g_34, a0g_35, a0g_36, a0g_37, a0g_38, a0g_39])), (a0_15, .inl (ka0_15, 156, .inl (fa0_15))), (a0_17, .inl (ka0_17, 23, .inl (fa0_17)))] → va_S A s.heap H locs → lv_has ls 4 [(0, .ref a0), (1, .int a1), (2, .int j4l2), (3, .int j4l3)] → K H locs (F0 m 4 ls []) := by
    intro n
    induction n with
    | zero =>
      intro j4l3 j4l2 H locs ls hm bj4l3_l bj4l3_u hP hD hS hl
      have h8 := ai_min j4l3
      have h9 := ai_max j4l3
      exact absurd hm (by omega)
    | succ n ih4 =>
      intro j4l3 j4l2 H locs ls hm bj4l3_l bj4l3_u hP hD hS hl
      refine (hK0 _ _ _).mpr ?_
      have hm4 := hm
      refine lv_aload_n hx hb dX8_led_4 rfl (lv_at hl 0 rfl) ?_
      refine va_get (D := (dC, dI)) (ci := 8) (v := .int a0_14) (C := RX8) (T := TX8) (N := 40) hx hb hts zi_X8_led_8 hown hK hP 0 rfl rfl 14 (by decide) (hts (.fieldLink RX8 173 "WaxTurnsModel" "hasGallery" "Z") (List.mem_cons_of_mem _ (List.mem_append_left _ (List.mem_of_getElem? (i := 0) rfl)))) (fun _ h9 => h9) rfl dX8_led_5 ?_
      have J55 : ∀ (H : Heap) (locs : List Loc) (ls : Array Slot), va_P (dC, dI) vwCl [(a0, .inr (8, [Value.int a0_0, a0g_1, a0g_2, a0g_3, a0g_4, a0g_5, a0g_6, a0g_7, a0g_8, a0g_9, a0g_10, a0g_11, a0g_12, a0g_13, Value.int a0_14, Value.ref a0_15, a0g_16, Value.ref a0_17, a0g_18, a0g_19, a0g_20, a0g_21, a0g_22, a0g_23, a0g_24, a0g_25, a0g_26, a0g_27, a0g_28, a0g_29, a0g_30, a0g_31, a0g_32, a0g_33, a0g_34, a0g_35, a0g_36, a0g_37, a0g_38, a0g_39])), (a0_15, .inl (ka0_15, 156, .inl (fa0_15))), (a0_17, .inl (ka0_17, 23, .inl (fa0_17)))] H → va_D A [(a0, .inr (8, [Value.int a0_0, a0g_1, a0g_2, a0g_3, a0g_4, a0g_5, a0g_6, a0g_7, a0g_8, a0g_9, a0g_10, a0g_11, a0g_12, a0g_13, Value.int a0_14, Value.ref a0_15, a0g_16, Value.ref a0_17, a0g_18, a0g_19, a0g_20, a0g_21, a0g_22, a0g_23, a0g_24, a0g_25, a0g_26, a0g_27, a0g_28, a0g_29, a0g_30, a0g_31, a0g_32, a0g_33, a0g_34, a0g_35, a0g_36, a0g_37, a0g_38, a0g_39])), (a0_15, .inl (ka0_15, 156, .inl (fa0_15))), (a0_17, .inl (ka0_17, 23, .inl (fa0_17)))] → va_S A s.heap H locs → lv_has ls 4 [(0, .ref a0)] → K H locs (F0 m 55 ls []) := by
        intro  H locs ls   hP hD hS hl
        refine (hK0 _ _ _).mpr ?_
        refine lv_aload_n hx hb dX8_led_55 rfl (lv_at hl 0 rfl) ?_
        refine lv_iconst (v := 1) hx hb dX8_led_56 zk_iconst_1 ?_
        refine va_put (D := (dC, dI)) (ci := 8) (v := .int 1) (ty := .int) (C := RX8) (T := TX8) (N := 40) hx hb hts zi_X8_led_8 tyX8 tyX8_ok nmX8 hown hK hP hD hS 0 rfl rfl 0 (by decide) (hts (.fieldLink RX8 59 "WaxTurnsModel" "thrown" "I") (List.mem_cons_of_mem _ (List.mem_append_left _ (List.mem_of_getElem? (i := 3) rfl)))) (fun _ h9 => h9) rfl (tyX8_ok 0 (by decide)) rfl rfl (Nat.le_of_ble_eq_true rfl) dX8_led_57 (fun H locs hP hD hS => ?_)
        obtain ⟨hP, hD⟩ := zc_re (w := [(a0, .inr (8, [Value.int 1, a0g_1, a0g_2, a0g_3, a0g_4, a0g_5, a0g_6, a0g_7, a0g_8, a0g_9, a0g_10, a0g_11, a0g_12, a0g_13, Value.int a0_14, Value.ref a0_15, a0g_16, Value.ref a0_17, a0g_18, a0g_19, a0g_20, a0g_21, a0g_22, a0g_23, a0g_24, a0g_25, a0g_26, a0g_27, a0g_28, a0g_29, a0g_30, a0g_31, a0g_32, a0g_33, a0g_34, a0g_35, a0g_36, a0g_37, a0g_38, a0g_39])), (a0_15, .inl (ka0_15, 156, .inl (fa0_15))), (a0_17, .inl (ka0_17, 23, .inl (fa0_17)))]) hP hD rfl
        refine lv_iconst (v := 0) hx hb dX8_led_60 zk_iconst_0 ?_
        exact W.iret (v := 0) hx hb hr (fun t ht hW => ⟨⟨0, (), rfl, ⟨zq5, (Int.le_trans zq6 zq20)⟩, 1, by rw [ht]; exact hP, va_K.moved hW.alike hK, hD⟩, hS.F ht⟩) hS.2.2 dX8_led_61
      refine lv_if_eq (tgt := 55) hx hb dX8_led_8 (by decide) (fun c8 => ?_) (fun c8 => ?_)
      · have gc8 := ai_eq c8
        have u8t_a0_14 : a0_14.toInt ≤ (0 : Int) := Int.le_trans (Int.le_of_eq gc8) zq6
        have l8t_a0_14 : (1 : Int) ≤ a0_14.toInt := ba0_14_l
        exact absurd (Int.le_trans l8t_a0_14 u8t_a0_14) (by decide)
      · have gc8 := ai_ne c8
        refine lv_iload_n hx hb dX8_led_11 rfl (lv_at hl 3 rfl) ?_
        refine lv_aload_n hx hb dX8_led_12 rfl (lv_at hl 0 rfl) ?_
        refine va_get (D := (dC, dI)) (ci := 8) (v := .ref a0_15) (C := RX8) (T := TX8) (N := 40) hx hb hts zi_X8_led_8 hown hK hP 0 rfl rfl 15 (by decide) (hts (.fieldLink RX8 20 "WaxTurnsModel" "\x72" "[I") (List.mem_cons_of_mem _ (List.mem_append_left _ (List.mem_of_getElem? (i := 1) rfl)))) (fun _ h9 => h9) rfl dX8_led_13 ?_
        refine lv_iconst (v := 0) hx hb dX8_led_16 zk_iconst_0 ?_
        refine va_iald hx hb hK hP 1 0 rfl rfl (by unfold vp_in; decide +kernel) dX8_led_17 ?_
        refine lv_topi (fun x17 ex17 => ?_)
        have bx17 : (2 : Int) ≤ x17.toInt ∧ x17.toInt ≤ 9 := by rw [ex17]; exact ai_rd bfa0_15.1 zq5 zq6 (by decide) (by decide) (by decide)
        refine lv_icmp_ge (tgt := 55) hx hb dX8_led_18 (by decide) (fun c18 => ?_) (fun c18 => ?_)
        · have gc18 := ai_le c18
          have u18t_x17 : x17.toInt ≤ (9 : Int) := bx17.2
          have l18t_j4l3 : (2 : Int) ≤ j4l3.toInt := Int.le_trans bx17.1 gc18
          exact (hK0 _ _ _).mp (J55  _ _ _   hP hD hS (lv_sub hl [0] rfl))
        · have gc18 := ai_nle c18
          have u18f_j4l3 : j4l3.toInt ≤ (8 : Int) := ai_lthi gc18 bx17.2
          have l18f_x17 : (2 : Int) ≤ x17.toInt := bx17.1
          refine lv_aload_n hx hb dX8_led_21 rfl (lv_at hl 0 rfl) ?_
          refine va_get (D := (dC, dI)) (ci := 8) (v := .ref a0_17) (C := RX8) (T := TX8) (N := 40) hx hb hts zi_X8_led_8 hown hK hP 0 rfl rfl 17 (by decide) (hts (.fieldLink RX8 26 "WaxTurnsModel" "st" "[I") (List.mem_cons_of_mem _ (List.mem_append_left _ (List.mem_of_getElem? (i := 2) rfl)))) (fun _ h9 => h9) rfl dX8_led_22 ?_
          refine lv_iload_n hx hb dX8_led_25 rfl (lv_at hl 3 rfl) ?_
          refine va_iald hx hb hK hP 2 1 rfl rfl (ai_in bj4l3_l u18f_j4l3 (by decide) (by decide)) dX8_led_26 ?_
          refine lv_topi (fun x26 ex26 => ?_)
          have bx26 : (0 : Int) ≤ x26.toInt ∧ x26.toInt ≤ 8 := by rw [ex26]; exact ai_rd bfa0_17.1 bj4l3_l u18f_j4l3 (by decide) (by decide) (by decide)
          refine lv_iload_n hx hb dX8_led_27 rfl (lv_at hl 3 rfl) ?_
          have J49 : ∀ (j49l2 : Int32) (H : Heap) (locs : List Loc) (ls : Array Slot), va_P (dC, dI) vwCl [(a0, .inr (8, [Value.int a0_0, a0g_1, a0g_2, a0g_3, a0g_4, a0g_5, a0g_6, a0g_7, a0g_8, a0g_9, a0g_10, a0g_11, a0g_12, a0g_13, Value.int a0_14, Value.ref a0_15, a0g_16, Value.ref a0_17, a0g_18, a0g_19, a0g_20, a0g_21, a0g_22, a0g_23, a0g_24, a0g_25, a0g_26, a0g_27, a0g_28, a0g_29, a0g_30, a0g_31, a0g_32, a0g_33, a0g_34, a0g_35, a0g_36, a0g_37, a0g_38, a0g_39])), (a0_15, .inl (ka0_15, 156, .inl (fa0_15))), (a0_17, .inl (ka0_17, 23, .inl (fa0_17)))] H → va_D A [(a0, .inr (8, [Value.int a0_0, a0g_1, a0g_2, a0g_3, a0g_4, a0g_5, a0g_6, a0g_7, a0g_8, a0g_9, a0g_10, a0g_11, a0g_12, a0g_13, Value.int a0_14, Value.ref a0_15, a0g_16, Value.ref a0_17, a0g_18, a0g_19, a0g_20, a0g_21, a0g_22, a0g_23, a0g_24, a0g_25, a0g_26, a0g_27, a0g_28, a0g_29, a0g_30, a0g_31, a0g_32, a0g_33, a0g_34, a0g_35, a0g_36, a0g_37, a0g_38, a0g_39])), (a0_15, .inl (ka0_15, 156, .inl (fa0_15))), (a0_17, .inl (ka0_17, 23, .inl (fa0_17)))] → va_S A s.heap H locs → lv_has ls 4 [(0, .ref a0), (1, .int a1), (2, .int j49l2), (3, .int j4l3)] → K H locs (F0 m 49 ls []) := by
            intro j49l2 H locs ls   hP hD hS hl
            refine (hK0 _ _ _).mpr ?_
            obtain ⟨x49, ex49⟩ : ∃ y : Int32, y = j4l3 + Int32.ofInt 1 := ⟨_, rfl⟩
            have qx49 : x49.toInt = j4l3.toInt + 1 := ai_inc ex49 (by decide) (by decide) u18f_j4l3 (by decide)
            have bx49 : (1 : Int) ≤ x49.toInt ∧ x49.toInt ≤ 9 := ⟨by rw [qx49]; exact Int.add_le_add bj4l3_l (Int.le_refl _), by rw [qx49]; exact Int.add_le_add u18f_j4l3 (Int.le_refl _)⟩
            refine lv_iinc (v := x49) (lv' := [(3, .int x49), (0, .ref a0), (1, .int a1), (2, .int j49l2)]) hx hb dX8_led_49 hl (k := 3) rfl ex49.symm (by decide) rfl (fun ls hl => ?_)
            refine lv_goto (tgt := 4) hx hb dX8_led_52 (by decide) ?_
            exact (hK0 _ _ _).mp (ih4 x49 j49l2 _ _ _ (by have h0 := qx49; omega) (Int.le_trans zq4 bx49.1) bx49.2 hP hD hS (lv_sub hl [1, 2, 3, 0] rfl))
          refine lv_icmp_ne (tgt := 34) hx hb dX8_led_28 (by decide) (fun c28 => ?_) (fun c28 => ?_)
          · have gc28 := ai_ne c28
            refine lv_iload_n hx hb dX8_led_34 rfl (lv_at hl 2 rfl) ?_
            refine lv_iload_n hx hb dX8_led_35 rfl (lv_at hl 1 rfl) ?_
            refine lv_icmp_ne (tgt := 46) hx hb dX8_led_36 (by decide) (fun c36 => ?_) (fun c36 => ?_)
            · have gc36 := ai_ne c36
              obtain ⟨x46, ex46⟩ : ∃ y : Int32, y = j4l2 + Int32.ofInt 1 := ⟨_, rfl⟩
              refine lv_iinc (v := x46) (lv' := [(2, .int x46), (0, .ref a0), (1, .int a1), (3, .int j4l3)]) hx hb dX8_led_46 hl (k := 2) rfl ex46.symm (by decide) rfl (fun ls hl => ?_)
              exact (hK0 _ _ _).mp (J49 x46 _ _ _   hP hD hS (lv_sub hl [1, 2, 0, 3] rfl))
            · have gc36 := ai_eq c36
              refine lv_aload_n hx hb dX8_led_39 rfl (lv_at hl 0 rfl) ?_
              refine lv_iconst (v := 0) hx hb dX8_led_40 zk_iconst_0 ?_
              refine va_put (D := (dC, dI)) (ci := 8) (v := .int 0) (ty := .int) (C := RX8) (T := TX8) (N := 40) hx hb hts zi_X8_led_8 tyX8 tyX8_ok nmX8 hown hK hP hD hS 0 rfl rfl 0 (by decide) (hts (.fieldLink RX8 59 "WaxTurnsModel" "thrown" "I") (List.mem_cons_of_mem _ (List.mem_append_left _ (List.mem_of_getElem? (i := 3) rfl)))) (fun _ h9 => h9) rfl (tyX8_ok 0 (by decide)) rfl rfl (Nat.le_of_ble_eq_true rfl) dX8_led_41 (fun H locs hP hD hS => ?_)
              obtain ⟨hP, hD⟩ := zc_re (w := [(a0, .inr (8, [Value.int 0, a0g_1, a0g_2, a0g_3, a0g_4, a0g_5, a0g_6, a0g_7, a0g_8, a0g_9, a0g_10, a0g_11, a0g_12, a0g_13, Value.int a0_14, Value.ref a0_15, a0g_16, Value.ref a0_17, a0g_18, a0g_19, a0g_20, a0g_21, a0g_22, a0g_23, a0g_24, a0g_25, a0g_26, a0g_27, a0g_28, a0g_29, a0g_30, a0g_31, a0g_32, a0g_33, a0g_34, a0g_35, a0g_36, a0g_37, a0g_38, a0g_39])), (a0_15, .inl (ka0_15, 156, .inl (fa0_15))), (a0_17, .inl (ka0_17, 23, .inl (fa0_17)))]) hP hD rfl
              refine lv_iload_n hx hb dX8_led_44 rfl (lv_at hl 3 rfl) ?_
              exact W.iret (v := j4l3) hx hb hr (fun t ht hW => ⟨⟨j4l3, (), rfl, ⟨bj4l3_l, u18f_j4l3⟩, 0, by rw [ht]; exact hP, va_K.moved hW.alike hK, hD⟩, hS.F ht⟩) hS.2.2 dX8_led_45
          · have gc28 := ai_eq c28
            have u28f_x26 : x26.toInt ≤ (8 : Int) := bx26.2
            have l28f_x26 : (0 : Int) ≤ x26.toInt := bx26.1
            have u28f_j4l3 : j4l3.toInt ≤ (8 : Int) := u18f_j4l3
            have l28f_j4l3 : (0 : Int) ≤ j4l3.toInt := bj4l3_l
            refine lv_goto (tgt := 49) hx hb dX8_led_31 (by decide) ?_
            exact (hK0 _ _ _).mp (J49 j4l2 _ _ _   hP hD hS (lv_sub hl [0, 1, 2, 3] rfl))
  exact (hK0 _ _ _).mp (J4 10 0 0 _ _ _ (by have h1 : (0 : Int) ≤ (0 : Int32).toInt := zq5; have h2 : (0 : Int32).toInt ≤ (0 : Int) := zq6; omega) zq5 (Int.le_trans zq6 zq7) hP hD hS (lv_sub hl [2, 3, 1, 0] rfl))

set_option maxHeartbeats 4000000 in
set_option maxRecDepth 100000 in
theorem c_X8_size (l : Launch) (dC : Nat → ClassId) (dI : Nat → Nat → Nat) (sz : Nat) (a0 : Nat) (a1 : Int32) (a0_0 : Int32) (a0g_1 a0g_3 a0g_4 a0g_5 a0g_6 a0g_7 a0g_8 a0g_9 a0g_10 a0g_11 a0g_12 a0g_13 a0g_16 a0g_18 a0g_19 a0g_20 a0g_23 a0g_24 a0g_25 a0g_26 a0g_27 a0g_28 a0g_29 a0g_30 a0g_31 a0g_32 a0g_33 a0g_34 a0g_35 a0g_36 a0g_37 a0g_38 a0g_39 : Value) (a0_2 : Int32) (a0_14 : Int32) (a0_15 : Nat) (a0_17 : Nat) (a0_21 : Int32) (a0_22 : Int32) (ka0_15 : ClassId) (fa0_15 : Nat → Int32) (ka0_17 : ClassId) (fa0_17 : Nat → Int32) (ba0_2_l : (0 : Int) ≤ a0_2.toInt) (ba0_2_u : a0_2.toInt ≤ (900 : Int)) (ba0_14_l : (1 : Int) ≤ a0_14.toInt) (ba0_14_u : a0_14.toInt ≤ (1 : Int)) (ba0_21_l : (0 : Int) ≤ a0_21.toInt) (ba0_21_u : a0_21.toInt ≤ (16 : Int)) (ba0_22_l : (0 : Int) ≤ a0_22.toInt) (ba0_22_u : a0_22.toInt ≤ (3 : Int)) (bfa0_15 : ((∀ k : Nat, 0 ≤ k → k ≤ 0 → (2 : Int) ≤ (fa0_15 k).toInt ∧ (fa0_15 k).toInt ≤ 9) ∧ (∀ k : Nat, 1 ≤ k → k ≤ 1 → (1 : Int) ≤ (fa0_15 k).toInt ∧ (fa0_15 k).toInt ≤ 20) ∧ (∀ k : Nat, 2 ≤ k → k ≤ 2 → (0 : Int) ≤ (fa0_15 k).toInt ∧ (fa0_15 k).toInt ≤ 8) ∧ (∀ k : Nat, 3 ≤ k → k ≤ 3 → (0 : Int) ≤ (fa0_15 k).toInt ∧ (fa0_15 k).toInt ≤ 100) ∧ (∀ k : Nat, 4 ≤ k → k ≤ 4 → (0 : Int) ≤ (fa0_15 k).toInt ∧ (fa0_15 k).toInt ≤ 9) ∧ (∀ k : Nat, 5 ≤ k → k ≤ 5 → (0 : Int) ≤ (fa0_15 k).toInt ∧ (fa0_15 k).toInt ≤ 3) ∧ (∀ k : Nat, 6 ≤ k → k ≤ 6 → (0 : Int) ≤ (fa0_15 k).toInt ∧ (fa0_15 k).toInt ≤ 6) ∧ (∀ k : Nat, 7 ≤ k → k ≤ 9 → (0 : Int) ≤ (fa0_15 k).toInt ∧ (fa0_15 k).toInt ≤ 8) ∧ (∀ k : Nat, 12 ≤ k → k ≤ 29 → (0 : Int) ≤ (fa0_15 k).toInt ∧ (fa0_15 k).toInt ≤ 20) ∧ (∀ k : Nat, 30 ≤ k → k ≤ 35 → (0 : Int) ≤ (fa0_15 k).toInt ∧ (fa0_15 k).toInt ≤ 8) ∧ (∀ k : Nat, 36 ≤ k → k ≤ 47 → (0 : Int) ≤ (fa0_15 k).toInt ∧ (fa0_15 k).toInt ≤ 999))) (bfa0_17 : ((∀ k : Nat, 0 ≤ k → k ≤ 8 → (0 : Int) ≤ (fa0_17 k).toInt ∧ (fa0_17 k).toInt ≤ 8) ∧ (∀ k : Nat, 19 ≤ k → k ≤ 19 → (0 : Int) ≤ (fa0_17 k).toInt ∧ (fa0_17 k).toInt ≤ 8) ∧ (∀ k : Nat, 20 ≤ k → k ≤ 20 → (0 : Int) ≤ (fa0_17 k).toInt ∧ (fa0_17 k).toInt ≤ 19))) : Met l yX8_size wsX8_size ({ frames := 1, cells := 0, slots := 0, locals := 22 }) (va_Pc [.ref a0, .int a1] (ax_C dC dI sz [(a0, .inr (8, [Value.int a0_0, a0g_1, Value.int a0_2, a0g_3, a0g_4, a0g_5, a0g_6, a0g_7, a0g_8, a0g_9, a0g_10, a0g_11, a0g_12, a0g_13, Value.int a0_14, Value.ref a0_15, a0g_16, Value.ref a0_17, a0g_18, a0g_19, a0g_20, Value.int a0_21, Value.int a0_22, a0g_23, a0g_24, a0g_25, a0g_26, a0g_27, a0g_28, a0g_29, a0g_30, a0g_31, a0g_32, a0g_33, a0g_34, a0g_35, a0g_36, a0g_37, a0g_38, a0g_39])), (a0_15, .inl (ka0_15, 156, .inl (fa0_15))), (a0_17, .inl (ka0_17, 23, .inl (fa0_17)))] [(ka0_15, .int), (ka0_17, .int)] (fun _ => True))) (va_Qi (fun (r : Int32) (_ : Unit) => True) (fun (_ : Unit) (t : State) => ∃ na0_0 : Int32, ax_B dC dI (va_A [(a0, .inr (8, [Value.int a0_0, a0g_1, Value.int a0_2, a0g_3, a0g_4, a0g_5, a0g_6, a0g_7, a0g_8, a0g_9, a0g_10, a0g_11, a0g_12, a0g_13, Value.int a0_14, Value.ref a0_15, a0g_16, Value.ref a0_17, a0g_18, a0g_19, a0g_20, Value.int a0_21, Value.int a0_22, a0g_23, a0g_24, a0g_25, a0g_26, a0g_27, a0g_28, a0g_29, a0g_30, a0g_31, a0g_32, a0g_33, a0g_34, a0g_35, a0g_36, a0g_37, a0g_38, a0g_39])), (a0_15, .inl (ka0_15, 156, .inl (fa0_15))), (a0_17, .inl (ka0_17, 23, .inl (fa0_17)))] sz) [(a0, .inr (8, [Value.int na0_0, a0g_1, Value.int a0_2, a0g_3, a0g_4, a0g_5, a0g_6, a0g_7, a0g_8, a0g_9, a0g_10, a0g_11, a0g_12, a0g_13, Value.int a0_14, Value.ref a0_15, a0g_16, Value.ref a0_17, a0g_18, a0g_19, a0g_20, Value.int a0_21, Value.int a0_22, a0g_23, a0g_24, a0g_25, a0g_26, a0g_27, a0g_28, a0g_29, a0g_30, a0g_31, a0g_32, a0g_33, a0g_34, a0g_35, a0g_36, a0g_37, a0g_38, a0g_39])), (a0_15, .inl (ka0_15, 156, .inl (fa0_15))), (a0_17, .inl (ka0_17, 23, .inl (fa0_17)))] [(ka0_15, .int), (ka0_17, .int)] t) (va_A [(a0, .inr (8, [Value.int a0_0, a0g_1, Value.int a0_2, a0g_3, a0g_4, a0g_5, a0g_6, a0g_7, a0g_8, a0g_9, a0g_10, a0g_11, a0g_12, a0g_13, Value.int a0_14, Value.ref a0_15, a0g_16, Value.ref a0_17, a0g_18, a0g_19, a0g_20, Value.int a0_21, Value.int a0_22, a0g_23, a0g_24, a0g_25, a0g_26, a0g_27, a0g_28, a0g_29, a0g_30, a0g_31, a0g_32, a0g_33, a0g_34, a0g_35, a0g_36, a0g_37, a0g_38, a0g_39])), (a0_15, .inl (ka0_15, 156, .inl (fa0_15))), (a0_17, .inl (ka0_17, 23, .inl (fa0_17)))] sz)) 0 0 (va_A [(a0, .inr (8, [Value.int a0_0, a0g_1, Value.int a0_2, a0g_3, a0g_4, a0g_5, a0g_6, a0g_7, a0g_8, a0g_9, a0g_10, a0g_11, a0g_12, a0g_13, Value.int a0_14, Value.ref a0_15, a0g_16, Value.ref a0_17, a0g_18, a0g_19, a0g_20, Value.int a0_21, Value.int a0_22, a0g_23, a0g_24, a0g_25, a0g_26, a0g_27, a0g_28, a0g_29, a0g_30, a0g_31, a0g_32, a0g_33, a0g_34, a0g_35, a0g_36, a0g_37, a0g_38, a0g_39])), (a0_15, .inl (ka0_15, 156, .inl (fa0_15))), (a0_17, .inl (ka0_17, 23, .inl (fa0_17)))] sz) := by
  refine Met.ofW (cc := cX8_size) (maxL := 2) (ret := (some .int)) (by decide) rfl ?_
  intro p e s m args below meth c s₁ B hml hv
  obtain ⟨rfl, hsz, hP, hK, hD0, hE⟩ := hv
  have hx := B.exec
  have hb := B.bytes
  have hr := B.returns
  have hts := atoms_spec (ws := wsX8_size) B.pre
  have hown : s.vm.findClass RX8 = some m.cls := findClass_of_methodNamed B.named
  have hlocks := B.notSynchronized
  subst hsz
  have hD := hD0.self (sz := s.heap.size)
  generalize hAe : va_A [(a0, .inr (8, [Value.int a0_0, a0g_1, Value.int a0_2, a0g_3, a0g_4, a0g_5, a0g_6, a0g_7, a0g_8, a0g_9, a0g_10, a0g_11, a0g_12, a0g_13, Value.int a0_14, Value.ref a0_15, a0g_16, Value.ref a0_17, a0g_18, a0g_19, a0g_20, Value.int a0_21, Value.int a0_22, a0g_23, a0g_24, a0g_25, a0g_26, a0g_27, a0g_28, a0g_29, a0g_30, a0g_31, a0g_32, a0g_33, a0g_34, a0g_35, a0g_36, a0g_37, a0g_38, a0g_39])), (a0_15, .inl (ka0_15, 156, .inl (fa0_15))), (a0_17, .inl (ka0_17, 23, .inl (fa0_17)))] s.heap.size = A at hD ⊢
  have hA : ∀ q : Nat, s.heap.size ≤ q → A q := fun q h => by rw [← hAe]; exact Or.inr h
  have hS : va_S A s.heap s.heap [] := va_S.rf
  have hP : va_P (dC, dI) vwCl [(a0, .inr (8, [Value.int a0_0, a0g_1, Value.int a0_2, a0g_3, a0g_4, a0g_5, a0g_6, a0g_7, a0g_8, a0g_9, a0g_10, a0g_11, a0g_12, a0g_13, Value.int a0_14, Value.ref a0_15, a0g_16, Value.ref a0_17, a0g_18, a0g_19, a0g_20, Value.int a0_21, Value.int a0_22, a0g_23, a0g_24, a0g_25, a0g_26, a0g_27, a0g_28, a0g_29, a0g_30, a0g_31, a0g_32, a0g_33, a0g_34, a0g_35, a0g_36, a0g_37, a0g_38, a0g_39])), (a0_15, .inl (ka0_15, 156, .inl (fa0_15))), (a0_17, .inl (ka0_17, 23, .inl (fa0_17)))] s.heap := hP
  have hl := lv_entry ([.ref a0, .int a1]) (n := 2) (Nat.le_of_ble_eq_true rfl)
  rw [lg_entry_eq]
  generalize (lg_sl ([.ref a0, .int a1]) ++ List.replicate (2 - (lg_sl ([.ref a0, .int a1])).length) Slot.unset).toArray = ls at hl ⊢
  have hl : lv_has ls 2 [(0, .ref a0), (1, .int a1)] := hl
  refine lv_aload_n hx hb dX8_size_0 rfl (lv_at hl 0 rfl) ?_
  refine lv_iconst (v := 0) hx hb dX8_size_1 zk_iconst_0 ?_
  refine va_put (D := (dC, dI)) (ci := 8) (v := .int 0) (ty := .int) (C := RX8) (T := TX8) (N := 40) hx hb hts zi_X8_size_8 tyX8 tyX8_ok nmX8 hown hK hP hD hS 0 rfl rfl 0 (by decide) (hts (.fieldLink RX8 59 "WaxTurnsModel" "thrown" "I") (List.mem_cons_of_mem _ (List.mem_append_left _ (List.mem_of_getElem? (i := 0) rfl)))) (fun _ h9 => h9) rfl (tyX8_ok 0 (by decide)) rfl rfl (Nat.le_of_ble_eq_true rfl) dX8_size_2 (fun H locs hP hD hS => ?_)
  obtain ⟨hP, hD⟩ := zc_re (w := [(a0, .inr (8, [Value.int 0, a0g_1, Value.int a0_2, a0g_3, a0g_4, a0g_5, a0g_6, a0g_7, a0g_8, a0g_9, a0g_10, a0g_11, a0g_12, a0g_13, Value.int a0_14, Value.ref a0_15, a0g_16, Value.ref a0_17, a0g_18, a0g_19, a0g_20, Value.int a0_21, Value.int a0_22, a0g_23, a0g_24, a0g_25, a0g_26, a0g_27, a0g_28, a0g_29, a0g_30, a0g_31, a0g_32, a0g_33, a0g_34, a0g_35, a0g_36, a0g_37, a0g_38, a0g_39])), (a0_15, .inl (ka0_15, 156, .inl (fa0_15))), (a0_17, .inl (ka0_17, 23, .inl (fa0_17)))]) hP hD rfl
  refine lv_iload_n hx hb dX8_size_5 rfl (lv_at hl 1 rfl) ?_
  refine lv_bipush (v := 13) hx hb dX8_size_6 zk_bipush_13 ?_
  refine lv_icmp_ne (tgt := 16) hx hb dX8_size_8 (by decide) (fun c8 => ?_) (fun c8 => ?_)
  · have gc8 := ai_ne c8
    refine lv_aload_n hx hb dX8_size_16 rfl (lv_at hl 0 rfl) ?_
    refine va_get (D := (dC, dI)) (ci := 8) (v := .int a0_14) (C := RX8) (T := TX8) (N := 40) hx hb hts zi_X8_size_8 hown hK hP 0 rfl rfl 14 (by decide) (hts (.fieldLink RX8 173 "WaxTurnsModel" "hasGallery" "Z") (List.mem_cons_of_mem _ (List.mem_append_left _ (List.mem_of_getElem? (i := 2) rfl)))) (fun _ h9 => h9) rfl dX8_size_17 ?_
    refine lv_if_ne (tgt := 39) hx hb dX8_size_20 (by decide) (fun c20 => ?_) (fun c20 => ?_)
    · have gc20 := ai_ne c20
      refine lv_iload_n hx hb dX8_size_39 rfl (lv_at hl 1 rfl) ?_
      refine lv_iconst (v := 0) hx hb dX8_size_40 zk_iconst_0 ?_
      refine lv_bipush (v := 9) hx hb dX8_size_41 zk_bipush_9 ?_
      obtain ⟨hPc, hDc, hFc, hCc⟩ := zc_cut (wc := []) hP hD hS hA [] (by decide +kernel) rfl
      have hKc := hK.sub (tys' := []) [] rfl
      refine va_calli (va_runS (As := [.int a1, .int 0, .int 9]) (rest := []) ⟨hx, hb, hml, hown, hts⟩ (c_X8_in l dC dI H.size a1 0 9 ) (va_cwS 3 hts gX8_size_X8_in rfl rfl rfl zd_X8_in.2 ⟨Nat.le_of_ble_eq_true rfl, Nat.le_of_ble_eq_true rfl⟩) ⟨ax_blind (fun _ _ _ _ _ => trivial), ax_pre hPc hKc hDc (fun _ _ => trivial)⟩ rfl rfl hl.1 rfl (lv_room (Nat.le_of_ble_eq_true rfl)) dX8_size_43 ⟨Nat.le_of_ble_eq_true rfl, Nat.le_of_ble_eq_true rfl⟩) hS (fun q _ h => hFc q h) hFc (fun r43 u t H locs ht hvm hw hB hz1 hk1 hS => ?_)
      obtain ⟨hP1, hK1, hD1⟩ := hB
      rw [ht] at hP1
      obtain ⟨hP, hD⟩ := zc_back (w := [(a0, .inr (8, [Value.int 0, a0g_1, Value.int a0_2, a0g_3, a0g_4, a0g_5, a0g_6, a0g_7, a0g_8, a0g_9, a0g_10, a0g_11, a0g_12, a0g_13, Value.int a0_14, Value.ref a0_15, a0g_16, Value.ref a0_17, a0g_18, a0g_19, a0g_20, Value.int a0_21, Value.int a0_22, a0g_23, a0g_24, a0g_25, a0g_26, a0g_27, a0g_28, a0g_29, a0g_30, a0g_31, a0g_32, a0g_33, a0g_34, a0g_35, a0g_36, a0g_37, a0g_38, a0g_39])), (a0_15, .inl (ka0_15, 156, .inl (fa0_15))), (a0_17, .inl (ka0_17, 23, .inl (fa0_17)))]) hP hD hCc hk1 hFc hP1 hD1 [.inl 0, .inl 1, .inl 2] (by decide +kernel) rfl
      rcases hw with hw | hw
      · obtain ⟨hw, h43⟩ := hw
        subst hw
        have l43k0_a1 : (0 : Int) ≤ a1.toInt := Int.le_trans zq5 h43.1
        have u43k0_a1 : a1.toInt ≤ (9 : Int) := Int.le_trans h43.2 zq3
        refine lv_if_eq (tgt := 56) hx hb dX8_size_46 (by decide) (fun c46 => absurd c46 (by decide +kernel)) (fun _ => ?_)
        refine lv_aload_n hx hb dX8_size_49 rfl (lv_at hl 0 rfl) ?_
        refine va_get (D := (dC, dI)) (ci := 8) (v := .ref a0_15) (C := RX8) (T := TX8) (N := 40) hx hb hts zi_X8_size_8 hown hK hP 0 rfl rfl 15 (by decide) (hts (.fieldLink RX8 20 "WaxTurnsModel" "\x72" "[I") (List.mem_cons_of_mem _ (List.mem_append_left _ (List.mem_of_getElem? (i := 3) rfl)))) (fun _ h9 => h9) rfl dX8_size_50 ?_
        refine lv_iload_n hx hb dX8_size_53 rfl (lv_at hl 1 rfl) ?_
        refine va_iald hx hb hK hP 1 0 rfl rfl (ai_in l43k0_a1 u43k0_a1 (by decide) (by decide)) dX8_size_54 ?_
        refine lv_topi (fun x54 ex54 => ?_)
        exact W.iret (v := x54) hx hb hr (fun t ht hW => ⟨⟨x54, (), rfl, trivial, 0, by rw [ht]; exact hP, va_K.moved hW.alike hK, hD⟩, hS.F ht⟩) hS.2.2 dX8_size_55
      · obtain ⟨hw, h43⟩ := hw
        subst hw
        refine lv_if_eq (tgt := 56) hx hb dX8_size_46 (by decide) (fun _ => ?_) (fun c46 => absurd (by decide +kernel) c46)
        refine lv_iload_n hx hb dX8_size_56 rfl (lv_at hl 1 rfl) ?_
        refine lv_bipush (v := 10) hx hb dX8_size_57 zk_bipush_10 ?_
        refine lv_icmp_ne (tgt := 72) hx hb dX8_size_59 (by decide) (fun c59 => ?_) (fun c59 => ?_)
        · have gc59 := ai_ne c59
          refine lv_iload_n hx hb dX8_size_72 rfl (lv_at hl 1 rfl) ?_
          refine lv_bipush (v := 11) hx hb dX8_size_73 zk_bipush_11 ?_
          refine lv_icmp_ne (tgt := 85) hx hb dX8_size_75 (by decide) (fun c75 => ?_) (fun c75 => ?_)
          · have gc75 := ai_ne c75
            refine lv_iload_n hx hb dX8_size_85 rfl (lv_at hl 1 rfl) ?_
            refine lv_bipush (v := 12) hx hb dX8_size_86 zk_bipush_12 ?_
            refine lv_icmp_ne (tgt := 98) hx hb dX8_size_88 (by decide) (fun c88 => ?_) (fun c88 => ?_)
            · have gc88 := ai_ne c88
              refine lv_iconst (v := (-1)) hx hb dX8_size_98 zk_iconst_n1 ?_
              exact W.iret (v := (-1)) hx hb hr (fun t ht hW => ⟨⟨(-1), (), rfl, trivial, 0, by rw [ht]; exact hP, va_K.moved hW.alike hK, hD⟩, hS.F ht⟩) hS.2.2 dX8_size_99
            · have gc88 := ai_eq c88
              have u88f_a1 : a1.toInt ≤ (12 : Int) := Int.le_trans (Int.le_of_eq gc88) zq120
              have l88f_a1 : (12 : Int) ≤ a1.toInt := Int.le_trans zq119 (Int.le_of_eq gc88.symm)
              refine lv_aload_n hx hb dX8_size_91 rfl (lv_at hl 0 rfl) ?_
              refine va_get (D := (dC, dI)) (ci := 8) (v := .int a0_22) (C := RX8) (T := TX8) (N := 40) hx hb hts zi_X8_size_8 hown hK hP 0 rfl rfl 22 (by decide) (hts (.fieldLink RX8 179 "WaxTurnsModel" "images" "I") (List.mem_cons_of_mem _ (List.mem_append_left _ (List.mem_of_getElem? (i := 6) rfl)))) (fun _ h9 => h9) rfl dX8_size_92 ?_
              refine lv_goto (tgt := 99) hx hb dX8_size_95 (by decide) ?_
              exact W.iret (v := a0_22) hx hb hr (fun t ht hW => ⟨⟨a0_22, (), rfl, trivial, 0, by rw [ht]; exact hP, va_K.moved hW.alike hK, hD⟩, hS.F ht⟩) hS.2.2 dX8_size_99
          · have gc75 := ai_eq c75
            have u75f_a1 : a1.toInt ≤ (11 : Int) := Int.le_trans (Int.le_of_eq gc75) zq118
            have l75f_a1 : (11 : Int) ≤ a1.toInt := Int.le_trans zq117 (Int.le_of_eq gc75.symm)
            refine lv_aload_n hx hb dX8_size_78 rfl (lv_at hl 0 rfl) ?_
            refine va_get (D := (dC, dI)) (ci := 8) (v := .int a0_21) (C := RX8) (T := TX8) (N := 40) hx hb hts zi_X8_size_8 hown hK hP 0 rfl rfl 21 (by decide) (hts (.fieldLink RX8 176 "WaxTurnsModel" "undos" "I") (List.mem_cons_of_mem _ (List.mem_append_left _ (List.mem_of_getElem? (i := 5) rfl)))) (fun _ h9 => h9) rfl dX8_size_79 ?_
            refine lv_goto (tgt := 99) hx hb dX8_size_82 (by decide) ?_
            exact W.iret (v := a0_21) hx hb hr (fun t ht hW => ⟨⟨a0_21, (), rfl, trivial, 0, by rw [ht]; exact hP, va_K.moved hW.alike hK, hD⟩, hS.F ht⟩) hS.2.2 dX8_size_99
        · have gc59 := ai_eq c59
          have u59f_a1 : a1.toInt ≤ (10 : Int) := Int.le_trans (Int.le_of_eq gc59) zq27
          have l59f_a1 : (10 : Int) ≤ a1.toInt := Int.le_trans zq26 (Int.le_of_eq gc59.symm)
          refine lv_aload_n hx hb dX8_size_62 rfl (lv_at hl 0 rfl) ?_
          refine va_get (D := (dC, dI)) (ci := 8) (v := .ref a0_17) (C := RX8) (T := TX8) (N := 40) hx hb hts zi_X8_size_8 hown hK hP 0 rfl rfl 17 (by decide) (hts (.fieldLink RX8 26 "WaxTurnsModel" "st" "[I") (List.mem_cons_of_mem _ (List.mem_append_left _ (List.mem_of_getElem? (i := 4) rfl)))) (fun _ h9 => h9) rfl dX8_size_63 ?_
          refine lv_bipush (v := 21) hx hb dX8_size_66 zk_bipush_21 ?_
          refine va_iald hx hb hK hP 2 1 rfl rfl (by unfold vp_in; decide +kernel) dX8_size_68 ?_
          refine lv_topi (fun x68 ex68 => ?_)
          refine lv_goto (tgt := 99) hx hb dX8_size_69 (by decide) ?_
          exact W.iret (v := x68) hx hb hr (fun t ht hW => ⟨⟨x68, (), rfl, trivial, 0, by rw [ht]; exact hP, va_K.moved hW.alike hK, hD⟩, hS.F ht⟩) hS.2.2 dX8_size_99
    · have gc20 := ai_eq c20
      have u20f_a0_14 : a0_14.toInt ≤ (0 : Int) := Int.le_trans (Int.le_of_eq gc20) zq6
      have l20f_a0_14 : (1 : Int) ≤ a0_14.toInt := ba0_14_l
      exact absurd (Int.le_trans l20f_a0_14 u20f_a0_14) (by decide)
  · have gc8 := ai_eq c8
    have u8f_a1 : a1.toInt ≤ (13 : Int) := Int.le_trans (Int.le_of_eq gc8) zq122
    have l8f_a1 : (13 : Int) ≤ a1.toInt := Int.le_trans zq121 (Int.le_of_eq gc8.symm)
    refine lv_aload_n hx hb dX8_size_11 rfl (lv_at hl 0 rfl) ?_
    refine va_get (D := (dC, dI)) (ci := 8) (v := .int a0_2) (C := RX8) (T := TX8) (N := 40) hx hb hts zi_X8_size_8 hown hK hP 0 rfl rfl 2 (by decide) (hts (.fieldLink RX8 65 "WaxTurnsModel" "taped" "I") (List.mem_cons_of_mem _ (List.mem_append_left _ (List.mem_of_getElem? (i := 1) rfl)))) (fun _ h9 => h9) rfl dX8_size_12 ?_
    exact W.iret (v := a0_2) hx hb hr (fun t ht hW => ⟨⟨a0_2, (), rfl, trivial, 0, by rw [ht]; exact hP, va_K.moved hW.alike hK, hD⟩, hS.F ht⟩) hS.2.2 dX8_size_15

set_option maxHeartbeats 4000000 in
set_option maxRecDepth 100000 in
theorem c_X8_trouble (l : Launch) (dC : Nat → ClassId) (dI : Nat → Nat → Nat) (sz : Nat) (a0 : Nat) (a0_0 : Int32) (a0g_1 a0g_2 a0g_3 a0g_4 a0g_5 a0g_6 a0g_7 a0g_8 a0g_9 a0g_10 a0g_12 a0g_13 a0g_14 a0g_15 a0g_16 a0g_17 a0g_18 a0g_19 a0g_20 a0g_21 a0g_22 a0g_23 a0g_24 a0g_25 a0g_26 a0g_27 a0g_28 a0g_29 a0g_30 a0g_31 a0g_32 a0g_33 a0g_34 a0g_35 a0g_36 a0g_37 a0g_38 a0g_39 : Value) (a0_11 : Int32)  : Met l yX8_trouble wsX8_trouble ({ frames := 0, cells := 0, slots := 0, locals := 0 }) (va_Pc [.ref a0] (ax_C dC dI sz [(a0, .inr (8, [Value.int a0_0, a0g_1, a0g_2, a0g_3, a0g_4, a0g_5, a0g_6, a0g_7, a0g_8, a0g_9, a0g_10, Value.int a0_11, a0g_12, a0g_13, a0g_14, a0g_15, a0g_16, a0g_17, a0g_18, a0g_19, a0g_20, a0g_21, a0g_22, a0g_23, a0g_24, a0g_25, a0g_26, a0g_27, a0g_28, a0g_29, a0g_30, a0g_31, a0g_32, a0g_33, a0g_34, a0g_35, a0g_36, a0g_37, a0g_38, a0g_39]))] [] (fun _ => True))) (va_Qi (fun (r : Int32) (_ : Unit) => True) (fun (_ : Unit) (t : State) => ∃ na0_0 : Int32, ax_B dC dI (va_A [(a0, .inr (8, [Value.int a0_0, a0g_1, a0g_2, a0g_3, a0g_4, a0g_5, a0g_6, a0g_7, a0g_8, a0g_9, a0g_10, Value.int a0_11, a0g_12, a0g_13, a0g_14, a0g_15, a0g_16, a0g_17, a0g_18, a0g_19, a0g_20, a0g_21, a0g_22, a0g_23, a0g_24, a0g_25, a0g_26, a0g_27, a0g_28, a0g_29, a0g_30, a0g_31, a0g_32, a0g_33, a0g_34, a0g_35, a0g_36, a0g_37, a0g_38, a0g_39]))] sz) [(a0, .inr (8, [Value.int na0_0, a0g_1, a0g_2, a0g_3, a0g_4, a0g_5, a0g_6, a0g_7, a0g_8, a0g_9, a0g_10, Value.int a0_11, a0g_12, a0g_13, a0g_14, a0g_15, a0g_16, a0g_17, a0g_18, a0g_19, a0g_20, a0g_21, a0g_22, a0g_23, a0g_24, a0g_25, a0g_26, a0g_27, a0g_28, a0g_29, a0g_30, a0g_31, a0g_32, a0g_33, a0g_34, a0g_35, a0g_36, a0g_37, a0g_38, a0g_39]))] [] t) (va_A [(a0, .inr (8, [Value.int a0_0, a0g_1, a0g_2, a0g_3, a0g_4, a0g_5, a0g_6, a0g_7, a0g_8, a0g_9, a0g_10, Value.int a0_11, a0g_12, a0g_13, a0g_14, a0g_15, a0g_16, a0g_17, a0g_18, a0g_19, a0g_20, a0g_21, a0g_22, a0g_23, a0g_24, a0g_25, a0g_26, a0g_27, a0g_28, a0g_29, a0g_30, a0g_31, a0g_32, a0g_33, a0g_34, a0g_35, a0g_36, a0g_37, a0g_38, a0g_39]))] sz)) 0 0 (va_A [(a0, .inr (8, [Value.int a0_0, a0g_1, a0g_2, a0g_3, a0g_4, a0g_5, a0g_6, a0g_7, a0g_8, a0g_9, a0g_10, Value.int a0_11, a0g_12, a0g_13, a0g_14, a0g_15, a0g_16, a0g_17, a0g_18, a0g_19, a0g_20, a0g_21, a0g_22, a0g_23, a0g_24, a0g_25, a0g_26, a0g_27, a0g_28, a0g_29, a0g_30, a0g_31, a0g_32, a0g_33, a0g_34, a0g_35, a0g_36, a0g_37, a0g_38, a0g_39]))] sz) := by
  refine Met.ofW (cc := cX8_trouble) (maxL := 1) (ret := (some .int)) (by decide) rfl ?_
  intro p e s m args below meth c s₁ B hml hv
  obtain ⟨rfl, hsz, hP, hK, hD0, hE⟩ := hv
  have hx := B.exec
  have hb := B.bytes
  have hr := B.returns
  have hts := atoms_spec (ws := wsX8_trouble) B.pre
  have hown : s.vm.findClass RX8 = some m.cls := findClass_of_methodNamed B.named
  have hlocks := B.notSynchronized
  subst hsz
  have hD := hD0.self (sz := s.heap.size)
  generalize hAe : va_A [(a0, .inr (8, [Value.int a0_0, a0g_1, a0g_2, a0g_3, a0g_4, a0g_5, a0g_6, a0g_7, a0g_8, a0g_9, a0g_10, Value.int a0_11, a0g_12, a0g_13, a0g_14, a0g_15, a0g_16, a0g_17, a0g_18, a0g_19, a0g_20, a0g_21, a0g_22, a0g_23, a0g_24, a0g_25, a0g_26, a0g_27, a0g_28, a0g_29, a0g_30, a0g_31, a0g_32, a0g_33, a0g_34, a0g_35, a0g_36, a0g_37, a0g_38, a0g_39]))] s.heap.size = A at hD ⊢
  have hA : ∀ q : Nat, s.heap.size ≤ q → A q := fun q h => by rw [← hAe]; exact Or.inr h
  have hS : va_S A s.heap s.heap [] := va_S.rf
  have hP : va_P (dC, dI) vwCl [(a0, .inr (8, [Value.int a0_0, a0g_1, a0g_2, a0g_3, a0g_4, a0g_5, a0g_6, a0g_7, a0g_8, a0g_9, a0g_10, Value.int a0_11, a0g_12, a0g_13, a0g_14, a0g_15, a0g_16, a0g_17, a0g_18, a0g_19, a0g_20, a0g_21, a0g_22, a0g_23, a0g_24, a0g_25, a0g_26, a0g_27, a0g_28, a0g_29, a0g_30, a0g_31, a0g_32, a0g_33, a0g_34, a0g_35, a0g_36, a0g_37, a0g_38, a0g_39]))] s.heap := hP
  have hl := lv_entry ([.ref a0]) (n := 1) (Nat.le_of_ble_eq_true rfl)
  rw [lg_entry_eq]
  generalize (lg_sl ([.ref a0]) ++ List.replicate (1 - (lg_sl ([.ref a0])).length) Slot.unset).toArray = ls at hl ⊢
  have hl : lv_has ls 1 [(0, .ref a0)] := hl
  refine lv_aload_n hx hb dX8_trouble_0 rfl (lv_at hl 0 rfl) ?_
  refine lv_iconst (v := 0) hx hb dX8_trouble_1 zk_iconst_0 ?_
  refine va_put (D := (dC, dI)) (ci := 8) (v := .int 0) (ty := .int) (C := RX8) (T := TX8) (N := 40) hx hb hts zi_X8_trouble_8 tyX8 tyX8_ok nmX8 hown hK hP hD hS 0 rfl rfl 0 (by decide) (hts (.fieldLink RX8 59 "WaxTurnsModel" "thrown" "I") (List.mem_cons_of_mem _ (List.mem_append_left _ (List.mem_of_getElem? (i := 0) rfl)))) (fun _ h9 => h9) rfl (tyX8_ok 0 (by decide)) rfl rfl (Nat.le_of_ble_eq_true rfl) dX8_trouble_2 (fun H locs hP hD hS => ?_)
  obtain ⟨hP, hD⟩ := zc_re (w := [(a0, .inr (8, [Value.int 0, a0g_1, a0g_2, a0g_3, a0g_4, a0g_5, a0g_6, a0g_7, a0g_8, a0g_9, a0g_10, Value.int a0_11, a0g_12, a0g_13, a0g_14, a0g_15, a0g_16, a0g_17, a0g_18, a0g_19, a0g_20, a0g_21, a0g_22, a0g_23, a0g_24, a0g_25, a0g_26, a0g_27, a0g_28, a0g_29, a0g_30, a0g_31, a0g_32, a0g_33, a0g_34, a0g_35, a0g_36, a0g_37, a0g_38, a0g_39]))]) hP hD rfl
  refine lv_aload_n hx hb dX8_trouble_5 rfl (lv_at hl 0 rfl) ?_
  refine va_get (D := (dC, dI)) (ci := 8) (v := .int a0_11) (C := RX8) (T := TX8) (N := 40) hx hb hts zi_X8_trouble_8 hown hK hP 0 rfl rfl 11 (by decide) (hts (.fieldLink RX8 62 "WaxTurnsModel" "trouble" "I") (List.mem_cons_of_mem _ (List.mem_append_left _ (List.mem_of_getElem? (i := 1) rfl)))) (fun _ h9 => h9) rfl dX8_trouble_6 ?_
  exact W.iret (v := a0_11) hx hb hr (fun t ht hW => ⟨⟨a0_11, (), rfl, trivial, 0, by rw [ht]; exact hP, va_K.moved hW.alike hK, hD⟩, hS.F ht⟩) hS.2.2 dX8_trouble_9

set_option maxHeartbeats 4000000 in
set_option maxRecDepth 100000 in
theorem c_X8_fault (l : Launch) (dC : Nat → ClassId) (dI : Nat → Nat → Nat) (sz : Nat) (a0 : Nat) (a0_0 : Int32) (a0g_1 a0g_2 a0g_3 a0g_4 a0g_5 a0g_6 a0g_7 a0g_8 a0g_10 a0g_11 a0g_12 a0g_13 a0g_14 a0g_15 a0g_16 a0g_17 a0g_18 a0g_19 a0g_20 a0g_21 a0g_22 a0g_23 a0g_24 a0g_25 a0g_26 a0g_27 a0g_28 a0g_29 a0g_30 a0g_31 a0g_32 a0g_33 a0g_34 a0g_35 a0g_36 a0g_37 a0g_38 a0g_39 : Value) (a0_9 : Int32)  : Met l yX8_fault wsX8_fault ({ frames := 0, cells := 0, slots := 0, locals := 0 }) (va_Pc [.ref a0] (ax_C dC dI sz [(a0, .inr (8, [Value.int a0_0, a0g_1, a0g_2, a0g_3, a0g_4, a0g_5, a0g_6, a0g_7, a0g_8, Value.int a0_9, a0g_10, a0g_11, a0g_12, a0g_13, a0g_14, a0g_15, a0g_16, a0g_17, a0g_18, a0g_19, a0g_20, a0g_21, a0g_22, a0g_23, a0g_24, a0g_25, a0g_26, a0g_27, a0g_28, a0g_29, a0g_30, a0g_31, a0g_32, a0g_33, a0g_34, a0g_35, a0g_36, a0g_37, a0g_38, a0g_39]))] [] (fun _ => True))) (va_Qi (fun (r : Int32) (_ : Unit) => True) (fun (_ : Unit) (t : State) => ∃ na0_0 : Int32, ax_B dC dI (va_A [(a0, .inr (8, [Value.int a0_0, a0g_1, a0g_2, a0g_3, a0g_4, a0g_5, a0g_6, a0g_7, a0g_8, Value.int a0_9, a0g_10, a0g_11, a0g_12, a0g_13, a0g_14, a0g_15, a0g_16, a0g_17, a0g_18, a0g_19, a0g_20, a0g_21, a0g_22, a0g_23, a0g_24, a0g_25, a0g_26, a0g_27, a0g_28, a0g_29, a0g_30, a0g_31, a0g_32, a0g_33, a0g_34, a0g_35, a0g_36, a0g_37, a0g_38, a0g_39]))] sz) [(a0, .inr (8, [Value.int na0_0, a0g_1, a0g_2, a0g_3, a0g_4, a0g_5, a0g_6, a0g_7, a0g_8, Value.int a0_9, a0g_10, a0g_11, a0g_12, a0g_13, a0g_14, a0g_15, a0g_16, a0g_17, a0g_18, a0g_19, a0g_20, a0g_21, a0g_22, a0g_23, a0g_24, a0g_25, a0g_26, a0g_27, a0g_28, a0g_29, a0g_30, a0g_31, a0g_32, a0g_33, a0g_34, a0g_35, a0g_36, a0g_37, a0g_38, a0g_39]))] [] t) (va_A [(a0, .inr (8, [Value.int a0_0, a0g_1, a0g_2, a0g_3, a0g_4, a0g_5, a0g_6, a0g_7, a0g_8, Value.int a0_9, a0g_10, a0g_11, a0g_12, a0g_13, a0g_14, a0g_15, a0g_16, a0g_17, a0g_18, a0g_19, a0g_20, a0g_21, a0g_22, a0g_23, a0g_24, a0g_25, a0g_26, a0g_27, a0g_28, a0g_29, a0g_30, a0g_31, a0g_32, a0g_33, a0g_34, a0g_35, a0g_36, a0g_37, a0g_38, a0g_39]))] sz)) 0 0 (va_A [(a0, .inr (8, [Value.int a0_0, a0g_1, a0g_2, a0g_3, a0g_4, a0g_5, a0g_6, a0g_7, a0g_8, Value.int a0_9, a0g_10, a0g_11, a0g_12, a0g_13, a0g_14, a0g_15, a0g_16, a0g_17, a0g_18, a0g_19, a0g_20, a0g_21, a0g_22, a0g_23, a0g_24, a0g_25, a0g_26, a0g_27, a0g_28, a0g_29, a0g_30, a0g_31, a0g_32, a0g_33, a0g_34, a0g_35, a0g_36, a0g_37, a0g_38, a0g_39]))] sz) := by
  refine Met.ofW (cc := cX8_fault) (maxL := 1) (ret := (some .int)) (by decide) rfl ?_
  intro p e s m args below meth c s₁ B hml hv
  obtain ⟨rfl, hsz, hP, hK, hD0, hE⟩ := hv
  have hx := B.exec
  have hb := B.bytes
  have hr := B.returns
  have hts := atoms_spec (ws := wsX8_fault) B.pre
  have hown : s.vm.findClass RX8 = some m.cls := findClass_of_methodNamed B.named
  have hlocks := B.notSynchronized
  subst hsz
  have hD := hD0.self (sz := s.heap.size)
  generalize hAe : va_A [(a0, .inr (8, [Value.int a0_0, a0g_1, a0g_2, a0g_3, a0g_4, a0g_5, a0g_6, a0g_7, a0g_8, Value.int a0_9, a0g_10, a0g_11, a0g_12, a0g_13, a0g_14, a0g_15, a0g_16, a0g_17, a0g_18, a0g_19, a0g_20, a0g_21, a0g_22, a0g_23, a0g_24, a0g_25, a0g_26, a0g_27, a0g_28, a0g_29, a0g_30, a0g_31, a0g_32, a0g_33, a0g_34, a0g_35, a0g_36, a0g_37, a0g_38, a0g_39]))] s.heap.size = A at hD ⊢
  have hA : ∀ q : Nat, s.heap.size ≤ q → A q := fun q h => by rw [← hAe]; exact Or.inr h
  have hS : va_S A s.heap s.heap [] := va_S.rf
  have hP : va_P (dC, dI) vwCl [(a0, .inr (8, [Value.int a0_0, a0g_1, a0g_2, a0g_3, a0g_4, a0g_5, a0g_6, a0g_7, a0g_8, Value.int a0_9, a0g_10, a0g_11, a0g_12, a0g_13, a0g_14, a0g_15, a0g_16, a0g_17, a0g_18, a0g_19, a0g_20, a0g_21, a0g_22, a0g_23, a0g_24, a0g_25, a0g_26, a0g_27, a0g_28, a0g_29, a0g_30, a0g_31, a0g_32, a0g_33, a0g_34, a0g_35, a0g_36, a0g_37, a0g_38, a0g_39]))] s.heap := hP
  have hl := lv_entry ([.ref a0]) (n := 1) (Nat.le_of_ble_eq_true rfl)
  rw [lg_entry_eq]
  generalize (lg_sl ([.ref a0]) ++ List.replicate (1 - (lg_sl ([.ref a0])).length) Slot.unset).toArray = ls at hl ⊢
  have hl : lv_has ls 1 [(0, .ref a0)] := hl
  refine lv_aload_n hx hb dX8_fault_0 rfl (lv_at hl 0 rfl) ?_
  refine lv_iconst (v := 0) hx hb dX8_fault_1 zk_iconst_0 ?_
  refine va_put (D := (dC, dI)) (ci := 8) (v := .int 0) (ty := .int) (C := RX8) (T := TX8) (N := 40) hx hb hts zi_X8_fault_8 tyX8 tyX8_ok nmX8 hown hK hP hD hS 0 rfl rfl 0 (by decide) (hts (.fieldLink RX8 59 "WaxTurnsModel" "thrown" "I") (List.mem_cons_of_mem _ (List.mem_append_left _ (List.mem_of_getElem? (i := 0) rfl)))) (fun _ h9 => h9) rfl (tyX8_ok 0 (by decide)) rfl rfl (Nat.le_of_ble_eq_true rfl) dX8_fault_2 (fun H locs hP hD hS => ?_)
  obtain ⟨hP, hD⟩ := zc_re (w := [(a0, .inr (8, [Value.int 0, a0g_1, a0g_2, a0g_3, a0g_4, a0g_5, a0g_6, a0g_7, a0g_8, Value.int a0_9, a0g_10, a0g_11, a0g_12, a0g_13, a0g_14, a0g_15, a0g_16, a0g_17, a0g_18, a0g_19, a0g_20, a0g_21, a0g_22, a0g_23, a0g_24, a0g_25, a0g_26, a0g_27, a0g_28, a0g_29, a0g_30, a0g_31, a0g_32, a0g_33, a0g_34, a0g_35, a0g_36, a0g_37, a0g_38, a0g_39]))]) hP hD rfl
  refine lv_aload_n hx hb dX8_fault_5 rfl (lv_at hl 0 rfl) ?_
  refine va_get (D := (dC, dI)) (ci := 8) (v := .int a0_9) (C := RX8) (T := TX8) (N := 40) hx hb hts zi_X8_fault_8 hown hK hP 0 rfl rfl 9 (by decide) (hts (.fieldLink RX8 101 "WaxTurnsModel" "fault" "I") (List.mem_cons_of_mem _ (List.mem_append_left _ (List.mem_of_getElem? (i := 1) rfl)))) (fun _ h9 => h9) rfl dX8_fault_6 ?_
  exact W.iret (v := a0_9) hx hb hr (fun t ht hW => ⟨⟨a0_9, (), rfl, trivial, 0, by rw [ht]; exact hP, va_K.moved hW.alike hK, hD⟩, hS.F ht⟩) hS.2.2 dX8_fault_9

set_option maxHeartbeats 4000000 in
set_option maxRecDepth 100000 in
theorem c_X8_where (l : Launch) (dC : Nat → ClassId) (dI : Nat → Nat → Nat) (sz : Nat) (a0 : Nat) (a0_0 : Int32) (a0g_1 a0g_2 a0g_3 a0g_4 a0g_5 a0g_6 a0g_7 a0g_8 a0g_9 a0g_12 a0g_13 a0g_14 a0g_15 a0g_16 a0g_17 a0g_18 a0g_19 a0g_20 a0g_21 a0g_22 a0g_23 a0g_24 a0g_25 a0g_26 a0g_27 a0g_28 a0g_29 a0g_30 a0g_31 a0g_32 a0g_33 a0g_34 a0g_35 a0g_36 a0g_37 a0g_38 a0g_39 : Value) (a0_10 : Int32) (a0_11 : Int32)  : Met l yX8_where wsX8_where ({ frames := 0, cells := 0, slots := 0, locals := 0 }) (va_Pc [.ref a0] (ax_C dC dI sz [(a0, .inr (8, [Value.int a0_0, a0g_1, a0g_2, a0g_3, a0g_4, a0g_5, a0g_6, a0g_7, a0g_8, a0g_9, Value.int a0_10, Value.int a0_11, a0g_12, a0g_13, a0g_14, a0g_15, a0g_16, a0g_17, a0g_18, a0g_19, a0g_20, a0g_21, a0g_22, a0g_23, a0g_24, a0g_25, a0g_26, a0g_27, a0g_28, a0g_29, a0g_30, a0g_31, a0g_32, a0g_33, a0g_34, a0g_35, a0g_36, a0g_37, a0g_38, a0g_39]))] [] (fun _ => True))) (va_Qi (fun (r : Int32) (_ : Unit) => True) (fun (_ : Unit) (t : State) => ∃ na0_0 : Int32, ax_B dC dI (va_A [(a0, .inr (8, [Value.int a0_0, a0g_1, a0g_2, a0g_3, a0g_4, a0g_5, a0g_6, a0g_7, a0g_8, a0g_9, Value.int a0_10, Value.int a0_11, a0g_12, a0g_13, a0g_14, a0g_15, a0g_16, a0g_17, a0g_18, a0g_19, a0g_20, a0g_21, a0g_22, a0g_23, a0g_24, a0g_25, a0g_26, a0g_27, a0g_28, a0g_29, a0g_30, a0g_31, a0g_32, a0g_33, a0g_34, a0g_35, a0g_36, a0g_37, a0g_38, a0g_39]))] sz) [(a0, .inr (8, [Value.int na0_0, a0g_1, a0g_2, a0g_3, a0g_4, a0g_5, a0g_6, a0g_7, a0g_8, a0g_9, Value.int a0_10, Value.int a0_11, a0g_12, a0g_13, a0g_14, a0g_15, a0g_16, a0g_17, a0g_18, a0g_19, a0g_20, a0g_21, a0g_22, a0g_23, a0g_24, a0g_25, a0g_26, a0g_27, a0g_28, a0g_29, a0g_30, a0g_31, a0g_32, a0g_33, a0g_34, a0g_35, a0g_36, a0g_37, a0g_38, a0g_39]))] [] t) (va_A [(a0, .inr (8, [Value.int a0_0, a0g_1, a0g_2, a0g_3, a0g_4, a0g_5, a0g_6, a0g_7, a0g_8, a0g_9, Value.int a0_10, Value.int a0_11, a0g_12, a0g_13, a0g_14, a0g_15, a0g_16, a0g_17, a0g_18, a0g_19, a0g_20, a0g_21, a0g_22, a0g_23, a0g_24, a0g_25, a0g_26, a0g_27, a0g_28, a0g_29, a0g_30, a0g_31, a0g_32, a0g_33, a0g_34, a0g_35, a0g_36, a0g_37, a0g_38, a0g_39]))] sz)) 0 0 (va_A [(a0, .inr (8, [Value.int a0_0, a0g_1, a0g_2, a0g_3, a0g_4, a0g_5, a0g_6, a0g_7, a0g_8, a0g_9, Value.int a0_10, Value.int a0_11, a0g_12, a0g_13, a0g_14, a0g_15, a0g_16, a0g_17, a0g_18, a0g_19, a0g_20, a0g_21, a0g_22, a0g_23, a0g_24, a0g_25, a0g_26, a0g_27, a0g_28, a0g_29, a0g_30, a0g_31, a0g_32, a0g_33, a0g_34, a0g_35, a0g_36, a0g_37, a0g_38, a0g_39]))] sz) := by
  refine Met.ofW (cc := cX8_where) (maxL := 1) (ret := (some .int)) (by decide) rfl ?_
  intro p e s m args below meth c s₁ B hml hv
  obtain ⟨rfl, hsz, hP, hK, hD0, hE⟩ := hv
  have hx := B.exec
  have hb := B.bytes
  have hr := B.returns
  have hts := atoms_spec (ws := wsX8_where) B.pre
  have hown : s.vm.findClass RX8 = some m.cls := findClass_of_methodNamed B.named
  have hlocks := B.notSynchronized
  subst hsz
  have hD := hD0.self (sz := s.heap.size)
  generalize hAe : va_A [(a0, .inr (8, [Value.int a0_0, a0g_1, a0g_2, a0g_3, a0g_4, a0g_5, a0g_6, a0g_7, a0g_8, a0g_9, Value.int a0_10, Value.int a0_11, a0g_12, a0g_13, a0g_14, a0g_15, a0g_16, a0g_17, a0g_18, a0g_19, a0g_20, a0g_21, a0g_22, a0g_23, a0g_24, a0g_25, a0g_26, a0g_27, a0g_28, a0g_29, a0g_30, a0g_31, a0g_32, a0g_33, a0g_34, a0g_35, a0g_36, a0g_37, a0g_38, a0g_39]))] s.heap.size = A at hD ⊢
  have hA : ∀ q : Nat, s.heap.size ≤ q → A q := fun q h => by rw [← hAe]; exact Or.inr h
  have hS : va_S A s.heap s.heap [] := va_S.rf
  have hP : va_P (dC, dI) vwCl [(a0, .inr (8, [Value.int a0_0, a0g_1, a0g_2, a0g_3, a0g_4, a0g_5, a0g_6, a0g_7, a0g_8, a0g_9, Value.int a0_10, Value.int a0_11, a0g_12, a0g_13, a0g_14, a0g_15, a0g_16, a0g_17, a0g_18, a0g_19, a0g_20, a0g_21, a0g_22, a0g_23, a0g_24, a0g_25, a0g_26, a0g_27, a0g_28, a0g_29, a0g_30, a0g_31, a0g_32, a0g_33, a0g_34, a0g_35, a0g_36, a0g_37, a0g_38, a0g_39]))] s.heap := hP
  have hl := lv_entry ([.ref a0]) (n := 1) (Nat.le_of_ble_eq_true rfl)
  rw [lg_entry_eq]
  generalize (lg_sl ([.ref a0]) ++ List.replicate (1 - (lg_sl ([.ref a0])).length) Slot.unset).toArray = ls at hl ⊢
  have hl : lv_has ls 1 [(0, .ref a0)] := hl
  refine lv_aload_n hx hb dX8_where_0 rfl (lv_at hl 0 rfl) ?_
  refine lv_iconst (v := 0) hx hb dX8_where_1 zk_iconst_0 ?_
  refine va_put (D := (dC, dI)) (ci := 8) (v := .int 0) (ty := .int) (C := RX8) (T := TX8) (N := 40) hx hb hts zi_X8_where_8 tyX8 tyX8_ok nmX8 hown hK hP hD hS 0 rfl rfl 0 (by decide) (hts (.fieldLink RX8 59 "WaxTurnsModel" "thrown" "I") (List.mem_cons_of_mem _ (List.mem_append_left _ (List.mem_of_getElem? (i := 0) rfl)))) (fun _ h9 => h9) rfl (tyX8_ok 0 (by decide)) rfl rfl (Nat.le_of_ble_eq_true rfl) dX8_where_2 (fun H locs hP hD hS => ?_)
  obtain ⟨hP, hD⟩ := zc_re (w := [(a0, .inr (8, [Value.int 0, a0g_1, a0g_2, a0g_3, a0g_4, a0g_5, a0g_6, a0g_7, a0g_8, a0g_9, Value.int a0_10, Value.int a0_11, a0g_12, a0g_13, a0g_14, a0g_15, a0g_16, a0g_17, a0g_18, a0g_19, a0g_20, a0g_21, a0g_22, a0g_23, a0g_24, a0g_25, a0g_26, a0g_27, a0g_28, a0g_29, a0g_30, a0g_31, a0g_32, a0g_33, a0g_34, a0g_35, a0g_36, a0g_37, a0g_38, a0g_39]))]) hP hD rfl
  refine lv_aload_n hx hb dX8_where_5 rfl (lv_at hl 0 rfl) ?_
  refine va_get (D := (dC, dI)) (ci := 8) (v := .int a0_11) (C := RX8) (T := TX8) (N := 40) hx hb hts zi_X8_where_8 hown hK hP 0 rfl rfl 11 (by decide) (hts (.fieldLink RX8 62 "WaxTurnsModel" "trouble" "I") (List.mem_cons_of_mem _ (List.mem_append_left _ (List.mem_of_getElem? (i := 1) rfl)))) (fun _ h9 => h9) rfl dX8_where_6 ?_
  refine lv_iconst (v := 4) hx hb dX8_where_9 zk_iconst_4 ?_
  refine lv_icmp_ne (tgt := 20) hx hb dX8_where_10 (by decide) (fun c10 => ?_) (fun c10 => ?_)
  · have gc10 := ai_ne c10
    refine lv_iconst (v := (-1)) hx hb dX8_where_20 zk_iconst_n1 ?_
    exact W.iret (v := (-1)) hx hb hr (fun t ht hW => ⟨⟨(-1), (), rfl, trivial, 0, by rw [ht]; exact hP, va_K.moved hW.alike hK, hD⟩, hS.F ht⟩) hS.2.2 dX8_where_21
  · have gc10 := ai_eq c10
    have u10f_a0_11 : a0_11.toInt ≤ (4 : Int) := Int.le_trans (Int.le_of_eq gc10) zq67
    have l10f_a0_11 : (4 : Int) ≤ a0_11.toInt := Int.le_trans zq68 (Int.le_of_eq gc10.symm)
    refine lv_aload_n hx hb dX8_where_13 rfl (lv_at hl 0 rfl) ?_
    refine va_get (D := (dC, dI)) (ci := 8) (v := .int a0_10) (C := RX8) (T := TX8) (N := 40) hx hb hts zi_X8_where_8 hown hK hP 0 rfl rfl 10 (by decide) (hts (.fieldLink RX8 13 "WaxTurnsModel" "place" "I") (List.mem_cons_of_mem _ (List.mem_append_left _ (List.mem_of_getElem? (i := 2) rfl)))) (fun _ h9 => h9) rfl dX8_where_14 ?_
    refine lv_goto (tgt := 21) hx hb dX8_where_17 (by decide) ?_
    exact W.iret (v := a0_10) hx hb hr (fun t ht hW => ⟨⟨a0_10, (), rfl, trivial, 0, by rw [ht]; exact hP, va_K.moved hW.alike hK, hD⟩, hS.F ht⟩) hS.2.2 dX8_where_21

set_option maxHeartbeats 4000000 in
set_option maxRecDepth 100000 in
theorem c_X8_feed (l : Launch) (dC : Nat → ClassId) (dI : Nat → Nat → Nat) (sz : Nat) (a0 : Nat) (a1 : Int32) (a2 : Int32) (a3 : Int32) (a4 : Int32) (a5 : Int32) (a0_0 : Int32) (a0_1 : Nat) (a0_2 : Int32) (a0g_3 a0g_4 a0g_5 a0g_6 a0g_7 a0g_8 a0g_9 a0g_10 a0g_11 a0g_12 a0g_13 a0g_14 a0g_15 a0g_16 a0g_17 a0g_18 a0g_19 a0g_20 a0g_21 a0g_22 a0g_23 a0g_24 a0g_25 a0g_26 a0g_27 a0g_28 a0g_29 a0g_30 a0g_31 a0g_32 a0g_33 a0g_34 a0g_35 a0g_36 a0g_37 a0g_38 a0g_39 : Value) (ka0_1 : ClassId) (fa0_1 : Nat → Int32) (ba0_2_l : (0 : Int) ≤ a0_2.toInt) (ba0_2_u : a0_2.toInt ≤ (900 : Int)) : Met l yX8_feed wsX8_feed ({ frames := 0, cells := 0, slots := 0, locals := 0 }) (va_Pc [.ref a0, .int a1, .int a2, .int a3, .int a4, .int a5] (ax_C dC dI sz [(a0, .inr (8, [Value.int a0_0, Value.ref a0_1, Value.int a0_2, a0g_3, a0g_4, a0g_5, a0g_6, a0g_7, a0g_8, a0g_9, a0g_10, a0g_11, a0g_12, a0g_13, a0g_14, a0g_15, a0g_16, a0g_17, a0g_18, a0g_19, a0g_20, a0g_21, a0g_22, a0g_23, a0g_24, a0g_25, a0g_26, a0g_27, a0g_28, a0g_29, a0g_30, a0g_31, a0g_32, a0g_33, a0g_34, a0g_35, a0g_36, a0g_37, a0g_38, a0g_39])), (a0_1, .inl (ka0_1, 900, .inl (fa0_1)))] [(ka0_1, .int)] (fun _ => True))) (va_Qi (fun (r : Int32) (_ : Unit) => (r = (-1) ∧ (880 : Int) < a0_2.toInt) ∨ (r.toInt = a0_2.toInt + 20 ∧ a0_2.toInt ≤ (880 : Int))) (fun (_ : Unit) (t : State) => ∃ na0_0 : Int32, ∃ na0_2 : Int32, ∃ nfa0_1 : Nat → Int32, ((0 : Int) ≤ na0_2.toInt ∧ na0_2.toInt ≤ 900) ∧ ((a0_2.toInt ≤ (880 : Int) → na0_2.toInt = a0_2.toInt + 20) ∧ ((880 : Int) < a0_2.toInt → na0_2.toInt = a0_2.toInt)) ∧ ax_B dC dI (va_A [(a0, .inr (8, [Value.int a0_0, Value.ref a0_1, Value.int a0_2, a0g_3, a0g_4, a0g_5, a0g_6, a0g_7, a0g_8, a0g_9, a0g_10, a0g_11, a0g_12, a0g_13, a0g_14, a0g_15, a0g_16, a0g_17, a0g_18, a0g_19, a0g_20, a0g_21, a0g_22, a0g_23, a0g_24, a0g_25, a0g_26, a0g_27, a0g_28, a0g_29, a0g_30, a0g_31, a0g_32, a0g_33, a0g_34, a0g_35, a0g_36, a0g_37, a0g_38, a0g_39])), (a0_1, .inl (ka0_1, 900, .inl (fa0_1)))] sz) [(a0, .inr (8, [Value.int na0_0, Value.ref a0_1, Value.int na0_2, a0g_3, a0g_4, a0g_5, a0g_6, a0g_7, a0g_8, a0g_9, a0g_10, a0g_11, a0g_12, a0g_13, a0g_14, a0g_15, a0g_16, a0g_17, a0g_18, a0g_19, a0g_20, a0g_21, a0g_22, a0g_23, a0g_24, a0g_25, a0g_26, a0g_27, a0g_28, a0g_29, a0g_30, a0g_31, a0g_32, a0g_33, a0g_34, a0g_35, a0g_36, a0g_37, a0g_38, a0g_39])), (a0_1, .inl (ka0_1, 900, .inl (nfa0_1)))] [(ka0_1, .int)] t) (va_A [(a0, .inr (8, [Value.int a0_0, Value.ref a0_1, Value.int a0_2, a0g_3, a0g_4, a0g_5, a0g_6, a0g_7, a0g_8, a0g_9, a0g_10, a0g_11, a0g_12, a0g_13, a0g_14, a0g_15, a0g_16, a0g_17, a0g_18, a0g_19, a0g_20, a0g_21, a0g_22, a0g_23, a0g_24, a0g_25, a0g_26, a0g_27, a0g_28, a0g_29, a0g_30, a0g_31, a0g_32, a0g_33, a0g_34, a0g_35, a0g_36, a0g_37, a0g_38, a0g_39])), (a0_1, .inl (ka0_1, 900, .inl (fa0_1)))] sz)) 0 0 (va_A [(a0, .inr (8, [Value.int a0_0, Value.ref a0_1, Value.int a0_2, a0g_3, a0g_4, a0g_5, a0g_6, a0g_7, a0g_8, a0g_9, a0g_10, a0g_11, a0g_12, a0g_13, a0g_14, a0g_15, a0g_16, a0g_17, a0g_18, a0g_19, a0g_20, a0g_21, a0g_22, a0g_23, a0g_24, a0g_25, a0g_26, a0g_27, a0g_28, a0g_29, a0g_30, a0g_31, a0g_32, a0g_33, a0g_34, a0g_35, a0g_36, a0g_37, a0g_38, a0g_39])), (a0_1, .inl (ka0_1, 900, .inl (fa0_1)))] sz) := by
  refine Met.ofW (cc := cX8_feed) (maxL := 8) (ret := (some .int)) (by decide) rfl ?_
  intro p e s m args below meth c s₁ B hml hv
  obtain ⟨rfl, hsz, hP, hK, hD0, hE⟩ := hv
  have hx := B.exec
  have hb := B.bytes
  have hr := B.returns
  have hts := atoms_spec (ws := wsX8_feed) B.pre
  have hown : s.vm.findClass RX8 = some m.cls := findClass_of_methodNamed B.named
  have hlocks := B.notSynchronized
  subst hsz
  have hD := hD0.self (sz := s.heap.size)
  generalize hAe : va_A [(a0, .inr (8, [Value.int a0_0, Value.ref a0_1, Value.int a0_2, a0g_3, a0g_4, a0g_5, a0g_6, a0g_7, a0g_8, a0g_9, a0g_10, a0g_11, a0g_12, a0g_13, a0g_14, a0g_15, a0g_16, a0g_17, a0g_18, a0g_19, a0g_20, a0g_21, a0g_22, a0g_23, a0g_24, a0g_25, a0g_26, a0g_27, a0g_28, a0g_29, a0g_30, a0g_31, a0g_32, a0g_33, a0g_34, a0g_35, a0g_36, a0g_37, a0g_38, a0g_39])), (a0_1, .inl (ka0_1, 900, .inl (fa0_1)))] s.heap.size = A at hD ⊢
  have hA : ∀ q : Nat, s.heap.size ≤ q → A q := fun q h => by rw [← hAe]; exact Or.inr h
  have hS : va_S A s.heap s.heap [] := va_S.rf
  have hP : va_P (dC, dI) vwCl [(a0, .inr (8, [Value.int a0_0, Value.ref a0_1, Value.int a0_2, a0g_3, a0g_4, a0g_5, a0g_6, a0g_7, a0g_8, a0g_9, a0g_10, a0g_11, a0g_12, a0g_13, a0g_14, a0g_15, a0g_16, a0g_17, a0g_18, a0g_19, a0g_20, a0g_21, a0g_22, a0g_23, a0g_24, a0g_25, a0g_26, a0g_27, a0g_28, a0g_29, a0g_30, a0g_31, a0g_32, a0g_33, a0g_34, a0g_35, a0g_36, a0g_37, a0g_38, a0g_39])), (a0_1, .inl (ka0_1, 900, .inl (fa0_1)))] s.heap := hP
  have hl := lv_entry ([.ref a0, .int a1, .int a2, .int a3, .int a4, .int a5]) (n := 8) (Nat.le_of_ble_eq_true rfl)
  rw [lg_entry_eq]
  generalize (lg_sl ([.ref a0, .int a1, .int a2, .int a3, .int a4, .int a5]) ++ List.replicate (8 - (lg_sl ([.ref a0, .int a1, .int a2, .int a3, .int a4, .int a5])).length) Slot.unset).toArray = ls at hl ⊢
  have hl : lv_has ls 8 [(0, .ref a0), (1, .int a1), (2, .int a2), (3, .int a3), (4, .int a4), (5, .int a5)] := hl
  refine ai_open (fun K hK0 => ?_)
  refine (hK0 _ _ _).mpr ?_
  refine lv_aload_n hx hb dX8_feed_0 rfl (lv_at hl 0 rfl) ?_
  refine lv_iconst (v := 0) hx hb dX8_feed_1 zk_iconst_0 ?_
  refine va_put (D := (dC, dI)) (ci := 8) (v := .int 0) (ty := .int) (C := RX8) (T := TX8) (N := 40) hx hb hts zi_X8_feed_8 tyX8 tyX8_ok nmX8 hown hK hP hD hS 0 rfl rfl 0 (by decide) (hts (.fieldLink RX8 59 "WaxTurnsModel" "thrown" "I") (List.mem_cons_of_mem _ (List.mem_append_left _ (List.mem_of_getElem? (i := 0) rfl)))) (fun _ h9 => h9) rfl (tyX8_ok 0 (by decide)) rfl rfl (Nat.le_of_ble_eq_true rfl) dX8_feed_2 (fun H locs hP hD hS => ?_)
  obtain ⟨hP, hD⟩ := zc_re (w := [(a0, .inr (8, [Value.int 0, Value.ref a0_1, Value.int a0_2, a0g_3, a0g_4, a0g_5, a0g_6, a0g_7, a0g_8, a0g_9, a0g_10, a0g_11, a0g_12, a0g_13, a0g_14, a0g_15, a0g_16, a0g_17, a0g_18, a0g_19, a0g_20, a0g_21, a0g_22, a0g_23, a0g_24, a0g_25, a0g_26, a0g_27, a0g_28, a0g_29, a0g_30, a0g_31, a0g_32, a0g_33, a0g_34, a0g_35, a0g_36, a0g_37, a0g_38, a0g_39])), (a0_1, .inl (ka0_1, 900, .inl (fa0_1)))]) hP hD rfl
  refine lv_aload_n hx hb dX8_feed_5 rfl (lv_at hl 0 rfl) ?_
  refine va_get (D := (dC, dI)) (ci := 8) (v := .int a0_2) (C := RX8) (T := TX8) (N := 40) hx hb hts zi_X8_feed_8 hown hK hP 0 rfl rfl 2 (by decide) (hts (.fieldLink RX8 65 "WaxTurnsModel" "taped" "I") (List.mem_cons_of_mem _ (List.mem_append_left _ (List.mem_of_getElem? (i := 1) rfl)))) (fun _ h9 => h9) rfl dX8_feed_6 ?_
  refine lv_bipush (v := 20) hx hb dX8_feed_9 zk_bipush_20 ?_
  refine lv_iadd hx hb dX8_feed_11 ?_
  refine lv_topi (fun x11 ex11 => ?_)
  have qx11 : x11.toInt = a0_2.toInt + (20 : Int32).toInt := ai_add ex11 ⟨ba0_2_l, ba0_2_u⟩ ⟨zq153, zq154⟩ (by decide) (by decide)
  have bx11 : (20 : Int) ≤ x11.toInt ∧ x11.toInt ≤ 920 := ⟨by rw [qx11]; exact Int.add_le_add ba0_2_l zq153, by rw [qx11]; exact Int.add_le_add ba0_2_u zq154⟩
  have wx11 : x11.toInt = a0_2.toInt + 20 := qx11
  refine lv_sipush (v := 900) hx hb dX8_feed_12 zk_sipush_900 ?_
  refine lv_icmp_le (tgt := 20) hx hb dX8_feed_15 (by decide) (fun c15 => ?_) (fun c15 => ?_)
  · have gc15 := ai_le c15
    have u15t_x11 : x11.toInt ≤ (900 : Int) := Int.le_trans gc15 zq39
    have u15t_a0_2 : a0_2.toInt ≤ (880 : Int) := by have h1 := wx11; have h2 := u15t_x11; omega
    refine lv_iconst (v := 0) hx hb dX8_feed_20 zk_iconst_0 ?_
    refine lv_istore (lv' := [(6, .int 0), (0, .ref a0), (1, .int a1), (2, .int a2), (3, .int a3), (4, .int a4), (5, .int a5)]) hx hb dX8_feed_21 hl (by decide) rfl (fun ls hl => ?_)
    have J23 : ∀ (n : Nat) (j23l6 : Int32) (j23a0_2 : Int32) (j23a0_1_a : Nat → Int32) (H : Heap) (locs : List Loc) (ls : Array Slot), (21 : Int) - j23l6.toInt ≤ (n : Int) → (0 : Int) ≤ j23l6.toInt → j23l6.toInt ≤ (20 : Int) → (0 : Int) ≤ j23a0_2.toInt → j23a0_2.toInt ≤ (900 : Int) → (j23a0_2.toInt = a0_2.toInt + j23l6.toInt) → va_P (dC, dI) vwCl [(a0, .inr (8, [Value.int 0, Value.ref a0_1, Value.int j23a0_2, a0g_3, a0g_4, a0g_5, a0g_6, a0g_7, a0g_8, a0g_9, a0g_10, a0g_11, a0g_12, a0g_13, a0g_14, a0g_15, a0g_16, a0g_17, a0g_18, a0g_19, a0g_20, a0g_21, a0g_22, a0g_23, a0g_24, a0g_25, a0g_26, a0g_27, a0g_28, a0g_29, a0g_30, a0g_31, a0g_32, a0g_33, a0g_34, a0g_35, a0g_36, a0g_37, a0g_38, a0g_39])), (a0_1, .inl (ka0_1, 900, .inl (j23a0_1_a)))] H → va_D A [(a0, .inr (8, [Value.int 0, Value.ref a0_1, Value.int j23a0_2, a0g_3, a0g_4, a0g_5, a0g_6, a0g_7, a0g_8, a0g_9, a0g_10, a0g_11, a0g_12, a0g_13, a0g_14, a0g_15, a0g_16, a0g_17, a0g_18, a0g_19, a0g_20, a0g_21, a0g_22, a0g_23, a0g_24, a0g_25, a0g_26, a0g_27, a0g_28, a0g_29, a0g_30, a0g_31, a0g_32, a0g_33, a0g_34, a0g_35, a0g_36, a0g_37, a0g_38, a0g_39])), (a0_1, .inl (ka0_1, 900, .inl (j23a0_1_a)))] → va_S A s.heap H locs → lv_has ls 8 [(0, .ref a0), (1, .int a1), (2, .int a2), (3, .int a3), (4, .int a4), (5, .int a5), (6, .int j23l6)] → K H locs (F0 m 23 ls []) := by
      intro n
      induction n with
      | zero =>
        intro j23l6 j23a0_2 j23a0_1_a H locs ls hm bj23l6_l bj23l6_u bj23a0_2_l bj23a0_2_u fd23 hP hD hS hl
        have h8 := ai_min j23l6
        have h9 := ai_max j23l6
        exact absurd hm (by omega)
      | succ n ih23 =>
        intro j23l6 j23a0_2 j23a0_1_a H locs ls hm bj23l6_l bj23l6_u bj23a0_2_l bj23a0_2_u fd23 hP hD hS hl
        refine (hK0 _ _ _).mpr ?_
        have hm23 := hm
        refine lv_iload hx hb dX8_feed_23 (lv_at hl 6 rfl) ?_
        refine lv_bipush (v := 20) hx hb dX8_feed_25 zk_bipush_20 ?_
        refine lv_icmp_ge (tgt := 120) hx hb dX8_feed_27 (by decide) (fun c27 => ?_) (fun c27 => ?_)
        · have gc27 := ai_le c27
          have l27t_j23l6 : (20 : Int) ≤ j23l6.toInt := Int.le_trans zq153 gc27
          refine lv_aload_n hx hb dX8_feed_120 rfl (lv_at hl 0 rfl) ?_
          refine va_get (D := (dC, dI)) (ci := 8) (v := .int j23a0_2) (C := RX8) (T := TX8) (N := 40) hx hb hts zi_X8_feed_8 hown hK hP 0 rfl rfl 2 (by decide) (hts (.fieldLink RX8 65 "WaxTurnsModel" "taped" "I") (List.mem_cons_of_mem _ (List.mem_append_left _ (List.mem_of_getElem? (i := 1) rfl)))) (fun _ h9 => h9) rfl dX8_feed_121 ?_
          exact W.iret (v := j23a0_2) hx hb hr (fun t ht hW => ⟨⟨j23a0_2, (), rfl, (Or.inr ⟨by omega, by omega⟩), 0, j23a0_2, j23a0_1_a, ⟨bj23a0_2_l, bj23a0_2_u⟩, (by constructor <;> intro h9 <;> omega), by rw [ht]; exact hP, va_K.moved hW.alike hK, hD⟩, hS.F ht⟩) hS.2.2 dX8_feed_124
        · have gc27 := ai_nle c27
          have u27f_j23l6 : j23l6.toInt ≤ (19 : Int) := ai_lthi gc27 zq154
          refine lv_iload hx hb dX8_feed_30 (lv_at hl 6 rfl) ?_
          refine lv_iconst (v := 4) hx hb dX8_feed_32 zk_iconst_4 ?_
          refine lv_icmp_ge (tgt := 40) hx hb dX8_feed_33 (by decide) (fun c33 => ?_) (fun c33 => ?_)
          · have gc33 := ai_le c33
            have l33t_j23l6 : (4 : Int) ≤ j23l6.toInt := Int.le_trans zq68 gc33
            refine lv_iload hx hb dX8_feed_40 (lv_at hl 6 rfl) ?_
            refine lv_bipush (v := 8) hx hb dX8_feed_42 zk_bipush_8 ?_
            refine lv_icmp_ge (tgt := 51) hx hb dX8_feed_44 (by decide) (fun c44 => ?_) (fun c44 => ?_)
            · have gc44 := ai_le c44
              have l44t_j23l6 : (8 : Int) ≤ j23l6.toInt := Int.le_trans zq116 gc44
              refine lv_iload hx hb dX8_feed_51 (lv_at hl 6 rfl) ?_
              refine lv_bipush (v := 12) hx hb dX8_feed_53 zk_bipush_12 ?_
              refine lv_icmp_ge (tgt := 62) hx hb dX8_feed_55 (by decide) (fun c55 => ?_) (fun c55 => ?_)
              · have gc55 := ai_le c55
                have l55t_j23l6 : (12 : Int) ≤ j23l6.toInt := Int.le_trans zq119 gc55
                refine lv_iload hx hb dX8_feed_62 (lv_at hl 6 rfl) ?_
                refine lv_bipush (v := 16) hx hb dX8_feed_64 zk_bipush_16 ?_
                refine lv_icmp_ge (tgt := 74) hx hb dX8_feed_66 (by decide) (fun c66 => ?_) (fun c66 => ?_)
                · have gc66 := ai_le c66
                  have l66t_j23l6 : (16 : Int) ≤ j23l6.toInt := Int.le_trans zq110 gc66
                  refine lv_iload hx hb dX8_feed_74 (lv_at hl 5 rfl) ?_
                  refine lv_istore (lv' := [(7, .int a5), (0, .ref a0), (1, .int a1), (2, .int a2), (3, .int a3), (4, .int a4), (5, .int a5), (6, .int j23l6)]) hx hb dX8_feed_76 hl (by decide) rfl (fun ls hl => ?_)
                  refine lv_aload_n hx hb dX8_feed_78 rfl (lv_at hl 1 rfl) ?_
                  refine va_get (D := (dC, dI)) (ci := 8) (v := .ref a0_1) (C := RX8) (T := TX8) (N := 40) hx hb hts zi_X8_feed_8 hown hK hP 0 rfl rfl 1 (by decide) (hts (.fieldLink RX8 7 "WaxTurnsModel" "tape" "[I") (List.mem_cons_of_mem _ (List.mem_append_left _ (List.mem_of_getElem? (i := 2) rfl)))) (fun _ h9 => h9) rfl dX8_feed_79 ?_
                  refine lv_aload_n hx hb dX8_feed_82 rfl (lv_at hl 1 rfl) ?_
                  refine va_get (D := (dC, dI)) (ci := 8) (v := .int j23a0_2) (C := RX8) (T := TX8) (N := 40) hx hb hts zi_X8_feed_8 hown hK hP 0 rfl rfl 2 (by decide) (hts (.fieldLink RX8 65 "WaxTurnsModel" "taped" "I") (List.mem_cons_of_mem _ (List.mem_append_left _ (List.mem_of_getElem? (i := 1) rfl)))) (fun _ h9 => h9) rfl dX8_feed_83 ?_
                  have u83z_j23a0_2 : j23a0_2.toInt ≤ (899 : Int) := by omega
                  refine lv_iload hx hb dX8_feed_86 (lv_at hl 0 rfl) ?_
                  refine lv_bipush (v := 24) hx hb dX8_feed_88 zk_bipush_24 ?_
                  refine lv_bipush (v := 8) hx hb dX8_feed_90 zk_bipush_8 ?_
                  refine lv_iload hx hb dX8_feed_92 (lv_at hl 7 rfl) ?_
                  refine lv_iconst (v := 4) hx hb dX8_feed_94 zk_iconst_4 ?_
                  refine lv_irem hx hb dX8_feed_95 (by decide +kernel) ?_
                  refine lv_topi (fun x95 ex95 => ?_)
                  have qx95 := ai_rem2 ex95 (Int.le_trans zq218 l66t_j23l6) (Int.lt_of_lt_of_le zq178 zq68) zq67
                  have wx95 : x95.toInt = j23l6.toInt % 4 := qx95.1
                  refine lv_imul hx hb dX8_feed_96 ?_
                  refine lv_topi (fun x96 ex96 => ?_)
                  have qx96 : x96.toInt = (8 : Int32).toInt * x95.toInt ∧ (0 : Int) ≤ x96.toInt ∧ x96.toInt ≤ 24 := ai_mul ex96 ⟨zq116, zq28⟩ ⟨qx95.2.1, qx95.2.2⟩ (by decide) (by decide) zq219
                  have wx96 : x96.toInt = 8 * x95.toInt := qx96.1
                  refine lv_isub hx hb dX8_feed_97 ?_
                  refine lv_topi (fun x97 ex97 => ?_)
                  have qx97 : x97.toInt = (24 : Int32).toInt - x96.toInt := ai_sub ex97 ⟨zq132, zq133⟩ ⟨qx96.2.1, qx96.2.2⟩ (by decide) (by decide)
                  have bx97 : (0 : Int) ≤ x97.toInt ∧ x97.toInt ≤ 24 := ⟨by rw [qx97]; exact Int.sub_le_sub zq132 qx96.2.2, by rw [qx97]; exact Int.sub_le_sub zq133 qx96.2.1⟩
                  refine lv_ishr hx hb dX8_feed_98 ?_
                  refine lv_topi (fun x98 ex98 => ?_)
                  refine lv_sipush (v := 255) hx hb dX8_feed_99 zk_sipush_255 ?_
                  refine lv_iand hx hb dX8_feed_102 ?_
                  refine lv_topi (fun x102 ex102 => ?_)
                  refine va_iast hx hb hK hP hD hS 1 0 rfl rfl (ai_in bj23a0_2_l u83z_j23a0_2 (by decide) (by decide)) dX8_feed_103 (fun H locs hP hD hS => ?_)
                  obtain ⟨f103, ef103⟩ : ∃ g9 : Nat → Int32, g9 = upd j23a0_1_a (j23a0_2 : Int32).toNatClampNeg x102 := ⟨_, rfl⟩
                  rw [← ef103] at hP hD
                  obtain ⟨hP, hD⟩ := zc_re (w := [(a0, .inr (8, [Value.int 0, Value.ref a0_1, Value.int j23a0_2, a0g_3, a0g_4, a0g_5, a0g_6, a0g_7, a0g_8, a0g_9, a0g_10, a0g_11, a0g_12, a0g_13, a0g_14, a0g_15, a0g_16, a0g_17, a0g_18, a0g_19, a0g_20, a0g_21, a0g_22, a0g_23, a0g_24, a0g_25, a0g_26, a0g_27, a0g_28, a0g_29, a0g_30, a0g_31, a0g_32, a0g_33, a0g_34, a0g_35, a0g_36, a0g_37, a0g_38, a0g_39])), (a0_1, .inl (ka0_1, 900, .inl (f103)))]) hP hD rfl
                  refine lv_aload_n hx hb dX8_feed_104 rfl (lv_at hl 1 rfl) ?_
                  refine lv_dup hx hb dX8_feed_105 rfl ?_
                  refine va_get (D := (dC, dI)) (ci := 8) (v := .int j23a0_2) (C := RX8) (T := TX8) (N := 40) hx hb hts zi_X8_feed_8 hown hK hP 0 rfl rfl 2 (by decide) (hts (.fieldLink RX8 65 "WaxTurnsModel" "taped" "I") (List.mem_cons_of_mem _ (List.mem_append_left _ (List.mem_of_getElem? (i := 1) rfl)))) (fun _ h9 => h9) rfl dX8_feed_106 ?_
                  refine lv_iconst (v := 1) hx hb dX8_feed_109 zk_iconst_1 ?_
                  refine lv_iadd hx hb dX8_feed_110 ?_
                  refine lv_topi (fun x110 ex110 => ?_)
                  have qx110 : x110.toInt = j23a0_2.toInt + (1 : Int32).toInt := ai_add ex110 ⟨bj23a0_2_l, u83z_j23a0_2⟩ ⟨zq1, zq0⟩ (by decide) (by decide)
                  have bx110 : (1 : Int) ≤ x110.toInt ∧ x110.toInt ≤ 900 := ⟨by rw [qx110]; exact Int.add_le_add bj23a0_2_l zq1, by rw [qx110]; exact Int.add_le_add u83z_j23a0_2 zq0⟩
                  have wx110 : x110.toInt = j23a0_2.toInt + 1 := qx110
                  refine va_put (D := (dC, dI)) (ci := 8) (v := .int x110) (ty := .int) (C := RX8) (T := TX8) (N := 40) hx hb hts zi_X8_feed_8 tyX8 tyX8_ok nmX8 hown hK hP hD hS 0 rfl rfl 2 (by decide) (hts (.fieldLink RX8 65 "WaxTurnsModel" "taped" "I") (List.mem_cons_of_mem _ (List.mem_append_left _ (List.mem_of_getElem? (i := 1) rfl)))) (fun _ h9 => h9) rfl (tyX8_ok 2 (by decide)) rfl rfl (Nat.le_of_ble_eq_true rfl) dX8_feed_111 (fun H locs hP hD hS => ?_)
                  obtain ⟨hP, hD⟩ := zc_re (w := [(a0, .inr (8, [Value.int 0, Value.ref a0_1, Value.int x110, a0g_3, a0g_4, a0g_5, a0g_6, a0g_7, a0g_8, a0g_9, a0g_10, a0g_11, a0g_12, a0g_13, a0g_14, a0g_15, a0g_16, a0g_17, a0g_18, a0g_19, a0g_20, a0g_21, a0g_22, a0g_23, a0g_24, a0g_25, a0g_26, a0g_27, a0g_28, a0g_29, a0g_30, a0g_31, a0g_32, a0g_33, a0g_34, a0g_35, a0g_36, a0g_37, a0g_38, a0g_39])), (a0_1, .inl (ka0_1, 900, .inl (f103)))]) hP hD rfl
                  obtain ⟨x114, ex114⟩ : ∃ y : Int32, y = j23l6 + Int32.ofInt 1 := ⟨_, rfl⟩
                  have qx114 : x114.toInt = j23l6.toInt + 1 := ai_inc ex114 (by decide) (by decide) u27f_j23l6 (by decide)
                  have bx114 : (17 : Int) ≤ x114.toInt ∧ x114.toInt ≤ 20 := ⟨by rw [qx114]; exact Int.add_le_add l66t_j23l6 (Int.le_refl _), by rw [qx114]; exact Int.add_le_add u27f_j23l6 (Int.le_refl _)⟩
                  refine lv_iinc (v := x114) (lv' := [(6, .int x114), (7, .int a5), (0, .ref a0), (1, .int a1), (2, .int a2), (3, .int a3), (4, .int a4), (5, .int a5)]) hx hb dX8_feed_114 hl (k := 7) rfl ex114.symm (by decide) rfl (fun ls hl => ?_)
                  refine lv_goto (tgt := 23) hx hb dX8_feed_117 (by decide) ?_
                  exact (hK0 _ _ _).mp (ih23 x114 x110 f103 _ _ _ (by have h0 := qx114; omega) (Int.le_trans zq220 bx114.1) bx114.2 (Int.le_trans zq4 bx110.1) bx110.2 (by omega) hP hD hS (lv_sub hl [2, 3, 4, 5, 6, 7, 0] rfl))
                · have gc66 := ai_nle c66
                  have u66f_j23l6 : j23l6.toInt ≤ (15 : Int) := ai_lthi gc66 zq111
                  refine lv_iload hx hb dX8_feed_69 (lv_at hl 4 rfl) ?_
                  refine lv_goto (tgt := 76) hx hb dX8_feed_71 (by decide) ?_
                  refine lv_istore (lv' := [(7, .int a4), (0, .ref a0), (1, .int a1), (2, .int a2), (3, .int a3), (4, .int a4), (5, .int a5), (6, .int j23l6)]) hx hb dX8_feed_76 hl (by decide) rfl (fun ls hl => ?_)
                  refine lv_aload_n hx hb dX8_feed_78 rfl (lv_at hl 1 rfl) ?_
                  refine va_get (D := (dC, dI)) (ci := 8) (v := .ref a0_1) (C := RX8) (T := TX8) (N := 40) hx hb hts zi_X8_feed_8 hown hK hP 0 rfl rfl 1 (by decide) (hts (.fieldLink RX8 7 "WaxTurnsModel" "tape" "[I") (List.mem_cons_of_mem _ (List.mem_append_left _ (List.mem_of_getElem? (i := 2) rfl)))) (fun _ h9 => h9) rfl dX8_feed_79 ?_
                  refine lv_aload_n hx hb dX8_feed_82 rfl (lv_at hl 1 rfl) ?_
                  refine va_get (D := (dC, dI)) (ci := 8) (v := .int j23a0_2) (C := RX8) (T := TX8) (N := 40) hx hb hts zi_X8_feed_8 hown hK hP 0 rfl rfl 2 (by decide) (hts (.fieldLink RX8 65 "WaxTurnsModel" "taped" "I") (List.mem_cons_of_mem _ (List.mem_append_left _ (List.mem_of_getElem? (i := 1) rfl)))) (fun _ h9 => h9) rfl dX8_feed_83 ?_
                  have u83z_j23a0_2 : j23a0_2.toInt ≤ (899 : Int) := by omega
                  refine lv_iload hx hb dX8_feed_86 (lv_at hl 0 rfl) ?_
                  refine lv_bipush (v := 24) hx hb dX8_feed_88 zk_bipush_24 ?_
                  refine lv_bipush (v := 8) hx hb dX8_feed_90 zk_bipush_8 ?_
                  refine lv_iload hx hb dX8_feed_92 (lv_at hl 7 rfl) ?_
                  refine lv_iconst (v := 4) hx hb dX8_feed_94 zk_iconst_4 ?_
                  refine lv_irem hx hb dX8_feed_95 (by decide +kernel) ?_
                  refine lv_topi (fun x95 ex95 => ?_)
                  have qx95 := ai_rem2 ex95 (Int.le_trans zq169 l55t_j23l6) (Int.lt_of_lt_of_le zq178 zq68) zq67
                  have wx95 : x95.toInt = j23l6.toInt % 4 := qx95.1
                  refine lv_imul hx hb dX8_feed_96 ?_
                  refine lv_topi (fun x96 ex96 => ?_)
                  have qx96 : x96.toInt = (8 : Int32).toInt * x95.toInt ∧ (0 : Int) ≤ x96.toInt ∧ x96.toInt ≤ 24 := ai_mul ex96 ⟨zq116, zq28⟩ ⟨qx95.2.1, qx95.2.2⟩ (by decide) (by decide) zq219
                  have wx96 : x96.toInt = 8 * x95.toInt := qx96.1
                  refine lv_isub hx hb dX8_feed_97 ?_
                  refine lv_topi (fun x97 ex97 => ?_)
                  have qx97 : x97.toInt = (24 : Int32).toInt - x96.toInt := ai_sub ex97 ⟨zq132, zq133⟩ ⟨qx96.2.1, qx96.2.2⟩ (by decide) (by decide)
                  have bx97 : (0 : Int) ≤ x97.toInt ∧ x97.toInt ≤ 24 := ⟨by rw [qx97]; exact Int.sub_le_sub zq132 qx96.2.2, by rw [qx97]; exact Int.sub_le_sub zq133 qx96.2.1⟩
                  refine lv_ishr hx hb dX8_feed_98 ?_
                  refine lv_topi (fun x98 ex98 => ?_)
                  refine lv_sipush (v := 255) hx hb dX8_feed_99 zk_sipush_255 ?_
                  refine lv_iand hx hb dX8_feed_102 ?_
                  refine lv_topi (fun x102 ex102 => ?_)
                  refine va_iast hx hb hK hP hD hS 1 0 rfl rfl (ai_in bj23a0_2_l u83z_j23a0_2 (by decide) (by decide)) dX8_feed_103 (fun H locs hP hD hS => ?_)
                  obtain ⟨f103, ef103⟩ : ∃ g9 : Nat → Int32, g9 = upd j23a0_1_a (j23a0_2 : Int32).toNatClampNeg x102 := ⟨_, rfl⟩
                  rw [← ef103] at hP hD
                  obtain ⟨hP, hD⟩ := zc_re (w := [(a0, .inr (8, [Value.int 0, Value.ref a0_1, Value.int j23a0_2, a0g_3, a0g_4, a0g_5, a0g_6, a0g_7, a0g_8, a0g_9, a0g_10, a0g_11, a0g_12, a0g_13, a0g_14, a0g_15, a0g_16, a0g_17, a0g_18, a0g_19, a0g_20, a0g_21, a0g_22, a0g_23, a0g_24, a0g_25, a0g_26, a0g_27, a0g_28, a0g_29, a0g_30, a0g_31, a0g_32, a0g_33, a0g_34, a0g_35, a0g_36, a0g_37, a0g_38, a0g_39])), (a0_1, .inl (ka0_1, 900, .inl (f103)))]) hP hD rfl
                  refine lv_aload_n hx hb dX8_feed_104 rfl (lv_at hl 1 rfl) ?_
                  refine lv_dup hx hb dX8_feed_105 rfl ?_
                  refine va_get (D := (dC, dI)) (ci := 8) (v := .int j23a0_2) (C := RX8) (T := TX8) (N := 40) hx hb hts zi_X8_feed_8 hown hK hP 0 rfl rfl 2 (by decide) (hts (.fieldLink RX8 65 "WaxTurnsModel" "taped" "I") (List.mem_cons_of_mem _ (List.mem_append_left _ (List.mem_of_getElem? (i := 1) rfl)))) (fun _ h9 => h9) rfl dX8_feed_106 ?_
                  refine lv_iconst (v := 1) hx hb dX8_feed_109 zk_iconst_1 ?_
                  refine lv_iadd hx hb dX8_feed_110 ?_
                  refine lv_topi (fun x110 ex110 => ?_)
                  have qx110 : x110.toInt = j23a0_2.toInt + (1 : Int32).toInt := ai_add ex110 ⟨bj23a0_2_l, u83z_j23a0_2⟩ ⟨zq1, zq0⟩ (by decide) (by decide)
                  have bx110 : (1 : Int) ≤ x110.toInt ∧ x110.toInt ≤ 900 := ⟨by rw [qx110]; exact Int.add_le_add bj23a0_2_l zq1, by rw [qx110]; exact Int.add_le_add u83z_j23a0_2 zq0⟩
                  have wx110 : x110.toInt = j23a0_2.toInt + 1 := qx110
                  refine va_put (D := (dC, dI)) (ci := 8) (v := .int x110) (ty := .int) (C := RX8) (T := TX8) (N := 40) hx hb hts zi_X8_feed_8 tyX8 tyX8_ok nmX8 hown hK hP hD hS 0 rfl rfl 2 (by decide) (hts (.fieldLink RX8 65 "WaxTurnsModel" "taped" "I") (List.mem_cons_of_mem _ (List.mem_append_left _ (List.mem_of_getElem? (i := 1) rfl)))) (fun _ h9 => h9) rfl (tyX8_ok 2 (by decide)) rfl rfl (Nat.le_of_ble_eq_true rfl) dX8_feed_111 (fun H locs hP hD hS => ?_)
                  obtain ⟨hP, hD⟩ := zc_re (w := [(a0, .inr (8, [Value.int 0, Value.ref a0_1, Value.int x110, a0g_3, a0g_4, a0g_5, a0g_6, a0g_7, a0g_8, a0g_9, a0g_10, a0g_11, a0g_12, a0g_13, a0g_14, a0g_15, a0g_16, a0g_17, a0g_18, a0g_19, a0g_20, a0g_21, a0g_22, a0g_23, a0g_24, a0g_25, a0g_26, a0g_27, a0g_28, a0g_29, a0g_30, a0g_31, a0g_32, a0g_33, a0g_34, a0g_35, a0g_36, a0g_37, a0g_38, a0g_39])), (a0_1, .inl (ka0_1, 900, .inl (f103)))]) hP hD rfl
                  obtain ⟨x114, ex114⟩ : ∃ y : Int32, y = j23l6 + Int32.ofInt 1 := ⟨_, rfl⟩
                  have qx114 : x114.toInt = j23l6.toInt + 1 := ai_inc ex114 (by decide) (by decide) u66f_j23l6 (by decide)
                  have bx114 : (13 : Int) ≤ x114.toInt ∧ x114.toInt ≤ 16 := ⟨by rw [qx114]; exact Int.add_le_add l55t_j23l6 (Int.le_refl _), by rw [qx114]; exact Int.add_le_add u66f_j23l6 (Int.le_refl _)⟩
                  refine lv_iinc (v := x114) (lv' := [(6, .int x114), (7, .int a4), (0, .ref a0), (1, .int a1), (2, .int a2), (3, .int a3), (4, .int a4), (5, .int a5)]) hx hb dX8_feed_114 hl (k := 7) rfl ex114.symm (by decide) rfl (fun ls hl => ?_)
                  refine lv_goto (tgt := 23) hx hb dX8_feed_117 (by decide) ?_
                  exact (hK0 _ _ _).mp (ih23 x114 x110 f103 _ _ _ (by have h0 := qx114; omega) (Int.le_trans zq221 bx114.1) (Int.le_trans bx114.2 zq222) (Int.le_trans zq4 bx110.1) bx110.2 (by omega) hP hD hS (lv_sub hl [2, 3, 4, 5, 6, 7, 0] rfl))
              · have gc55 := ai_nle c55
                have u55f_j23l6 : j23l6.toInt ≤ (11 : Int) := ai_lthi gc55 zq120
                refine lv_iload_n hx hb dX8_feed_58 rfl (lv_at hl 3 rfl) ?_
                refine lv_goto (tgt := 76) hx hb dX8_feed_59 (by decide) ?_
                refine lv_istore (lv' := [(7, .int a3), (0, .ref a0), (1, .int a1), (2, .int a2), (3, .int a3), (4, .int a4), (5, .int a5), (6, .int j23l6)]) hx hb dX8_feed_76 hl (by decide) rfl (fun ls hl => ?_)
                refine lv_aload_n hx hb dX8_feed_78 rfl (lv_at hl 1 rfl) ?_
                refine va_get (D := (dC, dI)) (ci := 8) (v := .ref a0_1) (C := RX8) (T := TX8) (N := 40) hx hb hts zi_X8_feed_8 hown hK hP 0 rfl rfl 1 (by decide) (hts (.fieldLink RX8 7 "WaxTurnsModel" "tape" "[I") (List.mem_cons_of_mem _ (List.mem_append_left _ (List.mem_of_getElem? (i := 2) rfl)))) (fun _ h9 => h9) rfl dX8_feed_79 ?_
                refine lv_aload_n hx hb dX8_feed_82 rfl (lv_at hl 1 rfl) ?_
                refine va_get (D := (dC, dI)) (ci := 8) (v := .int j23a0_2) (C := RX8) (T := TX8) (N := 40) hx hb hts zi_X8_feed_8 hown hK hP 0 rfl rfl 2 (by decide) (hts (.fieldLink RX8 65 "WaxTurnsModel" "taped" "I") (List.mem_cons_of_mem _ (List.mem_append_left _ (List.mem_of_getElem? (i := 1) rfl)))) (fun _ h9 => h9) rfl dX8_feed_83 ?_
                have u83z_j23a0_2 : j23a0_2.toInt ≤ (899 : Int) := by omega
                refine lv_iload hx hb dX8_feed_86 (lv_at hl 0 rfl) ?_
                refine lv_bipush (v := 24) hx hb dX8_feed_88 zk_bipush_24 ?_
                refine lv_bipush (v := 8) hx hb dX8_feed_90 zk_bipush_8 ?_
                refine lv_iload hx hb dX8_feed_92 (lv_at hl 7 rfl) ?_
                refine lv_iconst (v := 4) hx hb dX8_feed_94 zk_iconst_4 ?_
                refine lv_irem hx hb dX8_feed_95 (by decide +kernel) ?_
                refine lv_topi (fun x95 ex95 => ?_)
                have qx95 := ai_rem2 ex95 (Int.le_trans zq20 l44t_j23l6) (Int.lt_of_lt_of_le zq178 zq68) zq67
                have wx95 : x95.toInt = j23l6.toInt % 4 := qx95.1
                refine lv_imul hx hb dX8_feed_96 ?_
                refine lv_topi (fun x96 ex96 => ?_)
                have qx96 : x96.toInt = (8 : Int32).toInt * x95.toInt ∧ (0 : Int) ≤ x96.toInt ∧ x96.toInt ≤ 24 := ai_mul ex96 ⟨zq116, zq28⟩ ⟨qx95.2.1, qx95.2.2⟩ (by decide) (by decide) zq219
                have wx96 : x96.toInt = 8 * x95.toInt := qx96.1
                refine lv_isub hx hb dX8_feed_97 ?_
                refine lv_topi (fun x97 ex97 => ?_)
                have qx97 : x97.toInt = (24 : Int32).toInt - x96.toInt := ai_sub ex97 ⟨zq132, zq133⟩ ⟨qx96.2.1, qx96.2.2⟩ (by decide) (by decide)
                have bx97 : (0 : Int) ≤ x97.toInt ∧ x97.toInt ≤ 24 := ⟨by rw [qx97]; exact Int.sub_le_sub zq132 qx96.2.2, by rw [qx97]; exact Int.sub_le_sub zq133 qx96.2.1⟩
                refine lv_ishr hx hb dX8_feed_98 ?_
                refine lv_topi (fun x98 ex98 => ?_)
                refine lv_sipush (v := 255) hx hb dX8_feed_99 zk_sipush_255 ?_
                refine lv_iand hx hb dX8_feed_102 ?_
                refine lv_topi (fun x102 ex102 => ?_)
                refine va_iast hx hb hK hP hD hS 1 0 rfl rfl (ai_in bj23a0_2_l u83z_j23a0_2 (by decide) (by decide)) dX8_feed_103 (fun H locs hP hD hS => ?_)
                obtain ⟨f103, ef103⟩ : ∃ g9 : Nat → Int32, g9 = upd j23a0_1_a (j23a0_2 : Int32).toNatClampNeg x102 := ⟨_, rfl⟩
                rw [← ef103] at hP hD
                obtain ⟨hP, hD⟩ := zc_re (w := [(a0, .inr (8, [Value.int 0, Value.ref a0_1, Value.int j23a0_2, a0g_3, a0g_4, a0g_5, a0g_6, a0g_7, a0g_8, a0g_9, a0g_10, a0g_11, a0g_12, a0g_13, a0g_14, a0g_15, a0g_16, a0g_17, a0g_18, a0g_19, a0g_20, a0g_21, a0g_22, a0g_23, a0g_24, a0g_25, a0g_26, a0g_27, a0g_28, a0g_29, a0g_30, a0g_31, a0g_32, a0g_33, a0g_34, a0g_35, a0g_36, a0g_37, a0g_38, a0g_39])), (a0_1, .inl (ka0_1, 900, .inl (f103)))]) hP hD rfl
                refine lv_aload_n hx hb dX8_feed_104 rfl (lv_at hl 1 rfl) ?_
                refine lv_dup hx hb dX8_feed_105 rfl ?_
                refine va_get (D := (dC, dI)) (ci := 8) (v := .int j23a0_2) (C := RX8) (T := TX8) (N := 40) hx hb hts zi_X8_feed_8 hown hK hP 0 rfl rfl 2 (by decide) (hts (.fieldLink RX8 65 "WaxTurnsModel" "taped" "I") (List.mem_cons_of_mem _ (List.mem_append_left _ (List.mem_of_getElem? (i := 1) rfl)))) (fun _ h9 => h9) rfl dX8_feed_106 ?_
                refine lv_iconst (v := 1) hx hb dX8_feed_109 zk_iconst_1 ?_
                refine lv_iadd hx hb dX8_feed_110 ?_
                refine lv_topi (fun x110 ex110 => ?_)
                have qx110 : x110.toInt = j23a0_2.toInt + (1 : Int32).toInt := ai_add ex110 ⟨bj23a0_2_l, u83z_j23a0_2⟩ ⟨zq1, zq0⟩ (by decide) (by decide)
                have bx110 : (1 : Int) ≤ x110.toInt ∧ x110.toInt ≤ 900 := ⟨by rw [qx110]; exact Int.add_le_add bj23a0_2_l zq1, by rw [qx110]; exact Int.add_le_add u83z_j23a0_2 zq0⟩
                have wx110 : x110.toInt = j23a0_2.toInt + 1 := qx110
                refine va_put (D := (dC, dI)) (ci := 8) (v := .int x110) (ty := .int) (C := RX8) (T := TX8) (N := 40) hx hb hts zi_X8_feed_8 tyX8 tyX8_ok nmX8 hown hK hP hD hS 0 rfl rfl 2 (by decide) (hts (.fieldLink RX8 65 "WaxTurnsModel" "taped" "I") (List.mem_cons_of_mem _ (List.mem_append_left _ (List.mem_of_getElem? (i := 1) rfl)))) (fun _ h9 => h9) rfl (tyX8_ok 2 (by decide)) rfl rfl (Nat.le_of_ble_eq_true rfl) dX8_feed_111 (fun H locs hP hD hS => ?_)
                obtain ⟨hP, hD⟩ := zc_re (w := [(a0, .inr (8, [Value.int 0, Value.ref a0_1, Value.int x110, a0g_3, a0g_4, a0g_5, a0g_6, a0g_7, a0g_8, a0g_9, a0g_10, a0g_11, a0g_12, a0g_13, a0g_14, a0g_15, a0g_16, a0g_17, a0g_18, a0g_19, a0g_20, a0g_21, a0g_22, a0g_23, a0g_24, a0g_25, a0g_26, a0g_27, a0g_28, a0g_29, a0g_30, a0g_31, a0g_32, a0g_33, a0g_34, a0g_35, a0g_36, a0g_37, a0g_38, a0g_39])), (a0_1, .inl (ka0_1, 900, .inl (f103)))]) hP hD rfl
                obtain ⟨x114, ex114⟩ : ∃ y : Int32, y = j23l6 + Int32.ofInt 1 := ⟨_, rfl⟩
                have qx114 : x114.toInt = j23l6.toInt + 1 := ai_inc ex114 (by decide) (by decide) u55f_j23l6 (by decide)
                have bx114 : (9 : Int) ≤ x114.toInt ∧ x114.toInt ≤ 12 := ⟨by rw [qx114]; exact Int.add_le_add l44t_j23l6 (Int.le_refl _), by rw [qx114]; exact Int.add_le_add u55f_j23l6 (Int.le_refl _)⟩
                refine lv_iinc (v := x114) (lv' := [(6, .int x114), (7, .int a3), (0, .ref a0), (1, .int a1), (2, .int a2), (3, .int a3), (4, .int a4), (5, .int a5)]) hx hb dX8_feed_114 hl (k := 7) rfl ex114.symm (by decide) rfl (fun ls hl => ?_)
                refine lv_goto (tgt := 23) hx hb dX8_feed_117 (by decide) ?_
                exact (hK0 _ _ _).mp (ih23 x114 x110 f103 _ _ _ (by have h0 := qx114; omega) (Int.le_trans zq7 bx114.1) (Int.le_trans bx114.2 zq223) (Int.le_trans zq4 bx110.1) bx110.2 (by omega) hP hD hS (lv_sub hl [2, 3, 4, 5, 6, 7, 0] rfl))
            · have gc44 := ai_nle c44
              have u44f_j23l6 : j23l6.toInt ≤ (7 : Int) := ai_lthi gc44 zq28
              refine lv_iload_n hx hb dX8_feed_47 rfl (lv_at hl 2 rfl) ?_
              refine lv_goto (tgt := 76) hx hb dX8_feed_48 (by decide) ?_
              refine lv_istore (lv' := [(7, .int a2), (0, .ref a0), (1, .int a1), (2, .int a2), (3, .int a3), (4, .int a4), (5, .int a5), (6, .int j23l6)]) hx hb dX8_feed_76 hl (by decide) rfl (fun ls hl => ?_)
              refine lv_aload_n hx hb dX8_feed_78 rfl (lv_at hl 1 rfl) ?_
              refine va_get (D := (dC, dI)) (ci := 8) (v := .ref a0_1) (C := RX8) (T := TX8) (N := 40) hx hb hts zi_X8_feed_8 hown hK hP 0 rfl rfl 1 (by decide) (hts (.fieldLink RX8 7 "WaxTurnsModel" "tape" "[I") (List.mem_cons_of_mem _ (List.mem_append_left _ (List.mem_of_getElem? (i := 2) rfl)))) (fun _ h9 => h9) rfl dX8_feed_79 ?_
              refine lv_aload_n hx hb dX8_feed_82 rfl (lv_at hl 1 rfl) ?_
              refine va_get (D := (dC, dI)) (ci := 8) (v := .int j23a0_2) (C := RX8) (T := TX8) (N := 40) hx hb hts zi_X8_feed_8 hown hK hP 0 rfl rfl 2 (by decide) (hts (.fieldLink RX8 65 "WaxTurnsModel" "taped" "I") (List.mem_cons_of_mem _ (List.mem_append_left _ (List.mem_of_getElem? (i := 1) rfl)))) (fun _ h9 => h9) rfl dX8_feed_83 ?_
              have u83z_j23a0_2 : j23a0_2.toInt ≤ (899 : Int) := by omega
              refine lv_iload hx hb dX8_feed_86 (lv_at hl 0 rfl) ?_
              refine lv_bipush (v := 24) hx hb dX8_feed_88 zk_bipush_24 ?_
              refine lv_bipush (v := 8) hx hb dX8_feed_90 zk_bipush_8 ?_
              refine lv_iload hx hb dX8_feed_92 (lv_at hl 7 rfl) ?_
              refine lv_iconst (v := 4) hx hb dX8_feed_94 zk_iconst_4 ?_
              refine lv_irem hx hb dX8_feed_95 (by decide +kernel) ?_
              refine lv_topi (fun x95 ex95 => ?_)
              have qx95 := ai_rem2 ex95 (Int.le_trans zq101 l33t_j23l6) (Int.lt_of_lt_of_le zq178 zq68) zq67
              have wx95 : x95.toInt = j23l6.toInt % 4 := qx95.1
              refine lv_imul hx hb dX8_feed_96 ?_
              refine lv_topi (fun x96 ex96 => ?_)
              have qx96 : x96.toInt = (8 : Int32).toInt * x95.toInt ∧ (0 : Int) ≤ x96.toInt ∧ x96.toInt ≤ 24 := ai_mul ex96 ⟨zq116, zq28⟩ ⟨qx95.2.1, qx95.2.2⟩ (by decide) (by decide) zq219
              have wx96 : x96.toInt = 8 * x95.toInt := qx96.1
              refine lv_isub hx hb dX8_feed_97 ?_
              refine lv_topi (fun x97 ex97 => ?_)
              have qx97 : x97.toInt = (24 : Int32).toInt - x96.toInt := ai_sub ex97 ⟨zq132, zq133⟩ ⟨qx96.2.1, qx96.2.2⟩ (by decide) (by decide)
              have bx97 : (0 : Int) ≤ x97.toInt ∧ x97.toInt ≤ 24 := ⟨by rw [qx97]; exact Int.sub_le_sub zq132 qx96.2.2, by rw [qx97]; exact Int.sub_le_sub zq133 qx96.2.1⟩
              refine lv_ishr hx hb dX8_feed_98 ?_
              refine lv_topi (fun x98 ex98 => ?_)
              refine lv_sipush (v := 255) hx hb dX8_feed_99 zk_sipush_255 ?_
              refine lv_iand hx hb dX8_feed_102 ?_
              refine lv_topi (fun x102 ex102 => ?_)
              refine va_iast hx hb hK hP hD hS 1 0 rfl rfl (ai_in bj23a0_2_l u83z_j23a0_2 (by decide) (by decide)) dX8_feed_103 (fun H locs hP hD hS => ?_)
              obtain ⟨f103, ef103⟩ : ∃ g9 : Nat → Int32, g9 = upd j23a0_1_a (j23a0_2 : Int32).toNatClampNeg x102 := ⟨_, rfl⟩
              rw [← ef103] at hP hD
              obtain ⟨hP, hD⟩ := zc_re (w := [(a0, .inr (8, [Value.int 0, Value.ref a0_1, Value.int j23a0_2, a0g_3, a0g_4, a0g_5, a0g_6, a0g_7, a0g_8, a0g_9, a0g_10, a0g_11, a0g_12, a0g_13, a0g_14, a0g_15, a0g_16, a0g_17, a0g_18, a0g_19, a0g_20, a0g_21, a0g_22, a0g_23, a0g_24, a0g_25, a0g_26, a0g_27, a0g_28, a0g_29, a0g_30, a0g_31, a0g_32, a0g_33, a0g_34, a0g_35, a0g_36, a0g_37, a0g_38, a0g_39])), (a0_1, .inl (ka0_1, 900, .inl (f103)))]) hP hD rfl
              refine lv_aload_n hx hb dX8_feed_104 rfl (lv_at hl 1 rfl) ?_
              refine lv_dup hx hb dX8_feed_105 rfl ?_
              refine va_get (D := (dC, dI)) (ci := 8) (v := .int j23a0_2) (C := RX8) (T := TX8) (N := 40) hx hb hts zi_X8_feed_8 hown hK hP 0 rfl rfl 2 (by decide) (hts (.fieldLink RX8 65 "WaxTurnsModel" "taped" "I") (List.mem_cons_of_mem _ (List.mem_append_left _ (List.mem_of_getElem? (i := 1) rfl)))) (fun _ h9 => h9) rfl dX8_feed_106 ?_
              refine lv_iconst (v := 1) hx hb dX8_feed_109 zk_iconst_1 ?_
              refine lv_iadd hx hb dX8_feed_110 ?_
              refine lv_topi (fun x110 ex110 => ?_)
              have qx110 : x110.toInt = j23a0_2.toInt + (1 : Int32).toInt := ai_add ex110 ⟨bj23a0_2_l, u83z_j23a0_2⟩ ⟨zq1, zq0⟩ (by decide) (by decide)
              have bx110 : (1 : Int) ≤ x110.toInt ∧ x110.toInt ≤ 900 := ⟨by rw [qx110]; exact Int.add_le_add bj23a0_2_l zq1, by rw [qx110]; exact Int.add_le_add u83z_j23a0_2 zq0⟩
              have wx110 : x110.toInt = j23a0_2.toInt + 1 := qx110
              refine va_put (D := (dC, dI)) (ci := 8) (v := .int x110) (ty := .int) (C := RX8) (T := TX8) (N := 40) hx hb hts zi_X8_feed_8 tyX8 tyX8_ok nmX8 hown hK hP hD hS 0 rfl rfl 2 (by decide) (hts (.fieldLink RX8 65 "WaxTurnsModel" "taped" "I") (List.mem_cons_of_mem _ (List.mem_append_left _ (List.mem_of_getElem? (i := 1) rfl)))) (fun _ h9 => h9) rfl (tyX8_ok 2 (by decide)) rfl rfl (Nat.le_of_ble_eq_true rfl) dX8_feed_111 (fun H locs hP hD hS => ?_)
              obtain ⟨hP, hD⟩ := zc_re (w := [(a0, .inr (8, [Value.int 0, Value.ref a0_1, Value.int x110, a0g_3, a0g_4, a0g_5, a0g_6, a0g_7, a0g_8, a0g_9, a0g_10, a0g_11, a0g_12, a0g_13, a0g_14, a0g_15, a0g_16, a0g_17, a0g_18, a0g_19, a0g_20, a0g_21, a0g_22, a0g_23, a0g_24, a0g_25, a0g_26, a0g_27, a0g_28, a0g_29, a0g_30, a0g_31, a0g_32, a0g_33, a0g_34, a0g_35, a0g_36, a0g_37, a0g_38, a0g_39])), (a0_1, .inl (ka0_1, 900, .inl (f103)))]) hP hD rfl
              obtain ⟨x114, ex114⟩ : ∃ y : Int32, y = j23l6 + Int32.ofInt 1 := ⟨_, rfl⟩
              have qx114 : x114.toInt = j23l6.toInt + 1 := ai_inc ex114 (by decide) (by decide) u44f_j23l6 (by decide)
              have bx114 : (5 : Int) ≤ x114.toInt ∧ x114.toInt ≤ 8 := ⟨by rw [qx114]; exact Int.add_le_add l33t_j23l6 (Int.le_refl _), by rw [qx114]; exact Int.add_le_add u44f_j23l6 (Int.le_refl _)⟩
              refine lv_iinc (v := x114) (lv' := [(6, .int x114), (7, .int a2), (0, .ref a0), (1, .int a1), (2, .int a2), (3, .int a3), (4, .int a4), (5, .int a5)]) hx hb dX8_feed_114 hl (k := 7) rfl ex114.symm (by decide) rfl (fun ls hl => ?_)
              refine lv_goto (tgt := 23) hx hb dX8_feed_117 (by decide) ?_
              exact (hK0 _ _ _).mp (ih23 x114 x110 f103 _ _ _ (by have h0 := qx114; omega) (Int.le_trans zq224 bx114.1) (Int.le_trans bx114.2 zq225) (Int.le_trans zq4 bx110.1) bx110.2 (by omega) hP hD hS (lv_sub hl [2, 3, 4, 5, 6, 7, 0] rfl))
          · have gc33 := ai_nle c33
            have u33f_j23l6 : j23l6.toInt ≤ (3 : Int) := ai_lthi gc33 zq67
            refine lv_iload_n hx hb dX8_feed_36 rfl (lv_at hl 1 rfl) ?_
            refine lv_goto (tgt := 76) hx hb dX8_feed_37 (by decide) ?_
            refine lv_istore (lv' := [(7, .int a1), (0, .ref a0), (1, .int a1), (2, .int a2), (3, .int a3), (4, .int a4), (5, .int a5), (6, .int j23l6)]) hx hb dX8_feed_76 hl (by decide) rfl (fun ls hl => ?_)
            refine lv_aload_n hx hb dX8_feed_78 rfl (lv_at hl 1 rfl) ?_
            refine va_get (D := (dC, dI)) (ci := 8) (v := .ref a0_1) (C := RX8) (T := TX8) (N := 40) hx hb hts zi_X8_feed_8 hown hK hP 0 rfl rfl 1 (by decide) (hts (.fieldLink RX8 7 "WaxTurnsModel" "tape" "[I") (List.mem_cons_of_mem _ (List.mem_append_left _ (List.mem_of_getElem? (i := 2) rfl)))) (fun _ h9 => h9) rfl dX8_feed_79 ?_
            refine lv_aload_n hx hb dX8_feed_82 rfl (lv_at hl 1 rfl) ?_
            refine va_get (D := (dC, dI)) (ci := 8) (v := .int j23a0_2) (C := RX8) (T := TX8) (N := 40) hx hb hts zi_X8_feed_8 hown hK hP 0 rfl rfl 2 (by decide) (hts (.fieldLink RX8 65 "WaxTurnsModel" "taped" "I") (List.mem_cons_of_mem _ (List.mem_append_left _ (List.mem_of_getElem? (i := 1) rfl)))) (fun _ h9 => h9) rfl dX8_feed_83 ?_
            have u83z_j23a0_2 : j23a0_2.toInt ≤ (899 : Int) := by omega
            refine lv_iload hx hb dX8_feed_86 (lv_at hl 0 rfl) ?_
            refine lv_bipush (v := 24) hx hb dX8_feed_88 zk_bipush_24 ?_
            refine lv_bipush (v := 8) hx hb dX8_feed_90 zk_bipush_8 ?_
            refine lv_iload hx hb dX8_feed_92 (lv_at hl 7 rfl) ?_
            refine lv_iconst (v := 4) hx hb dX8_feed_94 zk_iconst_4 ?_
            refine lv_irem hx hb dX8_feed_95 (by decide +kernel) ?_
            refine lv_topi (fun x95 ex95 => ?_)
            have qx95 := ai_rem2 ex95 bj23l6_l (Int.lt_of_lt_of_le zq178 zq68) zq67
            have wx95 : x95.toInt = j23l6.toInt % 4 := qx95.1
            refine lv_imul hx hb dX8_feed_96 ?_
            refine lv_topi (fun x96 ex96 => ?_)
            have qx96 : x96.toInt = (8 : Int32).toInt * x95.toInt ∧ (0 : Int) ≤ x96.toInt ∧ x96.toInt ≤ 24 := ai_mul ex96 ⟨zq116, zq28⟩ ⟨qx95.2.1, qx95.2.2⟩ (by decide) (by decide) zq219
            have wx96 : x96.toInt = 8 * x95.toInt := qx96.1
            refine lv_isub hx hb dX8_feed_97 ?_
            refine lv_topi (fun x97 ex97 => ?_)
            have qx97 : x97.toInt = (24 : Int32).toInt - x96.toInt := ai_sub ex97 ⟨zq132, zq133⟩ ⟨qx96.2.1, qx96.2.2⟩ (by decide) (by decide)
            have bx97 : (0 : Int) ≤ x97.toInt ∧ x97.toInt ≤ 24 := ⟨by rw [qx97]; exact Int.sub_le_sub zq132 qx96.2.2, by rw [qx97]; exact Int.sub_le_sub zq133 qx96.2.1⟩
            refine lv_ishr hx hb dX8_feed_98 ?_
            refine lv_topi (fun x98 ex98 => ?_)
            refine lv_sipush (v := 255) hx hb dX8_feed_99 zk_sipush_255 ?_
            refine lv_iand hx hb dX8_feed_102 ?_
            refine lv_topi (fun x102 ex102 => ?_)
            refine va_iast hx hb hK hP hD hS 1 0 rfl rfl (ai_in bj23a0_2_l u83z_j23a0_2 (by decide) (by decide)) dX8_feed_103 (fun H locs hP hD hS => ?_)
            obtain ⟨f103, ef103⟩ : ∃ g9 : Nat → Int32, g9 = upd j23a0_1_a (j23a0_2 : Int32).toNatClampNeg x102 := ⟨_, rfl⟩
            rw [← ef103] at hP hD
            obtain ⟨hP, hD⟩ := zc_re (w := [(a0, .inr (8, [Value.int 0, Value.ref a0_1, Value.int j23a0_2, a0g_3, a0g_4, a0g_5, a0g_6, a0g_7, a0g_8, a0g_9, a0g_10, a0g_11, a0g_12, a0g_13, a0g_14, a0g_15, a0g_16, a0g_17, a0g_18, a0g_19, a0g_20, a0g_21, a0g_22, a0g_23, a0g_24, a0g_25, a0g_26, a0g_27, a0g_28, a0g_29, a0g_30, a0g_31, a0g_32, a0g_33, a0g_34, a0g_35, a0g_36, a0g_37, a0g_38, a0g_39])), (a0_1, .inl (ka0_1, 900, .inl (f103)))]) hP hD rfl
            refine lv_aload_n hx hb dX8_feed_104 rfl (lv_at hl 1 rfl) ?_
            refine lv_dup hx hb dX8_feed_105 rfl ?_
            refine va_get (D := (dC, dI)) (ci := 8) (v := .int j23a0_2) (C := RX8) (T := TX8) (N := 40) hx hb hts zi_X8_feed_8 hown hK hP 0 rfl rfl 2 (by decide) (hts (.fieldLink RX8 65 "WaxTurnsModel" "taped" "I") (List.mem_cons_of_mem _ (List.mem_append_left _ (List.mem_of_getElem? (i := 1) rfl)))) (fun _ h9 => h9) rfl dX8_feed_106 ?_
            refine lv_iconst (v := 1) hx hb dX8_feed_109 zk_iconst_1 ?_
            refine lv_iadd hx hb dX8_feed_110 ?_
            refine lv_topi (fun x110 ex110 => ?_)
            have qx110 : x110.toInt = j23a0_2.toInt + (1 : Int32).toInt := ai_add ex110 ⟨bj23a0_2_l, u83z_j23a0_2⟩ ⟨zq1, zq0⟩ (by decide) (by decide)
            have bx110 : (1 : Int) ≤ x110.toInt ∧ x110.toInt ≤ 900 := ⟨by rw [qx110]; exact Int.add_le_add bj23a0_2_l zq1, by rw [qx110]; exact Int.add_le_add u83z_j23a0_2 zq0⟩
            have wx110 : x110.toInt = j23a0_2.toInt + 1 := qx110
            refine va_put (D := (dC, dI)) (ci := 8) (v := .int x110) (ty := .int) (C := RX8) (T := TX8) (N := 40) hx hb hts zi_X8_feed_8 tyX8 tyX8_ok nmX8 hown hK hP hD hS 0 rfl rfl 2 (by decide) (hts (.fieldLink RX8 65 "WaxTurnsModel" "taped" "I") (List.mem_cons_of_mem _ (List.mem_append_left _ (List.mem_of_getElem? (i := 1) rfl)))) (fun _ h9 => h9) rfl (tyX8_ok 2 (by decide)) rfl rfl (Nat.le_of_ble_eq_true rfl) dX8_feed_111 (fun H locs hP hD hS => ?_)
            obtain ⟨hP, hD⟩ := zc_re (w := [(a0, .inr (8, [Value.int 0, Value.ref a0_1, Value.int x110, a0g_3, a0g_4, a0g_5, a0g_6, a0g_7, a0g_8, a0g_9, a0g_10, a0g_11, a0g_12, a0g_13, a0g_14, a0g_15, a0g_16, a0g_17, a0g_18, a0g_19, a0g_20, a0g_21, a0g_22, a0g_23, a0g_24, a0g_25, a0g_26, a0g_27, a0g_28, a0g_29, a0g_30, a0g_31, a0g_32, a0g_33, a0g_34, a0g_35, a0g_36, a0g_37, a0g_38, a0g_39])), (a0_1, .inl (ka0_1, 900, .inl (f103)))]) hP hD rfl
            obtain ⟨x114, ex114⟩ : ∃ y : Int32, y = j23l6 + Int32.ofInt 1 := ⟨_, rfl⟩
            have qx114 : x114.toInt = j23l6.toInt + 1 := ai_inc ex114 (by decide) (by decide) u33f_j23l6 (by decide)
            have bx114 : (1 : Int) ≤ x114.toInt ∧ x114.toInt ≤ 4 := ⟨by rw [qx114]; exact Int.add_le_add bj23l6_l (Int.le_refl _), by rw [qx114]; exact Int.add_le_add u33f_j23l6 (Int.le_refl _)⟩
            refine lv_iinc (v := x114) (lv' := [(6, .int x114), (7, .int a1), (0, .ref a0), (1, .int a1), (2, .int a2), (3, .int a3), (4, .int a4), (5, .int a5)]) hx hb dX8_feed_114 hl (k := 7) rfl ex114.symm (by decide) rfl (fun ls hl => ?_)
            refine lv_goto (tgt := 23) hx hb dX8_feed_117 (by decide) ?_
            exact (hK0 _ _ _).mp (ih23 x114 x110 f103 _ _ _ (by have h0 := qx114; omega) (Int.le_trans zq4 bx114.1) (Int.le_trans bx114.2 zq226) (Int.le_trans zq4 bx110.1) bx110.2 (by omega) hP hD hS (lv_sub hl [2, 3, 4, 5, 6, 7, 0] rfl))
    exact (hK0 _ _ _).mp (J23 21 0 a0_2 fa0_1 _ _ _ (by have h1 : (0 : Int) ≤ (0 : Int32).toInt := zq5; have h2 : (0 : Int32).toInt ≤ (0 : Int) := zq6; omega) zq5 (Int.le_trans zq6 zq191) ba0_2_l (Int.le_trans u15t_a0_2 zq227) (by have h1 : (0 : Int32).toInt = 0 := (by decide); omega) hP hD hS (lv_sub hl [1, 2, 3, 4, 5, 6, 0] rfl))
  · have gc15 := ai_nle c15
    have l15f_x11 : (901 : Int) ≤ x11.toInt := ai_ltlo gc15 zq37
    have l15f_a0_2 : (881 : Int) ≤ a0_2.toInt := by have h1 := wx11; have h2 := l15f_x11; omega
    refine lv_iconst (v := (-1)) hx hb dX8_feed_18 zk_iconst_n1 ?_
    exact W.iret (v := (-1)) hx hb hr (fun t ht hW => ⟨⟨(-1), (), rfl, (Or.inl ⟨rfl, by omega⟩), 0, a0_2, fa0_1, ⟨Int.le_trans (by decide) l15f_a0_2, ba0_2_u⟩, (by constructor <;> intro h9 <;> omega), by rw [ht]; exact hP, va_K.moved hW.alike hK, hD⟩, hS.F ht⟩) hS.2.2 dX8_feed_19
