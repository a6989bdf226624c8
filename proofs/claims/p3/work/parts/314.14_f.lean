set_option maxHeartbeats 4000000 in
set_option maxRecDepth 100000 in
theorem f_X8_image (l : Launch) (dC : Nat → ClassId) (dI : Nat → Nat → Nat) (sz : Nat) (a0 : Nat) (a0_0 : Int32) (a0g : Nat → Value) (a0_11 : Int32) (a0_14 : Int32) (a0_17 : Nat) (a0_20 : Nat) (a0_22 : Int32) (ka0_17 : ClassId) (fa0_17 : Nat → Int32) (ka0_20 : ClassId) (fa0_20 : Nat → Int32) (ba0_14_l : (1 : Int) ≤ a0_14.toInt) (ba0_14_u : a0_14.toInt ≤ (1 : Int)) (ba0_22_l : (0 : Int) ≤ a0_22.toInt) (ba0_22_u : a0_22.toInt ≤ (3 : Int)) (bfa0_17 : ((∀ k : Nat, 0 ≤ k → k ≤ 8 → (0 : Int) ≤ (fa0_17 k).toInt ∧ (fa0_17 k).toInt ≤ 8) ∧ (∀ k : Nat, 19 ≤ k → k ≤ 19 → (0 : Int) ≤ (fa0_17 k).toInt ∧ (fa0_17 k).toInt ≤ 8) ∧ (∀ k : Nat, 20 ≤ k → k ≤ 20 → (0 : Int) ≤ (fa0_17 k).toInt ∧ (fa0_17 k).toInt ≤ 19))) (bfa0_20 : (md_S fa0_20)) : Met l yX8_image wsX8_image ({ frames := 1, cells := 0, slots := 0, locals := 25 }) (va_Pc [.ref a0] (ax_C dC dI sz [(a0, .inr (8, [Value.int a0_0, a0g 1, a0g 2, a0g 3, a0g 4, a0g 5, a0g 6, a0g 7, a0g 8, a0g 9, a0g 10, Value.int a0_11, a0g 12, a0g 13, Value.int a0_14, a0g 15, a0g 16, Value.ref a0_17, a0g 18, a0g 19, Value.ref a0_20, a0g 21, Value.int a0_22, a0g 23, a0g 24, a0g 25, a0g 26, a0g 27, a0g 28, a0g 29, a0g 30, a0g 31, a0g 32, a0g 33, a0g 34, a0g 35, a0g 36, a0g 37, a0g 38, a0g 39])), (a0_17, .inl (ka0_17, 23, .inl (fa0_17))), (a0_20, .inl (ka0_20, 69, .inl (fa0_20)))] [(ka0_17, .int), (ka0_20, .int)] (fun _ => True))) (va_Qi (fun (r : Int32) (_ : Unit) => ((-1 : Int) ≤ r.toInt ∧ r.toInt ≤ (2 : Int)) ∧ r.toInt = (Ff_X8_image a0_14.toInt a0_22.toInt (fl_A fa0_17) (fl_A fa0_20)).1) (fun (_ : Unit) (t : State) => ∃ na0_0 : Int32, ∃ na0_11 : Int32, ∃ na0_22 : Int32, ∃ nfa0_20 : Nat → Int32, ((0 : Int) ≤ na0_22.toInt ∧ na0_22.toInt ≤ 3) ∧ (md_S nfa0_20) ∧ ((Ff_X8_image a0_14.toInt a0_22.toInt (fl_A fa0_17) (fl_A fa0_20)).2 = (na0_0.toInt, na0_11.toInt, na0_22.toInt, (fl_A nfa0_20))) ∧ ax_B dC dI (va_A [(a0, .inr (8, [Value.int a0_0, a0g 1, a0g 2, a0g 3, a0g 4, a0g 5, a0g 6, a0g 7, a0g 8, a0g 9, a0g 10, Value.int a0_11, a0g 12, a0g 13, Value.int a0_14, a0g 15, a0g 16, Value.ref a0_17, a0g 18, a0g 19, Value.ref a0_20, a0g 21, Value.int a0_22, a0g 23, a0g 24, a0g 25, a0g 26, a0g 27, a0g 28, a0g 29, a0g 30, a0g 31, a0g 32, a0g 33, a0g 34, a0g 35, a0g 36, a0g 37, a0g 38, a0g 39])), (a0_17, .inl (ka0_17, 23, .inl (fa0_17))), (a0_20, .inl (ka0_20, 69, .inl (fa0_20)))] sz) [(a0, .inr (8, [Value.int na0_0, a0g 1, a0g 2, a0g 3, a0g 4, a0g 5, a0g 6, a0g 7, a0g 8, a0g 9, a0g 10, Value.int na0_11, a0g 12, a0g 13, Value.int a0_14, a0g 15, a0g 16, Value.ref a0_17, a0g 18, a0g 19, Value.ref a0_20, a0g 21, Value.int na0_22, a0g 23, a0g 24, a0g 25, a0g 26, a0g 27, a0g 28, a0g 29, a0g 30, a0g 31, a0g 32, a0g 33, a0g 34, a0g 35, a0g 36, a0g 37, a0g 38, a0g 39])), (a0_17, .inl (ka0_17, 23, .inl (fa0_17))), (a0_20, .inl (ka0_20, 69, .inl (nfa0_20)))] [(ka0_17, .int), (ka0_20, .int)] t) (va_A [(a0, .inr (8, [Value.int a0_0, a0g 1, a0g 2, a0g 3, a0g 4, a0g 5, a0g 6, a0g 7, a0g 8, a0g 9, a0g 10, Value.int a0_11, a0g 12, a0g 13, Value.int a0_14, a0g 15, a0g 16, Value.ref a0_17, a0g 18, a0g 19, Value.ref a0_20, a0g 21, Value.int a0_22, a0g 23, a0g 24, a0g 25, a0g 26, a0g 27, a0g 28, a0g 29, a0g 30, a0g 31, a0g 32, a0g 33, a0g 34, a0g 35, a0g 36, a0g 37, a0g 38, a0g 39])), (a0_17, .inl (ka0_17, 23, .inl (fa0_17))), (a0_20, .inl (ka0_20, 69, .inl (fa0_20)))] sz)) 0 0 (va_A [(a0, .inr (8, [Value.int a0_0, a0g 1, a0g 2, a0g 3, a0g 4, a0g 5, a0g 6, a0g 7, a0g 8, a0g 9, a0g 10, Value.int a0_11, a0g 12, a0g 13, Value.int a0_14, a0g 15, a0g 16, Value.ref a0_17, a0g 18, a0g 19, Value.ref a0_20, a0g 21, Value.int a0_22, a0g 23, a0g 24, a0g 25, a0g 26, a0g 27, a0g 28, a0g 29, a0g 30, a0g 31, a0g 32, a0g 33, a0g 34, a0g 35, a0g 36, a0g 37, a0g 38, a0g 39])), (a0_17, .inl (ka0_17, 23, .inl (fa0_17))), (a0_20, .inl (ka0_20, 69, .inl (fa0_20)))] sz) := by
  refine Met.ofW (cc := cX8_image) (maxL := 1) (ret := (some .int)) (by decide) rfl ?_
  intro p e s m args below meth c s₁ B hml hv
  obtain ⟨rfl, hsz, hP, hK, hD0, hE⟩ := hv
  have hx := B.exec
  have hb := B.bytes
  have hr := B.returns
  have hts := atoms_spec (ws := wsX8_image) B.pre
  have hown : s.vm.findClass RX8 = some m.cls := findClass_of_methodNamed B.named
  have hlocks := B.notSynchronized
  subst hsz
  have hD := hD0.self (sz := s.heap.size)
  generalize hAe : va_A [(a0, .inr (8, [Value.int a0_0, a0g 1, a0g 2, a0g 3, a0g 4, a0g 5, a0g 6, a0g 7, a0g 8, a0g 9, a0g 10, Value.int a0_11, a0g 12, a0g 13, Value.int a0_14, a0g 15, a0g 16, Value.ref a0_17, a0g 18, a0g 19, Value.ref a0_20, a0g 21, Value.int a0_22, a0g 23, a0g 24, a0g 25, a0g 26, a0g 27, a0g 28, a0g 29, a0g 30, a0g 31, a0g 32, a0g 33, a0g 34, a0g 35, a0g 36, a0g 37, a0g 38, a0g 39])), (a0_17, .inl (ka0_17, 23, .inl (fa0_17))), (a0_20, .inl (ka0_20, 69, .inl (fa0_20)))] s.heap.size = A at hD ⊢
  have hA : ∀ q : Nat, s.heap.size ≤ q → A q := fun q h => by rw [← hAe]; exact Or.inr h
  have hS : va_S A s.heap s.heap [] := va_S.rf
  have hP : va_P (dC, dI) vwCl [(a0, .inr (8, [Value.int a0_0, a0g 1, a0g 2, a0g 3, a0g 4, a0g 5, a0g 6, a0g 7, a0g 8, a0g 9, a0g 10, Value.int a0_11, a0g 12, a0g 13, Value.int a0_14, a0g 15, a0g 16, Value.ref a0_17, a0g 18, a0g 19, Value.ref a0_20, a0g 21, Value.int a0_22, a0g 23, a0g 24, a0g 25, a0g 26, a0g 27, a0g 28, a0g 29, a0g 30, a0g 31, a0g 32, a0g 33, a0g 34, a0g 35, a0g 36, a0g 37, a0g 38, a0g 39])), (a0_17, .inl (ka0_17, 23, .inl (fa0_17))), (a0_20, .inl (ka0_20, 69, .inl (fa0_20)))] s.heap := hP
  have hl := lv_entry ([.ref a0]) (n := 1) (Nat.le_of_ble_eq_true rfl)
  rw [lg_entry_eq]
  generalize (lg_sl ([.ref a0]) ++ List.replicate (1 - (lg_sl ([.ref a0])).length) Slot.unset).toArray = ls at hl ⊢
  have hl : lv_has ls 1 [(0, .ref a0)] := hl
  generalize hFX : Ff_X8_image a0_14.toInt a0_22.toInt (fl_A fa0_17) (fl_A fa0_20) = FX at ⊢
  have hF0 := hFX.symm.trans (Ff_X8_image.eq_1 a0_14.toInt a0_22.toInt (fl_A fa0_17) (fl_A fa0_20))
  refine lv_aload_n hx hb dX8_image_0 rfl (lv_at hl 0 rfl) ?_
  have hPc := hP.sub (ws' := [(a0, .inr (8, [Value.int a0_0, a0g 1, a0g 2, a0g 3, a0g 4, a0g 5, a0g 6, a0g 7, a0g 8, a0g 9, a0g 10, Value.int a0_11, a0g 12, a0g 13, Value.int a0_14, a0g 15, a0g 16, Value.ref a0_17, a0g 18, a0g 19, Value.ref a0_20, a0g 21, Value.int a0_22, a0g 23, a0g 24, a0g 25, a0g 26, a0g 27, a0g 28, a0g 29, a0g 30, a0g 31, a0g 32, a0g 33, a0g 34, a0g 35, a0g 36, a0g 37, a0g 38, a0g 39]))]) [0] rfl
  have hDc := hD.sub (ws' := [(a0, .inr (8, [Value.int a0_0, a0g 1, a0g 2, a0g 3, a0g 4, a0g 5, a0g 6, a0g 7, a0g 8, a0g 9, a0g 10, Value.int a0_11, a0g 12, a0g 13, Value.int a0_14, a0g 15, a0g 16, Value.ref a0_17, a0g 18, a0g 19, Value.ref a0_20, a0g 21, Value.int a0_22, a0g 23, a0g 24, a0g 25, a0g 26, a0g 27, a0g 28, a0g 29, a0g 30, a0g 31, a0g 32, a0g 33, a0g 34, a0g 35, a0g 36, a0g 37, a0g 38, a0g 39]))]) [0] (by decide) rfl
  have hKc := hK.sub (tys' := []) [] rfl
  have hFc := va_free (wc := [(a0, .inr (8, [Value.int a0_0, a0g 1, a0g 2, a0g 3, a0g 4, a0g 5, a0g 6, a0g 7, a0g 8, a0g 9, a0g 10, Value.int a0_11, a0g 12, a0g 13, Value.int a0_14, a0g 15, a0g 16, Value.ref a0_17, a0g 18, a0g 19, Value.ref a0_20, a0g 21, Value.int a0_22, a0g 23, a0g 24, a0g 25, a0g 26, a0g 27, a0g 28, a0g 29, a0g 30, a0g 31, a0g 32, a0g 33, a0g 34, a0g 35, a0g 36, a0g 37, a0g 38, a0g 39]))]) hD hS hA [0] rfl
  refine va_callv (va_runV (As := []) (rest := []) ⟨hx, hb, hml, hown, hts⟩ (f_X8_good l dC dI s.heap.size a0 a0_0 (fun i9 => ([Value.null, a0g 1, a0g 2, a0g 3, a0g 4, a0g 5, a0g 6, a0g 7, a0g 8, a0g 9, a0g 10, Value.null, a0g 12, a0g 13, Value.int a0_14, a0g 15, a0g 16, Value.ref a0_17, a0g 18, a0g 19, Value.ref a0_20, a0g 21, Value.int a0_22, a0g 23, a0g 24, a0g 25, a0g 26, a0g 27, a0g 28, a0g 29, a0g 30, a0g 31, a0g 32, a0g 33, a0g 34, a0g 35, a0g 36, a0g 37, a0g 38, a0g 39] : List Value).getD i9 .null) a0_11 ) (cwV 0 hts gX8_image_X8_good rfl rfl rfl (by decide +kernel) ⟨Nat.le_of_ble_eq_true rfl, Nat.le_of_ble_eq_true rfl⟩) ⟨ax_blind (fun _ _ _ _ _ => trivial), va_recv hKc hPc (ci := 8) (q0 := 0) rfl rfl, ax_pre hPc hKc hDc (fun _ _ => trivial)⟩ rfl rfl hl.1 rfl (lv_room (Nat.le_of_ble_eq_true rfl)) dX8_image_1 ⟨Nat.le_of_ble_eq_true rfl, Nat.le_of_ble_eq_true rfl⟩) hS (fun q _ h => hFc q h) hFc (fun u t H1 locs ht hvm hw hB hz1 hk1 hS => ?_)
  obtain ⟨v1na0_0, v1na0_11, hraw1_0, hP1, hK1, hD1⟩ := hB
  rw [ht] at hP1
  obtain ⟨hP, hD⟩ := va_join (wr := [(a0_17, .inl (ka0_17, 23, .inl (fa0_17))), (a0_20, .inl (ka0_20, 69, .inl (fa0_20)))]) (w1 := [(a0, .inr (8, [Value.int v1na0_0, a0g 1, a0g 2, a0g 3, a0g 4, a0g 5, a0g 6, a0g 7, a0g 8, a0g 9, a0g 10, Value.int v1na0_11, a0g 12, a0g 13, Value.int a0_14, a0g 15, a0g 16, Value.ref a0_17, a0g 18, a0g 19, Value.ref a0_20, a0g 21, Value.int a0_22, a0g 23, a0g 24, a0g 25, a0g 26, a0g 27, a0g 28, a0g 29, a0g 30, a0g 31, a0g 32, a0g 33, a0g 34, a0g 35, a0g 36, a0g 37, a0g 38, a0g 39]))]) hP hD [0] [1, 2] rfl rfl (by decide) (by decide) hk1 hFc hP1 hD1
  generalize H1 = H at hP hS ⊢
  have hP : va_P (dC, dI) vwCl [(a0, .inr (8, [Value.int v1na0_0, a0g 1, a0g 2, a0g 3, a0g 4, a0g 5, a0g 6, a0g 7, a0g 8, a0g 9, a0g 10, Value.int v1na0_11, a0g 12, a0g 13, Value.int a0_14, a0g 15, a0g 16, Value.ref a0_17, a0g 18, a0g 19, Value.ref a0_20, a0g 21, Value.int a0_22, a0g 23, a0g 24, a0g 25, a0g 26, a0g 27, a0g 28, a0g 29, a0g 30, a0g 31, a0g 32, a0g 33, a0g 34, a0g 35, a0g 36, a0g 37, a0g 38, a0g 39])), (a0_17, .inl (ka0_17, 23, .inl (fa0_17))), (a0_20, .inl (ka0_20, 69, .inl (fa0_20)))] H := hP.sub [2, 0, 1] rfl
  have hD : va_D A [(a0, .inr (8, [Value.int v1na0_0, a0g 1, a0g 2, a0g 3, a0g 4, a0g 5, a0g 6, a0g 7, a0g 8, a0g 9, a0g 10, Value.int v1na0_11, a0g 12, a0g 13, Value.int a0_14, a0g 15, a0g 16, Value.ref a0_17, a0g 18, a0g 19, Value.ref a0_20, a0g 21, Value.int a0_22, a0g 23, a0g 24, a0g 25, a0g 26, a0g 27, a0g 28, a0g 29, a0g 30, a0g 31, a0g 32, a0g 33, a0g 34, a0g 35, a0g 36, a0g 37, a0g 38, a0g 39])), (a0_17, .inl (ka0_17, 23, .inl (fa0_17))), (a0_20, .inl (ka0_20, 69, .inl (fa0_20)))] := hD.sub [2, 0, 1] (by decide) rfl
  have hc1 : Ff_X8_good = (v1na0_0.toInt, v1na0_11.toInt) := hraw1_0
  have hF0 := hF0.trans (fl_c2_eq hc1)
  refine lv_aload_n hx hb dX8_image_4 rfl (lv_at hl 0 rfl) ?_
  refine va_get (D := (dC, dI)) (ci := 8) (v := .int a0_14) (C := RX8) (T := TX8) (N := 40) hx hb hts (by decide +kernel) hown hK hP 0 rfl rfl 14 (by decide) (hts (.fieldLink RX8 173 "WaxTurnsModel" "hasGallery" "Z") (by decide +kernel)) (fun _ h9 => h9) rfl dX8_image_5 ?_
  refine lv_if_ne (tgt := 17) hx hb dX8_image_8 (by decide) (fun c8 => ?_) (fun c8 => ?_)
  · have gc8 := ai_ne c8
    have hF0 := hF0.trans (if_neg (show ¬ (a0_14.toInt = 0) from  gc8))
    refine lv_aload_n hx hb dX8_image_17 rfl (lv_at hl 0 rfl) ?_
    refine va_get (D := (dC, dI)) (ci := 8) (v := .int a0_22) (C := RX8) (T := TX8) (N := 40) hx hb hts (by decide +kernel) hown hK hP 0 rfl rfl 22 (by decide) (hts (.fieldLink RX8 179 "WaxTurnsModel" "images" "I") (by decide +kernel)) (fun _ h9 => h9) rfl dX8_image_18 ?_
    refine lv_iconst (v := 3) hx hb dX8_image_21 (by decide) ?_
    refine lv_icmp_ne (tgt := 31) hx hb dX8_image_22 (by decide) (fun c22 => ?_) (fun c22 => ?_)
    · have gc22 := ai_ne c22
      have u22t_a0_22 : a0_22.toInt ≤ (2 : Int) := (by have h1 := ba0_22_u; have h2 : (3 : Int32).toInt = 3 := (by decide); rw [h2] at gc22; omega)
      have hF0 := hF0.trans (if_neg (show ¬ (a0_22.toInt = 3) from  gc22))
      refine lv_aload_n hx hb dX8_image_31 rfl (lv_at hl 0 rfl) ?_
      refine va_get (D := (dC, dI)) (ci := 8) (v := .ref a0_17) (C := RX8) (T := TX8) (N := 40) hx hb hts (by decide +kernel) hown hK hP 0 rfl rfl 17 (by decide) (hts (.fieldLink RX8 26 "WaxTurnsModel" "st" "[I") (by decide +kernel)) (fun _ h9 => h9) rfl dX8_image_32 ?_
      refine lv_iconst (v := 0) hx hb dX8_image_35 (by decide) ?_
      refine lv_aload_n hx hb dX8_image_36 rfl (lv_at hl 0 rfl) ?_
      refine va_get (D := (dC, dI)) (ci := 8) (v := .ref a0_20) (C := RX8) (T := TX8) (N := 40) hx hb hts (by decide +kernel) hown hK hP 0 rfl rfl 20 (by decide) (hts (.fieldLink RX8 35 "WaxTurnsModel" "kept" "[I") (by decide +kernel)) (fun _ h9 => h9) rfl dX8_image_37 ?_
      refine lv_bipush (v := 23) hx hb dX8_image_40 (by decide) ?_
      refine lv_aload_n hx hb dX8_image_42 rfl (lv_at hl 0 rfl) ?_
      refine va_get (D := (dC, dI)) (ci := 8) (v := .int a0_22) (C := RX8) (T := TX8) (N := 40) hx hb hts (by decide +kernel) hown hK hP 0 rfl rfl 22 (by decide) (hts (.fieldLink RX8 179 "WaxTurnsModel" "images" "I") (by decide +kernel)) (fun _ h9 => h9) rfl dX8_image_43 ?_
      refine lv_imul hx hb dX8_image_46 ?_
      refine lv_topi (fun x46 ex46 => ?_)
      have qx46 : x46.toInt = (23 : Int32).toInt * a0_22.toInt ∧ (0 : Int) ≤ x46.toInt ∧ x46.toInt ≤ 46 := ai_mul ex46 ⟨(by decide : (23 : Int) ≤ (23 : Int32).toInt), (by decide : (23 : Int32).toInt ≤ (23 : Int))⟩ ⟨ba0_22_l, u22t_a0_22⟩ (by decide) (by decide) (by decide : (23 : Int) * 2 ≤ 2147483647)
      have wx46 : x46.toInt = 23 * a0_22.toInt := qx46.1
      have hF0 := hF0.trans (fl_lt_eq (show x46.toInt = 23 * a0_22.toInt from qx46.1))
      refine lv_bipush (v := 23) hx hb dX8_image_47 (by decide) ?_
      have hPc := hP.sub (ws' := [(a0_17, .inl (ka0_17, 23, .inl (fa0_17))), (a0_20, .inl (ka0_20, 69, .inl (fa0_20)))]) [1, 2] rfl
      have hDc := hD.sub (ws' := [(a0_17, .inl (ka0_17, 23, .inl (fa0_17))), (a0_20, .inl (ka0_20, 69, .inl (fa0_20)))]) [1, 2] (by decide) rfl
      have hKc := hK.sub (tys' := [(ka0_17, .int), (ka0_20, .int)]) [0, 1] rfl
      have hFc := va_free (wc := [(a0_17, .inl (ka0_17, 23, .inl (fa0_17))), (a0_20, .inl (ka0_20, 69, .inl (fa0_20)))]) hD hS hA [1, 2] rfl
      refine va_callv (va_runS (As := [.ref a0_17, .int 0, .ref a0_20, .int x46, .int 23]) (rest := []) ⟨hx, hb, hml, hown, hts⟩ (c_X8_copy_23_69 l dC dI H.size a0_17 0 a0_20 x46 23 ka0_17 fa0_17 ka0_20 fa0_20 (by decide : (0 : Int) ≤ (0 : Int32).toInt) (by decide : (0 : Int32).toInt ≤ (0 : Int)) qx46.2.1 qx46.2.2 (by decide : (23 : Int) ≤ (23 : Int32).toInt) (by decide : (23 : Int32).toInt ≤ (23 : Int))) (va_cwS 5 hts gX8_image_X8_copy rfl rfl rfl (by decide +kernel) ⟨Nat.le_of_ble_eq_true rfl, Nat.le_of_ble_eq_true rfl⟩) ⟨ax_blind (fun _ _ _ _ _ => trivial), ax_pre hPc hKc hDc (fun _ _ => trivial)⟩ rfl rfl hl.1 rfl (lv_room (Nat.le_of_ble_eq_true rfl)) dX8_image_49 ⟨Nat.le_of_ble_eq_true rfl, Nat.le_of_ble_eq_true rfl⟩) hS (fun q _ h => hFc q h) hFc (fun u t H1 locs ht hvm hw hB hz1 hk1 hS => ?_)
      obtain ⟨v49nfa3, hraw49_0, hP1, hK1, hD1⟩ := hB
      rw [ht] at hP1
      obtain ⟨hP, hD⟩ := va_join (wr := [(a0, .inr (8, [Value.int v1na0_0, a0g 1, a0g 2, a0g 3, a0g 4, a0g 5, a0g 6, a0g 7, a0g 8, a0g 9, a0g 10, Value.int v1na0_11, a0g 12, a0g 13, Value.int a0_14, a0g 15, a0g 16, Value.ref a0_17, a0g 18, a0g 19, Value.ref a0_20, a0g 21, Value.int a0_22, a0g 23, a0g 24, a0g 25, a0g 26, a0g 27, a0g 28, a0g 29, a0g 30, a0g 31, a0g 32, a0g 33, a0g 34, a0g 35, a0g 36, a0g 37, a0g 38, a0g 39]))]) (w1 := [(a0_17, .inl (ka0_17, 23, .inl (fa0_17))), (a0_20, .inl (ka0_20, 69, .inl (v49nfa3)))]) hP hD [1, 2] [0] rfl rfl (by decide) (by decide) hk1 hFc hP1 hD1
      generalize H1 = H at hP hS ⊢
      have hP : va_P (dC, dI) vwCl [(a0, .inr (8, [Value.int v1na0_0, a0g 1, a0g 2, a0g 3, a0g 4, a0g 5, a0g 6, a0g 7, a0g 8, a0g 9, a0g 10, Value.int v1na0_11, a0g 12, a0g 13, Value.int a0_14, a0g 15, a0g 16, Value.ref a0_17, a0g 18, a0g 19, Value.ref a0_20, a0g 21, Value.int a0_22, a0g 23, a0g 24, a0g 25, a0g 26, a0g 27, a0g 28, a0g 29, a0g 30, a0g 31, a0g 32, a0g 33, a0g 34, a0g 35, a0g 36, a0g 37, a0g 38, a0g 39])), (a0_17, .inl (ka0_17, 23, .inl (fa0_17))), (a0_20, .inl (ka0_20, 69, .inl (v49nfa3)))] H := hP
      have hD : va_D A [(a0, .inr (8, [Value.int v1na0_0, a0g 1, a0g 2, a0g 3, a0g 4, a0g 5, a0g 6, a0g 7, a0g 8, a0g 9, a0g 10, Value.int v1na0_11, a0g 12, a0g 13, Value.int a0_14, a0g 15, a0g 16, Value.ref a0_17, a0g 18, a0g 19, Value.ref a0_20, a0g 21, Value.int a0_22, a0g 23, a0g 24, a0g 25, a0g 26, a0g 27, a0g 28, a0g 29, a0g 30, a0g 31, a0g 32, a0g 33, a0g 34, a0g 35, a0g 36, a0g 37, a0g 38, a0g 39])), (a0_17, .inl (ka0_17, 23, .inl (fa0_17))), (a0_20, .inl (ka0_20, 69, .inl (v49nfa3)))] := hD
      have hc49 : va_cpy (fl_A fa0_17) (fl_A fa0_20) (0) (x46.toInt.toNat) 23 = (fl_A v49nfa3) := (fl_cpy hraw49_0).symm
      have hF0 := hF0.trans (fl_lt_eq hc49.symm)
      have bv49nfa3 : (md_S v49nfa3) := cp_SM hraw49_0 (by decide) (md_ix (u := a0_22) wx46 ba0_22_l) bfa0_17 bfa0_20
      refine lv_aload_n hx hb dX8_image_52 rfl (lv_at hl 0 rfl) ?_
      refine lv_dup hx hb dX8_image_53 rfl ?_
      refine va_get (D := (dC, dI)) (ci := 8) (v := .int a0_22) (C := RX8) (T := TX8) (N := 40) hx hb hts (by decide +kernel) hown hK hP 0 rfl rfl 22 (by decide) (hts (.fieldLink RX8 179 "WaxTurnsModel" "images" "I") (by decide +kernel)) (fun _ h9 => h9) rfl dX8_image_54 ?_
      refine lv_iconst (v := 1) hx hb dX8_image_57 (by decide) ?_
      refine lv_iadd hx hb dX8_image_58 ?_
      refine lv_topi (fun x58 ex58 => ?_)
      have qx58 : x58.toInt = a0_22.toInt + (1 : Int32).toInt := ai_add ex58 ⟨ba0_22_l, u22t_a0_22⟩ ⟨(by decide : (1 : Int) ≤ (1 : Int32).toInt), (by decide : (1 : Int32).toInt ≤ (1 : Int))⟩ (by decide) (by decide)
      have bx58 : (1 : Int) ≤ x58.toInt ∧ x58.toInt ≤ 3 := ⟨by rw [qx58]; exact Int.add_le_add ba0_22_l (by decide : (1 : Int) ≤ (1 : Int32).toInt), by rw [qx58]; exact Int.add_le_add u22t_a0_22 (by decide : (1 : Int32).toInt ≤ (1 : Int))⟩
      have wx58 : x58.toInt = a0_22.toInt + 1 := qx58
      have hF0 := hF0.trans (fl_lt_eq (show x58.toInt = a0_22.toInt + 1 from qx58))
      refine va_put (D := (dC, dI)) (ci := 8) (v := .int x58) (ty := .int) (C := RX8) (T := TX8) (N := 40) hx hb hts (by decide +kernel) tyX8 tyX8_ok nmX8 hown hK hP hD hS 0 rfl rfl 22 (by decide) (hts (.fieldLink RX8 179 "WaxTurnsModel" "images" "I") (by decide +kernel)) (fun _ h9 => h9) rfl (by decide +kernel) rfl rfl (Nat.le_of_ble_eq_true rfl) dX8_image_59 (fun H locs hP hD hS => ?_)
      have hP : va_P (dC, dI) vwCl [(a0, .inr (8, [Value.int v1na0_0, a0g 1, a0g 2, a0g 3, a0g 4, a0g 5, a0g 6, a0g 7, a0g 8, a0g 9, a0g 10, Value.int v1na0_11, a0g 12, a0g 13, Value.int a0_14, a0g 15, a0g 16, Value.ref a0_17, a0g 18, a0g 19, Value.ref a0_20, a0g 21, Value.int x58, a0g 23, a0g 24, a0g 25, a0g 26, a0g 27, a0g 28, a0g 29, a0g 30, a0g 31, a0g 32, a0g 33, a0g 34, a0g 35, a0g 36, a0g 37, a0g 38, a0g 39])), (a0_17, .inl (ka0_17, 23, .inl (fa0_17))), (a0_20, .inl (ka0_20, 69, .inl (v49nfa3)))] H := hP
      have hD : va_D A [(a0, .inr (8, [Value.int v1na0_0, a0g 1, a0g 2, a0g 3, a0g 4, a0g 5, a0g 6, a0g 7, a0g 8, a0g 9, a0g 10, Value.int v1na0_11, a0g 12, a0g 13, Value.int a0_14, a0g 15, a0g 16, Value.ref a0_17, a0g 18, a0g 19, Value.ref a0_20, a0g 21, Value.int x58, a0g 23, a0g 24, a0g 25, a0g 26, a0g 27, a0g 28, a0g 29, a0g 30, a0g 31, a0g 32, a0g 33, a0g 34, a0g 35, a0g 36, a0g 37, a0g 38, a0g 39])), (a0_17, .inl (ka0_17, 23, .inl (fa0_17))), (a0_20, .inl (ka0_20, 69, .inl (v49nfa3)))] := hD
      refine lv_aload_n hx hb dX8_image_62 rfl (lv_at hl 0 rfl) ?_
      refine va_get (D := (dC, dI)) (ci := 8) (v := .int x58) (C := RX8) (T := TX8) (N := 40) hx hb hts (by decide +kernel) hown hK hP 0 rfl rfl 22 (by decide) (hts (.fieldLink RX8 179 "WaxTurnsModel" "images" "I") (by decide +kernel)) (fun _ h9 => h9) rfl dX8_image_63 ?_
      refine lv_iconst (v := 1) hx hb dX8_image_66 (by decide) ?_
      refine lv_isub hx hb dX8_image_67 ?_
      refine lv_topi (fun x67 ex67 => ?_)
      have qx67 : x67.toInt = x58.toInt - (1 : Int32).toInt := ai_sub ex67 ⟨bx58.1, bx58.2⟩ ⟨(by decide : (1 : Int) ≤ (1 : Int32).toInt), (by decide : (1 : Int32).toInt ≤ (1 : Int))⟩ (by decide) (by decide)
      have bx67 : (0 : Int) ≤ x67.toInt ∧ x67.toInt ≤ 2 := ⟨by rw [qx67]; exact Int.sub_le_sub bx58.1 (by decide : (1 : Int32).toInt ≤ (1 : Int)), by rw [qx67]; exact Int.sub_le_sub bx58.2 (by decide : (1 : Int) ≤ (1 : Int32).toInt)⟩
      have wx67 : x67.toInt = x58.toInt - 1 := qx67
      have hF0 := hF0.trans (fl_lt_eq (show x67.toInt = x58.toInt - 1 from qx67))
      have hFe : FX = (x67.toInt, v1na0_0.toInt, v1na0_11.toInt, x58.toInt, (fl_A v49nfa3)) := hF0
      exact W.iret (v := x67) hx hb hr (fun t ht hW => ⟨⟨x67, (), rfl, ⟨⟨(Int.le_trans (by decide : (-1 : Int) ≤ 0) bx67.1), bx67.2⟩, (congrArg Prod.fst hFe).symm⟩, v1na0_0, v1na0_11, x58, v49nfa3, ⟨Int.le_trans (by decide) bx58.1, bx58.2⟩, bv49nfa3, (congrArg Prod.snd hFe), by rw [ht]; exact hP, va_K.moved hW.alike hK, hD⟩, hS.F ht⟩) hS.2.2 dX8_image_68
    · have gc22 := ai_eq c22
      have u22f_a0_22 : a0_22.toInt ≤ (3 : Int) := ba0_22_u
      have l22f_a0_22 : (3 : Int) ≤ a0_22.toInt := Int.le_trans (by decide : (3 : Int) ≤ (3 : Int32).toInt) (Int.le_of_eq gc22.symm)
      have hF0 := hF0.trans (if_pos (show a0_22.toInt = 3 from gc22))
      refine lv_aload_n hx hb dX8_image_25 rfl (lv_at hl 0 rfl) ?_
      refine lv_iconst (v := 3) hx hb dX8_image_26 (by decide) ?_
      have hPc := hP.sub (ws' := [(a0, .inr (8, [Value.int v1na0_0, a0g 1, a0g 2, a0g 3, a0g 4, a0g 5, a0g 6, a0g 7, a0g 8, a0g 9, a0g 10, Value.int v1na0_11, a0g 12, a0g 13, Value.int a0_14, a0g 15, a0g 16, Value.ref a0_17, a0g 18, a0g 19, Value.ref a0_20, a0g 21, Value.int a0_22, a0g 23, a0g 24, a0g 25, a0g 26, a0g 27, a0g 28, a0g 29, a0g 30, a0g 31, a0g 32, a0g 33, a0g 34, a0g 35, a0g 36, a0g 37, a0g 38, a0g 39]))]) [0] rfl
      have hDc := hD.sub (ws' := [(a0, .inr (8, [Value.int v1na0_0, a0g 1, a0g 2, a0g 3, a0g 4, a0g 5, a0g 6, a0g 7, a0g 8, a0g 9, a0g 10, Value.int v1na0_11, a0g 12, a0g 13, Value.int a0_14, a0g 15, a0g 16, Value.ref a0_17, a0g 18, a0g 19, Value.ref a0_20, a0g 21, Value.int a0_22, a0g 23, a0g 24, a0g 25, a0g 26, a0g 27, a0g 28, a0g 29, a0g 30, a0g 31, a0g 32, a0g 33, a0g 34, a0g 35, a0g 36, a0g 37, a0g 38, a0g 39]))]) [0] (by decide) rfl
      have hKc := hK.sub (tys' := []) [] rfl
      have hFc := va_free (wc := [(a0, .inr (8, [Value.int v1na0_0, a0g 1, a0g 2, a0g 3, a0g 4, a0g 5, a0g 6, a0g 7, a0g 8, a0g 9, a0g 10, Value.int v1na0_11, a0g 12, a0g 13, Value.int a0_14, a0g 15, a0g 16, Value.ref a0_17, a0g 18, a0g 19, Value.ref a0_20, a0g 21, Value.int a0_22, a0g 23, a0g 24, a0g 25, a0g 26, a0g 27, a0g 28, a0g 29, a0g 30, a0g 31, a0g 32, a0g 33, a0g 34, a0g 35, a0g 36, a0g 37, a0g 38, a0g 39]))]) hD hS hA [0] rfl
      refine va_calli (va_runV (As := [.int 3]) (rest := []) ⟨hx, hb, hml, hown, hts⟩ (f_X8_no l dC dI H.size a0 3 (fun i9 => ([Value.int v1na0_0, a0g 1, a0g 2, a0g 3, a0g 4, a0g 5, a0g 6, a0g 7, a0g 8, a0g 9, a0g 10, Value.null, a0g 12, a0g 13, Value.int a0_14, a0g 15, a0g 16, Value.ref a0_17, a0g 18, a0g 19, Value.ref a0_20, a0g 21, Value.int a0_22, a0g 23, a0g 24, a0g 25, a0g 26, a0g 27, a0g 28, a0g 29, a0g 30, a0g 31, a0g 32, a0g 33, a0g 34, a0g 35, a0g 36, a0g 37, a0g 38, a0g 39] : List Value).getD i9 .null) v1na0_11 ) (cwV 1 hts gX8_image_X8_no rfl rfl rfl (by decide +kernel) ⟨Nat.le_of_ble_eq_true rfl, Nat.le_of_ble_eq_true rfl⟩) ⟨ax_blind (fun _ _ _ _ _ => trivial), va_recv hKc hPc (ci := 8) (q0 := 0) rfl rfl, ax_pre hPc hKc hDc (fun _ _ => trivial)⟩ rfl rfl hl.1 rfl (lv_room (Nat.le_of_ble_eq_true rfl)) dX8_image_27 ⟨Nat.le_of_ble_eq_true rfl, Nat.le_of_ble_eq_true rfl⟩) hS (fun q _ h => hFc q h) hFc (fun r27 u t H1 locs ht hvm hw hB hz1 hk1 hS => ?_)
      obtain ⟨v27na0_11, hraw27_0, hP1, hK1, hD1⟩ := hB
      rw [ht] at hP1
      obtain ⟨hP, hD⟩ := va_join (wr := [(a0_17, .inl (ka0_17, 23, .inl (fa0_17))), (a0_20, .inl (ka0_20, 69, .inl (fa0_20)))]) (w1 := [(a0, .inr (8, [Value.int v1na0_0, a0g 1, a0g 2, a0g 3, a0g 4, a0g 5, a0g 6, a0g 7, a0g 8, a0g 9, a0g 10, Value.int v27na0_11, a0g 12, a0g 13, Value.int a0_14, a0g 15, a0g 16, Value.ref a0_17, a0g 18, a0g 19, Value.ref a0_20, a0g 21, Value.int a0_22, a0g 23, a0g 24, a0g 25, a0g 26, a0g 27, a0g 28, a0g 29, a0g 30, a0g 31, a0g 32, a0g 33, a0g 34, a0g 35, a0g 36, a0g 37, a0g 38, a0g 39]))]) hP hD [0] [1, 2] rfl rfl (by decide) (by decide) hk1 hFc hP1 hD1
      generalize H1 = H at hP hS ⊢
      have hP : va_P (dC, dI) vwCl [(a0, .inr (8, [Value.int v1na0_0, a0g 1, a0g 2, a0g 3, a0g 4, a0g 5, a0g 6, a0g 7, a0g 8, a0g 9, a0g 10, Value.int v27na0_11, a0g 12, a0g 13, Value.int a0_14, a0g 15, a0g 16, Value.ref a0_17, a0g 18, a0g 19, Value.ref a0_20, a0g 21, Value.int a0_22, a0g 23, a0g 24, a0g 25, a0g 26, a0g 27, a0g 28, a0g 29, a0g 30, a0g 31, a0g 32, a0g 33, a0g 34, a0g 35, a0g 36, a0g 37, a0g 38, a0g 39])), (a0_17, .inl (ka0_17, 23, .inl (fa0_17))), (a0_20, .inl (ka0_20, 69, .inl (fa0_20)))] H := hP.sub [2, 0, 1] rfl
      have hD : va_D A [(a0, .inr (8, [Value.int v1na0_0, a0g 1, a0g 2, a0g 3, a0g 4, a0g 5, a0g 6, a0g 7, a0g 8, a0g 9, a0g 10, Value.int v27na0_11, a0g 12, a0g 13, Value.int a0_14, a0g 15, a0g 16, Value.ref a0_17, a0g 18, a0g 19, Value.ref a0_20, a0g 21, Value.int a0_22, a0g 23, a0g 24, a0g 25, a0g 26, a0g 27, a0g 28, a0g 29, a0g 30, a0g 31, a0g 32, a0g 33, a0g 34, a0g 35, a0g 36, a0g 37, a0g 38, a0g 39])), (a0_17, .inl (ka0_17, 23, .inl (fa0_17))), (a0_20, .inl (ka0_20, 69, .inl (fa0_20)))] := hD.sub [2, 0, 1] (by decide) rfl
      obtain ⟨hw, hfr27⟩ := hw
      rw [show (3 : Int32).toInt = 3 from by decide] at hfr27 hraw27_0
      have hc27 : Ff_X8_no 3 = (r27.toInt, v27na0_11.toInt) := Prod.ext hfr27.symm hraw27_0
      have hF0 := hF0.trans (fl_c2_eq hc27)
      have hw : r27 = (-1) := hw
      have hw := hw.symm
      subst hw
      have hFe : FX = ((-1), v1na0_0.toInt, v27na0_11.toInt, a0_22.toInt, (fl_A fa0_20)) := hF0
      exact W.iret (v := (-1)) hx hb hr (fun t ht hW => ⟨⟨(-1), (), rfl, ⟨⟨(by decide : (-1 : Int) ≤ ((-1) : Int32).toInt), (Int.le_trans (by decide : ((-1) : Int32).toInt ≤ (-1 : Int)) (by decide : (-1 : Int) ≤ 2))⟩, (congrArg Prod.fst hFe).symm⟩, v1na0_0, v27na0_11, a0_22, fa0_20, ⟨Int.le_trans (by decide) l22f_a0_22, u22f_a0_22⟩, bfa0_20, (congrArg Prod.snd hFe), by rw [ht]; exact hP, va_K.moved hW.alike hK, hD⟩, hS.F ht⟩) hS.2.2 dX8_image_30
  · have gc8 := ai_eq c8
    have u8f_a0_14 : a0_14.toInt ≤ (0 : Int) := Int.le_trans (Int.le_of_eq gc8) (by decide : (0 : Int32).toInt ≤ (0 : Int))
    have l8f_a0_14 : (1 : Int) ≤ a0_14.toInt := ba0_14_l
    exact absurd (Int.le_trans l8f_a0_14 u8f_a0_14) (by decide)

set_option maxHeartbeats 4000000 in
set_option maxRecDepth 100000 in
theorem f_X8_back (l : Launch) (dC : Nat → ClassId) (dI : Nat → Nat → Nat) (sz : Nat) (a0 : Nat) (a1 : Int32) (a0_0 : Int32) (a0g : Nat → Value) (a0_11 : Int32) (a0_17 : Nat) (a0_20 : Nat) (a0_21 : Int32) (a0_22 : Int32) (ka0_20 : ClassId) (fa0_20 : Nat → Int32) (ka0_17 : ClassId) (fa0_17 : Nat → Int32) (ba0_21_l : (0 : Int) ≤ a0_21.toInt) (ba0_21_u : a0_21.toInt ≤ (16 : Int)) (ba0_22_l : (0 : Int) ≤ a0_22.toInt) (ba0_22_u : a0_22.toInt ≤ (3 : Int)) (bfa0_20 : (md_S fa0_20)) (bfa0_17 : ((∀ k : Nat, 0 ≤ k → k ≤ 8 → (0 : Int) ≤ (fa0_17 k).toInt ∧ (fa0_17 k).toInt ≤ 8) ∧ (∀ k : Nat, 19 ≤ k → k ≤ 19 → (0 : Int) ≤ (fa0_17 k).toInt ∧ (fa0_17 k).toInt ≤ 8) ∧ (∀ k : Nat, 20 ≤ k → k ≤ 20 → (0 : Int) ≤ (fa0_17 k).toInt ∧ (fa0_17 k).toInt ≤ 19))) : Met l yX8_back wsX8_back ({ frames := 1, cells := 0, slots := 0, locals := 25 }) (va_Pc [.ref a0, .int a1] (ax_C dC dI sz [(a0, .inr (8, [Value.int a0_0, a0g 1, a0g 2, a0g 3, a0g 4, a0g 5, a0g 6, a0g 7, a0g 8, a0g 9, a0g 10, Value.int a0_11, a0g 12, a0g 13, a0g 14, a0g 15, a0g 16, Value.ref a0_17, a0g 18, a0g 19, Value.ref a0_20, Value.int a0_21, Value.int a0_22, a0g 23, a0g 24, a0g 25, a0g 26, a0g 27, a0g 28, a0g 29, a0g 30, a0g 31, a0g 32, a0g 33, a0g 34, a0g 35, a0g 36, a0g 37, a0g 38, a0g 39])), (a0_20, .inl (ka0_20, 69, .inl (fa0_20))), (a0_17, .inl (ka0_17, 23, .inl (fa0_17)))] [(ka0_20, .int), (ka0_17, .int)] (fun _ => True))) (va_Qi (fun (r : Int32) (_ : Unit) => ((r = 1 ∧ (0 : Int) ≤ a1.toInt ∧ a1.toInt ≤ (2 : Int) ∧ (1 : Int) ≤ a0_22.toInt ∧ a0_22.toInt ≤ (3 : Int)) ∨ (r = 0)) ∧ r.toInt = (Ff_X8_back a1.toInt a0_21.toInt a0_22.toInt (fl_A fa0_20) (fl_A fa0_17)).1) (fun (_ : Unit) (t : State) => ∃ na0_0 : Int32, ∃ na0_11 : Int32, ∃ na0_21 : Int32, ∃ nfa0_17 : Nat → Int32, ((0 : Int) ≤ na0_21.toInt ∧ na0_21.toInt ≤ 16) ∧ ((∀ k : Nat, 0 ≤ k → k ≤ 8 → (0 : Int) ≤ (nfa0_17 k).toInt ∧ (nfa0_17 k).toInt ≤ 8) ∧ (∀ k : Nat, 19 ≤ k → k ≤ 19 → (0 : Int) ≤ (nfa0_17 k).toInt ∧ (nfa0_17 k).toInt ≤ 8) ∧ (∀ k : Nat, 20 ≤ k → k ≤ 20 → (0 : Int) ≤ (nfa0_17 k).toInt ∧ (nfa0_17 k).toInt ≤ 19)) ∧ ((Ff_X8_back a1.toInt a0_21.toInt a0_22.toInt (fl_A fa0_20) (fl_A fa0_17)).2 = (na0_0.toInt, na0_11.toInt, na0_21.toInt, (fl_A nfa0_17))) ∧ ax_B dC dI (va_A [(a0, .inr (8, [Value.int a0_0, a0g 1, a0g 2, a0g 3, a0g 4, a0g 5, a0g 6, a0g 7, a0g 8, a0g 9, a0g 10, Value.int a0_11, a0g 12, a0g 13, a0g 14, a0g 15, a0g 16, Value.ref a0_17, a0g 18, a0g 19, Value.ref a0_20, Value.int a0_21, Value.int a0_22, a0g 23, a0g 24, a0g 25, a0g 26, a0g 27, a0g 28, a0g 29, a0g 30, a0g 31, a0g 32, a0g 33, a0g 34, a0g 35, a0g 36, a0g 37, a0g 38, a0g 39])), (a0_20, .inl (ka0_20, 69, .inl (fa0_20))), (a0_17, .inl (ka0_17, 23, .inl (fa0_17)))] sz) [(a0, .inr (8, [Value.int na0_0, a0g 1, a0g 2, a0g 3, a0g 4, a0g 5, a0g 6, a0g 7, a0g 8, a0g 9, a0g 10, Value.int na0_11, a0g 12, a0g 13, a0g 14, a0g 15, a0g 16, Value.ref a0_17, a0g 18, a0g 19, Value.ref a0_20, Value.int na0_21, Value.int a0_22, a0g 23, a0g 24, a0g 25, a0g 26, a0g 27, a0g 28, a0g 29, a0g 30, a0g 31, a0g 32, a0g 33, a0g 34, a0g 35, a0g 36, a0g 37, a0g 38, a0g 39])), (a0_20, .inl (ka0_20, 69, .inl (fa0_20))), (a0_17, .inl (ka0_17, 23, .inl (nfa0_17)))] [(ka0_20, .int), (ka0_17, .int)] t) (va_A [(a0, .inr (8, [Value.int a0_0, a0g 1, a0g 2, a0g 3, a0g 4, a0g 5, a0g 6, a0g 7, a0g 8, a0g 9, a0g 10, Value.int a0_11, a0g 12, a0g 13, a0g 14, a0g 15, a0g 16, Value.ref a0_17, a0g 18, a0g 19, Value.ref a0_20, Value.int a0_21, Value.int a0_22, a0g 23, a0g 24, a0g 25, a0g 26, a0g 27, a0g 28, a0g 29, a0g 30, a0g 31, a0g 32, a0g 33, a0g 34, a0g 35, a0g 36, a0g 37, a0g 38, a0g 39])), (a0_20, .inl (ka0_20, 69, .inl (fa0_20))), (a0_17, .inl (ka0_17, 23, .inl (fa0_17)))] sz)) 0 0 (va_A [(a0, .inr (8, [Value.int a0_0, a0g 1, a0g 2, a0g 3, a0g 4, a0g 5, a0g 6, a0g 7, a0g 8, a0g 9, a0g 10, Value.int a0_11, a0g 12, a0g 13, a0g 14, a0g 15, a0g 16, Value.ref a0_17, a0g 18, a0g 19, Value.ref a0_20, Value.int a0_21, Value.int a0_22, a0g 23, a0g 24, a0g 25, a0g 26, a0g 27, a0g 28, a0g 29, a0g 30, a0g 31, a0g 32, a0g 33, a0g 34, a0g 35, a0g 36, a0g 37, a0g 38, a0g 39])), (a0_20, .inl (ka0_20, 69, .inl (fa0_20))), (a0_17, .inl (ka0_17, 23, .inl (fa0_17)))] sz) := by
  refine Met.ofW (cc := cX8_back) (maxL := 2) (ret := (some .boolean)) (by decide) rfl ?_
  intro p e s m args below meth c s₁ B hml hv
  obtain ⟨rfl, hsz, hP, hK, hD0, hE⟩ := hv
  have hx := B.exec
  have hb := B.bytes
  have hr := B.returns
  have hts := atoms_spec (ws := wsX8_back) B.pre
  have hown : s.vm.findClass RX8 = some m.cls := findClass_of_methodNamed B.named
  have hlocks := B.notSynchronized
  subst hsz
  have hD := hD0.self (sz := s.heap.size)
  generalize hAe : va_A [(a0, .inr (8, [Value.int a0_0, a0g 1, a0g 2, a0g 3, a0g 4, a0g 5, a0g 6, a0g 7, a0g 8, a0g 9, a0g 10, Value.int a0_11, a0g 12, a0g 13, a0g 14, a0g 15, a0g 16, Value.ref a0_17, a0g 18, a0g 19, Value.ref a0_20, Value.int a0_21, Value.int a0_22, a0g 23, a0g 24, a0g 25, a0g 26, a0g 27, a0g 28, a0g 29, a0g 30, a0g 31, a0g 32, a0g 33, a0g 34, a0g 35, a0g 36, a0g 37, a0g 38, a0g 39])), (a0_20, .inl (ka0_20, 69, .inl (fa0_20))), (a0_17, .inl (ka0_17, 23, .inl (fa0_17)))] s.heap.size = A at hD ⊢
  have hA : ∀ q : Nat, s.heap.size ≤ q → A q := fun q h => by rw [← hAe]; exact Or.inr h
  have hS : va_S A s.heap s.heap [] := va_S.rf
  have hP : va_P (dC, dI) vwCl [(a0, .inr (8, [Value.int a0_0, a0g 1, a0g 2, a0g 3, a0g 4, a0g 5, a0g 6, a0g 7, a0g 8, a0g 9, a0g 10, Value.int a0_11, a0g 12, a0g 13, a0g 14, a0g 15, a0g 16, Value.ref a0_17, a0g 18, a0g 19, Value.ref a0_20, Value.int a0_21, Value.int a0_22, a0g 23, a0g 24, a0g 25, a0g 26, a0g 27, a0g 28, a0g 29, a0g 30, a0g 31, a0g 32, a0g 33, a0g 34, a0g 35, a0g 36, a0g 37, a0g 38, a0g 39])), (a0_20, .inl (ka0_20, 69, .inl (fa0_20))), (a0_17, .inl (ka0_17, 23, .inl (fa0_17)))] s.heap := hP
  have hl := lv_entry ([.ref a0, .int a1]) (n := 2) (Nat.le_of_ble_eq_true rfl)
  rw [lg_entry_eq]
  generalize (lg_sl ([.ref a0, .int a1]) ++ List.replicate (2 - (lg_sl ([.ref a0, .int a1])).length) Slot.unset).toArray = ls at hl ⊢
  have hl : lv_has ls 2 [(0, .ref a0), (1, .int a1)] := hl
  generalize hFX : Ff_X8_back a1.toInt a0_21.toInt a0_22.toInt (fl_A fa0_20) (fl_A fa0_17) = FX at ⊢
  have hF0 := hFX.symm.trans (Ff_X8_back.eq_1 a1.toInt a0_21.toInt a0_22.toInt (fl_A fa0_20) (fl_A fa0_17))
  refine lv_aload_n hx hb dX8_back_0 rfl (lv_at hl 0 rfl) ?_
  have hPc := hP.sub (ws' := [(a0, .inr (8, [Value.int a0_0, a0g 1, a0g 2, a0g 3, a0g 4, a0g 5, a0g 6, a0g 7, a0g 8, a0g 9, a0g 10, Value.int a0_11, a0g 12, a0g 13, a0g 14, a0g 15, a0g 16, Value.ref a0_17, a0g 18, a0g 19, Value.ref a0_20, Value.int a0_21, Value.int a0_22, a0g 23, a0g 24, a0g 25, a0g 26, a0g 27, a0g 28, a0g 29, a0g 30, a0g 31, a0g 32, a0g 33, a0g 34, a0g 35, a0g 36, a0g 37, a0g 38, a0g 39]))]) [0] rfl
  have hDc := hD.sub (ws' := [(a0, .inr (8, [Value.int a0_0, a0g 1, a0g 2, a0g 3, a0g 4, a0g 5, a0g 6, a0g 7, a0g 8, a0g 9, a0g 10, Value.int a0_11, a0g 12, a0g 13, a0g 14, a0g 15, a0g 16, Value.ref a0_17, a0g 18, a0g 19, Value.ref a0_20, Value.int a0_21, Value.int a0_22, a0g 23, a0g 24, a0g 25, a0g 26, a0g 27, a0g 28, a0g 29, a0g 30, a0g 31, a0g 32, a0g 33, a0g 34, a0g 35, a0g 36, a0g 37, a0g 38, a0g 39]))]) [0] (by decide) rfl
  have hKc := hK.sub (tys' := []) [] rfl
  have hFc := va_free (wc := [(a0, .inr (8, [Value.int a0_0, a0g 1, a0g 2, a0g 3, a0g 4, a0g 5, a0g 6, a0g 7, a0g 8, a0g 9, a0g 10, Value.int a0_11, a0g 12, a0g 13, a0g 14, a0g 15, a0g 16, Value.ref a0_17, a0g 18, a0g 19, Value.ref a0_20, Value.int a0_21, Value.int a0_22, a0g 23, a0g 24, a0g 25, a0g 26, a0g 27, a0g 28, a0g 29, a0g 30, a0g 31, a0g 32, a0g 33, a0g 34, a0g 35, a0g 36, a0g 37, a0g 38, a0g 39]))]) hD hS hA [0] rfl
  refine va_callv (va_runV (As := []) (rest := []) ⟨hx, hb, hml, hown, hts⟩ (f_X8_good l dC dI s.heap.size a0 a0_0 (fun i9 => ([Value.null, a0g 1, a0g 2, a0g 3, a0g 4, a0g 5, a0g 6, a0g 7, a0g 8, a0g 9, a0g 10, Value.null, a0g 12, a0g 13, a0g 14, a0g 15, a0g 16, Value.ref a0_17, a0g 18, a0g 19, Value.ref a0_20, Value.int a0_21, Value.int a0_22, a0g 23, a0g 24, a0g 25, a0g 26, a0g 27, a0g 28, a0g 29, a0g 30, a0g 31, a0g 32, a0g 33, a0g 34, a0g 35, a0g 36, a0g 37, a0g 38, a0g 39] : List Value).getD i9 .null) a0_11 ) (cwV 0 hts gX8_back_X8_good rfl rfl rfl (by decide +kernel) ⟨Nat.le_of_ble_eq_true rfl, Nat.le_of_ble_eq_true rfl⟩) ⟨ax_blind (fun _ _ _ _ _ => trivial), va_recv hKc hPc (ci := 8) (q0 := 0) rfl rfl, ax_pre hPc hKc hDc (fun _ _ => trivial)⟩ rfl rfl hl.1 rfl (lv_room (Nat.le_of_ble_eq_true rfl)) dX8_back_1 ⟨Nat.le_of_ble_eq_true rfl, Nat.le_of_ble_eq_true rfl⟩) hS (fun q _ h => hFc q h) hFc (fun u t H1 locs ht hvm hw hB hz1 hk1 hS => ?_)
  obtain ⟨v1na0_0, v1na0_11, hraw1_0, hP1, hK1, hD1⟩ := hB
  rw [ht] at hP1
  obtain ⟨hP, hD⟩ := va_join (wr := [(a0_20, .inl (ka0_20, 69, .inl (fa0_20))), (a0_17, .inl (ka0_17, 23, .inl (fa0_17)))]) (w1 := [(a0, .inr (8, [Value.int v1na0_0, a0g 1, a0g 2, a0g 3, a0g 4, a0g 5, a0g 6, a0g 7, a0g 8, a0g 9, a0g 10, Value.int v1na0_11, a0g 12, a0g 13, a0g 14, a0g 15, a0g 16, Value.ref a0_17, a0g 18, a0g 19, Value.ref a0_20, Value.int a0_21, Value.int a0_22, a0g 23, a0g 24, a0g 25, a0g 26, a0g 27, a0g 28, a0g 29, a0g 30, a0g 31, a0g 32, a0g 33, a0g 34, a0g 35, a0g 36, a0g 37, a0g 38, a0g 39]))]) hP hD [0] [1, 2] rfl rfl (by decide) (by decide) hk1 hFc hP1 hD1
  generalize H1 = H at hP hS ⊢
  have hP : va_P (dC, dI) vwCl [(a0, .inr (8, [Value.int v1na0_0, a0g 1, a0g 2, a0g 3, a0g 4, a0g 5, a0g 6, a0g 7, a0g 8, a0g 9, a0g 10, Value.int v1na0_11, a0g 12, a0g 13, a0g 14, a0g 15, a0g 16, Value.ref a0_17, a0g 18, a0g 19, Value.ref a0_20, Value.int a0_21, Value.int a0_22, a0g 23, a0g 24, a0g 25, a0g 26, a0g 27, a0g 28, a0g 29, a0g 30, a0g 31, a0g 32, a0g 33, a0g 34, a0g 35, a0g 36, a0g 37, a0g 38, a0g 39])), (a0_20, .inl (ka0_20, 69, .inl (fa0_20))), (a0_17, .inl (ka0_17, 23, .inl (fa0_17)))] H := hP.sub [2, 0, 1] rfl
  have hD : va_D A [(a0, .inr (8, [Value.int v1na0_0, a0g 1, a0g 2, a0g 3, a0g 4, a0g 5, a0g 6, a0g 7, a0g 8, a0g 9, a0g 10, Value.int v1na0_11, a0g 12, a0g 13, a0g 14, a0g 15, a0g 16, Value.ref a0_17, a0g 18, a0g 19, Value.ref a0_20, Value.int a0_21, Value.int a0_22, a0g 23, a0g 24, a0g 25, a0g 26, a0g 27, a0g 28, a0g 29, a0g 30, a0g 31, a0g 32, a0g 33, a0g 34, a0g 35, a0g 36, a0g 37, a0g 38, a0g 39])), (a0_20, .inl (ka0_20, 69, .inl (fa0_20))), (a0_17, .inl (ka0_17, 23, .inl (fa0_17)))] := hD.sub [2, 0, 1] (by decide) rfl
  have hc1 : Ff_X8_good = (v1na0_0.toInt, v1na0_11.toInt) := hraw1_0
  have hF0 := hF0.trans (fl_c2_eq hc1)
  refine lv_iload_n hx hb dX8_back_4 rfl (lv_at hl 1 rfl) ?_
  refine lv_iconst (v := 0) hx hb dX8_back_5 (by decide) ?_
  refine lv_aload_n hx hb dX8_back_6 rfl (lv_at hl 0 rfl) ?_
  refine va_get (D := (dC, dI)) (ci := 8) (v := .int a0_22) (C := RX8) (T := TX8) (N := 40) hx hb hts (by decide +kernel) hown hK hP 0 rfl rfl 22 (by decide) (hts (.fieldLink RX8 179 "WaxTurnsModel" "images" "I") (by decide +kernel)) (fun _ h9 => h9) rfl dX8_back_7 ?_
  refine lv_iconst (v := 1) hx hb dX8_back_10 (by decide) ?_
  refine lv_isub hx hb dX8_back_11 ?_
  refine lv_topi (fun x11 ex11 => ?_)
  have qx11 : x11.toInt = a0_22.toInt - (1 : Int32).toInt := ai_sub ex11 ⟨ba0_22_l, ba0_22_u⟩ ⟨(by decide : (1 : Int) ≤ (1 : Int32).toInt), (by decide : (1 : Int32).toInt ≤ (1 : Int))⟩ (by decide) (by decide)
  have bx11 : (-1 : Int) ≤ x11.toInt ∧ x11.toInt ≤ 2 := ⟨by rw [qx11]; exact Int.sub_le_sub ba0_22_l (by decide : (1 : Int32).toInt ≤ (1 : Int)), by rw [qx11]; exact Int.sub_le_sub ba0_22_u (by decide : (1 : Int) ≤ (1 : Int32).toInt)⟩
  have wx11 : x11.toInt = a0_22.toInt - 1 := qx11
  have hF0 := hF0.trans (fl_lt_eq (show x11.toInt = a0_22.toInt - 1 from qx11))
  have hPc := hP.sub (ws' := []) [] rfl
  have hDc := hD.sub (ws' := []) [] (by decide) rfl
  have hKc := hK.sub (tys' := []) [] rfl
  have hFc := va_free (wc := []) hD hS hA [] rfl
  refine va_calli (va_runS (As := [.int a1, .int 0, .int x11]) (rest := []) ⟨hx, hb, hml, hown, hts⟩ (f_X8_in l dC dI H.size a1 0 x11 ) (va_cwS 3 hts gX8_back_X8_in rfl rfl rfl (by decide +kernel) ⟨Nat.le_of_ble_eq_true rfl, Nat.le_of_ble_eq_true rfl⟩) ⟨ax_blind (fun _ _ _ _ _ => trivial), ax_pre hPc hKc hDc (fun _ _ => trivial)⟩ rfl rfl hl.1 rfl (lv_room (Nat.le_of_ble_eq_true rfl)) dX8_back_12 ⟨Nat.le_of_ble_eq_true rfl, Nat.le_of_ble_eq_true rfl⟩) hS (fun q _ h => hFc q h) hFc (fun r12 u t H1 locs ht hvm hw hB hz1 hk1 hS => ?_)
  obtain ⟨hP1, hK1, hD1⟩ := hB
  rw [ht] at hP1
  obtain ⟨hP, hD⟩ := va_join (wr := [(a0, .inr (8, [Value.int v1na0_0, a0g 1, a0g 2, a0g 3, a0g 4, a0g 5, a0g 6, a0g 7, a0g 8, a0g 9, a0g 10, Value.int v1na0_11, a0g 12, a0g 13, a0g 14, a0g 15, a0g 16, Value.ref a0_17, a0g 18, a0g 19, Value.ref a0_20, Value.int a0_21, Value.int a0_22, a0g 23, a0g 24, a0g 25, a0g 26, a0g 27, a0g 28, a0g 29, a0g 30, a0g 31, a0g 32, a0g 33, a0g 34, a0g 35, a0g 36, a0g 37, a0g 38, a0g 39])), (a0_20, .inl (ka0_20, 69, .inl (fa0_20))), (a0_17, .inl (ka0_17, 23, .inl (fa0_17)))]) (w1 := []) hP hD [] [0, 1, 2] rfl rfl (by decide) (by decide) hk1 hFc hP1 hD1
  generalize H1 = H at hP hS ⊢
  have hP : va_P (dC, dI) vwCl [(a0, .inr (8, [Value.int v1na0_0, a0g 1, a0g 2, a0g 3, a0g 4, a0g 5, a0g 6, a0g 7, a0g 8, a0g 9, a0g 10, Value.int v1na0_11, a0g 12, a0g 13, a0g 14, a0g 15, a0g 16, Value.ref a0_17, a0g 18, a0g 19, Value.ref a0_20, Value.int a0_21, Value.int a0_22, a0g 23, a0g 24, a0g 25, a0g 26, a0g 27, a0g 28, a0g 29, a0g 30, a0g 31, a0g 32, a0g 33, a0g 34, a0g 35, a0g 36, a0g 37, a0g 38, a0g 39])), (a0_20, .inl (ka0_20, 69, .inl (fa0_20))), (a0_17, .inl (ka0_17, 23, .inl (fa0_17)))] H := hP
  have hD : va_D A [(a0, .inr (8, [Value.int v1na0_0, a0g 1, a0g 2, a0g 3, a0g 4, a0g 5, a0g 6, a0g 7, a0g 8, a0g 9, a0g 10, Value.int v1na0_11, a0g 12, a0g 13, a0g 14, a0g 15, a0g 16, Value.ref a0_17, a0g 18, a0g 19, Value.ref a0_20, Value.int a0_21, Value.int a0_22, a0g 23, a0g 24, a0g 25, a0g 26, a0g 27, a0g 28, a0g 29, a0g 30, a0g 31, a0g 32, a0g 33, a0g 34, a0g 35, a0g 36, a0g 37, a0g 38, a0g 39])), (a0_20, .inl (ka0_20, 69, .inl (fa0_20))), (a0_17, .inl (ka0_17, 23, .inl (fa0_17)))] := hD
  obtain ⟨hw, hfr12⟩ := hw
  rw [show (0 : Int32).toInt = 0 from by decide] at hfr12
  have hc12 : Ff_X8_in a1.toInt 0 x11.toInt = r12.toInt := hfr12.symm
  have hF0 := hF0.trans (fl_lt_eq hc12.symm)
  rcases hw with hw | hw
  · obtain ⟨hw, h12⟩ := hw
    subst hw
    have l12k0_a1 : (0 : Int) ≤ a1.toInt := Int.le_trans (by decide : (0 : Int) ≤ (0 : Int32).toInt) h12.1
    have u12k0_a1 : a1.toInt ≤ (2 : Int) := Int.le_trans h12.2 bx11.2
    have l12k0_x11 : (0 : Int) ≤ x11.toInt := Int.le_trans (by decide : (0 : Int) ≤ (0 : Int32).toInt) (Int.le_trans h12.1 h12.2)
    have l12k0_a0_22 : (1 : Int) ≤ a0_22.toInt := by have h1 := wx11; have h2 := l12k0_x11; omega
    have hF0 := hF0.trans (if_pos (by decide))
    refine lv_if_ne (tgt := 24) hx hb dX8_back_15 (by decide) (fun _ => ?_) (fun c15 => absurd c15 (by decide +kernel))
    refine lv_aload_n hx hb dX8_back_24 rfl (lv_at hl 0 rfl) ?_
    refine va_get (D := (dC, dI)) (ci := 8) (v := .ref a0_20) (C := RX8) (T := TX8) (N := 40) hx hb hts (by decide +kernel) hown hK hP 0 rfl rfl 20 (by decide) (hts (.fieldLink RX8 35 "WaxTurnsModel" "kept" "[I") (by decide +kernel)) (fun _ h9 => h9) rfl dX8_back_25 ?_
    refine lv_bipush (v := 23) hx hb dX8_back_28 (by decide) ?_
    refine lv_iload_n hx hb dX8_back_30 rfl (lv_at hl 1 rfl) ?_
    refine lv_imul hx hb dX8_back_31 ?_
    refine lv_topi (fun x31 ex31 => ?_)
    have qx31 : x31.toInt = (23 : Int32).toInt * a1.toInt ∧ (0 : Int) ≤ x31.toInt ∧ x31.toInt ≤ 46 := ai_mul ex31 ⟨(by decide : (23 : Int) ≤ (23 : Int32).toInt), (by decide : (23 : Int32).toInt ≤ (23 : Int))⟩ ⟨l12k0_a1, u12k0_a1⟩ (by decide) (by decide) (by decide : (23 : Int) * 2 ≤ 2147483647)
    have wx31 : x31.toInt = 23 * a1.toInt := qx31.1
    have hF0 := hF0.trans (fl_lt_eq (show x31.toInt = 23 * a1.toInt from qx31.1))
    refine lv_aload_n hx hb dX8_back_32 rfl (lv_at hl 0 rfl) ?_
    refine va_get (D := (dC, dI)) (ci := 8) (v := .ref a0_17) (C := RX8) (T := TX8) (N := 40) hx hb hts (by decide +kernel) hown hK hP 0 rfl rfl 17 (by decide) (hts (.fieldLink RX8 26 "WaxTurnsModel" "st" "[I") (by decide +kernel)) (fun _ h9 => h9) rfl dX8_back_33 ?_
    refine lv_iconst (v := 0) hx hb dX8_back_36 (by decide) ?_
    refine lv_bipush (v := 23) hx hb dX8_back_37 (by decide) ?_
    have hPc := hP.sub (ws' := [(a0_20, .inl (ka0_20, 69, .inl (fa0_20))), (a0_17, .inl (ka0_17, 23, .inl (fa0_17)))]) [1, 2] rfl
    have hDc := hD.sub (ws' := [(a0_20, .inl (ka0_20, 69, .inl (fa0_20))), (a0_17, .inl (ka0_17, 23, .inl (fa0_17)))]) [1, 2] (by decide) rfl
    have hKc := hK.sub (tys' := [(ka0_20, .int), (ka0_17, .int)]) [0, 1] rfl
    have hFc := va_free (wc := [(a0_20, .inl (ka0_20, 69, .inl (fa0_20))), (a0_17, .inl (ka0_17, 23, .inl (fa0_17)))]) hD hS hA [1, 2] rfl
    refine va_callv (va_runS (As := [.ref a0_20, .int x31, .ref a0_17, .int 0, .int 23]) (rest := []) ⟨hx, hb, hml, hown, hts⟩ (c_X8_copy_69_23 l dC dI H.size a0_20 x31 a0_17 0 23 ka0_20 fa0_20 ka0_17 fa0_17 qx31.2.1 qx31.2.2 (by decide : (0 : Int) ≤ (0 : Int32).toInt) (by decide : (0 : Int32).toInt ≤ (0 : Int)) (by decide : (23 : Int) ≤ (23 : Int32).toInt) (by decide : (23 : Int32).toInt ≤ (23 : Int))) (va_cwS 5 hts gX8_back_X8_copy rfl rfl rfl (by decide +kernel) ⟨Nat.le_of_ble_eq_true rfl, Nat.le_of_ble_eq_true rfl⟩) ⟨ax_blind (fun _ _ _ _ _ => trivial), ax_pre hPc hKc hDc (fun _ _ => trivial)⟩ rfl rfl hl.1 rfl (lv_room (Nat.le_of_ble_eq_true rfl)) dX8_back_39 ⟨Nat.le_of_ble_eq_true rfl, Nat.le_of_ble_eq_true rfl⟩) hS (fun q _ h => hFc q h) hFc (fun u t H1 locs ht hvm hw hB hz1 hk1 hS => ?_)
    obtain ⟨v39nfa3, hraw39_0, hP1, hK1, hD1⟩ := hB
    rw [ht] at hP1
    obtain ⟨hP, hD⟩ := va_join (wr := [(a0, .inr (8, [Value.int v1na0_0, a0g 1, a0g 2, a0g 3, a0g 4, a0g 5, a0g 6, a0g 7, a0g 8, a0g 9, a0g 10, Value.int v1na0_11, a0g 12, a0g 13, a0g 14, a0g 15, a0g 16, Value.ref a0_17, a0g 18, a0g 19, Value.ref a0_20, Value.int a0_21, Value.int a0_22, a0g 23, a0g 24, a0g 25, a0g 26, a0g 27, a0g 28, a0g 29, a0g 30, a0g 31, a0g 32, a0g 33, a0g 34, a0g 35, a0g 36, a0g 37, a0g 38, a0g 39]))]) (w1 := [(a0_20, .inl (ka0_20, 69, .inl (fa0_20))), (a0_17, .inl (ka0_17, 23, .inl (v39nfa3)))]) hP hD [1, 2] [0] rfl rfl (by decide) (by decide) hk1 hFc hP1 hD1
    generalize H1 = H at hP hS ⊢
    have hP : va_P (dC, dI) vwCl [(a0, .inr (8, [Value.int v1na0_0, a0g 1, a0g 2, a0g 3, a0g 4, a0g 5, a0g 6, a0g 7, a0g 8, a0g 9, a0g 10, Value.int v1na0_11, a0g 12, a0g 13, a0g 14, a0g 15, a0g 16, Value.ref a0_17, a0g 18, a0g 19, Value.ref a0_20, Value.int a0_21, Value.int a0_22, a0g 23, a0g 24, a0g 25, a0g 26, a0g 27, a0g 28, a0g 29, a0g 30, a0g 31, a0g 32, a0g 33, a0g 34, a0g 35, a0g 36, a0g 37, a0g 38, a0g 39])), (a0_20, .inl (ka0_20, 69, .inl (fa0_20))), (a0_17, .inl (ka0_17, 23, .inl (v39nfa3)))] H := hP
    have hD : va_D A [(a0, .inr (8, [Value.int v1na0_0, a0g 1, a0g 2, a0g 3, a0g 4, a0g 5, a0g 6, a0g 7, a0g 8, a0g 9, a0g 10, Value.int v1na0_11, a0g 12, a0g 13, a0g 14, a0g 15, a0g 16, Value.ref a0_17, a0g 18, a0g 19, Value.ref a0_20, Value.int a0_21, Value.int a0_22, a0g 23, a0g 24, a0g 25, a0g 26, a0g 27, a0g 28, a0g 29, a0g 30, a0g 31, a0g 32, a0g 33, a0g 34, a0g 35, a0g 36, a0g 37, a0g 38, a0g 39])), (a0_20, .inl (ka0_20, 69, .inl (fa0_20))), (a0_17, .inl (ka0_17, 23, .inl (v39nfa3)))] := hD
    have hc39 : va_cpy (fl_A fa0_20) (fl_A fa0_17) (x31.toInt.toNat) (0) 23 = (fl_A v39nfa3) := (fl_cpy hraw39_0).symm
    have hF0 := hF0.trans (fl_lt_eq hc39.symm)
    have bv39nfa3 : ((∀ k : Nat, 0 ≤ k → k ≤ 8 → (0 : Int) ≤ (v39nfa3 k).toInt ∧ (v39nfa3 k).toInt ≤ 8) ∧ (∀ k : Nat, 19 ≤ k → k ≤ 19 → (0 : Int) ≤ (v39nfa3 k).toInt ∧ (v39nfa3 k).toInt ≤ 8) ∧ (∀ k : Nat, 20 ≤ k → k ≤ 20 → (0 : Int) ≤ (v39nfa3 k).toInt ∧ (v39nfa3 k).toInt ≤ 19)) := cp_MS hraw39_0 (md_ix (u := a1) wx31 l12k0_a1) (by decide) bfa0_20
    refine lv_aload_n hx hb dX8_back_42 rfl (lv_at hl 0 rfl) ?_
    refine lv_iconst (v := 0) hx hb dX8_back_43 (by decide) ?_
    refine va_put (D := (dC, dI)) (ci := 8) (v := .int 0) (ty := .int) (C := RX8) (T := TX8) (N := 40) hx hb hts (by decide +kernel) tyX8 tyX8_ok nmX8 hown hK hP hD hS 0 rfl rfl 21 (by decide) (hts (.fieldLink RX8 176 "WaxTurnsModel" "undos" "I") (by decide +kernel)) (fun _ h9 => h9) rfl (by decide +kernel) rfl rfl (Nat.le_of_ble_eq_true rfl) dX8_back_44 (fun H locs hP hD hS => ?_)
    have hP : va_P (dC, dI) vwCl [(a0, .inr (8, [Value.int v1na0_0, a0g 1, a0g 2, a0g 3, a0g 4, a0g 5, a0g 6, a0g 7, a0g 8, a0g 9, a0g 10, Value.int v1na0_11, a0g 12, a0g 13, a0g 14, a0g 15, a0g 16, Value.ref a0_17, a0g 18, a0g 19, Value.ref a0_20, Value.int 0, Value.int a0_22, a0g 23, a0g 24, a0g 25, a0g 26, a0g 27, a0g 28, a0g 29, a0g 30, a0g 31, a0g 32, a0g 33, a0g 34, a0g 35, a0g 36, a0g 37, a0g 38, a0g 39])), (a0_20, .inl (ka0_20, 69, .inl (fa0_20))), (a0_17, .inl (ka0_17, 23, .inl (v39nfa3)))] H := hP
    have hD : va_D A [(a0, .inr (8, [Value.int v1na0_0, a0g 1, a0g 2, a0g 3, a0g 4, a0g 5, a0g 6, a0g 7, a0g 8, a0g 9, a0g 10, Value.int v1na0_11, a0g 12, a0g 13, a0g 14, a0g 15, a0g 16, Value.ref a0_17, a0g 18, a0g 19, Value.ref a0_20, Value.int 0, Value.int a0_22, a0g 23, a0g 24, a0g 25, a0g 26, a0g 27, a0g 28, a0g 29, a0g 30, a0g 31, a0g 32, a0g 33, a0g 34, a0g 35, a0g 36, a0g 37, a0g 38, a0g 39])), (a0_20, .inl (ka0_20, 69, .inl (fa0_20))), (a0_17, .inl (ka0_17, 23, .inl (v39nfa3)))] := hD
    refine lv_iconst (v := 1) hx hb dX8_back_47 (by decide) ?_
    have hFe : FX = (1, v1na0_0.toInt, v1na0_11.toInt, 0, (fl_A v39nfa3)) := hF0
    exact W.zret (v := 1) hx hb hr rfl (fun t ht hW => ⟨⟨1, (), rfl, ⟨(Or.inl ⟨rfl, l12k0_a1, u12k0_a1, l12k0_a0_22, ba0_22_u⟩), (congrArg Prod.fst hFe).symm⟩, v1na0_0, v1na0_11, 0, v39nfa3, ⟨(by decide : (0 : Int) ≤ (0 : Int32).toInt), Int.le_trans (by decide : (0 : Int32).toInt ≤ (0 : Int)) (by decide)⟩, bv39nfa3, (congrArg Prod.snd hFe), by rw [ht]; exact hP, va_K.moved hW.alike hK, hD⟩, hS.F ht⟩) hS.2.2 dX8_back_48
  · obtain ⟨hw, h12⟩ := hw
    subst hw
    have hF0 := hF0.trans (if_neg (by decide))
    refine lv_if_ne (tgt := 24) hx hb dX8_back_15 (by decide) (fun c15 => absurd (by decide +kernel) c15) (fun _ => ?_)
    refine lv_aload_n hx hb dX8_back_18 rfl (lv_at hl 0 rfl) ?_
    refine lv_iconst (v := 1) hx hb dX8_back_19 (by decide) ?_
    have hPc := hP.sub (ws' := [(a0, .inr (8, [Value.int v1na0_0, a0g 1, a0g 2, a0g 3, a0g 4, a0g 5, a0g 6, a0g 7, a0g 8, a0g 9, a0g 10, Value.int v1na0_11, a0g 12, a0g 13, a0g 14, a0g 15, a0g 16, Value.ref a0_17, a0g 18, a0g 19, Value.ref a0_20, Value.int a0_21, Value.int a0_22, a0g 23, a0g 24, a0g 25, a0g 26, a0g 27, a0g 28, a0g 29, a0g 30, a0g 31, a0g 32, a0g 33, a0g 34, a0g 35, a0g 36, a0g 37, a0g 38, a0g 39]))]) [0] rfl
    have hDc := hD.sub (ws' := [(a0, .inr (8, [Value.int v1na0_0, a0g 1, a0g 2, a0g 3, a0g 4, a0g 5, a0g 6, a0g 7, a0g 8, a0g 9, a0g 10, Value.int v1na0_11, a0g 12, a0g 13, a0g 14, a0g 15, a0g 16, Value.ref a0_17, a0g 18, a0g 19, Value.ref a0_20, Value.int a0_21, Value.int a0_22, a0g 23, a0g 24, a0g 25, a0g 26, a0g 27, a0g 28, a0g 29, a0g 30, a0g 31, a0g 32, a0g 33, a0g 34, a0g 35, a0g 36, a0g 37, a0g 38, a0g 39]))]) [0] (by decide) rfl
    have hKc := hK.sub (tys' := []) [] rfl
    have hFc := va_free (wc := [(a0, .inr (8, [Value.int v1na0_0, a0g 1, a0g 2, a0g 3, a0g 4, a0g 5, a0g 6, a0g 7, a0g 8, a0g 9, a0g 10, Value.int v1na0_11, a0g 12, a0g 13, a0g 14, a0g 15, a0g 16, Value.ref a0_17, a0g 18, a0g 19, Value.ref a0_20, Value.int a0_21, Value.int a0_22, a0g 23, a0g 24, a0g 25, a0g 26, a0g 27, a0g 28, a0g 29, a0g 30, a0g 31, a0g 32, a0g 33, a0g 34, a0g 35, a0g 36, a0g 37, a0g 38, a0g 39]))]) hD hS hA [0] rfl
    refine va_calli (va_runV (As := [.int 1]) (rest := []) ⟨hx, hb, hml, hown, hts⟩ (f_X8_isNot l dC dI H.size a0 1 (fun i9 => ([Value.int v1na0_0, a0g 1, a0g 2, a0g 3, a0g 4, a0g 5, a0g 6, a0g 7, a0g 8, a0g 9, a0g 10, Value.null, a0g 12, a0g 13, a0g 14, a0g 15, a0g 16, Value.ref a0_17, a0g 18, a0g 19, Value.ref a0_20, Value.int a0_21, Value.int a0_22, a0g 23, a0g 24, a0g 25, a0g 26, a0g 27, a0g 28, a0g 29, a0g 30, a0g 31, a0g 32, a0g 33, a0g 34, a0g 35, a0g 36, a0g 37, a0g 38, a0g 39] : List Value).getD i9 .null) v1na0_11 ) (cwV 1 hts gX8_back_X8_isNot rfl rfl rfl (by decide +kernel) ⟨Nat.le_of_ble_eq_true rfl, Nat.le_of_ble_eq_true rfl⟩) ⟨ax_blind (fun _ _ _ _ _ => trivial), va_recv hKc hPc (ci := 8) (q0 := 0) rfl rfl, ax_pre hPc hKc hDc (fun _ _ => trivial)⟩ rfl rfl hl.1 rfl (lv_room (Nat.le_of_ble_eq_true rfl)) dX8_back_20 ⟨Nat.le_of_ble_eq_true rfl, Nat.le_of_ble_eq_true rfl⟩) hS (fun q _ h => hFc q h) hFc (fun r20 u t H1 locs ht hvm hw hB hz1 hk1 hS => ?_)
    obtain ⟨v20na0_11, hraw20_0, hP1, hK1, hD1⟩ := hB
    rw [ht] at hP1
    obtain ⟨hP, hD⟩ := va_join (wr := [(a0_20, .inl (ka0_20, 69, .inl (fa0_20))), (a0_17, .inl (ka0_17, 23, .inl (fa0_17)))]) (w1 := [(a0, .inr (8, [Value.int v1na0_0, a0g 1, a0g 2, a0g 3, a0g 4, a0g 5, a0g 6, a0g 7, a0g 8, a0g 9, a0g 10, Value.int v20na0_11, a0g 12, a0g 13, a0g 14, a0g 15, a0g 16, Value.ref a0_17, a0g 18, a0g 19, Value.ref a0_20, Value.int a0_21, Value.int a0_22, a0g 23, a0g 24, a0g 25, a0g 26, a0g 27, a0g 28, a0g 29, a0g 30, a0g 31, a0g 32, a0g 33, a0g 34, a0g 35, a0g 36, a0g 37, a0g 38, a0g 39]))]) hP hD [0] [1, 2] rfl rfl (by decide) (by decide) hk1 hFc hP1 hD1
    generalize H1 = H at hP hS ⊢
    have hP : va_P (dC, dI) vwCl [(a0, .inr (8, [Value.int v1na0_0, a0g 1, a0g 2, a0g 3, a0g 4, a0g 5, a0g 6, a0g 7, a0g 8, a0g 9, a0g 10, Value.int v20na0_11, a0g 12, a0g 13, a0g 14, a0g 15, a0g 16, Value.ref a0_17, a0g 18, a0g 19, Value.ref a0_20, Value.int a0_21, Value.int a0_22, a0g 23, a0g 24, a0g 25, a0g 26, a0g 27, a0g 28, a0g 29, a0g 30, a0g 31, a0g 32, a0g 33, a0g 34, a0g 35, a0g 36, a0g 37, a0g 38, a0g 39])), (a0_20, .inl (ka0_20, 69, .inl (fa0_20))), (a0_17, .inl (ka0_17, 23, .inl (fa0_17)))] H := hP.sub [2, 0, 1] rfl
    have hD : va_D A [(a0, .inr (8, [Value.int v1na0_0, a0g 1, a0g 2, a0g 3, a0g 4, a0g 5, a0g 6, a0g 7, a0g 8, a0g 9, a0g 10, Value.int v20na0_11, a0g 12, a0g 13, a0g 14, a0g 15, a0g 16, Value.ref a0_17, a0g 18, a0g 19, Value.ref a0_20, Value.int a0_21, Value.int a0_22, a0g 23, a0g 24, a0g 25, a0g 26, a0g 27, a0g 28, a0g 29, a0g 30, a0g 31, a0g 32, a0g 33, a0g 34, a0g 35, a0g 36, a0g 37, a0g 38, a0g 39])), (a0_20, .inl (ka0_20, 69, .inl (fa0_20))), (a0_17, .inl (ka0_17, 23, .inl (fa0_17)))] := hD.sub [2, 0, 1] (by decide) rfl
    obtain ⟨hw, hfr20⟩ := hw
    rw [show (1 : Int32).toInt = 1 from by decide] at hfr20 hraw20_0
    have hc20 : Ff_X8_isNot 1 = (r20.toInt, v20na0_11.toInt) := Prod.ext hfr20.symm hraw20_0
    have hF0 := hF0.trans (fl_c2_eq hc20)
    have hw : r20 = 0 := hw
    have hw := hw.symm
    subst hw
    have hFe : FX = (0, v1na0_0.toInt, v20na0_11.toInt, a0_21.toInt, (fl_A fa0_17)) := hF0
    exact W.zret (v := 0) hx hb hr rfl (fun t ht hW => ⟨⟨0, (), rfl, ⟨(Or.inr (rfl)), (congrArg Prod.fst hFe).symm⟩, v1na0_0, v20na0_11, a0_21, fa0_17, ⟨ba0_21_l, ba0_21_u⟩, bfa0_17, (congrArg Prod.snd hFe), by rw [ht]; exact hP, va_K.moved hW.alike hK, hD⟩, hS.F ht⟩) hS.2.2 dX8_back_23

set_option maxHeartbeats 4000000 in
set_option maxRecDepth 100000 in
theorem f_X7_alive (l : Launch) (dC : Nat → ClassId) (dI : Nat → Nat → Nat) (sz : Nat) (a0 : Nat) (a0g : Nat → Value) (a0_1 : Nat) (a0_7 : Nat) (a0_8 : Int32) (a0_7_0 : Int32) (a0_7g : Nat → Value) (a0_1g : Nat → Value) (a0_1_1 : Int32) (ba0_7_0_l : (0 : Int) ≤ a0_7_0.toInt) (ba0_7_0_u : a0_7_0.toInt ≤ (9 : Int)) (ba0_1_1_l : (0 : Int) ≤ a0_1_1.toInt) (ba0_1_1_u : a0_1_1.toInt ≤ (8 : Int)) : Met l yX7_alive wsX7_alive ({ frames := 1, cells := 0, slots := 0, locals := 21 }) (va_Pc [.ref a0] (ax_C dC dI sz [(a0, .inr (7, [a0g 0, .ref a0_1, a0g 2, a0g 3, a0g 4, a0g 5, a0g 6, .ref a0_7, .int a0_8, a0g 9, a0g 10])), (a0_7, .inr (0, [.int a0_7_0, a0_7g 1, a0_7g 2, a0_7g 3, a0_7g 4, a0_7g 5, a0_7g 6, a0_7g 7, a0_7g 8, a0_7g 9, a0_7g 10, a0_7g 11, a0_7g 12, a0_7g 13, a0_7g 14])), (a0_1, .inr (5, [a0_1g 0, .int a0_1_1, a0_1g 2, a0_1g 3, a0_1g 4, a0_1g 5, a0_1g 6]))] [] (fun _ => True))) (va_Qi (fun (r : Int32) (_ : Unit) => ((-1 : Int) ≤ r.toInt ∧ r.toInt ≤ (8 : Int)) ∧ r.toInt = (Ff_X7_alive a0_7_0.toInt a0_1_1.toInt).1) (fun (_ : Unit) (t : State) => ∃ na0_8 : Int32, ((Ff_X7_alive a0_7_0.toInt a0_1_1.toInt).2 = na0_8.toInt) ∧ ax_B dC dI (va_A [(a0, .inr (7, [a0g 0, .ref a0_1, a0g 2, a0g 3, a0g 4, a0g 5, a0g 6, .ref a0_7, .int a0_8, a0g 9, a0g 10])), (a0_7, .inr (0, [.int a0_7_0, a0_7g 1, a0_7g 2, a0_7g 3, a0_7g 4, a0_7g 5, a0_7g 6, a0_7g 7, a0_7g 8, a0_7g 9, a0_7g 10, a0_7g 11, a0_7g 12, a0_7g 13, a0_7g 14])), (a0_1, .inr (5, [a0_1g 0, .int a0_1_1, a0_1g 2, a0_1g 3, a0_1g 4, a0_1g 5, a0_1g 6]))] sz) [(a0, .inr (7, [a0g 0, .ref a0_1, a0g 2, a0g 3, a0g 4, a0g 5, a0g 6, .ref a0_7, .int na0_8, a0g 9, a0g 10])), (a0_7, .inr (0, [.int a0_7_0, a0_7g 1, a0_7g 2, a0_7g 3, a0_7g 4, a0_7g 5, a0_7g 6, a0_7g 7, a0_7g 8, a0_7g 9, a0_7g 10, a0_7g 11, a0_7g 12, a0_7g 13, a0_7g 14])), (a0_1, .inr (5, [a0_1g 0, .int a0_1_1, a0_1g 2, a0_1g 3, a0_1g 4, a0_1g 5, a0_1g 6]))] [] t) (va_A [(a0, .inr (7, [a0g 0, .ref a0_1, a0g 2, a0g 3, a0g 4, a0g 5, a0g 6, .ref a0_7, .int a0_8, a0g 9, a0g 10])), (a0_7, .inr (0, [.int a0_7_0, a0_7g 1, a0_7g 2, a0_7g 3, a0_7g 4, a0_7g 5, a0_7g 6, a0_7g 7, a0_7g 8, a0_7g 9, a0_7g 10, a0_7g 11, a0_7g 12, a0_7g 13, a0_7g 14])), (a0_1, .inr (5, [a0_1g 0, .int a0_1_1, a0_1g 2, a0_1g 3, a0_1g 4, a0_1g 5, a0_1g 6]))] sz)) 0 0 (va_A [(a0, .inr (7, [a0g 0, .ref a0_1, a0g 2, a0g 3, a0g 4, a0g 5, a0g 6, .ref a0_7, .int a0_8, a0g 9, a0g 10])), (a0_7, .inr (0, [.int a0_7_0, a0_7g 1, a0_7g 2, a0_7g 3, a0_7g 4, a0_7g 5, a0_7g 6, a0_7g 7, a0_7g 8, a0_7g 9, a0_7g 10, a0_7g 11, a0_7g 12, a0_7g 13, a0_7g 14])), (a0_1, .inr (5, [a0_1g 0, .int a0_1_1, a0_1g 2, a0_1g 3, a0_1g 4, a0_1g 5, a0_1g 6]))] sz) := by
  refine Met.ofW (cc := cX7_alive) (maxL := 1) (ret := (some .int)) (by decide) rfl ?_
  intro p e s m args below meth c s₁ B hml hv
  obtain ⟨rfl, hsz, hP, hK, hD0, hE⟩ := hv
  have hx := B.exec
  have hb := B.bytes
  have hr := B.returns
  have hts := atoms_spec (ws := wsX7_alive) B.pre
  have hown : s.vm.findClass RX7 = some m.cls := findClass_of_methodNamed B.named
  have hlocks := B.notSynchronized
  subst hsz
  have hD := hD0.self (sz := s.heap.size)
  generalize hAe : va_A [(a0, .inr (7, [a0g 0, .ref a0_1, a0g 2, a0g 3, a0g 4, a0g 5, a0g 6, .ref a0_7, .int a0_8, a0g 9, a0g 10])), (a0_7, .inr (0, [.int a0_7_0, a0_7g 1, a0_7g 2, a0_7g 3, a0_7g 4, a0_7g 5, a0_7g 6, a0_7g 7, a0_7g 8, a0_7g 9, a0_7g 10, a0_7g 11, a0_7g 12, a0_7g 13, a0_7g 14])), (a0_1, .inr (5, [a0_1g 0, .int a0_1_1, a0_1g 2, a0_1g 3, a0_1g 4, a0_1g 5, a0_1g 6]))] s.heap.size = A at hD ⊢
  have hA : ∀ q : Nat, s.heap.size ≤ q → A q := fun q h => by rw [← hAe]; exact Or.inr h
  have hS : va_S A s.heap s.heap [] := va_S.rf
  have hP : va_P (dC, dI) vwCl [(a0, .inr (7, [a0g 0, .ref a0_1, a0g 2, a0g 3, a0g 4, a0g 5, a0g 6, .ref a0_7, .int a0_8, a0g 9, a0g 10])), (a0_7, .inr (0, [.int a0_7_0, a0_7g 1, a0_7g 2, a0_7g 3, a0_7g 4, a0_7g 5, a0_7g 6, a0_7g 7, a0_7g 8, a0_7g 9, a0_7g 10, a0_7g 11, a0_7g 12, a0_7g 13, a0_7g 14])), (a0_1, .inr (5, [a0_1g 0, .int a0_1_1, a0_1g 2, a0_1g 3, a0_1g 4, a0_1g 5, a0_1g 6]))] s.heap := hP
  have hl := lv_entry ([.ref a0]) (n := 1) (Nat.le_of_ble_eq_true rfl)
  rw [lg_entry_eq]
  generalize (lg_sl ([.ref a0]) ++ List.replicate (1 - (lg_sl ([.ref a0])).length) Slot.unset).toArray = ls at hl ⊢
  have hl : lv_has ls 1 [(0, .ref a0)] := hl
  generalize hFX : Ff_X7_alive a0_7_0.toInt a0_1_1.toInt = FX at ⊢
  have hF0 := hFX.symm.trans (Ff_X7_alive.eq_1 a0_7_0.toInt a0_1_1.toInt)
  refine lv_aload_n hx hb dX7_alive_0 rfl (lv_at hl 0 rfl) ?_
  have hPc := hP.sub (ws' := [(a0, .inr (7, [a0g 0, .ref a0_1, a0g 2, a0g 3, a0g 4, a0g 5, a0g 6, .ref a0_7, .int a0_8, a0g 9, a0g 10])), (a0_7, .inr (0, [.int a0_7_0, a0_7g 1, a0_7g 2, a0_7g 3, a0_7g 4, a0_7g 5, a0_7g 6, a0_7g 7, a0_7g 8, a0_7g 9, a0_7g 10, a0_7g 11, a0_7g 12, a0_7g 13, a0_7g 14]))]) [0, 1] rfl
  have hDc := hD.sub (ws' := [(a0, .inr (7, [a0g 0, .ref a0_1, a0g 2, a0g 3, a0g 4, a0g 5, a0g 6, .ref a0_7, .int a0_8, a0g 9, a0g 10])), (a0_7, .inr (0, [.int a0_7_0, a0_7g 1, a0_7g 2, a0_7g 3, a0_7g 4, a0_7g 5, a0_7g 6, a0_7g 7, a0_7g 8, a0_7g 9, a0_7g 10, a0_7g 11, a0_7g 12, a0_7g 13, a0_7g 14]))]) [0, 1] (by decide) rfl
  have hKc := hK.sub (tys' := []) [] rfl
  have hFc := va_free (wc := [(a0, .inr (7, [a0g 0, .ref a0_1, a0g 2, a0g 3, a0g 4, a0g 5, a0g 6, .ref a0_7, .int a0_8, a0g 9, a0g 10])), (a0_7, .inr (0, [.int a0_7_0, a0_7g 1, a0_7g 2, a0_7g 3, a0_7g 4, a0_7g 5, a0_7g 6, a0_7g 7, a0_7g 8, a0_7g 9, a0_7g 10, a0_7g 11, a0_7g 12, a0_7g 13, a0_7g 14]))]) hD hS hA [0, 1] rfl
  refine va_calli (va_runV (As := []) (rest := []) ⟨hx, hb, hml, hown, hts⟩ (f_X7_hasGallery l dC dI s.heap.size a0 (fun i9 => ([a0g 0, .ref a0_1, a0g 2, a0g 3, a0g 4, a0g 5, a0g 6, .null, .int a0_8, a0g 9, a0g 10] : List Value).getD i9 .null) a0_7 a0_7_0 a0_7g ba0_7_0_l ba0_7_0_u) (cwV 0 hts gX7_alive_X7_hasGallery rfl rfl rfl (by decide +kernel) ⟨Nat.le_of_ble_eq_true rfl, Nat.le_of_ble_eq_true rfl⟩) ⟨ax_blind (fun _ _ _ _ _ => trivial), va_recv hKc hPc (ci := 7) (q0 := 0) rfl rfl, ax_pre hPc hKc hDc (fun _ _ => trivial)⟩ rfl rfl hl.1 rfl (lv_room (Nat.le_of_ble_eq_true rfl)) dX7_alive_1 ⟨Nat.le_of_ble_eq_true rfl, Nat.le_of_ble_eq_true rfl⟩) hS (fun q _ h => hFc q h) hFc (fun r1 u t H1 locs ht hvm hw hB hz1 hk1 hS => ?_)
  obtain ⟨hP1, hK1, hD1⟩ := hB
  rw [ht] at hP1
  obtain ⟨hP, hD⟩ := va_join (wr := [(a0_1, .inr (5, [a0_1g 0, .int a0_1_1, a0_1g 2, a0_1g 3, a0_1g 4, a0_1g 5, a0_1g 6]))]) (w1 := [(a0, .inr (7, [a0g 0, .ref a0_1, a0g 2, a0g 3, a0g 4, a0g 5, a0g 6, .ref a0_7, .int a0_8, a0g 9, a0g 10])), (a0_7, .inr (0, [.int a0_7_0, a0_7g 1, a0_7g 2, a0_7g 3, a0_7g 4, a0_7g 5, a0_7g 6, a0_7g 7, a0_7g 8, a0_7g 9, a0_7g 10, a0_7g 11, a0_7g 12, a0_7g 13, a0_7g 14]))]) hP hD [0, 1] [2] rfl rfl (by decide) (by decide) hk1 hFc hP1 hD1
  generalize H1 = H at hP hS ⊢
  have hP : va_P (dC, dI) vwCl [(a0, .inr (7, [a0g 0, .ref a0_1, a0g 2, a0g 3, a0g 4, a0g 5, a0g 6, .ref a0_7, .int a0_8, a0g 9, a0g 10])), (a0_7, .inr (0, [.int a0_7_0, a0_7g 1, a0_7g 2, a0_7g 3, a0_7g 4, a0_7g 5, a0_7g 6, a0_7g 7, a0_7g 8, a0_7g 9, a0_7g 10, a0_7g 11, a0_7g 12, a0_7g 13, a0_7g 14])), (a0_1, .inr (5, [a0_1g 0, .int a0_1_1, a0_1g 2, a0_1g 3, a0_1g 4, a0_1g 5, a0_1g 6]))] H := hP.sub [1, 2, 0] rfl
  have hD : va_D A [(a0, .inr (7, [a0g 0, .ref a0_1, a0g 2, a0g 3, a0g 4, a0g 5, a0g 6, .ref a0_7, .int a0_8, a0g 9, a0g 10])), (a0_7, .inr (0, [.int a0_7_0, a0_7g 1, a0_7g 2, a0_7g 3, a0_7g 4, a0_7g 5, a0_7g 6, a0_7g 7, a0_7g 8, a0_7g 9, a0_7g 10, a0_7g 11, a0_7g 12, a0_7g 13, a0_7g 14])), (a0_1, .inr (5, [a0_1g 0, .int a0_1_1, a0_1g 2, a0_1g 3, a0_1g 4, a0_1g 5, a0_1g 6]))] := hD.sub [1, 2, 0] (by decide) rfl
  obtain ⟨hw, hfr1⟩ := hw
  have hc1 : Ff_X7_hasGallery a0_7_0.toInt = r1.toInt := hfr1.symm
  have hF0 := hF0.trans (fl_lt_eq hc1.symm)
  rcases hw with hw | hw
  · obtain ⟨hw, h1_0, h1_1⟩ := hw
    subst hw
    have l1k0_a0_7_0 : (1 : Int) ≤ a0_7_0.toInt := h1_0
    have u1k0_a0_7_0 : a0_7_0.toInt ≤ (9 : Int) := ba0_7_0_u
    have hF0 := hF0.trans (if_pos (by decide))
    refine lv_if_ne (tgt := 13) hx hb dX7_alive_4 (by decide) (fun _ => ?_) (fun c4 => absurd c4 (by decide +kernel))
    refine lv_aload_n hx hb dX7_alive_13 rfl (lv_at hl 0 rfl) ?_
    refine lv_aload_n hx hb dX7_alive_14 rfl (lv_at hl 0 rfl) ?_
    refine va_get (D := (dC, dI)) (ci := 7) (v := .ref a0_1) (C := RX7) (T := TX7) (N := 11) hx hb hts (by decide +kernel) hown hK hP 0 rfl rfl 1 (by decide) (hts (.fieldLink RX7 19 "WaxTurns" "now" "LWaxTurns$Scene;") (by decide +kernel)) (fun _ h9 => h9) rfl dX7_alive_15 ?_
    refine va_get (D := (dC, dI)) (ci := 5) (v := .int a0_1_1) (C := RX5) (T := TX5) (N := 7) hx hb hts (by decide +kernel) hown hK hP 2 rfl rfl 1 (by decide) (hts (.fieldLink RX7 158 "WaxTurns$Scene" "turn" "I") (by decide +kernel)) (fun _ h9 => h9) rfl dX7_alive_18 ?_
    have hPc := hP.sub (ws' := [(a0, .inr (7, [a0g 0, .ref a0_1, a0g 2, a0g 3, a0g 4, a0g 5, a0g 6, .ref a0_7, .int a0_8, a0g 9, a0g 10]))]) [0] rfl
    have hDc := hD.sub (ws' := [(a0, .inr (7, [a0g 0, .ref a0_1, a0g 2, a0g 3, a0g 4, a0g 5, a0g 6, .ref a0_7, .int a0_8, a0g 9, a0g 10]))]) [0] (by decide) rfl
    have hKc := hK.sub (tys' := []) [] rfl
    have hFc := va_free (wc := [(a0, .inr (7, [a0g 0, .ref a0_1, a0g 2, a0g 3, a0g 4, a0g 5, a0g 6, .ref a0_7, .int a0_8, a0g 9, a0g 10]))]) hD hS hA [0] rfl
    refine va_calli (va_runV (As := [.int a0_1_1]) (rest := []) ⟨hx, hb, hml, hown, hts⟩ (f_X7_answered l dC dI H.size a0 a0_1_1 (fun i9 => ([a0g 0, .ref a0_1, a0g 2, a0g 3, a0g 4, a0g 5, a0g 6, .ref a0_7, .null, a0g 9, a0g 10] : List Value).getD i9 .null) a0_8 ) (cwV 1 hts gX7_alive_X7_answered rfl rfl rfl (by decide +kernel) ⟨Nat.le_of_ble_eq_true rfl, Nat.le_of_ble_eq_true rfl⟩) ⟨ax_blind (fun _ _ _ _ _ => trivial), va_recv hKc hPc (ci := 7) (q0 := 0) rfl rfl, ax_pre hPc hKc hDc (fun _ _ => trivial)⟩ rfl rfl hl.1 rfl (lv_room (Nat.le_of_ble_eq_true rfl)) dX7_alive_21 ⟨Nat.le_of_ble_eq_true rfl, Nat.le_of_ble_eq_true rfl⟩) hS (fun q _ h => hFc q h) hFc (fun r21 u t H1 locs ht hvm hw hB hz1 hk1 hS => ?_)
    obtain ⟨v21na0_8, hraw21_0, hP1, hK1, hD1⟩ := hB
    rw [ht] at hP1
    obtain ⟨hP, hD⟩ := va_join (wr := [(a0_7, .inr (0, [.int a0_7_0, a0_7g 1, a0_7g 2, a0_7g 3, a0_7g 4, a0_7g 5, a0_7g 6, a0_7g 7, a0_7g 8, a0_7g 9, a0_7g 10, a0_7g 11, a0_7g 12, a0_7g 13, a0_7g 14])), (a0_1, .inr (5, [a0_1g 0, .int a0_1_1, a0_1g 2, a0_1g 3, a0_1g 4, a0_1g 5, a0_1g 6]))]) (w1 := [(a0, .inr (7, [a0g 0, .ref a0_1, a0g 2, a0g 3, a0g 4, a0g 5, a0g 6, .ref a0_7, .int v21na0_8, a0g 9, a0g 10]))]) hP hD [0] [1, 2] rfl rfl (by decide) (by decide) hk1 hFc hP1 hD1
    generalize H1 = H at hP hS ⊢
    have hP : va_P (dC, dI) vwCl [(a0, .inr (7, [a0g 0, .ref a0_1, a0g 2, a0g 3, a0g 4, a0g 5, a0g 6, .ref a0_7, .int v21na0_8, a0g 9, a0g 10])), (a0_7, .inr (0, [.int a0_7_0, a0_7g 1, a0_7g 2, a0_7g 3, a0_7g 4, a0_7g 5, a0_7g 6, a0_7g 7, a0_7g 8, a0_7g 9, a0_7g 10, a0_7g 11, a0_7g 12, a0_7g 13, a0_7g 14])), (a0_1, .inr (5, [a0_1g 0, .int a0_1_1, a0_1g 2, a0_1g 3, a0_1g 4, a0_1g 5, a0_1g 6]))] H := hP.sub [2, 0, 1] rfl
    have hD : va_D A [(a0, .inr (7, [a0g 0, .ref a0_1, a0g 2, a0g 3, a0g 4, a0g 5, a0g 6, .ref a0_7, .int v21na0_8, a0g 9, a0g 10])), (a0_7, .inr (0, [.int a0_7_0, a0_7g 1, a0_7g 2, a0_7g 3, a0_7g 4, a0_7g 5, a0_7g 6, a0_7g 7, a0_7g 8, a0_7g 9, a0_7g 10, a0_7g 11, a0_7g 12, a0_7g 13, a0_7g 14])), (a0_1, .inr (5, [a0_1g 0, .int a0_1_1, a0_1g 2, a0_1g 3, a0_1g 4, a0_1g 5, a0_1g 6]))] := hD.sub [2, 0, 1] (by decide) rfl
    obtain ⟨hw, hfr21⟩ := hw
    have hc21 : Ff_X7_answered a0_1_1.toInt = (r21.toInt, v21na0_8.toInt) := Prod.ext hfr21.symm hraw21_0
    have hF0 := hF0.trans (fl_c2_eq hc21)
    have hw : r21 = a0_1_1 := hw
    have hw := hw.symm
    subst hw
    have hFe : FX = (a0_1_1.toInt, v21na0_8.toInt) := hF0
    exact W.iret (v := a0_1_1) hx hb hr (fun t ht hW => ⟨⟨a0_1_1, (), rfl, ⟨⟨(Int.le_trans (by decide : (-1 : Int) ≤ 0) ba0_1_1_l), ba0_1_1_u⟩, (congrArg Prod.fst hFe).symm⟩, v21na0_8, (congrArg Prod.snd hFe), by rw [ht]; exact hP, va_K.moved hW.alike hK, hD⟩, hS.F ht⟩) hS.2.2 dX7_alive_24
  · obtain ⟨hw, h1_0, h1_1⟩ := hw
    subst hw
    have l1k1_a0_7_0 : (0 : Int) ≤ a0_7_0.toInt := ba0_7_0_l
    have u1k1_a0_7_0 : a0_7_0.toInt ≤ (0 : Int) := h1_1
    have hF0 := hF0.trans (if_neg (by decide))
    refine lv_if_ne (tgt := 13) hx hb dX7_alive_4 (by decide) (fun c4 => absurd (by decide +kernel) c4) (fun _ => ?_)
    refine lv_aload_n hx hb dX7_alive_7 rfl (lv_at hl 0 rfl) ?_
    refine lv_iconst (v := 1) hx hb dX7_alive_8 (by decide) ?_
    have hPc := hP.sub (ws' := [(a0, .inr (7, [a0g 0, .ref a0_1, a0g 2, a0g 3, a0g 4, a0g 5, a0g 6, .ref a0_7, .int a0_8, a0g 9, a0g 10]))]) [0] rfl
    have hDc := hD.sub (ws' := [(a0, .inr (7, [a0g 0, .ref a0_1, a0g 2, a0g 3, a0g 4, a0g 5, a0g 6, .ref a0_7, .int a0_8, a0g 9, a0g 10]))]) [0] (by decide) rfl
    have hKc := hK.sub (tys' := []) [] rfl
    have hFc := va_free (wc := [(a0, .inr (7, [a0g 0, .ref a0_1, a0g 2, a0g 3, a0g 4, a0g 5, a0g 6, .ref a0_7, .int a0_8, a0g 9, a0g 10]))]) hD hS hA [0] rfl
    refine va_calli (va_runV (As := [.int 1]) (rest := []) ⟨hx, hb, hml, hown, hts⟩ (f_X7_refused l dC dI H.size a0 1 (fun i9 => ([a0g 0, .ref a0_1, a0g 2, a0g 3, a0g 4, a0g 5, a0g 6, .ref a0_7, .null, a0g 9, a0g 10] : List Value).getD i9 .null) a0_8 ) (cwV 1 hts gX7_alive_X7_refused rfl rfl rfl (by decide +kernel) ⟨Nat.le_of_ble_eq_true rfl, Nat.le_of_ble_eq_true rfl⟩) ⟨ax_blind (fun _ _ _ _ _ => trivial), va_recv hKc hPc (ci := 7) (q0 := 0) rfl rfl, ax_pre hPc hKc hDc (fun _ _ => trivial)⟩ rfl rfl hl.1 rfl (lv_room (Nat.le_of_ble_eq_true rfl)) dX7_alive_9 ⟨Nat.le_of_ble_eq_true rfl, Nat.le_of_ble_eq_true rfl⟩) hS (fun q _ h => hFc q h) hFc (fun r9 u t H1 locs ht hvm hw hB hz1 hk1 hS => ?_)
    obtain ⟨v9na0_8, hraw9_0, hP1, hK1, hD1⟩ := hB
    rw [ht] at hP1
    obtain ⟨hP, hD⟩ := va_join (wr := [(a0_7, .inr (0, [.int a0_7_0, a0_7g 1, a0_7g 2, a0_7g 3, a0_7g 4, a0_7g 5, a0_7g 6, a0_7g 7, a0_7g 8, a0_7g 9, a0_7g 10, a0_7g 11, a0_7g 12, a0_7g 13, a0_7g 14])), (a0_1, .inr (5, [a0_1g 0, .int a0_1_1, a0_1g 2, a0_1g 3, a0_1g 4, a0_1g 5, a0_1g 6]))]) (w1 := [(a0, .inr (7, [a0g 0, .ref a0_1, a0g 2, a0g 3, a0g 4, a0g 5, a0g 6, .ref a0_7, .int v9na0_8, a0g 9, a0g 10]))]) hP hD [0] [1, 2] rfl rfl (by decide) (by decide) hk1 hFc hP1 hD1
    generalize H1 = H at hP hS ⊢
    have hP : va_P (dC, dI) vwCl [(a0, .inr (7, [a0g 0, .ref a0_1, a0g 2, a0g 3, a0g 4, a0g 5, a0g 6, .ref a0_7, .int v9na0_8, a0g 9, a0g 10])), (a0_7, .inr (0, [.int a0_7_0, a0_7g 1, a0_7g 2, a0_7g 3, a0_7g 4, a0_7g 5, a0_7g 6, a0_7g 7, a0_7g 8, a0_7g 9, a0_7g 10, a0_7g 11, a0_7g 12, a0_7g 13, a0_7g 14])), (a0_1, .inr (5, [a0_1g 0, .int a0_1_1, a0_1g 2, a0_1g 3, a0_1g 4, a0_1g 5, a0_1g 6]))] H := hP.sub [2, 0, 1] rfl
    have hD : va_D A [(a0, .inr (7, [a0g 0, .ref a0_1, a0g 2, a0g 3, a0g 4, a0g 5, a0g 6, .ref a0_7, .int v9na0_8, a0g 9, a0g 10])), (a0_7, .inr (0, [.int a0_7_0, a0_7g 1, a0_7g 2, a0_7g 3, a0_7g 4, a0_7g 5, a0_7g 6, a0_7g 7, a0_7g 8, a0_7g 9, a0_7g 10, a0_7g 11, a0_7g 12, a0_7g 13, a0_7g 14])), (a0_1, .inr (5, [a0_1g 0, .int a0_1_1, a0_1g 2, a0_1g 3, a0_1g 4, a0_1g 5, a0_1g 6]))] := hD.sub [2, 0, 1] (by decide) rfl
    obtain ⟨hw, hfr9⟩ := hw
    rw [show (1 : Int32).toInt = 1 from by decide] at hfr9 hraw9_0
    have hc9 : Ff_X7_refused 1 = (r9.toInt, v9na0_8.toInt) := Prod.ext hfr9.symm hraw9_0
    have hF0 := hF0.trans (fl_c2_eq hc9)
    have hw : r9 = (-1) := hw
    have hw := hw.symm
    subst hw
    have hFe : FX = ((-1), v9na0_8.toInt) := hF0
    exact W.iret (v := (-1)) hx hb hr (fun t ht hW => ⟨⟨(-1), (), rfl, ⟨⟨(by decide : (-1 : Int) ≤ ((-1) : Int32).toInt), (Int.le_trans (by decide : ((-1) : Int32).toInt ≤ (-1 : Int)) (by decide : (-1 : Int) ≤ 8))⟩, (congrArg Prod.fst hFe).symm⟩, v9na0_8, (congrArg Prod.snd hFe), by rw [ht]; exact hP, va_K.moved hW.alike hK, hD⟩, hS.F ht⟩) hS.2.2 dX7_alive_12

set_option maxHeartbeats 4000000 in
set_option maxRecDepth 100000 in
theorem f_X8_alive (l : Launch) (dC : Nat → ClassId) (dI : Nat → Nat → Nat) (sz : Nat) (a0 : Nat) (a0_0 : Int32) (a0g : Nat → Value) (a0_11 : Int32) (a0_14 : Int32) (a0_17 : Nat) (ka0_17 : ClassId) (fa0_17 : Nat → Int32) (ba0_14_l : (1 : Int) ≤ a0_14.toInt) (ba0_14_u : a0_14.toInt ≤ (1 : Int)) (bfa0_17 : ((∀ k : Nat, 0 ≤ k → k ≤ 8 → (0 : Int) ≤ (fa0_17 k).toInt ∧ (fa0_17 k).toInt ≤ 8) ∧ (∀ k : Nat, 19 ≤ k → k ≤ 19 → (0 : Int) ≤ (fa0_17 k).toInt ∧ (fa0_17 k).toInt ≤ 8) ∧ (∀ k : Nat, 20 ≤ k → k ≤ 20 → (0 : Int) ≤ (fa0_17 k).toInt ∧ (fa0_17 k).toInt ≤ 19))) : Met l yX8_alive wsX8_alive ({ frames := 1, cells := 0, slots := 0, locals := 20 }) (va_Pc [.ref a0] (ax_C dC dI sz [(a0, .inr (8, [Value.int a0_0, a0g 1, a0g 2, a0g 3, a0g 4, a0g 5, a0g 6, a0g 7, a0g 8, a0g 9, a0g 10, Value.int a0_11, a0g 12, a0g 13, Value.int a0_14, a0g 15, a0g 16, Value.ref a0_17, a0g 18, a0g 19, a0g 20, a0g 21, a0g 22, a0g 23, a0g 24, a0g 25, a0g 26, a0g 27, a0g 28, a0g 29, a0g 30, a0g 31, a0g 32, a0g 33, a0g 34, a0g 35, a0g 36, a0g 37, a0g 38, a0g 39])), (a0_17, .inl (ka0_17, 23, .inl (fa0_17)))] [(ka0_17, .int)] (fun _ => True))) (va_Qi (fun (r : Int32) (_ : Unit) => ((0 : Int) ≤ r.toInt ∧ r.toInt ≤ (8 : Int)) ∧ r.toInt = (Ff_X8_alive a0_14.toInt (fl_A fa0_17)).1) (fun (_ : Unit) (t : State) => ∃ na0_0 : Int32, ∃ na0_11 : Int32, ((Ff_X8_alive a0_14.toInt (fl_A fa0_17)).2 = (na0_0.toInt, na0_11.toInt)) ∧ ax_B dC dI (va_A [(a0, .inr (8, [Value.int a0_0, a0g 1, a0g 2, a0g 3, a0g 4, a0g 5, a0g 6, a0g 7, a0g 8, a0g 9, a0g 10, Value.int a0_11, a0g 12, a0g 13, Value.int a0_14, a0g 15, a0g 16, Value.ref a0_17, a0g 18, a0g 19, a0g 20, a0g 21, a0g 22, a0g 23, a0g 24, a0g 25, a0g 26, a0g 27, a0g 28, a0g 29, a0g 30, a0g 31, a0g 32, a0g 33, a0g 34, a0g 35, a0g 36, a0g 37, a0g 38, a0g 39])), (a0_17, .inl (ka0_17, 23, .inl (fa0_17)))] sz) [(a0, .inr (8, [Value.int na0_0, a0g 1, a0g 2, a0g 3, a0g 4, a0g 5, a0g 6, a0g 7, a0g 8, a0g 9, a0g 10, Value.int na0_11, a0g 12, a0g 13, Value.int a0_14, a0g 15, a0g 16, Value.ref a0_17, a0g 18, a0g 19, a0g 20, a0g 21, a0g 22, a0g 23, a0g 24, a0g 25, a0g 26, a0g 27, a0g 28, a0g 29, a0g 30, a0g 31, a0g 32, a0g 33, a0g 34, a0g 35, a0g 36, a0g 37, a0g 38, a0g 39])), (a0_17, .inl (ka0_17, 23, .inl (fa0_17)))] [(ka0_17, .int)] t) (va_A [(a0, .inr (8, [Value.int a0_0, a0g 1, a0g 2, a0g 3, a0g 4, a0g 5, a0g 6, a0g 7, a0g 8, a0g 9, a0g 10, Value.int a0_11, a0g 12, a0g 13, Value.int a0_14, a0g 15, a0g 16, Value.ref a0_17, a0g 18, a0g 19, a0g 20, a0g 21, a0g 22, a0g 23, a0g 24, a0g 25, a0g 26, a0g 27, a0g 28, a0g 29, a0g 30, a0g 31, a0g 32, a0g 33, a0g 34, a0g 35, a0g 36, a0g 37, a0g 38, a0g 39])), (a0_17, .inl (ka0_17, 23, .inl (fa0_17)))] sz)) 0 0 (va_A [(a0, .inr (8, [Value.int a0_0, a0g 1, a0g 2, a0g 3, a0g 4, a0g 5, a0g 6, a0g 7, a0g 8, a0g 9, a0g 10, Value.int a0_11, a0g 12, a0g 13, Value.int a0_14, a0g 15, a0g 16, Value.ref a0_17, a0g 18, a0g 19, a0g 20, a0g 21, a0g 22, a0g 23, a0g 24, a0g 25, a0g 26, a0g 27, a0g 28, a0g 29, a0g 30, a0g 31, a0g 32, a0g 33, a0g 34, a0g 35, a0g 36, a0g 37, a0g 38, a0g 39])), (a0_17, .inl (ka0_17, 23, .inl (fa0_17)))] sz) := by
  refine Met.ofW (cc := cX8_alive) (maxL := 1) (ret := (some .int)) (by decide) rfl ?_
  intro p e s m args below meth c s₁ B hml hv
  obtain ⟨rfl, hsz, hP, hK, hD0, hE⟩ := hv
  have hx := B.exec
  have hb := B.bytes
  have hr := B.returns
  have hts := atoms_spec (ws := wsX8_alive) B.pre
  have hown : s.vm.findClass RX8 = some m.cls := findClass_of_methodNamed B.named
  have hlocks := B.notSynchronized
  subst hsz
  have hD := hD0.self (sz := s.heap.size)
  generalize hAe : va_A [(a0, .inr (8, [Value.int a0_0, a0g 1, a0g 2, a0g 3, a0g 4, a0g 5, a0g 6, a0g 7, a0g 8, a0g 9, a0g 10, Value.int a0_11, a0g 12, a0g 13, Value.int a0_14, a0g 15, a0g 16, Value.ref a0_17, a0g 18, a0g 19, a0g 20, a0g 21, a0g 22, a0g 23, a0g 24, a0g 25, a0g 26, a0g 27, a0g 28, a0g 29, a0g 30, a0g 31, a0g 32, a0g 33, a0g 34, a0g 35, a0g 36, a0g 37, a0g 38, a0g 39])), (a0_17, .inl (ka0_17, 23, .inl (fa0_17)))] s.heap.size = A at hD ⊢
  have hA : ∀ q : Nat, s.heap.size ≤ q → A q := fun q h => by rw [← hAe]; exact Or.inr h
  have hS : va_S A s.heap s.heap [] := va_S.rf
  have hP : va_P (dC, dI) vwCl [(a0, .inr (8, [Value.int a0_0, a0g 1, a0g 2, a0g 3, a0g 4, a0g 5, a0g 6, a0g 7, a0g 8, a0g 9, a0g 10, Value.int a0_11, a0g 12, a0g 13, Value.int a0_14, a0g 15, a0g 16, Value.ref a0_17, a0g 18, a0g 19, a0g 20, a0g 21, a0g 22, a0g 23, a0g 24, a0g 25, a0g 26, a0g 27, a0g 28, a0g 29, a0g 30, a0g 31, a0g 32, a0g 33, a0g 34, a0g 35, a0g 36, a0g 37, a0g 38, a0g 39])), (a0_17, .inl (ka0_17, 23, .inl (fa0_17)))] s.heap := hP
  have hl := lv_entry ([.ref a0]) (n := 1) (Nat.le_of_ble_eq_true rfl)
  rw [lg_entry_eq]
  generalize (lg_sl ([.ref a0]) ++ List.replicate (1 - (lg_sl ([.ref a0])).length) Slot.unset).toArray = ls at hl ⊢
  have hl : lv_has ls 1 [(0, .ref a0)] := hl
  generalize hFX : Ff_X8_alive a0_14.toInt (fl_A fa0_17) = FX at ⊢
  have hF0 := hFX.symm.trans (Ff_X8_alive.eq_1 a0_14.toInt (fl_A fa0_17))
  refine lv_aload_n hx hb dX8_alive_0 rfl (lv_at hl 0 rfl) ?_
  have hPc := hP.sub (ws' := [(a0, .inr (8, [Value.int a0_0, a0g 1, a0g 2, a0g 3, a0g 4, a0g 5, a0g 6, a0g 7, a0g 8, a0g 9, a0g 10, Value.int a0_11, a0g 12, a0g 13, Value.int a0_14, a0g 15, a0g 16, Value.ref a0_17, a0g 18, a0g 19, a0g 20, a0g 21, a0g 22, a0g 23, a0g 24, a0g 25, a0g 26, a0g 27, a0g 28, a0g 29, a0g 30, a0g 31, a0g 32, a0g 33, a0g 34, a0g 35, a0g 36, a0g 37, a0g 38, a0g 39]))]) [0] rfl
  have hDc := hD.sub (ws' := [(a0, .inr (8, [Value.int a0_0, a0g 1, a0g 2, a0g 3, a0g 4, a0g 5, a0g 6, a0g 7, a0g 8, a0g 9, a0g 10, Value.int a0_11, a0g 12, a0g 13, Value.int a0_14, a0g 15, a0g 16, Value.ref a0_17, a0g 18, a0g 19, a0g 20, a0g 21, a0g 22, a0g 23, a0g 24, a0g 25, a0g 26, a0g 27, a0g 28, a0g 29, a0g 30, a0g 31, a0g 32, a0g 33, a0g 34, a0g 35, a0g 36, a0g 37, a0g 38, a0g 39]))]) [0] (by decide) rfl
  have hKc := hK.sub (tys' := []) [] rfl
  have hFc := va_free (wc := [(a0, .inr (8, [Value.int a0_0, a0g 1, a0g 2, a0g 3, a0g 4, a0g 5, a0g 6, a0g 7, a0g 8, a0g 9, a0g 10, Value.int a0_11, a0g 12, a0g 13, Value.int a0_14, a0g 15, a0g 16, Value.ref a0_17, a0g 18, a0g 19, a0g 20, a0g 21, a0g 22, a0g 23, a0g 24, a0g 25, a0g 26, a0g 27, a0g 28, a0g 29, a0g 30, a0g 31, a0g 32, a0g 33, a0g 34, a0g 35, a0g 36, a0g 37, a0g 38, a0g 39]))]) hD hS hA [0] rfl
  refine va_callv (va_runV (As := []) (rest := []) ⟨hx, hb, hml, hown, hts⟩ (f_X8_good l dC dI s.heap.size a0 a0_0 (fun i9 => ([Value.null, a0g 1, a0g 2, a0g 3, a0g 4, a0g 5, a0g 6, a0g 7, a0g 8, a0g 9, a0g 10, Value.null, a0g 12, a0g 13, Value.int a0_14, a0g 15, a0g 16, Value.ref a0_17, a0g 18, a0g 19, a0g 20, a0g 21, a0g 22, a0g 23, a0g 24, a0g 25, a0g 26, a0g 27, a0g 28, a0g 29, a0g 30, a0g 31, a0g 32, a0g 33, a0g 34, a0g 35, a0g 36, a0g 37, a0g 38, a0g 39] : List Value).getD i9 .null) a0_11 ) (cwV 0 hts gX8_alive_X8_good rfl rfl rfl (by decide +kernel) ⟨Nat.le_of_ble_eq_true rfl, Nat.le_of_ble_eq_true rfl⟩) ⟨ax_blind (fun _ _ _ _ _ => trivial), va_recv hKc hPc (ci := 8) (q0 := 0) rfl rfl, ax_pre hPc hKc hDc (fun _ _ => trivial)⟩ rfl rfl hl.1 rfl (lv_room (Nat.le_of_ble_eq_true rfl)) dX8_alive_1 ⟨Nat.le_of_ble_eq_true rfl, Nat.le_of_ble_eq_true rfl⟩) hS (fun q _ h => hFc q h) hFc (fun u t H1 locs ht hvm hw hB hz1 hk1 hS => ?_)
  obtain ⟨v1na0_0, v1na0_11, hraw1_0, hP1, hK1, hD1⟩ := hB
  rw [ht] at hP1
  obtain ⟨hP, hD⟩ := va_join (wr := [(a0_17, .inl (ka0_17, 23, .inl (fa0_17)))]) (w1 := [(a0, .inr (8, [Value.int v1na0_0, a0g 1, a0g 2, a0g 3, a0g 4, a0g 5, a0g 6, a0g 7, a0g 8, a0g 9, a0g 10, Value.int v1na0_11, a0g 12, a0g 13, Value.int a0_14, a0g 15, a0g 16, Value.ref a0_17, a0g 18, a0g 19, a0g 20, a0g 21, a0g 22, a0g 23, a0g 24, a0g 25, a0g 26, a0g 27, a0g 28, a0g 29, a0g 30, a0g 31, a0g 32, a0g 33, a0g 34, a0g 35, a0g 36, a0g 37, a0g 38, a0g 39]))]) hP hD [0] [1] rfl rfl (by decide) (by decide) hk1 hFc hP1 hD1
  generalize H1 = H at hP hS ⊢
  have hP : va_P (dC, dI) vwCl [(a0, .inr (8, [Value.int v1na0_0, a0g 1, a0g 2, a0g 3, a0g 4, a0g 5, a0g 6, a0g 7, a0g 8, a0g 9, a0g 10, Value.int v1na0_11, a0g 12, a0g 13, Value.int a0_14, a0g 15, a0g 16, Value.ref a0_17, a0g 18, a0g 19, a0g 20, a0g 21, a0g 22, a0g 23, a0g 24, a0g 25, a0g 26, a0g 27, a0g 28, a0g 29, a0g 30, a0g 31, a0g 32, a0g 33, a0g 34, a0g 35, a0g 36, a0g 37, a0g 38, a0g 39])), (a0_17, .inl (ka0_17, 23, .inl (fa0_17)))] H := hP.sub [1, 0] rfl
  have hD : va_D A [(a0, .inr (8, [Value.int v1na0_0, a0g 1, a0g 2, a0g 3, a0g 4, a0g 5, a0g 6, a0g 7, a0g 8, a0g 9, a0g 10, Value.int v1na0_11, a0g 12, a0g 13, Value.int a0_14, a0g 15, a0g 16, Value.ref a0_17, a0g 18, a0g 19, a0g 20, a0g 21, a0g 22, a0g 23, a0g 24, a0g 25, a0g 26, a0g 27, a0g 28, a0g 29, a0g 30, a0g 31, a0g 32, a0g 33, a0g 34, a0g 35, a0g 36, a0g 37, a0g 38, a0g 39])), (a0_17, .inl (ka0_17, 23, .inl (fa0_17)))] := hD.sub [1, 0] (by decide) rfl
  have hc1 : Ff_X8_good = (v1na0_0.toInt, v1na0_11.toInt) := hraw1_0
  have hF0 := hF0.trans (fl_c2_eq hc1)
  refine lv_aload_n hx hb dX8_alive_4 rfl (lv_at hl 0 rfl) ?_
  refine va_get (D := (dC, dI)) (ci := 8) (v := .int a0_14) (C := RX8) (T := TX8) (N := 40) hx hb hts (by decide +kernel) hown hK hP 0 rfl rfl 14 (by decide) (hts (.fieldLink RX8 173 "WaxTurnsModel" "hasGallery" "Z") (by decide +kernel)) (fun _ h9 => h9) rfl dX8_alive_5 ?_
  refine lv_if_eq (tgt := 21) hx hb dX8_alive_8 (by decide) (fun c8 => ?_) (fun c8 => ?_)
  · have gc8 := ai_eq c8
    have u8t_a0_14 : a0_14.toInt ≤ (0 : Int) := Int.le_trans (Int.le_of_eq gc8) (by decide : (0 : Int32).toInt ≤ (0 : Int))
    have l8t_a0_14 : (1 : Int) ≤ a0_14.toInt := ba0_14_l
    exact absurd (Int.le_trans l8t_a0_14 u8t_a0_14) (by decide)
  · have gc8 := ai_ne c8
    have hF0 := hF0.trans (if_neg (show ¬ (a0_14.toInt = 0) from  gc8))
    refine lv_aload_n hx hb dX8_alive_11 rfl (lv_at hl 0 rfl) ?_
    refine va_get (D := (dC, dI)) (ci := 8) (v := .ref a0_17) (C := RX8) (T := TX8) (N := 40) hx hb hts (by decide +kernel) hown hK hP 0 rfl rfl 17 (by decide) (hts (.fieldLink RX8 26 "WaxTurnsModel" "st" "[I") (by decide +kernel)) (fun _ h9 => h9) rfl dX8_alive_12 ?_
    refine lv_bipush (v := 19) hx hb dX8_alive_15 (by decide) ?_
    refine va_iald hx hb hK hP 1 0 rfl rfl (by unfold vp_in; decide +kernel) dX8_alive_17 ?_
    refine lv_topi (fun x17 ex17 => ?_)
    have bx17 : (0 : Int) ≤ x17.toInt ∧ x17.toInt ≤ 8 := by rw [ex17]; exact ai_rd bfa0_17.2.1 (by decide : (19 : Int) ≤ (19 : Int32).toInt) (by decide : (19 : Int32).toInt ≤ (19 : Int)) (by decide) (by decide) (by decide)
    have fqx17 := congrArg Int32.toInt ex17
    have hF0 := hF0.trans (fl_lt_eq (show x17.toInt = (fl_A fa0_17) (19) from fqx17))
    refine lv_goto (tgt := 26) hx hb dX8_alive_18 (by decide) ?_
    have hFe : FX = (x17.toInt, v1na0_0.toInt, v1na0_11.toInt) := hF0
    exact W.iret (v := x17) hx hb hr (fun t ht hW => ⟨⟨x17, (), rfl, ⟨⟨bx17.1, bx17.2⟩, (congrArg Prod.fst hFe).symm⟩, v1na0_0, v1na0_11, (congrArg Prod.snd hFe), by rw [ht]; exact hP, va_K.moved hW.alike hK, hD⟩, hS.F ht⟩) hS.2.2 dX8_alive_26

set_option maxHeartbeats 4000000 in
set_option maxRecDepth 100000 in
theorem f0_X8_alive (l : Launch) (dC : Nat → ClassId) (dI : Nat → Nat → Nat) (sz : Nat) (a0 : Nat) (a0_0 : Int32) (a0g : Nat → Value) (a0_11 : Int32) (a0_14 : Int32) (ba0_14_l : (0 : Int) ≤ a0_14.toInt) (ba0_14_u : a0_14.toInt ≤ (0 : Int)) : Met l yX8_alive wsX8_alive ({ frames := 1, cells := 0, slots := 0, locals := 21 }) (va_Pc [.ref a0] (ax_C dC dI sz [(a0, .inr (8, [Value.int a0_0, a0g 1, a0g 2, a0g 3, a0g 4, a0g 5, a0g 6, a0g 7, a0g 8, a0g 9, a0g 10, Value.int a0_11, a0g 12, a0g 13, Value.int a0_14, a0g 15, a0g 16, a0g 17, a0g 18, a0g 19, a0g 20, a0g 21, a0g 22, a0g 23, a0g 24, a0g 25, a0g 26, a0g 27, a0g 28, a0g 29, a0g 30, a0g 31, a0g 32, a0g 33, a0g 34, a0g 35, a0g 36, a0g 37, a0g 38, a0g 39]))] [] (fun _ => True))) (va_Qi (fun (r : Int32) (_ : Unit) => (r = (-1)) ∧ r.toInt = (Ff0_X8_alive a0_14.toInt).1) (fun (_ : Unit) (t : State) => ∃ na0_0 : Int32, ∃ na0_11 : Int32, ((Ff0_X8_alive a0_14.toInt).2 = (na0_0.toInt, na0_11.toInt)) ∧ ax_B dC dI (va_A [(a0, .inr (8, [Value.int a0_0, a0g 1, a0g 2, a0g 3, a0g 4, a0g 5, a0g 6, a0g 7, a0g 8, a0g 9, a0g 10, Value.int a0_11, a0g 12, a0g 13, Value.int a0_14, a0g 15, a0g 16, a0g 17, a0g 18, a0g 19, a0g 20, a0g 21, a0g 22, a0g 23, a0g 24, a0g 25, a0g 26, a0g 27, a0g 28, a0g 29, a0g 30, a0g 31, a0g 32, a0g 33, a0g 34, a0g 35, a0g 36, a0g 37, a0g 38, a0g 39]))] sz) [(a0, .inr (8, [Value.int na0_0, a0g 1, a0g 2, a0g 3, a0g 4, a0g 5, a0g 6, a0g 7, a0g 8, a0g 9, a0g 10, Value.int na0_11, a0g 12, a0g 13, Value.int a0_14, a0g 15, a0g 16, a0g 17, a0g 18, a0g 19, a0g 20, a0g 21, a0g 22, a0g 23, a0g 24, a0g 25, a0g 26, a0g 27, a0g 28, a0g 29, a0g 30, a0g 31, a0g 32, a0g 33, a0g 34, a0g 35, a0g 36, a0g 37, a0g 38, a0g 39]))] [] t) (va_A [(a0, .inr (8, [Value.int a0_0, a0g 1, a0g 2, a0g 3, a0g 4, a0g 5, a0g 6, a0g 7, a0g 8, a0g 9, a0g 10, Value.int a0_11, a0g 12, a0g 13, Value.int a0_14, a0g 15, a0g 16, a0g 17, a0g 18, a0g 19, a0g 20, a0g 21, a0g 22, a0g 23, a0g 24, a0g 25, a0g 26, a0g 27, a0g 28, a0g 29, a0g 30, a0g 31, a0g 32, a0g 33, a0g 34, a0g 35, a0g 36, a0g 37, a0g 38, a0g 39]))] sz)) 0 0 (va_A [(a0, .inr (8, [Value.int a0_0, a0g 1, a0g 2, a0g 3, a0g 4, a0g 5, a0g 6, a0g 7, a0g 8, a0g 9, a0g 10, Value.int a0_11, a0g 12, a0g 13, Value.int a0_14, a0g 15, a0g 16, a0g 17, a0g 18, a0g 19, a0g 20, a0g 21, a0g 22, a0g 23, a0g 24, a0g 25, a0g 26, a0g 27, a0g 28, a0g 29, a0g 30, a0g 31, a0g 32, a0g 33, a0g 34, a0g 35, a0g 36, a0g 37, a0g 38, a0g 39]))] sz) := by
  refine Met.ofW (cc := cX8_alive) (maxL := 1) (ret := (some .int)) (by decide) rfl ?_
  intro p e s m args below meth c s₁ B hml hv
  obtain ⟨rfl, hsz, hP, hK, hD0, hE⟩ := hv
  have hx := B.exec
  have hb := B.bytes
  have hr := B.returns
  have hts := atoms_spec (ws := wsX8_alive) B.pre
  have hown : s.vm.findClass RX8 = some m.cls := findClass_of_methodNamed B.named
  have hlocks := B.notSynchronized
  subst hsz
  have hD := hD0.self (sz := s.heap.size)
  generalize hAe : va_A [(a0, .inr (8, [Value.int a0_0, a0g 1, a0g 2, a0g 3, a0g 4, a0g 5, a0g 6, a0g 7, a0g 8, a0g 9, a0g 10, Value.int a0_11, a0g 12, a0g 13, Value.int a0_14, a0g 15, a0g 16, a0g 17, a0g 18, a0g 19, a0g 20, a0g 21, a0g 22, a0g 23, a0g 24, a0g 25, a0g 26, a0g 27, a0g 28, a0g 29, a0g 30, a0g 31, a0g 32, a0g 33, a0g 34, a0g 35, a0g 36, a0g 37, a0g 38, a0g 39]))] s.heap.size = A at hD ⊢
  have hA : ∀ q : Nat, s.heap.size ≤ q → A q := fun q h => by rw [← hAe]; exact Or.inr h
  have hS : va_S A s.heap s.heap [] := va_S.rf
  have hP : va_P (dC, dI) vwCl [(a0, .inr (8, [Value.int a0_0, a0g 1, a0g 2, a0g 3, a0g 4, a0g 5, a0g 6, a0g 7, a0g 8, a0g 9, a0g 10, Value.int a0_11, a0g 12, a0g 13, Value.int a0_14, a0g 15, a0g 16, a0g 17, a0g 18, a0g 19, a0g 20, a0g 21, a0g 22, a0g 23, a0g 24, a0g 25, a0g 26, a0g 27, a0g 28, a0g 29, a0g 30, a0g 31, a0g 32, a0g 33, a0g 34, a0g 35, a0g 36, a0g 37, a0g 38, a0g 39]))] s.heap := hP
  have hl := lv_entry ([.ref a0]) (n := 1) (Nat.le_of_ble_eq_true rfl)
  rw [lg_entry_eq]
  generalize (lg_sl ([.ref a0]) ++ List.replicate (1 - (lg_sl ([.ref a0])).length) Slot.unset).toArray = ls at hl ⊢
  have hl : lv_has ls 1 [(0, .ref a0)] := hl
  generalize hFX : Ff0_X8_alive a0_14.toInt = FX at ⊢
  have hF0 := hFX.symm.trans (Ff0_X8_alive.eq_1 a0_14.toInt)
  refine lv_aload_n hx hb dX8_alive_0 rfl (lv_at hl 0 rfl) ?_
  have hPc := hP.sub (ws' := [(a0, .inr (8, [Value.int a0_0, a0g 1, a0g 2, a0g 3, a0g 4, a0g 5, a0g 6, a0g 7, a0g 8, a0g 9, a0g 10, Value.int a0_11, a0g 12, a0g 13, Value.int a0_14, a0g 15, a0g 16, a0g 17, a0g 18, a0g 19, a0g 20, a0g 21, a0g 22, a0g 23, a0g 24, a0g 25, a0g 26, a0g 27, a0g 28, a0g 29, a0g 30, a0g 31, a0g 32, a0g 33, a0g 34, a0g 35, a0g 36, a0g 37, a0g 38, a0g 39]))]) [0] rfl
  have hDc := hD.sub (ws' := [(a0, .inr (8, [Value.int a0_0, a0g 1, a0g 2, a0g 3, a0g 4, a0g 5, a0g 6, a0g 7, a0g 8, a0g 9, a0g 10, Value.int a0_11, a0g 12, a0g 13, Value.int a0_14, a0g 15, a0g 16, a0g 17, a0g 18, a0g 19, a0g 20, a0g 21, a0g 22, a0g 23, a0g 24, a0g 25, a0g 26, a0g 27, a0g 28, a0g 29, a0g 30, a0g 31, a0g 32, a0g 33, a0g 34, a0g 35, a0g 36, a0g 37, a0g 38, a0g 39]))]) [0] (by decide) rfl
  have hKc := hK.sub (tys' := []) [] rfl
  have hFc := va_free (wc := [(a0, .inr (8, [Value.int a0_0, a0g 1, a0g 2, a0g 3, a0g 4, a0g 5, a0g 6, a0g 7, a0g 8, a0g 9, a0g 10, Value.int a0_11, a0g 12, a0g 13, Value.int a0_14, a0g 15, a0g 16, a0g 17, a0g 18, a0g 19, a0g 20, a0g 21, a0g 22, a0g 23, a0g 24, a0g 25, a0g 26, a0g 27, a0g 28, a0g 29, a0g 30, a0g 31, a0g 32, a0g 33, a0g 34, a0g 35, a0g 36, a0g 37, a0g 38, a0g 39]))]) hD hS hA [0] rfl
  refine va_callv (va_runV (As := []) (rest := []) ⟨hx, hb, hml, hown, hts⟩ (f_X8_good l dC dI s.heap.size a0 a0_0 (fun i9 => ([Value.null, a0g 1, a0g 2, a0g 3, a0g 4, a0g 5, a0g 6, a0g 7, a0g 8, a0g 9, a0g 10, Value.null, a0g 12, a0g 13, Value.int a0_14, a0g 15, a0g 16, a0g 17, a0g 18, a0g 19, a0g 20, a0g 21, a0g 22, a0g 23, a0g 24, a0g 25, a0g 26, a0g 27, a0g 28, a0g 29, a0g 30, a0g 31, a0g 32, a0g 33, a0g 34, a0g 35, a0g 36, a0g 37, a0g 38, a0g 39] : List Value).getD i9 .null) a0_11 ) (cwV 0 hts gX8_alive_X8_good rfl rfl rfl (by decide +kernel) ⟨Nat.le_of_ble_eq_true rfl, Nat.le_of_ble_eq_true rfl⟩) ⟨ax_blind (fun _ _ _ _ _ => trivial), va_recv hKc hPc (ci := 8) (q0 := 0) rfl rfl, ax_pre hPc hKc hDc (fun _ _ => trivial)⟩ rfl rfl hl.1 rfl (lv_room (Nat.le_of_ble_eq_true rfl)) dX8_alive_1 ⟨Nat.le_of_ble_eq_true rfl, Nat.le_of_ble_eq_true rfl⟩) hS (fun q _ h => hFc q h) hFc (fun u t H1 locs ht hvm hw hB hz1 hk1 hS => ?_)
  obtain ⟨v1na0_0, v1na0_11, hraw1_0, hP1, hK1, hD1⟩ := hB
  rw [ht] at hP1
  obtain ⟨hP, hD⟩ := va_join (wr := []) (w1 := [(a0, .inr (8, [Value.int v1na0_0, a0g 1, a0g 2, a0g 3, a0g 4, a0g 5, a0g 6, a0g 7, a0g 8, a0g 9, a0g 10, Value.int v1na0_11, a0g 12, a0g 13, Value.int a0_14, a0g 15, a0g 16, a0g 17, a0g 18, a0g 19, a0g 20, a0g 21, a0g 22, a0g 23, a0g 24, a0g 25, a0g 26, a0g 27, a0g 28, a0g 29, a0g 30, a0g 31, a0g 32, a0g 33, a0g 34, a0g 35, a0g 36, a0g 37, a0g 38, a0g 39]))]) hP hD [0] [] rfl rfl (by decide) (by decide) hk1 hFc hP1 hD1
  generalize H1 = H at hP hS ⊢
  have hP : va_P (dC, dI) vwCl [(a0, .inr (8, [Value.int v1na0_0, a0g 1, a0g 2, a0g 3, a0g 4, a0g 5, a0g 6, a0g 7, a0g 8, a0g 9, a0g 10, Value.int v1na0_11, a0g 12, a0g 13, Value.int a0_14, a0g 15, a0g 16, a0g 17, a0g 18, a0g 19, a0g 20, a0g 21, a0g 22, a0g 23, a0g 24, a0g 25, a0g 26, a0g 27, a0g 28, a0g 29, a0g 30, a0g 31, a0g 32, a0g 33, a0g 34, a0g 35, a0g 36, a0g 37, a0g 38, a0g 39]))] H := hP
  have hD : va_D A [(a0, .inr (8, [Value.int v1na0_0, a0g 1, a0g 2, a0g 3, a0g 4, a0g 5, a0g 6, a0g 7, a0g 8, a0g 9, a0g 10, Value.int v1na0_11, a0g 12, a0g 13, Value.int a0_14, a0g 15, a0g 16, a0g 17, a0g 18, a0g 19, a0g 20, a0g 21, a0g 22, a0g 23, a0g 24, a0g 25, a0g 26, a0g 27, a0g 28, a0g 29, a0g 30, a0g 31, a0g 32, a0g 33, a0g 34, a0g 35, a0g 36, a0g 37, a0g 38, a0g 39]))] := hD
  have hc1 : Ff_X8_good = (v1na0_0.toInt, v1na0_11.toInt) := hraw1_0
  have hF0 := hF0.trans (fl_c2_eq hc1)
  refine lv_aload_n hx hb dX8_alive_4 rfl (lv_at hl 0 rfl) ?_
  refine va_get (D := (dC, dI)) (ci := 8) (v := .int a0_14) (C := RX8) (T := TX8) (N := 40) hx hb hts (by decide +kernel) hown hK hP 0 rfl rfl 14 (by decide) (hts (.fieldLink RX8 173 "WaxTurnsModel" "hasGallery" "Z") (by decide +kernel)) (fun _ h9 => h9) rfl dX8_alive_5 ?_
  refine lv_if_eq (tgt := 21) hx hb dX8_alive_8 (by decide) (fun c8 => ?_) (fun c8 => ?_)
  · have gc8 := ai_eq c8
    have u8t_a0_14 : a0_14.toInt ≤ (0 : Int) := ba0_14_u
    have l8t_a0_14 : (0 : Int) ≤ a0_14.toInt := ba0_14_l
    have hF0 := hF0.trans (if_pos (show a0_14.toInt = 0 from gc8))
    refine lv_aload_n hx hb dX8_alive_21 rfl (lv_at hl 0 rfl) ?_
    refine lv_iconst (v := 1) hx hb dX8_alive_22 (by decide) ?_
    have hPc := hP.sub (ws' := [(a0, .inr (8, [Value.int v1na0_0, a0g 1, a0g 2, a0g 3, a0g 4, a0g 5, a0g 6, a0g 7, a0g 8, a0g 9, a0g 10, Value.int v1na0_11, a0g 12, a0g 13, Value.int a0_14, a0g 15, a0g 16, a0g 17, a0g 18, a0g 19, a0g 20, a0g 21, a0g 22, a0g 23, a0g 24, a0g 25, a0g 26, a0g 27, a0g 28, a0g 29, a0g 30, a0g 31, a0g 32, a0g 33, a0g 34, a0g 35, a0g 36, a0g 37, a0g 38, a0g 39]))]) [0] rfl
    have hDc := hD.sub (ws' := [(a0, .inr (8, [Value.int v1na0_0, a0g 1, a0g 2, a0g 3, a0g 4, a0g 5, a0g 6, a0g 7, a0g 8, a0g 9, a0g 10, Value.int v1na0_11, a0g 12, a0g 13, Value.int a0_14, a0g 15, a0g 16, a0g 17, a0g 18, a0g 19, a0g 20, a0g 21, a0g 22, a0g 23, a0g 24, a0g 25, a0g 26, a0g 27, a0g 28, a0g 29, a0g 30, a0g 31, a0g 32, a0g 33, a0g 34, a0g 35, a0g 36, a0g 37, a0g 38, a0g 39]))]) [0] (by decide) rfl
    have hKc := hK.sub (tys' := []) [] rfl
    have hFc := va_free (wc := [(a0, .inr (8, [Value.int v1na0_0, a0g 1, a0g 2, a0g 3, a0g 4, a0g 5, a0g 6, a0g 7, a0g 8, a0g 9, a0g 10, Value.int v1na0_11, a0g 12, a0g 13, Value.int a0_14, a0g 15, a0g 16, a0g 17, a0g 18, a0g 19, a0g 20, a0g 21, a0g 22, a0g 23, a0g 24, a0g 25, a0g 26, a0g 27, a0g 28, a0g 29, a0g 30, a0g 31, a0g 32, a0g 33, a0g 34, a0g 35, a0g 36, a0g 37, a0g 38, a0g 39]))]) hD hS hA [0] rfl
    refine va_calli (va_runV (As := [.int 1]) (rest := []) ⟨hx, hb, hml, hown, hts⟩ (f_X8_no l dC dI H.size a0 1 (fun i9 => ([Value.int v1na0_0, a0g 1, a0g 2, a0g 3, a0g 4, a0g 5, a0g 6, a0g 7, a0g 8, a0g 9, a0g 10, Value.null, a0g 12, a0g 13, Value.int a0_14, a0g 15, a0g 16, a0g 17, a0g 18, a0g 19, a0g 20, a0g 21, a0g 22, a0g 23, a0g 24, a0g 25, a0g 26, a0g 27, a0g 28, a0g 29, a0g 30, a0g 31, a0g 32, a0g 33, a0g 34, a0g 35, a0g 36, a0g 37, a0g 38, a0g 39] : List Value).getD i9 .null) v1na0_11 ) (cwV 1 hts gX8_alive_X8_no rfl rfl rfl (by decide +kernel) ⟨Nat.le_of_ble_eq_true rfl, Nat.le_of_ble_eq_true rfl⟩) ⟨ax_blind (fun _ _ _ _ _ => trivial), va_recv hKc hPc (ci := 8) (q0 := 0) rfl rfl, ax_pre hPc hKc hDc (fun _ _ => trivial)⟩ rfl rfl hl.1 rfl (lv_room (Nat.le_of_ble_eq_true rfl)) dX8_alive_23 ⟨Nat.le_of_ble_eq_true rfl, Nat.le_of_ble_eq_true rfl⟩) hS (fun q _ h => hFc q h) hFc (fun r23 u t H1 locs ht hvm hw hB hz1 hk1 hS => ?_)
    obtain ⟨v23na0_11, hraw23_0, hP1, hK1, hD1⟩ := hB
    rw [ht] at hP1
    obtain ⟨hP, hD⟩ := va_join (wr := []) (w1 := [(a0, .inr (8, [Value.int v1na0_0, a0g 1, a0g 2, a0g 3, a0g 4, a0g 5, a0g 6, a0g 7, a0g 8, a0g 9, a0g 10, Value.int v23na0_11, a0g 12, a0g 13, Value.int a0_14, a0g 15, a0g 16, a0g 17, a0g 18, a0g 19, a0g 20, a0g 21, a0g 22, a0g 23, a0g 24, a0g 25, a0g 26, a0g 27, a0g 28, a0g 29, a0g 30, a0g 31, a0g 32, a0g 33, a0g 34, a0g 35, a0g 36, a0g 37, a0g 38, a0g 39]))]) hP hD [0] [] rfl rfl (by decide) (by decide) hk1 hFc hP1 hD1
    generalize H1 = H at hP hS ⊢
    have hP : va_P (dC, dI) vwCl [(a0, .inr (8, [Value.int v1na0_0, a0g 1, a0g 2, a0g 3, a0g 4, a0g 5, a0g 6, a0g 7, a0g 8, a0g 9, a0g 10, Value.int v23na0_11, a0g 12, a0g 13, Value.int a0_14, a0g 15, a0g 16, a0g 17, a0g 18, a0g 19, a0g 20, a0g 21, a0g 22, a0g 23, a0g 24, a0g 25, a0g 26, a0g 27, a0g 28, a0g 29, a0g 30, a0g 31, a0g 32, a0g 33, a0g 34, a0g 35, a0g 36, a0g 37, a0g 38, a0g 39]))] H := hP
    have hD : va_D A [(a0, .inr (8, [Value.int v1na0_0, a0g 1, a0g 2, a0g 3, a0g 4, a0g 5, a0g 6, a0g 7, a0g 8, a0g 9, a0g 10, Value.int v23na0_11, a0g 12, a0g 13, Value.int a0_14, a0g 15, a0g 16, a0g 17, a0g 18, a0g 19, a0g 20, a0g 21, a0g 22, a0g 23, a0g 24, a0g 25, a0g 26, a0g 27, a0g 28, a0g 29, a0g 30, a0g 31, a0g 32, a0g 33, a0g 34, a0g 35, a0g 36, a0g 37, a0g 38, a0g 39]))] := hD
    obtain ⟨hw, hfr23⟩ := hw
    rw [show (1 : Int32).toInt = 1 from by decide] at hfr23 hraw23_0
    have hc23 : Ff_X8_no 1 = (r23.toInt, v23na0_11.toInt) := Prod.ext hfr23.symm hraw23_0
    have hF0 := hF0.trans (fl_c2_eq hc23)
    have hw : r23 = (-1) := hw
    have hw := hw.symm
    subst hw
    have hFe : FX = ((-1), v1na0_0.toInt, v23na0_11.toInt) := hF0
    exact W.iret (v := (-1)) hx hb hr (fun t ht hW => ⟨⟨(-1), (), rfl, ⟨rfl, (congrArg Prod.fst hFe).symm⟩, v1na0_0, v23na0_11, (congrArg Prod.snd hFe), by rw [ht]; exact hP, va_K.moved hW.alike hK, hD⟩, hS.F ht⟩) hS.2.2 dX8_alive_26
  · have gc8 := ai_ne c8
    have l8f_a0_14 : (1 : Int) ≤ a0_14.toInt := (by have h1 := ba0_14_l; have h2 : (0 : Int32).toInt = 0 := (by decide); rw [h2] at gc8; omega)
    have u8f_a0_14 : a0_14.toInt ≤ (-1 : Int) := (by have h1 := ba0_14_u; have h2 : (0 : Int32).toInt = 0 := (by decide); rw [h2] at gc8; omega)
    exact absurd (Int.le_trans l8f_a0_14 u8f_a0_14) (by decide)
