set_option maxHeartbeats 4000000 in
set_option maxRecDepth 100000 in
theorem c_J6_bitCount_0f7a4 (l : Launch) (dC : Nat → ClassId) (dI : Nat → Nat → Nat) (sz : Nat) : Met l yJ6_bitCount_0f7a4 wsJ6_bitCount_0f7a4 ({ frames := 0, cells := 0, slots := 0, locals := 0 }) (va_Pc [.int 0] (ax_C dC dI sz [] [] (fun _ => True))) (va_Qi (fun (r : Int32) (_ : Unit) => r = 0) (fun (_ : Unit) (t : State) => ax_B dC dI (va_A [] sz) [] [] t) (va_A [] sz)) 0 0 (va_A [] sz) := by
  refine Met.ofW (cc := cJ6_bitCount_0f7a4) (maxL := 1) (ret := (some .int)) (by decide) rfl ?_
  intro p e s m args below meth c s₁ B hml hv
  obtain ⟨rfl, hsz, hP, hK, hD0, hE⟩ := hv
  have hx := B.exec
  have hb := B.bytes
  have hr := B.returns
  have hts := atoms_spec (ws := wsJ6_bitCount_0f7a4) B.pre
  have hown : s.vm.findClass RJ6 = some m.cls := findClass_of_methodNamed B.named
  have hlocks := B.notSynchronized
  subst hsz
  have hD := hD0.self (sz := s.heap.size)
  generalize hAe : va_A [] s.heap.size = A at hD ⊢
  have hA : ∀ q : Nat, s.heap.size ≤ q → A q := fun q h => by rw [← hAe]; exact Or.inr h
  have hS : va_S A s.heap s.heap [] := va_S.rf
  have hP : va_P (dC, dI) vwCl [] s.heap := hP
  have hl := lv_entry ([.int 0]) (n := 1) (Nat.le_of_ble_eq_true rfl)
  rw [lg_entry_eq]
  generalize (lg_sl ([.int 0]) ++ List.replicate (1 - (lg_sl ([.int 0])).length) Slot.unset).toArray = ls at hl ⊢
  have hl : lv_has ls 1 [(0, .int 0)] := hl
  refine lv_iload_n hx hb dJ6_bitCount_0f7a4_0 rfl (lv_at hl 0 rfl) ?_
  refine lv_iload_n hx hb dJ6_bitCount_0f7a4_1 rfl (lv_at hl 0 rfl) ?_
  refine lv_iconst (v := 1) hx hb dJ6_bitCount_0f7a4_2 (by decide) ?_
  refine lv_iushr hx hb dJ6_bitCount_0f7a4_3 rfl ?_
  refine ax_ti 0 (by decide +kernel) ?_
  refine lv_ldcw (v := 1431655765) hx hb hown (hts (.constant RJ6 265 (1431655765)) (by decide +kernel)) dJ6_bitCount_0f7a4_4 ?_
  refine lv_iand hx hb dJ6_bitCount_0f7a4_7 ?_
  refine ax_ti 0 (by decide +kernel) ?_
  refine lv_isub hx hb dJ6_bitCount_0f7a4_8 ?_
  refine ax_ti 0 (by decide +kernel) ?_
  refine lv_istore_n (lv' := [(0, .int 0)]) hx hb dJ6_bitCount_0f7a4_9 rfl hl (by decide) rfl (fun ls hl => ?_)
  refine lv_iload_n hx hb dJ6_bitCount_0f7a4_10 rfl (lv_at hl 0 rfl) ?_
  refine lv_ldcw (v := 858993459) hx hb hown (hts (.constant RJ6 266 (858993459)) (by decide +kernel)) dJ6_bitCount_0f7a4_11 ?_
  refine lv_iand hx hb dJ6_bitCount_0f7a4_14 ?_
  refine ax_ti 0 (by decide +kernel) ?_
  refine lv_iload_n hx hb dJ6_bitCount_0f7a4_15 rfl (lv_at hl 0 rfl) ?_
  refine lv_iconst (v := 2) hx hb dJ6_bitCount_0f7a4_16 (by decide) ?_
  refine lv_iushr hx hb dJ6_bitCount_0f7a4_17 rfl ?_
  refine ax_ti 0 (by decide +kernel) ?_
  refine lv_ldcw (v := 858993459) hx hb hown (hts (.constant RJ6 266 (858993459)) (by decide +kernel)) dJ6_bitCount_0f7a4_18 ?_
  refine lv_iand hx hb dJ6_bitCount_0f7a4_21 ?_
  refine ax_ti 0 (by decide +kernel) ?_
  refine lv_iadd hx hb dJ6_bitCount_0f7a4_22 ?_
  refine ax_ti 0 (by decide +kernel) ?_
  refine lv_istore_n (lv' := [(0, .int 0)]) hx hb dJ6_bitCount_0f7a4_23 rfl hl (by decide) rfl (fun ls hl => ?_)
  refine lv_iload_n hx hb dJ6_bitCount_0f7a4_24 rfl (lv_at hl 0 rfl) ?_
  refine lv_iload_n hx hb dJ6_bitCount_0f7a4_25 rfl (lv_at hl 0 rfl) ?_
  refine lv_iconst (v := 4) hx hb dJ6_bitCount_0f7a4_26 (by decide) ?_
  refine lv_iushr hx hb dJ6_bitCount_0f7a4_27 rfl ?_
  refine ax_ti 0 (by decide +kernel) ?_
  refine lv_iadd hx hb dJ6_bitCount_0f7a4_28 ?_
  refine ax_ti 0 (by decide +kernel) ?_
  refine lv_ldcw (v := 252645135) hx hb hown (hts (.constant RJ6 267 (252645135)) (by decide +kernel)) dJ6_bitCount_0f7a4_29 ?_
  refine lv_iand hx hb dJ6_bitCount_0f7a4_32 ?_
  refine ax_ti 0 (by decide +kernel) ?_
  refine lv_istore_n (lv' := [(0, .int 0)]) hx hb dJ6_bitCount_0f7a4_33 rfl hl (by decide) rfl (fun ls hl => ?_)
  refine lv_iload_n hx hb dJ6_bitCount_0f7a4_34 rfl (lv_at hl 0 rfl) ?_
  refine lv_iload_n hx hb dJ6_bitCount_0f7a4_35 rfl (lv_at hl 0 rfl) ?_
  refine lv_bipush (v := 8) hx hb dJ6_bitCount_0f7a4_36 (by decide) ?_
  refine lv_iushr hx hb dJ6_bitCount_0f7a4_38 rfl ?_
  refine ax_ti 0 (by decide +kernel) ?_
  refine lv_iadd hx hb dJ6_bitCount_0f7a4_39 ?_
  refine ax_ti 0 (by decide +kernel) ?_
  refine lv_istore_n (lv' := [(0, .int 0)]) hx hb dJ6_bitCount_0f7a4_40 rfl hl (by decide) rfl (fun ls hl => ?_)
  refine lv_iload_n hx hb dJ6_bitCount_0f7a4_41 rfl (lv_at hl 0 rfl) ?_
  refine lv_iload_n hx hb dJ6_bitCount_0f7a4_42 rfl (lv_at hl 0 rfl) ?_
  refine lv_bipush (v := 16) hx hb dJ6_bitCount_0f7a4_43 (by decide) ?_
  refine lv_iushr hx hb dJ6_bitCount_0f7a4_45 rfl ?_
  refine ax_ti 0 (by decide +kernel) ?_
  refine lv_iadd hx hb dJ6_bitCount_0f7a4_46 ?_
  refine ax_ti 0 (by decide +kernel) ?_
  refine lv_istore_n (lv' := [(0, .int 0)]) hx hb dJ6_bitCount_0f7a4_47 rfl hl (by decide) rfl (fun ls hl => ?_)
  refine lv_iload_n hx hb dJ6_bitCount_0f7a4_48 rfl (lv_at hl 0 rfl) ?_
  refine lv_bipush (v := 63) hx hb dJ6_bitCount_0f7a4_49 (by decide) ?_
  refine lv_iand hx hb dJ6_bitCount_0f7a4_51 ?_
  refine ax_ti 0 (by decide +kernel) ?_
  have hP9 := hP.sub (ws' := []) [] rfl
  have hD9 := hD.sub (ws' := []) [] (by decide) rfl
  have hK9 := hK.sub (tys' := []) [] rfl
  exact W.iret (v := 0) hx hb hr (fun t ht hW => ⟨⟨0, (), rfl, rfl, by rw [ht]; exact hP9, va_K.moved hW.alike hK9, hD9⟩, hS.F ht⟩) hS.2.2 dJ6_bitCount_0f7a4_52

set_option maxHeartbeats 4000000 in
set_option maxRecDepth 100000 in
theorem c_X0_sizeTold (l : Launch) (dC : Nat → ClassId) (dI : Nat → Nat → Nat) (sz : Nat) (h : Nat) (a : Int32) (g : Nat → Value) (w : Nat) (pw : Nat → Value) : Met l yX0_sizeTold wsX0_sizeTold ({ frames := 1, cells := 0, slots := 0, locals := 20 }) (va_Pc [.ref h, .int a] (ax_C dC dI sz [(h, .inr (0, [.int 0, .int 0, .int 0, .int 0, .int 0, .int 0, .int 0, .int 0, .int 0, .int 0, g 10, g 11, g 12, g 13, .ref w])), (w, .inr (6, [.int 0, pw 1, pw 2, pw 3]))] [] (fun _ => True))) (va_Qi (fun (r : Int32) (_ : Unit) => (r = 0 ∧ 0 ≤ a.toInt ∧ a.toInt ≤ 9) ∨ (r = -1 ∧ (a.toInt < 0 ∨ 9 < a.toInt))) (fun (_ : Unit) (t : State) => ax_B dC dI (va_A [(h, .inr (0, [.int 0, .int 0, .int 0, .int 0, .int 0, .int 0, .int 0, .int 0, .int 0, .int 0, g 10, g 11, g 12, g 13, .ref w])), (w, .inr (6, [.int 0, pw 1, pw 2, pw 3]))] sz) [(h, .inr (0, [.int 0, .int 0, .int 0, .int 0, .int 0, .int 0, .int 0, .int 0, .int 0, .int 0, g 10, g 11, g 12, g 13, .ref w])), (w, .inr (6, [.int 0, pw 1, pw 2, pw 3]))] [] t) (va_A [(h, .inr (0, [.int 0, .int 0, .int 0, .int 0, .int 0, .int 0, .int 0, .int 0, .int 0, .int 0, g 10, g 11, g 12, g 13, .ref w])), (w, .inr (6, [.int 0, pw 1, pw 2, pw 3]))] sz)) 0 0 (va_A [(h, .inr (0, [.int 0, .int 0, .int 0, .int 0, .int 0, .int 0, .int 0, .int 0, .int 0, .int 0, g 10, g 11, g 12, g 13, .ref w])), (w, .inr (6, [.int 0, pw 1, pw 2, pw 3]))] sz) := by
  refine Met.ofW (cc := cX0_sizeTold) (maxL := 2) (ret := (some .int)) (by decide) rfl ?_
  intro p e s m args below meth c s₁ B hml hv
  obtain ⟨rfl, hsz, hP, hK, hD0, hE⟩ := hv
  have hx := B.exec
  have hb := B.bytes
  have hr := B.returns
  have hts := atoms_spec (ws := wsX0_sizeTold) B.pre
  have hown : s.vm.findClass RX0 = some m.cls := findClass_of_methodNamed B.named
  have hlocks := B.notSynchronized
  subst hsz
  have hD := hD0.self (sz := s.heap.size)
  generalize hAe : va_A [(h, .inr (0, [.int 0, .int 0, .int 0, .int 0, .int 0, .int 0, .int 0, .int 0, .int 0, .int 0, g 10, g 11, g 12, g 13, .ref w])), (w, .inr (6, [.int 0, pw 1, pw 2, pw 3]))] s.heap.size = A at hD ⊢
  have hA : ∀ q : Nat, s.heap.size ≤ q → A q := fun q h => by rw [← hAe]; exact Or.inr h
  have hS : va_S A s.heap s.heap [] := va_S.rf
  have hP : va_P (dC, dI) vwCl [(h, .inr (0, [.int 0, .int 0, .int 0, .int 0, .int 0, .int 0, .int 0, .int 0, .int 0, .int 0, g 10, g 11, g 12, g 13, .ref w])), (w, .inr (6, [.int 0, pw 1, pw 2, pw 3]))] s.heap := hP
  have hl := lv_entry ([.ref h, .int a]) (n := 2) (Nat.le_of_ble_eq_true rfl)
  rw [lg_entry_eq]
  generalize (lg_sl ([.ref h, .int a]) ++ List.replicate (2 - (lg_sl ([.ref h, .int a])).length) Slot.unset).toArray = ls at hl ⊢
  have hl : lv_has ls 2 [(0, .ref h), (1, .int a)] := hl
  refine lv_iload_n hx hb dX0_sizeTold_0 rfl (lv_at hl 1 rfl) ?_
  by_cases n_1 : a = 0
  · subst n_1
    refine lv_tableIn (off := 55) (tgt := 56) hx hb dX0_sizeTold_1 (by decide) (by decide) (by decide +kernel) (by decide) ?_
    refine lv_aload_n hx hb dX0_sizeTold_56 rfl (lv_at hl 0 rfl) ?_
    refine va_get (D := (dC, dI)) (ci := 0) (v := .int 0) (C := RX0) (T := TX0) (N := 15) hx hb hts (by decide +kernel) hown hK hP 0 rfl rfl 0 (by decide) (hts (.fieldLink RX0 31 "WaxTurns$Hall" "figures" "I") (by decide +kernel)) (fun _ h9 => h9) rfl dX0_sizeTold_57 ?_
    have hP9 := hP.sub (ws' := [(h, .inr (0, [.int 0, .int 0, .int 0, .int 0, .int 0, .int 0, .int 0, .int 0, .int 0, .int 0, g 10, g 11, g 12, g 13, .ref w])), (w, .inr (6, [.int 0, pw 1, pw 2, pw 3]))]) [0, 1] rfl
    have hD9 := hD.sub (ws' := [(h, .inr (0, [.int 0, .int 0, .int 0, .int 0, .int 0, .int 0, .int 0, .int 0, .int 0, .int 0, g 10, g 11, g 12, g 13, .ref w])), (w, .inr (6, [.int 0, pw 1, pw 2, pw 3]))]) [0, 1] (by decide) rfl
    have hK9 := hK.sub (tys' := []) [] rfl
    exact W.iret (v := 0) hx hb hr (fun t ht hW => ⟨⟨0, (), rfl, Or.inl ⟨rfl, by decide, by decide⟩, by rw [ht]; exact hP9, va_K.moved hW.alike hK9, hD9⟩, hS.F ht⟩) hS.2.2 dX0_sizeTold_60
  by_cases n_2 : a = 1
  · subst n_2
    refine lv_tableIn (off := 60) (tgt := 61) hx hb dX0_sizeTold_1 (by decide) (by decide) (by decide +kernel) (by decide) ?_
    refine lv_aload_n hx hb dX0_sizeTold_61 rfl (lv_at hl 0 rfl) ?_
    refine va_get (D := (dC, dI)) (ci := 0) (v := .int 0) (C := RX0) (T := TX0) (N := 15) hx hb hts (by decide +kernel) hown hK hP 0 rfl rfl 1 (by decide) (hts (.fieldLink RX0 48 "WaxTurns$Hall" "span" "I") (by decide +kernel)) (fun _ h9 => h9) rfl dX0_sizeTold_62 ?_
    have hP9 := hP.sub (ws' := [(h, .inr (0, [.int 0, .int 0, .int 0, .int 0, .int 0, .int 0, .int 0, .int 0, .int 0, .int 0, g 10, g 11, g 12, g 13, .ref w])), (w, .inr (6, [.int 0, pw 1, pw 2, pw 3]))]) [0, 1] rfl
    have hD9 := hD.sub (ws' := [(h, .inr (0, [.int 0, .int 0, .int 0, .int 0, .int 0, .int 0, .int 0, .int 0, .int 0, .int 0, g 10, g 11, g 12, g 13, .ref w])), (w, .inr (6, [.int 0, pw 1, pw 2, pw 3]))]) [0, 1] (by decide) rfl
    have hK9 := hK.sub (tys' := []) [] rfl
    exact W.iret (v := 0) hx hb hr (fun t ht hW => ⟨⟨0, (), rfl, Or.inl ⟨rfl, by decide, by decide⟩, by rw [ht]; exact hP9, va_K.moved hW.alike hK9, hD9⟩, hS.F ht⟩) hS.2.2 dX0_sizeTold_65
  by_cases n_3 : a = 2
  · subst n_3
    refine lv_tableIn (off := 65) (tgt := 66) hx hb dX0_sizeTold_1 (by decide) (by decide) (by decide +kernel) (by decide) ?_
    refine lv_aload_n hx hb dX0_sizeTold_66 rfl (lv_at hl 0 rfl) ?_
    refine va_get (D := (dC, dI)) (ci := 0) (v := .int 0) (C := RX0) (T := TX0) (N := 15) hx hb hts (by decide +kernel) hown hK hP 0 rfl rfl 2 (by decide) (hts (.fieldLink RX0 51 "WaxTurns$Hall" "stairsPlace" "I") (by decide +kernel)) (fun _ h9 => h9) rfl dX0_sizeTold_67 ?_
    have hP9 := hP.sub (ws' := [(h, .inr (0, [.int 0, .int 0, .int 0, .int 0, .int 0, .int 0, .int 0, .int 0, .int 0, .int 0, g 10, g 11, g 12, g 13, .ref w])), (w, .inr (6, [.int 0, pw 1, pw 2, pw 3]))]) [0, 1] rfl
    have hD9 := hD.sub (ws' := [(h, .inr (0, [.int 0, .int 0, .int 0, .int 0, .int 0, .int 0, .int 0, .int 0, .int 0, .int 0, g 10, g 11, g 12, g 13, .ref w])), (w, .inr (6, [.int 0, pw 1, pw 2, pw 3]))]) [0, 1] (by decide) rfl
    have hK9 := hK.sub (tys' := []) [] rfl
    exact W.iret (v := 0) hx hb hr (fun t ht hW => ⟨⟨0, (), rfl, Or.inl ⟨rfl, by decide, by decide⟩, by rw [ht]; exact hP9, va_K.moved hW.alike hK9, hD9⟩, hS.F ht⟩) hS.2.2 dX0_sizeTold_70
  by_cases n_4 : a = 3
  · subst n_4
    refine lv_tableIn (off := 70) (tgt := 71) hx hb dX0_sizeTold_1 (by decide) (by decide) (by decide +kernel) (by decide) ?_
    refine lv_aload_n hx hb dX0_sizeTold_71 rfl (lv_at hl 0 rfl) ?_
    refine va_get (D := (dC, dI)) (ci := 0) (v := .int 0) (C := RX0) (T := TX0) (N := 15) hx hb hts (by decide +kernel) hown hK hP 0 rfl rfl 3 (by decide) (hts (.fieldLink RX0 54 "WaxTurns$Hall" "shut" "I") (by decide +kernel)) (fun _ h9 => h9) rfl dX0_sizeTold_72 ?_
    have hP9 := hP.sub (ws' := [(h, .inr (0, [.int 0, .int 0, .int 0, .int 0, .int 0, .int 0, .int 0, .int 0, .int 0, .int 0, g 10, g 11, g 12, g 13, .ref w])), (w, .inr (6, [.int 0, pw 1, pw 2, pw 3]))]) [0, 1] rfl
    have hD9 := hD.sub (ws' := [(h, .inr (0, [.int 0, .int 0, .int 0, .int 0, .int 0, .int 0, .int 0, .int 0, .int 0, .int 0, g 10, g 11, g 12, g 13, .ref w])), (w, .inr (6, [.int 0, pw 1, pw 2, pw 3]))]) [0, 1] (by decide) rfl
    have hK9 := hK.sub (tys' := []) [] rfl
    exact W.iret (v := 0) hx hb hr (fun t ht hW => ⟨⟨0, (), rfl, Or.inl ⟨rfl, by decide, by decide⟩, by rw [ht]; exact hP9, va_K.moved hW.alike hK9, hD9⟩, hS.F ht⟩) hS.2.2 dX0_sizeTold_75
  by_cases n_5 : a = 4
  · subst n_5
    refine lv_tableIn (off := 75) (tgt := 76) hx hb dX0_sizeTold_1 (by decide) (by decide) (by decide +kernel) (by decide) ?_
    refine lv_aload_n hx hb dX0_sizeTold_76 rfl (lv_at hl 0 rfl) ?_
    refine va_get (D := (dC, dI)) (ci := 0) (v := .int 0) (C := RX0) (T := TX0) (N := 15) hx hb hts (by decide +kernel) hown hK hP 0 rfl rfl 8 (by decide) (hts (.fieldLink RX0 39 "WaxTurns$Hall" "toldBits" "I") (by decide +kernel)) (fun _ h9 => h9) rfl dX0_sizeTold_77 ?_
    have hPc := hP.sub (ws' := []) [] rfl
    have hDc := hD.sub (ws' := []) [] (by decide) rfl
    have hKc := hK.sub (tys' := []) [] rfl
    have hFc := va_free (wc := []) hD hS hA [] rfl
    refine va_calli (va_runS (As := [.int 0]) (rest := []) ⟨hx, hb, hml, hown, hts⟩ (c_J6_bitCount_0f7a4 l dC dI s.heap.size  ) (va_cwS 1 hts gX0_sizeTold_J6_bitCount_0f7a4 rfl rfl rfl (by decide +kernel) ⟨Nat.le_of_ble_eq_true rfl, Nat.le_of_ble_eq_true rfl⟩) ⟨ax_blind (fun _ _ _ _ _ => trivial), ax_pre hPc hKc hDc (fun _ _ => trivial)⟩ rfl rfl hl.1 rfl (lv_room (Nat.le_of_ble_eq_true rfl)) dX0_sizeTold_80 ⟨Nat.le_of_ble_eq_true rfl, Nat.le_of_ble_eq_true rfl⟩) hS (fun q _ h => hFc q h) hFc (fun r_6 u t H1 locs ht hvm hw hB hz1 hk1 hS => ?_)
    obtain ⟨hP1, hK1, hD1⟩ := hB
    rw [ht] at hP1
    have hK1 := va_K.moved hvm.symm hK1
    obtain ⟨hP, hD⟩ := va_join (wr := [(h, .inr (0, [.int 0, .int 0, .int 0, .int 0, .int 0, .int 0, .int 0, .int 0, .int 0, .int 0, g 10, g 11, g 12, g 13, .ref w])), (w, .inr (6, [.int 0, pw 1, pw 2, pw 3]))]) (w1 := []) hP hD [] [0, 1] rfl rfl (by decide) (by decide) hk1 hFc hP1 hD1
    have hK := (hK.sub (tys' := []) [] rfl).app hK1
    generalize H1 = H at hP hS ⊢
    have hP : va_P (dC, dI) vwCl [(h, .inr (0, [.int 0, .int 0, .int 0, .int 0, .int 0, .int 0, .int 0, .int 0, .int 0, .int 0, g 10, g 11, g 12, g 13, .ref w])), (w, .inr (6, [.int 0, pw 1, pw 2, pw 3]))] H := hP
    have hD : va_D A [(h, .inr (0, [.int 0, .int 0, .int 0, .int 0, .int 0, .int 0, .int 0, .int 0, .int 0, .int 0, g 10, g 11, g 12, g 13, .ref w])), (w, .inr (6, [.int 0, pw 1, pw 2, pw 3]))] := hD
    have hK : va_K (dC, dI) vwCl [] s := hK
    have hw : r_6 = 0 := hw
    subst hw
    have hP9 := hP.sub (ws' := [(h, .inr (0, [.int 0, .int 0, .int 0, .int 0, .int 0, .int 0, .int 0, .int 0, .int 0, .int 0, g 10, g 11, g 12, g 13, .ref w])), (w, .inr (6, [.int 0, pw 1, pw 2, pw 3]))]) [0, 1] rfl
    have hD9 := hD.sub (ws' := [(h, .inr (0, [.int 0, .int 0, .int 0, .int 0, .int 0, .int 0, .int 0, .int 0, .int 0, .int 0, g 10, g 11, g 12, g 13, .ref w])), (w, .inr (6, [.int 0, pw 1, pw 2, pw 3]))]) [0, 1] (by decide) rfl
    have hK9 := hK.sub (tys' := []) [] rfl
    exact W.iret (v := 0) hx hb hr (fun t ht hW => ⟨⟨0, (), rfl, Or.inl ⟨rfl, by decide, by decide⟩, by rw [ht]; exact hP9, va_K.moved hW.alike hK9, hD9⟩, hS.F ht⟩) hS.2.2 dX0_sizeTold_83
  by_cases n_7 : a = 5
  · subst n_7
    refine lv_tableIn (off := 83) (tgt := 84) hx hb dX0_sizeTold_1 (by decide) (by decide) (by decide +kernel) (by decide) ?_
    refine lv_aload_n hx hb dX0_sizeTold_84 rfl (lv_at hl 0 rfl) ?_
    refine va_get (D := (dC, dI)) (ci := 0) (v := .ref w) (C := RX0) (T := TX0) (N := 15) hx hb hts (by decide +kernel) hown hK hP 0 rfl rfl 14 (by decide) (hts (.fieldLink RX0 27 "WaxTurns$Hall" "watchers" "LWaxTurns$Watchers;") (by decide +kernel)) (fun _ h9 => h9) rfl dX0_sizeTold_85 ?_
    refine va_get (D := (dC, dI)) (ci := 6) (v := .int 0) (C := RX6) (T := TX6) (N := 4) hx hb hts (by decide +kernel) hown hK hP 1 rfl rfl 0 (by decide) (hts (.fieldLink RX0 45 "WaxTurns$Watchers" "count" "I") (by decide +kernel)) (fun _ h9 => h9) rfl dX0_sizeTold_88 ?_
    have hP9 := hP.sub (ws' := [(h, .inr (0, [.int 0, .int 0, .int 0, .int 0, .int 0, .int 0, .int 0, .int 0, .int 0, .int 0, g 10, g 11, g 12, g 13, .ref w])), (w, .inr (6, [.int 0, pw 1, pw 2, pw 3]))]) [0, 1] rfl
    have hD9 := hD.sub (ws' := [(h, .inr (0, [.int 0, .int 0, .int 0, .int 0, .int 0, .int 0, .int 0, .int 0, .int 0, .int 0, g 10, g 11, g 12, g 13, .ref w])), (w, .inr (6, [.int 0, pw 1, pw 2, pw 3]))]) [0, 1] (by decide) rfl
    have hK9 := hK.sub (tys' := []) [] rfl
    exact W.iret (v := 0) hx hb hr (fun t ht hW => ⟨⟨0, (), rfl, Or.inl ⟨rfl, by decide, by decide⟩, by rw [ht]; exact hP9, va_K.moved hW.alike hK9, hD9⟩, hS.F ht⟩) hS.2.2 dX0_sizeTold_91
  by_cases n_8 : a = 6
  · subst n_8
    refine lv_tableIn (off := 91) (tgt := 92) hx hb dX0_sizeTold_1 (by decide) (by decide) (by decide +kernel) (by decide) ?_
    refine lv_aload_n hx hb dX0_sizeTold_92 rfl (lv_at hl 0 rfl) ?_
    refine va_get (D := (dC, dI)) (ci := 0) (v := .int 0) (C := RX0) (T := TX0) (N := 15) hx hb hts (by decide +kernel) hown hK hP 0 rfl rfl 9 (by decide) (hts (.fieldLink RX0 42 "WaxTurns$Hall" "seenCount" "I") (by decide +kernel)) (fun _ h9 => h9) rfl dX0_sizeTold_93 ?_
    have hP9 := hP.sub (ws' := [(h, .inr (0, [.int 0, .int 0, .int 0, .int 0, .int 0, .int 0, .int 0, .int 0, .int 0, .int 0, g 10, g 11, g 12, g 13, .ref w])), (w, .inr (6, [.int 0, pw 1, pw 2, pw 3]))]) [0, 1] rfl
    have hD9 := hD.sub (ws' := [(h, .inr (0, [.int 0, .int 0, .int 0, .int 0, .int 0, .int 0, .int 0, .int 0, .int 0, .int 0, g 10, g 11, g 12, g 13, .ref w])), (w, .inr (6, [.int 0, pw 1, pw 2, pw 3]))]) [0, 1] (by decide) rfl
    have hK9 := hK.sub (tys' := []) [] rfl
    exact W.iret (v := 0) hx hb hr (fun t ht hW => ⟨⟨0, (), rfl, Or.inl ⟨rfl, by decide, by decide⟩, by rw [ht]; exact hP9, va_K.moved hW.alike hK9, hD9⟩, hS.F ht⟩) hS.2.2 dX0_sizeTold_96
  by_cases n_9 : a = 7
  · subst n_9
    refine lv_tableIn (off := 96) (tgt := 97) hx hb dX0_sizeTold_1 (by decide) (by decide) (by decide +kernel) (by decide) ?_
    refine lv_aload_n hx hb dX0_sizeTold_97 rfl (lv_at hl 0 rfl) ?_
    refine va_get (D := (dC, dI)) (ci := 0) (v := .int 0) (C := RX0) (T := TX0) (N := 15) hx hb hts (by decide +kernel) hown hK hP 0 rfl rfl 5 (by decide) (hts (.fieldLink RX0 63 "WaxTurns$Hall" "times" "I") (by decide +kernel)) (fun _ h9 => h9) rfl dX0_sizeTold_98 ?_
    have hP9 := hP.sub (ws' := [(h, .inr (0, [.int 0, .int 0, .int 0, .int 0, .int 0, .int 0, .int 0, .int 0, .int 0, .int 0, g 10, g 11, g 12, g 13, .ref w])), (w, .inr (6, [.int 0, pw 1, pw 2, pw 3]))]) [0, 1] rfl
    have hD9 := hD.sub (ws' := [(h, .inr (0, [.int 0, .int 0, .int 0, .int 0, .int 0, .int 0, .int 0, .int 0, .int 0, .int 0, g 10, g 11, g 12, g 13, .ref w])), (w, .inr (6, [.int 0, pw 1, pw 2, pw 3]))]) [0, 1] (by decide) rfl
    have hK9 := hK.sub (tys' := []) [] rfl
    exact W.iret (v := 0) hx hb hr (fun t ht hW => ⟨⟨0, (), rfl, Or.inl ⟨rfl, by decide, by decide⟩, by rw [ht]; exact hP9, va_K.moved hW.alike hK9, hD9⟩, hS.F ht⟩) hS.2.2 dX0_sizeTold_101
  by_cases n_10 : a = 8
  · subst n_10
    refine lv_tableIn (off := 101) (tgt := 102) hx hb dX0_sizeTold_1 (by decide) (by decide) (by decide +kernel) (by decide) ?_
    refine lv_aload_n hx hb dX0_sizeTold_102 rfl (lv_at hl 0 rfl) ?_
    refine va_get (D := (dC, dI)) (ci := 0) (v := .int 0) (C := RX0) (T := TX0) (N := 15) hx hb hts (by decide +kernel) hown hK hP 0 rfl rfl 6 (by decide) (hts (.fieldLink RX0 66 "WaxTurns$Hall" "plus" "I") (by decide +kernel)) (fun _ h9 => h9) rfl dX0_sizeTold_103 ?_
    have hP9 := hP.sub (ws' := [(h, .inr (0, [.int 0, .int 0, .int 0, .int 0, .int 0, .int 0, .int 0, .int 0, .int 0, .int 0, g 10, g 11, g 12, g 13, .ref w])), (w, .inr (6, [.int 0, pw 1, pw 2, pw 3]))]) [0, 1] rfl
    have hD9 := hD.sub (ws' := [(h, .inr (0, [.int 0, .int 0, .int 0, .int 0, .int 0, .int 0, .int 0, .int 0, .int 0, .int 0, g 10, g 11, g 12, g 13, .ref w])), (w, .inr (6, [.int 0, pw 1, pw 2, pw 3]))]) [0, 1] (by decide) rfl
    have hK9 := hK.sub (tys' := []) [] rfl
    exact W.iret (v := 0) hx hb hr (fun t ht hW => ⟨⟨0, (), rfl, Or.inl ⟨rfl, by decide, by decide⟩, by rw [ht]; exact hP9, va_K.moved hW.alike hK9, hD9⟩, hS.F ht⟩) hS.2.2 dX0_sizeTold_106
  by_cases n_11 : a = 9
  · subst n_11
    refine lv_tableIn (off := 106) (tgt := 107) hx hb dX0_sizeTold_1 (by decide) (by decide) (by decide +kernel) (by decide) ?_
    refine lv_aload_n hx hb dX0_sizeTold_107 rfl (lv_at hl 0 rfl) ?_
    refine va_get (D := (dC, dI)) (ci := 0) (v := .int 0) (C := RX0) (T := TX0) (N := 15) hx hb hts (by decide +kernel) hown hK hP 0 rfl rfl 7 (by decide) (hts (.fieldLink RX0 69 "WaxTurns$Hall" "first" "I") (by decide +kernel)) (fun _ h9 => h9) rfl dX0_sizeTold_108 ?_
    have hP9 := hP.sub (ws' := [(h, .inr (0, [.int 0, .int 0, .int 0, .int 0, .int 0, .int 0, .int 0, .int 0, .int 0, .int 0, g 10, g 11, g 12, g 13, .ref w])), (w, .inr (6, [.int 0, pw 1, pw 2, pw 3]))]) [0, 1] rfl
    have hD9 := hD.sub (ws' := [(h, .inr (0, [.int 0, .int 0, .int 0, .int 0, .int 0, .int 0, .int 0, .int 0, .int 0, .int 0, g 10, g 11, g 12, g 13, .ref w])), (w, .inr (6, [.int 0, pw 1, pw 2, pw 3]))]) [0, 1] (by decide) rfl
    have hK9 := hK.sub (tys' := []) [] rfl
    exact W.iret (v := 0) hx hb hr (fun t ht hW => ⟨⟨0, (), rfl, Or.inl ⟨rfl, by decide, by decide⟩, by rw [ht]; exact hP9, va_K.moved hW.alike hK9, hD9⟩, hS.F ht⟩) hS.2.2 dX0_sizeTold_111
  have o_12 : a.toInt < 0 ∨ 9 < a.toInt := by
    have en_1 : a.toInt ≠ 0 := fun h9 => n_1 (Int32.toInt_inj.mp (h9.trans (by decide)))
    have en_2 : a.toInt ≠ 1 := fun h9 => n_2 (Int32.toInt_inj.mp (h9.trans (by decide)))
    have en_3 : a.toInt ≠ 2 := fun h9 => n_3 (Int32.toInt_inj.mp (h9.trans (by decide)))
    have en_4 : a.toInt ≠ 3 := fun h9 => n_4 (Int32.toInt_inj.mp (h9.trans (by decide)))
    have en_5 : a.toInt ≠ 4 := fun h9 => n_5 (Int32.toInt_inj.mp (h9.trans (by decide)))
    have en_7 : a.toInt ≠ 5 := fun h9 => n_7 (Int32.toInt_inj.mp (h9.trans (by decide)))
    have en_8 : a.toInt ≠ 6 := fun h9 => n_8 (Int32.toInt_inj.mp (h9.trans (by decide)))
    have en_9 : a.toInt ≠ 7 := fun h9 => n_9 (Int32.toInt_inj.mp (h9.trans (by decide)))
    have en_10 : a.toInt ≠ 8 := fun h9 => n_10 (Int32.toInt_inj.mp (h9.trans (by decide)))
    have en_11 : a.toInt ≠ 9 := fun h9 => n_11 (Int32.toInt_inj.mp (h9.trans (by decide)))
    omega
  refine lv_tableOut (tgt := 112) hx hb dX0_sizeTold_1 o_12 (by decide) ?_
  refine lv_iconst (v := (-1)) hx hb dX0_sizeTold_112 (by decide) ?_
  have hP9 := hP.sub (ws' := [(h, .inr (0, [.int 0, .int 0, .int 0, .int 0, .int 0, .int 0, .int 0, .int 0, .int 0, .int 0, g 10, g 11, g 12, g 13, .ref w])), (w, .inr (6, [.int 0, pw 1, pw 2, pw 3]))]) [0, 1] rfl
  have hD9 := hD.sub (ws' := [(h, .inr (0, [.int 0, .int 0, .int 0, .int 0, .int 0, .int 0, .int 0, .int 0, .int 0, .int 0, g 10, g 11, g 12, g 13, .ref w])), (w, .inr (6, [.int 0, pw 1, pw 2, pw 3]))]) [0, 1] (by decide) rfl
  have hK9 := hK.sub (tys' := []) [] rfl
  exact W.iret (v := (-1)) hx hb hr (fun t ht hW => ⟨⟨(-1), (), rfl, Or.inr ⟨rfl, by omega⟩, by rw [ht]; exact hP9, va_K.moved hW.alike hK9, hD9⟩, hS.F ht⟩) hS.2.2 dX0_sizeTold_113

set_option maxHeartbeats 4000000 in
set_option maxRecDepth 100000 in
theorem c_X7_size (l : Launch) (dC : Nat → ClassId) (dI : Nat → Nat → Nat) (sz : Nat) (x : Nat) (a : Int32) (rd : Nat) (z : Nat) (v : Nat → Value) (y : Nat) (h : Nat) (g : Nat → Value) (w : Nat) (pw : Nat → Value) (k : Nat → Value) (j : Nat → Value) (i : Nat → Value) : Met l yX7_size wsX7_size ({ frames := 2, cells := 0, slots := 0, locals := 41 }) (va_Pc [.ref x, .int a] (ax_C dC dI sz [(x, .inr (7, [.ref rd, .ref z, v 2, v 3, .ref y, v 5, v 6, .ref h, v 8, v 9, v 10])), (h, .inr (0, [.int 0, .int 0, .int 0, .int 0, .int 0, .int 0, .int 0, .int 0, .int 0, .int 0, g 10, g 11, g 12, g 13, .ref w])), (w, .inr (6, [.int 0, pw 1, pw 2, pw 3])), (rd, .inr (3, [.int 0, k 1, k 2, k 3, k 4, k 5, k 6, k 7, k 8, k 9, k 10, k 11, k 12, k 13])), (z, .inr (5, [.int 0, j 1, j 2, j 3, j 4, j 5, j 6])), (y, .inr (1, [.int 0, .int 0, i 2, i 3, i 4]))] [] (fun _ => True))) (va_Qi (fun (r : Int32) (_ : Unit) => (r = 0 ∧ 0 ≤ a.toInt ∧ a.toInt ≤ 13) ∨ (r = -1 ∧ (a.toInt < 0 ∨ 13 < a.toInt))) (fun (_ : Unit) (t : State) => ax_B dC dI (va_A [(x, .inr (7, [.ref rd, .ref z, v 2, v 3, .ref y, v 5, v 6, .ref h, v 8, v 9, v 10])), (h, .inr (0, [.int 0, .int 0, .int 0, .int 0, .int 0, .int 0, .int 0, .int 0, .int 0, .int 0, g 10, g 11, g 12, g 13, .ref w])), (w, .inr (6, [.int 0, pw 1, pw 2, pw 3])), (rd, .inr (3, [.int 0, k 1, k 2, k 3, k 4, k 5, k 6, k 7, k 8, k 9, k 10, k 11, k 12, k 13])), (z, .inr (5, [.int 0, j 1, j 2, j 3, j 4, j 5, j 6])), (y, .inr (1, [.int 0, .int 0, i 2, i 3, i 4]))] sz) [] [] t) (va_A [(x, .inr (7, [.ref rd, .ref z, v 2, v 3, .ref y, v 5, v 6, .ref h, v 8, v 9, v 10])), (h, .inr (0, [.int 0, .int 0, .int 0, .int 0, .int 0, .int 0, .int 0, .int 0, .int 0, .int 0, g 10, g 11, g 12, g 13, .ref w])), (w, .inr (6, [.int 0, pw 1, pw 2, pw 3])), (rd, .inr (3, [.int 0, k 1, k 2, k 3, k 4, k 5, k 6, k 7, k 8, k 9, k 10, k 11, k 12, k 13])), (z, .inr (5, [.int 0, j 1, j 2, j 3, j 4, j 5, j 6])), (y, .inr (1, [.int 0, .int 0, i 2, i 3, i 4]))] sz)) 0 0 (va_A [(x, .inr (7, [.ref rd, .ref z, v 2, v 3, .ref y, v 5, v 6, .ref h, v 8, v 9, v 10])), (h, .inr (0, [.int 0, .int 0, .int 0, .int 0, .int 0, .int 0, .int 0, .int 0, .int 0, .int 0, g 10, g 11, g 12, g 13, .ref w])), (w, .inr (6, [.int 0, pw 1, pw 2, pw 3])), (rd, .inr (3, [.int 0, k 1, k 2, k 3, k 4, k 5, k 6, k 7, k 8, k 9, k 10, k 11, k 12, k 13])), (z, .inr (5, [.int 0, j 1, j 2, j 3, j 4, j 5, j 6])), (y, .inr (1, [.int 0, .int 0, i 2, i 3, i 4]))] sz) := by
  refine Met.ofW (cc := cX7_size) (maxL := 2) (ret := (some .int)) (by decide) rfl ?_
  intro p e s m args below meth c s₁ B hml hv
  obtain ⟨rfl, hsz, hP, hK, hD0, hE⟩ := hv
  have hx := B.exec
  have hb := B.bytes
  have hr := B.returns
  have hts := atoms_spec (ws := wsX7_size) B.pre
  have hown : s.vm.findClass RX7 = some m.cls := findClass_of_methodNamed B.named
  have hlocks := B.notSynchronized
  subst hsz
  have hD := hD0.self (sz := s.heap.size)
  generalize hAe : va_A [(x, .inr (7, [.ref rd, .ref z, v 2, v 3, .ref y, v 5, v 6, .ref h, v 8, v 9, v 10])), (h, .inr (0, [.int 0, .int 0, .int 0, .int 0, .int 0, .int 0, .int 0, .int 0, .int 0, .int 0, g 10, g 11, g 12, g 13, .ref w])), (w, .inr (6, [.int 0, pw 1, pw 2, pw 3])), (rd, .inr (3, [.int 0, k 1, k 2, k 3, k 4, k 5, k 6, k 7, k 8, k 9, k 10, k 11, k 12, k 13])), (z, .inr (5, [.int 0, j 1, j 2, j 3, j 4, j 5, j 6])), (y, .inr (1, [.int 0, .int 0, i 2, i 3, i 4]))] s.heap.size = A at hD ⊢
  have hA : ∀ q : Nat, s.heap.size ≤ q → A q := fun q h => by rw [← hAe]; exact Or.inr h
  have hS : va_S A s.heap s.heap [] := va_S.rf
  have hP : va_P (dC, dI) vwCl [(x, .inr (7, [.ref rd, .ref z, v 2, v 3, .ref y, v 5, v 6, .ref h, v 8, v 9, v 10])), (h, .inr (0, [.int 0, .int 0, .int 0, .int 0, .int 0, .int 0, .int 0, .int 0, .int 0, .int 0, g 10, g 11, g 12, g 13, .ref w])), (w, .inr (6, [.int 0, pw 1, pw 2, pw 3])), (rd, .inr (3, [.int 0, k 1, k 2, k 3, k 4, k 5, k 6, k 7, k 8, k 9, k 10, k 11, k 12, k 13])), (z, .inr (5, [.int 0, j 1, j 2, j 3, j 4, j 5, j 6])), (y, .inr (1, [.int 0, .int 0, i 2, i 3, i 4]))] s.heap := hP
  have hl := lv_entry ([.ref x, .int a]) (n := 2) (Nat.le_of_ble_eq_true rfl)
  rw [lg_entry_eq]
  generalize (lg_sl ([.ref x, .int a]) ++ List.replicate (2 - (lg_sl ([.ref x, .int a])).length) Slot.unset).toArray = ls at hl ⊢
  have hl : lv_has ls 2 [(0, .ref x), (1, .int a)] := hl
  refine lv_iload_n hx hb dX7_size_0 rfl (lv_at hl 1 rfl) ?_
  by_cases n_1 : a = 10
  · subst n_1
    refine lv_tableIn (off := 31) (tgt := 32) hx hb dX7_size_1 (by decide) (by decide) (by decide +kernel) (by decide) ?_
    refine lv_aload_n hx hb dX7_size_32 rfl (lv_at hl 0 rfl) ?_
    refine va_get (D := (dC, dI)) (ci := 7) (v := .ref z) (C := RX7) (T := TX7) (N := 11) hx hb hts (by decide +kernel) hown hK hP 0 rfl rfl 1 (by decide) (hts (.fieldLink RX7 19 "WaxTurns" "now" "LWaxTurns$Scene;") (by decide +kernel)) (fun _ h9 => h9) rfl dX7_size_33 ?_
    refine va_get (D := (dC, dI)) (ci := 5) (v := .int 0) (C := RX5) (T := TX5) (N := 7) hx hb hts (by decide +kernel) hown hK hP 4 rfl rfl 0 (by decide) (hts (.fieldLink RX7 147 "WaxTurns$Scene" "minute" "I") (by decide +kernel)) (fun _ h9 => h9) rfl dX7_size_36 ?_
    have hP9 := hP.sub (ws' := []) [] rfl
    have hD9 := hD.sub (ws' := []) [] (by decide) rfl
    have hK9 := hK.sub (tys' := []) [] rfl
    exact W.iret (v := 0) hx hb hr (fun t ht hW => ⟨⟨0, (), rfl, Or.inl ⟨rfl, by decide, by decide⟩, by rw [ht]; exact hP9, va_K.moved hW.alike hK9, hD9⟩, hS.F ht⟩) hS.2.2 dX7_size_39
  by_cases n_2 : a = 11
  · subst n_2
    refine lv_tableIn (off := 39) (tgt := 40) hx hb dX7_size_1 (by decide) (by decide) (by decide +kernel) (by decide) ?_
    refine lv_aload_n hx hb dX7_size_40 rfl (lv_at hl 0 rfl) ?_
    refine va_get (D := (dC, dI)) (ci := 7) (v := .ref y) (C := RX7) (T := TX7) (N := 11) hx hb hts (by decide +kernel) hown hK hP 0 rfl rfl 4 (by decide) (hts (.fieldLink RX7 36 "WaxTurns" "history" "LWaxTurns$History;") (by decide +kernel)) (fun _ h9 => h9) rfl dX7_size_41 ?_
    refine va_get (D := (dC, dI)) (ci := 1) (v := .int 0) (C := RX1) (T := TX1) (N := 5) hx hb hts (by decide +kernel) hown hK hP 5 rfl rfl 0 (by decide) (hts (.fieldLink RX7 355 "WaxTurns$History" "keptCount" "I") (by decide +kernel)) (fun _ h9 => h9) rfl dX7_size_44 ?_
    have hP9 := hP.sub (ws' := []) [] rfl
    have hD9 := hD.sub (ws' := []) [] (by decide) rfl
    have hK9 := hK.sub (tys' := []) [] rfl
    exact W.iret (v := 0) hx hb hr (fun t ht hW => ⟨⟨0, (), rfl, Or.inl ⟨rfl, by decide, by decide⟩, by rw [ht]; exact hP9, va_K.moved hW.alike hK9, hD9⟩, hS.F ht⟩) hS.2.2 dX7_size_47
  by_cases n_3 : a = 12
  · subst n_3
    refine lv_tableIn (off := 47) (tgt := 48) hx hb dX7_size_1 (by decide) (by decide) (by decide +kernel) (by decide) ?_
    refine lv_aload_n hx hb dX7_size_48 rfl (lv_at hl 0 rfl) ?_
    refine va_get (D := (dC, dI)) (ci := 7) (v := .ref y) (C := RX7) (T := TX7) (N := 11) hx hb hts (by decide +kernel) hown hK hP 0 rfl rfl 4 (by decide) (hts (.fieldLink RX7 36 "WaxTurns" "history" "LWaxTurns$History;") (by decide +kernel)) (fun _ h9 => h9) rfl dX7_size_49 ?_
    refine va_get (D := (dC, dI)) (ci := 1) (v := .int 0) (C := RX1) (T := TX1) (N := 5) hx hb hts (by decide +kernel) hown hK hP 5 rfl rfl 1 (by decide) (hts (.fieldLink RX7 337 "WaxTurns$History" "imageCount" "I") (by decide +kernel)) (fun _ h9 => h9) rfl dX7_size_52 ?_
    have hP9 := hP.sub (ws' := []) [] rfl
    have hD9 := hD.sub (ws' := []) [] (by decide) rfl
    have hK9 := hK.sub (tys' := []) [] rfl
    exact W.iret (v := 0) hx hb hr (fun t ht hW => ⟨⟨0, (), rfl, Or.inl ⟨rfl, by decide, by decide⟩, by rw [ht]; exact hP9, va_K.moved hW.alike hK9, hD9⟩, hS.F ht⟩) hS.2.2 dX7_size_55
  by_cases n_4 : a = 13
  · subst n_4
    refine lv_tableIn (off := 55) (tgt := 56) hx hb dX7_size_1 (by decide) (by decide) (by decide +kernel) (by decide) ?_
    refine lv_aload_n hx hb dX7_size_56 rfl (lv_at hl 0 rfl) ?_
    refine va_get (D := (dC, dI)) (ci := 7) (v := .ref rd) (C := RX7) (T := TX7) (N := 11) hx hb hts (by decide +kernel) hown hK hP 0 rfl rfl 0 (by decide) (hts (.fieldLink RX7 12 "WaxTurns" "reade\x72" "LWaxTurns$Reader;") (by decide +kernel)) (fun _ h9 => h9) rfl dX7_size_57 ?_
    refine va_get (D := (dC, dI)) (ci := 3) (v := .int 0) (C := RX3) (T := TX3) (N := 14) hx hb hts (by decide +kernel) hown hK hP 3 rfl rfl 0 (by decide) (hts (.fieldLink RX7 71 "WaxTurns$Reade\x72" "tapeSize" "I") (by decide +kernel)) (fun _ h9 => h9) rfl dX7_size_60 ?_
    have hP9 := hP.sub (ws' := []) [] rfl
    have hD9 := hD.sub (ws' := []) [] (by decide) rfl
    have hK9 := hK.sub (tys' := []) [] rfl
    exact W.iret (v := 0) hx hb hr (fun t ht hW => ⟨⟨0, (), rfl, Or.inl ⟨rfl, by decide, by decide⟩, by rw [ht]; exact hP9, va_K.moved hW.alike hK9, hD9⟩, hS.F ht⟩) hS.2.2 dX7_size_63
  have o_5 : a.toInt < 10 ∨ 13 < a.toInt := by
    have en_1 : a.toInt ≠ 10 := fun h9 => n_1 (Int32.toInt_inj.mp (h9.trans (by decide)))
    have en_2 : a.toInt ≠ 11 := fun h9 => n_2 (Int32.toInt_inj.mp (h9.trans (by decide)))
    have en_3 : a.toInt ≠ 12 := fun h9 => n_3 (Int32.toInt_inj.mp (h9.trans (by decide)))
    have en_4 : a.toInt ≠ 13 := fun h9 => n_4 (Int32.toInt_inj.mp (h9.trans (by decide)))
    omega
  refine lv_tableOut (tgt := 64) hx hb dX7_size_1 o_5 (by decide) ?_
  refine lv_aload_n hx hb dX7_size_64 rfl (lv_at hl 0 rfl) ?_
  refine va_get (D := (dC, dI)) (ci := 7) (v := .ref h) (C := RX7) (T := TX7) (N := 11) hx hb hts (by decide +kernel) hown hK hP 0 rfl rfl 7 (by decide) (hts (.fieldLink RX7 57 "WaxTurns" "hall" "LWaxTurns$Hall;") (by decide +kernel)) (fun _ h9 => h9) rfl dX7_size_65 ?_
  refine lv_iload_n hx hb dX7_size_68 rfl (lv_at hl 1 rfl) ?_
  have hPc := hP.sub (ws' := [(h, .inr (0, [.int 0, .int 0, .int 0, .int 0, .int 0, .int 0, .int 0, .int 0, .int 0, .int 0, g 10, g 11, g 12, g 13, .ref w])), (w, .inr (6, [.int 0, pw 1, pw 2, pw 3]))]) [1, 2] rfl
  have hDc := hD.sub (ws' := [(h, .inr (0, [.int 0, .int 0, .int 0, .int 0, .int 0, .int 0, .int 0, .int 0, .int 0, .int 0, g 10, g 11, g 12, g 13, .ref w])), (w, .inr (6, [.int 0, pw 1, pw 2, pw 3]))]) [1, 2] (by decide) rfl
  have hKc := hK.sub (tys' := []) [] rfl
  have hFc := va_free (wc := [(h, .inr (0, [.int 0, .int 0, .int 0, .int 0, .int 0, .int 0, .int 0, .int 0, .int 0, .int 0, g 10, g 11, g 12, g 13, .ref w])), (w, .inr (6, [.int 0, pw 1, pw 2, pw 3]))]) hD hS hA [1, 2] rfl
  refine va_calli (va_runV (As := [.int a]) (rest := []) ⟨hx, hb, hml, hown, hts⟩ (c_X0_sizeTold l dC dI s.heap.size h a g w pw ) (cwV 1 hts gX7_size_X0_sizeTold rfl rfl rfl (by decide +kernel) ⟨Nat.le_of_ble_eq_true rfl, Nat.le_of_ble_eq_true rfl⟩) ⟨ax_blind (fun _ _ _ _ _ => trivial), va_recv hKc hPc (ci := 0) (q0 := 0) rfl rfl, ax_pre hPc hKc hDc (fun _ _ => trivial)⟩ rfl rfl hl.1 rfl (lv_room (Nat.le_of_ble_eq_true rfl)) dX7_size_69 ⟨Nat.le_of_ble_eq_true rfl, Nat.le_of_ble_eq_true rfl⟩) hS (fun q _ h => hFc q h) hFc (fun r_6 u t H1 locs ht hvm hw hB hz1 hk1 hS => ?_)
  obtain ⟨hP1, hK1, hD1⟩ := hB
  rw [ht] at hP1
  have hK1 := va_K.moved hvm.symm hK1
  obtain ⟨hP, hD⟩ := va_join (wr := [(x, .inr (7, [.ref rd, .ref z, v 2, v 3, .ref y, v 5, v 6, .ref h, v 8, v 9, v 10])), (rd, .inr (3, [.int 0, k 1, k 2, k 3, k 4, k 5, k 6, k 7, k 8, k 9, k 10, k 11, k 12, k 13])), (z, .inr (5, [.int 0, j 1, j 2, j 3, j 4, j 5, j 6])), (y, .inr (1, [.int 0, .int 0, i 2, i 3, i 4]))]) (w1 := [(h, .inr (0, [.int 0, .int 0, .int 0, .int 0, .int 0, .int 0, .int 0, .int 0, .int 0, .int 0, g 10, g 11, g 12, g 13, .ref w])), (w, .inr (6, [.int 0, pw 1, pw 2, pw 3]))]) hP hD [1, 2] [0, 3, 4, 5] rfl rfl (by decide) (by decide) hk1 hFc hP1 hD1
  have hK := (hK.sub (tys' := []) [] rfl).app hK1
  generalize H1 = H at hP hS ⊢
  have hP : va_P (dC, dI) vwCl [(x, .inr (7, [.ref rd, .ref z, v 2, v 3, .ref y, v 5, v 6, .ref h, v 8, v 9, v 10])), (rd, .inr (3, [.int 0, k 1, k 2, k 3, k 4, k 5, k 6, k 7, k 8, k 9, k 10, k 11, k 12, k 13])), (z, .inr (5, [.int 0, j 1, j 2, j 3, j 4, j 5, j 6])), (y, .inr (1, [.int 0, .int 0, i 2, i 3, i 4])), (h, .inr (0, [.int 0, .int 0, .int 0, .int 0, .int 0, .int 0, .int 0, .int 0, .int 0, .int 0, g 10, g 11, g 12, g 13, .ref w])), (w, .inr (6, [.int 0, pw 1, pw 2, pw 3]))] H := hP
  have hD : va_D A [(x, .inr (7, [.ref rd, .ref z, v 2, v 3, .ref y, v 5, v 6, .ref h, v 8, v 9, v 10])), (rd, .inr (3, [.int 0, k 1, k 2, k 3, k 4, k 5, k 6, k 7, k 8, k 9, k 10, k 11, k 12, k 13])), (z, .inr (5, [.int 0, j 1, j 2, j 3, j 4, j 5, j 6])), (y, .inr (1, [.int 0, .int 0, i 2, i 3, i 4])), (h, .inr (0, [.int 0, .int 0, .int 0, .int 0, .int 0, .int 0, .int 0, .int 0, .int 0, .int 0, g 10, g 11, g 12, g 13, .ref w])), (w, .inr (6, [.int 0, pw 1, pw 2, pw 3]))] := hD
  have hK : va_K (dC, dI) vwCl [] s := hK
  rcases hw with ⟨hw, h_7⟩ | ⟨hw, h_7⟩
  · subst hw
    have hP9 := hP.sub (ws' := []) [] rfl
    have hD9 := hD.sub (ws' := []) [] (by decide) rfl
    have hK9 := hK.sub (tys' := []) [] rfl
    exact W.iret (v := 0) hx hb hr (fun t ht hW => ⟨⟨0, (), rfl, Or.inl ⟨rfl, by omega, by omega⟩, by rw [ht]; exact hP9, va_K.moved hW.alike hK9, hD9⟩, hS.F ht⟩) hS.2.2 dX7_size_72
  · subst hw
    have hP9 := hP.sub (ws' := []) [] rfl
    have hD9 := hD.sub (ws' := []) [] (by decide) rfl
    have hK9 := hK.sub (tys' := []) [] rfl
    exact W.iret (v := (-1)) hx hb hr (fun t ht hW => ⟨⟨(-1), (), rfl, Or.inr ⟨rfl, by omega⟩, by rw [ht]; exact hP9, va_K.moved hW.alike hK9, hD9⟩, hS.F ht⟩) hS.2.2 dX7_size_72
