set_option maxHeartbeats 4000000 in
set_option maxRecDepth 100000 in
theorem c_X8_size (l : Launch) (dC : Nat → ClassId) (dI : Nat → Nat → Nat) (sz : Nat) (mo : Nat) (a : Int32) (g : Nat → Value) : Met l yX8_size wsX8_size ({ frames := 1, cells := 0, slots := 0, locals := 22 }) (va_Pc [.ref mo, .int a] (ax_C dC dI sz [(mo, .inr (8, [g 0, g 1, .int 0, g 3, g 4, g 5, g 6, g 7, g 8, g 9, g 10, g 11, g 12, g 13, .int 0, g 15, g 16, g 17, g 18, g 19, g 20, g 21, g 22, g 23, g 24, g 25, g 26, g 27, g 28, g 29, g 30, g 31, g 32, g 33, g 34, g 35, g 36, g 37, g 38, g 39]))] [] (fun _ => True))) (va_Qi (fun (r : Int32) (_ : Unit) => (r = 0 ∧ 0 ≤ a.toInt ∧ a.toInt ≤ 13) ∨ (r = -1 ∧ (a.toInt < 0 ∨ 13 < a.toInt))) (fun (_ : Unit) (t : State) => ax_B dC dI (va_A [(mo, .inr (8, [g 0, g 1, .int 0, g 3, g 4, g 5, g 6, g 7, g 8, g 9, g 10, g 11, g 12, g 13, .int 0, g 15, g 16, g 17, g 18, g 19, g 20, g 21, g 22, g 23, g 24, g 25, g 26, g 27, g 28, g 29, g 30, g 31, g 32, g 33, g 34, g 35, g 36, g 37, g 38, g 39]))] sz) [] [] t) (va_A [(mo, .inr (8, [g 0, g 1, .int 0, g 3, g 4, g 5, g 6, g 7, g 8, g 9, g 10, g 11, g 12, g 13, .int 0, g 15, g 16, g 17, g 18, g 19, g 20, g 21, g 22, g 23, g 24, g 25, g 26, g 27, g 28, g 29, g 30, g 31, g 32, g 33, g 34, g 35, g 36, g 37, g 38, g 39]))] sz)) 0 0 (va_A [(mo, .inr (8, [g 0, g 1, .int 0, g 3, g 4, g 5, g 6, g 7, g 8, g 9, g 10, g 11, g 12, g 13, .int 0, g 15, g 16, g 17, g 18, g 19, g 20, g 21, g 22, g 23, g 24, g 25, g 26, g 27, g 28, g 29, g 30, g 31, g 32, g 33, g 34, g 35, g 36, g 37, g 38, g 39]))] sz) := by
  refine Met.ofW (cc := cX8_size) (maxL := 2) (ret := (some .int)) (by decide) rfl ?_
  intro p e s m args below meth c s₁ B hml hv
  obtain ⟨rfl, hsz, hP, hK, hD0, hE⟩ := hv
  have hx := B.exec
  have hb := B.bytes
  have hr := B.returns
  have hts := atoms_spec (ws := wsX8_size) B.pre
  have hown : s.vm.findClass RX8 = some m.cls := findClass_of_methodNamed B.named
  have hlocks := B.notSynchronized
  subst hsz
  have hD := hD0.self (sz := s.heap.size)
  generalize hAe : va_A [(mo, .inr (8, [g 0, g 1, .int 0, g 3, g 4, g 5, g 6, g 7, g 8, g 9, g 10, g 11, g 12, g 13, .int 0, g 15, g 16, g 17, g 18, g 19, g 20, g 21, g 22, g 23, g 24, g 25, g 26, g 27, g 28, g 29, g 30, g 31, g 32, g 33, g 34, g 35, g 36, g 37, g 38, g 39]))] s.heap.size = A at hD ⊢
  have hA : ∀ q : Nat, s.heap.size ≤ q → A q := fun q h => by rw [← hAe]; exact Or.inr h
  have hS : va_S A s.heap s.heap [] := va_S.rf
  have hP : va_P (dC, dI) vwCl [(mo, .inr (8, [g 0, g 1, .int 0, g 3, g 4, g 5, g 6, g 7, g 8, g 9, g 10, g 11, g 12, g 13, .int 0, g 15, g 16, g 17, g 18, g 19, g 20, g 21, g 22, g 23, g 24, g 25, g 26, g 27, g 28, g 29, g 30, g 31, g 32, g 33, g 34, g 35, g 36, g 37, g 38, g 39]))] s.heap := hP
  have hl := lv_entry ([.ref mo, .int a]) (n := 2) (Nat.le_of_ble_eq_true rfl)
  rw [lg_entry_eq]
  generalize (lg_sl ([.ref mo, .int a]) ++ List.replicate (2 - (lg_sl ([.ref mo, .int a])).length) Slot.unset).toArray = ls at hl ⊢
  have hl : lv_has ls 2 [(0, .ref mo), (1, .int a)] := hl
  refine lv_aload_n hx hb dX8_size_0 rfl (lv_at hl 0 rfl) ?_
  refine lv_iconst (v := 0) hx hb dX8_size_1 (by decide) ?_
  refine va_put (D := (dC, dI)) (ci := 8) (v := .int 0) (ty := .int) (C := RX8) (T := TX8) (N := 40) hx hb hts (by decide +kernel) tyX8 tyX8_ok nmX8 hown hK hP hD hS 0 rfl rfl 0 (by decide) (hts (.fieldLink RX8 59 "WaxTurnsModel" "thrown" "I") (by decide +kernel)) (fun _ h9 => h9) rfl (by decide +kernel) rfl rfl (Nat.le_of_ble_eq_true rfl) dX8_size_2 (fun H locs hP hD hS => ?_)
  have hP : va_P (dC, dI) vwCl [(mo, .inr (8, [.int 0, g 1, .int 0, g 3, g 4, g 5, g 6, g 7, g 8, g 9, g 10, g 11, g 12, g 13, .int 0, g 15, g 16, g 17, g 18, g 19, g 20, g 21, g 22, g 23, g 24, g 25, g 26, g 27, g 28, g 29, g 30, g 31, g 32, g 33, g 34, g 35, g 36, g 37, g 38, g 39]))] H := hP
  have hD : va_D A [(mo, .inr (8, [.int 0, g 1, .int 0, g 3, g 4, g 5, g 6, g 7, g 8, g 9, g 10, g 11, g 12, g 13, .int 0, g 15, g 16, g 17, g 18, g 19, g 20, g 21, g 22, g 23, g 24, g 25, g 26, g 27, g 28, g 29, g 30, g 31, g 32, g 33, g 34, g 35, g 36, g 37, g 38, g 39]))] := hD
  refine lv_iload_n hx hb dX8_size_5 rfl (lv_at hl 1 rfl) ?_
  refine lv_bipush (v := 13) hx hb dX8_size_6 (by decide) ?_
  refine lv_icmp_ne (tgt := 16) hx hb dX8_size_8 (by decide) (fun c_1 => ?_) (fun c_1 => ?_)
  · refine lv_aload_n hx hb dX8_size_16 rfl (lv_at hl 0 rfl) ?_
    refine va_get (D := (dC, dI)) (ci := 8) (v := .int 0) (C := RX8) (T := TX8) (N := 40) hx hb hts (by decide +kernel) hown hK hP 0 rfl rfl 14 (by decide) (hts (.fieldLink RX8 173 "WaxTurnsModel" "hasGallery" "Z") (by decide +kernel)) (fun _ h9 => h9) rfl dX8_size_17 ?_
    refine lv_if_ne (tgt := 39) hx hb dX8_size_20 (by decide) (fun c_2 => absurd (by decide +kernel) c_2) (fun _ => ?_)
    refine lv_iload_n hx hb dX8_size_23 rfl (lv_at hl 1 rfl) ?_
    refine lv_iconst (v := 0) hx hb dX8_size_24 (by decide) ?_
    refine lv_bipush (v := 12) hx hb dX8_size_25 (by decide) ?_
    have hPc := hP.sub (ws' := []) [] rfl
    have hDc := hD.sub (ws' := []) [] (by decide) rfl
    have hKc := hK.sub (tys' := []) [] rfl
    have hFc := va_free (wc := []) hD hS hA [] rfl
    refine va_calli (va_runS (As := [.int a, .int 0, .int 12]) (rest := []) ⟨hx, hb, hml, hown, hts⟩ (c_X8_inP l dC dI H.size a 0 12 ) (va_cwS 3 hts gX8_size_X8_in rfl rfl rfl (by decide +kernel) ⟨Nat.le_of_ble_eq_true rfl, Nat.le_of_ble_eq_true rfl⟩) ⟨ax_blind (fun _ _ _ _ _ => trivial), ax_pre hPc hKc hDc (fun _ _ => trivial)⟩ rfl rfl hl.1 rfl (lv_room (Nat.le_of_ble_eq_true rfl)) dX8_size_27 ⟨Nat.le_of_ble_eq_true rfl, Nat.le_of_ble_eq_true rfl⟩) hS (fun q _ h => hFc q h) hFc (fun r_3 u t H1 locs ht hvm hw hB hz1 hk1 hS => ?_)
    obtain ⟨hP1, hK1, hD1⟩ := hB
    rw [ht] at hP1
    have hK1 := va_K.moved hvm.symm hK1
    obtain ⟨hP, hD⟩ := va_join (wr := [(mo, .inr (8, [.int 0, g 1, .int 0, g 3, g 4, g 5, g 6, g 7, g 8, g 9, g 10, g 11, g 12, g 13, .int 0, g 15, g 16, g 17, g 18, g 19, g 20, g 21, g 22, g 23, g 24, g 25, g 26, g 27, g 28, g 29, g 30, g 31, g 32, g 33, g 34, g 35, g 36, g 37, g 38, g 39]))]) (w1 := []) hP hD [] [0] rfl rfl (by decide) (by decide) hk1 hFc hP1 hD1
    have hK := (hK.sub (tys' := []) [] rfl).app hK1
    generalize H1 = H at hP hS ⊢
    have hP : va_P (dC, dI) vwCl [(mo, .inr (8, [.int 0, g 1, .int 0, g 3, g 4, g 5, g 6, g 7, g 8, g 9, g 10, g 11, g 12, g 13, .int 0, g 15, g 16, g 17, g 18, g 19, g 20, g 21, g 22, g 23, g 24, g 25, g 26, g 27, g 28, g 29, g 30, g 31, g 32, g 33, g 34, g 35, g 36, g 37, g 38, g 39]))] H := hP
    have hD : va_D A [(mo, .inr (8, [.int 0, g 1, .int 0, g 3, g 4, g 5, g 6, g 7, g 8, g 9, g 10, g 11, g 12, g 13, .int 0, g 15, g 16, g 17, g 18, g 19, g 20, g 21, g 22, g 23, g 24, g 25, g 26, g 27, g 28, g 29, g 30, g 31, g 32, g 33, g 34, g 35, g 36, g 37, g 38, g 39]))] := hD
    have hK : va_K (dC, dI) vwCl [] s := hK
    rcases hw with ⟨hw, h_4⟩ | ⟨hw, h_4⟩
    · subst hw
      refine lv_if_eq (tgt := 37) hx hb dX8_size_30 (by decide) (fun c_5 => absurd c_5 (by decide +kernel)) (fun _ => ?_)
      refine lv_iconst (v := 0) hx hb dX8_size_33 (by decide) ?_
      refine lv_goto (tgt := 38) hx hb dX8_size_34 (by decide) ?_
      have hP9 := hP.sub (ws' := []) [] rfl
      have hD9 := hD.sub (ws' := []) [] (by decide) rfl
      have hK9 := hK.sub (tys' := []) [] rfl
      exact W.iret (v := 0) hx hb hr (fun t ht hW => ⟨⟨0, (), rfl, Or.inl ⟨rfl, ax_r12 h_4⟩, by rw [ht]; exact hP9, va_K.moved hW.alike hK9, hD9⟩, hS.F ht⟩) hS.2.2 dX8_size_38
    · subst hw
      refine lv_if_eq (tgt := 37) hx hb dX8_size_30 (by decide) (fun _ => ?_) (fun c_6 => absurd (by decide +kernel) c_6)
      refine lv_iconst (v := (-1)) hx hb dX8_size_37 (by decide) ?_
      have hP9 := hP.sub (ws' := []) [] rfl
      have hD9 := hD.sub (ws' := []) [] (by decide) rfl
      have hK9 := hK.sub (tys' := []) [] rfl
      exact W.iret (v := (-1)) hx hb hr (fun t ht hW => ⟨⟨(-1), (), rfl, Or.inr ⟨rfl, ax_o12 c_1 h_4⟩, by rw [ht]; exact hP9, va_K.moved hW.alike hK9, hD9⟩, hS.F ht⟩) hS.2.2 dX8_size_38
  · refine lv_aload_n hx hb dX8_size_11 rfl (lv_at hl 0 rfl) ?_
    refine va_get (D := (dC, dI)) (ci := 8) (v := .int 0) (C := RX8) (T := TX8) (N := 40) hx hb hts (by decide +kernel) hown hK hP 0 rfl rfl 2 (by decide) (hts (.fieldLink RX8 65 "WaxTurnsModel" "taped" "I") (by decide +kernel)) (fun _ h9 => h9) rfl dX8_size_12 ?_
    have hP9 := hP.sub (ws' := []) [] rfl
    have hD9 := hD.sub (ws' := []) [] (by decide) rfl
    have hK9 := hK.sub (tys' := []) [] rfl
    exact W.iret (v := 0) hx hb hr (fun t ht hW => ⟨⟨0, (), rfl, Or.inl ⟨rfl, ax_13 c_1⟩, by rw [ht]; exact hP9, va_K.moved hW.alike hK9, hD9⟩, hS.F ht⟩) hS.2.2 dX8_size_15

set_option maxHeartbeats 4000000 in
set_option maxRecDepth 100000 in
theorem c_X8_feed (l : Launch) (dC : Nat → ClassId) (dI : Nat → Nat → Nat) (sz : Nat) (mo : Nat) (a0 : Int32) (a1 : Int32) (a2 : Int32) (a3 : Int32) (a4 : Int32) (g : Nat → Value) (tp : Nat) (kt : ClassId) (f : Nat → Int32) : Met l yX8_feed wsX8_feed ({ frames := 0, cells := 0, slots := 0, locals := 0 }) (va_Pc [.ref mo, .int a0, .int a1, .int a2, .int a3, .int a4] (ax_C dC dI sz [(mo, .inr (8, [g 0, .ref tp, .int 0, g 3, g 4, g 5, g 6, g 7, g 8, g 9, g 10, g 11, g 12, g 13, g 14, g 15, g 16, g 17, g 18, g 19, g 20, g 21, g 22, g 23, g 24, g 25, g 26, g 27, g 28, g 29, g 30, g 31, g 32, g 33, g 34, g 35, g 36, g 37, g 38, g 39])), (tp, .inl (kt, 900, .inl (f)))] [(kt, .int)] (fun _ => True))) (va_Qi (fun (r : Int32) (_ : Unit) => r = 20) (fun (_ : Unit) (t : State) => ax_B dC dI (va_A [(mo, .inr (8, [g 0, .ref tp, .int 0, g 3, g 4, g 5, g 6, g 7, g 8, g 9, g 10, g 11, g 12, g 13, g 14, g 15, g 16, g 17, g 18, g 19, g 20, g 21, g 22, g 23, g 24, g 25, g 26, g 27, g 28, g 29, g 30, g 31, g 32, g 33, g 34, g 35, g 36, g 37, g 38, g 39])), (tp, .inl (kt, 900, .inl (f)))] sz) [] [] t) (va_A [(mo, .inr (8, [g 0, .ref tp, .int 0, g 3, g 4, g 5, g 6, g 7, g 8, g 9, g 10, g 11, g 12, g 13, g 14, g 15, g 16, g 17, g 18, g 19, g 20, g 21, g 22, g 23, g 24, g 25, g 26, g 27, g 28, g 29, g 30, g 31, g 32, g 33, g 34, g 35, g 36, g 37, g 38, g 39])), (tp, .inl (kt, 900, .inl (f)))] sz)) 0 0 (va_A [(mo, .inr (8, [g 0, .ref tp, .int 0, g 3, g 4, g 5, g 6, g 7, g 8, g 9, g 10, g 11, g 12, g 13, g 14, g 15, g 16, g 17, g 18, g 19, g 20, g 21, g 22, g 23, g 24, g 25, g 26, g 27, g 28, g 29, g 30, g 31, g 32, g 33, g 34, g 35, g 36, g 37, g 38, g 39])), (tp, .inl (kt, 900, .inl (f)))] sz) := by
  refine Met.ofW (cc := cX8_feed) (maxL := 8) (ret := (some .int)) (by decide) rfl ?_
  intro p e s m args below meth c s₁ B hml hv
  obtain ⟨rfl, hsz, hP, hK, hD0, hE⟩ := hv
  have hx := B.exec
  have hb := B.bytes
  have hr := B.returns
  have hts := atoms_spec (ws := wsX8_feed) B.pre
  have hown : s.vm.findClass RX8 = some m.cls := findClass_of_methodNamed B.named
  have hlocks := B.notSynchronized
  subst hsz
  have hD := hD0.self (sz := s.heap.size)
  generalize hAe : va_A [(mo, .inr (8, [g 0, .ref tp, .int 0, g 3, g 4, g 5, g 6, g 7, g 8, g 9, g 10, g 11, g 12, g 13, g 14, g 15, g 16, g 17, g 18, g 19, g 20, g 21, g 22, g 23, g 24, g 25, g 26, g 27, g 28, g 29, g 30, g 31, g 32, g 33, g 34, g 35, g 36, g 37, g 38, g 39])), (tp, .inl (kt, 900, .inl (f)))] s.heap.size = A at hD ⊢
  have hA : ∀ q : Nat, s.heap.size ≤ q → A q := fun q h => by rw [← hAe]; exact Or.inr h
  have hS : va_S A s.heap s.heap [] := va_S.rf
  have hP : va_P (dC, dI) vwCl [(mo, .inr (8, [g 0, .ref tp, .int 0, g 3, g 4, g 5, g 6, g 7, g 8, g 9, g 10, g 11, g 12, g 13, g 14, g 15, g 16, g 17, g 18, g 19, g 20, g 21, g 22, g 23, g 24, g 25, g 26, g 27, g 28, g 29, g 30, g 31, g 32, g 33, g 34, g 35, g 36, g 37, g 38, g 39])), (tp, .inl (kt, 900, .inl (f)))] s.heap := hP
  have hl := lv_entry ([.ref mo, .int a0, .int a1, .int a2, .int a3, .int a4]) (n := 8) (Nat.le_of_ble_eq_true rfl)
  rw [lg_entry_eq]
  generalize (lg_sl ([.ref mo, .int a0, .int a1, .int a2, .int a3, .int a4]) ++ List.replicate (8 - (lg_sl ([.ref mo, .int a0, .int a1, .int a2, .int a3, .int a4])).length) Slot.unset).toArray = ls at hl ⊢
  have hl : lv_has ls 8 [(0, .ref mo), (1, .int a0), (2, .int a1), (3, .int a2), (4, .int a3), (5, .int a4)] := hl
  refine lv_aload_n hx hb dX8_feed_0 rfl (lv_at hl 0 rfl) ?_
  refine lv_iconst (v := 0) hx hb dX8_feed_1 (by decide) ?_
  refine va_put (D := (dC, dI)) (ci := 8) (v := .int 0) (ty := .int) (C := RX8) (T := TX8) (N := 40) hx hb hts (by decide +kernel) tyX8 tyX8_ok nmX8 hown hK hP hD hS 0 rfl rfl 0 (by decide) (hts (.fieldLink RX8 59 "WaxTurnsModel" "thrown" "I") (by decide +kernel)) (fun _ h9 => h9) rfl (by decide +kernel) rfl rfl (Nat.le_of_ble_eq_true rfl) dX8_feed_2 (fun H locs hP hD hS => ?_)
  have hP : va_P (dC, dI) vwCl [(mo, .inr (8, [.int 0, .ref tp, .int 0, g 3, g 4, g 5, g 6, g 7, g 8, g 9, g 10, g 11, g 12, g 13, g 14, g 15, g 16, g 17, g 18, g 19, g 20, g 21, g 22, g 23, g 24, g 25, g 26, g 27, g 28, g 29, g 30, g 31, g 32, g 33, g 34, g 35, g 36, g 37, g 38, g 39])), (tp, .inl (kt, 900, .inl (f)))] H := hP
  have hD : va_D A [(mo, .inr (8, [.int 0, .ref tp, .int 0, g 3, g 4, g 5, g 6, g 7, g 8, g 9, g 10, g 11, g 12, g 13, g 14, g 15, g 16, g 17, g 18, g 19, g 20, g 21, g 22, g 23, g 24, g 25, g 26, g 27, g 28, g 29, g 30, g 31, g 32, g 33, g 34, g 35, g 36, g 37, g 38, g 39])), (tp, .inl (kt, 900, .inl (f)))] := hD
  refine lv_aload_n hx hb dX8_feed_5 rfl (lv_at hl 0 rfl) ?_
  refine va_get (D := (dC, dI)) (ci := 8) (v := .int 0) (C := RX8) (T := TX8) (N := 40) hx hb hts (by decide +kernel) hown hK hP 0 rfl rfl 2 (by decide) (hts (.fieldLink RX8 65 "WaxTurnsModel" "taped" "I") (by decide +kernel)) (fun _ h9 => h9) rfl dX8_feed_6 ?_
  refine lv_bipush (v := 20) hx hb dX8_feed_9 (by decide) ?_
  refine lv_iadd hx hb dX8_feed_11 ?_
  refine ax_ti 20 (by decide +kernel) ?_
  refine lv_sipush (v := 900) hx hb dX8_feed_12 (by decide) ?_
  refine lv_icmp_le (tgt := 20) hx hb dX8_feed_15 (by decide) (fun _ => ?_) (fun c_1 => absurd (by decide +kernel) c_1)
  refine lv_iconst (v := 0) hx hb dX8_feed_20 (by decide) ?_
  refine lv_istore (lv' := [(6, .int 0), (0, .ref mo), (1, .int a0), (2, .int a1), (3, .int a2), (4, .int a3), (5, .int a4)]) hx hb dX8_feed_21 hl (by decide) rfl (fun ls hl => ?_)
  refine lv_iload hx hb dX8_feed_23 (lv_at hl 0 rfl) ?_
  refine lv_bipush (v := 20) hx hb dX8_feed_25 (by decide) ?_
  refine lv_icmp_ge (tgt := 120) hx hb dX8_feed_27 (by decide) (fun c_2 => absurd c_2 (by decide +kernel)) (fun _ => ?_)
  refine lv_iload hx hb dX8_feed_30 (lv_at hl 0 rfl) ?_
  refine lv_iconst (v := 4) hx hb dX8_feed_32 (by decide) ?_
  refine lv_icmp_ge (tgt := 40) hx hb dX8_feed_33 (by decide) (fun c_3 => absurd c_3 (by decide +kernel)) (fun _ => ?_)
  refine lv_iload_n hx hb dX8_feed_36 rfl (lv_at hl 2 rfl) ?_
  refine lv_goto (tgt := 76) hx hb dX8_feed_37 (by decide) ?_
  refine lv_istore (lv' := [(7, .int a0), (6, .int 0), (0, .ref mo), (1, .int a0), (2, .int a1), (3, .int a2), (4, .int a3), (5, .int a4)]) hx hb dX8_feed_76 hl (by decide) rfl (fun ls hl => ?_)
  refine lv_aload_n hx hb dX8_feed_78 rfl (lv_at hl 2 rfl) ?_
  refine va_get (D := (dC, dI)) (ci := 8) (v := .ref tp) (C := RX8) (T := TX8) (N := 40) hx hb hts (by decide +kernel) hown hK hP 0 rfl rfl 1 (by decide) (hts (.fieldLink RX8 7 "WaxTurnsModel" "tape" "[I") (by decide +kernel)) (fun _ h9 => h9) rfl dX8_feed_79 ?_
  refine lv_aload_n hx hb dX8_feed_82 rfl (lv_at hl 2 rfl) ?_
  refine va_get (D := (dC, dI)) (ci := 8) (v := .int 0) (C := RX8) (T := TX8) (N := 40) hx hb hts (by decide +kernel) hown hK hP 0 rfl rfl 2 (by decide) (hts (.fieldLink RX8 65 "WaxTurnsModel" "taped" "I") (by decide +kernel)) (fun _ h9 => h9) rfl dX8_feed_83 ?_
  refine lv_iload hx hb dX8_feed_86 (lv_at hl 0 rfl) ?_
  refine lv_bipush (v := 24) hx hb dX8_feed_88 (by decide) ?_
  refine lv_bipush (v := 8) hx hb dX8_feed_90 (by decide) ?_
  refine lv_iload hx hb dX8_feed_92 (lv_at hl 1 rfl) ?_
  refine lv_iconst (v := 4) hx hb dX8_feed_94 (by decide) ?_
  refine lv_irem hx hb dX8_feed_95 (by decide +kernel) ?_
  refine ax_ti 0 (by decide +kernel) ?_
  refine lv_imul hx hb dX8_feed_96 ?_
  refine ax_ti 0 (by decide +kernel) ?_
  refine lv_isub hx hb dX8_feed_97 ?_
  refine ax_ti 24 (by decide +kernel) ?_
  refine lv_ishr hx hb dX8_feed_98 ?_
  refine lv_topi (fun x_4 ex_4 => ?_)
  refine lv_sipush (v := 255) hx hb dX8_feed_99 (by decide) ?_
  refine lv_iand hx hb dX8_feed_102 ?_
  refine lv_topi (fun x_5 ex_5 => ?_)
  refine va_iast hx hb hK hP hD hS 1 0 rfl rfl (by unfold vp_in; decide +kernel) dX8_feed_103 (fun H locs hP hD hS => ?_)
  obtain ⟨f_6, hP, hD⟩ : ∃ f_6 : Nat → Int32, va_P (dC, dI) vwCl [(mo, .inr (8, [.int 0, .ref tp, .int 0, g 3, g 4, g 5, g 6, g 7, g 8, g 9, g 10, g 11, g 12, g 13, g 14, g 15, g 16, g 17, g 18, g 19, g 20, g 21, g 22, g 23, g 24, g 25, g 26, g 27, g 28, g 29, g 30, g 31, g 32, g 33, g 34, g 35, g 36, g 37, g 38, g 39])), (tp, .inl (kt, 900, .inl (f_6)))] H ∧ va_D A [(mo, .inr (8, [.int 0, .ref tp, .int 0, g 3, g 4, g 5, g 6, g 7, g 8, g 9, g 10, g 11, g 12, g 13, g 14, g 15, g 16, g 17, g 18, g 19, g 20, g 21, g 22, g 23, g 24, g 25, g 26, g 27, g 28, g 29, g 30, g 31, g 32, g 33, g 34, g 35, g 36, g 37, g 38, g 39])), (tp, .inl (kt, 900, .inl (f_6)))] := ⟨_, hP, hD⟩
  refine lv_aload_n hx hb dX8_feed_104 rfl (lv_at hl 2 rfl) ?_
  refine lv_dup hx hb dX8_feed_105 rfl ?_
  refine va_get (D := (dC, dI)) (ci := 8) (v := .int 0) (C := RX8) (T := TX8) (N := 40) hx hb hts (by decide +kernel) hown hK hP 0 rfl rfl 2 (by decide) (hts (.fieldLink RX8 65 "WaxTurnsModel" "taped" "I") (by decide +kernel)) (fun _ h9 => h9) rfl dX8_feed_106 ?_
  refine lv_iconst (v := 1) hx hb dX8_feed_109 (by decide) ?_
  refine lv_iadd hx hb dX8_feed_110 ?_
  refine ax_ti 1 (by decide +kernel) ?_
  refine va_put (D := (dC, dI)) (ci := 8) (v := .int 1) (ty := .int) (C := RX8) (T := TX8) (N := 40) hx hb hts (by decide +kernel) tyX8 tyX8_ok nmX8 hown hK hP hD hS 0 rfl rfl 2 (by decide) (hts (.fieldLink RX8 65 "WaxTurnsModel" "taped" "I") (by decide +kernel)) (fun _ h9 => h9) rfl (by decide +kernel) rfl rfl (Nat.le_of_ble_eq_true rfl) dX8_feed_111 (fun H locs hP hD hS => ?_)
  have hP : va_P (dC, dI) vwCl [(mo, .inr (8, [.int 0, .ref tp, .int 1, g 3, g 4, g 5, g 6, g 7, g 8, g 9, g 10, g 11, g 12, g 13, g 14, g 15, g 16, g 17, g 18, g 19, g 20, g 21, g 22, g 23, g 24, g 25, g 26, g 27, g 28, g 29, g 30, g 31, g 32, g 33, g 34, g 35, g 36, g 37, g 38, g 39])), (tp, .inl (kt, 900, .inl (f_6)))] H := hP
  have hD : va_D A [(mo, .inr (8, [.int 0, .ref tp, .int 1, g 3, g 4, g 5, g 6, g 7, g 8, g 9, g 10, g 11, g 12, g 13, g 14, g 15, g 16, g 17, g 18, g 19, g 20, g 21, g 22, g 23, g 24, g 25, g 26, g 27, g 28, g 29, g 30, g 31, g 32, g 33, g 34, g 35, g 36, g 37, g 38, g 39])), (tp, .inl (kt, 900, .inl (f_6)))] := hD
  refine lv_iinc (v := 1) (lv' := [(6, .int 1), (7, .int a0), (0, .ref mo), (1, .int a0), (2, .int a1), (3, .int a2), (4, .int a3), (5, .int a4)]) hx hb dX8_feed_114 hl (k := 1) rfl (by decide +kernel) (by decide) rfl (fun ls hl => ?_)
  refine lv_goto (tgt := 23) hx hb dX8_feed_117 (by decide) ?_
  refine lv_iload hx hb dX8_feed_23 (lv_at hl 0 rfl) ?_
  refine lv_bipush (v := 20) hx hb dX8_feed_25 (by decide) ?_
  refine lv_icmp_ge (tgt := 120) hx hb dX8_feed_27 (by decide) (fun c_7 => absurd c_7 (by decide +kernel)) (fun _ => ?_)
  refine lv_iload hx hb dX8_feed_30 (lv_at hl 0 rfl) ?_
  refine lv_iconst (v := 4) hx hb dX8_feed_32 (by decide) ?_
  refine lv_icmp_ge (tgt := 40) hx hb dX8_feed_33 (by decide) (fun c_8 => absurd c_8 (by decide +kernel)) (fun _ => ?_)
  refine lv_iload_n hx hb dX8_feed_36 rfl (lv_at hl 3 rfl) ?_
  refine lv_goto (tgt := 76) hx hb dX8_feed_37 (by decide) ?_
  refine lv_istore (lv' := [(7, .int a0), (6, .int 1), (0, .ref mo), (1, .int a0), (2, .int a1), (3, .int a2), (4, .int a3), (5, .int a4)]) hx hb dX8_feed_76 hl (by decide) rfl (fun ls hl => ?_)
  refine lv_aload_n hx hb dX8_feed_78 rfl (lv_at hl 2 rfl) ?_
  refine va_get (D := (dC, dI)) (ci := 8) (v := .ref tp) (C := RX8) (T := TX8) (N := 40) hx hb hts (by decide +kernel) hown hK hP 0 rfl rfl 1 (by decide) (hts (.fieldLink RX8 7 "WaxTurnsModel" "tape" "[I") (by decide +kernel)) (fun _ h9 => h9) rfl dX8_feed_79 ?_
  refine lv_aload_n hx hb dX8_feed_82 rfl (lv_at hl 2 rfl) ?_
  refine va_get (D := (dC, dI)) (ci := 8) (v := .int 1) (C := RX8) (T := TX8) (N := 40) hx hb hts (by decide +kernel) hown hK hP 0 rfl rfl 2 (by decide) (hts (.fieldLink RX8 65 "WaxTurnsModel" "taped" "I") (by decide +kernel)) (fun _ h9 => h9) rfl dX8_feed_83 ?_
  refine lv_iload hx hb dX8_feed_86 (lv_at hl 0 rfl) ?_
  refine lv_bipush (v := 24) hx hb dX8_feed_88 (by decide) ?_
  refine lv_bipush (v := 8) hx hb dX8_feed_90 (by decide) ?_
  refine lv_iload hx hb dX8_feed_92 (lv_at hl 1 rfl) ?_
  refine lv_iconst (v := 4) hx hb dX8_feed_94 (by decide) ?_
  refine lv_irem hx hb dX8_feed_95 (by decide +kernel) ?_
  refine ax_ti 1 (by decide +kernel) ?_
  refine lv_imul hx hb dX8_feed_96 ?_
  refine ax_ti 8 (by decide +kernel) ?_
  refine lv_isub hx hb dX8_feed_97 ?_
  refine ax_ti 16 (by decide +kernel) ?_
  refine lv_ishr hx hb dX8_feed_98 ?_
  refine lv_topi (fun x_9 ex_9 => ?_)
  refine lv_sipush (v := 255) hx hb dX8_feed_99 (by decide) ?_
  refine lv_iand hx hb dX8_feed_102 ?_
  refine lv_topi (fun x_10 ex_10 => ?_)
  refine va_iast hx hb hK hP hD hS 1 0 rfl rfl (by unfold vp_in; decide +kernel) dX8_feed_103 (fun H locs hP hD hS => ?_)
  obtain ⟨f_11, hP, hD⟩ : ∃ f_11 : Nat → Int32, va_P (dC, dI) vwCl [(mo, .inr (8, [.int 0, .ref tp, .int 1, g 3, g 4, g 5, g 6, g 7, g 8, g 9, g 10, g 11, g 12, g 13, g 14, g 15, g 16, g 17, g 18, g 19, g 20, g 21, g 22, g 23, g 24, g 25, g 26, g 27, g 28, g 29, g 30, g 31, g 32, g 33, g 34, g 35, g 36, g 37, g 38, g 39])), (tp, .inl (kt, 900, .inl (f_11)))] H ∧ va_D A [(mo, .inr (8, [.int 0, .ref tp, .int 1, g 3, g 4, g 5, g 6, g 7, g 8, g 9, g 10, g 11, g 12, g 13, g 14, g 15, g 16, g 17, g 18, g 19, g 20, g 21, g 22, g 23, g 24, g 25, g 26, g 27, g 28, g 29, g 30, g 31, g 32, g 33, g 34, g 35, g 36, g 37, g 38, g 39])), (tp, .inl (kt, 900, .inl (f_11)))] := ⟨_, hP, hD⟩
  refine lv_aload_n hx hb dX8_feed_104 rfl (lv_at hl 2 rfl) ?_
  refine lv_dup hx hb dX8_feed_105 rfl ?_
  refine va_get (D := (dC, dI)) (ci := 8) (v := .int 1) (C := RX8) (T := TX8) (N := 40) hx hb hts (by decide +kernel) hown hK hP 0 rfl rfl 2 (by decide) (hts (.fieldLink RX8 65 "WaxTurnsModel" "taped" "I") (by decide +kernel)) (fun _ h9 => h9) rfl dX8_feed_106 ?_
  refine lv_iconst (v := 1) hx hb dX8_feed_109 (by decide) ?_
  refine lv_iadd hx hb dX8_feed_110 ?_
  refine ax_ti 2 (by decide +kernel) ?_
  refine va_put (D := (dC, dI)) (ci := 8) (v := .int 2) (ty := .int) (C := RX8) (T := TX8) (N := 40) hx hb hts (by decide +kernel) tyX8 tyX8_ok nmX8 hown hK hP hD hS 0 rfl rfl 2 (by decide) (hts (.fieldLink RX8 65 "WaxTurnsModel" "taped" "I") (by decide +kernel)) (fun _ h9 => h9) rfl (by decide +kernel) rfl rfl (Nat.le_of_ble_eq_true rfl) dX8_feed_111 (fun H locs hP hD hS => ?_)
  have hP : va_P (dC, dI) vwCl [(mo, .inr (8, [.int 0, .ref tp, .int 2, g 3, g 4, g 5, g 6, g 7, g 8, g 9, g 10, g 11, g 12, g 13, g 14, g 15, g 16, g 17, g 18, g 19, g 20, g 21, g 22, g 23, g 24, g 25, g 26, g 27, g 28, g 29, g 30, g 31, g 32, g 33, g 34, g 35, g 36, g 37, g 38, g 39])), (tp, .inl (kt, 900, .inl (f_11)))] H := hP
  have hD : va_D A [(mo, .inr (8, [.int 0, .ref tp, .int 2, g 3, g 4, g 5, g 6, g 7, g 8, g 9, g 10, g 11, g 12, g 13, g 14, g 15, g 16, g 17, g 18, g 19, g 20, g 21, g 22, g 23, g 24, g 25, g 26, g 27, g 28, g 29, g 30, g 31, g 32, g 33, g 34, g 35, g 36, g 37, g 38, g 39])), (tp, .inl (kt, 900, .inl (f_11)))] := hD
  refine lv_iinc (v := 2) (lv' := [(6, .int 2), (7, .int a0), (0, .ref mo), (1, .int a0), (2, .int a1), (3, .int a2), (4, .int a3), (5, .int a4)]) hx hb dX8_feed_114 hl (k := 1) rfl (by decide +kernel) (by decide) rfl (fun ls hl => ?_)
  refine lv_goto (tgt := 23) hx hb dX8_feed_117 (by decide) ?_
  refine lv_iload hx hb dX8_feed_23 (lv_at hl 0 rfl) ?_
  refine lv_bipush (v := 20) hx hb dX8_feed_25 (by decide) ?_
  refine lv_icmp_ge (tgt := 120) hx hb dX8_feed_27 (by decide) (fun c_12 => absurd c_12 (by decide +kernel)) (fun _ => ?_)
  refine lv_iload hx hb dX8_feed_30 (lv_at hl 0 rfl) ?_
  refine lv_iconst (v := 4) hx hb dX8_feed_32 (by decide) ?_
  refine lv_icmp_ge (tgt := 40) hx hb dX8_feed_33 (by decide) (fun c_13 => absurd c_13 (by decide +kernel)) (fun _ => ?_)
  refine lv_iload_n hx hb dX8_feed_36 rfl (lv_at hl 3 rfl) ?_
  refine lv_goto (tgt := 76) hx hb dX8_feed_37 (by decide) ?_
  refine lv_istore (lv' := [(7, .int a0), (6, .int 2), (0, .ref mo), (1, .int a0), (2, .int a1), (3, .int a2), (4, .int a3), (5, .int a4)]) hx hb dX8_feed_76 hl (by decide) rfl (fun ls hl => ?_)
  refine lv_aload_n hx hb dX8_feed_78 rfl (lv_at hl 2 rfl) ?_
  refine va_get (D := (dC, dI)) (ci := 8) (v := .ref tp) (C := RX8) (T := TX8) (N := 40) hx hb hts (by decide +kernel) hown hK hP 0 rfl rfl 1 (by decide) (hts (.fieldLink RX8 7 "WaxTurnsModel" "tape" "[I") (by decide +kernel)) (fun _ h9 => h9) rfl dX8_feed_79 ?_
  refine lv_aload_n hx hb dX8_feed_82 rfl (lv_at hl 2 rfl) ?_
  refine va_get (D := (dC, dI)) (ci := 8) (v := .int 2) (C := RX8) (T := TX8) (N := 40) hx hb hts (by decide +kernel) hown hK hP 0 rfl rfl 2 (by decide) (hts (.fieldLink RX8 65 "WaxTurnsModel" "taped" "I") (by decide +kernel)) (fun _ h9 => h9) rfl dX8_feed_83 ?_
  refine lv_iload hx hb dX8_feed_86 (lv_at hl 0 rfl) ?_
  refine lv_bipush (v := 24) hx hb dX8_feed_88 (by decide) ?_
  refine lv_bipush (v := 8) hx hb dX8_feed_90 (by decide) ?_
  refine lv_iload hx hb dX8_feed_92 (lv_at hl 1 rfl) ?_
  refine lv_iconst (v := 4) hx hb dX8_feed_94 (by decide) ?_
  refine lv_irem hx hb dX8_feed_95 (by decide +kernel) ?_
  refine ax_ti 2 (by decide +kernel) ?_
  refine lv_imul hx hb dX8_feed_96 ?_
  refine ax_ti 16 (by decide +kernel) ?_
  refine lv_isub hx hb dX8_feed_97 ?_
  refine ax_ti 8 (by decide +kernel) ?_
  refine lv_ishr hx hb dX8_feed_98 ?_
  refine lv_topi (fun x_14 ex_14 => ?_)
  refine lv_sipush (v := 255) hx hb dX8_feed_99 (by decide) ?_
  refine lv_iand hx hb dX8_feed_102 ?_
  refine lv_topi (fun x_15 ex_15 => ?_)
  refine va_iast hx hb hK hP hD hS 1 0 rfl rfl (by unfold vp_in; decide +kernel) dX8_feed_103 (fun H locs hP hD hS => ?_)
  obtain ⟨f_16, hP, hD⟩ : ∃ f_16 : Nat → Int32, va_P (dC, dI) vwCl [(mo, .inr (8, [.int 0, .ref tp, .int 2, g 3, g 4, g 5, g 6, g 7, g 8, g 9, g 10, g 11, g 12, g 13, g 14, g 15, g 16, g 17, g 18, g 19, g 20, g 21, g 22, g 23, g 24, g 25, g 26, g 27, g 28, g 29, g 30, g 31, g 32, g 33, g 34, g 35, g 36, g 37, g 38, g 39])), (tp, .inl (kt, 900, .inl (f_16)))] H ∧ va_D A [(mo, .inr (8, [.int 0, .ref tp, .int 2, g 3, g 4, g 5, g 6, g 7, g 8, g 9, g 10, g 11, g 12, g 13, g 14, g 15, g 16, g 17, g 18, g 19, g 20, g 21, g 22, g 23, g 24, g 25, g 26, g 27, g 28, g 29, g 30, g 31, g 32, g 33, g 34, g 35, g 36, g 37, g 38, g 39])), (tp, .inl (kt, 900, .inl (f_16)))] := ⟨_, hP, hD⟩
  refine lv_aload_n hx hb dX8_feed_104 rfl (lv_at hl 2 rfl) ?_
  refine lv_dup hx hb dX8_feed_105 rfl ?_
  refine va_get (D := (dC, dI)) (ci := 8) (v := .int 2) (C := RX8) (T := TX8) (N := 40) hx hb hts (by decide +kernel) hown hK hP 0 rfl rfl 2 (by decide) (hts (.fieldLink RX8 65 "WaxTurnsModel" "taped" "I") (by decide +kernel)) (fun _ h9 => h9) rfl dX8_feed_106 ?_
  refine lv_iconst (v := 1) hx hb dX8_feed_109 (by decide) ?_
  refine lv_iadd hx hb dX8_feed_110 ?_
  refine ax_ti 3 (by decide +kernel) ?_
  refine va_put (D := (dC, dI)) (ci := 8) (v := .int 3) (ty := .int) (C := RX8) (T := TX8) (N := 40) hx hb hts (by decide +kernel) tyX8 tyX8_ok nmX8 hown hK hP hD hS 0 rfl rfl 2 (by decide) (hts (.fieldLink RX8 65 "WaxTurnsModel" "taped" "I") (by decide +kernel)) (fun _ h9 => h9) rfl (by decide +kernel) rfl rfl (Nat.le_of_ble_eq_true rfl) dX8_feed_111 (fun H locs hP hD hS => ?_)
  have hP : va_P (dC, dI) vwCl [(mo, .inr (8, [.int 0, .ref tp, .int 3, g 3, g 4, g 5, g 6, g 7, g 8, g 9, g 10, g 11, g 12, g 13, g 14, g 15, g 16, g 17, g 18, g 19, g 20, g 21, g 22, g 23, g 24, g 25, g 26, g 27, g 28, g 29, g 30, g 31, g 32, g 33, g 34, g 35, g 36, g 37, g 38, g 39])), (tp, .inl (kt, 900, .inl (f_16)))] H := hP
  have hD : va_D A [(mo, .inr (8, [.int 0, .ref tp, .int 3, g 3, g 4, g 5, g 6, g 7, g 8, g 9, g 10, g 11, g 12, g 13, g 14, g 15, g 16, g 17, g 18, g 19, g 20, g 21, g 22, g 23, g 24, g 25, g 26, g 27, g 28, g 29, g 30, g 31, g 32, g 33, g 34, g 35, g 36, g 37, g 38, g 39])), (tp, .inl (kt, 900, .inl (f_16)))] := hD
  refine lv_iinc (v := 3) (lv' := [(6, .int 3), (7, .int a0), (0, .ref mo), (1, .int a0), (2, .int a1), (3, .int a2), (4, .int a3), (5, .int a4)]) hx hb dX8_feed_114 hl (k := 1) rfl (by decide +kernel) (by decide) rfl (fun ls hl => ?_)
  refine lv_goto (tgt := 23) hx hb dX8_feed_117 (by decide) ?_
  refine lv_iload hx hb dX8_feed_23 (lv_at hl 0 rfl) ?_
  refine lv_bipush (v := 20) hx hb dX8_feed_25 (by decide) ?_
  refine lv_icmp_ge (tgt := 120) hx hb dX8_feed_27 (by decide) (fun c_17 => absurd c_17 (by decide +kernel)) (fun _ => ?_)
  refine lv_iload hx hb dX8_feed_30 (lv_at hl 0 rfl) ?_
  refine lv_iconst (v := 4) hx hb dX8_feed_32 (by decide) ?_
  refine lv_icmp_ge (tgt := 40) hx hb dX8_feed_33 (by decide) (fun c_18 => absurd c_18 (by decide +kernel)) (fun _ => ?_)
  refine lv_iload_n hx hb dX8_feed_36 rfl (lv_at hl 3 rfl) ?_
  refine lv_goto (tgt := 76) hx hb dX8_feed_37 (by decide) ?_
  refine lv_istore (lv' := [(7, .int a0), (6, .int 3), (0, .ref mo), (1, .int a0), (2, .int a1), (3, .int a2), (4, .int a3), (5, .int a4)]) hx hb dX8_feed_76 hl (by decide) rfl (fun ls hl => ?_)
  refine lv_aload_n hx hb dX8_feed_78 rfl (lv_at hl 2 rfl) ?_
  refine va_get (D := (dC, dI)) (ci := 8) (v := .ref tp) (C := RX8) (T := TX8) (N := 40) hx hb hts (by decide +kernel) hown hK hP 0 rfl rfl 1 (by decide) (hts (.fieldLink RX8 7 "WaxTurnsModel" "tape" "[I") (by decide +kernel)) (fun _ h9 => h9) rfl dX8_feed_79 ?_
  refine lv_aload_n hx hb dX8_feed_82 rfl (lv_at hl 2 rfl) ?_
  refine va_get (D := (dC, dI)) (ci := 8) (v := .int 3) (C := RX8) (T := TX8) (N := 40) hx hb hts (by decide +kernel) hown hK hP 0 rfl rfl 2 (by decide) (hts (.fieldLink RX8 65 "WaxTurnsModel" "taped" "I") (by decide +kernel)) (fun _ h9 => h9) rfl dX8_feed_83 ?_
  refine lv_iload hx hb dX8_feed_86 (lv_at hl 0 rfl) ?_
  refine lv_bipush (v := 24) hx hb dX8_feed_88 (by decide) ?_
  refine lv_bipush (v := 8) hx hb dX8_feed_90 (by decide) ?_
  refine lv_iload hx hb dX8_feed_92 (lv_at hl 1 rfl) ?_
  refine lv_iconst (v := 4) hx hb dX8_feed_94 (by decide) ?_
  refine lv_irem hx hb dX8_feed_95 (by decide +kernel) ?_
  refine ax_ti 3 (by decide +kernel) ?_
  refine lv_imul hx hb dX8_feed_96 ?_
  refine ax_ti 24 (by decide +kernel) ?_
  refine lv_isub hx hb dX8_feed_97 ?_
  refine ax_ti 0 (by decide +kernel) ?_
  refine lv_ishr hx hb dX8_feed_98 ?_
  refine lv_topi (fun x_19 ex_19 => ?_)
  refine lv_sipush (v := 255) hx hb dX8_feed_99 (by decide) ?_
  refine lv_iand hx hb dX8_feed_102 ?_
  refine lv_topi (fun x_20 ex_20 => ?_)
  refine va_iast hx hb hK hP hD hS 1 0 rfl rfl (by unfold vp_in; decide +kernel) dX8_feed_103 (fun H locs hP hD hS => ?_)
  obtain ⟨f_21, hP, hD⟩ : ∃ f_21 : Nat → Int32, va_P (dC, dI) vwCl [(mo, .inr (8, [.int 0, .ref tp, .int 3, g 3, g 4, g 5, g 6, g 7, g 8, g 9, g 10, g 11, g 12, g 13, g 14, g 15, g 16, g 17, g 18, g 19, g 20, g 21, g 22, g 23, g 24, g 25, g 26, g 27, g 28, g 29, g 30, g 31, g 32, g 33, g 34, g 35, g 36, g 37, g 38, g 39])), (tp, .inl (kt, 900, .inl (f_21)))] H ∧ va_D A [(mo, .inr (8, [.int 0, .ref tp, .int 3, g 3, g 4, g 5, g 6, g 7, g 8, g 9, g 10, g 11, g 12, g 13, g 14, g 15, g 16, g 17, g 18, g 19, g 20, g 21, g 22, g 23, g 24, g 25, g 26, g 27, g 28, g 29, g 30, g 31, g 32, g 33, g 34, g 35, g 36, g 37, g 38, g 39])), (tp, .inl (kt, 900, .inl (f_21)))] := ⟨_, hP, hD⟩
  refine lv_aload_n hx hb dX8_feed_104 rfl (lv_at hl 2 rfl) ?_
  refine lv_dup hx hb dX8_feed_105 rfl ?_
  refine va_get (D := (dC, dI)) (ci := 8) (v := .int 3) (C := RX8) (T := TX8) (N := 40) hx hb hts (by decide +kernel) hown hK hP 0 rfl rfl 2 (by decide) (hts (.fieldLink RX8 65 "WaxTurnsModel" "taped" "I") (by decide +kernel)) (fun _ h9 => h9) rfl dX8_feed_106 ?_
  refine lv_iconst (v := 1) hx hb dX8_feed_109 (by decide) ?_
  refine lv_iadd hx hb dX8_feed_110 ?_
  refine ax_ti 4 (by decide +kernel) ?_
  refine va_put (D := (dC, dI)) (ci := 8) (v := .int 4) (ty := .int) (C := RX8) (T := TX8) (N := 40) hx hb hts (by decide +kernel) tyX8 tyX8_ok nmX8 hown hK hP hD hS 0 rfl rfl 2 (by decide) (hts (.fieldLink RX8 65 "WaxTurnsModel" "taped" "I") (by decide +kernel)) (fun _ h9 => h9) rfl (by decide +kernel) rfl rfl (Nat.le_of_ble_eq_true rfl) dX8_feed_111 (fun H locs hP hD hS => ?_)
  have hP : va_P (dC, dI) vwCl [(mo, .inr (8, [.int 0, .ref tp, .int 4, g 3, g 4, g 5, g 6, g 7, g 8, g 9, g 10, g 11, g 12, g 13, g 14, g 15, g 16, g 17, g 18, g 19, g 20, g 21, g 22, g 23, g 24, g 25, g 26, g 27, g 28, g 29, g 30, g 31, g 32, g 33, g 34, g 35, g 36, g 37, g 38, g 39])), (tp, .inl (kt, 900, .inl (f_21)))] H := hP
  have hD : va_D A [(mo, .inr (8, [.int 0, .ref tp, .int 4, g 3, g 4, g 5, g 6, g 7, g 8, g 9, g 10, g 11, g 12, g 13, g 14, g 15, g 16, g 17, g 18, g 19, g 20, g 21, g 22, g 23, g 24, g 25, g 26, g 27, g 28, g 29, g 30, g 31, g 32, g 33, g 34, g 35, g 36, g 37, g 38, g 39])), (tp, .inl (kt, 900, .inl (f_21)))] := hD
  refine lv_iinc (v := 4) (lv' := [(6, .int 4), (7, .int a0), (0, .ref mo), (1, .int a0), (2, .int a1), (3, .int a2), (4, .int a3), (5, .int a4)]) hx hb dX8_feed_114 hl (k := 1) rfl (by decide +kernel) (by decide) rfl (fun ls hl => ?_)
  refine lv_goto (tgt := 23) hx hb dX8_feed_117 (by decide) ?_
  refine lv_iload hx hb dX8_feed_23 (lv_at hl 0 rfl) ?_
  refine lv_bipush (v := 20) hx hb dX8_feed_25 (by decide) ?_
  refine lv_icmp_ge (tgt := 120) hx hb dX8_feed_27 (by decide) (fun c_22 => absurd c_22 (by decide +kernel)) (fun _ => ?_)
  refine lv_iload hx hb dX8_feed_30 (lv_at hl 0 rfl) ?_
  refine lv_iconst (v := 4) hx hb dX8_feed_32 (by decide) ?_
  refine lv_icmp_ge (tgt := 40) hx hb dX8_feed_33 (by decide) (fun _ => ?_) (fun c_23 => absurd (by decide +kernel) c_23)
  refine lv_iload hx hb dX8_feed_40 (lv_at hl 0 rfl) ?_
  refine lv_bipush (v := 8) hx hb dX8_feed_42 (by decide) ?_
  refine lv_icmp_ge (tgt := 51) hx hb dX8_feed_44 (by decide) (fun c_24 => absurd c_24 (by decide +kernel)) (fun _ => ?_)
  refine lv_iload_n hx hb dX8_feed_47 rfl (lv_at hl 4 rfl) ?_
  refine lv_goto (tgt := 76) hx hb dX8_feed_48 (by decide) ?_
  refine lv_istore (lv' := [(7, .int a1), (6, .int 4), (0, .ref mo), (1, .int a0), (2, .int a1), (3, .int a2), (4, .int a3), (5, .int a4)]) hx hb dX8_feed_76 hl (by decide) rfl (fun ls hl => ?_)
  refine lv_aload_n hx hb dX8_feed_78 rfl (lv_at hl 2 rfl) ?_
  refine va_get (D := (dC, dI)) (ci := 8) (v := .ref tp) (C := RX8) (T := TX8) (N := 40) hx hb hts (by decide +kernel) hown hK hP 0 rfl rfl 1 (by decide) (hts (.fieldLink RX8 7 "WaxTurnsModel" "tape" "[I") (by decide +kernel)) (fun _ h9 => h9) rfl dX8_feed_79 ?_
  refine lv_aload_n hx hb dX8_feed_82 rfl (lv_at hl 2 rfl) ?_
  refine va_get (D := (dC, dI)) (ci := 8) (v := .int 4) (C := RX8) (T := TX8) (N := 40) hx hb hts (by decide +kernel) hown hK hP 0 rfl rfl 2 (by decide) (hts (.fieldLink RX8 65 "WaxTurnsModel" "taped" "I") (by decide +kernel)) (fun _ h9 => h9) rfl dX8_feed_83 ?_
  refine lv_iload hx hb dX8_feed_86 (lv_at hl 0 rfl) ?_
  refine lv_bipush (v := 24) hx hb dX8_feed_88 (by decide) ?_
  refine lv_bipush (v := 8) hx hb dX8_feed_90 (by decide) ?_
  refine lv_iload hx hb dX8_feed_92 (lv_at hl 1 rfl) ?_
  refine lv_iconst (v := 4) hx hb dX8_feed_94 (by decide) ?_
  refine lv_irem hx hb dX8_feed_95 (by decide +kernel) ?_
  refine ax_ti 0 (by decide +kernel) ?_
  refine lv_imul hx hb dX8_feed_96 ?_
  refine ax_ti 0 (by decide +kernel) ?_
  refine lv_isub hx hb dX8_feed_97 ?_
  refine ax_ti 24 (by decide +kernel) ?_
  refine lv_ishr hx hb dX8_feed_98 ?_
  refine lv_topi (fun x_25 ex_25 => ?_)
  refine lv_sipush (v := 255) hx hb dX8_feed_99 (by decide) ?_
  refine lv_iand hx hb dX8_feed_102 ?_
  refine lv_topi (fun x_26 ex_26 => ?_)
  refine va_iast hx hb hK hP hD hS 1 0 rfl rfl (by unfold vp_in; decide +kernel) dX8_feed_103 (fun H locs hP hD hS => ?_)
  obtain ⟨f_27, hP, hD⟩ : ∃ f_27 : Nat → Int32, va_P (dC, dI) vwCl [(mo, .inr (8, [.int 0, .ref tp, .int 4, g 3, g 4, g 5, g 6, g 7, g 8, g 9, g 10, g 11, g 12, g 13, g 14, g 15, g 16, g 17, g 18, g 19, g 20, g 21, g 22, g 23, g 24, g 25, g 26, g 27, g 28, g 29, g 30, g 31, g 32, g 33, g 34, g 35, g 36, g 37, g 38, g 39])), (tp, .inl (kt, 900, .inl (f_27)))] H ∧ va_D A [(mo, .inr (8, [.int 0, .ref tp, .int 4, g 3, g 4, g 5, g 6, g 7, g 8, g 9, g 10, g 11, g 12, g 13, g 14, g 15, g 16, g 17, g 18, g 19, g 20, g 21, g 22, g 23, g 24, g 25, g 26, g 27, g 28, g 29, g 30, g 31, g 32, g 33, g 34, g 35, g 36, g 37, g 38, g 39])), (tp, .inl (kt, 900, .inl (f_27)))] := ⟨_, hP, hD⟩
  refine lv_aload_n hx hb dX8_feed_104 rfl (lv_at hl 2 rfl) ?_
  refine lv_dup hx hb dX8_feed_105 rfl ?_
  refine va_get (D := (dC, dI)) (ci := 8) (v := .int 4) (C := RX8) (T := TX8) (N := 40) hx hb hts (by decide +kernel) hown hK hP 0 rfl rfl 2 (by decide) (hts (.fieldLink RX8 65 "WaxTurnsModel" "taped" "I") (by decide +kernel)) (fun _ h9 => h9) rfl dX8_feed_106 ?_
  refine lv_iconst (v := 1) hx hb dX8_feed_109 (by decide) ?_
  refine lv_iadd hx hb dX8_feed_110 ?_
  refine ax_ti 5 (by decide +kernel) ?_
  refine va_put (D := (dC, dI)) (ci := 8) (v := .int 5) (ty := .int) (C := RX8) (T := TX8) (N := 40) hx hb hts (by decide +kernel) tyX8 tyX8_ok nmX8 hown hK hP hD hS 0 rfl rfl 2 (by decide) (hts (.fieldLink RX8 65 "WaxTurnsModel" "taped" "I") (by decide +kernel)) (fun _ h9 => h9) rfl (by decide +kernel) rfl rfl (Nat.le_of_ble_eq_true rfl) dX8_feed_111 (fun H locs hP hD hS => ?_)
  have hP : va_P (dC, dI) vwCl [(mo, .inr (8, [.int 0, .ref tp, .int 5, g 3, g 4, g 5, g 6, g 7, g 8, g 9, g 10, g 11, g 12, g 13, g 14, g 15, g 16, g 17, g 18, g 19, g 20, g 21, g 22, g 23, g 24, g 25, g 26, g 27, g 28, g 29, g 30, g 31, g 32, g 33, g 34, g 35, g 36, g 37, g 38, g 39])), (tp, .inl (kt, 900, .inl (f_27)))] H := hP
  have hD : va_D A [(mo, .inr (8, [.int 0, .ref tp, .int 5, g 3, g 4, g 5, g 6, g 7, g 8, g 9, g 10, g 11, g 12, g 13, g 14, g 15, g 16, g 17, g 18, g 19, g 20, g 21, g 22, g 23, g 24, g 25, g 26, g 27, g 28, g 29, g 30, g 31, g 32, g 33, g 34, g 35, g 36, g 37, g 38, g 39])), (tp, .inl (kt, 900, .inl (f_27)))] := hD
  refine lv_iinc (v := 5) (lv' := [(6, .int 5), (7, .int a1), (0, .ref mo), (1, .int a0), (2, .int a1), (3, .int a2), (4, .int a3), (5, .int a4)]) hx hb dX8_feed_114 hl (k := 1) rfl (by decide +kernel) (by decide) rfl (fun ls hl => ?_)
  refine lv_goto (tgt := 23) hx hb dX8_feed_117 (by decide) ?_
  refine lv_iload hx hb dX8_feed_23 (lv_at hl 0 rfl) ?_
  refine lv_bipush (v := 20) hx hb dX8_feed_25 (by decide) ?_
  refine lv_icmp_ge (tgt := 120) hx hb dX8_feed_27 (by decide) (fun c_28 => absurd c_28 (by decide +kernel)) (fun _ => ?_)
  refine lv_iload hx hb dX8_feed_30 (lv_at hl 0 rfl) ?_
  refine lv_iconst (v := 4) hx hb dX8_feed_32 (by decide) ?_
  refine lv_icmp_ge (tgt := 40) hx hb dX8_feed_33 (by decide) (fun _ => ?_) (fun c_29 => absurd (by decide +kernel) c_29)
  refine lv_iload hx hb dX8_feed_40 (lv_at hl 0 rfl) ?_
  refine lv_bipush (v := 8) hx hb dX8_feed_42 (by decide) ?_
  refine lv_icmp_ge (tgt := 51) hx hb dX8_feed_44 (by decide) (fun c_30 => absurd c_30 (by decide +kernel)) (fun _ => ?_)
  refine lv_iload_n hx hb dX8_feed_47 rfl (lv_at hl 4 rfl) ?_
  refine lv_goto (tgt := 76) hx hb dX8_feed_48 (by decide) ?_
  refine lv_istore (lv' := [(7, .int a1), (6, .int 5), (0, .ref mo), (1, .int a0), (2, .int a1), (3, .int a2), (4, .int a3), (5, .int a4)]) hx hb dX8_feed_76 hl (by decide) rfl (fun ls hl => ?_)
  refine lv_aload_n hx hb dX8_feed_78 rfl (lv_at hl 2 rfl) ?_
  refine va_get (D := (dC, dI)) (ci := 8) (v := .ref tp) (C := RX8) (T := TX8) (N := 40) hx hb hts (by decide +kernel) hown hK hP 0 rfl rfl 1 (by decide) (hts (.fieldLink RX8 7 "WaxTurnsModel" "tape" "[I") (by decide +kernel)) (fun _ h9 => h9) rfl dX8_feed_79 ?_
  refine lv_aload_n hx hb dX8_feed_82 rfl (lv_at hl 2 rfl) ?_
  refine va_get (D := (dC, dI)) (ci := 8) (v := .int 5) (C := RX8) (T := TX8) (N := 40) hx hb hts (by decide +kernel) hown hK hP 0 rfl rfl 2 (by decide) (hts (.fieldLink RX8 65 "WaxTurnsModel" "taped" "I") (by decide +kernel)) (fun _ h9 => h9) rfl dX8_feed_83 ?_
  refine lv_iload hx hb dX8_feed_86 (lv_at hl 0 rfl) ?_
  refine lv_bipush (v := 24) hx hb dX8_feed_88 (by decide) ?_
  refine lv_bipush (v := 8) hx hb dX8_feed_90 (by decide) ?_
  refine lv_iload hx hb dX8_feed_92 (lv_at hl 1 rfl) ?_
  refine lv_iconst (v := 4) hx hb dX8_feed_94 (by decide) ?_
  refine lv_irem hx hb dX8_feed_95 (by decide +kernel) ?_
  refine ax_ti 1 (by decide +kernel) ?_
  refine lv_imul hx hb dX8_feed_96 ?_
  refine ax_ti 8 (by decide +kernel) ?_
  refine lv_isub hx hb dX8_feed_97 ?_
  refine ax_ti 16 (by decide +kernel) ?_
  refine lv_ishr hx hb dX8_feed_98 ?_
  refine lv_topi (fun x_31 ex_31 => ?_)
  refine lv_sipush (v := 255) hx hb dX8_feed_99 (by decide) ?_
  refine lv_iand hx hb dX8_feed_102 ?_
  refine lv_topi (fun x_32 ex_32 => ?_)
  refine va_iast hx hb hK hP hD hS 1 0 rfl rfl (by unfold vp_in; decide +kernel) dX8_feed_103 (fun H locs hP hD hS => ?_)
  obtain ⟨f_33, hP, hD⟩ : ∃ f_33 : Nat → Int32, va_P (dC, dI) vwCl [(mo, .inr (8, [.int 0, .ref tp, .int 5, g 3, g 4, g 5, g 6, g 7, g 8, g 9, g 10, g 11, g 12, g 13, g 14, g 15, g 16, g 17, g 18, g 19, g 20, g 21, g 22, g 23, g 24, g 25, g 26, g 27, g 28, g 29, g 30, g 31, g 32, g 33, g 34, g 35, g 36, g 37, g 38, g 39])), (tp, .inl (kt, 900, .inl (f_33)))] H ∧ va_D A [(mo, .inr (8, [.int 0, .ref tp, .int 5, g 3, g 4, g 5, g 6, g 7, g 8, g 9, g 10, g 11, g 12, g 13, g 14, g 15, g 16, g 17, g 18, g 19, g 20, g 21, g 22, g 23, g 24, g 25, g 26, g 27, g 28, g 29, g 30, g 31, g 32, g 33, g 34, g 35, g 36, g 37, g 38, g 39])), (tp, .inl (kt, 900, .inl (f_33)))] := ⟨_, hP, hD⟩
  refine lv_aload_n hx hb dX8_feed_104 rfl (lv_at hl 2 rfl) ?_
  refine lv_dup hx hb dX8_feed_105 rfl ?_
  refine va_get (D := (dC, dI)) (ci := 8) (v := .int 5) (C := RX8) (T := TX8) (N := 40) hx hb hts (by decide +kernel) hown hK hP 0 rfl rfl 2 (by decide) (hts (.fieldLink RX8 65 "WaxTurnsModel" "taped" "I") (by decide +kernel)) (fun _ h9 => h9) rfl dX8_feed_106 ?_
  refine lv_iconst (v := 1) hx hb dX8_feed_109 (by decide) ?_
  refine lv_iadd hx hb dX8_feed_110 ?_
  refine ax_ti 6 (by decide +kernel) ?_
  refine va_put (D := (dC, dI)) (ci := 8) (v := .int 6) (ty := .int) (C := RX8) (T := TX8) (N := 40) hx hb hts (by decide +kernel) tyX8 tyX8_ok nmX8 hown hK hP hD hS 0 rfl rfl 2 (by decide) (hts (.fieldLink RX8 65 "WaxTurnsModel" "taped" "I") (by decide +kernel)) (fun _ h9 => h9) rfl (by decide +kernel) rfl rfl (Nat.le_of_ble_eq_true rfl) dX8_feed_111 (fun H locs hP hD hS => ?_)
  have hP : va_P (dC, dI) vwCl [(mo, .inr (8, [.int 0, .ref tp, .int 6, g 3, g 4, g 5, g 6, g 7, g 8, g 9, g 10, g 11, g 12, g 13, g 14, g 15, g 16, g 17, g 18, g 19, g 20, g 21, g 22, g 23, g 24, g 25, g 26, g 27, g 28, g 29, g 30, g 31, g 32, g 33, g 34, g 35, g 36, g 37, g 38, g 39])), (tp, .inl (kt, 900, .inl (f_33)))] H := hP
  have hD : va_D A [(mo, .inr (8, [.int 0, .ref tp, .int 6, g 3, g 4, g 5, g 6, g 7, g 8, g 9, g 10, g 11, g 12, g 13, g 14, g 15, g 16, g 17, g 18, g 19, g 20, g 21, g 22, g 23, g 24, g 25, g 26, g 27, g 28, g 29, g 30, g 31, g 32, g 33, g 34, g 35, g 36, g 37, g 38, g 39])), (tp, .inl (kt, 900, .inl (f_33)))] := hD
  refine lv_iinc (v := 6) (lv' := [(6, .int 6), (7, .int a1), (0, .ref mo), (1, .int a0), (2, .int a1), (3, .int a2), (4, .int a3), (5, .int a4)]) hx hb dX8_feed_114 hl (k := 1) rfl (by decide +kernel) (by decide) rfl (fun ls hl => ?_)
  refine lv_goto (tgt := 23) hx hb dX8_feed_117 (by decide) ?_
  refine lv_iload hx hb dX8_feed_23 (lv_at hl 0 rfl) ?_
  refine lv_bipush (v := 20) hx hb dX8_feed_25 (by decide) ?_
  refine lv_icmp_ge (tgt := 120) hx hb dX8_feed_27 (by decide) (fun c_34 => absurd c_34 (by decide +kernel)) (fun _ => ?_)
  refine lv_iload hx hb dX8_feed_30 (lv_at hl 0 rfl) ?_
  refine lv_iconst (v := 4) hx hb dX8_feed_32 (by decide) ?_
  refine lv_icmp_ge (tgt := 40) hx hb dX8_feed_33 (by decide) (fun _ => ?_) (fun c_35 => absurd (by decide +kernel) c_35)
  refine lv_iload hx hb dX8_feed_40 (lv_at hl 0 rfl) ?_
  refine lv_bipush (v := 8) hx hb dX8_feed_42 (by decide) ?_
  refine lv_icmp_ge (tgt := 51) hx hb dX8_feed_44 (by decide) (fun c_36 => absurd c_36 (by decide +kernel)) (fun _ => ?_)
  refine lv_iload_n hx hb dX8_feed_47 rfl (lv_at hl 4 rfl) ?_
  refine lv_goto (tgt := 76) hx hb dX8_feed_48 (by decide) ?_
  refine lv_istore (lv' := [(7, .int a1), (6, .int 6), (0, .ref mo), (1, .int a0), (2, .int a1), (3, .int a2), (4, .int a3), (5, .int a4)]) hx hb dX8_feed_76 hl (by decide) rfl (fun ls hl => ?_)
  refine lv_aload_n hx hb dX8_feed_78 rfl (lv_at hl 2 rfl) ?_
  refine va_get (D := (dC, dI)) (ci := 8) (v := .ref tp) (C := RX8) (T := TX8) (N := 40) hx hb hts (by decide +kernel) hown hK hP 0 rfl rfl 1 (by decide) (hts (.fieldLink RX8 7 "WaxTurnsModel" "tape" "[I") (by decide +kernel)) (fun _ h9 => h9) rfl dX8_feed_79 ?_
  refine lv_aload_n hx hb dX8_feed_82 rfl (lv_at hl 2 rfl) ?_
  refine va_get (D := (dC, dI)) (ci := 8) (v := .int 6) (C := RX8) (T := TX8) (N := 40) hx hb hts (by decide +kernel) hown hK hP 0 rfl rfl 2 (by decide) (hts (.fieldLink RX8 65 "WaxTurnsModel" "taped" "I") (by decide +kernel)) (fun _ h9 => h9) rfl dX8_feed_83 ?_
  refine lv_iload hx hb dX8_feed_86 (lv_at hl 0 rfl) ?_
  refine lv_bipush (v := 24) hx hb dX8_feed_88 (by decide) ?_
  refine lv_bipush (v := 8) hx hb dX8_feed_90 (by decide) ?_
  refine lv_iload hx hb dX8_feed_92 (lv_at hl 1 rfl) ?_
  refine lv_iconst (v := 4) hx hb dX8_feed_94 (by decide) ?_
  refine lv_irem hx hb dX8_feed_95 (by decide +kernel) ?_
  refine ax_ti 2 (by decide +kernel) ?_
  refine lv_imul hx hb dX8_feed_96 ?_
  refine ax_ti 16 (by decide +kernel) ?_
  refine lv_isub hx hb dX8_feed_97 ?_
  refine ax_ti 8 (by decide +kernel) ?_
  refine lv_ishr hx hb dX8_feed_98 ?_
  refine lv_topi (fun x_37 ex_37 => ?_)
  refine lv_sipush (v := 255) hx hb dX8_feed_99 (by decide) ?_
  refine lv_iand hx hb dX8_feed_102 ?_
  refine lv_topi (fun x_38 ex_38 => ?_)
  refine va_iast hx hb hK hP hD hS 1 0 rfl rfl (by unfold vp_in; decide +kernel) dX8_feed_103 (fun H locs hP hD hS => ?_)
  obtain ⟨f_39, hP, hD⟩ : ∃ f_39 : Nat → Int32, va_P (dC, dI) vwCl [(mo, .inr (8, [.int 0, .ref tp, .int 6, g 3, g 4, g 5, g 6, g 7, g 8, g 9, g 10, g 11, g 12, g 13, g 14, g 15, g 16, g 17, g 18, g 19, g 20, g 21, g 22, g 23, g 24, g 25, g 26, g 27, g 28, g 29, g 30, g 31, g 32, g 33, g 34, g 35, g 36, g 37, g 38, g 39])), (tp, .inl (kt, 900, .inl (f_39)))] H ∧ va_D A [(mo, .inr (8, [.int 0, .ref tp, .int 6, g 3, g 4, g 5, g 6, g 7, g 8, g 9, g 10, g 11, g 12, g 13, g 14, g 15, g 16, g 17, g 18, g 19, g 20, g 21, g 22, g 23, g 24, g 25, g 26, g 27, g 28, g 29, g 30, g 31, g 32, g 33, g 34, g 35, g 36, g 37, g 38, g 39])), (tp, .inl (kt, 900, .inl (f_39)))] := ⟨_, hP, hD⟩
  refine lv_aload_n hx hb dX8_feed_104 rfl (lv_at hl 2 rfl) ?_
  refine lv_dup hx hb dX8_feed_105 rfl ?_
  refine va_get (D := (dC, dI)) (ci := 8) (v := .int 6) (C := RX8) (T := TX8) (N := 40) hx hb hts (by decide +kernel) hown hK hP 0 rfl rfl 2 (by decide) (hts (.fieldLink RX8 65 "WaxTurnsModel" "taped" "I") (by decide +kernel)) (fun _ h9 => h9) rfl dX8_feed_106 ?_
  refine lv_iconst (v := 1) hx hb dX8_feed_109 (by decide) ?_
  refine lv_iadd hx hb dX8_feed_110 ?_
  refine ax_ti 7 (by decide +kernel) ?_
  refine va_put (D := (dC, dI)) (ci := 8) (v := .int 7) (ty := .int) (C := RX8) (T := TX8) (N := 40) hx hb hts (by decide +kernel) tyX8 tyX8_ok nmX8 hown hK hP hD hS 0 rfl rfl 2 (by decide) (hts (.fieldLink RX8 65 "WaxTurnsModel" "taped" "I") (by decide +kernel)) (fun _ h9 => h9) rfl (by decide +kernel) rfl rfl (Nat.le_of_ble_eq_true rfl) dX8_feed_111 (fun H locs hP hD hS => ?_)
  have hP : va_P (dC, dI) vwCl [(mo, .inr (8, [.int 0, .ref tp, .int 7, g 3, g 4, g 5, g 6, g 7, g 8, g 9, g 10, g 11, g 12, g 13, g 14, g 15, g 16, g 17, g 18, g 19, g 20, g 21, g 22, g 23, g 24, g 25, g 26, g 27, g 28, g 29, g 30, g 31, g 32, g 33, g 34, g 35, g 36, g 37, g 38, g 39])), (tp, .inl (kt, 900, .inl (f_39)))] H := hP
  have hD : va_D A [(mo, .inr (8, [.int 0, .ref tp, .int 7, g 3, g 4, g 5, g 6, g 7, g 8, g 9, g 10, g 11, g 12, g 13, g 14, g 15, g 16, g 17, g 18, g 19, g 20, g 21, g 22, g 23, g 24, g 25, g 26, g 27, g 28, g 29, g 30, g 31, g 32, g 33, g 34, g 35, g 36, g 37, g 38, g 39])), (tp, .inl (kt, 900, .inl (f_39)))] := hD
  refine lv_iinc (v := 7) (lv' := [(6, .int 7), (7, .int a1), (0, .ref mo), (1, .int a0), (2, .int a1), (3, .int a2), (4, .int a3), (5, .int a4)]) hx hb dX8_feed_114 hl (k := 1) rfl (by decide +kernel) (by decide) rfl (fun ls hl => ?_)
  refine lv_goto (tgt := 23) hx hb dX8_feed_117 (by decide) ?_
  refine lv_iload hx hb dX8_feed_23 (lv_at hl 0 rfl) ?_
  refine lv_bipush (v := 20) hx hb dX8_feed_25 (by decide) ?_
  refine lv_icmp_ge (tgt := 120) hx hb dX8_feed_27 (by decide) (fun c_40 => absurd c_40 (by decide +kernel)) (fun _ => ?_)
  refine lv_iload hx hb dX8_feed_30 (lv_at hl 0 rfl) ?_
  refine lv_iconst (v := 4) hx hb dX8_feed_32 (by decide) ?_
  refine lv_icmp_ge (tgt := 40) hx hb dX8_feed_33 (by decide) (fun _ => ?_) (fun c_41 => absurd (by decide +kernel) c_41)
  refine lv_iload hx hb dX8_feed_40 (lv_at hl 0 rfl) ?_
  refine lv_bipush (v := 8) hx hb dX8_feed_42 (by decide) ?_
  refine lv_icmp_ge (tgt := 51) hx hb dX8_feed_44 (by decide) (fun c_42 => absurd c_42 (by decide +kernel)) (fun _ => ?_)
  refine lv_iload_n hx hb dX8_feed_47 rfl (lv_at hl 4 rfl) ?_
  refine lv_goto (tgt := 76) hx hb dX8_feed_48 (by decide) ?_
  refine lv_istore (lv' := [(7, .int a1), (6, .int 7), (0, .ref mo), (1, .int a0), (2, .int a1), (3, .int a2), (4, .int a3), (5, .int a4)]) hx hb dX8_feed_76 hl (by decide) rfl (fun ls hl => ?_)
  refine lv_aload_n hx hb dX8_feed_78 rfl (lv_at hl 2 rfl) ?_
  refine va_get (D := (dC, dI)) (ci := 8) (v := .ref tp) (C := RX8) (T := TX8) (N := 40) hx hb hts (by decide +kernel) hown hK hP 0 rfl rfl 1 (by decide) (hts (.fieldLink RX8 7 "WaxTurnsModel" "tape" "[I") (by decide +kernel)) (fun _ h9 => h9) rfl dX8_feed_79 ?_
  refine lv_aload_n hx hb dX8_feed_82 rfl (lv_at hl 2 rfl) ?_
  refine va_get (D := (dC, dI)) (ci := 8) (v := .int 7) (C := RX8) (T := TX8) (N := 40) hx hb hts (by decide +kernel) hown hK hP 0 rfl rfl 2 (by decide) (hts (.fieldLink RX8 65 "WaxTurnsModel" "taped" "I") (by decide +kernel)) (fun _ h9 => h9) rfl dX8_feed_83 ?_
  refine lv_iload hx hb dX8_feed_86 (lv_at hl 0 rfl) ?_
  refine lv_bipush (v := 24) hx hb dX8_feed_88 (by decide) ?_
  refine lv_bipush (v := 8) hx hb dX8_feed_90 (by decide) ?_
  refine lv_iload hx hb dX8_feed_92 (lv_at hl 1 rfl) ?_
  refine lv_iconst (v := 4) hx hb dX8_feed_94 (by decide) ?_
  refine lv_irem hx hb dX8_feed_95 (by decide +kernel) ?_
  refine ax_ti 3 (by decide +kernel) ?_
  refine lv_imul hx hb dX8_feed_96 ?_
  refine ax_ti 24 (by decide +kernel) ?_
  refine lv_isub hx hb dX8_feed_97 ?_
  refine ax_ti 0 (by decide +kernel) ?_
  refine lv_ishr hx hb dX8_feed_98 ?_
  refine lv_topi (fun x_43 ex_43 => ?_)
  refine lv_sipush (v := 255) hx hb dX8_feed_99 (by decide) ?_
  refine lv_iand hx hb dX8_feed_102 ?_
  refine lv_topi (fun x_44 ex_44 => ?_)
  refine va_iast hx hb hK hP hD hS 1 0 rfl rfl (by unfold vp_in; decide +kernel) dX8_feed_103 (fun H locs hP hD hS => ?_)
  obtain ⟨f_45, hP, hD⟩ : ∃ f_45 : Nat → Int32, va_P (dC, dI) vwCl [(mo, .inr (8, [.int 0, .ref tp, .int 7, g 3, g 4, g 5, g 6, g 7, g 8, g 9, g 10, g 11, g 12, g 13, g 14, g 15, g 16, g 17, g 18, g 19, g 20, g 21, g 22, g 23, g 24, g 25, g 26, g 27, g 28, g 29, g 30, g 31, g 32, g 33, g 34, g 35, g 36, g 37, g 38, g 39])), (tp, .inl (kt, 900, .inl (f_45)))] H ∧ va_D A [(mo, .inr (8, [.int 0, .ref tp, .int 7, g 3, g 4, g 5, g 6, g 7, g 8, g 9, g 10, g 11, g 12, g 13, g 14, g 15, g 16, g 17, g 18, g 19, g 20, g 21, g 22, g 23, g 24, g 25, g 26, g 27, g 28, g 29, g 30, g 31, g 32, g 33, g 34, g 35, g 36, g 37, g 38, g 39])), (tp, .inl (kt, 900, .inl (f_45)))] := ⟨_, hP, hD⟩
  refine lv_aload_n hx hb dX8_feed_104 rfl (lv_at hl 2 rfl) ?_
  refine lv_dup hx hb dX8_feed_105 rfl ?_
  refine va_get (D := (dC, dI)) (ci := 8) (v := .int 7) (C := RX8) (T := TX8) (N := 40) hx hb hts (by decide +kernel) hown hK hP 0 rfl rfl 2 (by decide) (hts (.fieldLink RX8 65 "WaxTurnsModel" "taped" "I") (by decide +kernel)) (fun _ h9 => h9) rfl dX8_feed_106 ?_
  refine lv_iconst (v := 1) hx hb dX8_feed_109 (by decide) ?_
  refine lv_iadd hx hb dX8_feed_110 ?_
  refine ax_ti 8 (by decide +kernel) ?_
  refine va_put (D := (dC, dI)) (ci := 8) (v := .int 8) (ty := .int) (C := RX8) (T := TX8) (N := 40) hx hb hts (by decide +kernel) tyX8 tyX8_ok nmX8 hown hK hP hD hS 0 rfl rfl 2 (by decide) (hts (.fieldLink RX8 65 "WaxTurnsModel" "taped" "I") (by decide +kernel)) (fun _ h9 => h9) rfl (by decide +kernel) rfl rfl (Nat.le_of_ble_eq_true rfl) dX8_feed_111 (fun H locs hP hD hS => ?_)
  have hP : va_P (dC, dI) vwCl [(mo, .inr (8, [.int 0, .ref tp, .int 8, g 3, g 4, g 5, g 6, g 7, g 8, g 9, g 10, g 11, g 12, g 13, g 14, g 15, g 16, g 17, g 18, g 19, g 20, g 21, g 22, g 23, g 24, g 25, g 26, g 27, g 28, g 29, g 30, g 31, g 32, g 33, g 34, g 35, g 36, g 37, g 38, g 39])), (tp, .inl (kt, 900, .inl (f_45)))] H := hP
  have hD : va_D A [(mo, .inr (8, [.int 0, .ref tp, .int 8, g 3, g 4, g 5, g 6, g 7, g 8, g 9, g 10, g 11, g 12, g 13, g 14, g 15, g 16, g 17, g 18, g 19, g 20, g 21, g 22, g 23, g 24, g 25, g 26, g 27, g 28, g 29, g 30, g 31, g 32, g 33, g 34, g 35, g 36, g 37, g 38, g 39])), (tp, .inl (kt, 900, .inl (f_45)))] := hD
  refine lv_iinc (v := 8) (lv' := [(6, .int 8), (7, .int a1), (0, .ref mo), (1, .int a0), (2, .int a1), (3, .int a2), (4, .int a3), (5, .int a4)]) hx hb dX8_feed_114 hl (k := 1) rfl (by decide +kernel) (by decide) rfl (fun ls hl => ?_)
  refine lv_goto (tgt := 23) hx hb dX8_feed_117 (by decide) ?_
  refine lv_iload hx hb dX8_feed_23 (lv_at hl 0 rfl) ?_
  refine lv_bipush (v := 20) hx hb dX8_feed_25 (by decide) ?_
  refine lv_icmp_ge (tgt := 120) hx hb dX8_feed_27 (by decide) (fun c_46 => absurd c_46 (by decide +kernel)) (fun _ => ?_)
  refine lv_iload hx hb dX8_feed_30 (lv_at hl 0 rfl) ?_
  refine lv_iconst (v := 4) hx hb dX8_feed_32 (by decide) ?_
  refine lv_icmp_ge (tgt := 40) hx hb dX8_feed_33 (by decide) (fun _ => ?_) (fun c_47 => absurd (by decide +kernel) c_47)
  refine lv_iload hx hb dX8_feed_40 (lv_at hl 0 rfl) ?_
  refine lv_bipush (v := 8) hx hb dX8_feed_42 (by decide) ?_
  refine lv_icmp_ge (tgt := 51) hx hb dX8_feed_44 (by decide) (fun _ => ?_) (fun c_48 => absurd (by decide +kernel) c_48)
  refine lv_iload hx hb dX8_feed_51 (lv_at hl 0 rfl) ?_
  refine lv_bipush (v := 12) hx hb dX8_feed_53 (by decide) ?_
  refine lv_icmp_ge (tgt := 62) hx hb dX8_feed_55 (by decide) (fun c_49 => absurd c_49 (by decide +kernel)) (fun _ => ?_)
  refine lv_iload_n hx hb dX8_feed_58 rfl (lv_at hl 5 rfl) ?_
  refine lv_goto (tgt := 76) hx hb dX8_feed_59 (by decide) ?_
  refine lv_istore (lv' := [(7, .int a2), (6, .int 8), (0, .ref mo), (1, .int a0), (2, .int a1), (3, .int a2), (4, .int a3), (5, .int a4)]) hx hb dX8_feed_76 hl (by decide) rfl (fun ls hl => ?_)
  refine lv_aload_n hx hb dX8_feed_78 rfl (lv_at hl 2 rfl) ?_
  refine va_get (D := (dC, dI)) (ci := 8) (v := .ref tp) (C := RX8) (T := TX8) (N := 40) hx hb hts (by decide +kernel) hown hK hP 0 rfl rfl 1 (by decide) (hts (.fieldLink RX8 7 "WaxTurnsModel" "tape" "[I") (by decide +kernel)) (fun _ h9 => h9) rfl dX8_feed_79 ?_
  refine lv_aload_n hx hb dX8_feed_82 rfl (lv_at hl 2 rfl) ?_
  refine va_get (D := (dC, dI)) (ci := 8) (v := .int 8) (C := RX8) (T := TX8) (N := 40) hx hb hts (by decide +kernel) hown hK hP 0 rfl rfl 2 (by decide) (hts (.fieldLink RX8 65 "WaxTurnsModel" "taped" "I") (by decide +kernel)) (fun _ h9 => h9) rfl dX8_feed_83 ?_
  refine lv_iload hx hb dX8_feed_86 (lv_at hl 0 rfl) ?_
  refine lv_bipush (v := 24) hx hb dX8_feed_88 (by decide) ?_
  refine lv_bipush (v := 8) hx hb dX8_feed_90 (by decide) ?_
  refine lv_iload hx hb dX8_feed_92 (lv_at hl 1 rfl) ?_
  refine lv_iconst (v := 4) hx hb dX8_feed_94 (by decide) ?_
  refine lv_irem hx hb dX8_feed_95 (by decide +kernel) ?_
  refine ax_ti 0 (by decide +kernel) ?_
  refine lv_imul hx hb dX8_feed_96 ?_
  refine ax_ti 0 (by decide +kernel) ?_
  refine lv_isub hx hb dX8_feed_97 ?_
  refine ax_ti 24 (by decide +kernel) ?_
  refine lv_ishr hx hb dX8_feed_98 ?_
  refine lv_topi (fun x_50 ex_50 => ?_)
  refine lv_sipush (v := 255) hx hb dX8_feed_99 (by decide) ?_
  refine lv_iand hx hb dX8_feed_102 ?_
  refine lv_topi (fun x_51 ex_51 => ?_)
  refine va_iast hx hb hK hP hD hS 1 0 rfl rfl (by unfold vp_in; decide +kernel) dX8_feed_103 (fun H locs hP hD hS => ?_)
  obtain ⟨f_52, hP, hD⟩ : ∃ f_52 : Nat → Int32, va_P (dC, dI) vwCl [(mo, .inr (8, [.int 0, .ref tp, .int 8, g 3, g 4, g 5, g 6, g 7, g 8, g 9, g 10, g 11, g 12, g 13, g 14, g 15, g 16, g 17, g 18, g 19, g 20, g 21, g 22, g 23, g 24, g 25, g 26, g 27, g 28, g 29, g 30, g 31, g 32, g 33, g 34, g 35, g 36, g 37, g 38, g 39])), (tp, .inl (kt, 900, .inl (f_52)))] H ∧ va_D A [(mo, .inr (8, [.int 0, .ref tp, .int 8, g 3, g 4, g 5, g 6, g 7, g 8, g 9, g 10, g 11, g 12, g 13, g 14, g 15, g 16, g 17, g 18, g 19, g 20, g 21, g 22, g 23, g 24, g 25, g 26, g 27, g 28, g 29, g 30, g 31, g 32, g 33, g 34, g 35, g 36, g 37, g 38, g 39])), (tp, .inl (kt, 900, .inl (f_52)))] := ⟨_, hP, hD⟩
  refine lv_aload_n hx hb dX8_feed_104 rfl (lv_at hl 2 rfl) ?_
  refine lv_dup hx hb dX8_feed_105 rfl ?_
  refine va_get (D := (dC, dI)) (ci := 8) (v := .int 8) (C := RX8) (T := TX8) (N := 40) hx hb hts (by decide +kernel) hown hK hP 0 rfl rfl 2 (by decide) (hts (.fieldLink RX8 65 "WaxTurnsModel" "taped" "I") (by decide +kernel)) (fun _ h9 => h9) rfl dX8_feed_106 ?_
  refine lv_iconst (v := 1) hx hb dX8_feed_109 (by decide) ?_
  refine lv_iadd hx hb dX8_feed_110 ?_
  refine ax_ti 9 (by decide +kernel) ?_
  refine va_put (D := (dC, dI)) (ci := 8) (v := .int 9) (ty := .int) (C := RX8) (T := TX8) (N := 40) hx hb hts (by decide +kernel) tyX8 tyX8_ok nmX8 hown hK hP hD hS 0 rfl rfl 2 (by decide) (hts (.fieldLink RX8 65 "WaxTurnsModel" "taped" "I") (by decide +kernel)) (fun _ h9 => h9) rfl (by decide +kernel) rfl rfl (Nat.le_of_ble_eq_true rfl) dX8_feed_111 (fun H locs hP hD hS => ?_)
  have hP : va_P (dC, dI) vwCl [(mo, .inr (8, [.int 0, .ref tp, .int 9, g 3, g 4, g 5, g 6, g 7, g 8, g 9, g 10, g 11, g 12, g 13, g 14, g 15, g 16, g 17, g 18, g 19, g 20, g 21, g 22, g 23, g 24, g 25, g 26, g 27, g 28, g 29, g 30, g 31, g 32, g 33, g 34, g 35, g 36, g 37, g 38, g 39])), (tp, .inl (kt, 900, .inl (f_52)))] H := hP
  have hD : va_D A [(mo, .inr (8, [.int 0, .ref tp, .int 9, g 3, g 4, g 5, g 6, g 7, g 8, g 9, g 10, g 11, g 12, g 13, g 14, g 15, g 16, g 17, g 18, g 19, g 20, g 21, g 22, g 23, g 24, g 25, g 26, g 27, g 28, g 29, g 30, g 31, g 32, g 33, g 34, g 35, g 36, g 37, g 38, g 39])), (tp, .inl (kt, 900, .inl (f_52)))] := hD
  refine lv_iinc (v := 9) (lv' := [(6, .int 9), (7, .int a2), (0, .ref mo), (1, .int a0), (2, .int a1), (3, .int a2), (4, .int a3), (5, .int a4)]) hx hb dX8_feed_114 hl (k := 1) rfl (by decide +kernel) (by decide) rfl (fun ls hl => ?_)
  refine lv_goto (tgt := 23) hx hb dX8_feed_117 (by decide) ?_
  refine lv_iload hx hb dX8_feed_23 (lv_at hl 0 rfl) ?_
  refine lv_bipush (v := 20) hx hb dX8_feed_25 (by decide) ?_
  refine lv_icmp_ge (tgt := 120) hx hb dX8_feed_27 (by decide) (fun c_53 => absurd c_53 (by decide +kernel)) (fun _ => ?_)
  refine lv_iload hx hb dX8_feed_30 (lv_at hl 0 rfl) ?_
  refine lv_iconst (v := 4) hx hb dX8_feed_32 (by decide) ?_
  refine lv_icmp_ge (tgt := 40) hx hb dX8_feed_33 (by decide) (fun _ => ?_) (fun c_54 => absurd (by decide +kernel) c_54)
  refine lv_iload hx hb dX8_feed_40 (lv_at hl 0 rfl) ?_
  refine lv_bipush (v := 8) hx hb dX8_feed_42 (by decide) ?_
  refine lv_icmp_ge (tgt := 51) hx hb dX8_feed_44 (by decide) (fun _ => ?_) (fun c_55 => absurd (by decide +kernel) c_55)
  refine lv_iload hx hb dX8_feed_51 (lv_at hl 0 rfl) ?_
  refine lv_bipush (v := 12) hx hb dX8_feed_53 (by decide) ?_
  refine lv_icmp_ge (tgt := 62) hx hb dX8_feed_55 (by decide) (fun c_56 => absurd c_56 (by decide +kernel)) (fun _ => ?_)
  refine lv_iload_n hx hb dX8_feed_58 rfl (lv_at hl 5 rfl) ?_
  refine lv_goto (tgt := 76) hx hb dX8_feed_59 (by decide) ?_
  refine lv_istore (lv' := [(7, .int a2), (6, .int 9), (0, .ref mo), (1, .int a0), (2, .int a1), (3, .int a2), (4, .int a3), (5, .int a4)]) hx hb dX8_feed_76 hl (by decide) rfl (fun ls hl => ?_)
  refine lv_aload_n hx hb dX8_feed_78 rfl (lv_at hl 2 rfl) ?_
  refine va_get (D := (dC, dI)) (ci := 8) (v := .ref tp) (C := RX8) (T := TX8) (N := 40) hx hb hts (by decide +kernel) hown hK hP 0 rfl rfl 1 (by decide) (hts (.fieldLink RX8 7 "WaxTurnsModel" "tape" "[I") (by decide +kernel)) (fun _ h9 => h9) rfl dX8_feed_79 ?_
  refine lv_aload_n hx hb dX8_feed_82 rfl (lv_at hl 2 rfl) ?_
  refine va_get (D := (dC, dI)) (ci := 8) (v := .int 9) (C := RX8) (T := TX8) (N := 40) hx hb hts (by decide +kernel) hown hK hP 0 rfl rfl 2 (by decide) (hts (.fieldLink RX8 65 "WaxTurnsModel" "taped" "I") (by decide +kernel)) (fun _ h9 => h9) rfl dX8_feed_83 ?_
  refine lv_iload hx hb dX8_feed_86 (lv_at hl 0 rfl) ?_
  refine lv_bipush (v := 24) hx hb dX8_feed_88 (by decide) ?_
  refine lv_bipush (v := 8) hx hb dX8_feed_90 (by decide) ?_
  refine lv_iload hx hb dX8_feed_92 (lv_at hl 1 rfl) ?_
  refine lv_iconst (v := 4) hx hb dX8_feed_94 (by decide) ?_
  refine lv_irem hx hb dX8_feed_95 (by decide +kernel) ?_
  refine ax_ti 1 (by decide +kernel) ?_
  refine lv_imul hx hb dX8_feed_96 ?_
  refine ax_ti 8 (by decide +kernel) ?_
  refine lv_isub hx hb dX8_feed_97 ?_
  refine ax_ti 16 (by decide +kernel) ?_
  refine lv_ishr hx hb dX8_feed_98 ?_
  refine lv_topi (fun x_57 ex_57 => ?_)
  refine lv_sipush (v := 255) hx hb dX8_feed_99 (by decide) ?_
  refine lv_iand hx hb dX8_feed_102 ?_
  refine lv_topi (fun x_58 ex_58 => ?_)
  refine va_iast hx hb hK hP hD hS 1 0 rfl rfl (by unfold vp_in; decide +kernel) dX8_feed_103 (fun H locs hP hD hS => ?_)
  obtain ⟨f_59, hP, hD⟩ : ∃ f_59 : Nat → Int32, va_P (dC, dI) vwCl [(mo, .inr (8, [.int 0, .ref tp, .int 9, g 3, g 4, g 5, g 6, g 7, g 8, g 9, g 10, g 11, g 12, g 13, g 14, g 15, g 16, g 17, g 18, g 19, g 20, g 21, g 22, g 23, g 24, g 25, g 26, g 27, g 28, g 29, g 30, g 31, g 32, g 33, g 34, g 35, g 36, g 37, g 38, g 39])), (tp, .inl (kt, 900, .inl (f_59)))] H ∧ va_D A [(mo, .inr (8, [.int 0, .ref tp, .int 9, g 3, g 4, g 5, g 6, g 7, g 8, g 9, g 10, g 11, g 12, g 13, g 14, g 15, g 16, g 17, g 18, g 19, g 20, g 21, g 22, g 23, g 24, g 25, g 26, g 27, g 28, g 29, g 30, g 31, g 32, g 33, g 34, g 35, g 36, g 37, g 38, g 39])), (tp, .inl (kt, 900, .inl (f_59)))] := ⟨_, hP, hD⟩
  refine lv_aload_n hx hb dX8_feed_104 rfl (lv_at hl 2 rfl) ?_
  refine lv_dup hx hb dX8_feed_105 rfl ?_
  refine va_get (D := (dC, dI)) (ci := 8) (v := .int 9) (C := RX8) (T := TX8) (N := 40) hx hb hts (by decide +kernel) hown hK hP 0 rfl rfl 2 (by decide) (hts (.fieldLink RX8 65 "WaxTurnsModel" "taped" "I") (by decide +kernel)) (fun _ h9 => h9) rfl dX8_feed_106 ?_
  refine lv_iconst (v := 1) hx hb dX8_feed_109 (by decide) ?_
  refine lv_iadd hx hb dX8_feed_110 ?_
  refine ax_ti 10 (by decide +kernel) ?_
  refine va_put (D := (dC, dI)) (ci := 8) (v := .int 10) (ty := .int) (C := RX8) (T := TX8) (N := 40) hx hb hts (by decide +kernel) tyX8 tyX8_ok nmX8 hown hK hP hD hS 0 rfl rfl 2 (by decide) (hts (.fieldLink RX8 65 "WaxTurnsModel" "taped" "I") (by decide +kernel)) (fun _ h9 => h9) rfl (by decide +kernel) rfl rfl (Nat.le_of_ble_eq_true rfl) dX8_feed_111 (fun H locs hP hD hS => ?_)
  have hP : va_P (dC, dI) vwCl [(mo, .inr (8, [.int 0, .ref tp, .int 10, g 3, g 4, g 5, g 6, g 7, g 8, g 9, g 10, g 11, g 12, g 13, g 14, g 15, g 16, g 17, g 18, g 19, g 20, g 21, g 22, g 23, g 24, g 25, g 26, g 27, g 28, g 29, g 30, g 31, g 32, g 33, g 34, g 35, g 36, g 37, g 38, g 39])), (tp, .inl (kt, 900, .inl (f_59)))] H := hP
  have hD : va_D A [(mo, .inr (8, [.int 0, .ref tp, .int 10, g 3, g 4, g 5, g 6, g 7, g 8, g 9, g 10, g 11, g 12, g 13, g 14, g 15, g 16, g 17, g 18, g 19, g 20, g 21, g 22, g 23, g 24, g 25, g 26, g 27, g 28, g 29, g 30, g 31, g 32, g 33, g 34, g 35, g 36, g 37, g 38, g 39])), (tp, .inl (kt, 900, .inl (f_59)))] := hD
  refine lv_iinc (v := 10) (lv' := [(6, .int 10), (7, .int a2), (0, .ref mo), (1, .int a0), (2, .int a1), (3, .int a2), (4, .int a3), (5, .int a4)]) hx hb dX8_feed_114 hl (k := 1) rfl (by decide +kernel) (by decide) rfl (fun ls hl => ?_)
  refine lv_goto (tgt := 23) hx hb dX8_feed_117 (by decide) ?_
  refine lv_iload hx hb dX8_feed_23 (lv_at hl 0 rfl) ?_
  refine lv_bipush (v := 20) hx hb dX8_feed_25 (by decide) ?_
  refine lv_icmp_ge (tgt := 120) hx hb dX8_feed_27 (by decide) (fun c_60 => absurd c_60 (by decide +kernel)) (fun _ => ?_)
  refine lv_iload hx hb dX8_feed_30 (lv_at hl 0 rfl) ?_
  refine lv_iconst (v := 4) hx hb dX8_feed_32 (by decide) ?_
  refine lv_icmp_ge (tgt := 40) hx hb dX8_feed_33 (by decide) (fun _ => ?_) (fun c_61 => absurd (by decide +kernel) c_61)
  refine lv_iload hx hb dX8_feed_40 (lv_at hl 0 rfl) ?_
  refine lv_bipush (v := 8) hx hb dX8_feed_42 (by decide) ?_
  refine lv_icmp_ge (tgt := 51) hx hb dX8_feed_44 (by decide) (fun _ => ?_) (fun c_62 => absurd (by decide +kernel) c_62)
  refine lv_iload hx hb dX8_feed_51 (lv_at hl 0 rfl) ?_
  refine lv_bipush (v := 12) hx hb dX8_feed_53 (by decide) ?_
  refine lv_icmp_ge (tgt := 62) hx hb dX8_feed_55 (by decide) (fun c_63 => absurd c_63 (by decide +kernel)) (fun _ => ?_)
  refine lv_iload_n hx hb dX8_feed_58 rfl (lv_at hl 5 rfl) ?_
  refine lv_goto (tgt := 76) hx hb dX8_feed_59 (by decide) ?_
  refine lv_istore (lv' := [(7, .int a2), (6, .int 10), (0, .ref mo), (1, .int a0), (2, .int a1), (3, .int a2), (4, .int a3), (5, .int a4)]) hx hb dX8_feed_76 hl (by decide) rfl (fun ls hl => ?_)
  refine lv_aload_n hx hb dX8_feed_78 rfl (lv_at hl 2 rfl) ?_
  refine va_get (D := (dC, dI)) (ci := 8) (v := .ref tp) (C := RX8) (T := TX8) (N := 40) hx hb hts (by decide +kernel) hown hK hP 0 rfl rfl 1 (by decide) (hts (.fieldLink RX8 7 "WaxTurnsModel" "tape" "[I") (by decide +kernel)) (fun _ h9 => h9) rfl dX8_feed_79 ?_
  refine lv_aload_n hx hb dX8_feed_82 rfl (lv_at hl 2 rfl) ?_
  refine va_get (D := (dC, dI)) (ci := 8) (v := .int 10) (C := RX8) (T := TX8) (N := 40) hx hb hts (by decide +kernel) hown hK hP 0 rfl rfl 2 (by decide) (hts (.fieldLink RX8 65 "WaxTurnsModel" "taped" "I") (by decide +kernel)) (fun _ h9 => h9) rfl dX8_feed_83 ?_
  refine lv_iload hx hb dX8_feed_86 (lv_at hl 0 rfl) ?_
  refine lv_bipush (v := 24) hx hb dX8_feed_88 (by decide) ?_
  refine lv_bipush (v := 8) hx hb dX8_feed_90 (by decide) ?_
  refine lv_iload hx hb dX8_feed_92 (lv_at hl 1 rfl) ?_
  refine lv_iconst (v := 4) hx hb dX8_feed_94 (by decide) ?_
  refine lv_irem hx hb dX8_feed_95 (by decide +kernel) ?_
  refine ax_ti 2 (by decide +kernel) ?_
  refine lv_imul hx hb dX8_feed_96 ?_
  refine ax_ti 16 (by decide +kernel) ?_
  refine lv_isub hx hb dX8_feed_97 ?_
  refine ax_ti 8 (by decide +kernel) ?_
  refine lv_ishr hx hb dX8_feed_98 ?_
  refine lv_topi (fun x_64 ex_64 => ?_)
  refine lv_sipush (v := 255) hx hb dX8_feed_99 (by decide) ?_
  refine lv_iand hx hb dX8_feed_102 ?_
  refine lv_topi (fun x_65 ex_65 => ?_)
  refine va_iast hx hb hK hP hD hS 1 0 rfl rfl (by unfold vp_in; decide +kernel) dX8_feed_103 (fun H locs hP hD hS => ?_)
  obtain ⟨f_66, hP, hD⟩ : ∃ f_66 : Nat → Int32, va_P (dC, dI) vwCl [(mo, .inr (8, [.int 0, .ref tp, .int 10, g 3, g 4, g 5, g 6, g 7, g 8, g 9, g 10, g 11, g 12, g 13, g 14, g 15, g 16, g 17, g 18, g 19, g 20, g 21, g 22, g 23, g 24, g 25, g 26, g 27, g 28, g 29, g 30, g 31, g 32, g 33, g 34, g 35, g 36, g 37, g 38, g 39])), (tp, .inl (kt, 900, .inl (f_66)))] H ∧ va_D A [(mo, .inr (8, [.int 0, .ref tp, .int 10, g 3, g 4, g 5, g 6, g 7, g 8, g 9, g 10, g 11, g 12, g 13, g 14, g 15, g 16, g 17, g 18, g 19, g 20, g 21, g 22, g 23, g 24, g 25, g 26, g 27, g 28, g 29, g 30, g 31, g 32, g 33, g 34, g 35, g 36, g 37, g 38, g 39])), (tp, .inl (kt, 900, .inl (f_66)))] := ⟨_, hP, hD⟩
  refine lv_aload_n hx hb dX8_feed_104 rfl (lv_at hl 2 rfl) ?_
  refine lv_dup hx hb dX8_feed_105 rfl ?_
  refine va_get (D := (dC, dI)) (ci := 8) (v := .int 10) (C := RX8) (T := TX8) (N := 40) hx hb hts (by decide +kernel) hown hK hP 0 rfl rfl 2 (by decide) (hts (.fieldLink RX8 65 "WaxTurnsModel" "taped" "I") (by decide +kernel)) (fun _ h9 => h9) rfl dX8_feed_106 ?_
  refine lv_iconst (v := 1) hx hb dX8_feed_109 (by decide) ?_
  refine lv_iadd hx hb dX8_feed_110 ?_
  refine ax_ti 11 (by decide +kernel) ?_
  refine va_put (D := (dC, dI)) (ci := 8) (v := .int 11) (ty := .int) (C := RX8) (T := TX8) (N := 40) hx hb hts (by decide +kernel) tyX8 tyX8_ok nmX8 hown hK hP hD hS 0 rfl rfl 2 (by decide) (hts (.fieldLink RX8 65 "WaxTurnsModel" "taped" "I") (by decide +kernel)) (fun _ h9 => h9) rfl (by decide +kernel) rfl rfl (Nat.le_of_ble_eq_true rfl) dX8_feed_111 (fun H locs hP hD hS => ?_)
  have hP : va_P (dC, dI) vwCl [(mo, .inr (8, [.int 0, .ref tp, .int 11, g 3, g 4, g 5, g 6, g 7, g 8, g 9, g 10, g 11, g 12, g 13, g 14, g 15, g 16, g 17, g 18, g 19, g 20, g 21, g 22, g 23, g 24, g 25, g 26, g 27, g 28, g 29, g 30, g 31, g 32, g 33, g 34, g 35, g 36, g 37, g 38, g 39])), (tp, .inl (kt, 900, .inl (f_66)))] H := hP
  have hD : va_D A [(mo, .inr (8, [.int 0, .ref tp, .int 11, g 3, g 4, g 5, g 6, g 7, g 8, g 9, g 10, g 11, g 12, g 13, g 14, g 15, g 16, g 17, g 18, g 19, g 20, g 21, g 22, g 23, g 24, g 25, g 26, g 27, g 28, g 29, g 30, g 31, g 32, g 33, g 34, g 35, g 36, g 37, g 38, g 39])), (tp, .inl (kt, 900, .inl (f_66)))] := hD
  refine lv_iinc (v := 11) (lv' := [(6, .int 11), (7, .int a2), (0, .ref mo), (1, .int a0), (2, .int a1), (3, .int a2), (4, .int a3), (5, .int a4)]) hx hb dX8_feed_114 hl (k := 1) rfl (by decide +kernel) (by decide) rfl (fun ls hl => ?_)
  refine lv_goto (tgt := 23) hx hb dX8_feed_117 (by decide) ?_
  refine lv_iload hx hb dX8_feed_23 (lv_at hl 0 rfl) ?_
  refine lv_bipush (v := 20) hx hb dX8_feed_25 (by decide) ?_
  refine lv_icmp_ge (tgt := 120) hx hb dX8_feed_27 (by decide) (fun c_67 => absurd c_67 (by decide +kernel)) (fun _ => ?_)
  refine lv_iload hx hb dX8_feed_30 (lv_at hl 0 rfl) ?_
  refine lv_iconst (v := 4) hx hb dX8_feed_32 (by decide) ?_
  refine lv_icmp_ge (tgt := 40) hx hb dX8_feed_33 (by decide) (fun _ => ?_) (fun c_68 => absurd (by decide +kernel) c_68)
  refine lv_iload hx hb dX8_feed_40 (lv_at hl 0 rfl) ?_
  refine lv_bipush (v := 8) hx hb dX8_feed_42 (by decide) ?_
  refine lv_icmp_ge (tgt := 51) hx hb dX8_feed_44 (by decide) (fun _ => ?_) (fun c_69 => absurd (by decide +kernel) c_69)
  refine lv_iload hx hb dX8_feed_51 (lv_at hl 0 rfl) ?_
  refine lv_bipush (v := 12) hx hb dX8_feed_53 (by decide) ?_
  refine lv_icmp_ge (tgt := 62) hx hb dX8_feed_55 (by decide) (fun c_70 => absurd c_70 (by decide +kernel)) (fun _ => ?_)
  refine lv_iload_n hx hb dX8_feed_58 rfl (lv_at hl 5 rfl) ?_
  refine lv_goto (tgt := 76) hx hb dX8_feed_59 (by decide) ?_
  refine lv_istore (lv' := [(7, .int a2), (6, .int 11), (0, .ref mo), (1, .int a0), (2, .int a1), (3, .int a2), (4, .int a3), (5, .int a4)]) hx hb dX8_feed_76 hl (by decide) rfl (fun ls hl => ?_)
  refine lv_aload_n hx hb dX8_feed_78 rfl (lv_at hl 2 rfl) ?_
  refine va_get (D := (dC, dI)) (ci := 8) (v := .ref tp) (C := RX8) (T := TX8) (N := 40) hx hb hts (by decide +kernel) hown hK hP 0 rfl rfl 1 (by decide) (hts (.fieldLink RX8 7 "WaxTurnsModel" "tape" "[I") (by decide +kernel)) (fun _ h9 => h9) rfl dX8_feed_79 ?_
  refine lv_aload_n hx hb dX8_feed_82 rfl (lv_at hl 2 rfl) ?_
  refine va_get (D := (dC, dI)) (ci := 8) (v := .int 11) (C := RX8) (T := TX8) (N := 40) hx hb hts (by decide +kernel) hown hK hP 0 rfl rfl 2 (by decide) (hts (.fieldLink RX8 65 "WaxTurnsModel" "taped" "I") (by decide +kernel)) (fun _ h9 => h9) rfl dX8_feed_83 ?_
  refine lv_iload hx hb dX8_feed_86 (lv_at hl 0 rfl) ?_
  refine lv_bipush (v := 24) hx hb dX8_feed_88 (by decide) ?_
  refine lv_bipush (v := 8) hx hb dX8_feed_90 (by decide) ?_
  refine lv_iload hx hb dX8_feed_92 (lv_at hl 1 rfl) ?_
  refine lv_iconst (v := 4) hx hb dX8_feed_94 (by decide) ?_
  refine lv_irem hx hb dX8_feed_95 (by decide +kernel) ?_
  refine ax_ti 3 (by decide +kernel) ?_
  refine lv_imul hx hb dX8_feed_96 ?_
  refine ax_ti 24 (by decide +kernel) ?_
  refine lv_isub hx hb dX8_feed_97 ?_
  refine ax_ti 0 (by decide +kernel) ?_
  refine lv_ishr hx hb dX8_feed_98 ?_
  refine lv_topi (fun x_71 ex_71 => ?_)
  refine lv_sipush (v := 255) hx hb dX8_feed_99 (by decide) ?_
  refine lv_iand hx hb dX8_feed_102 ?_
  refine lv_topi (fun x_72 ex_72 => ?_)
  refine va_iast hx hb hK hP hD hS 1 0 rfl rfl (by unfold vp_in; decide +kernel) dX8_feed_103 (fun H locs hP hD hS => ?_)
  obtain ⟨f_73, hP, hD⟩ : ∃ f_73 : Nat → Int32, va_P (dC, dI) vwCl [(mo, .inr (8, [.int 0, .ref tp, .int 11, g 3, g 4, g 5, g 6, g 7, g 8, g 9, g 10, g 11, g 12, g 13, g 14, g 15, g 16, g 17, g 18, g 19, g 20, g 21, g 22, g 23, g 24, g 25, g 26, g 27, g 28, g 29, g 30, g 31, g 32, g 33, g 34, g 35, g 36, g 37, g 38, g 39])), (tp, .inl (kt, 900, .inl (f_73)))] H ∧ va_D A [(mo, .inr (8, [.int 0, .ref tp, .int 11, g 3, g 4, g 5, g 6, g 7, g 8, g 9, g 10, g 11, g 12, g 13, g 14, g 15, g 16, g 17, g 18, g 19, g 20, g 21, g 22, g 23, g 24, g 25, g 26, g 27, g 28, g 29, g 30, g 31, g 32, g 33, g 34, g 35, g 36, g 37, g 38, g 39])), (tp, .inl (kt, 900, .inl (f_73)))] := ⟨_, hP, hD⟩
  refine lv_aload_n hx hb dX8_feed_104 rfl (lv_at hl 2 rfl) ?_
  refine lv_dup hx hb dX8_feed_105 rfl ?_
  refine va_get (D := (dC, dI)) (ci := 8) (v := .int 11) (C := RX8) (T := TX8) (N := 40) hx hb hts (by decide +kernel) hown hK hP 0 rfl rfl 2 (by decide) (hts (.fieldLink RX8 65 "WaxTurnsModel" "taped" "I") (by decide +kernel)) (fun _ h9 => h9) rfl dX8_feed_106 ?_
  refine lv_iconst (v := 1) hx hb dX8_feed_109 (by decide) ?_
  refine lv_iadd hx hb dX8_feed_110 ?_
  refine ax_ti 12 (by decide +kernel) ?_
  refine va_put (D := (dC, dI)) (ci := 8) (v := .int 12) (ty := .int) (C := RX8) (T := TX8) (N := 40) hx hb hts (by decide +kernel) tyX8 tyX8_ok nmX8 hown hK hP hD hS 0 rfl rfl 2 (by decide) (hts (.fieldLink RX8 65 "WaxTurnsModel" "taped" "I") (by decide +kernel)) (fun _ h9 => h9) rfl (by decide +kernel) rfl rfl (Nat.le_of_ble_eq_true rfl) dX8_feed_111 (fun H locs hP hD hS => ?_)
  have hP : va_P (dC, dI) vwCl [(mo, .inr (8, [.int 0, .ref tp, .int 12, g 3, g 4, g 5, g 6, g 7, g 8, g 9, g 10, g 11, g 12, g 13, g 14, g 15, g 16, g 17, g 18, g 19, g 20, g 21, g 22, g 23, g 24, g 25, g 26, g 27, g 28, g 29, g 30, g 31, g 32, g 33, g 34, g 35, g 36, g 37, g 38, g 39])), (tp, .inl (kt, 900, .inl (f_73)))] H := hP
  have hD : va_D A [(mo, .inr (8, [.int 0, .ref tp, .int 12, g 3, g 4, g 5, g 6, g 7, g 8, g 9, g 10, g 11, g 12, g 13, g 14, g 15, g 16, g 17, g 18, g 19, g 20, g 21, g 22, g 23, g 24, g 25, g 26, g 27, g 28, g 29, g 30, g 31, g 32, g 33, g 34, g 35, g 36, g 37, g 38, g 39])), (tp, .inl (kt, 900, .inl (f_73)))] := hD
  refine lv_iinc (v := 12) (lv' := [(6, .int 12), (7, .int a2), (0, .ref mo), (1, .int a0), (2, .int a1), (3, .int a2), (4, .int a3), (5, .int a4)]) hx hb dX8_feed_114 hl (k := 1) rfl (by decide +kernel) (by decide) rfl (fun ls hl => ?_)
  refine lv_goto (tgt := 23) hx hb dX8_feed_117 (by decide) ?_
  refine lv_iload hx hb dX8_feed_23 (lv_at hl 0 rfl) ?_
  refine lv_bipush (v := 20) hx hb dX8_feed_25 (by decide) ?_
  refine lv_icmp_ge (tgt := 120) hx hb dX8_feed_27 (by decide) (fun c_74 => absurd c_74 (by decide +kernel)) (fun _ => ?_)
  refine lv_iload hx hb dX8_feed_30 (lv_at hl 0 rfl) ?_
  refine lv_iconst (v := 4) hx hb dX8_feed_32 (by decide) ?_
  refine lv_icmp_ge (tgt := 40) hx hb dX8_feed_33 (by decide) (fun _ => ?_) (fun c_75 => absurd (by decide +kernel) c_75)
  refine lv_iload hx hb dX8_feed_40 (lv_at hl 0 rfl) ?_
  refine lv_bipush (v := 8) hx hb dX8_feed_42 (by decide) ?_
  refine lv_icmp_ge (tgt := 51) hx hb dX8_feed_44 (by decide) (fun _ => ?_) (fun c_76 => absurd (by decide +kernel) c_76)
  refine lv_iload hx hb dX8_feed_51 (lv_at hl 0 rfl) ?_
  refine lv_bipush (v := 12) hx hb dX8_feed_53 (by decide) ?_
  refine lv_icmp_ge (tgt := 62) hx hb dX8_feed_55 (by decide) (fun _ => ?_) (fun c_77 => absurd (by decide +kernel) c_77)
  refine lv_iload hx hb dX8_feed_62 (lv_at hl 0 rfl) ?_
  refine lv_bipush (v := 16) hx hb dX8_feed_64 (by decide) ?_
  refine lv_icmp_ge (tgt := 74) hx hb dX8_feed_66 (by decide) (fun c_78 => absurd c_78 (by decide +kernel)) (fun _ => ?_)
  refine lv_iload hx hb dX8_feed_69 (lv_at hl 6 rfl) ?_
  refine lv_goto (tgt := 76) hx hb dX8_feed_71 (by decide) ?_
  refine lv_istore (lv' := [(7, .int a3), (6, .int 12), (0, .ref mo), (1, .int a0), (2, .int a1), (3, .int a2), (4, .int a3), (5, .int a4)]) hx hb dX8_feed_76 hl (by decide) rfl (fun ls hl => ?_)
  refine lv_aload_n hx hb dX8_feed_78 rfl (lv_at hl 2 rfl) ?_
  refine va_get (D := (dC, dI)) (ci := 8) (v := .ref tp) (C := RX8) (T := TX8) (N := 40) hx hb hts (by decide +kernel) hown hK hP 0 rfl rfl 1 (by decide) (hts (.fieldLink RX8 7 "WaxTurnsModel" "tape" "[I") (by decide +kernel)) (fun _ h9 => h9) rfl dX8_feed_79 ?_
  refine lv_aload_n hx hb dX8_feed_82 rfl (lv_at hl 2 rfl) ?_
  refine va_get (D := (dC, dI)) (ci := 8) (v := .int 12) (C := RX8) (T := TX8) (N := 40) hx hb hts (by decide +kernel) hown hK hP 0 rfl rfl 2 (by decide) (hts (.fieldLink RX8 65 "WaxTurnsModel" "taped" "I") (by decide +kernel)) (fun _ h9 => h9) rfl dX8_feed_83 ?_
  refine lv_iload hx hb dX8_feed_86 (lv_at hl 0 rfl) ?_
  refine lv_bipush (v := 24) hx hb dX8_feed_88 (by decide) ?_
  refine lv_bipush (v := 8) hx hb dX8_feed_90 (by decide) ?_
  refine lv_iload hx hb dX8_feed_92 (lv_at hl 1 rfl) ?_
  refine lv_iconst (v := 4) hx hb dX8_feed_94 (by decide) ?_
  refine lv_irem hx hb dX8_feed_95 (by decide +kernel) ?_
  refine ax_ti 0 (by decide +kernel) ?_
  refine lv_imul hx hb dX8_feed_96 ?_
  refine ax_ti 0 (by decide +kernel) ?_
  refine lv_isub hx hb dX8_feed_97 ?_
  refine ax_ti 24 (by decide +kernel) ?_
  refine lv_ishr hx hb dX8_feed_98 ?_
  refine lv_topi (fun x_79 ex_79 => ?_)
  refine lv_sipush (v := 255) hx hb dX8_feed_99 (by decide) ?_
  refine lv_iand hx hb dX8_feed_102 ?_
  refine lv_topi (fun x_80 ex_80 => ?_)
  refine va_iast hx hb hK hP hD hS 1 0 rfl rfl (by unfold vp_in; decide +kernel) dX8_feed_103 (fun H locs hP hD hS => ?_)
  obtain ⟨f_81, hP, hD⟩ : ∃ f_81 : Nat → Int32, va_P (dC, dI) vwCl [(mo, .inr (8, [.int 0, .ref tp, .int 12, g 3, g 4, g 5, g 6, g 7, g 8, g 9, g 10, g 11, g 12, g 13, g 14, g 15, g 16, g 17, g 18, g 19, g 20, g 21, g 22, g 23, g 24, g 25, g 26, g 27, g 28, g 29, g 30, g 31, g 32, g 33, g 34, g 35, g 36, g 37, g 38, g 39])), (tp, .inl (kt, 900, .inl (f_81)))] H ∧ va_D A [(mo, .inr (8, [.int 0, .ref tp, .int 12, g 3, g 4, g 5, g 6, g 7, g 8, g 9, g 10, g 11, g 12, g 13, g 14, g 15, g 16, g 17, g 18, g 19, g 20, g 21, g 22, g 23, g 24, g 25, g 26, g 27, g 28, g 29, g 30, g 31, g 32, g 33, g 34, g 35, g 36, g 37, g 38, g 39])), (tp, .inl (kt, 900, .inl (f_81)))] := ⟨_, hP, hD⟩
  refine lv_aload_n hx hb dX8_feed_104 rfl (lv_at hl 2 rfl) ?_
  refine lv_dup hx hb dX8_feed_105 rfl ?_
  refine va_get (D := (dC, dI)) (ci := 8) (v := .int 12) (C := RX8) (T := TX8) (N := 40) hx hb hts (by decide +kernel) hown hK hP 0 rfl rfl 2 (by decide) (hts (.fieldLink RX8 65 "WaxTurnsModel" "taped" "I") (by decide +kernel)) (fun _ h9 => h9) rfl dX8_feed_106 ?_
  refine lv_iconst (v := 1) hx hb dX8_feed_109 (by decide) ?_
  refine lv_iadd hx hb dX8_feed_110 ?_
  refine ax_ti 13 (by decide +kernel) ?_
  refine va_put (D := (dC, dI)) (ci := 8) (v := .int 13) (ty := .int) (C := RX8) (T := TX8) (N := 40) hx hb hts (by decide +kernel) tyX8 tyX8_ok nmX8 hown hK hP hD hS 0 rfl rfl 2 (by decide) (hts (.fieldLink RX8 65 "WaxTurnsModel" "taped" "I") (by decide +kernel)) (fun _ h9 => h9) rfl (by decide +kernel) rfl rfl (Nat.le_of_ble_eq_true rfl) dX8_feed_111 (fun H locs hP hD hS => ?_)
  have hP : va_P (dC, dI) vwCl [(mo, .inr (8, [.int 0, .ref tp, .int 13, g 3, g 4, g 5, g 6, g 7, g 8, g 9, g 10, g 11, g 12, g 13, g 14, g 15, g 16, g 17, g 18, g 19, g 20, g 21, g 22, g 23, g 24, g 25, g 26, g 27, g 28, g 29, g 30, g 31, g 32, g 33, g 34, g 35, g 36, g 37, g 38, g 39])), (tp, .inl (kt, 900, .inl (f_81)))] H := hP
  have hD : va_D A [(mo, .inr (8, [.int 0, .ref tp, .int 13, g 3, g 4, g 5, g 6, g 7, g 8, g 9, g 10, g 11, g 12, g 13, g 14, g 15, g 16, g 17, g 18, g 19, g 20, g 21, g 22, g 23, g 24, g 25, g 26, g 27, g 28, g 29, g 30, g 31, g 32, g 33, g 34, g 35, g 36, g 37, g 38, g 39])), (tp, .inl (kt, 900, .inl (f_81)))] := hD
  refine lv_iinc (v := 13) (lv' := [(6, .int 13), (7, .int a3), (0, .ref mo), (1, .int a0), (2, .int a1), (3, .int a2), (4, .int a3), (5, .int a4)]) hx hb dX8_feed_114 hl (k := 1) rfl (by decide +kernel) (by decide) rfl (fun ls hl => ?_)
  refine lv_goto (tgt := 23) hx hb dX8_feed_117 (by decide) ?_
  refine lv_iload hx hb dX8_feed_23 (lv_at hl 0 rfl) ?_
  refine lv_bipush (v := 20) hx hb dX8_feed_25 (by decide) ?_
  refine lv_icmp_ge (tgt := 120) hx hb dX8_feed_27 (by decide) (fun c_82 => absurd c_82 (by decide +kernel)) (fun _ => ?_)
  refine lv_iload hx hb dX8_feed_30 (lv_at hl 0 rfl) ?_
  refine lv_iconst (v := 4) hx hb dX8_feed_32 (by decide) ?_
  refine lv_icmp_ge (tgt := 40) hx hb dX8_feed_33 (by decide) (fun _ => ?_) (fun c_83 => absurd (by decide +kernel) c_83)
  refine lv_iload hx hb dX8_feed_40 (lv_at hl 0 rfl) ?_
  refine lv_bipush (v := 8) hx hb dX8_feed_42 (by decide) ?_
  refine lv_icmp_ge (tgt := 51) hx hb dX8_feed_44 (by decide) (fun _ => ?_) (fun c_84 => absurd (by decide +kernel) c_84)
  refine lv_iload hx hb dX8_feed_51 (lv_at hl 0 rfl) ?_
  refine lv_bipush (v := 12) hx hb dX8_feed_53 (by decide) ?_
  refine lv_icmp_ge (tgt := 62) hx hb dX8_feed_55 (by decide) (fun _ => ?_) (fun c_85 => absurd (by decide +kernel) c_85)
  refine lv_iload hx hb dX8_feed_62 (lv_at hl 0 rfl) ?_
  refine lv_bipush (v := 16) hx hb dX8_feed_64 (by decide) ?_
  refine lv_icmp_ge (tgt := 74) hx hb dX8_feed_66 (by decide) (fun c_86 => absurd c_86 (by decide +kernel)) (fun _ => ?_)
  refine lv_iload hx hb dX8_feed_69 (lv_at hl 6 rfl) ?_
  refine lv_goto (tgt := 76) hx hb dX8_feed_71 (by decide) ?_
  refine lv_istore (lv' := [(7, .int a3), (6, .int 13), (0, .ref mo), (1, .int a0), (2, .int a1), (3, .int a2), (4, .int a3), (5, .int a4)]) hx hb dX8_feed_76 hl (by decide) rfl (fun ls hl => ?_)
  refine lv_aload_n hx hb dX8_feed_78 rfl (lv_at hl 2 rfl) ?_
  refine va_get (D := (dC, dI)) (ci := 8) (v := .ref tp) (C := RX8) (T := TX8) (N := 40) hx hb hts (by decide +kernel) hown hK hP 0 rfl rfl 1 (by decide) (hts (.fieldLink RX8 7 "WaxTurnsModel" "tape" "[I") (by decide +kernel)) (fun _ h9 => h9) rfl dX8_feed_79 ?_
  refine lv_aload_n hx hb dX8_feed_82 rfl (lv_at hl 2 rfl) ?_
  refine va_get (D := (dC, dI)) (ci := 8) (v := .int 13) (C := RX8) (T := TX8) (N := 40) hx hb hts (by decide +kernel) hown hK hP 0 rfl rfl 2 (by decide) (hts (.fieldLink RX8 65 "WaxTurnsModel" "taped" "I") (by decide +kernel)) (fun _ h9 => h9) rfl dX8_feed_83 ?_
  refine lv_iload hx hb dX8_feed_86 (lv_at hl 0 rfl) ?_
  refine lv_bipush (v := 24) hx hb dX8_feed_88 (by decide) ?_
  refine lv_bipush (v := 8) hx hb dX8_feed_90 (by decide) ?_
  refine lv_iload hx hb dX8_feed_92 (lv_at hl 1 rfl) ?_
  refine lv_iconst (v := 4) hx hb dX8_feed_94 (by decide) ?_
  refine lv_irem hx hb dX8_feed_95 (by decide +kernel) ?_
  refine ax_ti 1 (by decide +kernel) ?_
  refine lv_imul hx hb dX8_feed_96 ?_
  refine ax_ti 8 (by decide +kernel) ?_
  refine lv_isub hx hb dX8_feed_97 ?_
  refine ax_ti 16 (by decide +kernel) ?_
  refine lv_ishr hx hb dX8_feed_98 ?_
  refine lv_topi (fun x_87 ex_87 => ?_)
  refine lv_sipush (v := 255) hx hb dX8_feed_99 (by decide) ?_
  refine lv_iand hx hb dX8_feed_102 ?_
  refine lv_topi (fun x_88 ex_88 => ?_)
  refine va_iast hx hb hK hP hD hS 1 0 rfl rfl (by unfold vp_in; decide +kernel) dX8_feed_103 (fun H locs hP hD hS => ?_)
  obtain ⟨f_89, hP, hD⟩ : ∃ f_89 : Nat → Int32, va_P (dC, dI) vwCl [(mo, .inr (8, [.int 0, .ref tp, .int 13, g 3, g 4, g 5, g 6, g 7, g 8, g 9, g 10, g 11, g 12, g 13, g 14, g 15, g 16, g 17, g 18, g 19, g 20, g 21, g 22, g 23, g 24, g 25, g 26, g 27, g 28, g 29, g 30, g 31, g 32, g 33, g 34, g 35, g 36, g 37, g 38, g 39])), (tp, .inl (kt, 900, .inl (f_89)))] H ∧ va_D A [(mo, .inr (8, [.int 0, .ref tp, .int 13, g 3, g 4, g 5, g 6, g 7, g 8, g 9, g 10, g 11, g 12, g 13, g 14, g 15, g 16, g 17, g 18, g 19, g 20, g 21, g 22, g 23, g 24, g 25, g 26, g 27, g 28, g 29, g 30, g 31, g 32, g 33, g 34, g 35, g 36, g 37, g 38, g 39])), (tp, .inl (kt, 900, .inl (f_89)))] := ⟨_, hP, hD⟩
  refine lv_aload_n hx hb dX8_feed_104 rfl (lv_at hl 2 rfl) ?_
  refine lv_dup hx hb dX8_feed_105 rfl ?_
  refine va_get (D := (dC, dI)) (ci := 8) (v := .int 13) (C := RX8) (T := TX8) (N := 40) hx hb hts (by decide +kernel) hown hK hP 0 rfl rfl 2 (by decide) (hts (.fieldLink RX8 65 "WaxTurnsModel" "taped" "I") (by decide +kernel)) (fun _ h9 => h9) rfl dX8_feed_106 ?_
  refine lv_iconst (v := 1) hx hb dX8_feed_109 (by decide) ?_
  refine lv_iadd hx hb dX8_feed_110 ?_
  refine ax_ti 14 (by decide +kernel) ?_
  refine va_put (D := (dC, dI)) (ci := 8) (v := .int 14) (ty := .int) (C := RX8) (T := TX8) (N := 40) hx hb hts (by decide +kernel) tyX8 tyX8_ok nmX8 hown hK hP hD hS 0 rfl rfl 2 (by decide) (hts (.fieldLink RX8 65 "WaxTurnsModel" "taped" "I") (by decide +kernel)) (fun _ h9 => h9) rfl (by decide +kernel) rfl rfl (Nat.le_of_ble_eq_true rfl) dX8_feed_111 (fun H locs hP hD hS => ?_)
  have hP : va_P (dC, dI) vwCl [(mo, .inr (8, [.int 0, .ref tp, .int 14, g 3, g 4, g 5, g 6, g 7, g 8, g 9, g 10, g 11, g 12, g 13, g 14, g 15, g 16, g 17, g 18, g 19, g 20, g 21, g 22, g 23, g 24, g 25, g 26, g 27, g 28, g 29, g 30, g 31, g 32, g 33, g 34, g 35, g 36, g 37, g 38, g 39])), (tp, .inl (kt, 900, .inl (f_89)))] H := hP
  have hD : va_D A [(mo, .inr (8, [.int 0, .ref tp, .int 14, g 3, g 4, g 5, g 6, g 7, g 8, g 9, g 10, g 11, g 12, g 13, g 14, g 15, g 16, g 17, g 18, g 19, g 20, g 21, g 22, g 23, g 24, g 25, g 26, g 27, g 28, g 29, g 30, g 31, g 32, g 33, g 34, g 35, g 36, g 37, g 38, g 39])), (tp, .inl (kt, 900, .inl (f_89)))] := hD
  refine lv_iinc (v := 14) (lv' := [(6, .int 14), (7, .int a3), (0, .ref mo), (1, .int a0), (2, .int a1), (3, .int a2), (4, .int a3), (5, .int a4)]) hx hb dX8_feed_114 hl (k := 1) rfl (by decide +kernel) (by decide) rfl (fun ls hl => ?_)
  refine lv_goto (tgt := 23) hx hb dX8_feed_117 (by decide) ?_
  refine lv_iload hx hb dX8_feed_23 (lv_at hl 0 rfl) ?_
  refine lv_bipush (v := 20) hx hb dX8_feed_25 (by decide) ?_
  refine lv_icmp_ge (tgt := 120) hx hb dX8_feed_27 (by decide) (fun c_90 => absurd c_90 (by decide +kernel)) (fun _ => ?_)
  refine lv_iload hx hb dX8_feed_30 (lv_at hl 0 rfl) ?_
  refine lv_iconst (v := 4) hx hb dX8_feed_32 (by decide) ?_
  refine lv_icmp_ge (tgt := 40) hx hb dX8_feed_33 (by decide) (fun _ => ?_) (fun c_91 => absurd (by decide +kernel) c_91)
  refine lv_iload hx hb dX8_feed_40 (lv_at hl 0 rfl) ?_
  refine lv_bipush (v := 8) hx hb dX8_feed_42 (by decide) ?_
  refine lv_icmp_ge (tgt := 51) hx hb dX8_feed_44 (by decide) (fun _ => ?_) (fun c_92 => absurd (by decide +kernel) c_92)
  refine lv_iload hx hb dX8_feed_51 (lv_at hl 0 rfl) ?_
  refine lv_bipush (v := 12) hx hb dX8_feed_53 (by decide) ?_
  refine lv_icmp_ge (tgt := 62) hx hb dX8_feed_55 (by decide) (fun _ => ?_) (fun c_93 => absurd (by decide +kernel) c_93)
  refine lv_iload hx hb dX8_feed_62 (lv_at hl 0 rfl) ?_
  refine lv_bipush (v := 16) hx hb dX8_feed_64 (by decide) ?_
  refine lv_icmp_ge (tgt := 74) hx hb dX8_feed_66 (by decide) (fun c_94 => absurd c_94 (by decide +kernel)) (fun _ => ?_)
  refine lv_iload hx hb dX8_feed_69 (lv_at hl 6 rfl) ?_
  refine lv_goto (tgt := 76) hx hb dX8_feed_71 (by decide) ?_
  refine lv_istore (lv' := [(7, .int a3), (6, .int 14), (0, .ref mo), (1, .int a0), (2, .int a1), (3, .int a2), (4, .int a3), (5, .int a4)]) hx hb dX8_feed_76 hl (by decide) rfl (fun ls hl => ?_)
  refine lv_aload_n hx hb dX8_feed_78 rfl (lv_at hl 2 rfl) ?_
  refine va_get (D := (dC, dI)) (ci := 8) (v := .ref tp) (C := RX8) (T := TX8) (N := 40) hx hb hts (by decide +kernel) hown hK hP 0 rfl rfl 1 (by decide) (hts (.fieldLink RX8 7 "WaxTurnsModel" "tape" "[I") (by decide +kernel)) (fun _ h9 => h9) rfl dX8_feed_79 ?_
  refine lv_aload_n hx hb dX8_feed_82 rfl (lv_at hl 2 rfl) ?_
  refine va_get (D := (dC, dI)) (ci := 8) (v := .int 14) (C := RX8) (T := TX8) (N := 40) hx hb hts (by decide +kernel) hown hK hP 0 rfl rfl 2 (by decide) (hts (.fieldLink RX8 65 "WaxTurnsModel" "taped" "I") (by decide +kernel)) (fun _ h9 => h9) rfl dX8_feed_83 ?_
  refine lv_iload hx hb dX8_feed_86 (lv_at hl 0 rfl) ?_
  refine lv_bipush (v := 24) hx hb dX8_feed_88 (by decide) ?_
  refine lv_bipush (v := 8) hx hb dX8_feed_90 (by decide) ?_
  refine lv_iload hx hb dX8_feed_92 (lv_at hl 1 rfl) ?_
  refine lv_iconst (v := 4) hx hb dX8_feed_94 (by decide) ?_
  refine lv_irem hx hb dX8_feed_95 (by decide +kernel) ?_
  refine ax_ti 2 (by decide +kernel) ?_
  refine lv_imul hx hb dX8_feed_96 ?_
  refine ax_ti 16 (by decide +kernel) ?_
  refine lv_isub hx hb dX8_feed_97 ?_
  refine ax_ti 8 (by decide +kernel) ?_
  refine lv_ishr hx hb dX8_feed_98 ?_
  refine lv_topi (fun x_95 ex_95 => ?_)
  refine lv_sipush (v := 255) hx hb dX8_feed_99 (by decide) ?_
  refine lv_iand hx hb dX8_feed_102 ?_
  refine lv_topi (fun x_96 ex_96 => ?_)
  refine va_iast hx hb hK hP hD hS 1 0 rfl rfl (by unfold vp_in; decide +kernel) dX8_feed_103 (fun H locs hP hD hS => ?_)
  obtain ⟨f_97, hP, hD⟩ : ∃ f_97 : Nat → Int32, va_P (dC, dI) vwCl [(mo, .inr (8, [.int 0, .ref tp, .int 14, g 3, g 4, g 5, g 6, g 7, g 8, g 9, g 10, g 11, g 12, g 13, g 14, g 15, g 16, g 17, g 18, g 19, g 20, g 21, g 22, g 23, g 24, g 25, g 26, g 27, g 28, g 29, g 30, g 31, g 32, g 33, g 34, g 35, g 36, g 37, g 38, g 39])), (tp, .inl (kt, 900, .inl (f_97)))] H ∧ va_D A [(mo, .inr (8, [.int 0, .ref tp, .int 14, g 3, g 4, g 5, g 6, g 7, g 8, g 9, g 10, g 11, g 12, g 13, g 14, g 15, g 16, g 17, g 18, g 19, g 20, g 21, g 22, g 23, g 24, g 25, g 26, g 27, g 28, g 29, g 30, g 31, g 32, g 33, g 34, g 35, g 36, g 37, g 38, g 39])), (tp, .inl (kt, 900, .inl (f_97)))] := ⟨_, hP, hD⟩
  refine lv_aload_n hx hb dX8_feed_104 rfl (lv_at hl 2 rfl) ?_
  refine lv_dup hx hb dX8_feed_105 rfl ?_
  refine va_get (D := (dC, dI)) (ci := 8) (v := .int 14) (C := RX8) (T := TX8) (N := 40) hx hb hts (by decide +kernel) hown hK hP 0 rfl rfl 2 (by decide) (hts (.fieldLink RX8 65 "WaxTurnsModel" "taped" "I") (by decide +kernel)) (fun _ h9 => h9) rfl dX8_feed_106 ?_
  refine lv_iconst (v := 1) hx hb dX8_feed_109 (by decide) ?_
  refine lv_iadd hx hb dX8_feed_110 ?_
  refine ax_ti 15 (by decide +kernel) ?_
  refine va_put (D := (dC, dI)) (ci := 8) (v := .int 15) (ty := .int) (C := RX8) (T := TX8) (N := 40) hx hb hts (by decide +kernel) tyX8 tyX8_ok nmX8 hown hK hP hD hS 0 rfl rfl 2 (by decide) (hts (.fieldLink RX8 65 "WaxTurnsModel" "taped" "I") (by decide +kernel)) (fun _ h9 => h9) rfl (by decide +kernel) rfl rfl (Nat.le_of_ble_eq_true rfl) dX8_feed_111 (fun H locs hP hD hS => ?_)
  have hP : va_P (dC, dI) vwCl [(mo, .inr (8, [.int 0, .ref tp, .int 15, g 3, g 4, g 5, g 6, g 7, g 8, g 9, g 10, g 11, g 12, g 13, g 14, g 15, g 16, g 17, g 18, g 19, g 20, g 21, g 22, g 23, g 24, g 25, g 26, g 27, g 28, g 29, g 30, g 31, g 32, g 33, g 34, g 35, g 36, g 37, g 38, g 39])), (tp, .inl (kt, 900, .inl (f_97)))] H := hP
  have hD : va_D A [(mo, .inr (8, [.int 0, .ref tp, .int 15, g 3, g 4, g 5, g 6, g 7, g 8, g 9, g 10, g 11, g 12, g 13, g 14, g 15, g 16, g 17, g 18, g 19, g 20, g 21, g 22, g 23, g 24, g 25, g 26, g 27, g 28, g 29, g 30, g 31, g 32, g 33, g 34, g 35, g 36, g 37, g 38, g 39])), (tp, .inl (kt, 900, .inl (f_97)))] := hD
  refine lv_iinc (v := 15) (lv' := [(6, .int 15), (7, .int a3), (0, .ref mo), (1, .int a0), (2, .int a1), (3, .int a2), (4, .int a3), (5, .int a4)]) hx hb dX8_feed_114 hl (k := 1) rfl (by decide +kernel) (by decide) rfl (fun ls hl => ?_)
  refine lv_goto (tgt := 23) hx hb dX8_feed_117 (by decide) ?_
  refine lv_iload hx hb dX8_feed_23 (lv_at hl 0 rfl) ?_
  refine lv_bipush (v := 20) hx hb dX8_feed_25 (by decide) ?_
  refine lv_icmp_ge (tgt := 120) hx hb dX8_feed_27 (by decide) (fun c_98 => absurd c_98 (by decide +kernel)) (fun _ => ?_)
  refine lv_iload hx hb dX8_feed_30 (lv_at hl 0 rfl) ?_
  refine lv_iconst (v := 4) hx hb dX8_feed_32 (by decide) ?_
  refine lv_icmp_ge (tgt := 40) hx hb dX8_feed_33 (by decide) (fun _ => ?_) (fun c_99 => absurd (by decide +kernel) c_99)
  refine lv_iload hx hb dX8_feed_40 (lv_at hl 0 rfl) ?_
  refine lv_bipush (v := 8) hx hb dX8_feed_42 (by decide) ?_
  refine lv_icmp_ge (tgt := 51) hx hb dX8_feed_44 (by decide) (fun _ => ?_) (fun c_100 => absurd (by decide +kernel) c_100)
  refine lv_iload hx hb dX8_feed_51 (lv_at hl 0 rfl) ?_
  refine lv_bipush (v := 12) hx hb dX8_feed_53 (by decide) ?_
  refine lv_icmp_ge (tgt := 62) hx hb dX8_feed_55 (by decide) (fun _ => ?_) (fun c_101 => absurd (by decide +kernel) c_101)
  refine lv_iload hx hb dX8_feed_62 (lv_at hl 0 rfl) ?_
  refine lv_bipush (v := 16) hx hb dX8_feed_64 (by decide) ?_
  refine lv_icmp_ge (tgt := 74) hx hb dX8_feed_66 (by decide) (fun c_102 => absurd c_102 (by decide +kernel)) (fun _ => ?_)
  refine lv_iload hx hb dX8_feed_69 (lv_at hl 6 rfl) ?_
  refine lv_goto (tgt := 76) hx hb dX8_feed_71 (by decide) ?_
  refine lv_istore (lv' := [(7, .int a3), (6, .int 15), (0, .ref mo), (1, .int a0), (2, .int a1), (3, .int a2), (4, .int a3), (5, .int a4)]) hx hb dX8_feed_76 hl (by decide) rfl (fun ls hl => ?_)
  refine lv_aload_n hx hb dX8_feed_78 rfl (lv_at hl 2 rfl) ?_
  refine va_get (D := (dC, dI)) (ci := 8) (v := .ref tp) (C := RX8) (T := TX8) (N := 40) hx hb hts (by decide +kernel) hown hK hP 0 rfl rfl 1 (by decide) (hts (.fieldLink RX8 7 "WaxTurnsModel" "tape" "[I") (by decide +kernel)) (fun _ h9 => h9) rfl dX8_feed_79 ?_
  refine lv_aload_n hx hb dX8_feed_82 rfl (lv_at hl 2 rfl) ?_
  refine va_get (D := (dC, dI)) (ci := 8) (v := .int 15) (C := RX8) (T := TX8) (N := 40) hx hb hts (by decide +kernel) hown hK hP 0 rfl rfl 2 (by decide) (hts (.fieldLink RX8 65 "WaxTurnsModel" "taped" "I") (by decide +kernel)) (fun _ h9 => h9) rfl dX8_feed_83 ?_
  refine lv_iload hx hb dX8_feed_86 (lv_at hl 0 rfl) ?_
  refine lv_bipush (v := 24) hx hb dX8_feed_88 (by decide) ?_
  refine lv_bipush (v := 8) hx hb dX8_feed_90 (by decide) ?_
  refine lv_iload hx hb dX8_feed_92 (lv_at hl 1 rfl) ?_
  refine lv_iconst (v := 4) hx hb dX8_feed_94 (by decide) ?_
  refine lv_irem hx hb dX8_feed_95 (by decide +kernel) ?_
  refine ax_ti 3 (by decide +kernel) ?_
  refine lv_imul hx hb dX8_feed_96 ?_
  refine ax_ti 24 (by decide +kernel) ?_
  refine lv_isub hx hb dX8_feed_97 ?_
  refine ax_ti 0 (by decide +kernel) ?_
  refine lv_ishr hx hb dX8_feed_98 ?_
  refine lv_topi (fun x_103 ex_103 => ?_)
  refine lv_sipush (v := 255) hx hb dX8_feed_99 (by decide) ?_
  refine lv_iand hx hb dX8_feed_102 ?_
  refine lv_topi (fun x_104 ex_104 => ?_)
  refine va_iast hx hb hK hP hD hS 1 0 rfl rfl (by unfold vp_in; decide +kernel) dX8_feed_103 (fun H locs hP hD hS => ?_)
  obtain ⟨f_105, hP, hD⟩ : ∃ f_105 : Nat → Int32, va_P (dC, dI) vwCl [(mo, .inr (8, [.int 0, .ref tp, .int 15, g 3, g 4, g 5, g 6, g 7, g 8, g 9, g 10, g 11, g 12, g 13, g 14, g 15, g 16, g 17, g 18, g 19, g 20, g 21, g 22, g 23, g 24, g 25, g 26, g 27, g 28, g 29, g 30, g 31, g 32, g 33, g 34, g 35, g 36, g 37, g 38, g 39])), (tp, .inl (kt, 900, .inl (f_105)))] H ∧ va_D A [(mo, .inr (8, [.int 0, .ref tp, .int 15, g 3, g 4, g 5, g 6, g 7, g 8, g 9, g 10, g 11, g 12, g 13, g 14, g 15, g 16, g 17, g 18, g 19, g 20, g 21, g 22, g 23, g 24, g 25, g 26, g 27, g 28, g 29, g 30, g 31, g 32, g 33, g 34, g 35, g 36, g 37, g 38, g 39])), (tp, .inl (kt, 900, .inl (f_105)))] := ⟨_, hP, hD⟩
  refine lv_aload_n hx hb dX8_feed_104 rfl (lv_at hl 2 rfl) ?_
  refine lv_dup hx hb dX8_feed_105 rfl ?_
  refine va_get (D := (dC, dI)) (ci := 8) (v := .int 15) (C := RX8) (T := TX8) (N := 40) hx hb hts (by decide +kernel) hown hK hP 0 rfl rfl 2 (by decide) (hts (.fieldLink RX8 65 "WaxTurnsModel" "taped" "I") (by decide +kernel)) (fun _ h9 => h9) rfl dX8_feed_106 ?_
  refine lv_iconst (v := 1) hx hb dX8_feed_109 (by decide) ?_
  refine lv_iadd hx hb dX8_feed_110 ?_
  refine ax_ti 16 (by decide +kernel) ?_
  refine va_put (D := (dC, dI)) (ci := 8) (v := .int 16) (ty := .int) (C := RX8) (T := TX8) (N := 40) hx hb hts (by decide +kernel) tyX8 tyX8_ok nmX8 hown hK hP hD hS 0 rfl rfl 2 (by decide) (hts (.fieldLink RX8 65 "WaxTurnsModel" "taped" "I") (by decide +kernel)) (fun _ h9 => h9) rfl (by decide +kernel) rfl rfl (Nat.le_of_ble_eq_true rfl) dX8_feed_111 (fun H locs hP hD hS => ?_)
  have hP : va_P (dC, dI) vwCl [(mo, .inr (8, [.int 0, .ref tp, .int 16, g 3, g 4, g 5, g 6, g 7, g 8, g 9, g 10, g 11, g 12, g 13, g 14, g 15, g 16, g 17, g 18, g 19, g 20, g 21, g 22, g 23, g 24, g 25, g 26, g 27, g 28, g 29, g 30, g 31, g 32, g 33, g 34, g 35, g 36, g 37, g 38, g 39])), (tp, .inl (kt, 900, .inl (f_105)))] H := hP
  have hD : va_D A [(mo, .inr (8, [.int 0, .ref tp, .int 16, g 3, g 4, g 5, g 6, g 7, g 8, g 9, g 10, g 11, g 12, g 13, g 14, g 15, g 16, g 17, g 18, g 19, g 20, g 21, g 22, g 23, g 24, g 25, g 26, g 27, g 28, g 29, g 30, g 31, g 32, g 33, g 34, g 35, g 36, g 37, g 38, g 39])), (tp, .inl (kt, 900, .inl (f_105)))] := hD
  refine lv_iinc (v := 16) (lv' := [(6, .int 16), (7, .int a3), (0, .ref mo), (1, .int a0), (2, .int a1), (3, .int a2), (4, .int a3), (5, .int a4)]) hx hb dX8_feed_114 hl (k := 1) rfl (by decide +kernel) (by decide) rfl (fun ls hl => ?_)
  refine lv_goto (tgt := 23) hx hb dX8_feed_117 (by decide) ?_
  refine lv_iload hx hb dX8_feed_23 (lv_at hl 0 rfl) ?_
  refine lv_bipush (v := 20) hx hb dX8_feed_25 (by decide) ?_
  refine lv_icmp_ge (tgt := 120) hx hb dX8_feed_27 (by decide) (fun c_106 => absurd c_106 (by decide +kernel)) (fun _ => ?_)
  refine lv_iload hx hb dX8_feed_30 (lv_at hl 0 rfl) ?_
  refine lv_iconst (v := 4) hx hb dX8_feed_32 (by decide) ?_
  refine lv_icmp_ge (tgt := 40) hx hb dX8_feed_33 (by decide) (fun _ => ?_) (fun c_107 => absurd (by decide +kernel) c_107)
  refine lv_iload hx hb dX8_feed_40 (lv_at hl 0 rfl) ?_
  refine lv_bipush (v := 8) hx hb dX8_feed_42 (by decide) ?_
  refine lv_icmp_ge (tgt := 51) hx hb dX8_feed_44 (by decide) (fun _ => ?_) (fun c_108 => absurd (by decide +kernel) c_108)
  refine lv_iload hx hb dX8_feed_51 (lv_at hl 0 rfl) ?_
  refine lv_bipush (v := 12) hx hb dX8_feed_53 (by decide) ?_
  refine lv_icmp_ge (tgt := 62) hx hb dX8_feed_55 (by decide) (fun _ => ?_) (fun c_109 => absurd (by decide +kernel) c_109)
  refine lv_iload hx hb dX8_feed_62 (lv_at hl 0 rfl) ?_
  refine lv_bipush (v := 16) hx hb dX8_feed_64 (by decide) ?_
  refine lv_icmp_ge (tgt := 74) hx hb dX8_feed_66 (by decide) (fun _ => ?_) (fun c_110 => absurd (by decide +kernel) c_110)
  refine lv_iload hx hb dX8_feed_74 (lv_at hl 7 rfl) ?_
  refine lv_istore (lv' := [(7, .int a4), (6, .int 16), (0, .ref mo), (1, .int a0), (2, .int a1), (3, .int a2), (4, .int a3), (5, .int a4)]) hx hb dX8_feed_76 hl (by decide) rfl (fun ls hl => ?_)
  refine lv_aload_n hx hb dX8_feed_78 rfl (lv_at hl 2 rfl) ?_
  refine va_get (D := (dC, dI)) (ci := 8) (v := .ref tp) (C := RX8) (T := TX8) (N := 40) hx hb hts (by decide +kernel) hown hK hP 0 rfl rfl 1 (by decide) (hts (.fieldLink RX8 7 "WaxTurnsModel" "tape" "[I") (by decide +kernel)) (fun _ h9 => h9) rfl dX8_feed_79 ?_
  refine lv_aload_n hx hb dX8_feed_82 rfl (lv_at hl 2 rfl) ?_
  refine va_get (D := (dC, dI)) (ci := 8) (v := .int 16) (C := RX8) (T := TX8) (N := 40) hx hb hts (by decide +kernel) hown hK hP 0 rfl rfl 2 (by decide) (hts (.fieldLink RX8 65 "WaxTurnsModel" "taped" "I") (by decide +kernel)) (fun _ h9 => h9) rfl dX8_feed_83 ?_
  refine lv_iload hx hb dX8_feed_86 (lv_at hl 0 rfl) ?_
  refine lv_bipush (v := 24) hx hb dX8_feed_88 (by decide) ?_
  refine lv_bipush (v := 8) hx hb dX8_feed_90 (by decide) ?_
  refine lv_iload hx hb dX8_feed_92 (lv_at hl 1 rfl) ?_
  refine lv_iconst (v := 4) hx hb dX8_feed_94 (by decide) ?_
  refine lv_irem hx hb dX8_feed_95 (by decide +kernel) ?_
  refine ax_ti 0 (by decide +kernel) ?_
  refine lv_imul hx hb dX8_feed_96 ?_
  refine ax_ti 0 (by decide +kernel) ?_
  refine lv_isub hx hb dX8_feed_97 ?_
  refine ax_ti 24 (by decide +kernel) ?_
  refine lv_ishr hx hb dX8_feed_98 ?_
  refine lv_topi (fun x_111 ex_111 => ?_)
  refine lv_sipush (v := 255) hx hb dX8_feed_99 (by decide) ?_
  refine lv_iand hx hb dX8_feed_102 ?_
  refine lv_topi (fun x_112 ex_112 => ?_)
  refine va_iast hx hb hK hP hD hS 1 0 rfl rfl (by unfold vp_in; decide +kernel) dX8_feed_103 (fun H locs hP hD hS => ?_)
  obtain ⟨f_113, hP, hD⟩ : ∃ f_113 : Nat → Int32, va_P (dC, dI) vwCl [(mo, .inr (8, [.int 0, .ref tp, .int 16, g 3, g 4, g 5, g 6, g 7, g 8, g 9, g 10, g 11, g 12, g 13, g 14, g 15, g 16, g 17, g 18, g 19, g 20, g 21, g 22, g 23, g 24, g 25, g 26, g 27, g 28, g 29, g 30, g 31, g 32, g 33, g 34, g 35, g 36, g 37, g 38, g 39])), (tp, .inl (kt, 900, .inl (f_113)))] H ∧ va_D A [(mo, .inr (8, [.int 0, .ref tp, .int 16, g 3, g 4, g 5, g 6, g 7, g 8, g 9, g 10, g 11, g 12, g 13, g 14, g 15, g 16, g 17, g 18, g 19, g 20, g 21, g 22, g 23, g 24, g 25, g 26, g 27, g 28, g 29, g 30, g 31, g 32, g 33, g 34, g 35, g 36, g 37, g 38, g 39])), (tp, .inl (kt, 900, .inl (f_113)))] := ⟨_, hP, hD⟩
  refine lv_aload_n hx hb dX8_feed_104 rfl (lv_at hl 2 rfl) ?_
  refine lv_dup hx hb dX8_feed_105 rfl ?_
  refine va_get (D := (dC, dI)) (ci := 8) (v := .int 16) (C := RX8) (T := TX8) (N := 40) hx hb hts (by decide +kernel) hown hK hP 0 rfl rfl 2 (by decide) (hts (.fieldLink RX8 65 "WaxTurnsModel" "taped" "I") (by decide +kernel)) (fun _ h9 => h9) rfl dX8_feed_106 ?_
  refine lv_iconst (v := 1) hx hb dX8_feed_109 (by decide) ?_
  refine lv_iadd hx hb dX8_feed_110 ?_
  refine ax_ti 17 (by decide +kernel) ?_
  refine va_put (D := (dC, dI)) (ci := 8) (v := .int 17) (ty := .int) (C := RX8) (T := TX8) (N := 40) hx hb hts (by decide +kernel) tyX8 tyX8_ok nmX8 hown hK hP hD hS 0 rfl rfl 2 (by decide) (hts (.fieldLink RX8 65 "WaxTurnsModel" "taped" "I") (by decide +kernel)) (fun _ h9 => h9) rfl (by decide +kernel) rfl rfl (Nat.le_of_ble_eq_true rfl) dX8_feed_111 (fun H locs hP hD hS => ?_)
  have hP : va_P (dC, dI) vwCl [(mo, .inr (8, [.int 0, .ref tp, .int 17, g 3, g 4, g 5, g 6, g 7, g 8, g 9, g 10, g 11, g 12, g 13, g 14, g 15, g 16, g 17, g 18, g 19, g 20, g 21, g 22, g 23, g 24, g 25, g 26, g 27, g 28, g 29, g 30, g 31, g 32, g 33, g 34, g 35, g 36, g 37, g 38, g 39])), (tp, .inl (kt, 900, .inl (f_113)))] H := hP
  have hD : va_D A [(mo, .inr (8, [.int 0, .ref tp, .int 17, g 3, g 4, g 5, g 6, g 7, g 8, g 9, g 10, g 11, g 12, g 13, g 14, g 15, g 16, g 17, g 18, g 19, g 20, g 21, g 22, g 23, g 24, g 25, g 26, g 27, g 28, g 29, g 30, g 31, g 32, g 33, g 34, g 35, g 36, g 37, g 38, g 39])), (tp, .inl (kt, 900, .inl (f_113)))] := hD
  refine lv_iinc (v := 17) (lv' := [(6, .int 17), (7, .int a4), (0, .ref mo), (1, .int a0), (2, .int a1), (3, .int a2), (4, .int a3), (5, .int a4)]) hx hb dX8_feed_114 hl (k := 1) rfl (by decide +kernel) (by decide) rfl (fun ls hl => ?_)
  refine lv_goto (tgt := 23) hx hb dX8_feed_117 (by decide) ?_
  refine lv_iload hx hb dX8_feed_23 (lv_at hl 0 rfl) ?_
  refine lv_bipush (v := 20) hx hb dX8_feed_25 (by decide) ?_
  refine lv_icmp_ge (tgt := 120) hx hb dX8_feed_27 (by decide) (fun c_114 => absurd c_114 (by decide +kernel)) (fun _ => ?_)
  refine lv_iload hx hb dX8_feed_30 (lv_at hl 0 rfl) ?_
  refine lv_iconst (v := 4) hx hb dX8_feed_32 (by decide) ?_
  refine lv_icmp_ge (tgt := 40) hx hb dX8_feed_33 (by decide) (fun _ => ?_) (fun c_115 => absurd (by decide +kernel) c_115)
  refine lv_iload hx hb dX8_feed_40 (lv_at hl 0 rfl) ?_
  refine lv_bipush (v := 8) hx hb dX8_feed_42 (by decide) ?_
  refine lv_icmp_ge (tgt := 51) hx hb dX8_feed_44 (by decide) (fun _ => ?_) (fun c_116 => absurd (by decide +kernel) c_116)
  refine lv_iload hx hb dX8_feed_51 (lv_at hl 0 rfl) ?_
  refine lv_bipush (v := 12) hx hb dX8_feed_53 (by decide) ?_
  refine lv_icmp_ge (tgt := 62) hx hb dX8_feed_55 (by decide) (fun _ => ?_) (fun c_117 => absurd (by decide +kernel) c_117)
  refine lv_iload hx hb dX8_feed_62 (lv_at hl 0 rfl) ?_
  refine lv_bipush (v := 16) hx hb dX8_feed_64 (by decide) ?_
  refine lv_icmp_ge (tgt := 74) hx hb dX8_feed_66 (by decide) (fun _ => ?_) (fun c_118 => absurd (by decide +kernel) c_118)
  refine lv_iload hx hb dX8_feed_74 (lv_at hl 7 rfl) ?_
  refine lv_istore (lv' := [(7, .int a4), (6, .int 17), (0, .ref mo), (1, .int a0), (2, .int a1), (3, .int a2), (4, .int a3), (5, .int a4)]) hx hb dX8_feed_76 hl (by decide) rfl (fun ls hl => ?_)
  refine lv_aload_n hx hb dX8_feed_78 rfl (lv_at hl 2 rfl) ?_
  refine va_get (D := (dC, dI)) (ci := 8) (v := .ref tp) (C := RX8) (T := TX8) (N := 40) hx hb hts (by decide +kernel) hown hK hP 0 rfl rfl 1 (by decide) (hts (.fieldLink RX8 7 "WaxTurnsModel" "tape" "[I") (by decide +kernel)) (fun _ h9 => h9) rfl dX8_feed_79 ?_
  refine lv_aload_n hx hb dX8_feed_82 rfl (lv_at hl 2 rfl) ?_
  refine va_get (D := (dC, dI)) (ci := 8) (v := .int 17) (C := RX8) (T := TX8) (N := 40) hx hb hts (by decide +kernel) hown hK hP 0 rfl rfl 2 (by decide) (hts (.fieldLink RX8 65 "WaxTurnsModel" "taped" "I") (by decide +kernel)) (fun _ h9 => h9) rfl dX8_feed_83 ?_
  refine lv_iload hx hb dX8_feed_86 (lv_at hl 0 rfl) ?_
  refine lv_bipush (v := 24) hx hb dX8_feed_88 (by decide) ?_
  refine lv_bipush (v := 8) hx hb dX8_feed_90 (by decide) ?_
  refine lv_iload hx hb dX8_feed_92 (lv_at hl 1 rfl) ?_
  refine lv_iconst (v := 4) hx hb dX8_feed_94 (by decide) ?_
  refine lv_irem hx hb dX8_feed_95 (by decide +kernel) ?_
  refine ax_ti 1 (by decide +kernel) ?_
  refine lv_imul hx hb dX8_feed_96 ?_
  refine ax_ti 8 (by decide +kernel) ?_
  refine lv_isub hx hb dX8_feed_97 ?_
  refine ax_ti 16 (by decide +kernel) ?_
  refine lv_ishr hx hb dX8_feed_98 ?_
  refine lv_topi (fun x_119 ex_119 => ?_)
  refine lv_sipush (v := 255) hx hb dX8_feed_99 (by decide) ?_
  refine lv_iand hx hb dX8_feed_102 ?_
  refine lv_topi (fun x_120 ex_120 => ?_)
  refine va_iast hx hb hK hP hD hS 1 0 rfl rfl (by unfold vp_in; decide +kernel) dX8_feed_103 (fun H locs hP hD hS => ?_)
  obtain ⟨f_121, hP, hD⟩ : ∃ f_121 : Nat → Int32, va_P (dC, dI) vwCl [(mo, .inr (8, [.int 0, .ref tp, .int 17, g 3, g 4, g 5, g 6, g 7, g 8, g 9, g 10, g 11, g 12, g 13, g 14, g 15, g 16, g 17, g 18, g 19, g 20, g 21, g 22, g 23, g 24, g 25, g 26, g 27, g 28, g 29, g 30, g 31, g 32, g 33, g 34, g 35, g 36, g 37, g 38, g 39])), (tp, .inl (kt, 900, .inl (f_121)))] H ∧ va_D A [(mo, .inr (8, [.int 0, .ref tp, .int 17, g 3, g 4, g 5, g 6, g 7, g 8, g 9, g 10, g 11, g 12, g 13, g 14, g 15, g 16, g 17, g 18, g 19, g 20, g 21, g 22, g 23, g 24, g 25, g 26, g 27, g 28, g 29, g 30, g 31, g 32, g 33, g 34, g 35, g 36, g 37, g 38, g 39])), (tp, .inl (kt, 900, .inl (f_121)))] := ⟨_, hP, hD⟩
  refine lv_aload_n hx hb dX8_feed_104 rfl (lv_at hl 2 rfl) ?_
  refine lv_dup hx hb dX8_feed_105 rfl ?_
  refine va_get (D := (dC, dI)) (ci := 8) (v := .int 17) (C := RX8) (T := TX8) (N := 40) hx hb hts (by decide +kernel) hown hK hP 0 rfl rfl 2 (by decide) (hts (.fieldLink RX8 65 "WaxTurnsModel" "taped" "I") (by decide +kernel)) (fun _ h9 => h9) rfl dX8_feed_106 ?_
  refine lv_iconst (v := 1) hx hb dX8_feed_109 (by decide) ?_
  refine lv_iadd hx hb dX8_feed_110 ?_
  refine ax_ti 18 (by decide +kernel) ?_
  refine va_put (D := (dC, dI)) (ci := 8) (v := .int 18) (ty := .int) (C := RX8) (T := TX8) (N := 40) hx hb hts (by decide +kernel) tyX8 tyX8_ok nmX8 hown hK hP hD hS 0 rfl rfl 2 (by decide) (hts (.fieldLink RX8 65 "WaxTurnsModel" "taped" "I") (by decide +kernel)) (fun _ h9 => h9) rfl (by decide +kernel) rfl rfl (Nat.le_of_ble_eq_true rfl) dX8_feed_111 (fun H locs hP hD hS => ?_)
  have hP : va_P (dC, dI) vwCl [(mo, .inr (8, [.int 0, .ref tp, .int 18, g 3, g 4, g 5, g 6, g 7, g 8, g 9, g 10, g 11, g 12, g 13, g 14, g 15, g 16, g 17, g 18, g 19, g 20, g 21, g 22, g 23, g 24, g 25, g 26, g 27, g 28, g 29, g 30, g 31, g 32, g 33, g 34, g 35, g 36, g 37, g 38, g 39])), (tp, .inl (kt, 900, .inl (f_121)))] H := hP
  have hD : va_D A [(mo, .inr (8, [.int 0, .ref tp, .int 18, g 3, g 4, g 5, g 6, g 7, g 8, g 9, g 10, g 11, g 12, g 13, g 14, g 15, g 16, g 17, g 18, g 19, g 20, g 21, g 22, g 23, g 24, g 25, g 26, g 27, g 28, g 29, g 30, g 31, g 32, g 33, g 34, g 35, g 36, g 37, g 38, g 39])), (tp, .inl (kt, 900, .inl (f_121)))] := hD
  refine lv_iinc (v := 18) (lv' := [(6, .int 18), (7, .int a4), (0, .ref mo), (1, .int a0), (2, .int a1), (3, .int a2), (4, .int a3), (5, .int a4)]) hx hb dX8_feed_114 hl (k := 1) rfl (by decide +kernel) (by decide) rfl (fun ls hl => ?_)
  refine lv_goto (tgt := 23) hx hb dX8_feed_117 (by decide) ?_
  refine lv_iload hx hb dX8_feed_23 (lv_at hl 0 rfl) ?_
  refine lv_bipush (v := 20) hx hb dX8_feed_25 (by decide) ?_
  refine lv_icmp_ge (tgt := 120) hx hb dX8_feed_27 (by decide) (fun c_122 => absurd c_122 (by decide +kernel)) (fun _ => ?_)
  refine lv_iload hx hb dX8_feed_30 (lv_at hl 0 rfl) ?_
  refine lv_iconst (v := 4) hx hb dX8_feed_32 (by decide) ?_
  refine lv_icmp_ge (tgt := 40) hx hb dX8_feed_33 (by decide) (fun _ => ?_) (fun c_123 => absurd (by decide +kernel) c_123)
  refine lv_iload hx hb dX8_feed_40 (lv_at hl 0 rfl) ?_
  refine lv_bipush (v := 8) hx hb dX8_feed_42 (by decide) ?_
  refine lv_icmp_ge (tgt := 51) hx hb dX8_feed_44 (by decide) (fun _ => ?_) (fun c_124 => absurd (by decide +kernel) c_124)
  refine lv_iload hx hb dX8_feed_51 (lv_at hl 0 rfl) ?_
  refine lv_bipush (v := 12) hx hb dX8_feed_53 (by decide) ?_
  refine lv_icmp_ge (tgt := 62) hx hb dX8_feed_55 (by decide) (fun _ => ?_) (fun c_125 => absurd (by decide +kernel) c_125)
  refine lv_iload hx hb dX8_feed_62 (lv_at hl 0 rfl) ?_
  refine lv_bipush (v := 16) hx hb dX8_feed_64 (by decide) ?_
  refine lv_icmp_ge (tgt := 74) hx hb dX8_feed_66 (by decide) (fun _ => ?_) (fun c_126 => absurd (by decide +kernel) c_126)
  refine lv_iload hx hb dX8_feed_74 (lv_at hl 7 rfl) ?_
  refine lv_istore (lv' := [(7, .int a4), (6, .int 18), (0, .ref mo), (1, .int a0), (2, .int a1), (3, .int a2), (4, .int a3), (5, .int a4)]) hx hb dX8_feed_76 hl (by decide) rfl (fun ls hl => ?_)
  refine lv_aload_n hx hb dX8_feed_78 rfl (lv_at hl 2 rfl) ?_
  refine va_get (D := (dC, dI)) (ci := 8) (v := .ref tp) (C := RX8) (T := TX8) (N := 40) hx hb hts (by decide +kernel) hown hK hP 0 rfl rfl 1 (by decide) (hts (.fieldLink RX8 7 "WaxTurnsModel" "tape" "[I") (by decide +kernel)) (fun _ h9 => h9) rfl dX8_feed_79 ?_
  refine lv_aload_n hx hb dX8_feed_82 rfl (lv_at hl 2 rfl) ?_
  refine va_get (D := (dC, dI)) (ci := 8) (v := .int 18) (C := RX8) (T := TX8) (N := 40) hx hb hts (by decide +kernel) hown hK hP 0 rfl rfl 2 (by decide) (hts (.fieldLink RX8 65 "WaxTurnsModel" "taped" "I") (by decide +kernel)) (fun _ h9 => h9) rfl dX8_feed_83 ?_
  refine lv_iload hx hb dX8_feed_86 (lv_at hl 0 rfl) ?_
  refine lv_bipush (v := 24) hx hb dX8_feed_88 (by decide) ?_
  refine lv_bipush (v := 8) hx hb dX8_feed_90 (by decide) ?_
  refine lv_iload hx hb dX8_feed_92 (lv_at hl 1 rfl) ?_
  refine lv_iconst (v := 4) hx hb dX8_feed_94 (by decide) ?_
  refine lv_irem hx hb dX8_feed_95 (by decide +kernel) ?_
  refine ax_ti 2 (by decide +kernel) ?_
  refine lv_imul hx hb dX8_feed_96 ?_
  refine ax_ti 16 (by decide +kernel) ?_
  refine lv_isub hx hb dX8_feed_97 ?_
  refine ax_ti 8 (by decide +kernel) ?_
  refine lv_ishr hx hb dX8_feed_98 ?_
  refine lv_topi (fun x_127 ex_127 => ?_)
  refine lv_sipush (v := 255) hx hb dX8_feed_99 (by decide) ?_
  refine lv_iand hx hb dX8_feed_102 ?_
  refine lv_topi (fun x_128 ex_128 => ?_)
  refine va_iast hx hb hK hP hD hS 1 0 rfl rfl (by unfold vp_in; decide +kernel) dX8_feed_103 (fun H locs hP hD hS => ?_)
  obtain ⟨f_129, hP, hD⟩ : ∃ f_129 : Nat → Int32, va_P (dC, dI) vwCl [(mo, .inr (8, [.int 0, .ref tp, .int 18, g 3, g 4, g 5, g 6, g 7, g 8, g 9, g 10, g 11, g 12, g 13, g 14, g 15, g 16, g 17, g 18, g 19, g 20, g 21, g 22, g 23, g 24, g 25, g 26, g 27, g 28, g 29, g 30, g 31, g 32, g 33, g 34, g 35, g 36, g 37, g 38, g 39])), (tp, .inl (kt, 900, .inl (f_129)))] H ∧ va_D A [(mo, .inr (8, [.int 0, .ref tp, .int 18, g 3, g 4, g 5, g 6, g 7, g 8, g 9, g 10, g 11, g 12, g 13, g 14, g 15, g 16, g 17, g 18, g 19, g 20, g 21, g 22, g 23, g 24, g 25, g 26, g 27, g 28, g 29, g 30, g 31, g 32, g 33, g 34, g 35, g 36, g 37, g 38, g 39])), (tp, .inl (kt, 900, .inl (f_129)))] := ⟨_, hP, hD⟩
  refine lv_aload_n hx hb dX8_feed_104 rfl (lv_at hl 2 rfl) ?_
  refine lv_dup hx hb dX8_feed_105 rfl ?_
  refine va_get (D := (dC, dI)) (ci := 8) (v := .int 18) (C := RX8) (T := TX8) (N := 40) hx hb hts (by decide +kernel) hown hK hP 0 rfl rfl 2 (by decide) (hts (.fieldLink RX8 65 "WaxTurnsModel" "taped" "I") (by decide +kernel)) (fun _ h9 => h9) rfl dX8_feed_106 ?_
  refine lv_iconst (v := 1) hx hb dX8_feed_109 (by decide) ?_
  refine lv_iadd hx hb dX8_feed_110 ?_
  refine ax_ti 19 (by decide +kernel) ?_
  refine va_put (D := (dC, dI)) (ci := 8) (v := .int 19) (ty := .int) (C := RX8) (T := TX8) (N := 40) hx hb hts (by decide +kernel) tyX8 tyX8_ok nmX8 hown hK hP hD hS 0 rfl rfl 2 (by decide) (hts (.fieldLink RX8 65 "WaxTurnsModel" "taped" "I") (by decide +kernel)) (fun _ h9 => h9) rfl (by decide +kernel) rfl rfl (Nat.le_of_ble_eq_true rfl) dX8_feed_111 (fun H locs hP hD hS => ?_)
  have hP : va_P (dC, dI) vwCl [(mo, .inr (8, [.int 0, .ref tp, .int 19, g 3, g 4, g 5, g 6, g 7, g 8, g 9, g 10, g 11, g 12, g 13, g 14, g 15, g 16, g 17, g 18, g 19, g 20, g 21, g 22, g 23, g 24, g 25, g 26, g 27, g 28, g 29, g 30, g 31, g 32, g 33, g 34, g 35, g 36, g 37, g 38, g 39])), (tp, .inl (kt, 900, .inl (f_129)))] H := hP
  have hD : va_D A [(mo, .inr (8, [.int 0, .ref tp, .int 19, g 3, g 4, g 5, g 6, g 7, g 8, g 9, g 10, g 11, g 12, g 13, g 14, g 15, g 16, g 17, g 18, g 19, g 20, g 21, g 22, g 23, g 24, g 25, g 26, g 27, g 28, g 29, g 30, g 31, g 32, g 33, g 34, g 35, g 36, g 37, g 38, g 39])), (tp, .inl (kt, 900, .inl (f_129)))] := hD
  refine lv_iinc (v := 19) (lv' := [(6, .int 19), (7, .int a4), (0, .ref mo), (1, .int a0), (2, .int a1), (3, .int a2), (4, .int a3), (5, .int a4)]) hx hb dX8_feed_114 hl (k := 1) rfl (by decide +kernel) (by decide) rfl (fun ls hl => ?_)
  refine lv_goto (tgt := 23) hx hb dX8_feed_117 (by decide) ?_
  refine lv_iload hx hb dX8_feed_23 (lv_at hl 0 rfl) ?_
  refine lv_bipush (v := 20) hx hb dX8_feed_25 (by decide) ?_
  refine lv_icmp_ge (tgt := 120) hx hb dX8_feed_27 (by decide) (fun c_130 => absurd c_130 (by decide +kernel)) (fun _ => ?_)
  refine lv_iload hx hb dX8_feed_30 (lv_at hl 0 rfl) ?_
  refine lv_iconst (v := 4) hx hb dX8_feed_32 (by decide) ?_
  refine lv_icmp_ge (tgt := 40) hx hb dX8_feed_33 (by decide) (fun _ => ?_) (fun c_131 => absurd (by decide +kernel) c_131)
  refine lv_iload hx hb dX8_feed_40 (lv_at hl 0 rfl) ?_
  refine lv_bipush (v := 8) hx hb dX8_feed_42 (by decide) ?_
  refine lv_icmp_ge (tgt := 51) hx hb dX8_feed_44 (by decide) (fun _ => ?_) (fun c_132 => absurd (by decide +kernel) c_132)
  refine lv_iload hx hb dX8_feed_51 (lv_at hl 0 rfl) ?_
  refine lv_bipush (v := 12) hx hb dX8_feed_53 (by decide) ?_
  refine lv_icmp_ge (tgt := 62) hx hb dX8_feed_55 (by decide) (fun _ => ?_) (fun c_133 => absurd (by decide +kernel) c_133)
  refine lv_iload hx hb dX8_feed_62 (lv_at hl 0 rfl) ?_
  refine lv_bipush (v := 16) hx hb dX8_feed_64 (by decide) ?_
  refine lv_icmp_ge (tgt := 74) hx hb dX8_feed_66 (by decide) (fun _ => ?_) (fun c_134 => absurd (by decide +kernel) c_134)
  refine lv_iload hx hb dX8_feed_74 (lv_at hl 7 rfl) ?_
  refine lv_istore (lv' := [(7, .int a4), (6, .int 19), (0, .ref mo), (1, .int a0), (2, .int a1), (3, .int a2), (4, .int a3), (5, .int a4)]) hx hb dX8_feed_76 hl (by decide) rfl (fun ls hl => ?_)
  refine lv_aload_n hx hb dX8_feed_78 rfl (lv_at hl 2 rfl) ?_
  refine va_get (D := (dC, dI)) (ci := 8) (v := .ref tp) (C := RX8) (T := TX8) (N := 40) hx hb hts (by decide +kernel) hown hK hP 0 rfl rfl 1 (by decide) (hts (.fieldLink RX8 7 "WaxTurnsModel" "tape" "[I") (by decide +kernel)) (fun _ h9 => h9) rfl dX8_feed_79 ?_
  refine lv_aload_n hx hb dX8_feed_82 rfl (lv_at hl 2 rfl) ?_
  refine va_get (D := (dC, dI)) (ci := 8) (v := .int 19) (C := RX8) (T := TX8) (N := 40) hx hb hts (by decide +kernel) hown hK hP 0 rfl rfl 2 (by decide) (hts (.fieldLink RX8 65 "WaxTurnsModel" "taped" "I") (by decide +kernel)) (fun _ h9 => h9) rfl dX8_feed_83 ?_
  refine lv_iload hx hb dX8_feed_86 (lv_at hl 0 rfl) ?_
  refine lv_bipush (v := 24) hx hb dX8_feed_88 (by decide) ?_
  refine lv_bipush (v := 8) hx hb dX8_feed_90 (by decide) ?_
  refine lv_iload hx hb dX8_feed_92 (lv_at hl 1 rfl) ?_
  refine lv_iconst (v := 4) hx hb dX8_feed_94 (by decide) ?_
  refine lv_irem hx hb dX8_feed_95 (by decide +kernel) ?_
  refine ax_ti 3 (by decide +kernel) ?_
  refine lv_imul hx hb dX8_feed_96 ?_
  refine ax_ti 24 (by decide +kernel) ?_
  refine lv_isub hx hb dX8_feed_97 ?_
  refine ax_ti 0 (by decide +kernel) ?_
  refine lv_ishr hx hb dX8_feed_98 ?_
  refine lv_topi (fun x_135 ex_135 => ?_)
  refine lv_sipush (v := 255) hx hb dX8_feed_99 (by decide) ?_
  refine lv_iand hx hb dX8_feed_102 ?_
  refine lv_topi (fun x_136 ex_136 => ?_)
  refine va_iast hx hb hK hP hD hS 1 0 rfl rfl (by unfold vp_in; decide +kernel) dX8_feed_103 (fun H locs hP hD hS => ?_)
  obtain ⟨f_137, hP, hD⟩ : ∃ f_137 : Nat → Int32, va_P (dC, dI) vwCl [(mo, .inr (8, [.int 0, .ref tp, .int 19, g 3, g 4, g 5, g 6, g 7, g 8, g 9, g 10, g 11, g 12, g 13, g 14, g 15, g 16, g 17, g 18, g 19, g 20, g 21, g 22, g 23, g 24, g 25, g 26, g 27, g 28, g 29, g 30, g 31, g 32, g 33, g 34, g 35, g 36, g 37, g 38, g 39])), (tp, .inl (kt, 900, .inl (f_137)))] H ∧ va_D A [(mo, .inr (8, [.int 0, .ref tp, .int 19, g 3, g 4, g 5, g 6, g 7, g 8, g 9, g 10, g 11, g 12, g 13, g 14, g 15, g 16, g 17, g 18, g 19, g 20, g 21, g 22, g 23, g 24, g 25, g 26, g 27, g 28, g 29, g 30, g 31, g 32, g 33, g 34, g 35, g 36, g 37, g 38, g 39])), (tp, .inl (kt, 900, .inl (f_137)))] := ⟨_, hP, hD⟩
  refine lv_aload_n hx hb dX8_feed_104 rfl (lv_at hl 2 rfl) ?_
  refine lv_dup hx hb dX8_feed_105 rfl ?_
  refine va_get (D := (dC, dI)) (ci := 8) (v := .int 19) (C := RX8) (T := TX8) (N := 40) hx hb hts (by decide +kernel) hown hK hP 0 rfl rfl 2 (by decide) (hts (.fieldLink RX8 65 "WaxTurnsModel" "taped" "I") (by decide +kernel)) (fun _ h9 => h9) rfl dX8_feed_106 ?_
  refine lv_iconst (v := 1) hx hb dX8_feed_109 (by decide) ?_
  refine lv_iadd hx hb dX8_feed_110 ?_
  refine ax_ti 20 (by decide +kernel) ?_
  refine va_put (D := (dC, dI)) (ci := 8) (v := .int 20) (ty := .int) (C := RX8) (T := TX8) (N := 40) hx hb hts (by decide +kernel) tyX8 tyX8_ok nmX8 hown hK hP hD hS 0 rfl rfl 2 (by decide) (hts (.fieldLink RX8 65 "WaxTurnsModel" "taped" "I") (by decide +kernel)) (fun _ h9 => h9) rfl (by decide +kernel) rfl rfl (Nat.le_of_ble_eq_true rfl) dX8_feed_111 (fun H locs hP hD hS => ?_)
  have hP : va_P (dC, dI) vwCl [(mo, .inr (8, [.int 0, .ref tp, .int 20, g 3, g 4, g 5, g 6, g 7, g 8, g 9, g 10, g 11, g 12, g 13, g 14, g 15, g 16, g 17, g 18, g 19, g 20, g 21, g 22, g 23, g 24, g 25, g 26, g 27, g 28, g 29, g 30, g 31, g 32, g 33, g 34, g 35, g 36, g 37, g 38, g 39])), (tp, .inl (kt, 900, .inl (f_137)))] H := hP
  have hD : va_D A [(mo, .inr (8, [.int 0, .ref tp, .int 20, g 3, g 4, g 5, g 6, g 7, g 8, g 9, g 10, g 11, g 12, g 13, g 14, g 15, g 16, g 17, g 18, g 19, g 20, g 21, g 22, g 23, g 24, g 25, g 26, g 27, g 28, g 29, g 30, g 31, g 32, g 33, g 34, g 35, g 36, g 37, g 38, g 39])), (tp, .inl (kt, 900, .inl (f_137)))] := hD
  refine lv_iinc (v := 20) (lv' := [(6, .int 20), (7, .int a4), (0, .ref mo), (1, .int a0), (2, .int a1), (3, .int a2), (4, .int a3), (5, .int a4)]) hx hb dX8_feed_114 hl (k := 1) rfl (by decide +kernel) (by decide) rfl (fun ls hl => ?_)
  refine lv_goto (tgt := 23) hx hb dX8_feed_117 (by decide) ?_
  refine lv_iload hx hb dX8_feed_23 (lv_at hl 0 rfl) ?_
  refine lv_bipush (v := 20) hx hb dX8_feed_25 (by decide) ?_
  refine lv_icmp_ge (tgt := 120) hx hb dX8_feed_27 (by decide) (fun _ => ?_) (fun c_138 => absurd (by decide +kernel) c_138)
  refine lv_aload_n hx hb dX8_feed_120 rfl (lv_at hl 2 rfl) ?_
  refine va_get (D := (dC, dI)) (ci := 8) (v := .int 20) (C := RX8) (T := TX8) (N := 40) hx hb hts (by decide +kernel) hown hK hP 0 rfl rfl 2 (by decide) (hts (.fieldLink RX8 65 "WaxTurnsModel" "taped" "I") (by decide +kernel)) (fun _ h9 => h9) rfl dX8_feed_121 ?_
  have hP9 := hP.sub (ws' := []) [] rfl
  have hD9 := hD.sub (ws' := []) [] (by decide) rfl
  have hK9 := hK.sub (tys' := []) [] rfl
  exact W.iret (v := 20) hx hb hr (fun t ht hW => ⟨⟨20, (), rfl, rfl, by rw [ht]; exact hP9, va_K.moved hW.alike hK9, hD9⟩, hS.F ht⟩) hS.2.2 dX8_feed_124
