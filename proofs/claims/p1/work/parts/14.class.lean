set_option maxHeartbeats 4000000 in
set_option maxRecDepth 100000 in
theorem c_X3_append_0 (l : Launch) (dC : Nat → ClassId) (dI : Nat → Nat → Nat) (sz : Nat) (rd : Nat) (n : Int32) (k : Nat → Value) (tp : Nat) (kt : ClassId) (f : Nat → Int32) : Met l yX3_append wsX3_append ({ frames := 0, cells := 0, slots := 0, locals := 0 }) (va_Pc [.ref rd, .int n] (ax_C dC dI sz [(rd, .inr (3, [.int 0, k 1, k 2, .ref tp, k 4, k 5, k 6, k 7, k 8, k 9, k 10, k 11, k 12, k 13])), (tp, .inl (kt, 900, .inl (f)))] [(kt, .byte)] (fun _ => True))) (va_Qv (fun (_ : Unit) => True) (fun (_ : Unit) (t : State) => ∃ (f2 : Nat → Int32), ax_B dC dI (va_A [(rd, .inr (3, [.int 0, k 1, k 2, .ref tp, k 4, k 5, k 6, k 7, k 8, k 9, k 10, k 11, k 12, k 13])), (tp, .inl (kt, 900, .inl (f)))] sz) [(rd, .inr (3, [.int 4, k 1, k 2, .ref tp, k 4, k 5, k 6, k 7, k 8, k 9, k 10, k 11, k 12, k 13])), (tp, .inl (kt, 900, .inl (f2)))] [(kt, .byte)] t) (va_A [(rd, .inr (3, [.int 0, k 1, k 2, .ref tp, k 4, k 5, k 6, k 7, k 8, k 9, k 10, k 11, k 12, k 13])), (tp, .inl (kt, 900, .inl (f)))] sz)) 0 0 (va_A [(rd, .inr (3, [.int 0, k 1, k 2, .ref tp, k 4, k 5, k 6, k 7, k 8, k 9, k 10, k 11, k 12, k 13])), (tp, .inl (kt, 900, .inl (f)))] sz) := by
  refine Met.ofW (cc := cX3_append) (maxL := 3) (ret := none) (by decide) rfl ?_
  intro p e s m args below meth c s₁ B hml hv
  obtain ⟨rfl, hsz, hP, hK, hD0, hE⟩ := hv
  have hx := B.exec
  have hb := B.bytes
  have hr := B.returns
  have hts := atoms_spec (ws := wsX3_append) B.pre
  have hown : s.vm.findClass RX3 = some m.cls := findClass_of_methodNamed B.named
  have hlocks := B.notSynchronized
  subst hsz
  have hD := hD0.self (sz := s.heap.size)
  generalize hAe : va_A [(rd, .inr (3, [.int 0, k 1, k 2, .ref tp, k 4, k 5, k 6, k 7, k 8, k 9, k 10, k 11, k 12, k 13])), (tp, .inl (kt, 900, .inl (f)))] s.heap.size = A at hD ⊢
  have hA : ∀ q : Nat, s.heap.size ≤ q → A q := fun q h => by rw [← hAe]; exact Or.inr h
  have hS : va_S A s.heap s.heap [] := va_S.rf
  have hP : va_P (dC, dI) vwCl [(rd, .inr (3, [.int 0, k 1, k 2, .ref tp, k 4, k 5, k 6, k 7, k 8, k 9, k 10, k 11, k 12, k 13])), (tp, .inl (kt, 900, .inl (f)))] s.heap := hP
  have hl := lv_entry ([.ref rd, .int n]) (n := 3) (Nat.le_of_ble_eq_true rfl)
  rw [lg_entry_eq]
  generalize (lg_sl ([.ref rd, .int n]) ++ List.replicate (3 - (lg_sl ([.ref rd, .int n])).length) Slot.unset).toArray = ls at hl ⊢
  have hl : lv_has ls 3 [(0, .ref rd), (1, .int n)] := hl
  refine lv_bipush (v := 24) hx hb dX3_append_0 (by decide) ?_
  refine lv_istore_n (lv' := [(2, .int 24), (0, .ref rd), (1, .int n)]) hx hb dX3_append_2 rfl hl (by decide) rfl (fun ls hl => ?_)
  refine lv_iload_n hx hb dX3_append_3 rfl (lv_at hl 0 rfl) ?_
  refine lv_if_lt (tgt := 46) hx hb dX3_append_4 (by decide) (fun c_1 => absurd c_1 (by decide +kernel)) (fun _ => ?_)
  refine lv_aload_n hx hb dX3_append_7 rfl (lv_at hl 1 rfl) ?_
  refine va_get (D := (dC, dI)) (ci := 3) (v := .int 0) (C := RX3) (T := TX3) (N := 14) hx hb hts (by decide +kernel) hown hK hP 0 rfl rfl 0 (by decide) (hts (.fieldLink RX3 26 "WaxTurns$Reade\x72" "tapeSize" "I") (by decide +kernel)) (fun _ h9 => h9) rfl dX3_append_8 ?_
  refine lv_sipush (v := 900) hx hb dX3_append_11 (by decide) ?_
  refine lv_icmp_ge (tgt := 46) hx hb dX3_append_14 (by decide) (fun c_2 => absurd c_2 (by decide +kernel)) (fun _ => ?_)
  refine lv_aload_n hx hb dX3_append_17 rfl (lv_at hl 1 rfl) ?_
  refine va_get (D := (dC, dI)) (ci := 3) (v := .ref tp) (C := RX3) (T := TX3) (N := 14) hx hb hts (by decide +kernel) hown hK hP 0 rfl rfl 3 (by decide) (hts (.fieldLink RX3 9 "WaxTurns$Reade\x72" "tape" "[B") (by decide +kernel)) (fun _ h9 => h9) rfl dX3_append_18 ?_
  refine lv_aload_n hx hb dX3_append_21 rfl (lv_at hl 1 rfl) ?_
  refine va_get (D := (dC, dI)) (ci := 3) (v := .int 0) (C := RX3) (T := TX3) (N := 14) hx hb hts (by decide +kernel) hown hK hP 0 rfl rfl 0 (by decide) (hts (.fieldLink RX3 26 "WaxTurns$Reade\x72" "tapeSize" "I") (by decide +kernel)) (fun _ h9 => h9) rfl dX3_append_22 ?_
  refine lv_iload_n hx hb dX3_append_25 rfl (lv_at hl 2 rfl) ?_
  refine lv_iload_n hx hb dX3_append_26 rfl (lv_at hl 0 rfl) ?_
  refine lv_ishr hx hb dX3_append_27 ?_
  refine lv_topi (fun x_3 ex_3 => ?_)
  obtain ⟨x_4, ex_4⟩ : ∃ y : Int32, y = (x_3).toInt8.toInt32 := ⟨_, rfl⟩
  refine lv_i2b (v := x_4) hx hb dX3_append_28 ex_4.symm ?_
  refine va_bast hx hb hK hP hD hS 1 0 rfl rfl (by unfold vp_in; decide +kernel) dX3_append_29 (fun H locs hP hD hS => ?_)
  obtain ⟨f_5, hP, hD⟩ : ∃ f_5 : Nat → Int32, va_P (dC, dI) vwCl [(rd, .inr (3, [.int 0, k 1, k 2, .ref tp, k 4, k 5, k 6, k 7, k 8, k 9, k 10, k 11, k 12, k 13])), (tp, .inl (kt, 900, .inl (f_5)))] H ∧ va_D A [(rd, .inr (3, [.int 0, k 1, k 2, .ref tp, k 4, k 5, k 6, k 7, k 8, k 9, k 10, k 11, k 12, k 13])), (tp, .inl (kt, 900, .inl (f_5)))] := ⟨_, hP, hD⟩
  refine lv_aload_n hx hb dX3_append_30 rfl (lv_at hl 1 rfl) ?_
  refine lv_dup hx hb dX3_append_31 rfl ?_
  refine va_get (D := (dC, dI)) (ci := 3) (v := .int 0) (C := RX3) (T := TX3) (N := 14) hx hb hts (by decide +kernel) hown hK hP 0 rfl rfl 0 (by decide) (hts (.fieldLink RX3 26 "WaxTurns$Reade\x72" "tapeSize" "I") (by decide +kernel)) (fun _ h9 => h9) rfl dX3_append_32 ?_
  refine lv_iconst (v := 1) hx hb dX3_append_35 (by decide) ?_
  refine lv_iadd hx hb dX3_append_36 ?_
  refine ax_ti 1 (by decide +kernel) ?_
  refine va_put (D := (dC, dI)) (ci := 3) (v := .int 1) (ty := .int) (C := RX3) (T := TX3) (N := 14) hx hb hts (by decide +kernel) tyX3 tyX3_ok nmX3 hown hK hP hD hS 0 rfl rfl 0 (by decide) (hts (.fieldLink RX3 26 "WaxTurns$Reade\x72" "tapeSize" "I") (by decide +kernel)) (fun _ h9 => h9) rfl (by decide +kernel) rfl rfl (Nat.le_of_ble_eq_true rfl) dX3_append_37 (fun H locs hP hD hS => ?_)
  have hP : va_P (dC, dI) vwCl [(rd, .inr (3, [.int 1, k 1, k 2, .ref tp, k 4, k 5, k 6, k 7, k 8, k 9, k 10, k 11, k 12, k 13])), (tp, .inl (kt, 900, .inl (f_5)))] H := hP
  have hD : va_D A [(rd, .inr (3, [.int 1, k 1, k 2, .ref tp, k 4, k 5, k 6, k 7, k 8, k 9, k 10, k 11, k 12, k 13])), (tp, .inl (kt, 900, .inl (f_5)))] := hD
  refine lv_iinc (v := 16) (lv' := [(2, .int 16), (0, .ref rd), (1, .int n)]) hx hb dX3_append_40 hl (k := 0) rfl (by decide +kernel) (by decide) rfl (fun ls hl => ?_)
  refine lv_goto (tgt := 3) hx hb dX3_append_43 (by decide) ?_
  refine lv_iload_n hx hb dX3_append_3 rfl (lv_at hl 0 rfl) ?_
  refine lv_if_lt (tgt := 46) hx hb dX3_append_4 (by decide) (fun c_6 => absurd c_6 (by decide +kernel)) (fun _ => ?_)
  refine lv_aload_n hx hb dX3_append_7 rfl (lv_at hl 1 rfl) ?_
  refine va_get (D := (dC, dI)) (ci := 3) (v := .int 1) (C := RX3) (T := TX3) (N := 14) hx hb hts (by decide +kernel) hown hK hP 0 rfl rfl 0 (by decide) (hts (.fieldLink RX3 26 "WaxTurns$Reade\x72" "tapeSize" "I") (by decide +kernel)) (fun _ h9 => h9) rfl dX3_append_8 ?_
  refine lv_sipush (v := 900) hx hb dX3_append_11 (by decide) ?_
  refine lv_icmp_ge (tgt := 46) hx hb dX3_append_14 (by decide) (fun c_7 => absurd c_7 (by decide +kernel)) (fun _ => ?_)
  refine lv_aload_n hx hb dX3_append_17 rfl (lv_at hl 1 rfl) ?_
  refine va_get (D := (dC, dI)) (ci := 3) (v := .ref tp) (C := RX3) (T := TX3) (N := 14) hx hb hts (by decide +kernel) hown hK hP 0 rfl rfl 3 (by decide) (hts (.fieldLink RX3 9 "WaxTurns$Reade\x72" "tape" "[B") (by decide +kernel)) (fun _ h9 => h9) rfl dX3_append_18 ?_
  refine lv_aload_n hx hb dX3_append_21 rfl (lv_at hl 1 rfl) ?_
  refine va_get (D := (dC, dI)) (ci := 3) (v := .int 1) (C := RX3) (T := TX3) (N := 14) hx hb hts (by decide +kernel) hown hK hP 0 rfl rfl 0 (by decide) (hts (.fieldLink RX3 26 "WaxTurns$Reade\x72" "tapeSize" "I") (by decide +kernel)) (fun _ h9 => h9) rfl dX3_append_22 ?_
  refine lv_iload_n hx hb dX3_append_25 rfl (lv_at hl 2 rfl) ?_
  refine lv_iload_n hx hb dX3_append_26 rfl (lv_at hl 0 rfl) ?_
  refine lv_ishr hx hb dX3_append_27 ?_
  refine lv_topi (fun x_8 ex_8 => ?_)
  obtain ⟨x_9, ex_9⟩ : ∃ y : Int32, y = (x_8).toInt8.toInt32 := ⟨_, rfl⟩
  refine lv_i2b (v := x_9) hx hb dX3_append_28 ex_9.symm ?_
  refine va_bast hx hb hK hP hD hS 1 0 rfl rfl (by unfold vp_in; decide +kernel) dX3_append_29 (fun H locs hP hD hS => ?_)
  obtain ⟨f_10, hP, hD⟩ : ∃ f_10 : Nat → Int32, va_P (dC, dI) vwCl [(rd, .inr (3, [.int 1, k 1, k 2, .ref tp, k 4, k 5, k 6, k 7, k 8, k 9, k 10, k 11, k 12, k 13])), (tp, .inl (kt, 900, .inl (f_10)))] H ∧ va_D A [(rd, .inr (3, [.int 1, k 1, k 2, .ref tp, k 4, k 5, k 6, k 7, k 8, k 9, k 10, k 11, k 12, k 13])), (tp, .inl (kt, 900, .inl (f_10)))] := ⟨_, hP, hD⟩
  refine lv_aload_n hx hb dX3_append_30 rfl (lv_at hl 1 rfl) ?_
  refine lv_dup hx hb dX3_append_31 rfl ?_
  refine va_get (D := (dC, dI)) (ci := 3) (v := .int 1) (C := RX3) (T := TX3) (N := 14) hx hb hts (by decide +kernel) hown hK hP 0 rfl rfl 0 (by decide) (hts (.fieldLink RX3 26 "WaxTurns$Reade\x72" "tapeSize" "I") (by decide +kernel)) (fun _ h9 => h9) rfl dX3_append_32 ?_
  refine lv_iconst (v := 1) hx hb dX3_append_35 (by decide) ?_
  refine lv_iadd hx hb dX3_append_36 ?_
  refine ax_ti 2 (by decide +kernel) ?_
  refine va_put (D := (dC, dI)) (ci := 3) (v := .int 2) (ty := .int) (C := RX3) (T := TX3) (N := 14) hx hb hts (by decide +kernel) tyX3 tyX3_ok nmX3 hown hK hP hD hS 0 rfl rfl 0 (by decide) (hts (.fieldLink RX3 26 "WaxTurns$Reade\x72" "tapeSize" "I") (by decide +kernel)) (fun _ h9 => h9) rfl (by decide +kernel) rfl rfl (Nat.le_of_ble_eq_true rfl) dX3_append_37 (fun H locs hP hD hS => ?_)
  have hP : va_P (dC, dI) vwCl [(rd, .inr (3, [.int 2, k 1, k 2, .ref tp, k 4, k 5, k 6, k 7, k 8, k 9, k 10, k 11, k 12, k 13])), (tp, .inl (kt, 900, .inl (f_10)))] H := hP
  have hD : va_D A [(rd, .inr (3, [.int 2, k 1, k 2, .ref tp, k 4, k 5, k 6, k 7, k 8, k 9, k 10, k 11, k 12, k 13])), (tp, .inl (kt, 900, .inl (f_10)))] := hD
  refine lv_iinc (v := 8) (lv' := [(2, .int 8), (0, .ref rd), (1, .int n)]) hx hb dX3_append_40 hl (k := 0) rfl (by decide +kernel) (by decide) rfl (fun ls hl => ?_)
  refine lv_goto (tgt := 3) hx hb dX3_append_43 (by decide) ?_
  refine lv_iload_n hx hb dX3_append_3 rfl (lv_at hl 0 rfl) ?_
  refine lv_if_lt (tgt := 46) hx hb dX3_append_4 (by decide) (fun c_11 => absurd c_11 (by decide +kernel)) (fun _ => ?_)
  refine lv_aload_n hx hb dX3_append_7 rfl (lv_at hl 1 rfl) ?_
  refine va_get (D := (dC, dI)) (ci := 3) (v := .int 2) (C := RX3) (T := TX3) (N := 14) hx hb hts (by decide +kernel) hown hK hP 0 rfl rfl 0 (by decide) (hts (.fieldLink RX3 26 "WaxTurns$Reade\x72" "tapeSize" "I") (by decide +kernel)) (fun _ h9 => h9) rfl dX3_append_8 ?_
  refine lv_sipush (v := 900) hx hb dX3_append_11 (by decide) ?_
  refine lv_icmp_ge (tgt := 46) hx hb dX3_append_14 (by decide) (fun c_12 => absurd c_12 (by decide +kernel)) (fun _ => ?_)
  refine lv_aload_n hx hb dX3_append_17 rfl (lv_at hl 1 rfl) ?_
  refine va_get (D := (dC, dI)) (ci := 3) (v := .ref tp) (C := RX3) (T := TX3) (N := 14) hx hb hts (by decide +kernel) hown hK hP 0 rfl rfl 3 (by decide) (hts (.fieldLink RX3 9 "WaxTurns$Reade\x72" "tape" "[B") (by decide +kernel)) (fun _ h9 => h9) rfl dX3_append_18 ?_
  refine lv_aload_n hx hb dX3_append_21 rfl (lv_at hl 1 rfl) ?_
  refine va_get (D := (dC, dI)) (ci := 3) (v := .int 2) (C := RX3) (T := TX3) (N := 14) hx hb hts (by decide +kernel) hown hK hP 0 rfl rfl 0 (by decide) (hts (.fieldLink RX3 26 "WaxTurns$Reade\x72" "tapeSize" "I") (by decide +kernel)) (fun _ h9 => h9) rfl dX3_append_22 ?_
  refine lv_iload_n hx hb dX3_append_25 rfl (lv_at hl 2 rfl) ?_
  refine lv_iload_n hx hb dX3_append_26 rfl (lv_at hl 0 rfl) ?_
  refine lv_ishr hx hb dX3_append_27 ?_
  refine lv_topi (fun x_13 ex_13 => ?_)
  obtain ⟨x_14, ex_14⟩ : ∃ y : Int32, y = (x_13).toInt8.toInt32 := ⟨_, rfl⟩
  refine lv_i2b (v := x_14) hx hb dX3_append_28 ex_14.symm ?_
  refine va_bast hx hb hK hP hD hS 1 0 rfl rfl (by unfold vp_in; decide +kernel) dX3_append_29 (fun H locs hP hD hS => ?_)
  obtain ⟨f_15, hP, hD⟩ : ∃ f_15 : Nat → Int32, va_P (dC, dI) vwCl [(rd, .inr (3, [.int 2, k 1, k 2, .ref tp, k 4, k 5, k 6, k 7, k 8, k 9, k 10, k 11, k 12, k 13])), (tp, .inl (kt, 900, .inl (f_15)))] H ∧ va_D A [(rd, .inr (3, [.int 2, k 1, k 2, .ref tp, k 4, k 5, k 6, k 7, k 8, k 9, k 10, k 11, k 12, k 13])), (tp, .inl (kt, 900, .inl (f_15)))] := ⟨_, hP, hD⟩
  refine lv_aload_n hx hb dX3_append_30 rfl (lv_at hl 1 rfl) ?_
  refine lv_dup hx hb dX3_append_31 rfl ?_
  refine va_get (D := (dC, dI)) (ci := 3) (v := .int 2) (C := RX3) (T := TX3) (N := 14) hx hb hts (by decide +kernel) hown hK hP 0 rfl rfl 0 (by decide) (hts (.fieldLink RX3 26 "WaxTurns$Reade\x72" "tapeSize" "I") (by decide +kernel)) (fun _ h9 => h9) rfl dX3_append_32 ?_
  refine lv_iconst (v := 1) hx hb dX3_append_35 (by decide) ?_
  refine lv_iadd hx hb dX3_append_36 ?_
  refine ax_ti 3 (by decide +kernel) ?_
  refine va_put (D := (dC, dI)) (ci := 3) (v := .int 3) (ty := .int) (C := RX3) (T := TX3) (N := 14) hx hb hts (by decide +kernel) tyX3 tyX3_ok nmX3 hown hK hP hD hS 0 rfl rfl 0 (by decide) (hts (.fieldLink RX3 26 "WaxTurns$Reade\x72" "tapeSize" "I") (by decide +kernel)) (fun _ h9 => h9) rfl (by decide +kernel) rfl rfl (Nat.le_of_ble_eq_true rfl) dX3_append_37 (fun H locs hP hD hS => ?_)
  have hP : va_P (dC, dI) vwCl [(rd, .inr (3, [.int 3, k 1, k 2, .ref tp, k 4, k 5, k 6, k 7, k 8, k 9, k 10, k 11, k 12, k 13])), (tp, .inl (kt, 900, .inl (f_15)))] H := hP
  have hD : va_D A [(rd, .inr (3, [.int 3, k 1, k 2, .ref tp, k 4, k 5, k 6, k 7, k 8, k 9, k 10, k 11, k 12, k 13])), (tp, .inl (kt, 900, .inl (f_15)))] := hD
  refine lv_iinc (v := 0) (lv' := [(2, .int 0), (0, .ref rd), (1, .int n)]) hx hb dX3_append_40 hl (k := 0) rfl (by decide +kernel) (by decide) rfl (fun ls hl => ?_)
  refine lv_goto (tgt := 3) hx hb dX3_append_43 (by decide) ?_
  refine lv_iload_n hx hb dX3_append_3 rfl (lv_at hl 0 rfl) ?_
  refine lv_if_lt (tgt := 46) hx hb dX3_append_4 (by decide) (fun c_16 => absurd c_16 (by decide +kernel)) (fun _ => ?_)
  refine lv_aload_n hx hb dX3_append_7 rfl (lv_at hl 1 rfl) ?_
  refine va_get (D := (dC, dI)) (ci := 3) (v := .int 3) (C := RX3) (T := TX3) (N := 14) hx hb hts (by decide +kernel) hown hK hP 0 rfl rfl 0 (by decide) (hts (.fieldLink RX3 26 "WaxTurns$Reade\x72" "tapeSize" "I") (by decide +kernel)) (fun _ h9 => h9) rfl dX3_append_8 ?_
  refine lv_sipush (v := 900) hx hb dX3_append_11 (by decide) ?_
  refine lv_icmp_ge (tgt := 46) hx hb dX3_append_14 (by decide) (fun c_17 => absurd c_17 (by decide +kernel)) (fun _ => ?_)
  refine lv_aload_n hx hb dX3_append_17 rfl (lv_at hl 1 rfl) ?_
  refine va_get (D := (dC, dI)) (ci := 3) (v := .ref tp) (C := RX3) (T := TX3) (N := 14) hx hb hts (by decide +kernel) hown hK hP 0 rfl rfl 3 (by decide) (hts (.fieldLink RX3 9 "WaxTurns$Reade\x72" "tape" "[B") (by decide +kernel)) (fun _ h9 => h9) rfl dX3_append_18 ?_
  refine lv_aload_n hx hb dX3_append_21 rfl (lv_at hl 1 rfl) ?_
  refine va_get (D := (dC, dI)) (ci := 3) (v := .int 3) (C := RX3) (T := TX3) (N := 14) hx hb hts (by decide +kernel) hown hK hP 0 rfl rfl 0 (by decide) (hts (.fieldLink RX3 26 "WaxTurns$Reade\x72" "tapeSize" "I") (by decide +kernel)) (fun _ h9 => h9) rfl dX3_append_22 ?_
  refine lv_iload_n hx hb dX3_append_25 rfl (lv_at hl 2 rfl) ?_
  refine lv_iload_n hx hb dX3_append_26 rfl (lv_at hl 0 rfl) ?_
  refine lv_ishr hx hb dX3_append_27 ?_
  refine lv_topi (fun x_18 ex_18 => ?_)
  obtain ⟨x_19, ex_19⟩ : ∃ y : Int32, y = (x_18).toInt8.toInt32 := ⟨_, rfl⟩
  refine lv_i2b (v := x_19) hx hb dX3_append_28 ex_19.symm ?_
  refine va_bast hx hb hK hP hD hS 1 0 rfl rfl (by unfold vp_in; decide +kernel) dX3_append_29 (fun H locs hP hD hS => ?_)
  obtain ⟨f_20, hP, hD⟩ : ∃ f_20 : Nat → Int32, va_P (dC, dI) vwCl [(rd, .inr (3, [.int 3, k 1, k 2, .ref tp, k 4, k 5, k 6, k 7, k 8, k 9, k 10, k 11, k 12, k 13])), (tp, .inl (kt, 900, .inl (f_20)))] H ∧ va_D A [(rd, .inr (3, [.int 3, k 1, k 2, .ref tp, k 4, k 5, k 6, k 7, k 8, k 9, k 10, k 11, k 12, k 13])), (tp, .inl (kt, 900, .inl (f_20)))] := ⟨_, hP, hD⟩
  refine lv_aload_n hx hb dX3_append_30 rfl (lv_at hl 1 rfl) ?_
  refine lv_dup hx hb dX3_append_31 rfl ?_
  refine va_get (D := (dC, dI)) (ci := 3) (v := .int 3) (C := RX3) (T := TX3) (N := 14) hx hb hts (by decide +kernel) hown hK hP 0 rfl rfl 0 (by decide) (hts (.fieldLink RX3 26 "WaxTurns$Reade\x72" "tapeSize" "I") (by decide +kernel)) (fun _ h9 => h9) rfl dX3_append_32 ?_
  refine lv_iconst (v := 1) hx hb dX3_append_35 (by decide) ?_
  refine lv_iadd hx hb dX3_append_36 ?_
  refine ax_ti 4 (by decide +kernel) ?_
  refine va_put (D := (dC, dI)) (ci := 3) (v := .int 4) (ty := .int) (C := RX3) (T := TX3) (N := 14) hx hb hts (by decide +kernel) tyX3 tyX3_ok nmX3 hown hK hP hD hS 0 rfl rfl 0 (by decide) (hts (.fieldLink RX3 26 "WaxTurns$Reade\x72" "tapeSize" "I") (by decide +kernel)) (fun _ h9 => h9) rfl (by decide +kernel) rfl rfl (Nat.le_of_ble_eq_true rfl) dX3_append_37 (fun H locs hP hD hS => ?_)
  have hP : va_P (dC, dI) vwCl [(rd, .inr (3, [.int 4, k 1, k 2, .ref tp, k 4, k 5, k 6, k 7, k 8, k 9, k 10, k 11, k 12, k 13])), (tp, .inl (kt, 900, .inl (f_20)))] H := hP
  have hD : va_D A [(rd, .inr (3, [.int 4, k 1, k 2, .ref tp, k 4, k 5, k 6, k 7, k 8, k 9, k 10, k 11, k 12, k 13])), (tp, .inl (kt, 900, .inl (f_20)))] := hD
  refine lv_iinc (v := (-8)) (lv' := [(2, .int (-8)), (0, .ref rd), (1, .int n)]) hx hb dX3_append_40 hl (k := 0) rfl (by decide +kernel) (by decide) rfl (fun ls hl => ?_)
  refine lv_goto (tgt := 3) hx hb dX3_append_43 (by decide) ?_
  refine lv_iload_n hx hb dX3_append_3 rfl (lv_at hl 0 rfl) ?_
  refine lv_if_lt (tgt := 46) hx hb dX3_append_4 (by decide) (fun _ => ?_) (fun c_21 => absurd (by decide +kernel) c_21)
  have hP9 := hP.sub (ws' := [(rd, .inr (3, [.int 4, k 1, k 2, .ref tp, k 4, k 5, k 6, k 7, k 8, k 9, k 10, k 11, k 12, k 13])), (tp, .inl (kt, 900, .inl (f_20)))]) [0, 1] rfl
  have hD9 := hD.sub (ws' := [(rd, .inr (3, [.int 4, k 1, k 2, .ref tp, k 4, k 5, k 6, k 7, k 8, k 9, k 10, k 11, k 12, k 13])), (tp, .inl (kt, 900, .inl (f_20)))]) [0, 1] (by decide) rfl
  have hK9 := hK.sub (tys' := [(kt, .byte)]) [0] rfl
  exact W.vret hx hb hr (fun t ht hW => ⟨⟨(), rfl, trivial, f_20, by rw [ht]; exact hP9, va_K.moved hW.alike hK9, hD9⟩, hS.F ht⟩) hS.2.2 dX3_append_46

set_option maxHeartbeats 4000000 in
set_option maxRecDepth 100000 in
theorem c_X3_append_4 (l : Launch) (dC : Nat → ClassId) (dI : Nat → Nat → Nat) (sz : Nat) (rd : Nat) (n : Int32) (k : Nat → Value) (tp : Nat) (kt : ClassId) (f : Nat → Int32) : Met l yX3_append wsX3_append ({ frames := 0, cells := 0, slots := 0, locals := 0 }) (va_Pc [.ref rd, .int n] (ax_C dC dI sz [(rd, .inr (3, [.int 4, k 1, k 2, .ref tp, k 4, k 5, k 6, k 7, k 8, k 9, k 10, k 11, k 12, k 13])), (tp, .inl (kt, 900, .inl (f)))] [(kt, .byte)] (fun _ => True))) (va_Qv (fun (_ : Unit) => True) (fun (_ : Unit) (t : State) => ∃ (f2 : Nat → Int32), ax_B dC dI (va_A [(rd, .inr (3, [.int 4, k 1, k 2, .ref tp, k 4, k 5, k 6, k 7, k 8, k 9, k 10, k 11, k 12, k 13])), (tp, .inl (kt, 900, .inl (f)))] sz) [(rd, .inr (3, [.int 8, k 1, k 2, .ref tp, k 4, k 5, k 6, k 7, k 8, k 9, k 10, k 11, k 12, k 13])), (tp, .inl (kt, 900, .inl (f2)))] [(kt, .byte)] t) (va_A [(rd, .inr (3, [.int 4, k 1, k 2, .ref tp, k 4, k 5, k 6, k 7, k 8, k 9, k 10, k 11, k 12, k 13])), (tp, .inl (kt, 900, .inl (f)))] sz)) 0 0 (va_A [(rd, .inr (3, [.int 4, k 1, k 2, .ref tp, k 4, k 5, k 6, k 7, k 8, k 9, k 10, k 11, k 12, k 13])), (tp, .inl (kt, 900, .inl (f)))] sz) := by
  refine Met.ofW (cc := cX3_append) (maxL := 3) (ret := none) (by decide) rfl ?_
  intro p e s m args below meth c s₁ B hml hv
  obtain ⟨rfl, hsz, hP, hK, hD0, hE⟩ := hv
  have hx := B.exec
  have hb := B.bytes
  have hr := B.returns
  have hts := atoms_spec (ws := wsX3_append) B.pre
  have hown : s.vm.findClass RX3 = some m.cls := findClass_of_methodNamed B.named
  have hlocks := B.notSynchronized
  subst hsz
  have hD := hD0.self (sz := s.heap.size)
  generalize hAe : va_A [(rd, .inr (3, [.int 4, k 1, k 2, .ref tp, k 4, k 5, k 6, k 7, k 8, k 9, k 10, k 11, k 12, k 13])), (tp, .inl (kt, 900, .inl (f)))] s.heap.size = A at hD ⊢
  have hA : ∀ q : Nat, s.heap.size ≤ q → A q := fun q h => by rw [← hAe]; exact Or.inr h
  have hS : va_S A s.heap s.heap [] := va_S.rf
  have hP : va_P (dC, dI) vwCl [(rd, .inr (3, [.int 4, k 1, k 2, .ref tp, k 4, k 5, k 6, k 7, k 8, k 9, k 10, k 11, k 12, k 13])), (tp, .inl (kt, 900, .inl (f)))] s.heap := hP
  have hl := lv_entry ([.ref rd, .int n]) (n := 3) (Nat.le_of_ble_eq_true rfl)
  rw [lg_entry_eq]
  generalize (lg_sl ([.ref rd, .int n]) ++ List.replicate (3 - (lg_sl ([.ref rd, .int n])).length) Slot.unset).toArray = ls at hl ⊢
  have hl : lv_has ls 3 [(0, .ref rd), (1, .int n)] := hl
  refine lv_bipush (v := 24) hx hb dX3_append_0 (by decide) ?_
  refine lv_istore_n (lv' := [(2, .int 24), (0, .ref rd), (1, .int n)]) hx hb dX3_append_2 rfl hl (by decide) rfl (fun ls hl => ?_)
  refine lv_iload_n hx hb dX3_append_3 rfl (lv_at hl 0 rfl) ?_
  refine lv_if_lt (tgt := 46) hx hb dX3_append_4 (by decide) (fun c_1 => absurd c_1 (by decide +kernel)) (fun _ => ?_)
  refine lv_aload_n hx hb dX3_append_7 rfl (lv_at hl 1 rfl) ?_
  refine va_get (D := (dC, dI)) (ci := 3) (v := .int 4) (C := RX3) (T := TX3) (N := 14) hx hb hts (by decide +kernel) hown hK hP 0 rfl rfl 0 (by decide) (hts (.fieldLink RX3 26 "WaxTurns$Reade\x72" "tapeSize" "I") (by decide +kernel)) (fun _ h9 => h9) rfl dX3_append_8 ?_
  refine lv_sipush (v := 900) hx hb dX3_append_11 (by decide) ?_
  refine lv_icmp_ge (tgt := 46) hx hb dX3_append_14 (by decide) (fun c_2 => absurd c_2 (by decide +kernel)) (fun _ => ?_)
  refine lv_aload_n hx hb dX3_append_17 rfl (lv_at hl 1 rfl) ?_
  refine va_get (D := (dC, dI)) (ci := 3) (v := .ref tp) (C := RX3) (T := TX3) (N := 14) hx hb hts (by decide +kernel) hown hK hP 0 rfl rfl 3 (by decide) (hts (.fieldLink RX3 9 "WaxTurns$Reade\x72" "tape" "[B") (by decide +kernel)) (fun _ h9 => h9) rfl dX3_append_18 ?_
  refine lv_aload_n hx hb dX3_append_21 rfl (lv_at hl 1 rfl) ?_
  refine va_get (D := (dC, dI)) (ci := 3) (v := .int 4) (C := RX3) (T := TX3) (N := 14) hx hb hts (by decide +kernel) hown hK hP 0 rfl rfl 0 (by decide) (hts (.fieldLink RX3 26 "WaxTurns$Reade\x72" "tapeSize" "I") (by decide +kernel)) (fun _ h9 => h9) rfl dX3_append_22 ?_
  refine lv_iload_n hx hb dX3_append_25 rfl (lv_at hl 2 rfl) ?_
  refine lv_iload_n hx hb dX3_append_26 rfl (lv_at hl 0 rfl) ?_
  refine lv_ishr hx hb dX3_append_27 ?_
  refine lv_topi (fun x_3 ex_3 => ?_)
  obtain ⟨x_4, ex_4⟩ : ∃ y : Int32, y = (x_3).toInt8.toInt32 := ⟨_, rfl⟩
  refine lv_i2b (v := x_4) hx hb dX3_append_28 ex_4.symm ?_
  refine va_bast hx hb hK hP hD hS 1 0 rfl rfl (by unfold vp_in; decide +kernel) dX3_append_29 (fun H locs hP hD hS => ?_)
  obtain ⟨f_5, hP, hD⟩ : ∃ f_5 : Nat → Int32, va_P (dC, dI) vwCl [(rd, .inr (3, [.int 4, k 1, k 2, .ref tp, k 4, k 5, k 6, k 7, k 8, k 9, k 10, k 11, k 12, k 13])), (tp, .inl (kt, 900, .inl (f_5)))] H ∧ va_D A [(rd, .inr (3, [.int 4, k 1, k 2, .ref tp, k 4, k 5, k 6, k 7, k 8, k 9, k 10, k 11, k 12, k 13])), (tp, .inl (kt, 900, .inl (f_5)))] := ⟨_, hP, hD⟩
  refine lv_aload_n hx hb dX3_append_30 rfl (lv_at hl 1 rfl) ?_
  refine lv_dup hx hb dX3_append_31 rfl ?_
  refine va_get (D := (dC, dI)) (ci := 3) (v := .int 4) (C := RX3) (T := TX3) (N := 14) hx hb hts (by decide +kernel) hown hK hP 0 rfl rfl 0 (by decide) (hts (.fieldLink RX3 26 "WaxTurns$Reade\x72" "tapeSize" "I") (by decide +kernel)) (fun _ h9 => h9) rfl dX3_append_32 ?_
  refine lv_iconst (v := 1) hx hb dX3_append_35 (by decide) ?_
  refine lv_iadd hx hb dX3_append_36 ?_
  refine ax_ti 5 (by decide +kernel) ?_
  refine va_put (D := (dC, dI)) (ci := 3) (v := .int 5) (ty := .int) (C := RX3) (T := TX3) (N := 14) hx hb hts (by decide +kernel) tyX3 tyX3_ok nmX3 hown hK hP hD hS 0 rfl rfl 0 (by decide) (hts (.fieldLink RX3 26 "WaxTurns$Reade\x72" "tapeSize" "I") (by decide +kernel)) (fun _ h9 => h9) rfl (by decide +kernel) rfl rfl (Nat.le_of_ble_eq_true rfl) dX3_append_37 (fun H locs hP hD hS => ?_)
  have hP : va_P (dC, dI) vwCl [(rd, .inr (3, [.int 5, k 1, k 2, .ref tp, k 4, k 5, k 6, k 7, k 8, k 9, k 10, k 11, k 12, k 13])), (tp, .inl (kt, 900, .inl (f_5)))] H := hP
  have hD : va_D A [(rd, .inr (3, [.int 5, k 1, k 2, .ref tp, k 4, k 5, k 6, k 7, k 8, k 9, k 10, k 11, k 12, k 13])), (tp, .inl (kt, 900, .inl (f_5)))] := hD
  refine lv_iinc (v := 16) (lv' := [(2, .int 16), (0, .ref rd), (1, .int n)]) hx hb dX3_append_40 hl (k := 0) rfl (by decide +kernel) (by decide) rfl (fun ls hl => ?_)
  refine lv_goto (tgt := 3) hx hb dX3_append_43 (by decide) ?_
  refine lv_iload_n hx hb dX3_append_3 rfl (lv_at hl 0 rfl) ?_
  refine lv_if_lt (tgt := 46) hx hb dX3_append_4 (by decide) (fun c_6 => absurd c_6 (by decide +kernel)) (fun _ => ?_)
  refine lv_aload_n hx hb dX3_append_7 rfl (lv_at hl 1 rfl) ?_
  refine va_get (D := (dC, dI)) (ci := 3) (v := .int 5) (C := RX3) (T := TX3) (N := 14) hx hb hts (by decide +kernel) hown hK hP 0 rfl rfl 0 (by decide) (hts (.fieldLink RX3 26 "WaxTurns$Reade\x72" "tapeSize" "I") (by decide +kernel)) (fun _ h9 => h9) rfl dX3_append_8 ?_
  refine lv_sipush (v := 900) hx hb dX3_append_11 (by decide) ?_
  refine lv_icmp_ge (tgt := 46) hx hb dX3_append_14 (by decide) (fun c_7 => absurd c_7 (by decide +kernel)) (fun _ => ?_)
  refine lv_aload_n hx hb dX3_append_17 rfl (lv_at hl 1 rfl) ?_
  refine va_get (D := (dC, dI)) (ci := 3) (v := .ref tp) (C := RX3) (T := TX3) (N := 14) hx hb hts (by decide +kernel) hown hK hP 0 rfl rfl 3 (by decide) (hts (.fieldLink RX3 9 "WaxTurns$Reade\x72" "tape" "[B") (by decide +kernel)) (fun _ h9 => h9) rfl dX3_append_18 ?_
  refine lv_aload_n hx hb dX3_append_21 rfl (lv_at hl 1 rfl) ?_
  refine va_get (D := (dC, dI)) (ci := 3) (v := .int 5) (C := RX3) (T := TX3) (N := 14) hx hb hts (by decide +kernel) hown hK hP 0 rfl rfl 0 (by decide) (hts (.fieldLink RX3 26 "WaxTurns$Reade\x72" "tapeSize" "I") (by decide +kernel)) (fun _ h9 => h9) rfl dX3_append_22 ?_
  refine lv_iload_n hx hb dX3_append_25 rfl (lv_at hl 2 rfl) ?_
  refine lv_iload_n hx hb dX3_append_26 rfl (lv_at hl 0 rfl) ?_
  refine lv_ishr hx hb dX3_append_27 ?_
  refine lv_topi (fun x_8 ex_8 => ?_)
  obtain ⟨x_9, ex_9⟩ : ∃ y : Int32, y = (x_8).toInt8.toInt32 := ⟨_, rfl⟩
  refine lv_i2b (v := x_9) hx hb dX3_append_28 ex_9.symm ?_
  refine va_bast hx hb hK hP hD hS 1 0 rfl rfl (by unfold vp_in; decide +kernel) dX3_append_29 (fun H locs hP hD hS => ?_)
  obtain ⟨f_10, hP, hD⟩ : ∃ f_10 : Nat → Int32, va_P (dC, dI) vwCl [(rd, .inr (3, [.int 5, k 1, k 2, .ref tp, k 4, k 5, k 6, k 7, k 8, k 9, k 10, k 11, k 12, k 13])), (tp, .inl (kt, 900, .inl (f_10)))] H ∧ va_D A [(rd, .inr (3, [.int 5, k 1, k 2, .ref tp, k 4, k 5, k 6, k 7, k 8, k 9, k 10, k 11, k 12, k 13])), (tp, .inl (kt, 900, .inl (f_10)))] := ⟨_, hP, hD⟩
  refine lv_aload_n hx hb dX3_append_30 rfl (lv_at hl 1 rfl) ?_
  refine lv_dup hx hb dX3_append_31 rfl ?_
  refine va_get (D := (dC, dI)) (ci := 3) (v := .int 5) (C := RX3) (T := TX3) (N := 14) hx hb hts (by decide +kernel) hown hK hP 0 rfl rfl 0 (by decide) (hts (.fieldLink RX3 26 "WaxTurns$Reade\x72" "tapeSize" "I") (by decide +kernel)) (fun _ h9 => h9) rfl dX3_append_32 ?_
  refine lv_iconst (v := 1) hx hb dX3_append_35 (by decide) ?_
  refine lv_iadd hx hb dX3_append_36 ?_
  refine ax_ti 6 (by decide +kernel) ?_
  refine va_put (D := (dC, dI)) (ci := 3) (v := .int 6) (ty := .int) (C := RX3) (T := TX3) (N := 14) hx hb hts (by decide +kernel) tyX3 tyX3_ok nmX3 hown hK hP hD hS 0 rfl rfl 0 (by decide) (hts (.fieldLink RX3 26 "WaxTurns$Reade\x72" "tapeSize" "I") (by decide +kernel)) (fun _ h9 => h9) rfl (by decide +kernel) rfl rfl (Nat.le_of_ble_eq_true rfl) dX3_append_37 (fun H locs hP hD hS => ?_)
  have hP : va_P (dC, dI) vwCl [(rd, .inr (3, [.int 6, k 1, k 2, .ref tp, k 4, k 5, k 6, k 7, k 8, k 9, k 10, k 11, k 12, k 13])), (tp, .inl (kt, 900, .inl (f_10)))] H := hP
  have hD : va_D A [(rd, .inr (3, [.int 6, k 1, k 2, .ref tp, k 4, k 5, k 6, k 7, k 8, k 9, k 10, k 11, k 12, k 13])), (tp, .inl (kt, 900, .inl (f_10)))] := hD
  refine lv_iinc (v := 8) (lv' := [(2, .int 8), (0, .ref rd), (1, .int n)]) hx hb dX3_append_40 hl (k := 0) rfl (by decide +kernel) (by decide) rfl (fun ls hl => ?_)
  refine lv_goto (tgt := 3) hx hb dX3_append_43 (by decide) ?_
  refine lv_iload_n hx hb dX3_append_3 rfl (lv_at hl 0 rfl) ?_
  refine lv_if_lt (tgt := 46) hx hb dX3_append_4 (by decide) (fun c_11 => absurd c_11 (by decide +kernel)) (fun _ => ?_)
  refine lv_aload_n hx hb dX3_append_7 rfl (lv_at hl 1 rfl) ?_
  refine va_get (D := (dC, dI)) (ci := 3) (v := .int 6) (C := RX3) (T := TX3) (N := 14) hx hb hts (by decide +kernel) hown hK hP 0 rfl rfl 0 (by decide) (hts (.fieldLink RX3 26 "WaxTurns$Reade\x72" "tapeSize" "I") (by decide +kernel)) (fun _ h9 => h9) rfl dX3_append_8 ?_
  refine lv_sipush (v := 900) hx hb dX3_append_11 (by decide) ?_
  refine lv_icmp_ge (tgt := 46) hx hb dX3_append_14 (by decide) (fun c_12 => absurd c_12 (by decide +kernel)) (fun _ => ?_)
  refine lv_aload_n hx hb dX3_append_17 rfl (lv_at hl 1 rfl) ?_
  refine va_get (D := (dC, dI)) (ci := 3) (v := .ref tp) (C := RX3) (T := TX3) (N := 14) hx hb hts (by decide +kernel) hown hK hP 0 rfl rfl 3 (by decide) (hts (.fieldLink RX3 9 "WaxTurns$Reade\x72" "tape" "[B") (by decide +kernel)) (fun _ h9 => h9) rfl dX3_append_18 ?_
  refine lv_aload_n hx hb dX3_append_21 rfl (lv_at hl 1 rfl) ?_
  refine va_get (D := (dC, dI)) (ci := 3) (v := .int 6) (C := RX3) (T := TX3) (N := 14) hx hb hts (by decide +kernel) hown hK hP 0 rfl rfl 0 (by decide) (hts (.fieldLink RX3 26 "WaxTurns$Reade\x72" "tapeSize" "I") (by decide +kernel)) (fun _ h9 => h9) rfl dX3_append_22 ?_
  refine lv_iload_n hx hb dX3_append_25 rfl (lv_at hl 2 rfl) ?_
  refine lv_iload_n hx hb dX3_append_26 rfl (lv_at hl 0 rfl) ?_
  refine lv_ishr hx hb dX3_append_27 ?_
  refine lv_topi (fun x_13 ex_13 => ?_)
  obtain ⟨x_14, ex_14⟩ : ∃ y : Int32, y = (x_13).toInt8.toInt32 := ⟨_, rfl⟩
  refine lv_i2b (v := x_14) hx hb dX3_append_28 ex_14.symm ?_
  refine va_bast hx hb hK hP hD hS 1 0 rfl rfl (by unfold vp_in; decide +kernel) dX3_append_29 (fun H locs hP hD hS => ?_)
  obtain ⟨f_15, hP, hD⟩ : ∃ f_15 : Nat → Int32, va_P (dC, dI) vwCl [(rd, .inr (3, [.int 6, k 1, k 2, .ref tp, k 4, k 5, k 6, k 7, k 8, k 9, k 10, k 11, k 12, k 13])), (tp, .inl (kt, 900, .inl (f_15)))] H ∧ va_D A [(rd, .inr (3, [.int 6, k 1, k 2, .ref tp, k 4, k 5, k 6, k 7, k 8, k 9, k 10, k 11, k 12, k 13])), (tp, .inl (kt, 900, .inl (f_15)))] := ⟨_, hP, hD⟩
  refine lv_aload_n hx hb dX3_append_30 rfl (lv_at hl 1 rfl) ?_
  refine lv_dup hx hb dX3_append_31 rfl ?_
  refine va_get (D := (dC, dI)) (ci := 3) (v := .int 6) (C := RX3) (T := TX3) (N := 14) hx hb hts (by decide +kernel) hown hK hP 0 rfl rfl 0 (by decide) (hts (.fieldLink RX3 26 "WaxTurns$Reade\x72" "tapeSize" "I") (by decide +kernel)) (fun _ h9 => h9) rfl dX3_append_32 ?_
  refine lv_iconst (v := 1) hx hb dX3_append_35 (by decide) ?_
  refine lv_iadd hx hb dX3_append_36 ?_
  refine ax_ti 7 (by decide +kernel) ?_
  refine va_put (D := (dC, dI)) (ci := 3) (v := .int 7) (ty := .int) (C := RX3) (T := TX3) (N := 14) hx hb hts (by decide +kernel) tyX3 tyX3_ok nmX3 hown hK hP hD hS 0 rfl rfl 0 (by decide) (hts (.fieldLink RX3 26 "WaxTurns$Reade\x72" "tapeSize" "I") (by decide +kernel)) (fun _ h9 => h9) rfl (by decide +kernel) rfl rfl (Nat.le_of_ble_eq_true rfl) dX3_append_37 (fun H locs hP hD hS => ?_)
  have hP : va_P (dC, dI) vwCl [(rd, .inr (3, [.int 7, k 1, k 2, .ref tp, k 4, k 5, k 6, k 7, k 8, k 9, k 10, k 11, k 12, k 13])), (tp, .inl (kt, 900, .inl (f_15)))] H := hP
  have hD : va_D A [(rd, .inr (3, [.int 7, k 1, k 2, .ref tp, k 4, k 5, k 6, k 7, k 8, k 9, k 10, k 11, k 12, k 13])), (tp, .inl (kt, 900, .inl (f_15)))] := hD
  refine lv_iinc (v := 0) (lv' := [(2, .int 0), (0, .ref rd), (1, .int n)]) hx hb dX3_append_40 hl (k := 0) rfl (by decide +kernel) (by decide) rfl (fun ls hl => ?_)
  refine lv_goto (tgt := 3) hx hb dX3_append_43 (by decide) ?_
  refine lv_iload_n hx hb dX3_append_3 rfl (lv_at hl 0 rfl) ?_
  refine lv_if_lt (tgt := 46) hx hb dX3_append_4 (by decide) (fun c_16 => absurd c_16 (by decide +kernel)) (fun _ => ?_)
  refine lv_aload_n hx hb dX3_append_7 rfl (lv_at hl 1 rfl) ?_
  refine va_get (D := (dC, dI)) (ci := 3) (v := .int 7) (C := RX3) (T := TX3) (N := 14) hx hb hts (by decide +kernel) hown hK hP 0 rfl rfl 0 (by decide) (hts (.fieldLink RX3 26 "WaxTurns$Reade\x72" "tapeSize" "I") (by decide +kernel)) (fun _ h9 => h9) rfl dX3_append_8 ?_
  refine lv_sipush (v := 900) hx hb dX3_append_11 (by decide) ?_
  refine lv_icmp_ge (tgt := 46) hx hb dX3_append_14 (by decide) (fun c_17 => absurd c_17 (by decide +kernel)) (fun _ => ?_)
  refine lv_aload_n hx hb dX3_append_17 rfl (lv_at hl 1 rfl) ?_
  refine va_get (D := (dC, dI)) (ci := 3) (v := .ref tp) (C := RX3) (T := TX3) (N := 14) hx hb hts (by decide +kernel) hown hK hP 0 rfl rfl 3 (by decide) (hts (.fieldLink RX3 9 "WaxTurns$Reade\x72" "tape" "[B") (by decide +kernel)) (fun _ h9 => h9) rfl dX3_append_18 ?_
  refine lv_aload_n hx hb dX3_append_21 rfl (lv_at hl 1 rfl) ?_
  refine va_get (D := (dC, dI)) (ci := 3) (v := .int 7) (C := RX3) (T := TX3) (N := 14) hx hb hts (by decide +kernel) hown hK hP 0 rfl rfl 0 (by decide) (hts (.fieldLink RX3 26 "WaxTurns$Reade\x72" "tapeSize" "I") (by decide +kernel)) (fun _ h9 => h9) rfl dX3_append_22 ?_
  refine lv_iload_n hx hb dX3_append_25 rfl (lv_at hl 2 rfl) ?_
  refine lv_iload_n hx hb dX3_append_26 rfl (lv_at hl 0 rfl) ?_
  refine lv_ishr hx hb dX3_append_27 ?_
  refine lv_topi (fun x_18 ex_18 => ?_)
  obtain ⟨x_19, ex_19⟩ : ∃ y : Int32, y = (x_18).toInt8.toInt32 := ⟨_, rfl⟩
  refine lv_i2b (v := x_19) hx hb dX3_append_28 ex_19.symm ?_
  refine va_bast hx hb hK hP hD hS 1 0 rfl rfl (by unfold vp_in; decide +kernel) dX3_append_29 (fun H locs hP hD hS => ?_)
  obtain ⟨f_20, hP, hD⟩ : ∃ f_20 : Nat → Int32, va_P (dC, dI) vwCl [(rd, .inr (3, [.int 7, k 1, k 2, .ref tp, k 4, k 5, k 6, k 7, k 8, k 9, k 10, k 11, k 12, k 13])), (tp, .inl (kt, 900, .inl (f_20)))] H ∧ va_D A [(rd, .inr (3, [.int 7, k 1, k 2, .ref tp, k 4, k 5, k 6, k 7, k 8, k 9, k 10, k 11, k 12, k 13])), (tp, .inl (kt, 900, .inl (f_20)))] := ⟨_, hP, hD⟩
  refine lv_aload_n hx hb dX3_append_30 rfl (lv_at hl 1 rfl) ?_
  refine lv_dup hx hb dX3_append_31 rfl ?_
  refine va_get (D := (dC, dI)) (ci := 3) (v := .int 7) (C := RX3) (T := TX3) (N := 14) hx hb hts (by decide +kernel) hown hK hP 0 rfl rfl 0 (by decide) (hts (.fieldLink RX3 26 "WaxTurns$Reade\x72" "tapeSize" "I") (by decide +kernel)) (fun _ h9 => h9) rfl dX3_append_32 ?_
  refine lv_iconst (v := 1) hx hb dX3_append_35 (by decide) ?_
  refine lv_iadd hx hb dX3_append_36 ?_
  refine ax_ti 8 (by decide +kernel) ?_
  refine va_put (D := (dC, dI)) (ci := 3) (v := .int 8) (ty := .int) (C := RX3) (T := TX3) (N := 14) hx hb hts (by decide +kernel) tyX3 tyX3_ok nmX3 hown hK hP hD hS 0 rfl rfl 0 (by decide) (hts (.fieldLink RX3 26 "WaxTurns$Reade\x72" "tapeSize" "I") (by decide +kernel)) (fun _ h9 => h9) rfl (by decide +kernel) rfl rfl (Nat.le_of_ble_eq_true rfl) dX3_append_37 (fun H locs hP hD hS => ?_)
  have hP : va_P (dC, dI) vwCl [(rd, .inr (3, [.int 8, k 1, k 2, .ref tp, k 4, k 5, k 6, k 7, k 8, k 9, k 10, k 11, k 12, k 13])), (tp, .inl (kt, 900, .inl (f_20)))] H := hP
  have hD : va_D A [(rd, .inr (3, [.int 8, k 1, k 2, .ref tp, k 4, k 5, k 6, k 7, k 8, k 9, k 10, k 11, k 12, k 13])), (tp, .inl (kt, 900, .inl (f_20)))] := hD
  refine lv_iinc (v := (-8)) (lv' := [(2, .int (-8)), (0, .ref rd), (1, .int n)]) hx hb dX3_append_40 hl (k := 0) rfl (by decide +kernel) (by decide) rfl (fun ls hl => ?_)
  refine lv_goto (tgt := 3) hx hb dX3_append_43 (by decide) ?_
  refine lv_iload_n hx hb dX3_append_3 rfl (lv_at hl 0 rfl) ?_
  refine lv_if_lt (tgt := 46) hx hb dX3_append_4 (by decide) (fun _ => ?_) (fun c_21 => absurd (by decide +kernel) c_21)
  have hP9 := hP.sub (ws' := [(rd, .inr (3, [.int 8, k 1, k 2, .ref tp, k 4, k 5, k 6, k 7, k 8, k 9, k 10, k 11, k 12, k 13])), (tp, .inl (kt, 900, .inl (f_20)))]) [0, 1] rfl
  have hD9 := hD.sub (ws' := [(rd, .inr (3, [.int 8, k 1, k 2, .ref tp, k 4, k 5, k 6, k 7, k 8, k 9, k 10, k 11, k 12, k 13])), (tp, .inl (kt, 900, .inl (f_20)))]) [0, 1] (by decide) rfl
  have hK9 := hK.sub (tys' := [(kt, .byte)]) [0] rfl
  exact W.vret hx hb hr (fun t ht hW => ⟨⟨(), rfl, trivial, f_20, by rw [ht]; exact hP9, va_K.moved hW.alike hK9, hD9⟩, hS.F ht⟩) hS.2.2 dX3_append_46

set_option maxHeartbeats 4000000 in
set_option maxRecDepth 100000 in
theorem c_X3_append_8 (l : Launch) (dC : Nat → ClassId) (dI : Nat → Nat → Nat) (sz : Nat) (rd : Nat) (n : Int32) (k : Nat → Value) (tp : Nat) (kt : ClassId) (f : Nat → Int32) : Met l yX3_append wsX3_append ({ frames := 0, cells := 0, slots := 0, locals := 0 }) (va_Pc [.ref rd, .int n] (ax_C dC dI sz [(rd, .inr (3, [.int 8, k 1, k 2, .ref tp, k 4, k 5, k 6, k 7, k 8, k 9, k 10, k 11, k 12, k 13])), (tp, .inl (kt, 900, .inl (f)))] [(kt, .byte)] (fun _ => True))) (va_Qv (fun (_ : Unit) => True) (fun (_ : Unit) (t : State) => ∃ (f2 : Nat → Int32), ax_B dC dI (va_A [(rd, .inr (3, [.int 8, k 1, k 2, .ref tp, k 4, k 5, k 6, k 7, k 8, k 9, k 10, k 11, k 12, k 13])), (tp, .inl (kt, 900, .inl (f)))] sz) [(rd, .inr (3, [.int 12, k 1, k 2, .ref tp, k 4, k 5, k 6, k 7, k 8, k 9, k 10, k 11, k 12, k 13])), (tp, .inl (kt, 900, .inl (f2)))] [(kt, .byte)] t) (va_A [(rd, .inr (3, [.int 8, k 1, k 2, .ref tp, k 4, k 5, k 6, k 7, k 8, k 9, k 10, k 11, k 12, k 13])), (tp, .inl (kt, 900, .inl (f)))] sz)) 0 0 (va_A [(rd, .inr (3, [.int 8, k 1, k 2, .ref tp, k 4, k 5, k 6, k 7, k 8, k 9, k 10, k 11, k 12, k 13])), (tp, .inl (kt, 900, .inl (f)))] sz) := by
  refine Met.ofW (cc := cX3_append) (maxL := 3) (ret := none) (by decide) rfl ?_
  intro p e s m args below meth c s₁ B hml hv
  obtain ⟨rfl, hsz, hP, hK, hD0, hE⟩ := hv
  have hx := B.exec
  have hb := B.bytes
  have hr := B.returns
  have hts := atoms_spec (ws := wsX3_append) B.pre
  have hown : s.vm.findClass RX3 = some m.cls := findClass_of_methodNamed B.named
  have hlocks := B.notSynchronized
  subst hsz
  have hD := hD0.self (sz := s.heap.size)
  generalize hAe : va_A [(rd, .inr (3, [.int 8, k 1, k 2, .ref tp, k 4, k 5, k 6, k 7, k 8, k 9, k 10, k 11, k 12, k 13])), (tp, .inl (kt, 900, .inl (f)))] s.heap.size = A at hD ⊢
  have hA : ∀ q : Nat, s.heap.size ≤ q → A q := fun q h => by rw [← hAe]; exact Or.inr h
  have hS : va_S A s.heap s.heap [] := va_S.rf
  have hP : va_P (dC, dI) vwCl [(rd, .inr (3, [.int 8, k 1, k 2, .ref tp, k 4, k 5, k 6, k 7, k 8, k 9, k 10, k 11, k 12, k 13])), (tp, .inl (kt, 900, .inl (f)))] s.heap := hP
  have hl := lv_entry ([.ref rd, .int n]) (n := 3) (Nat.le_of_ble_eq_true rfl)
  rw [lg_entry_eq]
  generalize (lg_sl ([.ref rd, .int n]) ++ List.replicate (3 - (lg_sl ([.ref rd, .int n])).length) Slot.unset).toArray = ls at hl ⊢
  have hl : lv_has ls 3 [(0, .ref rd), (1, .int n)] := hl
  refine lv_bipush (v := 24) hx hb dX3_append_0 (by decide) ?_
  refine lv_istore_n (lv' := [(2, .int 24), (0, .ref rd), (1, .int n)]) hx hb dX3_append_2 rfl hl (by decide) rfl (fun ls hl => ?_)
  refine lv_iload_n hx hb dX3_append_3 rfl (lv_at hl 0 rfl) ?_
  refine lv_if_lt (tgt := 46) hx hb dX3_append_4 (by decide) (fun c_1 => absurd c_1 (by decide +kernel)) (fun _ => ?_)
  refine lv_aload_n hx hb dX3_append_7 rfl (lv_at hl 1 rfl) ?_
  refine va_get (D := (dC, dI)) (ci := 3) (v := .int 8) (C := RX3) (T := TX3) (N := 14) hx hb hts (by decide +kernel) hown hK hP 0 rfl rfl 0 (by decide) (hts (.fieldLink RX3 26 "WaxTurns$Reade\x72" "tapeSize" "I") (by decide +kernel)) (fun _ h9 => h9) rfl dX3_append_8 ?_
  refine lv_sipush (v := 900) hx hb dX3_append_11 (by decide) ?_
  refine lv_icmp_ge (tgt := 46) hx hb dX3_append_14 (by decide) (fun c_2 => absurd c_2 (by decide +kernel)) (fun _ => ?_)
  refine lv_aload_n hx hb dX3_append_17 rfl (lv_at hl 1 rfl) ?_
  refine va_get (D := (dC, dI)) (ci := 3) (v := .ref tp) (C := RX3) (T := TX3) (N := 14) hx hb hts (by decide +kernel) hown hK hP 0 rfl rfl 3 (by decide) (hts (.fieldLink RX3 9 "WaxTurns$Reade\x72" "tape" "[B") (by decide +kernel)) (fun _ h9 => h9) rfl dX3_append_18 ?_
  refine lv_aload_n hx hb dX3_append_21 rfl (lv_at hl 1 rfl) ?_
  refine va_get (D := (dC, dI)) (ci := 3) (v := .int 8) (C := RX3) (T := TX3) (N := 14) hx hb hts (by decide +kernel) hown hK hP 0 rfl rfl 0 (by decide) (hts (.fieldLink RX3 26 "WaxTurns$Reade\x72" "tapeSize" "I") (by decide +kernel)) (fun _ h9 => h9) rfl dX3_append_22 ?_
  refine lv_iload_n hx hb dX3_append_25 rfl (lv_at hl 2 rfl) ?_
  refine lv_iload_n hx hb dX3_append_26 rfl (lv_at hl 0 rfl) ?_
  refine lv_ishr hx hb dX3_append_27 ?_
  refine lv_topi (fun x_3 ex_3 => ?_)
  obtain ⟨x_4, ex_4⟩ : ∃ y : Int32, y = (x_3).toInt8.toInt32 := ⟨_, rfl⟩
  refine lv_i2b (v := x_4) hx hb dX3_append_28 ex_4.symm ?_
  refine va_bast hx hb hK hP hD hS 1 0 rfl rfl (by unfold vp_in; decide +kernel) dX3_append_29 (fun H locs hP hD hS => ?_)
  obtain ⟨f_5, hP, hD⟩ : ∃ f_5 : Nat → Int32, va_P (dC, dI) vwCl [(rd, .inr (3, [.int 8, k 1, k 2, .ref tp, k 4, k 5, k 6, k 7, k 8, k 9, k 10, k 11, k 12, k 13])), (tp, .inl (kt, 900, .inl (f_5)))] H ∧ va_D A [(rd, .inr (3, [.int 8, k 1, k 2, .ref tp, k 4, k 5, k 6, k 7, k 8, k 9, k 10, k 11, k 12, k 13])), (tp, .inl (kt, 900, .inl (f_5)))] := ⟨_, hP, hD⟩
  refine lv_aload_n hx hb dX3_append_30 rfl (lv_at hl 1 rfl) ?_
  refine lv_dup hx hb dX3_append_31 rfl ?_
  refine va_get (D := (dC, dI)) (ci := 3) (v := .int 8) (C := RX3) (T := TX3) (N := 14) hx hb hts (by decide +kernel) hown hK hP 0 rfl rfl 0 (by decide) (hts (.fieldLink RX3 26 "WaxTurns$Reade\x72" "tapeSize" "I") (by decide +kernel)) (fun _ h9 => h9) rfl dX3_append_32 ?_
  refine lv_iconst (v := 1) hx hb dX3_append_35 (by decide) ?_
  refine lv_iadd hx hb dX3_append_36 ?_
  refine ax_ti 9 (by decide +kernel) ?_
  refine va_put (D := (dC, dI)) (ci := 3) (v := .int 9) (ty := .int) (C := RX3) (T := TX3) (N := 14) hx hb hts (by decide +kernel) tyX3 tyX3_ok nmX3 hown hK hP hD hS 0 rfl rfl 0 (by decide) (hts (.fieldLink RX3 26 "WaxTurns$Reade\x72" "tapeSize" "I") (by decide +kernel)) (fun _ h9 => h9) rfl (by decide +kernel) rfl rfl (Nat.le_of_ble_eq_true rfl) dX3_append_37 (fun H locs hP hD hS => ?_)
  have hP : va_P (dC, dI) vwCl [(rd, .inr (3, [.int 9, k 1, k 2, .ref tp, k 4, k 5, k 6, k 7, k 8, k 9, k 10, k 11, k 12, k 13])), (tp, .inl (kt, 900, .inl (f_5)))] H := hP
  have hD : va_D A [(rd, .inr (3, [.int 9, k 1, k 2, .ref tp, k 4, k 5, k 6, k 7, k 8, k 9, k 10, k 11, k 12, k 13])), (tp, .inl (kt, 900, .inl (f_5)))] := hD
  refine lv_iinc (v := 16) (lv' := [(2, .int 16), (0, .ref rd), (1, .int n)]) hx hb dX3_append_40 hl (k := 0) rfl (by decide +kernel) (by decide) rfl (fun ls hl => ?_)
  refine lv_goto (tgt := 3) hx hb dX3_append_43 (by decide) ?_
  refine lv_iload_n hx hb dX3_append_3 rfl (lv_at hl 0 rfl) ?_
  refine lv_if_lt (tgt := 46) hx hb dX3_append_4 (by decide) (fun c_6 => absurd c_6 (by decide +kernel)) (fun _ => ?_)
  refine lv_aload_n hx hb dX3_append_7 rfl (lv_at hl 1 rfl) ?_
  refine va_get (D := (dC, dI)) (ci := 3) (v := .int 9) (C := RX3) (T := TX3) (N := 14) hx hb hts (by decide +kernel) hown hK hP 0 rfl rfl 0 (by decide) (hts (.fieldLink RX3 26 "WaxTurns$Reade\x72" "tapeSize" "I") (by decide +kernel)) (fun _ h9 => h9) rfl dX3_append_8 ?_
  refine lv_sipush (v := 900) hx hb dX3_append_11 (by decide) ?_
  refine lv_icmp_ge (tgt := 46) hx hb dX3_append_14 (by decide) (fun c_7 => absurd c_7 (by decide +kernel)) (fun _ => ?_)
  refine lv_aload_n hx hb dX3_append_17 rfl (lv_at hl 1 rfl) ?_
  refine va_get (D := (dC, dI)) (ci := 3) (v := .ref tp) (C := RX3) (T := TX3) (N := 14) hx hb hts (by decide +kernel) hown hK hP 0 rfl rfl 3 (by decide) (hts (.fieldLink RX3 9 "WaxTurns$Reade\x72" "tape" "[B") (by decide +kernel)) (fun _ h9 => h9) rfl dX3_append_18 ?_
  refine lv_aload_n hx hb dX3_append_21 rfl (lv_at hl 1 rfl) ?_
  refine va_get (D := (dC, dI)) (ci := 3) (v := .int 9) (C := RX3) (T := TX3) (N := 14) hx hb hts (by decide +kernel) hown hK hP 0 rfl rfl 0 (by decide) (hts (.fieldLink RX3 26 "WaxTurns$Reade\x72" "tapeSize" "I") (by decide +kernel)) (fun _ h9 => h9) rfl dX3_append_22 ?_
  refine lv_iload_n hx hb dX3_append_25 rfl (lv_at hl 2 rfl) ?_
  refine lv_iload_n hx hb dX3_append_26 rfl (lv_at hl 0 rfl) ?_
  refine lv_ishr hx hb dX3_append_27 ?_
  refine lv_topi (fun x_8 ex_8 => ?_)
  obtain ⟨x_9, ex_9⟩ : ∃ y : Int32, y = (x_8).toInt8.toInt32 := ⟨_, rfl⟩
  refine lv_i2b (v := x_9) hx hb dX3_append_28 ex_9.symm ?_
  refine va_bast hx hb hK hP hD hS 1 0 rfl rfl (by unfold vp_in; decide +kernel) dX3_append_29 (fun H locs hP hD hS => ?_)
  obtain ⟨f_10, hP, hD⟩ : ∃ f_10 : Nat → Int32, va_P (dC, dI) vwCl [(rd, .inr (3, [.int 9, k 1, k 2, .ref tp, k 4, k 5, k 6, k 7, k 8, k 9, k 10, k 11, k 12, k 13])), (tp, .inl (kt, 900, .inl (f_10)))] H ∧ va_D A [(rd, .inr (3, [.int 9, k 1, k 2, .ref tp, k 4, k 5, k 6, k 7, k 8, k 9, k 10, k 11, k 12, k 13])), (tp, .inl (kt, 900, .inl (f_10)))] := ⟨_, hP, hD⟩
  refine lv_aload_n hx hb dX3_append_30 rfl (lv_at hl 1 rfl) ?_
  refine lv_dup hx hb dX3_append_31 rfl ?_
  refine va_get (D := (dC, dI)) (ci := 3) (v := .int 9) (C := RX3) (T := TX3) (N := 14) hx hb hts (by decide +kernel) hown hK hP 0 rfl rfl 0 (by decide) (hts (.fieldLink RX3 26 "WaxTurns$Reade\x72" "tapeSize" "I") (by decide +kernel)) (fun _ h9 => h9) rfl dX3_append_32 ?_
  refine lv_iconst (v := 1) hx hb dX3_append_35 (by decide) ?_
  refine lv_iadd hx hb dX3_append_36 ?_
  refine ax_ti 10 (by decide +kernel) ?_
  refine va_put (D := (dC, dI)) (ci := 3) (v := .int 10) (ty := .int) (C := RX3) (T := TX3) (N := 14) hx hb hts (by decide +kernel) tyX3 tyX3_ok nmX3 hown hK hP hD hS 0 rfl rfl 0 (by decide) (hts (.fieldLink RX3 26 "WaxTurns$Reade\x72" "tapeSize" "I") (by decide +kernel)) (fun _ h9 => h9) rfl (by decide +kernel) rfl rfl (Nat.le_of_ble_eq_true rfl) dX3_append_37 (fun H locs hP hD hS => ?_)
  have hP : va_P (dC, dI) vwCl [(rd, .inr (3, [.int 10, k 1, k 2, .ref tp, k 4, k 5, k 6, k 7, k 8, k 9, k 10, k 11, k 12, k 13])), (tp, .inl (kt, 900, .inl (f_10)))] H := hP
  have hD : va_D A [(rd, .inr (3, [.int 10, k 1, k 2, .ref tp, k 4, k 5, k 6, k 7, k 8, k 9, k 10, k 11, k 12, k 13])), (tp, .inl (kt, 900, .inl (f_10)))] := hD
  refine lv_iinc (v := 8) (lv' := [(2, .int 8), (0, .ref rd), (1, .int n)]) hx hb dX3_append_40 hl (k := 0) rfl (by decide +kernel) (by decide) rfl (fun ls hl => ?_)
  refine lv_goto (tgt := 3) hx hb dX3_append_43 (by decide) ?_
  refine lv_iload_n hx hb dX3_append_3 rfl (lv_at hl 0 rfl) ?_
  refine lv_if_lt (tgt := 46) hx hb dX3_append_4 (by decide) (fun c_11 => absurd c_11 (by decide +kernel)) (fun _ => ?_)
  refine lv_aload_n hx hb dX3_append_7 rfl (lv_at hl 1 rfl) ?_
  refine va_get (D := (dC, dI)) (ci := 3) (v := .int 10) (C := RX3) (T := TX3) (N := 14) hx hb hts (by decide +kernel) hown hK hP 0 rfl rfl 0 (by decide) (hts (.fieldLink RX3 26 "WaxTurns$Reade\x72" "tapeSize" "I") (by decide +kernel)) (fun _ h9 => h9) rfl dX3_append_8 ?_
  refine lv_sipush (v := 900) hx hb dX3_append_11 (by decide) ?_
  refine lv_icmp_ge (tgt := 46) hx hb dX3_append_14 (by decide) (fun c_12 => absurd c_12 (by decide +kernel)) (fun _ => ?_)
  refine lv_aload_n hx hb dX3_append_17 rfl (lv_at hl 1 rfl) ?_
  refine va_get (D := (dC, dI)) (ci := 3) (v := .ref tp) (C := RX3) (T := TX3) (N := 14) hx hb hts (by decide +kernel) hown hK hP 0 rfl rfl 3 (by decide) (hts (.fieldLink RX3 9 "WaxTurns$Reade\x72" "tape" "[B") (by decide +kernel)) (fun _ h9 => h9) rfl dX3_append_18 ?_
  refine lv_aload_n hx hb dX3_append_21 rfl (lv_at hl 1 rfl) ?_
  refine va_get (D := (dC, dI)) (ci := 3) (v := .int 10) (C := RX3) (T := TX3) (N := 14) hx hb hts (by decide +kernel) hown hK hP 0 rfl rfl 0 (by decide) (hts (.fieldLink RX3 26 "WaxTurns$Reade\x72" "tapeSize" "I") (by decide +kernel)) (fun _ h9 => h9) rfl dX3_append_22 ?_
  refine lv_iload_n hx hb dX3_append_25 rfl (lv_at hl 2 rfl) ?_
  refine lv_iload_n hx hb dX3_append_26 rfl (lv_at hl 0 rfl) ?_
  refine lv_ishr hx hb dX3_append_27 ?_
  refine lv_topi (fun x_13 ex_13 => ?_)
  obtain ⟨x_14, ex_14⟩ : ∃ y : Int32, y = (x_13).toInt8.toInt32 := ⟨_, rfl⟩
  refine lv_i2b (v := x_14) hx hb dX3_append_28 ex_14.symm ?_
  refine va_bast hx hb hK hP hD hS 1 0 rfl rfl (by unfold vp_in; decide +kernel) dX3_append_29 (fun H locs hP hD hS => ?_)
  obtain ⟨f_15, hP, hD⟩ : ∃ f_15 : Nat → Int32, va_P (dC, dI) vwCl [(rd, .inr (3, [.int 10, k 1, k 2, .ref tp, k 4, k 5, k 6, k 7, k 8, k 9, k 10, k 11, k 12, k 13])), (tp, .inl (kt, 900, .inl (f_15)))] H ∧ va_D A [(rd, .inr (3, [.int 10, k 1, k 2, .ref tp, k 4, k 5, k 6, k 7, k 8, k 9, k 10, k 11, k 12, k 13])), (tp, .inl (kt, 900, .inl (f_15)))] := ⟨_, hP, hD⟩
  refine lv_aload_n hx hb dX3_append_30 rfl (lv_at hl 1 rfl) ?_
  refine lv_dup hx hb dX3_append_31 rfl ?_
  refine va_get (D := (dC, dI)) (ci := 3) (v := .int 10) (C := RX3) (T := TX3) (N := 14) hx hb hts (by decide +kernel) hown hK hP 0 rfl rfl 0 (by decide) (hts (.fieldLink RX3 26 "WaxTurns$Reade\x72" "tapeSize" "I") (by decide +kernel)) (fun _ h9 => h9) rfl dX3_append_32 ?_
  refine lv_iconst (v := 1) hx hb dX3_append_35 (by decide) ?_
  refine lv_iadd hx hb dX3_append_36 ?_
  refine ax_ti 11 (by decide +kernel) ?_
  refine va_put (D := (dC, dI)) (ci := 3) (v := .int 11) (ty := .int) (C := RX3) (T := TX3) (N := 14) hx hb hts (by decide +kernel) tyX3 tyX3_ok nmX3 hown hK hP hD hS 0 rfl rfl 0 (by decide) (hts (.fieldLink RX3 26 "WaxTurns$Reade\x72" "tapeSize" "I") (by decide +kernel)) (fun _ h9 => h9) rfl (by decide +kernel) rfl rfl (Nat.le_of_ble_eq_true rfl) dX3_append_37 (fun H locs hP hD hS => ?_)
  have hP : va_P (dC, dI) vwCl [(rd, .inr (3, [.int 11, k 1, k 2, .ref tp, k 4, k 5, k 6, k 7, k 8, k 9, k 10, k 11, k 12, k 13])), (tp, .inl (kt, 900, .inl (f_15)))] H := hP
  have hD : va_D A [(rd, .inr (3, [.int 11, k 1, k 2, .ref tp, k 4, k 5, k 6, k 7, k 8, k 9, k 10, k 11, k 12, k 13])), (tp, .inl (kt, 900, .inl (f_15)))] := hD
  refine lv_iinc (v := 0) (lv' := [(2, .int 0), (0, .ref rd), (1, .int n)]) hx hb dX3_append_40 hl (k := 0) rfl (by decide +kernel) (by decide) rfl (fun ls hl => ?_)
  refine lv_goto (tgt := 3) hx hb dX3_append_43 (by decide) ?_
  refine lv_iload_n hx hb dX3_append_3 rfl (lv_at hl 0 rfl) ?_
  refine lv_if_lt (tgt := 46) hx hb dX3_append_4 (by decide) (fun c_16 => absurd c_16 (by decide +kernel)) (fun _ => ?_)
  refine lv_aload_n hx hb dX3_append_7 rfl (lv_at hl 1 rfl) ?_
  refine va_get (D := (dC, dI)) (ci := 3) (v := .int 11) (C := RX3) (T := TX3) (N := 14) hx hb hts (by decide +kernel) hown hK hP 0 rfl rfl 0 (by decide) (hts (.fieldLink RX3 26 "WaxTurns$Reade\x72" "tapeSize" "I") (by decide +kernel)) (fun _ h9 => h9) rfl dX3_append_8 ?_
  refine lv_sipush (v := 900) hx hb dX3_append_11 (by decide) ?_
  refine lv_icmp_ge (tgt := 46) hx hb dX3_append_14 (by decide) (fun c_17 => absurd c_17 (by decide +kernel)) (fun _ => ?_)
  refine lv_aload_n hx hb dX3_append_17 rfl (lv_at hl 1 rfl) ?_
  refine va_get (D := (dC, dI)) (ci := 3) (v := .ref tp) (C := RX3) (T := TX3) (N := 14) hx hb hts (by decide +kernel) hown hK hP 0 rfl rfl 3 (by decide) (hts (.fieldLink RX3 9 "WaxTurns$Reade\x72" "tape" "[B") (by decide +kernel)) (fun _ h9 => h9) rfl dX3_append_18 ?_
  refine lv_aload_n hx hb dX3_append_21 rfl (lv_at hl 1 rfl) ?_
  refine va_get (D := (dC, dI)) (ci := 3) (v := .int 11) (C := RX3) (T := TX3) (N := 14) hx hb hts (by decide +kernel) hown hK hP 0 rfl rfl 0 (by decide) (hts (.fieldLink RX3 26 "WaxTurns$Reade\x72" "tapeSize" "I") (by decide +kernel)) (fun _ h9 => h9) rfl dX3_append_22 ?_
  refine lv_iload_n hx hb dX3_append_25 rfl (lv_at hl 2 rfl) ?_
  refine lv_iload_n hx hb dX3_append_26 rfl (lv_at hl 0 rfl) ?_
  refine lv_ishr hx hb dX3_append_27 ?_
  refine lv_topi (fun x_18 ex_18 => ?_)
  obtain ⟨x_19, ex_19⟩ : ∃ y : Int32, y = (x_18).toInt8.toInt32 := ⟨_, rfl⟩
  refine lv_i2b (v := x_19) hx hb dX3_append_28 ex_19.symm ?_
  refine va_bast hx hb hK hP hD hS 1 0 rfl rfl (by unfold vp_in; decide +kernel) dX3_append_29 (fun H locs hP hD hS => ?_)
  obtain ⟨f_20, hP, hD⟩ : ∃ f_20 : Nat → Int32, va_P (dC, dI) vwCl [(rd, .inr (3, [.int 11, k 1, k 2, .ref tp, k 4, k 5, k 6, k 7, k 8, k 9, k 10, k 11, k 12, k 13])), (tp, .inl (kt, 900, .inl (f_20)))] H ∧ va_D A [(rd, .inr (3, [.int 11, k 1, k 2, .ref tp, k 4, k 5, k 6, k 7, k 8, k 9, k 10, k 11, k 12, k 13])), (tp, .inl (kt, 900, .inl (f_20)))] := ⟨_, hP, hD⟩
  refine lv_aload_n hx hb dX3_append_30 rfl (lv_at hl 1 rfl) ?_
  refine lv_dup hx hb dX3_append_31 rfl ?_
  refine va_get (D := (dC, dI)) (ci := 3) (v := .int 11) (C := RX3) (T := TX3) (N := 14) hx hb hts (by decide +kernel) hown hK hP 0 rfl rfl 0 (by decide) (hts (.fieldLink RX3 26 "WaxTurns$Reade\x72" "tapeSize" "I") (by decide +kernel)) (fun _ h9 => h9) rfl dX3_append_32 ?_
  refine lv_iconst (v := 1) hx hb dX3_append_35 (by decide) ?_
  refine lv_iadd hx hb dX3_append_36 ?_
  refine ax_ti 12 (by decide +kernel) ?_
  refine va_put (D := (dC, dI)) (ci := 3) (v := .int 12) (ty := .int) (C := RX3) (T := TX3) (N := 14) hx hb hts (by decide +kernel) tyX3 tyX3_ok nmX3 hown hK hP hD hS 0 rfl rfl 0 (by decide) (hts (.fieldLink RX3 26 "WaxTurns$Reade\x72" "tapeSize" "I") (by decide +kernel)) (fun _ h9 => h9) rfl (by decide +kernel) rfl rfl (Nat.le_of_ble_eq_true rfl) dX3_append_37 (fun H locs hP hD hS => ?_)
  have hP : va_P (dC, dI) vwCl [(rd, .inr (3, [.int 12, k 1, k 2, .ref tp, k 4, k 5, k 6, k 7, k 8, k 9, k 10, k 11, k 12, k 13])), (tp, .inl (kt, 900, .inl (f_20)))] H := hP
  have hD : va_D A [(rd, .inr (3, [.int 12, k 1, k 2, .ref tp, k 4, k 5, k 6, k 7, k 8, k 9, k 10, k 11, k 12, k 13])), (tp, .inl (kt, 900, .inl (f_20)))] := hD
  refine lv_iinc (v := (-8)) (lv' := [(2, .int (-8)), (0, .ref rd), (1, .int n)]) hx hb dX3_append_40 hl (k := 0) rfl (by decide +kernel) (by decide) rfl (fun ls hl => ?_)
  refine lv_goto (tgt := 3) hx hb dX3_append_43 (by decide) ?_
  refine lv_iload_n hx hb dX3_append_3 rfl (lv_at hl 0 rfl) ?_
  refine lv_if_lt (tgt := 46) hx hb dX3_append_4 (by decide) (fun _ => ?_) (fun c_21 => absurd (by decide +kernel) c_21)
  have hP9 := hP.sub (ws' := [(rd, .inr (3, [.int 12, k 1, k 2, .ref tp, k 4, k 5, k 6, k 7, k 8, k 9, k 10, k 11, k 12, k 13])), (tp, .inl (kt, 900, .inl (f_20)))]) [0, 1] rfl
  have hD9 := hD.sub (ws' := [(rd, .inr (3, [.int 12, k 1, k 2, .ref tp, k 4, k 5, k 6, k 7, k 8, k 9, k 10, k 11, k 12, k 13])), (tp, .inl (kt, 900, .inl (f_20)))]) [0, 1] (by decide) rfl
  have hK9 := hK.sub (tys' := [(kt, .byte)]) [0] rfl
  exact W.vret hx hb hr (fun t ht hW => ⟨⟨(), rfl, trivial, f_20, by rw [ht]; exact hP9, va_K.moved hW.alike hK9, hD9⟩, hS.F ht⟩) hS.2.2 dX3_append_46

set_option maxHeartbeats 4000000 in
set_option maxRecDepth 100000 in
theorem c_X3_append_12 (l : Launch) (dC : Nat → ClassId) (dI : Nat → Nat → Nat) (sz : Nat) (rd : Nat) (n : Int32) (k : Nat → Value) (tp : Nat) (kt : ClassId) (f : Nat → Int32) : Met l yX3_append wsX3_append ({ frames := 0, cells := 0, slots := 0, locals := 0 }) (va_Pc [.ref rd, .int n] (ax_C dC dI sz [(rd, .inr (3, [.int 12, k 1, k 2, .ref tp, k 4, k 5, k 6, k 7, k 8, k 9, k 10, k 11, k 12, k 13])), (tp, .inl (kt, 900, .inl (f)))] [(kt, .byte)] (fun _ => True))) (va_Qv (fun (_ : Unit) => True) (fun (_ : Unit) (t : State) => ∃ (f2 : Nat → Int32), ax_B dC dI (va_A [(rd, .inr (3, [.int 12, k 1, k 2, .ref tp, k 4, k 5, k 6, k 7, k 8, k 9, k 10, k 11, k 12, k 13])), (tp, .inl (kt, 900, .inl (f)))] sz) [(rd, .inr (3, [.int 16, k 1, k 2, .ref tp, k 4, k 5, k 6, k 7, k 8, k 9, k 10, k 11, k 12, k 13])), (tp, .inl (kt, 900, .inl (f2)))] [(kt, .byte)] t) (va_A [(rd, .inr (3, [.int 12, k 1, k 2, .ref tp, k 4, k 5, k 6, k 7, k 8, k 9, k 10, k 11, k 12, k 13])), (tp, .inl (kt, 900, .inl (f)))] sz)) 0 0 (va_A [(rd, .inr (3, [.int 12, k 1, k 2, .ref tp, k 4, k 5, k 6, k 7, k 8, k 9, k 10, k 11, k 12, k 13])), (tp, .inl (kt, 900, .inl (f)))] sz) := by
  refine Met.ofW (cc := cX3_append) (maxL := 3) (ret := none) (by decide) rfl ?_
  intro p e s m args below meth c s₁ B hml hv
  obtain ⟨rfl, hsz, hP, hK, hD0, hE⟩ := hv
  have hx := B.exec
  have hb := B.bytes
  have hr := B.returns
  have hts := atoms_spec (ws := wsX3_append) B.pre
  have hown : s.vm.findClass RX3 = some m.cls := findClass_of_methodNamed B.named
  have hlocks := B.notSynchronized
  subst hsz
  have hD := hD0.self (sz := s.heap.size)
  generalize hAe : va_A [(rd, .inr (3, [.int 12, k 1, k 2, .ref tp, k 4, k 5, k 6, k 7, k 8, k 9, k 10, k 11, k 12, k 13])), (tp, .inl (kt, 900, .inl (f)))] s.heap.size = A at hD ⊢
  have hA : ∀ q : Nat, s.heap.size ≤ q → A q := fun q h => by rw [← hAe]; exact Or.inr h
  have hS : va_S A s.heap s.heap [] := va_S.rf
  have hP : va_P (dC, dI) vwCl [(rd, .inr (3, [.int 12, k 1, k 2, .ref tp, k 4, k 5, k 6, k 7, k 8, k 9, k 10, k 11, k 12, k 13])), (tp, .inl (kt, 900, .inl (f)))] s.heap := hP
  have hl := lv_entry ([.ref rd, .int n]) (n := 3) (Nat.le_of_ble_eq_true rfl)
  rw [lg_entry_eq]
  generalize (lg_sl ([.ref rd, .int n]) ++ List.replicate (3 - (lg_sl ([.ref rd, .int n])).length) Slot.unset).toArray = ls at hl ⊢
  have hl : lv_has ls 3 [(0, .ref rd), (1, .int n)] := hl
  refine lv_bipush (v := 24) hx hb dX3_append_0 (by decide) ?_
  refine lv_istore_n (lv' := [(2, .int 24), (0, .ref rd), (1, .int n)]) hx hb dX3_append_2 rfl hl (by decide) rfl (fun ls hl => ?_)
  refine lv_iload_n hx hb dX3_append_3 rfl (lv_at hl 0 rfl) ?_
  refine lv_if_lt (tgt := 46) hx hb dX3_append_4 (by decide) (fun c_1 => absurd c_1 (by decide +kernel)) (fun _ => ?_)
  refine lv_aload_n hx hb dX3_append_7 rfl (lv_at hl 1 rfl) ?_
  refine va_get (D := (dC, dI)) (ci := 3) (v := .int 12) (C := RX3) (T := TX3) (N := 14) hx hb hts (by decide +kernel) hown hK hP 0 rfl rfl 0 (by decide) (hts (.fieldLink RX3 26 "WaxTurns$Reade\x72" "tapeSize" "I") (by decide +kernel)) (fun _ h9 => h9) rfl dX3_append_8 ?_
  refine lv_sipush (v := 900) hx hb dX3_append_11 (by decide) ?_
  refine lv_icmp_ge (tgt := 46) hx hb dX3_append_14 (by decide) (fun c_2 => absurd c_2 (by decide +kernel)) (fun _ => ?_)
  refine lv_aload_n hx hb dX3_append_17 rfl (lv_at hl 1 rfl) ?_
  refine va_get (D := (dC, dI)) (ci := 3) (v := .ref tp) (C := RX3) (T := TX3) (N := 14) hx hb hts (by decide +kernel) hown hK hP 0 rfl rfl 3 (by decide) (hts (.fieldLink RX3 9 "WaxTurns$Reade\x72" "tape" "[B") (by decide +kernel)) (fun _ h9 => h9) rfl dX3_append_18 ?_
  refine lv_aload_n hx hb dX3_append_21 rfl (lv_at hl 1 rfl) ?_
  refine va_get (D := (dC, dI)) (ci := 3) (v := .int 12) (C := RX3) (T := TX3) (N := 14) hx hb hts (by decide +kernel) hown hK hP 0 rfl rfl 0 (by decide) (hts (.fieldLink RX3 26 "WaxTurns$Reade\x72" "tapeSize" "I") (by decide +kernel)) (fun _ h9 => h9) rfl dX3_append_22 ?_
  refine lv_iload_n hx hb dX3_append_25 rfl (lv_at hl 2 rfl) ?_
  refine lv_iload_n hx hb dX3_append_26 rfl (lv_at hl 0 rfl) ?_
  refine lv_ishr hx hb dX3_append_27 ?_
  refine lv_topi (fun x_3 ex_3 => ?_)
  obtain ⟨x_4, ex_4⟩ : ∃ y : Int32, y = (x_3).toInt8.toInt32 := ⟨_, rfl⟩
  refine lv_i2b (v := x_4) hx hb dX3_append_28 ex_4.symm ?_
  refine va_bast hx hb hK hP hD hS 1 0 rfl rfl (by unfold vp_in; decide +kernel) dX3_append_29 (fun H locs hP hD hS => ?_)
  obtain ⟨f_5, hP, hD⟩ : ∃ f_5 : Nat → Int32, va_P (dC, dI) vwCl [(rd, .inr (3, [.int 12, k 1, k 2, .ref tp, k 4, k 5, k 6, k 7, k 8, k 9, k 10, k 11, k 12, k 13])), (tp, .inl (kt, 900, .inl (f_5)))] H ∧ va_D A [(rd, .inr (3, [.int 12, k 1, k 2, .ref tp, k 4, k 5, k 6, k 7, k 8, k 9, k 10, k 11, k 12, k 13])), (tp, .inl (kt, 900, .inl (f_5)))] := ⟨_, hP, hD⟩
  refine lv_aload_n hx hb dX3_append_30 rfl (lv_at hl 1 rfl) ?_
  refine lv_dup hx hb dX3_append_31 rfl ?_
  refine va_get (D := (dC, dI)) (ci := 3) (v := .int 12) (C := RX3) (T := TX3) (N := 14) hx hb hts (by decide +kernel) hown hK hP 0 rfl rfl 0 (by decide) (hts (.fieldLink RX3 26 "WaxTurns$Reade\x72" "tapeSize" "I") (by decide +kernel)) (fun _ h9 => h9) rfl dX3_append_32 ?_
  refine lv_iconst (v := 1) hx hb dX3_append_35 (by decide) ?_
  refine lv_iadd hx hb dX3_append_36 ?_
  refine ax_ti 13 (by decide +kernel) ?_
  refine va_put (D := (dC, dI)) (ci := 3) (v := .int 13) (ty := .int) (C := RX3) (T := TX3) (N := 14) hx hb hts (by decide +kernel) tyX3 tyX3_ok nmX3 hown hK hP hD hS 0 rfl rfl 0 (by decide) (hts (.fieldLink RX3 26 "WaxTurns$Reade\x72" "tapeSize" "I") (by decide +kernel)) (fun _ h9 => h9) rfl (by decide +kernel) rfl rfl (Nat.le_of_ble_eq_true rfl) dX3_append_37 (fun H locs hP hD hS => ?_)
  have hP : va_P (dC, dI) vwCl [(rd, .inr (3, [.int 13, k 1, k 2, .ref tp, k 4, k 5, k 6, k 7, k 8, k 9, k 10, k 11, k 12, k 13])), (tp, .inl (kt, 900, .inl (f_5)))] H := hP
  have hD : va_D A [(rd, .inr (3, [.int 13, k 1, k 2, .ref tp, k 4, k 5, k 6, k 7, k 8, k 9, k 10, k 11, k 12, k 13])), (tp, .inl (kt, 900, .inl (f_5)))] := hD
  refine lv_iinc (v := 16) (lv' := [(2, .int 16), (0, .ref rd), (1, .int n)]) hx hb dX3_append_40 hl (k := 0) rfl (by decide +kernel) (by decide) rfl (fun ls hl => ?_)
  refine lv_goto (tgt := 3) hx hb dX3_append_43 (by decide) ?_
  refine lv_iload_n hx hb dX3_append_3 rfl (lv_at hl 0 rfl) ?_
  refine lv_if_lt (tgt := 46) hx hb dX3_append_4 (by decide) (fun c_6 => absurd c_6 (by decide +kernel)) (fun _ => ?_)
  refine lv_aload_n hx hb dX3_append_7 rfl (lv_at hl 1 rfl) ?_
  refine va_get (D := (dC, dI)) (ci := 3) (v := .int 13) (C := RX3) (T := TX3) (N := 14) hx hb hts (by decide +kernel) hown hK hP 0 rfl rfl 0 (by decide) (hts (.fieldLink RX3 26 "WaxTurns$Reade\x72" "tapeSize" "I") (by decide +kernel)) (fun _ h9 => h9) rfl dX3_append_8 ?_
  refine lv_sipush (v := 900) hx hb dX3_append_11 (by decide) ?_
  refine lv_icmp_ge (tgt := 46) hx hb dX3_append_14 (by decide) (fun c_7 => absurd c_7 (by decide +kernel)) (fun _ => ?_)
  refine lv_aload_n hx hb dX3_append_17 rfl (lv_at hl 1 rfl) ?_
  refine va_get (D := (dC, dI)) (ci := 3) (v := .ref tp) (C := RX3) (T := TX3) (N := 14) hx hb hts (by decide +kernel) hown hK hP 0 rfl rfl 3 (by decide) (hts (.fieldLink RX3 9 "WaxTurns$Reade\x72" "tape" "[B") (by decide +kernel)) (fun _ h9 => h9) rfl dX3_append_18 ?_
  refine lv_aload_n hx hb dX3_append_21 rfl (lv_at hl 1 rfl) ?_
  refine va_get (D := (dC, dI)) (ci := 3) (v := .int 13) (C := RX3) (T := TX3) (N := 14) hx hb hts (by decide +kernel) hown hK hP 0 rfl rfl 0 (by decide) (hts (.fieldLink RX3 26 "WaxTurns$Reade\x72" "tapeSize" "I") (by decide +kernel)) (fun _ h9 => h9) rfl dX3_append_22 ?_
  refine lv_iload_n hx hb dX3_append_25 rfl (lv_at hl 2 rfl) ?_
  refine lv_iload_n hx hb dX3_append_26 rfl (lv_at hl 0 rfl) ?_
  refine lv_ishr hx hb dX3_append_27 ?_
  refine lv_topi (fun x_8 ex_8 => ?_)
  obtain ⟨x_9, ex_9⟩ : ∃ y : Int32, y = (x_8).toInt8.toInt32 := ⟨_, rfl⟩
  refine lv_i2b (v := x_9) hx hb dX3_append_28 ex_9.symm ?_
  refine va_bast hx hb hK hP hD hS 1 0 rfl rfl (by unfold vp_in; decide +kernel) dX3_append_29 (fun H locs hP hD hS => ?_)
  obtain ⟨f_10, hP, hD⟩ : ∃ f_10 : Nat → Int32, va_P (dC, dI) vwCl [(rd, .inr (3, [.int 13, k 1, k 2, .ref tp, k 4, k 5, k 6, k 7, k 8, k 9, k 10, k 11, k 12, k 13])), (tp, .inl (kt, 900, .inl (f_10)))] H ∧ va_D A [(rd, .inr (3, [.int 13, k 1, k 2, .ref tp, k 4, k 5, k 6, k 7, k 8, k 9, k 10, k 11, k 12, k 13])), (tp, .inl (kt, 900, .inl (f_10)))] := ⟨_, hP, hD⟩
  refine lv_aload_n hx hb dX3_append_30 rfl (lv_at hl 1 rfl) ?_
  refine lv_dup hx hb dX3_append_31 rfl ?_
  refine va_get (D := (dC, dI)) (ci := 3) (v := .int 13) (C := RX3) (T := TX3) (N := 14) hx hb hts (by decide +kernel) hown hK hP 0 rfl rfl 0 (by decide) (hts (.fieldLink RX3 26 "WaxTurns$Reade\x72" "tapeSize" "I") (by decide +kernel)) (fun _ h9 => h9) rfl dX3_append_32 ?_
  refine lv_iconst (v := 1) hx hb dX3_append_35 (by decide) ?_
  refine lv_iadd hx hb dX3_append_36 ?_
  refine ax_ti 14 (by decide +kernel) ?_
  refine va_put (D := (dC, dI)) (ci := 3) (v := .int 14) (ty := .int) (C := RX3) (T := TX3) (N := 14) hx hb hts (by decide +kernel) tyX3 tyX3_ok nmX3 hown hK hP hD hS 0 rfl rfl 0 (by decide) (hts (.fieldLink RX3 26 "WaxTurns$Reade\x72" "tapeSize" "I") (by decide +kernel)) (fun _ h9 => h9) rfl (by decide +kernel) rfl rfl (Nat.le_of_ble_eq_true rfl) dX3_append_37 (fun H locs hP hD hS => ?_)
  have hP : va_P (dC, dI) vwCl [(rd, .inr (3, [.int 14, k 1, k 2, .ref tp, k 4, k 5, k 6, k 7, k 8, k 9, k 10, k 11, k 12, k 13])), (tp, .inl (kt, 900, .inl (f_10)))] H := hP
  have hD : va_D A [(rd, .inr (3, [.int 14, k 1, k 2, .ref tp, k 4, k 5, k 6, k 7, k 8, k 9, k 10, k 11, k 12, k 13])), (tp, .inl (kt, 900, .inl (f_10)))] := hD
  refine lv_iinc (v := 8) (lv' := [(2, .int 8), (0, .ref rd), (1, .int n)]) hx hb dX3_append_40 hl (k := 0) rfl (by decide +kernel) (by decide) rfl (fun ls hl => ?_)
  refine lv_goto (tgt := 3) hx hb dX3_append_43 (by decide) ?_
  refine lv_iload_n hx hb dX3_append_3 rfl (lv_at hl 0 rfl) ?_
  refine lv_if_lt (tgt := 46) hx hb dX3_append_4 (by decide) (fun c_11 => absurd c_11 (by decide +kernel)) (fun _ => ?_)
  refine lv_aload_n hx hb dX3_append_7 rfl (lv_at hl 1 rfl) ?_
  refine va_get (D := (dC, dI)) (ci := 3) (v := .int 14) (C := RX3) (T := TX3) (N := 14) hx hb hts (by decide +kernel) hown hK hP 0 rfl rfl 0 (by decide) (hts (.fieldLink RX3 26 "WaxTurns$Reade\x72" "tapeSize" "I") (by decide +kernel)) (fun _ h9 => h9) rfl dX3_append_8 ?_
  refine lv_sipush (v := 900) hx hb dX3_append_11 (by decide) ?_
  refine lv_icmp_ge (tgt := 46) hx hb dX3_append_14 (by decide) (fun c_12 => absurd c_12 (by decide +kernel)) (fun _ => ?_)
  refine lv_aload_n hx hb dX3_append_17 rfl (lv_at hl 1 rfl) ?_
  refine va_get (D := (dC, dI)) (ci := 3) (v := .ref tp) (C := RX3) (T := TX3) (N := 14) hx hb hts (by decide +kernel) hown hK hP 0 rfl rfl 3 (by decide) (hts (.fieldLink RX3 9 "WaxTurns$Reade\x72" "tape" "[B") (by decide +kernel)) (fun _ h9 => h9) rfl dX3_append_18 ?_
  refine lv_aload_n hx hb dX3_append_21 rfl (lv_at hl 1 rfl) ?_
  refine va_get (D := (dC, dI)) (ci := 3) (v := .int 14) (C := RX3) (T := TX3) (N := 14) hx hb hts (by decide +kernel) hown hK hP 0 rfl rfl 0 (by decide) (hts (.fieldLink RX3 26 "WaxTurns$Reade\x72" "tapeSize" "I") (by decide +kernel)) (fun _ h9 => h9) rfl dX3_append_22 ?_
  refine lv_iload_n hx hb dX3_append_25 rfl (lv_at hl 2 rfl) ?_
  refine lv_iload_n hx hb dX3_append_26 rfl (lv_at hl 0 rfl) ?_
  refine lv_ishr hx hb dX3_append_27 ?_
  refine lv_topi (fun x_13 ex_13 => ?_)
  obtain ⟨x_14, ex_14⟩ : ∃ y : Int32, y = (x_13).toInt8.toInt32 := ⟨_, rfl⟩
  refine lv_i2b (v := x_14) hx hb dX3_append_28 ex_14.symm ?_
  refine va_bast hx hb hK hP hD hS 1 0 rfl rfl (by unfold vp_in; decide +kernel) dX3_append_29 (fun H locs hP hD hS => ?_)
  obtain ⟨f_15, hP, hD⟩ : ∃ f_15 : Nat → Int32, va_P (dC, dI) vwCl [(rd, .inr (3, [.int 14, k 1, k 2, .ref tp, k 4, k 5, k 6, k 7, k 8, k 9, k 10, k 11, k 12, k 13])), (tp, .inl (kt, 900, .inl (f_15)))] H ∧ va_D A [(rd, .inr (3, [.int 14, k 1, k 2, .ref tp, k 4, k 5, k 6, k 7, k 8, k 9, k 10, k 11, k 12, k 13])), (tp, .inl (kt, 900, .inl (f_15)))] := ⟨_, hP, hD⟩
  refine lv_aload_n hx hb dX3_append_30 rfl (lv_at hl 1 rfl) ?_
  refine lv_dup hx hb dX3_append_31 rfl ?_
  refine va_get (D := (dC, dI)) (ci := 3) (v := .int 14) (C := RX3) (T := TX3) (N := 14) hx hb hts (by decide +kernel) hown hK hP 0 rfl rfl 0 (by decide) (hts (.fieldLink RX3 26 "WaxTurns$Reade\x72" "tapeSize" "I") (by decide +kernel)) (fun _ h9 => h9) rfl dX3_append_32 ?_
  refine lv_iconst (v := 1) hx hb dX3_append_35 (by decide) ?_
  refine lv_iadd hx hb dX3_append_36 ?_
  refine ax_ti 15 (by decide +kernel) ?_
  refine va_put (D := (dC, dI)) (ci := 3) (v := .int 15) (ty := .int) (C := RX3) (T := TX3) (N := 14) hx hb hts (by decide +kernel) tyX3 tyX3_ok nmX3 hown hK hP hD hS 0 rfl rfl 0 (by decide) (hts (.fieldLink RX3 26 "WaxTurns$Reade\x72" "tapeSize" "I") (by decide +kernel)) (fun _ h9 => h9) rfl (by decide +kernel) rfl rfl (Nat.le_of_ble_eq_true rfl) dX3_append_37 (fun H locs hP hD hS => ?_)
  have hP : va_P (dC, dI) vwCl [(rd, .inr (3, [.int 15, k 1, k 2, .ref tp, k 4, k 5, k 6, k 7, k 8, k 9, k 10, k 11, k 12, k 13])), (tp, .inl (kt, 900, .inl (f_15)))] H := hP
  have hD : va_D A [(rd, .inr (3, [.int 15, k 1, k 2, .ref tp, k 4, k 5, k 6, k 7, k 8, k 9, k 10, k 11, k 12, k 13])), (tp, .inl (kt, 900, .inl (f_15)))] := hD
  refine lv_iinc (v := 0) (lv' := [(2, .int 0), (0, .ref rd), (1, .int n)]) hx hb dX3_append_40 hl (k := 0) rfl (by decide +kernel) (by decide) rfl (fun ls hl => ?_)
  refine lv_goto (tgt := 3) hx hb dX3_append_43 (by decide) ?_
  refine lv_iload_n hx hb dX3_append_3 rfl (lv_at hl 0 rfl) ?_
  refine lv_if_lt (tgt := 46) hx hb dX3_append_4 (by decide) (fun c_16 => absurd c_16 (by decide +kernel)) (fun _ => ?_)
  refine lv_aload_n hx hb dX3_append_7 rfl (lv_at hl 1 rfl) ?_
  refine va_get (D := (dC, dI)) (ci := 3) (v := .int 15) (C := RX3) (T := TX3) (N := 14) hx hb hts (by decide +kernel) hown hK hP 0 rfl rfl 0 (by decide) (hts (.fieldLink RX3 26 "WaxTurns$Reade\x72" "tapeSize" "I") (by decide +kernel)) (fun _ h9 => h9) rfl dX3_append_8 ?_
  refine lv_sipush (v := 900) hx hb dX3_append_11 (by decide) ?_
  refine lv_icmp_ge (tgt := 46) hx hb dX3_append_14 (by decide) (fun c_17 => absurd c_17 (by decide +kernel)) (fun _ => ?_)
  refine lv_aload_n hx hb dX3_append_17 rfl (lv_at hl 1 rfl) ?_
  refine va_get (D := (dC, dI)) (ci := 3) (v := .ref tp) (C := RX3) (T := TX3) (N := 14) hx hb hts (by decide +kernel) hown hK hP 0 rfl rfl 3 (by decide) (hts (.fieldLink RX3 9 "WaxTurns$Reade\x72" "tape" "[B") (by decide +kernel)) (fun _ h9 => h9) rfl dX3_append_18 ?_
  refine lv_aload_n hx hb dX3_append_21 rfl (lv_at hl 1 rfl) ?_
  refine va_get (D := (dC, dI)) (ci := 3) (v := .int 15) (C := RX3) (T := TX3) (N := 14) hx hb hts (by decide +kernel) hown hK hP 0 rfl rfl 0 (by decide) (hts (.fieldLink RX3 26 "WaxTurns$Reade\x72" "tapeSize" "I") (by decide +kernel)) (fun _ h9 => h9) rfl dX3_append_22 ?_
  refine lv_iload_n hx hb dX3_append_25 rfl (lv_at hl 2 rfl) ?_
  refine lv_iload_n hx hb dX3_append_26 rfl (lv_at hl 0 rfl) ?_
  refine lv_ishr hx hb dX3_append_27 ?_
  refine lv_topi (fun x_18 ex_18 => ?_)
  obtain ⟨x_19, ex_19⟩ : ∃ y : Int32, y = (x_18).toInt8.toInt32 := ⟨_, rfl⟩
  refine lv_i2b (v := x_19) hx hb dX3_append_28 ex_19.symm ?_
  refine va_bast hx hb hK hP hD hS 1 0 rfl rfl (by unfold vp_in; decide +kernel) dX3_append_29 (fun H locs hP hD hS => ?_)
  obtain ⟨f_20, hP, hD⟩ : ∃ f_20 : Nat → Int32, va_P (dC, dI) vwCl [(rd, .inr (3, [.int 15, k 1, k 2, .ref tp, k 4, k 5, k 6, k 7, k 8, k 9, k 10, k 11, k 12, k 13])), (tp, .inl (kt, 900, .inl (f_20)))] H ∧ va_D A [(rd, .inr (3, [.int 15, k 1, k 2, .ref tp, k 4, k 5, k 6, k 7, k 8, k 9, k 10, k 11, k 12, k 13])), (tp, .inl (kt, 900, .inl (f_20)))] := ⟨_, hP, hD⟩
  refine lv_aload_n hx hb dX3_append_30 rfl (lv_at hl 1 rfl) ?_
  refine lv_dup hx hb dX3_append_31 rfl ?_
  refine va_get (D := (dC, dI)) (ci := 3) (v := .int 15) (C := RX3) (T := TX3) (N := 14) hx hb hts (by decide +kernel) hown hK hP 0 rfl rfl 0 (by decide) (hts (.fieldLink RX3 26 "WaxTurns$Reade\x72" "tapeSize" "I") (by decide +kernel)) (fun _ h9 => h9) rfl dX3_append_32 ?_
  refine lv_iconst (v := 1) hx hb dX3_append_35 (by decide) ?_
  refine lv_iadd hx hb dX3_append_36 ?_
  refine ax_ti 16 (by decide +kernel) ?_
  refine va_put (D := (dC, dI)) (ci := 3) (v := .int 16) (ty := .int) (C := RX3) (T := TX3) (N := 14) hx hb hts (by decide +kernel) tyX3 tyX3_ok nmX3 hown hK hP hD hS 0 rfl rfl 0 (by decide) (hts (.fieldLink RX3 26 "WaxTurns$Reade\x72" "tapeSize" "I") (by decide +kernel)) (fun _ h9 => h9) rfl (by decide +kernel) rfl rfl (Nat.le_of_ble_eq_true rfl) dX3_append_37 (fun H locs hP hD hS => ?_)
  have hP : va_P (dC, dI) vwCl [(rd, .inr (3, [.int 16, k 1, k 2, .ref tp, k 4, k 5, k 6, k 7, k 8, k 9, k 10, k 11, k 12, k 13])), (tp, .inl (kt, 900, .inl (f_20)))] H := hP
  have hD : va_D A [(rd, .inr (3, [.int 16, k 1, k 2, .ref tp, k 4, k 5, k 6, k 7, k 8, k 9, k 10, k 11, k 12, k 13])), (tp, .inl (kt, 900, .inl (f_20)))] := hD
  refine lv_iinc (v := (-8)) (lv' := [(2, .int (-8)), (0, .ref rd), (1, .int n)]) hx hb dX3_append_40 hl (k := 0) rfl (by decide +kernel) (by decide) rfl (fun ls hl => ?_)
  refine lv_goto (tgt := 3) hx hb dX3_append_43 (by decide) ?_
  refine lv_iload_n hx hb dX3_append_3 rfl (lv_at hl 0 rfl) ?_
  refine lv_if_lt (tgt := 46) hx hb dX3_append_4 (by decide) (fun _ => ?_) (fun c_21 => absurd (by decide +kernel) c_21)
  have hP9 := hP.sub (ws' := [(rd, .inr (3, [.int 16, k 1, k 2, .ref tp, k 4, k 5, k 6, k 7, k 8, k 9, k 10, k 11, k 12, k 13])), (tp, .inl (kt, 900, .inl (f_20)))]) [0, 1] rfl
  have hD9 := hD.sub (ws' := [(rd, .inr (3, [.int 16, k 1, k 2, .ref tp, k 4, k 5, k 6, k 7, k 8, k 9, k 10, k 11, k 12, k 13])), (tp, .inl (kt, 900, .inl (f_20)))]) [0, 1] (by decide) rfl
  have hK9 := hK.sub (tys' := [(kt, .byte)]) [0] rfl
  exact W.vret hx hb hr (fun t ht hW => ⟨⟨(), rfl, trivial, f_20, by rw [ht]; exact hP9, va_K.moved hW.alike hK9, hD9⟩, hS.F ht⟩) hS.2.2 dX3_append_46

set_option maxHeartbeats 4000000 in
set_option maxRecDepth 100000 in
theorem c_X3_append_16 (l : Launch) (dC : Nat → ClassId) (dI : Nat → Nat → Nat) (sz : Nat) (rd : Nat) (n : Int32) (k : Nat → Value) (tp : Nat) (kt : ClassId) (f : Nat → Int32) : Met l yX3_append wsX3_append ({ frames := 0, cells := 0, slots := 0, locals := 0 }) (va_Pc [.ref rd, .int n] (ax_C dC dI sz [(rd, .inr (3, [.int 16, k 1, k 2, .ref tp, k 4, k 5, k 6, k 7, k 8, k 9, k 10, k 11, k 12, k 13])), (tp, .inl (kt, 900, .inl (f)))] [(kt, .byte)] (fun _ => True))) (va_Qv (fun (_ : Unit) => True) (fun (_ : Unit) (t : State) => ∃ (f2 : Nat → Int32), ax_B dC dI (va_A [(rd, .inr (3, [.int 16, k 1, k 2, .ref tp, k 4, k 5, k 6, k 7, k 8, k 9, k 10, k 11, k 12, k 13])), (tp, .inl (kt, 900, .inl (f)))] sz) [(rd, .inr (3, [.int 20, k 1, k 2, .ref tp, k 4, k 5, k 6, k 7, k 8, k 9, k 10, k 11, k 12, k 13])), (tp, .inl (kt, 900, .inl (f2)))] [(kt, .byte)] t) (va_A [(rd, .inr (3, [.int 16, k 1, k 2, .ref tp, k 4, k 5, k 6, k 7, k 8, k 9, k 10, k 11, k 12, k 13])), (tp, .inl (kt, 900, .inl (f)))] sz)) 0 0 (va_A [(rd, .inr (3, [.int 16, k 1, k 2, .ref tp, k 4, k 5, k 6, k 7, k 8, k 9, k 10, k 11, k 12, k 13])), (tp, .inl (kt, 900, .inl (f)))] sz) := by
  refine Met.ofW (cc := cX3_append) (maxL := 3) (ret := none) (by decide) rfl ?_
  intro p e s m args below meth c s₁ B hml hv
  obtain ⟨rfl, hsz, hP, hK, hD0, hE⟩ := hv
  have hx := B.exec
  have hb := B.bytes
  have hr := B.returns
  have hts := atoms_spec (ws := wsX3_append) B.pre
  have hown : s.vm.findClass RX3 = some m.cls := findClass_of_methodNamed B.named
  have hlocks := B.notSynchronized
  subst hsz
  have hD := hD0.self (sz := s.heap.size)
  generalize hAe : va_A [(rd, .inr (3, [.int 16, k 1, k 2, .ref tp, k 4, k 5, k 6, k 7, k 8, k 9, k 10, k 11, k 12, k 13])), (tp, .inl (kt, 900, .inl (f)))] s.heap.size = A at hD ⊢
  have hA : ∀ q : Nat, s.heap.size ≤ q → A q := fun q h => by rw [← hAe]; exact Or.inr h
  have hS : va_S A s.heap s.heap [] := va_S.rf
  have hP : va_P (dC, dI) vwCl [(rd, .inr (3, [.int 16, k 1, k 2, .ref tp, k 4, k 5, k 6, k 7, k 8, k 9, k 10, k 11, k 12, k 13])), (tp, .inl (kt, 900, .inl (f)))] s.heap := hP
  have hl := lv_entry ([.ref rd, .int n]) (n := 3) (Nat.le_of_ble_eq_true rfl)
  rw [lg_entry_eq]
  generalize (lg_sl ([.ref rd, .int n]) ++ List.replicate (3 - (lg_sl ([.ref rd, .int n])).length) Slot.unset).toArray = ls at hl ⊢
  have hl : lv_has ls 3 [(0, .ref rd), (1, .int n)] := hl
  refine lv_bipush (v := 24) hx hb dX3_append_0 (by decide) ?_
  refine lv_istore_n (lv' := [(2, .int 24), (0, .ref rd), (1, .int n)]) hx hb dX3_append_2 rfl hl (by decide) rfl (fun ls hl => ?_)
  refine lv_iload_n hx hb dX3_append_3 rfl (lv_at hl 0 rfl) ?_
  refine lv_if_lt (tgt := 46) hx hb dX3_append_4 (by decide) (fun c_1 => absurd c_1 (by decide +kernel)) (fun _ => ?_)
  refine lv_aload_n hx hb dX3_append_7 rfl (lv_at hl 1 rfl) ?_
  refine va_get (D := (dC, dI)) (ci := 3) (v := .int 16) (C := RX3) (T := TX3) (N := 14) hx hb hts (by decide +kernel) hown hK hP 0 rfl rfl 0 (by decide) (hts (.fieldLink RX3 26 "WaxTurns$Reade\x72" "tapeSize" "I") (by decide +kernel)) (fun _ h9 => h9) rfl dX3_append_8 ?_
  refine lv_sipush (v := 900) hx hb dX3_append_11 (by decide) ?_
  refine lv_icmp_ge (tgt := 46) hx hb dX3_append_14 (by decide) (fun c_2 => absurd c_2 (by decide +kernel)) (fun _ => ?_)
  refine lv_aload_n hx hb dX3_append_17 rfl (lv_at hl 1 rfl) ?_
  refine va_get (D := (dC, dI)) (ci := 3) (v := .ref tp) (C := RX3) (T := TX3) (N := 14) hx hb hts (by decide +kernel) hown hK hP 0 rfl rfl 3 (by decide) (hts (.fieldLink RX3 9 "WaxTurns$Reade\x72" "tape" "[B") (by decide +kernel)) (fun _ h9 => h9) rfl dX3_append_18 ?_
  refine lv_aload_n hx hb dX3_append_21 rfl (lv_at hl 1 rfl) ?_
  refine va_get (D := (dC, dI)) (ci := 3) (v := .int 16) (C := RX3) (T := TX3) (N := 14) hx hb hts (by decide +kernel) hown hK hP 0 rfl rfl 0 (by decide) (hts (.fieldLink RX3 26 "WaxTurns$Reade\x72" "tapeSize" "I") (by decide +kernel)) (fun _ h9 => h9) rfl dX3_append_22 ?_
  refine lv_iload_n hx hb dX3_append_25 rfl (lv_at hl 2 rfl) ?_
  refine lv_iload_n hx hb dX3_append_26 rfl (lv_at hl 0 rfl) ?_
  refine lv_ishr hx hb dX3_append_27 ?_
  refine lv_topi (fun x_3 ex_3 => ?_)
  obtain ⟨x_4, ex_4⟩ : ∃ y : Int32, y = (x_3).toInt8.toInt32 := ⟨_, rfl⟩
  refine lv_i2b (v := x_4) hx hb dX3_append_28 ex_4.symm ?_
  refine va_bast hx hb hK hP hD hS 1 0 rfl rfl (by unfold vp_in; decide +kernel) dX3_append_29 (fun H locs hP hD hS => ?_)
  obtain ⟨f_5, hP, hD⟩ : ∃ f_5 : Nat → Int32, va_P (dC, dI) vwCl [(rd, .inr (3, [.int 16, k 1, k 2, .ref tp, k 4, k 5, k 6, k 7, k 8, k 9, k 10, k 11, k 12, k 13])), (tp, .inl (kt, 900, .inl (f_5)))] H ∧ va_D A [(rd, .inr (3, [.int 16, k 1, k 2, .ref tp, k 4, k 5, k 6, k 7, k 8, k 9, k 10, k 11, k 12, k 13])), (tp, .inl (kt, 900, .inl (f_5)))] := ⟨_, hP, hD⟩
  refine lv_aload_n hx hb dX3_append_30 rfl (lv_at hl 1 rfl) ?_
  refine lv_dup hx hb dX3_append_31 rfl ?_
  refine va_get (D := (dC, dI)) (ci := 3) (v := .int 16) (C := RX3) (T := TX3) (N := 14) hx hb hts (by decide +kernel) hown hK hP 0 rfl rfl 0 (by decide) (hts (.fieldLink RX3 26 "WaxTurns$Reade\x72" "tapeSize" "I") (by decide +kernel)) (fun _ h9 => h9) rfl dX3_append_32 ?_
  refine lv_iconst (v := 1) hx hb dX3_append_35 (by decide) ?_
  refine lv_iadd hx hb dX3_append_36 ?_
  refine ax_ti 17 (by decide +kernel) ?_
  refine va_put (D := (dC, dI)) (ci := 3) (v := .int 17) (ty := .int) (C := RX3) (T := TX3) (N := 14) hx hb hts (by decide +kernel) tyX3 tyX3_ok nmX3 hown hK hP hD hS 0 rfl rfl 0 (by decide) (hts (.fieldLink RX3 26 "WaxTurns$Reade\x72" "tapeSize" "I") (by decide +kernel)) (fun _ h9 => h9) rfl (by decide +kernel) rfl rfl (Nat.le_of_ble_eq_true rfl) dX3_append_37 (fun H locs hP hD hS => ?_)
  have hP : va_P (dC, dI) vwCl [(rd, .inr (3, [.int 17, k 1, k 2, .ref tp, k 4, k 5, k 6, k 7, k 8, k 9, k 10, k 11, k 12, k 13])), (tp, .inl (kt, 900, .inl (f_5)))] H := hP
  have hD : va_D A [(rd, .inr (3, [.int 17, k 1, k 2, .ref tp, k 4, k 5, k 6, k 7, k 8, k 9, k 10, k 11, k 12, k 13])), (tp, .inl (kt, 900, .inl (f_5)))] := hD
  refine lv_iinc (v := 16) (lv' := [(2, .int 16), (0, .ref rd), (1, .int n)]) hx hb dX3_append_40 hl (k := 0) rfl (by decide +kernel) (by decide) rfl (fun ls hl => ?_)
  refine lv_goto (tgt := 3) hx hb dX3_append_43 (by decide) ?_
  refine lv_iload_n hx hb dX3_append_3 rfl (lv_at hl 0 rfl) ?_
  refine lv_if_lt (tgt := 46) hx hb dX3_append_4 (by decide) (fun c_6 => absurd c_6 (by decide +kernel)) (fun _ => ?_)
  refine lv_aload_n hx hb dX3_append_7 rfl (lv_at hl 1 rfl) ?_
  refine va_get (D := (dC, dI)) (ci := 3) (v := .int 17) (C := RX3) (T := TX3) (N := 14) hx hb hts (by decide +kernel) hown hK hP 0 rfl rfl 0 (by decide) (hts (.fieldLink RX3 26 "WaxTurns$Reade\x72" "tapeSize" "I") (by decide +kernel)) (fun _ h9 => h9) rfl dX3_append_8 ?_
  refine lv_sipush (v := 900) hx hb dX3_append_11 (by decide) ?_
  refine lv_icmp_ge (tgt := 46) hx hb dX3_append_14 (by decide) (fun c_7 => absurd c_7 (by decide +kernel)) (fun _ => ?_)
  refine lv_aload_n hx hb dX3_append_17 rfl (lv_at hl 1 rfl) ?_
  refine va_get (D := (dC, dI)) (ci := 3) (v := .ref tp) (C := RX3) (T := TX3) (N := 14) hx hb hts (by decide +kernel) hown hK hP 0 rfl rfl 3 (by decide) (hts (.fieldLink RX3 9 "WaxTurns$Reade\x72" "tape" "[B") (by decide +kernel)) (fun _ h9 => h9) rfl dX3_append_18 ?_
  refine lv_aload_n hx hb dX3_append_21 rfl (lv_at hl 1 rfl) ?_
  refine va_get (D := (dC, dI)) (ci := 3) (v := .int 17) (C := RX3) (T := TX3) (N := 14) hx hb hts (by decide +kernel) hown hK hP 0 rfl rfl 0 (by decide) (hts (.fieldLink RX3 26 "WaxTurns$Reade\x72" "tapeSize" "I") (by decide +kernel)) (fun _ h9 => h9) rfl dX3_append_22 ?_
  refine lv_iload_n hx hb dX3_append_25 rfl (lv_at hl 2 rfl) ?_
  refine lv_iload_n hx hb dX3_append_26 rfl (lv_at hl 0 rfl) ?_
  refine lv_ishr hx hb dX3_append_27 ?_
  refine lv_topi (fun x_8 ex_8 => ?_)
  obtain ⟨x_9, ex_9⟩ : ∃ y : Int32, y = (x_8).toInt8.toInt32 := ⟨_, rfl⟩
  refine lv_i2b (v := x_9) hx hb dX3_append_28 ex_9.symm ?_
  refine va_bast hx hb hK hP hD hS 1 0 rfl rfl (by unfold vp_in; decide +kernel) dX3_append_29 (fun H locs hP hD hS => ?_)
  obtain ⟨f_10, hP, hD⟩ : ∃ f_10 : Nat → Int32, va_P (dC, dI) vwCl [(rd, .inr (3, [.int 17, k 1, k 2, .ref tp, k 4, k 5, k 6, k 7, k 8, k 9, k 10, k 11, k 12, k 13])), (tp, .inl (kt, 900, .inl (f_10)))] H ∧ va_D A [(rd, .inr (3, [.int 17, k 1, k 2, .ref tp, k 4, k 5, k 6, k 7, k 8, k 9, k 10, k 11, k 12, k 13])), (tp, .inl (kt, 900, .inl (f_10)))] := ⟨_, hP, hD⟩
  refine lv_aload_n hx hb dX3_append_30 rfl (lv_at hl 1 rfl) ?_
  refine lv_dup hx hb dX3_append_31 rfl ?_
  refine va_get (D := (dC, dI)) (ci := 3) (v := .int 17) (C := RX3) (T := TX3) (N := 14) hx hb hts (by decide +kernel) hown hK hP 0 rfl rfl 0 (by decide) (hts (.fieldLink RX3 26 "WaxTurns$Reade\x72" "tapeSize" "I") (by decide +kernel)) (fun _ h9 => h9) rfl dX3_append_32 ?_
  refine lv_iconst (v := 1) hx hb dX3_append_35 (by decide) ?_
  refine lv_iadd hx hb dX3_append_36 ?_
  refine ax_ti 18 (by decide +kernel) ?_
  refine va_put (D := (dC, dI)) (ci := 3) (v := .int 18) (ty := .int) (C := RX3) (T := TX3) (N := 14) hx hb hts (by decide +kernel) tyX3 tyX3_ok nmX3 hown hK hP hD hS 0 rfl rfl 0 (by decide) (hts (.fieldLink RX3 26 "WaxTurns$Reade\x72" "tapeSize" "I") (by decide +kernel)) (fun _ h9 => h9) rfl (by decide +kernel) rfl rfl (Nat.le_of_ble_eq_true rfl) dX3_append_37 (fun H locs hP hD hS => ?_)
  have hP : va_P (dC, dI) vwCl [(rd, .inr (3, [.int 18, k 1, k 2, .ref tp, k 4, k 5, k 6, k 7, k 8, k 9, k 10, k 11, k 12, k 13])), (tp, .inl (kt, 900, .inl (f_10)))] H := hP
  have hD : va_D A [(rd, .inr (3, [.int 18, k 1, k 2, .ref tp, k 4, k 5, k 6, k 7, k 8, k 9, k 10, k 11, k 12, k 13])), (tp, .inl (kt, 900, .inl (f_10)))] := hD
  refine lv_iinc (v := 8) (lv' := [(2, .int 8), (0, .ref rd), (1, .int n)]) hx hb dX3_append_40 hl (k := 0) rfl (by decide +kernel) (by decide) rfl (fun ls hl => ?_)
  refine lv_goto (tgt := 3) hx hb dX3_append_43 (by decide) ?_
  refine lv_iload_n hx hb dX3_append_3 rfl (lv_at hl 0 rfl) ?_
  refine lv_if_lt (tgt := 46) hx hb dX3_append_4 (by decide) (fun c_11 => absurd c_11 (by decide +kernel)) (fun _ => ?_)
  refine lv_aload_n hx hb dX3_append_7 rfl (lv_at hl 1 rfl) ?_
  refine va_get (D := (dC, dI)) (ci := 3) (v := .int 18) (C := RX3) (T := TX3) (N := 14) hx hb hts (by decide +kernel) hown hK hP 0 rfl rfl 0 (by decide) (hts (.fieldLink RX3 26 "WaxTurns$Reade\x72" "tapeSize" "I") (by decide +kernel)) (fun _ h9 => h9) rfl dX3_append_8 ?_
  refine lv_sipush (v := 900) hx hb dX3_append_11 (by decide) ?_
  refine lv_icmp_ge (tgt := 46) hx hb dX3_append_14 (by decide) (fun c_12 => absurd c_12 (by decide +kernel)) (fun _ => ?_)
  refine lv_aload_n hx hb dX3_append_17 rfl (lv_at hl 1 rfl) ?_
  refine va_get (D := (dC, dI)) (ci := 3) (v := .ref tp) (C := RX3) (T := TX3) (N := 14) hx hb hts (by decide +kernel) hown hK hP 0 rfl rfl 3 (by decide) (hts (.fieldLink RX3 9 "WaxTurns$Reade\x72" "tape" "[B") (by decide +kernel)) (fun _ h9 => h9) rfl dX3_append_18 ?_
  refine lv_aload_n hx hb dX3_append_21 rfl (lv_at hl 1 rfl) ?_
  refine va_get (D := (dC, dI)) (ci := 3) (v := .int 18) (C := RX3) (T := TX3) (N := 14) hx hb hts (by decide +kernel) hown hK hP 0 rfl rfl 0 (by decide) (hts (.fieldLink RX3 26 "WaxTurns$Reade\x72" "tapeSize" "I") (by decide +kernel)) (fun _ h9 => h9) rfl dX3_append_22 ?_
  refine lv_iload_n hx hb dX3_append_25 rfl (lv_at hl 2 rfl) ?_
  refine lv_iload_n hx hb dX3_append_26 rfl (lv_at hl 0 rfl) ?_
  refine lv_ishr hx hb dX3_append_27 ?_
  refine lv_topi (fun x_13 ex_13 => ?_)
  obtain ⟨x_14, ex_14⟩ : ∃ y : Int32, y = (x_13).toInt8.toInt32 := ⟨_, rfl⟩
  refine lv_i2b (v := x_14) hx hb dX3_append_28 ex_14.symm ?_
  refine va_bast hx hb hK hP hD hS 1 0 rfl rfl (by unfold vp_in; decide +kernel) dX3_append_29 (fun H locs hP hD hS => ?_)
  obtain ⟨f_15, hP, hD⟩ : ∃ f_15 : Nat → Int32, va_P (dC, dI) vwCl [(rd, .inr (3, [.int 18, k 1, k 2, .ref tp, k 4, k 5, k 6, k 7, k 8, k 9, k 10, k 11, k 12, k 13])), (tp, .inl (kt, 900, .inl (f_15)))] H ∧ va_D A [(rd, .inr (3, [.int 18, k 1, k 2, .ref tp, k 4, k 5, k 6, k 7, k 8, k 9, k 10, k 11, k 12, k 13])), (tp, .inl (kt, 900, .inl (f_15)))] := ⟨_, hP, hD⟩
  refine lv_aload_n hx hb dX3_append_30 rfl (lv_at hl 1 rfl) ?_
  refine lv_dup hx hb dX3_append_31 rfl ?_
  refine va_get (D := (dC, dI)) (ci := 3) (v := .int 18) (C := RX3) (T := TX3) (N := 14) hx hb hts (by decide +kernel) hown hK hP 0 rfl rfl 0 (by decide) (hts (.fieldLink RX3 26 "WaxTurns$Reade\x72" "tapeSize" "I") (by decide +kernel)) (fun _ h9 => h9) rfl dX3_append_32 ?_
  refine lv_iconst (v := 1) hx hb dX3_append_35 (by decide) ?_
  refine lv_iadd hx hb dX3_append_36 ?_
  refine ax_ti 19 (by decide +kernel) ?_
  refine va_put (D := (dC, dI)) (ci := 3) (v := .int 19) (ty := .int) (C := RX3) (T := TX3) (N := 14) hx hb hts (by decide +kernel) tyX3 tyX3_ok nmX3 hown hK hP hD hS 0 rfl rfl 0 (by decide) (hts (.fieldLink RX3 26 "WaxTurns$Reade\x72" "tapeSize" "I") (by decide +kernel)) (fun _ h9 => h9) rfl (by decide +kernel) rfl rfl (Nat.le_of_ble_eq_true rfl) dX3_append_37 (fun H locs hP hD hS => ?_)
  have hP : va_P (dC, dI) vwCl [(rd, .inr (3, [.int 19, k 1, k 2, .ref tp, k 4, k 5, k 6, k 7, k 8, k 9, k 10, k 11, k 12, k 13])), (tp, .inl (kt, 900, .inl (f_15)))] H := hP
  have hD : va_D A [(rd, .inr (3, [.int 19, k 1, k 2, .ref tp, k 4, k 5, k 6, k 7, k 8, k 9, k 10, k 11, k 12, k 13])), (tp, .inl (kt, 900, .inl (f_15)))] := hD
  refine lv_iinc (v := 0) (lv' := [(2, .int 0), (0, .ref rd), (1, .int n)]) hx hb dX3_append_40 hl (k := 0) rfl (by decide +kernel) (by decide) rfl (fun ls hl => ?_)
  refine lv_goto (tgt := 3) hx hb dX3_append_43 (by decide) ?_
  refine lv_iload_n hx hb dX3_append_3 rfl (lv_at hl 0 rfl) ?_
  refine lv_if_lt (tgt := 46) hx hb dX3_append_4 (by decide) (fun c_16 => absurd c_16 (by decide +kernel)) (fun _ => ?_)
  refine lv_aload_n hx hb dX3_append_7 rfl (lv_at hl 1 rfl) ?_
  refine va_get (D := (dC, dI)) (ci := 3) (v := .int 19) (C := RX3) (T := TX3) (N := 14) hx hb hts (by decide +kernel) hown hK hP 0 rfl rfl 0 (by decide) (hts (.fieldLink RX3 26 "WaxTurns$Reade\x72" "tapeSize" "I") (by decide +kernel)) (fun _ h9 => h9) rfl dX3_append_8 ?_
  refine lv_sipush (v := 900) hx hb dX3_append_11 (by decide) ?_
  refine lv_icmp_ge (tgt := 46) hx hb dX3_append_14 (by decide) (fun c_17 => absurd c_17 (by decide +kernel)) (fun _ => ?_)
  refine lv_aload_n hx hb dX3_append_17 rfl (lv_at hl 1 rfl) ?_
  refine va_get (D := (dC, dI)) (ci := 3) (v := .ref tp) (C := RX3) (T := TX3) (N := 14) hx hb hts (by decide +kernel) hown hK hP 0 rfl rfl 3 (by decide) (hts (.fieldLink RX3 9 "WaxTurns$Reade\x72" "tape" "[B") (by decide +kernel)) (fun _ h9 => h9) rfl dX3_append_18 ?_
  refine lv_aload_n hx hb dX3_append_21 rfl (lv_at hl 1 rfl) ?_
  refine va_get (D := (dC, dI)) (ci := 3) (v := .int 19) (C := RX3) (T := TX3) (N := 14) hx hb hts (by decide +kernel) hown hK hP 0 rfl rfl 0 (by decide) (hts (.fieldLink RX3 26 "WaxTurns$Reade\x72" "tapeSize" "I") (by decide +kernel)) (fun _ h9 => h9) rfl dX3_append_22 ?_
  refine lv_iload_n hx hb dX3_append_25 rfl (lv_at hl 2 rfl) ?_
  refine lv_iload_n hx hb dX3_append_26 rfl (lv_at hl 0 rfl) ?_
  refine lv_ishr hx hb dX3_append_27 ?_
  refine lv_topi (fun x_18 ex_18 => ?_)
  obtain ⟨x_19, ex_19⟩ : ∃ y : Int32, y = (x_18).toInt8.toInt32 := ⟨_, rfl⟩
  refine lv_i2b (v := x_19) hx hb dX3_append_28 ex_19.symm ?_
  refine va_bast hx hb hK hP hD hS 1 0 rfl rfl (by unfold vp_in; decide +kernel) dX3_append_29 (fun H locs hP hD hS => ?_)
  obtain ⟨f_20, hP, hD⟩ : ∃ f_20 : Nat → Int32, va_P (dC, dI) vwCl [(rd, .inr (3, [.int 19, k 1, k 2, .ref tp, k 4, k 5, k 6, k 7, k 8, k 9, k 10, k 11, k 12, k 13])), (tp, .inl (kt, 900, .inl (f_20)))] H ∧ va_D A [(rd, .inr (3, [.int 19, k 1, k 2, .ref tp, k 4, k 5, k 6, k 7, k 8, k 9, k 10, k 11, k 12, k 13])), (tp, .inl (kt, 900, .inl (f_20)))] := ⟨_, hP, hD⟩
  refine lv_aload_n hx hb dX3_append_30 rfl (lv_at hl 1 rfl) ?_
  refine lv_dup hx hb dX3_append_31 rfl ?_
  refine va_get (D := (dC, dI)) (ci := 3) (v := .int 19) (C := RX3) (T := TX3) (N := 14) hx hb hts (by decide +kernel) hown hK hP 0 rfl rfl 0 (by decide) (hts (.fieldLink RX3 26 "WaxTurns$Reade\x72" "tapeSize" "I") (by decide +kernel)) (fun _ h9 => h9) rfl dX3_append_32 ?_
  refine lv_iconst (v := 1) hx hb dX3_append_35 (by decide) ?_
  refine lv_iadd hx hb dX3_append_36 ?_
  refine ax_ti 20 (by decide +kernel) ?_
  refine va_put (D := (dC, dI)) (ci := 3) (v := .int 20) (ty := .int) (C := RX3) (T := TX3) (N := 14) hx hb hts (by decide +kernel) tyX3 tyX3_ok nmX3 hown hK hP hD hS 0 rfl rfl 0 (by decide) (hts (.fieldLink RX3 26 "WaxTurns$Reade\x72" "tapeSize" "I") (by decide +kernel)) (fun _ h9 => h9) rfl (by decide +kernel) rfl rfl (Nat.le_of_ble_eq_true rfl) dX3_append_37 (fun H locs hP hD hS => ?_)
  have hP : va_P (dC, dI) vwCl [(rd, .inr (3, [.int 20, k 1, k 2, .ref tp, k 4, k 5, k 6, k 7, k 8, k 9, k 10, k 11, k 12, k 13])), (tp, .inl (kt, 900, .inl (f_20)))] H := hP
  have hD : va_D A [(rd, .inr (3, [.int 20, k 1, k 2, .ref tp, k 4, k 5, k 6, k 7, k 8, k 9, k 10, k 11, k 12, k 13])), (tp, .inl (kt, 900, .inl (f_20)))] := hD
  refine lv_iinc (v := (-8)) (lv' := [(2, .int (-8)), (0, .ref rd), (1, .int n)]) hx hb dX3_append_40 hl (k := 0) rfl (by decide +kernel) (by decide) rfl (fun ls hl => ?_)
  refine lv_goto (tgt := 3) hx hb dX3_append_43 (by decide) ?_
  refine lv_iload_n hx hb dX3_append_3 rfl (lv_at hl 0 rfl) ?_
  refine lv_if_lt (tgt := 46) hx hb dX3_append_4 (by decide) (fun _ => ?_) (fun c_21 => absurd (by decide +kernel) c_21)
  have hP9 := hP.sub (ws' := [(rd, .inr (3, [.int 20, k 1, k 2, .ref tp, k 4, k 5, k 6, k 7, k 8, k 9, k 10, k 11, k 12, k 13])), (tp, .inl (kt, 900, .inl (f_20)))]) [0, 1] rfl
  have hD9 := hD.sub (ws' := [(rd, .inr (3, [.int 20, k 1, k 2, .ref tp, k 4, k 5, k 6, k 7, k 8, k 9, k 10, k 11, k 12, k 13])), (tp, .inl (kt, 900, .inl (f_20)))]) [0, 1] (by decide) rfl
  have hK9 := hK.sub (tys' := [(kt, .byte)]) [0] rfl
  exact W.vret hx hb hr (fun t ht hW => ⟨⟨(), rfl, trivial, f_20, by rw [ht]; exact hP9, va_K.moved hW.alike hK9, hD9⟩, hS.F ht⟩) hS.2.2 dX3_append_46

set_option maxHeartbeats 4000000 in
set_option maxRecDepth 100000 in
theorem c_X7_feed (l : Launch) (dC : Nat → ClassId) (dI : Nat → Nat → Nat) (sz : Nat) (x : Nat) (a0 : Int32) (a1 : Int32) (a2 : Int32) (a3 : Int32) (a4 : Int32) (rd : Nat) (v : Nat → Value) (k : Nat → Value) (tp : Nat) (kt : ClassId) (f : Nat → Int32) : Met l yX7_feed wsX7_feed ({ frames := 1, cells := 0, slots := 0, locals := 22 }) (va_Pc [.ref x, .int a0, .int a1, .int a2, .int a3, .int a4] (ax_C dC dI sz [(x, .inr (7, [.ref rd, v 1, v 2, v 3, v 4, v 5, v 6, v 7, v 8, v 9, v 10])), (rd, .inr (3, [.int 0, k 1, k 2, .ref tp, k 4, k 5, k 6, k 7, k 8, k 9, k 10, k 11, k 12, k 13])), (tp, .inl (kt, 900, .inl (f)))] [(kt, .byte)] (fun _ => True))) (va_Qi (fun (r : Int32) (_ : Unit) => r = 20) (fun (_ : Unit) (t : State) => ax_B dC dI (va_A [(x, .inr (7, [.ref rd, v 1, v 2, v 3, v 4, v 5, v 6, v 7, v 8, v 9, v 10])), (rd, .inr (3, [.int 0, k 1, k 2, .ref tp, k 4, k 5, k 6, k 7, k 8, k 9, k 10, k 11, k 12, k 13])), (tp, .inl (kt, 900, .inl (f)))] sz) [] [] t) (va_A [(x, .inr (7, [.ref rd, v 1, v 2, v 3, v 4, v 5, v 6, v 7, v 8, v 9, v 10])), (rd, .inr (3, [.int 0, k 1, k 2, .ref tp, k 4, k 5, k 6, k 7, k 8, k 9, k 10, k 11, k 12, k 13])), (tp, .inl (kt, 900, .inl (f)))] sz)) 0 0 (va_A [(x, .inr (7, [.ref rd, v 1, v 2, v 3, v 4, v 5, v 6, v 7, v 8, v 9, v 10])), (rd, .inr (3, [.int 0, k 1, k 2, .ref tp, k 4, k 5, k 6, k 7, k 8, k 9, k 10, k 11, k 12, k 13])), (tp, .inl (kt, 900, .inl (f)))] sz) := by
  refine Met.ofW (cc := cX7_feed) (maxL := 6) (ret := (some .int)) (by decide) rfl ?_
  intro p e s m args below meth c s₁ B hml hv
  obtain ⟨rfl, hsz, hP, hK, hD0, hE⟩ := hv
  have hx := B.exec
  have hb := B.bytes
  have hr := B.returns
  have hts := atoms_spec (ws := wsX7_feed) B.pre
  have hown : s.vm.findClass RX7 = some m.cls := findClass_of_methodNamed B.named
  have hlocks := B.notSynchronized
  subst hsz
  have hD := hD0.self (sz := s.heap.size)
  generalize hAe : va_A [(x, .inr (7, [.ref rd, v 1, v 2, v 3, v 4, v 5, v 6, v 7, v 8, v 9, v 10])), (rd, .inr (3, [.int 0, k 1, k 2, .ref tp, k 4, k 5, k 6, k 7, k 8, k 9, k 10, k 11, k 12, k 13])), (tp, .inl (kt, 900, .inl (f)))] s.heap.size = A at hD ⊢
  have hA : ∀ q : Nat, s.heap.size ≤ q → A q := fun q h => by rw [← hAe]; exact Or.inr h
  have hS : va_S A s.heap s.heap [] := va_S.rf
  have hP : va_P (dC, dI) vwCl [(x, .inr (7, [.ref rd, v 1, v 2, v 3, v 4, v 5, v 6, v 7, v 8, v 9, v 10])), (rd, .inr (3, [.int 0, k 1, k 2, .ref tp, k 4, k 5, k 6, k 7, k 8, k 9, k 10, k 11, k 12, k 13])), (tp, .inl (kt, 900, .inl (f)))] s.heap := hP
  have hl := lv_entry ([.ref x, .int a0, .int a1, .int a2, .int a3, .int a4]) (n := 6) (Nat.le_of_ble_eq_true rfl)
  rw [lg_entry_eq]
  generalize (lg_sl ([.ref x, .int a0, .int a1, .int a2, .int a3, .int a4]) ++ List.replicate (6 - (lg_sl ([.ref x, .int a0, .int a1, .int a2, .int a3, .int a4])).length) Slot.unset).toArray = ls at hl ⊢
  have hl : lv_has ls 6 [(0, .ref x), (1, .int a0), (2, .int a1), (3, .int a2), (4, .int a3), (5, .int a4)] := hl
  refine lv_aload_n hx hb dX7_feed_0 rfl (lv_at hl 0 rfl) ?_
  refine va_get (D := (dC, dI)) (ci := 7) (v := .ref rd) (C := RX7) (T := TX7) (N := 11) hx hb hts (by decide +kernel) hown hK hP 0 rfl rfl 0 (by decide) (hts (.fieldLink RX7 12 "WaxTurns" "reade\x72" "LWaxTurns$Reader;") (by decide +kernel)) (fun _ h9 => h9) rfl dX7_feed_1 ?_
  refine va_get (D := (dC, dI)) (ci := 3) (v := .int 0) (C := RX3) (T := TX3) (N := 14) hx hb hts (by decide +kernel) hown hK hP 1 rfl rfl 0 (by decide) (hts (.fieldLink RX7 71 "WaxTurns$Reade\x72" "tapeSize" "I") (by decide +kernel)) (fun _ h9 => h9) rfl dX7_feed_4 ?_
  refine lv_bipush (v := 20) hx hb dX7_feed_7 (by decide) ?_
  refine lv_iadd hx hb dX7_feed_9 ?_
  refine ax_ti 20 (by decide +kernel) ?_
  refine lv_sipush (v := 900) hx hb dX7_feed_10 (by decide) ?_
  refine lv_icmp_le (tgt := 18) hx hb dX7_feed_13 (by decide) (fun _ => ?_) (fun c_1 => absurd (by decide +kernel) c_1)
  refine lv_aload_n hx hb dX7_feed_18 rfl (lv_at hl 0 rfl) ?_
  refine va_get (D := (dC, dI)) (ci := 7) (v := .ref rd) (C := RX7) (T := TX7) (N := 11) hx hb hts (by decide +kernel) hown hK hP 0 rfl rfl 0 (by decide) (hts (.fieldLink RX7 12 "WaxTurns" "reade\x72" "LWaxTurns$Reader;") (by decide +kernel)) (fun _ h9 => h9) rfl dX7_feed_19 ?_
  refine lv_iload_n hx hb dX7_feed_22 rfl (lv_at hl 1 rfl) ?_
  have hPc := hP.sub (ws' := [(rd, .inr (3, [.int 0, k 1, k 2, .ref tp, k 4, k 5, k 6, k 7, k 8, k 9, k 10, k 11, k 12, k 13])), (tp, .inl (kt, 900, .inl (f)))]) [1, 2] rfl
  have hDc := hD.sub (ws' := [(rd, .inr (3, [.int 0, k 1, k 2, .ref tp, k 4, k 5, k 6, k 7, k 8, k 9, k 10, k 11, k 12, k 13])), (tp, .inl (kt, 900, .inl (f)))]) [1, 2] (by decide) rfl
  have hKc := hK.sub (tys' := [(kt, .byte)]) [0] rfl
  have hFc := va_free (wc := [(rd, .inr (3, [.int 0, k 1, k 2, .ref tp, k 4, k 5, k 6, k 7, k 8, k 9, k 10, k 11, k 12, k 13])), (tp, .inl (kt, 900, .inl (f)))]) hD hS hA [1, 2] rfl
  refine va_callv (va_runV (As := [.int a0]) (rest := []) ⟨hx, hb, hml, hown, hts⟩ (c_X3_append_0 l dC dI s.heap.size rd a0 k tp kt f ) (cwV 1 hts gX7_feed_X3_append rfl rfl rfl (by decide +kernel) ⟨Nat.le_of_ble_eq_true rfl, Nat.le_of_ble_eq_true rfl⟩) ⟨ax_blind (fun _ _ _ _ _ => trivial), va_recv hKc hPc (ci := 3) (q0 := 0) rfl rfl, ax_pre hPc hKc hDc (fun _ _ => trivial)⟩ rfl rfl hl.1 rfl (lv_room (Nat.le_of_ble_eq_true rfl)) dX7_feed_23 ⟨Nat.le_of_ble_eq_true rfl, Nat.le_of_ble_eq_true rfl⟩) hS (fun q _ h => hFc q h) hFc (fun u t H1 locs ht hvm hw hB hz1 hk1 hS => ?_)
  obtain ⟨f2_3, hP1, hK1, hD1⟩ := hB
  rw [ht] at hP1
  have hK1 := va_K.moved hvm.symm hK1
  obtain ⟨hP, hD⟩ := va_join (wr := [(x, .inr (7, [.ref rd, v 1, v 2, v 3, v 4, v 5, v 6, v 7, v 8, v 9, v 10]))]) (w1 := [(rd, .inr (3, [.int 4, k 1, k 2, .ref tp, k 4, k 5, k 6, k 7, k 8, k 9, k 10, k 11, k 12, k 13])), (tp, .inl (kt, 900, .inl (f2_3)))]) hP hD [1, 2] [0] rfl rfl (by decide) (by decide) hk1 hFc hP1 hD1
  have hK := (hK.sub (tys' := []) [] rfl).app hK1
  generalize H1 = H at hP hS ⊢
  have hP : va_P (dC, dI) vwCl [(x, .inr (7, [.ref rd, v 1, v 2, v 3, v 4, v 5, v 6, v 7, v 8, v 9, v 10])), (rd, .inr (3, [.int 4, k 1, k 2, .ref tp, k 4, k 5, k 6, k 7, k 8, k 9, k 10, k 11, k 12, k 13])), (tp, .inl (kt, 900, .inl (f2_3)))] H := hP
  have hD : va_D A [(x, .inr (7, [.ref rd, v 1, v 2, v 3, v 4, v 5, v 6, v 7, v 8, v 9, v 10])), (rd, .inr (3, [.int 4, k 1, k 2, .ref tp, k 4, k 5, k 6, k 7, k 8, k 9, k 10, k 11, k 12, k 13])), (tp, .inl (kt, 900, .inl (f2_3)))] := hD
  have hK : va_K (dC, dI) vwCl [(kt, .byte)] s := hK
  refine lv_aload_n hx hb dX7_feed_26 rfl (lv_at hl 0 rfl) ?_
  refine va_get (D := (dC, dI)) (ci := 7) (v := .ref rd) (C := RX7) (T := TX7) (N := 11) hx hb hts (by decide +kernel) hown hK hP 0 rfl rfl 0 (by decide) (hts (.fieldLink RX7 12 "WaxTurns" "reade\x72" "LWaxTurns$Reader;") (by decide +kernel)) (fun _ h9 => h9) rfl dX7_feed_27 ?_
  refine lv_iload_n hx hb dX7_feed_30 rfl (lv_at hl 2 rfl) ?_
  have hPc := hP.sub (ws' := [(rd, .inr (3, [.int 4, k 1, k 2, .ref tp, k 4, k 5, k 6, k 7, k 8, k 9, k 10, k 11, k 12, k 13])), (tp, .inl (kt, 900, .inl (f2_3)))]) [1, 2] rfl
  have hDc := hD.sub (ws' := [(rd, .inr (3, [.int 4, k 1, k 2, .ref tp, k 4, k 5, k 6, k 7, k 8, k 9, k 10, k 11, k 12, k 13])), (tp, .inl (kt, 900, .inl (f2_3)))]) [1, 2] (by decide) rfl
  have hKc := hK.sub (tys' := [(kt, .byte)]) [0] rfl
  have hFc := va_free (wc := [(rd, .inr (3, [.int 4, k 1, k 2, .ref tp, k 4, k 5, k 6, k 7, k 8, k 9, k 10, k 11, k 12, k 13])), (tp, .inl (kt, 900, .inl (f2_3)))]) hD hS hA [1, 2] rfl
  refine va_callv (va_runV (As := [.int a1]) (rest := []) ⟨hx, hb, hml, hown, hts⟩ (c_X3_append_4 l dC dI H.size rd a1 k tp kt f2_3 ) (cwV 1 hts gX7_feed_X3_append rfl rfl rfl (by decide +kernel) ⟨Nat.le_of_ble_eq_true rfl, Nat.le_of_ble_eq_true rfl⟩) ⟨ax_blind (fun _ _ _ _ _ => trivial), va_recv hKc hPc (ci := 3) (q0 := 0) rfl rfl, ax_pre hPc hKc hDc (fun _ _ => trivial)⟩ rfl rfl hl.1 rfl (lv_room (Nat.le_of_ble_eq_true rfl)) dX7_feed_31 ⟨Nat.le_of_ble_eq_true rfl, Nat.le_of_ble_eq_true rfl⟩) hS (fun q _ h => hFc q h) hFc (fun u t H1 locs ht hvm hw hB hz1 hk1 hS => ?_)
  obtain ⟨f2_5, hP1, hK1, hD1⟩ := hB
  rw [ht] at hP1
  have hK1 := va_K.moved hvm.symm hK1
  obtain ⟨hP, hD⟩ := va_join (wr := [(x, .inr (7, [.ref rd, v 1, v 2, v 3, v 4, v 5, v 6, v 7, v 8, v 9, v 10]))]) (w1 := [(rd, .inr (3, [.int 8, k 1, k 2, .ref tp, k 4, k 5, k 6, k 7, k 8, k 9, k 10, k 11, k 12, k 13])), (tp, .inl (kt, 900, .inl (f2_5)))]) hP hD [1, 2] [0] rfl rfl (by decide) (by decide) hk1 hFc hP1 hD1
  have hK := (hK.sub (tys' := []) [] rfl).app hK1
  generalize H1 = H at hP hS ⊢
  have hP : va_P (dC, dI) vwCl [(x, .inr (7, [.ref rd, v 1, v 2, v 3, v 4, v 5, v 6, v 7, v 8, v 9, v 10])), (rd, .inr (3, [.int 8, k 1, k 2, .ref tp, k 4, k 5, k 6, k 7, k 8, k 9, k 10, k 11, k 12, k 13])), (tp, .inl (kt, 900, .inl (f2_5)))] H := hP
  have hD : va_D A [(x, .inr (7, [.ref rd, v 1, v 2, v 3, v 4, v 5, v 6, v 7, v 8, v 9, v 10])), (rd, .inr (3, [.int 8, k 1, k 2, .ref tp, k 4, k 5, k 6, k 7, k 8, k 9, k 10, k 11, k 12, k 13])), (tp, .inl (kt, 900, .inl (f2_5)))] := hD
  have hK : va_K (dC, dI) vwCl [(kt, .byte)] s := hK
  refine lv_aload_n hx hb dX7_feed_34 rfl (lv_at hl 0 rfl) ?_
  refine va_get (D := (dC, dI)) (ci := 7) (v := .ref rd) (C := RX7) (T := TX7) (N := 11) hx hb hts (by decide +kernel) hown hK hP 0 rfl rfl 0 (by decide) (hts (.fieldLink RX7 12 "WaxTurns" "reade\x72" "LWaxTurns$Reader;") (by decide +kernel)) (fun _ h9 => h9) rfl dX7_feed_35 ?_
  refine lv_iload_n hx hb dX7_feed_38 rfl (lv_at hl 3 rfl) ?_
  have hPc := hP.sub (ws' := [(rd, .inr (3, [.int 8, k 1, k 2, .ref tp, k 4, k 5, k 6, k 7, k 8, k 9, k 10, k 11, k 12, k 13])), (tp, .inl (kt, 900, .inl (f2_5)))]) [1, 2] rfl
  have hDc := hD.sub (ws' := [(rd, .inr (3, [.int 8, k 1, k 2, .ref tp, k 4, k 5, k 6, k 7, k 8, k 9, k 10, k 11, k 12, k 13])), (tp, .inl (kt, 900, .inl (f2_5)))]) [1, 2] (by decide) rfl
  have hKc := hK.sub (tys' := [(kt, .byte)]) [0] rfl
  have hFc := va_free (wc := [(rd, .inr (3, [.int 8, k 1, k 2, .ref tp, k 4, k 5, k 6, k 7, k 8, k 9, k 10, k 11, k 12, k 13])), (tp, .inl (kt, 900, .inl (f2_5)))]) hD hS hA [1, 2] rfl
  refine va_callv (va_runV (As := [.int a2]) (rest := []) ⟨hx, hb, hml, hown, hts⟩ (c_X3_append_8 l dC dI H.size rd a2 k tp kt f2_5 ) (cwV 1 hts gX7_feed_X3_append rfl rfl rfl (by decide +kernel) ⟨Nat.le_of_ble_eq_true rfl, Nat.le_of_ble_eq_true rfl⟩) ⟨ax_blind (fun _ _ _ _ _ => trivial), va_recv hKc hPc (ci := 3) (q0 := 0) rfl rfl, ax_pre hPc hKc hDc (fun _ _ => trivial)⟩ rfl rfl hl.1 rfl (lv_room (Nat.le_of_ble_eq_true rfl)) dX7_feed_39 ⟨Nat.le_of_ble_eq_true rfl, Nat.le_of_ble_eq_true rfl⟩) hS (fun q _ h => hFc q h) hFc (fun u t H1 locs ht hvm hw hB hz1 hk1 hS => ?_)
  obtain ⟨f2_7, hP1, hK1, hD1⟩ := hB
  rw [ht] at hP1
  have hK1 := va_K.moved hvm.symm hK1
  obtain ⟨hP, hD⟩ := va_join (wr := [(x, .inr (7, [.ref rd, v 1, v 2, v 3, v 4, v 5, v 6, v 7, v 8, v 9, v 10]))]) (w1 := [(rd, .inr (3, [.int 12, k 1, k 2, .ref tp, k 4, k 5, k 6, k 7, k 8, k 9, k 10, k 11, k 12, k 13])), (tp, .inl (kt, 900, .inl (f2_7)))]) hP hD [1, 2] [0] rfl rfl (by decide) (by decide) hk1 hFc hP1 hD1
  have hK := (hK.sub (tys' := []) [] rfl).app hK1
  generalize H1 = H at hP hS ⊢
  have hP : va_P (dC, dI) vwCl [(x, .inr (7, [.ref rd, v 1, v 2, v 3, v 4, v 5, v 6, v 7, v 8, v 9, v 10])), (rd, .inr (3, [.int 12, k 1, k 2, .ref tp, k 4, k 5, k 6, k 7, k 8, k 9, k 10, k 11, k 12, k 13])), (tp, .inl (kt, 900, .inl (f2_7)))] H := hP
  have hD : va_D A [(x, .inr (7, [.ref rd, v 1, v 2, v 3, v 4, v 5, v 6, v 7, v 8, v 9, v 10])), (rd, .inr (3, [.int 12, k 1, k 2, .ref tp, k 4, k 5, k 6, k 7, k 8, k 9, k 10, k 11, k 12, k 13])), (tp, .inl (kt, 900, .inl (f2_7)))] := hD
  have hK : va_K (dC, dI) vwCl [(kt, .byte)] s := hK
  refine lv_aload_n hx hb dX7_feed_42 rfl (lv_at hl 0 rfl) ?_
  refine va_get (D := (dC, dI)) (ci := 7) (v := .ref rd) (C := RX7) (T := TX7) (N := 11) hx hb hts (by decide +kernel) hown hK hP 0 rfl rfl 0 (by decide) (hts (.fieldLink RX7 12 "WaxTurns" "reade\x72" "LWaxTurns$Reader;") (by decide +kernel)) (fun _ h9 => h9) rfl dX7_feed_43 ?_
  refine lv_iload hx hb dX7_feed_46 (lv_at hl 4 rfl) ?_
  have hPc := hP.sub (ws' := [(rd, .inr (3, [.int 12, k 1, k 2, .ref tp, k 4, k 5, k 6, k 7, k 8, k 9, k 10, k 11, k 12, k 13])), (tp, .inl (kt, 900, .inl (f2_7)))]) [1, 2] rfl
  have hDc := hD.sub (ws' := [(rd, .inr (3, [.int 12, k 1, k 2, .ref tp, k 4, k 5, k 6, k 7, k 8, k 9, k 10, k 11, k 12, k 13])), (tp, .inl (kt, 900, .inl (f2_7)))]) [1, 2] (by decide) rfl
  have hKc := hK.sub (tys' := [(kt, .byte)]) [0] rfl
  have hFc := va_free (wc := [(rd, .inr (3, [.int 12, k 1, k 2, .ref tp, k 4, k 5, k 6, k 7, k 8, k 9, k 10, k 11, k 12, k 13])), (tp, .inl (kt, 900, .inl (f2_7)))]) hD hS hA [1, 2] rfl
  refine va_callv (va_runV (As := [.int a3]) (rest := []) ⟨hx, hb, hml, hown, hts⟩ (c_X3_append_12 l dC dI H.size rd a3 k tp kt f2_7 ) (cwV 1 hts gX7_feed_X3_append rfl rfl rfl (by decide +kernel) ⟨Nat.le_of_ble_eq_true rfl, Nat.le_of_ble_eq_true rfl⟩) ⟨ax_blind (fun _ _ _ _ _ => trivial), va_recv hKc hPc (ci := 3) (q0 := 0) rfl rfl, ax_pre hPc hKc hDc (fun _ _ => trivial)⟩ rfl rfl hl.1 rfl (lv_room (Nat.le_of_ble_eq_true rfl)) dX7_feed_48 ⟨Nat.le_of_ble_eq_true rfl, Nat.le_of_ble_eq_true rfl⟩) hS (fun q _ h => hFc q h) hFc (fun u t H1 locs ht hvm hw hB hz1 hk1 hS => ?_)
  obtain ⟨f2_9, hP1, hK1, hD1⟩ := hB
  rw [ht] at hP1
  have hK1 := va_K.moved hvm.symm hK1
  obtain ⟨hP, hD⟩ := va_join (wr := [(x, .inr (7, [.ref rd, v 1, v 2, v 3, v 4, v 5, v 6, v 7, v 8, v 9, v 10]))]) (w1 := [(rd, .inr (3, [.int 16, k 1, k 2, .ref tp, k 4, k 5, k 6, k 7, k 8, k 9, k 10, k 11, k 12, k 13])), (tp, .inl (kt, 900, .inl (f2_9)))]) hP hD [1, 2] [0] rfl rfl (by decide) (by decide) hk1 hFc hP1 hD1
  have hK := (hK.sub (tys' := []) [] rfl).app hK1
  generalize H1 = H at hP hS ⊢
  have hP : va_P (dC, dI) vwCl [(x, .inr (7, [.ref rd, v 1, v 2, v 3, v 4, v 5, v 6, v 7, v 8, v 9, v 10])), (rd, .inr (3, [.int 16, k 1, k 2, .ref tp, k 4, k 5, k 6, k 7, k 8, k 9, k 10, k 11, k 12, k 13])), (tp, .inl (kt, 900, .inl (f2_9)))] H := hP
  have hD : va_D A [(x, .inr (7, [.ref rd, v 1, v 2, v 3, v 4, v 5, v 6, v 7, v 8, v 9, v 10])), (rd, .inr (3, [.int 16, k 1, k 2, .ref tp, k 4, k 5, k 6, k 7, k 8, k 9, k 10, k 11, k 12, k 13])), (tp, .inl (kt, 900, .inl (f2_9)))] := hD
  have hK : va_K (dC, dI) vwCl [(kt, .byte)] s := hK
  refine lv_aload_n hx hb dX7_feed_51 rfl (lv_at hl 0 rfl) ?_
  refine va_get (D := (dC, dI)) (ci := 7) (v := .ref rd) (C := RX7) (T := TX7) (N := 11) hx hb hts (by decide +kernel) hown hK hP 0 rfl rfl 0 (by decide) (hts (.fieldLink RX7 12 "WaxTurns" "reade\x72" "LWaxTurns$Reader;") (by decide +kernel)) (fun _ h9 => h9) rfl dX7_feed_52 ?_
  refine lv_iload hx hb dX7_feed_55 (lv_at hl 5 rfl) ?_
  have hPc := hP.sub (ws' := [(rd, .inr (3, [.int 16, k 1, k 2, .ref tp, k 4, k 5, k 6, k 7, k 8, k 9, k 10, k 11, k 12, k 13])), (tp, .inl (kt, 900, .inl (f2_9)))]) [1, 2] rfl
  have hDc := hD.sub (ws' := [(rd, .inr (3, [.int 16, k 1, k 2, .ref tp, k 4, k 5, k 6, k 7, k 8, k 9, k 10, k 11, k 12, k 13])), (tp, .inl (kt, 900, .inl (f2_9)))]) [1, 2] (by decide) rfl
  have hKc := hK.sub (tys' := [(kt, .byte)]) [0] rfl
  have hFc := va_free (wc := [(rd, .inr (3, [.int 16, k 1, k 2, .ref tp, k 4, k 5, k 6, k 7, k 8, k 9, k 10, k 11, k 12, k 13])), (tp, .inl (kt, 900, .inl (f2_9)))]) hD hS hA [1, 2] rfl
  refine va_callv (va_runV (As := [.int a4]) (rest := []) ⟨hx, hb, hml, hown, hts⟩ (c_X3_append_16 l dC dI H.size rd a4 k tp kt f2_9 ) (cwV 1 hts gX7_feed_X3_append rfl rfl rfl (by decide +kernel) ⟨Nat.le_of_ble_eq_true rfl, Nat.le_of_ble_eq_true rfl⟩) ⟨ax_blind (fun _ _ _ _ _ => trivial), va_recv hKc hPc (ci := 3) (q0 := 0) rfl rfl, ax_pre hPc hKc hDc (fun _ _ => trivial)⟩ rfl rfl hl.1 rfl (lv_room (Nat.le_of_ble_eq_true rfl)) dX7_feed_57 ⟨Nat.le_of_ble_eq_true rfl, Nat.le_of_ble_eq_true rfl⟩) hS (fun q _ h => hFc q h) hFc (fun u t H1 locs ht hvm hw hB hz1 hk1 hS => ?_)
  obtain ⟨f2_11, hP1, hK1, hD1⟩ := hB
  rw [ht] at hP1
  have hK1 := va_K.moved hvm.symm hK1
  obtain ⟨hP, hD⟩ := va_join (wr := [(x, .inr (7, [.ref rd, v 1, v 2, v 3, v 4, v 5, v 6, v 7, v 8, v 9, v 10]))]) (w1 := [(rd, .inr (3, [.int 20, k 1, k 2, .ref tp, k 4, k 5, k 6, k 7, k 8, k 9, k 10, k 11, k 12, k 13])), (tp, .inl (kt, 900, .inl (f2_11)))]) hP hD [1, 2] [0] rfl rfl (by decide) (by decide) hk1 hFc hP1 hD1
  have hK := (hK.sub (tys' := []) [] rfl).app hK1
  generalize H1 = H at hP hS ⊢
  have hP : va_P (dC, dI) vwCl [(x, .inr (7, [.ref rd, v 1, v 2, v 3, v 4, v 5, v 6, v 7, v 8, v 9, v 10])), (rd, .inr (3, [.int 20, k 1, k 2, .ref tp, k 4, k 5, k 6, k 7, k 8, k 9, k 10, k 11, k 12, k 13])), (tp, .inl (kt, 900, .inl (f2_11)))] H := hP
  have hD : va_D A [(x, .inr (7, [.ref rd, v 1, v 2, v 3, v 4, v 5, v 6, v 7, v 8, v 9, v 10])), (rd, .inr (3, [.int 20, k 1, k 2, .ref tp, k 4, k 5, k 6, k 7, k 8, k 9, k 10, k 11, k 12, k 13])), (tp, .inl (kt, 900, .inl (f2_11)))] := hD
  have hK : va_K (dC, dI) vwCl [(kt, .byte)] s := hK
  refine lv_aload_n hx hb dX7_feed_60 rfl (lv_at hl 0 rfl) ?_
  refine va_get (D := (dC, dI)) (ci := 7) (v := .ref rd) (C := RX7) (T := TX7) (N := 11) hx hb hts (by decide +kernel) hown hK hP 0 rfl rfl 0 (by decide) (hts (.fieldLink RX7 12 "WaxTurns" "reade\x72" "LWaxTurns$Reader;") (by decide +kernel)) (fun _ h9 => h9) rfl dX7_feed_61 ?_
  refine va_get (D := (dC, dI)) (ci := 3) (v := .int 20) (C := RX3) (T := TX3) (N := 14) hx hb hts (by decide +kernel) hown hK hP 1 rfl rfl 0 (by decide) (hts (.fieldLink RX7 71 "WaxTurns$Reade\x72" "tapeSize" "I") (by decide +kernel)) (fun _ h9 => h9) rfl dX7_feed_64 ?_
  have hP9 := hP.sub (ws' := []) [] rfl
  have hD9 := hD.sub (ws' := []) [] (by decide) rfl
  have hK9 := hK.sub (tys' := []) [] rfl
  exact W.iret (v := 20) hx hb hr (fun t ht hW => ⟨⟨20, (), rfl, rfl, by rw [ht]; exact hP9, va_K.moved hW.alike hK9, hD9⟩, hS.F ht⟩) hS.2.2 dX7_feed_67
