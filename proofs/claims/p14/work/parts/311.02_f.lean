set_option maxHeartbeats 4000000 in
set_option maxRecDepth 100000 in
theorem f_X3_readHall (l : Launch) (dC : Nat → ClassId) (dI : Nat → Nat → Nat) (sz : Nat) (a0 : Nat) (a0g_0 a0g_4 a0g_6 : Value) (a0_1 : Int32) (a0_2 : Int32) (a0_3 : Nat) (a0_5 : Nat) (a0_7 : Int32) (a0_8 : Int32) (a0_9 : Int32) (a0_10 : Int32) (a0_11 : Int64) (a0_12 : Int32) (a0_13 : Int32) (ka0_3 : ClassId) (fa0_3 : Nat → Int32) (a0_5_0 : Int32) (a0_5_1 : Int32) (a0_5_2 : Int32) (a0_5_3 : Int32) (a0_5g_4 a0_5g_5 a0_5g_6 a0_5g_7 a0_5g_8 a0_5g_9 a0_5g_10 a0_5g_11 a0_5g_12 a0_5g_13 a0_5g_14 : Value) (ad : Nat → Nat) (ba0_7_l : (0 : Int) ≤ a0_7.toInt) (ba0_7_u : a0_7.toInt ≤ (900 : Int)) (ba0_8_l : (0 : Int) ≤ a0_8.toInt) (ba0_8_u : a0_8.toInt ≤ (900 : Int)) (ba0_9_l : (0 : Int) ≤ a0_9.toInt) (ba0_9_u : a0_9.toInt ≤ (900 : Int)) (ba0_10_l : (0 : Int) ≤ a0_10.toInt) (ba0_10_u : a0_10.toInt ≤ (4 : Int)) (ba0_5_0_l : (0 : Int) ≤ a0_5_0.toInt) (ba0_5_0_u : a0_5_0.toInt ≤ (9 : Int)) : Met l yX3_readHall wsX3_readHall ({ frames := 6, cells := 0, slots := 0, locals := 132 }) (va_Pc [.ref a0] (ax_C dC dI sz [(a0, .inr (3, [a0g_0, .int a0_1, .int a0_2, .ref a0_3, a0g_4, .ref a0_5, a0g_6, .int a0_7, .int a0_8, .int a0_9, .int a0_10, .long a0_11, .int a0_12, .int a0_13])), (a0_3, .inl (ka0_3, 900, .inl (fa0_3))), (a0_5, .inr (0, [.int a0_5_0, .int a0_5_1, .int a0_5_2, .int a0_5_3, a0_5g_4, a0_5g_5, a0_5g_6, a0_5g_7, a0_5g_8, a0_5g_9, a0_5g_10, a0_5g_11, a0_5g_12, a0_5g_13, a0_5g_14]))] [(ka0_3, .byte)] (fun U => sxc_T ad (va_A [(a0, .inr (3, [a0g_0, .int a0_1, .int a0_2, .ref a0_3, a0g_4, .ref a0_5, a0g_6, .int a0_7, .int a0_8, .int a0_9, .int a0_10, .long a0_11, .int a0_12, .int a0_13])), (a0_3, .inl (ka0_3, 900, .inl (fa0_3))), (a0_5, .inr (0, [.int a0_5_0, .int a0_5_1, .int a0_5_2, .int a0_5_3, a0_5g_4, a0_5g_5, a0_5g_6, a0_5g_7, a0_5g_8, a0_5g_9, a0_5g_10, a0_5g_11, a0_5g_12, a0_5g_13, a0_5g_14]))] sz) U ∧ va_Nw (.methodLinkNest RX3 223 yX7_within RX7) U))) (va_Qi (fun (r : Int32) (_ : Unit) => ((r = 1) ∨ (r = 0)) ∧ r.toInt = (Ff_X3_readHall a0_1.toInt a0_2.toInt a0_7.toInt a0_9.toInt a0_11.toInt a0_12.toInt a0_13.toInt (fl_A fa0_3) a0_5_0.toInt a0_5_1.toInt a0_5_2.toInt a0_5_3.toInt).1) (fun (_ : Unit) (t : State) => ∃ na0_1 : Int32, ∃ na0_2 : Int32, ∃ na0_8 : Int32, ∃ na0_9 : Int32, ∃ na0_10 : Int32, ∃ na0_11 : Int64, ∃ na0_12 : Int32, ∃ na0_13 : Int32, ∃ na0_5_0 : Int32, ∃ na0_5_1 : Int32, ∃ na0_5_2 : Int32, ∃ na0_5_3 : Int32, ((0 : Int) ≤ na0_8.toInt ∧ na0_8.toInt ≤ 900) ∧ ((0 : Int) ≤ na0_9.toInt ∧ na0_9.toInt ≤ 900) ∧ ((0 : Int) ≤ na0_10.toInt ∧ na0_10.toInt ≤ 4) ∧ ((0 : Int) ≤ na0_5_0.toInt ∧ na0_5_0.toInt ≤ 9) ∧ ((Ff_X3_readHall a0_1.toInt a0_2.toInt a0_7.toInt a0_9.toInt a0_11.toInt a0_12.toInt a0_13.toInt (fl_A fa0_3) a0_5_0.toInt a0_5_1.toInt a0_5_2.toInt a0_5_3.toInt).2 = (na0_1.toInt, na0_2.toInt, na0_8.toInt, na0_9.toInt, na0_10.toInt, na0_11.toInt, na0_12.toInt, na0_13.toInt, na0_5_0.toInt, na0_5_1.toInt, na0_5_2.toInt, na0_5_3.toInt)) ∧ ax_B dC dI (va_A [(a0, .inr (3, [a0g_0, .int a0_1, .int a0_2, .ref a0_3, a0g_4, .ref a0_5, a0g_6, .int a0_7, .int a0_8, .int a0_9, .int a0_10, .long a0_11, .int a0_12, .int a0_13])), (a0_3, .inl (ka0_3, 900, .inl (fa0_3))), (a0_5, .inr (0, [.int a0_5_0, .int a0_5_1, .int a0_5_2, .int a0_5_3, a0_5g_4, a0_5g_5, a0_5g_6, a0_5g_7, a0_5g_8, a0_5g_9, a0_5g_10, a0_5g_11, a0_5g_12, a0_5g_13, a0_5g_14]))] sz) [(a0, .inr (3, [a0g_0, .int na0_1, .int na0_2, .ref a0_3, a0g_4, .ref a0_5, a0g_6, .int a0_7, .int na0_8, .int na0_9, .int na0_10, .long na0_11, .int na0_12, .int na0_13])), (a0_3, .inl (ka0_3, 900, .inl (fa0_3))), (a0_5, .inr (0, [.int na0_5_0, .int na0_5_1, .int na0_5_2, .int na0_5_3, a0_5g_4, a0_5g_5, a0_5g_6, a0_5g_7, a0_5g_8, a0_5g_9, a0_5g_10, a0_5g_11, a0_5g_12, a0_5g_13, a0_5g_14]))] [(ka0_3, .byte)] t) (va_A [(a0, .inr (3, [a0g_0, .int a0_1, .int a0_2, .ref a0_3, a0g_4, .ref a0_5, a0g_6, .int a0_7, .int a0_8, .int a0_9, .int a0_10, .long a0_11, .int a0_12, .int a0_13])), (a0_3, .inl (ka0_3, 900, .inl (fa0_3))), (a0_5, .inr (0, [.int a0_5_0, .int a0_5_1, .int a0_5_2, .int a0_5_3, a0_5g_4, a0_5g_5, a0_5g_6, a0_5g_7, a0_5g_8, a0_5g_9, a0_5g_10, a0_5g_11, a0_5g_12, a0_5g_13, a0_5g_14]))] sz)) 0 0 (va_A [(a0, .inr (3, [a0g_0, .int a0_1, .int a0_2, .ref a0_3, a0g_4, .ref a0_5, a0g_6, .int a0_7, .int a0_8, .int a0_9, .int a0_10, .long a0_11, .int a0_12, .int a0_13])), (a0_3, .inl (ka0_3, 900, .inl (fa0_3))), (a0_5, .inr (0, [.int a0_5_0, .int a0_5_1, .int a0_5_2, .int a0_5_3, a0_5g_4, a0_5g_5, a0_5g_6, a0_5g_7, a0_5g_8, a0_5g_9, a0_5g_10, a0_5g_11, a0_5g_12, a0_5g_13, a0_5g_14]))] sz) := by
  refine Met.ofW (cc := cX3_readHall) (maxL := 2) (ret := (some .boolean)) (by decide) rfl ?_
  intro p e s m args below meth c s₁ B hml hv
  obtain ⟨rfl, hsz, hP, hK, hD0, hE⟩ := hv
  have hx := B.exec
  have hb := B.bytes
  have hr := B.returns
  have hts := atoms_spec (ws := wsX3_readHall) B.pre
  have hown : s.vm.findClass RX3 = some m.cls := findClass_of_methodNamed B.named
  have hlocks := B.notSynchronized
  subst hsz
  have hD := hD0.self (sz := s.heap.size)
  generalize hAe : va_A [(a0, .inr (3, [a0g_0, .int a0_1, .int a0_2, .ref a0_3, a0g_4, .ref a0_5, a0g_6, .int a0_7, .int a0_8, .int a0_9, .int a0_10, .long a0_11, .int a0_12, .int a0_13])), (a0_3, .inl (ka0_3, 900, .inl (fa0_3))), (a0_5, .inr (0, [.int a0_5_0, .int a0_5_1, .int a0_5_2, .int a0_5_3, a0_5g_4, a0_5g_5, a0_5g_6, a0_5g_7, a0_5g_8, a0_5g_9, a0_5g_10, a0_5g_11, a0_5g_12, a0_5g_13, a0_5g_14]))] s.heap.size = A at hD hE ⊢
  have hA : ∀ q : Nat, s.heap.size ≤ q → A q := fun q h => by rw [← hAe]; exact Or.inr h
  have hS : va_S A s.heap s.heap [] := va_S.rf
  have hP : va_P (dC, dI) vwCl [(a0, .inr (3, [a0g_0, .int a0_1, .int a0_2, .ref a0_3, a0g_4, .ref a0_5, a0g_6, .int a0_7, .int a0_8, .int a0_9, .int a0_10, .long a0_11, .int a0_12, .int a0_13])), (a0_3, .inl (ka0_3, 900, .inl (fa0_3))), (a0_5, .inr (0, [.int a0_5_0, .int a0_5_1, .int a0_5_2, .int a0_5_3, a0_5g_4, a0_5g_5, a0_5g_6, a0_5g_7, a0_5g_8, a0_5g_9, a0_5g_10, a0_5g_11, a0_5g_12, a0_5g_13, a0_5g_14]))] s.heap := hP
  obtain ⟨hE0, hE1⟩ := hE
  have hl := lv_entry ([.ref a0]) (n := 2) (Nat.le_of_ble_eq_true rfl)
  rw [lg_entry_eq]
  generalize (lg_sl ([.ref a0]) ++ List.replicate (2 - (lg_sl ([.ref a0])).length) Slot.unset).toArray = ls at hl ⊢
  have hl : lv_has ls 2 [(0, .ref a0)] := hl
  generalize hFX : Ff_X3_readHall a0_1.toInt a0_2.toInt a0_7.toInt a0_9.toInt a0_11.toInt a0_12.toInt a0_13.toInt (fl_A fa0_3) a0_5_0.toInt a0_5_1.toInt a0_5_2.toInt a0_5_3.toInt = FX at ⊢
  have hF0 := hFX.symm.trans (Ff_X3_readHall.eq_1 a0_1.toInt a0_2.toInt a0_7.toInt a0_9.toInt a0_11.toInt a0_12.toInt a0_13.toInt (fl_A fa0_3) a0_5_0.toInt a0_5_1.toInt a0_5_2.toInt a0_5_3.toInt)
  refine lv_aload_n hx hb dX3_readHall_0 rfl (lv_at hl 0 rfl) ?_
  obtain ⟨hPc, hDc, hFc, hCc⟩ := zc_cut (wc := [(a0, .inr (3, [a0g_0, .int a0_1, .int a0_2, .ref a0_3, a0g_4, .ref a0_5, a0g_6, .int a0_7, .int a0_8, .int a0_9, .int a0_10, .long a0_11, .int a0_12, .int a0_13])), (a0_3, .inl (ka0_3, 900, .inl (fa0_3)))]) hP hD hS hA [0, 1] (by decide +kernel) rfl
  have hKc := hK.sub (tys' := [(ka0_3, .byte)]) [0] rfl
  refine va_callv (va_runV (As := []) (rest := []) ⟨hx, hb, hml, hown, hts⟩ (f_X3_advance l dC dI s.heap.size a0 a0g_0 (.int a0_1) (.int a0_2) a0g_4 (.ref a0_5) a0g_6 (.int a0_13) a0_3 a0_7 a0_8 a0_9 a0_10 a0_11 a0_12 ka0_3 fa0_3 ba0_7_l ba0_7_u ba0_8_l ba0_8_u ba0_9_l ba0_9_u ba0_10_l ba0_10_u) (cwV 0 hts gX3_readHall_X3_advance rfl rfl rfl zd_X3_advance ⟨Nat.le_of_ble_eq_true rfl, Nat.le_of_ble_eq_true rfl⟩) ⟨ax_blind (fun _ _ _ _ _ => trivial), zr_3 hKc hPc (q0 := 0) rfl, ax_pre hPc hKc hDc (fun _ _ => trivial)⟩ rfl rfl hl.1 rfl (lv_room (Nat.le_of_ble_eq_true rfl)) dX3_readHall_1 ⟨Nat.le_of_ble_eq_true rfl, Nat.le_of_ble_eq_true rfl⟩) hS (fun q _ h => hFc q h) hFc (fun u t H locs ht hvm hw hB hz1 hk1 hS => ?_)
  obtain ⟨v1na0_8, v1na0_9, v1na0_10, v1na0_11, v1na0_12, bv1na0_8, bv1na0_9, bv1na0_10, hraw1_0, hP1, hK1, hD1⟩ := hB
  rw [ht] at hP1
  obtain ⟨hP, hD⟩ := zc_back (w := [(a0, .inr (3, [a0g_0, .int a0_1, .int a0_2, .ref a0_3, a0g_4, .ref a0_5, a0g_6, .int a0_7, .int v1na0_8, .int v1na0_9, .int v1na0_10, .long v1na0_11, .int v1na0_12, .int a0_13])), (a0_3, .inl (ka0_3, 900, .inl (fa0_3))), (a0_5, .inr (0, [.int a0_5_0, .int a0_5_1, .int a0_5_2, .int a0_5_3, a0_5g_4, a0_5g_5, a0_5g_6, a0_5g_7, a0_5g_8, a0_5g_9, a0_5g_10, a0_5g_11, a0_5g_12, a0_5g_13, a0_5g_14]))]) hP hD hCc hk1 hFc hP1 hD1 [.inr 0, .inr 1, .inl 2] (by decide +kernel) rfl
  have hc1 : Ff_X3_advance a0_7.toInt a0_9.toInt a0_11.toInt a0_12.toInt (fl_A fa0_3) = (v1na0_8.toInt, v1na0_9.toInt, v1na0_10.toInt, v1na0_11.toInt, v1na0_12.toInt) := hraw1_0
  have hF0 := hF0.trans (fl_c5_eq hc1)
  refine lv_aload_n hx hb dX3_readHall_4 rfl (lv_at hl 0 rfl) ?_
  refine va_ldcS hx hb hown (sxc_R5 hE0) dX3_readHall_5 ?_
  refine lv_iconst (v := 2) hx hb dX3_readHall_7 zk_iconst_2 ?_
  refine lv_bipush (v := 9) hx hb dX3_readHall_8 zk_bipush_9 ?_
  obtain ⟨hPc, hDc, hFc, hCc⟩ := zc_cut (wc := [(a0, .inr (3, [a0g_0, .int a0_1, .int a0_2, .ref a0_3, a0g_4, .ref a0_5, a0g_6, .int a0_7, .int v1na0_8, .int v1na0_9, .int v1na0_10, .long v1na0_11, .int v1na0_12, .int a0_13])), (a0_3, .inl (ka0_3, 900, .inl (fa0_3)))]) hP hD hS hA [0, 1] (by decide +kernel) rfl
  have hKc := hK.sub (tys' := [(ka0_3, .byte)]) [0] rfl
  refine va_calli (va_runV (As := [.ref (ad 5), .int 2, .int 9]) (rest := []) ⟨hx, hb, hml, hown, hts⟩ (f_X3_takeWhole l dC dI H.size a0 (ad 5) 2 9 a0g_0 a0g_4 (.ref a0_5) a0g_6 a0_1 a0_2 a0_3 a0_7 v1na0_8 v1na0_9 v1na0_10 v1na0_11 v1na0_12 a0_13 ka0_3 fa0_3 7 (sxc 5) ba0_7_l ba0_7_u bv1na0_8.1 bv1na0_8.2 bv1na0_9.1 bv1na0_9.2 bv1na0_10.1 bv1na0_10.2) (cwV 3 hts gX3_readHall_X3_takeWhole rfl rfl rfl zd_X3_takeWhole ⟨Nat.le_of_ble_eq_true rfl, Nat.le_of_ble_eq_true rfl⟩) ⟨ax_blind (fun _ _ _ _ hq => ⟨sxc_W_same _ _ _ _ (hq.1), va_Nw.same rfl rfl (hq.2)⟩), zr_3 hKc hPc (q0 := 0) rfl, ax_preE hPc hKc hDc (fun U hU hW => ⟨sxc_W_to (sxc_T_w hE0 (i := 5) (by decide)) hS.2.1 hFc hU hW, va_Nw.warmM hW hE1⟩)⟩ rfl rfl hl.1 rfl (lv_room (Nat.le_of_ble_eq_true rfl)) dX3_readHall_10 ⟨Nat.le_of_ble_eq_true rfl, Nat.le_of_ble_eq_true rfl⟩) hS (fun q _ h => hFc q h) hFc (fun r10 v10na0_13 t H1 locs ht hvm hw hB hz1 hk1 hS => ?_)
  obtain ⟨v10na0_1, v10na0_2, v10na0_8, v10na0_9, v10na0_10, v10na0_11, v10na0_12, bv10na0_8, bv10na0_9, bv10na0_10, hraw10_0, hP1, hK1, hD1⟩ := hB
  rw [ht] at hP1
  obtain ⟨hP, hD⟩ := zc_back (w := [(a0, .inr (3, [a0g_0, .int v10na0_1, .int v10na0_2, .ref a0_3, a0g_4, .ref a0_5, a0g_6, .int a0_7, .int v10na0_8, .int v10na0_9, .int v10na0_10, .long v10na0_11, .int v10na0_12, .int v10na0_13])), (a0_3, .inl (ka0_3, 900, .inl (fa0_3))), (a0_5, .inr (0, [.int a0_5_0, .int a0_5_1, .int a0_5_2, .int a0_5_3, a0_5g_4, a0_5g_5, a0_5g_6, a0_5g_7, a0_5g_8, a0_5g_9, a0_5g_10, a0_5g_11, a0_5g_12, a0_5g_13, a0_5g_14]))]) hP hD hCc hk1 hFc hP1 hD1 [.inr 0, .inr 1, .inl 2] (by decide +kernel) rfl
  generalize H1 = H at hP hS ⊢
  obtain ⟨hw, hfr10⟩ := hw
  rw [show (2 : Int32).toInt = 2 from by decide, show (9 : Int32).toInt = 9 from by decide, show ((7 : Nat) : Int) = 7 from rfl] at hfr10 hraw10_0
  have hc10 : Ff_X3_takeWhole 2 9 a0_1.toInt a0_2.toInt a0_7.toInt v1na0_8.toInt v1na0_9.toInt v1na0_10.toInt v1na0_11.toInt v1na0_12.toInt a0_13.toInt (fl_A fa0_3) 7 (fl_A (sxc 5)) = (r10.toInt, v10na0_1.toInt, v10na0_2.toInt, v10na0_8.toInt, v10na0_9.toInt, v10na0_10.toInt, v10na0_11.toInt, v10na0_12.toInt, v10na0_13.toInt) := Prod.ext hfr10.symm hraw10_0
  have hF0 := hF0.trans (fl_c9_eq hc10)
  rcases hw with hw | hw
  · obtain ⟨hw, h10⟩ := hw
    subst hw
    have l10k0_v10na0_13 : (2 : Int) ≤ v10na0_13.toInt := Int.le_trans zq12 h10.1
    have u10k0_v10na0_13 : v10na0_13.toInt ≤ (9 : Int) := Int.le_trans h10.2 zq3
    have hF0 := hF0.trans (if_pos (by decide))
    refine lv_if_ne (tgt := 18) hx hb dX3_readHall_13 (by decide) (fun _ => ?_) (fun c13 => absurd c13 (by decide +kernel))
    refine lv_aload_n hx hb dX3_readHall_18 rfl (lv_at hl 0 rfl) ?_
    refine va_get (D := (dC, dI)) (ci := 3) (v := .int v10na0_13) (C := RX3) (T := TX3) (N := 14) hx hb hts zi_X3_readHall_3 hown hK hP 0 rfl rfl 13 (by decide) (hts (.fieldLink RX3 156 "WaxTurns$Reade\x72" "taken" "I") (zm_X3_readHall_r1 (List.mem_of_getElem? (i := 0) rfl))) (fun _ h9 => h9) rfl dX3_readHall_19 ?_
    refine lv_istore_n (lv' := [(1, .int v10na0_13), (0, .ref a0)]) hx hb dX3_readHall_22 rfl hl (by decide) rfl (fun ls hl => ?_)
    refine lv_aload_n hx hb dX3_readHall_23 rfl (lv_at hl 1 rfl) ?_
    refine va_ldcS hx hb hown (sxc_R6 hE0) dX3_readHall_24 ?_
    refine lv_iconst (v := 1) hx hb dX3_readHall_26 zk_iconst_1 ?_
    refine lv_bipush (v := 20) hx hb dX3_readHall_27 zk_bipush_20 ?_
    obtain ⟨hPc, hDc, hFc, hCc⟩ := zc_cut (wc := [(a0, .inr (3, [a0g_0, .int v10na0_1, .int v10na0_2, .ref a0_3, a0g_4, .ref a0_5, a0g_6, .int a0_7, .int v10na0_8, .int v10na0_9, .int v10na0_10, .long v10na0_11, .int v10na0_12, .int v10na0_13])), (a0_3, .inl (ka0_3, 900, .inl (fa0_3)))]) hP hD hS hA [0, 1] (by decide +kernel) rfl
    have hKc := hK.sub (tys' := [(ka0_3, .byte)]) [0] rfl
    refine va_calli (va_runV (As := [.ref (ad 6), .int 1, .int 20]) (rest := []) ⟨hx, hb, hml, hown, hts⟩ (f_X3_takeWhole l dC dI H.size a0 (ad 6) 1 20 a0g_0 a0g_4 (.ref a0_5) a0g_6 v10na0_1 v10na0_2 a0_3 a0_7 v10na0_8 v10na0_9 v10na0_10 v10na0_11 v10na0_12 v10na0_13 ka0_3 fa0_3 4 (sxc 6) ba0_7_l ba0_7_u bv10na0_8.1 bv10na0_8.2 bv10na0_9.1 bv10na0_9.2 bv10na0_10.1 bv10na0_10.2) (cwV 3 hts gX3_readHall_X3_takeWhole rfl rfl rfl zd_X3_takeWhole ⟨Nat.le_of_ble_eq_true rfl, Nat.le_of_ble_eq_true rfl⟩) ⟨ax_blind (fun _ _ _ _ hq => ⟨sxc_W_same _ _ _ _ (hq.1), va_Nw.same rfl rfl (hq.2)⟩), zr_3 hKc hPc (q0 := 0) rfl, ax_preE hPc hKc hDc (fun U hU hW => ⟨sxc_W_to (sxc_T_w hE0 (i := 6) (by decide)) hS.2.1 hFc hU hW, va_Nw.warmM hW hE1⟩)⟩ rfl rfl hl.1 rfl (lv_room (Nat.le_of_ble_eq_true rfl)) dX3_readHall_29 ⟨Nat.le_of_ble_eq_true rfl, Nat.le_of_ble_eq_true rfl⟩) hS (fun q _ h => hFc q h) hFc (fun r29 v29na0_13 t H1 locs ht hvm hw hB hz1 hk1 hS => ?_)
    obtain ⟨v29na0_1, v29na0_2, v29na0_8, v29na0_9, v29na0_10, v29na0_11, v29na0_12, bv29na0_8, bv29na0_9, bv29na0_10, hraw29_0, hP1, hK1, hD1⟩ := hB
    rw [ht] at hP1
    obtain ⟨hP, hD⟩ := zc_back (w := [(a0, .inr (3, [a0g_0, .int v29na0_1, .int v29na0_2, .ref a0_3, a0g_4, .ref a0_5, a0g_6, .int a0_7, .int v29na0_8, .int v29na0_9, .int v29na0_10, .long v29na0_11, .int v29na0_12, .int v29na0_13])), (a0_3, .inl (ka0_3, 900, .inl (fa0_3))), (a0_5, .inr (0, [.int a0_5_0, .int a0_5_1, .int a0_5_2, .int a0_5_3, a0_5g_4, a0_5g_5, a0_5g_6, a0_5g_7, a0_5g_8, a0_5g_9, a0_5g_10, a0_5g_11, a0_5g_12, a0_5g_13, a0_5g_14]))]) hP hD hCc hk1 hFc hP1 hD1 [.inr 0, .inr 1, .inl 2] (by decide +kernel) rfl
    generalize H1 = H at hP hS ⊢
    obtain ⟨hw, hfr29⟩ := hw
    rw [show (1 : Int32).toInt = 1 from by decide, show (20 : Int32).toInt = 20 from by decide, show ((4 : Nat) : Int) = 4 from rfl] at hfr29 hraw29_0
    have hc29 : Ff_X3_takeWhole 1 20 v10na0_1.toInt v10na0_2.toInt a0_7.toInt v10na0_8.toInt v10na0_9.toInt v10na0_10.toInt v10na0_11.toInt v10na0_12.toInt v10na0_13.toInt (fl_A fa0_3) 4 (fl_A (sxc 6)) = (r29.toInt, v29na0_1.toInt, v29na0_2.toInt, v29na0_8.toInt, v29na0_9.toInt, v29na0_10.toInt, v29na0_11.toInt, v29na0_12.toInt, v29na0_13.toInt) := Prod.ext hfr29.symm hraw29_0
    have hF0 := hF0.trans (fl_c9_eq hc29)
    rcases hw with hw | hw
    · obtain ⟨hw, h29⟩ := hw
      subst hw
      have l29k0_v29na0_13 : (1 : Int) ≤ v29na0_13.toInt := Int.le_trans zq1 h29.1
      have u29k0_v29na0_13 : v29na0_13.toInt ≤ (20 : Int) := Int.le_trans h29.2 zq154
      have hF0 := hF0.trans (if_pos (by decide))
      refine lv_if_ne (tgt := 37) hx hb dX3_readHall_32 (by decide) (fun _ => ?_) (fun c32 => absurd c32 (by decide +kernel))
      refine lv_aload_n hx hb dX3_readHall_37 rfl (lv_at hl 1 rfl) ?_
      refine va_get (D := (dC, dI)) (ci := 3) (v := .ref a0_5) (C := RX3) (T := TX3) (N := 14) hx hb hts zi_X3_readHall_3 hown hK hP 0 rfl rfl 5 (by decide) (hts (.fieldLink RX3 22 "WaxTurns$Reade\x72" "draft" "LWaxTurns$Hall;") (zm_X3_readHall_r1 (List.mem_of_getElem? (i := 1) rfl))) (fun _ h9 => h9) rfl dX3_readHall_38 ?_
      refine lv_aload_n hx hb dX3_readHall_41 rfl (lv_at hl 1 rfl) ?_
      refine va_get (D := (dC, dI)) (ci := 3) (v := .int v29na0_13) (C := RX3) (T := TX3) (N := 14) hx hb hts zi_X3_readHall_3 hown hK hP 0 rfl rfl 13 (by decide) (hts (.fieldLink RX3 156 "WaxTurns$Reade\x72" "taken" "I") (zm_X3_readHall_r1 (List.mem_of_getElem? (i := 0) rfl))) (fun _ h9 => h9) rfl dX3_readHall_42 ?_
      refine va_put (D := (dC, dI)) (ci := 0) (v := .int v29na0_13) (ty := .int) (C := RX0) (T := TX0) (N := 15) hx hb hts zi_X3_readHall_0 tyX0 tyX0_ok nmX0 hown hK hP hD hS 2 rfl rfl 1 (by decide) (hts (.fieldLink RX3 161 "WaxTurns$Hall" "span" "I") (zm_X3_readHall_r1 (List.mem_of_getElem? (i := 2) rfl))) (fun _ h9 => h9) rfl (tyX0_ok 1 (by decide)) rfl rfl (Nat.le_of_ble_eq_true rfl) dX3_readHall_45 (fun H locs hP hD hS => ?_)
      obtain ⟨hP, hD⟩ := zc_re (w := [(a0, .inr (3, [a0g_0, .int v29na0_1, .int v29na0_2, .ref a0_3, a0g_4, .ref a0_5, a0g_6, .int a0_7, .int v29na0_8, .int v29na0_9, .int v29na0_10, .long v29na0_11, .int v29na0_12, .int v29na0_13])), (a0_3, .inl (ka0_3, 900, .inl (fa0_3))), (a0_5, .inr (0, [.int a0_5_0, .int v29na0_13, .int a0_5_2, .int a0_5_3, a0_5g_4, a0_5g_5, a0_5g_6, a0_5g_7, a0_5g_8, a0_5g_9, a0_5g_10, a0_5g_11, a0_5g_12, a0_5g_13, a0_5g_14]))]) hP hD rfl
      refine lv_aload_n hx hb dX3_readHall_48 rfl (lv_at hl 1 rfl) ?_
      refine va_ldcS hx hb hown (sxc_R7 hE0) dX3_readHall_49 ?_
      refine lv_iconst (v := 0) hx hb dX3_readHall_51 zk_iconst_0 ?_
      refine lv_iload_n hx hb dX3_readHall_52 rfl (lv_at hl 0 rfl) ?_
      refine lv_iconst (v := 1) hx hb dX3_readHall_53 zk_iconst_1 ?_
      refine lv_isub hx hb dX3_readHall_54 ?_
      refine lv_topi (fun x54 ex54 => ?_)
      have qx54 : x54.toInt = v10na0_13.toInt - (1 : Int32).toInt := ai_sub ex54 ⟨l10k0_v10na0_13, u10k0_v10na0_13⟩ ⟨zq1, zq0⟩ (by decide) (by decide)
      have bx54 : (1 : Int) ≤ x54.toInt ∧ x54.toInt ≤ 8 := ⟨by rw [qx54]; exact Int.sub_le_sub l10k0_v10na0_13 zq0, by rw [qx54]; exact Int.sub_le_sub u10k0_v10na0_13 zq1⟩
      have wx54 : x54.toInt = v10na0_13.toInt - 1 := qx54
      have hF0 := hF0.trans (fl_lt_eq (show x54.toInt = v10na0_13.toInt - 1 from qx54))
      obtain ⟨hPc, hDc, hFc, hCc⟩ := zc_cut (wc := [(a0, .inr (3, [a0g_0, .int v29na0_1, .int v29na0_2, .ref a0_3, a0g_4, .ref a0_5, a0g_6, .int a0_7, .int v29na0_8, .int v29na0_9, .int v29na0_10, .long v29na0_11, .int v29na0_12, .int v29na0_13])), (a0_3, .inl (ka0_3, 900, .inl (fa0_3)))]) hP hD hS hA [0, 1] (by decide +kernel) rfl
      have hKc := hK.sub (tys' := [(ka0_3, .byte)]) [0] rfl
      refine va_calli (va_runV (As := [.ref (ad 7), .int 0, .int x54]) (rest := []) ⟨hx, hb, hml, hown, hts⟩ (f_X3_takeWhole l dC dI H.size a0 (ad 7) 0 x54 a0g_0 a0g_4 (.ref a0_5) a0g_6 v29na0_1 v29na0_2 a0_3 a0_7 v29na0_8 v29na0_9 v29na0_10 v29na0_11 v29na0_12 v29na0_13 ka0_3 fa0_3 6 (sxc 7) ba0_7_l ba0_7_u bv29na0_8.1 bv29na0_8.2 bv29na0_9.1 bv29na0_9.2 bv29na0_10.1 bv29na0_10.2) (cwV 3 hts gX3_readHall_X3_takeWhole rfl rfl rfl zd_X3_takeWhole ⟨Nat.le_of_ble_eq_true rfl, Nat.le_of_ble_eq_true rfl⟩) ⟨ax_blind (fun _ _ _ _ hq => ⟨sxc_W_same _ _ _ _ (hq.1), va_Nw.same rfl rfl (hq.2)⟩), zr_3 hKc hPc (q0 := 0) rfl, ax_preE hPc hKc hDc (fun U hU hW => ⟨sxc_W_to (sxc_T_w hE0 (i := 7) (by decide)) hS.2.1 hFc hU hW, va_Nw.warmM hW hE1⟩)⟩ rfl rfl hl.1 rfl (lv_room (Nat.le_of_ble_eq_true rfl)) dX3_readHall_55 ⟨Nat.le_of_ble_eq_true rfl, Nat.le_of_ble_eq_true rfl⟩) hS (fun q _ h => hFc q h) hFc (fun r55 v55na0_13 t H1 locs ht hvm hw hB hz1 hk1 hS => ?_)
      obtain ⟨v55na0_1, v55na0_2, v55na0_8, v55na0_9, v55na0_10, v55na0_11, v55na0_12, bv55na0_8, bv55na0_9, bv55na0_10, hraw55_0, hP1, hK1, hD1⟩ := hB
      rw [ht] at hP1
      obtain ⟨hP, hD⟩ := zc_back (w := [(a0, .inr (3, [a0g_0, .int v55na0_1, .int v55na0_2, .ref a0_3, a0g_4, .ref a0_5, a0g_6, .int a0_7, .int v55na0_8, .int v55na0_9, .int v55na0_10, .long v55na0_11, .int v55na0_12, .int v55na0_13])), (a0_3, .inl (ka0_3, 900, .inl (fa0_3))), (a0_5, .inr (0, [.int a0_5_0, .int v29na0_13, .int a0_5_2, .int a0_5_3, a0_5g_4, a0_5g_5, a0_5g_6, a0_5g_7, a0_5g_8, a0_5g_9, a0_5g_10, a0_5g_11, a0_5g_12, a0_5g_13, a0_5g_14]))]) hP hD hCc hk1 hFc hP1 hD1 [.inr 0, .inr 1, .inl 2] (by decide +kernel) rfl
      generalize H1 = H at hP hS ⊢
      obtain ⟨hw, hfr55⟩ := hw
      rw [show (0 : Int32).toInt = 0 from by decide, show ((6 : Nat) : Int) = 6 from rfl] at hfr55 hraw55_0
      have hc55 : Ff_X3_takeWhole 0 x54.toInt v29na0_1.toInt v29na0_2.toInt a0_7.toInt v29na0_8.toInt v29na0_9.toInt v29na0_10.toInt v29na0_11.toInt v29na0_12.toInt v29na0_13.toInt (fl_A fa0_3) 6 (fl_A (sxc 7)) = (r55.toInt, v55na0_1.toInt, v55na0_2.toInt, v55na0_8.toInt, v55na0_9.toInt, v55na0_10.toInt, v55na0_11.toInt, v55na0_12.toInt, v55na0_13.toInt) := Prod.ext hfr55.symm hraw55_0
      have hF0 := hF0.trans (fl_c9_eq hc55)
      rcases hw with hw | hw
      · obtain ⟨hw, h55⟩ := hw
        subst hw
        have l55k0_v55na0_13 : (0 : Int) ≤ v55na0_13.toInt := Int.le_trans zq5 h55.1
        have u55k0_v55na0_13 : v55na0_13.toInt ≤ (8 : Int) := Int.le_trans h55.2 bx54.2
        have hF0 := hF0.trans (if_pos (by decide))
        refine lv_if_ne (tgt := 63) hx hb dX3_readHall_58 (by decide) (fun _ => ?_) (fun c58 => absurd c58 (by decide +kernel))
        refine lv_aload_n hx hb dX3_readHall_63 rfl (lv_at hl 1 rfl) ?_
        refine va_get (D := (dC, dI)) (ci := 3) (v := .ref a0_5) (C := RX3) (T := TX3) (N := 14) hx hb hts zi_X3_readHall_3 hown hK hP 0 rfl rfl 5 (by decide) (hts (.fieldLink RX3 22 "WaxTurns$Reade\x72" "draft" "LWaxTurns$Hall;") (zm_X3_readHall_r1 (List.mem_of_getElem? (i := 1) rfl))) (fun _ h9 => h9) rfl dX3_readHall_64 ?_
        refine lv_aload_n hx hb dX3_readHall_67 rfl (lv_at hl 1 rfl) ?_
        refine va_get (D := (dC, dI)) (ci := 3) (v := .int v55na0_13) (C := RX3) (T := TX3) (N := 14) hx hb hts zi_X3_readHall_3 hown hK hP 0 rfl rfl 13 (by decide) (hts (.fieldLink RX3 156 "WaxTurns$Reade\x72" "taken" "I") (zm_X3_readHall_r1 (List.mem_of_getElem? (i := 0) rfl))) (fun _ h9 => h9) rfl dX3_readHall_68 ?_
        refine va_put (D := (dC, dI)) (ci := 0) (v := .int v55na0_13) (ty := .int) (C := RX0) (T := TX0) (N := 15) hx hb hts zi_X3_readHall_0 tyX0 tyX0_ok nmX0 hown hK hP hD hS 2 rfl rfl 2 (by decide) (hts (.fieldLink RX3 165 "WaxTurns$Hall" "stairsPlace" "I") (zm_X3_readHall_r1 (List.mem_of_getElem? (i := 3) rfl))) (fun _ h9 => h9) rfl (tyX0_ok 2 (by decide)) rfl rfl (Nat.le_of_ble_eq_true rfl) dX3_readHall_71 (fun H locs hP hD hS => ?_)
        obtain ⟨hP, hD⟩ := zc_re (w := [(a0, .inr (3, [a0g_0, .int v55na0_1, .int v55na0_2, .ref a0_3, a0g_4, .ref a0_5, a0g_6, .int a0_7, .int v55na0_8, .int v55na0_9, .int v55na0_10, .long v55na0_11, .int v55na0_12, .int v55na0_13])), (a0_3, .inl (ka0_3, 900, .inl (fa0_3))), (a0_5, .inr (0, [.int a0_5_0, .int v29na0_13, .int v55na0_13, .int a0_5_3, a0_5g_4, a0_5g_5, a0_5g_6, a0_5g_7, a0_5g_8, a0_5g_9, a0_5g_10, a0_5g_11, a0_5g_12, a0_5g_13, a0_5g_14]))]) hP hD rfl
        refine lv_aload_n hx hb dX3_readHall_74 rfl (lv_at hl 1 rfl) ?_
        refine va_ldcS hx hb hown (sxc_R8 hE0) dX3_readHall_75 ?_
        refine lv_iconst (v := 0) hx hb dX3_readHall_77 zk_iconst_0 ?_
        refine lv_bipush (v := 100) hx hb dX3_readHall_78 zk_bipush_100 ?_
        obtain ⟨hPc, hDc, hFc, hCc⟩ := zc_cut (wc := [(a0, .inr (3, [a0g_0, .int v55na0_1, .int v55na0_2, .ref a0_3, a0g_4, .ref a0_5, a0g_6, .int a0_7, .int v55na0_8, .int v55na0_9, .int v55na0_10, .long v55na0_11, .int v55na0_12, .int v55na0_13])), (a0_3, .inl (ka0_3, 900, .inl (fa0_3)))]) hP hD hS hA [0, 1] (by decide +kernel) rfl
        have hKc := hK.sub (tys' := [(ka0_3, .byte)]) [0] rfl
        refine va_calli (va_runV (As := [.ref (ad 8), .int 0, .int 100]) (rest := []) ⟨hx, hb, hml, hown, hts⟩ (f_X3_takeWhole l dC dI H.size a0 (ad 8) 0 100 a0g_0 a0g_4 (.ref a0_5) a0g_6 v55na0_1 v55na0_2 a0_3 a0_7 v55na0_8 v55na0_9 v55na0_10 v55na0_11 v55na0_12 v55na0_13 ka0_3 fa0_3 4 (sxc 8) ba0_7_l ba0_7_u bv55na0_8.1 bv55na0_8.2 bv55na0_9.1 bv55na0_9.2 bv55na0_10.1 bv55na0_10.2) (cwV 3 hts gX3_readHall_X3_takeWhole rfl rfl rfl zd_X3_takeWhole ⟨Nat.le_of_ble_eq_true rfl, Nat.le_of_ble_eq_true rfl⟩) ⟨ax_blind (fun _ _ _ _ hq => ⟨sxc_W_same _ _ _ _ (hq.1), va_Nw.same rfl rfl (hq.2)⟩), zr_3 hKc hPc (q0 := 0) rfl, ax_preE hPc hKc hDc (fun U hU hW => ⟨sxc_W_to (sxc_T_w hE0 (i := 8) (by decide)) hS.2.1 hFc hU hW, va_Nw.warmM hW hE1⟩)⟩ rfl rfl hl.1 rfl (lv_room (Nat.le_of_ble_eq_true rfl)) dX3_readHall_80 ⟨Nat.le_of_ble_eq_true rfl, Nat.le_of_ble_eq_true rfl⟩) hS (fun q _ h => hFc q h) hFc (fun r80 v80na0_13 t H1 locs ht hvm hw hB hz1 hk1 hS => ?_)
        obtain ⟨v80na0_1, v80na0_2, v80na0_8, v80na0_9, v80na0_10, v80na0_11, v80na0_12, bv80na0_8, bv80na0_9, bv80na0_10, hraw80_0, hP1, hK1, hD1⟩ := hB
        rw [ht] at hP1
        obtain ⟨hP, hD⟩ := zc_back (w := [(a0, .inr (3, [a0g_0, .int v80na0_1, .int v80na0_2, .ref a0_3, a0g_4, .ref a0_5, a0g_6, .int a0_7, .int v80na0_8, .int v80na0_9, .int v80na0_10, .long v80na0_11, .int v80na0_12, .int v80na0_13])), (a0_3, .inl (ka0_3, 900, .inl (fa0_3))), (a0_5, .inr (0, [.int a0_5_0, .int v29na0_13, .int v55na0_13, .int a0_5_3, a0_5g_4, a0_5g_5, a0_5g_6, a0_5g_7, a0_5g_8, a0_5g_9, a0_5g_10, a0_5g_11, a0_5g_12, a0_5g_13, a0_5g_14]))]) hP hD hCc hk1 hFc hP1 hD1 [.inr 0, .inr 1, .inl 2] (by decide +kernel) rfl
        generalize H1 = H at hP hS ⊢
        obtain ⟨hw, hfr80⟩ := hw
        rw [show (0 : Int32).toInt = 0 from by decide, show (100 : Int32).toInt = 100 from by decide, show ((4 : Nat) : Int) = 4 from rfl] at hfr80 hraw80_0
        have hc80 : Ff_X3_takeWhole 0 100 v55na0_1.toInt v55na0_2.toInt a0_7.toInt v55na0_8.toInt v55na0_9.toInt v55na0_10.toInt v55na0_11.toInt v55na0_12.toInt v55na0_13.toInt (fl_A fa0_3) 4 (fl_A (sxc 8)) = (r80.toInt, v80na0_1.toInt, v80na0_2.toInt, v80na0_8.toInt, v80na0_9.toInt, v80na0_10.toInt, v80na0_11.toInt, v80na0_12.toInt, v80na0_13.toInt) := Prod.ext hfr80.symm hraw80_0
        have hF0 := hF0.trans (fl_c9_eq hc80)
        rcases hw with hw | hw
        · obtain ⟨hw, h80⟩ := hw
          subst hw
          have l80k0_v80na0_13 : (0 : Int) ≤ v80na0_13.toInt := Int.le_trans zq5 h80.1
          have u80k0_v80na0_13 : v80na0_13.toInt ≤ (100 : Int) := Int.le_trans h80.2 zq32
          have hF0 := hF0.trans (if_pos (by decide))
          refine lv_if_ne (tgt := 88) hx hb dX3_readHall_83 (by decide) (fun _ => ?_) (fun c83 => absurd c83 (by decide +kernel))
          refine lv_aload_n hx hb dX3_readHall_88 rfl (lv_at hl 1 rfl) ?_
          refine va_get (D := (dC, dI)) (ci := 3) (v := .ref a0_5) (C := RX3) (T := TX3) (N := 14) hx hb hts zi_X3_readHall_3 hown hK hP 0 rfl rfl 5 (by decide) (hts (.fieldLink RX3 22 "WaxTurns$Reade\x72" "draft" "LWaxTurns$Hall;") (zm_X3_readHall_r1 (List.mem_of_getElem? (i := 1) rfl))) (fun _ h9 => h9) rfl dX3_readHall_89 ?_
          refine lv_aload_n hx hb dX3_readHall_92 rfl (lv_at hl 1 rfl) ?_
          refine va_get (D := (dC, dI)) (ci := 3) (v := .int v80na0_13) (C := RX3) (T := TX3) (N := 14) hx hb hts zi_X3_readHall_3 hown hK hP 0 rfl rfl 13 (by decide) (hts (.fieldLink RX3 156 "WaxTurns$Reade\x72" "taken" "I") (zm_X3_readHall_r1 (List.mem_of_getElem? (i := 0) rfl))) (fun _ h9 => h9) rfl dX3_readHall_93 ?_
          refine va_put (D := (dC, dI)) (ci := 0) (v := .int v80na0_13) (ty := .int) (C := RX0) (T := TX0) (N := 15) hx hb hts zi_X3_readHall_0 tyX0 tyX0_ok nmX0 hown hK hP hD hS 2 rfl rfl 3 (by decide) (hts (.fieldLink RX3 170 "WaxTurns$Hall" "shut" "I") (zm_X3_readHall_r1 (List.mem_of_getElem? (i := 4) rfl))) (fun _ h9 => h9) rfl (tyX0_ok 3 (by decide)) rfl rfl (Nat.le_of_ble_eq_true rfl) dX3_readHall_96 (fun H locs hP hD hS => ?_)
          obtain ⟨hP, hD⟩ := zc_re (w := [(a0, .inr (3, [a0g_0, .int v80na0_1, .int v80na0_2, .ref a0_3, a0g_4, .ref a0_5, a0g_6, .int a0_7, .int v80na0_8, .int v80na0_9, .int v80na0_10, .long v80na0_11, .int v80na0_12, .int v80na0_13])), (a0_3, .inl (ka0_3, 900, .inl (fa0_3))), (a0_5, .inr (0, [.int a0_5_0, .int v29na0_13, .int v55na0_13, .int v80na0_13, a0_5g_4, a0_5g_5, a0_5g_6, a0_5g_7, a0_5g_8, a0_5g_9, a0_5g_10, a0_5g_11, a0_5g_12, a0_5g_13, a0_5g_14]))]) hP hD rfl
          refine lv_aload_n hx hb dX3_readHall_99 rfl (lv_at hl 1 rfl) ?_
          refine va_get (D := (dC, dI)) (ci := 3) (v := .ref a0_5) (C := RX3) (T := TX3) (N := 14) hx hb hts zi_X3_readHall_3 hown hK hP 0 rfl rfl 5 (by decide) (hts (.fieldLink RX3 22 "WaxTurns$Reade\x72" "draft" "LWaxTurns$Hall;") (zm_X3_readHall_r1 (List.mem_of_getElem? (i := 1) rfl))) (fun _ h9 => h9) rfl dX3_readHall_100 ?_
          refine lv_iload_n hx hb dX3_readHall_103 rfl (lv_at hl 0 rfl) ?_
          refine va_put (D := (dC, dI)) (ci := 0) (v := .int v10na0_13) (ty := .int) (C := RX0) (T := TX0) (N := 15) hx hb hts zi_X3_readHall_0 tyX0 tyX0_ok nmX0 hown hK hP hD hS 2 rfl rfl 0 (by decide) (hts (.fieldLink RX3 104 "WaxTurns$Hall" "figures" "I") (zm_X3_readHall_r1 (List.mem_of_getElem? (i := 5) rfl))) (fun _ h9 => h9) rfl (tyX0_ok 0 (by decide)) rfl rfl (Nat.le_of_ble_eq_true rfl) dX3_readHall_104 (fun H locs hP hD hS => ?_)
          obtain ⟨hP, hD⟩ := zc_re (w := [(a0, .inr (3, [a0g_0, .int v80na0_1, .int v80na0_2, .ref a0_3, a0g_4, .ref a0_5, a0g_6, .int a0_7, .int v80na0_8, .int v80na0_9, .int v80na0_10, .long v80na0_11, .int v80na0_12, .int v80na0_13])), (a0_3, .inl (ka0_3, 900, .inl (fa0_3))), (a0_5, .inr (0, [.int v10na0_13, .int v29na0_13, .int v55na0_13, .int v80na0_13, a0_5g_4, a0_5g_5, a0_5g_6, a0_5g_7, a0_5g_8, a0_5g_9, a0_5g_10, a0_5g_11, a0_5g_12, a0_5g_13, a0_5g_14]))]) hP hD rfl
          refine lv_iconst (v := 1) hx hb dX3_readHall_107 zk_iconst_1 ?_
          have hFe : FX = (1, v80na0_1.toInt, v80na0_2.toInt, v80na0_8.toInt, v80na0_9.toInt, v80na0_10.toInt, v80na0_11.toInt, v80na0_12.toInt, v80na0_13.toInt, v10na0_13.toInt, v29na0_13.toInt, v55na0_13.toInt, v80na0_13.toInt) := hF0
          exact W.zret (v := 1) hx hb hr rfl (fun t ht hW => ⟨⟨1, (), rfl, ⟨(Or.inl (rfl)), (congrArg Prod.fst hFe).symm⟩, v80na0_1, v80na0_2, v80na0_8, v80na0_9, v80na0_10, v80na0_11, v80na0_12, v80na0_13, v10na0_13, v29na0_13, v55na0_13, v80na0_13, ⟨bv80na0_8.1, bv80na0_8.2⟩, ⟨bv80na0_9.1, bv80na0_9.2⟩, ⟨bv80na0_10.1, bv80na0_10.2⟩, ⟨Int.le_trans (by decide) l10k0_v10na0_13, u10k0_v10na0_13⟩, (congrArg Prod.snd hFe), by rw [ht]; exact hP, va_K.moved hW.alike hK, hD⟩, hS.F ht⟩) hS.2.2 dX3_readHall_108
        · subst hw
          have hF0 := hF0.trans (if_neg (by decide))
          refine lv_if_ne (tgt := 88) hx hb dX3_readHall_83 (by decide) (fun c83 => absurd (by decide +kernel) c83) (fun _ => ?_)
          refine lv_iconst (v := 0) hx hb dX3_readHall_86 zk_iconst_0 ?_
          have hFe : FX = (0, v80na0_1.toInt, v80na0_2.toInt, v80na0_8.toInt, v80na0_9.toInt, v80na0_10.toInt, v80na0_11.toInt, v80na0_12.toInt, v80na0_13.toInt, a0_5_0.toInt, v29na0_13.toInt, v55na0_13.toInt, a0_5_3.toInt) := hF0
          exact W.zret (v := 0) hx hb hr rfl (fun t ht hW => ⟨⟨0, (), rfl, ⟨(Or.inr (rfl)), (congrArg Prod.fst hFe).symm⟩, v80na0_1, v80na0_2, v80na0_8, v80na0_9, v80na0_10, v80na0_11, v80na0_12, v80na0_13, a0_5_0, v29na0_13, v55na0_13, a0_5_3, ⟨bv80na0_8.1, bv80na0_8.2⟩, ⟨bv80na0_9.1, bv80na0_9.2⟩, ⟨bv80na0_10.1, bv80na0_10.2⟩, ⟨ba0_5_0_l, ba0_5_0_u⟩, (congrArg Prod.snd hFe), by rw [ht]; exact hP, va_K.moved hW.alike hK, hD⟩, hS.F ht⟩) hS.2.2 dX3_readHall_87
      · subst hw
        have hF0 := hF0.trans (if_neg (by decide))
        refine lv_if_ne (tgt := 63) hx hb dX3_readHall_58 (by decide) (fun c58 => absurd (by decide +kernel) c58) (fun _ => ?_)
        refine lv_iconst (v := 0) hx hb dX3_readHall_61 zk_iconst_0 ?_
        have hFe : FX = (0, v55na0_1.toInt, v55na0_2.toInt, v55na0_8.toInt, v55na0_9.toInt, v55na0_10.toInt, v55na0_11.toInt, v55na0_12.toInt, v55na0_13.toInt, a0_5_0.toInt, v29na0_13.toInt, a0_5_2.toInt, a0_5_3.toInt) := hF0
        exact W.zret (v := 0) hx hb hr rfl (fun t ht hW => ⟨⟨0, (), rfl, ⟨(Or.inr (rfl)), (congrArg Prod.fst hFe).symm⟩, v55na0_1, v55na0_2, v55na0_8, v55na0_9, v55na0_10, v55na0_11, v55na0_12, v55na0_13, a0_5_0, v29na0_13, a0_5_2, a0_5_3, ⟨bv55na0_8.1, bv55na0_8.2⟩, ⟨bv55na0_9.1, bv55na0_9.2⟩, ⟨bv55na0_10.1, bv55na0_10.2⟩, ⟨ba0_5_0_l, ba0_5_0_u⟩, (congrArg Prod.snd hFe), by rw [ht]; exact hP, va_K.moved hW.alike hK, hD⟩, hS.F ht⟩) hS.2.2 dX3_readHall_62
    · subst hw
      have hF0 := hF0.trans (if_neg (by decide))
      refine lv_if_ne (tgt := 37) hx hb dX3_readHall_32 (by decide) (fun c32 => absurd (by decide +kernel) c32) (fun _ => ?_)
      refine lv_iconst (v := 0) hx hb dX3_readHall_35 zk_iconst_0 ?_
      have hFe : FX = (0, v29na0_1.toInt, v29na0_2.toInt, v29na0_8.toInt, v29na0_9.toInt, v29na0_10.toInt, v29na0_11.toInt, v29na0_12.toInt, v29na0_13.toInt, a0_5_0.toInt, a0_5_1.toInt, a0_5_2.toInt, a0_5_3.toInt) := hF0
      exact W.zret (v := 0) hx hb hr rfl (fun t ht hW => ⟨⟨0, (), rfl, ⟨(Or.inr (rfl)), (congrArg Prod.fst hFe).symm⟩, v29na0_1, v29na0_2, v29na0_8, v29na0_9, v29na0_10, v29na0_11, v29na0_12, v29na0_13, a0_5_0, a0_5_1, a0_5_2, a0_5_3, ⟨bv29na0_8.1, bv29na0_8.2⟩, ⟨bv29na0_9.1, bv29na0_9.2⟩, ⟨bv29na0_10.1, bv29na0_10.2⟩, ⟨ba0_5_0_l, ba0_5_0_u⟩, (congrArg Prod.snd hFe), by rw [ht]; exact hP, va_K.moved hW.alike hK, hD⟩, hS.F ht⟩) hS.2.2 dX3_readHall_36
  · subst hw
    have hF0 := hF0.trans (if_neg (by decide))
    refine lv_if_ne (tgt := 18) hx hb dX3_readHall_13 (by decide) (fun c13 => absurd (by decide +kernel) c13) (fun _ => ?_)
    refine lv_iconst (v := 0) hx hb dX3_readHall_16 zk_iconst_0 ?_
    have hFe : FX = (0, v10na0_1.toInt, v10na0_2.toInt, v10na0_8.toInt, v10na0_9.toInt, v10na0_10.toInt, v10na0_11.toInt, v10na0_12.toInt, v10na0_13.toInt, a0_5_0.toInt, a0_5_1.toInt, a0_5_2.toInt, a0_5_3.toInt) := hF0
    exact W.zret (v := 0) hx hb hr rfl (fun t ht hW => ⟨⟨0, (), rfl, ⟨(Or.inr (rfl)), (congrArg Prod.fst hFe).symm⟩, v10na0_1, v10na0_2, v10na0_8, v10na0_9, v10na0_10, v10na0_11, v10na0_12, v10na0_13, a0_5_0, a0_5_1, a0_5_2, a0_5_3, ⟨bv10na0_8.1, bv10na0_8.2⟩, ⟨bv10na0_9.1, bv10na0_9.2⟩, ⟨bv10na0_10.1, bv10na0_10.2⟩, ⟨ba0_5_0_l, ba0_5_0_u⟩, (congrArg Prod.snd hFe), by rw [ht]; exact hP, va_K.moved hW.alike hK, hD⟩, hS.F ht⟩) hS.2.2 dX3_readHall_17

set_option maxHeartbeats 4000000 in
set_option maxRecDepth 100000 in
theorem f_X3_readLaw (l : Launch) (dC : Nat → ClassId) (dI : Nat → Nat → Nat) (sz : Nat) (a0 : Nat) (a0g_0 a0g_4 a0g_6 : Value) (a0_1 : Int32) (a0_2 : Int32) (a0_3 : Nat) (a0_5 : Nat) (a0_7 : Int32) (a0_8 : Int32) (a0_9 : Int32) (a0_10 : Int32) (a0_11 : Int64) (a0_12 : Int32) (a0_13 : Int32) (ka0_3 : ClassId) (fa0_3 : Nat → Int32) (a0_5_0 : Int32) (a0_5g_1 a0_5g_2 a0_5g_3 a0_5g_8 a0_5g_9 a0_5g_10 a0_5g_11 a0_5g_12 a0_5g_13 a0_5g_14 : Value) (a0_5_4 : Int32) (a0_5_5 : Int32) (a0_5_6 : Int32) (a0_5_7 : Int32) (ad : Nat → Nat) (ba0_7_l : (0 : Int) ≤ a0_7.toInt) (ba0_7_u : a0_7.toInt ≤ (900 : Int)) (ba0_8_l : (0 : Int) ≤ a0_8.toInt) (ba0_8_u : a0_8.toInt ≤ (900 : Int)) (ba0_9_l : (0 : Int) ≤ a0_9.toInt) (ba0_9_u : a0_9.toInt ≤ (900 : Int)) (ba0_10_l : (0 : Int) ≤ a0_10.toInt) (ba0_10_u : a0_10.toInt ≤ (4 : Int)) (ba0_5_0_l : (0 : Int) ≤ a0_5_0.toInt) (ba0_5_0_u : a0_5_0.toInt ≤ (9 : Int)) (ba0_5_4_l : (0 : Int) ≤ a0_5_4.toInt) (ba0_5_4_u : a0_5_4.toInt ≤ (1 : Int)) (ba0_5_5_l : (0 : Int) ≤ a0_5_5.toInt) (ba0_5_5_u : a0_5_5.toInt ≤ (8 : Int)) (ba0_5_6_l : (0 : Int) ≤ a0_5_6.toInt) (ba0_5_6_u : a0_5_6.toInt ≤ (8 : Int)) (ba0_5_7_l : (0 : Int) ≤ a0_5_7.toInt) (ba0_5_7_u : a0_5_7.toInt ≤ (8 : Int)) : Met l yX3_readLaw wsX3_readLaw ({ frames := 6, cells := 0, slots := 0, locals := 132 }) (va_Pc [.ref a0] (ax_C dC dI sz [(a0, .inr (3, [a0g_0, .int a0_1, .int a0_2, .ref a0_3, a0g_4, .ref a0_5, a0g_6, .int a0_7, .int a0_8, .int a0_9, .int a0_10, .long a0_11, .int a0_12, .int a0_13])), (a0_3, .inl (ka0_3, 900, .inl (fa0_3))), (a0_5, .inr (0, [.int a0_5_0, a0_5g_1, a0_5g_2, a0_5g_3, .int a0_5_4, .int a0_5_5, .int a0_5_6, .int a0_5_7, a0_5g_8, a0_5g_9, a0_5g_10, a0_5g_11, a0_5g_12, a0_5g_13, a0_5g_14]))] [(ka0_3, .byte)] (fun U => sxc_T ad (va_A [(a0, .inr (3, [a0g_0, .int a0_1, .int a0_2, .ref a0_3, a0g_4, .ref a0_5, a0g_6, .int a0_7, .int a0_8, .int a0_9, .int a0_10, .long a0_11, .int a0_12, .int a0_13])), (a0_3, .inl (ka0_3, 900, .inl (fa0_3))), (a0_5, .inr (0, [.int a0_5_0, a0_5g_1, a0_5g_2, a0_5g_3, .int a0_5_4, .int a0_5_5, .int a0_5_6, .int a0_5_7, a0_5g_8, a0_5g_9, a0_5g_10, a0_5g_11, a0_5g_12, a0_5g_13, a0_5g_14]))] sz) U ∧ va_Nw (.methodLinkNest RX3 223 yX7_within RX7) U))) (va_Qi (fun (r : Int32) (_ : Unit) => ((r = 1) ∨ (r = 0)) ∧ r.toInt = (Ff_X3_readLaw a0_1.toInt a0_2.toInt a0_7.toInt a0_9.toInt a0_11.toInt a0_12.toInt a0_13.toInt (fl_A fa0_3) a0_5_0.toInt a0_5_4.toInt a0_5_5.toInt a0_5_6.toInt a0_5_7.toInt).1) (fun (_ : Unit) (t : State) => ∃ na0_1 : Int32, ∃ na0_2 : Int32, ∃ na0_8 : Int32, ∃ na0_9 : Int32, ∃ na0_10 : Int32, ∃ na0_11 : Int64, ∃ na0_12 : Int32, ∃ na0_13 : Int32, ∃ na0_5_4 : Int32, ∃ na0_5_5 : Int32, ∃ na0_5_6 : Int32, ∃ na0_5_7 : Int32, ((0 : Int) ≤ na0_8.toInt ∧ na0_8.toInt ≤ 900) ∧ ((0 : Int) ≤ na0_9.toInt ∧ na0_9.toInt ≤ 900) ∧ ((0 : Int) ≤ na0_10.toInt ∧ na0_10.toInt ≤ 4) ∧ ((0 : Int) ≤ na0_5_4.toInt ∧ na0_5_4.toInt ≤ 1) ∧ ((0 : Int) ≤ na0_5_5.toInt ∧ na0_5_5.toInt ≤ 8) ∧ ((0 : Int) ≤ na0_5_6.toInt ∧ na0_5_6.toInt ≤ 8) ∧ ((0 : Int) ≤ na0_5_7.toInt ∧ na0_5_7.toInt ≤ 8) ∧ ((Ff_X3_readLaw a0_1.toInt a0_2.toInt a0_7.toInt a0_9.toInt a0_11.toInt a0_12.toInt a0_13.toInt (fl_A fa0_3) a0_5_0.toInt a0_5_4.toInt a0_5_5.toInt a0_5_6.toInt a0_5_7.toInt).2 = (na0_1.toInt, na0_2.toInt, na0_8.toInt, na0_9.toInt, na0_10.toInt, na0_11.toInt, na0_12.toInt, na0_13.toInt, na0_5_4.toInt, na0_5_5.toInt, na0_5_6.toInt, na0_5_7.toInt)) ∧ ax_B dC dI (va_A [(a0, .inr (3, [a0g_0, .int a0_1, .int a0_2, .ref a0_3, a0g_4, .ref a0_5, a0g_6, .int a0_7, .int a0_8, .int a0_9, .int a0_10, .long a0_11, .int a0_12, .int a0_13])), (a0_3, .inl (ka0_3, 900, .inl (fa0_3))), (a0_5, .inr (0, [.int a0_5_0, a0_5g_1, a0_5g_2, a0_5g_3, .int a0_5_4, .int a0_5_5, .int a0_5_6, .int a0_5_7, a0_5g_8, a0_5g_9, a0_5g_10, a0_5g_11, a0_5g_12, a0_5g_13, a0_5g_14]))] sz) [(a0, .inr (3, [a0g_0, .int na0_1, .int na0_2, .ref a0_3, a0g_4, .ref a0_5, a0g_6, .int a0_7, .int na0_8, .int na0_9, .int na0_10, .long na0_11, .int na0_12, .int na0_13])), (a0_3, .inl (ka0_3, 900, .inl (fa0_3))), (a0_5, .inr (0, [.int a0_5_0, a0_5g_1, a0_5g_2, a0_5g_3, .int na0_5_4, .int na0_5_5, .int na0_5_6, .int na0_5_7, a0_5g_8, a0_5g_9, a0_5g_10, a0_5g_11, a0_5g_12, a0_5g_13, a0_5g_14]))] [(ka0_3, .byte)] t) (va_A [(a0, .inr (3, [a0g_0, .int a0_1, .int a0_2, .ref a0_3, a0g_4, .ref a0_5, a0g_6, .int a0_7, .int a0_8, .int a0_9, .int a0_10, .long a0_11, .int a0_12, .int a0_13])), (a0_3, .inl (ka0_3, 900, .inl (fa0_3))), (a0_5, .inr (0, [.int a0_5_0, a0_5g_1, a0_5g_2, a0_5g_3, .int a0_5_4, .int a0_5_5, .int a0_5_6, .int a0_5_7, a0_5g_8, a0_5g_9, a0_5g_10, a0_5g_11, a0_5g_12, a0_5g_13, a0_5g_14]))] sz)) 0 0 (va_A [(a0, .inr (3, [a0g_0, .int a0_1, .int a0_2, .ref a0_3, a0g_4, .ref a0_5, a0g_6, .int a0_7, .int a0_8, .int a0_9, .int a0_10, .long a0_11, .int a0_12, .int a0_13])), (a0_3, .inl (ka0_3, 900, .inl (fa0_3))), (a0_5, .inr (0, [.int a0_5_0, a0_5g_1, a0_5g_2, a0_5g_3, .int a0_5_4, .int a0_5_5, .int a0_5_6, .int a0_5_7, a0_5g_8, a0_5g_9, a0_5g_10, a0_5g_11, a0_5g_12, a0_5g_13, a0_5g_14]))] sz) := by
  refine Met.ofW (cc := cX3_readLaw) (maxL := 1) (ret := (some .boolean)) (by decide) rfl ?_
  intro p e s m args below meth c s₁ B hml hv
  obtain ⟨rfl, hsz, hP, hK, hD0, hE⟩ := hv
  have hx := B.exec
  have hb := B.bytes
  have hr := B.returns
  have hts := atoms_spec (ws := wsX3_readLaw) B.pre
  have hown : s.vm.findClass RX3 = some m.cls := findClass_of_methodNamed B.named
  have hlocks := B.notSynchronized
  subst hsz
  have hD := hD0.self (sz := s.heap.size)
  generalize hAe : va_A [(a0, .inr (3, [a0g_0, .int a0_1, .int a0_2, .ref a0_3, a0g_4, .ref a0_5, a0g_6, .int a0_7, .int a0_8, .int a0_9, .int a0_10, .long a0_11, .int a0_12, .int a0_13])), (a0_3, .inl (ka0_3, 900, .inl (fa0_3))), (a0_5, .inr (0, [.int a0_5_0, a0_5g_1, a0_5g_2, a0_5g_3, .int a0_5_4, .int a0_5_5, .int a0_5_6, .int a0_5_7, a0_5g_8, a0_5g_9, a0_5g_10, a0_5g_11, a0_5g_12, a0_5g_13, a0_5g_14]))] s.heap.size = A at hD hE ⊢
  have hA : ∀ q : Nat, s.heap.size ≤ q → A q := fun q h => by rw [← hAe]; exact Or.inr h
  have hS : va_S A s.heap s.heap [] := va_S.rf
  have hP : va_P (dC, dI) vwCl [(a0, .inr (3, [a0g_0, .int a0_1, .int a0_2, .ref a0_3, a0g_4, .ref a0_5, a0g_6, .int a0_7, .int a0_8, .int a0_9, .int a0_10, .long a0_11, .int a0_12, .int a0_13])), (a0_3, .inl (ka0_3, 900, .inl (fa0_3))), (a0_5, .inr (0, [.int a0_5_0, a0_5g_1, a0_5g_2, a0_5g_3, .int a0_5_4, .int a0_5_5, .int a0_5_6, .int a0_5_7, a0_5g_8, a0_5g_9, a0_5g_10, a0_5g_11, a0_5g_12, a0_5g_13, a0_5g_14]))] s.heap := hP
  obtain ⟨hE0, hE1⟩ := hE
  have hl := lv_entry ([.ref a0]) (n := 1) (Nat.le_of_ble_eq_true rfl)
  rw [lg_entry_eq]
  generalize (lg_sl ([.ref a0]) ++ List.replicate (1 - (lg_sl ([.ref a0])).length) Slot.unset).toArray = ls at hl ⊢
  have hl : lv_has ls 1 [(0, .ref a0)] := hl
  generalize hFX : Ff_X3_readLaw a0_1.toInt a0_2.toInt a0_7.toInt a0_9.toInt a0_11.toInt a0_12.toInt a0_13.toInt (fl_A fa0_3) a0_5_0.toInt a0_5_4.toInt a0_5_5.toInt a0_5_6.toInt a0_5_7.toInt = FX at ⊢
  have hF0 := hFX.symm.trans (Ff_X3_readLaw.eq_1 a0_1.toInt a0_2.toInt a0_7.toInt a0_9.toInt a0_11.toInt a0_12.toInt a0_13.toInt (fl_A fa0_3) a0_5_0.toInt a0_5_4.toInt a0_5_5.toInt a0_5_6.toInt a0_5_7.toInt)
  refine lv_aload_n hx hb dX3_readLaw_0 rfl (lv_at hl 0 rfl) ?_
  obtain ⟨hPc, hDc, hFc, hCc⟩ := zc_cut (wc := [(a0, .inr (3, [a0g_0, .int a0_1, .int a0_2, .ref a0_3, a0g_4, .ref a0_5, a0g_6, .int a0_7, .int a0_8, .int a0_9, .int a0_10, .long a0_11, .int a0_12, .int a0_13])), (a0_3, .inl (ka0_3, 900, .inl (fa0_3)))]) hP hD hS hA [0, 1] (by decide +kernel) rfl
  have hKc := hK.sub (tys' := [(ka0_3, .byte)]) [0] rfl
  refine va_callv (va_runV (As := []) (rest := []) ⟨hx, hb, hml, hown, hts⟩ (f_X3_advance l dC dI s.heap.size a0 a0g_0 (.int a0_1) (.int a0_2) a0g_4 (.ref a0_5) a0g_6 (.int a0_13) a0_3 a0_7 a0_8 a0_9 a0_10 a0_11 a0_12 ka0_3 fa0_3 ba0_7_l ba0_7_u ba0_8_l ba0_8_u ba0_9_l ba0_9_u ba0_10_l ba0_10_u) (cwV 0 hts gX3_readLaw_X3_advance rfl rfl rfl zd_X3_advance ⟨Nat.le_of_ble_eq_true rfl, Nat.le_of_ble_eq_true rfl⟩) ⟨ax_blind (fun _ _ _ _ _ => trivial), zr_3 hKc hPc (q0 := 0) rfl, ax_pre hPc hKc hDc (fun _ _ => trivial)⟩ rfl rfl hl.1 rfl (lv_room (Nat.le_of_ble_eq_true rfl)) dX3_readLaw_1 ⟨Nat.le_of_ble_eq_true rfl, Nat.le_of_ble_eq_true rfl⟩) hS (fun q _ h => hFc q h) hFc (fun u t H locs ht hvm hw hB hz1 hk1 hS => ?_)
  obtain ⟨v1na0_8, v1na0_9, v1na0_10, v1na0_11, v1na0_12, bv1na0_8, bv1na0_9, bv1na0_10, hraw1_0, hP1, hK1, hD1⟩ := hB
  rw [ht] at hP1
  obtain ⟨hP, hD⟩ := zc_back (w := [(a0, .inr (3, [a0g_0, .int a0_1, .int a0_2, .ref a0_3, a0g_4, .ref a0_5, a0g_6, .int a0_7, .int v1na0_8, .int v1na0_9, .int v1na0_10, .long v1na0_11, .int v1na0_12, .int a0_13])), (a0_3, .inl (ka0_3, 900, .inl (fa0_3))), (a0_5, .inr (0, [.int a0_5_0, a0_5g_1, a0_5g_2, a0_5g_3, .int a0_5_4, .int a0_5_5, .int a0_5_6, .int a0_5_7, a0_5g_8, a0_5g_9, a0_5g_10, a0_5g_11, a0_5g_12, a0_5g_13, a0_5g_14]))]) hP hD hCc hk1 hFc hP1 hD1 [.inr 0, .inr 1, .inl 2] (by decide +kernel) rfl
  have hc1 : Ff_X3_advance a0_7.toInt a0_9.toInt a0_11.toInt a0_12.toInt (fl_A fa0_3) = (v1na0_8.toInt, v1na0_9.toInt, v1na0_10.toInt, v1na0_11.toInt, v1na0_12.toInt) := hraw1_0
  have hF0 := hF0.trans (fl_c5_eq hc1)
  refine lv_aload_n hx hb dX3_readLaw_4 rfl (lv_at hl 0 rfl) ?_
  refine va_ldcS hx hb hown (sxc_R9 hE0) dX3_readLaw_5 ?_
  refine lv_iconst (v := 0) hx hb dX3_readLaw_7 zk_iconst_0 ?_
  refine lv_aload_n hx hb dX3_readLaw_8 rfl (lv_at hl 0 rfl) ?_
  refine va_get (D := (dC, dI)) (ci := 3) (v := .ref a0_5) (C := RX3) (T := TX3) (N := 14) hx hb hts zi_X3_readLaw_3 hown hK hP 0 rfl rfl 5 (by decide) (hts (.fieldLink RX3 22 "WaxTurns$Reade\x72" "draft" "LWaxTurns$Hall;") (zm_X3_readLaw_r1 (List.mem_of_getElem? (i := 0) rfl))) (fun _ h9 => h9) rfl dX3_readLaw_9 ?_
  refine va_get (D := (dC, dI)) (ci := 0) (v := .int a0_5_0) (C := RX0) (T := TX0) (N := 15) hx hb hts zi_X3_readLaw_0 hown hK hP 2 rfl rfl 0 (by decide) (hts (.fieldLink RX3 104 "WaxTurns$Hall" "figures" "I") (zm_X3_readLaw_r1 (List.mem_of_getElem? (i := 1) rfl))) (fun _ h9 => h9) rfl dX3_readLaw_12 ?_
  refine lv_iconst (v := 1) hx hb dX3_readLaw_15 zk_iconst_1 ?_
  refine lv_isub hx hb dX3_readLaw_16 ?_
  refine lv_topi (fun x16 ex16 => ?_)
  have qx16 : x16.toInt = a0_5_0.toInt - (1 : Int32).toInt := ai_sub ex16 ⟨ba0_5_0_l, ba0_5_0_u⟩ ⟨zq1, zq0⟩ (by decide) (by decide)
  have bx16 : (-1 : Int) ≤ x16.toInt ∧ x16.toInt ≤ 8 := ⟨by rw [qx16]; exact Int.sub_le_sub ba0_5_0_l zq0, by rw [qx16]; exact Int.sub_le_sub ba0_5_0_u zq1⟩
  have wx16 : x16.toInt = a0_5_0.toInt - 1 := qx16
  have hF0 := hF0.trans (fl_lt_eq (show x16.toInt = a0_5_0.toInt - 1 from qx16))
  obtain ⟨hPc, hDc, hFc, hCc⟩ := zc_cut (wc := [(a0, .inr (3, [a0g_0, .int a0_1, .int a0_2, .ref a0_3, a0g_4, .ref a0_5, a0g_6, .int a0_7, .int v1na0_8, .int v1na0_9, .int v1na0_10, .long v1na0_11, .int v1na0_12, .int a0_13])), (a0_3, .inl (ka0_3, 900, .inl (fa0_3)))]) hP hD hS hA [0, 1] (by decide +kernel) rfl
  have hKc := hK.sub (tys' := [(ka0_3, .byte)]) [0] rfl
  refine va_calli (va_runV (As := [.ref (ad 9), .int 0, .int x16]) (rest := []) ⟨hx, hb, hml, hown, hts⟩ (f_X3_takeWhole l dC dI H.size a0 (ad 9) 0 x16 a0g_0 a0g_4 (.ref a0_5) a0g_6 a0_1 a0_2 a0_3 a0_7 v1na0_8 v1na0_9 v1na0_10 v1na0_11 v1na0_12 a0_13 ka0_3 fa0_3 5 (sxc 9) ba0_7_l ba0_7_u bv1na0_8.1 bv1na0_8.2 bv1na0_9.1 bv1na0_9.2 bv1na0_10.1 bv1na0_10.2) (cwV 3 hts gX3_readLaw_X3_takeWhole rfl rfl rfl zd_X3_takeWhole ⟨Nat.le_of_ble_eq_true rfl, Nat.le_of_ble_eq_true rfl⟩) ⟨ax_blind (fun _ _ _ _ hq => ⟨sxc_W_same _ _ _ _ (hq.1), va_Nw.same rfl rfl (hq.2)⟩), zr_3 hKc hPc (q0 := 0) rfl, ax_preE hPc hKc hDc (fun U hU hW => ⟨sxc_W_to (sxc_T_w hE0 (i := 9) (by decide)) hS.2.1 hFc hU hW, va_Nw.warmM hW hE1⟩)⟩ rfl rfl hl.1 rfl (lv_room (Nat.le_of_ble_eq_true rfl)) dX3_readLaw_17 ⟨Nat.le_of_ble_eq_true rfl, Nat.le_of_ble_eq_true rfl⟩) hS (fun q _ h => hFc q h) hFc (fun r17 v17na0_13 t H1 locs ht hvm hw hB hz1 hk1 hS => ?_)
  obtain ⟨v17na0_1, v17na0_2, v17na0_8, v17na0_9, v17na0_10, v17na0_11, v17na0_12, bv17na0_8, bv17na0_9, bv17na0_10, hraw17_0, hP1, hK1, hD1⟩ := hB
  rw [ht] at hP1
  obtain ⟨hP, hD⟩ := zc_back (w := [(a0, .inr (3, [a0g_0, .int v17na0_1, .int v17na0_2, .ref a0_3, a0g_4, .ref a0_5, a0g_6, .int a0_7, .int v17na0_8, .int v17na0_9, .int v17na0_10, .long v17na0_11, .int v17na0_12, .int v17na0_13])), (a0_3, .inl (ka0_3, 900, .inl (fa0_3))), (a0_5, .inr (0, [.int a0_5_0, a0_5g_1, a0_5g_2, a0_5g_3, .int a0_5_4, .int a0_5_5, .int a0_5_6, .int a0_5_7, a0_5g_8, a0_5g_9, a0_5g_10, a0_5g_11, a0_5g_12, a0_5g_13, a0_5g_14]))]) hP hD hCc hk1 hFc hP1 hD1 [.inr 0, .inr 1, .inl 2] (by decide +kernel) rfl
  generalize H1 = H at hP hS ⊢
  obtain ⟨hw, hfr17⟩ := hw
  rw [show (0 : Int32).toInt = 0 from by decide, show ((5 : Nat) : Int) = 5 from rfl] at hfr17 hraw17_0
  have hc17 : Ff_X3_takeWhole 0 x16.toInt a0_1.toInt a0_2.toInt a0_7.toInt v1na0_8.toInt v1na0_9.toInt v1na0_10.toInt v1na0_11.toInt v1na0_12.toInt a0_13.toInt (fl_A fa0_3) 5 (fl_A (sxc 9)) = (r17.toInt, v17na0_1.toInt, v17na0_2.toInt, v17na0_8.toInt, v17na0_9.toInt, v17na0_10.toInt, v17na0_11.toInt, v17na0_12.toInt, v17na0_13.toInt) := Prod.ext hfr17.symm hraw17_0
  have hF0 := hF0.trans (fl_c9_eq hc17)
  rcases hw with hw | hw
  · obtain ⟨hw, h17⟩ := hw
    subst hw
    have l17k0_v17na0_13 : (0 : Int) ≤ v17na0_13.toInt := Int.le_trans zq5 h17.1
    have u17k0_v17na0_13 : v17na0_13.toInt ≤ (8 : Int) := Int.le_trans h17.2 bx16.2
    have hF0 := hF0.trans (if_pos (by decide))
    refine lv_if_ne (tgt := 25) hx hb dX3_readLaw_20 (by decide) (fun _ => ?_) (fun c20 => absurd c20 (by decide +kernel))
    refine lv_aload_n hx hb dX3_readLaw_25 rfl (lv_at hl 0 rfl) ?_
    refine va_get (D := (dC, dI)) (ci := 3) (v := .ref a0_5) (C := RX3) (T := TX3) (N := 14) hx hb hts zi_X3_readLaw_3 hown hK hP 0 rfl rfl 5 (by decide) (hts (.fieldLink RX3 22 "WaxTurns$Reade\x72" "draft" "LWaxTurns$Hall;") (zm_X3_readLaw_r1 (List.mem_of_getElem? (i := 0) rfl))) (fun _ h9 => h9) rfl dX3_readLaw_26 ?_
    refine lv_aload_n hx hb dX3_readLaw_29 rfl (lv_at hl 0 rfl) ?_
    refine va_get (D := (dC, dI)) (ci := 3) (v := .int v17na0_13) (C := RX3) (T := TX3) (N := 14) hx hb hts zi_X3_readLaw_3 hown hK hP 0 rfl rfl 13 (by decide) (hts (.fieldLink RX3 156 "WaxTurns$Reade\x72" "taken" "I") (zm_X3_readLaw_r1 (List.mem_of_getElem? (i := 2) rfl))) (fun _ h9 => h9) rfl dX3_readLaw_30 ?_
    refine va_put (D := (dC, dI)) (ci := 0) (v := .int v17na0_13) (ty := .int) (C := RX0) (T := TX0) (N := 15) hx hb hts zi_X3_readLaw_0 tyX0 tyX0_ok nmX0 hown hK hP hD hS 2 rfl rfl 5 (by decide) (hts (.fieldLink RX3 174 "WaxTurns$Hall" "times" "I") (zm_X3_readLaw_r1 (List.mem_of_getElem? (i := 3) rfl))) (fun _ h9 => h9) rfl (tyX0_ok 5 (by decide)) rfl rfl (Nat.le_of_ble_eq_true rfl) dX3_readLaw_33 (fun H locs hP hD hS => ?_)
    obtain ⟨hP, hD⟩ := zc_re (w := [(a0, .inr (3, [a0g_0, .int v17na0_1, .int v17na0_2, .ref a0_3, a0g_4, .ref a0_5, a0g_6, .int a0_7, .int v17na0_8, .int v17na0_9, .int v17na0_10, .long v17na0_11, .int v17na0_12, .int v17na0_13])), (a0_3, .inl (ka0_3, 900, .inl (fa0_3))), (a0_5, .inr (0, [.int a0_5_0, a0_5g_1, a0_5g_2, a0_5g_3, .int a0_5_4, .int v17na0_13, .int a0_5_6, .int a0_5_7, a0_5g_8, a0_5g_9, a0_5g_10, a0_5g_11, a0_5g_12, a0_5g_13, a0_5g_14]))]) hP hD rfl
    refine lv_aload_n hx hb dX3_readLaw_36 rfl (lv_at hl 0 rfl) ?_
    refine va_ldcS hx hb hown (sxc_R10 hE0) dX3_readLaw_37 ?_
    refine lv_iconst (v := 0) hx hb dX3_readLaw_39 zk_iconst_0 ?_
    refine lv_aload_n hx hb dX3_readLaw_40 rfl (lv_at hl 0 rfl) ?_
    refine va_get (D := (dC, dI)) (ci := 3) (v := .ref a0_5) (C := RX3) (T := TX3) (N := 14) hx hb hts zi_X3_readLaw_3 hown hK hP 0 rfl rfl 5 (by decide) (hts (.fieldLink RX3 22 "WaxTurns$Reade\x72" "draft" "LWaxTurns$Hall;") (zm_X3_readLaw_r1 (List.mem_of_getElem? (i := 0) rfl))) (fun _ h9 => h9) rfl dX3_readLaw_41 ?_
    refine va_get (D := (dC, dI)) (ci := 0) (v := .int a0_5_0) (C := RX0) (T := TX0) (N := 15) hx hb hts zi_X3_readLaw_0 hown hK hP 2 rfl rfl 0 (by decide) (hts (.fieldLink RX3 104 "WaxTurns$Hall" "figures" "I") (zm_X3_readLaw_r1 (List.mem_of_getElem? (i := 1) rfl))) (fun _ h9 => h9) rfl dX3_readLaw_44 ?_
    refine lv_iconst (v := 1) hx hb dX3_readLaw_47 zk_iconst_1 ?_
    refine lv_isub hx hb dX3_readLaw_48 ?_
    refine ax_ti x16 ex16.symm ?_
    obtain ⟨hPc, hDc, hFc, hCc⟩ := zc_cut (wc := [(a0, .inr (3, [a0g_0, .int v17na0_1, .int v17na0_2, .ref a0_3, a0g_4, .ref a0_5, a0g_6, .int a0_7, .int v17na0_8, .int v17na0_9, .int v17na0_10, .long v17na0_11, .int v17na0_12, .int v17na0_13])), (a0_3, .inl (ka0_3, 900, .inl (fa0_3)))]) hP hD hS hA [0, 1] (by decide +kernel) rfl
    have hKc := hK.sub (tys' := [(ka0_3, .byte)]) [0] rfl
    refine va_calli (va_runV (As := [.ref (ad 10), .int 0, .int x16]) (rest := []) ⟨hx, hb, hml, hown, hts⟩ (f_X3_takeWhole l dC dI H.size a0 (ad 10) 0 x16 a0g_0 a0g_4 (.ref a0_5) a0g_6 v17na0_1 v17na0_2 a0_3 a0_7 v17na0_8 v17na0_9 v17na0_10 v17na0_11 v17na0_12 v17na0_13 ka0_3 fa0_3 4 (sxc 10) ba0_7_l ba0_7_u bv17na0_8.1 bv17na0_8.2 bv17na0_9.1 bv17na0_9.2 bv17na0_10.1 bv17na0_10.2) (cwV 3 hts gX3_readLaw_X3_takeWhole rfl rfl rfl zd_X3_takeWhole ⟨Nat.le_of_ble_eq_true rfl, Nat.le_of_ble_eq_true rfl⟩) ⟨ax_blind (fun _ _ _ _ hq => ⟨sxc_W_same _ _ _ _ (hq.1), va_Nw.same rfl rfl (hq.2)⟩), zr_3 hKc hPc (q0 := 0) rfl, ax_preE hPc hKc hDc (fun U hU hW => ⟨sxc_W_to (sxc_T_w hE0 (i := 10) (by decide)) hS.2.1 hFc hU hW, va_Nw.warmM hW hE1⟩)⟩ rfl rfl hl.1 rfl (lv_room (Nat.le_of_ble_eq_true rfl)) dX3_readLaw_49 ⟨Nat.le_of_ble_eq_true rfl, Nat.le_of_ble_eq_true rfl⟩) hS (fun q _ h => hFc q h) hFc (fun r49 v49na0_13 t H1 locs ht hvm hw hB hz1 hk1 hS => ?_)
    obtain ⟨v49na0_1, v49na0_2, v49na0_8, v49na0_9, v49na0_10, v49na0_11, v49na0_12, bv49na0_8, bv49na0_9, bv49na0_10, hraw49_0, hP1, hK1, hD1⟩ := hB
    rw [ht] at hP1
    obtain ⟨hP, hD⟩ := zc_back (w := [(a0, .inr (3, [a0g_0, .int v49na0_1, .int v49na0_2, .ref a0_3, a0g_4, .ref a0_5, a0g_6, .int a0_7, .int v49na0_8, .int v49na0_9, .int v49na0_10, .long v49na0_11, .int v49na0_12, .int v49na0_13])), (a0_3, .inl (ka0_3, 900, .inl (fa0_3))), (a0_5, .inr (0, [.int a0_5_0, a0_5g_1, a0_5g_2, a0_5g_3, .int a0_5_4, .int v17na0_13, .int a0_5_6, .int a0_5_7, a0_5g_8, a0_5g_9, a0_5g_10, a0_5g_11, a0_5g_12, a0_5g_13, a0_5g_14]))]) hP hD hCc hk1 hFc hP1 hD1 [.inr 0, .inr 1, .inl 2] (by decide +kernel) rfl
    generalize H1 = H at hP hS ⊢
    obtain ⟨hw, hfr49⟩ := hw
    rw [show (0 : Int32).toInt = 0 from by decide, show ((4 : Nat) : Int) = 4 from rfl] at hfr49 hraw49_0
    have hc49 : Ff_X3_takeWhole 0 x16.toInt v17na0_1.toInt v17na0_2.toInt a0_7.toInt v17na0_8.toInt v17na0_9.toInt v17na0_10.toInt v17na0_11.toInt v17na0_12.toInt v17na0_13.toInt (fl_A fa0_3) 4 (fl_A (sxc 10)) = (r49.toInt, v49na0_1.toInt, v49na0_2.toInt, v49na0_8.toInt, v49na0_9.toInt, v49na0_10.toInt, v49na0_11.toInt, v49na0_12.toInt, v49na0_13.toInt) := Prod.ext hfr49.symm hraw49_0
    have hF0 := hF0.trans (fl_c9_eq hc49)
    rcases hw with hw | hw
    · obtain ⟨hw, h49⟩ := hw
      subst hw
      have l49k0_v49na0_13 : (0 : Int) ≤ v49na0_13.toInt := Int.le_trans zq5 h49.1
      have u49k0_v49na0_13 : v49na0_13.toInt ≤ (8 : Int) := Int.le_trans h49.2 bx16.2
      have hF0 := hF0.trans (if_pos (by decide))
      refine lv_if_ne (tgt := 57) hx hb dX3_readLaw_52 (by decide) (fun _ => ?_) (fun c52 => absurd c52 (by decide +kernel))
      refine lv_aload_n hx hb dX3_readLaw_57 rfl (lv_at hl 0 rfl) ?_
      refine va_get (D := (dC, dI)) (ci := 3) (v := .ref a0_5) (C := RX3) (T := TX3) (N := 14) hx hb hts zi_X3_readLaw_3 hown hK hP 0 rfl rfl 5 (by decide) (hts (.fieldLink RX3 22 "WaxTurns$Reade\x72" "draft" "LWaxTurns$Hall;") (zm_X3_readLaw_r1 (List.mem_of_getElem? (i := 0) rfl))) (fun _ h9 => h9) rfl dX3_readLaw_58 ?_
      refine lv_aload_n hx hb dX3_readLaw_61 rfl (lv_at hl 0 rfl) ?_
      refine va_get (D := (dC, dI)) (ci := 3) (v := .int v49na0_13) (C := RX3) (T := TX3) (N := 14) hx hb hts zi_X3_readLaw_3 hown hK hP 0 rfl rfl 13 (by decide) (hts (.fieldLink RX3 156 "WaxTurns$Reade\x72" "taken" "I") (zm_X3_readLaw_r1 (List.mem_of_getElem? (i := 2) rfl))) (fun _ h9 => h9) rfl dX3_readLaw_62 ?_
      refine va_put (D := (dC, dI)) (ci := 0) (v := .int v49na0_13) (ty := .int) (C := RX0) (T := TX0) (N := 15) hx hb hts zi_X3_readLaw_0 tyX0 tyX0_ok nmX0 hown hK hP hD hS 2 rfl rfl 6 (by decide) (hts (.fieldLink RX3 178 "WaxTurns$Hall" "plus" "I") (zm_X3_readLaw_r1 (List.mem_of_getElem? (i := 4) rfl))) (fun _ h9 => h9) rfl (tyX0_ok 6 (by decide)) rfl rfl (Nat.le_of_ble_eq_true rfl) dX3_readLaw_65 (fun H locs hP hD hS => ?_)
      obtain ⟨hP, hD⟩ := zc_re (w := [(a0, .inr (3, [a0g_0, .int v49na0_1, .int v49na0_2, .ref a0_3, a0g_4, .ref a0_5, a0g_6, .int a0_7, .int v49na0_8, .int v49na0_9, .int v49na0_10, .long v49na0_11, .int v49na0_12, .int v49na0_13])), (a0_3, .inl (ka0_3, 900, .inl (fa0_3))), (a0_5, .inr (0, [.int a0_5_0, a0_5g_1, a0_5g_2, a0_5g_3, .int a0_5_4, .int v17na0_13, .int v49na0_13, .int a0_5_7, a0_5g_8, a0_5g_9, a0_5g_10, a0_5g_11, a0_5g_12, a0_5g_13, a0_5g_14]))]) hP hD rfl
      refine lv_aload_n hx hb dX3_readLaw_68 rfl (lv_at hl 0 rfl) ?_
      refine va_ldcS hx hb hown (sxc_R11 hE0) dX3_readLaw_69 ?_
      refine lv_iconst (v := 0) hx hb dX3_readLaw_71 zk_iconst_0 ?_
      refine lv_aload_n hx hb dX3_readLaw_72 rfl (lv_at hl 0 rfl) ?_
      refine va_get (D := (dC, dI)) (ci := 3) (v := .ref a0_5) (C := RX3) (T := TX3) (N := 14) hx hb hts zi_X3_readLaw_3 hown hK hP 0 rfl rfl 5 (by decide) (hts (.fieldLink RX3 22 "WaxTurns$Reade\x72" "draft" "LWaxTurns$Hall;") (zm_X3_readLaw_r1 (List.mem_of_getElem? (i := 0) rfl))) (fun _ h9 => h9) rfl dX3_readLaw_73 ?_
      refine va_get (D := (dC, dI)) (ci := 0) (v := .int a0_5_0) (C := RX0) (T := TX0) (N := 15) hx hb hts zi_X3_readLaw_0 hown hK hP 2 rfl rfl 0 (by decide) (hts (.fieldLink RX3 104 "WaxTurns$Hall" "figures" "I") (zm_X3_readLaw_r1 (List.mem_of_getElem? (i := 1) rfl))) (fun _ h9 => h9) rfl dX3_readLaw_76 ?_
      refine lv_iconst (v := 1) hx hb dX3_readLaw_79 zk_iconst_1 ?_
      refine lv_isub hx hb dX3_readLaw_80 ?_
      refine ax_ti x16 ex16.symm ?_
      obtain ⟨hPc, hDc, hFc, hCc⟩ := zc_cut (wc := [(a0, .inr (3, [a0g_0, .int v49na0_1, .int v49na0_2, .ref a0_3, a0g_4, .ref a0_5, a0g_6, .int a0_7, .int v49na0_8, .int v49na0_9, .int v49na0_10, .long v49na0_11, .int v49na0_12, .int v49na0_13])), (a0_3, .inl (ka0_3, 900, .inl (fa0_3)))]) hP hD hS hA [0, 1] (by decide +kernel) rfl
      have hKc := hK.sub (tys' := [(ka0_3, .byte)]) [0] rfl
      refine va_calli (va_runV (As := [.ref (ad 11), .int 0, .int x16]) (rest := []) ⟨hx, hb, hml, hown, hts⟩ (f_X3_takeWhole l dC dI H.size a0 (ad 11) 0 x16 a0g_0 a0g_4 (.ref a0_5) a0g_6 v49na0_1 v49na0_2 a0_3 a0_7 v49na0_8 v49na0_9 v49na0_10 v49na0_11 v49na0_12 v49na0_13 ka0_3 fa0_3 5 (sxc 11) ba0_7_l ba0_7_u bv49na0_8.1 bv49na0_8.2 bv49na0_9.1 bv49na0_9.2 bv49na0_10.1 bv49na0_10.2) (cwV 3 hts gX3_readLaw_X3_takeWhole rfl rfl rfl zd_X3_takeWhole ⟨Nat.le_of_ble_eq_true rfl, Nat.le_of_ble_eq_true rfl⟩) ⟨ax_blind (fun _ _ _ _ hq => ⟨sxc_W_same _ _ _ _ (hq.1), va_Nw.same rfl rfl (hq.2)⟩), zr_3 hKc hPc (q0 := 0) rfl, ax_preE hPc hKc hDc (fun U hU hW => ⟨sxc_W_to (sxc_T_w hE0 (i := 11) (by decide)) hS.2.1 hFc hU hW, va_Nw.warmM hW hE1⟩)⟩ rfl rfl hl.1 rfl (lv_room (Nat.le_of_ble_eq_true rfl)) dX3_readLaw_81 ⟨Nat.le_of_ble_eq_true rfl, Nat.le_of_ble_eq_true rfl⟩) hS (fun q _ h => hFc q h) hFc (fun r81 v81na0_13 t H1 locs ht hvm hw hB hz1 hk1 hS => ?_)
      obtain ⟨v81na0_1, v81na0_2, v81na0_8, v81na0_9, v81na0_10, v81na0_11, v81na0_12, bv81na0_8, bv81na0_9, bv81na0_10, hraw81_0, hP1, hK1, hD1⟩ := hB
      rw [ht] at hP1
      obtain ⟨hP, hD⟩ := zc_back (w := [(a0, .inr (3, [a0g_0, .int v81na0_1, .int v81na0_2, .ref a0_3, a0g_4, .ref a0_5, a0g_6, .int a0_7, .int v81na0_8, .int v81na0_9, .int v81na0_10, .long v81na0_11, .int v81na0_12, .int v81na0_13])), (a0_3, .inl (ka0_3, 900, .inl (fa0_3))), (a0_5, .inr (0, [.int a0_5_0, a0_5g_1, a0_5g_2, a0_5g_3, .int a0_5_4, .int v17na0_13, .int v49na0_13, .int a0_5_7, a0_5g_8, a0_5g_9, a0_5g_10, a0_5g_11, a0_5g_12, a0_5g_13, a0_5g_14]))]) hP hD hCc hk1 hFc hP1 hD1 [.inr 0, .inr 1, .inl 2] (by decide +kernel) rfl
      generalize H1 = H at hP hS ⊢
      obtain ⟨hw, hfr81⟩ := hw
      rw [show (0 : Int32).toInt = 0 from by decide, show ((5 : Nat) : Int) = 5 from rfl] at hfr81 hraw81_0
      have hc81 : Ff_X3_takeWhole 0 x16.toInt v49na0_1.toInt v49na0_2.toInt a0_7.toInt v49na0_8.toInt v49na0_9.toInt v49na0_10.toInt v49na0_11.toInt v49na0_12.toInt v49na0_13.toInt (fl_A fa0_3) 5 (fl_A (sxc 11)) = (r81.toInt, v81na0_1.toInt, v81na0_2.toInt, v81na0_8.toInt, v81na0_9.toInt, v81na0_10.toInt, v81na0_11.toInt, v81na0_12.toInt, v81na0_13.toInt) := Prod.ext hfr81.symm hraw81_0
      have hF0 := hF0.trans (fl_c9_eq hc81)
      rcases hw with hw | hw
      · obtain ⟨hw, h81⟩ := hw
        subst hw
        have l81k0_v81na0_13 : (0 : Int) ≤ v81na0_13.toInt := Int.le_trans zq5 h81.1
        have u81k0_v81na0_13 : v81na0_13.toInt ≤ (8 : Int) := Int.le_trans h81.2 bx16.2
        have hF0 := hF0.trans (if_pos (by decide))
        refine lv_if_ne (tgt := 89) hx hb dX3_readLaw_84 (by decide) (fun _ => ?_) (fun c84 => absurd c84 (by decide +kernel))
        refine lv_aload_n hx hb dX3_readLaw_89 rfl (lv_at hl 0 rfl) ?_
        refine va_get (D := (dC, dI)) (ci := 3) (v := .ref a0_5) (C := RX3) (T := TX3) (N := 14) hx hb hts zi_X3_readLaw_3 hown hK hP 0 rfl rfl 5 (by decide) (hts (.fieldLink RX3 22 "WaxTurns$Reade\x72" "draft" "LWaxTurns$Hall;") (zm_X3_readLaw_r1 (List.mem_of_getElem? (i := 0) rfl))) (fun _ h9 => h9) rfl dX3_readLaw_90 ?_
        refine lv_aload_n hx hb dX3_readLaw_93 rfl (lv_at hl 0 rfl) ?_
        refine va_get (D := (dC, dI)) (ci := 3) (v := .int v81na0_13) (C := RX3) (T := TX3) (N := 14) hx hb hts zi_X3_readLaw_3 hown hK hP 0 rfl rfl 13 (by decide) (hts (.fieldLink RX3 156 "WaxTurns$Reade\x72" "taken" "I") (zm_X3_readLaw_r1 (List.mem_of_getElem? (i := 2) rfl))) (fun _ h9 => h9) rfl dX3_readLaw_94 ?_
        refine va_put (D := (dC, dI)) (ci := 0) (v := .int v81na0_13) (ty := .int) (C := RX0) (T := TX0) (N := 15) hx hb hts zi_X3_readLaw_0 tyX0 tyX0_ok nmX0 hown hK hP hD hS 2 rfl rfl 7 (by decide) (hts (.fieldLink RX3 182 "WaxTurns$Hall" "first" "I") (zm_X3_readLaw_r1 (List.mem_of_getElem? (i := 5) rfl))) (fun _ h9 => h9) rfl (tyX0_ok 7 (by decide)) rfl rfl (Nat.le_of_ble_eq_true rfl) dX3_readLaw_97 (fun H locs hP hD hS => ?_)
        obtain ⟨hP, hD⟩ := zc_re (w := [(a0, .inr (3, [a0g_0, .int v81na0_1, .int v81na0_2, .ref a0_3, a0g_4, .ref a0_5, a0g_6, .int a0_7, .int v81na0_8, .int v81na0_9, .int v81na0_10, .long v81na0_11, .int v81na0_12, .int v81na0_13])), (a0_3, .inl (ka0_3, 900, .inl (fa0_3))), (a0_5, .inr (0, [.int a0_5_0, a0_5g_1, a0_5g_2, a0_5g_3, .int a0_5_4, .int v17na0_13, .int v49na0_13, .int v81na0_13, a0_5g_8, a0_5g_9, a0_5g_10, a0_5g_11, a0_5g_12, a0_5g_13, a0_5g_14]))]) hP hD rfl
        refine lv_aload_n hx hb dX3_readLaw_100 rfl (lv_at hl 0 rfl) ?_
        refine va_get (D := (dC, dI)) (ci := 3) (v := .ref a0_5) (C := RX3) (T := TX3) (N := 14) hx hb hts zi_X3_readLaw_3 hown hK hP 0 rfl rfl 5 (by decide) (hts (.fieldLink RX3 22 "WaxTurns$Reade\x72" "draft" "LWaxTurns$Hall;") (zm_X3_readLaw_r1 (List.mem_of_getElem? (i := 0) rfl))) (fun _ h9 => h9) rfl dX3_readLaw_101 ?_
        refine lv_iconst (v := 1) hx hb dX3_readLaw_104 zk_iconst_1 ?_
        refine va_put (D := (dC, dI)) (ci := 0) (v := .int 1) (ty := .boolean) (C := RX0) (T := TX0) (N := 15) hx hb hts zi_X3_readLaw_0 tyX0 tyX0_ok nmX0 hown hK hP hD hS 2 rfl rfl 4 (by decide) (hts (.fieldLink RX3 68 "WaxTurns$Hall" "lawTold" "Z") (zm_X3_readLaw_r1 (List.mem_of_getElem? (i := 6) rfl))) (fun _ h9 => h9) rfl (tyX0_ok 4 (by decide)) rfl rfl (Nat.le_of_ble_eq_true rfl) dX3_readLaw_105 (fun H locs hP hD hS => ?_)
        obtain ⟨hP, hD⟩ := zc_re (w := [(a0, .inr (3, [a0g_0, .int v81na0_1, .int v81na0_2, .ref a0_3, a0g_4, .ref a0_5, a0g_6, .int a0_7, .int v81na0_8, .int v81na0_9, .int v81na0_10, .long v81na0_11, .int v81na0_12, .int v81na0_13])), (a0_3, .inl (ka0_3, 900, .inl (fa0_3))), (a0_5, .inr (0, [.int a0_5_0, a0_5g_1, a0_5g_2, a0_5g_3, .int 1, .int v17na0_13, .int v49na0_13, .int v81na0_13, a0_5g_8, a0_5g_9, a0_5g_10, a0_5g_11, a0_5g_12, a0_5g_13, a0_5g_14]))]) hP hD rfl
        refine lv_iconst (v := 1) hx hb dX3_readLaw_108 zk_iconst_1 ?_
        have hFe : FX = (1, v81na0_1.toInt, v81na0_2.toInt, v81na0_8.toInt, v81na0_9.toInt, v81na0_10.toInt, v81na0_11.toInt, v81na0_12.toInt, v81na0_13.toInt, 1, v17na0_13.toInt, v49na0_13.toInt, v81na0_13.toInt) := hF0
        exact W.zret (v := 1) hx hb hr rfl (fun t ht hW => ⟨⟨1, (), rfl, ⟨(Or.inl (rfl)), (congrArg Prod.fst hFe).symm⟩, v81na0_1, v81na0_2, v81na0_8, v81na0_9, v81na0_10, v81na0_11, v81na0_12, v81na0_13, 1, v17na0_13, v49na0_13, v81na0_13, ⟨bv81na0_8.1, bv81na0_8.2⟩, ⟨bv81na0_9.1, bv81na0_9.2⟩, ⟨bv81na0_10.1, bv81na0_10.2⟩, ⟨Int.le_trans (by decide) zq1, zq0⟩, ⟨l17k0_v17na0_13, u17k0_v17na0_13⟩, ⟨l49k0_v49na0_13, u49k0_v49na0_13⟩, ⟨l81k0_v81na0_13, u81k0_v81na0_13⟩, (congrArg Prod.snd hFe), by rw [ht]; exact hP, va_K.moved hW.alike hK, hD⟩, hS.F ht⟩) hS.2.2 dX3_readLaw_109
      · subst hw
        have hF0 := hF0.trans (if_neg (by decide))
        refine lv_if_ne (tgt := 89) hx hb dX3_readLaw_84 (by decide) (fun c84 => absurd (by decide +kernel) c84) (fun _ => ?_)
        refine lv_iconst (v := 0) hx hb dX3_readLaw_87 zk_iconst_0 ?_
        have hFe : FX = (0, v81na0_1.toInt, v81na0_2.toInt, v81na0_8.toInt, v81na0_9.toInt, v81na0_10.toInt, v81na0_11.toInt, v81na0_12.toInt, v81na0_13.toInt, a0_5_4.toInt, v17na0_13.toInt, v49na0_13.toInt, a0_5_7.toInt) := hF0
        exact W.zret (v := 0) hx hb hr rfl (fun t ht hW => ⟨⟨0, (), rfl, ⟨(Or.inr (rfl)), (congrArg Prod.fst hFe).symm⟩, v81na0_1, v81na0_2, v81na0_8, v81na0_9, v81na0_10, v81na0_11, v81na0_12, v81na0_13, a0_5_4, v17na0_13, v49na0_13, a0_5_7, ⟨bv81na0_8.1, bv81na0_8.2⟩, ⟨bv81na0_9.1, bv81na0_9.2⟩, ⟨bv81na0_10.1, bv81na0_10.2⟩, ⟨ba0_5_4_l, ba0_5_4_u⟩, ⟨l17k0_v17na0_13, u17k0_v17na0_13⟩, ⟨l49k0_v49na0_13, u49k0_v49na0_13⟩, ⟨ba0_5_7_l, ba0_5_7_u⟩, (congrArg Prod.snd hFe), by rw [ht]; exact hP, va_K.moved hW.alike hK, hD⟩, hS.F ht⟩) hS.2.2 dX3_readLaw_88
    · subst hw
      have hF0 := hF0.trans (if_neg (by decide))
      refine lv_if_ne (tgt := 57) hx hb dX3_readLaw_52 (by decide) (fun c52 => absurd (by decide +kernel) c52) (fun _ => ?_)
      refine lv_iconst (v := 0) hx hb dX3_readLaw_55 zk_iconst_0 ?_
      have hFe : FX = (0, v49na0_1.toInt, v49na0_2.toInt, v49na0_8.toInt, v49na0_9.toInt, v49na0_10.toInt, v49na0_11.toInt, v49na0_12.toInt, v49na0_13.toInt, a0_5_4.toInt, v17na0_13.toInt, a0_5_6.toInt, a0_5_7.toInt) := hF0
      exact W.zret (v := 0) hx hb hr rfl (fun t ht hW => ⟨⟨0, (), rfl, ⟨(Or.inr (rfl)), (congrArg Prod.fst hFe).symm⟩, v49na0_1, v49na0_2, v49na0_8, v49na0_9, v49na0_10, v49na0_11, v49na0_12, v49na0_13, a0_5_4, v17na0_13, a0_5_6, a0_5_7, ⟨bv49na0_8.1, bv49na0_8.2⟩, ⟨bv49na0_9.1, bv49na0_9.2⟩, ⟨bv49na0_10.1, bv49na0_10.2⟩, ⟨ba0_5_4_l, ba0_5_4_u⟩, ⟨l17k0_v17na0_13, u17k0_v17na0_13⟩, ⟨ba0_5_6_l, ba0_5_6_u⟩, ⟨ba0_5_7_l, ba0_5_7_u⟩, (congrArg Prod.snd hFe), by rw [ht]; exact hP, va_K.moved hW.alike hK, hD⟩, hS.F ht⟩) hS.2.2 dX3_readLaw_56
  · subst hw
    have hF0 := hF0.trans (if_neg (by decide))
    refine lv_if_ne (tgt := 25) hx hb dX3_readLaw_20 (by decide) (fun c20 => absurd (by decide +kernel) c20) (fun _ => ?_)
    refine lv_iconst (v := 0) hx hb dX3_readLaw_23 zk_iconst_0 ?_
    have hFe : FX = (0, v17na0_1.toInt, v17na0_2.toInt, v17na0_8.toInt, v17na0_9.toInt, v17na0_10.toInt, v17na0_11.toInt, v17na0_12.toInt, v17na0_13.toInt, a0_5_4.toInt, a0_5_5.toInt, a0_5_6.toInt, a0_5_7.toInt) := hF0
    exact W.zret (v := 0) hx hb hr rfl (fun t ht hW => ⟨⟨0, (), rfl, ⟨(Or.inr (rfl)), (congrArg Prod.fst hFe).symm⟩, v17na0_1, v17na0_2, v17na0_8, v17na0_9, v17na0_10, v17na0_11, v17na0_12, v17na0_13, a0_5_4, a0_5_5, a0_5_6, a0_5_7, ⟨bv17na0_8.1, bv17na0_8.2⟩, ⟨bv17na0_9.1, bv17na0_9.2⟩, ⟨bv17na0_10.1, bv17na0_10.2⟩, ⟨ba0_5_4_l, ba0_5_4_u⟩, ⟨ba0_5_5_l, ba0_5_5_u⟩, ⟨ba0_5_6_l, ba0_5_6_u⟩, ⟨ba0_5_7_l, ba0_5_7_u⟩, (congrArg Prod.snd hFe), by rw [ht]; exact hP, va_K.moved hW.alike hK, hD⟩, hS.F ht⟩) hS.2.2 dX3_readLaw_24

set_option maxHeartbeats 4000000 in
set_option maxRecDepth 100000 in
theorem f_X3_readFigure (l : Launch) (dC : Nat → ClassId) (dI : Nat → Nat → Nat) (sz : Nat) (a0 : Nat) (a0g_0 : Value) (a0_1 : Int32) (a0_2 : Int32) (a0_3 : Nat) (a0_4 : Nat) (a0_5 : Nat) (a0_6 : Int32) (a0_7 : Int32) (a0_8 : Int32) (a0_9 : Int32) (a0_10 : Int32) (a0_11 : Int64) (a0_12 : Int32) (a0_13 : Int32) (ka0_3 : ClassId) (fa0_3 : Nat → Int32) (ka0_4 : ClassId) (fa0_4 : Nat → Int64) (a0_5_0 : Int32) (a0_5g_1 a0_5g_2 a0_5g_3 a0_5g_4 a0_5g_5 a0_5g_6 a0_5g_7 a0_5g_9 a0_5g_12 a0_5g_13 a0_5g_14 : Value) (a0_5_8 : Int32) (a0_5_10 : Nat) (a0_5_11 : Nat) (ka0_5_10 : ClassId) (fa0_5_10 : Nat → Int32) (ka0_5_11 : ClassId) (fa0_5_11 : Nat → Int32) (ad : Nat → Nat) (ba0_6_l : (0 : Int) ≤ a0_6.toInt) (ba0_6_u : a0_6.toInt ≤ (12 : Int)) (ba0_7_l : (0 : Int) ≤ a0_7.toInt) (ba0_7_u : a0_7.toInt ≤ (900 : Int)) (ba0_8_l : (0 : Int) ≤ a0_8.toInt) (ba0_8_u : a0_8.toInt ≤ (900 : Int)) (ba0_9_l : (0 : Int) ≤ a0_9.toInt) (ba0_9_u : a0_9.toInt ≤ (900 : Int)) (ba0_10_l : (0 : Int) ≤ a0_10.toInt) (ba0_10_u : a0_10.toInt ≤ (4 : Int)) (ba0_5_0_l : (0 : Int) ≤ a0_5_0.toInt) (ba0_5_0_u : a0_5_0.toInt ≤ (9 : Int)) : Met l yX3_readFigure wsX3_readFigure ({ frames := 6, cells := 0, slots := 0, locals := 132 }) (va_Pc [.ref a0] (ax_C dC dI sz [(a0, .inr (3, [a0g_0, .int a0_1, .int a0_2, .ref a0_3, .ref a0_4, .ref a0_5, .int a0_6, .int a0_7, .int a0_8, .int a0_9, .int a0_10, .long a0_11, .int a0_12, .int a0_13])), (a0_3, .inl (ka0_3, 900, .inl (fa0_3))), (a0_4, .inl (ka0_4, 12, .inr (.inl (fa0_4)))), (a0_5, .inr (0, [.int a0_5_0, a0_5g_1, a0_5g_2, a0_5g_3, a0_5g_4, a0_5g_5, a0_5g_6, a0_5g_7, .int a0_5_8, a0_5g_9, .ref a0_5_10, .ref a0_5_11, a0_5g_12, a0_5g_13, a0_5g_14])), (a0_5_10, .inl (ka0_5_10, 9, .inl (fa0_5_10))), (a0_5_11, .inl (ka0_5_11, 9, .inl (fa0_5_11)))] [(ka0_3, .byte), (ka0_4, .long), (ka0_5_10, .int), (ka0_5_11, .int)] (fun U => sxc_T ad (va_A [(a0, .inr (3, [a0g_0, .int a0_1, .int a0_2, .ref a0_3, .ref a0_4, .ref a0_5, .int a0_6, .int a0_7, .int a0_8, .int a0_9, .int a0_10, .long a0_11, .int a0_12, .int a0_13])), (a0_3, .inl (ka0_3, 900, .inl (fa0_3))), (a0_4, .inl (ka0_4, 12, .inr (.inl (fa0_4)))), (a0_5, .inr (0, [.int a0_5_0, a0_5g_1, a0_5g_2, a0_5g_3, a0_5g_4, a0_5g_5, a0_5g_6, a0_5g_7, .int a0_5_8, a0_5g_9, .ref a0_5_10, .ref a0_5_11, a0_5g_12, a0_5g_13, a0_5g_14])), (a0_5_10, .inl (ka0_5_10, 9, .inl (fa0_5_10))), (a0_5_11, .inl (ka0_5_11, 9, .inl (fa0_5_11)))] sz) U ∧ va_Nw (.methodLinkNest RX3 223 yX7_within RX7) U ∧ va_Nw (.methodLinkNest RX3 196 yX7_hasBit RX7) U))) (va_Qi (fun (r : Int32) (_ : Unit) => ((r = 1) ∨ (r = 0)) ∧ r.toInt = (Ff_X3_readFigure a0_1.toInt a0_2.toInt a0_6.toInt a0_7.toInt a0_9.toInt a0_11.toInt a0_12.toInt a0_13.toInt (fl_A fa0_3) (fl_L fa0_4) a0_5_0.toInt a0_5_8.toInt (fl_A fa0_5_10) (fl_A fa0_5_11)).1) (fun (_ : Unit) (t : State) => ∃ na0_1 : Int32, ∃ na0_2 : Int32, ∃ na0_6 : Int32, ∃ na0_8 : Int32, ∃ na0_9 : Int32, ∃ na0_10 : Int32, ∃ na0_11 : Int64, ∃ na0_12 : Int32, ∃ na0_13 : Int32, ∃ nfa0_4 : Nat → Int64, ∃ na0_5_8 : Int32, ∃ nfa0_5_10 : Nat → Int32, ∃ nfa0_5_11 : Nat → Int32, ((0 : Int) ≤ na0_6.toInt ∧ na0_6.toInt ≤ 12) ∧ ((0 : Int) ≤ na0_8.toInt ∧ na0_8.toInt ≤ 900) ∧ ((0 : Int) ≤ na0_9.toInt ∧ na0_9.toInt ≤ 900) ∧ ((0 : Int) ≤ na0_10.toInt ∧ na0_10.toInt ≤ 4) ∧ ((Ff_X3_readFigure a0_1.toInt a0_2.toInt a0_6.toInt a0_7.toInt a0_9.toInt a0_11.toInt a0_12.toInt a0_13.toInt (fl_A fa0_3) (fl_L fa0_4) a0_5_0.toInt a0_5_8.toInt (fl_A fa0_5_10) (fl_A fa0_5_11)).2 = (na0_1.toInt, na0_2.toInt, na0_6.toInt, na0_8.toInt, na0_9.toInt, na0_10.toInt, na0_11.toInt, na0_12.toInt, na0_13.toInt, (fl_L nfa0_4), na0_5_8.toInt, (fl_A nfa0_5_10), (fl_A nfa0_5_11))) ∧ ax_B dC dI (va_A [(a0, .inr (3, [a0g_0, .int a0_1, .int a0_2, .ref a0_3, .ref a0_4, .ref a0_5, .int a0_6, .int a0_7, .int a0_8, .int a0_9, .int a0_10, .long a0_11, .int a0_12, .int a0_13])), (a0_3, .inl (ka0_3, 900, .inl (fa0_3))), (a0_4, .inl (ka0_4, 12, .inr (.inl (fa0_4)))), (a0_5, .inr (0, [.int a0_5_0, a0_5g_1, a0_5g_2, a0_5g_3, a0_5g_4, a0_5g_5, a0_5g_6, a0_5g_7, .int a0_5_8, a0_5g_9, .ref a0_5_10, .ref a0_5_11, a0_5g_12, a0_5g_13, a0_5g_14])), (a0_5_10, .inl (ka0_5_10, 9, .inl (fa0_5_10))), (a0_5_11, .inl (ka0_5_11, 9, .inl (fa0_5_11)))] sz) [(a0, .inr (3, [a0g_0, .int na0_1, .int na0_2, .ref a0_3, .ref a0_4, .ref a0_5, .int na0_6, .int a0_7, .int na0_8, .int na0_9, .int na0_10, .long na0_11, .int na0_12, .int na0_13])), (a0_3, .inl (ka0_3, 900, .inl (fa0_3))), (a0_4, .inl (ka0_4, 12, .inr (.inl (nfa0_4)))), (a0_5, .inr (0, [.int a0_5_0, a0_5g_1, a0_5g_2, a0_5g_3, a0_5g_4, a0_5g_5, a0_5g_6, a0_5g_7, .int na0_5_8, a0_5g_9, .ref a0_5_10, .ref a0_5_11, a0_5g_12, a0_5g_13, a0_5g_14])), (a0_5_10, .inl (ka0_5_10, 9, .inl (nfa0_5_10))), (a0_5_11, .inl (ka0_5_11, 9, .inl (nfa0_5_11)))] [(ka0_3, .byte), (ka0_4, .long), (ka0_5_10, .int), (ka0_5_11, .int)] t) (va_A [(a0, .inr (3, [a0g_0, .int a0_1, .int a0_2, .ref a0_3, .ref a0_4, .ref a0_5, .int a0_6, .int a0_7, .int a0_8, .int a0_9, .int a0_10, .long a0_11, .int a0_12, .int a0_13])), (a0_3, .inl (ka0_3, 900, .inl (fa0_3))), (a0_4, .inl (ka0_4, 12, .inr (.inl (fa0_4)))), (a0_5, .inr (0, [.int a0_5_0, a0_5g_1, a0_5g_2, a0_5g_3, a0_5g_4, a0_5g_5, a0_5g_6, a0_5g_7, .int a0_5_8, a0_5g_9, .ref a0_5_10, .ref a0_5_11, a0_5g_12, a0_5g_13, a0_5g_14])), (a0_5_10, .inl (ka0_5_10, 9, .inl (fa0_5_10))), (a0_5_11, .inl (ka0_5_11, 9, .inl (fa0_5_11)))] sz)) 0 0 (va_A [(a0, .inr (3, [a0g_0, .int a0_1, .int a0_2, .ref a0_3, .ref a0_4, .ref a0_5, .int a0_6, .int a0_7, .int a0_8, .int a0_9, .int a0_10, .long a0_11, .int a0_12, .int a0_13])), (a0_3, .inl (ka0_3, 900, .inl (fa0_3))), (a0_4, .inl (ka0_4, 12, .inr (.inl (fa0_4)))), (a0_5, .inr (0, [.int a0_5_0, a0_5g_1, a0_5g_2, a0_5g_3, a0_5g_4, a0_5g_5, a0_5g_6, a0_5g_7, .int a0_5_8, a0_5g_9, .ref a0_5_10, .ref a0_5_11, a0_5g_12, a0_5g_13, a0_5g_14])), (a0_5_10, .inl (ka0_5_10, 9, .inl (fa0_5_10))), (a0_5_11, .inl (ka0_5_11, 9, .inl (fa0_5_11)))] sz) := by
  refine Met.ofW (cc := cX3_readFigure) (maxL := 3) (ret := (some .boolean)) (by decide) rfl ?_
  intro p e s m args below meth c s₁ B hml hv
  obtain ⟨rfl, hsz, hP, hK, hD0, hE⟩ := hv
  have hx := B.exec
  have hb := B.bytes
  have hr := B.returns
  have hts := atoms_spec (ws := wsX3_readFigure) B.pre
  have hown : s.vm.findClass RX3 = some m.cls := findClass_of_methodNamed B.named
  have hlocks := B.notSynchronized
  subst hsz
  have hD := hD0.self (sz := s.heap.size)
  generalize hAe : va_A [(a0, .inr (3, [a0g_0, .int a0_1, .int a0_2, .ref a0_3, .ref a0_4, .ref a0_5, .int a0_6, .int a0_7, .int a0_8, .int a0_9, .int a0_10, .long a0_11, .int a0_12, .int a0_13])), (a0_3, .inl (ka0_3, 900, .inl (fa0_3))), (a0_4, .inl (ka0_4, 12, .inr (.inl (fa0_4)))), (a0_5, .inr (0, [.int a0_5_0, a0_5g_1, a0_5g_2, a0_5g_3, a0_5g_4, a0_5g_5, a0_5g_6, a0_5g_7, .int a0_5_8, a0_5g_9, .ref a0_5_10, .ref a0_5_11, a0_5g_12, a0_5g_13, a0_5g_14])), (a0_5_10, .inl (ka0_5_10, 9, .inl (fa0_5_10))), (a0_5_11, .inl (ka0_5_11, 9, .inl (fa0_5_11)))] s.heap.size = A at hD hE ⊢
  have hA : ∀ q : Nat, s.heap.size ≤ q → A q := fun q h => by rw [← hAe]; exact Or.inr h
  have hS : va_S A s.heap s.heap [] := va_S.rf
  have hP : va_P (dC, dI) vwCl [(a0, .inr (3, [a0g_0, .int a0_1, .int a0_2, .ref a0_3, .ref a0_4, .ref a0_5, .int a0_6, .int a0_7, .int a0_8, .int a0_9, .int a0_10, .long a0_11, .int a0_12, .int a0_13])), (a0_3, .inl (ka0_3, 900, .inl (fa0_3))), (a0_4, .inl (ka0_4, 12, .inr (.inl (fa0_4)))), (a0_5, .inr (0, [.int a0_5_0, a0_5g_1, a0_5g_2, a0_5g_3, a0_5g_4, a0_5g_5, a0_5g_6, a0_5g_7, .int a0_5_8, a0_5g_9, .ref a0_5_10, .ref a0_5_11, a0_5g_12, a0_5g_13, a0_5g_14])), (a0_5_10, .inl (ka0_5_10, 9, .inl (fa0_5_10))), (a0_5_11, .inl (ka0_5_11, 9, .inl (fa0_5_11)))] s.heap := hP
  obtain ⟨hE0, hE1, hE2⟩ := hE
  have hl := lv_entry ([.ref a0]) (n := 3) (Nat.le_of_ble_eq_true rfl)
  rw [lg_entry_eq]
  generalize (lg_sl ([.ref a0]) ++ List.replicate (3 - (lg_sl ([.ref a0])).length) Slot.unset).toArray = ls at hl ⊢
  have hl : lv_has ls 3 [(0, .ref a0)] := hl
  generalize hFX : Ff_X3_readFigure a0_1.toInt a0_2.toInt a0_6.toInt a0_7.toInt a0_9.toInt a0_11.toInt a0_12.toInt a0_13.toInt (fl_A fa0_3) (fl_L fa0_4) a0_5_0.toInt a0_5_8.toInt (fl_A fa0_5_10) (fl_A fa0_5_11) = FX at ⊢
  have hF0 := hFX.symm.trans (Ff_X3_readFigure.eq_1 a0_1.toInt a0_2.toInt a0_6.toInt a0_7.toInt a0_9.toInt a0_11.toInt a0_12.toInt a0_13.toInt (fl_A fa0_3) (fl_L fa0_4) a0_5_0.toInt a0_5_8.toInt (fl_A fa0_5_10) (fl_A fa0_5_11))
  refine lv_aload_n hx hb dX3_readFigure_0 rfl (lv_at hl 0 rfl) ?_
  obtain ⟨hPc, hDc, hFc, hCc⟩ := zc_cut (wc := [(a0, .inr (3, [a0g_0, .int a0_1, .int a0_2, .ref a0_3, .ref a0_4, .ref a0_5, .int a0_6, .int a0_7, .int a0_8, .int a0_9, .int a0_10, .long a0_11, .int a0_12, .int a0_13])), (a0_3, .inl (ka0_3, 900, .inl (fa0_3)))]) hP hD hS hA [0, 1] (by decide +kernel) rfl
  have hKc := hK.sub (tys' := [(ka0_3, .byte)]) [0] rfl
  refine va_callv (va_runV (As := []) (rest := []) ⟨hx, hb, hml, hown, hts⟩ (f_X3_advance l dC dI s.heap.size a0 a0g_0 (.int a0_1) (.int a0_2) (.ref a0_4) (.ref a0_5) (.int a0_6) (.int a0_13) a0_3 a0_7 a0_8 a0_9 a0_10 a0_11 a0_12 ka0_3 fa0_3 ba0_7_l ba0_7_u ba0_8_l ba0_8_u ba0_9_l ba0_9_u ba0_10_l ba0_10_u) (cwV 0 hts gX3_readFigure_X3_advance rfl rfl rfl zd_X3_advance ⟨Nat.le_of_ble_eq_true rfl, Nat.le_of_ble_eq_true rfl⟩) ⟨ax_blind (fun _ _ _ _ _ => trivial), zr_3 hKc hPc (q0 := 0) rfl, ax_pre hPc hKc hDc (fun _ _ => trivial)⟩ rfl rfl hl.1 rfl (lv_room (Nat.le_of_ble_eq_true rfl)) dX3_readFigure_1 ⟨Nat.le_of_ble_eq_true rfl, Nat.le_of_ble_eq_true rfl⟩) hS (fun q _ h => hFc q h) hFc (fun u t H locs ht hvm hw hB hz1 hk1 hS => ?_)
  obtain ⟨v1na0_8, v1na0_9, v1na0_10, v1na0_11, v1na0_12, bv1na0_8, bv1na0_9, bv1na0_10, hraw1_0, hP1, hK1, hD1⟩ := hB
  rw [ht] at hP1
  obtain ⟨hP, hD⟩ := zc_back (w := [(a0, .inr (3, [a0g_0, .int a0_1, .int a0_2, .ref a0_3, .ref a0_4, .ref a0_5, .int a0_6, .int a0_7, .int v1na0_8, .int v1na0_9, .int v1na0_10, .long v1na0_11, .int v1na0_12, .int a0_13])), (a0_3, .inl (ka0_3, 900, .inl (fa0_3))), (a0_4, .inl (ka0_4, 12, .inr (.inl (fa0_4)))), (a0_5, .inr (0, [.int a0_5_0, a0_5g_1, a0_5g_2, a0_5g_3, a0_5g_4, a0_5g_5, a0_5g_6, a0_5g_7, .int a0_5_8, a0_5g_9, .ref a0_5_10, .ref a0_5_11, a0_5g_12, a0_5g_13, a0_5g_14])), (a0_5_10, .inl (ka0_5_10, 9, .inl (fa0_5_10))), (a0_5_11, .inl (ka0_5_11, 9, .inl (fa0_5_11)))]) hP hD hCc hk1 hFc hP1 hD1 [.inr 0, .inr 1, .inl 2, .inl 3, .inl 4, .inl 5] (by decide +kernel) rfl
  have hc1 : Ff_X3_advance a0_7.toInt a0_9.toInt a0_11.toInt a0_12.toInt (fl_A fa0_3) = (v1na0_8.toInt, v1na0_9.toInt, v1na0_10.toInt, v1na0_11.toInt, v1na0_12.toInt) := hraw1_0
  have hF0 := hF0.trans (fl_c5_eq hc1)
  refine lv_aload_n hx hb dX3_readFigure_4 rfl (lv_at hl 0 rfl) ?_
  obtain ⟨hPc, hDc, hFc, hCc⟩ := zc_cut (wc := [(a0, .inr (3, [a0g_0, .int a0_1, .int a0_2, .ref a0_3, .ref a0_4, .ref a0_5, .int a0_6, .int a0_7, .int v1na0_8, .int v1na0_9, .int v1na0_10, .long v1na0_11, .int v1na0_12, .int a0_13])), (a0_4, .inl (ka0_4, 12, .inr (.inl (fa0_4)))), (a0_3, .inl (ka0_3, 900, .inl (fa0_3)))]) hP hD hS hA [0, 2, 1] (by decide +kernel) rfl
  have hKc := hK.sub (tys' := [(ka0_4, .long), (ka0_3, .byte)]) [1, 0] rfl
  refine va_calli (va_runV (As := []) (rest := []) ⟨hx, hb, hml, hown, hts⟩ (f_X3_takeName l dC dI H.size a0 a0g_0 (.ref a0_5) (.int a0_13) a0_1 a0_2 a0_3 a0_4 a0_6 a0_7 v1na0_8 v1na0_9 v1na0_10 v1na0_11 v1na0_12 ka0_4 fa0_4 ka0_3 fa0_3 ad ba0_6_l ba0_6_u ba0_7_l ba0_7_u bv1na0_8.1 bv1na0_8.2 bv1na0_9.1 bv1na0_9.2 bv1na0_10.1 bv1na0_10.2) (cwV 0 hts gX3_readFigure_X3_takeName rfl rfl rfl zd_X3_takeName ⟨Nat.le_of_ble_eq_true rfl, Nat.le_of_ble_eq_true rfl⟩) ⟨ax_blind (fun _ _ _ _ hq => sxc_T_same _ _ _ _ (hq)), zr_3 hKc hPc (q0 := 0) rfl, ax_preE hPc hKc hDc (fun U hU hW => sxc_T_to hE0 hS.2.1 hFc hU hW)⟩ rfl rfl hl.1 rfl (lv_room (Nat.le_of_ble_eq_true rfl)) dX3_readFigure_5 ⟨Nat.le_of_ble_eq_true rfl, Nat.le_of_ble_eq_true rfl⟩) hS (fun q _ h => hFc q h) hFc (fun r5 u t H locs ht hvm hw hB hz1 hk1 hS => ?_)
  obtain ⟨v5na0_1, v5na0_2, v5na0_6, v5na0_8, v5na0_9, v5na0_10, v5na0_11, v5na0_12, v5nfa0_4, bv5na0_6, bv5na0_8, bv5na0_9, bv5na0_10, hraw5_0, hP1, hK1, hD1⟩ := hB
  rw [ht] at hP1
  obtain ⟨hP, hD⟩ := zc_back (w := [(a0, .inr (3, [a0g_0, .int v5na0_1, .int v5na0_2, .ref a0_3, .ref a0_4, .ref a0_5, .int v5na0_6, .int a0_7, .int v5na0_8, .int v5na0_9, .int v5na0_10, .long v5na0_11, .int v5na0_12, .int a0_13])), (a0_3, .inl (ka0_3, 900, .inl (fa0_3))), (a0_4, .inl (ka0_4, 12, .inr (.inl (v5nfa0_4)))), (a0_5, .inr (0, [.int a0_5_0, a0_5g_1, a0_5g_2, a0_5g_3, a0_5g_4, a0_5g_5, a0_5g_6, a0_5g_7, .int a0_5_8, a0_5g_9, .ref a0_5_10, .ref a0_5_11, a0_5g_12, a0_5g_13, a0_5g_14])), (a0_5_10, .inl (ka0_5_10, 9, .inl (fa0_5_10))), (a0_5_11, .inl (ka0_5_11, 9, .inl (fa0_5_11)))]) hP hD hCc hk1 hFc hP1 hD1 [.inr 0, .inr 2, .inr 1, .inl 3, .inl 4, .inl 5] (by decide +kernel) rfl
  obtain ⟨hw, hfr5⟩ := hw
  have hc5 : Ff_X3_takeName a0_1.toInt a0_2.toInt a0_6.toInt a0_7.toInt v1na0_8.toInt v1na0_9.toInt v1na0_10.toInt v1na0_11.toInt v1na0_12.toInt (fl_L fa0_4) (fl_A fa0_3) = (r5.toInt, v5na0_1.toInt, v5na0_2.toInt, v5na0_6.toInt, v5na0_8.toInt, v5na0_9.toInt, v5na0_10.toInt, v5na0_11.toInt, v5na0_12.toInt, (fl_L v5nfa0_4)) := Prod.ext hfr5.symm hraw5_0
  have hF0 := hF0.trans (fl_c10_eq hc5)
  rcases hw with hw | hw
  · subst hw
    have hF0 := hF0.trans (if_pos (by decide))
    refine lv_if_eq (tgt := 37) hx hb dX3_readFigure_8 (by decide) (fun c8 => absurd c8 (by decide +kernel)) (fun _ => ?_)
    refine lv_aload_n hx hb dX3_readFigure_11 rfl (lv_at hl 0 rfl) ?_
    refine va_ldcS hx hb hown (sxc_R12 hE0) dX3_readFigure_12 ?_
    obtain ⟨hPc, hDc, hFc, hCc⟩ := zc_cut (wc := [(a0, .inr (3, [a0g_0, .int v5na0_1, .int v5na0_2, .ref a0_3, .ref a0_4, .ref a0_5, .int v5na0_6, .int a0_7, .int v5na0_8, .int v5na0_9, .int v5na0_10, .long v5na0_11, .int v5na0_12, .int a0_13])), (a0_3, .inl (ka0_3, 900, .inl (fa0_3)))]) hP hD hS hA [0, 1] (by decide +kernel) rfl
    have hKc := hK.sub (tys' := [(ka0_3, .byte)]) [0] rfl
    refine va_calli (va_runV (As := [.ref (ad 12)]) (rest := []) ⟨hx, hb, hml, hown, hts⟩ (f_X3_takeWord l dC dI H.size a0 (ad 12) a0g_0 (.ref a0_4) (.ref a0_5) (.int v5na0_6) (.int a0_13) v5na0_1 v5na0_2 a0_3 a0_7 v5na0_8 v5na0_9 v5na0_10 v5na0_11 v5na0_12 ka0_3 fa0_3 2 (sxc 12) ba0_7_l ba0_7_u bv5na0_8.1 bv5na0_8.2 bv5na0_9.1 bv5na0_9.2 bv5na0_10.1 bv5na0_10.2) (cwV 1 hts gX3_readFigure_X3_takeWord rfl rfl rfl zd_X3_takeWord ⟨Nat.le_of_ble_eq_true rfl, Nat.le_of_ble_eq_true rfl⟩) ⟨ax_blind (fun _ _ _ _ hq => sxc_W_same _ _ _ _ (hq)), zr_3 hKc hPc (q0 := 0) rfl, ax_preE hPc hKc hDc (fun U hU hW => sxc_W_to (sxc_T_w hE0 (i := 12) (by decide)) hS.2.1 hFc hU hW)⟩ rfl rfl hl.1 rfl (lv_room (Nat.le_of_ble_eq_true rfl)) dX3_readFigure_14 ⟨Nat.le_of_ble_eq_true rfl, Nat.le_of_ble_eq_true rfl⟩) hS (fun q _ h => hFc q h) hFc (fun r14 u t H locs ht hvm hw hB hz1 hk1 hS => ?_)
    obtain ⟨v14na0_1, v14na0_2, v14na0_8, v14na0_9, v14na0_10, v14na0_11, v14na0_12, bv14na0_8, bv14na0_9, bv14na0_10, hraw14_0, hP1, hK1, hD1⟩ := hB
    rw [ht] at hP1
    obtain ⟨hP, hD⟩ := zc_back (w := [(a0, .inr (3, [a0g_0, .int v14na0_1, .int v14na0_2, .ref a0_3, .ref a0_4, .ref a0_5, .int v5na0_6, .int a0_7, .int v14na0_8, .int v14na0_9, .int v14na0_10, .long v14na0_11, .int v14na0_12, .int a0_13])), (a0_3, .inl (ka0_3, 900, .inl (fa0_3))), (a0_4, .inl (ka0_4, 12, .inr (.inl (v5nfa0_4)))), (a0_5, .inr (0, [.int a0_5_0, a0_5g_1, a0_5g_2, a0_5g_3, a0_5g_4, a0_5g_5, a0_5g_6, a0_5g_7, .int a0_5_8, a0_5g_9, .ref a0_5_10, .ref a0_5_11, a0_5g_12, a0_5g_13, a0_5g_14])), (a0_5_10, .inl (ka0_5_10, 9, .inl (fa0_5_10))), (a0_5_11, .inl (ka0_5_11, 9, .inl (fa0_5_11)))]) hP hD hCc hk1 hFc hP1 hD1 [.inr 0, .inr 1, .inl 2, .inl 3, .inl 4, .inl 5] (by decide +kernel) rfl
    obtain ⟨hw, hfr14⟩ := hw
    rw [show ((2 : Nat) : Int) = 2 from rfl] at hfr14 hraw14_0
    have hc14 : Ff_X3_takeWord v5na0_1.toInt v5na0_2.toInt a0_7.toInt v5na0_8.toInt v5na0_9.toInt v5na0_10.toInt v5na0_11.toInt v5na0_12.toInt (fl_A fa0_3) 2 (fl_A (sxc 12)) = (r14.toInt, v14na0_1.toInt, v14na0_2.toInt, v14na0_8.toInt, v14na0_9.toInt, v14na0_10.toInt, v14na0_11.toInt, v14na0_12.toInt) := Prod.ext hfr14.symm hraw14_0
    have hF0 := hF0.trans (fl_c8_eq hc14)
    rcases hw with hw | hw
    · subst hw
      have hF0 := hF0.trans (if_pos (by decide))
      refine lv_if_eq (tgt := 37) hx hb dX3_readFigure_17 (by decide) (fun c17 => absurd c17 (by decide +kernel)) (fun _ => ?_)
      refine lv_aload_n hx hb dX3_readFigure_20 rfl (lv_at hl 0 rfl) ?_
      refine lv_iconst (v := 0) hx hb dX3_readFigure_21 zk_iconst_0 ?_
      refine lv_aload_n hx hb dX3_readFigure_22 rfl (lv_at hl 0 rfl) ?_
      refine va_get (D := (dC, dI)) (ci := 3) (v := .ref a0_5) (C := RX3) (T := TX3) (N := 14) hx hb hts zi_X3_readFigure_3 hown hK hP 0 rfl rfl 5 (by decide) (hts (.fieldLink RX3 22 "WaxTurns$Reade\x72" "draft" "LWaxTurns$Hall;") (zm_X3_readFigure_r1 (List.mem_of_getElem? (i := 0) rfl))) (fun _ h9 => h9) rfl dX3_readFigure_23 ?_
      refine va_get (D := (dC, dI)) (ci := 0) (v := .int a0_5_0) (C := RX0) (T := TX0) (N := 15) hx hb hts zi_X3_readFigure_0 hown hK hP 3 rfl rfl 0 (by decide) (hts (.fieldLink RX3 104 "WaxTurns$Hall" "figures" "I") (zm_X3_readFigure_r1 (List.mem_of_getElem? (i := 1) rfl))) (fun _ h9 => h9) rfl dX3_readFigure_26 ?_
      refine lv_iconst (v := 1) hx hb dX3_readFigure_29 zk_iconst_1 ?_
      refine lv_isub hx hb dX3_readFigure_30 ?_
      refine lv_topi (fun x30 ex30 => ?_)
      have qx30 : x30.toInt = a0_5_0.toInt - (1 : Int32).toInt := ai_sub ex30 ⟨ba0_5_0_l, ba0_5_0_u⟩ ⟨zq1, zq0⟩ (by decide) (by decide)
      have bx30 : (-1 : Int) ≤ x30.toInt ∧ x30.toInt ≤ 8 := ⟨by rw [qx30]; exact Int.sub_le_sub ba0_5_0_l zq0, by rw [qx30]; exact Int.sub_le_sub ba0_5_0_u zq1⟩
      have wx30 : x30.toInt = a0_5_0.toInt - 1 := qx30
      have hF0 := hF0.trans (fl_lt_eq (show x30.toInt = a0_5_0.toInt - 1 from qx30))
      obtain ⟨hPc, hDc, hFc, hCc⟩ := zc_cut (wc := [(a0, .inr (3, [a0g_0, .int v14na0_1, .int v14na0_2, .ref a0_3, .ref a0_4, .ref a0_5, .int v5na0_6, .int a0_7, .int v14na0_8, .int v14na0_9, .int v14na0_10, .long v14na0_11, .int v14na0_12, .int a0_13]))]) hP hD hS hA [0] (by decide +kernel) rfl
      have hKc := hK.sub (tys' := []) [] rfl
      refine va_calli (va_runV (As := [.int 0, .int x30]) (rest := []) ⟨hx, hb, hml, hown, hts⟩ (f_X3_isWholeWithin l dC dI H.size a0 0 x30 a0g_0 (.ref a0_3) (.ref a0_4) (.ref a0_5) (.int v5na0_6) (.int a0_7) (.int v14na0_9) (.long v14na0_11) (.int a0_13) v14na0_1 v14na0_2 v14na0_8 v14na0_10 v14na0_12 bv14na0_8.1 bv14na0_8.2 bv14na0_10.1 bv14na0_10.2) (cwV 2 hts gX3_readFigure_X3_isWholeWithin rfl rfl rfl zd_X3_isWholeWithin ⟨Nat.le_of_ble_eq_true rfl, Nat.le_of_ble_eq_true rfl⟩) ⟨ax_blind (fun _ _ _ _ hq => va_Nw.same rfl rfl (hq)), zr_3 hKc hPc (q0 := 0) rfl, ax_pre hPc hKc hDc (fun _ hW => va_Nw.warmM hW hE1)⟩ rfl rfl hl.1 rfl (lv_room (Nat.le_of_ble_eq_true rfl)) dX3_readFigure_31 ⟨Nat.le_of_ble_eq_true rfl, Nat.le_of_ble_eq_true rfl⟩) hS (fun q _ h => hFc q h) hFc (fun r31 u t H locs ht hvm hw hB hz1 hk1 hS => ?_)
      obtain ⟨v31na0_1, v31na0_2, hraw31_0, hP1, hK1, hD1⟩ := hB
      rw [ht] at hP1
      obtain ⟨hP, hD⟩ := zc_back (w := [(a0, .inr (3, [a0g_0, .int v31na0_1, .int v31na0_2, .ref a0_3, .ref a0_4, .ref a0_5, .int v5na0_6, .int a0_7, .int v14na0_8, .int v14na0_9, .int v14na0_10, .long v14na0_11, .int v14na0_12, .int a0_13])), (a0_3, .inl (ka0_3, 900, .inl (fa0_3))), (a0_4, .inl (ka0_4, 12, .inr (.inl (v5nfa0_4)))), (a0_5, .inr (0, [.int a0_5_0, a0_5g_1, a0_5g_2, a0_5g_3, a0_5g_4, a0_5g_5, a0_5g_6, a0_5g_7, .int a0_5_8, a0_5g_9, .ref a0_5_10, .ref a0_5_11, a0_5g_12, a0_5g_13, a0_5g_14])), (a0_5_10, .inl (ka0_5_10, 9, .inl (fa0_5_10))), (a0_5_11, .inl (ka0_5_11, 9, .inl (fa0_5_11)))]) hP hD hCc hk1 hFc hP1 hD1 [.inr 0, .inl 1, .inl 2, .inl 3, .inl 4, .inl 5] (by decide +kernel) rfl
      obtain ⟨hw, hfr31⟩ := hw
      rw [show (0 : Int32).toInt = 0 from by decide] at hfr31 hraw31_0
      have hc31 : Ff_X3_isWholeWithin 0 x30.toInt v14na0_1.toInt v14na0_2.toInt v14na0_8.toInt v14na0_10.toInt v14na0_12.toInt = (r31.toInt, v31na0_1.toInt, v31na0_2.toInt) := Prod.ext hfr31.symm hraw31_0
      have hF0 := hF0.trans (fl_c3_eq hc31)
      rcases hw with hw | hw
      · obtain ⟨hw, h31⟩ := hw
        subst hw
        have l31k0_v14na0_12 : (0 : Int) ≤ v14na0_12.toInt := Int.le_trans zq5 h31.1
        have u31k0_v14na0_12 : v14na0_12.toInt ≤ (8 : Int) := Int.le_trans h31.2 bx30.2
        have hF0 := hF0.trans (if_pos (by decide))
        refine lv_if_ne (tgt := 39) hx hb dX3_readFigure_34 (by decide) (fun _ => ?_) (fun c34 => absurd c34 (by decide +kernel))
        refine lv_aload_n hx hb dX3_readFigure_39 rfl (lv_at hl 0 rfl) ?_
        refine va_get (D := (dC, dI)) (ci := 3) (v := .int v14na0_12) (C := RX3) (T := TX3) (N := 14) hx hb hts zi_X3_readFigure_3 hown hK hP 0 rfl rfl 12 (by decide) (hts (.fieldLink RX3 85 "WaxTurns$Reade\x72" "whole" "I") (zm_X3_readFigure_r1 (List.mem_of_getElem? (i := 2) rfl))) (fun _ h9 => h9) rfl dX3_readFigure_40 ?_
        refine lv_istore_n (lv' := [(1, .int v14na0_12), (0, .ref a0)]) hx hb dX3_readFigure_43 rfl hl (by decide) rfl (fun ls hl => ?_)
        refine lv_aload_n hx hb dX3_readFigure_44 rfl (lv_at hl 1 rfl) ?_
        refine va_get (D := (dC, dI)) (ci := 3) (v := .ref a0_5) (C := RX3) (T := TX3) (N := 14) hx hb hts zi_X3_readFigure_3 hown hK hP 0 rfl rfl 5 (by decide) (hts (.fieldLink RX3 22 "WaxTurns$Reade\x72" "draft" "LWaxTurns$Hall;") (zm_X3_readFigure_r1 (List.mem_of_getElem? (i := 0) rfl))) (fun _ h9 => h9) rfl dX3_readFigure_45 ?_
        refine va_get (D := (dC, dI)) (ci := 0) (v := .int a0_5_8) (C := RX0) (T := TX0) (N := 15) hx hb hts zi_X3_readFigure_0 hown hK hP 3 rfl rfl 8 (by decide) (hts (.fieldLink RX3 121 "WaxTurns$Hall" "toldBits" "I") (zm_X3_readFigure_r1 (List.mem_of_getElem? (i := 3) rfl))) (fun _ h9 => h9) rfl dX3_readFigure_48 ?_
        refine lv_iload_n hx hb dX3_readFigure_51 rfl (lv_at hl 0 rfl) ?_
        obtain ⟨hPc, hDc, hFc, hCc⟩ := zc_cut (wc := []) hP hD hS hA [] (by decide +kernel) rfl
        have hKc := hK.sub (tys' := []) [] rfl
        refine va_calli (va_runSN (As := [.int a0_5_8, .int v14na0_12]) (rest := []) ⟨hx, hb, hml, hown, hts⟩ (f_X7_hasBit l dC dI H.size a0_5_8 v14na0_12 ) ⟨va_cnB 2 hts gX3_readFigure_X7_hasBit_n196 rfl rfl rfl hE2 (hts (.initialized RX7) (zm_X3_readFigure_r5 (List.mem_of_getElem? (i := 2) rfl))) zd_X7_hasBit.2 ⟨Nat.le_of_ble_eq_true rfl, Nat.le_of_ble_eq_true rfl⟩, (hts (.static yX7_hasBit) (zm_X3_readFigure_r5 (List.mem_of_getElem? (i := 4) rfl))), trivial⟩ ⟨ax_blind (fun _ _ _ _ _ => trivial), ax_pre hPc hKc hDc (fun _ _ => trivial)⟩ rfl rfl hl.1 rfl (lv_room (Nat.le_of_ble_eq_true rfl)) dX3_readFigure_52 ⟨Nat.le_of_ble_eq_true rfl, Nat.le_of_ble_eq_true rfl⟩) hS (fun q _ h => hFc q h) hFc (fun r52 u t H locs ht hvm hw hB hz1 hk1 hS => ?_)
        obtain ⟨hP1, hK1, hD1⟩ := hB
        rw [ht] at hP1
        obtain ⟨hP, hD⟩ := zc_back (w := [(a0, .inr (3, [a0g_0, .int v31na0_1, .int v31na0_2, .ref a0_3, .ref a0_4, .ref a0_5, .int v5na0_6, .int a0_7, .int v14na0_8, .int v14na0_9, .int v14na0_10, .long v14na0_11, .int v14na0_12, .int a0_13])), (a0_3, .inl (ka0_3, 900, .inl (fa0_3))), (a0_4, .inl (ka0_4, 12, .inr (.inl (v5nfa0_4)))), (a0_5, .inr (0, [.int a0_5_0, a0_5g_1, a0_5g_2, a0_5g_3, a0_5g_4, a0_5g_5, a0_5g_6, a0_5g_7, .int a0_5_8, a0_5g_9, .ref a0_5_10, .ref a0_5_11, a0_5g_12, a0_5g_13, a0_5g_14])), (a0_5_10, .inl (ka0_5_10, 9, .inl (fa0_5_10))), (a0_5_11, .inl (ka0_5_11, 9, .inl (fa0_5_11)))]) hP hD hCc hk1 hFc hP1 hD1 [.inl 0, .inl 1, .inl 2, .inl 3, .inl 4, .inl 5] (by decide +kernel) rfl
        obtain ⟨hw, hfr52⟩ := hw
        have hc52 : Ff_X7_hasBit a0_5_8.toInt v14na0_12.toInt = r52.toInt := hfr52.symm
        have hF0 := hF0.trans (fl_lt_eq hc52.symm)
        rcases hw with hw | hw
        · subst hw
          have hF0 := hF0.trans (if_pos (by decide))
          refine lv_if_eq (tgt := 64) hx hb dX3_readFigure_55 (by decide) (fun c55 => absurd c55 (by decide +kernel)) (fun _ => ?_)
          refine lv_aload_n hx hb dX3_readFigure_58 rfl (lv_at hl 1 rfl) ?_
          refine lv_iconst (v := 3) hx hb dX3_readFigure_59 zk_iconst_3 ?_
          obtain ⟨hPc, hDc, hFc, hCc⟩ := zc_cut (wc := [(a0, .inr (3, [a0g_0, .int v31na0_1, .int v31na0_2, .ref a0_3, .ref a0_4, .ref a0_5, .int v5na0_6, .int a0_7, .int v14na0_8, .int v14na0_9, .int v14na0_10, .long v14na0_11, .int v14na0_12, .int a0_13]))]) hP hD hS hA [0] (by decide +kernel) rfl
          have hKc := hK.sub (tys' := []) [] rfl
          refine va_calli (va_runV (As := [.int 3]) (rest := []) ⟨hx, hb, hml, hown, hts⟩ (f_X3_fails l dC dI H.size a0 3 a0g_0 (.ref a0_3) (.ref a0_4) (.ref a0_5) (.int v5na0_6) (.int a0_7) (.int v14na0_9) (.int v14na0_10) (.long v14na0_11) (.int v14na0_12) (.int a0_13) v31na0_1 v31na0_2 v14na0_8 bv14na0_8.1 bv14na0_8.2) (cwV 1 hts gX3_readFigure_X3_fails rfl rfl rfl zd_X3_fails ⟨Nat.le_of_ble_eq_true rfl, Nat.le_of_ble_eq_true rfl⟩) ⟨ax_blind (fun _ _ _ _ _ => trivial), zr_3 hKc hPc (q0 := 0) rfl, ax_pre hPc hKc hDc (fun _ _ => trivial)⟩ rfl rfl hl.1 rfl (lv_room (Nat.le_of_ble_eq_true rfl)) dX3_readFigure_60 ⟨Nat.le_of_ble_eq_true rfl, Nat.le_of_ble_eq_true rfl⟩) hS (fun q _ h => hFc q h) hFc (fun r60 u t H locs ht hvm hw hB hz1 hk1 hS => ?_)
          obtain ⟨v60na0_1, v60na0_2, hraw60_0, hP1, hK1, hD1⟩ := hB
          rw [ht] at hP1
          obtain ⟨hP, hD⟩ := zc_back (w := [(a0, .inr (3, [a0g_0, .int v60na0_1, .int v60na0_2, .ref a0_3, .ref a0_4, .ref a0_5, .int v5na0_6, .int a0_7, .int v14na0_8, .int v14na0_9, .int v14na0_10, .long v14na0_11, .int v14na0_12, .int a0_13])), (a0_3, .inl (ka0_3, 900, .inl (fa0_3))), (a0_4, .inl (ka0_4, 12, .inr (.inl (v5nfa0_4)))), (a0_5, .inr (0, [.int a0_5_0, a0_5g_1, a0_5g_2, a0_5g_3, a0_5g_4, a0_5g_5, a0_5g_6, a0_5g_7, .int a0_5_8, a0_5g_9, .ref a0_5_10, .ref a0_5_11, a0_5g_12, a0_5g_13, a0_5g_14])), (a0_5_10, .inl (ka0_5_10, 9, .inl (fa0_5_10))), (a0_5_11, .inl (ka0_5_11, 9, .inl (fa0_5_11)))]) hP hD hCc hk1 hFc hP1 hD1 [.inr 0, .inl 1, .inl 2, .inl 3, .inl 4, .inl 5] (by decide +kernel) rfl
          obtain ⟨hw, hfr60⟩ := hw
          rw [show (3 : Int32).toInt = 3 from by decide] at hfr60 hraw60_0
          have hc60 : Ff_X3_fails 3 v14na0_8.toInt = (r60.toInt, v60na0_1.toInt, v60na0_2.toInt) := Prod.ext hfr60.symm hraw60_0
          have hF0 := hF0.trans (fl_c3_eq hc60)
          have hw : r60 = 0 := hw
          have hw := hw.symm
          subst hw
          have hFe : FX = (0, v60na0_1.toInt, v60na0_2.toInt, v5na0_6.toInt, v14na0_8.toInt, v14na0_9.toInt, v14na0_10.toInt, v14na0_11.toInt, v14na0_12.toInt, a0_13.toInt, (fl_L v5nfa0_4), a0_5_8.toInt, (fl_A fa0_5_10), (fl_A fa0_5_11)) := hF0
          exact W.zret (v := 0) hx hb hr rfl (fun t ht hW => ⟨⟨0, (), rfl, ⟨(Or.inr (rfl)), (congrArg Prod.fst hFe).symm⟩, v60na0_1, v60na0_2, v5na0_6, v14na0_8, v14na0_9, v14na0_10, v14na0_11, v14na0_12, a0_13, v5nfa0_4, a0_5_8, fa0_5_10, fa0_5_11, ⟨bv5na0_6.1, bv5na0_6.2⟩, ⟨bv14na0_8.1, bv14na0_8.2⟩, ⟨bv14na0_9.1, bv14na0_9.2⟩, ⟨bv14na0_10.1, bv14na0_10.2⟩, (congrArg Prod.snd hFe), by rw [ht]; exact hP, va_K.moved hW.alike hK, hD⟩, hS.F ht⟩) hS.2.2 dX3_readFigure_63
        · subst hw
          have hF0 := hF0.trans (if_neg (by decide))
          refine lv_if_eq (tgt := 64) hx hb dX3_readFigure_55 (by decide) (fun _ => ?_) (fun c55 => absurd (by decide +kernel) c55)
          refine lv_aload_n hx hb dX3_readFigure_64 rfl (lv_at hl 1 rfl) ?_
          obtain ⟨hPc, hDc, hFc, hCc⟩ := zc_cut (wc := [(a0, .inr (3, [a0g_0, .int v31na0_1, .int v31na0_2, .ref a0_3, .ref a0_4, .ref a0_5, .int v5na0_6, .int a0_7, .int v14na0_8, .int v14na0_9, .int v14na0_10, .long v14na0_11, .int v14na0_12, .int a0_13])), (a0_3, .inl (ka0_3, 900, .inl (fa0_3)))]) hP hD hS hA [0, 1] (by decide +kernel) rfl
          have hKc := hK.sub (tys' := [(ka0_3, .byte)]) [0] rfl
          refine va_callv (va_runV (As := []) (rest := []) ⟨hx, hb, hml, hown, hts⟩ (f_X3_advance l dC dI H.size a0 a0g_0 (.int v31na0_1) (.int v31na0_2) (.ref a0_4) (.ref a0_5) (.int v5na0_6) (.int a0_13) a0_3 a0_7 v14na0_8 v14na0_9 v14na0_10 v14na0_11 v14na0_12 ka0_3 fa0_3 ba0_7_l ba0_7_u bv14na0_8.1 bv14na0_8.2 bv14na0_9.1 bv14na0_9.2 bv14na0_10.1 bv14na0_10.2) (cwV 0 hts gX3_readFigure_X3_advance rfl rfl rfl zd_X3_advance ⟨Nat.le_of_ble_eq_true rfl, Nat.le_of_ble_eq_true rfl⟩) ⟨ax_blind (fun _ _ _ _ _ => trivial), zr_3 hKc hPc (q0 := 0) rfl, ax_pre hPc hKc hDc (fun _ _ => trivial)⟩ rfl rfl hl.1 rfl (lv_room (Nat.le_of_ble_eq_true rfl)) dX3_readFigure_65 ⟨Nat.le_of_ble_eq_true rfl, Nat.le_of_ble_eq_true rfl⟩) hS (fun q _ h => hFc q h) hFc (fun u t H locs ht hvm hw hB hz1 hk1 hS => ?_)
          obtain ⟨v65na0_8, v65na0_9, v65na0_10, v65na0_11, v65na0_12, bv65na0_8, bv65na0_9, bv65na0_10, hraw65_0, hP1, hK1, hD1⟩ := hB
          rw [ht] at hP1
          obtain ⟨hP, hD⟩ := zc_back (w := [(a0, .inr (3, [a0g_0, .int v31na0_1, .int v31na0_2, .ref a0_3, .ref a0_4, .ref a0_5, .int v5na0_6, .int a0_7, .int v65na0_8, .int v65na0_9, .int v65na0_10, .long v65na0_11, .int v65na0_12, .int a0_13])), (a0_3, .inl (ka0_3, 900, .inl (fa0_3))), (a0_4, .inl (ka0_4, 12, .inr (.inl (v5nfa0_4)))), (a0_5, .inr (0, [.int a0_5_0, a0_5g_1, a0_5g_2, a0_5g_3, a0_5g_4, a0_5g_5, a0_5g_6, a0_5g_7, .int a0_5_8, a0_5g_9, .ref a0_5_10, .ref a0_5_11, a0_5g_12, a0_5g_13, a0_5g_14])), (a0_5_10, .inl (ka0_5_10, 9, .inl (fa0_5_10))), (a0_5_11, .inl (ka0_5_11, 9, .inl (fa0_5_11)))]) hP hD hCc hk1 hFc hP1 hD1 [.inr 0, .inr 1, .inl 2, .inl 3, .inl 4, .inl 5] (by decide +kernel) rfl
          have hc65 : Ff_X3_advance a0_7.toInt v14na0_9.toInt v14na0_11.toInt v14na0_12.toInt (fl_A fa0_3) = (v65na0_8.toInt, v65na0_9.toInt, v65na0_10.toInt, v65na0_11.toInt, v65na0_12.toInt) := hraw65_0
          have hF0 := hF0.trans (fl_c5_eq hc65)
          refine lv_aload_n hx hb dX3_readFigure_68 rfl (lv_at hl 1 rfl) ?_
          refine va_ldcS hx hb hown (sxc_R13 hE0) dX3_readFigure_69 ?_
          obtain ⟨hPc, hDc, hFc, hCc⟩ := zc_cut (wc := [(a0, .inr (3, [a0g_0, .int v31na0_1, .int v31na0_2, .ref a0_3, .ref a0_4, .ref a0_5, .int v5na0_6, .int a0_7, .int v65na0_8, .int v65na0_9, .int v65na0_10, .long v65na0_11, .int v65na0_12, .int a0_13]))]) hP hD hS hA [0] (by decide +kernel) rfl
          have hKc := hK.sub (tys' := []) [] rfl
          refine va_calli (va_runV (As := [.ref (ad 13)]) (rest := []) ⟨hx, hb, hml, hown, hts⟩ (f_X3_isWord l dC dI H.size a0 (ad 13) a0g_0 (.int v31na0_1) (.int v31na0_2) (.ref a0_3) (.ref a0_4) (.ref a0_5) (.int v5na0_6) (.int a0_7) (.int v65na0_8) (.int v65na0_9) (.int v65na0_12) (.int a0_13) v65na0_10 v65na0_11 5 (sxc 13) bv65na0_10.1 bv65na0_10.2) (cwV 1 hts gX3_readFigure_X3_isWord rfl rfl rfl zd_X3_isWord ⟨Nat.le_of_ble_eq_true rfl, Nat.le_of_ble_eq_true rfl⟩) ⟨ax_blind (fun _ _ _ _ hq => sxc_W_same _ _ _ _ (hq)), zr_3 hKc hPc (q0 := 0) rfl, ax_preE hPc hKc hDc (fun U hU hW => sxc_W_to (sxc_T_w hE0 (i := 13) (by decide)) hS.2.1 hFc hU hW)⟩ rfl rfl hl.1 rfl (lv_room (Nat.le_of_ble_eq_true rfl)) dX3_readFigure_71 ⟨Nat.le_of_ble_eq_true rfl, Nat.le_of_ble_eq_true rfl⟩) hS (fun q _ h => hFc q h) hFc (fun r71 u t H locs ht hvm hw hB hz1 hk1 hS => ?_)
          obtain ⟨hP1, hK1, hD1⟩ := hB
          rw [ht] at hP1
          obtain ⟨hP, hD⟩ := zc_back (w := [(a0, .inr (3, [a0g_0, .int v31na0_1, .int v31na0_2, .ref a0_3, .ref a0_4, .ref a0_5, .int v5na0_6, .int a0_7, .int v65na0_8, .int v65na0_9, .int v65na0_10, .long v65na0_11, .int v65na0_12, .int a0_13])), (a0_3, .inl (ka0_3, 900, .inl (fa0_3))), (a0_4, .inl (ka0_4, 12, .inr (.inl (v5nfa0_4)))), (a0_5, .inr (0, [.int a0_5_0, a0_5g_1, a0_5g_2, a0_5g_3, a0_5g_4, a0_5g_5, a0_5g_6, a0_5g_7, .int a0_5_8, a0_5g_9, .ref a0_5_10, .ref a0_5_11, a0_5g_12, a0_5g_13, a0_5g_14])), (a0_5_10, .inl (ka0_5_10, 9, .inl (fa0_5_10))), (a0_5_11, .inl (ka0_5_11, 9, .inl (fa0_5_11)))]) hP hD hCc hk1 hFc hP1 hD1 [.inr 0, .inl 1, .inl 2, .inl 3, .inl 4, .inl 5] (by decide +kernel) rfl
          obtain ⟨hw, hfr71⟩ := hw
          rw [show ((5 : Nat) : Int) = 5 from rfl] at hfr71
          have hc71 : Ff_X3_isWord v65na0_10.toInt v65na0_11.toInt 5 (fl_A (sxc 13)) = r71.toInt := hfr71.symm
          have hF0 := hF0.trans (fl_lt_eq hc71.symm)
          rcases hw with hw | hw
          · obtain ⟨hw, h71_0, h71_1⟩ := hw
            subst hw
            have l71k0_v65na0_10 : (1 : Int) ≤ v65na0_10.toInt := h71_0
            have u71k0_v65na0_10 : v65na0_10.toInt ≤ (1 : Int) := h71_1
            have hF0 := hF0.trans (if_pos (by decide))
            refine lv_if_eq (tgt := 81) hx hb dX3_readFigure_74 (by decide) (fun c74 => absurd c74 (by decide +kernel)) (fun _ => ?_)
            refine lv_iconst (v := 1) hx hb dX3_readFigure_77 zk_iconst_1 ?_
            refine lv_goto (tgt := 82) hx hb dX3_readFigure_78 (by decide) ?_
            refine lv_istore_n (lv' := [(2, .int 1), (1, .int v14na0_12), (0, .ref a0)]) hx hb dX3_readFigure_82 rfl hl (by decide) rfl (fun ls hl => ?_)
            refine lv_aload_n hx hb dX3_readFigure_83 rfl (lv_at hl 2 rfl) ?_
            refine lv_iload_n hx hb dX3_readFigure_84 rfl (lv_at hl 0 rfl) ?_
            refine lv_iconst (v := 1) hx hb dX3_readFigure_85 zk_iconst_1 ?_
            refine lv_icmp_ne (tgt := 94) hx hb dX3_readFigure_86 (by decide) (fun c86 => absurd (by decide +kernel) c86) (fun _ => ?_)
            refine va_ldcS hx hb hown (sxc_R13 hE0) dX3_readFigure_89 ?_
            refine lv_goto (tgt := 96) hx hb dX3_readFigure_91 (by decide) ?_
            refine lv_iconst (v := 1) hx hb dX3_readFigure_96 zk_iconst_1 ?_
            refine lv_bipush (v := 20) hx hb dX3_readFigure_97 zk_bipush_20 ?_
            obtain ⟨hPc, hDc, hFc, hCc⟩ := zc_cut (wc := [(a0, .inr (3, [a0g_0, .int v31na0_1, .int v31na0_2, .ref a0_3, .ref a0_4, .ref a0_5, .int v5na0_6, .int a0_7, .int v65na0_8, .int v65na0_9, .int v65na0_10, .long v65na0_11, .int v65na0_12, .int a0_13])), (a0_3, .inl (ka0_3, 900, .inl (fa0_3)))]) hP hD hS hA [0, 1] (by decide +kernel) rfl
            have hKc := hK.sub (tys' := [(ka0_3, .byte)]) [0] rfl
            refine va_calli (va_runV (As := [.ref (ad 13), .int 1, .int 20]) (rest := []) ⟨hx, hb, hml, hown, hts⟩ (f_X3_takeWhole l dC dI H.size a0 (ad 13) 1 20 a0g_0 (.ref a0_4) (.ref a0_5) (.int v5na0_6) v31na0_1 v31na0_2 a0_3 a0_7 v65na0_8 v65na0_9 v65na0_10 v65na0_11 v65na0_12 a0_13 ka0_3 fa0_3 5 (sxc 13) ba0_7_l ba0_7_u bv65na0_8.1 bv65na0_8.2 bv65na0_9.1 bv65na0_9.2 (Int.le_trans zq4 l71k0_v65na0_10) (Int.le_trans u71k0_v65na0_10 zq135)) (cwV 3 hts gX3_readFigure_X3_takeWhole rfl rfl rfl zd_X3_takeWhole ⟨Nat.le_of_ble_eq_true rfl, Nat.le_of_ble_eq_true rfl⟩) ⟨ax_blind (fun _ _ _ _ hq => ⟨sxc_W_same _ _ _ _ (hq.1), va_Nw.same rfl rfl (hq.2)⟩), zr_3 hKc hPc (q0 := 0) rfl, ax_preE hPc hKc hDc (fun U hU hW => ⟨sxc_W_to (sxc_T_w hE0 (i := 13) (by decide)) hS.2.1 hFc hU hW, va_Nw.warmM hW hE1⟩)⟩ rfl rfl hl.1 rfl (lv_room (Nat.le_of_ble_eq_true rfl)) dX3_readFigure_99 ⟨Nat.le_of_ble_eq_true rfl, Nat.le_of_ble_eq_true rfl⟩) hS (fun q _ h => hFc q h) hFc (fun r99 v99na0_13 t H1 locs ht hvm hw hB hz1 hk1 hS => ?_)
            obtain ⟨v99na0_1, v99na0_2, v99na0_8, v99na0_9, v99na0_10, v99na0_11, v99na0_12, bv99na0_8, bv99na0_9, bv99na0_10, hraw99_0, hP1, hK1, hD1⟩ := hB
            rw [ht] at hP1
            obtain ⟨hP, hD⟩ := zc_back (w := [(a0, .inr (3, [a0g_0, .int v99na0_1, .int v99na0_2, .ref a0_3, .ref a0_4, .ref a0_5, .int v5na0_6, .int a0_7, .int v99na0_8, .int v99na0_9, .int v99na0_10, .long v99na0_11, .int v99na0_12, .int v99na0_13])), (a0_3, .inl (ka0_3, 900, .inl (fa0_3))), (a0_4, .inl (ka0_4, 12, .inr (.inl (v5nfa0_4)))), (a0_5, .inr (0, [.int a0_5_0, a0_5g_1, a0_5g_2, a0_5g_3, a0_5g_4, a0_5g_5, a0_5g_6, a0_5g_7, .int a0_5_8, a0_5g_9, .ref a0_5_10, .ref a0_5_11, a0_5g_12, a0_5g_13, a0_5g_14])), (a0_5_10, .inl (ka0_5_10, 9, .inl (fa0_5_10))), (a0_5_11, .inl (ka0_5_11, 9, .inl (fa0_5_11)))]) hP hD hCc hk1 hFc hP1 hD1 [.inr 0, .inr 1, .inl 2, .inl 3, .inl 4, .inl 5] (by decide +kernel) rfl
            generalize H1 = H at hP hS ⊢
            obtain ⟨hw, hfr99⟩ := hw
            rw [show (1 : Int32).toInt = 1 from by decide, show (20 : Int32).toInt = 20 from by decide, show ((5 : Nat) : Int) = 5 from rfl] at hfr99 hraw99_0
            have hc99 : Ff_X3_takeWhole 1 20 v31na0_1.toInt v31na0_2.toInt a0_7.toInt v65na0_8.toInt v65na0_9.toInt v65na0_10.toInt v65na0_11.toInt v65na0_12.toInt a0_13.toInt (fl_A fa0_3) 5 (fl_A (sxc 13)) = (r99.toInt, v99na0_1.toInt, v99na0_2.toInt, v99na0_8.toInt, v99na0_9.toInt, v99na0_10.toInt, v99na0_11.toInt, v99na0_12.toInt, v99na0_13.toInt) := Prod.ext hfr99.symm hraw99_0
            have hF0 := hF0.trans (fl_c9_eq hc99)
            rcases hw with hw | hw
            · obtain ⟨hw, h99⟩ := hw
              subst hw
              have l99k0_v99na0_13 : (1 : Int) ≤ v99na0_13.toInt := Int.le_trans zq1 h99.1
              have u99k0_v99na0_13 : v99na0_13.toInt ≤ (20 : Int) := Int.le_trans h99.2 zq154
              have hF0 := hF0.trans (if_pos (by decide))
              refine lv_if_ne (tgt := 107) hx hb dX3_readFigure_102 (by decide) (fun _ => ?_) (fun c102 => absurd c102 (by decide +kernel))
              refine lv_aload_n hx hb dX3_readFigure_107 rfl (lv_at hl 2 rfl) ?_
              refine va_get (D := (dC, dI)) (ci := 3) (v := .ref a0_5) (C := RX3) (T := TX3) (N := 14) hx hb hts zi_X3_readFigure_3 hown hK hP 0 rfl rfl 5 (by decide) (hts (.fieldLink RX3 22 "WaxTurns$Reade\x72" "draft" "LWaxTurns$Hall;") (zm_X3_readFigure_r1 (List.mem_of_getElem? (i := 0) rfl))) (fun _ h9 => h9) rfl dX3_readFigure_108 ?_
              refine lv_iload_n hx hb dX3_readFigure_111 rfl (lv_at hl 1 rfl) ?_
              refine lv_iload_n hx hb dX3_readFigure_112 rfl (lv_at hl 0 rfl) ?_
              refine lv_aload_n hx hb dX3_readFigure_113 rfl (lv_at hl 2 rfl) ?_
              refine va_get (D := (dC, dI)) (ci := 3) (v := .int v99na0_13) (C := RX3) (T := TX3) (N := 14) hx hb hts zi_X3_readFigure_3 hown hK hP 0 rfl rfl 13 (by decide) (hts (.fieldLink RX3 156 "WaxTurns$Reade\x72" "taken" "I") (zm_X3_readFigure_r1 (List.mem_of_getElem? (i := 4) rfl))) (fun _ h9 => h9) rfl dX3_readFigure_114 ?_
              obtain ⟨hPc, hDc, hFc, hCc⟩ := zc_cut (wc := [(a0_5, .inr (0, [.int a0_5_0, a0_5g_1, a0_5g_2, a0_5g_3, a0_5g_4, a0_5g_5, a0_5g_6, a0_5g_7, .int a0_5_8, a0_5g_9, .ref a0_5_10, .ref a0_5_11, a0_5g_12, a0_5g_13, a0_5g_14])), (a0_5_10, .inl (ka0_5_10, 9, .inl (fa0_5_10))), (a0_5_11, .inl (ka0_5_11, 9, .inl (fa0_5_11)))]) hP hD hS hA [3, 4, 5] (by decide +kernel) rfl
              have hKc := hK.sub (tys' := [(ka0_5_10, .int), (ka0_5_11, .int)]) [2, 3] rfl
              refine va_callv (va_runV (As := [.int v14na0_12, .int 1, .int v99na0_13]) (rest := []) ⟨hx, hb, hml, hown, hts⟩ (f_X0_addFigure l dC dI H.size a0_5 v14na0_12 1 v99na0_13 (.int a0_5_0) a0_5g_1 a0_5g_2 a0_5g_3 a0_5g_4 a0_5g_5 a0_5g_6 a0_5g_7 a0_5g_9 a0_5g_12 a0_5g_13 a0_5g_14 a0_5_8 a0_5_10 a0_5_11 ka0_5_10 fa0_5_10 ka0_5_11 fa0_5_11 ) (cwV 3 hts gX3_readFigure_X0_addFigure rfl rfl rfl zd_X0_addFigure ⟨Nat.le_of_ble_eq_true rfl, Nat.le_of_ble_eq_true rfl⟩) ⟨ax_blind (fun _ _ _ _ _ => trivial), zr_0 hKc hPc (q0 := 0) rfl, ax_pre hPc hKc hDc (fun _ _ => trivial)⟩ rfl rfl hl.1 rfl (lv_room (Nat.le_of_ble_eq_true rfl)) dX3_readFigure_117 ⟨Nat.le_of_ble_eq_true rfl, Nat.le_of_ble_eq_true rfl⟩) hS (fun q _ h => hFc q h) hFc (fun u t H locs ht hvm hw hB hz1 hk1 hS => ?_)
              obtain ⟨v117na0_8, v117nfa0_10, v117nfa0_11, hraw117_0, hP1, hK1, hD1⟩ := hB
              rw [ht] at hP1
              obtain ⟨hP, hD⟩ := zc_back (w := [(a0, .inr (3, [a0g_0, .int v99na0_1, .int v99na0_2, .ref a0_3, .ref a0_4, .ref a0_5, .int v5na0_6, .int a0_7, .int v99na0_8, .int v99na0_9, .int v99na0_10, .long v99na0_11, .int v99na0_12, .int v99na0_13])), (a0_3, .inl (ka0_3, 900, .inl (fa0_3))), (a0_4, .inl (ka0_4, 12, .inr (.inl (v5nfa0_4)))), (a0_5, .inr (0, [.int a0_5_0, a0_5g_1, a0_5g_2, a0_5g_3, a0_5g_4, a0_5g_5, a0_5g_6, a0_5g_7, .int v117na0_8, a0_5g_9, .ref a0_5_10, .ref a0_5_11, a0_5g_12, a0_5g_13, a0_5g_14])), (a0_5_10, .inl (ka0_5_10, 9, .inl (v117nfa0_10))), (a0_5_11, .inl (ka0_5_11, 9, .inl (v117nfa0_11)))]) hP hD hCc hk1 hFc hP1 hD1 [.inl 0, .inl 1, .inl 2, .inr 0, .inr 1, .inr 2] (by decide +kernel) rfl
              rw [show (1 : Int32).toInt = 1 from by decide] at hraw117_0
              have hc117 : Ff_X0_addFigure v14na0_12.toInt 1 v99na0_13.toInt a0_5_8.toInt (fl_A fa0_5_10) (fl_A fa0_5_11) = (v117na0_8.toInt, (fl_A v117nfa0_10), (fl_A v117nfa0_11)) := hraw117_0
              have hF0 := hF0.trans (fl_c3_eq hc117)
              refine lv_iconst (v := 1) hx hb dX3_readFigure_120 zk_iconst_1 ?_
              have hFe : FX = (1, v99na0_1.toInt, v99na0_2.toInt, v5na0_6.toInt, v99na0_8.toInt, v99na0_9.toInt, v99na0_10.toInt, v99na0_11.toInt, v99na0_12.toInt, v99na0_13.toInt, (fl_L v5nfa0_4), v117na0_8.toInt, (fl_A v117nfa0_10), (fl_A v117nfa0_11)) := hF0
              exact W.zret (v := 1) hx hb hr rfl (fun t ht hW => ⟨⟨1, (), rfl, ⟨(Or.inl (rfl)), (congrArg Prod.fst hFe).symm⟩, v99na0_1, v99na0_2, v5na0_6, v99na0_8, v99na0_9, v99na0_10, v99na0_11, v99na0_12, v99na0_13, v5nfa0_4, v117na0_8, v117nfa0_10, v117nfa0_11, ⟨bv5na0_6.1, bv5na0_6.2⟩, ⟨bv99na0_8.1, bv99na0_8.2⟩, ⟨bv99na0_9.1, bv99na0_9.2⟩, ⟨bv99na0_10.1, bv99na0_10.2⟩, (congrArg Prod.snd hFe), by rw [ht]; exact hP, va_K.moved hW.alike hK, hD⟩, hS.F ht⟩) hS.2.2 dX3_readFigure_121
            · subst hw
              have hF0 := hF0.trans (if_neg (by decide))
              refine lv_if_ne (tgt := 107) hx hb dX3_readFigure_102 (by decide) (fun c102 => absurd (by decide +kernel) c102) (fun _ => ?_)
              refine lv_iconst (v := 0) hx hb dX3_readFigure_105 zk_iconst_0 ?_
              have hFe : FX = (0, v99na0_1.toInt, v99na0_2.toInt, v5na0_6.toInt, v99na0_8.toInt, v99na0_9.toInt, v99na0_10.toInt, v99na0_11.toInt, v99na0_12.toInt, v99na0_13.toInt, (fl_L v5nfa0_4), a0_5_8.toInt, (fl_A fa0_5_10), (fl_A fa0_5_11)) := hF0
              exact W.zret (v := 0) hx hb hr rfl (fun t ht hW => ⟨⟨0, (), rfl, ⟨(Or.inr (rfl)), (congrArg Prod.fst hFe).symm⟩, v99na0_1, v99na0_2, v5na0_6, v99na0_8, v99na0_9, v99na0_10, v99na0_11, v99na0_12, v99na0_13, v5nfa0_4, a0_5_8, fa0_5_10, fa0_5_11, ⟨bv5na0_6.1, bv5na0_6.2⟩, ⟨bv99na0_8.1, bv99na0_8.2⟩, ⟨bv99na0_9.1, bv99na0_9.2⟩, ⟨bv99na0_10.1, bv99na0_10.2⟩, (congrArg Prod.snd hFe), by rw [ht]; exact hP, va_K.moved hW.alike hK, hD⟩, hS.F ht⟩) hS.2.2 dX3_readFigure_106
          · subst hw
            have hF0 := hF0.trans (if_neg (by decide))
            refine lv_if_eq (tgt := 81) hx hb dX3_readFigure_74 (by decide) (fun _ => ?_) (fun c74 => absurd (by decide +kernel) c74)
            refine lv_iconst (v := 2) hx hb dX3_readFigure_81 zk_iconst_2 ?_
            refine lv_istore_n (lv' := [(2, .int 2), (1, .int v14na0_12), (0, .ref a0)]) hx hb dX3_readFigure_82 rfl hl (by decide) rfl (fun ls hl => ?_)
            refine lv_aload_n hx hb dX3_readFigure_83 rfl (lv_at hl 2 rfl) ?_
            refine lv_iload_n hx hb dX3_readFigure_84 rfl (lv_at hl 0 rfl) ?_
            refine lv_iconst (v := 1) hx hb dX3_readFigure_85 zk_iconst_1 ?_
            refine lv_icmp_ne (tgt := 94) hx hb dX3_readFigure_86 (by decide) (fun _ => ?_) (fun c86 => absurd c86 (by decide +kernel))
            refine va_ldcS hx hb hown (sxc_R14 hE0) dX3_readFigure_94 ?_
            refine lv_iconst (v := 1) hx hb dX3_readFigure_96 zk_iconst_1 ?_
            refine lv_bipush (v := 20) hx hb dX3_readFigure_97 zk_bipush_20 ?_
            obtain ⟨hPc, hDc, hFc, hCc⟩ := zc_cut (wc := [(a0, .inr (3, [a0g_0, .int v31na0_1, .int v31na0_2, .ref a0_3, .ref a0_4, .ref a0_5, .int v5na0_6, .int a0_7, .int v65na0_8, .int v65na0_9, .int v65na0_10, .long v65na0_11, .int v65na0_12, .int a0_13])), (a0_3, .inl (ka0_3, 900, .inl (fa0_3)))]) hP hD hS hA [0, 1] (by decide +kernel) rfl
            have hKc := hK.sub (tys' := [(ka0_3, .byte)]) [0] rfl
            refine va_calli (va_runV (As := [.ref (ad 14), .int 1, .int 20]) (rest := []) ⟨hx, hb, hml, hown, hts⟩ (f_X3_takeWhole l dC dI H.size a0 (ad 14) 1 20 a0g_0 (.ref a0_4) (.ref a0_5) (.int v5na0_6) v31na0_1 v31na0_2 a0_3 a0_7 v65na0_8 v65na0_9 v65na0_10 v65na0_11 v65na0_12 a0_13 ka0_3 fa0_3 6 (sxc 14) ba0_7_l ba0_7_u bv65na0_8.1 bv65na0_8.2 bv65na0_9.1 bv65na0_9.2 bv65na0_10.1 bv65na0_10.2) (cwV 3 hts gX3_readFigure_X3_takeWhole rfl rfl rfl zd_X3_takeWhole ⟨Nat.le_of_ble_eq_true rfl, Nat.le_of_ble_eq_true rfl⟩) ⟨ax_blind (fun _ _ _ _ hq => ⟨sxc_W_same _ _ _ _ (hq.1), va_Nw.same rfl rfl (hq.2)⟩), zr_3 hKc hPc (q0 := 0) rfl, ax_preE hPc hKc hDc (fun U hU hW => ⟨sxc_W_to (sxc_T_w hE0 (i := 14) (by decide)) hS.2.1 hFc hU hW, va_Nw.warmM hW hE1⟩)⟩ rfl rfl hl.1 rfl (lv_room (Nat.le_of_ble_eq_true rfl)) dX3_readFigure_99 ⟨Nat.le_of_ble_eq_true rfl, Nat.le_of_ble_eq_true rfl⟩) hS (fun q _ h => hFc q h) hFc (fun r99 v99na0_13 t H1 locs ht hvm hw hB hz1 hk1 hS => ?_)
            obtain ⟨v99na0_1, v99na0_2, v99na0_8, v99na0_9, v99na0_10, v99na0_11, v99na0_12, bv99na0_8, bv99na0_9, bv99na0_10, hraw99_0, hP1, hK1, hD1⟩ := hB
            rw [ht] at hP1
            obtain ⟨hP, hD⟩ := zc_back (w := [(a0, .inr (3, [a0g_0, .int v99na0_1, .int v99na0_2, .ref a0_3, .ref a0_4, .ref a0_5, .int v5na0_6, .int a0_7, .int v99na0_8, .int v99na0_9, .int v99na0_10, .long v99na0_11, .int v99na0_12, .int v99na0_13])), (a0_3, .inl (ka0_3, 900, .inl (fa0_3))), (a0_4, .inl (ka0_4, 12, .inr (.inl (v5nfa0_4)))), (a0_5, .inr (0, [.int a0_5_0, a0_5g_1, a0_5g_2, a0_5g_3, a0_5g_4, a0_5g_5, a0_5g_6, a0_5g_7, .int a0_5_8, a0_5g_9, .ref a0_5_10, .ref a0_5_11, a0_5g_12, a0_5g_13, a0_5g_14])), (a0_5_10, .inl (ka0_5_10, 9, .inl (fa0_5_10))), (a0_5_11, .inl (ka0_5_11, 9, .inl (fa0_5_11)))]) hP hD hCc hk1 hFc hP1 hD1 [.inr 0, .inr 1, .inl 2, .inl 3, .inl 4, .inl 5] (by decide +kernel) rfl
            generalize H1 = H at hP hS ⊢
            obtain ⟨hw, hfr99⟩ := hw
            rw [show (1 : Int32).toInt = 1 from by decide, show (20 : Int32).toInt = 20 from by decide, show ((6 : Nat) : Int) = 6 from rfl] at hfr99 hraw99_0
            have hc99 : Ff_X3_takeWhole 1 20 v31na0_1.toInt v31na0_2.toInt a0_7.toInt v65na0_8.toInt v65na0_9.toInt v65na0_10.toInt v65na0_11.toInt v65na0_12.toInt a0_13.toInt (fl_A fa0_3) 6 (fl_A (sxc 14)) = (r99.toInt, v99na0_1.toInt, v99na0_2.toInt, v99na0_8.toInt, v99na0_9.toInt, v99na0_10.toInt, v99na0_11.toInt, v99na0_12.toInt, v99na0_13.toInt) := Prod.ext hfr99.symm hraw99_0
            have hF0 := hF0.trans (fl_c9_eq hc99)
            rcases hw with hw | hw
            · obtain ⟨hw, h99⟩ := hw
              subst hw
              have l99k0_v99na0_13 : (1 : Int) ≤ v99na0_13.toInt := Int.le_trans zq1 h99.1
              have u99k0_v99na0_13 : v99na0_13.toInt ≤ (20 : Int) := Int.le_trans h99.2 zq154
              have hF0 := hF0.trans (if_pos (by decide))
              refine lv_if_ne (tgt := 107) hx hb dX3_readFigure_102 (by decide) (fun _ => ?_) (fun c102 => absurd c102 (by decide +kernel))
              refine lv_aload_n hx hb dX3_readFigure_107 rfl (lv_at hl 2 rfl) ?_
              refine va_get (D := (dC, dI)) (ci := 3) (v := .ref a0_5) (C := RX3) (T := TX3) (N := 14) hx hb hts zi_X3_readFigure_3 hown hK hP 0 rfl rfl 5 (by decide) (hts (.fieldLink RX3 22 "WaxTurns$Reade\x72" "draft" "LWaxTurns$Hall;") (zm_X3_readFigure_r1 (List.mem_of_getElem? (i := 0) rfl))) (fun _ h9 => h9) rfl dX3_readFigure_108 ?_
              refine lv_iload_n hx hb dX3_readFigure_111 rfl (lv_at hl 1 rfl) ?_
              refine lv_iload_n hx hb dX3_readFigure_112 rfl (lv_at hl 0 rfl) ?_
              refine lv_aload_n hx hb dX3_readFigure_113 rfl (lv_at hl 2 rfl) ?_
              refine va_get (D := (dC, dI)) (ci := 3) (v := .int v99na0_13) (C := RX3) (T := TX3) (N := 14) hx hb hts zi_X3_readFigure_3 hown hK hP 0 rfl rfl 13 (by decide) (hts (.fieldLink RX3 156 "WaxTurns$Reade\x72" "taken" "I") (zm_X3_readFigure_r1 (List.mem_of_getElem? (i := 4) rfl))) (fun _ h9 => h9) rfl dX3_readFigure_114 ?_
              obtain ⟨hPc, hDc, hFc, hCc⟩ := zc_cut (wc := [(a0_5, .inr (0, [.int a0_5_0, a0_5g_1, a0_5g_2, a0_5g_3, a0_5g_4, a0_5g_5, a0_5g_6, a0_5g_7, .int a0_5_8, a0_5g_9, .ref a0_5_10, .ref a0_5_11, a0_5g_12, a0_5g_13, a0_5g_14])), (a0_5_10, .inl (ka0_5_10, 9, .inl (fa0_5_10))), (a0_5_11, .inl (ka0_5_11, 9, .inl (fa0_5_11)))]) hP hD hS hA [3, 4, 5] (by decide +kernel) rfl
              have hKc := hK.sub (tys' := [(ka0_5_10, .int), (ka0_5_11, .int)]) [2, 3] rfl
              refine va_callv (va_runV (As := [.int v14na0_12, .int 2, .int v99na0_13]) (rest := []) ⟨hx, hb, hml, hown, hts⟩ (f_X0_addFigure l dC dI H.size a0_5 v14na0_12 2 v99na0_13 (.int a0_5_0) a0_5g_1 a0_5g_2 a0_5g_3 a0_5g_4 a0_5g_5 a0_5g_6 a0_5g_7 a0_5g_9 a0_5g_12 a0_5g_13 a0_5g_14 a0_5_8 a0_5_10 a0_5_11 ka0_5_10 fa0_5_10 ka0_5_11 fa0_5_11 ) (cwV 3 hts gX3_readFigure_X0_addFigure rfl rfl rfl zd_X0_addFigure ⟨Nat.le_of_ble_eq_true rfl, Nat.le_of_ble_eq_true rfl⟩) ⟨ax_blind (fun _ _ _ _ _ => trivial), zr_0 hKc hPc (q0 := 0) rfl, ax_pre hPc hKc hDc (fun _ _ => trivial)⟩ rfl rfl hl.1 rfl (lv_room (Nat.le_of_ble_eq_true rfl)) dX3_readFigure_117 ⟨Nat.le_of_ble_eq_true rfl, Nat.le_of_ble_eq_true rfl⟩) hS (fun q _ h => hFc q h) hFc (fun u t H locs ht hvm hw hB hz1 hk1 hS => ?_)
              obtain ⟨v117na0_8, v117nfa0_10, v117nfa0_11, hraw117_0, hP1, hK1, hD1⟩ := hB
              rw [ht] at hP1
              obtain ⟨hP, hD⟩ := zc_back (w := [(a0, .inr (3, [a0g_0, .int v99na0_1, .int v99na0_2, .ref a0_3, .ref a0_4, .ref a0_5, .int v5na0_6, .int a0_7, .int v99na0_8, .int v99na0_9, .int v99na0_10, .long v99na0_11, .int v99na0_12, .int v99na0_13])), (a0_3, .inl (ka0_3, 900, .inl (fa0_3))), (a0_4, .inl (ka0_4, 12, .inr (.inl (v5nfa0_4)))), (a0_5, .inr (0, [.int a0_5_0, a0_5g_1, a0_5g_2, a0_5g_3, a0_5g_4, a0_5g_5, a0_5g_6, a0_5g_7, .int v117na0_8, a0_5g_9, .ref a0_5_10, .ref a0_5_11, a0_5g_12, a0_5g_13, a0_5g_14])), (a0_5_10, .inl (ka0_5_10, 9, .inl (v117nfa0_10))), (a0_5_11, .inl (ka0_5_11, 9, .inl (v117nfa0_11)))]) hP hD hCc hk1 hFc hP1 hD1 [.inl 0, .inl 1, .inl 2, .inr 0, .inr 1, .inr 2] (by decide +kernel) rfl
              rw [show (2 : Int32).toInt = 2 from by decide] at hraw117_0
              have hc117 : Ff_X0_addFigure v14na0_12.toInt 2 v99na0_13.toInt a0_5_8.toInt (fl_A fa0_5_10) (fl_A fa0_5_11) = (v117na0_8.toInt, (fl_A v117nfa0_10), (fl_A v117nfa0_11)) := hraw117_0
              have hF0 := hF0.trans (fl_c3_eq hc117)
              refine lv_iconst (v := 1) hx hb dX3_readFigure_120 zk_iconst_1 ?_
              have hFe : FX = (1, v99na0_1.toInt, v99na0_2.toInt, v5na0_6.toInt, v99na0_8.toInt, v99na0_9.toInt, v99na0_10.toInt, v99na0_11.toInt, v99na0_12.toInt, v99na0_13.toInt, (fl_L v5nfa0_4), v117na0_8.toInt, (fl_A v117nfa0_10), (fl_A v117nfa0_11)) := hF0
              exact W.zret (v := 1) hx hb hr rfl (fun t ht hW => ⟨⟨1, (), rfl, ⟨(Or.inl (rfl)), (congrArg Prod.fst hFe).symm⟩, v99na0_1, v99na0_2, v5na0_6, v99na0_8, v99na0_9, v99na0_10, v99na0_11, v99na0_12, v99na0_13, v5nfa0_4, v117na0_8, v117nfa0_10, v117nfa0_11, ⟨bv5na0_6.1, bv5na0_6.2⟩, ⟨bv99na0_8.1, bv99na0_8.2⟩, ⟨bv99na0_9.1, bv99na0_9.2⟩, ⟨bv99na0_10.1, bv99na0_10.2⟩, (congrArg Prod.snd hFe), by rw [ht]; exact hP, va_K.moved hW.alike hK, hD⟩, hS.F ht⟩) hS.2.2 dX3_readFigure_121
            · subst hw
              have hF0 := hF0.trans (if_neg (by decide))
              refine lv_if_ne (tgt := 107) hx hb dX3_readFigure_102 (by decide) (fun c102 => absurd (by decide +kernel) c102) (fun _ => ?_)
              refine lv_iconst (v := 0) hx hb dX3_readFigure_105 zk_iconst_0 ?_
              have hFe : FX = (0, v99na0_1.toInt, v99na0_2.toInt, v5na0_6.toInt, v99na0_8.toInt, v99na0_9.toInt, v99na0_10.toInt, v99na0_11.toInt, v99na0_12.toInt, v99na0_13.toInt, (fl_L v5nfa0_4), a0_5_8.toInt, (fl_A fa0_5_10), (fl_A fa0_5_11)) := hF0
              exact W.zret (v := 0) hx hb hr rfl (fun t ht hW => ⟨⟨0, (), rfl, ⟨(Or.inr (rfl)), (congrArg Prod.fst hFe).symm⟩, v99na0_1, v99na0_2, v5na0_6, v99na0_8, v99na0_9, v99na0_10, v99na0_11, v99na0_12, v99na0_13, v5nfa0_4, a0_5_8, fa0_5_10, fa0_5_11, ⟨bv5na0_6.1, bv5na0_6.2⟩, ⟨bv99na0_8.1, bv99na0_8.2⟩, ⟨bv99na0_9.1, bv99na0_9.2⟩, ⟨bv99na0_10.1, bv99na0_10.2⟩, (congrArg Prod.snd hFe), by rw [ht]; exact hP, va_K.moved hW.alike hK, hD⟩, hS.F ht⟩) hS.2.2 dX3_readFigure_106
      · subst hw
        have hF0 := hF0.trans (if_neg (by decide))
        refine lv_if_ne (tgt := 39) hx hb dX3_readFigure_34 (by decide) (fun c34 => absurd (by decide +kernel) c34) (fun _ => ?_)
        refine lv_iconst (v := 0) hx hb dX3_readFigure_37 zk_iconst_0 ?_
        have hFe : FX = (0, v31na0_1.toInt, v31na0_2.toInt, v5na0_6.toInt, v14na0_8.toInt, v14na0_9.toInt, v14na0_10.toInt, v14na0_11.toInt, v14na0_12.toInt, a0_13.toInt, (fl_L v5nfa0_4), a0_5_8.toInt, (fl_A fa0_5_10), (fl_A fa0_5_11)) := hF0
        exact W.zret (v := 0) hx hb hr rfl (fun t ht hW => ⟨⟨0, (), rfl, ⟨(Or.inr (rfl)), (congrArg Prod.fst hFe).symm⟩, v31na0_1, v31na0_2, v5na0_6, v14na0_8, v14na0_9, v14na0_10, v14na0_11, v14na0_12, a0_13, v5nfa0_4, a0_5_8, fa0_5_10, fa0_5_11, ⟨bv5na0_6.1, bv5na0_6.2⟩, ⟨bv14na0_8.1, bv14na0_8.2⟩, ⟨bv14na0_9.1, bv14na0_9.2⟩, ⟨bv14na0_10.1, bv14na0_10.2⟩, (congrArg Prod.snd hFe), by rw [ht]; exact hP, va_K.moved hW.alike hK, hD⟩, hS.F ht⟩) hS.2.2 dX3_readFigure_38
    · subst hw
      have hF0 := hF0.trans (if_neg (by decide))
      refine lv_if_eq (tgt := 37) hx hb dX3_readFigure_17 (by decide) (fun _ => ?_) (fun c17 => absurd (by decide +kernel) c17)
      refine lv_iconst (v := 0) hx hb dX3_readFigure_37 zk_iconst_0 ?_
      have hFe : FX = (0, v14na0_1.toInt, v14na0_2.toInt, v5na0_6.toInt, v14na0_8.toInt, v14na0_9.toInt, v14na0_10.toInt, v14na0_11.toInt, v14na0_12.toInt, a0_13.toInt, (fl_L v5nfa0_4), a0_5_8.toInt, (fl_A fa0_5_10), (fl_A fa0_5_11)) := hF0
      exact W.zret (v := 0) hx hb hr rfl (fun t ht hW => ⟨⟨0, (), rfl, ⟨(Or.inr (rfl)), (congrArg Prod.fst hFe).symm⟩, v14na0_1, v14na0_2, v5na0_6, v14na0_8, v14na0_9, v14na0_10, v14na0_11, v14na0_12, a0_13, v5nfa0_4, a0_5_8, fa0_5_10, fa0_5_11, ⟨bv5na0_6.1, bv5na0_6.2⟩, ⟨bv14na0_8.1, bv14na0_8.2⟩, ⟨bv14na0_9.1, bv14na0_9.2⟩, ⟨bv14na0_10.1, bv14na0_10.2⟩, (congrArg Prod.snd hFe), by rw [ht]; exact hP, va_K.moved hW.alike hK, hD⟩, hS.F ht⟩) hS.2.2 dX3_readFigure_38
  · subst hw
    have hF0 := hF0.trans (if_neg (by decide))
    refine lv_if_eq (tgt := 37) hx hb dX3_readFigure_8 (by decide) (fun _ => ?_) (fun c8 => absurd (by decide +kernel) c8)
    refine lv_iconst (v := 0) hx hb dX3_readFigure_37 zk_iconst_0 ?_
    have hFe : FX = (0, v5na0_1.toInt, v5na0_2.toInt, v5na0_6.toInt, v5na0_8.toInt, v5na0_9.toInt, v5na0_10.toInt, v5na0_11.toInt, v5na0_12.toInt, a0_13.toInt, (fl_L v5nfa0_4), a0_5_8.toInt, (fl_A fa0_5_10), (fl_A fa0_5_11)) := hF0
    exact W.zret (v := 0) hx hb hr rfl (fun t ht hW => ⟨⟨0, (), rfl, ⟨(Or.inr (rfl)), (congrArg Prod.fst hFe).symm⟩, v5na0_1, v5na0_2, v5na0_6, v5na0_8, v5na0_9, v5na0_10, v5na0_11, v5na0_12, a0_13, v5nfa0_4, a0_5_8, fa0_5_10, fa0_5_11, ⟨bv5na0_6.1, bv5na0_6.2⟩, ⟨bv5na0_8.1, bv5na0_8.2⟩, ⟨bv5na0_9.1, bv5na0_9.2⟩, ⟨bv5na0_10.1, bv5na0_10.2⟩, (congrArg Prod.snd hFe), by rw [ht]; exact hP, va_K.moved hW.alike hK, hD⟩, hS.F ht⟩) hS.2.2 dX3_readFigure_38
