set_option maxHeartbeats 4000000 in
set_option maxRecDepth 100000 in
theorem f_X8_note (l : Launch) (dC : Nat → ClassId) (dI : Nat → Nat → Nat) (sz : Nat) (a0 : Nat) (a0g_0 a0g_1 a0g_2 a0g_3 a0g_4 a0g_5 a0g_6 a0g_7 a0g_8 a0g_9 a0g_10 a0g_11 a0g_12 a0g_13 a0g_14 a0g_15 a0g_16 a0g_18 a0g_20 a0g_22 a0g_23 a0g_24 a0g_25 a0g_26 a0g_27 a0g_28 a0g_29 a0g_30 a0g_31 a0g_32 a0g_33 a0g_34 a0g_35 a0g_36 a0g_37 a0g_38 a0g_39 : Value) (a0_17 : Nat) (a0_19 : Nat) (a0_21 : Int32) (ka0_17 : ClassId) (fa0_17 : Nat → Int32) (ka0_19 : ClassId) (fa0_19 : Nat → Int32) (ba0_21_l : (0 : Int) ≤ a0_21.toInt) (ba0_21_u : a0_21.toInt ≤ (16 : Int)) (bfa0_17 : ((∀ k : Nat, 0 ≤ k → k ≤ 8 → (0 : Int) ≤ (fa0_17 k).toInt ∧ (fa0_17 k).toInt ≤ 8) ∧ (∀ k : Nat, 19 ≤ k → k ≤ 19 → (0 : Int) ≤ (fa0_17 k).toInt ∧ (fa0_17 k).toInt ≤ 8) ∧ (∀ k : Nat, 20 ≤ k → k ≤ 20 → (0 : Int) ≤ (fa0_17 k).toInt ∧ (fa0_17 k).toInt ≤ 19))) (bfa0_19 : (md_S fa0_19)) : Met l yX8_note wsX8_note ({ frames := 1, cells := 0, slots := 0, locals := 25 }) (va_Pc [.ref a0] (ax_C dC dI sz [(a0, .inr (8, [a0g_0, a0g_1, a0g_2, a0g_3, a0g_4, a0g_5, a0g_6, a0g_7, a0g_8, a0g_9, a0g_10, a0g_11, a0g_12, a0g_13, a0g_14, a0g_15, a0g_16, Value.ref a0_17, a0g_18, Value.ref a0_19, a0g_20, Value.int a0_21, a0g_22, a0g_23, a0g_24, a0g_25, a0g_26, a0g_27, a0g_28, a0g_29, a0g_30, a0g_31, a0g_32, a0g_33, a0g_34, a0g_35, a0g_36, a0g_37, a0g_38, a0g_39])), (a0_17, .inl (ka0_17, 23, .inl (fa0_17))), (a0_19, .inl (ka0_19, 368, .inl (fa0_19)))] [(ka0_17, .int), (ka0_19, .int)] (fun _ => True))) (va_Qv (fun (_ : Unit) => True) (fun (_ : Unit) (t : State) => ∃ na0_21 : Int32, ∃ nfa0_19 : Nat → Int32, ((0 : Int) ≤ na0_21.toInt ∧ na0_21.toInt ≤ 16) ∧ (md_S nfa0_19) ∧ (Ff_X8_note a0_21.toInt (fl_A fa0_17) (fl_A fa0_19) = (na0_21.toInt, (fl_A nfa0_19))) ∧ ax_B dC dI (va_A [(a0, .inr (8, [a0g_0, a0g_1, a0g_2, a0g_3, a0g_4, a0g_5, a0g_6, a0g_7, a0g_8, a0g_9, a0g_10, a0g_11, a0g_12, a0g_13, a0g_14, a0g_15, a0g_16, Value.ref a0_17, a0g_18, Value.ref a0_19, a0g_20, Value.int a0_21, a0g_22, a0g_23, a0g_24, a0g_25, a0g_26, a0g_27, a0g_28, a0g_29, a0g_30, a0g_31, a0g_32, a0g_33, a0g_34, a0g_35, a0g_36, a0g_37, a0g_38, a0g_39])), (a0_17, .inl (ka0_17, 23, .inl (fa0_17))), (a0_19, .inl (ka0_19, 368, .inl (fa0_19)))] sz) [(a0, .inr (8, [a0g_0, a0g_1, a0g_2, a0g_3, a0g_4, a0g_5, a0g_6, a0g_7, a0g_8, a0g_9, a0g_10, a0g_11, a0g_12, a0g_13, a0g_14, a0g_15, a0g_16, Value.ref a0_17, a0g_18, Value.ref a0_19, a0g_20, Value.int na0_21, a0g_22, a0g_23, a0g_24, a0g_25, a0g_26, a0g_27, a0g_28, a0g_29, a0g_30, a0g_31, a0g_32, a0g_33, a0g_34, a0g_35, a0g_36, a0g_37, a0g_38, a0g_39])), (a0_17, .inl (ka0_17, 23, .inl (fa0_17))), (a0_19, .inl (ka0_19, 368, .inl (nfa0_19)))] [(ka0_17, .int), (ka0_19, .int)] t) (va_A [(a0, .inr (8, [a0g_0, a0g_1, a0g_2, a0g_3, a0g_4, a0g_5, a0g_6, a0g_7, a0g_8, a0g_9, a0g_10, a0g_11, a0g_12, a0g_13, a0g_14, a0g_15, a0g_16, Value.ref a0_17, a0g_18, Value.ref a0_19, a0g_20, Value.int a0_21, a0g_22, a0g_23, a0g_24, a0g_25, a0g_26, a0g_27, a0g_28, a0g_29, a0g_30, a0g_31, a0g_32, a0g_33, a0g_34, a0g_35, a0g_36, a0g_37, a0g_38, a0g_39])), (a0_17, .inl (ka0_17, 23, .inl (fa0_17))), (a0_19, .inl (ka0_19, 368, .inl (fa0_19)))] sz)) 0 0 (va_A [(a0, .inr (8, [a0g_0, a0g_1, a0g_2, a0g_3, a0g_4, a0g_5, a0g_6, a0g_7, a0g_8, a0g_9, a0g_10, a0g_11, a0g_12, a0g_13, a0g_14, a0g_15, a0g_16, Value.ref a0_17, a0g_18, Value.ref a0_19, a0g_20, Value.int a0_21, a0g_22, a0g_23, a0g_24, a0g_25, a0g_26, a0g_27, a0g_28, a0g_29, a0g_30, a0g_31, a0g_32, a0g_33, a0g_34, a0g_35, a0g_36, a0g_37, a0g_38, a0g_39])), (a0_17, .inl (ka0_17, 23, .inl (fa0_17))), (a0_19, .inl (ka0_19, 368, .inl (fa0_19)))] sz) := by
  refine Met.ofW (cc := cX8_note) (maxL := 2) (ret := none) (by decide) rfl ?_
  intro p e s m args below meth c s₁ B hml hv
  obtain ⟨rfl, hsz, hP, hK, hD0, hE⟩ := hv
  have hx := B.exec
  have hb := B.bytes
  have hr := B.returns
  have hts := atoms_spec (ws := wsX8_note) B.pre
  have hown : s.vm.findClass RX8 = some m.cls := findClass_of_methodNamed B.named
  have hlocks := B.notSynchronized
  subst hsz
  have hD := hD0.self (sz := s.heap.size)
  generalize hAe : va_A [(a0, .inr (8, [a0g_0, a0g_1, a0g_2, a0g_3, a0g_4, a0g_5, a0g_6, a0g_7, a0g_8, a0g_9, a0g_10, a0g_11, a0g_12, a0g_13, a0g_14, a0g_15, a0g_16, Value.ref a0_17, a0g_18, Value.ref a0_19, a0g_20, Value.int a0_21, a0g_22, a0g_23, a0g_24, a0g_25, a0g_26, a0g_27, a0g_28, a0g_29, a0g_30, a0g_31, a0g_32, a0g_33, a0g_34, a0g_35, a0g_36, a0g_37, a0g_38, a0g_39])), (a0_17, .inl (ka0_17, 23, .inl (fa0_17))), (a0_19, .inl (ka0_19, 368, .inl (fa0_19)))] s.heap.size = A at hD ⊢
  have hA : ∀ q : Nat, s.heap.size ≤ q → A q := fun q h => by rw [← hAe]; exact Or.inr h
  have hS : va_S A s.heap s.heap [] := va_S.rf
  have hP : va_P (dC, dI) vwCl [(a0, .inr (8, [a0g_0, a0g_1, a0g_2, a0g_3, a0g_4, a0g_5, a0g_6, a0g_7, a0g_8, a0g_9, a0g_10, a0g_11, a0g_12, a0g_13, a0g_14, a0g_15, a0g_16, Value.ref a0_17, a0g_18, Value.ref a0_19, a0g_20, Value.int a0_21, a0g_22, a0g_23, a0g_24, a0g_25, a0g_26, a0g_27, a0g_28, a0g_29, a0g_30, a0g_31, a0g_32, a0g_33, a0g_34, a0g_35, a0g_36, a0g_37, a0g_38, a0g_39])), (a0_17, .inl (ka0_17, 23, .inl (fa0_17))), (a0_19, .inl (ka0_19, 368, .inl (fa0_19)))] s.heap := hP
  have hl := lv_entry ([.ref a0]) (n := 2) (Nat.le_of_ble_eq_true rfl)
  rw [lg_entry_eq]
  generalize (lg_sl ([.ref a0]) ++ List.replicate (2 - (lg_sl ([.ref a0])).length) Slot.unset).toArray = ls at hl ⊢
  have hl : lv_has ls 2 [(0, .ref a0)] := hl
  generalize hFX : Ff_X8_note a0_21.toInt (fl_A fa0_17) (fl_A fa0_19) = FX at ⊢
  have hF0 := hFX.symm.trans (Ff_X8_note.eq_1 a0_21.toInt (fl_A fa0_17) (fl_A fa0_19))
  refine ai_open (fun K hK0 => ?_)
  refine (hK0 _ _ _).mpr ?_
  refine lv_aload_n hx hb dX8_note_0 rfl (lv_at hl 0 rfl) ?_
  refine va_get (D := (dC, dI)) (ci := 8) (v := .int a0_21) (C := RX8) (T := TX8) (N := 40) hx hb hts zi_X8_note_8 hown hK hP 0 rfl rfl 21 (by decide) (hts (.fieldLink RX8 176 "WaxTurnsModel" "undos" "I") (List.mem_cons_of_mem _ (List.mem_append_left _ (List.mem_of_getElem? (i := 0) rfl)))) (fun _ h9 => h9) rfl dX8_note_1 ?_
  refine lv_bipush (v := 16) hx hb dX8_note_4 zk_bipush_16 ?_
  refine lv_icmp_ne (tgt := 49) hx hb dX8_note_6 (by decide) (fun c6 => ?_) (fun c6 => ?_)
  · have gc6 := ai_ne c6
    have u6t_a0_21 : a0_21.toInt ≤ (15 : Int) := (by have h1 := ba0_21_u; have h2 : (16 : Int32).toInt = 16 := (by decide); rw [h2] at gc6; omega)
    have hF0 := hF0.trans (if_neg (show ¬ (a0_21.toInt = 16) from  gc6))
    refine lv_aload_n hx hb dX8_note_49 rfl (lv_at hl 0 rfl) ?_
    refine va_get (D := (dC, dI)) (ci := 8) (v := .ref a0_17) (C := RX8) (T := TX8) (N := 40) hx hb hts zi_X8_note_8 hown hK hP 0 rfl rfl 17 (by decide) (hts (.fieldLink RX8 26 "WaxTurnsModel" "st" "[I") (List.mem_cons_of_mem _ (List.mem_append_left _ (List.mem_of_getElem? (i := 2) rfl)))) (fun _ h9 => h9) rfl dX8_note_50 ?_
    refine lv_iconst (v := 0) hx hb dX8_note_53 zk_iconst_0 ?_
    refine lv_aload_n hx hb dX8_note_54 rfl (lv_at hl 0 rfl) ?_
    refine va_get (D := (dC, dI)) (ci := 8) (v := .ref a0_19) (C := RX8) (T := TX8) (N := 40) hx hb hts zi_X8_note_8 hown hK hP 0 rfl rfl 19 (by decide) (hts (.fieldLink RX8 32 "WaxTurnsModel" "undone" "[I") (List.mem_cons_of_mem _ (List.mem_append_left _ (List.mem_of_getElem? (i := 1) rfl)))) (fun _ h9 => h9) rfl dX8_note_55 ?_
    refine lv_bipush (v := 23) hx hb dX8_note_58 zk_bipush_23 ?_
    refine lv_aload_n hx hb dX8_note_60 rfl (lv_at hl 0 rfl) ?_
    refine va_get (D := (dC, dI)) (ci := 8) (v := .int a0_21) (C := RX8) (T := TX8) (N := 40) hx hb hts zi_X8_note_8 hown hK hP 0 rfl rfl 21 (by decide) (hts (.fieldLink RX8 176 "WaxTurnsModel" "undos" "I") (List.mem_cons_of_mem _ (List.mem_append_left _ (List.mem_of_getElem? (i := 0) rfl)))) (fun _ h9 => h9) rfl dX8_note_61 ?_
    refine lv_imul hx hb dX8_note_64 ?_
    refine lv_topi (fun x64 ex64 => ?_)
    have qx64 : x64.toInt = (23 : Int32).toInt * a0_21.toInt ∧ (0 : Int) ≤ x64.toInt ∧ x64.toInt ≤ 345 := ai_mul ex64 ⟨zq170, zq171⟩ ⟨ba0_21_l, u6t_a0_21⟩ (by decide) (by decide) zq211
    have wx64 : x64.toInt = 23 * a0_21.toInt := qx64.1
    have hF0 := hF0.trans (fl_lt_eq (show x64.toInt = 23 * a0_21.toInt from qx64.1))
    refine lv_bipush (v := 23) hx hb dX8_note_65 zk_bipush_23 ?_
    obtain ⟨hPc, hDc, hFc, hCc⟩ := zc_cut (wc := [(a0_17, .inl (ka0_17, 23, .inl (fa0_17))), (a0_19, .inl (ka0_19, 368, .inl (fa0_19)))]) hP hD hS hA [1, 2] (by decide +kernel) rfl
    have hKc := hK.sub (tys' := [(ka0_17, .int), (ka0_19, .int)]) [0, 1] rfl
    refine va_callv (va_runS (As := [.ref a0_17, .int 0, .ref a0_19, .int x64, .int 23]) (rest := []) ⟨hx, hb, hml, hown, hts⟩ (c_X8_copy_23_368 l dC dI s.heap.size a0_17 0 a0_19 x64 23 ka0_17 fa0_17 ka0_19 fa0_19 zq5 zq6 qx64.2.1 qx64.2.2 zq170 zq171) (va_cwS 5 hts gX8_note_X8_copy rfl rfl rfl zd_X8_copy.2 ⟨Nat.le_of_ble_eq_true rfl, Nat.le_of_ble_eq_true rfl⟩) ⟨ax_blind (fun _ _ _ _ _ => trivial), ax_pre hPc hKc hDc (fun _ _ => trivial)⟩ rfl rfl hl.1 rfl (lv_room (Nat.le_of_ble_eq_true rfl)) dX8_note_67 ⟨Nat.le_of_ble_eq_true rfl, Nat.le_of_ble_eq_true rfl⟩) hS (fun q _ h => hFc q h) hFc (fun u t H locs ht hvm hw hB hz1 hk1 hS => ?_)
    obtain ⟨v67nfa3, hraw67_0, hP1, hK1, hD1⟩ := hB
    rw [ht] at hP1
    obtain ⟨hP, hD⟩ := zc_back (w := [(a0, .inr (8, [a0g_0, a0g_1, a0g_2, a0g_3, a0g_4, a0g_5, a0g_6, a0g_7, a0g_8, a0g_9, a0g_10, a0g_11, a0g_12, a0g_13, a0g_14, a0g_15, a0g_16, Value.ref a0_17, a0g_18, Value.ref a0_19, a0g_20, Value.int a0_21, a0g_22, a0g_23, a0g_24, a0g_25, a0g_26, a0g_27, a0g_28, a0g_29, a0g_30, a0g_31, a0g_32, a0g_33, a0g_34, a0g_35, a0g_36, a0g_37, a0g_38, a0g_39])), (a0_17, .inl (ka0_17, 23, .inl (fa0_17))), (a0_19, .inl (ka0_19, 368, .inl (v67nfa3)))]) hP hD hCc hk1 hFc hP1 hD1 [.inl 0, .inr 0, .inr 1] (by decide +kernel) rfl
    have hc67 : va_cpy (fl_A fa0_17) (fl_A fa0_19) (0) (x64.toInt.toNat) 23 = (fl_A v67nfa3) := (fl_cpy hraw67_0).symm
    have hF0 := hF0.trans (fl_lt_eq hc67.symm)
    have bv67nfa3 : (md_S v67nfa3) := cp_SM hraw67_0 (by decide) (md_ix (u := a0_21) wx64 ba0_21_l) bfa0_17 bfa0_19
    refine lv_aload_n hx hb dX8_note_70 rfl (lv_at hl 0 rfl) ?_
    refine lv_dup hx hb dX8_note_71 rfl ?_
    refine va_get (D := (dC, dI)) (ci := 8) (v := .int a0_21) (C := RX8) (T := TX8) (N := 40) hx hb hts zi_X8_note_8 hown hK hP 0 rfl rfl 21 (by decide) (hts (.fieldLink RX8 176 "WaxTurnsModel" "undos" "I") (List.mem_cons_of_mem _ (List.mem_append_left _ (List.mem_of_getElem? (i := 0) rfl)))) (fun _ h9 => h9) rfl dX8_note_72 ?_
    refine lv_iconst (v := 1) hx hb dX8_note_75 zk_iconst_1 ?_
    refine lv_iadd hx hb dX8_note_76 ?_
    refine lv_topi (fun x76 ex76 => ?_)
    have qx76 : x76.toInt = a0_21.toInt + (1 : Int32).toInt := ai_add ex76 ⟨ba0_21_l, u6t_a0_21⟩ ⟨zq1, zq0⟩ (by decide) (by decide)
    have bx76 : (1 : Int) ≤ x76.toInt ∧ x76.toInt ≤ 16 := ⟨by rw [qx76]; exact Int.add_le_add ba0_21_l zq1, by rw [qx76]; exact Int.add_le_add u6t_a0_21 zq0⟩
    have wx76 : x76.toInt = a0_21.toInt + 1 := qx76
    have hF0 := hF0.trans (fl_lt_eq (show x76.toInt = a0_21.toInt + 1 from qx76))
    refine va_put (D := (dC, dI)) (ci := 8) (v := .int x76) (ty := .int) (C := RX8) (T := TX8) (N := 40) hx hb hts zi_X8_note_8 tyX8 tyX8_ok nmX8 hown hK hP hD hS 0 rfl rfl 21 (by decide) (hts (.fieldLink RX8 176 "WaxTurnsModel" "undos" "I") (List.mem_cons_of_mem _ (List.mem_append_left _ (List.mem_of_getElem? (i := 0) rfl)))) (fun _ h9 => h9) rfl (tyX8_ok 21 (by decide)) rfl rfl (Nat.le_of_ble_eq_true rfl) dX8_note_77 (fun H locs hP hD hS => ?_)
    obtain ⟨hP, hD⟩ := zc_re (w := [(a0, .inr (8, [a0g_0, a0g_1, a0g_2, a0g_3, a0g_4, a0g_5, a0g_6, a0g_7, a0g_8, a0g_9, a0g_10, a0g_11, a0g_12, a0g_13, a0g_14, a0g_15, a0g_16, Value.ref a0_17, a0g_18, Value.ref a0_19, a0g_20, Value.int x76, a0g_22, a0g_23, a0g_24, a0g_25, a0g_26, a0g_27, a0g_28, a0g_29, a0g_30, a0g_31, a0g_32, a0g_33, a0g_34, a0g_35, a0g_36, a0g_37, a0g_38, a0g_39])), (a0_17, .inl (ka0_17, 23, .inl (fa0_17))), (a0_19, .inl (ka0_19, 368, .inl (v67nfa3)))]) hP hD rfl
    have hFe : FX = (x76.toInt, (fl_A v67nfa3)) := hF0
    exact W.vret hx hb hr (fun t ht hW => ⟨⟨(), rfl, trivial, x76, v67nfa3, ⟨Int.le_trans (by decide) bx76.1, bx76.2⟩, bv67nfa3, hFe, by rw [ht]; exact hP, va_K.moved hW.alike hK, hD⟩, hS.F ht⟩) hS.2.2 dX8_note_80
  · have gc6 := ai_eq c6
    have u6f_a0_21 : a0_21.toInt ≤ (16 : Int) := ba0_21_u
    have l6f_a0_21 : (16 : Int) ≤ a0_21.toInt := Int.le_trans zq110 (Int.le_of_eq gc6.symm)
    have hF0 := hF0.trans (if_pos (show a0_21.toInt = 16 from gc6))
    refine lv_iconst (v := 0) hx hb dX8_note_9 zk_iconst_0 ?_
    refine lv_istore_n (lv' := [(1, .int 0), (0, .ref a0)]) hx hb dX8_note_10 rfl hl (by decide) rfl (fun ls hl => ?_)
    have J11 : ∀ (n : Nat) (j11l1 : Int32) (j11a0_19_a : Nat → Int32) (H : Heap) (locs : List Loc) (ls : Array Slot), (346 : Int) - j11l1.toInt ≤ (n : Int) → (0 : Int) ≤ j11l1.toInt → j11l1.toInt ≤ (345 : Int) → (md_S j11a0_19_a) → (FX = fl_wh (fun t9 => Sf_X8_note_11_1 a0_21.toInt (fl_A fa0_17) t9.1 t9.2) (0, (fun _ => 0)) n (j11l1.toInt, (fl_A j11a0_19_a))) → va_P (dC, dI) vwCl [(a0, .inr (8, [a0g_0, a0g_1, a0g_2, a0g_3, a0g_4, a0g_5, a0g_6, a0g_7, a0g_8, a0g_9, a0g_10, a0g_11, a0g_12, a0g_13, a0g_14, a0g_15, a0g_16, Value.ref a0_17, a0g_18, Value.ref a0_19, a0g_20, Value.int a0_21, a0g_22, a0g_23, a0g_24, a0g_25, a0g_26, a0g_27, a0g_28, a0g_29, a0g_30, a0g_31, a0g_32, a0g_33, a0g_34, a0g_35, a0g_36, a0g_37, a0g_38, a0g_39])), (a0_17, .inl (ka0_17, 23, .inl (fa0_17))), (a0_19, .inl (ka0_19, 368, .inl (j11a0_19_a)))] H → va_D A [(a0, .inr (8, [a0g_0, a0g_1, a0g_2, a0g_3, a0g_4, a0g_5, a0g_6, a0g_7, a0g_8, a0g_9, a0g_10, a0g_11, a0g_12, a0g_13, a0g_14, a0g_15, a0g_16, Value.ref a0_17, a0g_18, Value.ref a0_19, a0g_20, Value.int a0_21, a0g_22, a0g_23, a0g_24, a0g_25, a0g_26, a0g_27, a0g_28, a0g_29, a0g_30, a0g_31, a0g_32, a0g_33, a0g_34, a0g_35, a0g_36, a0g_37, a0g_38, a0g_39])), (a0_17, .inl (ka0_17, 23, .inl (fa0_17))), (a0_19, .inl (ka0_19, 368, .inl (j11a0_19_a)))] → va_S A s.heap H locs → lv_has ls 2 [(0, .ref a0), (1, .int j11l1)] → K H locs (F0 m 11 ls []) := by
      intro n
      induction n with
      | zero =>
        intro j11l1 j11a0_19_a H locs ls hm bj11l1_l bj11l1_u bj11a0_19_a hF0 hP hD hS hl
        have h8 := ai_min j11l1
        have h9 := ai_max j11l1
        exact absurd hm (by omega)
      | succ n ih11 =>
        intro j11l1 j11a0_19_a H locs ls hm bj11l1_l bj11l1_u bj11a0_19_a hF0 hP hD hS hl
        refine (hK0 _ _ _).mpr ?_
        have hm11 := hm
        obtain ⟨SX11, hSX11⟩ : ∃ q9, Sf_X8_note_11_1 a0_21.toInt (fl_A fa0_17) j11l1.toInt (fl_A j11a0_19_a) = q9 := ⟨_, rfl⟩
        have hF1 := hSX11.symm.trans (Sf_X8_note_11_1.eq_1 a0_21.toInt (fl_A fa0_17) j11l1.toInt (fl_A j11a0_19_a))
        refine lv_iload_n hx hb dX8_note_11 rfl (lv_at hl 1 rfl) ?_
        refine lv_sipush (v := 345) hx hb dX8_note_12 zk_sipush_345 ?_
        refine lv_icmp_ge (tgt := 39) hx hb dX8_note_15 (by decide) (fun c15 => ?_) (fun c15 => ?_)
        · have gc15 := ai_le c15
          have l15t_j11l1 : (345 : Int) ≤ j11l1.toInt := Int.le_trans zq212 gc15
          have hF1 := hF1.trans (if_pos (show 345 ≤ j11l1.toInt from gc15))
          have hF0 := hF0.trans (fl_wh_r (hSX11.trans hF1))
          refine lv_aload_n hx hb dX8_note_39 rfl (lv_at hl 0 rfl) ?_
          refine lv_dup hx hb dX8_note_40 rfl ?_
          refine va_get (D := (dC, dI)) (ci := 8) (v := .int a0_21) (C := RX8) (T := TX8) (N := 40) hx hb hts zi_X8_note_8 hown hK hP 0 rfl rfl 21 (by decide) (hts (.fieldLink RX8 176 "WaxTurnsModel" "undos" "I") (List.mem_cons_of_mem _ (List.mem_append_left _ (List.mem_of_getElem? (i := 0) rfl)))) (fun _ h9 => h9) rfl dX8_note_41 ?_
          refine lv_iconst (v := 1) hx hb dX8_note_44 zk_iconst_1 ?_
          refine lv_isub hx hb dX8_note_45 ?_
          refine lv_topi (fun x45 ex45 => ?_)
          have qx45 : x45.toInt = a0_21.toInt - (1 : Int32).toInt := ai_sub ex45 ⟨l6f_a0_21, u6f_a0_21⟩ ⟨zq1, zq0⟩ (by decide) (by decide)
          have bx45 : (15 : Int) ≤ x45.toInt ∧ x45.toInt ≤ 15 := ⟨by rw [qx45]; exact Int.sub_le_sub l6f_a0_21 zq0, by rw [qx45]; exact Int.sub_le_sub u6f_a0_21 zq1⟩
          have wx45 : x45.toInt = a0_21.toInt - 1 := qx45
          have hF0 := hF0.trans (fl_lt_eq (show x45.toInt = a0_21.toInt - 1 from qx45))
          refine va_put (D := (dC, dI)) (ci := 8) (v := .int x45) (ty := .int) (C := RX8) (T := TX8) (N := 40) hx hb hts zi_X8_note_8 tyX8 tyX8_ok nmX8 hown hK hP hD hS 0 rfl rfl 21 (by decide) (hts (.fieldLink RX8 176 "WaxTurnsModel" "undos" "I") (List.mem_cons_of_mem _ (List.mem_append_left _ (List.mem_of_getElem? (i := 0) rfl)))) (fun _ h9 => h9) rfl (tyX8_ok 21 (by decide)) rfl rfl (Nat.le_of_ble_eq_true rfl) dX8_note_46 (fun H locs hP hD hS => ?_)
          obtain ⟨hP, hD⟩ := zc_re (w := [(a0, .inr (8, [a0g_0, a0g_1, a0g_2, a0g_3, a0g_4, a0g_5, a0g_6, a0g_7, a0g_8, a0g_9, a0g_10, a0g_11, a0g_12, a0g_13, a0g_14, a0g_15, a0g_16, Value.ref a0_17, a0g_18, Value.ref a0_19, a0g_20, Value.int x45, a0g_22, a0g_23, a0g_24, a0g_25, a0g_26, a0g_27, a0g_28, a0g_29, a0g_30, a0g_31, a0g_32, a0g_33, a0g_34, a0g_35, a0g_36, a0g_37, a0g_38, a0g_39])), (a0_17, .inl (ka0_17, 23, .inl (fa0_17))), (a0_19, .inl (ka0_19, 368, .inl (j11a0_19_a)))]) hP hD rfl
          refine lv_aload_n hx hb dX8_note_49 rfl (lv_at hl 0 rfl) ?_
          refine va_get (D := (dC, dI)) (ci := 8) (v := .ref a0_17) (C := RX8) (T := TX8) (N := 40) hx hb hts zi_X8_note_8 hown hK hP 0 rfl rfl 17 (by decide) (hts (.fieldLink RX8 26 "WaxTurnsModel" "st" "[I") (List.mem_cons_of_mem _ (List.mem_append_left _ (List.mem_of_getElem? (i := 2) rfl)))) (fun _ h9 => h9) rfl dX8_note_50 ?_
          refine lv_iconst (v := 0) hx hb dX8_note_53 zk_iconst_0 ?_
          refine lv_aload_n hx hb dX8_note_54 rfl (lv_at hl 0 rfl) ?_
          refine va_get (D := (dC, dI)) (ci := 8) (v := .ref a0_19) (C := RX8) (T := TX8) (N := 40) hx hb hts zi_X8_note_8 hown hK hP 0 rfl rfl 19 (by decide) (hts (.fieldLink RX8 32 "WaxTurnsModel" "undone" "[I") (List.mem_cons_of_mem _ (List.mem_append_left _ (List.mem_of_getElem? (i := 1) rfl)))) (fun _ h9 => h9) rfl dX8_note_55 ?_
          refine lv_bipush (v := 23) hx hb dX8_note_58 zk_bipush_23 ?_
          refine lv_aload_n hx hb dX8_note_60 rfl (lv_at hl 0 rfl) ?_
          refine va_get (D := (dC, dI)) (ci := 8) (v := .int x45) (C := RX8) (T := TX8) (N := 40) hx hb hts zi_X8_note_8 hown hK hP 0 rfl rfl 21 (by decide) (hts (.fieldLink RX8 176 "WaxTurnsModel" "undos" "I") (List.mem_cons_of_mem _ (List.mem_append_left _ (List.mem_of_getElem? (i := 0) rfl)))) (fun _ h9 => h9) rfl dX8_note_61 ?_
          refine lv_imul hx hb dX8_note_64 ?_
          refine lv_topi (fun x64 ex64 => ?_)
          have qx64 : x64.toInt = (23 : Int32).toInt * x45.toInt ∧ (345 : Int) ≤ x64.toInt ∧ x64.toInt ≤ 345 := ai_mul ex64 ⟨zq170, zq171⟩ ⟨bx45.1, bx45.2⟩ (by decide) (by decide) zq211
          have wx64 : x64.toInt = 23 * x45.toInt := qx64.1
          have hF0 := hF0.trans (fl_lt_eq (show x64.toInt = 23 * x45.toInt from qx64.1))
          refine lv_bipush (v := 23) hx hb dX8_note_65 zk_bipush_23 ?_
          obtain ⟨hPc, hDc, hFc, hCc⟩ := zc_cut (wc := [(a0_17, .inl (ka0_17, 23, .inl (fa0_17))), (a0_19, .inl (ka0_19, 368, .inl (j11a0_19_a)))]) hP hD hS hA [1, 2] (by decide +kernel) rfl
          have hKc := hK.sub (tys' := [(ka0_17, .int), (ka0_19, .int)]) [0, 1] rfl
          refine va_callv (va_runS (As := [.ref a0_17, .int 0, .ref a0_19, .int x64, .int 23]) (rest := []) ⟨hx, hb, hml, hown, hts⟩ (c_X8_copy_23_368 l dC dI H.size a0_17 0 a0_19 x64 23 ka0_17 fa0_17 ka0_19 j11a0_19_a zq5 zq6 (Int.le_trans zq213 qx64.2.1) qx64.2.2 zq170 zq171) (va_cwS 5 hts gX8_note_X8_copy rfl rfl rfl zd_X8_copy.2 ⟨Nat.le_of_ble_eq_true rfl, Nat.le_of_ble_eq_true rfl⟩) ⟨ax_blind (fun _ _ _ _ _ => trivial), ax_pre hPc hKc hDc (fun _ _ => trivial)⟩ rfl rfl hl.1 rfl (lv_room (Nat.le_of_ble_eq_true rfl)) dX8_note_67 ⟨Nat.le_of_ble_eq_true rfl, Nat.le_of_ble_eq_true rfl⟩) hS (fun q _ h => hFc q h) hFc (fun u t H locs ht hvm hw hB hz1 hk1 hS => ?_)
          obtain ⟨v67nfa3, hraw67_0, hP1, hK1, hD1⟩ := hB
          rw [ht] at hP1
          obtain ⟨hP, hD⟩ := zc_back (w := [(a0, .inr (8, [a0g_0, a0g_1, a0g_2, a0g_3, a0g_4, a0g_5, a0g_6, a0g_7, a0g_8, a0g_9, a0g_10, a0g_11, a0g_12, a0g_13, a0g_14, a0g_15, a0g_16, Value.ref a0_17, a0g_18, Value.ref a0_19, a0g_20, Value.int x45, a0g_22, a0g_23, a0g_24, a0g_25, a0g_26, a0g_27, a0g_28, a0g_29, a0g_30, a0g_31, a0g_32, a0g_33, a0g_34, a0g_35, a0g_36, a0g_37, a0g_38, a0g_39])), (a0_17, .inl (ka0_17, 23, .inl (fa0_17))), (a0_19, .inl (ka0_19, 368, .inl (v67nfa3)))]) hP hD hCc hk1 hFc hP1 hD1 [.inl 0, .inr 0, .inr 1] (by decide +kernel) rfl
          have hc67 : va_cpy (fl_A fa0_17) (fl_A j11a0_19_a) (0) (x64.toInt.toNat) 23 = (fl_A v67nfa3) := (fl_cpy hraw67_0).symm
          have hF0 := hF0.trans (fl_lt_eq hc67.symm)
          have bv67nfa3 : (md_S v67nfa3) := cp_SM hraw67_0 (by decide) (md_ix (u := x45) wx64 (Int.le_trans zq214 bx45.1)) bfa0_17 bj11a0_19_a
          refine lv_aload_n hx hb dX8_note_70 rfl (lv_at hl 0 rfl) ?_
          refine lv_dup hx hb dX8_note_71 rfl ?_
          refine va_get (D := (dC, dI)) (ci := 8) (v := .int x45) (C := RX8) (T := TX8) (N := 40) hx hb hts zi_X8_note_8 hown hK hP 0 rfl rfl 21 (by decide) (hts (.fieldLink RX8 176 "WaxTurnsModel" "undos" "I") (List.mem_cons_of_mem _ (List.mem_append_left _ (List.mem_of_getElem? (i := 0) rfl)))) (fun _ h9 => h9) rfl dX8_note_72 ?_
          refine lv_iconst (v := 1) hx hb dX8_note_75 zk_iconst_1 ?_
          refine lv_iadd hx hb dX8_note_76 ?_
          refine lv_topi (fun x76 ex76 => ?_)
          have qx76 : x76.toInt = x45.toInt + (1 : Int32).toInt := ai_add ex76 ⟨bx45.1, bx45.2⟩ ⟨zq1, zq0⟩ (by decide) (by decide)
          have bx76 : (16 : Int) ≤ x76.toInt ∧ x76.toInt ≤ 16 := ⟨by rw [qx76]; exact Int.add_le_add bx45.1 zq1, by rw [qx76]; exact Int.add_le_add bx45.2 zq0⟩
          have wx76 : x76.toInt = x45.toInt + 1 := qx76
          have hF0 := hF0.trans (fl_lt_eq (show x76.toInt = x45.toInt + 1 from qx76))
          refine va_put (D := (dC, dI)) (ci := 8) (v := .int x76) (ty := .int) (C := RX8) (T := TX8) (N := 40) hx hb hts zi_X8_note_8 tyX8 tyX8_ok nmX8 hown hK hP hD hS 0 rfl rfl 21 (by decide) (hts (.fieldLink RX8 176 "WaxTurnsModel" "undos" "I") (List.mem_cons_of_mem _ (List.mem_append_left _ (List.mem_of_getElem? (i := 0) rfl)))) (fun _ h9 => h9) rfl (tyX8_ok 21 (by decide)) rfl rfl (Nat.le_of_ble_eq_true rfl) dX8_note_77 (fun H locs hP hD hS => ?_)
          obtain ⟨hP, hD⟩ := zc_re (w := [(a0, .inr (8, [a0g_0, a0g_1, a0g_2, a0g_3, a0g_4, a0g_5, a0g_6, a0g_7, a0g_8, a0g_9, a0g_10, a0g_11, a0g_12, a0g_13, a0g_14, a0g_15, a0g_16, Value.ref a0_17, a0g_18, Value.ref a0_19, a0g_20, Value.int x76, a0g_22, a0g_23, a0g_24, a0g_25, a0g_26, a0g_27, a0g_28, a0g_29, a0g_30, a0g_31, a0g_32, a0g_33, a0g_34, a0g_35, a0g_36, a0g_37, a0g_38, a0g_39])), (a0_17, .inl (ka0_17, 23, .inl (fa0_17))), (a0_19, .inl (ka0_19, 368, .inl (v67nfa3)))]) hP hD rfl
          have hFe : FX = (x76.toInt, (fl_A v67nfa3)) := hF0
          exact W.vret hx hb hr (fun t ht hW => ⟨⟨(), rfl, trivial, x76, v67nfa3, ⟨Int.le_trans (by decide) bx76.1, bx76.2⟩, bv67nfa3, hFe, by rw [ht]; exact hP, va_K.moved hW.alike hK, hD⟩, hS.F ht⟩) hS.2.2 dX8_note_80
        · have gc15 := ai_nle c15
          have u15f_j11l1 : j11l1.toInt ≤ (344 : Int) := ai_lthi gc15 zq215
          have hF1 := hF1.trans (if_neg (show ¬ (345 ≤ j11l1.toInt) from Int.not_le.mpr gc15))
          refine lv_aload_n hx hb dX8_note_18 rfl (lv_at hl 0 rfl) ?_
          refine va_get (D := (dC, dI)) (ci := 8) (v := .ref a0_19) (C := RX8) (T := TX8) (N := 40) hx hb hts zi_X8_note_8 hown hK hP 0 rfl rfl 19 (by decide) (hts (.fieldLink RX8 32 "WaxTurnsModel" "undone" "[I") (List.mem_cons_of_mem _ (List.mem_append_left _ (List.mem_of_getElem? (i := 1) rfl)))) (fun _ h9 => h9) rfl dX8_note_19 ?_
          refine lv_iload_n hx hb dX8_note_22 rfl (lv_at hl 1 rfl) ?_
          refine lv_aload_n hx hb dX8_note_23 rfl (lv_at hl 0 rfl) ?_
          refine va_get (D := (dC, dI)) (ci := 8) (v := .ref a0_19) (C := RX8) (T := TX8) (N := 40) hx hb hts zi_X8_note_8 hown hK hP 0 rfl rfl 19 (by decide) (hts (.fieldLink RX8 32 "WaxTurnsModel" "undone" "[I") (List.mem_cons_of_mem _ (List.mem_append_left _ (List.mem_of_getElem? (i := 1) rfl)))) (fun _ h9 => h9) rfl dX8_note_24 ?_
          refine lv_iload_n hx hb dX8_note_27 rfl (lv_at hl 1 rfl) ?_
          refine lv_bipush (v := 23) hx hb dX8_note_28 zk_bipush_23 ?_
          refine lv_iadd hx hb dX8_note_30 ?_
          refine lv_topi (fun x30 ex30 => ?_)
          have qx30 : x30.toInt = j11l1.toInt + (23 : Int32).toInt := ai_add ex30 ⟨bj11l1_l, u15f_j11l1⟩ ⟨zq170, zq171⟩ (by decide) (by decide)
          have bx30 : (23 : Int) ≤ x30.toInt ∧ x30.toInt ≤ 367 := ⟨by rw [qx30]; exact Int.add_le_add bj11l1_l zq170, by rw [qx30]; exact Int.add_le_add u15f_j11l1 zq171⟩
          have wx30 : x30.toInt = j11l1.toInt + 23 := qx30
          have hF1 := hF1.trans (fl_lt_eq (show x30.toInt = j11l1.toInt + 23 from qx30))
          refine va_iald hx hb hK hP 2 1 rfl rfl (ai_in bx30.1 bx30.2 (by decide) (by decide)) dX8_note_31 ?_
          refine lv_topi (fun x31 ex31 => ?_)
          have fqx31 := congrArg Int32.toInt ex31
          have hF1 := hF1.trans (fl_lt_eq (show x31.toInt = (fl_A j11a0_19_a) (x30.toInt.toNat) from fqx31))
          refine va_iast hx hb hK hP hD hS 2 1 rfl rfl (ai_in bj11l1_l u15f_j11l1 (by decide) (by decide)) dX8_note_32 (fun H locs hP hD hS => ?_)
          obtain ⟨f32, ef32⟩ : ∃ g9 : Nat → Int32, g9 = upd j11a0_19_a (j11l1 : Int32).toNatClampNeg x31 := ⟨_, rfl⟩
          rw [← ef32] at hP hD
          obtain ⟨hP, hD⟩ := zc_re (w := [(a0, .inr (8, [a0g_0, a0g_1, a0g_2, a0g_3, a0g_4, a0g_5, a0g_6, a0g_7, a0g_8, a0g_9, a0g_10, a0g_11, a0g_12, a0g_13, a0g_14, a0g_15, a0g_16, Value.ref a0_17, a0g_18, Value.ref a0_19, a0g_20, Value.int a0_21, a0g_22, a0g_23, a0g_24, a0g_25, a0g_26, a0g_27, a0g_28, a0g_29, a0g_30, a0g_31, a0g_32, a0g_33, a0g_34, a0g_35, a0g_36, a0g_37, a0g_38, a0g_39])), (a0_17, .inl (ka0_17, 23, .inl (fa0_17))), (a0_19, .inl (ka0_19, 368, .inl (f32)))]) hP hD rfl
          have bf32 : (md_S f32) := by rw [ef32]; exact md_sh bj11a0_19_a ex31 (by omega) bj11l1_l
          have fqf32 := fl_up_eq ef32
          have hF1 := hF1.trans (fl_lt_eq (show (fl_A f32) = fl_up (fl_A j11a0_19_a) (j11l1.toInt.toNat) x31.toInt from fqf32))
          obtain ⟨x33, ex33⟩ : ∃ y : Int32, y = j11l1 + Int32.ofInt 1 := ⟨_, rfl⟩
          have qx33 : x33.toInt = j11l1.toInt + 1 := ai_inc ex33 (by decide) (by decide) u15f_j11l1 (by decide)
          have bx33 : (1 : Int) ≤ x33.toInt ∧ x33.toInt ≤ 345 := ⟨by rw [qx33]; exact Int.add_le_add bj11l1_l (Int.le_refl _), by rw [qx33]; exact Int.add_le_add u15f_j11l1 (Int.le_refl _)⟩
          refine lv_iinc (v := x33) (lv' := [(1, .int x33), (0, .ref a0)]) hx hb dX8_note_33 hl (k := 1) rfl ex33.symm (by decide) rfl (fun ls hl => ?_)
          have hF1 := hF1.trans (fl_lt_eq (show x33.toInt = j11l1.toInt + 1 from qx33))
          refine lv_goto (tgt := 11) hx hb dX8_note_36 (by decide) ?_
          exact (hK0 _ _ _).mp (ih11 x33 f32 _ _ _ (by have h0 := qx33; omega) (Int.le_trans zq4 bx33.1) bx33.2 bf32 (hF0.trans (fl_wh_l (hSX11.trans hF1))) hP hD hS (lv_sub hl [1, 0] rfl))
    exact (hK0 _ _ _).mp (J11 346 0 fa0_19 _ _ _ (by have h1 : (0 : Int) ≤ (0 : Int32).toInt := zq5; have h2 : (0 : Int32).toInt ≤ (0 : Int) := zq6; omega) zq5 (Int.le_trans zq6 zq213) bfa0_19 (by rw [show (0 : Int32).toInt = 0 from by decide]; exact hF0) hP hD hS (lv_sub hl [1, 0] rfl))

set_option maxHeartbeats 4000000 in
set_option maxRecDepth 100000 in
theorem f_X8_isFigure (l : Launch) (dC : Nat → ClassId) (dI : Nat → Nat → Nat) (sz : Nat) (a0 : Nat) (a1 : Int32) (a0g_0 a0g_1 a0g_2 a0g_3 a0g_4 a0g_5 a0g_6 a0g_7 a0g_8 a0g_9 a0g_10 a0g_11 a0g_12 a0g_13 a0g_16 a0g_17 a0g_18 a0g_19 a0g_20 a0g_21 a0g_22 a0g_23 a0g_24 a0g_25 a0g_26 a0g_27 a0g_28 a0g_29 a0g_30 a0g_31 a0g_32 a0g_33 a0g_34 a0g_35 a0g_36 a0g_37 a0g_38 a0g_39 : Value) (a0_14 : Int32) (a0_15 : Nat) (ka0_15 : ClassId) (fa0_15 : Nat → Int32) (ba0_14_l : (1 : Int) ≤ a0_14.toInt) (ba0_14_u : a0_14.toInt ≤ (1 : Int)) (bfa0_15 : ((∀ k : Nat, 0 ≤ k → k ≤ 0 → (2 : Int) ≤ (fa0_15 k).toInt ∧ (fa0_15 k).toInt ≤ 9) ∧ (∀ k : Nat, 1 ≤ k → k ≤ 1 → (1 : Int) ≤ (fa0_15 k).toInt ∧ (fa0_15 k).toInt ≤ 20) ∧ (∀ k : Nat, 2 ≤ k → k ≤ 2 → (0 : Int) ≤ (fa0_15 k).toInt ∧ (fa0_15 k).toInt ≤ 8) ∧ (∀ k : Nat, 3 ≤ k → k ≤ 3 → (0 : Int) ≤ (fa0_15 k).toInt ∧ (fa0_15 k).toInt ≤ 100) ∧ (∀ k : Nat, 4 ≤ k → k ≤ 4 → (0 : Int) ≤ (fa0_15 k).toInt ∧ (fa0_15 k).toInt ≤ 9) ∧ (∀ k : Nat, 5 ≤ k → k ≤ 5 → (0 : Int) ≤ (fa0_15 k).toInt ∧ (fa0_15 k).toInt ≤ 3) ∧ (∀ k : Nat, 6 ≤ k → k ≤ 6 → (0 : Int) ≤ (fa0_15 k).toInt ∧ (fa0_15 k).toInt ≤ 6) ∧ (∀ k : Nat, 7 ≤ k → k ≤ 9 → (0 : Int) ≤ (fa0_15 k).toInt ∧ (fa0_15 k).toInt ≤ 8) ∧ (∀ k : Nat, 12 ≤ k → k ≤ 29 → (0 : Int) ≤ (fa0_15 k).toInt ∧ (fa0_15 k).toInt ≤ 20) ∧ (∀ k : Nat, 30 ≤ k → k ≤ 35 → (0 : Int) ≤ (fa0_15 k).toInt ∧ (fa0_15 k).toInt ≤ 8) ∧ (∀ k : Nat, 36 ≤ k → k ≤ 47 → (0 : Int) ≤ (fa0_15 k).toInt ∧ (fa0_15 k).toInt ≤ 999))) : Met l yX8_isFigure wsX8_isFigure ({ frames := 1, cells := 0, slots := 0, locals := 22 }) (va_Pc [.ref a0, .int a1] (ax_C dC dI sz [(a0, .inr (8, [a0g_0, a0g_1, a0g_2, a0g_3, a0g_4, a0g_5, a0g_6, a0g_7, a0g_8, a0g_9, a0g_10, a0g_11, a0g_12, a0g_13, Value.int a0_14, Value.ref a0_15, a0g_16, a0g_17, a0g_18, a0g_19, a0g_20, a0g_21, a0g_22, a0g_23, a0g_24, a0g_25, a0g_26, a0g_27, a0g_28, a0g_29, a0g_30, a0g_31, a0g_32, a0g_33, a0g_34, a0g_35, a0g_36, a0g_37, a0g_38, a0g_39])), (a0_15, .inl (ka0_15, 156, .inl (fa0_15)))] [(ka0_15, .int)] (fun _ => True))) (va_Qi (fun (r : Int32) (_ : Unit) => ((r = 1 ∧ (0 : Int) ≤ a1.toInt ∧ a1.toInt ≤ (8 : Int)) ∨ (r = 0)) ∧ r.toInt = Ff_X8_isFigure a1.toInt a0_14.toInt (fl_A fa0_15)) (fun (_ : Unit) (t : State) => ax_B dC dI (va_A [(a0, .inr (8, [a0g_0, a0g_1, a0g_2, a0g_3, a0g_4, a0g_5, a0g_6, a0g_7, a0g_8, a0g_9, a0g_10, a0g_11, a0g_12, a0g_13, Value.int a0_14, Value.ref a0_15, a0g_16, a0g_17, a0g_18, a0g_19, a0g_20, a0g_21, a0g_22, a0g_23, a0g_24, a0g_25, a0g_26, a0g_27, a0g_28, a0g_29, a0g_30, a0g_31, a0g_32, a0g_33, a0g_34, a0g_35, a0g_36, a0g_37, a0g_38, a0g_39])), (a0_15, .inl (ka0_15, 156, .inl (fa0_15)))] sz) [(a0, .inr (8, [a0g_0, a0g_1, a0g_2, a0g_3, a0g_4, a0g_5, a0g_6, a0g_7, a0g_8, a0g_9, a0g_10, a0g_11, a0g_12, a0g_13, Value.int a0_14, Value.ref a0_15, a0g_16, a0g_17, a0g_18, a0g_19, a0g_20, a0g_21, a0g_22, a0g_23, a0g_24, a0g_25, a0g_26, a0g_27, a0g_28, a0g_29, a0g_30, a0g_31, a0g_32, a0g_33, a0g_34, a0g_35, a0g_36, a0g_37, a0g_38, a0g_39])), (a0_15, .inl (ka0_15, 156, .inl (fa0_15)))] [(ka0_15, .int)] t) (va_A [(a0, .inr (8, [a0g_0, a0g_1, a0g_2, a0g_3, a0g_4, a0g_5, a0g_6, a0g_7, a0g_8, a0g_9, a0g_10, a0g_11, a0g_12, a0g_13, Value.int a0_14, Value.ref a0_15, a0g_16, a0g_17, a0g_18, a0g_19, a0g_20, a0g_21, a0g_22, a0g_23, a0g_24, a0g_25, a0g_26, a0g_27, a0g_28, a0g_29, a0g_30, a0g_31, a0g_32, a0g_33, a0g_34, a0g_35, a0g_36, a0g_37, a0g_38, a0g_39])), (a0_15, .inl (ka0_15, 156, .inl (fa0_15)))] sz)) 0 0 (va_A [(a0, .inr (8, [a0g_0, a0g_1, a0g_2, a0g_3, a0g_4, a0g_5, a0g_6, a0g_7, a0g_8, a0g_9, a0g_10, a0g_11, a0g_12, a0g_13, Value.int a0_14, Value.ref a0_15, a0g_16, a0g_17, a0g_18, a0g_19, a0g_20, a0g_21, a0g_22, a0g_23, a0g_24, a0g_25, a0g_26, a0g_27, a0g_28, a0g_29, a0g_30, a0g_31, a0g_32, a0g_33, a0g_34, a0g_35, a0g_36, a0g_37, a0g_38, a0g_39])), (a0_15, .inl (ka0_15, 156, .inl (fa0_15)))] sz) := by
  refine Met.ofW (cc := cX8_isFigure) (maxL := 2) (ret := (some .boolean)) (by decide) rfl ?_
  intro p e s m args below meth c s₁ B hml hv
  obtain ⟨rfl, hsz, hP, hK, hD0, hE⟩ := hv
  have hx := B.exec
  have hb := B.bytes
  have hr := B.returns
  have hts := atoms_spec (ws := wsX8_isFigure) B.pre
  have hown : s.vm.findClass RX8 = some m.cls := findClass_of_methodNamed B.named
  have hlocks := B.notSynchronized
  subst hsz
  have hD := hD0.self (sz := s.heap.size)
  generalize hAe : va_A [(a0, .inr (8, [a0g_0, a0g_1, a0g_2, a0g_3, a0g_4, a0g_5, a0g_6, a0g_7, a0g_8, a0g_9, a0g_10, a0g_11, a0g_12, a0g_13, Value.int a0_14, Value.ref a0_15, a0g_16, a0g_17, a0g_18, a0g_19, a0g_20, a0g_21, a0g_22, a0g_23, a0g_24, a0g_25, a0g_26, a0g_27, a0g_28, a0g_29, a0g_30, a0g_31, a0g_32, a0g_33, a0g_34, a0g_35, a0g_36, a0g_37, a0g_38, a0g_39])), (a0_15, .inl (ka0_15, 156, .inl (fa0_15)))] s.heap.size = A at hD ⊢
  have hA : ∀ q : Nat, s.heap.size ≤ q → A q := fun q h => by rw [← hAe]; exact Or.inr h
  have hS : va_S A s.heap s.heap [] := va_S.rf
  have hP : va_P (dC, dI) vwCl [(a0, .inr (8, [a0g_0, a0g_1, a0g_2, a0g_3, a0g_4, a0g_5, a0g_6, a0g_7, a0g_8, a0g_9, a0g_10, a0g_11, a0g_12, a0g_13, Value.int a0_14, Value.ref a0_15, a0g_16, a0g_17, a0g_18, a0g_19, a0g_20, a0g_21, a0g_22, a0g_23, a0g_24, a0g_25, a0g_26, a0g_27, a0g_28, a0g_29, a0g_30, a0g_31, a0g_32, a0g_33, a0g_34, a0g_35, a0g_36, a0g_37, a0g_38, a0g_39])), (a0_15, .inl (ka0_15, 156, .inl (fa0_15)))] s.heap := hP
  have hl := lv_entry ([.ref a0, .int a1]) (n := 2) (Nat.le_of_ble_eq_true rfl)
  rw [lg_entry_eq]
  generalize (lg_sl ([.ref a0, .int a1]) ++ List.replicate (2 - (lg_sl ([.ref a0, .int a1])).length) Slot.unset).toArray = ls at hl ⊢
  have hl : lv_has ls 2 [(0, .ref a0), (1, .int a1)] := hl
  generalize hFX : Ff_X8_isFigure a1.toInt a0_14.toInt (fl_A fa0_15) = FX at ⊢
  have hF0 := hFX.symm.trans (Ff_X8_isFigure.eq_1 a1.toInt a0_14.toInt (fl_A fa0_15))
  refine lv_aload_n hx hb dX8_isFigure_0 rfl (lv_at hl 0 rfl) ?_
  refine va_get (D := (dC, dI)) (ci := 8) (v := .int a0_14) (C := RX8) (T := TX8) (N := 40) hx hb hts zi_X8_isFigure_8 hown hK hP 0 rfl rfl 14 (by decide) (hts (.fieldLink RX8 173 "WaxTurnsModel" "hasGallery" "Z") (List.mem_cons_of_mem _ (List.mem_append_left _ (List.mem_of_getElem? (i := 0) rfl)))) (fun _ h9 => h9) rfl dX8_isFigure_1 ?_
  refine lv_if_eq (tgt := 27) hx hb dX8_isFigure_4 (by decide) (fun c4 => ?_) (fun c4 => ?_)
  · have gc4 := ai_eq c4
    have u4t_a0_14 : a0_14.toInt ≤ (0 : Int) := Int.le_trans (Int.le_of_eq gc4) zq6
    have l4t_a0_14 : (1 : Int) ≤ a0_14.toInt := ba0_14_l
    exact absurd (Int.le_trans l4t_a0_14 u4t_a0_14) (by decide)
  · have gc4 := ai_ne c4
    have hF0 := hF0.trans (if_neg (show ¬ (a0_14.toInt = 0) from  gc4))
    refine lv_iload_n hx hb dX8_isFigure_7 rfl (lv_at hl 1 rfl) ?_
    refine lv_iconst (v := 0) hx hb dX8_isFigure_8 zk_iconst_0 ?_
    refine lv_aload_n hx hb dX8_isFigure_9 rfl (lv_at hl 0 rfl) ?_
    refine va_get (D := (dC, dI)) (ci := 8) (v := .ref a0_15) (C := RX8) (T := TX8) (N := 40) hx hb hts zi_X8_isFigure_8 hown hK hP 0 rfl rfl 15 (by decide) (hts (.fieldLink RX8 20 "WaxTurnsModel" "\x72" "[I") (List.mem_cons_of_mem _ (List.mem_append_left _ (List.mem_of_getElem? (i := 1) rfl)))) (fun _ h9 => h9) rfl dX8_isFigure_10 ?_
    refine lv_iconst (v := 0) hx hb dX8_isFigure_13 zk_iconst_0 ?_
    refine va_iald hx hb hK hP 1 0 rfl rfl (by unfold vp_in; decide +kernel) dX8_isFigure_14 ?_
    refine lv_topi (fun x14 ex14 => ?_)
    have bx14 : (2 : Int) ≤ x14.toInt ∧ x14.toInt ≤ 9 := by rw [ex14]; exact ai_rd bfa0_15.1 zq5 zq6 (by decide) (by decide) (by decide)
    have fqx14 := congrArg Int32.toInt ex14
    have hF0 := hF0.trans (fl_lt_eq (show x14.toInt = (fl_A fa0_15) (0) from fqx14))
    refine lv_iconst (v := 1) hx hb dX8_isFigure_15 zk_iconst_1 ?_
    refine lv_isub hx hb dX8_isFigure_16 ?_
    refine lv_topi (fun x16 ex16 => ?_)
    have qx16 : x16.toInt = x14.toInt - (1 : Int32).toInt := ai_sub ex16 ⟨bx14.1, bx14.2⟩ ⟨zq1, zq0⟩ (by decide) (by decide)
    have bx16 : (1 : Int) ≤ x16.toInt ∧ x16.toInt ≤ 8 := ⟨by rw [qx16]; exact Int.sub_le_sub bx14.1 zq0, by rw [qx16]; exact Int.sub_le_sub bx14.2 zq1⟩
    have wx16 : x16.toInt = x14.toInt - 1 := qx16
    have hF0 := hF0.trans (fl_lt_eq (show x16.toInt = x14.toInt - 1 from qx16))
    obtain ⟨hPc, hDc, hFc, hCc⟩ := zc_cut (wc := []) hP hD hS hA [] (by decide +kernel) rfl
    have hKc := hK.sub (tys' := []) [] rfl
    refine va_calli (va_runS (As := [.int a1, .int 0, .int x16]) (rest := []) ⟨hx, hb, hml, hown, hts⟩ (f_X8_in l dC dI s.heap.size a1 0 x16 ) (va_cwS 3 hts gX8_isFigure_X8_in rfl rfl rfl zd_X8_in.2 ⟨Nat.le_of_ble_eq_true rfl, Nat.le_of_ble_eq_true rfl⟩) ⟨ax_blind (fun _ _ _ _ _ => trivial), ax_pre hPc hKc hDc (fun _ _ => trivial)⟩ rfl rfl hl.1 rfl (lv_room (Nat.le_of_ble_eq_true rfl)) dX8_isFigure_17 ⟨Nat.le_of_ble_eq_true rfl, Nat.le_of_ble_eq_true rfl⟩) hS (fun q _ h => hFc q h) hFc (fun r17 u t H locs ht hvm hw hB hz1 hk1 hS => ?_)
    obtain ⟨hP1, hK1, hD1⟩ := hB
    rw [ht] at hP1
    obtain ⟨hP, hD⟩ := zc_back (w := [(a0, .inr (8, [a0g_0, a0g_1, a0g_2, a0g_3, a0g_4, a0g_5, a0g_6, a0g_7, a0g_8, a0g_9, a0g_10, a0g_11, a0g_12, a0g_13, Value.int a0_14, Value.ref a0_15, a0g_16, a0g_17, a0g_18, a0g_19, a0g_20, a0g_21, a0g_22, a0g_23, a0g_24, a0g_25, a0g_26, a0g_27, a0g_28, a0g_29, a0g_30, a0g_31, a0g_32, a0g_33, a0g_34, a0g_35, a0g_36, a0g_37, a0g_38, a0g_39])), (a0_15, .inl (ka0_15, 156, .inl (fa0_15)))]) hP hD hCc hk1 hFc hP1 hD1 [.inl 0, .inl 1] (by decide +kernel) rfl
    obtain ⟨hw, hfr17⟩ := hw
    rw [show (0 : Int32).toInt = 0 from by decide] at hfr17
    have hc17 : Ff_X8_in a1.toInt 0 x16.toInt = r17.toInt := hfr17.symm
    have hF0 := hF0.trans (fl_lt_eq hc17.symm)
    rcases hw with hw | hw
    · obtain ⟨hw, h17⟩ := hw
      subst hw
      have l17k0_a1 : (0 : Int) ≤ a1.toInt := Int.le_trans zq5 h17.1
      have u17k0_a1 : a1.toInt ≤ (8 : Int) := Int.le_trans h17.2 bx16.2
      have l17k0_x16 : (1 : Int) ≤ x16.toInt := bx16.1
      have hF0 := hF0.trans (if_pos (by decide))
      refine lv_if_eq (tgt := 27) hx hb dX8_isFigure_20 (by decide) (fun c20 => absurd c20 (by decide +kernel)) (fun _ => ?_)
      refine lv_iconst (v := 1) hx hb dX8_isFigure_23 zk_iconst_1 ?_
      refine lv_goto (tgt := 28) hx hb dX8_isFigure_24 (by decide) ?_
      have hFe : FX = 1 := hF0
      exact W.zret (v := 1) hx hb hr rfl (fun t ht hW => ⟨⟨1, (), rfl, ⟨(Or.inl ⟨rfl, l17k0_a1, u17k0_a1⟩), hFe.symm⟩, by rw [ht]; exact hP, va_K.moved hW.alike hK, hD⟩, hS.F ht⟩) hS.2.2 dX8_isFigure_28
    · obtain ⟨hw, h17⟩ := hw
      subst hw
      have hF0 := hF0.trans (if_neg (by decide))
      refine lv_if_eq (tgt := 27) hx hb dX8_isFigure_20 (by decide) (fun _ => ?_) (fun c20 => absurd (by decide +kernel) c20)
      refine lv_iconst (v := 0) hx hb dX8_isFigure_27 zk_iconst_0 ?_
      have hFe : FX = 0 := hF0
      exact W.zret (v := 0) hx hb hr rfl (fun t ht hW => ⟨⟨0, (), rfl, ⟨(Or.inr (rfl)), hFe.symm⟩, by rw [ht]; exact hP, va_K.moved hW.alike hK, hD⟩, hS.F ht⟩) hS.2.2 dX8_isFigure_28

set_option maxHeartbeats 4000000 in
set_option maxRecDepth 100000 in
theorem f_X8_why (l : Launch) (dC : Nat → ClassId) (dI : Nat → Nat → Nat) (sz : Nat) (a0 : Nat) (a1 : Int32) (a2 : Int32) (a0g_0 a0g_1 a0g_2 a0g_3 a0g_4 a0g_5 a0g_6 a0g_7 a0g_8 a0g_9 a0g_10 a0g_11 a0g_12 a0g_13 a0g_14 a0g_15 a0g_16 a0g_17 a0g_18 a0g_19 a0g_20 a0g_21 a0g_22 a0g_23 a0g_24 a0g_25 a0g_26 a0g_27 a0g_28 a0g_29 a0g_30 a0g_31 a0g_32 a0g_33 a0g_34 a0g_35 a0g_36 a0g_37 a0g_38 a0g_39 : Value) (ba1_l : (0 : Int) ≤ a1.toInt) (ba1_u : a1.toInt ≤ (1 : Int)) (ba2_l : (0 : Int) ≤ a2.toInt) (ba2_u : a2.toInt ≤ (1 : Int)) : Met l yX8_why wsX8_why ({ frames := 0, cells := 0, slots := 0, locals := 0 }) (va_Pc [.ref a0, .int a1, .int a2] (ax_C dC dI sz [(a0, .inr (8, [a0g_0, a0g_1, a0g_2, a0g_3, a0g_4, a0g_5, a0g_6, a0g_7, a0g_8, a0g_9, a0g_10, a0g_11, a0g_12, a0g_13, a0g_14, a0g_15, a0g_16, a0g_17, a0g_18, a0g_19, a0g_20, a0g_21, a0g_22, a0g_23, a0g_24, a0g_25, a0g_26, a0g_27, a0g_28, a0g_29, a0g_30, a0g_31, a0g_32, a0g_33, a0g_34, a0g_35, a0g_36, a0g_37, a0g_38, a0g_39]))] [] (fun _ => True))) (va_Qi (fun (r : Int32) (_ : Unit) => ((r = 2 ∧ (1 : Int) ≤ a1.toInt ∧ a1.toInt ≤ (1 : Int) ∧ (0 : Int) ≤ a2.toInt ∧ a2.toInt ≤ (0 : Int)) ∨ (r = 1 ∧ (0 : Int) ≤ a1.toInt ∧ a1.toInt ≤ (0 : Int)) ∨ (r = 0 ∧ (1 : Int) ≤ a1.toInt ∧ a1.toInt ≤ (1 : Int) ∧ (1 : Int) ≤ a2.toInt ∧ a2.toInt ≤ (1 : Int))) ∧ r.toInt = Ff_X8_why a1.toInt a2.toInt) (fun (_ : Unit) (t : State) => ax_B dC dI (va_A [(a0, .inr (8, [a0g_0, a0g_1, a0g_2, a0g_3, a0g_4, a0g_5, a0g_6, a0g_7, a0g_8, a0g_9, a0g_10, a0g_11, a0g_12, a0g_13, a0g_14, a0g_15, a0g_16, a0g_17, a0g_18, a0g_19, a0g_20, a0g_21, a0g_22, a0g_23, a0g_24, a0g_25, a0g_26, a0g_27, a0g_28, a0g_29, a0g_30, a0g_31, a0g_32, a0g_33, a0g_34, a0g_35, a0g_36, a0g_37, a0g_38, a0g_39]))] sz) [(a0, .inr (8, [a0g_0, a0g_1, a0g_2, a0g_3, a0g_4, a0g_5, a0g_6, a0g_7, a0g_8, a0g_9, a0g_10, a0g_11, a0g_12, a0g_13, a0g_14, a0g_15, a0g_16, a0g_17, a0g_18, a0g_19, a0g_20, a0g_21, a0g_22, a0g_23, a0g_24, a0g_25, a0g_26, a0g_27, a0g_28, a0g_29, a0g_30, a0g_31, a0g_32, a0g_33, a0g_34, a0g_35, a0g_36, a0g_37, a0g_38, a0g_39]))] [] t) (va_A [(a0, .inr (8, [a0g_0, a0g_1, a0g_2, a0g_3, a0g_4, a0g_5, a0g_6, a0g_7, a0g_8, a0g_9, a0g_10, a0g_11, a0g_12, a0g_13, a0g_14, a0g_15, a0g_16, a0g_17, a0g_18, a0g_19, a0g_20, a0g_21, a0g_22, a0g_23, a0g_24, a0g_25, a0g_26, a0g_27, a0g_28, a0g_29, a0g_30, a0g_31, a0g_32, a0g_33, a0g_34, a0g_35, a0g_36, a0g_37, a0g_38, a0g_39]))] sz)) 0 0 (va_A [(a0, .inr (8, [a0g_0, a0g_1, a0g_2, a0g_3, a0g_4, a0g_5, a0g_6, a0g_7, a0g_8, a0g_9, a0g_10, a0g_11, a0g_12, a0g_13, a0g_14, a0g_15, a0g_16, a0g_17, a0g_18, a0g_19, a0g_20, a0g_21, a0g_22, a0g_23, a0g_24, a0g_25, a0g_26, a0g_27, a0g_28, a0g_29, a0g_30, a0g_31, a0g_32, a0g_33, a0g_34, a0g_35, a0g_36, a0g_37, a0g_38, a0g_39]))] sz) := by
  refine Met.ofW (cc := cX8_why) (maxL := 3) (ret := (some .int)) (by decide) rfl ?_
  intro p e s m args below meth c s₁ B hml hv
  obtain ⟨rfl, hsz, hP, hK, hD0, hE⟩ := hv
  have hx := B.exec
  have hb := B.bytes
  have hr := B.returns
  have hts := atoms_spec (ws := wsX8_why) B.pre
  have hown : s.vm.findClass RX8 = some m.cls := findClass_of_methodNamed B.named
  have hlocks := B.notSynchronized
  subst hsz
  have hD := hD0.self (sz := s.heap.size)
  generalize hAe : va_A [(a0, .inr (8, [a0g_0, a0g_1, a0g_2, a0g_3, a0g_4, a0g_5, a0g_6, a0g_7, a0g_8, a0g_9, a0g_10, a0g_11, a0g_12, a0g_13, a0g_14, a0g_15, a0g_16, a0g_17, a0g_18, a0g_19, a0g_20, a0g_21, a0g_22, a0g_23, a0g_24, a0g_25, a0g_26, a0g_27, a0g_28, a0g_29, a0g_30, a0g_31, a0g_32, a0g_33, a0g_34, a0g_35, a0g_36, a0g_37, a0g_38, a0g_39]))] s.heap.size = A at hD ⊢
  have hA : ∀ q : Nat, s.heap.size ≤ q → A q := fun q h => by rw [← hAe]; exact Or.inr h
  have hS : va_S A s.heap s.heap [] := va_S.rf
  have hP : va_P (dC, dI) vwCl [(a0, .inr (8, [a0g_0, a0g_1, a0g_2, a0g_3, a0g_4, a0g_5, a0g_6, a0g_7, a0g_8, a0g_9, a0g_10, a0g_11, a0g_12, a0g_13, a0g_14, a0g_15, a0g_16, a0g_17, a0g_18, a0g_19, a0g_20, a0g_21, a0g_22, a0g_23, a0g_24, a0g_25, a0g_26, a0g_27, a0g_28, a0g_29, a0g_30, a0g_31, a0g_32, a0g_33, a0g_34, a0g_35, a0g_36, a0g_37, a0g_38, a0g_39]))] s.heap := hP
  have hl := lv_entry ([.ref a0, .int a1, .int a2]) (n := 3) (Nat.le_of_ble_eq_true rfl)
  rw [lg_entry_eq]
  generalize (lg_sl ([.ref a0, .int a1, .int a2]) ++ List.replicate (3 - (lg_sl ([.ref a0, .int a1, .int a2])).length) Slot.unset).toArray = ls at hl ⊢
  have hl : lv_has ls 3 [(0, .ref a0), (1, .int a1), (2, .int a2)] := hl
  generalize hFX : Ff_X8_why a1.toInt a2.toInt = FX at ⊢
  have hF0 := hFX.symm.trans (Ff_X8_why.eq_1 a1.toInt a2.toInt)
  refine lv_iload_n hx hb dX8_why_0 rfl (lv_at hl 1 rfl) ?_
  refine lv_if_ne (tgt := 8) hx hb dX8_why_1 (by decide) (fun c1 => ?_) (fun c1 => ?_)
  · have gc1 := ai_ne c1
    have l1t_a1 : (1 : Int) ≤ a1.toInt := (by have h1 := ba1_l; have h2 : (0 : Int32).toInt = 0 := (by decide); rw [h2] at gc1; omega)
    have hF0 := hF0.trans (if_neg (show ¬ (a1.toInt = 0) from  gc1))
    refine lv_iload_n hx hb dX8_why_8 rfl (lv_at hl 2 rfl) ?_
    refine lv_if_eq (tgt := 16) hx hb dX8_why_9 (by decide) (fun c9 => ?_) (fun c9 => ?_)
    · have gc9 := ai_eq c9
      have u9t_a2 : a2.toInt ≤ (0 : Int) := Int.le_trans (Int.le_of_eq gc9) zq6
      have l9t_a2 : (0 : Int) ≤ a2.toInt := ba2_l
      have hF0 := hF0.trans (if_pos (show a2.toInt = 0 from gc9))
      refine lv_iconst (v := 2) hx hb dX8_why_16 zk_iconst_2 ?_
      have hFe : FX = 2 := hF0
      exact W.iret (v := 2) hx hb hr (fun t ht hW => ⟨⟨2, (), rfl, ⟨(Or.inl ⟨rfl, l1t_a1, ba1_u, l9t_a2, u9t_a2⟩), hFe.symm⟩, by rw [ht]; exact hP, va_K.moved hW.alike hK, hD⟩, hS.F ht⟩) hS.2.2 dX8_why_17
    · have gc9 := ai_ne c9
      have l9f_a2 : (1 : Int) ≤ a2.toInt := (by have h1 := ba2_l; have h2 : (0 : Int32).toInt = 0 := (by decide); rw [h2] at gc9; omega)
      have hF0 := hF0.trans (if_neg (show ¬ (a2.toInt = 0) from  gc9))
      refine lv_iconst (v := 0) hx hb dX8_why_12 zk_iconst_0 ?_
      refine lv_goto (tgt := 17) hx hb dX8_why_13 (by decide) ?_
      have hFe : FX = 0 := hF0
      exact W.iret (v := 0) hx hb hr (fun t ht hW => ⟨⟨0, (), rfl, ⟨(Or.inr (Or.inr (⟨rfl, l1t_a1, ba1_u, l9f_a2, ba2_u⟩))), hFe.symm⟩, by rw [ht]; exact hP, va_K.moved hW.alike hK, hD⟩, hS.F ht⟩) hS.2.2 dX8_why_17
  · have gc1 := ai_eq c1
    have u1f_a1 : a1.toInt ≤ (0 : Int) := Int.le_trans (Int.le_of_eq gc1) zq6
    have l1f_a1 : (0 : Int) ≤ a1.toInt := ba1_l
    have hF0 := hF0.trans (if_pos (show a1.toInt = 0 from gc1))
    refine lv_iconst (v := 1) hx hb dX8_why_4 zk_iconst_1 ?_
    refine lv_goto (tgt := 17) hx hb dX8_why_5 (by decide) ?_
    have hFe : FX = 1 := hF0
    exact W.iret (v := 1) hx hb hr (fun t ht hW => ⟨⟨1, (), rfl, ⟨(Or.inr (Or.inl ⟨rfl, l1f_a1, u1f_a1⟩)), hFe.symm⟩, by rw [ht]; exact hP, va_K.moved hW.alike hK, hD⟩, hS.F ht⟩) hS.2.2 dX8_why_17

set_option maxHeartbeats 4000000 in
set_option maxRecDepth 100000 in
theorem f_X8_go (l : Launch) (dC : Nat → ClassId) (dI : Nat → Nat → Nat) (sz : Nat) (a0 : Nat) (a1 : Int32) (a0_0 : Int32) (a0g_1 a0g_2 a0g_3 a0g_4 a0g_5 a0g_6 a0g_7 a0g_8 a0g_9 a0g_10 a0g_12 a0g_13 a0g_16 a0g_18 a0g_20 a0g_22 a0g_29 a0g_30 a0g_31 a0g_32 a0g_33 a0g_34 a0g_35 a0g_36 a0g_37 a0g_38 a0g_39 : Value) (a0_11 : Int32) (a0_14 : Int32) (a0_15 : Nat) (a0_17 : Nat) (a0_19 : Nat) (a0_21 : Int32) (a0_23 : Nat) (a0_24 : Nat) (a0_25 : Int32) (a0_26 : Int32) (a0_27 : Int32) (a0_28 : Int32) (ka0_17 : ClassId) (fa0_17 : Nat → Int32) (ka0_19 : ClassId) (fa0_19 : Nat → Int32) (ka0_15 : ClassId) (fa0_15 : Nat → Int32) (ka0_23 : ClassId) (fa0_23 : Nat → Int32) (ka0_24 : ClassId) (fa0_24 : Nat → Int32) (ba0_14_l : (1 : Int) ≤ a0_14.toInt) (ba0_14_u : a0_14.toInt ≤ (1 : Int)) (ba0_21_l : (0 : Int) ≤ a0_21.toInt) (ba0_21_u : a0_21.toInt ≤ (16 : Int)) (bfa0_17 : ((∀ k : Nat, 0 ≤ k → k ≤ 8 → (0 : Int) ≤ (fa0_17 k).toInt ∧ (fa0_17 k).toInt ≤ 8) ∧ (∀ k : Nat, 19 ≤ k → k ≤ 19 → (0 : Int) ≤ (fa0_17 k).toInt ∧ (fa0_17 k).toInt ≤ 8) ∧ (∀ k : Nat, 20 ≤ k → k ≤ 20 → (0 : Int) ≤ (fa0_17 k).toInt ∧ (fa0_17 k).toInt ≤ 19))) (bfa0_19 : (md_S fa0_19)) (bfa0_15 : ((∀ k : Nat, 0 ≤ k → k ≤ 0 → (2 : Int) ≤ (fa0_15 k).toInt ∧ (fa0_15 k).toInt ≤ 9) ∧ (∀ k : Nat, 1 ≤ k → k ≤ 1 → (1 : Int) ≤ (fa0_15 k).toInt ∧ (fa0_15 k).toInt ≤ 20) ∧ (∀ k : Nat, 2 ≤ k → k ≤ 2 → (0 : Int) ≤ (fa0_15 k).toInt ∧ (fa0_15 k).toInt ≤ 8) ∧ (∀ k : Nat, 3 ≤ k → k ≤ 3 → (0 : Int) ≤ (fa0_15 k).toInt ∧ (fa0_15 k).toInt ≤ 100) ∧ (∀ k : Nat, 4 ≤ k → k ≤ 4 → (0 : Int) ≤ (fa0_15 k).toInt ∧ (fa0_15 k).toInt ≤ 9) ∧ (∀ k : Nat, 5 ≤ k → k ≤ 5 → (0 : Int) ≤ (fa0_15 k).toInt ∧ (fa0_15 k).toInt ≤ 3) ∧ (∀ k : Nat, 6 ≤ k → k ≤ 6 → (0 : Int) ≤ (fa0_15 k).toInt ∧ (fa0_15 k).toInt ≤ 6) ∧ (∀ k : Nat, 7 ≤ k → k ≤ 9 → (0 : Int) ≤ (fa0_15 k).toInt ∧ (fa0_15 k).toInt ≤ 8) ∧ (∀ k : Nat, 12 ≤ k → k ≤ 29 → (0 : Int) ≤ (fa0_15 k).toInt ∧ (fa0_15 k).toInt ≤ 20) ∧ (∀ k : Nat, 30 ≤ k → k ≤ 35 → (0 : Int) ≤ (fa0_15 k).toInt ∧ (fa0_15 k).toInt ≤ 8) ∧ (∀ k : Nat, 36 ≤ k → k ≤ 47 → (0 : Int) ≤ (fa0_15 k).toInt ∧ (fa0_15 k).toInt ≤ 999))) (bfa0_23 : (∀ k, (0 : Int) ≤ (fa0_23 k).toInt ∧ (fa0_23 k).toInt ≤ 80)) (bfa0_24 : (∀ k, (0 : Int) ≤ (fa0_24 k).toInt ∧ (fa0_24 k).toInt ≤ 80)) (hkm : ∀ (j i0 i : Int32), (0 : Int) ≤ j.toInt → j.toInt ≤ 8 → i0.toInt = 12 + 2 * j.toInt → i.toInt = 13 + 2 * j.toInt → (fa0_15 i0.toNatClampNeg).toInt = (1 : Int32).toInt → (1 : Int) ≤ (fa0_15 i.toNatClampNeg).toInt) : Met l yX8_go wsX8_go ({ frames := 4, cells := 0, slots := 0, locals := 95 }) (va_Pc [.ref a0, .int a1] (ax_C dC dI sz [(a0, .inr (8, [Value.int a0_0, a0g_1, a0g_2, a0g_3, a0g_4, a0g_5, a0g_6, a0g_7, a0g_8, a0g_9, a0g_10, Value.int a0_11, a0g_12, a0g_13, Value.int a0_14, Value.ref a0_15, a0g_16, Value.ref a0_17, a0g_18, Value.ref a0_19, a0g_20, Value.int a0_21, a0g_22, Value.ref a0_23, Value.ref a0_24, Value.int a0_25, Value.int a0_26, Value.int a0_27, Value.int a0_28, a0g_29, a0g_30, a0g_31, a0g_32, a0g_33, a0g_34, a0g_35, a0g_36, a0g_37, a0g_38, a0g_39])), (a0_17, .inl (ka0_17, 23, .inl (fa0_17))), (a0_19, .inl (ka0_19, 368, .inl (fa0_19))), (a0_15, .inl (ka0_15, 156, .inl (fa0_15))), (a0_23, .inl (ka0_23, 3, .inl (fa0_23))), (a0_24, .inl (ka0_24, 3, .inl (fa0_24)))] [(ka0_17, .int), (ka0_19, .int), (ka0_15, .int), (ka0_23, .int), (ka0_24, .int)] (fun _ => True))) (va_Qi (fun (r : Int32) (_ : Unit) => (True) ∧ r.toInt = (Ff_X8_go a1.toInt a0_14.toInt a0_21.toInt a0_25.toInt a0_26.toInt a0_27.toInt a0_28.toInt (fl_A fa0_17) (fl_A fa0_19) (fl_A fa0_15) (fl_A fa0_23) (fl_A fa0_24)).1) (fun (_ : Unit) (t : State) => ∃ na0_0 : Int32, ∃ na0_11 : Int32, ∃ na0_21 : Int32, ∃ na0_25 : Int32, ∃ na0_26 : Int32, ∃ na0_27 : Int32, ∃ na0_28 : Int32, ∃ nfa0_17 : Nat → Int32, ∃ nfa0_19 : Nat → Int32, ∃ nfa0_23 : Nat → Int32, ∃ nfa0_24 : Nat → Int32, ((0 : Int) ≤ na0_21.toInt ∧ na0_21.toInt ≤ 16) ∧ ((∀ k : Nat, 0 ≤ k → k ≤ 8 → (0 : Int) ≤ (nfa0_17 k).toInt ∧ (nfa0_17 k).toInt ≤ 8) ∧ (∀ k : Nat, 19 ≤ k → k ≤ 19 → (0 : Int) ≤ (nfa0_17 k).toInt ∧ (nfa0_17 k).toInt ≤ 8) ∧ (∀ k : Nat, 20 ≤ k → k ≤ 20 → (0 : Int) ≤ (nfa0_17 k).toInt ∧ (nfa0_17 k).toInt ≤ 19)) ∧ (md_S nfa0_19) ∧ (∀ k, (0 : Int) ≤ (nfa0_23 k).toInt ∧ (nfa0_23 k).toInt ≤ 80) ∧ (∀ k, (0 : Int) ≤ (nfa0_24 k).toInt ∧ (nfa0_24 k).toInt ≤ 80) ∧ ((Ff_X8_go a1.toInt a0_14.toInt a0_21.toInt a0_25.toInt a0_26.toInt a0_27.toInt a0_28.toInt (fl_A fa0_17) (fl_A fa0_19) (fl_A fa0_15) (fl_A fa0_23) (fl_A fa0_24)).2 = (na0_0.toInt, na0_11.toInt, na0_21.toInt, na0_25.toInt, na0_26.toInt, na0_27.toInt, na0_28.toInt, (fl_A nfa0_17), (fl_A nfa0_19), (fl_A nfa0_23), (fl_A nfa0_24))) ∧ ax_B dC dI (va_A [(a0, .inr (8, [Value.int a0_0, a0g_1, a0g_2, a0g_3, a0g_4, a0g_5, a0g_6, a0g_7, a0g_8, a0g_9, a0g_10, Value.int a0_11, a0g_12, a0g_13, Value.int a0_14, Value.ref a0_15, a0g_16, Value.ref a0_17, a0g_18, Value.ref a0_19, a0g_20, Value.int a0_21, a0g_22, Value.ref a0_23, Value.ref a0_24, Value.int a0_25, Value.int a0_26, Value.int a0_27, Value.int a0_28, a0g_29, a0g_30, a0g_31, a0g_32, a0g_33, a0g_34, a0g_35, a0g_36, a0g_37, a0g_38, a0g_39])), (a0_17, .inl (ka0_17, 23, .inl (fa0_17))), (a0_19, .inl (ka0_19, 368, .inl (fa0_19))), (a0_15, .inl (ka0_15, 156, .inl (fa0_15))), (a0_23, .inl (ka0_23, 3, .inl (fa0_23))), (a0_24, .inl (ka0_24, 3, .inl (fa0_24)))] sz) [(a0, .inr (8, [Value.int na0_0, a0g_1, a0g_2, a0g_3, a0g_4, a0g_5, a0g_6, a0g_7, a0g_8, a0g_9, a0g_10, Value.int na0_11, a0g_12, a0g_13, Value.int a0_14, Value.ref a0_15, a0g_16, Value.ref a0_17, a0g_18, Value.ref a0_19, a0g_20, Value.int na0_21, a0g_22, Value.ref a0_23, Value.ref a0_24, Value.int na0_25, Value.int na0_26, Value.int na0_27, Value.int na0_28, a0g_29, a0g_30, a0g_31, a0g_32, a0g_33, a0g_34, a0g_35, a0g_36, a0g_37, a0g_38, a0g_39])), (a0_17, .inl (ka0_17, 23, .inl (nfa0_17))), (a0_19, .inl (ka0_19, 368, .inl (nfa0_19))), (a0_15, .inl (ka0_15, 156, .inl (fa0_15))), (a0_23, .inl (ka0_23, 3, .inl (nfa0_23))), (a0_24, .inl (ka0_24, 3, .inl (nfa0_24)))] [(ka0_17, .int), (ka0_19, .int), (ka0_15, .int), (ka0_23, .int), (ka0_24, .int)] t) (va_A [(a0, .inr (8, [Value.int a0_0, a0g_1, a0g_2, a0g_3, a0g_4, a0g_5, a0g_6, a0g_7, a0g_8, a0g_9, a0g_10, Value.int a0_11, a0g_12, a0g_13, Value.int a0_14, Value.ref a0_15, a0g_16, Value.ref a0_17, a0g_18, Value.ref a0_19, a0g_20, Value.int a0_21, a0g_22, Value.ref a0_23, Value.ref a0_24, Value.int a0_25, Value.int a0_26, Value.int a0_27, Value.int a0_28, a0g_29, a0g_30, a0g_31, a0g_32, a0g_33, a0g_34, a0g_35, a0g_36, a0g_37, a0g_38, a0g_39])), (a0_17, .inl (ka0_17, 23, .inl (fa0_17))), (a0_19, .inl (ka0_19, 368, .inl (fa0_19))), (a0_15, .inl (ka0_15, 156, .inl (fa0_15))), (a0_23, .inl (ka0_23, 3, .inl (fa0_23))), (a0_24, .inl (ka0_24, 3, .inl (fa0_24)))] sz)) 0 0 (va_A [(a0, .inr (8, [Value.int a0_0, a0g_1, a0g_2, a0g_3, a0g_4, a0g_5, a0g_6, a0g_7, a0g_8, a0g_9, a0g_10, Value.int a0_11, a0g_12, a0g_13, Value.int a0_14, Value.ref a0_15, a0g_16, Value.ref a0_17, a0g_18, Value.ref a0_19, a0g_20, Value.int a0_21, a0g_22, Value.ref a0_23, Value.ref a0_24, Value.int a0_25, Value.int a0_26, Value.int a0_27, Value.int a0_28, a0g_29, a0g_30, a0g_31, a0g_32, a0g_33, a0g_34, a0g_35, a0g_36, a0g_37, a0g_38, a0g_39])), (a0_17, .inl (ka0_17, 23, .inl (fa0_17))), (a0_19, .inl (ka0_19, 368, .inl (fa0_19))), (a0_15, .inl (ka0_15, 156, .inl (fa0_15))), (a0_23, .inl (ka0_23, 3, .inl (fa0_23))), (a0_24, .inl (ka0_24, 3, .inl (fa0_24)))] sz) := by
  refine Met.ofW (cc := cX8_go) (maxL := 5) (ret := (some .int)) (by decide) rfl ?_
  intro p e s m args below meth c s₁ B hml hv
  obtain ⟨rfl, hsz, hP, hK, hD0, hE⟩ := hv
  have hx := B.exec
  have hb := B.bytes
  have hr := B.returns
  have hts := atoms_spec (ws := wsX8_go) B.pre
  have hown : s.vm.findClass RX8 = some m.cls := findClass_of_methodNamed B.named
  have hlocks := B.notSynchronized
  subst hsz
  have hD := hD0.self (sz := s.heap.size)
  generalize hAe : va_A [(a0, .inr (8, [Value.int a0_0, a0g_1, a0g_2, a0g_3, a0g_4, a0g_5, a0g_6, a0g_7, a0g_8, a0g_9, a0g_10, Value.int a0_11, a0g_12, a0g_13, Value.int a0_14, Value.ref a0_15, a0g_16, Value.ref a0_17, a0g_18, Value.ref a0_19, a0g_20, Value.int a0_21, a0g_22, Value.ref a0_23, Value.ref a0_24, Value.int a0_25, Value.int a0_26, Value.int a0_27, Value.int a0_28, a0g_29, a0g_30, a0g_31, a0g_32, a0g_33, a0g_34, a0g_35, a0g_36, a0g_37, a0g_38, a0g_39])), (a0_17, .inl (ka0_17, 23, .inl (fa0_17))), (a0_19, .inl (ka0_19, 368, .inl (fa0_19))), (a0_15, .inl (ka0_15, 156, .inl (fa0_15))), (a0_23, .inl (ka0_23, 3, .inl (fa0_23))), (a0_24, .inl (ka0_24, 3, .inl (fa0_24)))] s.heap.size = A at hD ⊢
  have hA : ∀ q : Nat, s.heap.size ≤ q → A q := fun q h => by rw [← hAe]; exact Or.inr h
  have hS : va_S A s.heap s.heap [] := va_S.rf
  have hP : va_P (dC, dI) vwCl [(a0, .inr (8, [Value.int a0_0, a0g_1, a0g_2, a0g_3, a0g_4, a0g_5, a0g_6, a0g_7, a0g_8, a0g_9, a0g_10, Value.int a0_11, a0g_12, a0g_13, Value.int a0_14, Value.ref a0_15, a0g_16, Value.ref a0_17, a0g_18, Value.ref a0_19, a0g_20, Value.int a0_21, a0g_22, Value.ref a0_23, Value.ref a0_24, Value.int a0_25, Value.int a0_26, Value.int a0_27, Value.int a0_28, a0g_29, a0g_30, a0g_31, a0g_32, a0g_33, a0g_34, a0g_35, a0g_36, a0g_37, a0g_38, a0g_39])), (a0_17, .inl (ka0_17, 23, .inl (fa0_17))), (a0_19, .inl (ka0_19, 368, .inl (fa0_19))), (a0_15, .inl (ka0_15, 156, .inl (fa0_15))), (a0_23, .inl (ka0_23, 3, .inl (fa0_23))), (a0_24, .inl (ka0_24, 3, .inl (fa0_24)))] s.heap := hP
  have hl := lv_entry ([.ref a0, .int a1]) (n := 5) (Nat.le_of_ble_eq_true rfl)
  rw [lg_entry_eq]
  generalize (lg_sl ([.ref a0, .int a1]) ++ List.replicate (5 - (lg_sl ([.ref a0, .int a1])).length) Slot.unset).toArray = ls at hl ⊢
  have hl : lv_has ls 5 [(0, .ref a0), (1, .int a1)] := hl
  generalize hFX : Ff_X8_go a1.toInt a0_14.toInt a0_21.toInt a0_25.toInt a0_26.toInt a0_27.toInt a0_28.toInt (fl_A fa0_17) (fl_A fa0_19) (fl_A fa0_15) (fl_A fa0_23) (fl_A fa0_24) = FX at ⊢
  have hF0 := hFX.symm.trans (Ff_X8_go.eq_1 a1.toInt a0_14.toInt a0_21.toInt a0_25.toInt a0_26.toInt a0_27.toInt a0_28.toInt (fl_A fa0_17) (fl_A fa0_19) (fl_A fa0_15) (fl_A fa0_23) (fl_A fa0_24))
  refine ai_open (fun K hK0 => ?_)
  refine (hK0 _ _ _).mpr ?_
  refine lv_aload_n hx hb dX8_go_0 rfl (lv_at hl 0 rfl) ?_
  obtain ⟨hPc, hDc, hFc, hCc⟩ := zc_cut (wc := [(a0, .inr (8, [Value.int a0_0, a0g_1, a0g_2, a0g_3, a0g_4, a0g_5, a0g_6, a0g_7, a0g_8, a0g_9, a0g_10, Value.int a0_11, a0g_12, a0g_13, Value.int a0_14, Value.ref a0_15, a0g_16, Value.ref a0_17, a0g_18, Value.ref a0_19, a0g_20, Value.int a0_21, a0g_22, Value.ref a0_23, Value.ref a0_24, Value.int a0_25, Value.int a0_26, Value.int a0_27, Value.int a0_28, a0g_29, a0g_30, a0g_31, a0g_32, a0g_33, a0g_34, a0g_35, a0g_36, a0g_37, a0g_38, a0g_39]))]) hP hD hS hA [0] (by decide +kernel) rfl
  have hKc := hK.sub (tys' := []) [] rfl
  refine va_callv (va_runV (As := []) (rest := []) ⟨hx, hb, hml, hown, hts⟩ (f_X8_good l dC dI s.heap.size a0 a0_0 a0g_1 a0g_2 a0g_3 a0g_4 a0g_5 a0g_6 a0g_7 a0g_8 a0g_9 a0g_10 a0g_12 a0g_13 (Value.int a0_14) (Value.ref a0_15) a0g_16 (Value.ref a0_17) a0g_18 (Value.ref a0_19) a0g_20 (Value.int a0_21) a0g_22 (Value.ref a0_23) (Value.ref a0_24) (Value.int a0_25) (Value.int a0_26) (Value.int a0_27) (Value.int a0_28) a0g_29 a0g_30 a0g_31 a0g_32 a0g_33 a0g_34 a0g_35 a0g_36 a0g_37 a0g_38 a0g_39 a0_11 ) (cwV 0 hts gX8_go_X8_good rfl rfl rfl zd_X8_good ⟨Nat.le_of_ble_eq_true rfl, Nat.le_of_ble_eq_true rfl⟩) ⟨ax_blind (fun _ _ _ _ _ => trivial), zr_8 hKc hPc (q0 := 0) rfl, ax_pre hPc hKc hDc (fun _ _ => trivial)⟩ rfl rfl hl.1 rfl (lv_room (Nat.le_of_ble_eq_true rfl)) dX8_go_1 ⟨Nat.le_of_ble_eq_true rfl, Nat.le_of_ble_eq_true rfl⟩) hS (fun q _ h => hFc q h) hFc (fun u t H locs ht hvm hw hB hz1 hk1 hS => ?_)
  obtain ⟨v1na0_0, v1na0_11, hraw1_0, hP1, hK1, hD1⟩ := hB
  rw [ht] at hP1
  obtain ⟨hP, hD⟩ := zc_back (w := [(a0, .inr (8, [Value.int v1na0_0, a0g_1, a0g_2, a0g_3, a0g_4, a0g_5, a0g_6, a0g_7, a0g_8, a0g_9, a0g_10, Value.int v1na0_11, a0g_12, a0g_13, Value.int a0_14, Value.ref a0_15, a0g_16, Value.ref a0_17, a0g_18, Value.ref a0_19, a0g_20, Value.int a0_21, a0g_22, Value.ref a0_23, Value.ref a0_24, Value.int a0_25, Value.int a0_26, Value.int a0_27, Value.int a0_28, a0g_29, a0g_30, a0g_31, a0g_32, a0g_33, a0g_34, a0g_35, a0g_36, a0g_37, a0g_38, a0g_39])), (a0_17, .inl (ka0_17, 23, .inl (fa0_17))), (a0_19, .inl (ka0_19, 368, .inl (fa0_19))), (a0_15, .inl (ka0_15, 156, .inl (fa0_15))), (a0_23, .inl (ka0_23, 3, .inl (fa0_23))), (a0_24, .inl (ka0_24, 3, .inl (fa0_24)))]) hP hD hCc hk1 hFc hP1 hD1 [.inr 0, .inl 1, .inl 2, .inl 3, .inl 4, .inl 5] (by decide +kernel) rfl
  have hc1 : Ff_X8_good = (v1na0_0.toInt, v1na0_11.toInt) := hraw1_0
  have hF0 := hF0.trans (fl_c2_eq hc1)
  refine lv_aload_n hx hb dX8_go_4 rfl (lv_at hl 0 rfl) ?_
  refine lv_aload_n hx hb dX8_go_5 rfl (lv_at hl 0 rfl) ?_
  refine va_get (D := (dC, dI)) (ci := 8) (v := .int a0_14) (C := RX8) (T := TX8) (N := 40) hx hb hts zi_X8_go_8 hown hK hP 0 rfl rfl 14 (by decide) (hts (.fieldLink RX8 173 "WaxTurnsModel" "hasGallery" "Z") (zm_X8_go_r1 (List.mem_of_getElem? (i := 0) rfl))) (fun _ h9 => h9) rfl dX8_go_6 ?_
  refine lv_iload_n hx hb dX8_go_9 rfl (lv_at hl 1 rfl) ?_
  refine lv_iconst (v := 1) hx hb dX8_go_10 zk_iconst_1 ?_
  refine lv_bipush (v := 60) hx hb dX8_go_11 zk_bipush_60 ?_
  obtain ⟨hPc, hDc, hFc, hCc⟩ := zc_cut (wc := []) hP hD hS hA [] (by decide +kernel) rfl
  have hKc := hK.sub (tys' := []) [] rfl
  refine va_calli (va_runS (As := [.int a1, .int 1, .int 60]) (rest := [.int a0_14, .ref a0]) ⟨hx, hb, hml, hown, hts⟩ (f_X8_in l dC dI H.size a1 1 60 ) (va_cwS 3 hts gX8_go_X8_in rfl rfl rfl zd_X8_in.2 ⟨Nat.le_of_ble_eq_true rfl, Nat.le_of_ble_eq_true rfl⟩) ⟨ax_blind (fun _ _ _ _ _ => trivial), ax_pre hPc hKc hDc (fun _ _ => trivial)⟩ rfl rfl hl.1 rfl (lv_room (Nat.le_of_ble_eq_true rfl)) dX8_go_13 ⟨Nat.le_of_ble_eq_true rfl, Nat.le_of_ble_eq_true rfl⟩) hS (fun q _ h => hFc q h) hFc (fun r13 u t H locs ht hvm hw hB hz1 hk1 hS => ?_)
  obtain ⟨hP1, hK1, hD1⟩ := hB
  rw [ht] at hP1
  obtain ⟨hP, hD⟩ := zc_back (w := [(a0, .inr (8, [Value.int v1na0_0, a0g_1, a0g_2, a0g_3, a0g_4, a0g_5, a0g_6, a0g_7, a0g_8, a0g_9, a0g_10, Value.int v1na0_11, a0g_12, a0g_13, Value.int a0_14, Value.ref a0_15, a0g_16, Value.ref a0_17, a0g_18, Value.ref a0_19, a0g_20, Value.int a0_21, a0g_22, Value.ref a0_23, Value.ref a0_24, Value.int a0_25, Value.int a0_26, Value.int a0_27, Value.int a0_28, a0g_29, a0g_30, a0g_31, a0g_32, a0g_33, a0g_34, a0g_35, a0g_36, a0g_37, a0g_38, a0g_39])), (a0_17, .inl (ka0_17, 23, .inl (fa0_17))), (a0_19, .inl (ka0_19, 368, .inl (fa0_19))), (a0_15, .inl (ka0_15, 156, .inl (fa0_15))), (a0_23, .inl (ka0_23, 3, .inl (fa0_23))), (a0_24, .inl (ka0_24, 3, .inl (fa0_24)))]) hP hD hCc hk1 hFc hP1 hD1 [.inl 0, .inl 1, .inl 2, .inl 3, .inl 4, .inl 5] (by decide +kernel) rfl
  obtain ⟨hw, hfr13⟩ := hw
  rw [show (1 : Int32).toInt = 1 from by decide, show (60 : Int32).toInt = 60 from by decide] at hfr13
  have hc13 : Ff_X8_in a1.toInt 1 60 = r13.toInt := hfr13.symm
  have hF0 := hF0.trans (fl_lt_eq hc13.symm)
  rcases hw with hw | hw
  · obtain ⟨hw, h13⟩ := hw
    subst hw
    have l13k0_a1 : (1 : Int) ≤ a1.toInt := Int.le_trans zq1 h13.1
    have u13k0_a1 : a1.toInt ≤ (60 : Int) := Int.le_trans h13.2 zq46
    have hF0 := hF0.trans (if_pos (by decide))
    obtain ⟨hPc, hDc, hFc, hCc⟩ := zc_cut (wc := [(a0, .inr (8, [Value.int v1na0_0, a0g_1, a0g_2, a0g_3, a0g_4, a0g_5, a0g_6, a0g_7, a0g_8, a0g_9, a0g_10, Value.int v1na0_11, a0g_12, a0g_13, Value.int a0_14, Value.ref a0_15, a0g_16, Value.ref a0_17, a0g_18, Value.ref a0_19, a0g_20, Value.int a0_21, a0g_22, Value.ref a0_23, Value.ref a0_24, Value.int a0_25, Value.int a0_26, Value.int a0_27, Value.int a0_28, a0g_29, a0g_30, a0g_31, a0g_32, a0g_33, a0g_34, a0g_35, a0g_36, a0g_37, a0g_38, a0g_39]))]) hP hD hS hA [0] (by decide +kernel) rfl
    have hKc := hK.sub (tys' := []) [] rfl
    refine va_calli (va_runV (As := [.int a0_14, .int 1]) (rest := []) ⟨hx, hb, hml, hown, hts⟩ (f_X8_why l dC dI H.size a0 a0_14 1 (Value.int v1na0_0) a0g_1 a0g_2 a0g_3 a0g_4 a0g_5 a0g_6 a0g_7 a0g_8 a0g_9 a0g_10 (Value.int v1na0_11) a0g_12 a0g_13 (Value.int a0_14) (Value.ref a0_15) a0g_16 (Value.ref a0_17) a0g_18 (Value.ref a0_19) a0g_20 (Value.int a0_21) a0g_22 (Value.ref a0_23) (Value.ref a0_24) (Value.int a0_25) (Value.int a0_26) (Value.int a0_27) (Value.int a0_28) a0g_29 a0g_30 a0g_31 a0g_32 a0g_33 a0g_34 a0g_35 a0g_36 a0g_37 a0g_38 a0g_39 (Int.le_trans zq4 ba0_14_l) ba0_14_u (Int.le_trans zq4 zq1) zq0) (cwV 2 hts gX8_go_X8_why rfl rfl rfl zd_X8_why ⟨Nat.le_of_ble_eq_true rfl, Nat.le_of_ble_eq_true rfl⟩) ⟨ax_blind (fun _ _ _ _ _ => trivial), zr_8 hKc hPc (q0 := 0) rfl, ax_pre hPc hKc hDc (fun _ _ => trivial)⟩ rfl rfl hl.1 rfl (lv_room (Nat.le_of_ble_eq_true rfl)) dX8_go_16 ⟨Nat.le_of_ble_eq_true rfl, Nat.le_of_ble_eq_true rfl⟩) hS (fun q _ h => hFc q h) hFc (fun r16 u t H locs ht hvm hw hB hz1 hk1 hS => ?_)
    obtain ⟨hP1, hK1, hD1⟩ := hB
    rw [ht] at hP1
    obtain ⟨hP, hD⟩ := zc_back (w := [(a0, .inr (8, [Value.int v1na0_0, a0g_1, a0g_2, a0g_3, a0g_4, a0g_5, a0g_6, a0g_7, a0g_8, a0g_9, a0g_10, Value.int v1na0_11, a0g_12, a0g_13, Value.int a0_14, Value.ref a0_15, a0g_16, Value.ref a0_17, a0g_18, Value.ref a0_19, a0g_20, Value.int a0_21, a0g_22, Value.ref a0_23, Value.ref a0_24, Value.int a0_25, Value.int a0_26, Value.int a0_27, Value.int a0_28, a0g_29, a0g_30, a0g_31, a0g_32, a0g_33, a0g_34, a0g_35, a0g_36, a0g_37, a0g_38, a0g_39])), (a0_17, .inl (ka0_17, 23, .inl (fa0_17))), (a0_19, .inl (ka0_19, 368, .inl (fa0_19))), (a0_15, .inl (ka0_15, 156, .inl (fa0_15))), (a0_23, .inl (ka0_23, 3, .inl (fa0_23))), (a0_24, .inl (ka0_24, 3, .inl (fa0_24)))]) hP hD hCc hk1 hFc hP1 hD1 [.inr 0, .inl 1, .inl 2, .inl 3, .inl 4, .inl 5] (by decide +kernel) rfl
    obtain ⟨hw, hfr16⟩ := hw
    rw [show (1 : Int32).toInt = 1 from by decide] at hfr16
    have hc16 : Ff_X8_why a0_14.toInt 1 = r16.toInt := hfr16.symm
    have hF0 := hF0.trans (fl_lt_eq hc16.symm)
    rcases hw with hw | hw | hw
    · obtain ⟨hw, h16_0, h16_1, h16_2, h16_3⟩ := hw
      subst hw
      have l16k0_a0_14 : (1 : Int) ≤ a0_14.toInt := ba0_14_l
      have u16k0_a0_14 : a0_14.toInt ≤ (1 : Int) := ba0_14_u
      exact absurd h16_3 (by decide)
    · obtain ⟨hw, h16_0, h16_1⟩ := hw
      subst hw
      have l16k1_a0_14 : (1 : Int) ≤ a0_14.toInt := ba0_14_l
      have u16k1_a0_14 : a0_14.toInt ≤ (0 : Int) := h16_1
      exact absurd (Int.le_trans l16k1_a0_14 u16k1_a0_14) (by decide)
    · obtain ⟨hw, h16_0, h16_1, h16_2, h16_3⟩ := hw
      subst hw
      have l16k2_a0_14 : (1 : Int) ≤ a0_14.toInt := ba0_14_l
      have u16k2_a0_14 : a0_14.toInt ≤ (1 : Int) := ba0_14_u
      have hF0 := hF0.trans (if_neg (by decide))
      have hF0 := hF0.trans (if_neg (by decide))
      refine lv_istore_n (lv' := [(2, .int 0), (0, .ref a0), (1, .int a1)]) hx hb dX8_go_19 rfl hl (by decide) rfl (fun ls hl => ?_)
      refine lv_iload_n hx hb dX8_go_20 rfl (lv_at hl 0 rfl) ?_
      refine lv_if_ne (tgt := 41) hx hb dX8_go_21 (by decide) (fun c21 => absurd (by decide +kernel) c21) (fun _ => ?_)
      have J41 : ∀ (j41l2 : Int32) (H : Heap) (locs : List Loc) (ls : Array Slot), (0 : Int) ≤ j41l2.toInt → j41l2.toInt ≤ (3 : Int) → (FX = Gf_X8_go_41_1 a1.toInt a0_21.toInt a0_25.toInt a0_26.toInt a0_27.toInt a0_28.toInt (fl_A fa0_17) (fl_A fa0_19) (fl_A fa0_15) (fl_A fa0_23) (fl_A fa0_24) v1na0_0.toInt v1na0_11.toInt j41l2.toInt) → va_P (dC, dI) vwCl [(a0, .inr (8, [Value.int v1na0_0, a0g_1, a0g_2, a0g_3, a0g_4, a0g_5, a0g_6, a0g_7, a0g_8, a0g_9, a0g_10, Value.int v1na0_11, a0g_12, a0g_13, Value.int a0_14, Value.ref a0_15, a0g_16, Value.ref a0_17, a0g_18, Value.ref a0_19, a0g_20, Value.int a0_21, a0g_22, Value.ref a0_23, Value.ref a0_24, Value.int a0_25, Value.int a0_26, Value.int a0_27, Value.int a0_28, a0g_29, a0g_30, a0g_31, a0g_32, a0g_33, a0g_34, a0g_35, a0g_36, a0g_37, a0g_38, a0g_39])), (a0_17, .inl (ka0_17, 23, .inl (fa0_17))), (a0_19, .inl (ka0_19, 368, .inl (fa0_19))), (a0_15, .inl (ka0_15, 156, .inl (fa0_15))), (a0_23, .inl (ka0_23, 3, .inl (fa0_23))), (a0_24, .inl (ka0_24, 3, .inl (fa0_24)))] H → va_D A [(a0, .inr (8, [Value.int v1na0_0, a0g_1, a0g_2, a0g_3, a0g_4, a0g_5, a0g_6, a0g_7, a0g_8, a0g_9, a0g_10, Value.int v1na0_11, a0g_12, a0g_13, Value.int a0_14, Value.ref a0_15, a0g_16, Value.ref a0_17, a0g_18, Value.ref a0_19, a0g_20, Value.int a0_21, a0g_22, Value.ref a0_23, Value.ref a0_24, Value.int a0_25, Value.int a0_26, Value.int a0_27, Value.int a0_28, a0g_29, a0g_30, a0g_31, a0g_32, a0g_33, a0g_34, a0g_35, a0g_36, a0g_37, a0g_38, a0g_39])), (a0_17, .inl (ka0_17, 23, .inl (fa0_17))), (a0_19, .inl (ka0_19, 368, .inl (fa0_19))), (a0_15, .inl (ka0_15, 156, .inl (fa0_15))), (a0_23, .inl (ka0_23, 3, .inl (fa0_23))), (a0_24, .inl (ka0_24, 3, .inl (fa0_24)))] → va_S A s.heap H locs → lv_has ls 5 [(0, .ref a0), (1, .int a1), (2, .int j41l2)] → K H locs (F0 m 41 ls []) := by
        intro j41l2 H locs ls  bj41l2_l bj41l2_u hF0 hP hD hS hl
        refine (hK0 _ _ _).mpr ?_
        have hF0 := hF0.trans (Gf_X8_go_41_1.eq_1 a1.toInt a0_21.toInt a0_25.toInt a0_26.toInt a0_27.toInt a0_28.toInt (fl_A fa0_17) (fl_A fa0_19) (fl_A fa0_15) (fl_A fa0_23) (fl_A fa0_24) v1na0_0.toInt v1na0_11.toInt j41l2.toInt)
        refine lv_iload_n hx hb dX8_go_41 rfl (lv_at hl 2 rfl) ?_
        refine lv_if_eq (tgt := 51) hx hb dX8_go_42 (by decide) (fun c42 => ?_) (fun c42 => ?_)
        · have gc42 := ai_eq c42
          have u42t_j41l2 : j41l2.toInt ≤ (0 : Int) := Int.le_trans (Int.le_of_eq gc42) zq6
          have l42t_j41l2 : (0 : Int) ≤ j41l2.toInt := bj41l2_l
          have hF0 := hF0.trans (if_pos (show j41l2.toInt = 0 from gc42))
          refine lv_aload_n hx hb dX8_go_51 rfl (lv_at hl 0 rfl) ?_
          obtain ⟨hPc, hDc, hFc, hCc⟩ := zc_cut (wc := [(a0, .inr (8, [Value.int v1na0_0, a0g_1, a0g_2, a0g_3, a0g_4, a0g_5, a0g_6, a0g_7, a0g_8, a0g_9, a0g_10, Value.int v1na0_11, a0g_12, a0g_13, Value.int a0_14, Value.ref a0_15, a0g_16, Value.ref a0_17, a0g_18, Value.ref a0_19, a0g_20, Value.int a0_21, a0g_22, Value.ref a0_23, Value.ref a0_24, Value.int a0_25, Value.int a0_26, Value.int a0_27, Value.int a0_28, a0g_29, a0g_30, a0g_31, a0g_32, a0g_33, a0g_34, a0g_35, a0g_36, a0g_37, a0g_38, a0g_39])), (a0_17, .inl (ka0_17, 23, .inl (fa0_17))), (a0_19, .inl (ka0_19, 368, .inl (fa0_19)))]) hP hD hS hA [0, 1, 2] (by decide +kernel) rfl
          have hKc := hK.sub (tys' := [(ka0_17, .int), (ka0_19, .int)]) [0, 1] rfl
          refine va_callv (va_runV (As := []) (rest := []) ⟨hx, hb, hml, hown, hts⟩ (f_X8_note l dC dI H.size a0 (Value.int v1na0_0) a0g_1 a0g_2 a0g_3 a0g_4 a0g_5 a0g_6 a0g_7 a0g_8 a0g_9 a0g_10 (Value.int v1na0_11) a0g_12 a0g_13 (Value.int a0_14) (Value.ref a0_15) a0g_16 a0g_18 a0g_20 a0g_22 (Value.ref a0_23) (Value.ref a0_24) (Value.int a0_25) (Value.int a0_26) (Value.int a0_27) (Value.int a0_28) a0g_29 a0g_30 a0g_31 a0g_32 a0g_33 a0g_34 a0g_35 a0g_36 a0g_37 a0g_38 a0g_39 a0_17 a0_19 a0_21 ka0_17 fa0_17 ka0_19 fa0_19 ba0_21_l ba0_21_u bfa0_17 bfa0_19) (cwV 0 hts gX8_go_X8_note rfl rfl rfl zd_X8_note ⟨Nat.le_of_ble_eq_true rfl, Nat.le_of_ble_eq_true rfl⟩) ⟨ax_blind (fun _ _ _ _ _ => trivial), zr_8 hKc hPc (q0 := 0) rfl, ax_pre hPc hKc hDc (fun _ _ => trivial)⟩ rfl rfl hl.1 rfl (lv_room (Nat.le_of_ble_eq_true rfl)) dX8_go_52 ⟨Nat.le_of_ble_eq_true rfl, Nat.le_of_ble_eq_true rfl⟩) hS (fun q _ h => hFc q h) hFc (fun u t H locs ht hvm hw hB hz1 hk1 hS => ?_)
          obtain ⟨v52na0_21, v52nfa0_19, bv52na0_21, bv52nfa0_19, hraw52_0, hP1, hK1, hD1⟩ := hB
          rw [ht] at hP1
          obtain ⟨hP, hD⟩ := zc_back (w := [(a0, .inr (8, [Value.int v1na0_0, a0g_1, a0g_2, a0g_3, a0g_4, a0g_5, a0g_6, a0g_7, a0g_8, a0g_9, a0g_10, Value.int v1na0_11, a0g_12, a0g_13, Value.int a0_14, Value.ref a0_15, a0g_16, Value.ref a0_17, a0g_18, Value.ref a0_19, a0g_20, Value.int v52na0_21, a0g_22, Value.ref a0_23, Value.ref a0_24, Value.int a0_25, Value.int a0_26, Value.int a0_27, Value.int a0_28, a0g_29, a0g_30, a0g_31, a0g_32, a0g_33, a0g_34, a0g_35, a0g_36, a0g_37, a0g_38, a0g_39])), (a0_17, .inl (ka0_17, 23, .inl (fa0_17))), (a0_19, .inl (ka0_19, 368, .inl (v52nfa0_19))), (a0_15, .inl (ka0_15, 156, .inl (fa0_15))), (a0_23, .inl (ka0_23, 3, .inl (fa0_23))), (a0_24, .inl (ka0_24, 3, .inl (fa0_24)))]) hP hD hCc hk1 hFc hP1 hD1 [.inr 0, .inr 1, .inr 2, .inl 3, .inl 4, .inl 5] (by decide +kernel) rfl
          have hc52 : Ff_X8_note a0_21.toInt (fl_A fa0_17) (fl_A fa0_19) = (v52na0_21.toInt, (fl_A v52nfa0_19)) := hraw52_0
          have hF0 := hF0.trans (fl_c2_eq hc52)
          refine lv_aload_n hx hb dX8_go_55 rfl (lv_at hl 0 rfl) ?_
          obtain ⟨hPc, hDc, hFc, hCc⟩ := zc_cut (wc := [(a0, .inr (8, [Value.int v1na0_0, a0g_1, a0g_2, a0g_3, a0g_4, a0g_5, a0g_6, a0g_7, a0g_8, a0g_9, a0g_10, Value.int v1na0_11, a0g_12, a0g_13, Value.int a0_14, Value.ref a0_15, a0g_16, Value.ref a0_17, a0g_18, Value.ref a0_19, a0g_20, Value.int v52na0_21, a0g_22, Value.ref a0_23, Value.ref a0_24, Value.int a0_25, Value.int a0_26, Value.int a0_27, Value.int a0_28, a0g_29, a0g_30, a0g_31, a0g_32, a0g_33, a0g_34, a0g_35, a0g_36, a0g_37, a0g_38, a0g_39])), (a0_15, .inl (ka0_15, 156, .inl (fa0_15))), (a0_23, .inl (ka0_23, 3, .inl (fa0_23))), (a0_24, .inl (ka0_24, 3, .inl (fa0_24)))]) hP hD hS hA [0, 3, 4, 5] (by decide +kernel) rfl
          have hKc := hK.sub (tys' := [(ka0_15, .int), (ka0_23, .int), (ka0_24, .int)]) [2, 3, 4] rfl
          refine va_callv (va_runV (As := []) (rest := []) ⟨hx, hb, hml, hown, hts⟩ (f_X8_watchAsTold l dC dI H.size a0 (Value.int v1na0_0) a0g_1 a0g_2 a0g_3 a0g_4 a0g_5 a0g_6 a0g_7 a0g_8 a0g_9 a0g_10 (Value.int v1na0_11) a0g_12 a0g_13 (Value.int a0_14) a0g_16 (Value.ref a0_17) a0g_18 (Value.ref a0_19) a0g_20 (Value.int v52na0_21) a0g_22 (Value.int a0_26) (Value.int a0_27) (Value.int a0_28) a0g_29 a0g_30 a0g_31 a0g_32 a0g_33 a0g_34 a0g_35 a0g_36 a0g_37 a0g_38 a0g_39 a0_15 a0_23 a0_24 a0_25 ka0_15 fa0_15 ka0_23 fa0_23 ka0_24 fa0_24 bfa0_15 bfa0_23 bfa0_24) (cwV 0 hts gX8_go_X8_watchAsTold rfl rfl rfl zd_X8_watchAsTold ⟨Nat.le_of_ble_eq_true rfl, Nat.le_of_ble_eq_true rfl⟩) ⟨ax_blind (fun _ _ _ _ _ => trivial), zr_8 hKc hPc (q0 := 0) rfl, ax_pre hPc hKc hDc (fun _ _ => trivial)⟩ rfl rfl hl.1 rfl (lv_room (Nat.le_of_ble_eq_true rfl)) dX8_go_56 ⟨Nat.le_of_ble_eq_true rfl, Nat.le_of_ble_eq_true rfl⟩) hS (fun q _ h => hFc q h) hFc (fun u t H locs ht hvm hw hB hz1 hk1 hS => ?_)
          obtain ⟨v56na0_25, v56nfa0_23, v56nfa0_24, bv56nfa0_23, bv56nfa0_24, hraw56_0, hP1, hK1, hD1⟩ := hB
          rw [ht] at hP1
          obtain ⟨hP, hD⟩ := zc_back (w := [(a0, .inr (8, [Value.int v1na0_0, a0g_1, a0g_2, a0g_3, a0g_4, a0g_5, a0g_6, a0g_7, a0g_8, a0g_9, a0g_10, Value.int v1na0_11, a0g_12, a0g_13, Value.int a0_14, Value.ref a0_15, a0g_16, Value.ref a0_17, a0g_18, Value.ref a0_19, a0g_20, Value.int v52na0_21, a0g_22, Value.ref a0_23, Value.ref a0_24, Value.int v56na0_25, Value.int a0_26, Value.int a0_27, Value.int a0_28, a0g_29, a0g_30, a0g_31, a0g_32, a0g_33, a0g_34, a0g_35, a0g_36, a0g_37, a0g_38, a0g_39])), (a0_17, .inl (ka0_17, 23, .inl (fa0_17))), (a0_19, .inl (ka0_19, 368, .inl (v52nfa0_19))), (a0_15, .inl (ka0_15, 156, .inl (fa0_15))), (a0_23, .inl (ka0_23, 3, .inl (v56nfa0_23))), (a0_24, .inl (ka0_24, 3, .inl (v56nfa0_24)))]) hP hD hCc hk1 hFc hP1 hD1 [.inr 0, .inl 1, .inl 2, .inr 1, .inr 2, .inr 3] (by decide +kernel) rfl
          have hc56 : Ff_X8_watchAsTold (fl_A fa0_15) (fl_A fa0_23) (fl_A fa0_24) = (v56na0_25.toInt, (fl_A v56nfa0_23), (fl_A v56nfa0_24)) := hraw56_0
          have hF0 := hF0.trans (fl_c3_eq hc56)
          refine lv_aload_n hx hb dX8_go_59 rfl (lv_at hl 0 rfl) ?_
          refine va_get (D := (dC, dI)) (ci := 8) (v := .ref a0_17) (C := RX8) (T := TX8) (N := 40) hx hb hts zi_X8_go_8 hown hK hP 0 rfl rfl 17 (by decide) (hts (.fieldLink RX8 26 "WaxTurnsModel" "st" "[I") (zm_X8_go_r1 (List.mem_of_getElem? (i := 1) rfl))) (fun _ h9 => h9) rfl dX8_go_60 ?_
          refine lv_bipush (v := 18) hx hb dX8_go_63 zk_bipush_18 ?_
          refine va_iald hx hb hK hP 1 0 rfl rfl (by unfold vp_in; decide +kernel) dX8_go_65 ?_
          refine lv_topi (fun x65 ex65 => ?_)
          have fqx65 := congrArg Int32.toInt ex65
          have hF0 := hF0.trans (fl_lt_eq (show x65.toInt = (fl_A fa0_17) (18) from fqx65))
          refine lv_istore_n (lv' := [(3, .int x65), (0, .ref a0), (1, .int a1), (2, .int j41l2)]) hx hb dX8_go_66 rfl hl (by decide) rfl (fun ls hl => ?_)
          refine lv_iconst (v := 0) hx hb dX8_go_67 zk_iconst_0 ?_
          refine lv_istore (lv' := [(4, .int 0), (3, .int x65), (0, .ref a0), (1, .int a1), (2, .int j41l2)]) hx hb dX8_go_68 hl (by decide) rfl (fun ls hl => ?_)
          have J70 : ∀ (n : Nat) (j70l4 : Int32) (j70a0_26 : Int32) (j70a0_27 : Int32) (j70a0_28 : Int32) (j70a0_17_a : Nat → Int32) (H : Heap) (locs : List Loc) (ls : Array Slot), (2147483648 : Int) - j70l4.toInt ≤ (n : Int) → (0 : Int) ≤ j70l4.toInt → ((∀ k : Nat, 0 ≤ k → k ≤ 8 → (0 : Int) ≤ (j70a0_17_a k).toInt ∧ (j70a0_17_a k).toInt ≤ 8) ∧ (∀ k : Nat, 19 ≤ k → k ≤ 19 → (0 : Int) ≤ (j70a0_17_a k).toInt ∧ (j70a0_17_a k).toInt ≤ 8) ∧ (∀ k : Nat, 20 ≤ k → k ≤ 20 → (0 : Int) ≤ (j70a0_17_a k).toInt ∧ (j70a0_17_a k).toInt ≤ 19)) → (FX = fl_wh (fun t9 => Sf_X8_go_70_1 a1.toInt (fl_A fa0_15) v1na0_0.toInt v1na0_11.toInt v52na0_21.toInt (fl_A v52nfa0_19) v56na0_25.toInt (fl_A v56nfa0_23) (fl_A v56nfa0_24) x65.toInt t9.1 t9.2.1 t9.2.2.1 t9.2.2.2.1 t9.2.2.2.2) (0, 0, 0, 0, 0, 0, 0, 0, (fun _ => 0), (fun _ => 0), (fun _ => 0), (fun _ => 0)) n (j70l4.toInt, j70a0_26.toInt, j70a0_27.toInt, j70a0_28.toInt, (fl_A j70a0_17_a))) → va_P (dC, dI) vwCl [(a0, .inr (8, [Value.int v1na0_0, a0g_1, a0g_2, a0g_3, a0g_4, a0g_5, a0g_6, a0g_7, a0g_8, a0g_9, a0g_10, Value.int v1na0_11, a0g_12, a0g_13, Value.int a0_14, Value.ref a0_15, a0g_16, Value.ref a0_17, a0g_18, Value.ref a0_19, a0g_20, Value.int v52na0_21, a0g_22, Value.ref a0_23, Value.ref a0_24, Value.int v56na0_25, Value.int j70a0_26, Value.int j70a0_27, Value.int j70a0_28, a0g_29, a0g_30, a0g_31, a0g_32, a0g_33, a0g_34, a0g_35, a0g_36, a0g_37, a0g_38, a0g_39])), (a0_17, .inl (ka0_17, 23, .inl (j70a0_17_a))), (a0_19, .inl (ka0_19, 368, .inl (v52nfa0_19))), (a0_15, .inl (ka0_15, 156, .inl (fa0_15))), (a0_23, .inl (ka0_23, 3, .inl (v56nfa0_23))), (a0_24, .inl (ka0_24, 3, .inl (v56nfa0_24)))] H → va_D A [(a0, .inr (8, [Value.int v1na0_0, a0g_1, a0g_2, a0g_3, a0g_4, a0g_5, a0g_6, a0g_7, a0g_8, a0g_9, a0g_10, Value.int v1na0_11, a0g_12, a0g_13, Value.int a0_14, Value.ref a0_15, a0g_16, Value.ref a0_17, a0g_18, Value.ref a0_19, a0g_20, Value.int v52na0_21, a0g_22, Value.ref a0_23, Value.ref a0_24, Value.int v56na0_25, Value.int j70a0_26, Value.int j70a0_27, Value.int j70a0_28, a0g_29, a0g_30, a0g_31, a0g_32, a0g_33, a0g_34, a0g_35, a0g_36, a0g_37, a0g_38, a0g_39])), (a0_17, .inl (ka0_17, 23, .inl (j70a0_17_a))), (a0_19, .inl (ka0_19, 368, .inl (v52nfa0_19))), (a0_15, .inl (ka0_15, 156, .inl (fa0_15))), (a0_23, .inl (ka0_23, 3, .inl (v56nfa0_23))), (a0_24, .inl (ka0_24, 3, .inl (v56nfa0_24)))] → va_S A s.heap H locs → lv_has ls 5 [(0, .ref a0), (1, .int a1), (3, .int x65), (4, .int j70l4)] → K H locs (F0 m 70 ls []) := by
            intro n
            induction n with
            | zero =>
              intro j70l4 j70a0_26 j70a0_27 j70a0_28 j70a0_17_a H locs ls hm bj70l4_l bj70a0_17_a hF0 hP hD hS hl
              have h8 := ai_min j70l4
              have h9 := ai_max j70l4
              exact absurd hm (by omega)
            | succ n ih70 =>
              intro j70l4 j70a0_26 j70a0_27 j70a0_28 j70a0_17_a H locs ls hm bj70l4_l bj70a0_17_a hF0 hP hD hS hl
              refine (hK0 _ _ _).mpr ?_
              have hm70 := hm
              obtain ⟨SX70, hSX70⟩ : ∃ q9, Sf_X8_go_70_1 a1.toInt (fl_A fa0_15) v1na0_0.toInt v1na0_11.toInt v52na0_21.toInt (fl_A v52nfa0_19) v56na0_25.toInt (fl_A v56nfa0_23) (fl_A v56nfa0_24) x65.toInt j70l4.toInt j70a0_26.toInt j70a0_27.toInt j70a0_28.toInt (fl_A j70a0_17_a) = q9 := ⟨_, rfl⟩
              have hF1 := hSX70.symm.trans (Sf_X8_go_70_1.eq_1 a1.toInt (fl_A fa0_15) v1na0_0.toInt v1na0_11.toInt v52na0_21.toInt (fl_A v52nfa0_19) v56na0_25.toInt (fl_A v56nfa0_23) (fl_A v56nfa0_24) x65.toInt j70l4.toInt j70a0_26.toInt j70a0_27.toInt j70a0_28.toInt (fl_A j70a0_17_a))
              refine lv_iload hx hb dX8_go_70 (lv_at hl 3 rfl) ?_
              refine lv_iload_n hx hb dX8_go_72 rfl (lv_at hl 1 rfl) ?_
              refine lv_icmp_ge (tgt := 90) hx hb dX8_go_73 (by decide) (fun c73 => ?_) (fun c73 => ?_)
              · have gc73 := ai_le c73
                have hF1 := hF1.trans (if_pos (show a1.toInt ≤ j70l4.toInt from gc73))
                have hF0 := hF0.trans (fl_wh_r (hSX70.trans hF1))
                refine lv_aload_n hx hb dX8_go_90 rfl (lv_at hl 0 rfl) ?_
                refine va_get (D := (dC, dI)) (ci := 8) (v := .ref a0_17) (C := RX8) (T := TX8) (N := 40) hx hb hts zi_X8_go_8 hown hK hP 0 rfl rfl 17 (by decide) (hts (.fieldLink RX8 26 "WaxTurnsModel" "st" "[I") (zm_X8_go_r1 (List.mem_of_getElem? (i := 1) rfl))) (fun _ h9 => h9) rfl dX8_go_91 ?_
                refine lv_bipush (v := 18) hx hb dX8_go_94 zk_bipush_18 ?_
                refine va_iald hx hb hK hP 1 0 rfl rfl (by unfold vp_in; decide +kernel) dX8_go_96 ?_
                refine lv_topi (fun x96 ex96 => ?_)
                have fqx96 := congrArg Int32.toInt ex96
                have hF0 := hF0.trans (fl_lt_eq (show x96.toInt = (fl_A j70a0_17_a) (18) from fqx96))
                refine lv_iload_n hx hb dX8_go_97 rfl (lv_at hl 2 rfl) ?_
                refine lv_iconst (v := (-1)) hx hb dX8_go_98 zk_iconst_n1 ?_
                refine lv_ixor hx hb dX8_go_99 ?_
                refine lv_topi (fun x99 ex99 => ?_)
                have fqx99 := fl_xor_eq ex99
                have hF0 := hF0.trans (fl_lt_eq (show x99.toInt = fl_xor x65.toInt (-1) from fqx99))
                refine lv_iand hx hb dX8_go_100 ?_
                refine lv_topi (fun x100 ex100 => ?_)
                have fqx100 := fl_and_eq ex100
                have hF0 := hF0.trans (fl_lt_eq (show x100.toInt = fl_and x96.toInt x99.toInt from fqx100))
                have hFe : FX = (x100.toInt, v1na0_0.toInt, v1na0_11.toInt, v52na0_21.toInt, v56na0_25.toInt, j70a0_26.toInt, j70a0_27.toInt, j70a0_28.toInt, (fl_A j70a0_17_a), (fl_A v52nfa0_19), (fl_A v56nfa0_23), (fl_A v56nfa0_24)) := hF0
                exact W.iret (v := x100) hx hb hr (fun t ht hW => ⟨⟨x100, (), rfl, ⟨trivial, (congrArg Prod.fst hFe).symm⟩, v1na0_0, v1na0_11, v52na0_21, v56na0_25, j70a0_26, j70a0_27, j70a0_28, j70a0_17_a, v52nfa0_19, v56nfa0_23, v56nfa0_24, ⟨bv52na0_21.1, bv52na0_21.2⟩, bj70a0_17_a, bv52nfa0_19, bv56nfa0_23, bv56nfa0_24, (congrArg Prod.snd hFe), by rw [ht]; exact hP, va_K.moved hW.alike hK, hD⟩, hS.F ht⟩) hS.2.2 dX8_go_101
              · have gc73 := ai_nle c73
                have u73f_j70l4 : j70l4.toInt ≤ (2147483646 : Int) := ai_lthi gc73 (ai_max a1)
                have l73f_a1 : (1 : Int) ≤ a1.toInt := ai_ltlo gc73 bj70l4_l
                have hF1 := hF1.trans (if_neg (show ¬ (a1.toInt ≤ j70l4.toInt) from Int.not_le.mpr gc73))
                refine lv_aload_n hx hb dX8_go_76 rfl (lv_at hl 0 rfl) ?_
                refine lv_aload_n hx hb dX8_go_77 rfl (lv_at hl 0 rfl) ?_
                refine va_get (D := (dC, dI)) (ci := 8) (v := .ref a0_17) (C := RX8) (T := TX8) (N := 40) hx hb hts zi_X8_go_8 hown hK hP 0 rfl rfl 17 (by decide) (hts (.fieldLink RX8 26 "WaxTurnsModel" "st" "[I") (zm_X8_go_r1 (List.mem_of_getElem? (i := 1) rfl))) (fun _ h9 => h9) rfl dX8_go_78 ?_
                obtain ⟨hPc, hDc, hFc, hCc⟩ := zc_cut (wc := [(a0, .inr (8, [Value.int v1na0_0, a0g_1, a0g_2, a0g_3, a0g_4, a0g_5, a0g_6, a0g_7, a0g_8, a0g_9, a0g_10, Value.int v1na0_11, a0g_12, a0g_13, Value.int a0_14, Value.ref a0_15, a0g_16, Value.ref a0_17, a0g_18, Value.ref a0_19, a0g_20, Value.int v52na0_21, a0g_22, Value.ref a0_23, Value.ref a0_24, Value.int v56na0_25, Value.int j70a0_26, Value.int j70a0_27, Value.int j70a0_28, a0g_29, a0g_30, a0g_31, a0g_32, a0g_33, a0g_34, a0g_35, a0g_36, a0g_37, a0g_38, a0g_39])), (a0_17, .inl (ka0_17, 23, .inl (j70a0_17_a))), (a0_15, .inl (ka0_15, 156, .inl (fa0_15))), (a0_24, .inl (ka0_24, 3, .inl (v56nfa0_24))), (a0_23, .inl (ka0_23, 3, .inl (v56nfa0_23)))]) hP hD hS hA [0, 1, 3, 5, 4] (by decide +kernel) rfl
                have hKc := hK.sub (tys' := [(ka0_17, .int), (ka0_15, .int), (ka0_24, .int), (ka0_23, .int)]) [0, 2, 4, 3] rfl
                refine va_callv (va_runV (As := [.ref a0_17]) (rest := []) ⟨hx, hb, hml, hown, hts⟩ (f_X8_minuteOn l dC dI H.size a0 a0_17 (Value.int v1na0_0) a0g_1 a0g_2 a0g_3 a0g_4 a0g_5 a0g_6 a0g_7 a0g_8 a0g_9 a0g_10 (Value.int v1na0_11) a0g_12 a0g_13 (Value.int a0_14) a0g_16 (Value.ref a0_17) a0g_18 (Value.ref a0_19) a0g_20 (Value.int v52na0_21) a0g_22 a0g_29 a0g_30 a0g_31 a0g_32 a0g_33 a0g_34 a0g_35 a0g_36 a0g_37 a0g_38 a0g_39 a0_15 a0_23 a0_24 v56na0_25 j70a0_26 j70a0_27 j70a0_28 ka0_17 j70a0_17_a ka0_15 fa0_15 ka0_24 v56nfa0_24 ka0_23 v56nfa0_23 bj70a0_17_a bfa0_15 bv56nfa0_24 bv56nfa0_23 hkm) (cwV 1 hts gX8_go_X8_minuteOn rfl rfl rfl zd_X8_minuteOn ⟨Nat.le_of_ble_eq_true rfl, Nat.le_of_ble_eq_true rfl⟩) ⟨ax_blind (fun _ _ _ _ _ => trivial), zr_8 hKc hPc (q0 := 0) rfl, ax_pre hPc hKc hDc (fun _ _ => trivial)⟩ rfl rfl hl.1 rfl (lv_room (Nat.le_of_ble_eq_true rfl)) dX8_go_81 ⟨Nat.le_of_ble_eq_true rfl, Nat.le_of_ble_eq_true rfl⟩) hS (fun q _ h => hFc q h) hFc (fun u t H locs ht hvm hw hB hz1 hk1 hS => ?_)
                obtain ⟨v81na0_26, v81na0_27, v81na0_28, v81nfa1, bv81nfa1, hraw81_0, hP1, hK1, hD1⟩ := hB
                rw [ht] at hP1
                obtain ⟨hP, hD⟩ := zc_back (w := [(a0, .inr (8, [Value.int v1na0_0, a0g_1, a0g_2, a0g_3, a0g_4, a0g_5, a0g_6, a0g_7, a0g_8, a0g_9, a0g_10, Value.int v1na0_11, a0g_12, a0g_13, Value.int a0_14, Value.ref a0_15, a0g_16, Value.ref a0_17, a0g_18, Value.ref a0_19, a0g_20, Value.int v52na0_21, a0g_22, Value.ref a0_23, Value.ref a0_24, Value.int v56na0_25, Value.int v81na0_26, Value.int v81na0_27, Value.int v81na0_28, a0g_29, a0g_30, a0g_31, a0g_32, a0g_33, a0g_34, a0g_35, a0g_36, a0g_37, a0g_38, a0g_39])), (a0_17, .inl (ka0_17, 23, .inl (v81nfa1))), (a0_19, .inl (ka0_19, 368, .inl (v52nfa0_19))), (a0_15, .inl (ka0_15, 156, .inl (fa0_15))), (a0_23, .inl (ka0_23, 3, .inl (v56nfa0_23))), (a0_24, .inl (ka0_24, 3, .inl (v56nfa0_24)))]) hP hD hCc hk1 hFc hP1 hD1 [.inr 0, .inr 1, .inl 2, .inr 2, .inr 4, .inr 3] (by decide +kernel) rfl
                have hc81 : Ff_X8_minuteOn v56na0_25.toInt (fl_A j70a0_17_a) (fl_A fa0_15) (fl_A v56nfa0_24) (fl_A v56nfa0_23) = (v81na0_26.toInt, v81na0_27.toInt, v81na0_28.toInt, (fl_A v81nfa1)) := hraw81_0
                have hF1 := hF1.trans (fl_c4_eq hc81)
                obtain ⟨x84, ex84⟩ : ∃ y : Int32, y = j70l4 + Int32.ofInt 1 := ⟨_, rfl⟩
                have qx84 : x84.toInt = j70l4.toInt + 1 := ai_inc ex84 (by decide) (by decide) u73f_j70l4 (by decide)
                have bx84 : (1 : Int) ≤ x84.toInt ∧ x84.toInt ≤ 2147483647 := ⟨by rw [qx84]; exact Int.add_le_add bj70l4_l (Int.le_refl _), by rw [qx84]; exact Int.add_le_add u73f_j70l4 (Int.le_refl _)⟩
                refine lv_iinc (v := x84) (lv' := [(4, .int x84), (0, .ref a0), (1, .int a1), (3, .int x65)]) hx hb dX8_go_84 hl (k := 3) rfl ex84.symm (by decide) rfl (fun ls hl => ?_)
                have hF1 := hF1.trans (fl_lt_eq (show x84.toInt = j70l4.toInt + 1 from qx84))
                refine lv_goto (tgt := 70) hx hb dX8_go_87 (by decide) ?_
                exact (hK0 _ _ _).mp (ih70 x84 v81na0_26 v81na0_27 v81na0_28 v81nfa1 _ _ _ (by have h0 := qx84; omega) (Int.le_trans zq4 bx84.1) bv81nfa1 (hF0.trans (fl_wh_l (hSX70.trans hF1))) hP hD hS (lv_sub hl [1, 2, 3, 0] rfl))
          exact (hK0 _ _ _).mp (J70 2147483648 0 a0_26 a0_27 a0_28 fa0_17 _ _ _ (by have h1 : (0 : Int) ≤ (0 : Int32).toInt := zq5; have h2 : (0 : Int32).toInt ≤ (0 : Int) := zq6; omega) zq5 bfa0_17 (by rw [show (0 : Int32).toInt = 0 from by decide]; exact hF0) hP hD hS (lv_sub hl [2, 3, 1, 0] rfl))
        · have gc42 := ai_ne c42
          have l42f_j41l2 : (1 : Int) ≤ j41l2.toInt := (by have h1 := bj41l2_l; have h2 : (0 : Int32).toInt = 0 := (by decide); rw [h2] at gc42; omega)
          have hF0 := hF0.trans (if_neg (show ¬ (j41l2.toInt = 0) from  gc42))
          refine lv_aload_n hx hb dX8_go_45 rfl (lv_at hl 0 rfl) ?_
          refine lv_iload_n hx hb dX8_go_46 rfl (lv_at hl 2 rfl) ?_
          obtain ⟨hPc, hDc, hFc, hCc⟩ := zc_cut (wc := [(a0, .inr (8, [Value.int v1na0_0, a0g_1, a0g_2, a0g_3, a0g_4, a0g_5, a0g_6, a0g_7, a0g_8, a0g_9, a0g_10, Value.int v1na0_11, a0g_12, a0g_13, Value.int a0_14, Value.ref a0_15, a0g_16, Value.ref a0_17, a0g_18, Value.ref a0_19, a0g_20, Value.int a0_21, a0g_22, Value.ref a0_23, Value.ref a0_24, Value.int a0_25, Value.int a0_26, Value.int a0_27, Value.int a0_28, a0g_29, a0g_30, a0g_31, a0g_32, a0g_33, a0g_34, a0g_35, a0g_36, a0g_37, a0g_38, a0g_39]))]) hP hD hS hA [0] (by decide +kernel) rfl
          have hKc := hK.sub (tys' := []) [] rfl
          refine va_calli (va_runV (As := [.int j41l2]) (rest := []) ⟨hx, hb, hml, hown, hts⟩ (f_X8_no l dC dI H.size a0 j41l2 (Value.int v1na0_0) a0g_1 a0g_2 a0g_3 a0g_4 a0g_5 a0g_6 a0g_7 a0g_8 a0g_9 a0g_10 a0g_12 a0g_13 (Value.int a0_14) (Value.ref a0_15) a0g_16 (Value.ref a0_17) a0g_18 (Value.ref a0_19) a0g_20 (Value.int a0_21) a0g_22 (Value.ref a0_23) (Value.ref a0_24) (Value.int a0_25) (Value.int a0_26) (Value.int a0_27) (Value.int a0_28) a0g_29 a0g_30 a0g_31 a0g_32 a0g_33 a0g_34 a0g_35 a0g_36 a0g_37 a0g_38 a0g_39 v1na0_11 ) (cwV 1 hts gX8_go_X8_no rfl rfl rfl zd_X8_no ⟨Nat.le_of_ble_eq_true rfl, Nat.le_of_ble_eq_true rfl⟩) ⟨ax_blind (fun _ _ _ _ _ => trivial), zr_8 hKc hPc (q0 := 0) rfl, ax_pre hPc hKc hDc (fun _ _ => trivial)⟩ rfl rfl hl.1 rfl (lv_room (Nat.le_of_ble_eq_true rfl)) dX8_go_47 ⟨Nat.le_of_ble_eq_true rfl, Nat.le_of_ble_eq_true rfl⟩) hS (fun q _ h => hFc q h) hFc (fun r47 u t H locs ht hvm hw hB hz1 hk1 hS => ?_)
          obtain ⟨v47na0_11, hraw47_0, hP1, hK1, hD1⟩ := hB
          rw [ht] at hP1
          obtain ⟨hP, hD⟩ := zc_back (w := [(a0, .inr (8, [Value.int v1na0_0, a0g_1, a0g_2, a0g_3, a0g_4, a0g_5, a0g_6, a0g_7, a0g_8, a0g_9, a0g_10, Value.int v47na0_11, a0g_12, a0g_13, Value.int a0_14, Value.ref a0_15, a0g_16, Value.ref a0_17, a0g_18, Value.ref a0_19, a0g_20, Value.int a0_21, a0g_22, Value.ref a0_23, Value.ref a0_24, Value.int a0_25, Value.int a0_26, Value.int a0_27, Value.int a0_28, a0g_29, a0g_30, a0g_31, a0g_32, a0g_33, a0g_34, a0g_35, a0g_36, a0g_37, a0g_38, a0g_39])), (a0_17, .inl (ka0_17, 23, .inl (fa0_17))), (a0_19, .inl (ka0_19, 368, .inl (fa0_19))), (a0_15, .inl (ka0_15, 156, .inl (fa0_15))), (a0_23, .inl (ka0_23, 3, .inl (fa0_23))), (a0_24, .inl (ka0_24, 3, .inl (fa0_24)))]) hP hD hCc hk1 hFc hP1 hD1 [.inr 0, .inl 1, .inl 2, .inl 3, .inl 4, .inl 5] (by decide +kernel) rfl
          obtain ⟨hw, hfr47⟩ := hw
          have hc47 : Ff_X8_no j41l2.toInt = (r47.toInt, v47na0_11.toInt) := Prod.ext hfr47.symm hraw47_0
          have hF0 := hF0.trans (fl_c2_eq hc47)
          have hw : r47 = (-1) := hw
          have hw := hw.symm
          subst hw
          have hFe : FX = ((-1), v1na0_0.toInt, v47na0_11.toInt, a0_21.toInt, a0_25.toInt, a0_26.toInt, a0_27.toInt, a0_28.toInt, (fl_A fa0_17), (fl_A fa0_19), (fl_A fa0_23), (fl_A fa0_24)) := hF0
          exact W.iret (v := (-1)) hx hb hr (fun t ht hW => ⟨⟨(-1), (), rfl, ⟨trivial, (congrArg Prod.fst hFe).symm⟩, v1na0_0, v47na0_11, a0_21, a0_25, a0_26, a0_27, a0_28, fa0_17, fa0_19, fa0_23, fa0_24, ⟨ba0_21_l, ba0_21_u⟩, bfa0_17, bfa0_19, bfa0_23, bfa0_24, (congrArg Prod.snd hFe), by rw [ht]; exact hP, va_K.moved hW.alike hK, hD⟩, hS.F ht⟩) hS.2.2 dX8_go_50
      refine lv_aload_n hx hb dX8_go_24 rfl (lv_at hl 1 rfl) ?_
      refine va_get (D := (dC, dI)) (ci := 8) (v := .ref a0_17) (C := RX8) (T := TX8) (N := 40) hx hb hts zi_X8_go_8 hown hK hP 0 rfl rfl 17 (by decide) (hts (.fieldLink RX8 26 "WaxTurnsModel" "st" "[I") (zm_X8_go_r1 (List.mem_of_getElem? (i := 1) rfl))) (fun _ h9 => h9) rfl dX8_go_25 ?_
      refine lv_bipush (v := 21) hx hb dX8_go_28 zk_bipush_21 ?_
      refine va_iald hx hb hK hP 1 0 rfl rfl (by unfold vp_in; decide +kernel) dX8_go_30 ?_
      refine lv_topi (fun x30 ex30 => ?_)
      have fqx30 := congrArg Int32.toInt ex30
      have hF0 := hF0.trans (fl_lt_eq (show x30.toInt = (fl_A fa0_17) (21) from fqx30))
      refine lv_iload_n hx hb dX8_go_31 rfl (lv_at hl 2 rfl) ?_
      refine lv_iadd hx hb dX8_go_32 ?_
      refine lv_topi (fun x32 ex32 => ?_)
      have fqx32 := fl_iadd_eq ex32
      have hF0 := hF0.trans (fl_lt_eq (show x32.toInt = fl_iadd x30.toInt a1.toInt from fqx32))
      refine lv_sipush (v := 9999) hx hb dX8_go_33 zk_sipush_9999 ?_
      refine lv_icmp_le (tgt := 41) hx hb dX8_go_36 (by decide) (fun c36 => ?_) (fun c36 => ?_)
      · have gc36 := ai_le c36
        have u36t_x32 : x32.toInt ≤ (9999 : Int) := Int.le_trans gc36 zq127
        have hF0 := hF0.trans (if_pos (show x32.toInt ≤ 9999 from gc36))
        exact (hK0 _ _ _).mp (J41 0 _ _ _  zq5 (Int.le_trans zq6 zq11) (by rw [show (0 : Int32).toInt = 0 from by decide]; exact hF0) hP hD hS (lv_sub hl [1, 2, 0] rfl))
      · have gc36 := ai_nle c36
        have l36f_x32 : (10000 : Int) ≤ x32.toInt := ai_ltlo gc36 zq129
        have hF0 := hF0.trans (if_neg (show ¬ (x32.toInt ≤ 9999) from Int.not_le.mpr gc36))
        refine lv_iconst (v := 3) hx hb dX8_go_39 zk_iconst_3 ?_
        refine lv_istore_n (lv' := [(2, .int 3), (0, .ref a0), (1, .int a1)]) hx hb dX8_go_40 rfl hl (by decide) rfl (fun ls hl => ?_)
        exact (hK0 _ _ _).mp (J41 3 _ _ _  (Int.le_trans zq11 zq8) zq9 (by rw [show (3 : Int32).toInt = 3 from by decide]; exact hF0) hP hD hS (lv_sub hl [1, 2, 0] rfl))
  · obtain ⟨hw, h13⟩ := hw
    subst hw
    have hF0 := hF0.trans (if_neg (by decide))
    obtain ⟨hPc, hDc, hFc, hCc⟩ := zc_cut (wc := [(a0, .inr (8, [Value.int v1na0_0, a0g_1, a0g_2, a0g_3, a0g_4, a0g_5, a0g_6, a0g_7, a0g_8, a0g_9, a0g_10, Value.int v1na0_11, a0g_12, a0g_13, Value.int a0_14, Value.ref a0_15, a0g_16, Value.ref a0_17, a0g_18, Value.ref a0_19, a0g_20, Value.int a0_21, a0g_22, Value.ref a0_23, Value.ref a0_24, Value.int a0_25, Value.int a0_26, Value.int a0_27, Value.int a0_28, a0g_29, a0g_30, a0g_31, a0g_32, a0g_33, a0g_34, a0g_35, a0g_36, a0g_37, a0g_38, a0g_39]))]) hP hD hS hA [0] (by decide +kernel) rfl
    have hKc := hK.sub (tys' := []) [] rfl
    refine va_calli (va_runV (As := [.int a0_14, .int 0]) (rest := []) ⟨hx, hb, hml, hown, hts⟩ (f_X8_why l dC dI H.size a0 a0_14 0 (Value.int v1na0_0) a0g_1 a0g_2 a0g_3 a0g_4 a0g_5 a0g_6 a0g_7 a0g_8 a0g_9 a0g_10 (Value.int v1na0_11) a0g_12 a0g_13 (Value.int a0_14) (Value.ref a0_15) a0g_16 (Value.ref a0_17) a0g_18 (Value.ref a0_19) a0g_20 (Value.int a0_21) a0g_22 (Value.ref a0_23) (Value.ref a0_24) (Value.int a0_25) (Value.int a0_26) (Value.int a0_27) (Value.int a0_28) a0g_29 a0g_30 a0g_31 a0g_32 a0g_33 a0g_34 a0g_35 a0g_36 a0g_37 a0g_38 a0g_39 (Int.le_trans zq4 ba0_14_l) ba0_14_u zq5 (Int.le_trans zq6 zq4)) (cwV 2 hts gX8_go_X8_why rfl rfl rfl zd_X8_why ⟨Nat.le_of_ble_eq_true rfl, Nat.le_of_ble_eq_true rfl⟩) ⟨ax_blind (fun _ _ _ _ _ => trivial), zr_8 hKc hPc (q0 := 0) rfl, ax_pre hPc hKc hDc (fun _ _ => trivial)⟩ rfl rfl hl.1 rfl (lv_room (Nat.le_of_ble_eq_true rfl)) dX8_go_16 ⟨Nat.le_of_ble_eq_true rfl, Nat.le_of_ble_eq_true rfl⟩) hS (fun q _ h => hFc q h) hFc (fun r16 u t H locs ht hvm hw hB hz1 hk1 hS => ?_)
    obtain ⟨hP1, hK1, hD1⟩ := hB
    rw [ht] at hP1
    obtain ⟨hP, hD⟩ := zc_back (w := [(a0, .inr (8, [Value.int v1na0_0, a0g_1, a0g_2, a0g_3, a0g_4, a0g_5, a0g_6, a0g_7, a0g_8, a0g_9, a0g_10, Value.int v1na0_11, a0g_12, a0g_13, Value.int a0_14, Value.ref a0_15, a0g_16, Value.ref a0_17, a0g_18, Value.ref a0_19, a0g_20, Value.int a0_21, a0g_22, Value.ref a0_23, Value.ref a0_24, Value.int a0_25, Value.int a0_26, Value.int a0_27, Value.int a0_28, a0g_29, a0g_30, a0g_31, a0g_32, a0g_33, a0g_34, a0g_35, a0g_36, a0g_37, a0g_38, a0g_39])), (a0_17, .inl (ka0_17, 23, .inl (fa0_17))), (a0_19, .inl (ka0_19, 368, .inl (fa0_19))), (a0_15, .inl (ka0_15, 156, .inl (fa0_15))), (a0_23, .inl (ka0_23, 3, .inl (fa0_23))), (a0_24, .inl (ka0_24, 3, .inl (fa0_24)))]) hP hD hCc hk1 hFc hP1 hD1 [.inr 0, .inl 1, .inl 2, .inl 3, .inl 4, .inl 5] (by decide +kernel) rfl
    obtain ⟨hw, hfr16⟩ := hw
    rw [show (0 : Int32).toInt = 0 from by decide] at hfr16
    have hc16 : Ff_X8_why a0_14.toInt 0 = r16.toInt := hfr16.symm
    have hF0 := hF0.trans (fl_lt_eq hc16.symm)
    rcases hw with hw | hw | hw
    · obtain ⟨hw, h16_0, h16_1, h16_2, h16_3⟩ := hw
      subst hw
      have l16k0_a0_14 : (1 : Int) ≤ a0_14.toInt := ba0_14_l
      have u16k0_a0_14 : a0_14.toInt ≤ (1 : Int) := ba0_14_u
      have hF0 := hF0.trans (if_pos (by decide))
      refine lv_istore_n (lv' := [(2, .int 2), (0, .ref a0), (1, .int a1)]) hx hb dX8_go_19 rfl hl (by decide) rfl (fun ls hl => ?_)
      refine lv_iload_n hx hb dX8_go_20 rfl (lv_at hl 0 rfl) ?_
      refine lv_if_ne (tgt := 41) hx hb dX8_go_21 (by decide) (fun _ => ?_) (fun c21 => absurd c21 (by decide +kernel))
      have J41 : ∀ (j41l2 : Int32) (H : Heap) (locs : List Loc) (ls : Array Slot), (0 : Int) ≤ j41l2.toInt → j41l2.toInt ≤ (3 : Int) → (FX = Gf_X8_go_41_2 a1.toInt a0_21.toInt a0_25.toInt a0_26.toInt a0_27.toInt a0_28.toInt (fl_A fa0_17) (fl_A fa0_19) (fl_A fa0_15) (fl_A fa0_23) (fl_A fa0_24) v1na0_0.toInt v1na0_11.toInt j41l2.toInt) → va_P (dC, dI) vwCl [(a0, .inr (8, [Value.int v1na0_0, a0g_1, a0g_2, a0g_3, a0g_4, a0g_5, a0g_6, a0g_7, a0g_8, a0g_9, a0g_10, Value.int v1na0_11, a0g_12, a0g_13, Value.int a0_14, Value.ref a0_15, a0g_16, Value.ref a0_17, a0g_18, Value.ref a0_19, a0g_20, Value.int a0_21, a0g_22, Value.ref a0_23, Value.ref a0_24, Value.int a0_25, Value.int a0_26, Value.int a0_27, Value.int a0_28, a0g_29, a0g_30, a0g_31, a0g_32, a0g_33, a0g_34, a0g_35, a0g_36, a0g_37, a0g_38, a0g_39])), (a0_17, .inl (ka0_17, 23, .inl (fa0_17))), (a0_19, .inl (ka0_19, 368, .inl (fa0_19))), (a0_15, .inl (ka0_15, 156, .inl (fa0_15))), (a0_23, .inl (ka0_23, 3, .inl (fa0_23))), (a0_24, .inl (ka0_24, 3, .inl (fa0_24)))] H → va_D A [(a0, .inr (8, [Value.int v1na0_0, a0g_1, a0g_2, a0g_3, a0g_4, a0g_5, a0g_6, a0g_7, a0g_8, a0g_9, a0g_10, Value.int v1na0_11, a0g_12, a0g_13, Value.int a0_14, Value.ref a0_15, a0g_16, Value.ref a0_17, a0g_18, Value.ref a0_19, a0g_20, Value.int a0_21, a0g_22, Value.ref a0_23, Value.ref a0_24, Value.int a0_25, Value.int a0_26, Value.int a0_27, Value.int a0_28, a0g_29, a0g_30, a0g_31, a0g_32, a0g_33, a0g_34, a0g_35, a0g_36, a0g_37, a0g_38, a0g_39])), (a0_17, .inl (ka0_17, 23, .inl (fa0_17))), (a0_19, .inl (ka0_19, 368, .inl (fa0_19))), (a0_15, .inl (ka0_15, 156, .inl (fa0_15))), (a0_23, .inl (ka0_23, 3, .inl (fa0_23))), (a0_24, .inl (ka0_24, 3, .inl (fa0_24)))] → va_S A s.heap H locs → lv_has ls 5 [(0, .ref a0), (1, .int a1), (2, .int j41l2)] → K H locs (F0 m 41 ls []) := by
        intro j41l2 H locs ls  bj41l2_l bj41l2_u hF0 hP hD hS hl
        refine (hK0 _ _ _).mpr ?_
        have hF0 := hF0.trans (Gf_X8_go_41_2.eq_1 a1.toInt a0_21.toInt a0_25.toInt a0_26.toInt a0_27.toInt a0_28.toInt (fl_A fa0_17) (fl_A fa0_19) (fl_A fa0_15) (fl_A fa0_23) (fl_A fa0_24) v1na0_0.toInt v1na0_11.toInt j41l2.toInt)
        refine lv_iload_n hx hb dX8_go_41 rfl (lv_at hl 2 rfl) ?_
        refine lv_if_eq (tgt := 51) hx hb dX8_go_42 (by decide) (fun c42 => ?_) (fun c42 => ?_)
        · have gc42 := ai_eq c42
          have u42t_j41l2 : j41l2.toInt ≤ (0 : Int) := Int.le_trans (Int.le_of_eq gc42) zq6
          have l42t_j41l2 : (0 : Int) ≤ j41l2.toInt := bj41l2_l
          have hF0 := hF0.trans (if_pos (show j41l2.toInt = 0 from gc42))
          refine lv_aload_n hx hb dX8_go_51 rfl (lv_at hl 0 rfl) ?_
          obtain ⟨hPc, hDc, hFc, hCc⟩ := zc_cut (wc := [(a0, .inr (8, [Value.int v1na0_0, a0g_1, a0g_2, a0g_3, a0g_4, a0g_5, a0g_6, a0g_7, a0g_8, a0g_9, a0g_10, Value.int v1na0_11, a0g_12, a0g_13, Value.int a0_14, Value.ref a0_15, a0g_16, Value.ref a0_17, a0g_18, Value.ref a0_19, a0g_20, Value.int a0_21, a0g_22, Value.ref a0_23, Value.ref a0_24, Value.int a0_25, Value.int a0_26, Value.int a0_27, Value.int a0_28, a0g_29, a0g_30, a0g_31, a0g_32, a0g_33, a0g_34, a0g_35, a0g_36, a0g_37, a0g_38, a0g_39])), (a0_17, .inl (ka0_17, 23, .inl (fa0_17))), (a0_19, .inl (ka0_19, 368, .inl (fa0_19)))]) hP hD hS hA [0, 1, 2] (by decide +kernel) rfl
          have hKc := hK.sub (tys' := [(ka0_17, .int), (ka0_19, .int)]) [0, 1] rfl
          refine va_callv (va_runV (As := []) (rest := []) ⟨hx, hb, hml, hown, hts⟩ (f_X8_note l dC dI H.size a0 (Value.int v1na0_0) a0g_1 a0g_2 a0g_3 a0g_4 a0g_5 a0g_6 a0g_7 a0g_8 a0g_9 a0g_10 (Value.int v1na0_11) a0g_12 a0g_13 (Value.int a0_14) (Value.ref a0_15) a0g_16 a0g_18 a0g_20 a0g_22 (Value.ref a0_23) (Value.ref a0_24) (Value.int a0_25) (Value.int a0_26) (Value.int a0_27) (Value.int a0_28) a0g_29 a0g_30 a0g_31 a0g_32 a0g_33 a0g_34 a0g_35 a0g_36 a0g_37 a0g_38 a0g_39 a0_17 a0_19 a0_21 ka0_17 fa0_17 ka0_19 fa0_19 ba0_21_l ba0_21_u bfa0_17 bfa0_19) (cwV 0 hts gX8_go_X8_note rfl rfl rfl zd_X8_note ⟨Nat.le_of_ble_eq_true rfl, Nat.le_of_ble_eq_true rfl⟩) ⟨ax_blind (fun _ _ _ _ _ => trivial), zr_8 hKc hPc (q0 := 0) rfl, ax_pre hPc hKc hDc (fun _ _ => trivial)⟩ rfl rfl hl.1 rfl (lv_room (Nat.le_of_ble_eq_true rfl)) dX8_go_52 ⟨Nat.le_of_ble_eq_true rfl, Nat.le_of_ble_eq_true rfl⟩) hS (fun q _ h => hFc q h) hFc (fun u t H locs ht hvm hw hB hz1 hk1 hS => ?_)
          obtain ⟨v52na0_21, v52nfa0_19, bv52na0_21, bv52nfa0_19, hraw52_0, hP1, hK1, hD1⟩ := hB
          rw [ht] at hP1
          obtain ⟨hP, hD⟩ := zc_back (w := [(a0, .inr (8, [Value.int v1na0_0, a0g_1, a0g_2, a0g_3, a0g_4, a0g_5, a0g_6, a0g_7, a0g_8, a0g_9, a0g_10, Value.int v1na0_11, a0g_12, a0g_13, Value.int a0_14, Value.ref a0_15, a0g_16, Value.ref a0_17, a0g_18, Value.ref a0_19, a0g_20, Value.int v52na0_21, a0g_22, Value.ref a0_23, Value.ref a0_24, Value.int a0_25, Value.int a0_26, Value.int a0_27, Value.int a0_28, a0g_29, a0g_30, a0g_31, a0g_32, a0g_33, a0g_34, a0g_35, a0g_36, a0g_37, a0g_38, a0g_39])), (a0_17, .inl (ka0_17, 23, .inl (fa0_17))), (a0_19, .inl (ka0_19, 368, .inl (v52nfa0_19))), (a0_15, .inl (ka0_15, 156, .inl (fa0_15))), (a0_23, .inl (ka0_23, 3, .inl (fa0_23))), (a0_24, .inl (ka0_24, 3, .inl (fa0_24)))]) hP hD hCc hk1 hFc hP1 hD1 [.inr 0, .inr 1, .inr 2, .inl 3, .inl 4, .inl 5] (by decide +kernel) rfl
          have hc52 : Ff_X8_note a0_21.toInt (fl_A fa0_17) (fl_A fa0_19) = (v52na0_21.toInt, (fl_A v52nfa0_19)) := hraw52_0
          have hF0 := hF0.trans (fl_c2_eq hc52)
          refine lv_aload_n hx hb dX8_go_55 rfl (lv_at hl 0 rfl) ?_
          obtain ⟨hPc, hDc, hFc, hCc⟩ := zc_cut (wc := [(a0, .inr (8, [Value.int v1na0_0, a0g_1, a0g_2, a0g_3, a0g_4, a0g_5, a0g_6, a0g_7, a0g_8, a0g_9, a0g_10, Value.int v1na0_11, a0g_12, a0g_13, Value.int a0_14, Value.ref a0_15, a0g_16, Value.ref a0_17, a0g_18, Value.ref a0_19, a0g_20, Value.int v52na0_21, a0g_22, Value.ref a0_23, Value.ref a0_24, Value.int a0_25, Value.int a0_26, Value.int a0_27, Value.int a0_28, a0g_29, a0g_30, a0g_31, a0g_32, a0g_33, a0g_34, a0g_35, a0g_36, a0g_37, a0g_38, a0g_39])), (a0_15, .inl (ka0_15, 156, .inl (fa0_15))), (a0_23, .inl (ka0_23, 3, .inl (fa0_23))), (a0_24, .inl (ka0_24, 3, .inl (fa0_24)))]) hP hD hS hA [0, 3, 4, 5] (by decide +kernel) rfl
          have hKc := hK.sub (tys' := [(ka0_15, .int), (ka0_23, .int), (ka0_24, .int)]) [2, 3, 4] rfl
          refine va_callv (va_runV (As := []) (rest := []) ⟨hx, hb, hml, hown, hts⟩ (f_X8_watchAsTold l dC dI H.size a0 (Value.int v1na0_0) a0g_1 a0g_2 a0g_3 a0g_4 a0g_5 a0g_6 a0g_7 a0g_8 a0g_9 a0g_10 (Value.int v1na0_11) a0g_12 a0g_13 (Value.int a0_14) a0g_16 (Value.ref a0_17) a0g_18 (Value.ref a0_19) a0g_20 (Value.int v52na0_21) a0g_22 (Value.int a0_26) (Value.int a0_27) (Value.int a0_28) a0g_29 a0g_30 a0g_31 a0g_32 a0g_33 a0g_34 a0g_35 a0g_36 a0g_37 a0g_38 a0g_39 a0_15 a0_23 a0_24 a0_25 ka0_15 fa0_15 ka0_23 fa0_23 ka0_24 fa0_24 bfa0_15 bfa0_23 bfa0_24) (cwV 0 hts gX8_go_X8_watchAsTold rfl rfl rfl zd_X8_watchAsTold ⟨Nat.le_of_ble_eq_true rfl, Nat.le_of_ble_eq_true rfl⟩) ⟨ax_blind (fun _ _ _ _ _ => trivial), zr_8 hKc hPc (q0 := 0) rfl, ax_pre hPc hKc hDc (fun _ _ => trivial)⟩ rfl rfl hl.1 rfl (lv_room (Nat.le_of_ble_eq_true rfl)) dX8_go_56 ⟨Nat.le_of_ble_eq_true rfl, Nat.le_of_ble_eq_true rfl⟩) hS (fun q _ h => hFc q h) hFc (fun u t H locs ht hvm hw hB hz1 hk1 hS => ?_)
          obtain ⟨v56na0_25, v56nfa0_23, v56nfa0_24, bv56nfa0_23, bv56nfa0_24, hraw56_0, hP1, hK1, hD1⟩ := hB
          rw [ht] at hP1
          obtain ⟨hP, hD⟩ := zc_back (w := [(a0, .inr (8, [Value.int v1na0_0, a0g_1, a0g_2, a0g_3, a0g_4, a0g_5, a0g_6, a0g_7, a0g_8, a0g_9, a0g_10, Value.int v1na0_11, a0g_12, a0g_13, Value.int a0_14, Value.ref a0_15, a0g_16, Value.ref a0_17, a0g_18, Value.ref a0_19, a0g_20, Value.int v52na0_21, a0g_22, Value.ref a0_23, Value.ref a0_24, Value.int v56na0_25, Value.int a0_26, Value.int a0_27, Value.int a0_28, a0g_29, a0g_30, a0g_31, a0g_32, a0g_33, a0g_34, a0g_35, a0g_36, a0g_37, a0g_38, a0g_39])), (a0_17, .inl (ka0_17, 23, .inl (fa0_17))), (a0_19, .inl (ka0_19, 368, .inl (v52nfa0_19))), (a0_15, .inl (ka0_15, 156, .inl (fa0_15))), (a0_23, .inl (ka0_23, 3, .inl (v56nfa0_23))), (a0_24, .inl (ka0_24, 3, .inl (v56nfa0_24)))]) hP hD hCc hk1 hFc hP1 hD1 [.inr 0, .inl 1, .inl 2, .inr 1, .inr 2, .inr 3] (by decide +kernel) rfl
          have hc56 : Ff_X8_watchAsTold (fl_A fa0_15) (fl_A fa0_23) (fl_A fa0_24) = (v56na0_25.toInt, (fl_A v56nfa0_23), (fl_A v56nfa0_24)) := hraw56_0
          have hF0 := hF0.trans (fl_c3_eq hc56)
          refine lv_aload_n hx hb dX8_go_59 rfl (lv_at hl 0 rfl) ?_
          refine va_get (D := (dC, dI)) (ci := 8) (v := .ref a0_17) (C := RX8) (T := TX8) (N := 40) hx hb hts zi_X8_go_8 hown hK hP 0 rfl rfl 17 (by decide) (hts (.fieldLink RX8 26 "WaxTurnsModel" "st" "[I") (zm_X8_go_r1 (List.mem_of_getElem? (i := 1) rfl))) (fun _ h9 => h9) rfl dX8_go_60 ?_
          refine lv_bipush (v := 18) hx hb dX8_go_63 zk_bipush_18 ?_
          refine va_iald hx hb hK hP 1 0 rfl rfl (by unfold vp_in; decide +kernel) dX8_go_65 ?_
          refine lv_topi (fun x65 ex65 => ?_)
          have fqx65 := congrArg Int32.toInt ex65
          have hF0 := hF0.trans (fl_lt_eq (show x65.toInt = (fl_A fa0_17) (18) from fqx65))
          refine lv_istore_n (lv' := [(3, .int x65), (0, .ref a0), (1, .int a1), (2, .int j41l2)]) hx hb dX8_go_66 rfl hl (by decide) rfl (fun ls hl => ?_)
          refine lv_iconst (v := 0) hx hb dX8_go_67 zk_iconst_0 ?_
          refine lv_istore (lv' := [(4, .int 0), (3, .int x65), (0, .ref a0), (1, .int a1), (2, .int j41l2)]) hx hb dX8_go_68 hl (by decide) rfl (fun ls hl => ?_)
          have J70 : ∀ (n : Nat) (j70l4 : Int32) (j70a0_26 : Int32) (j70a0_27 : Int32) (j70a0_28 : Int32) (j70a0_17_a : Nat → Int32) (H : Heap) (locs : List Loc) (ls : Array Slot), (2147483648 : Int) - j70l4.toInt ≤ (n : Int) → (0 : Int) ≤ j70l4.toInt → ((∀ k : Nat, 0 ≤ k → k ≤ 8 → (0 : Int) ≤ (j70a0_17_a k).toInt ∧ (j70a0_17_a k).toInt ≤ 8) ∧ (∀ k : Nat, 19 ≤ k → k ≤ 19 → (0 : Int) ≤ (j70a0_17_a k).toInt ∧ (j70a0_17_a k).toInt ≤ 8) ∧ (∀ k : Nat, 20 ≤ k → k ≤ 20 → (0 : Int) ≤ (j70a0_17_a k).toInt ∧ (j70a0_17_a k).toInt ≤ 19)) → (FX = fl_wh (fun t9 => Sf_X8_go_70_2 a1.toInt (fl_A fa0_15) v1na0_0.toInt v1na0_11.toInt v52na0_21.toInt (fl_A v52nfa0_19) v56na0_25.toInt (fl_A v56nfa0_23) (fl_A v56nfa0_24) x65.toInt t9.1 t9.2.1 t9.2.2.1 t9.2.2.2.1 t9.2.2.2.2) (0, 0, 0, 0, 0, 0, 0, 0, (fun _ => 0), (fun _ => 0), (fun _ => 0), (fun _ => 0)) n (j70l4.toInt, j70a0_26.toInt, j70a0_27.toInt, j70a0_28.toInt, (fl_A j70a0_17_a))) → va_P (dC, dI) vwCl [(a0, .inr (8, [Value.int v1na0_0, a0g_1, a0g_2, a0g_3, a0g_4, a0g_5, a0g_6, a0g_7, a0g_8, a0g_9, a0g_10, Value.int v1na0_11, a0g_12, a0g_13, Value.int a0_14, Value.ref a0_15, a0g_16, Value.ref a0_17, a0g_18, Value.ref a0_19, a0g_20, Value.int v52na0_21, a0g_22, Value.ref a0_23, Value.ref a0_24, Value.int v56na0_25, Value.int j70a0_26, Value.int j70a0_27, Value.int j70a0_28, a0g_29, a0g_30, a0g_31, a0g_32, a0g_33, a0g_34, a0g_35, a0g_36, a0g_37, a0g_38, a0g_39])), (a0_17, .inl (ka0_17, 23, .inl (j70a0_17_a))), (a0_19, .inl (ka0_19, 368, .inl (v52nfa0_19))), (a0_15, .inl (ka0_15, 156, .inl (fa0_15))), (a0_23, .inl (ka0_23, 3, .inl (v56nfa0_23))), (a0_24, .inl (ka0_24, 3, .inl (v56nfa0_24)))] H → va_D A [(a0, .inr (8, [Value.int v1na0_0, a0g_1, a0g_2, a0g_3, a0g_4, a0g_5, a0g_6, a0g_7, a0g_8, a0g_9, a0g_10, Value.int v1na0_11, a0g_12, a0g_13, Value.int a0_14, Value.ref a0_15, a0g_16, Value.ref a0_17, a0g_18, Value.ref a0_19, a0g_20, Value.int v52na0_21, a0g_22, Value.ref a0_23, Value.ref a0_24, Value.int v56na0_25, Value.int j70a0_26, Value.int j70a0_27, Value.int j70a0_28, a0g_29, a0g_30, a0g_31, a0g_32, a0g_33, a0g_34, a0g_35, a0g_36, a0g_37, a0g_38, a0g_39])), (a0_17, .inl (ka0_17, 23, .inl (j70a0_17_a))), (a0_19, .inl (ka0_19, 368, .inl (v52nfa0_19))), (a0_15, .inl (ka0_15, 156, .inl (fa0_15))), (a0_23, .inl (ka0_23, 3, .inl (v56nfa0_23))), (a0_24, .inl (ka0_24, 3, .inl (v56nfa0_24)))] → va_S A s.heap H locs → lv_has ls 5 [(0, .ref a0), (1, .int a1), (3, .int x65), (4, .int j70l4)] → K H locs (F0 m 70 ls []) := by
            intro n
            induction n with
            | zero =>
              intro j70l4 j70a0_26 j70a0_27 j70a0_28 j70a0_17_a H locs ls hm bj70l4_l bj70a0_17_a hF0 hP hD hS hl
              have h8 := ai_min j70l4
              have h9 := ai_max j70l4
              exact absurd hm (by omega)
            | succ n ih70 =>
              intro j70l4 j70a0_26 j70a0_27 j70a0_28 j70a0_17_a H locs ls hm bj70l4_l bj70a0_17_a hF0 hP hD hS hl
              refine (hK0 _ _ _).mpr ?_
              have hm70 := hm
              obtain ⟨SX70, hSX70⟩ : ∃ q9, Sf_X8_go_70_2 a1.toInt (fl_A fa0_15) v1na0_0.toInt v1na0_11.toInt v52na0_21.toInt (fl_A v52nfa0_19) v56na0_25.toInt (fl_A v56nfa0_23) (fl_A v56nfa0_24) x65.toInt j70l4.toInt j70a0_26.toInt j70a0_27.toInt j70a0_28.toInt (fl_A j70a0_17_a) = q9 := ⟨_, rfl⟩
              have hF1 := hSX70.symm.trans (Sf_X8_go_70_2.eq_1 a1.toInt (fl_A fa0_15) v1na0_0.toInt v1na0_11.toInt v52na0_21.toInt (fl_A v52nfa0_19) v56na0_25.toInt (fl_A v56nfa0_23) (fl_A v56nfa0_24) x65.toInt j70l4.toInt j70a0_26.toInt j70a0_27.toInt j70a0_28.toInt (fl_A j70a0_17_a))
              refine lv_iload hx hb dX8_go_70 (lv_at hl 3 rfl) ?_
              refine lv_iload_n hx hb dX8_go_72 rfl (lv_at hl 1 rfl) ?_
              refine lv_icmp_ge (tgt := 90) hx hb dX8_go_73 (by decide) (fun c73 => ?_) (fun c73 => ?_)
              · have gc73 := ai_le c73
                have hF1 := hF1.trans (if_pos (show a1.toInt ≤ j70l4.toInt from gc73))
                have hF0 := hF0.trans (fl_wh_r (hSX70.trans hF1))
                refine lv_aload_n hx hb dX8_go_90 rfl (lv_at hl 0 rfl) ?_
                refine va_get (D := (dC, dI)) (ci := 8) (v := .ref a0_17) (C := RX8) (T := TX8) (N := 40) hx hb hts zi_X8_go_8 hown hK hP 0 rfl rfl 17 (by decide) (hts (.fieldLink RX8 26 "WaxTurnsModel" "st" "[I") (zm_X8_go_r1 (List.mem_of_getElem? (i := 1) rfl))) (fun _ h9 => h9) rfl dX8_go_91 ?_
                refine lv_bipush (v := 18) hx hb dX8_go_94 zk_bipush_18 ?_
                refine va_iald hx hb hK hP 1 0 rfl rfl (by unfold vp_in; decide +kernel) dX8_go_96 ?_
                refine lv_topi (fun x96 ex96 => ?_)
                have fqx96 := congrArg Int32.toInt ex96
                have hF0 := hF0.trans (fl_lt_eq (show x96.toInt = (fl_A j70a0_17_a) (18) from fqx96))
                refine lv_iload_n hx hb dX8_go_97 rfl (lv_at hl 2 rfl) ?_
                refine lv_iconst (v := (-1)) hx hb dX8_go_98 zk_iconst_n1 ?_
                refine lv_ixor hx hb dX8_go_99 ?_
                refine lv_topi (fun x99 ex99 => ?_)
                have fqx99 := fl_xor_eq ex99
                have hF0 := hF0.trans (fl_lt_eq (show x99.toInt = fl_xor x65.toInt (-1) from fqx99))
                refine lv_iand hx hb dX8_go_100 ?_
                refine lv_topi (fun x100 ex100 => ?_)
                have fqx100 := fl_and_eq ex100
                have hF0 := hF0.trans (fl_lt_eq (show x100.toInt = fl_and x96.toInt x99.toInt from fqx100))
                have hFe : FX = (x100.toInt, v1na0_0.toInt, v1na0_11.toInt, v52na0_21.toInt, v56na0_25.toInt, j70a0_26.toInt, j70a0_27.toInt, j70a0_28.toInt, (fl_A j70a0_17_a), (fl_A v52nfa0_19), (fl_A v56nfa0_23), (fl_A v56nfa0_24)) := hF0
                exact W.iret (v := x100) hx hb hr (fun t ht hW => ⟨⟨x100, (), rfl, ⟨trivial, (congrArg Prod.fst hFe).symm⟩, v1na0_0, v1na0_11, v52na0_21, v56na0_25, j70a0_26, j70a0_27, j70a0_28, j70a0_17_a, v52nfa0_19, v56nfa0_23, v56nfa0_24, ⟨bv52na0_21.1, bv52na0_21.2⟩, bj70a0_17_a, bv52nfa0_19, bv56nfa0_23, bv56nfa0_24, (congrArg Prod.snd hFe), by rw [ht]; exact hP, va_K.moved hW.alike hK, hD⟩, hS.F ht⟩) hS.2.2 dX8_go_101
              · have gc73 := ai_nle c73
                have u73f_j70l4 : j70l4.toInt ≤ (2147483646 : Int) := ai_lthi gc73 (ai_max a1)
                have l73f_a1 : (1 : Int) ≤ a1.toInt := ai_ltlo gc73 bj70l4_l
                have hF1 := hF1.trans (if_neg (show ¬ (a1.toInt ≤ j70l4.toInt) from Int.not_le.mpr gc73))
                refine lv_aload_n hx hb dX8_go_76 rfl (lv_at hl 0 rfl) ?_
                refine lv_aload_n hx hb dX8_go_77 rfl (lv_at hl 0 rfl) ?_
                refine va_get (D := (dC, dI)) (ci := 8) (v := .ref a0_17) (C := RX8) (T := TX8) (N := 40) hx hb hts zi_X8_go_8 hown hK hP 0 rfl rfl 17 (by decide) (hts (.fieldLink RX8 26 "WaxTurnsModel" "st" "[I") (zm_X8_go_r1 (List.mem_of_getElem? (i := 1) rfl))) (fun _ h9 => h9) rfl dX8_go_78 ?_
                obtain ⟨hPc, hDc, hFc, hCc⟩ := zc_cut (wc := [(a0, .inr (8, [Value.int v1na0_0, a0g_1, a0g_2, a0g_3, a0g_4, a0g_5, a0g_6, a0g_7, a0g_8, a0g_9, a0g_10, Value.int v1na0_11, a0g_12, a0g_13, Value.int a0_14, Value.ref a0_15, a0g_16, Value.ref a0_17, a0g_18, Value.ref a0_19, a0g_20, Value.int v52na0_21, a0g_22, Value.ref a0_23, Value.ref a0_24, Value.int v56na0_25, Value.int j70a0_26, Value.int j70a0_27, Value.int j70a0_28, a0g_29, a0g_30, a0g_31, a0g_32, a0g_33, a0g_34, a0g_35, a0g_36, a0g_37, a0g_38, a0g_39])), (a0_17, .inl (ka0_17, 23, .inl (j70a0_17_a))), (a0_15, .inl (ka0_15, 156, .inl (fa0_15))), (a0_24, .inl (ka0_24, 3, .inl (v56nfa0_24))), (a0_23, .inl (ka0_23, 3, .inl (v56nfa0_23)))]) hP hD hS hA [0, 1, 3, 5, 4] (by decide +kernel) rfl
                have hKc := hK.sub (tys' := [(ka0_17, .int), (ka0_15, .int), (ka0_24, .int), (ka0_23, .int)]) [0, 2, 4, 3] rfl
                refine va_callv (va_runV (As := [.ref a0_17]) (rest := []) ⟨hx, hb, hml, hown, hts⟩ (f_X8_minuteOn l dC dI H.size a0 a0_17 (Value.int v1na0_0) a0g_1 a0g_2 a0g_3 a0g_4 a0g_5 a0g_6 a0g_7 a0g_8 a0g_9 a0g_10 (Value.int v1na0_11) a0g_12 a0g_13 (Value.int a0_14) a0g_16 (Value.ref a0_17) a0g_18 (Value.ref a0_19) a0g_20 (Value.int v52na0_21) a0g_22 a0g_29 a0g_30 a0g_31 a0g_32 a0g_33 a0g_34 a0g_35 a0g_36 a0g_37 a0g_38 a0g_39 a0_15 a0_23 a0_24 v56na0_25 j70a0_26 j70a0_27 j70a0_28 ka0_17 j70a0_17_a ka0_15 fa0_15 ka0_24 v56nfa0_24 ka0_23 v56nfa0_23 bj70a0_17_a bfa0_15 bv56nfa0_24 bv56nfa0_23 hkm) (cwV 1 hts gX8_go_X8_minuteOn rfl rfl rfl zd_X8_minuteOn ⟨Nat.le_of_ble_eq_true rfl, Nat.le_of_ble_eq_true rfl⟩) ⟨ax_blind (fun _ _ _ _ _ => trivial), zr_8 hKc hPc (q0 := 0) rfl, ax_pre hPc hKc hDc (fun _ _ => trivial)⟩ rfl rfl hl.1 rfl (lv_room (Nat.le_of_ble_eq_true rfl)) dX8_go_81 ⟨Nat.le_of_ble_eq_true rfl, Nat.le_of_ble_eq_true rfl⟩) hS (fun q _ h => hFc q h) hFc (fun u t H locs ht hvm hw hB hz1 hk1 hS => ?_)
                obtain ⟨v81na0_26, v81na0_27, v81na0_28, v81nfa1, bv81nfa1, hraw81_0, hP1, hK1, hD1⟩ := hB
                rw [ht] at hP1
                obtain ⟨hP, hD⟩ := zc_back (w := [(a0, .inr (8, [Value.int v1na0_0, a0g_1, a0g_2, a0g_3, a0g_4, a0g_5, a0g_6, a0g_7, a0g_8, a0g_9, a0g_10, Value.int v1na0_11, a0g_12, a0g_13, Value.int a0_14, Value.ref a0_15, a0g_16, Value.ref a0_17, a0g_18, Value.ref a0_19, a0g_20, Value.int v52na0_21, a0g_22, Value.ref a0_23, Value.ref a0_24, Value.int v56na0_25, Value.int v81na0_26, Value.int v81na0_27, Value.int v81na0_28, a0g_29, a0g_30, a0g_31, a0g_32, a0g_33, a0g_34, a0g_35, a0g_36, a0g_37, a0g_38, a0g_39])), (a0_17, .inl (ka0_17, 23, .inl (v81nfa1))), (a0_19, .inl (ka0_19, 368, .inl (v52nfa0_19))), (a0_15, .inl (ka0_15, 156, .inl (fa0_15))), (a0_23, .inl (ka0_23, 3, .inl (v56nfa0_23))), (a0_24, .inl (ka0_24, 3, .inl (v56nfa0_24)))]) hP hD hCc hk1 hFc hP1 hD1 [.inr 0, .inr 1, .inl 2, .inr 2, .inr 4, .inr 3] (by decide +kernel) rfl
                have hc81 : Ff_X8_minuteOn v56na0_25.toInt (fl_A j70a0_17_a) (fl_A fa0_15) (fl_A v56nfa0_24) (fl_A v56nfa0_23) = (v81na0_26.toInt, v81na0_27.toInt, v81na0_28.toInt, (fl_A v81nfa1)) := hraw81_0
                have hF1 := hF1.trans (fl_c4_eq hc81)
                obtain ⟨x84, ex84⟩ : ∃ y : Int32, y = j70l4 + Int32.ofInt 1 := ⟨_, rfl⟩
                have qx84 : x84.toInt = j70l4.toInt + 1 := ai_inc ex84 (by decide) (by decide) u73f_j70l4 (by decide)
                have bx84 : (1 : Int) ≤ x84.toInt ∧ x84.toInt ≤ 2147483647 := ⟨by rw [qx84]; exact Int.add_le_add bj70l4_l (Int.le_refl _), by rw [qx84]; exact Int.add_le_add u73f_j70l4 (Int.le_refl _)⟩
                refine lv_iinc (v := x84) (lv' := [(4, .int x84), (0, .ref a0), (1, .int a1), (3, .int x65)]) hx hb dX8_go_84 hl (k := 3) rfl ex84.symm (by decide) rfl (fun ls hl => ?_)
                have hF1 := hF1.trans (fl_lt_eq (show x84.toInt = j70l4.toInt + 1 from qx84))
                refine lv_goto (tgt := 70) hx hb dX8_go_87 (by decide) ?_
                exact (hK0 _ _ _).mp (ih70 x84 v81na0_26 v81na0_27 v81na0_28 v81nfa1 _ _ _ (by have h0 := qx84; omega) (Int.le_trans zq4 bx84.1) bv81nfa1 (hF0.trans (fl_wh_l (hSX70.trans hF1))) hP hD hS (lv_sub hl [1, 2, 3, 0] rfl))
          exact (hK0 _ _ _).mp (J70 2147483648 0 a0_26 a0_27 a0_28 fa0_17 _ _ _ (by have h1 : (0 : Int) ≤ (0 : Int32).toInt := zq5; have h2 : (0 : Int32).toInt ≤ (0 : Int) := zq6; omega) zq5 bfa0_17 (by rw [show (0 : Int32).toInt = 0 from by decide]; exact hF0) hP hD hS (lv_sub hl [2, 3, 1, 0] rfl))
        · have gc42 := ai_ne c42
          have l42f_j41l2 : (1 : Int) ≤ j41l2.toInt := (by have h1 := bj41l2_l; have h2 : (0 : Int32).toInt = 0 := (by decide); rw [h2] at gc42; omega)
          have hF0 := hF0.trans (if_neg (show ¬ (j41l2.toInt = 0) from  gc42))
          refine lv_aload_n hx hb dX8_go_45 rfl (lv_at hl 0 rfl) ?_
          refine lv_iload_n hx hb dX8_go_46 rfl (lv_at hl 2 rfl) ?_
          obtain ⟨hPc, hDc, hFc, hCc⟩ := zc_cut (wc := [(a0, .inr (8, [Value.int v1na0_0, a0g_1, a0g_2, a0g_3, a0g_4, a0g_5, a0g_6, a0g_7, a0g_8, a0g_9, a0g_10, Value.int v1na0_11, a0g_12, a0g_13, Value.int a0_14, Value.ref a0_15, a0g_16, Value.ref a0_17, a0g_18, Value.ref a0_19, a0g_20, Value.int a0_21, a0g_22, Value.ref a0_23, Value.ref a0_24, Value.int a0_25, Value.int a0_26, Value.int a0_27, Value.int a0_28, a0g_29, a0g_30, a0g_31, a0g_32, a0g_33, a0g_34, a0g_35, a0g_36, a0g_37, a0g_38, a0g_39]))]) hP hD hS hA [0] (by decide +kernel) rfl
          have hKc := hK.sub (tys' := []) [] rfl
          refine va_calli (va_runV (As := [.int j41l2]) (rest := []) ⟨hx, hb, hml, hown, hts⟩ (f_X8_no l dC dI H.size a0 j41l2 (Value.int v1na0_0) a0g_1 a0g_2 a0g_3 a0g_4 a0g_5 a0g_6 a0g_7 a0g_8 a0g_9 a0g_10 a0g_12 a0g_13 (Value.int a0_14) (Value.ref a0_15) a0g_16 (Value.ref a0_17) a0g_18 (Value.ref a0_19) a0g_20 (Value.int a0_21) a0g_22 (Value.ref a0_23) (Value.ref a0_24) (Value.int a0_25) (Value.int a0_26) (Value.int a0_27) (Value.int a0_28) a0g_29 a0g_30 a0g_31 a0g_32 a0g_33 a0g_34 a0g_35 a0g_36 a0g_37 a0g_38 a0g_39 v1na0_11 ) (cwV 1 hts gX8_go_X8_no rfl rfl rfl zd_X8_no ⟨Nat.le_of_ble_eq_true rfl, Nat.le_of_ble_eq_true rfl⟩) ⟨ax_blind (fun _ _ _ _ _ => trivial), zr_8 hKc hPc (q0 := 0) rfl, ax_pre hPc hKc hDc (fun _ _ => trivial)⟩ rfl rfl hl.1 rfl (lv_room (Nat.le_of_ble_eq_true rfl)) dX8_go_47 ⟨Nat.le_of_ble_eq_true rfl, Nat.le_of_ble_eq_true rfl⟩) hS (fun q _ h => hFc q h) hFc (fun r47 u t H locs ht hvm hw hB hz1 hk1 hS => ?_)
          obtain ⟨v47na0_11, hraw47_0, hP1, hK1, hD1⟩ := hB
          rw [ht] at hP1
          obtain ⟨hP, hD⟩ := zc_back (w := [(a0, .inr (8, [Value.int v1na0_0, a0g_1, a0g_2, a0g_3, a0g_4, a0g_5, a0g_6, a0g_7, a0g_8, a0g_9, a0g_10, Value.int v47na0_11, a0g_12, a0g_13, Value.int a0_14, Value.ref a0_15, a0g_16, Value.ref a0_17, a0g_18, Value.ref a0_19, a0g_20, Value.int a0_21, a0g_22, Value.ref a0_23, Value.ref a0_24, Value.int a0_25, Value.int a0_26, Value.int a0_27, Value.int a0_28, a0g_29, a0g_30, a0g_31, a0g_32, a0g_33, a0g_34, a0g_35, a0g_36, a0g_37, a0g_38, a0g_39])), (a0_17, .inl (ka0_17, 23, .inl (fa0_17))), (a0_19, .inl (ka0_19, 368, .inl (fa0_19))), (a0_15, .inl (ka0_15, 156, .inl (fa0_15))), (a0_23, .inl (ka0_23, 3, .inl (fa0_23))), (a0_24, .inl (ka0_24, 3, .inl (fa0_24)))]) hP hD hCc hk1 hFc hP1 hD1 [.inr 0, .inl 1, .inl 2, .inl 3, .inl 4, .inl 5] (by decide +kernel) rfl
          obtain ⟨hw, hfr47⟩ := hw
          have hc47 : Ff_X8_no j41l2.toInt = (r47.toInt, v47na0_11.toInt) := Prod.ext hfr47.symm hraw47_0
          have hF0 := hF0.trans (fl_c2_eq hc47)
          have hw : r47 = (-1) := hw
          have hw := hw.symm
          subst hw
          have hFe : FX = ((-1), v1na0_0.toInt, v47na0_11.toInt, a0_21.toInt, a0_25.toInt, a0_26.toInt, a0_27.toInt, a0_28.toInt, (fl_A fa0_17), (fl_A fa0_19), (fl_A fa0_23), (fl_A fa0_24)) := hF0
          exact W.iret (v := (-1)) hx hb hr (fun t ht hW => ⟨⟨(-1), (), rfl, ⟨trivial, (congrArg Prod.fst hFe).symm⟩, v1na0_0, v47na0_11, a0_21, a0_25, a0_26, a0_27, a0_28, fa0_17, fa0_19, fa0_23, fa0_24, ⟨ba0_21_l, ba0_21_u⟩, bfa0_17, bfa0_19, bfa0_23, bfa0_24, (congrArg Prod.snd hFe), by rw [ht]; exact hP, va_K.moved hW.alike hK, hD⟩, hS.F ht⟩) hS.2.2 dX8_go_50
      exact (hK0 _ _ _).mp (J41 2 _ _ _  (Int.le_trans zq50 zq12) (Int.le_trans zq13 zq130) (by rw [show (2 : Int32).toInt = 2 from by decide]; exact hF0) hP hD hS (lv_sub hl [1, 2, 0] rfl))
    · obtain ⟨hw, h16_0, h16_1⟩ := hw
      subst hw
      have l16k1_a0_14 : (1 : Int) ≤ a0_14.toInt := ba0_14_l
      have u16k1_a0_14 : a0_14.toInt ≤ (0 : Int) := h16_1
      exact absurd (Int.le_trans l16k1_a0_14 u16k1_a0_14) (by decide)
    · obtain ⟨hw, h16_0, h16_1, h16_2, h16_3⟩ := hw
      subst hw
      have l16k2_a0_14 : (1 : Int) ≤ a0_14.toInt := ba0_14_l
      have u16k2_a0_14 : a0_14.toInt ≤ (1 : Int) := ba0_14_u
      exact absurd h16_2 (by decide)
