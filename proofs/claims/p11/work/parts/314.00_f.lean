set_option maxHeartbeats 4000000 in
set_option maxRecDepth 100000 in
theorem f_X5_isGone (l : Launch) (dC : Nat → ClassId) (dI : Nat → Nat → Nat) (sz : Nat) (a0 : Nat) (a1 : Int32) (a0g_0 a0g_1 a0g_2 a0g_4 a0g_5 a0g_6 : Value) (a0_3 : Int32)  : Met l yX5_isGone wsX5_isGone ({ frames := 1, cells := 0, slots := 0, locals := 21 }) (va_Pc [.ref a0, .int a1] (ax_C dC dI sz [(a0, .inr (5, [a0g_0, a0g_1, a0g_2, .int a0_3, a0g_4, a0g_5, a0g_6]))] [] (fun U => va_Nw (.methodLinkNest RX5 38 yX7_hasBit RX7) U))) (va_Qi (fun (r : Int32) (_ : Unit) => ((r = 1) ∨ (r = 0)) ∧ r.toInt = Ff_X5_isGone a1.toInt a0_3.toInt) (fun (_ : Unit) (t : State) => ax_B dC dI (va_A [(a0, .inr (5, [a0g_0, a0g_1, a0g_2, .int a0_3, a0g_4, a0g_5, a0g_6]))] sz) [(a0, .inr (5, [a0g_0, a0g_1, a0g_2, .int a0_3, a0g_4, a0g_5, a0g_6]))] [] t) (va_A [(a0, .inr (5, [a0g_0, a0g_1, a0g_2, .int a0_3, a0g_4, a0g_5, a0g_6]))] sz)) 0 0 (va_A [(a0, .inr (5, [a0g_0, a0g_1, a0g_2, .int a0_3, a0g_4, a0g_5, a0g_6]))] sz) := by
  refine Met.ofW (cc := cX5_isGone) (maxL := 2) (ret := (some .boolean)) (by decide) rfl ?_
  intro p e s m args below meth c s₁ B hml hv
  obtain ⟨rfl, hsz, hP, hK, hD0, hE⟩ := hv
  have hx := B.exec
  have hb := B.bytes
  have hr := B.returns
  have hts := atoms_spec (ws := wsX5_isGone) B.pre
  have hown : s.vm.findClass RX5 = some m.cls := findClass_of_methodNamed B.named
  have hlocks := B.notSynchronized
  subst hsz
  have hD := hD0.self (sz := s.heap.size)
  generalize hAe : va_A [(a0, .inr (5, [a0g_0, a0g_1, a0g_2, .int a0_3, a0g_4, a0g_5, a0g_6]))] s.heap.size = A at hD ⊢
  have hA : ∀ q : Nat, s.heap.size ≤ q → A q := fun q h => by rw [← hAe]; exact Or.inr h
  have hS : va_S A s.heap s.heap [] := va_S.rf
  have hP : va_P (dC, dI) vwCl [(a0, .inr (5, [a0g_0, a0g_1, a0g_2, .int a0_3, a0g_4, a0g_5, a0g_6]))] s.heap := hP
  have hE0 := hE
  have hl := lv_entry ([.ref a0, .int a1]) (n := 2) (Nat.le_of_ble_eq_true rfl)
  rw [lg_entry_eq]
  generalize (lg_sl ([.ref a0, .int a1]) ++ List.replicate (2 - (lg_sl ([.ref a0, .int a1])).length) Slot.unset).toArray = ls at hl ⊢
  have hl : lv_has ls 2 [(0, .ref a0), (1, .int a1)] := hl
  generalize hFX : Ff_X5_isGone a1.toInt a0_3.toInt = FX at ⊢
  have hF0 := hFX.symm.trans (Ff_X5_isGone.eq_1 a1.toInt a0_3.toInt)
  refine lv_aload_n hx hb dX5_isGone_0 rfl (lv_at hl 0 rfl) ?_
  refine va_get (D := (dC, dI)) (ci := 5) (v := .int a0_3) (C := RX5) (T := TX5) (N := 7) hx hb hts zi_X5_isGone_5 hown hK hP 0 rfl rfl 3 (by decide) (hts (.fieldLink RX5 22 "WaxTurns$Scene" "goneBits" "I") (List.mem_cons_of_mem _ (List.mem_append_left _ (List.mem_of_getElem? (i := 0) rfl)))) (fun _ h9 => h9) rfl dX5_isGone_1 ?_
  refine lv_iload_n hx hb dX5_isGone_4 rfl (lv_at hl 1 rfl) ?_
  obtain ⟨hPc, hDc, hFc, hCc⟩ := zc_cut (wc := []) hP hD hS hA [] (by decide +kernel) rfl
  have hKc := hK.sub (tys' := []) [] rfl
  refine va_calli (va_runSN (As := [.int a0_3, .int a1]) (rest := []) ⟨hx, hb, hml, hown, hts⟩ (f_X7_hasBit l dC dI s.heap.size a0_3 a1 ) ⟨va_cnB 2 hts gX5_isGone_X7_hasBit_n38 rfl rfl rfl hE0 (hts (.initialized RX7) (List.mem_cons_of_mem _ (List.mem_append_left _ (List.mem_of_getElem? (i := 2) rfl)))) zd_X7_hasBit.2 ⟨Nat.le_of_ble_eq_true rfl, Nat.le_of_ble_eq_true rfl⟩, (hts (.static yX7_hasBit) (List.mem_cons_of_mem _ (List.mem_append_left _ (List.mem_of_getElem? (i := 1) rfl)))), trivial⟩ ⟨ax_blind (fun _ _ _ _ _ => trivial), ax_pre hPc hKc hDc (fun _ _ => trivial)⟩ rfl rfl hl.1 rfl (lv_room (Nat.le_of_ble_eq_true rfl)) dX5_isGone_5 ⟨Nat.le_of_ble_eq_true rfl, Nat.le_of_ble_eq_true rfl⟩) hS (fun q _ h => hFc q h) hFc (fun r5 u t H locs ht hvm hw hB hz1 hk1 hS => ?_)
  obtain ⟨hP1, hK1, hD1⟩ := hB
  rw [ht] at hP1
  obtain ⟨hP, hD⟩ := zc_back (w := [(a0, .inr (5, [a0g_0, a0g_1, a0g_2, .int a0_3, a0g_4, a0g_5, a0g_6]))]) hP hD hCc hk1 hFc hP1 hD1 [.inl 0] (by decide +kernel) rfl
  obtain ⟨hw, hfr5⟩ := hw
  have hc5 : Ff_X7_hasBit a0_3.toInt a1.toInt = r5.toInt := hfr5.symm
  have hF0 := hF0.trans (fl_lt_eq hc5.symm)
  rcases hw with hw | hw
  · subst hw
    have hF0 := hF0.trans (if_pos (by decide))
    have hFe : FX = 1 := hF0
    exact W.zret (v := 1) hx hb hr rfl (fun t ht hW => ⟨⟨1, (), rfl, ⟨(Or.inl (rfl)), hFe.symm⟩, by rw [ht]; exact hP, va_K.moved hW.alike hK, hD⟩, hS.F ht⟩) hS.2.2 dX5_isGone_8
  · subst hw
    have hF0 := hF0.trans (if_neg (by decide))
    have hFe : FX = 0 := hF0
    exact W.zret (v := 0) hx hb hr rfl (fun t ht hW => ⟨⟨0, (), rfl, ⟨(Or.inr (rfl)), hFe.symm⟩, by rw [ht]; exact hP, va_K.moved hW.alike hK, hD⟩, hS.F ht⟩) hS.2.2 dX5_isGone_8

set_option maxHeartbeats 4000000 in
set_option maxRecDepth 100000 in
theorem f_X6_placeOf (l : Launch) (dC : Nat → ClassId) (dI : Nat → Nat → Nat) (sz : Nat) (a0 : Nat) (a1 : Int32) (a2 : Int32) (a0g_0 a0g_1 : Value) (a0_2 : Nat) (a0_3 : Nat) (ka0_3 : ClassId) (fa0_3 : Nat → Int32) (ka0_2 : ClassId) (fa0_2 : Nat → Int32) (ba1_l : (0 : Int) ≤ a1.toInt) (ba1_u : a1.toInt ≤ (2 : Int)) (bfa0_3 : (∀ k, (0 : Int) ≤ (fa0_3 k).toInt ∧ (fa0_3 k).toInt ≤ 80)) (bfa0_2 : (∀ k, (0 : Int) ≤ (fa0_2 k).toInt ∧ (fa0_2 k).toInt ≤ 80)) : Met l yX6_placeOf wsX6_placeOf ({ frames := 0, cells := 0, slots := 0, locals := 0 }) (va_Pc [.ref a0, .int a1, .int a2] (ax_C dC dI sz [(a0, .inr (6, [a0g_0, a0g_1, .ref a0_2, .ref a0_3])), (a0_3, .inl (ka0_3, 3, .inl (fa0_3))), (a0_2, .inl (ka0_2, 3, .inl (fa0_2)))] [(ka0_3, .int), (ka0_2, .int)] (fun _ => True))) (va_Qi (fun (r : Int32) (_ : Unit) => (True) ∧ r.toInt = Ff_X6_placeOf a1.toInt a2.toInt (fl_A fa0_3) (fl_A fa0_2)) (fun (_ : Unit) (t : State) => ax_B dC dI (va_A [(a0, .inr (6, [a0g_0, a0g_1, .ref a0_2, .ref a0_3])), (a0_3, .inl (ka0_3, 3, .inl (fa0_3))), (a0_2, .inl (ka0_2, 3, .inl (fa0_2)))] sz) [(a0, .inr (6, [a0g_0, a0g_1, .ref a0_2, .ref a0_3])), (a0_3, .inl (ka0_3, 3, .inl (fa0_3))), (a0_2, .inl (ka0_2, 3, .inl (fa0_2)))] [(ka0_3, .int), (ka0_2, .int)] t) (va_A [(a0, .inr (6, [a0g_0, a0g_1, .ref a0_2, .ref a0_3])), (a0_3, .inl (ka0_3, 3, .inl (fa0_3))), (a0_2, .inl (ka0_2, 3, .inl (fa0_2)))] sz)) 0 0 (va_A [(a0, .inr (6, [a0g_0, a0g_1, .ref a0_2, .ref a0_3])), (a0_3, .inl (ka0_3, 3, .inl (fa0_3))), (a0_2, .inl (ka0_2, 3, .inl (fa0_2)))] sz) := by
  refine Met.ofW (cc := cX6_placeOf) (maxL := 7) (ret := (some .int)) (by decide) rfl ?_
  intro p e s m args below meth c s₁ B hml hv
  obtain ⟨rfl, hsz, hP, hK, hD0, hE⟩ := hv
  have hx := B.exec
  have hb := B.bytes
  have hr := B.returns
  have hts := atoms_spec (ws := wsX6_placeOf) B.pre
  have hown : s.vm.findClass RX6 = some m.cls := findClass_of_methodNamed B.named
  have hlocks := B.notSynchronized
  subst hsz
  have hD := hD0.self (sz := s.heap.size)
  generalize hAe : va_A [(a0, .inr (6, [a0g_0, a0g_1, .ref a0_2, .ref a0_3])), (a0_3, .inl (ka0_3, 3, .inl (fa0_3))), (a0_2, .inl (ka0_2, 3, .inl (fa0_2)))] s.heap.size = A at hD ⊢
  have hA : ∀ q : Nat, s.heap.size ≤ q → A q := fun q h => by rw [← hAe]; exact Or.inr h
  have hS : va_S A s.heap s.heap [] := va_S.rf
  have hP : va_P (dC, dI) vwCl [(a0, .inr (6, [a0g_0, a0g_1, .ref a0_2, .ref a0_3])), (a0_3, .inl (ka0_3, 3, .inl (fa0_3))), (a0_2, .inl (ka0_2, 3, .inl (fa0_2)))] s.heap := hP
  have hl := lv_entry ([.ref a0, .int a1, .int a2]) (n := 7) (Nat.le_of_ble_eq_true rfl)
  rw [lg_entry_eq]
  generalize (lg_sl ([.ref a0, .int a1, .int a2]) ++ List.replicate (7 - (lg_sl ([.ref a0, .int a1, .int a2])).length) Slot.unset).toArray = ls at hl ⊢
  have hl : lv_has ls 7 [(0, .ref a0), (1, .int a1), (2, .int a2)] := hl
  generalize hFX : Ff_X6_placeOf a1.toInt a2.toInt (fl_A fa0_3) (fl_A fa0_2) = FX at ⊢
  have hF0 := hFX.symm.trans (Ff_X6_placeOf.eq_1 a1.toInt a2.toInt (fl_A fa0_3) (fl_A fa0_2))
  refine lv_aload_n hx hb dX6_placeOf_0 rfl (lv_at hl 0 rfl) ?_
  refine va_get (D := (dC, dI)) (ci := 6) (v := .ref a0_3) (C := RX6) (T := TX6) (N := 4) hx hb hts zi_X6_placeOf_6 hown hK hP 0 rfl rfl 3 (by decide) (hts (.fieldLink RX6 15 "WaxTurns$Watchers" "to" "[I") (List.mem_cons_of_mem _ (List.mem_append_left _ (List.mem_of_getElem? (i := 0) rfl)))) (fun _ h9 => h9) rfl dX6_placeOf_1 ?_
  refine lv_iload_n hx hb dX6_placeOf_4 rfl (lv_at hl 1 rfl) ?_
  refine va_iald hx hb hK hP 1 0 rfl rfl (ai_in ba1_l ba1_u (by decide) (by decide)) dX6_placeOf_5 ?_
  refine lv_topi (fun x5 ex5 => ?_)
  have bx5 : (0 : Int) ≤ x5.toInt ∧ x5.toInt ≤ 80 := by rw [ex5]; exact bfa0_3 _
  have fqx5 := congrArg Int32.toInt ex5
  have hF0 := hF0.trans (fl_lt_eq (show x5.toInt = (fl_A fa0_3) (a1.toInt.toNat) from fqx5))
  refine lv_aload_n hx hb dX6_placeOf_6 rfl (lv_at hl 0 rfl) ?_
  refine va_get (D := (dC, dI)) (ci := 6) (v := .ref a0_2) (C := RX6) (T := TX6) (N := 4) hx hb hts zi_X6_placeOf_6 hown hK hP 0 rfl rfl 2 (by decide) (hts (.fieldLink RX6 9 "WaxTurns$Watchers" "from" "[I") (List.mem_cons_of_mem _ (List.mem_append_left _ (List.mem_of_getElem? (i := 1) rfl)))) (fun _ h9 => h9) rfl dX6_placeOf_7 ?_
  refine lv_iload_n hx hb dX6_placeOf_10 rfl (lv_at hl 1 rfl) ?_
  refine va_iald hx hb hK hP 2 1 rfl rfl (ai_in ba1_l ba1_u (by decide) (by decide)) dX6_placeOf_11 ?_
  refine lv_topi (fun x11 ex11 => ?_)
  have bx11 : (0 : Int) ≤ x11.toInt ∧ x11.toInt ≤ 80 := by rw [ex11]; exact bfa0_2 _
  have fqx11 := congrArg Int32.toInt ex11
  have hF0 := hF0.trans (fl_lt_eq (show x11.toInt = (fl_A fa0_2) (a1.toInt.toNat) from fqx11))
  refine lv_icmp_le (tgt := 19) hx hb dX6_placeOf_12 (by decide) (fun c12 => ?_) (fun c12 => ?_)
  · have gc12 := ai_le c12
    have u12t_x5 : x5.toInt ≤ (80 : Int) := bx5.2
    have l12t_x11 : (0 : Int) ≤ x11.toInt := bx11.1
    have hF0 := hF0.trans (if_pos (show x5.toInt ≤ x11.toInt from gc12))
    refine lv_iconst (v := 0) hx hb dX6_placeOf_19 zk_iconst_0 ?_
    refine lv_istore_n (lv' := [(3, .int 0), (0, .ref a0), (1, .int a1), (2, .int a2)]) hx hb dX6_placeOf_20 rfl hl (by decide) rfl (fun ls hl => ?_)
    refine lv_iload_n hx hb dX6_placeOf_21 rfl (lv_at hl 0 rfl) ?_
    refine lv_if_eq (tgt := 41) hx hb dX6_placeOf_22 (by decide) (fun _ => ?_) (fun c22 => absurd (by decide +kernel) c22)
    refine lv_aload_n hx hb dX6_placeOf_41 rfl (lv_at hl 1 rfl) ?_
    refine va_get (D := (dC, dI)) (ci := 6) (v := .ref a0_2) (C := RX6) (T := TX6) (N := 4) hx hb hts zi_X6_placeOf_6 hown hK hP 0 rfl rfl 2 (by decide) (hts (.fieldLink RX6 9 "WaxTurns$Watchers" "from" "[I") (List.mem_cons_of_mem _ (List.mem_append_left _ (List.mem_of_getElem? (i := 1) rfl)))) (fun _ h9 => h9) rfl dX6_placeOf_42 ?_
    refine lv_iload_n hx hb dX6_placeOf_45 rfl (lv_at hl 2 rfl) ?_
    refine va_iald hx hb hK hP 2 1 rfl rfl (ai_in ba1_l ba1_u (by decide) (by decide)) dX6_placeOf_46 ?_
    refine ax_ti x11 ex11.symm ?_
    refine lv_aload_n hx hb dX6_placeOf_47 rfl (lv_at hl 1 rfl) ?_
    refine va_get (D := (dC, dI)) (ci := 6) (v := .ref a0_3) (C := RX6) (T := TX6) (N := 4) hx hb hts zi_X6_placeOf_6 hown hK hP 0 rfl rfl 3 (by decide) (hts (.fieldLink RX6 15 "WaxTurns$Watchers" "to" "[I") (List.mem_cons_of_mem _ (List.mem_append_left _ (List.mem_of_getElem? (i := 0) rfl)))) (fun _ h9 => h9) rfl dX6_placeOf_48 ?_
    refine lv_iload_n hx hb dX6_placeOf_51 rfl (lv_at hl 2 rfl) ?_
    refine va_iald hx hb hK hP 1 0 rfl rfl (ai_in ba1_l ba1_u (by decide) (by decide)) dX6_placeOf_52 ?_
    refine ax_ti x5 ex5.symm ?_
    refine lv_isub hx hb dX6_placeOf_53 ?_
    refine lv_topi (fun x53 ex53 => ?_)
    have qx53 : x53.toInt = x11.toInt - x5.toInt := ai_sub ex53 ⟨l12t_x11, bx11.2⟩ ⟨bx5.1, u12t_x5⟩ (by decide) (by decide)
    have bx53 : (-80 : Int) ≤ x53.toInt ∧ x53.toInt ≤ 80 := ⟨by rw [qx53]; exact Int.sub_le_sub l12t_x11 u12t_x5, by rw [qx53]; exact Int.sub_le_sub bx11.2 bx5.1⟩
    have hF0 := hF0.trans (fl_lt_eq (show x53.toInt = x11.toInt - x5.toInt from qx53))
    refine lv_istore (lv' := [(4, .int x53), (3, .int 0), (0, .ref a0), (1, .int a1), (2, .int a2)]) hx hb dX6_placeOf_54 hl (by decide) rfl (fun ls hl => ?_)
    refine lv_iload hx hb dX6_placeOf_56 (lv_at hl 0 rfl) ?_
    refine lv_if_gt (tgt := 68) hx hb dX6_placeOf_58 (by decide) (fun c58 => ?_) (fun c58 => ?_)
    · have gc58 := ai_lt c58
      have l58t_x53 : (1 : Int) ≤ x53.toInt := ai_ltlo gc58 zq5
      have hF0 := hF0.trans (if_pos (show 0 < x53.toInt from gc58))
      refine lv_iload_n hx hb dX6_placeOf_68 rfl (lv_at hl 4 rfl) ?_
      refine lv_iconst (v := 2) hx hb dX6_placeOf_69 zk_iconst_2 ?_
      refine lv_iload hx hb dX6_placeOf_70 (lv_at hl 0 rfl) ?_
      refine lv_imul hx hb dX6_placeOf_72 ?_
      refine lv_topi (fun x72 ex72 => ?_)
      have qx72 : x72.toInt = (2 : Int32).toInt * x53.toInt ∧ (2 : Int) ≤ x72.toInt ∧ x72.toInt ≤ 160 := ai_mul ex72 ⟨zq12, zq13⟩ ⟨l58t_x53, bx53.2⟩ (by decide) (by decide) zq14
      have wx72 : x72.toInt = 2 * x53.toInt := qx72.1
      have hF0 := hF0.trans (fl_lt_eq (show x72.toInt = 2 * x53.toInt from qx72.1))
      refine lv_irem hx hb dX6_placeOf_73 (ai_nz qx72.2.1 (by decide)) ?_
      refine lv_topi (fun x73 ex73 => ?_)
      have fqx73 := fl_rem_eq ex73
      have hF0 := hF0.trans (fl_lt_eq (show x73.toInt = fl_rem a2.toInt x72.toInt from fqx73))
      refine lv_istore (lv' := [(5, .int x73), (4, .int x53), (3, .int 0), (0, .ref a0), (1, .int a1), (2, .int a2)]) hx hb dX6_placeOf_74 hl (by decide) rfl (fun ls hl => ?_)
      refine lv_iload hx hb dX6_placeOf_76 (lv_at hl 0 rfl) ?_
      refine lv_iload hx hb dX6_placeOf_78 (lv_at hl 1 rfl) ?_
      refine lv_icmp_gt (tgt := 88) hx hb dX6_placeOf_80 (by decide) (fun c80 => ?_) (fun c80 => ?_)
      · have gc80 := ai_lt c80
        have u80t_x53 : x53.toInt ≤ (80 : Int) := bx53.2
        have l80t_x73 : (2 : Int) ≤ x73.toInt := ai_ltlo gc80 l58t_x53
        have hF0 := hF0.trans (if_pos (show x53.toInt < x73.toInt from gc80))
        refine lv_iconst (v := 2) hx hb dX6_placeOf_88 zk_iconst_2 ?_
        refine lv_iload hx hb dX6_placeOf_89 (lv_at hl 1 rfl) ?_
        refine lv_imul hx hb dX6_placeOf_91 ?_
        refine ax_ti x72 ex72.symm ?_
        refine lv_iload hx hb dX6_placeOf_92 (lv_at hl 0 rfl) ?_
        refine lv_isub hx hb dX6_placeOf_94 ?_
        refine lv_topi (fun x94 ex94 => ?_)
        have qx94 : x94.toInt = x72.toInt - x73.toInt := ai_sub ex94 ⟨qx72.2.1, qx72.2.2⟩ ⟨l80t_x73, (ai_max x73)⟩ (by decide) (by decide)
        have bx94 : (-2147483645 : Int) ≤ x94.toInt ∧ x94.toInt ≤ 158 := ⟨by rw [qx94]; exact Int.sub_le_sub qx72.2.1 (ai_max x73), by rw [qx94]; exact Int.sub_le_sub qx72.2.2 l80t_x73⟩
        have hF0 := hF0.trans (fl_lt_eq (show x94.toInt = x72.toInt - x73.toInt from qx94))
        refine lv_istore (lv' := [(6, .int x94), (5, .int x73), (4, .int x53), (3, .int 0), (0, .ref a0), (1, .int a1), (2, .int a2)]) hx hb dX6_placeOf_95 hl (by decide) rfl (fun ls hl => ?_)
        refine lv_iload_n hx hb dX6_placeOf_97 rfl (lv_at hl 3 rfl) ?_
        refine lv_if_eq (tgt := 113) hx hb dX6_placeOf_98 (by decide) (fun _ => ?_) (fun c98 => absurd (by decide +kernel) c98)
        refine lv_aload_n hx hb dX6_placeOf_113 rfl (lv_at hl 4 rfl) ?_
        refine va_get (D := (dC, dI)) (ci := 6) (v := .ref a0_2) (C := RX6) (T := TX6) (N := 4) hx hb hts zi_X6_placeOf_6 hown hK hP 0 rfl rfl 2 (by decide) (hts (.fieldLink RX6 9 "WaxTurns$Watchers" "from" "[I") (List.mem_cons_of_mem _ (List.mem_append_left _ (List.mem_of_getElem? (i := 1) rfl)))) (fun _ h9 => h9) rfl dX6_placeOf_114 ?_
        refine lv_iload_n hx hb dX6_placeOf_117 rfl (lv_at hl 5 rfl) ?_
        refine va_iald hx hb hK hP 2 1 rfl rfl (ai_in ba1_l ba1_u (by decide) (by decide)) dX6_placeOf_118 ?_
        refine ax_ti x11 ex11.symm ?_
        refine lv_iload hx hb dX6_placeOf_119 (lv_at hl 0 rfl) ?_
        refine lv_isub hx hb dX6_placeOf_121 ?_
        refine lv_topi (fun x121 ex121 => ?_)
        have fqx121 := fl_isub_eq ex121
        have hF0 := hF0.trans (fl_lt_eq (show x121.toInt = fl_isub x11.toInt x94.toInt from fqx121))
        have hFe : FX = x121.toInt := hF0
        exact W.iret (v := x121) hx hb hr (fun t ht hW => ⟨⟨x121, (), rfl, ⟨trivial, hFe.symm⟩, by rw [ht]; exact hP, va_K.moved hW.alike hK, hD⟩, hS.F ht⟩) hS.2.2 dX6_placeOf_122
      · have gc80 := ai_nlt c80
        have u80f_x73 : x73.toInt ≤ (80 : Int) := Int.le_trans gc80 bx53.2
        have hF0 := hF0.trans (if_neg (show ¬ (x53.toInt < x73.toInt) from Int.not_lt.mpr gc80))
        refine lv_iload hx hb dX6_placeOf_83 (lv_at hl 0 rfl) ?_
        refine lv_goto (tgt := 95) hx hb dX6_placeOf_85 (by decide) ?_
        refine lv_istore (lv' := [(6, .int x73), (5, .int x73), (4, .int x53), (3, .int 0), (0, .ref a0), (1, .int a1), (2, .int a2)]) hx hb dX6_placeOf_95 hl (by decide) rfl (fun ls hl => ?_)
        refine lv_iload_n hx hb dX6_placeOf_97 rfl (lv_at hl 3 rfl) ?_
        refine lv_if_eq (tgt := 113) hx hb dX6_placeOf_98 (by decide) (fun _ => ?_) (fun c98 => absurd (by decide +kernel) c98)
        refine lv_aload_n hx hb dX6_placeOf_113 rfl (lv_at hl 4 rfl) ?_
        refine va_get (D := (dC, dI)) (ci := 6) (v := .ref a0_2) (C := RX6) (T := TX6) (N := 4) hx hb hts zi_X6_placeOf_6 hown hK hP 0 rfl rfl 2 (by decide) (hts (.fieldLink RX6 9 "WaxTurns$Watchers" "from" "[I") (List.mem_cons_of_mem _ (List.mem_append_left _ (List.mem_of_getElem? (i := 1) rfl)))) (fun _ h9 => h9) rfl dX6_placeOf_114 ?_
        refine lv_iload_n hx hb dX6_placeOf_117 rfl (lv_at hl 5 rfl) ?_
        refine va_iald hx hb hK hP 2 1 rfl rfl (ai_in ba1_l ba1_u (by decide) (by decide)) dX6_placeOf_118 ?_
        refine ax_ti x11 ex11.symm ?_
        refine lv_iload hx hb dX6_placeOf_119 (lv_at hl 0 rfl) ?_
        refine lv_isub hx hb dX6_placeOf_121 ?_
        refine lv_topi (fun x121 ex121 => ?_)
        have fqx121 := fl_isub_eq ex121
        have hF0 := hF0.trans (fl_lt_eq (show x121.toInt = fl_isub x11.toInt x73.toInt from fqx121))
        have hFe : FX = x121.toInt := hF0
        exact W.iret (v := x121) hx hb hr (fun t ht hW => ⟨⟨x121, (), rfl, ⟨trivial, hFe.symm⟩, by rw [ht]; exact hP, va_K.moved hW.alike hK, hD⟩, hS.F ht⟩) hS.2.2 dX6_placeOf_122
    · have gc58 := ai_nlt c58
      have u58f_x53 : x53.toInt ≤ (0 : Int) := Int.le_trans gc58 zq6
      have hF0 := hF0.trans (if_neg (show ¬ (0 < x53.toInt) from Int.not_lt.mpr gc58))
      refine lv_aload_n hx hb dX6_placeOf_61 rfl (lv_at hl 2 rfl) ?_
      refine va_get (D := (dC, dI)) (ci := 6) (v := .ref a0_2) (C := RX6) (T := TX6) (N := 4) hx hb hts zi_X6_placeOf_6 hown hK hP 0 rfl rfl 2 (by decide) (hts (.fieldLink RX6 9 "WaxTurns$Watchers" "from" "[I") (List.mem_cons_of_mem _ (List.mem_append_left _ (List.mem_of_getElem? (i := 1) rfl)))) (fun _ h9 => h9) rfl dX6_placeOf_62 ?_
      refine lv_iload_n hx hb dX6_placeOf_65 rfl (lv_at hl 3 rfl) ?_
      refine va_iald hx hb hK hP 2 1 rfl rfl (ai_in ba1_l ba1_u (by decide) (by decide)) dX6_placeOf_66 ?_
      refine ax_ti x11 ex11.symm ?_
      have hFe : FX = x11.toInt := hF0
      exact W.iret (v := x11) hx hb hr (fun t ht hW => ⟨⟨x11, (), rfl, ⟨trivial, hFe.symm⟩, by rw [ht]; exact hP, va_K.moved hW.alike hK, hD⟩, hS.F ht⟩) hS.2.2 dX6_placeOf_67
  · have gc12 := ai_nle c12
    have u12f_x11 : x11.toInt ≤ (79 : Int) := ai_lthi gc12 bx5.2
    have l12f_x5 : (1 : Int) ≤ x5.toInt := ai_ltlo gc12 bx11.1
    have hF0 := hF0.trans (if_neg (show ¬ (x5.toInt ≤ x11.toInt) from Int.not_le.mpr gc12))
    refine lv_iconst (v := 1) hx hb dX6_placeOf_15 zk_iconst_1 ?_
    refine lv_goto (tgt := 20) hx hb dX6_placeOf_16 (by decide) ?_
    refine lv_istore_n (lv' := [(3, .int 1), (0, .ref a0), (1, .int a1), (2, .int a2)]) hx hb dX6_placeOf_20 rfl hl (by decide) rfl (fun ls hl => ?_)
    refine lv_iload_n hx hb dX6_placeOf_21 rfl (lv_at hl 0 rfl) ?_
    refine lv_if_eq (tgt := 41) hx hb dX6_placeOf_22 (by decide) (fun c22 => absurd c22 (by decide +kernel)) (fun _ => ?_)
    refine lv_aload_n hx hb dX6_placeOf_25 rfl (lv_at hl 1 rfl) ?_
    refine va_get (D := (dC, dI)) (ci := 6) (v := .ref a0_3) (C := RX6) (T := TX6) (N := 4) hx hb hts zi_X6_placeOf_6 hown hK hP 0 rfl rfl 3 (by decide) (hts (.fieldLink RX6 15 "WaxTurns$Watchers" "to" "[I") (List.mem_cons_of_mem _ (List.mem_append_left _ (List.mem_of_getElem? (i := 0) rfl)))) (fun _ h9 => h9) rfl dX6_placeOf_26 ?_
    refine lv_iload_n hx hb dX6_placeOf_29 rfl (lv_at hl 2 rfl) ?_
    refine va_iald hx hb hK hP 1 0 rfl rfl (ai_in ba1_l ba1_u (by decide) (by decide)) dX6_placeOf_30 ?_
    refine ax_ti x5 ex5.symm ?_
    refine lv_aload_n hx hb dX6_placeOf_31 rfl (lv_at hl 1 rfl) ?_
    refine va_get (D := (dC, dI)) (ci := 6) (v := .ref a0_2) (C := RX6) (T := TX6) (N := 4) hx hb hts zi_X6_placeOf_6 hown hK hP 0 rfl rfl 2 (by decide) (hts (.fieldLink RX6 9 "WaxTurns$Watchers" "from" "[I") (List.mem_cons_of_mem _ (List.mem_append_left _ (List.mem_of_getElem? (i := 1) rfl)))) (fun _ h9 => h9) rfl dX6_placeOf_32 ?_
    refine lv_iload_n hx hb dX6_placeOf_35 rfl (lv_at hl 2 rfl) ?_
    refine va_iald hx hb hK hP 2 1 rfl rfl (ai_in ba1_l ba1_u (by decide) (by decide)) dX6_placeOf_36 ?_
    refine ax_ti x11 ex11.symm ?_
    refine lv_isub hx hb dX6_placeOf_37 ?_
    refine lv_topi (fun x37 ex37 => ?_)
    have qx37 : x37.toInt = x5.toInt - x11.toInt := ai_sub ex37 ⟨l12f_x5, bx5.2⟩ ⟨bx11.1, u12f_x11⟩ (by decide) (by decide)
    have bx37 : (-78 : Int) ≤ x37.toInt ∧ x37.toInt ≤ 80 := ⟨by rw [qx37]; exact Int.sub_le_sub l12f_x5 u12f_x11, by rw [qx37]; exact Int.sub_le_sub bx5.2 bx11.1⟩
    have hF0 := hF0.trans (fl_lt_eq (show x37.toInt = x5.toInt - x11.toInt from qx37))
    refine lv_goto (tgt := 54) hx hb dX6_placeOf_38 (by decide) ?_
    refine lv_istore (lv' := [(4, .int x37), (3, .int 1), (0, .ref a0), (1, .int a1), (2, .int a2)]) hx hb dX6_placeOf_54 hl (by decide) rfl (fun ls hl => ?_)
    refine lv_iload hx hb dX6_placeOf_56 (lv_at hl 0 rfl) ?_
    refine lv_if_gt (tgt := 68) hx hb dX6_placeOf_58 (by decide) (fun c58 => ?_) (fun c58 => ?_)
    · have gc58 := ai_lt c58
      have l58t_x37 : (1 : Int) ≤ x37.toInt := ai_ltlo gc58 zq5
      have hF0 := hF0.trans (if_pos (show 0 < x37.toInt from gc58))
      refine lv_iload_n hx hb dX6_placeOf_68 rfl (lv_at hl 4 rfl) ?_
      refine lv_iconst (v := 2) hx hb dX6_placeOf_69 zk_iconst_2 ?_
      refine lv_iload hx hb dX6_placeOf_70 (lv_at hl 0 rfl) ?_
      refine lv_imul hx hb dX6_placeOf_72 ?_
      refine lv_topi (fun x72 ex72 => ?_)
      have qx72 : x72.toInt = (2 : Int32).toInt * x37.toInt ∧ (2 : Int) ≤ x72.toInt ∧ x72.toInt ≤ 160 := ai_mul ex72 ⟨zq12, zq13⟩ ⟨l58t_x37, bx37.2⟩ (by decide) (by decide) zq14
      have wx72 : x72.toInt = 2 * x37.toInt := qx72.1
      have hF0 := hF0.trans (fl_lt_eq (show x72.toInt = 2 * x37.toInt from qx72.1))
      refine lv_irem hx hb dX6_placeOf_73 (ai_nz qx72.2.1 (by decide)) ?_
      refine lv_topi (fun x73 ex73 => ?_)
      have fqx73 := fl_rem_eq ex73
      have hF0 := hF0.trans (fl_lt_eq (show x73.toInt = fl_rem a2.toInt x72.toInt from fqx73))
      refine lv_istore (lv' := [(5, .int x73), (4, .int x37), (3, .int 1), (0, .ref a0), (1, .int a1), (2, .int a2)]) hx hb dX6_placeOf_74 hl (by decide) rfl (fun ls hl => ?_)
      refine lv_iload hx hb dX6_placeOf_76 (lv_at hl 0 rfl) ?_
      refine lv_iload hx hb dX6_placeOf_78 (lv_at hl 1 rfl) ?_
      refine lv_icmp_gt (tgt := 88) hx hb dX6_placeOf_80 (by decide) (fun c80 => ?_) (fun c80 => ?_)
      · have gc80 := ai_lt c80
        have u80t_x37 : x37.toInt ≤ (80 : Int) := bx37.2
        have l80t_x73 : (2 : Int) ≤ x73.toInt := ai_ltlo gc80 l58t_x37
        have hF0 := hF0.trans (if_pos (show x37.toInt < x73.toInt from gc80))
        refine lv_iconst (v := 2) hx hb dX6_placeOf_88 zk_iconst_2 ?_
        refine lv_iload hx hb dX6_placeOf_89 (lv_at hl 1 rfl) ?_
        refine lv_imul hx hb dX6_placeOf_91 ?_
        refine ax_ti x72 ex72.symm ?_
        refine lv_iload hx hb dX6_placeOf_92 (lv_at hl 0 rfl) ?_
        refine lv_isub hx hb dX6_placeOf_94 ?_
        refine lv_topi (fun x94 ex94 => ?_)
        have qx94 : x94.toInt = x72.toInt - x73.toInt := ai_sub ex94 ⟨qx72.2.1, qx72.2.2⟩ ⟨l80t_x73, (ai_max x73)⟩ (by decide) (by decide)
        have bx94 : (-2147483645 : Int) ≤ x94.toInt ∧ x94.toInt ≤ 158 := ⟨by rw [qx94]; exact Int.sub_le_sub qx72.2.1 (ai_max x73), by rw [qx94]; exact Int.sub_le_sub qx72.2.2 l80t_x73⟩
        have hF0 := hF0.trans (fl_lt_eq (show x94.toInt = x72.toInt - x73.toInt from qx94))
        refine lv_istore (lv' := [(6, .int x94), (5, .int x73), (4, .int x37), (3, .int 1), (0, .ref a0), (1, .int a1), (2, .int a2)]) hx hb dX6_placeOf_95 hl (by decide) rfl (fun ls hl => ?_)
        refine lv_iload_n hx hb dX6_placeOf_97 rfl (lv_at hl 3 rfl) ?_
        refine lv_if_eq (tgt := 113) hx hb dX6_placeOf_98 (by decide) (fun c98 => absurd c98 (by decide +kernel)) (fun _ => ?_)
        refine lv_aload_n hx hb dX6_placeOf_101 rfl (lv_at hl 4 rfl) ?_
        refine va_get (D := (dC, dI)) (ci := 6) (v := .ref a0_2) (C := RX6) (T := TX6) (N := 4) hx hb hts zi_X6_placeOf_6 hown hK hP 0 rfl rfl 2 (by decide) (hts (.fieldLink RX6 9 "WaxTurns$Watchers" "from" "[I") (List.mem_cons_of_mem _ (List.mem_append_left _ (List.mem_of_getElem? (i := 1) rfl)))) (fun _ h9 => h9) rfl dX6_placeOf_102 ?_
        refine lv_iload_n hx hb dX6_placeOf_105 rfl (lv_at hl 5 rfl) ?_
        refine va_iald hx hb hK hP 2 1 rfl rfl (ai_in ba1_l ba1_u (by decide) (by decide)) dX6_placeOf_106 ?_
        refine ax_ti x11 ex11.symm ?_
        refine lv_iload hx hb dX6_placeOf_107 (lv_at hl 0 rfl) ?_
        refine lv_iadd hx hb dX6_placeOf_109 ?_
        refine lv_topi (fun x109 ex109 => ?_)
        have qx109 : x109.toInt = x11.toInt + x94.toInt := ai_add ex109 ⟨bx11.1, u12f_x11⟩ ⟨bx94.1, bx94.2⟩ (by decide) (by decide)
        have bx109 : (-2147483645 : Int) ≤ x109.toInt ∧ x109.toInt ≤ 237 := ⟨by rw [qx109]; exact Int.add_le_add bx11.1 bx94.1, by rw [qx109]; exact Int.add_le_add u12f_x11 bx94.2⟩
        have hF0 := hF0.trans (fl_lt_eq (show x109.toInt = x11.toInt + x94.toInt from qx109))
        refine lv_goto (tgt := 122) hx hb dX6_placeOf_110 (by decide) ?_
        have hFe : FX = x109.toInt := hF0
        exact W.iret (v := x109) hx hb hr (fun t ht hW => ⟨⟨x109, (), rfl, ⟨trivial, hFe.symm⟩, by rw [ht]; exact hP, va_K.moved hW.alike hK, hD⟩, hS.F ht⟩) hS.2.2 dX6_placeOf_122
      · have gc80 := ai_nlt c80
        have u80f_x73 : x73.toInt ≤ (80 : Int) := Int.le_trans gc80 bx37.2
        have hF0 := hF0.trans (if_neg (show ¬ (x37.toInt < x73.toInt) from Int.not_lt.mpr gc80))
        refine lv_iload hx hb dX6_placeOf_83 (lv_at hl 0 rfl) ?_
        refine lv_goto (tgt := 95) hx hb dX6_placeOf_85 (by decide) ?_
        refine lv_istore (lv' := [(6, .int x73), (5, .int x73), (4, .int x37), (3, .int 1), (0, .ref a0), (1, .int a1), (2, .int a2)]) hx hb dX6_placeOf_95 hl (by decide) rfl (fun ls hl => ?_)
        refine lv_iload_n hx hb dX6_placeOf_97 rfl (lv_at hl 3 rfl) ?_
        refine lv_if_eq (tgt := 113) hx hb dX6_placeOf_98 (by decide) (fun c98 => absurd c98 (by decide +kernel)) (fun _ => ?_)
        refine lv_aload_n hx hb dX6_placeOf_101 rfl (lv_at hl 4 rfl) ?_
        refine va_get (D := (dC, dI)) (ci := 6) (v := .ref a0_2) (C := RX6) (T := TX6) (N := 4) hx hb hts zi_X6_placeOf_6 hown hK hP 0 rfl rfl 2 (by decide) (hts (.fieldLink RX6 9 "WaxTurns$Watchers" "from" "[I") (List.mem_cons_of_mem _ (List.mem_append_left _ (List.mem_of_getElem? (i := 1) rfl)))) (fun _ h9 => h9) rfl dX6_placeOf_102 ?_
        refine lv_iload_n hx hb dX6_placeOf_105 rfl (lv_at hl 5 rfl) ?_
        refine va_iald hx hb hK hP 2 1 rfl rfl (ai_in ba1_l ba1_u (by decide) (by decide)) dX6_placeOf_106 ?_
        refine ax_ti x11 ex11.symm ?_
        refine lv_iload hx hb dX6_placeOf_107 (lv_at hl 0 rfl) ?_
        refine lv_iadd hx hb dX6_placeOf_109 ?_
        refine lv_topi (fun x109 ex109 => ?_)
        have qx109 : x109.toInt = x11.toInt + x73.toInt := ai_add ex109 ⟨bx11.1, u12f_x11⟩ ⟨(ai_min x73), u80f_x73⟩ (by decide) (by decide)
        have bx109 : (-2147483648 : Int) ≤ x109.toInt ∧ x109.toInt ≤ 159 := ⟨by rw [qx109]; exact Int.add_le_add bx11.1 (ai_min x73), by rw [qx109]; exact Int.add_le_add u12f_x11 u80f_x73⟩
        have hF0 := hF0.trans (fl_lt_eq (show x109.toInt = x11.toInt + x73.toInt from qx109))
        refine lv_goto (tgt := 122) hx hb dX6_placeOf_110 (by decide) ?_
        have hFe : FX = x109.toInt := hF0
        exact W.iret (v := x109) hx hb hr (fun t ht hW => ⟨⟨x109, (), rfl, ⟨trivial, hFe.symm⟩, by rw [ht]; exact hP, va_K.moved hW.alike hK, hD⟩, hS.F ht⟩) hS.2.2 dX6_placeOf_122
    · have gc58 := ai_nlt c58
      have u58f_x37 : x37.toInt ≤ (0 : Int) := Int.le_trans gc58 zq6
      have hF0 := hF0.trans (if_neg (show ¬ (0 < x37.toInt) from Int.not_lt.mpr gc58))
      refine lv_aload_n hx hb dX6_placeOf_61 rfl (lv_at hl 2 rfl) ?_
      refine va_get (D := (dC, dI)) (ci := 6) (v := .ref a0_2) (C := RX6) (T := TX6) (N := 4) hx hb hts zi_X6_placeOf_6 hown hK hP 0 rfl rfl 2 (by decide) (hts (.fieldLink RX6 9 "WaxTurns$Watchers" "from" "[I") (List.mem_cons_of_mem _ (List.mem_append_left _ (List.mem_of_getElem? (i := 1) rfl)))) (fun _ h9 => h9) rfl dX6_placeOf_62 ?_
      refine lv_iload_n hx hb dX6_placeOf_65 rfl (lv_at hl 3 rfl) ?_
      refine va_iald hx hb hK hP 2 1 rfl rfl (ai_in ba1_l ba1_u (by decide) (by decide)) dX6_placeOf_66 ?_
      refine ax_ti x11 ex11.symm ?_
      have hFe : FX = x11.toInt := hF0
      exact W.iret (v := x11) hx hb hr (fun t ht hW => ⟨⟨x11, (), rfl, ⟨trivial, hFe.symm⟩, by rw [ht]; exact hP, va_K.moved hW.alike hK, hD⟩, hS.F ht⟩) hS.2.2 dX6_placeOf_67

set_option maxHeartbeats 4000000 in
set_option maxRecDepth 100000 in
theorem f_X6_placesIn (l : Launch) (dC : Nat → ClassId) (dI : Nat → Nat → Nat) (sz : Nat) (a0 : Nat) (a1 : Int32) (a0_0 : Int32) (a0_1 : Int32) (a0_2 : Nat) (a0_3 : Nat) (ka0_3 : ClassId) (fa0_3 : Nat → Int32) (ka0_2 : ClassId) (fa0_2 : Nat → Int32) (ba0_0_l : (0 : Int) ≤ a0_0.toInt) (ba0_0_u : a0_0.toInt ≤ (3 : Int)) (bfa0_3 : (∀ k, (0 : Int) ≤ (fa0_3 k).toInt ∧ (fa0_3 k).toInt ≤ 80)) (bfa0_2 : (∀ k, (0 : Int) ≤ (fa0_2 k).toInt ∧ (fa0_2 k).toInt ≤ 80)) : Met l yX6_placesIn wsX6_placesIn ({ frames := 1, cells := 0, slots := 0, locals := 26 }) (va_Pc [.ref a0, .int a1] (ax_C dC dI sz [(a0, .inr (6, [.int a0_0, .int a0_1, .ref a0_2, .ref a0_3])), (a0_3, .inl (ka0_3, 3, .inl (fa0_3))), (a0_2, .inl (ka0_2, 3, .inl (fa0_2)))] [(ka0_3, .int), (ka0_2, .int)] (fun _ => True))) (va_Qi (fun (r : Int32) (_ : Unit) => (True) ∧ r.toInt = Ff_X6_placesIn a1.toInt a0_0.toInt a0_1.toInt (fl_A fa0_3) (fl_A fa0_2)) (fun (_ : Unit) (t : State) => ax_B dC dI (va_A [(a0, .inr (6, [.int a0_0, .int a0_1, .ref a0_2, .ref a0_3])), (a0_3, .inl (ka0_3, 3, .inl (fa0_3))), (a0_2, .inl (ka0_2, 3, .inl (fa0_2)))] sz) [(a0, .inr (6, [.int a0_0, .int a0_1, .ref a0_2, .ref a0_3])), (a0_3, .inl (ka0_3, 3, .inl (fa0_3))), (a0_2, .inl (ka0_2, 3, .inl (fa0_2)))] [(ka0_3, .int), (ka0_2, .int)] t) (va_A [(a0, .inr (6, [.int a0_0, .int a0_1, .ref a0_2, .ref a0_3])), (a0_3, .inl (ka0_3, 3, .inl (fa0_3))), (a0_2, .inl (ka0_2, 3, .inl (fa0_2)))] sz)) 0 0 (va_A [(a0, .inr (6, [.int a0_0, .int a0_1, .ref a0_2, .ref a0_3])), (a0_3, .inl (ka0_3, 3, .inl (fa0_3))), (a0_2, .inl (ka0_2, 3, .inl (fa0_2)))] sz) := by
  refine Met.ofW (cc := cX6_placesIn) (maxL := 4) (ret := (some .int)) (by decide) rfl ?_
  intro p e s m args below meth c s₁ B hml hv
  obtain ⟨rfl, hsz, hP, hK, hD0, hE⟩ := hv
  have hx := B.exec
  have hb := B.bytes
  have hr := B.returns
  have hts := atoms_spec (ws := wsX6_placesIn) B.pre
  have hown : s.vm.findClass RX6 = some m.cls := findClass_of_methodNamed B.named
  have hlocks := B.notSynchronized
  subst hsz
  have hD := hD0.self (sz := s.heap.size)
  generalize hAe : va_A [(a0, .inr (6, [.int a0_0, .int a0_1, .ref a0_2, .ref a0_3])), (a0_3, .inl (ka0_3, 3, .inl (fa0_3))), (a0_2, .inl (ka0_2, 3, .inl (fa0_2)))] s.heap.size = A at hD ⊢
  have hA : ∀ q : Nat, s.heap.size ≤ q → A q := fun q h => by rw [← hAe]; exact Or.inr h
  have hS : va_S A s.heap s.heap [] := va_S.rf
  have hP : va_P (dC, dI) vwCl [(a0, .inr (6, [.int a0_0, .int a0_1, .ref a0_2, .ref a0_3])), (a0_3, .inl (ka0_3, 3, .inl (fa0_3))), (a0_2, .inl (ka0_2, 3, .inl (fa0_2)))] s.heap := hP
  have hl := lv_entry ([.ref a0, .int a1]) (n := 4) (Nat.le_of_ble_eq_true rfl)
  rw [lg_entry_eq]
  generalize (lg_sl ([.ref a0, .int a1]) ++ List.replicate (4 - (lg_sl ([.ref a0, .int a1])).length) Slot.unset).toArray = ls at hl ⊢
  have hl : lv_has ls 4 [(0, .ref a0), (1, .int a1)] := hl
  generalize hFX : Ff_X6_placesIn a1.toInt a0_0.toInt a0_1.toInt (fl_A fa0_3) (fl_A fa0_2) = FX at ⊢
  have hF0 := hFX.symm.trans (Ff_X6_placesIn.eq_1 a1.toInt a0_0.toInt a0_1.toInt (fl_A fa0_3) (fl_A fa0_2))
  refine ai_open (fun K hK0 => ?_)
  refine (hK0 _ _ _).mpr ?_
  refine lv_aload_n hx hb dX6_placesIn_0 rfl (lv_at hl 0 rfl) ?_
  refine va_get (D := (dC, dI)) (ci := 6) (v := .int a0_1) (C := RX6) (T := TX6) (N := 4) hx hb hts zi_X6_placesIn_6 hown hK hP 0 rfl rfl 1 (by decide) (hts (.fieldLink RX6 22 "WaxTurns$Watchers" "posts" "I") (List.mem_cons_of_mem _ (List.mem_append_left _ (List.mem_of_getElem? (i := 0) rfl)))) (fun _ h9 => h9) rfl dX6_placesIn_1 ?_
  refine lv_istore_n (lv' := [(2, .int a0_1), (0, .ref a0), (1, .int a1)]) hx hb dX6_placesIn_4 rfl hl (by decide) rfl (fun ls hl => ?_)
  refine lv_iconst (v := 0) hx hb dX6_placesIn_5 zk_iconst_0 ?_
  refine lv_istore_n (lv' := [(3, .int 0), (2, .int a0_1), (0, .ref a0), (1, .int a1)]) hx hb dX6_placesIn_6 rfl hl (by decide) rfl (fun ls hl => ?_)
  have J7 : ∀ (n : Nat) (j7l3 : Int32) (j7l2 : Int32) (H : Heap) (locs : List Loc) (ls : Array Slot), (4 : Int) - j7l3.toInt ≤ (n : Int) → (0 : Int) ≤ j7l3.toInt → j7l3.toInt ≤ (3 : Int) → (FX = fl_wh (fun t9 => Sf_X6_placesIn_7_1 a1.toInt a0_0.toInt (fl_A fa0_3) (fl_A fa0_2) t9.1 t9.2) 0 n (j7l3.toInt, j7l2.toInt)) → va_P (dC, dI) vwCl [(a0, .inr (6, [.int a0_0, .int a0_1, .ref a0_2, .ref a0_3])), (a0_3, .inl (ka0_3, 3, .inl (fa0_3))), (a0_2, .inl (ka0_2, 3, .inl (fa0_2)))] H → va_D A [(a0, .inr (6, [.int a0_0, .int a0_1, .ref a0_2, .ref a0_3])), (a0_3, .inl (ka0_3, 3, .inl (fa0_3))), (a0_2, .inl (ka0_2, 3, .inl (fa0_2)))] → va_S A s.heap H locs → lv_has ls 4 [(0, .ref a0), (1, .int a1), (2, .int j7l2), (3, .int j7l3)] → K H locs (F0 m 7 ls []) := by
    intro n
    induction n with
    | zero =>
      intro j7l3 j7l2 H locs ls hm bj7l3_l bj7l3_u hF0 hP hD hS hl
      have h8 := ai_min j7l3
      have h9 := ai_max j7l3
      exact absurd hm (by omega)
    | succ n ih7 =>
      intro j7l3 j7l2 H locs ls hm bj7l3_l bj7l3_u hF0 hP hD hS hl
      refine (hK0 _ _ _).mpr ?_
      have hm7 := hm
      obtain ⟨SX7, hSX7⟩ : ∃ q9, Sf_X6_placesIn_7_1 a1.toInt a0_0.toInt (fl_A fa0_3) (fl_A fa0_2) j7l3.toInt j7l2.toInt = q9 := ⟨_, rfl⟩
      have hF1 := hSX7.symm.trans (Sf_X6_placesIn_7_1.eq_1 a1.toInt a0_0.toInt (fl_A fa0_3) (fl_A fa0_2) j7l3.toInt j7l2.toInt)
      refine lv_iload_n hx hb dX6_placesIn_7 rfl (lv_at hl 3 rfl) ?_
      refine lv_aload_n hx hb dX6_placesIn_8 rfl (lv_at hl 0 rfl) ?_
      refine va_get (D := (dC, dI)) (ci := 6) (v := .int a0_0) (C := RX6) (T := TX6) (N := 4) hx hb hts zi_X6_placesIn_6 hown hK hP 0 rfl rfl 0 (by decide) (hts (.fieldLink RX6 18 "WaxTurns$Watchers" "count" "I") (List.mem_cons_of_mem _ (List.mem_append_left _ (List.mem_of_getElem? (i := 1) rfl)))) (fun _ h9 => h9) rfl dX6_placesIn_9 ?_
      refine lv_icmp_ge (tgt := 32) hx hb dX6_placesIn_12 (by decide) (fun c12 => ?_) (fun c12 => ?_)
      · have gc12 := ai_le c12
        have u12t_a0_0 : a0_0.toInt ≤ (3 : Int) := ba0_0_u
        have l12t_j7l3 : (0 : Int) ≤ j7l3.toInt := bj7l3_l
        have hF1 := hF1.trans (if_pos (show a0_0.toInt ≤ j7l3.toInt from gc12))
        have hF0 := hF0.trans (fl_wh_r (hSX7.trans hF1))
        refine lv_iload_n hx hb dX6_placesIn_32 rfl (lv_at hl 2 rfl) ?_
        have hFe : FX = j7l2.toInt := hF0
        exact W.iret (v := j7l2) hx hb hr (fun t ht hW => ⟨⟨j7l2, (), rfl, ⟨trivial, hFe.symm⟩, by rw [ht]; exact hP, va_K.moved hW.alike hK, hD⟩, hS.F ht⟩) hS.2.2 dX6_placesIn_33
      · have gc12 := ai_nle c12
        have u12f_j7l3 : j7l3.toInt ≤ (2 : Int) := ai_lthi gc12 ba0_0_u
        have l12f_a0_0 : (1 : Int) ≤ a0_0.toInt := ai_ltlo gc12 bj7l3_l
        have hF1 := hF1.trans (if_neg (show ¬ (a0_0.toInt ≤ j7l3.toInt) from Int.not_le.mpr gc12))
        refine lv_iload_n hx hb dX6_placesIn_15 rfl (lv_at hl 2 rfl) ?_
        refine lv_iconst (v := 1) hx hb dX6_placesIn_16 zk_iconst_1 ?_
        refine lv_aload_n hx hb dX6_placesIn_17 rfl (lv_at hl 0 rfl) ?_
        refine lv_iload_n hx hb dX6_placesIn_18 rfl (lv_at hl 3 rfl) ?_
        refine lv_iload_n hx hb dX6_placesIn_19 rfl (lv_at hl 1 rfl) ?_
        obtain ⟨hPc, hDc, hFc, hCc⟩ := zc_cut (wc := [(a0, .inr (6, [.int a0_0, .int a0_1, .ref a0_2, .ref a0_3])), (a0_3, .inl (ka0_3, 3, .inl (fa0_3))), (a0_2, .inl (ka0_2, 3, .inl (fa0_2)))]) hP hD hS hA [0, 1, 2] (by decide +kernel) rfl
        have hKc := hK.sub (tys' := [(ka0_3, .int), (ka0_2, .int)]) [0, 1] rfl
        refine va_calli (va_runV (As := [.int j7l3, .int a1]) (rest := [.int 1, .int j7l2]) ⟨hx, hb, hml, hown, hts⟩ (f_X6_placeOf l dC dI H.size a0 j7l3 a1 (.int a0_0) (.int a0_1) a0_2 a0_3 ka0_3 fa0_3 ka0_2 fa0_2 bj7l3_l u12f_j7l3 bfa0_3 bfa0_2) (cwV 2 hts gX6_placesIn_X6_placeOf rfl rfl rfl zd_X6_placeOf ⟨Nat.le_of_ble_eq_true rfl, Nat.le_of_ble_eq_true rfl⟩) ⟨ax_blind (fun _ _ _ _ _ => trivial), zr_6 hKc hPc (q0 := 0) rfl, ax_pre hPc hKc hDc (fun _ _ => trivial)⟩ rfl rfl hl.1 rfl (lv_room (Nat.le_of_ble_eq_true rfl)) dX6_placesIn_20 ⟨Nat.le_of_ble_eq_true rfl, Nat.le_of_ble_eq_true rfl⟩) hS (fun q _ h => hFc q h) hFc (fun r20 u t H locs ht hvm hw hB hz1 hk1 hS => ?_)
        obtain ⟨hP1, hK1, hD1⟩ := hB
        rw [ht] at hP1
        obtain ⟨hP, hD⟩ := zc_back (w := [(a0, .inr (6, [.int a0_0, .int a0_1, .ref a0_2, .ref a0_3])), (a0_3, .inl (ka0_3, 3, .inl (fa0_3))), (a0_2, .inl (ka0_2, 3, .inl (fa0_2)))]) hP hD hCc hk1 hFc hP1 hD1 [.inr 0, .inr 1, .inr 2] (by decide +kernel) rfl
        obtain ⟨hw, hfr20⟩ := hw
        have hc20 : Ff_X6_placeOf j7l3.toInt a1.toInt (fl_A fa0_3) (fl_A fa0_2) = r20.toInt := hfr20.symm
        have hF1 := hF1.trans (fl_lt_eq hc20.symm)
        refine lv_ishl hx hb dX6_placesIn_23 ?_
        refine lv_topi (fun x23 ex23 => ?_)
        have fqx23 := fl_shl_eq ex23
        have hF1 := hF1.trans (fl_lt_eq (show x23.toInt = fl_shl 1 r20.toInt from fqx23))
        refine lv_ior hx hb dX6_placesIn_24 ?_
        refine lv_topi (fun x24 ex24 => ?_)
        have fqx24 := fl_or_eq ex24
        have hF1 := hF1.trans (fl_lt_eq (show x24.toInt = fl_or j7l2.toInt x23.toInt from fqx24))
        refine lv_istore_n (lv' := [(2, .int x24), (0, .ref a0), (1, .int a1), (3, .int j7l3)]) hx hb dX6_placesIn_25 rfl hl (by decide) rfl (fun ls hl => ?_)
        obtain ⟨x26, ex26⟩ : ∃ y : Int32, y = j7l3 + Int32.ofInt 1 := ⟨_, rfl⟩
        have qx26 : x26.toInt = j7l3.toInt + 1 := ai_inc ex26 (by decide) (by decide) u12f_j7l3 (by decide)
        have bx26 : (1 : Int) ≤ x26.toInt ∧ x26.toInt ≤ 3 := ⟨by rw [qx26]; exact Int.add_le_add bj7l3_l (Int.le_refl _), by rw [qx26]; exact Int.add_le_add u12f_j7l3 (Int.le_refl _)⟩
        refine lv_iinc (v := x26) (lv' := [(3, .int x26), (2, .int x24), (0, .ref a0), (1, .int a1)]) hx hb dX6_placesIn_26 hl (k := 3) rfl ex26.symm (by decide) rfl (fun ls hl => ?_)
        have hF1 := hF1.trans (fl_lt_eq (show x26.toInt = j7l3.toInt + 1 from qx26))
        refine lv_goto (tgt := 7) hx hb dX6_placesIn_29 (by decide) ?_
        exact (hK0 _ _ _).mp (ih7 x26 x24 _ _ _ (by have h0 := qx26; omega) (Int.le_trans zq4 bx26.1) bx26.2 (hF0.trans (fl_wh_l (hSX7.trans hF1))) hP hD hS (lv_sub hl [2, 3, 1, 0] rfl))
  exact (hK0 _ _ _).mp (J7 4 0 a0_1 _ _ _ (by have h1 : (0 : Int) ≤ (0 : Int32).toInt := zq5; have h2 : (0 : Int32).toInt ≤ (0 : Int) := zq6; omega) zq5 (Int.le_trans zq6 zq11) (by rw [show (0 : Int32).toInt = 0 from by decide]; exact hF0) hP hD hS (lv_sub hl [2, 3, 1, 0] rfl))

set_option maxHeartbeats 4000000 in
set_option maxRecDepth 100000 in
theorem f_X0_next (l : Launch) (dC : Nat → ClassId) (dI : Nat → Nat → Nat) (sz : Nat) (a0 : Nat) (a1 : Int32) (a0_0 : Int32) (a0g_1 a0g_2 a0g_3 a0g_4 a0g_7 a0g_8 a0g_9 a0g_10 a0g_11 a0g_12 a0g_13 a0g_14 : Value) (a0_5 : Int32) (a0_6 : Int32) (ba1_l : (0 : Int) ≤ a1.toInt) (ba1_u : a1.toInt ≤ (8 : Int)) (ba0_0_l : (0 : Int) ≤ a0_0.toInt) (ba0_0_u : a0_0.toInt ≤ (9 : Int)) (ba0_5_l : (0 : Int) ≤ a0_5.toInt) (ba0_5_u : a0_5.toInt ≤ (8 : Int)) (ba0_6_l : (0 : Int) ≤ a0_6.toInt) (ba0_6_u : a0_6.toInt ≤ (8 : Int)) : Met l yX0_next wsX0_next ({ frames := 0, cells := 0, slots := 0, locals := 0 }) (va_Pc [.ref a0, .int a1] (ax_C dC dI sz [(a0, .inr (0, [.int a0_0, a0g_1, a0g_2, a0g_3, a0g_4, .int a0_5, .int a0_6, a0g_7, a0g_8, a0g_9, a0g_10, a0g_11, a0g_12, a0g_13, a0g_14]))] [] (fun _ => True))) (va_Qi (fun (r : Int32) (_ : Unit) => ((0 : Int) ≤ r.toInt ∧ r.toInt ≤ (8 : Int)) ∧ r.toInt = Ff_X0_next a1.toInt a0_0.toInt a0_5.toInt a0_6.toInt) (fun (_ : Unit) (t : State) => ax_B dC dI (va_A [(a0, .inr (0, [.int a0_0, a0g_1, a0g_2, a0g_3, a0g_4, .int a0_5, .int a0_6, a0g_7, a0g_8, a0g_9, a0g_10, a0g_11, a0g_12, a0g_13, a0g_14]))] sz) [(a0, .inr (0, [.int a0_0, a0g_1, a0g_2, a0g_3, a0g_4, .int a0_5, .int a0_6, a0g_7, a0g_8, a0g_9, a0g_10, a0g_11, a0g_12, a0g_13, a0g_14]))] [] t) (va_A [(a0, .inr (0, [.int a0_0, a0g_1, a0g_2, a0g_3, a0g_4, .int a0_5, .int a0_6, a0g_7, a0g_8, a0g_9, a0g_10, a0g_11, a0g_12, a0g_13, a0g_14]))] sz)) 0 0 (va_A [(a0, .inr (0, [.int a0_0, a0g_1, a0g_2, a0g_3, a0g_4, .int a0_5, .int a0_6, a0g_7, a0g_8, a0g_9, a0g_10, a0g_11, a0g_12, a0g_13, a0g_14]))] sz) := by
  refine Met.ofW (cc := cX0_next) (maxL := 2) (ret := (some .int)) (by decide) rfl ?_
  intro p e s m args below meth c s₁ B hml hv
  obtain ⟨rfl, hsz, hP, hK, hD0, hE⟩ := hv
  have hx := B.exec
  have hb := B.bytes
  have hr := B.returns
  have hts := atoms_spec (ws := wsX0_next) B.pre
  have hown : s.vm.findClass RX0 = some m.cls := findClass_of_methodNamed B.named
  have hlocks := B.notSynchronized
  subst hsz
  have hD := hD0.self (sz := s.heap.size)
  generalize hAe : va_A [(a0, .inr (0, [.int a0_0, a0g_1, a0g_2, a0g_3, a0g_4, .int a0_5, .int a0_6, a0g_7, a0g_8, a0g_9, a0g_10, a0g_11, a0g_12, a0g_13, a0g_14]))] s.heap.size = A at hD ⊢
  have hA : ∀ q : Nat, s.heap.size ≤ q → A q := fun q h => by rw [← hAe]; exact Or.inr h
  have hS : va_S A s.heap s.heap [] := va_S.rf
  have hP : va_P (dC, dI) vwCl [(a0, .inr (0, [.int a0_0, a0g_1, a0g_2, a0g_3, a0g_4, .int a0_5, .int a0_6, a0g_7, a0g_8, a0g_9, a0g_10, a0g_11, a0g_12, a0g_13, a0g_14]))] s.heap := hP
  have hl := lv_entry ([.ref a0, .int a1]) (n := 2) (Nat.le_of_ble_eq_true rfl)
  rw [lg_entry_eq]
  generalize (lg_sl ([.ref a0, .int a1]) ++ List.replicate (2 - (lg_sl ([.ref a0, .int a1])).length) Slot.unset).toArray = ls at hl ⊢
  have hl : lv_has ls 2 [(0, .ref a0), (1, .int a1)] := hl
  generalize hFX : Ff_X0_next a1.toInt a0_0.toInt a0_5.toInt a0_6.toInt = FX at ⊢
  have hF0 := hFX.symm.trans (Ff_X0_next.eq_1 a1.toInt a0_0.toInt a0_5.toInt a0_6.toInt)
  refine lv_aload_n hx hb dX0_next_0 rfl (lv_at hl 0 rfl) ?_
  refine va_get (D := (dC, dI)) (ci := 0) (v := .int a0_0) (C := RX0) (T := TX0) (N := 15) hx hb hts zi_X0_next_0 hown hK hP 0 rfl rfl 0 (by decide) (hts (.fieldLink RX0 31 "WaxTurns$Hall" "figures" "I") (List.mem_cons_of_mem _ (List.mem_append_left _ (List.mem_of_getElem? (i := 0) rfl)))) (fun _ h9 => h9) rfl dX0_next_1 ?_
  refine lv_if_gt (tgt := 11) hx hb dX0_next_4 (by decide) (fun c4 => ?_) (fun c4 => ?_)
  · have gc4 := ai_lt c4
    have l4t_a0_0 : (1 : Int) ≤ a0_0.toInt := ai_ltlo gc4 zq5
    have hF0 := hF0.trans (if_pos (show 0 < a0_0.toInt from gc4))
    refine lv_iload_n hx hb dX0_next_11 rfl (lv_at hl 1 rfl) ?_
    refine lv_aload_n hx hb dX0_next_12 rfl (lv_at hl 0 rfl) ?_
    refine va_get (D := (dC, dI)) (ci := 0) (v := .int a0_5) (C := RX0) (T := TX0) (N := 15) hx hb hts zi_X0_next_0 hown hK hP 0 rfl rfl 5 (by decide) (hts (.fieldLink RX0 63 "WaxTurns$Hall" "times" "I") (List.mem_cons_of_mem _ (List.mem_append_left _ (List.mem_of_getElem? (i := 1) rfl)))) (fun _ h9 => h9) rfl dX0_next_13 ?_
    refine lv_imul hx hb dX0_next_16 ?_
    refine lv_topi (fun x16 ex16 => ?_)
    have qx16 : x16.toInt = a1.toInt * a0_5.toInt ∧ (0 : Int) ≤ x16.toInt ∧ x16.toInt ≤ 64 := ai_mul ex16 ⟨ba1_l, ba1_u⟩ ⟨ba0_5_l, ba0_5_u⟩ (by decide) (by decide) zq18
    have hF0 := hF0.trans (fl_lt_eq (show x16.toInt = a1.toInt * a0_5.toInt from qx16.1))
    refine lv_aload_n hx hb dX0_next_17 rfl (lv_at hl 0 rfl) ?_
    refine va_get (D := (dC, dI)) (ci := 0) (v := .int a0_6) (C := RX0) (T := TX0) (N := 15) hx hb hts zi_X0_next_0 hown hK hP 0 rfl rfl 6 (by decide) (hts (.fieldLink RX0 66 "WaxTurns$Hall" "plus" "I") (List.mem_cons_of_mem _ (List.mem_append_left _ (List.mem_of_getElem? (i := 2) rfl)))) (fun _ h9 => h9) rfl dX0_next_18 ?_
    refine lv_iadd hx hb dX0_next_21 ?_
    refine lv_topi (fun x21 ex21 => ?_)
    have qx21 : x21.toInt = x16.toInt + a0_6.toInt := ai_add ex21 ⟨qx16.2.1, qx16.2.2⟩ ⟨ba0_6_l, ba0_6_u⟩ (by decide) (by decide)
    have bx21 : (0 : Int) ≤ x21.toInt ∧ x21.toInt ≤ 72 := ⟨by rw [qx21]; exact Int.add_le_add qx16.2.1 ba0_6_l, by rw [qx21]; exact Int.add_le_add qx16.2.2 ba0_6_u⟩
    have hF0 := hF0.trans (fl_lt_eq (show x21.toInt = x16.toInt + a0_6.toInt from qx21))
    refine lv_aload_n hx hb dX0_next_22 rfl (lv_at hl 0 rfl) ?_
    refine va_get (D := (dC, dI)) (ci := 0) (v := .int a0_0) (C := RX0) (T := TX0) (N := 15) hx hb hts zi_X0_next_0 hown hK hP 0 rfl rfl 0 (by decide) (hts (.fieldLink RX0 31 "WaxTurns$Hall" "figures" "I") (List.mem_cons_of_mem _ (List.mem_append_left _ (List.mem_of_getElem? (i := 0) rfl)))) (fun _ h9 => h9) rfl dX0_next_23 ?_
    refine lv_irem hx hb dX0_next_26 (ai_nz l4t_a0_0 (by decide)) ?_
    refine lv_topi (fun x26 ex26 => ?_)
    have qx26 := ai_rem2 ex26 bx21.1 (Int.lt_of_lt_of_le zq19 l4t_a0_0) ba0_0_u
    have hF0 := hF0.trans (fl_lt_eq (show x26.toInt = x21.toInt % a0_0.toInt from qx26.1))
    have hFe : FX = x26.toInt := hF0
    exact W.iret (v := x26) hx hb hr (fun t ht hW => ⟨⟨x26, (), rfl, ⟨⟨qx26.2.1, qx26.2.2⟩, hFe.symm⟩, by rw [ht]; exact hP, va_K.moved hW.alike hK, hD⟩, hS.F ht⟩) hS.2.2 dX0_next_27
  · have gc4 := ai_nlt c4
    have u4f_a0_0 : a0_0.toInt ≤ (0 : Int) := Int.le_trans gc4 zq6
    have hF0 := hF0.trans (if_neg (show ¬ (0 < a0_0.toInt) from Int.not_lt.mpr gc4))
    refine lv_iconst (v := 0) hx hb dX0_next_7 zk_iconst_0 ?_
    refine lv_goto (tgt := 27) hx hb dX0_next_8 (by decide) ?_
    have hFe : FX = 0 := hF0
    exact W.iret (v := 0) hx hb hr (fun t ht hW => ⟨⟨0, (), rfl, ⟨⟨zq5, (Int.le_trans zq6 zq20)⟩, hFe.symm⟩, by rw [ht]; exact hP, va_K.moved hW.alike hK, hD⟩, hS.F ht⟩) hS.2.2 dX0_next_27

set_option maxHeartbeats 4000000 in
set_option maxRecDepth 100000 in
theorem f_X0_stepsIn (l : Launch) (dC : Nat → ClassId) (dI : Nat → Nat → Nat) (sz : Nat) (a0 : Nat) (a1 : Int32) (a2 : Int32) (a0g_0 a0g_1 a0g_2 a0g_3 a0g_4 a0g_5 a0g_6 a0g_7 a0g_8 a0g_9 a0g_12 a0g_13 a0g_14 : Value) (a0_10 : Nat) (a0_11 : Nat) (ka0_10 : ClassId) (fa0_10 : Nat → Int32) (ka0_11 : ClassId) (fa0_11 : Nat → Int32)  : Met l yX0_stepsIn wsX0_stepsIn ({ frames := 1, cells := 0, slots := 0, locals := 22 }) (va_Pc [.ref a0, .int a1, .int a2] (ax_C dC dI sz [(a0, .inr (0, [a0g_0, a0g_1, a0g_2, a0g_3, a0g_4, a0g_5, a0g_6, a0g_7, a0g_8, a0g_9, .ref a0_10, .ref a0_11, a0g_12, a0g_13, a0g_14])), (a0_10, .inl (ka0_10, 9, .inl (fa0_10))), (a0_11, .inl (ka0_11, 9, .inl (fa0_11)))] [(ka0_10, .int), (ka0_11, .int)] (fun U => va_Nw (.methodLinkNest RX0 118 yX7_within RX7) U))) (va_Qi (fun (r : Int32) (_ : Unit) => ((r = 1 ∧ (0 : Int) ≤ a1.toInt ∧ a1.toInt ≤ (8 : Int)) ∨ (r = 0)) ∧ r.toInt = Ff_X0_stepsIn a1.toInt a2.toInt (fl_A fa0_10) (fl_A fa0_11)) (fun (_ : Unit) (t : State) => ax_B dC dI (va_A [(a0, .inr (0, [a0g_0, a0g_1, a0g_2, a0g_3, a0g_4, a0g_5, a0g_6, a0g_7, a0g_8, a0g_9, .ref a0_10, .ref a0_11, a0g_12, a0g_13, a0g_14])), (a0_10, .inl (ka0_10, 9, .inl (fa0_10))), (a0_11, .inl (ka0_11, 9, .inl (fa0_11)))] sz) [(a0, .inr (0, [a0g_0, a0g_1, a0g_2, a0g_3, a0g_4, a0g_5, a0g_6, a0g_7, a0g_8, a0g_9, .ref a0_10, .ref a0_11, a0g_12, a0g_13, a0g_14])), (a0_10, .inl (ka0_10, 9, .inl (fa0_10))), (a0_11, .inl (ka0_11, 9, .inl (fa0_11)))] [(ka0_10, .int), (ka0_11, .int)] t) (va_A [(a0, .inr (0, [a0g_0, a0g_1, a0g_2, a0g_3, a0g_4, a0g_5, a0g_6, a0g_7, a0g_8, a0g_9, .ref a0_10, .ref a0_11, a0g_12, a0g_13, a0g_14])), (a0_10, .inl (ka0_10, 9, .inl (fa0_10))), (a0_11, .inl (ka0_11, 9, .inl (fa0_11)))] sz)) 0 0 (va_A [(a0, .inr (0, [a0g_0, a0g_1, a0g_2, a0g_3, a0g_4, a0g_5, a0g_6, a0g_7, a0g_8, a0g_9, .ref a0_10, .ref a0_11, a0g_12, a0g_13, a0g_14])), (a0_10, .inl (ka0_10, 9, .inl (fa0_10))), (a0_11, .inl (ka0_11, 9, .inl (fa0_11)))] sz) := by
  refine Met.ofW (cc := cX0_stepsIn) (maxL := 4) (ret := (some .boolean)) (by decide) rfl ?_
  intro p e s m args below meth c s₁ B hml hv
  obtain ⟨rfl, hsz, hP, hK, hD0, hE⟩ := hv
  have hx := B.exec
  have hb := B.bytes
  have hr := B.returns
  have hts := atoms_spec (ws := wsX0_stepsIn) B.pre
  have hown : s.vm.findClass RX0 = some m.cls := findClass_of_methodNamed B.named
  have hlocks := B.notSynchronized
  subst hsz
  have hD := hD0.self (sz := s.heap.size)
  generalize hAe : va_A [(a0, .inr (0, [a0g_0, a0g_1, a0g_2, a0g_3, a0g_4, a0g_5, a0g_6, a0g_7, a0g_8, a0g_9, .ref a0_10, .ref a0_11, a0g_12, a0g_13, a0g_14])), (a0_10, .inl (ka0_10, 9, .inl (fa0_10))), (a0_11, .inl (ka0_11, 9, .inl (fa0_11)))] s.heap.size = A at hD ⊢
  have hA : ∀ q : Nat, s.heap.size ≤ q → A q := fun q h => by rw [← hAe]; exact Or.inr h
  have hS : va_S A s.heap s.heap [] := va_S.rf
  have hP : va_P (dC, dI) vwCl [(a0, .inr (0, [a0g_0, a0g_1, a0g_2, a0g_3, a0g_4, a0g_5, a0g_6, a0g_7, a0g_8, a0g_9, .ref a0_10, .ref a0_11, a0g_12, a0g_13, a0g_14])), (a0_10, .inl (ka0_10, 9, .inl (fa0_10))), (a0_11, .inl (ka0_11, 9, .inl (fa0_11)))] s.heap := hP
  have hE0 := hE
  have hl := lv_entry ([.ref a0, .int a1, .int a2]) (n := 4) (Nat.le_of_ble_eq_true rfl)
  rw [lg_entry_eq]
  generalize (lg_sl ([.ref a0, .int a1, .int a2]) ++ List.replicate (4 - (lg_sl ([.ref a0, .int a1, .int a2])).length) Slot.unset).toArray = ls at hl ⊢
  have hl : lv_has ls 4 [(0, .ref a0), (1, .int a1), (2, .int a2)] := hl
  generalize hFX : Ff_X0_stepsIn a1.toInt a2.toInt (fl_A fa0_10) (fl_A fa0_11) = FX at ⊢
  have hF0 := hFX.symm.trans (Ff_X0_stepsIn.eq_1 a1.toInt a2.toInt (fl_A fa0_10) (fl_A fa0_11))
  refine lv_iload_n hx hb dX0_stepsIn_0 rfl (lv_at hl 1 rfl) ?_
  refine lv_iconst (v := 0) hx hb dX0_stepsIn_1 zk_iconst_0 ?_
  refine lv_bipush (v := 8) hx hb dX0_stepsIn_2 zk_bipush_8 ?_
  obtain ⟨hPc, hDc, hFc, hCc⟩ := zc_cut (wc := []) hP hD hS hA [] (by decide +kernel) rfl
  have hKc := hK.sub (tys' := []) [] rfl
  refine va_calli (va_runSN (As := [.int a1, .int 0, .int 8]) (rest := []) ⟨hx, hb, hml, hown, hts⟩ (f_X7_within l dC dI s.heap.size a1 0 8 ) ⟨va_cnB 3 hts gX0_stepsIn_X7_within_n118 rfl rfl rfl hE0 (hts (.initialized RX7) (List.mem_cons_of_mem _ (List.mem_append_left _ (List.mem_of_getElem? (i := 3) rfl)))) zd_X7_within.2 ⟨Nat.le_of_ble_eq_true rfl, Nat.le_of_ble_eq_true rfl⟩, (hts (.static yX7_within) (List.mem_cons_of_mem _ (List.mem_append_left _ (List.mem_of_getElem? (i := 2) rfl)))), trivial⟩ ⟨ax_blind (fun _ _ _ _ _ => trivial), ax_pre hPc hKc hDc (fun _ _ => trivial)⟩ rfl rfl hl.1 rfl (lv_room (Nat.le_of_ble_eq_true rfl)) dX0_stepsIn_4 ⟨Nat.le_of_ble_eq_true rfl, Nat.le_of_ble_eq_true rfl⟩) hS (fun q _ h => hFc q h) hFc (fun r4 u t H locs ht hvm hw hB hz1 hk1 hS => ?_)
  obtain ⟨hP1, hK1, hD1⟩ := hB
  rw [ht] at hP1
  obtain ⟨hP, hD⟩ := zc_back (w := [(a0, .inr (0, [a0g_0, a0g_1, a0g_2, a0g_3, a0g_4, a0g_5, a0g_6, a0g_7, a0g_8, a0g_9, .ref a0_10, .ref a0_11, a0g_12, a0g_13, a0g_14])), (a0_10, .inl (ka0_10, 9, .inl (fa0_10))), (a0_11, .inl (ka0_11, 9, .inl (fa0_11)))]) hP hD hCc hk1 hFc hP1 hD1 [.inl 0, .inl 1, .inl 2] (by decide +kernel) rfl
  obtain ⟨hw, hfr4⟩ := hw
  rw [show (0 : Int32).toInt = 0 from by decide, show (8 : Int32).toInt = 8 from by decide] at hfr4
  have hc4 : Ff_X7_within a1.toInt 0 8 = r4.toInt := hfr4.symm
  have hF0 := hF0.trans (fl_lt_eq hc4.symm)
  rcases hw with hw | hw
  · obtain ⟨hw, h4⟩ := hw
    subst hw
    have l4k0_a1 : (0 : Int) ≤ a1.toInt := Int.le_trans zq5 h4.1
    have u4k0_a1 : a1.toInt ≤ (8 : Int) := Int.le_trans h4.2 zq28
    have hF0 := hF0.trans (if_pos (by decide))
    refine lv_if_eq (tgt := 20) hx hb dX0_stepsIn_7 (by decide) (fun c7 => absurd c7 (by decide +kernel)) (fun _ => ?_)
    refine lv_aload_n hx hb dX0_stepsIn_10 rfl (lv_at hl 0 rfl) ?_
    refine va_get (D := (dC, dI)) (ci := 0) (v := .ref a0_10) (C := RX0) (T := TX0) (N := 15) hx hb hts zi_X0_stepsIn_0 hown hK hP 0 rfl rfl 10 (by decide) (hts (.fieldLink RX0 9 "WaxTurns$Hall" "kinds" "[I") (List.mem_cons_of_mem _ (List.mem_append_left _ (List.mem_of_getElem? (i := 0) rfl)))) (fun _ h9 => h9) rfl dX0_stepsIn_11 ?_
    refine lv_iload_n hx hb dX0_stepsIn_14 rfl (lv_at hl 1 rfl) ?_
    refine va_iald hx hb hK hP 1 0 rfl rfl (ai_in l4k0_a1 u4k0_a1 (by decide) (by decide)) dX0_stepsIn_15 ?_
    refine lv_topi (fun x15 ex15 => ?_)
    have fqx15 := congrArg Int32.toInt ex15
    have hF0 := hF0.trans (fl_lt_eq (show x15.toInt = (fl_A fa0_10) (a1.toInt.toNat) from fqx15))
    refine lv_iconst (v := 1) hx hb dX0_stepsIn_16 zk_iconst_1 ?_
    refine lv_icmp_eq (tgt := 22) hx hb dX0_stepsIn_17 (by decide) (fun c17 => ?_) (fun c17 => ?_)
    · have gc17 := ai_eq c17
      have u17t_x15 : x15.toInt ≤ (1 : Int) := Int.le_trans (Int.le_of_eq gc17) zq0
      have l17t_x15 : (1 : Int) ≤ x15.toInt := Int.le_trans zq1 (Int.le_of_eq gc17.symm)
      have hF0 := hF0.trans (if_pos (show x15.toInt = 1 from gc17))
      refine lv_aload_n hx hb dX0_stepsIn_22 rfl (lv_at hl 0 rfl) ?_
      refine va_get (D := (dC, dI)) (ci := 0) (v := .ref a0_11) (C := RX0) (T := TX0) (N := 15) hx hb hts zi_X0_stepsIn_0 hown hK hP 0 rfl rfl 11 (by decide) (hts (.fieldLink RX0 15 "WaxTurns$Hall" "measures" "[I") (List.mem_cons_of_mem _ (List.mem_append_left _ (List.mem_of_getElem? (i := 1) rfl)))) (fun _ h9 => h9) rfl dX0_stepsIn_23 ?_
      refine lv_iload_n hx hb dX0_stepsIn_26 rfl (lv_at hl 1 rfl) ?_
      refine va_iald hx hb hK hP 2 1 rfl rfl (ai_in l4k0_a1 u4k0_a1 (by decide) (by decide)) dX0_stepsIn_27 ?_
      refine lv_topi (fun x27 ex27 => ?_)
      have fqx27 := congrArg Int32.toInt ex27
      have hF0 := hF0.trans (fl_lt_eq (show x27.toInt = (fl_A fa0_11) (a1.toInt.toNat) from fqx27))
      refine lv_istore_n (lv' := [(3, .int x27), (0, .ref a0), (1, .int a1), (2, .int a2)]) hx hb dX0_stepsIn_28 rfl hl (by decide) rfl (fun ls hl => ?_)
      refine lv_iload_n hx hb dX0_stepsIn_29 rfl (lv_at hl 0 rfl) ?_
      refine lv_if_le (tgt := 43) hx hb dX0_stepsIn_30 (by decide) (fun c30 => ?_) (fun c30 => ?_)
      · have gc30 := ai_le c30
        have u30t_x27 : x27.toInt ≤ (0 : Int) := Int.le_trans gc30 zq6
        have hF0 := hF0.trans (if_pos (show x27.toInt ≤ 0 from gc30))
        refine lv_iconst (v := 0) hx hb dX0_stepsIn_43 zk_iconst_0 ?_
        have hFe : FX = 0 := hF0
        exact W.zret (v := 0) hx hb hr rfl (fun t ht hW => ⟨⟨0, (), rfl, ⟨(Or.inr (rfl)), hFe.symm⟩, by rw [ht]; exact hP, va_K.moved hW.alike hK, hD⟩, hS.F ht⟩) hS.2.2 dX0_stepsIn_44
      · have gc30 := ai_nle c30
        have l30f_x27 : (1 : Int) ≤ x27.toInt := ai_ltlo gc30 zq5
        have hF0 := hF0.trans (if_neg (show ¬ (x27.toInt ≤ 0) from Int.not_le.mpr gc30))
        refine lv_iload_n hx hb dX0_stepsIn_33 rfl (lv_at hl 3 rfl) ?_
        refine lv_iload_n hx hb dX0_stepsIn_34 rfl (lv_at hl 0 rfl) ?_
        refine lv_irem hx hb dX0_stepsIn_35 (ai_nz l30f_x27 (by decide)) ?_
        refine lv_topi (fun x35 ex35 => ?_)
        have fqx35 := fl_rem_eq ex35
        have hF0 := hF0.trans (fl_lt_eq (show x35.toInt = fl_rem a2.toInt x27.toInt from fqx35))
        refine lv_if_ne (tgt := 43) hx hb dX0_stepsIn_36 (by decide) (fun c36 => ?_) (fun c36 => ?_)
        · have gc36 := ai_ne c36
          have hF0 := hF0.trans (if_neg (show ¬ (x35.toInt = 0) from  gc36))
          refine lv_iconst (v := 0) hx hb dX0_stepsIn_43 zk_iconst_0 ?_
          have hFe : FX = 0 := hF0
          exact W.zret (v := 0) hx hb hr rfl (fun t ht hW => ⟨⟨0, (), rfl, ⟨(Or.inr (rfl)), hFe.symm⟩, by rw [ht]; exact hP, va_K.moved hW.alike hK, hD⟩, hS.F ht⟩) hS.2.2 dX0_stepsIn_44
        · have gc36 := ai_eq c36
          have u36f_x35 : x35.toInt ≤ (0 : Int) := Int.le_trans (Int.le_of_eq gc36) zq6
          have l36f_x35 : (0 : Int) ≤ x35.toInt := Int.le_trans zq5 (Int.le_of_eq gc36.symm)
          have hF0 := hF0.trans (if_pos (show x35.toInt = 0 from gc36))
          refine lv_iconst (v := 1) hx hb dX0_stepsIn_39 zk_iconst_1 ?_
          refine lv_goto (tgt := 44) hx hb dX0_stepsIn_40 (by decide) ?_
          have hFe : FX = 1 := hF0
          exact W.zret (v := 1) hx hb hr rfl (fun t ht hW => ⟨⟨1, (), rfl, ⟨(Or.inl ⟨rfl, l4k0_a1, u4k0_a1⟩), hFe.symm⟩, by rw [ht]; exact hP, va_K.moved hW.alike hK, hD⟩, hS.F ht⟩) hS.2.2 dX0_stepsIn_44
    · have gc17 := ai_ne c17
      have hF0 := hF0.trans (if_neg (show ¬ (x15.toInt = 1) from  gc17))
      refine lv_iconst (v := 0) hx hb dX0_stepsIn_20 zk_iconst_0 ?_
      have hFe : FX = 0 := hF0
      exact W.zret (v := 0) hx hb hr rfl (fun t ht hW => ⟨⟨0, (), rfl, ⟨(Or.inr (rfl)), hFe.symm⟩, by rw [ht]; exact hP, va_K.moved hW.alike hK, hD⟩, hS.F ht⟩) hS.2.2 dX0_stepsIn_21
  · obtain ⟨hw, h4⟩ := hw
    subst hw
    have hF0 := hF0.trans (if_neg (by decide))
    refine lv_if_eq (tgt := 20) hx hb dX0_stepsIn_7 (by decide) (fun _ => ?_) (fun c7 => absurd (by decide +kernel) c7)
    refine lv_iconst (v := 0) hx hb dX0_stepsIn_20 zk_iconst_0 ?_
    have hFe : FX = 0 := hF0
    exact W.zret (v := 0) hx hb hr rfl (fun t ht hW => ⟨⟨0, (), rfl, ⟨(Or.inr (rfl)), hFe.symm⟩, by rw [ht]; exact hP, va_K.moved hW.alike hK, hD⟩, hS.F ht⟩) hS.2.2 dX0_stepsIn_21

set_option maxHeartbeats 4000000 in
set_option maxRecDepth 100000 in
theorem f_X0_nearer (l : Launch) (dC : Nat → ClassId) (dI : Nat → Nat → Nat) (sz : Nat) (a0 : Nat) (a1 : Int32) (a0g_0 a0g_1 a0g_3 a0g_4 a0g_5 a0g_6 a0g_7 a0g_8 a0g_9 a0g_10 a0g_11 a0g_12 a0g_13 a0g_14 : Value) (a0_2 : Int32)  : Met l yX0_nearer wsX0_nearer ({ frames := 0, cells := 0, slots := 0, locals := 0 }) (va_Pc [.ref a0, .int a1] (ax_C dC dI sz [(a0, .inr (0, [a0g_0, a0g_1, .int a0_2, a0g_3, a0g_4, a0g_5, a0g_6, a0g_7, a0g_8, a0g_9, a0g_10, a0g_11, a0g_12, a0g_13, a0g_14]))] [] (fun _ => True))) (va_Qi (fun (r : Int32) (_ : Unit) => (True) ∧ r.toInt = Ff_X0_nearer a1.toInt a0_2.toInt) (fun (_ : Unit) (t : State) => ax_B dC dI (va_A [(a0, .inr (0, [a0g_0, a0g_1, .int a0_2, a0g_3, a0g_4, a0g_5, a0g_6, a0g_7, a0g_8, a0g_9, a0g_10, a0g_11, a0g_12, a0g_13, a0g_14]))] sz) [(a0, .inr (0, [a0g_0, a0g_1, .int a0_2, a0g_3, a0g_4, a0g_5, a0g_6, a0g_7, a0g_8, a0g_9, a0g_10, a0g_11, a0g_12, a0g_13, a0g_14]))] [] t) (va_A [(a0, .inr (0, [a0g_0, a0g_1, .int a0_2, a0g_3, a0g_4, a0g_5, a0g_6, a0g_7, a0g_8, a0g_9, a0g_10, a0g_11, a0g_12, a0g_13, a0g_14]))] sz)) 0 0 (va_A [(a0, .inr (0, [a0g_0, a0g_1, .int a0_2, a0g_3, a0g_4, a0g_5, a0g_6, a0g_7, a0g_8, a0g_9, a0g_10, a0g_11, a0g_12, a0g_13, a0g_14]))] sz) := by
  refine Met.ofW (cc := cX0_nearer) (maxL := 2) (ret := (some .int)) (by decide) rfl ?_
  intro p e s m args below meth c s₁ B hml hv
  obtain ⟨rfl, hsz, hP, hK, hD0, hE⟩ := hv
  have hx := B.exec
  have hb := B.bytes
  have hr := B.returns
  have hts := atoms_spec (ws := wsX0_nearer) B.pre
  have hown : s.vm.findClass RX0 = some m.cls := findClass_of_methodNamed B.named
  have hlocks := B.notSynchronized
  subst hsz
  have hD := hD0.self (sz := s.heap.size)
  generalize hAe : va_A [(a0, .inr (0, [a0g_0, a0g_1, .int a0_2, a0g_3, a0g_4, a0g_5, a0g_6, a0g_7, a0g_8, a0g_9, a0g_10, a0g_11, a0g_12, a0g_13, a0g_14]))] s.heap.size = A at hD ⊢
  have hA : ∀ q : Nat, s.heap.size ≤ q → A q := fun q h => by rw [← hAe]; exact Or.inr h
  have hS : va_S A s.heap s.heap [] := va_S.rf
  have hP : va_P (dC, dI) vwCl [(a0, .inr (0, [a0g_0, a0g_1, .int a0_2, a0g_3, a0g_4, a0g_5, a0g_6, a0g_7, a0g_8, a0g_9, a0g_10, a0g_11, a0g_12, a0g_13, a0g_14]))] s.heap := hP
  have hl := lv_entry ([.ref a0, .int a1]) (n := 2) (Nat.le_of_ble_eq_true rfl)
  rw [lg_entry_eq]
  generalize (lg_sl ([.ref a0, .int a1]) ++ List.replicate (2 - (lg_sl ([.ref a0, .int a1])).length) Slot.unset).toArray = ls at hl ⊢
  have hl : lv_has ls 2 [(0, .ref a0), (1, .int a1)] := hl
  generalize hFX : Ff_X0_nearer a1.toInt a0_2.toInt = FX at ⊢
  have hF0 := hFX.symm.trans (Ff_X0_nearer.eq_1 a1.toInt a0_2.toInt)
  refine lv_iload_n hx hb dX0_nearer_0 rfl (lv_at hl 1 rfl) ?_
  refine lv_aload_n hx hb dX0_nearer_1 rfl (lv_at hl 0 rfl) ?_
  refine va_get (D := (dC, dI)) (ci := 0) (v := .int a0_2) (C := RX0) (T := TX0) (N := 15) hx hb hts zi_X0_nearer_0 hown hK hP 0 rfl rfl 2 (by decide) (hts (.fieldLink RX0 51 "WaxTurns$Hall" "stairsPlace" "I") (List.mem_cons_of_mem _ (List.mem_append_left _ (List.mem_of_getElem? (i := 0) rfl)))) (fun _ h9 => h9) rfl dX0_nearer_2 ?_
  refine lv_icmp_ne (tgt := 10) hx hb dX0_nearer_5 (by decide) (fun c5 => ?_) (fun c5 => ?_)
  · have gc5 := ai_ne c5
    have hF0 := hF0.trans (if_neg (show ¬ (a1.toInt = a0_2.toInt) from  gc5))
    refine lv_iload_n hx hb dX0_nearer_10 rfl (lv_at hl 1 rfl) ?_
    refine lv_aload_n hx hb dX0_nearer_11 rfl (lv_at hl 0 rfl) ?_
    refine va_get (D := (dC, dI)) (ci := 0) (v := .int a0_2) (C := RX0) (T := TX0) (N := 15) hx hb hts zi_X0_nearer_0 hown hK hP 0 rfl rfl 2 (by decide) (hts (.fieldLink RX0 51 "WaxTurns$Hall" "stairsPlace" "I") (List.mem_cons_of_mem _ (List.mem_append_left _ (List.mem_of_getElem? (i := 0) rfl)))) (fun _ h9 => h9) rfl dX0_nearer_12 ?_
    refine lv_icmp_ge (tgt := 24) hx hb dX0_nearer_15 (by decide) (fun c15 => ?_) (fun c15 => ?_)
    · have gc15 := ai_le c15
      have hF0 := hF0.trans (if_pos (show a0_2.toInt ≤ a1.toInt from gc15))
      refine lv_iload_n hx hb dX0_nearer_24 rfl (lv_at hl 1 rfl) ?_
      refine lv_iconst (v := 1) hx hb dX0_nearer_25 zk_iconst_1 ?_
      refine lv_isub hx hb dX0_nearer_26 ?_
      refine lv_topi (fun x26 ex26 => ?_)
      have fqx26 := fl_isub_eq ex26
      have hF0 := hF0.trans (fl_lt_eq (show x26.toInt = fl_isub a1.toInt 1 from fqx26))
      have hFe : FX = x26.toInt := hF0
      exact W.iret (v := x26) hx hb hr (fun t ht hW => ⟨⟨x26, (), rfl, ⟨trivial, hFe.symm⟩, by rw [ht]; exact hP, va_K.moved hW.alike hK, hD⟩, hS.F ht⟩) hS.2.2 dX0_nearer_27
    · have gc15 := ai_nle c15
      have u15f_a1 : a1.toInt ≤ (2147483646 : Int) := ai_lthi gc15 (ai_max a0_2)
      have l15f_a0_2 : (-2147483647 : Int) ≤ a0_2.toInt := ai_ltlo gc15 (ai_min a1)
      have hF0 := hF0.trans (if_neg (show ¬ (a0_2.toInt ≤ a1.toInt) from Int.not_le.mpr gc15))
      refine lv_iload_n hx hb dX0_nearer_18 rfl (lv_at hl 1 rfl) ?_
      refine lv_iconst (v := 1) hx hb dX0_nearer_19 zk_iconst_1 ?_
      refine lv_iadd hx hb dX0_nearer_20 ?_
      refine lv_topi (fun x20 ex20 => ?_)
      have qx20 : x20.toInt = a1.toInt + (1 : Int32).toInt := ai_add ex20 ⟨(ai_min a1), u15f_a1⟩ ⟨zq1, zq0⟩ (by decide) (by decide)
      have bx20 : (-2147483647 : Int) ≤ x20.toInt ∧ x20.toInt ≤ 2147483647 := ⟨by rw [qx20]; exact Int.add_le_add (ai_min a1) zq1, by rw [qx20]; exact Int.add_le_add u15f_a1 zq0⟩
      have wx20 : x20.toInt = a1.toInt + 1 := qx20
      have hF0 := hF0.trans (fl_lt_eq (show x20.toInt = a1.toInt + 1 from qx20))
      refine lv_goto (tgt := 27) hx hb dX0_nearer_21 (by decide) ?_
      have hFe : FX = x20.toInt := hF0
      exact W.iret (v := x20) hx hb hr (fun t ht hW => ⟨⟨x20, (), rfl, ⟨trivial, hFe.symm⟩, by rw [ht]; exact hP, va_K.moved hW.alike hK, hD⟩, hS.F ht⟩) hS.2.2 dX0_nearer_27
  · have gc5 := ai_eq c5
    have hF0 := hF0.trans (if_pos (show a1.toInt = a0_2.toInt from gc5))
    refine lv_iload_n hx hb dX0_nearer_8 rfl (lv_at hl 1 rfl) ?_
    have hFe : FX = a1.toInt := hF0
    exact W.iret (v := a1) hx hb hr (fun t ht hW => ⟨⟨a1, (), rfl, ⟨trivial, hFe.symm⟩, by rw [ht]; exact hP, va_K.moved hW.alike hK, hD⟩, hS.F ht⟩) hS.2.2 dX0_nearer_9

set_option maxHeartbeats 4000000 in
set_option maxRecDepth 100000 in
theorem f_X0_isHeardAt (l : Launch) (dC : Nat → ClassId) (dI : Nat → Nat → Nat) (sz : Nat) (a1 : Int32) (a2 : Int32)  : Met l yX0_isHeardAt wsX0_isHeardAt ({ frames := 0, cells := 0, slots := 0, locals := 0 }) (va_Pc [.int a1, .int a2] (ax_C dC dI sz [] [] (fun _ => True))) (va_Qi (fun (r : Int32) (_ : Unit) => ((r = 1) ∨ (r = 0)) ∧ r.toInt = Ff_X0_isHeardAt a1.toInt a2.toInt) (fun (_ : Unit) (t : State) => ax_B dC dI (va_A [] sz) [] [] t) (va_A [] sz)) 0 0 (va_A [] sz) := by
  refine Met.ofW (cc := cX0_isHeardAt) (maxL := 2) (ret := (some .boolean)) (by decide) rfl ?_
  intro p e s m args below meth c s₁ B hml hv
  obtain ⟨rfl, hsz, hP, hK, hD0, hE⟩ := hv
  have hx := B.exec
  have hb := B.bytes
  have hr := B.returns
  have hts := atoms_spec (ws := wsX0_isHeardAt) B.pre
  have hown : s.vm.findClass RX0 = some m.cls := findClass_of_methodNamed B.named
  have hlocks := B.notSynchronized
  subst hsz
  have hD := hD0.self (sz := s.heap.size)
  generalize hAe : va_A [] s.heap.size = A at hD ⊢
  have hA : ∀ q : Nat, s.heap.size ≤ q → A q := fun q h => by rw [← hAe]; exact Or.inr h
  have hS : va_S A s.heap s.heap [] := va_S.rf
  have hP : va_P (dC, dI) vwCl [] s.heap := hP
  have hl := lv_entry ([.int a1, .int a2]) (n := 2) (Nat.le_of_ble_eq_true rfl)
  rw [lg_entry_eq]
  generalize (lg_sl ([.int a1, .int a2]) ++ List.replicate (2 - (lg_sl ([.int a1, .int a2])).length) Slot.unset).toArray = ls at hl ⊢
  have hl : lv_has ls 2 [(0, .int a1), (1, .int a2)] := hl
  generalize hFX : Ff_X0_isHeardAt a1.toInt a2.toInt = FX at ⊢
  have hF0 := hFX.symm.trans (Ff_X0_isHeardAt.eq_1 a1.toInt a2.toInt)
  refine lv_iload_n hx hb dX0_isHeardAt_0 rfl (lv_at hl 1 rfl) ?_
  refine lv_bipush (v := 7) hx hb dX0_isHeardAt_1 zk_bipush_7 ?_
  refine lv_iload_n hx hb dX0_isHeardAt_3 rfl (lv_at hl 0 rfl) ?_
  refine lv_ishl hx hb dX0_isHeardAt_4 ?_
  refine lv_topi (fun x4 ex4 => ?_)
  have fqx4 := fl_shl_eq ex4
  have hF0 := hF0.trans (fl_lt_eq (show x4.toInt = fl_shl 7 a1.toInt from fqx4))
  refine lv_iconst (v := 1) hx hb dX0_isHeardAt_5 zk_iconst_1 ?_
  refine lv_ishr hx hb dX0_isHeardAt_6 ?_
  refine lv_topi (fun x6 ex6 => ?_)
  have qx6 : x6.toInt = x4.toInt / 2 := ai_shr1 ex6
  have hF0 := hF0.trans (fl_lt_eq (show x6.toInt = x4.toInt / 2 from qx6))
  refine lv_iand hx hb dX0_isHeardAt_7 ?_
  refine lv_topi (fun x7 ex7 => ?_)
  have fqx7 := fl_and_eq ex7
  have hF0 := hF0.trans (fl_lt_eq (show x7.toInt = fl_and a2.toInt x6.toInt from fqx7))
  refine lv_if_eq (tgt := 15) hx hb dX0_isHeardAt_8 (by decide) (fun c8 => ?_) (fun c8 => ?_)
  · have gc8 := ai_eq c8
    have u8t_x7 : x7.toInt ≤ (0 : Int) := Int.le_trans (Int.le_of_eq gc8) zq6
    have l8t_x7 : (0 : Int) ≤ x7.toInt := Int.le_trans zq5 (Int.le_of_eq gc8.symm)
    have hF0 := hF0.trans (if_pos (show x7.toInt = 0 from gc8))
    refine lv_iconst (v := 0) hx hb dX0_isHeardAt_15 zk_iconst_0 ?_
    have hFe : FX = 0 := hF0
    exact W.zret (v := 0) hx hb hr rfl (fun t ht hW => ⟨⟨0, (), rfl, ⟨(Or.inr (rfl)), hFe.symm⟩, by rw [ht]; exact hP, va_K.moved hW.alike hK, hD⟩, hS.F ht⟩) hS.2.2 dX0_isHeardAt_16
  · have gc8 := ai_ne c8
    have hF0 := hF0.trans (if_neg (show ¬ (x7.toInt = 0) from  gc8))
    refine lv_iconst (v := 1) hx hb dX0_isHeardAt_11 zk_iconst_1 ?_
    refine lv_goto (tgt := 16) hx hb dX0_isHeardAt_12 (by decide) ?_
    have hFe : FX = 1 := hF0
    exact W.zret (v := 1) hx hb hr rfl (fun t ht hW => ⟨⟨1, (), rfl, ⟨(Or.inl (rfl)), hFe.symm⟩, by rw [ht]; exact hP, va_K.moved hW.alike hK, hD⟩, hS.F ht⟩) hS.2.2 dX0_isHeardAt_16

set_option maxHeartbeats 4000000 in
set_option maxRecDepth 100000 in
theorem f_X0_partSaid (l : Launch) (dC : Nat → ClassId) (dI : Nat → Nat → Nat) (sz : Nat) (a0 : Nat) (a1 : Int32) (a2 : Int32) (a0g_0 a0g_1 a0g_2 a0g_3 a0g_4 a0g_5 a0g_6 a0g_7 a0g_8 a0g_9 a0g_12 a0g_13 a0g_14 : Value) (a0_10 : Nat) (a0_11 : Nat) (ka0_10 : ClassId) (fa0_10 : Nat → Int32) (ka0_11 : ClassId) (fa0_11 : Nat → Int32)  : Met l yX0_partSaid wsX0_partSaid ({ frames := 1, cells := 0, slots := 0, locals := 22 }) (va_Pc [.ref a0, .int a1, .int a2] (ax_C dC dI sz [(a0, .inr (0, [a0g_0, a0g_1, a0g_2, a0g_3, a0g_4, a0g_5, a0g_6, a0g_7, a0g_8, a0g_9, .ref a0_10, .ref a0_11, a0g_12, a0g_13, a0g_14])), (a0_10, .inl (ka0_10, 9, .inl (fa0_10))), (a0_11, .inl (ka0_11, 9, .inl (fa0_11)))] [(ka0_10, .int), (ka0_11, .int)] (fun U => va_Nw (.methodLinkNest RX0 118 yX7_within RX7) U))) (va_Qi (fun (r : Int32) (_ : Unit) => (True) ∧ r.toInt = Ff_X0_partSaid a1.toInt a2.toInt (fl_A fa0_10) (fl_A fa0_11)) (fun (_ : Unit) (t : State) => ax_B dC dI (va_A [(a0, .inr (0, [a0g_0, a0g_1, a0g_2, a0g_3, a0g_4, a0g_5, a0g_6, a0g_7, a0g_8, a0g_9, .ref a0_10, .ref a0_11, a0g_12, a0g_13, a0g_14])), (a0_10, .inl (ka0_10, 9, .inl (fa0_10))), (a0_11, .inl (ka0_11, 9, .inl (fa0_11)))] sz) [(a0, .inr (0, [a0g_0, a0g_1, a0g_2, a0g_3, a0g_4, a0g_5, a0g_6, a0g_7, a0g_8, a0g_9, .ref a0_10, .ref a0_11, a0g_12, a0g_13, a0g_14])), (a0_10, .inl (ka0_10, 9, .inl (fa0_10))), (a0_11, .inl (ka0_11, 9, .inl (fa0_11)))] [(ka0_10, .int), (ka0_11, .int)] t) (va_A [(a0, .inr (0, [a0g_0, a0g_1, a0g_2, a0g_3, a0g_4, a0g_5, a0g_6, a0g_7, a0g_8, a0g_9, .ref a0_10, .ref a0_11, a0g_12, a0g_13, a0g_14])), (a0_10, .inl (ka0_10, 9, .inl (fa0_10))), (a0_11, .inl (ka0_11, 9, .inl (fa0_11)))] sz)) 0 0 (va_A [(a0, .inr (0, [a0g_0, a0g_1, a0g_2, a0g_3, a0g_4, a0g_5, a0g_6, a0g_7, a0g_8, a0g_9, .ref a0_10, .ref a0_11, a0g_12, a0g_13, a0g_14])), (a0_10, .inl (ka0_10, 9, .inl (fa0_10))), (a0_11, .inl (ka0_11, 9, .inl (fa0_11)))] sz) := by
  refine Met.ofW (cc := cX0_partSaid) (maxL := 4) (ret := (some .int)) (by decide) rfl ?_
  intro p e s m args below meth c s₁ B hml hv
  obtain ⟨rfl, hsz, hP, hK, hD0, hE⟩ := hv
  have hx := B.exec
  have hb := B.bytes
  have hr := B.returns
  have hts := atoms_spec (ws := wsX0_partSaid) B.pre
  have hown : s.vm.findClass RX0 = some m.cls := findClass_of_methodNamed B.named
  have hlocks := B.notSynchronized
  subst hsz
  have hD := hD0.self (sz := s.heap.size)
  generalize hAe : va_A [(a0, .inr (0, [a0g_0, a0g_1, a0g_2, a0g_3, a0g_4, a0g_5, a0g_6, a0g_7, a0g_8, a0g_9, .ref a0_10, .ref a0_11, a0g_12, a0g_13, a0g_14])), (a0_10, .inl (ka0_10, 9, .inl (fa0_10))), (a0_11, .inl (ka0_11, 9, .inl (fa0_11)))] s.heap.size = A at hD ⊢
  have hA : ∀ q : Nat, s.heap.size ≤ q → A q := fun q h => by rw [← hAe]; exact Or.inr h
  have hS : va_S A s.heap s.heap [] := va_S.rf
  have hP : va_P (dC, dI) vwCl [(a0, .inr (0, [a0g_0, a0g_1, a0g_2, a0g_3, a0g_4, a0g_5, a0g_6, a0g_7, a0g_8, a0g_9, .ref a0_10, .ref a0_11, a0g_12, a0g_13, a0g_14])), (a0_10, .inl (ka0_10, 9, .inl (fa0_10))), (a0_11, .inl (ka0_11, 9, .inl (fa0_11)))] s.heap := hP
  have hE0 := hE
  have hl := lv_entry ([.ref a0, .int a1, .int a2]) (n := 4) (Nat.le_of_ble_eq_true rfl)
  rw [lg_entry_eq]
  generalize (lg_sl ([.ref a0, .int a1, .int a2]) ++ List.replicate (4 - (lg_sl ([.ref a0, .int a1, .int a2])).length) Slot.unset).toArray = ls at hl ⊢
  have hl : lv_has ls 4 [(0, .ref a0), (1, .int a1), (2, .int a2)] := hl
  generalize hFX : Ff_X0_partSaid a1.toInt a2.toInt (fl_A fa0_10) (fl_A fa0_11) = FX at ⊢
  have hF0 := hFX.symm.trans (Ff_X0_partSaid.eq_1 a1.toInt a2.toInt (fl_A fa0_10) (fl_A fa0_11))
  refine lv_iload_n hx hb dX0_partSaid_0 rfl (lv_at hl 1 rfl) ?_
  refine lv_iconst (v := 0) hx hb dX0_partSaid_1 zk_iconst_0 ?_
  refine lv_bipush (v := 8) hx hb dX0_partSaid_2 zk_bipush_8 ?_
  obtain ⟨hPc, hDc, hFc, hCc⟩ := zc_cut (wc := []) hP hD hS hA [] (by decide +kernel) rfl
  have hKc := hK.sub (tys' := []) [] rfl
  refine va_calli (va_runSN (As := [.int a1, .int 0, .int 8]) (rest := []) ⟨hx, hb, hml, hown, hts⟩ (f_X7_within l dC dI s.heap.size a1 0 8 ) ⟨va_cnB 3 hts gX0_partSaid_X7_within_n118 rfl rfl rfl hE0 (hts (.initialized RX7) (List.mem_cons_of_mem _ (List.mem_append_left _ (List.mem_of_getElem? (i := 3) rfl)))) zd_X7_within.2 ⟨Nat.le_of_ble_eq_true rfl, Nat.le_of_ble_eq_true rfl⟩, (hts (.static yX7_within) (List.mem_cons_of_mem _ (List.mem_append_left _ (List.mem_of_getElem? (i := 2) rfl)))), trivial⟩ ⟨ax_blind (fun _ _ _ _ _ => trivial), ax_pre hPc hKc hDc (fun _ _ => trivial)⟩ rfl rfl hl.1 rfl (lv_room (Nat.le_of_ble_eq_true rfl)) dX0_partSaid_4 ⟨Nat.le_of_ble_eq_true rfl, Nat.le_of_ble_eq_true rfl⟩) hS (fun q _ h => hFc q h) hFc (fun r4 u t H locs ht hvm hw hB hz1 hk1 hS => ?_)
  obtain ⟨hP1, hK1, hD1⟩ := hB
  rw [ht] at hP1
  obtain ⟨hP, hD⟩ := zc_back (w := [(a0, .inr (0, [a0g_0, a0g_1, a0g_2, a0g_3, a0g_4, a0g_5, a0g_6, a0g_7, a0g_8, a0g_9, .ref a0_10, .ref a0_11, a0g_12, a0g_13, a0g_14])), (a0_10, .inl (ka0_10, 9, .inl (fa0_10))), (a0_11, .inl (ka0_11, 9, .inl (fa0_11)))]) hP hD hCc hk1 hFc hP1 hD1 [.inl 0, .inl 1, .inl 2] (by decide +kernel) rfl
  obtain ⟨hw, hfr4⟩ := hw
  rw [show (0 : Int32).toInt = 0 from by decide, show (8 : Int32).toInt = 8 from by decide] at hfr4
  have hc4 : Ff_X7_within a1.toInt 0 8 = r4.toInt := hfr4.symm
  have hF0 := hF0.trans (fl_lt_eq hc4.symm)
  rcases hw with hw | hw
  · obtain ⟨hw, h4⟩ := hw
    subst hw
    have l4k0_a1 : (0 : Int) ≤ a1.toInt := Int.le_trans zq5 h4.1
    have u4k0_a1 : a1.toInt ≤ (8 : Int) := Int.le_trans h4.2 zq28
    have hF0 := hF0.trans (if_pos (by decide))
    refine lv_if_eq (tgt := 24) hx hb dX0_partSaid_7 (by decide) (fun c7 => absurd c7 (by decide +kernel)) (fun _ => ?_)
    refine lv_aload_n hx hb dX0_partSaid_10 rfl (lv_at hl 0 rfl) ?_
    refine va_get (D := (dC, dI)) (ci := 0) (v := .ref a0_10) (C := RX0) (T := TX0) (N := 15) hx hb hts zi_X0_partSaid_0 hown hK hP 0 rfl rfl 10 (by decide) (hts (.fieldLink RX0 9 "WaxTurns$Hall" "kinds" "[I") (List.mem_cons_of_mem _ (List.mem_append_left _ (List.mem_of_getElem? (i := 0) rfl)))) (fun _ h9 => h9) rfl dX0_partSaid_11 ?_
    refine lv_iload_n hx hb dX0_partSaid_14 rfl (lv_at hl 1 rfl) ?_
    refine va_iald hx hb hK hP 1 0 rfl rfl (ai_in l4k0_a1 u4k0_a1 (by decide) (by decide)) dX0_partSaid_15 ?_
    refine lv_topi (fun x15 ex15 => ?_)
    have fqx15 := congrArg Int32.toInt ex15
    have hF0 := hF0.trans (fl_lt_eq (show x15.toInt = (fl_A fa0_10) (a1.toInt.toNat) from fqx15))
    refine lv_iconst (v := 2) hx hb dX0_partSaid_16 zk_iconst_2 ?_
    refine lv_icmp_ne (tgt := 24) hx hb dX0_partSaid_17 (by decide) (fun c17 => ?_) (fun c17 => ?_)
    · have gc17 := ai_ne c17
      have hF0 := hF0.trans (if_neg (show ¬ (x15.toInt = 2) from  gc17))
      refine lv_iconst (v := 0) hx hb dX0_partSaid_24 zk_iconst_0 ?_
      refine lv_istore_n (lv' := [(3, .int 0), (0, .ref a0), (1, .int a1), (2, .int a2)]) hx hb dX0_partSaid_25 rfl hl (by decide) rfl (fun ls hl => ?_)
      refine lv_iload_n hx hb dX0_partSaid_26 rfl (lv_at hl 0 rfl) ?_
      refine lv_if_eq (tgt := 48) hx hb dX0_partSaid_27 (by decide) (fun _ => ?_) (fun c27 => absurd (by decide +kernel) c27)
      refine lv_iconst (v := 0) hx hb dX0_partSaid_48 zk_iconst_0 ?_
      have hFe : FX = 0 := hF0
      exact W.iret (v := 0) hx hb hr (fun t ht hW => ⟨⟨0, (), rfl, ⟨trivial, hFe.symm⟩, by rw [ht]; exact hP, va_K.moved hW.alike hK, hD⟩, hS.F ht⟩) hS.2.2 dX0_partSaid_49
    · have gc17 := ai_eq c17
      have u17f_x15 : x15.toInt ≤ (2 : Int) := Int.le_trans (Int.le_of_eq gc17) zq13
      have l17f_x15 : (2 : Int) ≤ x15.toInt := Int.le_trans zq12 (Int.le_of_eq gc17.symm)
      have hF0 := hF0.trans (if_pos (show x15.toInt = 2 from gc17))
      refine lv_iconst (v := 1) hx hb dX0_partSaid_20 zk_iconst_1 ?_
      refine lv_goto (tgt := 25) hx hb dX0_partSaid_21 (by decide) ?_
      refine lv_istore_n (lv' := [(3, .int 1), (0, .ref a0), (1, .int a1), (2, .int a2)]) hx hb dX0_partSaid_25 rfl hl (by decide) rfl (fun ls hl => ?_)
      refine lv_iload_n hx hb dX0_partSaid_26 rfl (lv_at hl 0 rfl) ?_
      refine lv_if_eq (tgt := 48) hx hb dX0_partSaid_27 (by decide) (fun c27 => absurd c27 (by decide +kernel)) (fun _ => ?_)
      refine lv_iload_n hx hb dX0_partSaid_30 rfl (lv_at hl 3 rfl) ?_
      refine lv_aload_n hx hb dX0_partSaid_31 rfl (lv_at hl 1 rfl) ?_
      refine va_get (D := (dC, dI)) (ci := 0) (v := .ref a0_11) (C := RX0) (T := TX0) (N := 15) hx hb hts zi_X0_partSaid_0 hown hK hP 0 rfl rfl 11 (by decide) (hts (.fieldLink RX0 15 "WaxTurns$Hall" "measures" "[I") (List.mem_cons_of_mem _ (List.mem_append_left _ (List.mem_of_getElem? (i := 1) rfl)))) (fun _ h9 => h9) rfl dX0_partSaid_32 ?_
      refine lv_iload_n hx hb dX0_partSaid_35 rfl (lv_at hl 2 rfl) ?_
      refine va_iald hx hb hK hP 2 1 rfl rfl (ai_in l4k0_a1 u4k0_a1 (by decide) (by decide)) dX0_partSaid_36 ?_
      refine lv_topi (fun x36 ex36 => ?_)
      have fqx36 := congrArg Int32.toInt ex36
      have hF0 := hF0.trans (fl_lt_eq (show x36.toInt = (fl_A fa0_11) (a1.toInt.toNat) from fqx36))
      refine lv_icmp_gt (tgt := 48) hx hb dX0_partSaid_37 (by decide) (fun c37 => ?_) (fun c37 => ?_)
      · have gc37 := ai_lt c37
        have u37t_x36 : x36.toInt ≤ (2147483646 : Int) := ai_lthi gc37 (ai_max a2)
        have l37t_a2 : (-2147483647 : Int) ≤ a2.toInt := ai_ltlo gc37 (ai_min x36)
        have hF0 := hF0.trans (if_pos (show x36.toInt < a2.toInt from gc37))
        refine lv_iconst (v := 0) hx hb dX0_partSaid_48 zk_iconst_0 ?_
        have hFe : FX = 0 := hF0
        exact W.iret (v := 0) hx hb hr (fun t ht hW => ⟨⟨0, (), rfl, ⟨trivial, hFe.symm⟩, by rw [ht]; exact hP, va_K.moved hW.alike hK, hD⟩, hS.F ht⟩) hS.2.2 dX0_partSaid_49
      · have gc37 := ai_nlt c37
        have hF0 := hF0.trans (if_neg (show ¬ (x36.toInt < a2.toInt) from Int.not_lt.mpr gc37))
        refine lv_iconst (v := 1) hx hb dX0_partSaid_40 zk_iconst_1 ?_
        refine lv_iload_n hx hb dX0_partSaid_41 rfl (lv_at hl 3 rfl) ?_
        refine lv_iconst (v := 1) hx hb dX0_partSaid_42 zk_iconst_1 ?_
        refine lv_isub hx hb dX0_partSaid_43 ?_
        refine lv_topi (fun x43 ex43 => ?_)
        have fqx43 := fl_isub_eq ex43
        have hF0 := hF0.trans (fl_lt_eq (show x43.toInt = fl_isub a2.toInt 1 from fqx43))
        refine lv_ishl hx hb dX0_partSaid_44 ?_
        refine lv_topi (fun x44 ex44 => ?_)
        have fqx44 := fl_shl_eq ex44
        have hF0 := hF0.trans (fl_lt_eq (show x44.toInt = fl_shl 1 x43.toInt from fqx44))
        refine lv_goto (tgt := 49) hx hb dX0_partSaid_45 (by decide) ?_
        have hFe : FX = x44.toInt := hF0
        exact W.iret (v := x44) hx hb hr (fun t ht hW => ⟨⟨x44, (), rfl, ⟨trivial, hFe.symm⟩, by rw [ht]; exact hP, va_K.moved hW.alike hK, hD⟩, hS.F ht⟩) hS.2.2 dX0_partSaid_49
  · obtain ⟨hw, h4⟩ := hw
    subst hw
    have hF0 := hF0.trans (if_neg (by decide))
    refine lv_if_eq (tgt := 24) hx hb dX0_partSaid_7 (by decide) (fun _ => ?_) (fun c7 => absurd (by decide +kernel) c7)
    refine lv_iconst (v := 0) hx hb dX0_partSaid_24 zk_iconst_0 ?_
    refine lv_istore_n (lv' := [(3, .int 0), (0, .ref a0), (1, .int a1), (2, .int a2)]) hx hb dX0_partSaid_25 rfl hl (by decide) rfl (fun ls hl => ?_)
    refine lv_iload_n hx hb dX0_partSaid_26 rfl (lv_at hl 0 rfl) ?_
    refine lv_if_eq (tgt := 48) hx hb dX0_partSaid_27 (by decide) (fun _ => ?_) (fun c27 => absurd (by decide +kernel) c27)
    refine lv_iconst (v := 0) hx hb dX0_partSaid_48 zk_iconst_0 ?_
    have hFe : FX = 0 := hF0
    exact W.iret (v := 0) hx hb hr (fun t ht hW => ⟨⟨0, (), rfl, ⟨trivial, hFe.symm⟩, by rw [ht]; exact hP, va_K.moved hW.alike hK, hD⟩, hS.F ht⟩) hS.2.2 dX0_partSaid_49

set_option maxHeartbeats 4000000 in
set_option maxRecDepth 100000 in
theorem f_X0_step (l : Launch) (dC : Nat → ClassId) (dI : Nat → Nat → Nat) (sz : Nat) (a0 : Nat) (a1 : Nat) (a2 : Int32) (a3 : Nat) (a0g_0 a0g_1 a0g_3 a0g_4 a0g_5 a0g_6 a0g_7 a0g_8 a0g_9 a0g_10 a0g_11 a0g_12 a0g_13 a0g_14 : Value) (a0_2 : Int32) (a1_0 : Int32) (a1g_1 a1g_2 a1g_6 : Value) (a1_3 : Int32) (a1_4 : Int32) (a1_5 : Nat) (ka1_5 : ClassId) (fa1_5 : Nat → Int32) (a3_0 : Int32) (a3_1 : Int32) (a3_2 : Nat) (a3_3 : Nat) (ka3_3 : ClassId) (fa3_3 : Nat → Int32) (ka3_2 : ClassId) (fa3_2 : Nat → Int32) (ba2_l : (0 : Int) ≤ a2.toInt) (ba2_u : a2.toInt ≤ (8 : Int)) (ba3_0_l : (0 : Int) ≤ a3_0.toInt) (ba3_0_u : a3_0.toInt ≤ (3 : Int)) (bfa3_3 : (∀ k, (0 : Int) ≤ (fa3_3 k).toInt ∧ (fa3_3 k).toInt ≤ 80)) (bfa3_2 : (∀ k, (0 : Int) ≤ (fa3_2 k).toInt ∧ (fa3_2 k).toInt ≤ 80)) : Met l yX0_step wsX0_step ({ frames := 2, cells := 0, slots := 0, locals := 49 }) (va_Pc [.ref a0, .ref a1, .int a2, .ref a3] (ax_C dC dI sz [(a0, .inr (0, [a0g_0, a0g_1, .int a0_2, a0g_3, a0g_4, a0g_5, a0g_6, a0g_7, a0g_8, a0g_9, a0g_10, a0g_11, a0g_12, a0g_13, a0g_14])), (a1, .inr (5, [.int a1_0, a1g_1, a1g_2, .int a1_3, .int a1_4, .ref a1_5, a1g_6])), (a1_5, .inl (ka1_5, 9, .inl (fa1_5))), (a3, .inr (6, [.int a3_0, .int a3_1, .ref a3_2, .ref a3_3])), (a3_3, .inl (ka3_3, 3, .inl (fa3_3))), (a3_2, .inl (ka3_2, 3, .inl (fa3_2)))] [(ka1_5, .int), (ka3_3, .int), (ka3_2, .int)] (fun U => va_Nw (.methodLinkNest RX5 38 yX7_hasBit RX7) U ∧ va_Nw (.methodLinkNest RX0 129 yX7_hasBit RX7) U))) (va_Qv (fun (_ : Unit) => True) (fun (_ : Unit) (t : State) => ∃ na1_3 : Int32, ∃ na1_4 : Int32, ∃ nfa1_5 : Nat → Int32, (Ff_X0_step a2.toInt a0_2.toInt a1_0.toInt a1_3.toInt a1_4.toInt (fl_A fa1_5) a3_0.toInt a3_1.toInt (fl_A fa3_3) (fl_A fa3_2) = (na1_3.toInt, na1_4.toInt, (fl_A nfa1_5))) ∧ ax_B dC dI (va_A [(a0, .inr (0, [a0g_0, a0g_1, .int a0_2, a0g_3, a0g_4, a0g_5, a0g_6, a0g_7, a0g_8, a0g_9, a0g_10, a0g_11, a0g_12, a0g_13, a0g_14])), (a1, .inr (5, [.int a1_0, a1g_1, a1g_2, .int a1_3, .int a1_4, .ref a1_5, a1g_6])), (a1_5, .inl (ka1_5, 9, .inl (fa1_5))), (a3, .inr (6, [.int a3_0, .int a3_1, .ref a3_2, .ref a3_3])), (a3_3, .inl (ka3_3, 3, .inl (fa3_3))), (a3_2, .inl (ka3_2, 3, .inl (fa3_2)))] sz) [(a0, .inr (0, [a0g_0, a0g_1, .int a0_2, a0g_3, a0g_4, a0g_5, a0g_6, a0g_7, a0g_8, a0g_9, a0g_10, a0g_11, a0g_12, a0g_13, a0g_14])), (a1, .inr (5, [.int a1_0, a1g_1, a1g_2, .int na1_3, .int na1_4, .ref a1_5, a1g_6])), (a1_5, .inl (ka1_5, 9, .inl (nfa1_5))), (a3, .inr (6, [.int a3_0, .int a3_1, .ref a3_2, .ref a3_3])), (a3_3, .inl (ka3_3, 3, .inl (fa3_3))), (a3_2, .inl (ka3_2, 3, .inl (fa3_2)))] [(ka1_5, .int), (ka3_3, .int), (ka3_2, .int)] t) (va_A [(a0, .inr (0, [a0g_0, a0g_1, .int a0_2, a0g_3, a0g_4, a0g_5, a0g_6, a0g_7, a0g_8, a0g_9, a0g_10, a0g_11, a0g_12, a0g_13, a0g_14])), (a1, .inr (5, [.int a1_0, a1g_1, a1g_2, .int a1_3, .int a1_4, .ref a1_5, a1g_6])), (a1_5, .inl (ka1_5, 9, .inl (fa1_5))), (a3, .inr (6, [.int a3_0, .int a3_1, .ref a3_2, .ref a3_3])), (a3_3, .inl (ka3_3, 3, .inl (fa3_3))), (a3_2, .inl (ka3_2, 3, .inl (fa3_2)))] sz)) 0 0 (va_A [(a0, .inr (0, [a0g_0, a0g_1, .int a0_2, a0g_3, a0g_4, a0g_5, a0g_6, a0g_7, a0g_8, a0g_9, a0g_10, a0g_11, a0g_12, a0g_13, a0g_14])), (a1, .inr (5, [.int a1_0, a1g_1, a1g_2, .int a1_3, .int a1_4, .ref a1_5, a1g_6])), (a1_5, .inl (ka1_5, 9, .inl (fa1_5))), (a3, .inr (6, [.int a3_0, .int a3_1, .ref a3_2, .ref a3_3])), (a3_3, .inl (ka3_3, 3, .inl (fa3_3))), (a3_2, .inl (ka3_2, 3, .inl (fa3_2)))] sz) := by
  refine Met.ofW (cc := cX0_step) (maxL := 5) (ret := none) (by decide) rfl ?_
  intro p e s m args below meth c s₁ B hml hv
  obtain ⟨rfl, hsz, hP, hK, hD0, hE⟩ := hv
  have hx := B.exec
  have hb := B.bytes
  have hr := B.returns
  have hts := atoms_spec (ws := wsX0_step) B.pre
  have hown : s.vm.findClass RX0 = some m.cls := findClass_of_methodNamed B.named
  have hlocks := B.notSynchronized
  subst hsz
  have hD := hD0.self (sz := s.heap.size)
  generalize hAe : va_A [(a0, .inr (0, [a0g_0, a0g_1, .int a0_2, a0g_3, a0g_4, a0g_5, a0g_6, a0g_7, a0g_8, a0g_9, a0g_10, a0g_11, a0g_12, a0g_13, a0g_14])), (a1, .inr (5, [.int a1_0, a1g_1, a1g_2, .int a1_3, .int a1_4, .ref a1_5, a1g_6])), (a1_5, .inl (ka1_5, 9, .inl (fa1_5))), (a3, .inr (6, [.int a3_0, .int a3_1, .ref a3_2, .ref a3_3])), (a3_3, .inl (ka3_3, 3, .inl (fa3_3))), (a3_2, .inl (ka3_2, 3, .inl (fa3_2)))] s.heap.size = A at hD ⊢
  have hA : ∀ q : Nat, s.heap.size ≤ q → A q := fun q h => by rw [← hAe]; exact Or.inr h
  have hS : va_S A s.heap s.heap [] := va_S.rf
  have hP : va_P (dC, dI) vwCl [(a0, .inr (0, [a0g_0, a0g_1, .int a0_2, a0g_3, a0g_4, a0g_5, a0g_6, a0g_7, a0g_8, a0g_9, a0g_10, a0g_11, a0g_12, a0g_13, a0g_14])), (a1, .inr (5, [.int a1_0, a1g_1, a1g_2, .int a1_3, .int a1_4, .ref a1_5, a1g_6])), (a1_5, .inl (ka1_5, 9, .inl (fa1_5))), (a3, .inr (6, [.int a3_0, .int a3_1, .ref a3_2, .ref a3_3])), (a3_3, .inl (ka3_3, 3, .inl (fa3_3))), (a3_2, .inl (ka3_2, 3, .inl (fa3_2)))] s.heap := hP
  obtain ⟨hE0, hE1⟩ := hE
  have hl := lv_entry ([.ref a0, .ref a1, .int a2, .ref a3]) (n := 5) (Nat.le_of_ble_eq_true rfl)
  rw [lg_entry_eq]
  generalize (lg_sl ([.ref a0, .ref a1, .int a2, .ref a3]) ++ List.replicate (5 - (lg_sl ([.ref a0, .ref a1, .int a2, .ref a3])).length) Slot.unset).toArray = ls at hl ⊢
  have hl : lv_has ls 5 [(0, .ref a0), (1, .ref a1), (2, .int a2), (3, .ref a3)] := hl
  generalize hFX : Ff_X0_step a2.toInt a0_2.toInt a1_0.toInt a1_3.toInt a1_4.toInt (fl_A fa1_5) a3_0.toInt a3_1.toInt (fl_A fa3_3) (fl_A fa3_2) = FX at ⊢
  have hF0 := hFX.symm.trans (Ff_X0_step.eq_1 a2.toInt a0_2.toInt a1_0.toInt a1_3.toInt a1_4.toInt (fl_A fa1_5) a3_0.toInt a3_1.toInt (fl_A fa3_3) (fl_A fa3_2))
  refine lv_aload_n hx hb dX0_step_0 rfl (lv_at hl 1 rfl) ?_
  refine lv_iload_n hx hb dX0_step_1 rfl (lv_at hl 2 rfl) ?_
  obtain ⟨hPc, hDc, hFc, hCc⟩ := zc_cut (wc := [(a1, .inr (5, [.int a1_0, a1g_1, a1g_2, .int a1_3, .int a1_4, .ref a1_5, a1g_6]))]) hP hD hS hA [1] (by decide +kernel) rfl
  have hKc := hK.sub (tys' := []) [] rfl
  refine va_calli (va_runV (As := [.int a2]) (rest := []) ⟨hx, hb, hml, hown, hts⟩ (f_X5_isGone l dC dI s.heap.size a1 a2 (.int a1_0) a1g_1 a1g_2 (.int a1_4) (.ref a1_5) a1g_6 a1_3 ) (cwV 1 hts gX0_step_X5_isGone rfl rfl rfl zd_X5_isGone ⟨Nat.le_of_ble_eq_true rfl, Nat.le_of_ble_eq_true rfl⟩) ⟨ax_blind (fun _ _ _ _ hq => va_Nw.same rfl rfl (hq)), zr_5 hKc hPc (q0 := 0) rfl, ax_pre hPc hKc hDc (fun _ hW => va_Nw.warmM hW hE0)⟩ rfl rfl hl.1 rfl (lv_room (Nat.le_of_ble_eq_true rfl)) dX0_step_2 ⟨Nat.le_of_ble_eq_true rfl, Nat.le_of_ble_eq_true rfl⟩) hS (fun q _ h => hFc q h) hFc (fun r2 u t H locs ht hvm hw hB hz1 hk1 hS => ?_)
  obtain ⟨hP1, hK1, hD1⟩ := hB
  rw [ht] at hP1
  obtain ⟨hP, hD⟩ := zc_back (w := [(a0, .inr (0, [a0g_0, a0g_1, .int a0_2, a0g_3, a0g_4, a0g_5, a0g_6, a0g_7, a0g_8, a0g_9, a0g_10, a0g_11, a0g_12, a0g_13, a0g_14])), (a1, .inr (5, [.int a1_0, a1g_1, a1g_2, .int a1_3, .int a1_4, .ref a1_5, a1g_6])), (a1_5, .inl (ka1_5, 9, .inl (fa1_5))), (a3, .inr (6, [.int a3_0, .int a3_1, .ref a3_2, .ref a3_3])), (a3_3, .inl (ka3_3, 3, .inl (fa3_3))), (a3_2, .inl (ka3_2, 3, .inl (fa3_2)))]) hP hD hCc hk1 hFc hP1 hD1 [.inl 0, .inr 0, .inl 2, .inl 3, .inl 4, .inl 5] (by decide +kernel) rfl
  obtain ⟨hw, hfr2⟩ := hw
  have hc2 : Ff_X5_isGone a2.toInt a1_3.toInt = r2.toInt := hfr2.symm
  have hF0 := hF0.trans (fl_lt_eq hc2.symm)
  rcases hw with hw | hw
  · subst hw
    have hF0 := hF0.trans (if_pos (by decide))
    refine lv_if_eq (tgt := 9) hx hb dX0_step_5 (by decide) (fun c5 => absurd c5 (by decide +kernel)) (fun _ => ?_)
    have hFe : FX = (a1_3.toInt, a1_4.toInt, (fl_A fa1_5)) := hF0
    exact W.vret hx hb hr (fun t ht hW => ⟨⟨(), rfl, trivial, a1_3, a1_4, fa1_5, hFe, by rw [ht]; exact hP, va_K.moved hW.alike hK, hD⟩, hS.F ht⟩) hS.2.2 dX0_step_8
  · subst hw
    have hF0 := hF0.trans (if_neg (by decide))
    refine lv_if_eq (tgt := 9) hx hb dX0_step_5 (by decide) (fun _ => ?_) (fun c5 => absurd (by decide +kernel) c5)
    refine lv_aload_n hx hb dX0_step_9 rfl (lv_at hl 0 rfl) ?_
    refine lv_aload_n hx hb dX0_step_10 rfl (lv_at hl 1 rfl) ?_
    refine va_get (D := (dC, dI)) (ci := 5) (v := .ref a1_5) (C := RX5) (T := TX5) (N := 7) hx hb hts zi_X0_step_5 hown hK hP 1 rfl rfl 5 (by decide) (hts (.fieldLink RX0 99 "WaxTurns$Scene" "places" "[I") (zm_X0_step_r1 (List.mem_of_getElem? (i := 0) rfl))) (fun _ h9 => h9) rfl dX0_step_11 ?_
    refine lv_iload_n hx hb dX0_step_14 rfl (lv_at hl 2 rfl) ?_
    refine va_iald hx hb hK hP 2 0 rfl rfl (ai_in ba2_l ba2_u (by decide) (by decide)) dX0_step_15 ?_
    refine lv_topi (fun x15 ex15 => ?_)
    have fqx15 := congrArg Int32.toInt ex15
    have hF0 := hF0.trans (fl_lt_eq (show x15.toInt = (fl_A fa1_5) (a2.toInt.toNat) from fqx15))
    obtain ⟨hPc, hDc, hFc, hCc⟩ := zc_cut (wc := [(a0, .inr (0, [a0g_0, a0g_1, .int a0_2, a0g_3, a0g_4, a0g_5, a0g_6, a0g_7, a0g_8, a0g_9, a0g_10, a0g_11, a0g_12, a0g_13, a0g_14]))]) hP hD hS hA [0] (by decide +kernel) rfl
    have hKc := hK.sub (tys' := []) [] rfl
    refine va_calli (va_runV (As := [.int x15]) (rest := []) ⟨hx, hb, hml, hown, hts⟩ (f_X0_nearer l dC dI H.size a0 x15 a0g_0 a0g_1 a0g_3 a0g_4 a0g_5 a0g_6 a0g_7 a0g_8 a0g_9 a0g_10 a0g_11 a0g_12 a0g_13 a0g_14 a0_2 ) (cwV 1 hts gX0_step_X0_nearer rfl rfl rfl zd_X0_nearer ⟨Nat.le_of_ble_eq_true rfl, Nat.le_of_ble_eq_true rfl⟩) ⟨ax_blind (fun _ _ _ _ _ => trivial), zr_0 hKc hPc (q0 := 0) rfl, ax_pre hPc hKc hDc (fun _ _ => trivial)⟩ rfl rfl hl.1 rfl (lv_room (Nat.le_of_ble_eq_true rfl)) dX0_step_16 ⟨Nat.le_of_ble_eq_true rfl, Nat.le_of_ble_eq_true rfl⟩) hS (fun q _ h => hFc q h) hFc (fun r16 u t H locs ht hvm hw hB hz1 hk1 hS => ?_)
    obtain ⟨hP1, hK1, hD1⟩ := hB
    rw [ht] at hP1
    obtain ⟨hP, hD⟩ := zc_back (w := [(a0, .inr (0, [a0g_0, a0g_1, .int a0_2, a0g_3, a0g_4, a0g_5, a0g_6, a0g_7, a0g_8, a0g_9, a0g_10, a0g_11, a0g_12, a0g_13, a0g_14])), (a1, .inr (5, [.int a1_0, a1g_1, a1g_2, .int a1_3, .int a1_4, .ref a1_5, a1g_6])), (a1_5, .inl (ka1_5, 9, .inl (fa1_5))), (a3, .inr (6, [.int a3_0, .int a3_1, .ref a3_2, .ref a3_3])), (a3_3, .inl (ka3_3, 3, .inl (fa3_3))), (a3_2, .inl (ka3_2, 3, .inl (fa3_2)))]) hP hD hCc hk1 hFc hP1 hD1 [.inr 0, .inl 1, .inl 2, .inl 3, .inl 4, .inl 5] (by decide +kernel) rfl
    obtain ⟨hw, hfr16⟩ := hw
    have hc16 : Ff_X0_nearer x15.toInt a0_2.toInt = r16.toInt := hfr16.symm
    have hF0 := hF0.trans (fl_lt_eq hc16.symm)
    refine lv_istore (lv' := [(4, .int r16), (0, .ref a0), (1, .ref a1), (2, .int a2), (3, .ref a3)]) hx hb dX0_step_19 hl (by decide) rfl (fun ls hl => ?_)
    refine lv_aload_n hx hb dX0_step_21 rfl (lv_at hl 4 rfl) ?_
    refine lv_aload_n hx hb dX0_step_22 rfl (lv_at hl 2 rfl) ?_
    refine va_get (D := (dC, dI)) (ci := 5) (v := .int a1_0) (C := RX5) (T := TX5) (N := 7) hx hb hts zi_X0_step_5 hown hK hP 1 rfl rfl 0 (by decide) (hts (.fieldLink RX0 102 "WaxTurns$Scene" "minute" "I") (zm_X0_step_r1 (List.mem_of_getElem? (i := 1) rfl))) (fun _ h9 => h9) rfl dX0_step_23 ?_
    obtain ⟨hPc, hDc, hFc, hCc⟩ := zc_cut (wc := [(a3, .inr (6, [.int a3_0, .int a3_1, .ref a3_2, .ref a3_3])), (a3_3, .inl (ka3_3, 3, .inl (fa3_3))), (a3_2, .inl (ka3_2, 3, .inl (fa3_2)))]) hP hD hS hA [3, 4, 5] (by decide +kernel) rfl
    have hKc := hK.sub (tys' := [(ka3_3, .int), (ka3_2, .int)]) [1, 2] rfl
    refine va_calli (va_runV (As := [.int a1_0]) (rest := []) ⟨hx, hb, hml, hown, hts⟩ (f_X6_placesIn l dC dI H.size a3 a1_0 a3_0 a3_1 a3_2 a3_3 ka3_3 fa3_3 ka3_2 fa3_2 ba3_0_l ba3_0_u bfa3_3 bfa3_2) (cwV 1 hts gX0_step_X6_placesIn rfl rfl rfl zd_X6_placesIn ⟨Nat.le_of_ble_eq_true rfl, Nat.le_of_ble_eq_true rfl⟩) ⟨ax_blind (fun _ _ _ _ _ => trivial), zr_6 hKc hPc (q0 := 0) rfl, ax_pre hPc hKc hDc (fun _ _ => trivial)⟩ rfl rfl hl.1 rfl (lv_room (Nat.le_of_ble_eq_true rfl)) dX0_step_26 ⟨Nat.le_of_ble_eq_true rfl, Nat.le_of_ble_eq_true rfl⟩) hS (fun q _ h => hFc q h) hFc (fun r26 u t H locs ht hvm hw hB hz1 hk1 hS => ?_)
    obtain ⟨hP1, hK1, hD1⟩ := hB
    rw [ht] at hP1
    obtain ⟨hP, hD⟩ := zc_back (w := [(a0, .inr (0, [a0g_0, a0g_1, .int a0_2, a0g_3, a0g_4, a0g_5, a0g_6, a0g_7, a0g_8, a0g_9, a0g_10, a0g_11, a0g_12, a0g_13, a0g_14])), (a1, .inr (5, [.int a1_0, a1g_1, a1g_2, .int a1_3, .int a1_4, .ref a1_5, a1g_6])), (a1_5, .inl (ka1_5, 9, .inl (fa1_5))), (a3, .inr (6, [.int a3_0, .int a3_1, .ref a3_2, .ref a3_3])), (a3_3, .inl (ka3_3, 3, .inl (fa3_3))), (a3_2, .inl (ka3_2, 3, .inl (fa3_2)))]) hP hD hCc hk1 hFc hP1 hD1 [.inl 0, .inl 1, .inl 2, .inr 0, .inr 1, .inr 2] (by decide +kernel) rfl
    obtain ⟨hw, hfr26⟩ := hw
    have hc26 : Ff_X6_placesIn a1_0.toInt a3_0.toInt a3_1.toInt (fl_A fa3_3) (fl_A fa3_2) = r26.toInt := hfr26.symm
    have hF0 := hF0.trans (fl_lt_eq hc26.symm)
    refine lv_iload hx hb dX0_step_29 (lv_at hl 0 rfl) ?_
    obtain ⟨hPc, hDc, hFc, hCc⟩ := zc_cut (wc := []) hP hD hS hA [] (by decide +kernel) rfl
    have hKc := hK.sub (tys' := []) [] rfl
    refine va_calli (va_runSN (As := [.int r26, .int r16]) (rest := []) ⟨hx, hb, hml, hown, hts⟩ (f_X7_hasBit l dC dI H.size r26 r16 ) ⟨va_cnB 2 hts gX0_step_X7_hasBit_n129 rfl rfl rfl hE1 (hts (.initialized RX7) (zm_X0_step_r1 (List.mem_of_getElem? (i := 12) rfl))) zd_X7_hasBit.2 ⟨Nat.le_of_ble_eq_true rfl, Nat.le_of_ble_eq_true rfl⟩, (hts (.static yX7_hasBit) (zm_X0_step_r1 (List.mem_of_getElem? (i := 11) rfl))), trivial⟩ ⟨ax_blind (fun _ _ _ _ _ => trivial), ax_pre hPc hKc hDc (fun _ _ => trivial)⟩ rfl rfl hl.1 rfl (lv_room (Nat.le_of_ble_eq_true rfl)) dX0_step_31 ⟨Nat.le_of_ble_eq_true rfl, Nat.le_of_ble_eq_true rfl⟩) hS (fun q _ h => hFc q h) hFc (fun r31 u t H locs ht hvm hw hB hz1 hk1 hS => ?_)
    obtain ⟨hP1, hK1, hD1⟩ := hB
    rw [ht] at hP1
    obtain ⟨hP, hD⟩ := zc_back (w := [(a0, .inr (0, [a0g_0, a0g_1, .int a0_2, a0g_3, a0g_4, a0g_5, a0g_6, a0g_7, a0g_8, a0g_9, a0g_10, a0g_11, a0g_12, a0g_13, a0g_14])), (a1, .inr (5, [.int a1_0, a1g_1, a1g_2, .int a1_3, .int a1_4, .ref a1_5, a1g_6])), (a1_5, .inl (ka1_5, 9, .inl (fa1_5))), (a3, .inr (6, [.int a3_0, .int a3_1, .ref a3_2, .ref a3_3])), (a3_3, .inl (ka3_3, 3, .inl (fa3_3))), (a3_2, .inl (ka3_2, 3, .inl (fa3_2)))]) hP hD hCc hk1 hFc hP1 hD1 [.inl 0, .inl 1, .inl 2, .inl 3, .inl 4, .inl 5] (by decide +kernel) rfl
    obtain ⟨hw, hfr31⟩ := hw
    have hc31 : Ff_X7_hasBit r26.toInt r16.toInt = r31.toInt := hfr31.symm
    have hF0 := hF0.trans (fl_lt_eq hc31.symm)
    rcases hw with hw | hw
    · subst hw
      have hF0 := hF0.trans (if_pos (by decide))
      refine lv_if_eq (tgt := 53) hx hb dX0_step_34 (by decide) (fun c34 => absurd c34 (by decide +kernel)) (fun _ => ?_)
      refine lv_aload_n hx hb dX0_step_37 rfl (lv_at hl 2 rfl) ?_
      refine lv_dup hx hb dX0_step_38 rfl ?_
      refine va_get (D := (dC, dI)) (ci := 5) (v := .int a1_4) (C := RX5) (T := TX5) (N := 7) hx hb hts zi_X0_step_5 hown hK hP 1 rfl rfl 4 (by decide) (hts (.fieldLink RX0 132 "WaxTurns$Scene" "catchCount" "I") (zm_X0_step_r1 (List.mem_of_getElem? (i := 2) rfl))) (fun _ h9 => h9) rfl dX0_step_39 ?_
      refine lv_iconst (v := 1) hx hb dX0_step_42 zk_iconst_1 ?_
      refine lv_iadd hx hb dX0_step_43 ?_
      refine lv_topi (fun x43 ex43 => ?_)
      have fqx43 := fl_iadd_eq ex43
      have hF0 := hF0.trans (fl_lt_eq (show x43.toInt = fl_iadd a1_4.toInt 1 from fqx43))
      refine va_put (D := (dC, dI)) (ci := 5) (v := .int x43) (ty := .int) (C := RX5) (T := TX5) (N := 7) hx hb hts zi_X0_step_5 tyX5 tyX5_ok nmX5 hown hK hP hD hS 1 rfl rfl 4 (by decide) (hts (.fieldLink RX0 132 "WaxTurns$Scene" "catchCount" "I") (zm_X0_step_r1 (List.mem_of_getElem? (i := 2) rfl))) (fun _ h9 => h9) rfl (tyX5_ok 4 (by decide)) rfl rfl (Nat.le_of_ble_eq_true rfl) dX0_step_44 (fun H locs hP hD hS => ?_)
      obtain ⟨hP, hD⟩ := zc_re (w := [(a0, .inr (0, [a0g_0, a0g_1, .int a0_2, a0g_3, a0g_4, a0g_5, a0g_6, a0g_7, a0g_8, a0g_9, a0g_10, a0g_11, a0g_12, a0g_13, a0g_14])), (a1, .inr (5, [.int a1_0, a1g_1, a1g_2, .int a1_3, .int x43, .ref a1_5, a1g_6])), (a1_5, .inl (ka1_5, 9, .inl (fa1_5))), (a3, .inr (6, [.int a3_0, .int a3_1, .ref a3_2, .ref a3_3])), (a3_3, .inl (ka3_3, 3, .inl (fa3_3))), (a3_2, .inl (ka3_2, 3, .inl (fa3_2)))]) hP hD rfl
      refine lv_iload_n hx hb dX0_step_47 rfl (lv_at hl 3 rfl) ?_
      refine lv_istore (lv' := [(4, .int a2), (0, .ref a0), (1, .ref a1), (2, .int a2), (3, .ref a3)]) hx hb dX0_step_48 hl (by decide) rfl (fun ls hl => ?_)
      refine lv_goto (tgt := 74) hx hb dX0_step_50 (by decide) ?_
      refine lv_aload_n hx hb dX0_step_74 rfl (lv_at hl 2 rfl) ?_
      refine va_get (D := (dC, dI)) (ci := 5) (v := .ref a1_5) (C := RX5) (T := TX5) (N := 7) hx hb hts zi_X0_step_5 hown hK hP 1 rfl rfl 5 (by decide) (hts (.fieldLink RX0 99 "WaxTurns$Scene" "places" "[I") (zm_X0_step_r1 (List.mem_of_getElem? (i := 0) rfl))) (fun _ h9 => h9) rfl dX0_step_75 ?_
      refine lv_iload_n hx hb dX0_step_78 rfl (lv_at hl 3 rfl) ?_
      refine lv_iload hx hb dX0_step_79 (lv_at hl 0 rfl) ?_
      refine va_iast hx hb hK hP hD hS 2 0 rfl rfl (ai_in ba2_l ba2_u (by decide) (by decide)) dX0_step_81 (fun H locs hP hD hS => ?_)
      obtain ⟨f81, ef81⟩ : ∃ g9 : Nat → Int32, g9 = upd fa1_5 (a2 : Int32).toNatClampNeg a2 := ⟨_, rfl⟩
      rw [← ef81] at hP hD
      obtain ⟨hP, hD⟩ := zc_re (w := [(a0, .inr (0, [a0g_0, a0g_1, .int a0_2, a0g_3, a0g_4, a0g_5, a0g_6, a0g_7, a0g_8, a0g_9, a0g_10, a0g_11, a0g_12, a0g_13, a0g_14])), (a1, .inr (5, [.int a1_0, a1g_1, a1g_2, .int a1_3, .int x43, .ref a1_5, a1g_6])), (a1_5, .inl (ka1_5, 9, .inl (f81))), (a3, .inr (6, [.int a3_0, .int a3_1, .ref a3_2, .ref a3_3])), (a3_3, .inl (ka3_3, 3, .inl (fa3_3))), (a3_2, .inl (ka3_2, 3, .inl (fa3_2)))]) hP hD rfl
      have fqf81 := fl_up_eq ef81
      have hF0 := hF0.trans (fl_lt_eq (show (fl_A f81) = fl_up (fl_A fa1_5) (a2.toInt.toNat) a2.toInt from fqf81))
      have hFe : FX = (a1_3.toInt, x43.toInt, (fl_A f81)) := hF0
      exact W.vret hx hb hr (fun t ht hW => ⟨⟨(), rfl, trivial, a1_3, x43, f81, hFe, by rw [ht]; exact hP, va_K.moved hW.alike hK, hD⟩, hS.F ht⟩) hS.2.2 dX0_step_82
    · subst hw
      have hF0 := hF0.trans (if_neg (by decide))
      refine lv_if_eq (tgt := 53) hx hb dX0_step_34 (by decide) (fun _ => ?_) (fun c34 => absurd (by decide +kernel) c34)
      refine lv_iload hx hb dX0_step_53 (lv_at hl 0 rfl) ?_
      refine lv_aload_n hx hb dX0_step_55 rfl (lv_at hl 1 rfl) ?_
      refine va_get (D := (dC, dI)) (ci := 0) (v := .int a0_2) (C := RX0) (T := TX0) (N := 15) hx hb hts zi_X0_step_0 hown hK hP 0 rfl rfl 2 (by decide) (hts (.fieldLink RX0 51 "WaxTurns$Hall" "stairsPlace" "I") (zm_X0_step_r1 (List.mem_of_getElem? (i := 3) rfl))) (fun _ h9 => h9) rfl dX0_step_56 ?_
      refine lv_icmp_ne (tgt := 74) hx hb dX0_step_59 (by decide) (fun c59 => ?_) (fun c59 => ?_)
      · have gc59 := ai_ne c59
        have hF0 := hF0.trans (if_neg (show ¬ (r16.toInt = a0_2.toInt) from  gc59))
        refine lv_aload_n hx hb dX0_step_74 rfl (lv_at hl 2 rfl) ?_
        refine va_get (D := (dC, dI)) (ci := 5) (v := .ref a1_5) (C := RX5) (T := TX5) (N := 7) hx hb hts zi_X0_step_5 hown hK hP 1 rfl rfl 5 (by decide) (hts (.fieldLink RX0 99 "WaxTurns$Scene" "places" "[I") (zm_X0_step_r1 (List.mem_of_getElem? (i := 0) rfl))) (fun _ h9 => h9) rfl dX0_step_75 ?_
        refine lv_iload_n hx hb dX0_step_78 rfl (lv_at hl 3 rfl) ?_
        refine lv_iload hx hb dX0_step_79 (lv_at hl 0 rfl) ?_
        refine va_iast hx hb hK hP hD hS 2 0 rfl rfl (ai_in ba2_l ba2_u (by decide) (by decide)) dX0_step_81 (fun H locs hP hD hS => ?_)
        obtain ⟨f81, ef81⟩ : ∃ g9 : Nat → Int32, g9 = upd fa1_5 (a2 : Int32).toNatClampNeg r16 := ⟨_, rfl⟩
        rw [← ef81] at hP hD
        obtain ⟨hP, hD⟩ := zc_re (w := [(a0, .inr (0, [a0g_0, a0g_1, .int a0_2, a0g_3, a0g_4, a0g_5, a0g_6, a0g_7, a0g_8, a0g_9, a0g_10, a0g_11, a0g_12, a0g_13, a0g_14])), (a1, .inr (5, [.int a1_0, a1g_1, a1g_2, .int a1_3, .int a1_4, .ref a1_5, a1g_6])), (a1_5, .inl (ka1_5, 9, .inl (f81))), (a3, .inr (6, [.int a3_0, .int a3_1, .ref a3_2, .ref a3_3])), (a3_3, .inl (ka3_3, 3, .inl (fa3_3))), (a3_2, .inl (ka3_2, 3, .inl (fa3_2)))]) hP hD rfl
        have fqf81 := fl_up_eq ef81
        have hF0 := hF0.trans (fl_lt_eq (show (fl_A f81) = fl_up (fl_A fa1_5) (a2.toInt.toNat) r16.toInt from fqf81))
        have hFe : FX = (a1_3.toInt, a1_4.toInt, (fl_A f81)) := hF0
        exact W.vret hx hb hr (fun t ht hW => ⟨⟨(), rfl, trivial, a1_3, a1_4, f81, hFe, by rw [ht]; exact hP, va_K.moved hW.alike hK, hD⟩, hS.F ht⟩) hS.2.2 dX0_step_82
      · have gc59 := ai_eq c59
        have hF0 := hF0.trans (if_pos (show r16.toInt = a0_2.toInt from gc59))
        refine lv_aload_n hx hb dX0_step_62 rfl (lv_at hl 2 rfl) ?_
        refine lv_dup hx hb dX0_step_63 rfl ?_
        refine va_get (D := (dC, dI)) (ci := 5) (v := .int a1_3) (C := RX5) (T := TX5) (N := 7) hx hb hts zi_X0_step_5 hown hK hP 1 rfl rfl 3 (by decide) (hts (.fieldLink RX0 135 "WaxTurns$Scene" "goneBits" "I") (zm_X0_step_r1 (List.mem_of_getElem? (i := 4) rfl))) (fun _ h9 => h9) rfl dX0_step_64 ?_
        refine lv_iconst (v := 1) hx hb dX0_step_67 zk_iconst_1 ?_
        refine lv_iload_n hx hb dX0_step_68 rfl (lv_at hl 3 rfl) ?_
        refine lv_ishl hx hb dX0_step_69 ?_
        refine lv_topi (fun x69 ex69 => ?_)
        have bx69 : (1 : Int) ≤ x69.toInt ∧ x69.toInt ≤ 512 := sh_1 ex69 ba2_l (Int.le_trans ba2_u zq22)
        have fqx69 := fl_shl_eq ex69
        have hF0 := hF0.trans (fl_lt_eq (show x69.toInt = fl_shl 1 a2.toInt from fqx69))
        refine lv_ior hx hb dX0_step_70 ?_
        refine lv_topi (fun x70 ex70 => ?_)
        have fqx70 := fl_or_eq ex70
        have hF0 := hF0.trans (fl_lt_eq (show x70.toInt = fl_or a1_3.toInt x69.toInt from fqx70))
        refine va_put (D := (dC, dI)) (ci := 5) (v := .int x70) (ty := .int) (C := RX5) (T := TX5) (N := 7) hx hb hts zi_X0_step_5 tyX5 tyX5_ok nmX5 hown hK hP hD hS 1 rfl rfl 3 (by decide) (hts (.fieldLink RX0 135 "WaxTurns$Scene" "goneBits" "I") (zm_X0_step_r1 (List.mem_of_getElem? (i := 4) rfl))) (fun _ h9 => h9) rfl (tyX5_ok 3 (by decide)) rfl rfl (Nat.le_of_ble_eq_true rfl) dX0_step_71 (fun H locs hP hD hS => ?_)
        obtain ⟨hP, hD⟩ := zc_re (w := [(a0, .inr (0, [a0g_0, a0g_1, .int a0_2, a0g_3, a0g_4, a0g_5, a0g_6, a0g_7, a0g_8, a0g_9, a0g_10, a0g_11, a0g_12, a0g_13, a0g_14])), (a1, .inr (5, [.int a1_0, a1g_1, a1g_2, .int x70, .int a1_4, .ref a1_5, a1g_6])), (a1_5, .inl (ka1_5, 9, .inl (fa1_5))), (a3, .inr (6, [.int a3_0, .int a3_1, .ref a3_2, .ref a3_3])), (a3_3, .inl (ka3_3, 3, .inl (fa3_3))), (a3_2, .inl (ka3_2, 3, .inl (fa3_2)))]) hP hD rfl
        refine lv_aload_n hx hb dX0_step_74 rfl (lv_at hl 2 rfl) ?_
        refine va_get (D := (dC, dI)) (ci := 5) (v := .ref a1_5) (C := RX5) (T := TX5) (N := 7) hx hb hts zi_X0_step_5 hown hK hP 1 rfl rfl 5 (by decide) (hts (.fieldLink RX0 99 "WaxTurns$Scene" "places" "[I") (zm_X0_step_r1 (List.mem_of_getElem? (i := 0) rfl))) (fun _ h9 => h9) rfl dX0_step_75 ?_
        refine lv_iload_n hx hb dX0_step_78 rfl (lv_at hl 3 rfl) ?_
        refine lv_iload hx hb dX0_step_79 (lv_at hl 0 rfl) ?_
        refine va_iast hx hb hK hP hD hS 2 0 rfl rfl (ai_in ba2_l ba2_u (by decide) (by decide)) dX0_step_81 (fun H locs hP hD hS => ?_)
        obtain ⟨f81, ef81⟩ : ∃ g9 : Nat → Int32, g9 = upd fa1_5 (a2 : Int32).toNatClampNeg r16 := ⟨_, rfl⟩
        rw [← ef81] at hP hD
        obtain ⟨hP, hD⟩ := zc_re (w := [(a0, .inr (0, [a0g_0, a0g_1, .int a0_2, a0g_3, a0g_4, a0g_5, a0g_6, a0g_7, a0g_8, a0g_9, a0g_10, a0g_11, a0g_12, a0g_13, a0g_14])), (a1, .inr (5, [.int a1_0, a1g_1, a1g_2, .int x70, .int a1_4, .ref a1_5, a1g_6])), (a1_5, .inl (ka1_5, 9, .inl (f81))), (a3, .inr (6, [.int a3_0, .int a3_1, .ref a3_2, .ref a3_3])), (a3_3, .inl (ka3_3, 3, .inl (fa3_3))), (a3_2, .inl (ka3_2, 3, .inl (fa3_2)))]) hP hD rfl
        have fqf81 := fl_up_eq ef81
        have hF0 := hF0.trans (fl_lt_eq (show (fl_A f81) = fl_up (fl_A fa1_5) (a2.toInt.toNat) r16.toInt from fqf81))
        have hFe : FX = (x70.toInt, a1_4.toInt, (fl_A f81)) := hF0
        exact W.vret hx hb hr (fun t ht hW => ⟨⟨(), rfl, trivial, x70, a1_4, f81, hFe, by rw [ht]; exact hP, va_K.moved hW.alike hK, hD⟩, hS.F ht⟩) hS.2.2 dX0_step_82
