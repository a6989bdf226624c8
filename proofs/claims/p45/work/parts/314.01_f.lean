set_option maxHeartbeats 4000000 in
set_option maxRecDepth 100000 in
theorem f_X7_isRest (l : Launch) (dC : Nat → ClassId) (dI : Nat → Nat → Nat) (sz : Nat) (a1 : Int32) (a2 : Int32) (a3 : Int32)  : Met l yX7_isRest wsX7_isRest ({ frames := 1, cells := 0, slots := 0, locals := 22 }) (va_Pc [.int a1, .int a2, .int a3] (ax_C dC dI sz [] [] (fun _ => True))) (va_Qi (fun (r : Int32) (_ : Unit) => ((r = 1) ∨ (r = 0)) ∧ r.toInt = Ff_X7_isRest a1.toInt a2.toInt a3.toInt) (fun (_ : Unit) (t : State) => ax_B dC dI (va_A [] sz) [] [] t) (va_A [] sz)) 0 0 (va_A [] sz) := by
  refine Met.ofW (cc := cX7_isRest) (maxL := 3) (ret := (some .boolean)) (by decide) rfl ?_
  intro p e s m args below meth c s₁ B hml hv
  obtain ⟨rfl, hsz, hP, hK, hD0, hE⟩ := hv
  have hx := B.exec
  have hb := B.bytes
  have hr := B.returns
  have hts := atoms_spec (ws := wsX7_isRest) B.pre
  have hown : s.vm.findClass RX7 = some m.cls := findClass_of_methodNamed B.named
  have hlocks := B.notSynchronized
  subst hsz
  have hD := hD0.self (sz := s.heap.size)
  generalize hAe : va_A [] s.heap.size = A at hD ⊢
  have hA : ∀ q : Nat, s.heap.size ≤ q → A q := fun q h => by rw [← hAe]; exact Or.inr h
  have hS : va_S A s.heap s.heap [] := va_S.rf
  have hP : va_P (dC, dI) vwCl [] s.heap := hP
  have hl := lv_entry ([.int a1, .int a2, .int a3]) (n := 3) (Nat.le_of_ble_eq_true rfl)
  rw [lg_entry_eq]
  generalize (lg_sl ([.int a1, .int a2, .int a3]) ++ List.replicate (3 - (lg_sl ([.int a1, .int a2, .int a3])).length) Slot.unset).toArray = ls at hl ⊢
  have hl : lv_has ls 3 [(0, .int a1), (1, .int a2), (2, .int a3)] := hl
  generalize hFX : Ff_X7_isRest a1.toInt a2.toInt a3.toInt = FX at ⊢
  have hF0 := hFX.symm.trans (Ff_X7_isRest.eq_1 a1.toInt a2.toInt a3.toInt)
  refine lv_iload_n hx hb dX7_isRest_0 rfl (lv_at hl 0 rfl) ?_
  refine lv_iload_n hx hb dX7_isRest_1 rfl (lv_at hl 1 rfl) ?_
  refine lv_iload_n hx hb dX7_isRest_2 rfl (lv_at hl 2 rfl) ?_
  obtain ⟨hPc, hDc, hFc, hCc⟩ := zc_cut (wc := []) hP hD hS hA [] (by decide +kernel) rfl
  have hKc := hK.sub (tys' := []) [] rfl
  refine va_calli (va_runS (As := [.int a1, .int a2, .int a3]) (rest := []) ⟨hx, hb, hml, hown, hts⟩ (f_X7_figureShare l dC dI s.heap.size a1 a2 a3 ) (va_cwS 3 hts gX7_isRest_X7_figureShare rfl rfl rfl zd_X7_figureShare.2 ⟨Nat.le_of_ble_eq_true rfl, Nat.le_of_ble_eq_true rfl⟩) ⟨ax_blind (fun _ _ _ _ _ => trivial), ax_pre hPc hKc hDc (fun _ _ => trivial)⟩ rfl rfl hl.1 rfl (lv_room (Nat.le_of_ble_eq_true rfl)) dX7_isRest_3 ⟨Nat.le_of_ble_eq_true rfl, Nat.le_of_ble_eq_true rfl⟩) hS (fun q _ h => hFc q h) hFc (fun r3 u t H locs ht hvm hw hB hz1 hk1 hS => ?_)
  obtain ⟨hP1, hK1, hD1⟩ := hB
  rw [ht] at hP1
  obtain ⟨hP, hD⟩ := zc_back (w := []) hP hD hCc hk1 hFc hP1 hD1 [] (by decide +kernel) rfl
  obtain ⟨hw, hfr3⟩ := hw
  have hc3 : Ff_X7_figureShare a1.toInt a2.toInt a3.toInt = r3.toInt := hfr3.symm
  have hF0 := hF0.trans (fl_lt_eq hc3.symm)
  refine lv_iload_n hx hb dX7_isRest_6 rfl (lv_at hl 0 rfl) ?_
  refine lv_iload_n hx hb dX7_isRest_7 rfl (lv_at hl 1 rfl) ?_
  refine lv_if_ne (tgt := 15) hx hb dX7_isRest_8 (by decide) (fun c8 => ?_) (fun c8 => ?_)
  · have gc8 := ai_ne c8
    have hF0 := hF0.trans (if_neg (show ¬ (a2.toInt = 0) from  gc8))
    refine lv_iconst (v := 0) hx hb dX7_isRest_15 zk_iconst_0 ?_
    refine lv_iload_n hx hb dX7_isRest_16 rfl (lv_at hl 2 rfl) ?_
    obtain ⟨hPc, hDc, hFc, hCc⟩ := zc_cut (wc := []) hP hD hS hA [] (by decide +kernel) rfl
    have hKc := hK.sub (tys' := []) [] rfl
    refine va_calli (va_runS (As := [.int a1, .int 0, .int a3]) (rest := [.int r3]) ⟨hx, hb, hml, hown, hts⟩ (f_X7_figureShare l dC dI H.size a1 0 a3 ) (va_cwS 3 hts gX7_isRest_X7_figureShare rfl rfl rfl zd_X7_figureShare.2 ⟨Nat.le_of_ble_eq_true rfl, Nat.le_of_ble_eq_true rfl⟩) ⟨ax_blind (fun _ _ _ _ _ => trivial), ax_pre hPc hKc hDc (fun _ _ => trivial)⟩ rfl rfl hl.1 rfl (lv_room (Nat.le_of_ble_eq_true rfl)) dX7_isRest_17 ⟨Nat.le_of_ble_eq_true rfl, Nat.le_of_ble_eq_true rfl⟩) hS (fun q _ h => hFc q h) hFc (fun r17 u t H locs ht hvm hw hB hz1 hk1 hS => ?_)
    obtain ⟨hP1, hK1, hD1⟩ := hB
    rw [ht] at hP1
    obtain ⟨hP, hD⟩ := zc_back (w := []) hP hD hCc hk1 hFc hP1 hD1 [] (by decide +kernel) rfl
    obtain ⟨hw, hfr17⟩ := hw
    rw [show (0 : Int32).toInt = 0 from by decide] at hfr17
    have hc17 : Ff_X7_figureShare a1.toInt 0 a3.toInt = r17.toInt := hfr17.symm
    have hF0 := hF0.trans (fl_lt_eq hc17.symm)
    refine lv_icmp_lt (tgt := 48) hx hb dX7_isRest_20 (by decide) (fun c20 => ?_) (fun c20 => ?_)
    · have gc20 := ai_lt c20
      have u20t_r3 : r3.toInt ≤ (2147483646 : Int) := ai_lthi gc20 (ai_max r17)
      have l20t_r17 : (-2147483647 : Int) ≤ r17.toInt := ai_ltlo gc20 (ai_min r3)
      have hF0 := hF0.trans (if_pos (show r3.toInt < r17.toInt from gc20))
      refine lv_iconst (v := 0) hx hb dX7_isRest_48 zk_iconst_0 ?_
      have hFe : FX = 0 := hF0
      exact W.zret (v := 0) hx hb hr rfl (fun t ht hW => ⟨⟨0, (), rfl, ⟨(Or.inr (rfl)), hFe.symm⟩, by rw [ht]; exact hP, va_K.moved hW.alike hK, hD⟩, hS.F ht⟩) hS.2.2 dX7_isRest_49
    · have gc20 := ai_nlt c20
      have hF0 := hF0.trans (if_neg (show ¬ (r3.toInt < r17.toInt) from Int.not_lt.mpr gc20))
      refine lv_iload_n hx hb dX7_isRest_23 rfl (lv_at hl 1 rfl) ?_
      refine lv_iload_n hx hb dX7_isRest_24 rfl (lv_at hl 2 rfl) ?_
      obtain ⟨hPc, hDc, hFc, hCc⟩ := zc_cut (wc := []) hP hD hS hA [] (by decide +kernel) rfl
      have hKc := hK.sub (tys' := []) [] rfl
      refine va_calli (va_runS (As := [.int a2, .int a3]) (rest := []) ⟨hx, hb, hml, hown, hts⟩ (f_X7_attendantShare l dC dI H.size a2 a3 ) (va_cwS 2 hts gX7_isRest_X7_attendantShare rfl rfl rfl zd_X7_attendantShare.2 ⟨Nat.le_of_ble_eq_true rfl, Nat.le_of_ble_eq_true rfl⟩) ⟨ax_blind (fun _ _ _ _ _ => trivial), ax_pre hPc hKc hDc (fun _ _ => trivial)⟩ rfl rfl hl.1 rfl (lv_room (Nat.le_of_ble_eq_true rfl)) dX7_isRest_25 ⟨Nat.le_of_ble_eq_true rfl, Nat.le_of_ble_eq_true rfl⟩) hS (fun q _ h => hFc q h) hFc (fun r25 u t H locs ht hvm hw hB hz1 hk1 hS => ?_)
      obtain ⟨hP1, hK1, hD1⟩ := hB
      rw [ht] at hP1
      obtain ⟨hP, hD⟩ := zc_back (w := []) hP hD hCc hk1 hFc hP1 hD1 [] (by decide +kernel) rfl
      obtain ⟨hw, hfr25⟩ := hw
      have hc25 : Ff_X7_attendantShare a2.toInt a3.toInt = r25.toInt := hfr25.symm
      have hF0 := hF0.trans (fl_lt_eq hc25.symm)
      rcases hw with hw | hw | hw | hw
      · subst hw
        have hF0 := hF0.trans (if_pos (by decide))
        refine lv_iload_n hx hb dX7_isRest_28 rfl (lv_at hl 1 rfl) ?_
        refine lv_iload_n hx hb dX7_isRest_29 rfl (lv_at hl 2 rfl) ?_
        refine lv_if_ne (tgt := 37) hx hb dX7_isRest_30 (by decide) (fun c30 => ?_) (fun c30 => ?_)
        · have gc30 := ai_ne c30
          have hF0 := hF0.trans (if_neg (show ¬ (a3.toInt = 0) from  gc30))
          refine lv_iconst (v := 0) hx hb dX7_isRest_37 zk_iconst_0 ?_
          obtain ⟨hPc, hDc, hFc, hCc⟩ := zc_cut (wc := []) hP hD hS hA [] (by decide +kernel) rfl
          have hKc := hK.sub (tys' := []) [] rfl
          refine va_calli (va_runS (As := [.int a2, .int 0]) (rest := [.int 3]) ⟨hx, hb, hml, hown, hts⟩ (f_X7_attendantShare l dC dI H.size a2 0 ) (va_cwS 2 hts gX7_isRest_X7_attendantShare rfl rfl rfl zd_X7_attendantShare.2 ⟨Nat.le_of_ble_eq_true rfl, Nat.le_of_ble_eq_true rfl⟩) ⟨ax_blind (fun _ _ _ _ _ => trivial), ax_pre hPc hKc hDc (fun _ _ => trivial)⟩ rfl rfl hl.1 rfl (lv_room (Nat.le_of_ble_eq_true rfl)) dX7_isRest_38 ⟨Nat.le_of_ble_eq_true rfl, Nat.le_of_ble_eq_true rfl⟩) hS (fun q _ h => hFc q h) hFc (fun r38 u t H locs ht hvm hw hB hz1 hk1 hS => ?_)
          obtain ⟨hP1, hK1, hD1⟩ := hB
          rw [ht] at hP1
          obtain ⟨hP, hD⟩ := zc_back (w := []) hP hD hCc hk1 hFc hP1 hD1 [] (by decide +kernel) rfl
          obtain ⟨hw, hfr38⟩ := hw
          rw [show (0 : Int32).toInt = 0 from by decide] at hfr38
          have hc38 : Ff_X7_attendantShare a2.toInt 0 = r38.toInt := hfr38.symm
          have hF0 := hF0.trans (fl_lt_eq hc38.symm)
          rcases hw with hw | hw | hw | hw
          · subst hw
            have hF0 := hF0.trans (if_pos (by decide))
            refine lv_icmp_lt (tgt := 48) hx hb dX7_isRest_41 (by decide) (fun c41 => absurd c41 (by decide +kernel)) (fun _ => ?_)
            refine lv_iconst (v := 1) hx hb dX7_isRest_44 zk_iconst_1 ?_
            refine lv_goto (tgt := 49) hx hb dX7_isRest_45 (by decide) ?_
            have hFe : FX = 1 := hF0
            exact W.zret (v := 1) hx hb hr rfl (fun t ht hW => ⟨⟨1, (), rfl, ⟨(Or.inl (rfl)), hFe.symm⟩, by rw [ht]; exact hP, va_K.moved hW.alike hK, hD⟩, hS.F ht⟩) hS.2.2 dX7_isRest_49
          · obtain ⟨hw, h38_0, h38_1, h38_2, h38_3⟩ := hw
            subst hw
            have l38k1_a2 : (0 : Int) ≤ a2.toInt := h38_0
            have u38k1_a2 : a2.toInt ≤ (0 : Int) := h38_1
            have hF0 := hF0.trans (if_neg (by decide))
            have hF0 := hF0.trans (if_pos (by decide))
            refine lv_icmp_lt (tgt := 48) hx hb dX7_isRest_41 (by decide) (fun c41 => absurd c41 (by decide +kernel)) (fun _ => ?_)
            refine lv_iconst (v := 1) hx hb dX7_isRest_44 zk_iconst_1 ?_
            refine lv_goto (tgt := 49) hx hb dX7_isRest_45 (by decide) ?_
            have hFe : FX = 1 := hF0
            exact W.zret (v := 1) hx hb hr rfl (fun t ht hW => ⟨⟨1, (), rfl, ⟨(Or.inl (rfl)), hFe.symm⟩, by rw [ht]; exact hP, va_K.moved hW.alike hK, hD⟩, hS.F ht⟩) hS.2.2 dX7_isRest_49
          · obtain ⟨hw, h38_0, h38_1⟩ := hw
            subst hw
            have hF0 := hF0.trans (if_neg (by decide))
            have hF0 := hF0.trans (if_neg (by decide))
            have hF0 := hF0.trans (if_pos (by decide))
            refine lv_icmp_lt (tgt := 48) hx hb dX7_isRest_41 (by decide) (fun c41 => absurd c41 (by decide +kernel)) (fun _ => ?_)
            refine lv_iconst (v := 1) hx hb dX7_isRest_44 zk_iconst_1 ?_
            refine lv_goto (tgt := 49) hx hb dX7_isRest_45 (by decide) ?_
            have hFe : FX = 1 := hF0
            exact W.zret (v := 1) hx hb hr rfl (fun t ht hW => ⟨⟨1, (), rfl, ⟨(Or.inl (rfl)), hFe.symm⟩, by rw [ht]; exact hP, va_K.moved hW.alike hK, hD⟩, hS.F ht⟩) hS.2.2 dX7_isRest_49
          · obtain ⟨hw, h38_0, h38_1⟩ := hw
            subst hw
            have l38k3_a2 : (0 : Int) ≤ a2.toInt := h38_0
            have u38k3_a2 : a2.toInt ≤ (0 : Int) := h38_1
            have hF0 := hF0.trans (if_neg (by decide))
            have hF0 := hF0.trans (if_neg (by decide))
            have hF0 := hF0.trans (if_neg (by decide))
            refine lv_icmp_lt (tgt := 48) hx hb dX7_isRest_41 (by decide) (fun c41 => absurd c41 (by decide +kernel)) (fun _ => ?_)
            refine lv_iconst (v := 1) hx hb dX7_isRest_44 zk_iconst_1 ?_
            refine lv_goto (tgt := 49) hx hb dX7_isRest_45 (by decide) ?_
            have hFe : FX = 1 := hF0
            exact W.zret (v := 1) hx hb hr rfl (fun t ht hW => ⟨⟨1, (), rfl, ⟨(Or.inl (rfl)), hFe.symm⟩, by rw [ht]; exact hP, va_K.moved hW.alike hK, hD⟩, hS.F ht⟩) hS.2.2 dX7_isRest_49
        · have gc30 := ai_eq c30
          have u30f_a3 : a3.toInt ≤ (0 : Int) := Int.le_trans (Int.le_of_eq gc30) zq6
          have l30f_a3 : (0 : Int) ≤ a3.toInt := Int.le_trans zq5 (Int.le_of_eq gc30.symm)
          have hF0 := hF0.trans (if_pos (show a3.toInt = 0 from gc30))
          refine lv_iconst (v := 1) hx hb dX7_isRest_33 zk_iconst_1 ?_
          refine lv_goto (tgt := 38) hx hb dX7_isRest_34 (by decide) ?_
          obtain ⟨hPc, hDc, hFc, hCc⟩ := zc_cut (wc := []) hP hD hS hA [] (by decide +kernel) rfl
          have hKc := hK.sub (tys' := []) [] rfl
          refine va_calli (va_runS (As := [.int a2, .int 1]) (rest := [.int 3]) ⟨hx, hb, hml, hown, hts⟩ (f_X7_attendantShare l dC dI H.size a2 1 ) (va_cwS 2 hts gX7_isRest_X7_attendantShare rfl rfl rfl zd_X7_attendantShare.2 ⟨Nat.le_of_ble_eq_true rfl, Nat.le_of_ble_eq_true rfl⟩) ⟨ax_blind (fun _ _ _ _ _ => trivial), ax_pre hPc hKc hDc (fun _ _ => trivial)⟩ rfl rfl hl.1 rfl (lv_room (Nat.le_of_ble_eq_true rfl)) dX7_isRest_38 ⟨Nat.le_of_ble_eq_true rfl, Nat.le_of_ble_eq_true rfl⟩) hS (fun q _ h => hFc q h) hFc (fun r38 u t H locs ht hvm hw hB hz1 hk1 hS => ?_)
          obtain ⟨hP1, hK1, hD1⟩ := hB
          rw [ht] at hP1
          obtain ⟨hP, hD⟩ := zc_back (w := []) hP hD hCc hk1 hFc hP1 hD1 [] (by decide +kernel) rfl
          obtain ⟨hw, hfr38⟩ := hw
          rw [show (1 : Int32).toInt = 1 from by decide] at hfr38
          have hc38 : Ff_X7_attendantShare a2.toInt 1 = r38.toInt := hfr38.symm
          have hF0 := hF0.trans (fl_lt_eq hc38.symm)
          rcases hw with hw | hw | hw | hw
          · subst hw
            have hF0 := hF0.trans (if_pos (by decide))
            refine lv_icmp_lt (tgt := 48) hx hb dX7_isRest_41 (by decide) (fun c41 => absurd c41 (by decide +kernel)) (fun _ => ?_)
            refine lv_iconst (v := 1) hx hb dX7_isRest_44 zk_iconst_1 ?_
            refine lv_goto (tgt := 49) hx hb dX7_isRest_45 (by decide) ?_
            have hFe : FX = 1 := hF0
            exact W.zret (v := 1) hx hb hr rfl (fun t ht hW => ⟨⟨1, (), rfl, ⟨(Or.inl (rfl)), hFe.symm⟩, by rw [ht]; exact hP, va_K.moved hW.alike hK, hD⟩, hS.F ht⟩) hS.2.2 dX7_isRest_49
          · obtain ⟨hw, h38_0, h38_1, h38_2, h38_3⟩ := hw
            subst hw
            have l38k1_a2 : (0 : Int) ≤ a2.toInt := h38_0
            have u38k1_a2 : a2.toInt ≤ (0 : Int) := h38_1
            exact absurd h38_3 (by decide)
          · obtain ⟨hw, h38_0, h38_1⟩ := hw
            subst hw
            exact absurd h38_1 (by decide)
          · obtain ⟨hw, h38_0, h38_1⟩ := hw
            subst hw
            have l38k3_a2 : (0 : Int) ≤ a2.toInt := h38_0
            have u38k3_a2 : a2.toInt ≤ (0 : Int) := h38_1
            have hF0 := hF0.trans (if_neg (by decide))
            have hF0 := hF0.trans (if_neg (by decide))
            have hF0 := hF0.trans (if_neg (by decide))
            refine lv_icmp_lt (tgt := 48) hx hb dX7_isRest_41 (by decide) (fun c41 => absurd c41 (by decide +kernel)) (fun _ => ?_)
            refine lv_iconst (v := 1) hx hb dX7_isRest_44 zk_iconst_1 ?_
            refine lv_goto (tgt := 49) hx hb dX7_isRest_45 (by decide) ?_
            have hFe : FX = 1 := hF0
            exact W.zret (v := 1) hx hb hr rfl (fun t ht hW => ⟨⟨1, (), rfl, ⟨(Or.inl (rfl)), hFe.symm⟩, by rw [ht]; exact hP, va_K.moved hW.alike hK, hD⟩, hS.F ht⟩) hS.2.2 dX7_isRest_49
      · obtain ⟨hw, h25_0, h25_1, h25_2, h25_3⟩ := hw
        subst hw
        have l25k1_a2 : (0 : Int) ≤ a2.toInt := h25_0
        have u25k1_a2 : a2.toInt ≤ (0 : Int) := h25_1
        have l25k1_a3 : (0 : Int) ≤ a3.toInt := h25_2
        have u25k1_a3 : a3.toInt ≤ (0 : Int) := h25_3
        have hF0 := hF0.trans (if_neg (by decide))
        have hF0 := hF0.trans (if_pos (by decide))
        refine lv_iload_n hx hb dX7_isRest_28 rfl (lv_at hl 1 rfl) ?_
        refine lv_iload_n hx hb dX7_isRest_29 rfl (lv_at hl 2 rfl) ?_
        refine lv_if_ne (tgt := 37) hx hb dX7_isRest_30 (by decide) (fun c30 => ?_) (fun c30 => ?_)
        · have gc30 := ai_ne c30
          have l30t_a3 : (1 : Int) ≤ a3.toInt := (by have h1 := l25k1_a3; have h2 : (0 : Int32).toInt = 0 := (by decide); rw [h2] at gc30; omega)
          have u30t_a3 : a3.toInt ≤ (-1 : Int) := (by have h1 := u25k1_a3; have h2 : (0 : Int32).toInt = 0 := (by decide); rw [h2] at gc30; omega)
          exact absurd (Int.le_trans l30t_a3 u30t_a3) (by decide)
        · have gc30 := ai_eq c30
          have u30f_a3 : a3.toInt ≤ (0 : Int) := u25k1_a3
          have l30f_a3 : (0 : Int) ≤ a3.toInt := l25k1_a3
          have hF0 := hF0.trans (if_pos (show a3.toInt = 0 from gc30))
          refine lv_iconst (v := 1) hx hb dX7_isRest_33 zk_iconst_1 ?_
          refine lv_goto (tgt := 38) hx hb dX7_isRest_34 (by decide) ?_
          obtain ⟨hPc, hDc, hFc, hCc⟩ := zc_cut (wc := []) hP hD hS hA [] (by decide +kernel) rfl
          have hKc := hK.sub (tys' := []) [] rfl
          refine va_calli (va_runS (As := [.int a2, .int 1]) (rest := [.int 1]) ⟨hx, hb, hml, hown, hts⟩ (f_X7_attendantShare l dC dI H.size a2 1 ) (va_cwS 2 hts gX7_isRest_X7_attendantShare rfl rfl rfl zd_X7_attendantShare.2 ⟨Nat.le_of_ble_eq_true rfl, Nat.le_of_ble_eq_true rfl⟩) ⟨ax_blind (fun _ _ _ _ _ => trivial), ax_pre hPc hKc hDc (fun _ _ => trivial)⟩ rfl rfl hl.1 rfl (lv_room (Nat.le_of_ble_eq_true rfl)) dX7_isRest_38 ⟨Nat.le_of_ble_eq_true rfl, Nat.le_of_ble_eq_true rfl⟩) hS (fun q _ h => hFc q h) hFc (fun r38 u t H locs ht hvm hw hB hz1 hk1 hS => ?_)
          obtain ⟨hP1, hK1, hD1⟩ := hB
          rw [ht] at hP1
          obtain ⟨hP, hD⟩ := zc_back (w := []) hP hD hCc hk1 hFc hP1 hD1 [] (by decide +kernel) rfl
          obtain ⟨hw, hfr38⟩ := hw
          rw [show (1 : Int32).toInt = 1 from by decide] at hfr38
          have hc38 : Ff_X7_attendantShare a2.toInt 1 = r38.toInt := hfr38.symm
          have hF0 := hF0.trans (fl_lt_eq hc38.symm)
          rcases hw with hw | hw | hw | hw
          · subst hw
            have hF0 := hF0.trans (if_pos (by decide))
            refine lv_icmp_lt (tgt := 48) hx hb dX7_isRest_41 (by decide) (fun _ => ?_) (fun c41 => absurd (by decide +kernel) c41)
            refine lv_iconst (v := 0) hx hb dX7_isRest_48 zk_iconst_0 ?_
            have hFe : FX = 0 := hF0
            exact W.zret (v := 0) hx hb hr rfl (fun t ht hW => ⟨⟨0, (), rfl, ⟨(Or.inr (rfl)), hFe.symm⟩, by rw [ht]; exact hP, va_K.moved hW.alike hK, hD⟩, hS.F ht⟩) hS.2.2 dX7_isRest_49
          · obtain ⟨hw, h38_0, h38_1, h38_2, h38_3⟩ := hw
            subst hw
            have l38k1_a2 : (0 : Int) ≤ a2.toInt := l25k1_a2
            have u38k1_a2 : a2.toInt ≤ (0 : Int) := u25k1_a2
            exact absurd h38_3 (by decide)
          · obtain ⟨hw, h38_0, h38_1⟩ := hw
            subst hw
            exact absurd h38_1 (by decide)
          · obtain ⟨hw, h38_0, h38_1⟩ := hw
            subst hw
            have l38k3_a2 : (0 : Int) ≤ a2.toInt := l25k1_a2
            have u38k3_a2 : a2.toInt ≤ (0 : Int) := u25k1_a2
            have hF0 := hF0.trans (if_neg (by decide))
            have hF0 := hF0.trans (if_neg (by decide))
            have hF0 := hF0.trans (if_neg (by decide))
            refine lv_icmp_lt (tgt := 48) hx hb dX7_isRest_41 (by decide) (fun c41 => absurd c41 (by decide +kernel)) (fun _ => ?_)
            refine lv_iconst (v := 1) hx hb dX7_isRest_44 zk_iconst_1 ?_
            refine lv_goto (tgt := 49) hx hb dX7_isRest_45 (by decide) ?_
            have hFe : FX = 1 := hF0
            exact W.zret (v := 1) hx hb hr rfl (fun t ht hW => ⟨⟨1, (), rfl, ⟨(Or.inl (rfl)), hFe.symm⟩, by rw [ht]; exact hP, va_K.moved hW.alike hK, hD⟩, hS.F ht⟩) hS.2.2 dX7_isRest_49
      · obtain ⟨hw, h25_0, h25_1⟩ := hw
        subst hw
        have l25k2_a3 : (0 : Int) ≤ a3.toInt := h25_0
        have u25k2_a3 : a3.toInt ≤ (0 : Int) := h25_1
        have hF0 := hF0.trans (if_neg (by decide))
        have hF0 := hF0.trans (if_neg (by decide))
        have hF0 := hF0.trans (if_pos (by decide))
        refine lv_iload_n hx hb dX7_isRest_28 rfl (lv_at hl 1 rfl) ?_
        refine lv_iload_n hx hb dX7_isRest_29 rfl (lv_at hl 2 rfl) ?_
        refine lv_if_ne (tgt := 37) hx hb dX7_isRest_30 (by decide) (fun c30 => ?_) (fun c30 => ?_)
        · have gc30 := ai_ne c30
          have l30t_a3 : (1 : Int) ≤ a3.toInt := (by have h1 := l25k2_a3; have h2 : (0 : Int32).toInt = 0 := (by decide); rw [h2] at gc30; omega)
          have u30t_a3 : a3.toInt ≤ (-1 : Int) := (by have h1 := u25k2_a3; have h2 : (0 : Int32).toInt = 0 := (by decide); rw [h2] at gc30; omega)
          exact absurd (Int.le_trans l30t_a3 u30t_a3) (by decide)
        · have gc30 := ai_eq c30
          have u30f_a3 : a3.toInt ≤ (0 : Int) := u25k2_a3
          have l30f_a3 : (0 : Int) ≤ a3.toInt := l25k2_a3
          have hF0 := hF0.trans (if_pos (show a3.toInt = 0 from gc30))
          refine lv_iconst (v := 1) hx hb dX7_isRest_33 zk_iconst_1 ?_
          refine lv_goto (tgt := 38) hx hb dX7_isRest_34 (by decide) ?_
          obtain ⟨hPc, hDc, hFc, hCc⟩ := zc_cut (wc := []) hP hD hS hA [] (by decide +kernel) rfl
          have hKc := hK.sub (tys' := []) [] rfl
          refine va_calli (va_runS (As := [.int a2, .int 1]) (rest := [.int 0]) ⟨hx, hb, hml, hown, hts⟩ (f_X7_attendantShare l dC dI H.size a2 1 ) (va_cwS 2 hts gX7_isRest_X7_attendantShare rfl rfl rfl zd_X7_attendantShare.2 ⟨Nat.le_of_ble_eq_true rfl, Nat.le_of_ble_eq_true rfl⟩) ⟨ax_blind (fun _ _ _ _ _ => trivial), ax_pre hPc hKc hDc (fun _ _ => trivial)⟩ rfl rfl hl.1 rfl (lv_room (Nat.le_of_ble_eq_true rfl)) dX7_isRest_38 ⟨Nat.le_of_ble_eq_true rfl, Nat.le_of_ble_eq_true rfl⟩) hS (fun q _ h => hFc q h) hFc (fun r38 u t H locs ht hvm hw hB hz1 hk1 hS => ?_)
          obtain ⟨hP1, hK1, hD1⟩ := hB
          rw [ht] at hP1
          obtain ⟨hP, hD⟩ := zc_back (w := []) hP hD hCc hk1 hFc hP1 hD1 [] (by decide +kernel) rfl
          obtain ⟨hw, hfr38⟩ := hw
          rw [show (1 : Int32).toInt = 1 from by decide] at hfr38
          have hc38 : Ff_X7_attendantShare a2.toInt 1 = r38.toInt := hfr38.symm
          have hF0 := hF0.trans (fl_lt_eq hc38.symm)
          rcases hw with hw | hw | hw | hw
          · subst hw
            have hF0 := hF0.trans (if_pos (by decide))
            refine lv_icmp_lt (tgt := 48) hx hb dX7_isRest_41 (by decide) (fun _ => ?_) (fun c41 => absurd (by decide +kernel) c41)
            refine lv_iconst (v := 0) hx hb dX7_isRest_48 zk_iconst_0 ?_
            have hFe : FX = 0 := hF0
            exact W.zret (v := 0) hx hb hr rfl (fun t ht hW => ⟨⟨0, (), rfl, ⟨(Or.inr (rfl)), hFe.symm⟩, by rw [ht]; exact hP, va_K.moved hW.alike hK, hD⟩, hS.F ht⟩) hS.2.2 dX7_isRest_49
          · obtain ⟨hw, h38_0, h38_1, h38_2, h38_3⟩ := hw
            subst hw
            have l38k1_a2 : (0 : Int) ≤ a2.toInt := h38_0
            have u38k1_a2 : a2.toInt ≤ (0 : Int) := h38_1
            exact absurd h38_3 (by decide)
          · obtain ⟨hw, h38_0, h38_1⟩ := hw
            subst hw
            exact absurd h38_1 (by decide)
          · obtain ⟨hw, h38_0, h38_1⟩ := hw
            subst hw
            have l38k3_a2 : (0 : Int) ≤ a2.toInt := h38_0
            have u38k3_a2 : a2.toInt ≤ (0 : Int) := h38_1
            have hF0 := hF0.trans (if_neg (by decide))
            have hF0 := hF0.trans (if_neg (by decide))
            have hF0 := hF0.trans (if_neg (by decide))
            refine lv_icmp_lt (tgt := 48) hx hb dX7_isRest_41 (by decide) (fun c41 => absurd c41 (by decide +kernel)) (fun _ => ?_)
            refine lv_iconst (v := 1) hx hb dX7_isRest_44 zk_iconst_1 ?_
            refine lv_goto (tgt := 49) hx hb dX7_isRest_45 (by decide) ?_
            have hFe : FX = 1 := hF0
            exact W.zret (v := 1) hx hb hr rfl (fun t ht hW => ⟨⟨1, (), rfl, ⟨(Or.inl (rfl)), hFe.symm⟩, by rw [ht]; exact hP, va_K.moved hW.alike hK, hD⟩, hS.F ht⟩) hS.2.2 dX7_isRest_49
      · obtain ⟨hw, h25_0, h25_1⟩ := hw
        subst hw
        have l25k3_a2 : (0 : Int) ≤ a2.toInt := h25_0
        have u25k3_a2 : a2.toInt ≤ (0 : Int) := h25_1
        have hF0 := hF0.trans (if_neg (by decide))
        have hF0 := hF0.trans (if_neg (by decide))
        have hF0 := hF0.trans (if_neg (by decide))
        refine lv_iload_n hx hb dX7_isRest_28 rfl (lv_at hl 1 rfl) ?_
        refine lv_iload_n hx hb dX7_isRest_29 rfl (lv_at hl 2 rfl) ?_
        refine lv_if_ne (tgt := 37) hx hb dX7_isRest_30 (by decide) (fun c30 => ?_) (fun c30 => ?_)
        · have gc30 := ai_ne c30
          have hF0 := hF0.trans (if_neg (show ¬ (a3.toInt = 0) from  gc30))
          refine lv_iconst (v := 0) hx hb dX7_isRest_37 zk_iconst_0 ?_
          obtain ⟨hPc, hDc, hFc, hCc⟩ := zc_cut (wc := []) hP hD hS hA [] (by decide +kernel) rfl
          have hKc := hK.sub (tys' := []) [] rfl
          refine va_calli (va_runS (As := [.int a2, .int 0]) (rest := [.int (-1)]) ⟨hx, hb, hml, hown, hts⟩ (f_X7_attendantShare l dC dI H.size a2 0 ) (va_cwS 2 hts gX7_isRest_X7_attendantShare rfl rfl rfl zd_X7_attendantShare.2 ⟨Nat.le_of_ble_eq_true rfl, Nat.le_of_ble_eq_true rfl⟩) ⟨ax_blind (fun _ _ _ _ _ => trivial), ax_pre hPc hKc hDc (fun _ _ => trivial)⟩ rfl rfl hl.1 rfl (lv_room (Nat.le_of_ble_eq_true rfl)) dX7_isRest_38 ⟨Nat.le_of_ble_eq_true rfl, Nat.le_of_ble_eq_true rfl⟩) hS (fun q _ h => hFc q h) hFc (fun r38 u t H locs ht hvm hw hB hz1 hk1 hS => ?_)
          obtain ⟨hP1, hK1, hD1⟩ := hB
          rw [ht] at hP1
          obtain ⟨hP, hD⟩ := zc_back (w := []) hP hD hCc hk1 hFc hP1 hD1 [] (by decide +kernel) rfl
          obtain ⟨hw, hfr38⟩ := hw
          rw [show (0 : Int32).toInt = 0 from by decide] at hfr38
          have hc38 : Ff_X7_attendantShare a2.toInt 0 = r38.toInt := hfr38.symm
          have hF0 := hF0.trans (fl_lt_eq hc38.symm)
          rcases hw with hw | hw | hw | hw
          · subst hw
            have hF0 := hF0.trans (if_pos (by decide))
            refine lv_icmp_lt (tgt := 48) hx hb dX7_isRest_41 (by decide) (fun _ => ?_) (fun c41 => absurd (by decide +kernel) c41)
            refine lv_iconst (v := 0) hx hb dX7_isRest_48 zk_iconst_0 ?_
            have hFe : FX = 0 := hF0
            exact W.zret (v := 0) hx hb hr rfl (fun t ht hW => ⟨⟨0, (), rfl, ⟨(Or.inr (rfl)), hFe.symm⟩, by rw [ht]; exact hP, va_K.moved hW.alike hK, hD⟩, hS.F ht⟩) hS.2.2 dX7_isRest_49
          · obtain ⟨hw, h38_0, h38_1, h38_2, h38_3⟩ := hw
            subst hw
            have l38k1_a2 : (0 : Int) ≤ a2.toInt := l25k3_a2
            have u38k1_a2 : a2.toInt ≤ (0 : Int) := u25k3_a2
            have hF0 := hF0.trans (if_neg (by decide))
            have hF0 := hF0.trans (if_pos (by decide))
            refine lv_icmp_lt (tgt := 48) hx hb dX7_isRest_41 (by decide) (fun _ => ?_) (fun c41 => absurd (by decide +kernel) c41)
            refine lv_iconst (v := 0) hx hb dX7_isRest_48 zk_iconst_0 ?_
            have hFe : FX = 0 := hF0
            exact W.zret (v := 0) hx hb hr rfl (fun t ht hW => ⟨⟨0, (), rfl, ⟨(Or.inr (rfl)), hFe.symm⟩, by rw [ht]; exact hP, va_K.moved hW.alike hK, hD⟩, hS.F ht⟩) hS.2.2 dX7_isRest_49
          · obtain ⟨hw, h38_0, h38_1⟩ := hw
            subst hw
            have hF0 := hF0.trans (if_neg (by decide))
            have hF0 := hF0.trans (if_neg (by decide))
            have hF0 := hF0.trans (if_pos (by decide))
            refine lv_icmp_lt (tgt := 48) hx hb dX7_isRest_41 (by decide) (fun _ => ?_) (fun c41 => absurd (by decide +kernel) c41)
            refine lv_iconst (v := 0) hx hb dX7_isRest_48 zk_iconst_0 ?_
            have hFe : FX = 0 := hF0
            exact W.zret (v := 0) hx hb hr rfl (fun t ht hW => ⟨⟨0, (), rfl, ⟨(Or.inr (rfl)), hFe.symm⟩, by rw [ht]; exact hP, va_K.moved hW.alike hK, hD⟩, hS.F ht⟩) hS.2.2 dX7_isRest_49
          · obtain ⟨hw, h38_0, h38_1⟩ := hw
            subst hw
            have l38k3_a2 : (0 : Int) ≤ a2.toInt := l25k3_a2
            have u38k3_a2 : a2.toInt ≤ (0 : Int) := u25k3_a2
            have hF0 := hF0.trans (if_neg (by decide))
            have hF0 := hF0.trans (if_neg (by decide))
            have hF0 := hF0.trans (if_neg (by decide))
            refine lv_icmp_lt (tgt := 48) hx hb dX7_isRest_41 (by decide) (fun c41 => absurd c41 (by decide +kernel)) (fun _ => ?_)
            refine lv_iconst (v := 1) hx hb dX7_isRest_44 zk_iconst_1 ?_
            refine lv_goto (tgt := 49) hx hb dX7_isRest_45 (by decide) ?_
            have hFe : FX = 1 := hF0
            exact W.zret (v := 1) hx hb hr rfl (fun t ht hW => ⟨⟨1, (), rfl, ⟨(Or.inl (rfl)), hFe.symm⟩, by rw [ht]; exact hP, va_K.moved hW.alike hK, hD⟩, hS.F ht⟩) hS.2.2 dX7_isRest_49
        · have gc30 := ai_eq c30
          have u30f_a3 : a3.toInt ≤ (0 : Int) := Int.le_trans (Int.le_of_eq gc30) zq6
          have l30f_a3 : (0 : Int) ≤ a3.toInt := Int.le_trans zq5 (Int.le_of_eq gc30.symm)
          have hF0 := hF0.trans (if_pos (show a3.toInt = 0 from gc30))
          refine lv_iconst (v := 1) hx hb dX7_isRest_33 zk_iconst_1 ?_
          refine lv_goto (tgt := 38) hx hb dX7_isRest_34 (by decide) ?_
          obtain ⟨hPc, hDc, hFc, hCc⟩ := zc_cut (wc := []) hP hD hS hA [] (by decide +kernel) rfl
          have hKc := hK.sub (tys' := []) [] rfl
          refine va_calli (va_runS (As := [.int a2, .int 1]) (rest := [.int (-1)]) ⟨hx, hb, hml, hown, hts⟩ (f_X7_attendantShare l dC dI H.size a2 1 ) (va_cwS 2 hts gX7_isRest_X7_attendantShare rfl rfl rfl zd_X7_attendantShare.2 ⟨Nat.le_of_ble_eq_true rfl, Nat.le_of_ble_eq_true rfl⟩) ⟨ax_blind (fun _ _ _ _ _ => trivial), ax_pre hPc hKc hDc (fun _ _ => trivial)⟩ rfl rfl hl.1 rfl (lv_room (Nat.le_of_ble_eq_true rfl)) dX7_isRest_38 ⟨Nat.le_of_ble_eq_true rfl, Nat.le_of_ble_eq_true rfl⟩) hS (fun q _ h => hFc q h) hFc (fun r38 u t H locs ht hvm hw hB hz1 hk1 hS => ?_)
          obtain ⟨hP1, hK1, hD1⟩ := hB
          rw [ht] at hP1
          obtain ⟨hP, hD⟩ := zc_back (w := []) hP hD hCc hk1 hFc hP1 hD1 [] (by decide +kernel) rfl
          obtain ⟨hw, hfr38⟩ := hw
          rw [show (1 : Int32).toInt = 1 from by decide] at hfr38
          have hc38 : Ff_X7_attendantShare a2.toInt 1 = r38.toInt := hfr38.symm
          have hF0 := hF0.trans (fl_lt_eq hc38.symm)
          rcases hw with hw | hw | hw | hw
          · subst hw
            have hF0 := hF0.trans (if_pos (by decide))
            refine lv_icmp_lt (tgt := 48) hx hb dX7_isRest_41 (by decide) (fun _ => ?_) (fun c41 => absurd (by decide +kernel) c41)
            refine lv_iconst (v := 0) hx hb dX7_isRest_48 zk_iconst_0 ?_
            have hFe : FX = 0 := hF0
            exact W.zret (v := 0) hx hb hr rfl (fun t ht hW => ⟨⟨0, (), rfl, ⟨(Or.inr (rfl)), hFe.symm⟩, by rw [ht]; exact hP, va_K.moved hW.alike hK, hD⟩, hS.F ht⟩) hS.2.2 dX7_isRest_49
          · obtain ⟨hw, h38_0, h38_1, h38_2, h38_3⟩ := hw
            subst hw
            have l38k1_a2 : (0 : Int) ≤ a2.toInt := l25k3_a2
            have u38k1_a2 : a2.toInt ≤ (0 : Int) := u25k3_a2
            exact absurd h38_3 (by decide)
          · obtain ⟨hw, h38_0, h38_1⟩ := hw
            subst hw
            exact absurd h38_1 (by decide)
          · obtain ⟨hw, h38_0, h38_1⟩ := hw
            subst hw
            have l38k3_a2 : (0 : Int) ≤ a2.toInt := l25k3_a2
            have u38k3_a2 : a2.toInt ≤ (0 : Int) := u25k3_a2
            have hF0 := hF0.trans (if_neg (by decide))
            have hF0 := hF0.trans (if_neg (by decide))
            have hF0 := hF0.trans (if_neg (by decide))
            refine lv_icmp_lt (tgt := 48) hx hb dX7_isRest_41 (by decide) (fun c41 => absurd c41 (by decide +kernel)) (fun _ => ?_)
            refine lv_iconst (v := 1) hx hb dX7_isRest_44 zk_iconst_1 ?_
            refine lv_goto (tgt := 49) hx hb dX7_isRest_45 (by decide) ?_
            have hFe : FX = 1 := hF0
            exact W.zret (v := 1) hx hb hr rfl (fun t ht hW => ⟨⟨1, (), rfl, ⟨(Or.inl (rfl)), hFe.symm⟩, by rw [ht]; exact hP, va_K.moved hW.alike hK, hD⟩, hS.F ht⟩) hS.2.2 dX7_isRest_49
  · have gc8 := ai_eq c8
    have u8f_a2 : a2.toInt ≤ (0 : Int) := Int.le_trans (Int.le_of_eq gc8) zq6
    have l8f_a2 : (0 : Int) ≤ a2.toInt := Int.le_trans zq5 (Int.le_of_eq gc8.symm)
    have hF0 := hF0.trans (if_pos (show a2.toInt = 0 from gc8))
    refine lv_iconst (v := 1) hx hb dX7_isRest_11 zk_iconst_1 ?_
    refine lv_goto (tgt := 16) hx hb dX7_isRest_12 (by decide) ?_
    refine lv_iload_n hx hb dX7_isRest_16 rfl (lv_at hl 2 rfl) ?_
    obtain ⟨hPc, hDc, hFc, hCc⟩ := zc_cut (wc := []) hP hD hS hA [] (by decide +kernel) rfl
    have hKc := hK.sub (tys' := []) [] rfl
    refine va_calli (va_runS (As := [.int a1, .int 1, .int a3]) (rest := [.int r3]) ⟨hx, hb, hml, hown, hts⟩ (f_X7_figureShare l dC dI H.size a1 1 a3 ) (va_cwS 3 hts gX7_isRest_X7_figureShare rfl rfl rfl zd_X7_figureShare.2 ⟨Nat.le_of_ble_eq_true rfl, Nat.le_of_ble_eq_true rfl⟩) ⟨ax_blind (fun _ _ _ _ _ => trivial), ax_pre hPc hKc hDc (fun _ _ => trivial)⟩ rfl rfl hl.1 rfl (lv_room (Nat.le_of_ble_eq_true rfl)) dX7_isRest_17 ⟨Nat.le_of_ble_eq_true rfl, Nat.le_of_ble_eq_true rfl⟩) hS (fun q _ h => hFc q h) hFc (fun r17 u t H locs ht hvm hw hB hz1 hk1 hS => ?_)
    obtain ⟨hP1, hK1, hD1⟩ := hB
    rw [ht] at hP1
    obtain ⟨hP, hD⟩ := zc_back (w := []) hP hD hCc hk1 hFc hP1 hD1 [] (by decide +kernel) rfl
    obtain ⟨hw, hfr17⟩ := hw
    rw [show (1 : Int32).toInt = 1 from by decide] at hfr17
    have hc17 : Ff_X7_figureShare a1.toInt 1 a3.toInt = r17.toInt := hfr17.symm
    have hF0 := hF0.trans (fl_lt_eq hc17.symm)
    refine lv_icmp_lt (tgt := 48) hx hb dX7_isRest_20 (by decide) (fun c20 => ?_) (fun c20 => ?_)
    · have gc20 := ai_lt c20
      have u20t_r3 : r3.toInt ≤ (2147483646 : Int) := ai_lthi gc20 (ai_max r17)
      have l20t_r17 : (-2147483647 : Int) ≤ r17.toInt := ai_ltlo gc20 (ai_min r3)
      have hF0 := hF0.trans (if_pos (show r3.toInt < r17.toInt from gc20))
      refine lv_iconst (v := 0) hx hb dX7_isRest_48 zk_iconst_0 ?_
      have hFe : FX = 0 := hF0
      exact W.zret (v := 0) hx hb hr rfl (fun t ht hW => ⟨⟨0, (), rfl, ⟨(Or.inr (rfl)), hFe.symm⟩, by rw [ht]; exact hP, va_K.moved hW.alike hK, hD⟩, hS.F ht⟩) hS.2.2 dX7_isRest_49
    · have gc20 := ai_nlt c20
      have hF0 := hF0.trans (if_neg (show ¬ (r3.toInt < r17.toInt) from Int.not_lt.mpr gc20))
      refine lv_iload_n hx hb dX7_isRest_23 rfl (lv_at hl 1 rfl) ?_
      refine lv_iload_n hx hb dX7_isRest_24 rfl (lv_at hl 2 rfl) ?_
      obtain ⟨hPc, hDc, hFc, hCc⟩ := zc_cut (wc := []) hP hD hS hA [] (by decide +kernel) rfl
      have hKc := hK.sub (tys' := []) [] rfl
      refine va_calli (va_runS (As := [.int a2, .int a3]) (rest := []) ⟨hx, hb, hml, hown, hts⟩ (f_X7_attendantShare l dC dI H.size a2 a3 ) (va_cwS 2 hts gX7_isRest_X7_attendantShare rfl rfl rfl zd_X7_attendantShare.2 ⟨Nat.le_of_ble_eq_true rfl, Nat.le_of_ble_eq_true rfl⟩) ⟨ax_blind (fun _ _ _ _ _ => trivial), ax_pre hPc hKc hDc (fun _ _ => trivial)⟩ rfl rfl hl.1 rfl (lv_room (Nat.le_of_ble_eq_true rfl)) dX7_isRest_25 ⟨Nat.le_of_ble_eq_true rfl, Nat.le_of_ble_eq_true rfl⟩) hS (fun q _ h => hFc q h) hFc (fun r25 u t H locs ht hvm hw hB hz1 hk1 hS => ?_)
      obtain ⟨hP1, hK1, hD1⟩ := hB
      rw [ht] at hP1
      obtain ⟨hP, hD⟩ := zc_back (w := []) hP hD hCc hk1 hFc hP1 hD1 [] (by decide +kernel) rfl
      obtain ⟨hw, hfr25⟩ := hw
      have hc25 : Ff_X7_attendantShare a2.toInt a3.toInt = r25.toInt := hfr25.symm
      have hF0 := hF0.trans (fl_lt_eq hc25.symm)
      rcases hw with hw | hw | hw | hw
      · subst hw
        have hF0 := hF0.trans (if_pos (by decide))
        refine lv_iload_n hx hb dX7_isRest_28 rfl (lv_at hl 1 rfl) ?_
        refine lv_iload_n hx hb dX7_isRest_29 rfl (lv_at hl 2 rfl) ?_
        refine lv_if_ne (tgt := 37) hx hb dX7_isRest_30 (by decide) (fun c30 => ?_) (fun c30 => ?_)
        · have gc30 := ai_ne c30
          have hF0 := hF0.trans (if_neg (show ¬ (a3.toInt = 0) from  gc30))
          refine lv_iconst (v := 0) hx hb dX7_isRest_37 zk_iconst_0 ?_
          obtain ⟨hPc, hDc, hFc, hCc⟩ := zc_cut (wc := []) hP hD hS hA [] (by decide +kernel) rfl
          have hKc := hK.sub (tys' := []) [] rfl
          refine va_calli (va_runS (As := [.int a2, .int 0]) (rest := [.int 3]) ⟨hx, hb, hml, hown, hts⟩ (f_X7_attendantShare l dC dI H.size a2 0 ) (va_cwS 2 hts gX7_isRest_X7_attendantShare rfl rfl rfl zd_X7_attendantShare.2 ⟨Nat.le_of_ble_eq_true rfl, Nat.le_of_ble_eq_true rfl⟩) ⟨ax_blind (fun _ _ _ _ _ => trivial), ax_pre hPc hKc hDc (fun _ _ => trivial)⟩ rfl rfl hl.1 rfl (lv_room (Nat.le_of_ble_eq_true rfl)) dX7_isRest_38 ⟨Nat.le_of_ble_eq_true rfl, Nat.le_of_ble_eq_true rfl⟩) hS (fun q _ h => hFc q h) hFc (fun r38 u t H locs ht hvm hw hB hz1 hk1 hS => ?_)
          obtain ⟨hP1, hK1, hD1⟩ := hB
          rw [ht] at hP1
          obtain ⟨hP, hD⟩ := zc_back (w := []) hP hD hCc hk1 hFc hP1 hD1 [] (by decide +kernel) rfl
          obtain ⟨hw, hfr38⟩ := hw
          rw [show (0 : Int32).toInt = 0 from by decide] at hfr38
          have hc38 : Ff_X7_attendantShare a2.toInt 0 = r38.toInt := hfr38.symm
          have hF0 := hF0.trans (fl_lt_eq hc38.symm)
          rcases hw with hw | hw | hw | hw
          · subst hw
            have hF0 := hF0.trans (if_pos (by decide))
            refine lv_icmp_lt (tgt := 48) hx hb dX7_isRest_41 (by decide) (fun c41 => absurd c41 (by decide +kernel)) (fun _ => ?_)
            refine lv_iconst (v := 1) hx hb dX7_isRest_44 zk_iconst_1 ?_
            refine lv_goto (tgt := 49) hx hb dX7_isRest_45 (by decide) ?_
            have hFe : FX = 1 := hF0
            exact W.zret (v := 1) hx hb hr rfl (fun t ht hW => ⟨⟨1, (), rfl, ⟨(Or.inl (rfl)), hFe.symm⟩, by rw [ht]; exact hP, va_K.moved hW.alike hK, hD⟩, hS.F ht⟩) hS.2.2 dX7_isRest_49
          · obtain ⟨hw, h38_0, h38_1, h38_2, h38_3⟩ := hw
            subst hw
            have l38k1_a2 : (0 : Int) ≤ a2.toInt := l8f_a2
            have u38k1_a2 : a2.toInt ≤ (0 : Int) := u8f_a2
            have hF0 := hF0.trans (if_neg (by decide))
            have hF0 := hF0.trans (if_pos (by decide))
            refine lv_icmp_lt (tgt := 48) hx hb dX7_isRest_41 (by decide) (fun c41 => absurd c41 (by decide +kernel)) (fun _ => ?_)
            refine lv_iconst (v := 1) hx hb dX7_isRest_44 zk_iconst_1 ?_
            refine lv_goto (tgt := 49) hx hb dX7_isRest_45 (by decide) ?_
            have hFe : FX = 1 := hF0
            exact W.zret (v := 1) hx hb hr rfl (fun t ht hW => ⟨⟨1, (), rfl, ⟨(Or.inl (rfl)), hFe.symm⟩, by rw [ht]; exact hP, va_K.moved hW.alike hK, hD⟩, hS.F ht⟩) hS.2.2 dX7_isRest_49
          · obtain ⟨hw, h38_0, h38_1⟩ := hw
            subst hw
            have hF0 := hF0.trans (if_neg (by decide))
            have hF0 := hF0.trans (if_neg (by decide))
            have hF0 := hF0.trans (if_pos (by decide))
            refine lv_icmp_lt (tgt := 48) hx hb dX7_isRest_41 (by decide) (fun c41 => absurd c41 (by decide +kernel)) (fun _ => ?_)
            refine lv_iconst (v := 1) hx hb dX7_isRest_44 zk_iconst_1 ?_
            refine lv_goto (tgt := 49) hx hb dX7_isRest_45 (by decide) ?_
            have hFe : FX = 1 := hF0
            exact W.zret (v := 1) hx hb hr rfl (fun t ht hW => ⟨⟨1, (), rfl, ⟨(Or.inl (rfl)), hFe.symm⟩, by rw [ht]; exact hP, va_K.moved hW.alike hK, hD⟩, hS.F ht⟩) hS.2.2 dX7_isRest_49
          · obtain ⟨hw, h38_0, h38_1⟩ := hw
            subst hw
            have l38k3_a2 : (0 : Int) ≤ a2.toInt := l8f_a2
            have u38k3_a2 : a2.toInt ≤ (0 : Int) := u8f_a2
            have hF0 := hF0.trans (if_neg (by decide))
            have hF0 := hF0.trans (if_neg (by decide))
            have hF0 := hF0.trans (if_neg (by decide))
            refine lv_icmp_lt (tgt := 48) hx hb dX7_isRest_41 (by decide) (fun c41 => absurd c41 (by decide +kernel)) (fun _ => ?_)
            refine lv_iconst (v := 1) hx hb dX7_isRest_44 zk_iconst_1 ?_
            refine lv_goto (tgt := 49) hx hb dX7_isRest_45 (by decide) ?_
            have hFe : FX = 1 := hF0
            exact W.zret (v := 1) hx hb hr rfl (fun t ht hW => ⟨⟨1, (), rfl, ⟨(Or.inl (rfl)), hFe.symm⟩, by rw [ht]; exact hP, va_K.moved hW.alike hK, hD⟩, hS.F ht⟩) hS.2.2 dX7_isRest_49
        · have gc30 := ai_eq c30
          have u30f_a3 : a3.toInt ≤ (0 : Int) := Int.le_trans (Int.le_of_eq gc30) zq6
          have l30f_a3 : (0 : Int) ≤ a3.toInt := Int.le_trans zq5 (Int.le_of_eq gc30.symm)
          have hF0 := hF0.trans (if_pos (show a3.toInt = 0 from gc30))
          refine lv_iconst (v := 1) hx hb dX7_isRest_33 zk_iconst_1 ?_
          refine lv_goto (tgt := 38) hx hb dX7_isRest_34 (by decide) ?_
          obtain ⟨hPc, hDc, hFc, hCc⟩ := zc_cut (wc := []) hP hD hS hA [] (by decide +kernel) rfl
          have hKc := hK.sub (tys' := []) [] rfl
          refine va_calli (va_runS (As := [.int a2, .int 1]) (rest := [.int 3]) ⟨hx, hb, hml, hown, hts⟩ (f_X7_attendantShare l dC dI H.size a2 1 ) (va_cwS 2 hts gX7_isRest_X7_attendantShare rfl rfl rfl zd_X7_attendantShare.2 ⟨Nat.le_of_ble_eq_true rfl, Nat.le_of_ble_eq_true rfl⟩) ⟨ax_blind (fun _ _ _ _ _ => trivial), ax_pre hPc hKc hDc (fun _ _ => trivial)⟩ rfl rfl hl.1 rfl (lv_room (Nat.le_of_ble_eq_true rfl)) dX7_isRest_38 ⟨Nat.le_of_ble_eq_true rfl, Nat.le_of_ble_eq_true rfl⟩) hS (fun q _ h => hFc q h) hFc (fun r38 u t H locs ht hvm hw hB hz1 hk1 hS => ?_)
          obtain ⟨hP1, hK1, hD1⟩ := hB
          rw [ht] at hP1
          obtain ⟨hP, hD⟩ := zc_back (w := []) hP hD hCc hk1 hFc hP1 hD1 [] (by decide +kernel) rfl
          obtain ⟨hw, hfr38⟩ := hw
          rw [show (1 : Int32).toInt = 1 from by decide] at hfr38
          have hc38 : Ff_X7_attendantShare a2.toInt 1 = r38.toInt := hfr38.symm
          have hF0 := hF0.trans (fl_lt_eq hc38.symm)
          rcases hw with hw | hw | hw | hw
          · subst hw
            have hF0 := hF0.trans (if_pos (by decide))
            refine lv_icmp_lt (tgt := 48) hx hb dX7_isRest_41 (by decide) (fun c41 => absurd c41 (by decide +kernel)) (fun _ => ?_)
            refine lv_iconst (v := 1) hx hb dX7_isRest_44 zk_iconst_1 ?_
            refine lv_goto (tgt := 49) hx hb dX7_isRest_45 (by decide) ?_
            have hFe : FX = 1 := hF0
            exact W.zret (v := 1) hx hb hr rfl (fun t ht hW => ⟨⟨1, (), rfl, ⟨(Or.inl (rfl)), hFe.symm⟩, by rw [ht]; exact hP, va_K.moved hW.alike hK, hD⟩, hS.F ht⟩) hS.2.2 dX7_isRest_49
          · obtain ⟨hw, h38_0, h38_1, h38_2, h38_3⟩ := hw
            subst hw
            have l38k1_a2 : (0 : Int) ≤ a2.toInt := l8f_a2
            have u38k1_a2 : a2.toInt ≤ (0 : Int) := u8f_a2
            exact absurd h38_3 (by decide)
          · obtain ⟨hw, h38_0, h38_1⟩ := hw
            subst hw
            exact absurd h38_1 (by decide)
          · obtain ⟨hw, h38_0, h38_1⟩ := hw
            subst hw
            have l38k3_a2 : (0 : Int) ≤ a2.toInt := l8f_a2
            have u38k3_a2 : a2.toInt ≤ (0 : Int) := u8f_a2
            have hF0 := hF0.trans (if_neg (by decide))
            have hF0 := hF0.trans (if_neg (by decide))
            have hF0 := hF0.trans (if_neg (by decide))
            refine lv_icmp_lt (tgt := 48) hx hb dX7_isRest_41 (by decide) (fun c41 => absurd c41 (by decide +kernel)) (fun _ => ?_)
            refine lv_iconst (v := 1) hx hb dX7_isRest_44 zk_iconst_1 ?_
            refine lv_goto (tgt := 49) hx hb dX7_isRest_45 (by decide) ?_
            have hFe : FX = 1 := hF0
            exact W.zret (v := 1) hx hb hr rfl (fun t ht hW => ⟨⟨1, (), rfl, ⟨(Or.inl (rfl)), hFe.symm⟩, by rw [ht]; exact hP, va_K.moved hW.alike hK, hD⟩, hS.F ht⟩) hS.2.2 dX7_isRest_49
      · obtain ⟨hw, h25_0, h25_1, h25_2, h25_3⟩ := hw
        subst hw
        have l25k1_a2 : (0 : Int) ≤ a2.toInt := l8f_a2
        have u25k1_a2 : a2.toInt ≤ (0 : Int) := u8f_a2
        have l25k1_a3 : (0 : Int) ≤ a3.toInt := h25_2
        have u25k1_a3 : a3.toInt ≤ (0 : Int) := h25_3
        have hF0 := hF0.trans (if_neg (by decide))
        have hF0 := hF0.trans (if_pos (by decide))
        refine lv_iload_n hx hb dX7_isRest_28 rfl (lv_at hl 1 rfl) ?_
        refine lv_iload_n hx hb dX7_isRest_29 rfl (lv_at hl 2 rfl) ?_
        refine lv_if_ne (tgt := 37) hx hb dX7_isRest_30 (by decide) (fun c30 => ?_) (fun c30 => ?_)
        · have gc30 := ai_ne c30
          have l30t_a3 : (1 : Int) ≤ a3.toInt := (by have h1 := l25k1_a3; have h2 : (0 : Int32).toInt = 0 := (by decide); rw [h2] at gc30; omega)
          have u30t_a3 : a3.toInt ≤ (-1 : Int) := (by have h1 := u25k1_a3; have h2 : (0 : Int32).toInt = 0 := (by decide); rw [h2] at gc30; omega)
          exact absurd (Int.le_trans l30t_a3 u30t_a3) (by decide)
        · have gc30 := ai_eq c30
          have u30f_a3 : a3.toInt ≤ (0 : Int) := u25k1_a3
          have l30f_a3 : (0 : Int) ≤ a3.toInt := l25k1_a3
          have hF0 := hF0.trans (if_pos (show a3.toInt = 0 from gc30))
          refine lv_iconst (v := 1) hx hb dX7_isRest_33 zk_iconst_1 ?_
          refine lv_goto (tgt := 38) hx hb dX7_isRest_34 (by decide) ?_
          obtain ⟨hPc, hDc, hFc, hCc⟩ := zc_cut (wc := []) hP hD hS hA [] (by decide +kernel) rfl
          have hKc := hK.sub (tys' := []) [] rfl
          refine va_calli (va_runS (As := [.int a2, .int 1]) (rest := [.int 1]) ⟨hx, hb, hml, hown, hts⟩ (f_X7_attendantShare l dC dI H.size a2 1 ) (va_cwS 2 hts gX7_isRest_X7_attendantShare rfl rfl rfl zd_X7_attendantShare.2 ⟨Nat.le_of_ble_eq_true rfl, Nat.le_of_ble_eq_true rfl⟩) ⟨ax_blind (fun _ _ _ _ _ => trivial), ax_pre hPc hKc hDc (fun _ _ => trivial)⟩ rfl rfl hl.1 rfl (lv_room (Nat.le_of_ble_eq_true rfl)) dX7_isRest_38 ⟨Nat.le_of_ble_eq_true rfl, Nat.le_of_ble_eq_true rfl⟩) hS (fun q _ h => hFc q h) hFc (fun r38 u t H locs ht hvm hw hB hz1 hk1 hS => ?_)
          obtain ⟨hP1, hK1, hD1⟩ := hB
          rw [ht] at hP1
          obtain ⟨hP, hD⟩ := zc_back (w := []) hP hD hCc hk1 hFc hP1 hD1 [] (by decide +kernel) rfl
          obtain ⟨hw, hfr38⟩ := hw
          rw [show (1 : Int32).toInt = 1 from by decide] at hfr38
          have hc38 : Ff_X7_attendantShare a2.toInt 1 = r38.toInt := hfr38.symm
          have hF0 := hF0.trans (fl_lt_eq hc38.symm)
          rcases hw with hw | hw | hw | hw
          · subst hw
            have hF0 := hF0.trans (if_pos (by decide))
            refine lv_icmp_lt (tgt := 48) hx hb dX7_isRest_41 (by decide) (fun _ => ?_) (fun c41 => absurd (by decide +kernel) c41)
            refine lv_iconst (v := 0) hx hb dX7_isRest_48 zk_iconst_0 ?_
            have hFe : FX = 0 := hF0
            exact W.zret (v := 0) hx hb hr rfl (fun t ht hW => ⟨⟨0, (), rfl, ⟨(Or.inr (rfl)), hFe.symm⟩, by rw [ht]; exact hP, va_K.moved hW.alike hK, hD⟩, hS.F ht⟩) hS.2.2 dX7_isRest_49
          · obtain ⟨hw, h38_0, h38_1, h38_2, h38_3⟩ := hw
            subst hw
            have l38k1_a2 : (0 : Int) ≤ a2.toInt := l25k1_a2
            have u38k1_a2 : a2.toInt ≤ (0 : Int) := u25k1_a2
            exact absurd h38_3 (by decide)
          · obtain ⟨hw, h38_0, h38_1⟩ := hw
            subst hw
            exact absurd h38_1 (by decide)
          · obtain ⟨hw, h38_0, h38_1⟩ := hw
            subst hw
            have l38k3_a2 : (0 : Int) ≤ a2.toInt := l25k1_a2
            have u38k3_a2 : a2.toInt ≤ (0 : Int) := u25k1_a2
            have hF0 := hF0.trans (if_neg (by decide))
            have hF0 := hF0.trans (if_neg (by decide))
            have hF0 := hF0.trans (if_neg (by decide))
            refine lv_icmp_lt (tgt := 48) hx hb dX7_isRest_41 (by decide) (fun c41 => absurd c41 (by decide +kernel)) (fun _ => ?_)
            refine lv_iconst (v := 1) hx hb dX7_isRest_44 zk_iconst_1 ?_
            refine lv_goto (tgt := 49) hx hb dX7_isRest_45 (by decide) ?_
            have hFe : FX = 1 := hF0
            exact W.zret (v := 1) hx hb hr rfl (fun t ht hW => ⟨⟨1, (), rfl, ⟨(Or.inl (rfl)), hFe.symm⟩, by rw [ht]; exact hP, va_K.moved hW.alike hK, hD⟩, hS.F ht⟩) hS.2.2 dX7_isRest_49
      · obtain ⟨hw, h25_0, h25_1⟩ := hw
        subst hw
        have l25k2_a3 : (0 : Int) ≤ a3.toInt := h25_0
        have u25k2_a3 : a3.toInt ≤ (0 : Int) := h25_1
        have hF0 := hF0.trans (if_neg (by decide))
        have hF0 := hF0.trans (if_neg (by decide))
        have hF0 := hF0.trans (if_pos (by decide))
        refine lv_iload_n hx hb dX7_isRest_28 rfl (lv_at hl 1 rfl) ?_
        refine lv_iload_n hx hb dX7_isRest_29 rfl (lv_at hl 2 rfl) ?_
        refine lv_if_ne (tgt := 37) hx hb dX7_isRest_30 (by decide) (fun c30 => ?_) (fun c30 => ?_)
        · have gc30 := ai_ne c30
          have l30t_a3 : (1 : Int) ≤ a3.toInt := (by have h1 := l25k2_a3; have h2 : (0 : Int32).toInt = 0 := (by decide); rw [h2] at gc30; omega)
          have u30t_a3 : a3.toInt ≤ (-1 : Int) := (by have h1 := u25k2_a3; have h2 : (0 : Int32).toInt = 0 := (by decide); rw [h2] at gc30; omega)
          exact absurd (Int.le_trans l30t_a3 u30t_a3) (by decide)
        · have gc30 := ai_eq c30
          have u30f_a3 : a3.toInt ≤ (0 : Int) := u25k2_a3
          have l30f_a3 : (0 : Int) ≤ a3.toInt := l25k2_a3
          have hF0 := hF0.trans (if_pos (show a3.toInt = 0 from gc30))
          refine lv_iconst (v := 1) hx hb dX7_isRest_33 zk_iconst_1 ?_
          refine lv_goto (tgt := 38) hx hb dX7_isRest_34 (by decide) ?_
          obtain ⟨hPc, hDc, hFc, hCc⟩ := zc_cut (wc := []) hP hD hS hA [] (by decide +kernel) rfl
          have hKc := hK.sub (tys' := []) [] rfl
          refine va_calli (va_runS (As := [.int a2, .int 1]) (rest := [.int 0]) ⟨hx, hb, hml, hown, hts⟩ (f_X7_attendantShare l dC dI H.size a2 1 ) (va_cwS 2 hts gX7_isRest_X7_attendantShare rfl rfl rfl zd_X7_attendantShare.2 ⟨Nat.le_of_ble_eq_true rfl, Nat.le_of_ble_eq_true rfl⟩) ⟨ax_blind (fun _ _ _ _ _ => trivial), ax_pre hPc hKc hDc (fun _ _ => trivial)⟩ rfl rfl hl.1 rfl (lv_room (Nat.le_of_ble_eq_true rfl)) dX7_isRest_38 ⟨Nat.le_of_ble_eq_true rfl, Nat.le_of_ble_eq_true rfl⟩) hS (fun q _ h => hFc q h) hFc (fun r38 u t H locs ht hvm hw hB hz1 hk1 hS => ?_)
          obtain ⟨hP1, hK1, hD1⟩ := hB
          rw [ht] at hP1
          obtain ⟨hP, hD⟩ := zc_back (w := []) hP hD hCc hk1 hFc hP1 hD1 [] (by decide +kernel) rfl
          obtain ⟨hw, hfr38⟩ := hw
          rw [show (1 : Int32).toInt = 1 from by decide] at hfr38
          have hc38 : Ff_X7_attendantShare a2.toInt 1 = r38.toInt := hfr38.symm
          have hF0 := hF0.trans (fl_lt_eq hc38.symm)
          rcases hw with hw | hw | hw | hw
          · subst hw
            have hF0 := hF0.trans (if_pos (by decide))
            refine lv_icmp_lt (tgt := 48) hx hb dX7_isRest_41 (by decide) (fun _ => ?_) (fun c41 => absurd (by decide +kernel) c41)
            refine lv_iconst (v := 0) hx hb dX7_isRest_48 zk_iconst_0 ?_
            have hFe : FX = 0 := hF0
            exact W.zret (v := 0) hx hb hr rfl (fun t ht hW => ⟨⟨0, (), rfl, ⟨(Or.inr (rfl)), hFe.symm⟩, by rw [ht]; exact hP, va_K.moved hW.alike hK, hD⟩, hS.F ht⟩) hS.2.2 dX7_isRest_49
          · obtain ⟨hw, h38_0, h38_1, h38_2, h38_3⟩ := hw
            subst hw
            have l38k1_a2 : (0 : Int) ≤ a2.toInt := l8f_a2
            have u38k1_a2 : a2.toInt ≤ (0 : Int) := u8f_a2
            exact absurd h38_3 (by decide)
          · obtain ⟨hw, h38_0, h38_1⟩ := hw
            subst hw
            exact absurd h38_1 (by decide)
          · obtain ⟨hw, h38_0, h38_1⟩ := hw
            subst hw
            have l38k3_a2 : (0 : Int) ≤ a2.toInt := l8f_a2
            have u38k3_a2 : a2.toInt ≤ (0 : Int) := u8f_a2
            have hF0 := hF0.trans (if_neg (by decide))
            have hF0 := hF0.trans (if_neg (by decide))
            have hF0 := hF0.trans (if_neg (by decide))
            refine lv_icmp_lt (tgt := 48) hx hb dX7_isRest_41 (by decide) (fun c41 => absurd c41 (by decide +kernel)) (fun _ => ?_)
            refine lv_iconst (v := 1) hx hb dX7_isRest_44 zk_iconst_1 ?_
            refine lv_goto (tgt := 49) hx hb dX7_isRest_45 (by decide) ?_
            have hFe : FX = 1 := hF0
            exact W.zret (v := 1) hx hb hr rfl (fun t ht hW => ⟨⟨1, (), rfl, ⟨(Or.inl (rfl)), hFe.symm⟩, by rw [ht]; exact hP, va_K.moved hW.alike hK, hD⟩, hS.F ht⟩) hS.2.2 dX7_isRest_49
      · obtain ⟨hw, h25_0, h25_1⟩ := hw
        subst hw
        have l25k3_a2 : (0 : Int) ≤ a2.toInt := l8f_a2
        have u25k3_a2 : a2.toInt ≤ (0 : Int) := u8f_a2
        have hF0 := hF0.trans (if_neg (by decide))
        have hF0 := hF0.trans (if_neg (by decide))
        have hF0 := hF0.trans (if_neg (by decide))
        refine lv_iload_n hx hb dX7_isRest_28 rfl (lv_at hl 1 rfl) ?_
        refine lv_iload_n hx hb dX7_isRest_29 rfl (lv_at hl 2 rfl) ?_
        refine lv_if_ne (tgt := 37) hx hb dX7_isRest_30 (by decide) (fun c30 => ?_) (fun c30 => ?_)
        · have gc30 := ai_ne c30
          have hF0 := hF0.trans (if_neg (show ¬ (a3.toInt = 0) from  gc30))
          refine lv_iconst (v := 0) hx hb dX7_isRest_37 zk_iconst_0 ?_
          obtain ⟨hPc, hDc, hFc, hCc⟩ := zc_cut (wc := []) hP hD hS hA [] (by decide +kernel) rfl
          have hKc := hK.sub (tys' := []) [] rfl
          refine va_calli (va_runS (As := [.int a2, .int 0]) (rest := [.int (-1)]) ⟨hx, hb, hml, hown, hts⟩ (f_X7_attendantShare l dC dI H.size a2 0 ) (va_cwS 2 hts gX7_isRest_X7_attendantShare rfl rfl rfl zd_X7_attendantShare.2 ⟨Nat.le_of_ble_eq_true rfl, Nat.le_of_ble_eq_true rfl⟩) ⟨ax_blind (fun _ _ _ _ _ => trivial), ax_pre hPc hKc hDc (fun _ _ => trivial)⟩ rfl rfl hl.1 rfl (lv_room (Nat.le_of_ble_eq_true rfl)) dX7_isRest_38 ⟨Nat.le_of_ble_eq_true rfl, Nat.le_of_ble_eq_true rfl⟩) hS (fun q _ h => hFc q h) hFc (fun r38 u t H locs ht hvm hw hB hz1 hk1 hS => ?_)
          obtain ⟨hP1, hK1, hD1⟩ := hB
          rw [ht] at hP1
          obtain ⟨hP, hD⟩ := zc_back (w := []) hP hD hCc hk1 hFc hP1 hD1 [] (by decide +kernel) rfl
          obtain ⟨hw, hfr38⟩ := hw
          rw [show (0 : Int32).toInt = 0 from by decide] at hfr38
          have hc38 : Ff_X7_attendantShare a2.toInt 0 = r38.toInt := hfr38.symm
          have hF0 := hF0.trans (fl_lt_eq hc38.symm)
          rcases hw with hw | hw | hw | hw
          · subst hw
            have hF0 := hF0.trans (if_pos (by decide))
            refine lv_icmp_lt (tgt := 48) hx hb dX7_isRest_41 (by decide) (fun _ => ?_) (fun c41 => absurd (by decide +kernel) c41)
            refine lv_iconst (v := 0) hx hb dX7_isRest_48 zk_iconst_0 ?_
            have hFe : FX = 0 := hF0
            exact W.zret (v := 0) hx hb hr rfl (fun t ht hW => ⟨⟨0, (), rfl, ⟨(Or.inr (rfl)), hFe.symm⟩, by rw [ht]; exact hP, va_K.moved hW.alike hK, hD⟩, hS.F ht⟩) hS.2.2 dX7_isRest_49
          · obtain ⟨hw, h38_0, h38_1, h38_2, h38_3⟩ := hw
            subst hw
            have l38k1_a2 : (0 : Int) ≤ a2.toInt := l25k3_a2
            have u38k1_a2 : a2.toInt ≤ (0 : Int) := u25k3_a2
            have hF0 := hF0.trans (if_neg (by decide))
            have hF0 := hF0.trans (if_pos (by decide))
            refine lv_icmp_lt (tgt := 48) hx hb dX7_isRest_41 (by decide) (fun _ => ?_) (fun c41 => absurd (by decide +kernel) c41)
            refine lv_iconst (v := 0) hx hb dX7_isRest_48 zk_iconst_0 ?_
            have hFe : FX = 0 := hF0
            exact W.zret (v := 0) hx hb hr rfl (fun t ht hW => ⟨⟨0, (), rfl, ⟨(Or.inr (rfl)), hFe.symm⟩, by rw [ht]; exact hP, va_K.moved hW.alike hK, hD⟩, hS.F ht⟩) hS.2.2 dX7_isRest_49
          · obtain ⟨hw, h38_0, h38_1⟩ := hw
            subst hw
            have hF0 := hF0.trans (if_neg (by decide))
            have hF0 := hF0.trans (if_neg (by decide))
            have hF0 := hF0.trans (if_pos (by decide))
            refine lv_icmp_lt (tgt := 48) hx hb dX7_isRest_41 (by decide) (fun _ => ?_) (fun c41 => absurd (by decide +kernel) c41)
            refine lv_iconst (v := 0) hx hb dX7_isRest_48 zk_iconst_0 ?_
            have hFe : FX = 0 := hF0
            exact W.zret (v := 0) hx hb hr rfl (fun t ht hW => ⟨⟨0, (), rfl, ⟨(Or.inr (rfl)), hFe.symm⟩, by rw [ht]; exact hP, va_K.moved hW.alike hK, hD⟩, hS.F ht⟩) hS.2.2 dX7_isRest_49
          · obtain ⟨hw, h38_0, h38_1⟩ := hw
            subst hw
            have l38k3_a2 : (0 : Int) ≤ a2.toInt := l25k3_a2
            have u38k3_a2 : a2.toInt ≤ (0 : Int) := u25k3_a2
            have hF0 := hF0.trans (if_neg (by decide))
            have hF0 := hF0.trans (if_neg (by decide))
            have hF0 := hF0.trans (if_neg (by decide))
            refine lv_icmp_lt (tgt := 48) hx hb dX7_isRest_41 (by decide) (fun c41 => absurd c41 (by decide +kernel)) (fun _ => ?_)
            refine lv_iconst (v := 1) hx hb dX7_isRest_44 zk_iconst_1 ?_
            refine lv_goto (tgt := 49) hx hb dX7_isRest_45 (by decide) ?_
            have hFe : FX = 1 := hF0
            exact W.zret (v := 1) hx hb hr rfl (fun t ht hW => ⟨⟨1, (), rfl, ⟨(Or.inl (rfl)), hFe.symm⟩, by rw [ht]; exact hP, va_K.moved hW.alike hK, hD⟩, hS.F ht⟩) hS.2.2 dX7_isRest_49
        · have gc30 := ai_eq c30
          have u30f_a3 : a3.toInt ≤ (0 : Int) := Int.le_trans (Int.le_of_eq gc30) zq6
          have l30f_a3 : (0 : Int) ≤ a3.toInt := Int.le_trans zq5 (Int.le_of_eq gc30.symm)
          have hF0 := hF0.trans (if_pos (show a3.toInt = 0 from gc30))
          refine lv_iconst (v := 1) hx hb dX7_isRest_33 zk_iconst_1 ?_
          refine lv_goto (tgt := 38) hx hb dX7_isRest_34 (by decide) ?_
          obtain ⟨hPc, hDc, hFc, hCc⟩ := zc_cut (wc := []) hP hD hS hA [] (by decide +kernel) rfl
          have hKc := hK.sub (tys' := []) [] rfl
          refine va_calli (va_runS (As := [.int a2, .int 1]) (rest := [.int (-1)]) ⟨hx, hb, hml, hown, hts⟩ (f_X7_attendantShare l dC dI H.size a2 1 ) (va_cwS 2 hts gX7_isRest_X7_attendantShare rfl rfl rfl zd_X7_attendantShare.2 ⟨Nat.le_of_ble_eq_true rfl, Nat.le_of_ble_eq_true rfl⟩) ⟨ax_blind (fun _ _ _ _ _ => trivial), ax_pre hPc hKc hDc (fun _ _ => trivial)⟩ rfl rfl hl.1 rfl (lv_room (Nat.le_of_ble_eq_true rfl)) dX7_isRest_38 ⟨Nat.le_of_ble_eq_true rfl, Nat.le_of_ble_eq_true rfl⟩) hS (fun q _ h => hFc q h) hFc (fun r38 u t H locs ht hvm hw hB hz1 hk1 hS => ?_)
          obtain ⟨hP1, hK1, hD1⟩ := hB
          rw [ht] at hP1
          obtain ⟨hP, hD⟩ := zc_back (w := []) hP hD hCc hk1 hFc hP1 hD1 [] (by decide +kernel) rfl
          obtain ⟨hw, hfr38⟩ := hw
          rw [show (1 : Int32).toInt = 1 from by decide] at hfr38
          have hc38 : Ff_X7_attendantShare a2.toInt 1 = r38.toInt := hfr38.symm
          have hF0 := hF0.trans (fl_lt_eq hc38.symm)
          rcases hw with hw | hw | hw | hw
          · subst hw
            have hF0 := hF0.trans (if_pos (by decide))
            refine lv_icmp_lt (tgt := 48) hx hb dX7_isRest_41 (by decide) (fun _ => ?_) (fun c41 => absurd (by decide +kernel) c41)
            refine lv_iconst (v := 0) hx hb dX7_isRest_48 zk_iconst_0 ?_
            have hFe : FX = 0 := hF0
            exact W.zret (v := 0) hx hb hr rfl (fun t ht hW => ⟨⟨0, (), rfl, ⟨(Or.inr (rfl)), hFe.symm⟩, by rw [ht]; exact hP, va_K.moved hW.alike hK, hD⟩, hS.F ht⟩) hS.2.2 dX7_isRest_49
          · obtain ⟨hw, h38_0, h38_1, h38_2, h38_3⟩ := hw
            subst hw
            have l38k1_a2 : (0 : Int) ≤ a2.toInt := l25k3_a2
            have u38k1_a2 : a2.toInt ≤ (0 : Int) := u25k3_a2
            exact absurd h38_3 (by decide)
          · obtain ⟨hw, h38_0, h38_1⟩ := hw
            subst hw
            exact absurd h38_1 (by decide)
          · obtain ⟨hw, h38_0, h38_1⟩ := hw
            subst hw
            have l38k3_a2 : (0 : Int) ≤ a2.toInt := l25k3_a2
            have u38k3_a2 : a2.toInt ≤ (0 : Int) := u25k3_a2
            have hF0 := hF0.trans (if_neg (by decide))
            have hF0 := hF0.trans (if_neg (by decide))
            have hF0 := hF0.trans (if_neg (by decide))
            refine lv_icmp_lt (tgt := 48) hx hb dX7_isRest_41 (by decide) (fun c41 => absurd c41 (by decide +kernel)) (fun _ => ?_)
            refine lv_iconst (v := 1) hx hb dX7_isRest_44 zk_iconst_1 ?_
            refine lv_goto (tgt := 49) hx hb dX7_isRest_45 (by decide) ?_
            have hFe : FX = 1 := hF0
            exact W.zret (v := 1) hx hb hr rfl (fun t ht hW => ⟨⟨1, (), rfl, ⟨(Or.inl (rfl)), hFe.symm⟩, by rw [ht]; exact hP, va_K.moved hW.alike hK, hD⟩, hS.F ht⟩) hS.2.2 dX7_isRest_49

set_option maxHeartbeats 4000000 in
set_option maxRecDepth 100000 in
theorem f_X7_rests (l : Launch) (dC : Nat → ClassId) (dI : Nat → Nat → Nat) (sz : Nat) (a0 : Nat) (a1 : Int32) (a0g_0 a0g_1 a0g_2 a0g_3 a0g_4 a0g_5 a0g_6 a0g_9 a0g_10 : Value) (a0_7 : Nat) (a0_8 : Int32) (a0_7_0 : Int32) (a0_7g_1 a0_7g_2 a0_7g_3 a0_7g_4 a0_7g_5 a0_7g_6 a0_7g_7 a0_7g_8 a0_7g_9 a0_7g_10 a0_7g_11 a0_7g_12 a0_7g_13 a0_7g_14 : Value) (ba0_7_0_l : (0 : Int) ≤ a0_7_0.toInt) (ba0_7_0_u : a0_7_0.toInt ≤ (9 : Int)) : Met l yX7_rests wsX7_rests ({ frames := 2, cells := 0, slots := 0, locals := 45 }) (va_Pc [.ref a0, .int a1] (ax_C dC dI sz [(a0, .inr (7, [a0g_0, a0g_1, a0g_2, a0g_3, a0g_4, a0g_5, a0g_6, .ref a0_7, .int a0_8, a0g_9, a0g_10])), (a0_7, .inr (0, [.int a0_7_0, a0_7g_1, a0_7g_2, a0_7g_3, a0_7g_4, a0_7g_5, a0_7g_6, a0_7g_7, a0_7g_8, a0_7g_9, a0_7g_10, a0_7g_11, a0_7g_12, a0_7g_13, a0_7g_14]))] [] (fun _ => True))) (va_Qi (fun (r : Int32) (_ : Unit) => (True) ∧ r.toInt = (Ff_X7_rests a1.toInt a0_7_0.toInt).1) (fun (_ : Unit) (t : State) => ∃ na0_8 : Int32, ((Ff_X7_rests a1.toInt a0_7_0.toInt).2 = na0_8.toInt) ∧ ax_B dC dI (va_A [(a0, .inr (7, [a0g_0, a0g_1, a0g_2, a0g_3, a0g_4, a0g_5, a0g_6, .ref a0_7, .int a0_8, a0g_9, a0g_10])), (a0_7, .inr (0, [.int a0_7_0, a0_7g_1, a0_7g_2, a0_7g_3, a0_7g_4, a0_7g_5, a0_7g_6, a0_7g_7, a0_7g_8, a0_7g_9, a0_7g_10, a0_7g_11, a0_7g_12, a0_7g_13, a0_7g_14]))] sz) [(a0, .inr (7, [a0g_0, a0g_1, a0g_2, a0g_3, a0g_4, a0g_5, a0g_6, .ref a0_7, .int na0_8, a0g_9, a0g_10])), (a0_7, .inr (0, [.int a0_7_0, a0_7g_1, a0_7g_2, a0_7g_3, a0_7g_4, a0_7g_5, a0_7g_6, a0_7g_7, a0_7g_8, a0_7g_9, a0_7g_10, a0_7g_11, a0_7g_12, a0_7g_13, a0_7g_14]))] [] t) (va_A [(a0, .inr (7, [a0g_0, a0g_1, a0g_2, a0g_3, a0g_4, a0g_5, a0g_6, .ref a0_7, .int a0_8, a0g_9, a0g_10])), (a0_7, .inr (0, [.int a0_7_0, a0_7g_1, a0_7g_2, a0_7g_3, a0_7g_4, a0_7g_5, a0_7g_6, a0_7g_7, a0_7g_8, a0_7g_9, a0_7g_10, a0_7g_11, a0_7g_12, a0_7g_13, a0_7g_14]))] sz)) 0 0 (va_A [(a0, .inr (7, [a0g_0, a0g_1, a0g_2, a0g_3, a0g_4, a0g_5, a0g_6, .ref a0_7, .int a0_8, a0g_9, a0g_10])), (a0_7, .inr (0, [.int a0_7_0, a0_7g_1, a0_7g_2, a0_7g_3, a0_7g_4, a0_7g_5, a0_7g_6, a0_7g_7, a0_7g_8, a0_7g_9, a0_7g_10, a0_7g_11, a0_7g_12, a0_7g_13, a0_7g_14]))] sz) := by
  refine Met.ofW (cc := cX7_rests) (maxL := 5) (ret := (some .int)) (by decide) rfl ?_
  intro p e s m args below meth c s₁ B hml hv
  obtain ⟨rfl, hsz, hP, hK, hD0, hE⟩ := hv
  have hx := B.exec
  have hb := B.bytes
  have hr := B.returns
  have hts := atoms_spec (ws := wsX7_rests) B.pre
  have hown : s.vm.findClass RX7 = some m.cls := findClass_of_methodNamed B.named
  have hlocks := B.notSynchronized
  subst hsz
  have hD := hD0.self (sz := s.heap.size)
  generalize hAe : va_A [(a0, .inr (7, [a0g_0, a0g_1, a0g_2, a0g_3, a0g_4, a0g_5, a0g_6, .ref a0_7, .int a0_8, a0g_9, a0g_10])), (a0_7, .inr (0, [.int a0_7_0, a0_7g_1, a0_7g_2, a0_7g_3, a0_7g_4, a0_7g_5, a0_7g_6, a0_7g_7, a0_7g_8, a0_7g_9, a0_7g_10, a0_7g_11, a0_7g_12, a0_7g_13, a0_7g_14]))] s.heap.size = A at hD ⊢
  have hA : ∀ q : Nat, s.heap.size ≤ q → A q := fun q h => by rw [← hAe]; exact Or.inr h
  have hS : va_S A s.heap s.heap [] := va_S.rf
  have hP : va_P (dC, dI) vwCl [(a0, .inr (7, [a0g_0, a0g_1, a0g_2, a0g_3, a0g_4, a0g_5, a0g_6, .ref a0_7, .int a0_8, a0g_9, a0g_10])), (a0_7, .inr (0, [.int a0_7_0, a0_7g_1, a0_7g_2, a0_7g_3, a0_7g_4, a0_7g_5, a0_7g_6, a0_7g_7, a0_7g_8, a0_7g_9, a0_7g_10, a0_7g_11, a0_7g_12, a0_7g_13, a0_7g_14]))] s.heap := hP
  have hl := lv_entry ([.ref a0, .int a1]) (n := 5) (Nat.le_of_ble_eq_true rfl)
  rw [lg_entry_eq]
  generalize (lg_sl ([.ref a0, .int a1]) ++ List.replicate (5 - (lg_sl ([.ref a0, .int a1])).length) Slot.unset).toArray = ls at hl ⊢
  have hl : lv_has ls 5 [(0, .ref a0), (1, .int a1)] := hl
  generalize hFX : Ff_X7_rests a1.toInt a0_7_0.toInt = FX at ⊢
  have hF0 := hFX.symm.trans (Ff_X7_rests.eq_1 a1.toInt a0_7_0.toInt)
  refine ai_open (fun K hK0 => ?_)
  refine (hK0 _ _ _).mpr ?_
  refine lv_aload_n hx hb dX7_rests_0 rfl (lv_at hl 0 rfl) ?_
  refine lv_iload_n hx hb dX7_rests_1 rfl (lv_at hl 1 rfl) ?_
  refine lv_iconst (v := 0) hx hb dX7_rests_2 zk_iconst_0 ?_
  refine lv_bipush (v := 9) hx hb dX7_rests_3 zk_bipush_9 ?_
  obtain ⟨hPc, hDc, hFc, hCc⟩ := zc_cut (wc := [(a0, .inr (7, [a0g_0, a0g_1, a0g_2, a0g_3, a0g_4, a0g_5, a0g_6, .ref a0_7, .int a0_8, a0g_9, a0g_10])), (a0_7, .inr (0, [.int a0_7_0, a0_7g_1, a0_7g_2, a0_7g_3, a0_7g_4, a0_7g_5, a0_7g_6, a0_7g_7, a0_7g_8, a0_7g_9, a0_7g_10, a0_7g_11, a0_7g_12, a0_7g_13, a0_7g_14]))]) hP hD hS hA [0, 1] (by decide +kernel) rfl
  have hKc := hK.sub (tys' := []) [] rfl
  refine va_calli (va_runV (As := [.int a1, .int 0, .int 9]) (rest := []) ⟨hx, hb, hml, hown, hts⟩ (f_X7_troubleOfNumber l dC dI s.heap.size a0 a1 0 9 a0g_0 a0g_1 a0g_2 a0g_3 a0g_4 a0g_5 a0g_6 (.int a0_8) a0g_9 a0g_10 a0_7 a0_7_0 a0_7g_1 a0_7g_2 a0_7g_3 a0_7g_4 a0_7g_5 a0_7g_6 a0_7g_7 a0_7g_8 a0_7g_9 a0_7g_10 a0_7g_11 a0_7g_12 a0_7g_13 a0_7g_14 ba0_7_0_l ba0_7_0_u) (cwV 3 hts gX7_rests_X7_troubleOfNumber rfl rfl rfl zd_X7_troubleOfNumber ⟨Nat.le_of_ble_eq_true rfl, Nat.le_of_ble_eq_true rfl⟩) ⟨ax_blind (fun _ _ _ _ _ => trivial), zr_7 hKc hPc (q0 := 0) rfl, ax_pre hPc hKc hDc (fun _ _ => trivial)⟩ rfl rfl hl.1 rfl (lv_room (Nat.le_of_ble_eq_true rfl)) dX7_rests_5 ⟨Nat.le_of_ble_eq_true rfl, Nat.le_of_ble_eq_true rfl⟩) hS (fun q _ h => hFc q h) hFc (fun r5 u t H locs ht hvm hw hB hz1 hk1 hS => ?_)
  obtain ⟨hP1, hK1, hD1⟩ := hB
  rw [ht] at hP1
  obtain ⟨hP, hD⟩ := zc_back (w := [(a0, .inr (7, [a0g_0, a0g_1, a0g_2, a0g_3, a0g_4, a0g_5, a0g_6, .ref a0_7, .int a0_8, a0g_9, a0g_10])), (a0_7, .inr (0, [.int a0_7_0, a0_7g_1, a0_7g_2, a0_7g_3, a0_7g_4, a0_7g_5, a0_7g_6, a0_7g_7, a0_7g_8, a0_7g_9, a0_7g_10, a0_7g_11, a0_7g_12, a0_7g_13, a0_7g_14]))]) hP hD hCc hk1 hFc hP1 hD1 [.inr 0, .inr 1] (by decide +kernel) rfl
  obtain ⟨hw, hfr5⟩ := hw
  rw [show (0 : Int32).toInt = 0 from by decide, show (9 : Int32).toInt = 9 from by decide] at hfr5
  have hc5 : Ff_X7_troubleOfNumber a1.toInt 0 9 a0_7_0.toInt = r5.toInt := hfr5.symm
  have hF0 := hF0.trans (fl_lt_eq hc5.symm)
  rcases hw with hw | hw | hw
  · obtain ⟨hw, fh5, h5⟩ := hw
    subst hw
    have l5k0_a0_7_0 : (1 : Int) ≤ a0_7_0.toInt := fh5
    have l5k0_a1 : (0 : Int) ≤ a1.toInt := Int.le_trans zq5 h5.1
    have u5k0_a1 : a1.toInt ≤ (9 : Int) := Int.le_trans h5.2 zq3
    have hF0 := hF0.trans (if_pos (by decide))
    refine lv_istore_n (lv' := [(2, .int 0), (0, .ref a0), (1, .int a1)]) hx hb dX7_rests_8 rfl hl (by decide) rfl (fun ls hl => ?_)
    refine lv_iload_n hx hb dX7_rests_9 rfl (lv_at hl 0 rfl) ?_
    refine lv_if_eq (tgt := 19) hx hb dX7_rests_10 (by decide) (fun _ => ?_) (fun c10 => absurd (by decide +kernel) c10)
    refine lv_iconst (v := 0) hx hb dX7_rests_19 zk_iconst_0 ?_
    refine lv_istore_n (lv' := [(3, .int 0), (2, .int 0), (0, .ref a0), (1, .int a1)]) hx hb dX7_rests_20 rfl hl (by decide) rfl (fun ls hl => ?_)
    refine lv_iconst (v := 0) hx hb dX7_rests_21 zk_iconst_0 ?_
    refine lv_istore (lv' := [(4, .int 0), (3, .int 0), (2, .int 0), (0, .ref a0), (1, .int a1)]) hx hb dX7_rests_22 hl (by decide) rfl (fun ls hl => ?_)
    have J24 : ∀ (n : Nat) (j24l4 : Int32) (j24l3 : Int32) (H : Heap) (locs : List Loc) (ls : Array Slot), (5 : Int) - j24l4.toInt ≤ (n : Int) → (0 : Int) ≤ j24l4.toInt → j24l4.toInt ≤ (4 : Int) → (FX = fl_wh (fun t9 => Sf_X7_rests_24_1 a1.toInt t9.1 t9.2) (0, 0) n (j24l4.toInt, j24l3.toInt)) → va_P (dC, dI) vwCl [(a0, .inr (7, [a0g_0, a0g_1, a0g_2, a0g_3, a0g_4, a0g_5, a0g_6, .ref a0_7, .int a0_8, a0g_9, a0g_10])), (a0_7, .inr (0, [.int a0_7_0, a0_7g_1, a0_7g_2, a0_7g_3, a0_7g_4, a0_7g_5, a0_7g_6, a0_7g_7, a0_7g_8, a0_7g_9, a0_7g_10, a0_7g_11, a0_7g_12, a0_7g_13, a0_7g_14]))] H → va_D A [(a0, .inr (7, [a0g_0, a0g_1, a0g_2, a0g_3, a0g_4, a0g_5, a0g_6, .ref a0_7, .int a0_8, a0g_9, a0g_10])), (a0_7, .inr (0, [.int a0_7_0, a0_7g_1, a0_7g_2, a0_7g_3, a0_7g_4, a0_7g_5, a0_7g_6, a0_7g_7, a0_7g_8, a0_7g_9, a0_7g_10, a0_7g_11, a0_7g_12, a0_7g_13, a0_7g_14]))] → va_S A s.heap H locs → lv_has ls 5 [(0, .ref a0), (1, .int a1), (3, .int j24l3), (4, .int j24l4)] → K H locs (F0 m 24 ls []) := by
      intro n
      induction n with
      | zero =>
        intro j24l4 j24l3 H locs ls hm bj24l4_l bj24l4_u hF0 hP hD hS hl
        have h8 := ai_min j24l4
        have h9 := ai_max j24l4
        exact absurd hm (by omega)
      | succ n ih24 =>
        intro j24l4 j24l3 H locs ls hm bj24l4_l bj24l4_u hF0 hP hD hS hl
        refine (hK0 _ _ _).mpr ?_
        have hm24 := hm
        obtain ⟨SX24, hSX24⟩ : ∃ q9, Sf_X7_rests_24_1 a1.toInt j24l4.toInt j24l3.toInt = q9 := ⟨_, rfl⟩
        have hF1 := hSX24.symm.trans (Sf_X7_rests_24_1.eq_1 a1.toInt j24l4.toInt j24l3.toInt)
        refine lv_iload hx hb dX7_rests_24 (lv_at hl 3 rfl) ?_
        refine lv_iconst (v := 4) hx hb dX7_rests_26 zk_iconst_4 ?_
        refine lv_icmp_ge (tgt := 70) hx hb dX7_rests_27 (by decide) (fun c27 => ?_) (fun c27 => ?_)
        · have gc27 := ai_le c27
          have l27t_j24l4 : (4 : Int) ≤ j24l4.toInt := Int.le_trans zq68 gc27
          have hF1 := hF1.trans (if_pos (show 4 ≤ j24l4.toInt from gc27))
          have hF0 := hF0.trans (fl_wh_r (hSX24.trans hF1))
          refine lv_aload_n hx hb dX7_rests_70 rfl (lv_at hl 0 rfl) ?_
          refine lv_iload_n hx hb dX7_rests_71 rfl (lv_at hl 2 rfl) ?_
          obtain ⟨hPc, hDc, hFc, hCc⟩ := zc_cut (wc := [(a0, .inr (7, [a0g_0, a0g_1, a0g_2, a0g_3, a0g_4, a0g_5, a0g_6, .ref a0_7, .int a0_8, a0g_9, a0g_10]))]) hP hD hS hA [0] (by decide +kernel) rfl
          have hKc := hK.sub (tys' := []) [] rfl
          refine va_calli (va_runV (As := [.int j24l3]) (rest := []) ⟨hx, hb, hml, hown, hts⟩ (f_X7_answered l dC dI H.size a0 j24l3 a0g_0 a0g_1 a0g_2 a0g_3 a0g_4 a0g_5 a0g_6 (.ref a0_7) a0g_9 a0g_10 a0_8 ) (cwV 1 hts gX7_rests_X7_answered rfl rfl rfl zd_X7_answered ⟨Nat.le_of_ble_eq_true rfl, Nat.le_of_ble_eq_true rfl⟩) ⟨ax_blind (fun _ _ _ _ _ => trivial), zr_7 hKc hPc (q0 := 0) rfl, ax_pre hPc hKc hDc (fun _ _ => trivial)⟩ rfl rfl hl.1 rfl (lv_room (Nat.le_of_ble_eq_true rfl)) dX7_rests_72 ⟨Nat.le_of_ble_eq_true rfl, Nat.le_of_ble_eq_true rfl⟩) hS (fun q _ h => hFc q h) hFc (fun r72 u t H locs ht hvm hw hB hz1 hk1 hS => ?_)
          obtain ⟨v72na0_8, hraw72_0, hP1, hK1, hD1⟩ := hB
          rw [ht] at hP1
          obtain ⟨hP, hD⟩ := zc_back (w := [(a0, .inr (7, [a0g_0, a0g_1, a0g_2, a0g_3, a0g_4, a0g_5, a0g_6, .ref a0_7, .int v72na0_8, a0g_9, a0g_10])), (a0_7, .inr (0, [.int a0_7_0, a0_7g_1, a0_7g_2, a0_7g_3, a0_7g_4, a0_7g_5, a0_7g_6, a0_7g_7, a0_7g_8, a0_7g_9, a0_7g_10, a0_7g_11, a0_7g_12, a0_7g_13, a0_7g_14]))]) hP hD hCc hk1 hFc hP1 hD1 [.inr 0, .inl 1] (by decide +kernel) rfl
          obtain ⟨hw, hfr72⟩ := hw
          have hc72 : Ff_X7_answered j24l3.toInt = (r72.toInt, v72na0_8.toInt) := Prod.ext hfr72.symm hraw72_0
          have hF0 := hF0.trans (fl_c2_eq hc72)
          have hw : r72 = j24l3 := hw
          have hw := hw.symm
          subst hw
          have hFe : FX = (j24l3.toInt, v72na0_8.toInt) := hF0
          exact W.iret (v := j24l3) hx hb hr (fun t ht hW => ⟨⟨j24l3, (), rfl, ⟨trivial, (congrArg Prod.fst hFe).symm⟩, v72na0_8, (congrArg Prod.snd hFe), by rw [ht]; exact hP, va_K.moved hW.alike hK, hD⟩, hS.F ht⟩) hS.2.2 dX7_rests_75
        · have gc27 := ai_nle c27
          have u27f_j24l4 : j24l4.toInt ≤ (3 : Int) := ai_lthi gc27 zq67
          have hF1 := hF1.trans (if_neg (show ¬ (4 ≤ j24l4.toInt) from Int.not_le.mpr gc27))
          refine lv_iload_n hx hb dX7_rests_30 rfl (lv_at hl 1 rfl) ?_
          refine lv_iload hx hb dX7_rests_31 (lv_at hl 3 rfl) ?_
          refine lv_iconst (v := 2) hx hb dX7_rests_33 zk_iconst_2 ?_
          have J42 : ∀ (j42s0 : Int32) (H : Heap) (locs : List Loc) (ls : Array Slot), (0 : Int) ≤ j42s0.toInt → j42s0.toInt ≤ (1 : Int) → (SX24 = Gf_X7_rests_42_1 a1.toInt j24l4.toInt j24l3.toInt j42s0.toInt) → va_P (dC, dI) vwCl [(a0, .inr (7, [a0g_0, a0g_1, a0g_2, a0g_3, a0g_4, a0g_5, a0g_6, .ref a0_7, .int a0_8, a0g_9, a0g_10])), (a0_7, .inr (0, [.int a0_7_0, a0_7g_1, a0_7g_2, a0_7g_3, a0_7g_4, a0_7g_5, a0_7g_6, a0_7g_7, a0_7g_8, a0_7g_9, a0_7g_10, a0_7g_11, a0_7g_12, a0_7g_13, a0_7g_14]))] H → va_D A [(a0, .inr (7, [a0g_0, a0g_1, a0g_2, a0g_3, a0g_4, a0g_5, a0g_6, .ref a0_7, .int a0_8, a0g_9, a0g_10])), (a0_7, .inr (0, [.int a0_7_0, a0_7g_1, a0_7g_2, a0_7g_3, a0_7g_4, a0_7g_5, a0_7g_6, a0_7g_7, a0_7g_8, a0_7g_9, a0_7g_10, a0_7g_11, a0_7g_12, a0_7g_13, a0_7g_14]))] → va_S A s.heap H locs → lv_has ls 5 [(0, .ref a0), (1, .int a1), (3, .int j24l3), (4, .int j24l4)] → K H locs (F0 m 42 ls [.int j42s0, .int a1]) := by
            intro j42s0 H locs ls  bj42s0_l bj42s0_u hF1 hP hD hS hl
            refine (hK0 _ _ _).mpr ?_
            have hF1 := hF1.trans (Gf_X7_rests_42_1.eq_1 a1.toInt j24l4.toInt j24l3.toInt j42s0.toInt)
            refine lv_iload hx hb dX7_rests_42 (lv_at hl 3 rfl) ?_
            refine lv_iconst (v := 2) hx hb dX7_rests_44 zk_iconst_2 ?_
            refine lv_irem hx hb dX7_rests_45 (by decide +kernel) ?_
            refine lv_topi (fun x45 ex45 => ?_)
            have qx45 := ai_rem2 ex45 bj24l4_l (Int.lt_of_lt_of_le zq100 zq12) zq13
            have wx45 : x45.toInt = j24l4.toInt % 2 := qx45.1
            have hF1 := hF1.trans (fl_lt_eq (show x45.toInt = j24l4.toInt % 2 from qx45.1))
            refine lv_iconst (v := 1) hx hb dX7_rests_46 zk_iconst_1 ?_
            have J55 : ∀ (j55s0 : Int32) (H : Heap) (locs : List Loc) (ls : Array Slot), (0 : Int) ≤ j55s0.toInt → j55s0.toInt ≤ (1 : Int) → (SX24 = Gf_X7_rests_55_1 a1.toInt j24l4.toInt j24l3.toInt j42s0.toInt j55s0.toInt) → va_P (dC, dI) vwCl [(a0, .inr (7, [a0g_0, a0g_1, a0g_2, a0g_3, a0g_4, a0g_5, a0g_6, .ref a0_7, .int a0_8, a0g_9, a0g_10])), (a0_7, .inr (0, [.int a0_7_0, a0_7g_1, a0_7g_2, a0_7g_3, a0_7g_4, a0_7g_5, a0_7g_6, a0_7g_7, a0_7g_8, a0_7g_9, a0_7g_10, a0_7g_11, a0_7g_12, a0_7g_13, a0_7g_14]))] H → va_D A [(a0, .inr (7, [a0g_0, a0g_1, a0g_2, a0g_3, a0g_4, a0g_5, a0g_6, .ref a0_7, .int a0_8, a0g_9, a0g_10])), (a0_7, .inr (0, [.int a0_7_0, a0_7g_1, a0_7g_2, a0_7g_3, a0_7g_4, a0_7g_5, a0_7g_6, a0_7g_7, a0_7g_8, a0_7g_9, a0_7g_10, a0_7g_11, a0_7g_12, a0_7g_13, a0_7g_14]))] → va_S A s.heap H locs → lv_has ls 5 [(0, .ref a0), (1, .int a1), (3, .int j24l3), (4, .int j24l4)] → K H locs (F0 m 55 ls [.int j55s0, .int j42s0, .int a1]) := by
              intro j55s0 H locs ls  bj55s0_l bj55s0_u hF1 hP hD hS hl
              refine (hK0 _ _ _).mpr ?_
              have hF1 := hF1.trans (Gf_X7_rests_55_1.eq_1 a1.toInt j24l4.toInt j24l3.toInt j42s0.toInt j55s0.toInt)
              obtain ⟨hPc, hDc, hFc, hCc⟩ := zc_cut (wc := []) hP hD hS hA [] (by decide +kernel) rfl
              have hKc := hK.sub (tys' := []) [] rfl
              refine va_calli (va_runS (As := [.int a1, .int j42s0, .int j55s0]) (rest := []) ⟨hx, hb, hml, hown, hts⟩ (f_X7_isRest l dC dI H.size a1 j42s0 j55s0 ) (va_cwS 3 hts gX7_rests_X7_isRest rfl rfl rfl zd_X7_isRest.2 ⟨Nat.le_of_ble_eq_true rfl, Nat.le_of_ble_eq_true rfl⟩) ⟨ax_blind (fun _ _ _ _ _ => trivial), ax_pre hPc hKc hDc (fun _ _ => trivial)⟩ rfl rfl hl.1 rfl (lv_room (Nat.le_of_ble_eq_true rfl)) dX7_rests_55 ⟨Nat.le_of_ble_eq_true rfl, Nat.le_of_ble_eq_true rfl⟩) hS (fun q _ h => hFc q h) hFc (fun r55 u t H locs ht hvm hw hB hz1 hk1 hS => ?_)
              obtain ⟨hP1, hK1, hD1⟩ := hB
              rw [ht] at hP1
              obtain ⟨hP, hD⟩ := zc_back (w := [(a0, .inr (7, [a0g_0, a0g_1, a0g_2, a0g_3, a0g_4, a0g_5, a0g_6, .ref a0_7, .int a0_8, a0g_9, a0g_10])), (a0_7, .inr (0, [.int a0_7_0, a0_7g_1, a0_7g_2, a0_7g_3, a0_7g_4, a0_7g_5, a0_7g_6, a0_7g_7, a0_7g_8, a0_7g_9, a0_7g_10, a0_7g_11, a0_7g_12, a0_7g_13, a0_7g_14]))]) hP hD hCc hk1 hFc hP1 hD1 [.inl 0, .inl 1] (by decide +kernel) rfl
              obtain ⟨hw, hfr55⟩ := hw
              have hc55 : Ff_X7_isRest a1.toInt j42s0.toInt j55s0.toInt = r55.toInt := hfr55.symm
              have hF1 := hF1.trans (fl_lt_eq hc55.symm)
              rcases hw with hw | hw
              · subst hw
                have hF1 := hF1.trans (if_pos (by decide))
                refine lv_if_eq (tgt := 64) hx hb dX7_rests_58 (by decide) (fun c58 => absurd c58 (by decide +kernel)) (fun _ => ?_)
                have J64 : ∀ (j64l3 : Int32) (H : Heap) (locs : List Loc) (ls : Array Slot), (SX24 = Gf_X7_rests_64_1 j24l4.toInt j64l3.toInt) → va_P (dC, dI) vwCl [(a0, .inr (7, [a0g_0, a0g_1, a0g_2, a0g_3, a0g_4, a0g_5, a0g_6, .ref a0_7, .int a0_8, a0g_9, a0g_10])), (a0_7, .inr (0, [.int a0_7_0, a0_7g_1, a0_7g_2, a0_7g_3, a0_7g_4, a0_7g_5, a0_7g_6, a0_7g_7, a0_7g_8, a0_7g_9, a0_7g_10, a0_7g_11, a0_7g_12, a0_7g_13, a0_7g_14]))] H → va_D A [(a0, .inr (7, [a0g_0, a0g_1, a0g_2, a0g_3, a0g_4, a0g_5, a0g_6, .ref a0_7, .int a0_8, a0g_9, a0g_10])), (a0_7, .inr (0, [.int a0_7_0, a0_7g_1, a0_7g_2, a0_7g_3, a0_7g_4, a0_7g_5, a0_7g_6, a0_7g_7, a0_7g_8, a0_7g_9, a0_7g_10, a0_7g_11, a0_7g_12, a0_7g_13, a0_7g_14]))] → va_S A s.heap H locs → lv_has ls 5 [(0, .ref a0), (1, .int a1), (3, .int j64l3), (4, .int j24l4)] → K H locs (F0 m 64 ls []) := by
                  intro j64l3 H locs ls  hF1 hP hD hS hl
                  refine (hK0 _ _ _).mpr ?_
                  have hF1 := hF1.trans (Gf_X7_rests_64_1.eq_1 j24l4.toInt j64l3.toInt)
                  obtain ⟨x64, ex64⟩ : ∃ y : Int32, y = j24l4 + Int32.ofInt 1 := ⟨_, rfl⟩
                  have qx64 : x64.toInt = j24l4.toInt + 1 := ai_inc ex64 (by decide) (by decide) u27f_j24l4 (by decide)
                  have bx64 : (1 : Int) ≤ x64.toInt ∧ x64.toInt ≤ 4 := ⟨by rw [qx64]; exact Int.add_le_add bj24l4_l (Int.le_refl _), by rw [qx64]; exact Int.add_le_add u27f_j24l4 (Int.le_refl _)⟩
                  refine lv_iinc (v := x64) (lv' := [(4, .int x64), (0, .ref a0), (1, .int a1), (3, .int j64l3)]) hx hb dX7_rests_64 hl (k := 3) rfl ex64.symm (by decide) rfl (fun ls hl => ?_)
                  have hF1 := hF1.trans (fl_lt_eq (show x64.toInt = j24l4.toInt + 1 from qx64))
                  refine lv_goto (tgt := 24) hx hb dX7_rests_67 (by decide) ?_
                  exact (hK0 _ _ _).mp (ih24 x64 j64l3 _ _ _ (by have h0 := qx64; omega) (Int.le_trans zq4 bx64.1) bx64.2 (hF0.trans (fl_wh_l (hSX24.trans hF1))) hP hD hS (lv_sub hl [1, 2, 3, 0] rfl))
                obtain ⟨x61, ex61⟩ : ∃ y : Int32, y = j24l3 + Int32.ofInt 1 := ⟨_, rfl⟩
                refine lv_iinc (v := x61) (lv' := [(3, .int x61), (0, .ref a0), (1, .int a1), (4, .int j24l4)]) hx hb dX7_rests_61 hl (k := 2) rfl ex61.symm (by decide) rfl (fun ls hl => ?_)
                have fqx61 := fl_iadd_eq ex61
                have hF1 := hF1.trans (fl_lt_eq (show x61.toInt = fl_iadd j24l3.toInt 1 from fqx61))
                exact (hK0 _ _ _).mp (J64 x61 _ _ _   hF1 hP hD hS (lv_sub hl [1, 2, 0, 3] rfl))
              · subst hw
                have hF1 := hF1.trans (if_neg (by decide))
                refine lv_if_eq (tgt := 64) hx hb dX7_rests_58 (by decide) (fun _ => ?_) (fun c58 => absurd (by decide +kernel) c58)
                have J64 : ∀ (j64l3 : Int32) (H : Heap) (locs : List Loc) (ls : Array Slot), (SX24 = Gf_X7_rests_64_2 j24l4.toInt j64l3.toInt) → va_P (dC, dI) vwCl [(a0, .inr (7, [a0g_0, a0g_1, a0g_2, a0g_3, a0g_4, a0g_5, a0g_6, .ref a0_7, .int a0_8, a0g_9, a0g_10])), (a0_7, .inr (0, [.int a0_7_0, a0_7g_1, a0_7g_2, a0_7g_3, a0_7g_4, a0_7g_5, a0_7g_6, a0_7g_7, a0_7g_8, a0_7g_9, a0_7g_10, a0_7g_11, a0_7g_12, a0_7g_13, a0_7g_14]))] H → va_D A [(a0, .inr (7, [a0g_0, a0g_1, a0g_2, a0g_3, a0g_4, a0g_5, a0g_6, .ref a0_7, .int a0_8, a0g_9, a0g_10])), (a0_7, .inr (0, [.int a0_7_0, a0_7g_1, a0_7g_2, a0_7g_3, a0_7g_4, a0_7g_5, a0_7g_6, a0_7g_7, a0_7g_8, a0_7g_9, a0_7g_10, a0_7g_11, a0_7g_12, a0_7g_13, a0_7g_14]))] → va_S A s.heap H locs → lv_has ls 5 [(0, .ref a0), (1, .int a1), (3, .int j64l3), (4, .int j24l4)] → K H locs (F0 m 64 ls []) := by
                  intro j64l3 H locs ls  hF1 hP hD hS hl
                  refine (hK0 _ _ _).mpr ?_
                  have hF1 := hF1.trans (Gf_X7_rests_64_2.eq_1 j24l4.toInt j64l3.toInt)
                  obtain ⟨x64, ex64⟩ : ∃ y : Int32, y = j24l4 + Int32.ofInt 1 := ⟨_, rfl⟩
                  have qx64 : x64.toInt = j24l4.toInt + 1 := ai_inc ex64 (by decide) (by decide) u27f_j24l4 (by decide)
                  have bx64 : (1 : Int) ≤ x64.toInt ∧ x64.toInt ≤ 4 := ⟨by rw [qx64]; exact Int.add_le_add bj24l4_l (Int.le_refl _), by rw [qx64]; exact Int.add_le_add u27f_j24l4 (Int.le_refl _)⟩
                  refine lv_iinc (v := x64) (lv' := [(4, .int x64), (0, .ref a0), (1, .int a1), (3, .int j64l3)]) hx hb dX7_rests_64 hl (k := 3) rfl ex64.symm (by decide) rfl (fun ls hl => ?_)
                  have hF1 := hF1.trans (fl_lt_eq (show x64.toInt = j24l4.toInt + 1 from qx64))
                  refine lv_goto (tgt := 24) hx hb dX7_rests_67 (by decide) ?_
                  exact (hK0 _ _ _).mp (ih24 x64 j64l3 _ _ _ (by have h0 := qx64; omega) (Int.le_trans zq4 bx64.1) bx64.2 (hF0.trans (fl_wh_l (hSX24.trans hF1))) hP hD hS (lv_sub hl [1, 2, 3, 0] rfl))
                exact (hK0 _ _ _).mp (J64 j24l3 _ _ _   hF1 hP hD hS (lv_sub hl [0, 1, 2, 3] rfl))
            refine lv_icmp_ne (tgt := 54) hx hb dX7_rests_47 (by decide) (fun c47 => ?_) (fun c47 => ?_)
            · have gc47 := ai_ne c47
              have u47t_x45 : x45.toInt ≤ (0 : Int) := (by have h1 := qx45.2.2; have h2 : (1 : Int32).toInt = 1 := (by decide); rw [h2] at gc47; omega)
              have hF1 := hF1.trans (if_neg (show ¬ (x45.toInt = 1) from  gc47))
              refine lv_iconst (v := 0) hx hb dX7_rests_54 zk_iconst_0 ?_
              exact (hK0 _ _ _).mp (J55 0 _ _ _  zq5 (Int.le_trans zq6 zq4) (by rw [show (0 : Int32).toInt = 0 from by decide]; exact hF1) hP hD hS (lv_sub hl [0, 1, 2, 3] rfl))
            · have gc47 := ai_eq c47
              have u47f_x45 : x45.toInt ≤ (1 : Int) := qx45.2.2
              have l47f_x45 : (1 : Int) ≤ x45.toInt := Int.le_trans zq1 (Int.le_of_eq gc47.symm)
              have hF1 := hF1.trans (if_pos (show x45.toInt = 1 from gc47))
              refine lv_iconst (v := 1) hx hb dX7_rests_50 zk_iconst_1 ?_
              refine lv_goto (tgt := 55) hx hb dX7_rests_51 (by decide) ?_
              exact (hK0 _ _ _).mp (J55 1 _ _ _  (Int.le_trans zq4 zq1) zq0 (by rw [show (1 : Int32).toInt = 1 from by decide]; exact hF1) hP hD hS (lv_sub hl [0, 1, 2, 3] rfl))
          refine lv_icmp_lt (tgt := 41) hx hb dX7_rests_34 (by decide) (fun c34 => ?_) (fun c34 => ?_)
          · have gc34 := ai_lt c34
            have u34t_j24l4 : j24l4.toInt ≤ (1 : Int) := ai_lthi gc34 zq13
            have hF1 := hF1.trans (if_pos (show j24l4.toInt < 2 from gc34))
            refine lv_iconst (v := 0) hx hb dX7_rests_41 zk_iconst_0 ?_
            exact (hK0 _ _ _).mp (J42 0 _ _ _  zq5 (Int.le_trans zq6 zq4) (by rw [show (0 : Int32).toInt = 0 from by decide]; exact hF1) hP hD hS (lv_sub hl [0, 1, 2, 3] rfl))
          · have gc34 := ai_nlt c34
            have l34f_j24l4 : (2 : Int) ≤ j24l4.toInt := Int.le_trans zq12 gc34
            have hF1 := hF1.trans (if_neg (show ¬ (j24l4.toInt < 2) from Int.not_lt.mpr gc34))
            refine lv_iconst (v := 1) hx hb dX7_rests_37 zk_iconst_1 ?_
            refine lv_goto (tgt := 42) hx hb dX7_rests_38 (by decide) ?_
            exact (hK0 _ _ _).mp (J42 1 _ _ _  (Int.le_trans zq4 zq1) zq0 (by rw [show (1 : Int32).toInt = 1 from by decide]; exact hF1) hP hD hS (lv_sub hl [0, 1, 2, 3] rfl))
    exact (hK0 _ _ _).mp (J24 5 0 0 _ _ _ (by have h1 : (0 : Int) ≤ (0 : Int32).toInt := zq5; have h2 : (0 : Int32).toInt ≤ (0 : Int) := zq6; omega) zq5 (Int.le_trans zq6 zq101) (by rw [show (0 : Int32).toInt = 0 from by decide]; exact hF0) hP hD hS (lv_sub hl [3, 4, 1, 0] rfl))
  · subst hw
    have hF0 := hF0.trans (if_neg (by decide))
    have hF0 := hF0.trans (if_pos (by decide))
    refine lv_istore_n (lv' := [(2, .int 1), (0, .ref a0), (1, .int a1)]) hx hb dX7_rests_8 rfl hl (by decide) rfl (fun ls hl => ?_)
    refine lv_iload_n hx hb dX7_rests_9 rfl (lv_at hl 0 rfl) ?_
    refine lv_if_eq (tgt := 19) hx hb dX7_rests_10 (by decide) (fun c10 => absurd c10 (by decide +kernel)) (fun _ => ?_)
    refine lv_aload_n hx hb dX7_rests_13 rfl (lv_at hl 1 rfl) ?_
    refine lv_iload_n hx hb dX7_rests_14 rfl (lv_at hl 0 rfl) ?_
    obtain ⟨hPc, hDc, hFc, hCc⟩ := zc_cut (wc := [(a0, .inr (7, [a0g_0, a0g_1, a0g_2, a0g_3, a0g_4, a0g_5, a0g_6, .ref a0_7, .int a0_8, a0g_9, a0g_10]))]) hP hD hS hA [0] (by decide +kernel) rfl
    have hKc := hK.sub (tys' := []) [] rfl
    refine va_calli (va_runV (As := [.int 1]) (rest := []) ⟨hx, hb, hml, hown, hts⟩ (f_X7_refused l dC dI H.size a0 1 a0g_0 a0g_1 a0g_2 a0g_3 a0g_4 a0g_5 a0g_6 (.ref a0_7) a0g_9 a0g_10 a0_8 ) (cwV 1 hts gX7_rests_X7_refused rfl rfl rfl zd_X7_refused ⟨Nat.le_of_ble_eq_true rfl, Nat.le_of_ble_eq_true rfl⟩) ⟨ax_blind (fun _ _ _ _ _ => trivial), zr_7 hKc hPc (q0 := 0) rfl, ax_pre hPc hKc hDc (fun _ _ => trivial)⟩ rfl rfl hl.1 rfl (lv_room (Nat.le_of_ble_eq_true rfl)) dX7_rests_15 ⟨Nat.le_of_ble_eq_true rfl, Nat.le_of_ble_eq_true rfl⟩) hS (fun q _ h => hFc q h) hFc (fun r15 u t H locs ht hvm hw hB hz1 hk1 hS => ?_)
    obtain ⟨v15na0_8, hraw15_0, hP1, hK1, hD1⟩ := hB
    rw [ht] at hP1
    obtain ⟨hP, hD⟩ := zc_back (w := [(a0, .inr (7, [a0g_0, a0g_1, a0g_2, a0g_3, a0g_4, a0g_5, a0g_6, .ref a0_7, .int v15na0_8, a0g_9, a0g_10])), (a0_7, .inr (0, [.int a0_7_0, a0_7g_1, a0_7g_2, a0_7g_3, a0_7g_4, a0_7g_5, a0_7g_6, a0_7g_7, a0_7g_8, a0_7g_9, a0_7g_10, a0_7g_11, a0_7g_12, a0_7g_13, a0_7g_14]))]) hP hD hCc hk1 hFc hP1 hD1 [.inr 0, .inl 1] (by decide +kernel) rfl
    obtain ⟨hw, hfr15⟩ := hw
    rw [show (1 : Int32).toInt = 1 from by decide] at hfr15 hraw15_0
    have hc15 : Ff_X7_refused 1 = (r15.toInt, v15na0_8.toInt) := Prod.ext hfr15.symm hraw15_0
    have hF0 := hF0.trans (fl_c2_eq hc15)
    have hw : r15 = (-1) := hw
    have hw := hw.symm
    subst hw
    have hFe : FX = ((-1), v15na0_8.toInt) := hF0
    exact W.iret (v := (-1)) hx hb hr (fun t ht hW => ⟨⟨(-1), (), rfl, ⟨trivial, (congrArg Prod.fst hFe).symm⟩, v15na0_8, (congrArg Prod.snd hFe), by rw [ht]; exact hP, va_K.moved hW.alike hK, hD⟩, hS.F ht⟩) hS.2.2 dX7_rests_18
  · subst hw
    have hF0 := hF0.trans (if_neg (by decide))
    have hF0 := hF0.trans (if_neg (by decide))
    refine lv_istore_n (lv' := [(2, .int 2), (0, .ref a0), (1, .int a1)]) hx hb dX7_rests_8 rfl hl (by decide) rfl (fun ls hl => ?_)
    refine lv_iload_n hx hb dX7_rests_9 rfl (lv_at hl 0 rfl) ?_
    refine lv_if_eq (tgt := 19) hx hb dX7_rests_10 (by decide) (fun c10 => absurd c10 (by decide +kernel)) (fun _ => ?_)
    refine lv_aload_n hx hb dX7_rests_13 rfl (lv_at hl 1 rfl) ?_
    refine lv_iload_n hx hb dX7_rests_14 rfl (lv_at hl 0 rfl) ?_
    obtain ⟨hPc, hDc, hFc, hCc⟩ := zc_cut (wc := [(a0, .inr (7, [a0g_0, a0g_1, a0g_2, a0g_3, a0g_4, a0g_5, a0g_6, .ref a0_7, .int a0_8, a0g_9, a0g_10]))]) hP hD hS hA [0] (by decide +kernel) rfl
    have hKc := hK.sub (tys' := []) [] rfl
    refine va_calli (va_runV (As := [.int 2]) (rest := []) ⟨hx, hb, hml, hown, hts⟩ (f_X7_refused l dC dI H.size a0 2 a0g_0 a0g_1 a0g_2 a0g_3 a0g_4 a0g_5 a0g_6 (.ref a0_7) a0g_9 a0g_10 a0_8 ) (cwV 1 hts gX7_rests_X7_refused rfl rfl rfl zd_X7_refused ⟨Nat.le_of_ble_eq_true rfl, Nat.le_of_ble_eq_true rfl⟩) ⟨ax_blind (fun _ _ _ _ _ => trivial), zr_7 hKc hPc (q0 := 0) rfl, ax_pre hPc hKc hDc (fun _ _ => trivial)⟩ rfl rfl hl.1 rfl (lv_room (Nat.le_of_ble_eq_true rfl)) dX7_rests_15 ⟨Nat.le_of_ble_eq_true rfl, Nat.le_of_ble_eq_true rfl⟩) hS (fun q _ h => hFc q h) hFc (fun r15 u t H locs ht hvm hw hB hz1 hk1 hS => ?_)
    obtain ⟨v15na0_8, hraw15_0, hP1, hK1, hD1⟩ := hB
    rw [ht] at hP1
    obtain ⟨hP, hD⟩ := zc_back (w := [(a0, .inr (7, [a0g_0, a0g_1, a0g_2, a0g_3, a0g_4, a0g_5, a0g_6, .ref a0_7, .int v15na0_8, a0g_9, a0g_10])), (a0_7, .inr (0, [.int a0_7_0, a0_7g_1, a0_7g_2, a0_7g_3, a0_7g_4, a0_7g_5, a0_7g_6, a0_7g_7, a0_7g_8, a0_7g_9, a0_7g_10, a0_7g_11, a0_7g_12, a0_7g_13, a0_7g_14]))]) hP hD hCc hk1 hFc hP1 hD1 [.inr 0, .inl 1] (by decide +kernel) rfl
    obtain ⟨hw, hfr15⟩ := hw
    rw [show (2 : Int32).toInt = 2 from by decide] at hfr15 hraw15_0
    have hc15 : Ff_X7_refused 2 = (r15.toInt, v15na0_8.toInt) := Prod.ext hfr15.symm hraw15_0
    have hF0 := hF0.trans (fl_c2_eq hc15)
    have hw : r15 = (-1) := hw
    have hw := hw.symm
    subst hw
    have hFe : FX = ((-1), v15na0_8.toInt) := hF0
    exact W.iret (v := (-1)) hx hb hr (fun t ht hW => ⟨⟨(-1), (), rfl, ⟨trivial, (congrArg Prod.fst hFe).symm⟩, v15na0_8, (congrArg Prod.snd hFe), by rw [ht]; exact hP, va_K.moved hW.alike hK, hD⟩, hS.F ht⟩) hS.2.2 dX7_rests_18

set_option maxHeartbeats 4000000 in
set_option maxRecDepth 100000 in
theorem f_X8_seekRests (l : Launch) (dC : Nat → ClassId) (dI : Nat → Nat → Nat) (sz : Nat) (a0 : Nat) (a1 : Int32) (a0g_0 a0g_1 a0g_2 a0g_3 a0g_4 a0g_5 a0g_6 a0g_7 a0g_8 a0g_9 a0g_10 a0g_11 a0g_12 a0g_13 a0g_14 a0g_15 a0g_16 a0g_17 a0g_18 a0g_19 a0g_20 a0g_21 a0g_22 a0g_23 a0g_24 a0g_25 a0g_26 a0g_27 a0g_28 a0g_29 a0g_30 a0g_31 a0g_32 a0g_33 a0g_34 a0g_35 a0g_36 a0g_38 a0g_39 : Value) (a0_37 : Int32)  : Met l yX8_seekRests wsX8_seekRests ({ frames := 1, cells := 0, slots := 0, locals := 22 }) (va_Pc [.ref a0, .int a1] (ax_C dC dI sz [(a0, .inr (8, [a0g_0, a0g_1, a0g_2, a0g_3, a0g_4, a0g_5, a0g_6, a0g_7, a0g_8, a0g_9, a0g_10, a0g_11, a0g_12, a0g_13, a0g_14, a0g_15, a0g_16, a0g_17, a0g_18, a0g_19, a0g_20, a0g_21, a0g_22, a0g_23, a0g_24, a0g_25, a0g_26, a0g_27, a0g_28, a0g_29, a0g_30, a0g_31, a0g_32, a0g_33, a0g_34, a0g_35, a0g_36, Value.int a0_37, a0g_38, a0g_39]))] [] (fun _ => True))) (va_Qi (fun (r : Int32) (_ : Unit) => (True) ∧ r.toInt = (Ff_X8_seekRests a1.toInt).1) (fun (_ : Unit) (t : State) => ∃ na0_37 : Int32, ((Ff_X8_seekRests a1.toInt).2 = na0_37.toInt) ∧ ax_B dC dI (va_A [(a0, .inr (8, [a0g_0, a0g_1, a0g_2, a0g_3, a0g_4, a0g_5, a0g_6, a0g_7, a0g_8, a0g_9, a0g_10, a0g_11, a0g_12, a0g_13, a0g_14, a0g_15, a0g_16, a0g_17, a0g_18, a0g_19, a0g_20, a0g_21, a0g_22, a0g_23, a0g_24, a0g_25, a0g_26, a0g_27, a0g_28, a0g_29, a0g_30, a0g_31, a0g_32, a0g_33, a0g_34, a0g_35, a0g_36, Value.int a0_37, a0g_38, a0g_39]))] sz) [(a0, .inr (8, [a0g_0, a0g_1, a0g_2, a0g_3, a0g_4, a0g_5, a0g_6, a0g_7, a0g_8, a0g_9, a0g_10, a0g_11, a0g_12, a0g_13, a0g_14, a0g_15, a0g_16, a0g_17, a0g_18, a0g_19, a0g_20, a0g_21, a0g_22, a0g_23, a0g_24, a0g_25, a0g_26, a0g_27, a0g_28, a0g_29, a0g_30, a0g_31, a0g_32, a0g_33, a0g_34, a0g_35, a0g_36, Value.int na0_37, a0g_38, a0g_39]))] [] t) (va_A [(a0, .inr (8, [a0g_0, a0g_1, a0g_2, a0g_3, a0g_4, a0g_5, a0g_6, a0g_7, a0g_8, a0g_9, a0g_10, a0g_11, a0g_12, a0g_13, a0g_14, a0g_15, a0g_16, a0g_17, a0g_18, a0g_19, a0g_20, a0g_21, a0g_22, a0g_23, a0g_24, a0g_25, a0g_26, a0g_27, a0g_28, a0g_29, a0g_30, a0g_31, a0g_32, a0g_33, a0g_34, a0g_35, a0g_36, Value.int a0_37, a0g_38, a0g_39]))] sz)) 0 0 (va_A [(a0, .inr (8, [a0g_0, a0g_1, a0g_2, a0g_3, a0g_4, a0g_5, a0g_6, a0g_7, a0g_8, a0g_9, a0g_10, a0g_11, a0g_12, a0g_13, a0g_14, a0g_15, a0g_16, a0g_17, a0g_18, a0g_19, a0g_20, a0g_21, a0g_22, a0g_23, a0g_24, a0g_25, a0g_26, a0g_27, a0g_28, a0g_29, a0g_30, a0g_31, a0g_32, a0g_33, a0g_34, a0g_35, a0g_36, Value.int a0_37, a0g_38, a0g_39]))] sz) := by
  refine Met.ofW (cc := cX8_seekRests) (maxL := 6) (ret := (some .int)) (by decide) rfl ?_
  intro p e s m args below meth c s₁ B hml hv
  obtain ⟨rfl, hsz, hP, hK, hD0, hE⟩ := hv
  have hx := B.exec
  have hb := B.bytes
  have hr := B.returns
  have hts := atoms_spec (ws := wsX8_seekRests) B.pre
  have hown : s.vm.findClass RX8 = some m.cls := findClass_of_methodNamed B.named
  have hlocks := B.notSynchronized
  subst hsz
  have hD := hD0.self (sz := s.heap.size)
  generalize hAe : va_A [(a0, .inr (8, [a0g_0, a0g_1, a0g_2, a0g_3, a0g_4, a0g_5, a0g_6, a0g_7, a0g_8, a0g_9, a0g_10, a0g_11, a0g_12, a0g_13, a0g_14, a0g_15, a0g_16, a0g_17, a0g_18, a0g_19, a0g_20, a0g_21, a0g_22, a0g_23, a0g_24, a0g_25, a0g_26, a0g_27, a0g_28, a0g_29, a0g_30, a0g_31, a0g_32, a0g_33, a0g_34, a0g_35, a0g_36, Value.int a0_37, a0g_38, a0g_39]))] s.heap.size = A at hD ⊢
  have hA : ∀ q : Nat, s.heap.size ≤ q → A q := fun q h => by rw [← hAe]; exact Or.inr h
  have hS : va_S A s.heap s.heap [] := va_S.rf
  have hP : va_P (dC, dI) vwCl [(a0, .inr (8, [a0g_0, a0g_1, a0g_2, a0g_3, a0g_4, a0g_5, a0g_6, a0g_7, a0g_8, a0g_9, a0g_10, a0g_11, a0g_12, a0g_13, a0g_14, a0g_15, a0g_16, a0g_17, a0g_18, a0g_19, a0g_20, a0g_21, a0g_22, a0g_23, a0g_24, a0g_25, a0g_26, a0g_27, a0g_28, a0g_29, a0g_30, a0g_31, a0g_32, a0g_33, a0g_34, a0g_35, a0g_36, Value.int a0_37, a0g_38, a0g_39]))] s.heap := hP
  have hl := lv_entry ([.ref a0, .int a1]) (n := 6) (Nat.le_of_ble_eq_true rfl)
  rw [lg_entry_eq]
  generalize (lg_sl ([.ref a0, .int a1]) ++ List.replicate (6 - (lg_sl ([.ref a0, .int a1])).length) Slot.unset).toArray = ls at hl ⊢
  have hl : lv_has ls 6 [(0, .ref a0), (1, .int a1)] := hl
  generalize hFX : Ff_X8_seekRests a1.toInt = FX at ⊢
  have hF0 := hFX.symm.trans (Ff_X8_seekRests.eq_1 a1.toInt)
  refine ai_open (fun K hK0 => ?_)
  refine (hK0 _ _ _).mpr ?_
  refine lv_iconst (v := 0) hx hb dX8_seekRests_0 zk_iconst_0 ?_
  refine lv_istore_n (lv' := [(2, .int 0), (0, .ref a0), (1, .int a1)]) hx hb dX8_seekRests_1 rfl hl (by decide) rfl (fun ls hl => ?_)
  refine lv_aload_n hx hb dX8_seekRests_2 rfl (lv_at hl 1 rfl) ?_
  refine lv_bipush (v := (-2)) hx hb dX8_seekRests_3 zk_bipush_n2 ?_
  refine va_put (D := (dC, dI)) (ci := 8) (v := .int (-2)) (ty := .int) (C := RX8) (T := TX8) (N := 40) hx hb hts zi_X8_seekRests_8 tyX8 tyX8_ok nmX8 hown hK hP hD hS 0 rfl rfl 37 (by decide) (hts (.fieldLink RX8 359 "WaxTurnsModel" "firstRest" "I") (List.mem_cons_of_mem _ (List.mem_append_left _ (List.mem_of_getElem? (i := 0) rfl)))) (fun _ h9 => h9) rfl (tyX8_ok 37 (by decide)) rfl rfl (Nat.le_of_ble_eq_true rfl) dX8_seekRests_5 (fun H locs hP hD hS => ?_)
  obtain ⟨hP, hD⟩ := zc_re (w := [(a0, .inr (8, [a0g_0, a0g_1, a0g_2, a0g_3, a0g_4, a0g_5, a0g_6, a0g_7, a0g_8, a0g_9, a0g_10, a0g_11, a0g_12, a0g_13, a0g_14, a0g_15, a0g_16, a0g_17, a0g_18, a0g_19, a0g_20, a0g_21, a0g_22, a0g_23, a0g_24, a0g_25, a0g_26, a0g_27, a0g_28, a0g_29, a0g_30, a0g_31, a0g_32, a0g_33, a0g_34, a0g_35, a0g_36, Value.int (-2), a0g_38, a0g_39]))]) hP hD rfl
  refine lv_iconst (v := 0) hx hb dX8_seekRests_8 zk_iconst_0 ?_
  refine lv_istore_n (lv' := [(3, .int 0), (2, .int 0), (0, .ref a0), (1, .int a1)]) hx hb dX8_seekRests_9 rfl hl (by decide) rfl (fun ls hl => ?_)
  have J10 : ∀ (n : Nat) (j10l3 : Int32) (j10l2 : Int32) (j10a0_37 : Int32) (H : Heap) (locs : List Loc) (ls : Array Slot), (5 : Int) - j10l3.toInt ≤ (n : Int) → (0 : Int) ≤ j10l3.toInt → j10l3.toInt ≤ (4 : Int) → (FX = fl_wh (fun t9 => Sf_X8_seekRests_10_1 a1.toInt t9.1 t9.2.1 t9.2.2) (0, 0) n (j10l3.toInt, j10l2.toInt, j10a0_37.toInt)) → va_P (dC, dI) vwCl [(a0, .inr (8, [a0g_0, a0g_1, a0g_2, a0g_3, a0g_4, a0g_5, a0g_6, a0g_7, a0g_8, a0g_9, a0g_10, a0g_11, a0g_12, a0g_13, a0g_14, a0g_15, a0g_16, a0g_17, a0g_18, a0g_19, a0g_20, a0g_21, a0g_22, a0g_23, a0g_24, a0g_25, a0g_26, a0g_27, a0g_28, a0g_29, a0g_30, a0g_31, a0g_32, a0g_33, a0g_34, a0g_35, a0g_36, Value.int j10a0_37, a0g_38, a0g_39]))] H → va_D A [(a0, .inr (8, [a0g_0, a0g_1, a0g_2, a0g_3, a0g_4, a0g_5, a0g_6, a0g_7, a0g_8, a0g_9, a0g_10, a0g_11, a0g_12, a0g_13, a0g_14, a0g_15, a0g_16, a0g_17, a0g_18, a0g_19, a0g_20, a0g_21, a0g_22, a0g_23, a0g_24, a0g_25, a0g_26, a0g_27, a0g_28, a0g_29, a0g_30, a0g_31, a0g_32, a0g_33, a0g_34, a0g_35, a0g_36, Value.int j10a0_37, a0g_38, a0g_39]))] → va_S A s.heap H locs → lv_has ls 6 [(0, .ref a0), (1, .int a1), (2, .int j10l2), (3, .int j10l3)] → K H locs (F0 m 10 ls []) := by
    intro n
    induction n with
    | zero =>
      intro j10l3 j10l2 j10a0_37 H locs ls hm bj10l3_l bj10l3_u hF0 hP hD hS hl
      have h8 := ai_min j10l3
      have h9 := ai_max j10l3
      exact absurd hm (by omega)
    | succ n ih10 =>
      intro j10l3 j10l2 j10a0_37 H locs ls hm bj10l3_l bj10l3_u hF0 hP hD hS hl
      refine (hK0 _ _ _).mpr ?_
      have hm10 := hm
      obtain ⟨SX10, hSX10⟩ : ∃ q9, Sf_X8_seekRests_10_1 a1.toInt j10l3.toInt j10l2.toInt j10a0_37.toInt = q9 := ⟨_, rfl⟩
      have hF1 := hSX10.symm.trans (Sf_X8_seekRests_10_1.eq_1 a1.toInt j10l3.toInt j10l2.toInt j10a0_37.toInt)
      refine lv_iload_n hx hb dX8_seekRests_10 rfl (lv_at hl 3 rfl) ?_
      refine lv_iconst (v := 4) hx hb dX8_seekRests_11 zk_iconst_4 ?_
      refine lv_icmp_ge (tgt := 123) hx hb dX8_seekRests_12 (by decide) (fun c12 => ?_) (fun c12 => ?_)
      · have gc12 := ai_le c12
        have l12t_j10l3 : (4 : Int) ≤ j10l3.toInt := Int.le_trans zq68 gc12
        have hF1 := hF1.trans (if_pos (show 4 ≤ j10l3.toInt from gc12))
        have hF0 := hF0.trans (fl_wh_r (hSX10.trans hF1))
        refine lv_iload_n hx hb dX8_seekRests_123 rfl (lv_at hl 2 rfl) ?_
        have hFe : FX = (j10l2.toInt, j10a0_37.toInt) := hF0
        exact W.iret (v := j10l2) hx hb hr (fun t ht hW => ⟨⟨j10l2, (), rfl, ⟨trivial, (congrArg Prod.fst hFe).symm⟩, j10a0_37, (congrArg Prod.snd hFe), by rw [ht]; exact hP, va_K.moved hW.alike hK, hD⟩, hS.F ht⟩) hS.2.2 dX8_seekRests_124
      · have gc12 := ai_nle c12
        have u12f_j10l3 : j10l3.toInt ≤ (3 : Int) := ai_lthi gc12 zq67
        have hF1 := hF1.trans (if_neg (show ¬ (4 ≤ j10l3.toInt) from Int.not_le.mpr gc12))
        refine lv_iload_n hx hb dX8_seekRests_15 rfl (lv_at hl 3 rfl) ?_
        refine lv_iconst (v := 1) hx hb dX8_seekRests_16 zk_iconst_1 ?_
        have J25 : ∀ (j25s0 : Int32) (H : Heap) (locs : List Loc) (ls : Array Slot), (0 : Int) ≤ j25s0.toInt → j25s0.toInt ≤ (1 : Int) → (SX10 = Gf_X8_seekRests_25_1 a1.toInt j10l3.toInt j10l2.toInt j10a0_37.toInt j25s0.toInt) → va_P (dC, dI) vwCl [(a0, .inr (8, [a0g_0, a0g_1, a0g_2, a0g_3, a0g_4, a0g_5, a0g_6, a0g_7, a0g_8, a0g_9, a0g_10, a0g_11, a0g_12, a0g_13, a0g_14, a0g_15, a0g_16, a0g_17, a0g_18, a0g_19, a0g_20, a0g_21, a0g_22, a0g_23, a0g_24, a0g_25, a0g_26, a0g_27, a0g_28, a0g_29, a0g_30, a0g_31, a0g_32, a0g_33, a0g_34, a0g_35, a0g_36, Value.int j10a0_37, a0g_38, a0g_39]))] H → va_D A [(a0, .inr (8, [a0g_0, a0g_1, a0g_2, a0g_3, a0g_4, a0g_5, a0g_6, a0g_7, a0g_8, a0g_9, a0g_10, a0g_11, a0g_12, a0g_13, a0g_14, a0g_15, a0g_16, a0g_17, a0g_18, a0g_19, a0g_20, a0g_21, a0g_22, a0g_23, a0g_24, a0g_25, a0g_26, a0g_27, a0g_28, a0g_29, a0g_30, a0g_31, a0g_32, a0g_33, a0g_34, a0g_35, a0g_36, Value.int j10a0_37, a0g_38, a0g_39]))] → va_S A s.heap H locs → lv_has ls 6 [(0, .ref a0), (1, .int a1), (2, .int j10l2), (3, .int j10l3)] → K H locs (F0 m 25 ls [.int j25s0]) := by
          intro j25s0 H locs ls  bj25s0_l bj25s0_u hF1 hP hD hS hl
          refine (hK0 _ _ _).mpr ?_
          have hF1 := hF1.trans (Gf_X8_seekRests_25_1.eq_1 a1.toInt j10l3.toInt j10l2.toInt j10a0_37.toInt j25s0.toInt)
          refine lv_istore (lv' := [(4, .int j25s0), (0, .ref a0), (1, .int a1), (2, .int j10l2), (3, .int j10l3)]) hx hb dX8_seekRests_25 hl (by decide) rfl (fun ls hl => ?_)
          refine lv_iload_n hx hb dX8_seekRests_27 rfl (lv_at hl 4 rfl) ?_
          refine lv_iconst (v := 2) hx hb dX8_seekRests_28 zk_iconst_2 ?_
          refine lv_irem hx hb dX8_seekRests_29 (by decide +kernel) ?_
          refine lv_topi (fun x29 ex29 => ?_)
          have qx29 := ai_rem2 ex29 bj10l3_l (Int.lt_of_lt_of_le zq100 zq12) zq13
          have wx29 : x29.toInt = j10l3.toInt % 2 := qx29.1
          have hF1 := hF1.trans (fl_lt_eq (show x29.toInt = j10l3.toInt % 2 from qx29.1))
          refine lv_iconst (v := 1) hx hb dX8_seekRests_30 zk_iconst_1 ?_
          have J39 : ∀ (j39s0 : Int32) (H : Heap) (locs : List Loc) (ls : Array Slot), (0 : Int) ≤ j39s0.toInt → j39s0.toInt ≤ (1 : Int) → (SX10 = Gf_X8_seekRests_39_1 a1.toInt j10l3.toInt j10l2.toInt j10a0_37.toInt j25s0.toInt j39s0.toInt) → va_P (dC, dI) vwCl [(a0, .inr (8, [a0g_0, a0g_1, a0g_2, a0g_3, a0g_4, a0g_5, a0g_6, a0g_7, a0g_8, a0g_9, a0g_10, a0g_11, a0g_12, a0g_13, a0g_14, a0g_15, a0g_16, a0g_17, a0g_18, a0g_19, a0g_20, a0g_21, a0g_22, a0g_23, a0g_24, a0g_25, a0g_26, a0g_27, a0g_28, a0g_29, a0g_30, a0g_31, a0g_32, a0g_33, a0g_34, a0g_35, a0g_36, Value.int j10a0_37, a0g_38, a0g_39]))] H → va_D A [(a0, .inr (8, [a0g_0, a0g_1, a0g_2, a0g_3, a0g_4, a0g_5, a0g_6, a0g_7, a0g_8, a0g_9, a0g_10, a0g_11, a0g_12, a0g_13, a0g_14, a0g_15, a0g_16, a0g_17, a0g_18, a0g_19, a0g_20, a0g_21, a0g_22, a0g_23, a0g_24, a0g_25, a0g_26, a0g_27, a0g_28, a0g_29, a0g_30, a0g_31, a0g_32, a0g_33, a0g_34, a0g_35, a0g_36, Value.int j10a0_37, a0g_38, a0g_39]))] → va_S A s.heap H locs → lv_has ls 6 [(0, .ref a0), (1, .int a1), (2, .int j10l2), (3, .int j10l3), (4, .int j25s0)] → K H locs (F0 m 39 ls [.int j39s0]) := by
            intro j39s0 H locs ls  bj39s0_l bj39s0_u hF1 hP hD hS hl
            refine (hK0 _ _ _).mpr ?_
            have hF1 := hF1.trans (Gf_X8_seekRests_39_1.eq_1 a1.toInt j10l3.toInt j10l2.toInt j10a0_37.toInt j25s0.toInt j39s0.toInt)
            refine lv_istore (lv' := [(5, .int j39s0), (0, .ref a0), (1, .int a1), (2, .int j10l2), (3, .int j10l3), (4, .int j25s0)]) hx hb dX8_seekRests_39 hl (by decide) rfl (fun ls hl => ?_)
            refine lv_iload_n hx hb dX8_seekRests_41 rfl (lv_at hl 2 rfl) ?_
            refine lv_iload hx hb dX8_seekRests_42 (lv_at hl 5 rfl) ?_
            have J52 : ∀ (j52s0 : Int32) (H : Heap) (locs : List Loc) (ls : Array Slot), (0 : Int) ≤ j52s0.toInt → j52s0.toInt ≤ (1 : Int) → (SX10 = Gf_X8_seekRests_52_1 a1.toInt j10l3.toInt j10l2.toInt j10a0_37.toInt j25s0.toInt j39s0.toInt j52s0.toInt) → va_P (dC, dI) vwCl [(a0, .inr (8, [a0g_0, a0g_1, a0g_2, a0g_3, a0g_4, a0g_5, a0g_6, a0g_7, a0g_8, a0g_9, a0g_10, a0g_11, a0g_12, a0g_13, a0g_14, a0g_15, a0g_16, a0g_17, a0g_18, a0g_19, a0g_20, a0g_21, a0g_22, a0g_23, a0g_24, a0g_25, a0g_26, a0g_27, a0g_28, a0g_29, a0g_30, a0g_31, a0g_32, a0g_33, a0g_34, a0g_35, a0g_36, Value.int j10a0_37, a0g_38, a0g_39]))] H → va_D A [(a0, .inr (8, [a0g_0, a0g_1, a0g_2, a0g_3, a0g_4, a0g_5, a0g_6, a0g_7, a0g_8, a0g_9, a0g_10, a0g_11, a0g_12, a0g_13, a0g_14, a0g_15, a0g_16, a0g_17, a0g_18, a0g_19, a0g_20, a0g_21, a0g_22, a0g_23, a0g_24, a0g_25, a0g_26, a0g_27, a0g_28, a0g_29, a0g_30, a0g_31, a0g_32, a0g_33, a0g_34, a0g_35, a0g_36, Value.int j10a0_37, a0g_38, a0g_39]))] → va_S A s.heap H locs → lv_has ls 6 [(0, .ref a0), (1, .int a1), (2, .int j10l2), (3, .int j10l3), (4, .int j25s0), (5, .int j39s0)] → K H locs (F0 m 52 ls [.int j52s0, .int a1]) := by
              intro j52s0 H locs ls  bj52s0_l bj52s0_u hF1 hP hD hS hl
              refine (hK0 _ _ _).mpr ?_
              have hF1 := hF1.trans (Gf_X8_seekRests_52_1.eq_1 a1.toInt j10l3.toInt j10l2.toInt j10a0_37.toInt j25s0.toInt j39s0.toInt j52s0.toInt)
              refine lv_iload hx hb dX8_seekRests_52 (lv_at hl 5 rfl) ?_
              obtain ⟨hPc, hDc, hFc, hCc⟩ := zc_cut (wc := []) hP hD hS hA [] (by decide +kernel) rfl
              have hKc := hK.sub (tys' := []) [] rfl
              refine va_calli (va_runS (As := [.int a1, .int j52s0, .int j39s0]) (rest := []) ⟨hx, hb, hml, hown, hts⟩ (f_X8_figureHas l dC dI H.size a1 j52s0 j39s0 ) (va_cwS 3 hts gX8_seekRests_X8_figureHas rfl rfl rfl zd_X8_figureHas.2 ⟨Nat.le_of_ble_eq_true rfl, Nat.le_of_ble_eq_true rfl⟩) ⟨ax_blind (fun _ _ _ _ _ => trivial), ax_pre hPc hKc hDc (fun _ _ => trivial)⟩ rfl rfl hl.1 rfl (lv_room (Nat.le_of_ble_eq_true rfl)) dX8_seekRests_54 ⟨Nat.le_of_ble_eq_true rfl, Nat.le_of_ble_eq_true rfl⟩) hS (fun q _ h => hFc q h) hFc (fun r54 u t H locs ht hvm hw hB hz1 hk1 hS => ?_)
              obtain ⟨hP1, hK1, hD1⟩ := hB
              rw [ht] at hP1
              obtain ⟨hP, hD⟩ := zc_back (w := [(a0, .inr (8, [a0g_0, a0g_1, a0g_2, a0g_3, a0g_4, a0g_5, a0g_6, a0g_7, a0g_8, a0g_9, a0g_10, a0g_11, a0g_12, a0g_13, a0g_14, a0g_15, a0g_16, a0g_17, a0g_18, a0g_19, a0g_20, a0g_21, a0g_22, a0g_23, a0g_24, a0g_25, a0g_26, a0g_27, a0g_28, a0g_29, a0g_30, a0g_31, a0g_32, a0g_33, a0g_34, a0g_35, a0g_36, Value.int j10a0_37, a0g_38, a0g_39]))]) hP hD hCc hk1 hFc hP1 hD1 [.inl 0] (by decide +kernel) rfl
              obtain ⟨hw, hfr54⟩ := hw
              have hc54 : Ff_X8_figureHas a1.toInt j52s0.toInt j39s0.toInt = r54.toInt := hfr54.symm
              have hF1 := hF1.trans (fl_lt_eq hc54.symm)
              refine lv_iload_n hx hb dX8_seekRests_57 rfl (lv_at hl 1 rfl) ?_
              refine lv_iload hx hb dX8_seekRests_58 (lv_at hl 4 rfl) ?_
              refine lv_iload hx hb dX8_seekRests_60 (lv_at hl 5 rfl) ?_
              obtain ⟨hPc, hDc, hFc, hCc⟩ := zc_cut (wc := []) hP hD hS hA [] (by decide +kernel) rfl
              have hKc := hK.sub (tys' := []) [] rfl
              refine va_calli (va_runS (As := [.int a1, .int j25s0, .int j39s0]) (rest := [.int r54]) ⟨hx, hb, hml, hown, hts⟩ (f_X8_figureHas l dC dI H.size a1 j25s0 j39s0 ) (va_cwS 3 hts gX8_seekRests_X8_figureHas rfl rfl rfl zd_X8_figureHas.2 ⟨Nat.le_of_ble_eq_true rfl, Nat.le_of_ble_eq_true rfl⟩) ⟨ax_blind (fun _ _ _ _ _ => trivial), ax_pre hPc hKc hDc (fun _ _ => trivial)⟩ rfl rfl hl.1 rfl (lv_room (Nat.le_of_ble_eq_true rfl)) dX8_seekRests_62 ⟨Nat.le_of_ble_eq_true rfl, Nat.le_of_ble_eq_true rfl⟩) hS (fun q _ h => hFc q h) hFc (fun r62 u t H locs ht hvm hw hB hz1 hk1 hS => ?_)
              obtain ⟨hP1, hK1, hD1⟩ := hB
              rw [ht] at hP1
              obtain ⟨hP, hD⟩ := zc_back (w := [(a0, .inr (8, [a0g_0, a0g_1, a0g_2, a0g_3, a0g_4, a0g_5, a0g_6, a0g_7, a0g_8, a0g_9, a0g_10, a0g_11, a0g_12, a0g_13, a0g_14, a0g_15, a0g_16, a0g_17, a0g_18, a0g_19, a0g_20, a0g_21, a0g_22, a0g_23, a0g_24, a0g_25, a0g_26, a0g_27, a0g_28, a0g_29, a0g_30, a0g_31, a0g_32, a0g_33, a0g_34, a0g_35, a0g_36, Value.int j10a0_37, a0g_38, a0g_39]))]) hP hD hCc hk1 hFc hP1 hD1 [.inl 0] (by decide +kernel) rfl
              obtain ⟨hw, hfr62⟩ := hw
              have hc62 : Ff_X8_figureHas a1.toInt j25s0.toInt j39s0.toInt = r62.toInt := hfr62.symm
              have hF1 := hF1.trans (fl_lt_eq hc62.symm)
              have J117 : ∀ (j117l2 : Int32) (j117a0_37 : Int32) (H : Heap) (locs : List Loc) (ls : Array Slot), (SX10 = Gf_X8_seekRests_117_1 j10l3.toInt j117l2.toInt j117a0_37.toInt) → va_P (dC, dI) vwCl [(a0, .inr (8, [a0g_0, a0g_1, a0g_2, a0g_3, a0g_4, a0g_5, a0g_6, a0g_7, a0g_8, a0g_9, a0g_10, a0g_11, a0g_12, a0g_13, a0g_14, a0g_15, a0g_16, a0g_17, a0g_18, a0g_19, a0g_20, a0g_21, a0g_22, a0g_23, a0g_24, a0g_25, a0g_26, a0g_27, a0g_28, a0g_29, a0g_30, a0g_31, a0g_32, a0g_33, a0g_34, a0g_35, a0g_36, Value.int j117a0_37, a0g_38, a0g_39]))] H → va_D A [(a0, .inr (8, [a0g_0, a0g_1, a0g_2, a0g_3, a0g_4, a0g_5, a0g_6, a0g_7, a0g_8, a0g_9, a0g_10, a0g_11, a0g_12, a0g_13, a0g_14, a0g_15, a0g_16, a0g_17, a0g_18, a0g_19, a0g_20, a0g_21, a0g_22, a0g_23, a0g_24, a0g_25, a0g_26, a0g_27, a0g_28, a0g_29, a0g_30, a0g_31, a0g_32, a0g_33, a0g_34, a0g_35, a0g_36, Value.int j117a0_37, a0g_38, a0g_39]))] → va_S A s.heap H locs → lv_has ls 6 [(0, .ref a0), (1, .int a1), (2, .int j117l2), (3, .int j10l3)] → K H locs (F0 m 117 ls []) := by
                intro j117l2 j117a0_37 H locs ls  hF1 hP hD hS hl
                refine (hK0 _ _ _).mpr ?_
                have hF1 := hF1.trans (Gf_X8_seekRests_117_1.eq_1 j10l3.toInt j117l2.toInt j117a0_37.toInt)
                obtain ⟨x117, ex117⟩ : ∃ y : Int32, y = j10l3 + Int32.ofInt 1 := ⟨_, rfl⟩
                have qx117 : x117.toInt = j10l3.toInt + 1 := ai_inc ex117 (by decide) (by decide) u12f_j10l3 (by decide)
                have bx117 : (1 : Int) ≤ x117.toInt ∧ x117.toInt ≤ 4 := ⟨by rw [qx117]; exact Int.add_le_add bj10l3_l (Int.le_refl _), by rw [qx117]; exact Int.add_le_add u12f_j10l3 (Int.le_refl _)⟩
                refine lv_iinc (v := x117) (lv' := [(3, .int x117), (0, .ref a0), (1, .int a1), (2, .int j117l2)]) hx hb dX8_seekRests_117 hl (k := 3) rfl ex117.symm (by decide) rfl (fun ls hl => ?_)
                have hF1 := hF1.trans (fl_lt_eq (show x117.toInt = j10l3.toInt + 1 from qx117))
                refine lv_goto (tgt := 10) hx hb dX8_seekRests_120 (by decide) ?_
                exact (hK0 _ _ _).mp (ih10 x117 j117l2 j117a0_37 _ _ _ (by have h0 := qx117; omega) (Int.le_trans zq4 bx117.1) bx117.2 (hF0.trans (fl_wh_l (hSX10.trans hF1))) hP hD hS (lv_sub hl [1, 2, 3, 0] rfl))
              refine lv_icmp_gt (tgt := 117) hx hb dX8_seekRests_65 (by decide) (fun c65 => ?_) (fun c65 => ?_)
              · have gc65 := ai_lt c65
                have u65t_r62 : r62.toInt ≤ (2147483646 : Int) := ai_lthi gc65 (ai_max r54)
                have l65t_r54 : (-2147483647 : Int) ≤ r54.toInt := ai_ltlo gc65 (ai_min r62)
                have hF1 := hF1.trans (if_pos (show r62.toInt < r54.toInt from gc65))
                exact (hK0 _ _ _).mp (J117 j10l2 j10a0_37 _ _ _   hF1 hP hD hS (lv_sub hl [0, 1, 2, 3] rfl))
              · have gc65 := ai_nlt c65
                have hF1 := hF1.trans (if_neg (show ¬ (r62.toInt < r54.toInt) from Int.not_lt.mpr gc65))
                refine lv_iload hx hb dX8_seekRests_68 (lv_at hl 4 rfl) ?_
                refine lv_iload hx hb dX8_seekRests_70 (lv_at hl 5 rfl) ?_
                have J80 : ∀ (j80s0 : Int32) (H : Heap) (locs : List Loc) (ls : Array Slot), (0 : Int) ≤ j80s0.toInt → j80s0.toInt ≤ (1 : Int) → (SX10 = Gf_X8_seekRests_80_1 j10l3.toInt j10l2.toInt j10a0_37.toInt j25s0.toInt j39s0.toInt j80s0.toInt) → va_P (dC, dI) vwCl [(a0, .inr (8, [a0g_0, a0g_1, a0g_2, a0g_3, a0g_4, a0g_5, a0g_6, a0g_7, a0g_8, a0g_9, a0g_10, a0g_11, a0g_12, a0g_13, a0g_14, a0g_15, a0g_16, a0g_17, a0g_18, a0g_19, a0g_20, a0g_21, a0g_22, a0g_23, a0g_24, a0g_25, a0g_26, a0g_27, a0g_28, a0g_29, a0g_30, a0g_31, a0g_32, a0g_33, a0g_34, a0g_35, a0g_36, Value.int j10a0_37, a0g_38, a0g_39]))] H → va_D A [(a0, .inr (8, [a0g_0, a0g_1, a0g_2, a0g_3, a0g_4, a0g_5, a0g_6, a0g_7, a0g_8, a0g_9, a0g_10, a0g_11, a0g_12, a0g_13, a0g_14, a0g_15, a0g_16, a0g_17, a0g_18, a0g_19, a0g_20, a0g_21, a0g_22, a0g_23, a0g_24, a0g_25, a0g_26, a0g_27, a0g_28, a0g_29, a0g_30, a0g_31, a0g_32, a0g_33, a0g_34, a0g_35, a0g_36, Value.int j10a0_37, a0g_38, a0g_39]))] → va_S A s.heap H locs → lv_has ls 6 [(0, .ref a0), (1, .int a1), (2, .int j10l2), (3, .int j10l3), (4, .int j25s0), (5, .int j39s0)] → K H locs (F0 m 80 ls [.int j80s0, .int j25s0]) := by
                  intro j80s0 H locs ls  bj80s0_l bj80s0_u hF1 hP hD hS hl
                  refine (hK0 _ _ _).mpr ?_
                  have hF1 := hF1.trans (Gf_X8_seekRests_80_1.eq_1 j10l3.toInt j10l2.toInt j10a0_37.toInt j25s0.toInt j39s0.toInt j80s0.toInt)
                  obtain ⟨hPc, hDc, hFc, hCc⟩ := zc_cut (wc := []) hP hD hS hA [] (by decide +kernel) rfl
                  have hKc := hK.sub (tys' := []) [] rfl
                  refine va_calli (va_runS (As := [.int j25s0, .int j80s0]) (rest := []) ⟨hx, hb, hml, hown, hts⟩ (f_X8_otherHas l dC dI H.size j25s0 j80s0 ) (va_cwS 2 hts gX8_seekRests_X8_otherHas rfl rfl rfl zd_X8_otherHas.2 ⟨Nat.le_of_ble_eq_true rfl, Nat.le_of_ble_eq_true rfl⟩) ⟨ax_blind (fun _ _ _ _ _ => trivial), ax_pre hPc hKc hDc (fun _ _ => trivial)⟩ rfl rfl hl.1 rfl (lv_room (Nat.le_of_ble_eq_true rfl)) dX8_seekRests_80 ⟨Nat.le_of_ble_eq_true rfl, Nat.le_of_ble_eq_true rfl⟩) hS (fun q _ h => hFc q h) hFc (fun r80 u t H locs ht hvm hw hB hz1 hk1 hS => ?_)
                  obtain ⟨hP1, hK1, hD1⟩ := hB
                  rw [ht] at hP1
                  obtain ⟨hP, hD⟩ := zc_back (w := [(a0, .inr (8, [a0g_0, a0g_1, a0g_2, a0g_3, a0g_4, a0g_5, a0g_6, a0g_7, a0g_8, a0g_9, a0g_10, a0g_11, a0g_12, a0g_13, a0g_14, a0g_15, a0g_16, a0g_17, a0g_18, a0g_19, a0g_20, a0g_21, a0g_22, a0g_23, a0g_24, a0g_25, a0g_26, a0g_27, a0g_28, a0g_29, a0g_30, a0g_31, a0g_32, a0g_33, a0g_34, a0g_35, a0g_36, Value.int j10a0_37, a0g_38, a0g_39]))]) hP hD hCc hk1 hFc hP1 hD1 [.inl 0] (by decide +kernel) rfl
                  obtain ⟨hw, hfr80⟩ := hw
                  have hc80 : Ff_X8_otherHas j25s0.toInt j80s0.toInt = r80.toInt := hfr80.symm
                  have hF1 := hF1.trans (fl_lt_eq hc80.symm)
                  rcases hw with hw | hw | hw | hw
                  · subst hw
                    have hF1 := hF1.trans (if_pos (by decide))
                    refine lv_iload hx hb dX8_seekRests_83 (lv_at hl 4 rfl) ?_
                    refine lv_iload hx hb dX8_seekRests_85 (lv_at hl 5 rfl) ?_
                    obtain ⟨hPc, hDc, hFc, hCc⟩ := zc_cut (wc := []) hP hD hS hA [] (by decide +kernel) rfl
                    have hKc := hK.sub (tys' := []) [] rfl
                    refine va_calli (va_runS (As := [.int j25s0, .int j39s0]) (rest := [.int 3]) ⟨hx, hb, hml, hown, hts⟩ (f_X8_otherHas l dC dI H.size j25s0 j39s0 ) (va_cwS 2 hts gX8_seekRests_X8_otherHas rfl rfl rfl zd_X8_otherHas.2 ⟨Nat.le_of_ble_eq_true rfl, Nat.le_of_ble_eq_true rfl⟩) ⟨ax_blind (fun _ _ _ _ _ => trivial), ax_pre hPc hKc hDc (fun _ _ => trivial)⟩ rfl rfl hl.1 rfl (lv_room (Nat.le_of_ble_eq_true rfl)) dX8_seekRests_87 ⟨Nat.le_of_ble_eq_true rfl, Nat.le_of_ble_eq_true rfl⟩) hS (fun q _ h => hFc q h) hFc (fun r87 u t H locs ht hvm hw hB hz1 hk1 hS => ?_)
                    obtain ⟨hP1, hK1, hD1⟩ := hB
                    rw [ht] at hP1
                    obtain ⟨hP, hD⟩ := zc_back (w := [(a0, .inr (8, [a0g_0, a0g_1, a0g_2, a0g_3, a0g_4, a0g_5, a0g_6, a0g_7, a0g_8, a0g_9, a0g_10, a0g_11, a0g_12, a0g_13, a0g_14, a0g_15, a0g_16, a0g_17, a0g_18, a0g_19, a0g_20, a0g_21, a0g_22, a0g_23, a0g_24, a0g_25, a0g_26, a0g_27, a0g_28, a0g_29, a0g_30, a0g_31, a0g_32, a0g_33, a0g_34, a0g_35, a0g_36, Value.int j10a0_37, a0g_38, a0g_39]))]) hP hD hCc hk1 hFc hP1 hD1 [.inl 0] (by decide +kernel) rfl
                    obtain ⟨hw, hfr87⟩ := hw
                    have hc87 : Ff_X8_otherHas j25s0.toInt j39s0.toInt = r87.toInt := hfr87.symm
                    have hF1 := hF1.trans (fl_lt_eq hc87.symm)
                    rcases hw with hw | hw | hw | hw
                    · subst hw
                      have hF1 := hF1.trans (if_pos (by decide))
                      refine lv_icmp_le (tgt := 96) hx hb dX8_seekRests_90 (by decide) (fun _ => ?_) (fun c90 => absurd (by decide +kernel) c90)
                      refine lv_iload_n hx hb dX8_seekRests_96 rfl (lv_at hl 2 rfl) ?_
                      have J114 : ∀ (j114a0_37 : Int32) (H : Heap) (locs : List Loc) (ls : Array Slot), (SX10 = Gf_X8_seekRests_114_1 j10l3.toInt j10l2.toInt j114a0_37.toInt) → va_P (dC, dI) vwCl [(a0, .inr (8, [a0g_0, a0g_1, a0g_2, a0g_3, a0g_4, a0g_5, a0g_6, a0g_7, a0g_8, a0g_9, a0g_10, a0g_11, a0g_12, a0g_13, a0g_14, a0g_15, a0g_16, a0g_17, a0g_18, a0g_19, a0g_20, a0g_21, a0g_22, a0g_23, a0g_24, a0g_25, a0g_26, a0g_27, a0g_28, a0g_29, a0g_30, a0g_31, a0g_32, a0g_33, a0g_34, a0g_35, a0g_36, Value.int j114a0_37, a0g_38, a0g_39]))] H → va_D A [(a0, .inr (8, [a0g_0, a0g_1, a0g_2, a0g_3, a0g_4, a0g_5, a0g_6, a0g_7, a0g_8, a0g_9, a0g_10, a0g_11, a0g_12, a0g_13, a0g_14, a0g_15, a0g_16, a0g_17, a0g_18, a0g_19, a0g_20, a0g_21, a0g_22, a0g_23, a0g_24, a0g_25, a0g_26, a0g_27, a0g_28, a0g_29, a0g_30, a0g_31, a0g_32, a0g_33, a0g_34, a0g_35, a0g_36, Value.int j114a0_37, a0g_38, a0g_39]))] → va_S A s.heap H locs → lv_has ls 6 [(0, .ref a0), (1, .int a1), (2, .int j10l2), (3, .int j10l3)] → K H locs (F0 m 114 ls []) := by
                        intro j114a0_37 H locs ls  hF1 hP hD hS hl
                        refine (hK0 _ _ _).mpr ?_
                        have hF1 := hF1.trans (Gf_X8_seekRests_114_1.eq_1 j10l3.toInt j10l2.toInt j114a0_37.toInt)
                        obtain ⟨x114, ex114⟩ : ∃ y : Int32, y = j10l2 + Int32.ofInt 1 := ⟨_, rfl⟩
                        refine lv_iinc (v := x114) (lv' := [(2, .int x114), (0, .ref a0), (1, .int a1), (3, .int j10l3)]) hx hb dX8_seekRests_114 hl (k := 2) rfl ex114.symm (by decide) rfl (fun ls hl => ?_)
                        have fqx114 := fl_iadd_eq ex114
                        have hF1 := hF1.trans (fl_lt_eq (show x114.toInt = fl_iadd j10l2.toInt 1 from fqx114))
                        exact (hK0 _ _ _).mp (J117 x114 j114a0_37 _ _ _   hF1 hP hD hS (lv_sub hl [1, 2, 0, 3] rfl))
                      refine lv_if_ne (tgt := 114) hx hb dX8_seekRests_97 (by decide) (fun c97 => ?_) (fun c97 => ?_)
                      · have gc97 := ai_ne c97
                        have hF1 := hF1.trans (if_neg (show ¬ (j10l2.toInt = 0) from  gc97))
                        exact (hK0 _ _ _).mp (J114 j10a0_37 _ _ _   hF1 hP hD hS (lv_sub hl [0, 1, 2, 3] rfl))
                      · have gc97 := ai_eq c97
                        have u97f_j10l2 : j10l2.toInt ≤ (0 : Int) := Int.le_trans (Int.le_of_eq gc97) zq6
                        have l97f_j10l2 : (0 : Int) ≤ j10l2.toInt := Int.le_trans zq5 (Int.le_of_eq gc97.symm)
                        have hF1 := hF1.trans (if_pos (show j10l2.toInt = 0 from gc97))
                        refine lv_aload_n hx hb dX8_seekRests_100 rfl (lv_at hl 0 rfl) ?_
                        refine lv_bipush (v := 10) hx hb dX8_seekRests_101 zk_bipush_10 ?_
                        refine lv_iload_n hx hb dX8_seekRests_103 rfl (lv_at hl 3 rfl) ?_
                        refine lv_iconst (v := 2) hx hb dX8_seekRests_104 zk_iconst_2 ?_
                        refine lv_idiv hx hb dX8_seekRests_105 (by decide +kernel) ?_
                        refine lv_topi (fun x105 ex105 => ?_)
                        have qx105 := ai_div ex105 ⟨bj10l3_l, u12f_j10l3⟩ (Int.lt_of_lt_of_le zq100 zq12)
                        have u105z_x105 : x105.toInt ≤ (1 : Int) := (by have h1 := qx105.1; have h2 := u12f_j10l3; have h3 : (2 : Int32).toInt = 2 := (by decide); rw [h3] at h1; omega)
                        have hF1 := hF1.trans (fl_lt_eq (show x105.toInt = j10l3.toInt / 2 from qx105.1))
                        refine lv_imul hx hb dX8_seekRests_106 ?_
                        refine lv_topi (fun x106 ex106 => ?_)
                        have qx106 : x106.toInt = (10 : Int32).toInt * x105.toInt ∧ (0 : Int) ≤ x106.toInt ∧ x106.toInt ≤ 10 := ai_mul ex106 ⟨zq26, zq27⟩ ⟨qx105.2.1, u105z_x105⟩ (by decide) (by decide) zq103
                        have wx106 : x106.toInt = 10 * x105.toInt := qx106.1
                        have hF1 := hF1.trans (fl_lt_eq (show x106.toInt = 10 * x105.toInt from qx106.1))
                        refine lv_iload_n hx hb dX8_seekRests_107 rfl (lv_at hl 3 rfl) ?_
                        refine lv_iconst (v := 2) hx hb dX8_seekRests_108 zk_iconst_2 ?_
                        refine lv_irem hx hb dX8_seekRests_109 (by decide +kernel) ?_
                        refine lv_topi (fun x109 ex109 => ?_)
                        have qx109 := ai_rem2 ex109 bj10l3_l (Int.lt_of_lt_of_le zq100 zq12) zq13
                        have wx109 : x109.toInt = j10l3.toInt % 2 := qx109.1
                        have hF1 := hF1.trans (fl_lt_eq (show x109.toInt = j10l3.toInt % 2 from qx109.1))
                        refine lv_iadd hx hb dX8_seekRests_110 ?_
                        refine lv_topi (fun x110 ex110 => ?_)
                        have qx110 : x110.toInt = x106.toInt + x109.toInt := ai_add ex110 ⟨qx106.2.1, qx106.2.2⟩ ⟨qx109.2.1, qx109.2.2⟩ (by decide) (by decide)
                        have bx110 : (0 : Int) ≤ x110.toInt ∧ x110.toInt ≤ 11 := ⟨by rw [qx110]; exact Int.add_le_add qx106.2.1 qx109.2.1, by rw [qx110]; exact Int.add_le_add qx106.2.2 qx109.2.2⟩
                        have hF1 := hF1.trans (fl_lt_eq (show x110.toInt = x106.toInt + x109.toInt from qx110))
                        refine va_put (D := (dC, dI)) (ci := 8) (v := .int x110) (ty := .int) (C := RX8) (T := TX8) (N := 40) hx hb hts zi_X8_seekRests_8 tyX8 tyX8_ok nmX8 hown hK hP hD hS 0 rfl rfl 37 (by decide) (hts (.fieldLink RX8 359 "WaxTurnsModel" "firstRest" "I") (List.mem_cons_of_mem _ (List.mem_append_left _ (List.mem_of_getElem? (i := 0) rfl)))) (fun _ h9 => h9) rfl (tyX8_ok 37 (by decide)) rfl rfl (Nat.le_of_ble_eq_true rfl) dX8_seekRests_111 (fun H locs hP hD hS => ?_)
                        obtain ⟨hP, hD⟩ := zc_re (w := [(a0, .inr (8, [a0g_0, a0g_1, a0g_2, a0g_3, a0g_4, a0g_5, a0g_6, a0g_7, a0g_8, a0g_9, a0g_10, a0g_11, a0g_12, a0g_13, a0g_14, a0g_15, a0g_16, a0g_17, a0g_18, a0g_19, a0g_20, a0g_21, a0g_22, a0g_23, a0g_24, a0g_25, a0g_26, a0g_27, a0g_28, a0g_29, a0g_30, a0g_31, a0g_32, a0g_33, a0g_34, a0g_35, a0g_36, Value.int x110, a0g_38, a0g_39]))]) hP hD rfl
                        exact (hK0 _ _ _).mp (J114 x110 _ _ _   hF1 hP hD hS (lv_sub hl [0, 1, 2, 3] rfl))
                    · obtain ⟨hw, h87_0, h87_1, h87_2, h87_3⟩ := hw
                      subst hw
                      have l87k1_j25s0 : (0 : Int) ≤ j25s0.toInt := bj25s0_l
                      have u87k1_j25s0 : j25s0.toInt ≤ (0 : Int) := h87_1
                      have l87k1_j39s0 : (0 : Int) ≤ j39s0.toInt := bj39s0_l
                      have u87k1_j39s0 : j39s0.toInt ≤ (0 : Int) := h87_3
                      have hF1 := hF1.trans (if_neg (by decide))
                      have hF1 := hF1.trans (if_pos (by decide))
                      refine lv_icmp_le (tgt := 96) hx hb dX8_seekRests_90 (by decide) (fun c90 => absurd c90 (by decide +kernel)) (fun _ => ?_)
                      refine lv_goto (tgt := 117) hx hb dX8_seekRests_93 (by decide) ?_
                      exact (hK0 _ _ _).mp (J117 j10l2 j10a0_37 _ _ _   hF1 hP hD hS (lv_sub hl [0, 1, 2, 3] rfl))
                    · obtain ⟨hw, h87_0, h87_1⟩ := hw
                      subst hw
                      have l87k2_j39s0 : (0 : Int) ≤ j39s0.toInt := bj39s0_l
                      have u87k2_j39s0 : j39s0.toInt ≤ (0 : Int) := h87_1
                      have hF1 := hF1.trans (if_neg (by decide))
                      have hF1 := hF1.trans (if_neg (by decide))
                      have hF1 := hF1.trans (if_pos (by decide))
                      refine lv_icmp_le (tgt := 96) hx hb dX8_seekRests_90 (by decide) (fun c90 => absurd c90 (by decide +kernel)) (fun _ => ?_)
                      refine lv_goto (tgt := 117) hx hb dX8_seekRests_93 (by decide) ?_
                      exact (hK0 _ _ _).mp (J117 j10l2 j10a0_37 _ _ _   hF1 hP hD hS (lv_sub hl [0, 1, 2, 3] rfl))
                    · obtain ⟨hw, h87_0, h87_1⟩ := hw
                      subst hw
                      have l87k3_j25s0 : (0 : Int) ≤ j25s0.toInt := bj25s0_l
                      have u87k3_j25s0 : j25s0.toInt ≤ (0 : Int) := h87_1
                      have hF1 := hF1.trans (if_neg (by decide))
                      have hF1 := hF1.trans (if_neg (by decide))
                      have hF1 := hF1.trans (if_neg (by decide))
                      refine lv_icmp_le (tgt := 96) hx hb dX8_seekRests_90 (by decide) (fun c90 => absurd c90 (by decide +kernel)) (fun _ => ?_)
                      refine lv_goto (tgt := 117) hx hb dX8_seekRests_93 (by decide) ?_
                      exact (hK0 _ _ _).mp (J117 j10l2 j10a0_37 _ _ _   hF1 hP hD hS (lv_sub hl [0, 1, 2, 3] rfl))
                  · obtain ⟨hw, h80_0, h80_1, h80_2, h80_3⟩ := hw
                    subst hw
                    have l80k1_j25s0 : (0 : Int) ≤ j25s0.toInt := bj25s0_l
                    have u80k1_j25s0 : j25s0.toInt ≤ (0 : Int) := h80_1
                    have l80k1_j80s0 : (0 : Int) ≤ j80s0.toInt := bj80s0_l
                    have u80k1_j80s0 : j80s0.toInt ≤ (0 : Int) := h80_3
                    have hF1 := hF1.trans (if_neg (by decide))
                    have hF1 := hF1.trans (if_pos (by decide))
                    refine lv_iload hx hb dX8_seekRests_83 (lv_at hl 4 rfl) ?_
                    refine lv_iload hx hb dX8_seekRests_85 (lv_at hl 5 rfl) ?_
                    obtain ⟨hPc, hDc, hFc, hCc⟩ := zc_cut (wc := []) hP hD hS hA [] (by decide +kernel) rfl
                    have hKc := hK.sub (tys' := []) [] rfl
                    refine va_calli (va_runS (As := [.int j25s0, .int j39s0]) (rest := [.int 1]) ⟨hx, hb, hml, hown, hts⟩ (f_X8_otherHas l dC dI H.size j25s0 j39s0 ) (va_cwS 2 hts gX8_seekRests_X8_otherHas rfl rfl rfl zd_X8_otherHas.2 ⟨Nat.le_of_ble_eq_true rfl, Nat.le_of_ble_eq_true rfl⟩) ⟨ax_blind (fun _ _ _ _ _ => trivial), ax_pre hPc hKc hDc (fun _ _ => trivial)⟩ rfl rfl hl.1 rfl (lv_room (Nat.le_of_ble_eq_true rfl)) dX8_seekRests_87 ⟨Nat.le_of_ble_eq_true rfl, Nat.le_of_ble_eq_true rfl⟩) hS (fun q _ h => hFc q h) hFc (fun r87 u t H locs ht hvm hw hB hz1 hk1 hS => ?_)
                    obtain ⟨hP1, hK1, hD1⟩ := hB
                    rw [ht] at hP1
                    obtain ⟨hP, hD⟩ := zc_back (w := [(a0, .inr (8, [a0g_0, a0g_1, a0g_2, a0g_3, a0g_4, a0g_5, a0g_6, a0g_7, a0g_8, a0g_9, a0g_10, a0g_11, a0g_12, a0g_13, a0g_14, a0g_15, a0g_16, a0g_17, a0g_18, a0g_19, a0g_20, a0g_21, a0g_22, a0g_23, a0g_24, a0g_25, a0g_26, a0g_27, a0g_28, a0g_29, a0g_30, a0g_31, a0g_32, a0g_33, a0g_34, a0g_35, a0g_36, Value.int j10a0_37, a0g_38, a0g_39]))]) hP hD hCc hk1 hFc hP1 hD1 [.inl 0] (by decide +kernel) rfl
                    obtain ⟨hw, hfr87⟩ := hw
                    have hc87 : Ff_X8_otherHas j25s0.toInt j39s0.toInt = r87.toInt := hfr87.symm
                    have hF1 := hF1.trans (fl_lt_eq hc87.symm)
                    rcases hw with hw | hw | hw | hw
                    · subst hw
                      have hF1 := hF1.trans (if_pos (by decide))
                      refine lv_icmp_le (tgt := 96) hx hb dX8_seekRests_90 (by decide) (fun _ => ?_) (fun c90 => absurd (by decide +kernel) c90)
                      refine lv_iload_n hx hb dX8_seekRests_96 rfl (lv_at hl 2 rfl) ?_
                      have J114 : ∀ (j114a0_37 : Int32) (H : Heap) (locs : List Loc) (ls : Array Slot), (SX10 = Gf_X8_seekRests_114_2 j10l3.toInt j10l2.toInt j114a0_37.toInt) → va_P (dC, dI) vwCl [(a0, .inr (8, [a0g_0, a0g_1, a0g_2, a0g_3, a0g_4, a0g_5, a0g_6, a0g_7, a0g_8, a0g_9, a0g_10, a0g_11, a0g_12, a0g_13, a0g_14, a0g_15, a0g_16, a0g_17, a0g_18, a0g_19, a0g_20, a0g_21, a0g_22, a0g_23, a0g_24, a0g_25, a0g_26, a0g_27, a0g_28, a0g_29, a0g_30, a0g_31, a0g_32, a0g_33, a0g_34, a0g_35, a0g_36, Value.int j114a0_37, a0g_38, a0g_39]))] H → va_D A [(a0, .inr (8, [a0g_0, a0g_1, a0g_2, a0g_3, a0g_4, a0g_5, a0g_6, a0g_7, a0g_8, a0g_9, a0g_10, a0g_11, a0g_12, a0g_13, a0g_14, a0g_15, a0g_16, a0g_17, a0g_18, a0g_19, a0g_20, a0g_21, a0g_22, a0g_23, a0g_24, a0g_25, a0g_26, a0g_27, a0g_28, a0g_29, a0g_30, a0g_31, a0g_32, a0g_33, a0g_34, a0g_35, a0g_36, Value.int j114a0_37, a0g_38, a0g_39]))] → va_S A s.heap H locs → lv_has ls 6 [(0, .ref a0), (1, .int a1), (2, .int j10l2), (3, .int j10l3)] → K H locs (F0 m 114 ls []) := by
                        intro j114a0_37 H locs ls  hF1 hP hD hS hl
                        refine (hK0 _ _ _).mpr ?_
                        have hF1 := hF1.trans (Gf_X8_seekRests_114_2.eq_1 j10l3.toInt j10l2.toInt j114a0_37.toInt)
                        obtain ⟨x114, ex114⟩ : ∃ y : Int32, y = j10l2 + Int32.ofInt 1 := ⟨_, rfl⟩
                        refine lv_iinc (v := x114) (lv' := [(2, .int x114), (0, .ref a0), (1, .int a1), (3, .int j10l3)]) hx hb dX8_seekRests_114 hl (k := 2) rfl ex114.symm (by decide) rfl (fun ls hl => ?_)
                        have fqx114 := fl_iadd_eq ex114
                        have hF1 := hF1.trans (fl_lt_eq (show x114.toInt = fl_iadd j10l2.toInt 1 from fqx114))
                        exact (hK0 _ _ _).mp (J117 x114 j114a0_37 _ _ _   hF1 hP hD hS (lv_sub hl [1, 2, 0, 3] rfl))
                      refine lv_if_ne (tgt := 114) hx hb dX8_seekRests_97 (by decide) (fun c97 => ?_) (fun c97 => ?_)
                      · have gc97 := ai_ne c97
                        have hF1 := hF1.trans (if_neg (show ¬ (j10l2.toInt = 0) from  gc97))
                        exact (hK0 _ _ _).mp (J114 j10a0_37 _ _ _   hF1 hP hD hS (lv_sub hl [0, 1, 2, 3] rfl))
                      · have gc97 := ai_eq c97
                        have u97f_j10l2 : j10l2.toInt ≤ (0 : Int) := Int.le_trans (Int.le_of_eq gc97) zq6
                        have l97f_j10l2 : (0 : Int) ≤ j10l2.toInt := Int.le_trans zq5 (Int.le_of_eq gc97.symm)
                        have hF1 := hF1.trans (if_pos (show j10l2.toInt = 0 from gc97))
                        refine lv_aload_n hx hb dX8_seekRests_100 rfl (lv_at hl 0 rfl) ?_
                        refine lv_bipush (v := 10) hx hb dX8_seekRests_101 zk_bipush_10 ?_
                        refine lv_iload_n hx hb dX8_seekRests_103 rfl (lv_at hl 3 rfl) ?_
                        refine lv_iconst (v := 2) hx hb dX8_seekRests_104 zk_iconst_2 ?_
                        refine lv_idiv hx hb dX8_seekRests_105 (by decide +kernel) ?_
                        refine lv_topi (fun x105 ex105 => ?_)
                        have qx105 := ai_div ex105 ⟨bj10l3_l, u12f_j10l3⟩ (Int.lt_of_lt_of_le zq100 zq12)
                        have u105z_x105 : x105.toInt ≤ (1 : Int) := (by have h1 := qx105.1; have h2 := u12f_j10l3; have h3 : (2 : Int32).toInt = 2 := (by decide); rw [h3] at h1; omega)
                        have hF1 := hF1.trans (fl_lt_eq (show x105.toInt = j10l3.toInt / 2 from qx105.1))
                        refine lv_imul hx hb dX8_seekRests_106 ?_
                        refine lv_topi (fun x106 ex106 => ?_)
                        have qx106 : x106.toInt = (10 : Int32).toInt * x105.toInt ∧ (0 : Int) ≤ x106.toInt ∧ x106.toInt ≤ 10 := ai_mul ex106 ⟨zq26, zq27⟩ ⟨qx105.2.1, u105z_x105⟩ (by decide) (by decide) zq103
                        have wx106 : x106.toInt = 10 * x105.toInt := qx106.1
                        have hF1 := hF1.trans (fl_lt_eq (show x106.toInt = 10 * x105.toInt from qx106.1))
                        refine lv_iload_n hx hb dX8_seekRests_107 rfl (lv_at hl 3 rfl) ?_
                        refine lv_iconst (v := 2) hx hb dX8_seekRests_108 zk_iconst_2 ?_
                        refine lv_irem hx hb dX8_seekRests_109 (by decide +kernel) ?_
                        refine lv_topi (fun x109 ex109 => ?_)
                        have qx109 := ai_rem2 ex109 bj10l3_l (Int.lt_of_lt_of_le zq100 zq12) zq13
                        have wx109 : x109.toInt = j10l3.toInt % 2 := qx109.1
                        have hF1 := hF1.trans (fl_lt_eq (show x109.toInt = j10l3.toInt % 2 from qx109.1))
                        refine lv_iadd hx hb dX8_seekRests_110 ?_
                        refine lv_topi (fun x110 ex110 => ?_)
                        have qx110 : x110.toInt = x106.toInt + x109.toInt := ai_add ex110 ⟨qx106.2.1, qx106.2.2⟩ ⟨qx109.2.1, qx109.2.2⟩ (by decide) (by decide)
                        have bx110 : (0 : Int) ≤ x110.toInt ∧ x110.toInt ≤ 11 := ⟨by rw [qx110]; exact Int.add_le_add qx106.2.1 qx109.2.1, by rw [qx110]; exact Int.add_le_add qx106.2.2 qx109.2.2⟩
                        have hF1 := hF1.trans (fl_lt_eq (show x110.toInt = x106.toInt + x109.toInt from qx110))
                        refine va_put (D := (dC, dI)) (ci := 8) (v := .int x110) (ty := .int) (C := RX8) (T := TX8) (N := 40) hx hb hts zi_X8_seekRests_8 tyX8 tyX8_ok nmX8 hown hK hP hD hS 0 rfl rfl 37 (by decide) (hts (.fieldLink RX8 359 "WaxTurnsModel" "firstRest" "I") (List.mem_cons_of_mem _ (List.mem_append_left _ (List.mem_of_getElem? (i := 0) rfl)))) (fun _ h9 => h9) rfl (tyX8_ok 37 (by decide)) rfl rfl (Nat.le_of_ble_eq_true rfl) dX8_seekRests_111 (fun H locs hP hD hS => ?_)
                        obtain ⟨hP, hD⟩ := zc_re (w := [(a0, .inr (8, [a0g_0, a0g_1, a0g_2, a0g_3, a0g_4, a0g_5, a0g_6, a0g_7, a0g_8, a0g_9, a0g_10, a0g_11, a0g_12, a0g_13, a0g_14, a0g_15, a0g_16, a0g_17, a0g_18, a0g_19, a0g_20, a0g_21, a0g_22, a0g_23, a0g_24, a0g_25, a0g_26, a0g_27, a0g_28, a0g_29, a0g_30, a0g_31, a0g_32, a0g_33, a0g_34, a0g_35, a0g_36, Value.int x110, a0g_38, a0g_39]))]) hP hD rfl
                        exact (hK0 _ _ _).mp (J114 x110 _ _ _   hF1 hP hD hS (lv_sub hl [0, 1, 2, 3] rfl))
                    · obtain ⟨hw, h87_0, h87_1, h87_2, h87_3⟩ := hw
                      subst hw
                      have l87k1_j25s0 : (0 : Int) ≤ j25s0.toInt := l80k1_j25s0
                      have u87k1_j25s0 : j25s0.toInt ≤ (0 : Int) := u80k1_j25s0
                      have l87k1_j39s0 : (0 : Int) ≤ j39s0.toInt := bj39s0_l
                      have u87k1_j39s0 : j39s0.toInt ≤ (0 : Int) := h87_3
                      have hF1 := hF1.trans (if_neg (by decide))
                      have hF1 := hF1.trans (if_pos (by decide))
                      refine lv_icmp_le (tgt := 96) hx hb dX8_seekRests_90 (by decide) (fun _ => ?_) (fun c90 => absurd (by decide +kernel) c90)
                      refine lv_iload_n hx hb dX8_seekRests_96 rfl (lv_at hl 2 rfl) ?_
                      have J114 : ∀ (j114a0_37 : Int32) (H : Heap) (locs : List Loc) (ls : Array Slot), (SX10 = Gf_X8_seekRests_114_3 j10l3.toInt j10l2.toInt j114a0_37.toInt) → va_P (dC, dI) vwCl [(a0, .inr (8, [a0g_0, a0g_1, a0g_2, a0g_3, a0g_4, a0g_5, a0g_6, a0g_7, a0g_8, a0g_9, a0g_10, a0g_11, a0g_12, a0g_13, a0g_14, a0g_15, a0g_16, a0g_17, a0g_18, a0g_19, a0g_20, a0g_21, a0g_22, a0g_23, a0g_24, a0g_25, a0g_26, a0g_27, a0g_28, a0g_29, a0g_30, a0g_31, a0g_32, a0g_33, a0g_34, a0g_35, a0g_36, Value.int j114a0_37, a0g_38, a0g_39]))] H → va_D A [(a0, .inr (8, [a0g_0, a0g_1, a0g_2, a0g_3, a0g_4, a0g_5, a0g_6, a0g_7, a0g_8, a0g_9, a0g_10, a0g_11, a0g_12, a0g_13, a0g_14, a0g_15, a0g_16, a0g_17, a0g_18, a0g_19, a0g_20, a0g_21, a0g_22, a0g_23, a0g_24, a0g_25, a0g_26, a0g_27, a0g_28, a0g_29, a0g_30, a0g_31, a0g_32, a0g_33, a0g_34, a0g_35, a0g_36, Value.int j114a0_37, a0g_38, a0g_39]))] → va_S A s.heap H locs → lv_has ls 6 [(0, .ref a0), (1, .int a1), (2, .int j10l2), (3, .int j10l3)] → K H locs (F0 m 114 ls []) := by
                        intro j114a0_37 H locs ls  hF1 hP hD hS hl
                        refine (hK0 _ _ _).mpr ?_
                        have hF1 := hF1.trans (Gf_X8_seekRests_114_3.eq_1 j10l3.toInt j10l2.toInt j114a0_37.toInt)
                        obtain ⟨x114, ex114⟩ : ∃ y : Int32, y = j10l2 + Int32.ofInt 1 := ⟨_, rfl⟩
                        refine lv_iinc (v := x114) (lv' := [(2, .int x114), (0, .ref a0), (1, .int a1), (3, .int j10l3)]) hx hb dX8_seekRests_114 hl (k := 2) rfl ex114.symm (by decide) rfl (fun ls hl => ?_)
                        have fqx114 := fl_iadd_eq ex114
                        have hF1 := hF1.trans (fl_lt_eq (show x114.toInt = fl_iadd j10l2.toInt 1 from fqx114))
                        exact (hK0 _ _ _).mp (J117 x114 j114a0_37 _ _ _   hF1 hP hD hS (lv_sub hl [1, 2, 0, 3] rfl))
                      refine lv_if_ne (tgt := 114) hx hb dX8_seekRests_97 (by decide) (fun c97 => ?_) (fun c97 => ?_)
                      · have gc97 := ai_ne c97
                        have hF1 := hF1.trans (if_neg (show ¬ (j10l2.toInt = 0) from  gc97))
                        exact (hK0 _ _ _).mp (J114 j10a0_37 _ _ _   hF1 hP hD hS (lv_sub hl [0, 1, 2, 3] rfl))
                      · have gc97 := ai_eq c97
                        have u97f_j10l2 : j10l2.toInt ≤ (0 : Int) := Int.le_trans (Int.le_of_eq gc97) zq6
                        have l97f_j10l2 : (0 : Int) ≤ j10l2.toInt := Int.le_trans zq5 (Int.le_of_eq gc97.symm)
                        have hF1 := hF1.trans (if_pos (show j10l2.toInt = 0 from gc97))
                        refine lv_aload_n hx hb dX8_seekRests_100 rfl (lv_at hl 0 rfl) ?_
                        refine lv_bipush (v := 10) hx hb dX8_seekRests_101 zk_bipush_10 ?_
                        refine lv_iload_n hx hb dX8_seekRests_103 rfl (lv_at hl 3 rfl) ?_
                        refine lv_iconst (v := 2) hx hb dX8_seekRests_104 zk_iconst_2 ?_
                        refine lv_idiv hx hb dX8_seekRests_105 (by decide +kernel) ?_
                        refine lv_topi (fun x105 ex105 => ?_)
                        have qx105 := ai_div ex105 ⟨bj10l3_l, u12f_j10l3⟩ (Int.lt_of_lt_of_le zq100 zq12)
                        have u105z_x105 : x105.toInt ≤ (1 : Int) := (by have h1 := qx105.1; have h2 := u12f_j10l3; have h3 : (2 : Int32).toInt = 2 := (by decide); rw [h3] at h1; omega)
                        have hF1 := hF1.trans (fl_lt_eq (show x105.toInt = j10l3.toInt / 2 from qx105.1))
                        refine lv_imul hx hb dX8_seekRests_106 ?_
                        refine lv_topi (fun x106 ex106 => ?_)
                        have qx106 : x106.toInt = (10 : Int32).toInt * x105.toInt ∧ (0 : Int) ≤ x106.toInt ∧ x106.toInt ≤ 10 := ai_mul ex106 ⟨zq26, zq27⟩ ⟨qx105.2.1, u105z_x105⟩ (by decide) (by decide) zq103
                        have wx106 : x106.toInt = 10 * x105.toInt := qx106.1
                        have hF1 := hF1.trans (fl_lt_eq (show x106.toInt = 10 * x105.toInt from qx106.1))
                        refine lv_iload_n hx hb dX8_seekRests_107 rfl (lv_at hl 3 rfl) ?_
                        refine lv_iconst (v := 2) hx hb dX8_seekRests_108 zk_iconst_2 ?_
                        refine lv_irem hx hb dX8_seekRests_109 (by decide +kernel) ?_
                        refine lv_topi (fun x109 ex109 => ?_)
                        have qx109 := ai_rem2 ex109 bj10l3_l (Int.lt_of_lt_of_le zq100 zq12) zq13
                        have wx109 : x109.toInt = j10l3.toInt % 2 := qx109.1
                        have hF1 := hF1.trans (fl_lt_eq (show x109.toInt = j10l3.toInt % 2 from qx109.1))
                        refine lv_iadd hx hb dX8_seekRests_110 ?_
                        refine lv_topi (fun x110 ex110 => ?_)
                        have qx110 : x110.toInt = x106.toInt + x109.toInt := ai_add ex110 ⟨qx106.2.1, qx106.2.2⟩ ⟨qx109.2.1, qx109.2.2⟩ (by decide) (by decide)
                        have bx110 : (0 : Int) ≤ x110.toInt ∧ x110.toInt ≤ 11 := ⟨by rw [qx110]; exact Int.add_le_add qx106.2.1 qx109.2.1, by rw [qx110]; exact Int.add_le_add qx106.2.2 qx109.2.2⟩
                        have hF1 := hF1.trans (fl_lt_eq (show x110.toInt = x106.toInt + x109.toInt from qx110))
                        refine va_put (D := (dC, dI)) (ci := 8) (v := .int x110) (ty := .int) (C := RX8) (T := TX8) (N := 40) hx hb hts zi_X8_seekRests_8 tyX8 tyX8_ok nmX8 hown hK hP hD hS 0 rfl rfl 37 (by decide) (hts (.fieldLink RX8 359 "WaxTurnsModel" "firstRest" "I") (List.mem_cons_of_mem _ (List.mem_append_left _ (List.mem_of_getElem? (i := 0) rfl)))) (fun _ h9 => h9) rfl (tyX8_ok 37 (by decide)) rfl rfl (Nat.le_of_ble_eq_true rfl) dX8_seekRests_111 (fun H locs hP hD hS => ?_)
                        obtain ⟨hP, hD⟩ := zc_re (w := [(a0, .inr (8, [a0g_0, a0g_1, a0g_2, a0g_3, a0g_4, a0g_5, a0g_6, a0g_7, a0g_8, a0g_9, a0g_10, a0g_11, a0g_12, a0g_13, a0g_14, a0g_15, a0g_16, a0g_17, a0g_18, a0g_19, a0g_20, a0g_21, a0g_22, a0g_23, a0g_24, a0g_25, a0g_26, a0g_27, a0g_28, a0g_29, a0g_30, a0g_31, a0g_32, a0g_33, a0g_34, a0g_35, a0g_36, Value.int x110, a0g_38, a0g_39]))]) hP hD rfl
                        exact (hK0 _ _ _).mp (J114 x110 _ _ _   hF1 hP hD hS (lv_sub hl [0, 1, 2, 3] rfl))
                    · obtain ⟨hw, h87_0, h87_1⟩ := hw
                      subst hw
                      have l87k2_j39s0 : (0 : Int) ≤ j39s0.toInt := bj39s0_l
                      have u87k2_j39s0 : j39s0.toInt ≤ (0 : Int) := h87_1
                      have hF1 := hF1.trans (if_neg (by decide))
                      have hF1 := hF1.trans (if_neg (by decide))
                      have hF1 := hF1.trans (if_pos (by decide))
                      refine lv_icmp_le (tgt := 96) hx hb dX8_seekRests_90 (by decide) (fun c90 => absurd c90 (by decide +kernel)) (fun _ => ?_)
                      refine lv_goto (tgt := 117) hx hb dX8_seekRests_93 (by decide) ?_
                      exact (hK0 _ _ _).mp (J117 j10l2 j10a0_37 _ _ _   hF1 hP hD hS (lv_sub hl [0, 1, 2, 3] rfl))
                    · obtain ⟨hw, h87_0, h87_1⟩ := hw
                      subst hw
                      have l87k3_j25s0 : (0 : Int) ≤ j25s0.toInt := l80k1_j25s0
                      have u87k3_j25s0 : j25s0.toInt ≤ (0 : Int) := u80k1_j25s0
                      have hF1 := hF1.trans (if_neg (by decide))
                      have hF1 := hF1.trans (if_neg (by decide))
                      have hF1 := hF1.trans (if_neg (by decide))
                      refine lv_icmp_le (tgt := 96) hx hb dX8_seekRests_90 (by decide) (fun c90 => absurd c90 (by decide +kernel)) (fun _ => ?_)
                      refine lv_goto (tgt := 117) hx hb dX8_seekRests_93 (by decide) ?_
                      exact (hK0 _ _ _).mp (J117 j10l2 j10a0_37 _ _ _   hF1 hP hD hS (lv_sub hl [0, 1, 2, 3] rfl))
                  · obtain ⟨hw, h80_0, h80_1⟩ := hw
                    subst hw
                    have l80k2_j80s0 : (0 : Int) ≤ j80s0.toInt := bj80s0_l
                    have u80k2_j80s0 : j80s0.toInt ≤ (0 : Int) := h80_1
                    have hF1 := hF1.trans (if_neg (by decide))
                    have hF1 := hF1.trans (if_neg (by decide))
                    have hF1 := hF1.trans (if_pos (by decide))
                    refine lv_iload hx hb dX8_seekRests_83 (lv_at hl 4 rfl) ?_
                    refine lv_iload hx hb dX8_seekRests_85 (lv_at hl 5 rfl) ?_
                    obtain ⟨hPc, hDc, hFc, hCc⟩ := zc_cut (wc := []) hP hD hS hA [] (by decide +kernel) rfl
                    have hKc := hK.sub (tys' := []) [] rfl
                    refine va_calli (va_runS (As := [.int j25s0, .int j39s0]) (rest := [.int 0]) ⟨hx, hb, hml, hown, hts⟩ (f_X8_otherHas l dC dI H.size j25s0 j39s0 ) (va_cwS 2 hts gX8_seekRests_X8_otherHas rfl rfl rfl zd_X8_otherHas.2 ⟨Nat.le_of_ble_eq_true rfl, Nat.le_of_ble_eq_true rfl⟩) ⟨ax_blind (fun _ _ _ _ _ => trivial), ax_pre hPc hKc hDc (fun _ _ => trivial)⟩ rfl rfl hl.1 rfl (lv_room (Nat.le_of_ble_eq_true rfl)) dX8_seekRests_87 ⟨Nat.le_of_ble_eq_true rfl, Nat.le_of_ble_eq_true rfl⟩) hS (fun q _ h => hFc q h) hFc (fun r87 u t H locs ht hvm hw hB hz1 hk1 hS => ?_)
                    obtain ⟨hP1, hK1, hD1⟩ := hB
                    rw [ht] at hP1
                    obtain ⟨hP, hD⟩ := zc_back (w := [(a0, .inr (8, [a0g_0, a0g_1, a0g_2, a0g_3, a0g_4, a0g_5, a0g_6, a0g_7, a0g_8, a0g_9, a0g_10, a0g_11, a0g_12, a0g_13, a0g_14, a0g_15, a0g_16, a0g_17, a0g_18, a0g_19, a0g_20, a0g_21, a0g_22, a0g_23, a0g_24, a0g_25, a0g_26, a0g_27, a0g_28, a0g_29, a0g_30, a0g_31, a0g_32, a0g_33, a0g_34, a0g_35, a0g_36, Value.int j10a0_37, a0g_38, a0g_39]))]) hP hD hCc hk1 hFc hP1 hD1 [.inl 0] (by decide +kernel) rfl
                    obtain ⟨hw, hfr87⟩ := hw
                    have hc87 : Ff_X8_otherHas j25s0.toInt j39s0.toInt = r87.toInt := hfr87.symm
                    have hF1 := hF1.trans (fl_lt_eq hc87.symm)
                    rcases hw with hw | hw | hw | hw
                    · subst hw
                      have hF1 := hF1.trans (if_pos (by decide))
                      refine lv_icmp_le (tgt := 96) hx hb dX8_seekRests_90 (by decide) (fun _ => ?_) (fun c90 => absurd (by decide +kernel) c90)
                      refine lv_iload_n hx hb dX8_seekRests_96 rfl (lv_at hl 2 rfl) ?_
                      have J114 : ∀ (j114a0_37 : Int32) (H : Heap) (locs : List Loc) (ls : Array Slot), (SX10 = Gf_X8_seekRests_114_4 j10l3.toInt j10l2.toInt j114a0_37.toInt) → va_P (dC, dI) vwCl [(a0, .inr (8, [a0g_0, a0g_1, a0g_2, a0g_3, a0g_4, a0g_5, a0g_6, a0g_7, a0g_8, a0g_9, a0g_10, a0g_11, a0g_12, a0g_13, a0g_14, a0g_15, a0g_16, a0g_17, a0g_18, a0g_19, a0g_20, a0g_21, a0g_22, a0g_23, a0g_24, a0g_25, a0g_26, a0g_27, a0g_28, a0g_29, a0g_30, a0g_31, a0g_32, a0g_33, a0g_34, a0g_35, a0g_36, Value.int j114a0_37, a0g_38, a0g_39]))] H → va_D A [(a0, .inr (8, [a0g_0, a0g_1, a0g_2, a0g_3, a0g_4, a0g_5, a0g_6, a0g_7, a0g_8, a0g_9, a0g_10, a0g_11, a0g_12, a0g_13, a0g_14, a0g_15, a0g_16, a0g_17, a0g_18, a0g_19, a0g_20, a0g_21, a0g_22, a0g_23, a0g_24, a0g_25, a0g_26, a0g_27, a0g_28, a0g_29, a0g_30, a0g_31, a0g_32, a0g_33, a0g_34, a0g_35, a0g_36, Value.int j114a0_37, a0g_38, a0g_39]))] → va_S A s.heap H locs → lv_has ls 6 [(0, .ref a0), (1, .int a1), (2, .int j10l2), (3, .int j10l3)] → K H locs (F0 m 114 ls []) := by
                        intro j114a0_37 H locs ls  hF1 hP hD hS hl
                        refine (hK0 _ _ _).mpr ?_
                        have hF1 := hF1.trans (Gf_X8_seekRests_114_4.eq_1 j10l3.toInt j10l2.toInt j114a0_37.toInt)
                        obtain ⟨x114, ex114⟩ : ∃ y : Int32, y = j10l2 + Int32.ofInt 1 := ⟨_, rfl⟩
                        refine lv_iinc (v := x114) (lv' := [(2, .int x114), (0, .ref a0), (1, .int a1), (3, .int j10l3)]) hx hb dX8_seekRests_114 hl (k := 2) rfl ex114.symm (by decide) rfl (fun ls hl => ?_)
                        have fqx114 := fl_iadd_eq ex114
                        have hF1 := hF1.trans (fl_lt_eq (show x114.toInt = fl_iadd j10l2.toInt 1 from fqx114))
                        exact (hK0 _ _ _).mp (J117 x114 j114a0_37 _ _ _   hF1 hP hD hS (lv_sub hl [1, 2, 0, 3] rfl))
                      refine lv_if_ne (tgt := 114) hx hb dX8_seekRests_97 (by decide) (fun c97 => ?_) (fun c97 => ?_)
                      · have gc97 := ai_ne c97
                        have hF1 := hF1.trans (if_neg (show ¬ (j10l2.toInt = 0) from  gc97))
                        exact (hK0 _ _ _).mp (J114 j10a0_37 _ _ _   hF1 hP hD hS (lv_sub hl [0, 1, 2, 3] rfl))
                      · have gc97 := ai_eq c97
                        have u97f_j10l2 : j10l2.toInt ≤ (0 : Int) := Int.le_trans (Int.le_of_eq gc97) zq6
                        have l97f_j10l2 : (0 : Int) ≤ j10l2.toInt := Int.le_trans zq5 (Int.le_of_eq gc97.symm)
                        have hF1 := hF1.trans (if_pos (show j10l2.toInt = 0 from gc97))
                        refine lv_aload_n hx hb dX8_seekRests_100 rfl (lv_at hl 0 rfl) ?_
                        refine lv_bipush (v := 10) hx hb dX8_seekRests_101 zk_bipush_10 ?_
                        refine lv_iload_n hx hb dX8_seekRests_103 rfl (lv_at hl 3 rfl) ?_
                        refine lv_iconst (v := 2) hx hb dX8_seekRests_104 zk_iconst_2 ?_
                        refine lv_idiv hx hb dX8_seekRests_105 (by decide +kernel) ?_
                        refine lv_topi (fun x105 ex105 => ?_)
                        have qx105 := ai_div ex105 ⟨bj10l3_l, u12f_j10l3⟩ (Int.lt_of_lt_of_le zq100 zq12)
                        have u105z_x105 : x105.toInt ≤ (1 : Int) := (by have h1 := qx105.1; have h2 := u12f_j10l3; have h3 : (2 : Int32).toInt = 2 := (by decide); rw [h3] at h1; omega)
                        have hF1 := hF1.trans (fl_lt_eq (show x105.toInt = j10l3.toInt / 2 from qx105.1))
                        refine lv_imul hx hb dX8_seekRests_106 ?_
                        refine lv_topi (fun x106 ex106 => ?_)
                        have qx106 : x106.toInt = (10 : Int32).toInt * x105.toInt ∧ (0 : Int) ≤ x106.toInt ∧ x106.toInt ≤ 10 := ai_mul ex106 ⟨zq26, zq27⟩ ⟨qx105.2.1, u105z_x105⟩ (by decide) (by decide) zq103
                        have wx106 : x106.toInt = 10 * x105.toInt := qx106.1
                        have hF1 := hF1.trans (fl_lt_eq (show x106.toInt = 10 * x105.toInt from qx106.1))
                        refine lv_iload_n hx hb dX8_seekRests_107 rfl (lv_at hl 3 rfl) ?_
                        refine lv_iconst (v := 2) hx hb dX8_seekRests_108 zk_iconst_2 ?_
                        refine lv_irem hx hb dX8_seekRests_109 (by decide +kernel) ?_
                        refine lv_topi (fun x109 ex109 => ?_)
                        have qx109 := ai_rem2 ex109 bj10l3_l (Int.lt_of_lt_of_le zq100 zq12) zq13
                        have wx109 : x109.toInt = j10l3.toInt % 2 := qx109.1
                        have hF1 := hF1.trans (fl_lt_eq (show x109.toInt = j10l3.toInt % 2 from qx109.1))
                        refine lv_iadd hx hb dX8_seekRests_110 ?_
                        refine lv_topi (fun x110 ex110 => ?_)
                        have qx110 : x110.toInt = x106.toInt + x109.toInt := ai_add ex110 ⟨qx106.2.1, qx106.2.2⟩ ⟨qx109.2.1, qx109.2.2⟩ (by decide) (by decide)
                        have bx110 : (0 : Int) ≤ x110.toInt ∧ x110.toInt ≤ 11 := ⟨by rw [qx110]; exact Int.add_le_add qx106.2.1 qx109.2.1, by rw [qx110]; exact Int.add_le_add qx106.2.2 qx109.2.2⟩
                        have hF1 := hF1.trans (fl_lt_eq (show x110.toInt = x106.toInt + x109.toInt from qx110))
                        refine va_put (D := (dC, dI)) (ci := 8) (v := .int x110) (ty := .int) (C := RX8) (T := TX8) (N := 40) hx hb hts zi_X8_seekRests_8 tyX8 tyX8_ok nmX8 hown hK hP hD hS 0 rfl rfl 37 (by decide) (hts (.fieldLink RX8 359 "WaxTurnsModel" "firstRest" "I") (List.mem_cons_of_mem _ (List.mem_append_left _ (List.mem_of_getElem? (i := 0) rfl)))) (fun _ h9 => h9) rfl (tyX8_ok 37 (by decide)) rfl rfl (Nat.le_of_ble_eq_true rfl) dX8_seekRests_111 (fun H locs hP hD hS => ?_)
                        obtain ⟨hP, hD⟩ := zc_re (w := [(a0, .inr (8, [a0g_0, a0g_1, a0g_2, a0g_3, a0g_4, a0g_5, a0g_6, a0g_7, a0g_8, a0g_9, a0g_10, a0g_11, a0g_12, a0g_13, a0g_14, a0g_15, a0g_16, a0g_17, a0g_18, a0g_19, a0g_20, a0g_21, a0g_22, a0g_23, a0g_24, a0g_25, a0g_26, a0g_27, a0g_28, a0g_29, a0g_30, a0g_31, a0g_32, a0g_33, a0g_34, a0g_35, a0g_36, Value.int x110, a0g_38, a0g_39]))]) hP hD rfl
                        exact (hK0 _ _ _).mp (J114 x110 _ _ _   hF1 hP hD hS (lv_sub hl [0, 1, 2, 3] rfl))
                    · obtain ⟨hw, h87_0, h87_1, h87_2, h87_3⟩ := hw
                      subst hw
                      have l87k1_j25s0 : (0 : Int) ≤ j25s0.toInt := bj25s0_l
                      have u87k1_j25s0 : j25s0.toInt ≤ (0 : Int) := h87_1
                      have l87k1_j39s0 : (0 : Int) ≤ j39s0.toInt := bj39s0_l
                      have u87k1_j39s0 : j39s0.toInt ≤ (0 : Int) := h87_3
                      have hF1 := hF1.trans (if_neg (by decide))
                      have hF1 := hF1.trans (if_pos (by decide))
                      refine lv_icmp_le (tgt := 96) hx hb dX8_seekRests_90 (by decide) (fun _ => ?_) (fun c90 => absurd (by decide +kernel) c90)
                      refine lv_iload_n hx hb dX8_seekRests_96 rfl (lv_at hl 2 rfl) ?_
                      have J114 : ∀ (j114a0_37 : Int32) (H : Heap) (locs : List Loc) (ls : Array Slot), (SX10 = Gf_X8_seekRests_114_5 j10l3.toInt j10l2.toInt j114a0_37.toInt) → va_P (dC, dI) vwCl [(a0, .inr (8, [a0g_0, a0g_1, a0g_2, a0g_3, a0g_4, a0g_5, a0g_6, a0g_7, a0g_8, a0g_9, a0g_10, a0g_11, a0g_12, a0g_13, a0g_14, a0g_15, a0g_16, a0g_17, a0g_18, a0g_19, a0g_20, a0g_21, a0g_22, a0g_23, a0g_24, a0g_25, a0g_26, a0g_27, a0g_28, a0g_29, a0g_30, a0g_31, a0g_32, a0g_33, a0g_34, a0g_35, a0g_36, Value.int j114a0_37, a0g_38, a0g_39]))] H → va_D A [(a0, .inr (8, [a0g_0, a0g_1, a0g_2, a0g_3, a0g_4, a0g_5, a0g_6, a0g_7, a0g_8, a0g_9, a0g_10, a0g_11, a0g_12, a0g_13, a0g_14, a0g_15, a0g_16, a0g_17, a0g_18, a0g_19, a0g_20, a0g_21, a0g_22, a0g_23, a0g_24, a0g_25, a0g_26, a0g_27, a0g_28, a0g_29, a0g_30, a0g_31, a0g_32, a0g_33, a0g_34, a0g_35, a0g_36, Value.int j114a0_37, a0g_38, a0g_39]))] → va_S A s.heap H locs → lv_has ls 6 [(0, .ref a0), (1, .int a1), (2, .int j10l2), (3, .int j10l3)] → K H locs (F0 m 114 ls []) := by
                        intro j114a0_37 H locs ls  hF1 hP hD hS hl
                        refine (hK0 _ _ _).mpr ?_
                        have hF1 := hF1.trans (Gf_X8_seekRests_114_5.eq_1 j10l3.toInt j10l2.toInt j114a0_37.toInt)
                        obtain ⟨x114, ex114⟩ : ∃ y : Int32, y = j10l2 + Int32.ofInt 1 := ⟨_, rfl⟩
                        refine lv_iinc (v := x114) (lv' := [(2, .int x114), (0, .ref a0), (1, .int a1), (3, .int j10l3)]) hx hb dX8_seekRests_114 hl (k := 2) rfl ex114.symm (by decide) rfl (fun ls hl => ?_)
                        have fqx114 := fl_iadd_eq ex114
                        have hF1 := hF1.trans (fl_lt_eq (show x114.toInt = fl_iadd j10l2.toInt 1 from fqx114))
                        exact (hK0 _ _ _).mp (J117 x114 j114a0_37 _ _ _   hF1 hP hD hS (lv_sub hl [1, 2, 0, 3] rfl))
                      refine lv_if_ne (tgt := 114) hx hb dX8_seekRests_97 (by decide) (fun c97 => ?_) (fun c97 => ?_)
                      · have gc97 := ai_ne c97
                        have hF1 := hF1.trans (if_neg (show ¬ (j10l2.toInt = 0) from  gc97))
                        exact (hK0 _ _ _).mp (J114 j10a0_37 _ _ _   hF1 hP hD hS (lv_sub hl [0, 1, 2, 3] rfl))
                      · have gc97 := ai_eq c97
                        have u97f_j10l2 : j10l2.toInt ≤ (0 : Int) := Int.le_trans (Int.le_of_eq gc97) zq6
                        have l97f_j10l2 : (0 : Int) ≤ j10l2.toInt := Int.le_trans zq5 (Int.le_of_eq gc97.symm)
                        have hF1 := hF1.trans (if_pos (show j10l2.toInt = 0 from gc97))
                        refine lv_aload_n hx hb dX8_seekRests_100 rfl (lv_at hl 0 rfl) ?_
                        refine lv_bipush (v := 10) hx hb dX8_seekRests_101 zk_bipush_10 ?_
                        refine lv_iload_n hx hb dX8_seekRests_103 rfl (lv_at hl 3 rfl) ?_
                        refine lv_iconst (v := 2) hx hb dX8_seekRests_104 zk_iconst_2 ?_
                        refine lv_idiv hx hb dX8_seekRests_105 (by decide +kernel) ?_
                        refine lv_topi (fun x105 ex105 => ?_)
                        have qx105 := ai_div ex105 ⟨bj10l3_l, u12f_j10l3⟩ (Int.lt_of_lt_of_le zq100 zq12)
                        have u105z_x105 : x105.toInt ≤ (1 : Int) := (by have h1 := qx105.1; have h2 := u12f_j10l3; have h3 : (2 : Int32).toInt = 2 := (by decide); rw [h3] at h1; omega)
                        have hF1 := hF1.trans (fl_lt_eq (show x105.toInt = j10l3.toInt / 2 from qx105.1))
                        refine lv_imul hx hb dX8_seekRests_106 ?_
                        refine lv_topi (fun x106 ex106 => ?_)
                        have qx106 : x106.toInt = (10 : Int32).toInt * x105.toInt ∧ (0 : Int) ≤ x106.toInt ∧ x106.toInt ≤ 10 := ai_mul ex106 ⟨zq26, zq27⟩ ⟨qx105.2.1, u105z_x105⟩ (by decide) (by decide) zq103
                        have wx106 : x106.toInt = 10 * x105.toInt := qx106.1
                        have hF1 := hF1.trans (fl_lt_eq (show x106.toInt = 10 * x105.toInt from qx106.1))
                        refine lv_iload_n hx hb dX8_seekRests_107 rfl (lv_at hl 3 rfl) ?_
                        refine lv_iconst (v := 2) hx hb dX8_seekRests_108 zk_iconst_2 ?_
                        refine lv_irem hx hb dX8_seekRests_109 (by decide +kernel) ?_
                        refine lv_topi (fun x109 ex109 => ?_)
                        have qx109 := ai_rem2 ex109 bj10l3_l (Int.lt_of_lt_of_le zq100 zq12) zq13
                        have wx109 : x109.toInt = j10l3.toInt % 2 := qx109.1
                        have hF1 := hF1.trans (fl_lt_eq (show x109.toInt = j10l3.toInt % 2 from qx109.1))
                        refine lv_iadd hx hb dX8_seekRests_110 ?_
                        refine lv_topi (fun x110 ex110 => ?_)
                        have qx110 : x110.toInt = x106.toInt + x109.toInt := ai_add ex110 ⟨qx106.2.1, qx106.2.2⟩ ⟨qx109.2.1, qx109.2.2⟩ (by decide) (by decide)
                        have bx110 : (0 : Int) ≤ x110.toInt ∧ x110.toInt ≤ 11 := ⟨by rw [qx110]; exact Int.add_le_add qx106.2.1 qx109.2.1, by rw [qx110]; exact Int.add_le_add qx106.2.2 qx109.2.2⟩
                        have hF1 := hF1.trans (fl_lt_eq (show x110.toInt = x106.toInt + x109.toInt from qx110))
                        refine va_put (D := (dC, dI)) (ci := 8) (v := .int x110) (ty := .int) (C := RX8) (T := TX8) (N := 40) hx hb hts zi_X8_seekRests_8 tyX8 tyX8_ok nmX8 hown hK hP hD hS 0 rfl rfl 37 (by decide) (hts (.fieldLink RX8 359 "WaxTurnsModel" "firstRest" "I") (List.mem_cons_of_mem _ (List.mem_append_left _ (List.mem_of_getElem? (i := 0) rfl)))) (fun _ h9 => h9) rfl (tyX8_ok 37 (by decide)) rfl rfl (Nat.le_of_ble_eq_true rfl) dX8_seekRests_111 (fun H locs hP hD hS => ?_)
                        obtain ⟨hP, hD⟩ := zc_re (w := [(a0, .inr (8, [a0g_0, a0g_1, a0g_2, a0g_3, a0g_4, a0g_5, a0g_6, a0g_7, a0g_8, a0g_9, a0g_10, a0g_11, a0g_12, a0g_13, a0g_14, a0g_15, a0g_16, a0g_17, a0g_18, a0g_19, a0g_20, a0g_21, a0g_22, a0g_23, a0g_24, a0g_25, a0g_26, a0g_27, a0g_28, a0g_29, a0g_30, a0g_31, a0g_32, a0g_33, a0g_34, a0g_35, a0g_36, Value.int x110, a0g_38, a0g_39]))]) hP hD rfl
                        exact (hK0 _ _ _).mp (J114 x110 _ _ _   hF1 hP hD hS (lv_sub hl [0, 1, 2, 3] rfl))
                    · obtain ⟨hw, h87_0, h87_1⟩ := hw
                      subst hw
                      have l87k2_j39s0 : (0 : Int) ≤ j39s0.toInt := bj39s0_l
                      have u87k2_j39s0 : j39s0.toInt ≤ (0 : Int) := h87_1
                      have hF1 := hF1.trans (if_neg (by decide))
                      have hF1 := hF1.trans (if_neg (by decide))
                      have hF1 := hF1.trans (if_pos (by decide))
                      refine lv_icmp_le (tgt := 96) hx hb dX8_seekRests_90 (by decide) (fun _ => ?_) (fun c90 => absurd (by decide +kernel) c90)
                      refine lv_iload_n hx hb dX8_seekRests_96 rfl (lv_at hl 2 rfl) ?_
                      have J114 : ∀ (j114a0_37 : Int32) (H : Heap) (locs : List Loc) (ls : Array Slot), (SX10 = Gf_X8_seekRests_114_6 j10l3.toInt j10l2.toInt j114a0_37.toInt) → va_P (dC, dI) vwCl [(a0, .inr (8, [a0g_0, a0g_1, a0g_2, a0g_3, a0g_4, a0g_5, a0g_6, a0g_7, a0g_8, a0g_9, a0g_10, a0g_11, a0g_12, a0g_13, a0g_14, a0g_15, a0g_16, a0g_17, a0g_18, a0g_19, a0g_20, a0g_21, a0g_22, a0g_23, a0g_24, a0g_25, a0g_26, a0g_27, a0g_28, a0g_29, a0g_30, a0g_31, a0g_32, a0g_33, a0g_34, a0g_35, a0g_36, Value.int j114a0_37, a0g_38, a0g_39]))] H → va_D A [(a0, .inr (8, [a0g_0, a0g_1, a0g_2, a0g_3, a0g_4, a0g_5, a0g_6, a0g_7, a0g_8, a0g_9, a0g_10, a0g_11, a0g_12, a0g_13, a0g_14, a0g_15, a0g_16, a0g_17, a0g_18, a0g_19, a0g_20, a0g_21, a0g_22, a0g_23, a0g_24, a0g_25, a0g_26, a0g_27, a0g_28, a0g_29, a0g_30, a0g_31, a0g_32, a0g_33, a0g_34, a0g_35, a0g_36, Value.int j114a0_37, a0g_38, a0g_39]))] → va_S A s.heap H locs → lv_has ls 6 [(0, .ref a0), (1, .int a1), (2, .int j10l2), (3, .int j10l3)] → K H locs (F0 m 114 ls []) := by
                        intro j114a0_37 H locs ls  hF1 hP hD hS hl
                        refine (hK0 _ _ _).mpr ?_
                        have hF1 := hF1.trans (Gf_X8_seekRests_114_6.eq_1 j10l3.toInt j10l2.toInt j114a0_37.toInt)
                        obtain ⟨x114, ex114⟩ : ∃ y : Int32, y = j10l2 + Int32.ofInt 1 := ⟨_, rfl⟩
                        refine lv_iinc (v := x114) (lv' := [(2, .int x114), (0, .ref a0), (1, .int a1), (3, .int j10l3)]) hx hb dX8_seekRests_114 hl (k := 2) rfl ex114.symm (by decide) rfl (fun ls hl => ?_)
                        have fqx114 := fl_iadd_eq ex114
                        have hF1 := hF1.trans (fl_lt_eq (show x114.toInt = fl_iadd j10l2.toInt 1 from fqx114))
                        exact (hK0 _ _ _).mp (J117 x114 j114a0_37 _ _ _   hF1 hP hD hS (lv_sub hl [1, 2, 0, 3] rfl))
                      refine lv_if_ne (tgt := 114) hx hb dX8_seekRests_97 (by decide) (fun c97 => ?_) (fun c97 => ?_)
                      · have gc97 := ai_ne c97
                        have hF1 := hF1.trans (if_neg (show ¬ (j10l2.toInt = 0) from  gc97))
                        exact (hK0 _ _ _).mp (J114 j10a0_37 _ _ _   hF1 hP hD hS (lv_sub hl [0, 1, 2, 3] rfl))
                      · have gc97 := ai_eq c97
                        have u97f_j10l2 : j10l2.toInt ≤ (0 : Int) := Int.le_trans (Int.le_of_eq gc97) zq6
                        have l97f_j10l2 : (0 : Int) ≤ j10l2.toInt := Int.le_trans zq5 (Int.le_of_eq gc97.symm)
                        have hF1 := hF1.trans (if_pos (show j10l2.toInt = 0 from gc97))
                        refine lv_aload_n hx hb dX8_seekRests_100 rfl (lv_at hl 0 rfl) ?_
                        refine lv_bipush (v := 10) hx hb dX8_seekRests_101 zk_bipush_10 ?_
                        refine lv_iload_n hx hb dX8_seekRests_103 rfl (lv_at hl 3 rfl) ?_
                        refine lv_iconst (v := 2) hx hb dX8_seekRests_104 zk_iconst_2 ?_
                        refine lv_idiv hx hb dX8_seekRests_105 (by decide +kernel) ?_
                        refine lv_topi (fun x105 ex105 => ?_)
                        have qx105 := ai_div ex105 ⟨bj10l3_l, u12f_j10l3⟩ (Int.lt_of_lt_of_le zq100 zq12)
                        have u105z_x105 : x105.toInt ≤ (1 : Int) := (by have h1 := qx105.1; have h2 := u12f_j10l3; have h3 : (2 : Int32).toInt = 2 := (by decide); rw [h3] at h1; omega)
                        have hF1 := hF1.trans (fl_lt_eq (show x105.toInt = j10l3.toInt / 2 from qx105.1))
                        refine lv_imul hx hb dX8_seekRests_106 ?_
                        refine lv_topi (fun x106 ex106 => ?_)
                        have qx106 : x106.toInt = (10 : Int32).toInt * x105.toInt ∧ (0 : Int) ≤ x106.toInt ∧ x106.toInt ≤ 10 := ai_mul ex106 ⟨zq26, zq27⟩ ⟨qx105.2.1, u105z_x105⟩ (by decide) (by decide) zq103
                        have wx106 : x106.toInt = 10 * x105.toInt := qx106.1
                        have hF1 := hF1.trans (fl_lt_eq (show x106.toInt = 10 * x105.toInt from qx106.1))
                        refine lv_iload_n hx hb dX8_seekRests_107 rfl (lv_at hl 3 rfl) ?_
                        refine lv_iconst (v := 2) hx hb dX8_seekRests_108 zk_iconst_2 ?_
                        refine lv_irem hx hb dX8_seekRests_109 (by decide +kernel) ?_
                        refine lv_topi (fun x109 ex109 => ?_)
                        have qx109 := ai_rem2 ex109 bj10l3_l (Int.lt_of_lt_of_le zq100 zq12) zq13
                        have wx109 : x109.toInt = j10l3.toInt % 2 := qx109.1
                        have hF1 := hF1.trans (fl_lt_eq (show x109.toInt = j10l3.toInt % 2 from qx109.1))
                        refine lv_iadd hx hb dX8_seekRests_110 ?_
                        refine lv_topi (fun x110 ex110 => ?_)
                        have qx110 : x110.toInt = x106.toInt + x109.toInt := ai_add ex110 ⟨qx106.2.1, qx106.2.2⟩ ⟨qx109.2.1, qx109.2.2⟩ (by decide) (by decide)
                        have bx110 : (0 : Int) ≤ x110.toInt ∧ x110.toInt ≤ 11 := ⟨by rw [qx110]; exact Int.add_le_add qx106.2.1 qx109.2.1, by rw [qx110]; exact Int.add_le_add qx106.2.2 qx109.2.2⟩
                        have hF1 := hF1.trans (fl_lt_eq (show x110.toInt = x106.toInt + x109.toInt from qx110))
                        refine va_put (D := (dC, dI)) (ci := 8) (v := .int x110) (ty := .int) (C := RX8) (T := TX8) (N := 40) hx hb hts zi_X8_seekRests_8 tyX8 tyX8_ok nmX8 hown hK hP hD hS 0 rfl rfl 37 (by decide) (hts (.fieldLink RX8 359 "WaxTurnsModel" "firstRest" "I") (List.mem_cons_of_mem _ (List.mem_append_left _ (List.mem_of_getElem? (i := 0) rfl)))) (fun _ h9 => h9) rfl (tyX8_ok 37 (by decide)) rfl rfl (Nat.le_of_ble_eq_true rfl) dX8_seekRests_111 (fun H locs hP hD hS => ?_)
                        obtain ⟨hP, hD⟩ := zc_re (w := [(a0, .inr (8, [a0g_0, a0g_1, a0g_2, a0g_3, a0g_4, a0g_5, a0g_6, a0g_7, a0g_8, a0g_9, a0g_10, a0g_11, a0g_12, a0g_13, a0g_14, a0g_15, a0g_16, a0g_17, a0g_18, a0g_19, a0g_20, a0g_21, a0g_22, a0g_23, a0g_24, a0g_25, a0g_26, a0g_27, a0g_28, a0g_29, a0g_30, a0g_31, a0g_32, a0g_33, a0g_34, a0g_35, a0g_36, Value.int x110, a0g_38, a0g_39]))]) hP hD rfl
                        exact (hK0 _ _ _).mp (J114 x110 _ _ _   hF1 hP hD hS (lv_sub hl [0, 1, 2, 3] rfl))
                    · obtain ⟨hw, h87_0, h87_1⟩ := hw
                      subst hw
                      have l87k3_j25s0 : (0 : Int) ≤ j25s0.toInt := bj25s0_l
                      have u87k3_j25s0 : j25s0.toInt ≤ (0 : Int) := h87_1
                      have hF1 := hF1.trans (if_neg (by decide))
                      have hF1 := hF1.trans (if_neg (by decide))
                      have hF1 := hF1.trans (if_neg (by decide))
                      refine lv_icmp_le (tgt := 96) hx hb dX8_seekRests_90 (by decide) (fun c90 => absurd c90 (by decide +kernel)) (fun _ => ?_)
                      refine lv_goto (tgt := 117) hx hb dX8_seekRests_93 (by decide) ?_
                      exact (hK0 _ _ _).mp (J117 j10l2 j10a0_37 _ _ _   hF1 hP hD hS (lv_sub hl [0, 1, 2, 3] rfl))
                  · obtain ⟨hw, h80_0, h80_1⟩ := hw
                    subst hw
                    have l80k3_j25s0 : (0 : Int) ≤ j25s0.toInt := bj25s0_l
                    have u80k3_j25s0 : j25s0.toInt ≤ (0 : Int) := h80_1
                    have hF1 := hF1.trans (if_neg (by decide))
                    have hF1 := hF1.trans (if_neg (by decide))
                    have hF1 := hF1.trans (if_neg (by decide))
                    refine lv_iload hx hb dX8_seekRests_83 (lv_at hl 4 rfl) ?_
                    refine lv_iload hx hb dX8_seekRests_85 (lv_at hl 5 rfl) ?_
                    obtain ⟨hPc, hDc, hFc, hCc⟩ := zc_cut (wc := []) hP hD hS hA [] (by decide +kernel) rfl
                    have hKc := hK.sub (tys' := []) [] rfl
                    refine va_calli (va_runS (As := [.int j25s0, .int j39s0]) (rest := [.int (-1)]) ⟨hx, hb, hml, hown, hts⟩ (f_X8_otherHas l dC dI H.size j25s0 j39s0 ) (va_cwS 2 hts gX8_seekRests_X8_otherHas rfl rfl rfl zd_X8_otherHas.2 ⟨Nat.le_of_ble_eq_true rfl, Nat.le_of_ble_eq_true rfl⟩) ⟨ax_blind (fun _ _ _ _ _ => trivial), ax_pre hPc hKc hDc (fun _ _ => trivial)⟩ rfl rfl hl.1 rfl (lv_room (Nat.le_of_ble_eq_true rfl)) dX8_seekRests_87 ⟨Nat.le_of_ble_eq_true rfl, Nat.le_of_ble_eq_true rfl⟩) hS (fun q _ h => hFc q h) hFc (fun r87 u t H locs ht hvm hw hB hz1 hk1 hS => ?_)
                    obtain ⟨hP1, hK1, hD1⟩ := hB
                    rw [ht] at hP1
                    obtain ⟨hP, hD⟩ := zc_back (w := [(a0, .inr (8, [a0g_0, a0g_1, a0g_2, a0g_3, a0g_4, a0g_5, a0g_6, a0g_7, a0g_8, a0g_9, a0g_10, a0g_11, a0g_12, a0g_13, a0g_14, a0g_15, a0g_16, a0g_17, a0g_18, a0g_19, a0g_20, a0g_21, a0g_22, a0g_23, a0g_24, a0g_25, a0g_26, a0g_27, a0g_28, a0g_29, a0g_30, a0g_31, a0g_32, a0g_33, a0g_34, a0g_35, a0g_36, Value.int j10a0_37, a0g_38, a0g_39]))]) hP hD hCc hk1 hFc hP1 hD1 [.inl 0] (by decide +kernel) rfl
                    obtain ⟨hw, hfr87⟩ := hw
                    have hc87 : Ff_X8_otherHas j25s0.toInt j39s0.toInt = r87.toInt := hfr87.symm
                    have hF1 := hF1.trans (fl_lt_eq hc87.symm)
                    rcases hw with hw | hw | hw | hw
                    · subst hw
                      have hF1 := hF1.trans (if_pos (by decide))
                      refine lv_icmp_le (tgt := 96) hx hb dX8_seekRests_90 (by decide) (fun _ => ?_) (fun c90 => absurd (by decide +kernel) c90)
                      refine lv_iload_n hx hb dX8_seekRests_96 rfl (lv_at hl 2 rfl) ?_
                      have J114 : ∀ (j114a0_37 : Int32) (H : Heap) (locs : List Loc) (ls : Array Slot), (SX10 = Gf_X8_seekRests_114_7 j10l3.toInt j10l2.toInt j114a0_37.toInt) → va_P (dC, dI) vwCl [(a0, .inr (8, [a0g_0, a0g_1, a0g_2, a0g_3, a0g_4, a0g_5, a0g_6, a0g_7, a0g_8, a0g_9, a0g_10, a0g_11, a0g_12, a0g_13, a0g_14, a0g_15, a0g_16, a0g_17, a0g_18, a0g_19, a0g_20, a0g_21, a0g_22, a0g_23, a0g_24, a0g_25, a0g_26, a0g_27, a0g_28, a0g_29, a0g_30, a0g_31, a0g_32, a0g_33, a0g_34, a0g_35, a0g_36, Value.int j114a0_37, a0g_38, a0g_39]))] H → va_D A [(a0, .inr (8, [a0g_0, a0g_1, a0g_2, a0g_3, a0g_4, a0g_5, a0g_6, a0g_7, a0g_8, a0g_9, a0g_10, a0g_11, a0g_12, a0g_13, a0g_14, a0g_15, a0g_16, a0g_17, a0g_18, a0g_19, a0g_20, a0g_21, a0g_22, a0g_23, a0g_24, a0g_25, a0g_26, a0g_27, a0g_28, a0g_29, a0g_30, a0g_31, a0g_32, a0g_33, a0g_34, a0g_35, a0g_36, Value.int j114a0_37, a0g_38, a0g_39]))] → va_S A s.heap H locs → lv_has ls 6 [(0, .ref a0), (1, .int a1), (2, .int j10l2), (3, .int j10l3)] → K H locs (F0 m 114 ls []) := by
                        intro j114a0_37 H locs ls  hF1 hP hD hS hl
                        refine (hK0 _ _ _).mpr ?_
                        have hF1 := hF1.trans (Gf_X8_seekRests_114_7.eq_1 j10l3.toInt j10l2.toInt j114a0_37.toInt)
                        obtain ⟨x114, ex114⟩ : ∃ y : Int32, y = j10l2 + Int32.ofInt 1 := ⟨_, rfl⟩
                        refine lv_iinc (v := x114) (lv' := [(2, .int x114), (0, .ref a0), (1, .int a1), (3, .int j10l3)]) hx hb dX8_seekRests_114 hl (k := 2) rfl ex114.symm (by decide) rfl (fun ls hl => ?_)
                        have fqx114 := fl_iadd_eq ex114
                        have hF1 := hF1.trans (fl_lt_eq (show x114.toInt = fl_iadd j10l2.toInt 1 from fqx114))
                        exact (hK0 _ _ _).mp (J117 x114 j114a0_37 _ _ _   hF1 hP hD hS (lv_sub hl [1, 2, 0, 3] rfl))
                      refine lv_if_ne (tgt := 114) hx hb dX8_seekRests_97 (by decide) (fun c97 => ?_) (fun c97 => ?_)
                      · have gc97 := ai_ne c97
                        have hF1 := hF1.trans (if_neg (show ¬ (j10l2.toInt = 0) from  gc97))
                        exact (hK0 _ _ _).mp (J114 j10a0_37 _ _ _   hF1 hP hD hS (lv_sub hl [0, 1, 2, 3] rfl))
                      · have gc97 := ai_eq c97
                        have u97f_j10l2 : j10l2.toInt ≤ (0 : Int) := Int.le_trans (Int.le_of_eq gc97) zq6
                        have l97f_j10l2 : (0 : Int) ≤ j10l2.toInt := Int.le_trans zq5 (Int.le_of_eq gc97.symm)
                        have hF1 := hF1.trans (if_pos (show j10l2.toInt = 0 from gc97))
                        refine lv_aload_n hx hb dX8_seekRests_100 rfl (lv_at hl 0 rfl) ?_
                        refine lv_bipush (v := 10) hx hb dX8_seekRests_101 zk_bipush_10 ?_
                        refine lv_iload_n hx hb dX8_seekRests_103 rfl (lv_at hl 3 rfl) ?_
                        refine lv_iconst (v := 2) hx hb dX8_seekRests_104 zk_iconst_2 ?_
                        refine lv_idiv hx hb dX8_seekRests_105 (by decide +kernel) ?_
                        refine lv_topi (fun x105 ex105 => ?_)
                        have qx105 := ai_div ex105 ⟨bj10l3_l, u12f_j10l3⟩ (Int.lt_of_lt_of_le zq100 zq12)
                        have u105z_x105 : x105.toInt ≤ (1 : Int) := (by have h1 := qx105.1; have h2 := u12f_j10l3; have h3 : (2 : Int32).toInt = 2 := (by decide); rw [h3] at h1; omega)
                        have hF1 := hF1.trans (fl_lt_eq (show x105.toInt = j10l3.toInt / 2 from qx105.1))
                        refine lv_imul hx hb dX8_seekRests_106 ?_
                        refine lv_topi (fun x106 ex106 => ?_)
                        have qx106 : x106.toInt = (10 : Int32).toInt * x105.toInt ∧ (0 : Int) ≤ x106.toInt ∧ x106.toInt ≤ 10 := ai_mul ex106 ⟨zq26, zq27⟩ ⟨qx105.2.1, u105z_x105⟩ (by decide) (by decide) zq103
                        have wx106 : x106.toInt = 10 * x105.toInt := qx106.1
                        have hF1 := hF1.trans (fl_lt_eq (show x106.toInt = 10 * x105.toInt from qx106.1))
                        refine lv_iload_n hx hb dX8_seekRests_107 rfl (lv_at hl 3 rfl) ?_
                        refine lv_iconst (v := 2) hx hb dX8_seekRests_108 zk_iconst_2 ?_
                        refine lv_irem hx hb dX8_seekRests_109 (by decide +kernel) ?_
                        refine lv_topi (fun x109 ex109 => ?_)
                        have qx109 := ai_rem2 ex109 bj10l3_l (Int.lt_of_lt_of_le zq100 zq12) zq13
                        have wx109 : x109.toInt = j10l3.toInt % 2 := qx109.1
                        have hF1 := hF1.trans (fl_lt_eq (show x109.toInt = j10l3.toInt % 2 from qx109.1))
                        refine lv_iadd hx hb dX8_seekRests_110 ?_
                        refine lv_topi (fun x110 ex110 => ?_)
                        have qx110 : x110.toInt = x106.toInt + x109.toInt := ai_add ex110 ⟨qx106.2.1, qx106.2.2⟩ ⟨qx109.2.1, qx109.2.2⟩ (by decide) (by decide)
                        have bx110 : (0 : Int) ≤ x110.toInt ∧ x110.toInt ≤ 11 := ⟨by rw [qx110]; exact Int.add_le_add qx106.2.1 qx109.2.1, by rw [qx110]; exact Int.add_le_add qx106.2.2 qx109.2.2⟩
                        have hF1 := hF1.trans (fl_lt_eq (show x110.toInt = x106.toInt + x109.toInt from qx110))
                        refine va_put (D := (dC, dI)) (ci := 8) (v := .int x110) (ty := .int) (C := RX8) (T := TX8) (N := 40) hx hb hts zi_X8_seekRests_8 tyX8 tyX8_ok nmX8 hown hK hP hD hS 0 rfl rfl 37 (by decide) (hts (.fieldLink RX8 359 "WaxTurnsModel" "firstRest" "I") (List.mem_cons_of_mem _ (List.mem_append_left _ (List.mem_of_getElem? (i := 0) rfl)))) (fun _ h9 => h9) rfl (tyX8_ok 37 (by decide)) rfl rfl (Nat.le_of_ble_eq_true rfl) dX8_seekRests_111 (fun H locs hP hD hS => ?_)
                        obtain ⟨hP, hD⟩ := zc_re (w := [(a0, .inr (8, [a0g_0, a0g_1, a0g_2, a0g_3, a0g_4, a0g_5, a0g_6, a0g_7, a0g_8, a0g_9, a0g_10, a0g_11, a0g_12, a0g_13, a0g_14, a0g_15, a0g_16, a0g_17, a0g_18, a0g_19, a0g_20, a0g_21, a0g_22, a0g_23, a0g_24, a0g_25, a0g_26, a0g_27, a0g_28, a0g_29, a0g_30, a0g_31, a0g_32, a0g_33, a0g_34, a0g_35, a0g_36, Value.int x110, a0g_38, a0g_39]))]) hP hD rfl
                        exact (hK0 _ _ _).mp (J114 x110 _ _ _   hF1 hP hD hS (lv_sub hl [0, 1, 2, 3] rfl))
                    · obtain ⟨hw, h87_0, h87_1, h87_2, h87_3⟩ := hw
                      subst hw
                      have l87k1_j25s0 : (0 : Int) ≤ j25s0.toInt := l80k3_j25s0
                      have u87k1_j25s0 : j25s0.toInt ≤ (0 : Int) := u80k3_j25s0
                      have l87k1_j39s0 : (0 : Int) ≤ j39s0.toInt := bj39s0_l
                      have u87k1_j39s0 : j39s0.toInt ≤ (0 : Int) := h87_3
                      have hF1 := hF1.trans (if_neg (by decide))
                      have hF1 := hF1.trans (if_pos (by decide))
                      refine lv_icmp_le (tgt := 96) hx hb dX8_seekRests_90 (by decide) (fun _ => ?_) (fun c90 => absurd (by decide +kernel) c90)
                      refine lv_iload_n hx hb dX8_seekRests_96 rfl (lv_at hl 2 rfl) ?_
                      have J114 : ∀ (j114a0_37 : Int32) (H : Heap) (locs : List Loc) (ls : Array Slot), (SX10 = Gf_X8_seekRests_114_8 j10l3.toInt j10l2.toInt j114a0_37.toInt) → va_P (dC, dI) vwCl [(a0, .inr (8, [a0g_0, a0g_1, a0g_2, a0g_3, a0g_4, a0g_5, a0g_6, a0g_7, a0g_8, a0g_9, a0g_10, a0g_11, a0g_12, a0g_13, a0g_14, a0g_15, a0g_16, a0g_17, a0g_18, a0g_19, a0g_20, a0g_21, a0g_22, a0g_23, a0g_24, a0g_25, a0g_26, a0g_27, a0g_28, a0g_29, a0g_30, a0g_31, a0g_32, a0g_33, a0g_34, a0g_35, a0g_36, Value.int j114a0_37, a0g_38, a0g_39]))] H → va_D A [(a0, .inr (8, [a0g_0, a0g_1, a0g_2, a0g_3, a0g_4, a0g_5, a0g_6, a0g_7, a0g_8, a0g_9, a0g_10, a0g_11, a0g_12, a0g_13, a0g_14, a0g_15, a0g_16, a0g_17, a0g_18, a0g_19, a0g_20, a0g_21, a0g_22, a0g_23, a0g_24, a0g_25, a0g_26, a0g_27, a0g_28, a0g_29, a0g_30, a0g_31, a0g_32, a0g_33, a0g_34, a0g_35, a0g_36, Value.int j114a0_37, a0g_38, a0g_39]))] → va_S A s.heap H locs → lv_has ls 6 [(0, .ref a0), (1, .int a1), (2, .int j10l2), (3, .int j10l3)] → K H locs (F0 m 114 ls []) := by
                        intro j114a0_37 H locs ls  hF1 hP hD hS hl
                        refine (hK0 _ _ _).mpr ?_
                        have hF1 := hF1.trans (Gf_X8_seekRests_114_8.eq_1 j10l3.toInt j10l2.toInt j114a0_37.toInt)
                        obtain ⟨x114, ex114⟩ : ∃ y : Int32, y = j10l2 + Int32.ofInt 1 := ⟨_, rfl⟩
                        refine lv_iinc (v := x114) (lv' := [(2, .int x114), (0, .ref a0), (1, .int a1), (3, .int j10l3)]) hx hb dX8_seekRests_114 hl (k := 2) rfl ex114.symm (by decide) rfl (fun ls hl => ?_)
                        have fqx114 := fl_iadd_eq ex114
                        have hF1 := hF1.trans (fl_lt_eq (show x114.toInt = fl_iadd j10l2.toInt 1 from fqx114))
                        exact (hK0 _ _ _).mp (J117 x114 j114a0_37 _ _ _   hF1 hP hD hS (lv_sub hl [1, 2, 0, 3] rfl))
                      refine lv_if_ne (tgt := 114) hx hb dX8_seekRests_97 (by decide) (fun c97 => ?_) (fun c97 => ?_)
                      · have gc97 := ai_ne c97
                        have hF1 := hF1.trans (if_neg (show ¬ (j10l2.toInt = 0) from  gc97))
                        exact (hK0 _ _ _).mp (J114 j10a0_37 _ _ _   hF1 hP hD hS (lv_sub hl [0, 1, 2, 3] rfl))
                      · have gc97 := ai_eq c97
                        have u97f_j10l2 : j10l2.toInt ≤ (0 : Int) := Int.le_trans (Int.le_of_eq gc97) zq6
                        have l97f_j10l2 : (0 : Int) ≤ j10l2.toInt := Int.le_trans zq5 (Int.le_of_eq gc97.symm)
                        have hF1 := hF1.trans (if_pos (show j10l2.toInt = 0 from gc97))
                        refine lv_aload_n hx hb dX8_seekRests_100 rfl (lv_at hl 0 rfl) ?_
                        refine lv_bipush (v := 10) hx hb dX8_seekRests_101 zk_bipush_10 ?_
                        refine lv_iload_n hx hb dX8_seekRests_103 rfl (lv_at hl 3 rfl) ?_
                        refine lv_iconst (v := 2) hx hb dX8_seekRests_104 zk_iconst_2 ?_
                        refine lv_idiv hx hb dX8_seekRests_105 (by decide +kernel) ?_
                        refine lv_topi (fun x105 ex105 => ?_)
                        have qx105 := ai_div ex105 ⟨bj10l3_l, u12f_j10l3⟩ (Int.lt_of_lt_of_le zq100 zq12)
                        have u105z_x105 : x105.toInt ≤ (1 : Int) := (by have h1 := qx105.1; have h2 := u12f_j10l3; have h3 : (2 : Int32).toInt = 2 := (by decide); rw [h3] at h1; omega)
                        have hF1 := hF1.trans (fl_lt_eq (show x105.toInt = j10l3.toInt / 2 from qx105.1))
                        refine lv_imul hx hb dX8_seekRests_106 ?_
                        refine lv_topi (fun x106 ex106 => ?_)
                        have qx106 : x106.toInt = (10 : Int32).toInt * x105.toInt ∧ (0 : Int) ≤ x106.toInt ∧ x106.toInt ≤ 10 := ai_mul ex106 ⟨zq26, zq27⟩ ⟨qx105.2.1, u105z_x105⟩ (by decide) (by decide) zq103
                        have wx106 : x106.toInt = 10 * x105.toInt := qx106.1
                        have hF1 := hF1.trans (fl_lt_eq (show x106.toInt = 10 * x105.toInt from qx106.1))
                        refine lv_iload_n hx hb dX8_seekRests_107 rfl (lv_at hl 3 rfl) ?_
                        refine lv_iconst (v := 2) hx hb dX8_seekRests_108 zk_iconst_2 ?_
                        refine lv_irem hx hb dX8_seekRests_109 (by decide +kernel) ?_
                        refine lv_topi (fun x109 ex109 => ?_)
                        have qx109 := ai_rem2 ex109 bj10l3_l (Int.lt_of_lt_of_le zq100 zq12) zq13
                        have wx109 : x109.toInt = j10l3.toInt % 2 := qx109.1
                        have hF1 := hF1.trans (fl_lt_eq (show x109.toInt = j10l3.toInt % 2 from qx109.1))
                        refine lv_iadd hx hb dX8_seekRests_110 ?_
                        refine lv_topi (fun x110 ex110 => ?_)
                        have qx110 : x110.toInt = x106.toInt + x109.toInt := ai_add ex110 ⟨qx106.2.1, qx106.2.2⟩ ⟨qx109.2.1, qx109.2.2⟩ (by decide) (by decide)
                        have bx110 : (0 : Int) ≤ x110.toInt ∧ x110.toInt ≤ 11 := ⟨by rw [qx110]; exact Int.add_le_add qx106.2.1 qx109.2.1, by rw [qx110]; exact Int.add_le_add qx106.2.2 qx109.2.2⟩
                        have hF1 := hF1.trans (fl_lt_eq (show x110.toInt = x106.toInt + x109.toInt from qx110))
                        refine va_put (D := (dC, dI)) (ci := 8) (v := .int x110) (ty := .int) (C := RX8) (T := TX8) (N := 40) hx hb hts zi_X8_seekRests_8 tyX8 tyX8_ok nmX8 hown hK hP hD hS 0 rfl rfl 37 (by decide) (hts (.fieldLink RX8 359 "WaxTurnsModel" "firstRest" "I") (List.mem_cons_of_mem _ (List.mem_append_left _ (List.mem_of_getElem? (i := 0) rfl)))) (fun _ h9 => h9) rfl (tyX8_ok 37 (by decide)) rfl rfl (Nat.le_of_ble_eq_true rfl) dX8_seekRests_111 (fun H locs hP hD hS => ?_)
                        obtain ⟨hP, hD⟩ := zc_re (w := [(a0, .inr (8, [a0g_0, a0g_1, a0g_2, a0g_3, a0g_4, a0g_5, a0g_6, a0g_7, a0g_8, a0g_9, a0g_10, a0g_11, a0g_12, a0g_13, a0g_14, a0g_15, a0g_16, a0g_17, a0g_18, a0g_19, a0g_20, a0g_21, a0g_22, a0g_23, a0g_24, a0g_25, a0g_26, a0g_27, a0g_28, a0g_29, a0g_30, a0g_31, a0g_32, a0g_33, a0g_34, a0g_35, a0g_36, Value.int x110, a0g_38, a0g_39]))]) hP hD rfl
                        exact (hK0 _ _ _).mp (J114 x110 _ _ _   hF1 hP hD hS (lv_sub hl [0, 1, 2, 3] rfl))
                    · obtain ⟨hw, h87_0, h87_1⟩ := hw
                      subst hw
                      have l87k2_j39s0 : (0 : Int) ≤ j39s0.toInt := bj39s0_l
                      have u87k2_j39s0 : j39s0.toInt ≤ (0 : Int) := h87_1
                      have hF1 := hF1.trans (if_neg (by decide))
                      have hF1 := hF1.trans (if_neg (by decide))
                      have hF1 := hF1.trans (if_pos (by decide))
                      refine lv_icmp_le (tgt := 96) hx hb dX8_seekRests_90 (by decide) (fun _ => ?_) (fun c90 => absurd (by decide +kernel) c90)
                      refine lv_iload_n hx hb dX8_seekRests_96 rfl (lv_at hl 2 rfl) ?_
                      have J114 : ∀ (j114a0_37 : Int32) (H : Heap) (locs : List Loc) (ls : Array Slot), (SX10 = Gf_X8_seekRests_114_9 j10l3.toInt j10l2.toInt j114a0_37.toInt) → va_P (dC, dI) vwCl [(a0, .inr (8, [a0g_0, a0g_1, a0g_2, a0g_3, a0g_4, a0g_5, a0g_6, a0g_7, a0g_8, a0g_9, a0g_10, a0g_11, a0g_12, a0g_13, a0g_14, a0g_15, a0g_16, a0g_17, a0g_18, a0g_19, a0g_20, a0g_21, a0g_22, a0g_23, a0g_24, a0g_25, a0g_26, a0g_27, a0g_28, a0g_29, a0g_30, a0g_31, a0g_32, a0g_33, a0g_34, a0g_35, a0g_36, Value.int j114a0_37, a0g_38, a0g_39]))] H → va_D A [(a0, .inr (8, [a0g_0, a0g_1, a0g_2, a0g_3, a0g_4, a0g_5, a0g_6, a0g_7, a0g_8, a0g_9, a0g_10, a0g_11, a0g_12, a0g_13, a0g_14, a0g_15, a0g_16, a0g_17, a0g_18, a0g_19, a0g_20, a0g_21, a0g_22, a0g_23, a0g_24, a0g_25, a0g_26, a0g_27, a0g_28, a0g_29, a0g_30, a0g_31, a0g_32, a0g_33, a0g_34, a0g_35, a0g_36, Value.int j114a0_37, a0g_38, a0g_39]))] → va_S A s.heap H locs → lv_has ls 6 [(0, .ref a0), (1, .int a1), (2, .int j10l2), (3, .int j10l3)] → K H locs (F0 m 114 ls []) := by
                        intro j114a0_37 H locs ls  hF1 hP hD hS hl
                        refine (hK0 _ _ _).mpr ?_
                        have hF1 := hF1.trans (Gf_X8_seekRests_114_9.eq_1 j10l3.toInt j10l2.toInt j114a0_37.toInt)
                        obtain ⟨x114, ex114⟩ : ∃ y : Int32, y = j10l2 + Int32.ofInt 1 := ⟨_, rfl⟩
                        refine lv_iinc (v := x114) (lv' := [(2, .int x114), (0, .ref a0), (1, .int a1), (3, .int j10l3)]) hx hb dX8_seekRests_114 hl (k := 2) rfl ex114.symm (by decide) rfl (fun ls hl => ?_)
                        have fqx114 := fl_iadd_eq ex114
                        have hF1 := hF1.trans (fl_lt_eq (show x114.toInt = fl_iadd j10l2.toInt 1 from fqx114))
                        exact (hK0 _ _ _).mp (J117 x114 j114a0_37 _ _ _   hF1 hP hD hS (lv_sub hl [1, 2, 0, 3] rfl))
                      refine lv_if_ne (tgt := 114) hx hb dX8_seekRests_97 (by decide) (fun c97 => ?_) (fun c97 => ?_)
                      · have gc97 := ai_ne c97
                        have hF1 := hF1.trans (if_neg (show ¬ (j10l2.toInt = 0) from  gc97))
                        exact (hK0 _ _ _).mp (J114 j10a0_37 _ _ _   hF1 hP hD hS (lv_sub hl [0, 1, 2, 3] rfl))
                      · have gc97 := ai_eq c97
                        have u97f_j10l2 : j10l2.toInt ≤ (0 : Int) := Int.le_trans (Int.le_of_eq gc97) zq6
                        have l97f_j10l2 : (0 : Int) ≤ j10l2.toInt := Int.le_trans zq5 (Int.le_of_eq gc97.symm)
                        have hF1 := hF1.trans (if_pos (show j10l2.toInt = 0 from gc97))
                        refine lv_aload_n hx hb dX8_seekRests_100 rfl (lv_at hl 0 rfl) ?_
                        refine lv_bipush (v := 10) hx hb dX8_seekRests_101 zk_bipush_10 ?_
                        refine lv_iload_n hx hb dX8_seekRests_103 rfl (lv_at hl 3 rfl) ?_
                        refine lv_iconst (v := 2) hx hb dX8_seekRests_104 zk_iconst_2 ?_
                        refine lv_idiv hx hb dX8_seekRests_105 (by decide +kernel) ?_
                        refine lv_topi (fun x105 ex105 => ?_)
                        have qx105 := ai_div ex105 ⟨bj10l3_l, u12f_j10l3⟩ (Int.lt_of_lt_of_le zq100 zq12)
                        have u105z_x105 : x105.toInt ≤ (1 : Int) := (by have h1 := qx105.1; have h2 := u12f_j10l3; have h3 : (2 : Int32).toInt = 2 := (by decide); rw [h3] at h1; omega)
                        have hF1 := hF1.trans (fl_lt_eq (show x105.toInt = j10l3.toInt / 2 from qx105.1))
                        refine lv_imul hx hb dX8_seekRests_106 ?_
                        refine lv_topi (fun x106 ex106 => ?_)
                        have qx106 : x106.toInt = (10 : Int32).toInt * x105.toInt ∧ (0 : Int) ≤ x106.toInt ∧ x106.toInt ≤ 10 := ai_mul ex106 ⟨zq26, zq27⟩ ⟨qx105.2.1, u105z_x105⟩ (by decide) (by decide) zq103
                        have wx106 : x106.toInt = 10 * x105.toInt := qx106.1
                        have hF1 := hF1.trans (fl_lt_eq (show x106.toInt = 10 * x105.toInt from qx106.1))
                        refine lv_iload_n hx hb dX8_seekRests_107 rfl (lv_at hl 3 rfl) ?_
                        refine lv_iconst (v := 2) hx hb dX8_seekRests_108 zk_iconst_2 ?_
                        refine lv_irem hx hb dX8_seekRests_109 (by decide +kernel) ?_
                        refine lv_topi (fun x109 ex109 => ?_)
                        have qx109 := ai_rem2 ex109 bj10l3_l (Int.lt_of_lt_of_le zq100 zq12) zq13
                        have wx109 : x109.toInt = j10l3.toInt % 2 := qx109.1
                        have hF1 := hF1.trans (fl_lt_eq (show x109.toInt = j10l3.toInt % 2 from qx109.1))
                        refine lv_iadd hx hb dX8_seekRests_110 ?_
                        refine lv_topi (fun x110 ex110 => ?_)
                        have qx110 : x110.toInt = x106.toInt + x109.toInt := ai_add ex110 ⟨qx106.2.1, qx106.2.2⟩ ⟨qx109.2.1, qx109.2.2⟩ (by decide) (by decide)
                        have bx110 : (0 : Int) ≤ x110.toInt ∧ x110.toInt ≤ 11 := ⟨by rw [qx110]; exact Int.add_le_add qx106.2.1 qx109.2.1, by rw [qx110]; exact Int.add_le_add qx106.2.2 qx109.2.2⟩
                        have hF1 := hF1.trans (fl_lt_eq (show x110.toInt = x106.toInt + x109.toInt from qx110))
                        refine va_put (D := (dC, dI)) (ci := 8) (v := .int x110) (ty := .int) (C := RX8) (T := TX8) (N := 40) hx hb hts zi_X8_seekRests_8 tyX8 tyX8_ok nmX8 hown hK hP hD hS 0 rfl rfl 37 (by decide) (hts (.fieldLink RX8 359 "WaxTurnsModel" "firstRest" "I") (List.mem_cons_of_mem _ (List.mem_append_left _ (List.mem_of_getElem? (i := 0) rfl)))) (fun _ h9 => h9) rfl (tyX8_ok 37 (by decide)) rfl rfl (Nat.le_of_ble_eq_true rfl) dX8_seekRests_111 (fun H locs hP hD hS => ?_)
                        obtain ⟨hP, hD⟩ := zc_re (w := [(a0, .inr (8, [a0g_0, a0g_1, a0g_2, a0g_3, a0g_4, a0g_5, a0g_6, a0g_7, a0g_8, a0g_9, a0g_10, a0g_11, a0g_12, a0g_13, a0g_14, a0g_15, a0g_16, a0g_17, a0g_18, a0g_19, a0g_20, a0g_21, a0g_22, a0g_23, a0g_24, a0g_25, a0g_26, a0g_27, a0g_28, a0g_29, a0g_30, a0g_31, a0g_32, a0g_33, a0g_34, a0g_35, a0g_36, Value.int x110, a0g_38, a0g_39]))]) hP hD rfl
                        exact (hK0 _ _ _).mp (J114 x110 _ _ _   hF1 hP hD hS (lv_sub hl [0, 1, 2, 3] rfl))
                    · obtain ⟨hw, h87_0, h87_1⟩ := hw
                      subst hw
                      have l87k3_j25s0 : (0 : Int) ≤ j25s0.toInt := l80k3_j25s0
                      have u87k3_j25s0 : j25s0.toInt ≤ (0 : Int) := u80k3_j25s0
                      have hF1 := hF1.trans (if_neg (by decide))
                      have hF1 := hF1.trans (if_neg (by decide))
                      have hF1 := hF1.trans (if_neg (by decide))
                      refine lv_icmp_le (tgt := 96) hx hb dX8_seekRests_90 (by decide) (fun _ => ?_) (fun c90 => absurd (by decide +kernel) c90)
                      refine lv_iload_n hx hb dX8_seekRests_96 rfl (lv_at hl 2 rfl) ?_
                      have J114 : ∀ (j114a0_37 : Int32) (H : Heap) (locs : List Loc) (ls : Array Slot), (SX10 = Gf_X8_seekRests_114_10 j10l3.toInt j10l2.toInt j114a0_37.toInt) → va_P (dC, dI) vwCl [(a0, .inr (8, [a0g_0, a0g_1, a0g_2, a0g_3, a0g_4, a0g_5, a0g_6, a0g_7, a0g_8, a0g_9, a0g_10, a0g_11, a0g_12, a0g_13, a0g_14, a0g_15, a0g_16, a0g_17, a0g_18, a0g_19, a0g_20, a0g_21, a0g_22, a0g_23, a0g_24, a0g_25, a0g_26, a0g_27, a0g_28, a0g_29, a0g_30, a0g_31, a0g_32, a0g_33, a0g_34, a0g_35, a0g_36, Value.int j114a0_37, a0g_38, a0g_39]))] H → va_D A [(a0, .inr (8, [a0g_0, a0g_1, a0g_2, a0g_3, a0g_4, a0g_5, a0g_6, a0g_7, a0g_8, a0g_9, a0g_10, a0g_11, a0g_12, a0g_13, a0g_14, a0g_15, a0g_16, a0g_17, a0g_18, a0g_19, a0g_20, a0g_21, a0g_22, a0g_23, a0g_24, a0g_25, a0g_26, a0g_27, a0g_28, a0g_29, a0g_30, a0g_31, a0g_32, a0g_33, a0g_34, a0g_35, a0g_36, Value.int j114a0_37, a0g_38, a0g_39]))] → va_S A s.heap H locs → lv_has ls 6 [(0, .ref a0), (1, .int a1), (2, .int j10l2), (3, .int j10l3)] → K H locs (F0 m 114 ls []) := by
                        intro j114a0_37 H locs ls  hF1 hP hD hS hl
                        refine (hK0 _ _ _).mpr ?_
                        have hF1 := hF1.trans (Gf_X8_seekRests_114_10.eq_1 j10l3.toInt j10l2.toInt j114a0_37.toInt)
                        obtain ⟨x114, ex114⟩ : ∃ y : Int32, y = j10l2 + Int32.ofInt 1 := ⟨_, rfl⟩
                        refine lv_iinc (v := x114) (lv' := [(2, .int x114), (0, .ref a0), (1, .int a1), (3, .int j10l3)]) hx hb dX8_seekRests_114 hl (k := 2) rfl ex114.symm (by decide) rfl (fun ls hl => ?_)
                        have fqx114 := fl_iadd_eq ex114
                        have hF1 := hF1.trans (fl_lt_eq (show x114.toInt = fl_iadd j10l2.toInt 1 from fqx114))
                        exact (hK0 _ _ _).mp (J117 x114 j114a0_37 _ _ _   hF1 hP hD hS (lv_sub hl [1, 2, 0, 3] rfl))
                      refine lv_if_ne (tgt := 114) hx hb dX8_seekRests_97 (by decide) (fun c97 => ?_) (fun c97 => ?_)
                      · have gc97 := ai_ne c97
                        have hF1 := hF1.trans (if_neg (show ¬ (j10l2.toInt = 0) from  gc97))
                        exact (hK0 _ _ _).mp (J114 j10a0_37 _ _ _   hF1 hP hD hS (lv_sub hl [0, 1, 2, 3] rfl))
                      · have gc97 := ai_eq c97
                        have u97f_j10l2 : j10l2.toInt ≤ (0 : Int) := Int.le_trans (Int.le_of_eq gc97) zq6
                        have l97f_j10l2 : (0 : Int) ≤ j10l2.toInt := Int.le_trans zq5 (Int.le_of_eq gc97.symm)
                        have hF1 := hF1.trans (if_pos (show j10l2.toInt = 0 from gc97))
                        refine lv_aload_n hx hb dX8_seekRests_100 rfl (lv_at hl 0 rfl) ?_
                        refine lv_bipush (v := 10) hx hb dX8_seekRests_101 zk_bipush_10 ?_
                        refine lv_iload_n hx hb dX8_seekRests_103 rfl (lv_at hl 3 rfl) ?_
                        refine lv_iconst (v := 2) hx hb dX8_seekRests_104 zk_iconst_2 ?_
                        refine lv_idiv hx hb dX8_seekRests_105 (by decide +kernel) ?_
                        refine lv_topi (fun x105 ex105 => ?_)
                        have qx105 := ai_div ex105 ⟨bj10l3_l, u12f_j10l3⟩ (Int.lt_of_lt_of_le zq100 zq12)
                        have u105z_x105 : x105.toInt ≤ (1 : Int) := (by have h1 := qx105.1; have h2 := u12f_j10l3; have h3 : (2 : Int32).toInt = 2 := (by decide); rw [h3] at h1; omega)
                        have hF1 := hF1.trans (fl_lt_eq (show x105.toInt = j10l3.toInt / 2 from qx105.1))
                        refine lv_imul hx hb dX8_seekRests_106 ?_
                        refine lv_topi (fun x106 ex106 => ?_)
                        have qx106 : x106.toInt = (10 : Int32).toInt * x105.toInt ∧ (0 : Int) ≤ x106.toInt ∧ x106.toInt ≤ 10 := ai_mul ex106 ⟨zq26, zq27⟩ ⟨qx105.2.1, u105z_x105⟩ (by decide) (by decide) zq103
                        have wx106 : x106.toInt = 10 * x105.toInt := qx106.1
                        have hF1 := hF1.trans (fl_lt_eq (show x106.toInt = 10 * x105.toInt from qx106.1))
                        refine lv_iload_n hx hb dX8_seekRests_107 rfl (lv_at hl 3 rfl) ?_
                        refine lv_iconst (v := 2) hx hb dX8_seekRests_108 zk_iconst_2 ?_
                        refine lv_irem hx hb dX8_seekRests_109 (by decide +kernel) ?_
                        refine lv_topi (fun x109 ex109 => ?_)
                        have qx109 := ai_rem2 ex109 bj10l3_l (Int.lt_of_lt_of_le zq100 zq12) zq13
                        have wx109 : x109.toInt = j10l3.toInt % 2 := qx109.1
                        have hF1 := hF1.trans (fl_lt_eq (show x109.toInt = j10l3.toInt % 2 from qx109.1))
                        refine lv_iadd hx hb dX8_seekRests_110 ?_
                        refine lv_topi (fun x110 ex110 => ?_)
                        have qx110 : x110.toInt = x106.toInt + x109.toInt := ai_add ex110 ⟨qx106.2.1, qx106.2.2⟩ ⟨qx109.2.1, qx109.2.2⟩ (by decide) (by decide)
                        have bx110 : (0 : Int) ≤ x110.toInt ∧ x110.toInt ≤ 11 := ⟨by rw [qx110]; exact Int.add_le_add qx106.2.1 qx109.2.1, by rw [qx110]; exact Int.add_le_add qx106.2.2 qx109.2.2⟩
                        have hF1 := hF1.trans (fl_lt_eq (show x110.toInt = x106.toInt + x109.toInt from qx110))
                        refine va_put (D := (dC, dI)) (ci := 8) (v := .int x110) (ty := .int) (C := RX8) (T := TX8) (N := 40) hx hb hts zi_X8_seekRests_8 tyX8 tyX8_ok nmX8 hown hK hP hD hS 0 rfl rfl 37 (by decide) (hts (.fieldLink RX8 359 "WaxTurnsModel" "firstRest" "I") (List.mem_cons_of_mem _ (List.mem_append_left _ (List.mem_of_getElem? (i := 0) rfl)))) (fun _ h9 => h9) rfl (tyX8_ok 37 (by decide)) rfl rfl (Nat.le_of_ble_eq_true rfl) dX8_seekRests_111 (fun H locs hP hD hS => ?_)
                        obtain ⟨hP, hD⟩ := zc_re (w := [(a0, .inr (8, [a0g_0, a0g_1, a0g_2, a0g_3, a0g_4, a0g_5, a0g_6, a0g_7, a0g_8, a0g_9, a0g_10, a0g_11, a0g_12, a0g_13, a0g_14, a0g_15, a0g_16, a0g_17, a0g_18, a0g_19, a0g_20, a0g_21, a0g_22, a0g_23, a0g_24, a0g_25, a0g_26, a0g_27, a0g_28, a0g_29, a0g_30, a0g_31, a0g_32, a0g_33, a0g_34, a0g_35, a0g_36, Value.int x110, a0g_38, a0g_39]))]) hP hD rfl
                        exact (hK0 _ _ _).mp (J114 x110 _ _ _   hF1 hP hD hS (lv_sub hl [0, 1, 2, 3] rfl))
                refine lv_if_ne (tgt := 79) hx hb dX8_seekRests_72 (by decide) (fun c72 => ?_) (fun c72 => ?_)
                · have gc72 := ai_ne c72
                  have l72t_j39s0 : (1 : Int) ≤ j39s0.toInt := (by have h1 := bj39s0_l; have h2 : (0 : Int32).toInt = 0 := (by decide); rw [h2] at gc72; omega)
                  have hF1 := hF1.trans (if_neg (show ¬ (j39s0.toInt = 0) from  gc72))
                  refine lv_iconst (v := 0) hx hb dX8_seekRests_79 zk_iconst_0 ?_
                  exact (hK0 _ _ _).mp (J80 0 _ _ _  zq5 (Int.le_trans zq6 zq4) (by rw [show (0 : Int32).toInt = 0 from by decide]; exact hF1) hP hD hS (lv_sub hl [0, 1, 2, 3, 4, 5] rfl))
                · have gc72 := ai_eq c72
                  have u72f_j39s0 : j39s0.toInt ≤ (0 : Int) := Int.le_trans (Int.le_of_eq gc72) zq6
                  have l72f_j39s0 : (0 : Int) ≤ j39s0.toInt := bj39s0_l
                  have hF1 := hF1.trans (if_pos (show j39s0.toInt = 0 from gc72))
                  refine lv_iconst (v := 1) hx hb dX8_seekRests_75 zk_iconst_1 ?_
                  refine lv_goto (tgt := 80) hx hb dX8_seekRests_76 (by decide) ?_
                  exact (hK0 _ _ _).mp (J80 1 _ _ _  (Int.le_trans zq4 zq1) zq0 (by rw [show (1 : Int32).toInt = 1 from by decide]; exact hF1) hP hD hS (lv_sub hl [0, 1, 2, 3, 4, 5] rfl))
            refine lv_if_ne (tgt := 51) hx hb dX8_seekRests_44 (by decide) (fun c44 => ?_) (fun c44 => ?_)
            · have gc44 := ai_ne c44
              have l44t_j25s0 : (1 : Int) ≤ j25s0.toInt := (by have h1 := bj25s0_l; have h2 : (0 : Int32).toInt = 0 := (by decide); rw [h2] at gc44; omega)
              have hF1 := hF1.trans (if_neg (show ¬ (j25s0.toInt = 0) from  gc44))
              refine lv_iconst (v := 0) hx hb dX8_seekRests_51 zk_iconst_0 ?_
              exact (hK0 _ _ _).mp (J52 0 _ _ _  zq5 (Int.le_trans zq6 zq4) (by rw [show (0 : Int32).toInt = 0 from by decide]; exact hF1) hP hD hS (lv_sub hl [1, 2, 3, 4, 5, 0] rfl))
            · have gc44 := ai_eq c44
              have u44f_j25s0 : j25s0.toInt ≤ (0 : Int) := Int.le_trans (Int.le_of_eq gc44) zq6
              have l44f_j25s0 : (0 : Int) ≤ j25s0.toInt := bj25s0_l
              have hF1 := hF1.trans (if_pos (show j25s0.toInt = 0 from gc44))
              refine lv_iconst (v := 1) hx hb dX8_seekRests_47 zk_iconst_1 ?_
              refine lv_goto (tgt := 52) hx hb dX8_seekRests_48 (by decide) ?_
              exact (hK0 _ _ _).mp (J52 1 _ _ _  (Int.le_trans zq4 zq1) zq0 (by rw [show (1 : Int32).toInt = 1 from by decide]; exact hF1) hP hD hS (lv_sub hl [1, 2, 3, 4, 5, 0] rfl))
          refine lv_icmp_ne (tgt := 38) hx hb dX8_seekRests_31 (by decide) (fun c31 => ?_) (fun c31 => ?_)
          · have gc31 := ai_ne c31
            have u31t_x29 : x29.toInt ≤ (0 : Int) := (by have h1 := qx29.2.2; have h2 : (1 : Int32).toInt = 1 := (by decide); rw [h2] at gc31; omega)
            have hF1 := hF1.trans (if_neg (show ¬ (x29.toInt = 1) from  gc31))
            refine lv_iconst (v := 0) hx hb dX8_seekRests_38 zk_iconst_0 ?_
            exact (hK0 _ _ _).mp (J39 0 _ _ _  zq5 (Int.le_trans zq6 zq4) (by rw [show (0 : Int32).toInt = 0 from by decide]; exact hF1) hP hD hS (lv_sub hl [1, 2, 3, 4, 0] rfl))
          · have gc31 := ai_eq c31
            have u31f_x29 : x29.toInt ≤ (1 : Int) := qx29.2.2
            have l31f_x29 : (1 : Int) ≤ x29.toInt := Int.le_trans zq1 (Int.le_of_eq gc31.symm)
            have hF1 := hF1.trans (if_pos (show x29.toInt = 1 from gc31))
            refine lv_iconst (v := 1) hx hb dX8_seekRests_34 zk_iconst_1 ?_
            refine lv_goto (tgt := 39) hx hb dX8_seekRests_35 (by decide) ?_
            exact (hK0 _ _ _).mp (J39 1 _ _ _  (Int.le_trans zq4 zq1) zq0 (by rw [show (1 : Int32).toInt = 1 from by decide]; exact hF1) hP hD hS (lv_sub hl [1, 2, 3, 4, 0] rfl))
        refine lv_icmp_le (tgt := 24) hx hb dX8_seekRests_17 (by decide) (fun c17 => ?_) (fun c17 => ?_)
        · have gc17 := ai_le c17
          have u17t_j10l3 : j10l3.toInt ≤ (1 : Int) := Int.le_trans gc17 zq0
          have hF1 := hF1.trans (if_pos (show j10l3.toInt ≤ 1 from gc17))
          refine lv_iconst (v := 0) hx hb dX8_seekRests_24 zk_iconst_0 ?_
          exact (hK0 _ _ _).mp (J25 0 _ _ _  zq5 (Int.le_trans zq6 zq4) (by rw [show (0 : Int32).toInt = 0 from by decide]; exact hF1) hP hD hS (lv_sub hl [0, 1, 2, 3] rfl))
        · have gc17 := ai_nle c17
          have l17f_j10l3 : (2 : Int) ≤ j10l3.toInt := ai_ltlo gc17 zq1
          have hF1 := hF1.trans (if_neg (show ¬ (j10l3.toInt ≤ 1) from Int.not_le.mpr gc17))
          refine lv_iconst (v := 1) hx hb dX8_seekRests_20 zk_iconst_1 ?_
          refine lv_goto (tgt := 25) hx hb dX8_seekRests_21 (by decide) ?_
          exact (hK0 _ _ _).mp (J25 1 _ _ _  (Int.le_trans zq4 zq1) zq0 (by rw [show (1 : Int32).toInt = 1 from by decide]; exact hF1) hP hD hS (lv_sub hl [0, 1, 2, 3] rfl))
  exact (hK0 _ _ _).mp (J10 5 0 0 (-2) _ _ _ (by have h1 : (0 : Int) ≤ (0 : Int32).toInt := zq5; have h2 : (0 : Int32).toInt ≤ (0 : Int) := zq6; omega) zq5 (Int.le_trans zq6 zq101) (by rw [show (0 : Int32).toInt = 0 from by decide, show ((-2) : Int32).toInt = (-2) from by decide]; exact hF0) hP hD hS (lv_sub hl [2, 3, 1, 0] rfl))
