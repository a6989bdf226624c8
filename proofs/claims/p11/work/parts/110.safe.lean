set_option maxHeartbeats 4000000 in
set_option maxRecDepth 100000 in
theorem c_X7_round (l : Launch) (dC : Nat → ClassId) (dI : Nat → Nat → Nat) (sz : Nat) (a0 : Nat) (a0g_0 a0g_2 a0g_3 a0g_4 a0g_5 a0g_6 a0g_9 a0g_10 : Value) (a0_1 : Nat) (a0_7 : Nat) (a0_8 : Int32) (a0_7_0 : Int32) (a0_7g_1 a0_7g_2 a0_7g_3 a0_7g_4 a0_7g_7 a0_7g_8 a0_7g_9 a0_7g_10 a0_7g_11 a0_7g_12 a0_7g_13 a0_7g_14 : Value) (a0_7_5 : Int32) (a0_7_6 : Int32) (a0_1g_0 a0_1g_2 a0_1g_3 a0_1g_4 a0_1g_5 a0_1g_6 : Value) (a0_1_1 : Int32) (ba0_7_0_l : (0 : Int) ≤ a0_7_0.toInt) (ba0_7_0_u : a0_7_0.toInt ≤ (9 : Int)) (ba0_7_5_l : (0 : Int) ≤ a0_7_5.toInt) (ba0_7_5_u : a0_7_5.toInt ≤ (8 : Int)) (ba0_7_6_l : (0 : Int) ≤ a0_7_6.toInt) (ba0_7_6_u : a0_7_6.toInt ≤ (8 : Int)) (ba0_1_1_l : (0 : Int) ≤ a0_1_1.toInt) (ba0_1_1_u : a0_1_1.toInt ≤ (8 : Int)) : Met l yX7_round wsX7_round ({ frames := 3, cells := 0, slots := 0, locals := 72 }) (va_Pc [.ref a0] (ax_C dC dI sz [(a0, .inr (7, [a0g_0, .ref a0_1, a0g_2, a0g_3, a0g_4, a0g_5, a0g_6, .ref a0_7, .int a0_8, a0g_9, a0g_10])), (a0_7, .inr (0, [.int a0_7_0, a0_7g_1, a0_7g_2, a0_7g_3, a0_7g_4, .int a0_7_5, .int a0_7_6, a0_7g_7, a0_7g_8, a0_7g_9, a0_7g_10, a0_7g_11, a0_7g_12, a0_7g_13, a0_7g_14])), (a0_1, .inr (5, [a0_1g_0, .int a0_1_1, a0_1g_2, a0_1g_3, a0_1g_4, a0_1g_5, a0_1g_6]))] [] (fun _ => True))) (va_Qi (fun (r : Int32) (_ : Unit) => (-1 : Int) ≤ r.toInt ∧ r.toInt ≤ (9 : Int)) (fun (_ : Unit) (t : State) => ∃ na0_8 : Int32, ax_B dC dI (va_A [(a0, .inr (7, [a0g_0, .ref a0_1, a0g_2, a0g_3, a0g_4, a0g_5, a0g_6, .ref a0_7, .int a0_8, a0g_9, a0g_10])), (a0_7, .inr (0, [.int a0_7_0, a0_7g_1, a0_7g_2, a0_7g_3, a0_7g_4, .int a0_7_5, .int a0_7_6, a0_7g_7, a0_7g_8, a0_7g_9, a0_7g_10, a0_7g_11, a0_7g_12, a0_7g_13, a0_7g_14])), (a0_1, .inr (5, [a0_1g_0, .int a0_1_1, a0_1g_2, a0_1g_3, a0_1g_4, a0_1g_5, a0_1g_6]))] sz) [(a0, .inr (7, [a0g_0, .ref a0_1, a0g_2, a0g_3, a0g_4, a0g_5, a0g_6, .ref a0_7, .int na0_8, a0g_9, a0g_10])), (a0_7, .inr (0, [.int a0_7_0, a0_7g_1, a0_7g_2, a0_7g_3, a0_7g_4, .int a0_7_5, .int a0_7_6, a0_7g_7, a0_7g_8, a0_7g_9, a0_7g_10, a0_7g_11, a0_7g_12, a0_7g_13, a0_7g_14])), (a0_1, .inr (5, [a0_1g_0, .int a0_1_1, a0_1g_2, a0_1g_3, a0_1g_4, a0_1g_5, a0_1g_6]))] [] t) (va_A [(a0, .inr (7, [a0g_0, .ref a0_1, a0g_2, a0g_3, a0g_4, a0g_5, a0g_6, .ref a0_7, .int a0_8, a0g_9, a0g_10])), (a0_7, .inr (0, [.int a0_7_0, a0_7g_1, a0_7g_2, a0_7g_3, a0_7g_4, .int a0_7_5, .int a0_7_6, a0_7g_7, a0_7g_8, a0_7g_9, a0_7g_10, a0_7g_11, a0_7g_12, a0_7g_13, a0_7g_14])), (a0_1, .inr (5, [a0_1g_0, .int a0_1_1, a0_1g_2, a0_1g_3, a0_1g_4, a0_1g_5, a0_1g_6]))] sz)) 0 0 (va_A [(a0, .inr (7, [a0g_0, .ref a0_1, a0g_2, a0g_3, a0g_4, a0g_5, a0g_6, .ref a0_7, .int a0_8, a0g_9, a0g_10])), (a0_7, .inr (0, [.int a0_7_0, a0_7g_1, a0_7g_2, a0_7g_3, a0_7g_4, .int a0_7_5, .int a0_7_6, a0_7g_7, a0_7g_8, a0_7g_9, a0_7g_10, a0_7g_11, a0_7g_12, a0_7g_13, a0_7g_14])), (a0_1, .inr (5, [a0_1g_0, .int a0_1_1, a0_1g_2, a0_1g_3, a0_1g_4, a0_1g_5, a0_1g_6]))] sz) := by
  refine Met.ofW (cc := cX7_round) (maxL := 1) (ret := (some .int)) (by decide) rfl ?_
  intro p e s m args below meth c s₁ B hml hv
  obtain ⟨rfl, hsz, hP, hK, hD0, hE⟩ := hv
  have hx := B.exec
  have hb := B.bytes
  have hr := B.returns
  have hts := atoms_spec (ws := wsX7_round) B.pre
  have hown : s.vm.findClass RX7 = some m.cls := findClass_of_methodNamed B.named
  have hlocks := B.notSynchronized
  subst hsz
  have hD := hD0.self (sz := s.heap.size)
  generalize hAe : va_A [(a0, .inr (7, [a0g_0, .ref a0_1, a0g_2, a0g_3, a0g_4, a0g_5, a0g_6, .ref a0_7, .int a0_8, a0g_9, a0g_10])), (a0_7, .inr (0, [.int a0_7_0, a0_7g_1, a0_7g_2, a0_7g_3, a0_7g_4, .int a0_7_5, .int a0_7_6, a0_7g_7, a0_7g_8, a0_7g_9, a0_7g_10, a0_7g_11, a0_7g_12, a0_7g_13, a0_7g_14])), (a0_1, .inr (5, [a0_1g_0, .int a0_1_1, a0_1g_2, a0_1g_3, a0_1g_4, a0_1g_5, a0_1g_6]))] s.heap.size = A at hD ⊢
  have hA : ∀ q : Nat, s.heap.size ≤ q → A q := fun q h => by rw [← hAe]; exact Or.inr h
  have hS : va_S A s.heap s.heap [] := va_S.rf
  have hP : va_P (dC, dI) vwCl [(a0, .inr (7, [a0g_0, .ref a0_1, a0g_2, a0g_3, a0g_4, a0g_5, a0g_6, .ref a0_7, .int a0_8, a0g_9, a0g_10])), (a0_7, .inr (0, [.int a0_7_0, a0_7g_1, a0_7g_2, a0_7g_3, a0_7g_4, .int a0_7_5, .int a0_7_6, a0_7g_7, a0_7g_8, a0_7g_9, a0_7g_10, a0_7g_11, a0_7g_12, a0_7g_13, a0_7g_14])), (a0_1, .inr (5, [a0_1g_0, .int a0_1_1, a0_1g_2, a0_1g_3, a0_1g_4, a0_1g_5, a0_1g_6]))] s.heap := hP
  have hl := lv_entry ([.ref a0]) (n := 1) (Nat.le_of_ble_eq_true rfl)
  rw [lg_entry_eq]
  generalize (lg_sl ([.ref a0]) ++ List.replicate (1 - (lg_sl ([.ref a0])).length) Slot.unset).toArray = ls at hl ⊢
  have hl : lv_has ls 1 [(0, .ref a0)] := hl
  refine lv_aload_n hx hb dX7_round_0 rfl (lv_at hl 0 rfl) ?_
  obtain ⟨hPc, hDc, hFc, hCc⟩ := zc_cut (wc := [(a0, .inr (7, [a0g_0, .ref a0_1, a0g_2, a0g_3, a0g_4, a0g_5, a0g_6, .ref a0_7, .int a0_8, a0g_9, a0g_10])), (a0_7, .inr (0, [.int a0_7_0, a0_7g_1, a0_7g_2, a0_7g_3, a0_7g_4, .int a0_7_5, .int a0_7_6, a0_7g_7, a0_7g_8, a0_7g_9, a0_7g_10, a0_7g_11, a0_7g_12, a0_7g_13, a0_7g_14]))]) hP hD hS hA [0, 1] (by decide +kernel) rfl
  have hKc := hK.sub (tys' := []) [] rfl
  refine va_calli (va_runV (As := []) (rest := []) ⟨hx, hb, hml, hown, hts⟩ (c_X7_hasGallery l dC dI s.heap.size a0 a0g_0 (.ref a0_1) a0g_2 a0g_3 a0g_4 a0g_5 a0g_6 (.int a0_8) a0g_9 a0g_10 a0_7 a0_7_0 a0_7g_1 a0_7g_2 a0_7g_3 a0_7g_4 (.int a0_7_5) (.int a0_7_6) a0_7g_7 a0_7g_8 a0_7g_9 a0_7g_10 a0_7g_11 a0_7g_12 a0_7g_13 a0_7g_14 ba0_7_0_l ba0_7_0_u) (cwV 0 hts gX7_round_X7_hasGallery rfl rfl rfl zd_X7_hasGallery ⟨Nat.le_of_ble_eq_true rfl, Nat.le_of_ble_eq_true rfl⟩) ⟨ax_blind (fun _ _ _ _ _ => trivial), zr_7 hKc hPc (q0 := 0) rfl, ax_pre hPc hKc hDc (fun _ _ => trivial)⟩ rfl rfl hl.1 rfl (lv_room (Nat.le_of_ble_eq_true rfl)) dX7_round_1 ⟨Nat.le_of_ble_eq_true rfl, Nat.le_of_ble_eq_true rfl⟩) hS (fun q _ h => hFc q h) hFc (fun r1 u t H locs ht hvm hw hB hz1 hk1 hS => ?_)
  obtain ⟨hP1, hK1, hD1⟩ := hB
  rw [ht] at hP1
  obtain ⟨hP, hD⟩ := zc_back (w := [(a0, .inr (7, [a0g_0, .ref a0_1, a0g_2, a0g_3, a0g_4, a0g_5, a0g_6, .ref a0_7, .int a0_8, a0g_9, a0g_10])), (a0_7, .inr (0, [.int a0_7_0, a0_7g_1, a0_7g_2, a0_7g_3, a0_7g_4, .int a0_7_5, .int a0_7_6, a0_7g_7, a0_7g_8, a0_7g_9, a0_7g_10, a0_7g_11, a0_7g_12, a0_7g_13, a0_7g_14])), (a0_1, .inr (5, [a0_1g_0, .int a0_1_1, a0_1g_2, a0_1g_3, a0_1g_4, a0_1g_5, a0_1g_6]))]) hP hD hCc hk1 hFc hP1 hD1 [.inr 0, .inr 1, .inl 2] (by decide +kernel) rfl
  rcases hw with hw | hw
  · obtain ⟨hw, h1_0, h1_1⟩ := hw
    subst hw
    have l1k0_a0_7_0 : (1 : Int) ≤ a0_7_0.toInt := h1_0
    have u1k0_a0_7_0 : a0_7_0.toInt ≤ (9 : Int) := ba0_7_0_u
    refine lv_if_ne (tgt := 13) hx hb dX7_round_4 (by decide) (fun _ => ?_) (fun c4 => absurd c4 (by decide +kernel))
    refine lv_aload_n hx hb dX7_round_13 rfl (lv_at hl 0 rfl) ?_
    refine lv_aload_n hx hb dX7_round_14 rfl (lv_at hl 0 rfl) ?_
    obtain ⟨hPc, hDc, hFc, hCc⟩ := zc_cut (wc := [(a0, .inr (7, [a0g_0, .ref a0_1, a0g_2, a0g_3, a0g_4, a0g_5, a0g_6, .ref a0_7, .int a0_8, a0g_9, a0g_10])), (a0_7, .inr (0, [.int a0_7_0, a0_7g_1, a0_7g_2, a0_7g_3, a0_7g_4, .int a0_7_5, .int a0_7_6, a0_7g_7, a0_7g_8, a0_7g_9, a0_7g_10, a0_7g_11, a0_7g_12, a0_7g_13, a0_7g_14])), (a0_1, .inr (5, [a0_1g_0, .int a0_1_1, a0_1g_2, a0_1g_3, a0_1g_4, a0_1g_5, a0_1g_6]))]) hP hD hS hA [0, 1, 2] (by decide +kernel) rfl
    have hKc := hK.sub (tys' := []) [] rfl
    refine va_calli (va_runV (As := []) (rest := [.ref a0]) ⟨hx, hb, hml, hown, hts⟩ (c_X7_roundLength l dC dI H.size a0 a0g_0 a0g_2 a0g_3 a0g_4 a0g_5 a0g_6 (.int a0_8) a0g_9 a0g_10 a0_1 a0_7 a0_7_0 a0_7g_1 a0_7g_2 a0_7g_3 a0_7g_4 a0_7g_7 a0_7g_8 a0_7g_9 a0_7g_10 a0_7g_11 a0_7g_12 a0_7g_13 a0_7g_14 a0_7_5 a0_7_6 a0_1g_0 a0_1g_2 a0_1g_3 a0_1g_4 a0_1g_5 a0_1g_6 a0_1_1 (Int.le_trans zq4 l1k0_a0_7_0) u1k0_a0_7_0 ba0_7_5_l ba0_7_5_u ba0_7_6_l ba0_7_6_u ba0_1_1_l ba0_1_1_u) (cwV 0 hts gX7_round_X7_roundLength rfl rfl rfl zd_X7_roundLength ⟨Nat.le_of_ble_eq_true rfl, Nat.le_of_ble_eq_true rfl⟩) ⟨ax_blind (fun _ _ _ _ _ => trivial), zr_7 hKc hPc (q0 := 0) rfl, ax_pre hPc hKc hDc (fun _ _ => trivial)⟩ rfl rfl hl.1 rfl (lv_room (Nat.le_of_ble_eq_true rfl)) dX7_round_15 ⟨Nat.le_of_ble_eq_true rfl, Nat.le_of_ble_eq_true rfl⟩) hS (fun q _ h => hFc q h) hFc (fun r15 u t H locs ht hvm hw hB hz1 hk1 hS => ?_)
    obtain ⟨hP1, hK1, hD1⟩ := hB
    rw [ht] at hP1
    obtain ⟨hP, hD⟩ := zc_back (w := [(a0, .inr (7, [a0g_0, .ref a0_1, a0g_2, a0g_3, a0g_4, a0g_5, a0g_6, .ref a0_7, .int a0_8, a0g_9, a0g_10])), (a0_7, .inr (0, [.int a0_7_0, a0_7g_1, a0_7g_2, a0_7g_3, a0_7g_4, .int a0_7_5, .int a0_7_6, a0_7g_7, a0_7g_8, a0_7g_9, a0_7g_10, a0_7g_11, a0_7g_12, a0_7g_13, a0_7g_14])), (a0_1, .inr (5, [a0_1g_0, .int a0_1_1, a0_1g_2, a0_1g_3, a0_1g_4, a0_1g_5, a0_1g_6]))]) hP hD hCc hk1 hFc hP1 hD1 [.inr 0, .inr 1, .inr 2] (by decide +kernel) rfl
    have hw : (1 : Int) ≤ r15.toInt ∧ r15.toInt ≤ (9 : Int) := hw
    obtain ⟨h15_0, h15_1⟩ := hw
    obtain ⟨hPc, hDc, hFc, hCc⟩ := zc_cut (wc := [(a0, .inr (7, [a0g_0, .ref a0_1, a0g_2, a0g_3, a0g_4, a0g_5, a0g_6, .ref a0_7, .int a0_8, a0g_9, a0g_10]))]) hP hD hS hA [0] (by decide +kernel) rfl
    have hKc := hK.sub (tys' := []) [] rfl
    refine va_calli (va_runV (As := [.int r15]) (rest := []) ⟨hx, hb, hml, hown, hts⟩ (c_X7_answered l dC dI H.size a0 r15 a0g_0 (.ref a0_1) a0g_2 a0g_3 a0g_4 a0g_5 a0g_6 (.ref a0_7) a0g_9 a0g_10 a0_8 ) (cwV 1 hts gX7_round_X7_answered rfl rfl rfl zd_X7_answered ⟨Nat.le_of_ble_eq_true rfl, Nat.le_of_ble_eq_true rfl⟩) ⟨ax_blind (fun _ _ _ _ _ => trivial), zr_7 hKc hPc (q0 := 0) rfl, ax_pre hPc hKc hDc (fun _ _ => trivial)⟩ rfl rfl hl.1 rfl (lv_room (Nat.le_of_ble_eq_true rfl)) dX7_round_18 ⟨Nat.le_of_ble_eq_true rfl, Nat.le_of_ble_eq_true rfl⟩) hS (fun q _ h => hFc q h) hFc (fun r18 u t H locs ht hvm hw hB hz1 hk1 hS => ?_)
    obtain ⟨v18na0_8, hP1, hK1, hD1⟩ := hB
    rw [ht] at hP1
    obtain ⟨hP, hD⟩ := zc_back (w := [(a0, .inr (7, [a0g_0, .ref a0_1, a0g_2, a0g_3, a0g_4, a0g_5, a0g_6, .ref a0_7, .int v18na0_8, a0g_9, a0g_10])), (a0_7, .inr (0, [.int a0_7_0, a0_7g_1, a0_7g_2, a0_7g_3, a0_7g_4, .int a0_7_5, .int a0_7_6, a0_7g_7, a0_7g_8, a0_7g_9, a0_7g_10, a0_7g_11, a0_7g_12, a0_7g_13, a0_7g_14])), (a0_1, .inr (5, [a0_1g_0, .int a0_1_1, a0_1g_2, a0_1g_3, a0_1g_4, a0_1g_5, a0_1g_6]))]) hP hD hCc hk1 hFc hP1 hD1 [.inr 0, .inl 1, .inl 2] (by decide +kernel) rfl
    have hw : r18 = r15 := hw
    have hw := hw.symm
    subst hw
    exact W.iret (v := r15) hx hb hr (fun t ht hW => ⟨⟨r15, (), rfl, ⟨(Int.le_trans zq78 h15_0), h15_1⟩, v18na0_8, by rw [ht]; exact hP, va_K.moved hW.alike hK, hD⟩, hS.F ht⟩) hS.2.2 dX7_round_21
  · obtain ⟨hw, h1_0, h1_1⟩ := hw
    subst hw
    have l1k1_a0_7_0 : (0 : Int) ≤ a0_7_0.toInt := ba0_7_0_l
    have u1k1_a0_7_0 : a0_7_0.toInt ≤ (0 : Int) := h1_1
    refine lv_if_ne (tgt := 13) hx hb dX7_round_4 (by decide) (fun c4 => absurd (by decide +kernel) c4) (fun _ => ?_)
    refine lv_aload_n hx hb dX7_round_7 rfl (lv_at hl 0 rfl) ?_
    refine lv_iconst (v := 1) hx hb dX7_round_8 zk_iconst_1 ?_
    obtain ⟨hPc, hDc, hFc, hCc⟩ := zc_cut (wc := [(a0, .inr (7, [a0g_0, .ref a0_1, a0g_2, a0g_3, a0g_4, a0g_5, a0g_6, .ref a0_7, .int a0_8, a0g_9, a0g_10]))]) hP hD hS hA [0] (by decide +kernel) rfl
    have hKc := hK.sub (tys' := []) [] rfl
    refine va_calli (va_runV (As := [.int 1]) (rest := []) ⟨hx, hb, hml, hown, hts⟩ (c_X7_refused l dC dI H.size a0 1 a0g_0 (.ref a0_1) a0g_2 a0g_3 a0g_4 a0g_5 a0g_6 (.ref a0_7) a0g_9 a0g_10 a0_8 ) (cwV 1 hts gX7_round_X7_refused rfl rfl rfl zd_X7_refused ⟨Nat.le_of_ble_eq_true rfl, Nat.le_of_ble_eq_true rfl⟩) ⟨ax_blind (fun _ _ _ _ _ => trivial), zr_7 hKc hPc (q0 := 0) rfl, ax_pre hPc hKc hDc (fun _ _ => trivial)⟩ rfl rfl hl.1 rfl (lv_room (Nat.le_of_ble_eq_true rfl)) dX7_round_9 ⟨Nat.le_of_ble_eq_true rfl, Nat.le_of_ble_eq_true rfl⟩) hS (fun q _ h => hFc q h) hFc (fun r9 u t H locs ht hvm hw hB hz1 hk1 hS => ?_)
    obtain ⟨v9na0_8, hP1, hK1, hD1⟩ := hB
    rw [ht] at hP1
    obtain ⟨hP, hD⟩ := zc_back (w := [(a0, .inr (7, [a0g_0, .ref a0_1, a0g_2, a0g_3, a0g_4, a0g_5, a0g_6, .ref a0_7, .int v9na0_8, a0g_9, a0g_10])), (a0_7, .inr (0, [.int a0_7_0, a0_7g_1, a0_7g_2, a0_7g_3, a0_7g_4, .int a0_7_5, .int a0_7_6, a0_7g_7, a0_7g_8, a0_7g_9, a0_7g_10, a0_7g_11, a0_7g_12, a0_7g_13, a0_7g_14])), (a0_1, .inr (5, [a0_1g_0, .int a0_1_1, a0_1g_2, a0_1g_3, a0_1g_4, a0_1g_5, a0_1g_6]))]) hP hD hCc hk1 hFc hP1 hD1 [.inr 0, .inl 1, .inl 2] (by decide +kernel) rfl
    have hw : r9 = (-1) := hw
    have hw := hw.symm
    subst hw
    exact W.iret (v := (-1)) hx hb hr (fun t ht hW => ⟨⟨(-1), (), rfl, ⟨zq70, (Int.le_trans zq71 zq77)⟩, v9na0_8, by rw [ht]; exact hP, va_K.moved hW.alike hK, hD⟩, hS.F ht⟩) hS.2.2 dX7_round_12

set_option maxHeartbeats 4000000 in
set_option maxRecDepth 100000 in
theorem c_X7_called (l : Launch) (dC : Nat → ClassId) (dI : Nat → Nat → Nat) (sz : Nat) (a0 : Nat) (a0g_0 a0g_2 a0g_3 a0g_4 a0g_5 a0g_6 a0g_9 a0g_10 : Value) (a0_1 : Nat) (a0_7 : Nat) (a0_8 : Int32) (a0_7_0 : Int32) (a0_7g_1 a0_7g_2 a0_7g_3 a0_7g_4 a0_7g_7 a0_7g_8 a0_7g_9 a0_7g_10 a0_7g_11 a0_7g_12 a0_7g_13 a0_7g_14 : Value) (a0_7_5 : Int32) (a0_7_6 : Int32) (a0_1g_0 a0_1g_2 a0_1g_3 a0_1g_4 a0_1g_5 a0_1g_6 : Value) (a0_1_1 : Int32) (ba0_7_0_l : (0 : Int) ≤ a0_7_0.toInt) (ba0_7_0_u : a0_7_0.toInt ≤ (9 : Int)) (ba0_7_5_l : (0 : Int) ≤ a0_7_5.toInt) (ba0_7_5_u : a0_7_5.toInt ≤ (8 : Int)) (ba0_7_6_l : (0 : Int) ≤ a0_7_6.toInt) (ba0_7_6_u : a0_7_6.toInt ≤ (8 : Int)) (ba0_1_1_l : (0 : Int) ≤ a0_1_1.toInt) (ba0_1_1_u : a0_1_1.toInt ≤ (8 : Int)) : Met l yX7_called wsX7_called ({ frames := 1, cells := 0, slots := 0, locals := 21 }) (va_Pc [.ref a0] (ax_C dC dI sz [(a0, .inr (7, [a0g_0, .ref a0_1, a0g_2, a0g_3, a0g_4, a0g_5, a0g_6, .ref a0_7, .int a0_8, a0g_9, a0g_10])), (a0_7, .inr (0, [.int a0_7_0, a0_7g_1, a0_7g_2, a0_7g_3, a0_7g_4, .int a0_7_5, .int a0_7_6, a0_7g_7, a0_7g_8, a0_7g_9, a0_7g_10, a0_7g_11, a0_7g_12, a0_7g_13, a0_7g_14])), (a0_1, .inr (5, [a0_1g_0, .int a0_1_1, a0_1g_2, a0_1g_3, a0_1g_4, a0_1g_5, a0_1g_6]))] [] (fun _ => True))) (va_Qi (fun (r : Int32) (_ : Unit) => True) (fun (_ : Unit) (t : State) => ∃ na0_8 : Int32, ax_B dC dI (va_A [(a0, .inr (7, [a0g_0, .ref a0_1, a0g_2, a0g_3, a0g_4, a0g_5, a0g_6, .ref a0_7, .int a0_8, a0g_9, a0g_10])), (a0_7, .inr (0, [.int a0_7_0, a0_7g_1, a0_7g_2, a0_7g_3, a0_7g_4, .int a0_7_5, .int a0_7_6, a0_7g_7, a0_7g_8, a0_7g_9, a0_7g_10, a0_7g_11, a0_7g_12, a0_7g_13, a0_7g_14])), (a0_1, .inr (5, [a0_1g_0, .int a0_1_1, a0_1g_2, a0_1g_3, a0_1g_4, a0_1g_5, a0_1g_6]))] sz) [(a0, .inr (7, [a0g_0, .ref a0_1, a0g_2, a0g_3, a0g_4, a0g_5, a0g_6, .ref a0_7, .int na0_8, a0g_9, a0g_10])), (a0_7, .inr (0, [.int a0_7_0, a0_7g_1, a0_7g_2, a0_7g_3, a0_7g_4, .int a0_7_5, .int a0_7_6, a0_7g_7, a0_7g_8, a0_7g_9, a0_7g_10, a0_7g_11, a0_7g_12, a0_7g_13, a0_7g_14])), (a0_1, .inr (5, [a0_1g_0, .int a0_1_1, a0_1g_2, a0_1g_3, a0_1g_4, a0_1g_5, a0_1g_6]))] [] t) (va_A [(a0, .inr (7, [a0g_0, .ref a0_1, a0g_2, a0g_3, a0g_4, a0g_5, a0g_6, .ref a0_7, .int a0_8, a0g_9, a0g_10])), (a0_7, .inr (0, [.int a0_7_0, a0_7g_1, a0_7g_2, a0_7g_3, a0_7g_4, .int a0_7_5, .int a0_7_6, a0_7g_7, a0_7g_8, a0_7g_9, a0_7g_10, a0_7g_11, a0_7g_12, a0_7g_13, a0_7g_14])), (a0_1, .inr (5, [a0_1g_0, .int a0_1_1, a0_1g_2, a0_1g_3, a0_1g_4, a0_1g_5, a0_1g_6]))] sz)) 0 0 (va_A [(a0, .inr (7, [a0g_0, .ref a0_1, a0g_2, a0g_3, a0g_4, a0g_5, a0g_6, .ref a0_7, .int a0_8, a0g_9, a0g_10])), (a0_7, .inr (0, [.int a0_7_0, a0_7g_1, a0_7g_2, a0_7g_3, a0_7g_4, .int a0_7_5, .int a0_7_6, a0_7g_7, a0_7g_8, a0_7g_9, a0_7g_10, a0_7g_11, a0_7g_12, a0_7g_13, a0_7g_14])), (a0_1, .inr (5, [a0_1g_0, .int a0_1_1, a0_1g_2, a0_1g_3, a0_1g_4, a0_1g_5, a0_1g_6]))] sz) := by
  refine Met.ofW (cc := cX7_called) (maxL := 4) (ret := (some .int)) (by decide) rfl ?_
  intro p e s m args below meth c s₁ B hml hv
  obtain ⟨rfl, hsz, hP, hK, hD0, hE⟩ := hv
  have hx := B.exec
  have hb := B.bytes
  have hr := B.returns
  have hts := atoms_spec (ws := wsX7_called) B.pre
  have hown : s.vm.findClass RX7 = some m.cls := findClass_of_methodNamed B.named
  have hlocks := B.notSynchronized
  subst hsz
  have hD := hD0.self (sz := s.heap.size)
  generalize hAe : va_A [(a0, .inr (7, [a0g_0, .ref a0_1, a0g_2, a0g_3, a0g_4, a0g_5, a0g_6, .ref a0_7, .int a0_8, a0g_9, a0g_10])), (a0_7, .inr (0, [.int a0_7_0, a0_7g_1, a0_7g_2, a0_7g_3, a0_7g_4, .int a0_7_5, .int a0_7_6, a0_7g_7, a0_7g_8, a0_7g_9, a0_7g_10, a0_7g_11, a0_7g_12, a0_7g_13, a0_7g_14])), (a0_1, .inr (5, [a0_1g_0, .int a0_1_1, a0_1g_2, a0_1g_3, a0_1g_4, a0_1g_5, a0_1g_6]))] s.heap.size = A at hD ⊢
  have hA : ∀ q : Nat, s.heap.size ≤ q → A q := fun q h => by rw [← hAe]; exact Or.inr h
  have hS : va_S A s.heap s.heap [] := va_S.rf
  have hP : va_P (dC, dI) vwCl [(a0, .inr (7, [a0g_0, .ref a0_1, a0g_2, a0g_3, a0g_4, a0g_5, a0g_6, .ref a0_7, .int a0_8, a0g_9, a0g_10])), (a0_7, .inr (0, [.int a0_7_0, a0_7g_1, a0_7g_2, a0_7g_3, a0_7g_4, .int a0_7_5, .int a0_7_6, a0_7g_7, a0_7g_8, a0_7g_9, a0_7g_10, a0_7g_11, a0_7g_12, a0_7g_13, a0_7g_14])), (a0_1, .inr (5, [a0_1g_0, .int a0_1_1, a0_1g_2, a0_1g_3, a0_1g_4, a0_1g_5, a0_1g_6]))] s.heap := hP
  have hl := lv_entry ([.ref a0]) (n := 4) (Nat.le_of_ble_eq_true rfl)
  rw [lg_entry_eq]
  generalize (lg_sl ([.ref a0]) ++ List.replicate (4 - (lg_sl ([.ref a0])).length) Slot.unset).toArray = ls at hl ⊢
  have hl : lv_has ls 4 [(0, .ref a0)] := hl
  refine ai_open (fun K hK0 => ?_)
  refine (hK0 _ _ _).mpr ?_
  refine lv_aload_n hx hb dX7_called_0 rfl (lv_at hl 0 rfl) ?_
  obtain ⟨hPc, hDc, hFc, hCc⟩ := zc_cut (wc := [(a0, .inr (7, [a0g_0, .ref a0_1, a0g_2, a0g_3, a0g_4, a0g_5, a0g_6, .ref a0_7, .int a0_8, a0g_9, a0g_10])), (a0_7, .inr (0, [.int a0_7_0, a0_7g_1, a0_7g_2, a0_7g_3, a0_7g_4, .int a0_7_5, .int a0_7_6, a0_7g_7, a0_7g_8, a0_7g_9, a0_7g_10, a0_7g_11, a0_7g_12, a0_7g_13, a0_7g_14]))]) hP hD hS hA [0, 1] (by decide +kernel) rfl
  have hKc := hK.sub (tys' := []) [] rfl
  refine va_calli (va_runV (As := []) (rest := []) ⟨hx, hb, hml, hown, hts⟩ (c_X7_hasGallery l dC dI s.heap.size a0 a0g_0 (.ref a0_1) a0g_2 a0g_3 a0g_4 a0g_5 a0g_6 (.int a0_8) a0g_9 a0g_10 a0_7 a0_7_0 a0_7g_1 a0_7g_2 a0_7g_3 a0_7g_4 (.int a0_7_5) (.int a0_7_6) a0_7g_7 a0_7g_8 a0_7g_9 a0_7g_10 a0_7g_11 a0_7g_12 a0_7g_13 a0_7g_14 ba0_7_0_l ba0_7_0_u) (cwV 0 hts gX7_called_X7_hasGallery rfl rfl rfl zd_X7_hasGallery ⟨Nat.le_of_ble_eq_true rfl, Nat.le_of_ble_eq_true rfl⟩) ⟨ax_blind (fun _ _ _ _ _ => trivial), zr_7 hKc hPc (q0 := 0) rfl, ax_pre hPc hKc hDc (fun _ _ => trivial)⟩ rfl rfl hl.1 rfl (lv_room (Nat.le_of_ble_eq_true rfl)) dX7_called_1 ⟨Nat.le_of_ble_eq_true rfl, Nat.le_of_ble_eq_true rfl⟩) hS (fun q _ h => hFc q h) hFc (fun r1 u t H locs ht hvm hw hB hz1 hk1 hS => ?_)
  obtain ⟨hP1, hK1, hD1⟩ := hB
  rw [ht] at hP1
  obtain ⟨hP, hD⟩ := zc_back (w := [(a0, .inr (7, [a0g_0, .ref a0_1, a0g_2, a0g_3, a0g_4, a0g_5, a0g_6, .ref a0_7, .int a0_8, a0g_9, a0g_10])), (a0_7, .inr (0, [.int a0_7_0, a0_7g_1, a0_7g_2, a0_7g_3, a0_7g_4, .int a0_7_5, .int a0_7_6, a0_7g_7, a0_7g_8, a0_7g_9, a0_7g_10, a0_7g_11, a0_7g_12, a0_7g_13, a0_7g_14])), (a0_1, .inr (5, [a0_1g_0, .int a0_1_1, a0_1g_2, a0_1g_3, a0_1g_4, a0_1g_5, a0_1g_6]))]) hP hD hCc hk1 hFc hP1 hD1 [.inr 0, .inr 1, .inl 2] (by decide +kernel) rfl
  rcases hw with hw | hw
  · obtain ⟨hw, h1_0, h1_1⟩ := hw
    subst hw
    have l1k0_a0_7_0 : (1 : Int) ≤ a0_7_0.toInt := h1_0
    have u1k0_a0_7_0 : a0_7_0.toInt ≤ (9 : Int) := ba0_7_0_u
    refine lv_if_ne (tgt := 13) hx hb dX7_called_4 (by decide) (fun _ => ?_) (fun c4 => absurd c4 (by decide +kernel))
    refine lv_iconst (v := 0) hx hb dX7_called_13 zk_iconst_0 ?_
    refine lv_istore_n (lv' := [(1, .int 0), (0, .ref a0)]) hx hb dX7_called_14 rfl hl (by decide) rfl (fun ls hl => ?_)
    refine lv_aload_n hx hb dX7_called_15 rfl (lv_at hl 1 rfl) ?_
    refine va_get (D := (dC, dI)) (ci := 7) (v := .ref a0_1) (C := RX7) (T := TX7) (N := 11) hx hb hts zi_X7_called_7 hown hK hP 0 rfl rfl 1 (by decide) (hts (.fieldLink RX7 19 "WaxTurns" "now" "LWaxTurns$Scene;") (zm_X7_called_r1 (List.mem_of_getElem? (i := 0) rfl))) (fun _ h9 => h9) rfl dX7_called_16 ?_
    refine va_get (D := (dC, dI)) (ci := 5) (v := .int a0_1_1) (C := RX5) (T := TX5) (N := 7) hx hb hts zi_X7_called_5 hown hK hP 2 rfl rfl 1 (by decide) (hts (.fieldLink RX7 158 "WaxTurns$Scene" "turn" "I") (zm_X7_called_r1 (List.mem_of_getElem? (i := 1) rfl))) (fun _ h9 => h9) rfl dX7_called_19 ?_
    refine lv_istore_n (lv' := [(2, .int a0_1_1), (1, .int 0), (0, .ref a0)]) hx hb dX7_called_22 rfl hl (by decide) rfl (fun ls hl => ?_)
    refine lv_iconst (v := 0) hx hb dX7_called_23 zk_iconst_0 ?_
    refine lv_istore_n (lv' := [(3, .int 0), (2, .int a0_1_1), (1, .int 0), (0, .ref a0)]) hx hb dX7_called_24 rfl hl (by decide) rfl (fun ls hl => ?_)
    have J25 : ∀ (n : Nat) (j25l3 : Int32) (j25l2 : Int32) (j25l1 : Int32) (H : Heap) (locs : List Loc) (ls : Array Slot), (10 : Int) - j25l3.toInt ≤ (n : Int) → (0 : Int) ≤ j25l3.toInt → j25l3.toInt ≤ (9 : Int) → (0 : Int) ≤ j25l2.toInt → j25l2.toInt ≤ (8 : Int) → va_P (dC, dI) vwCl [(a0, .inr (7, [a0g_0, .ref a0_1, a0g_2, a0g_3, a0g_4, a0g_5, a0g_6, .ref a0_7, .int a0_8, a0g_9, a0g_10])), (a0_7, .inr (0, [.int a0_7_0, a0_7g_1, a0_7g_2, a0_7g_3, a0_7g_4, .int a0_7_5, .int a0_7_6, a0_7g_7, a0_7g_8, a0_7g_9, a0_7g_10, a0_7g_11, a0_7g_12, a0_7g_13, a0_7g_14])), (a0_1, .inr (5, [a0_1g_0, .int a0_1_1, a0_1g_2, a0_1g_3, a0_1g_4, a0_1g_5, a0_1g_6]))] H → va_D A [(a0, .inr (7, [a0g_0, .ref a0_1, a0g_2, a0g_3, a0g_4, a0g_5, a0g_6, .ref a0_7, .int a0_8, a0g_9, a0g_10])), (a0_7, .inr (0, [.int a0_7_0, a0_7g_1, a0_7g_2, a0_7g_3, a0_7g_4, .int a0_7_5, .int a0_7_6, a0_7g_7, a0_7g_8, a0_7g_9, a0_7g_10, a0_7g_11, a0_7g_12, a0_7g_13, a0_7g_14])), (a0_1, .inr (5, [a0_1g_0, .int a0_1_1, a0_1g_2, a0_1g_3, a0_1g_4, a0_1g_5, a0_1g_6]))] → va_S A s.heap H locs → lv_has ls 4 [(0, .ref a0), (1, .int j25l1), (2, .int j25l2), (3, .int j25l3)] → K H locs (F0 m 25 ls []) := by
      intro n
      induction n with
      | zero =>
        intro j25l3 j25l2 j25l1 H locs ls hm bj25l3_l bj25l3_u bj25l2_l bj25l2_u hP hD hS hl
        have h8 := ai_min j25l3
        have h9 := ai_max j25l3
        exact absurd hm (by omega)
      | succ n ih25 =>
        intro j25l3 j25l2 j25l1 H locs ls hm bj25l3_l bj25l3_u bj25l2_l bj25l2_u hP hD hS hl
        refine (hK0 _ _ _).mpr ?_
        have hm25 := hm
        refine lv_iload_n hx hb dX7_called_25 rfl (lv_at hl 3 rfl) ?_
        refine lv_aload_n hx hb dX7_called_26 rfl (lv_at hl 0 rfl) ?_
        refine va_get (D := (dC, dI)) (ci := 7) (v := .ref a0_7) (C := RX7) (T := TX7) (N := 11) hx hb hts zi_X7_called_7 hown hK hP 0 rfl rfl 7 (by decide) (hts (.fieldLink RX7 57 "WaxTurns" "hall" "LWaxTurns$Hall;") (zm_X7_called_r1 (List.mem_of_getElem? (i := 2) rfl))) (fun _ h9 => h9) rfl dX7_called_27 ?_
        refine va_get (D := (dC, dI)) (ci := 0) (v := .int a0_7_0) (C := RX0) (T := TX0) (N := 15) hx hb hts zi_X7_called_0 hown hK hP 1 rfl rfl 0 (by decide) (hts (.fieldLink RX7 110 "WaxTurns$Hall" "figures" "I") (zm_X7_called_r1 (List.mem_of_getElem? (i := 3) rfl))) (fun _ h9 => h9) rfl dX7_called_30 ?_
        refine lv_icmp_ge (tgt := 57) hx hb dX7_called_33 (by decide) (fun c33 => ?_) (fun c33 => ?_)
        · have gc33 := ai_le c33
          have u33t_a0_7_0 : a0_7_0.toInt ≤ (9 : Int) := u1k0_a0_7_0
          have l33t_j25l3 : (1 : Int) ≤ j25l3.toInt := Int.le_trans l1k0_a0_7_0 gc33
          refine lv_aload_n hx hb dX7_called_57 rfl (lv_at hl 0 rfl) ?_
          refine lv_iload_n hx hb dX7_called_58 rfl (lv_at hl 1 rfl) ?_
          obtain ⟨hPc, hDc, hFc, hCc⟩ := zc_cut (wc := [(a0, .inr (7, [a0g_0, .ref a0_1, a0g_2, a0g_3, a0g_4, a0g_5, a0g_6, .ref a0_7, .int a0_8, a0g_9, a0g_10]))]) hP hD hS hA [0] (by decide +kernel) rfl
          have hKc := hK.sub (tys' := []) [] rfl
          refine va_calli (va_runV (As := [.int j25l1]) (rest := []) ⟨hx, hb, hml, hown, hts⟩ (c_X7_answered l dC dI H.size a0 j25l1 a0g_0 (.ref a0_1) a0g_2 a0g_3 a0g_4 a0g_5 a0g_6 (.ref a0_7) a0g_9 a0g_10 a0_8 ) (cwV 1 hts gX7_called_X7_answered rfl rfl rfl zd_X7_answered ⟨Nat.le_of_ble_eq_true rfl, Nat.le_of_ble_eq_true rfl⟩) ⟨ax_blind (fun _ _ _ _ _ => trivial), zr_7 hKc hPc (q0 := 0) rfl, ax_pre hPc hKc hDc (fun _ _ => trivial)⟩ rfl rfl hl.1 rfl (lv_room (Nat.le_of_ble_eq_true rfl)) dX7_called_59 ⟨Nat.le_of_ble_eq_true rfl, Nat.le_of_ble_eq_true rfl⟩) hS (fun q _ h => hFc q h) hFc (fun r59 u t H locs ht hvm hw hB hz1 hk1 hS => ?_)
          obtain ⟨v59na0_8, hP1, hK1, hD1⟩ := hB
          rw [ht] at hP1
          obtain ⟨hP, hD⟩ := zc_back (w := [(a0, .inr (7, [a0g_0, .ref a0_1, a0g_2, a0g_3, a0g_4, a0g_5, a0g_6, .ref a0_7, .int v59na0_8, a0g_9, a0g_10])), (a0_7, .inr (0, [.int a0_7_0, a0_7g_1, a0_7g_2, a0_7g_3, a0_7g_4, .int a0_7_5, .int a0_7_6, a0_7g_7, a0_7g_8, a0_7g_9, a0_7g_10, a0_7g_11, a0_7g_12, a0_7g_13, a0_7g_14])), (a0_1, .inr (5, [a0_1g_0, .int a0_1_1, a0_1g_2, a0_1g_3, a0_1g_4, a0_1g_5, a0_1g_6]))]) hP hD hCc hk1 hFc hP1 hD1 [.inr 0, .inl 1, .inl 2] (by decide +kernel) rfl
          have hw : r59 = j25l1 := hw
          have hw := hw.symm
          subst hw
          exact W.iret (v := j25l1) hx hb hr (fun t ht hW => ⟨⟨j25l1, (), rfl, trivial, v59na0_8, by rw [ht]; exact hP, va_K.moved hW.alike hK, hD⟩, hS.F ht⟩) hS.2.2 dX7_called_62
        · have gc33 := ai_nle c33
          have u33f_j25l3 : j25l3.toInt ≤ (8 : Int) := ai_lthi gc33 u1k0_a0_7_0
          have l33f_a0_7_0 : (1 : Int) ≤ a0_7_0.toInt := l1k0_a0_7_0
          refine lv_iload_n hx hb dX7_called_36 rfl (lv_at hl 1 rfl) ?_
          refine lv_iconst (v := 1) hx hb dX7_called_37 zk_iconst_1 ?_
          refine lv_iload_n hx hb dX7_called_38 rfl (lv_at hl 2 rfl) ?_
          refine lv_ishl hx hb dX7_called_39 ?_
          refine lv_topi (fun x39 ex39 => ?_)
          refine lv_ior hx hb dX7_called_40 ?_
          refine lv_topi (fun x40 ex40 => ?_)
          refine lv_istore_n (lv' := [(1, .int x40), (0, .ref a0), (2, .int j25l2), (3, .int j25l3)]) hx hb dX7_called_41 rfl hl (by decide) rfl (fun ls hl => ?_)
          refine lv_aload_n hx hb dX7_called_42 rfl (lv_at hl 1 rfl) ?_
          refine va_get (D := (dC, dI)) (ci := 7) (v := .ref a0_7) (C := RX7) (T := TX7) (N := 11) hx hb hts zi_X7_called_7 hown hK hP 0 rfl rfl 7 (by decide) (hts (.fieldLink RX7 57 "WaxTurns" "hall" "LWaxTurns$Hall;") (zm_X7_called_r1 (List.mem_of_getElem? (i := 2) rfl))) (fun _ h9 => h9) rfl dX7_called_43 ?_
          refine lv_iload_n hx hb dX7_called_46 rfl (lv_at hl 2 rfl) ?_
          obtain ⟨hPc, hDc, hFc, hCc⟩ := zc_cut (wc := [(a0_7, .inr (0, [.int a0_7_0, a0_7g_1, a0_7g_2, a0_7g_3, a0_7g_4, .int a0_7_5, .int a0_7_6, a0_7g_7, a0_7g_8, a0_7g_9, a0_7g_10, a0_7g_11, a0_7g_12, a0_7g_13, a0_7g_14]))]) hP hD hS hA [1] (by decide +kernel) rfl
          have hKc := hK.sub (tys' := []) [] rfl
          refine va_calli (va_runV (As := [.int j25l2]) (rest := []) ⟨hx, hb, hml, hown, hts⟩ (c_X0_next l dC dI H.size a0_7 j25l2 a0_7_0 a0_7g_1 a0_7g_2 a0_7g_3 a0_7g_4 a0_7g_7 a0_7g_8 a0_7g_9 a0_7g_10 a0_7g_11 a0_7g_12 a0_7g_13 a0_7g_14 a0_7_5 a0_7_6 bj25l2_l bj25l2_u (Int.le_trans zq4 l33f_a0_7_0) u1k0_a0_7_0 ba0_7_5_l ba0_7_5_u ba0_7_6_l ba0_7_6_u) (cwV 1 hts gX7_called_X0_next rfl rfl rfl zd_X0_next ⟨Nat.le_of_ble_eq_true rfl, Nat.le_of_ble_eq_true rfl⟩) ⟨ax_blind (fun _ _ _ _ _ => trivial), zr_0 hKc hPc (q0 := 0) rfl, ax_pre hPc hKc hDc (fun _ _ => trivial)⟩ rfl rfl hl.1 rfl (lv_room (Nat.le_of_ble_eq_true rfl)) dX7_called_47 ⟨Nat.le_of_ble_eq_true rfl, Nat.le_of_ble_eq_true rfl⟩) hS (fun q _ h => hFc q h) hFc (fun r47 u t H locs ht hvm hw hB hz1 hk1 hS => ?_)
          obtain ⟨hP1, hK1, hD1⟩ := hB
          rw [ht] at hP1
          obtain ⟨hP, hD⟩ := zc_back (w := [(a0, .inr (7, [a0g_0, .ref a0_1, a0g_2, a0g_3, a0g_4, a0g_5, a0g_6, .ref a0_7, .int a0_8, a0g_9, a0g_10])), (a0_7, .inr (0, [.int a0_7_0, a0_7g_1, a0_7g_2, a0_7g_3, a0_7g_4, .int a0_7_5, .int a0_7_6, a0_7g_7, a0_7g_8, a0_7g_9, a0_7g_10, a0_7g_11, a0_7g_12, a0_7g_13, a0_7g_14])), (a0_1, .inr (5, [a0_1g_0, .int a0_1_1, a0_1g_2, a0_1g_3, a0_1g_4, a0_1g_5, a0_1g_6]))]) hP hD hCc hk1 hFc hP1 hD1 [.inl 0, .inr 0, .inl 2] (by decide +kernel) rfl
          have hw : (0 : Int) ≤ r47.toInt ∧ r47.toInt ≤ (8 : Int) := hw
          obtain ⟨h47_0, h47_1⟩ := hw
          refine lv_istore_n (lv' := [(2, .int r47), (1, .int x40), (0, .ref a0), (3, .int j25l3)]) hx hb dX7_called_50 rfl hl (by decide) rfl (fun ls hl => ?_)
          obtain ⟨x51, ex51⟩ : ∃ y : Int32, y = j25l3 + Int32.ofInt 1 := ⟨_, rfl⟩
          have qx51 : x51.toInt = j25l3.toInt + 1 := ai_inc ex51 (by decide) (by decide) u33f_j25l3 (by decide)
          have bx51 : (1 : Int) ≤ x51.toInt ∧ x51.toInt ≤ 9 := ⟨by rw [qx51]; exact Int.add_le_add bj25l3_l (Int.le_refl _), by rw [qx51]; exact Int.add_le_add u33f_j25l3 (Int.le_refl _)⟩
          refine lv_iinc (v := x51) (lv' := [(3, .int x51), (2, .int r47), (1, .int x40), (0, .ref a0)]) hx hb dX7_called_51 hl (k := 3) rfl ex51.symm (by decide) rfl (fun ls hl => ?_)
          refine lv_goto (tgt := 25) hx hb dX7_called_54 (by decide) ?_
          exact (hK0 _ _ _).mp (ih25 x51 r47 x40 _ _ _ (by have h0 := qx51; omega) (Int.le_trans zq4 bx51.1) bx51.2 h47_0 h47_1 hP hD hS (lv_sub hl [3, 2, 1, 0] rfl))
    exact (hK0 _ _ _).mp (J25 10 0 a0_1_1 0 _ _ _ (by have h1 : (0 : Int) ≤ (0 : Int32).toInt := zq5; have h2 : (0 : Int32).toInt ≤ (0 : Int) := zq6; omega) zq5 (Int.le_trans zq6 zq7) ba0_1_1_l ba0_1_1_u hP hD hS (lv_sub hl [3, 2, 1, 0] rfl))
  · obtain ⟨hw, h1_0, h1_1⟩ := hw
    subst hw
    have l1k1_a0_7_0 : (0 : Int) ≤ a0_7_0.toInt := ba0_7_0_l
    have u1k1_a0_7_0 : a0_7_0.toInt ≤ (0 : Int) := h1_1
    refine lv_if_ne (tgt := 13) hx hb dX7_called_4 (by decide) (fun c4 => absurd (by decide +kernel) c4) (fun _ => ?_)
    refine lv_aload_n hx hb dX7_called_7 rfl (lv_at hl 0 rfl) ?_
    refine lv_iconst (v := 1) hx hb dX7_called_8 zk_iconst_1 ?_
    obtain ⟨hPc, hDc, hFc, hCc⟩ := zc_cut (wc := [(a0, .inr (7, [a0g_0, .ref a0_1, a0g_2, a0g_3, a0g_4, a0g_5, a0g_6, .ref a0_7, .int a0_8, a0g_9, a0g_10]))]) hP hD hS hA [0] (by decide +kernel) rfl
    have hKc := hK.sub (tys' := []) [] rfl
    refine va_calli (va_runV (As := [.int 1]) (rest := []) ⟨hx, hb, hml, hown, hts⟩ (c_X7_refused l dC dI H.size a0 1 a0g_0 (.ref a0_1) a0g_2 a0g_3 a0g_4 a0g_5 a0g_6 (.ref a0_7) a0g_9 a0g_10 a0_8 ) (cwV 1 hts gX7_called_X7_refused rfl rfl rfl zd_X7_refused ⟨Nat.le_of_ble_eq_true rfl, Nat.le_of_ble_eq_true rfl⟩) ⟨ax_blind (fun _ _ _ _ _ => trivial), zr_7 hKc hPc (q0 := 0) rfl, ax_pre hPc hKc hDc (fun _ _ => trivial)⟩ rfl rfl hl.1 rfl (lv_room (Nat.le_of_ble_eq_true rfl)) dX7_called_9 ⟨Nat.le_of_ble_eq_true rfl, Nat.le_of_ble_eq_true rfl⟩) hS (fun q _ h => hFc q h) hFc (fun r9 u t H locs ht hvm hw hB hz1 hk1 hS => ?_)
    obtain ⟨v9na0_8, hP1, hK1, hD1⟩ := hB
    rw [ht] at hP1
    obtain ⟨hP, hD⟩ := zc_back (w := [(a0, .inr (7, [a0g_0, .ref a0_1, a0g_2, a0g_3, a0g_4, a0g_5, a0g_6, .ref a0_7, .int v9na0_8, a0g_9, a0g_10])), (a0_7, .inr (0, [.int a0_7_0, a0_7g_1, a0_7g_2, a0_7g_3, a0_7g_4, .int a0_7_5, .int a0_7_6, a0_7g_7, a0_7g_8, a0_7g_9, a0_7g_10, a0_7g_11, a0_7g_12, a0_7g_13, a0_7g_14])), (a0_1, .inr (5, [a0_1g_0, .int a0_1_1, a0_1g_2, a0_1g_3, a0_1g_4, a0_1g_5, a0_1g_6]))]) hP hD hCc hk1 hFc hP1 hD1 [.inr 0, .inl 1, .inl 2] (by decide +kernel) rfl
    have hw : r9 = (-1) := hw
    have hw := hw.symm
    subst hw
    exact W.iret (v := (-1)) hx hb hr (fun t ht hW => ⟨⟨(-1), (), rfl, trivial, v9na0_8, by rw [ht]; exact hP, va_K.moved hW.alike hK, hD⟩, hS.F ht⟩) hS.2.2 dX7_called_12

set_option maxHeartbeats 4000000 in
set_option maxRecDepth 100000 in
theorem c_X7_minutesOf (l : Launch) (dC : Nat → ClassId) (dI : Nat → Nat → Nat) (sz : Nat) (a0 : Nat) (a1 : Int32) (a2 : Int32) (a0g_0 a0g_2 a0g_3 a0g_4 a0g_5 a0g_6 a0g_9 a0g_10 : Value) (a0_1 : Nat) (a0_7 : Nat) (a0_8 : Int32) (a0_7_0 : Int32) (a0_7_1 : Int32) (a0_7g_2 a0_7g_3 a0_7g_4 a0_7g_7 a0_7g_8 a0_7g_9 a0_7g_10 a0_7g_11 a0_7g_12 a0_7g_13 a0_7g_14 : Value) (a0_7_5 : Int32) (a0_7_6 : Int32) (a0_1g_0 a0_1g_3 a0_1g_4 a0_1g_5 a0_1g_6 : Value) (a0_1_1 : Int32) (a0_1_2 : Int32) (ba0_7_0_l : (0 : Int) ≤ a0_7_0.toInt) (ba0_7_0_u : a0_7_0.toInt ≤ (9 : Int)) (ba0_7_5_l : (0 : Int) ≤ a0_7_5.toInt) (ba0_7_5_u : a0_7_5.toInt ≤ (8 : Int)) (ba0_7_6_l : (0 : Int) ≤ a0_7_6.toInt) (ba0_7_6_u : a0_7_6.toInt ≤ (8 : Int)) (ba0_1_1_l : (0 : Int) ≤ a0_1_1.toInt) (ba0_1_1_u : a0_1_1.toInt ≤ (8 : Int)) : Met l yX7_minutesOf wsX7_minutesOf ({ frames := 2, cells := 0, slots := 0, locals := 43 }) (va_Pc [.ref a0, .int a1, .int a2] (ax_C dC dI sz [(a0, .inr (7, [a0g_0, .ref a0_1, a0g_2, a0g_3, a0g_4, a0g_5, a0g_6, .ref a0_7, .int a0_8, a0g_9, a0g_10])), (a0_7, .inr (0, [.int a0_7_0, .int a0_7_1, a0_7g_2, a0_7g_3, a0_7g_4, .int a0_7_5, .int a0_7_6, a0_7g_7, a0_7g_8, a0_7g_9, a0_7g_10, a0_7g_11, a0_7g_12, a0_7g_13, a0_7g_14])), (a0_1, .inr (5, [a0_1g_0, .int a0_1_1, .int a0_1_2, a0_1g_3, a0_1g_4, a0_1g_5, a0_1g_6]))] [] (fun _ => True))) (va_Qi (fun (r : Int32) (_ : Unit) => True) (fun (_ : Unit) (t : State) => ∃ na0_8 : Int32, ax_B dC dI (va_A [(a0, .inr (7, [a0g_0, .ref a0_1, a0g_2, a0g_3, a0g_4, a0g_5, a0g_6, .ref a0_7, .int a0_8, a0g_9, a0g_10])), (a0_7, .inr (0, [.int a0_7_0, .int a0_7_1, a0_7g_2, a0_7g_3, a0_7g_4, .int a0_7_5, .int a0_7_6, a0_7g_7, a0_7g_8, a0_7g_9, a0_7g_10, a0_7g_11, a0_7g_12, a0_7g_13, a0_7g_14])), (a0_1, .inr (5, [a0_1g_0, .int a0_1_1, .int a0_1_2, a0_1g_3, a0_1g_4, a0_1g_5, a0_1g_6]))] sz) [(a0, .inr (7, [a0g_0, .ref a0_1, a0g_2, a0g_3, a0g_4, a0g_5, a0g_6, .ref a0_7, .int na0_8, a0g_9, a0g_10])), (a0_7, .inr (0, [.int a0_7_0, .int a0_7_1, a0_7g_2, a0_7g_3, a0_7g_4, .int a0_7_5, .int a0_7_6, a0_7g_7, a0_7g_8, a0_7g_9, a0_7g_10, a0_7g_11, a0_7g_12, a0_7g_13, a0_7g_14])), (a0_1, .inr (5, [a0_1g_0, .int a0_1_1, .int a0_1_2, a0_1g_3, a0_1g_4, a0_1g_5, a0_1g_6]))] [] t) (va_A [(a0, .inr (7, [a0g_0, .ref a0_1, a0g_2, a0g_3, a0g_4, a0g_5, a0g_6, .ref a0_7, .int a0_8, a0g_9, a0g_10])), (a0_7, .inr (0, [.int a0_7_0, .int a0_7_1, a0_7g_2, a0_7g_3, a0_7g_4, .int a0_7_5, .int a0_7_6, a0_7g_7, a0_7g_8, a0_7g_9, a0_7g_10, a0_7g_11, a0_7g_12, a0_7g_13, a0_7g_14])), (a0_1, .inr (5, [a0_1g_0, .int a0_1_1, .int a0_1_2, a0_1g_3, a0_1g_4, a0_1g_5, a0_1g_6]))] sz)) 0 0 (va_A [(a0, .inr (7, [a0g_0, .ref a0_1, a0g_2, a0g_3, a0g_4, a0g_5, a0g_6, .ref a0_7, .int a0_8, a0g_9, a0g_10])), (a0_7, .inr (0, [.int a0_7_0, .int a0_7_1, a0_7g_2, a0_7g_3, a0_7g_4, .int a0_7_5, .int a0_7_6, a0_7g_7, a0_7g_8, a0_7g_9, a0_7g_10, a0_7g_11, a0_7g_12, a0_7g_13, a0_7g_14])), (a0_1, .inr (5, [a0_1g_0, .int a0_1_1, .int a0_1_2, a0_1g_3, a0_1g_4, a0_1g_5, a0_1g_6]))] sz) := by
  refine Met.ofW (cc := cX7_minutesOf) (maxL := 7) (ret := (some .int)) (by decide) rfl ?_
  intro p e s m args below meth c s₁ B hml hv
  obtain ⟨rfl, hsz, hP, hK, hD0, hE⟩ := hv
  have hx := B.exec
  have hb := B.bytes
  have hr := B.returns
  have hts := atoms_spec (ws := wsX7_minutesOf) B.pre
  have hown : s.vm.findClass RX7 = some m.cls := findClass_of_methodNamed B.named
  have hlocks := B.notSynchronized
  subst hsz
  have hD := hD0.self (sz := s.heap.size)
  generalize hAe : va_A [(a0, .inr (7, [a0g_0, .ref a0_1, a0g_2, a0g_3, a0g_4, a0g_5, a0g_6, .ref a0_7, .int a0_8, a0g_9, a0g_10])), (a0_7, .inr (0, [.int a0_7_0, .int a0_7_1, a0_7g_2, a0_7g_3, a0_7g_4, .int a0_7_5, .int a0_7_6, a0_7g_7, a0_7g_8, a0_7g_9, a0_7g_10, a0_7g_11, a0_7g_12, a0_7g_13, a0_7g_14])), (a0_1, .inr (5, [a0_1g_0, .int a0_1_1, .int a0_1_2, a0_1g_3, a0_1g_4, a0_1g_5, a0_1g_6]))] s.heap.size = A at hD ⊢
  have hA : ∀ q : Nat, s.heap.size ≤ q → A q := fun q h => by rw [← hAe]; exact Or.inr h
  have hS : va_S A s.heap s.heap [] := va_S.rf
  have hP : va_P (dC, dI) vwCl [(a0, .inr (7, [a0g_0, .ref a0_1, a0g_2, a0g_3, a0g_4, a0g_5, a0g_6, .ref a0_7, .int a0_8, a0g_9, a0g_10])), (a0_7, .inr (0, [.int a0_7_0, .int a0_7_1, a0_7g_2, a0_7g_3, a0_7g_4, .int a0_7_5, .int a0_7_6, a0_7g_7, a0_7g_8, a0_7g_9, a0_7g_10, a0_7g_11, a0_7g_12, a0_7g_13, a0_7g_14])), (a0_1, .inr (5, [a0_1g_0, .int a0_1_1, .int a0_1_2, a0_1g_3, a0_1g_4, a0_1g_5, a0_1g_6]))] s.heap := hP
  have hl := lv_entry ([.ref a0, .int a1, .int a2]) (n := 7) (Nat.le_of_ble_eq_true rfl)
  rw [lg_entry_eq]
  generalize (lg_sl ([.ref a0, .int a1, .int a2]) ++ List.replicate (7 - (lg_sl ([.ref a0, .int a1, .int a2])).length) Slot.unset).toArray = ls at hl ⊢
  have hl : lv_has ls 7 [(0, .ref a0), (1, .int a1), (2, .int a2)] := hl
  refine ai_open (fun K hK0 => ?_)
  refine (hK0 _ _ _).mpr ?_
  refine lv_aload_n hx hb dX7_minutesOf_0 rfl (lv_at hl 0 rfl) ?_
  refine lv_iload_n hx hb dX7_minutesOf_1 rfl (lv_at hl 1 rfl) ?_
  obtain ⟨hPc, hDc, hFc, hCc⟩ := zc_cut (wc := [(a0, .inr (7, [a0g_0, .ref a0_1, a0g_2, a0g_3, a0g_4, a0g_5, a0g_6, .ref a0_7, .int a0_8, a0g_9, a0g_10])), (a0_7, .inr (0, [.int a0_7_0, .int a0_7_1, a0_7g_2, a0_7g_3, a0_7g_4, .int a0_7_5, .int a0_7_6, a0_7g_7, a0_7g_8, a0_7g_9, a0_7g_10, a0_7g_11, a0_7g_12, a0_7g_13, a0_7g_14]))]) hP hD hS hA [0, 1] (by decide +kernel) rfl
  have hKc := hK.sub (tys' := []) [] rfl
  refine va_calli (va_runV (As := [.int a1]) (rest := []) ⟨hx, hb, hml, hown, hts⟩ (c_X7_isFigure l dC dI s.heap.size a0 a1 a0g_0 (.ref a0_1) a0g_2 a0g_3 a0g_4 a0g_5 a0g_6 (.int a0_8) a0g_9 a0g_10 a0_7 a0_7_0 (.int a0_7_1) a0_7g_2 a0_7g_3 a0_7g_4 (.int a0_7_5) (.int a0_7_6) a0_7g_7 a0_7g_8 a0_7g_9 a0_7g_10 a0_7g_11 a0_7g_12 a0_7g_13 a0_7g_14 ba0_7_0_l ba0_7_0_u) (cwV 1 hts gX7_minutesOf_X7_isFigure rfl rfl rfl zd_X7_isFigure ⟨Nat.le_of_ble_eq_true rfl, Nat.le_of_ble_eq_true rfl⟩) ⟨ax_blind (fun _ _ _ _ _ => trivial), zr_7 hKc hPc (q0 := 0) rfl, ax_pre hPc hKc hDc (fun _ _ => trivial)⟩ rfl rfl hl.1 rfl (lv_room (Nat.le_of_ble_eq_true rfl)) dX7_minutesOf_2 ⟨Nat.le_of_ble_eq_true rfl, Nat.le_of_ble_eq_true rfl⟩) hS (fun q _ h => hFc q h) hFc (fun r2 u t H locs ht hvm hw hB hz1 hk1 hS => ?_)
  obtain ⟨hP1, hK1, hD1⟩ := hB
  rw [ht] at hP1
  obtain ⟨hP, hD⟩ := zc_back (w := [(a0, .inr (7, [a0g_0, .ref a0_1, a0g_2, a0g_3, a0g_4, a0g_5, a0g_6, .ref a0_7, .int a0_8, a0g_9, a0g_10])), (a0_7, .inr (0, [.int a0_7_0, .int a0_7_1, a0_7g_2, a0_7g_3, a0_7g_4, .int a0_7_5, .int a0_7_6, a0_7g_7, a0_7g_8, a0_7g_9, a0_7g_10, a0_7g_11, a0_7g_12, a0_7g_13, a0_7g_14])), (a0_1, .inr (5, [a0_1g_0, .int a0_1_1, .int a0_1_2, a0_1g_3, a0_1g_4, a0_1g_5, a0_1g_6]))]) hP hD hCc hk1 hFc hP1 hD1 [.inr 0, .inr 1, .inl 2] (by decide +kernel) rfl
  rcases hw with hw | hw
  · obtain ⟨hw, h2_0, h2_1, h2_2, h2_3⟩ := hw
    subst hw
    have l2k0_a1 : (0 : Int) ≤ a1.toInt := h2_0
    have u2k0_a1 : a1.toInt ≤ (8 : Int) := h2_1
    have l2k0_a0_7_0 : (1 : Int) ≤ a0_7_0.toInt := h2_2
    have u2k0_a0_7_0 : a0_7_0.toInt ≤ (9 : Int) := ba0_7_0_u
    refine lv_if_ne (tgt := 14) hx hb dX7_minutesOf_5 (by decide) (fun _ => ?_) (fun c5 => absurd c5 (by decide +kernel))
    refine lv_iload_n hx hb dX7_minutesOf_14 rfl (lv_at hl 2 rfl) ?_
    refine lv_iconst (v := 0) hx hb dX7_minutesOf_15 zk_iconst_0 ?_
    refine lv_sipush (v := 999) hx hb dX7_minutesOf_16 zk_sipush_999 ?_
    obtain ⟨hPc, hDc, hFc, hCc⟩ := zc_cut (wc := []) hP hD hS hA [] (by decide +kernel) rfl
    have hKc := hK.sub (tys' := []) [] rfl
    refine va_calli (va_runS (As := [.int a2, .int 0, .int 999]) (rest := []) ⟨hx, hb, hml, hown, hts⟩ (c_X7_within l dC dI H.size a2 0 999 ) (va_cwS 3 hts gX7_minutesOf_X7_within rfl rfl rfl zd_X7_within.2 ⟨Nat.le_of_ble_eq_true rfl, Nat.le_of_ble_eq_true rfl⟩) ⟨ax_blind (fun _ _ _ _ _ => trivial), ax_pre hPc hKc hDc (fun _ _ => trivial)⟩ rfl rfl hl.1 rfl (lv_room (Nat.le_of_ble_eq_true rfl)) dX7_minutesOf_19 ⟨Nat.le_of_ble_eq_true rfl, Nat.le_of_ble_eq_true rfl⟩) hS (fun q _ h => hFc q h) hFc (fun r19 u t H locs ht hvm hw hB hz1 hk1 hS => ?_)
    obtain ⟨hP1, hK1, hD1⟩ := hB
    rw [ht] at hP1
    obtain ⟨hP, hD⟩ := zc_back (w := [(a0, .inr (7, [a0g_0, .ref a0_1, a0g_2, a0g_3, a0g_4, a0g_5, a0g_6, .ref a0_7, .int a0_8, a0g_9, a0g_10])), (a0_7, .inr (0, [.int a0_7_0, .int a0_7_1, a0_7g_2, a0_7g_3, a0_7g_4, .int a0_7_5, .int a0_7_6, a0_7g_7, a0_7g_8, a0_7g_9, a0_7g_10, a0_7g_11, a0_7g_12, a0_7g_13, a0_7g_14])), (a0_1, .inr (5, [a0_1g_0, .int a0_1_1, .int a0_1_2, a0_1g_3, a0_1g_4, a0_1g_5, a0_1g_6]))]) hP hD hCc hk1 hFc hP1 hD1 [.inl 0, .inl 1, .inl 2] (by decide +kernel) rfl
    rcases hw with hw | hw
    · obtain ⟨hw, h19⟩ := hw
      subst hw
      have l19k0_a2 : (0 : Int) ≤ a2.toInt := Int.le_trans zq5 h19.1
      have u19k0_a2 : a2.toInt ≤ (999 : Int) := Int.le_trans h19.2 zq79
      refine lv_if_ne (tgt := 31) hx hb dX7_minutesOf_22 (by decide) (fun _ => ?_) (fun c22 => absurd c22 (by decide +kernel))
      refine lv_iconst (v := 0) hx hb dX7_minutesOf_31 zk_iconst_0 ?_
      refine lv_istore_n (lv' := [(3, .int 0), (0, .ref a0), (1, .int a1), (2, .int a2)]) hx hb dX7_minutesOf_32 rfl hl (by decide) rfl (fun ls hl => ?_)
      refine lv_aload_n hx hb dX7_minutesOf_33 rfl (lv_at hl 1 rfl) ?_
      refine va_get (D := (dC, dI)) (ci := 7) (v := .ref a0_1) (C := RX7) (T := TX7) (N := 11) hx hb hts zi_X7_minutesOf_7 hown hK hP 0 rfl rfl 1 (by decide) (hts (.fieldLink RX7 19 "WaxTurns" "now" "LWaxTurns$Scene;") (zm_X7_minutesOf_r1 (List.mem_of_getElem? (i := 0) rfl))) (fun _ h9 => h9) rfl dX7_minutesOf_34 ?_
      refine va_get (D := (dC, dI)) (ci := 5) (v := .int a0_1_1) (C := RX5) (T := TX5) (N := 7) hx hb hts zi_X7_minutesOf_5 hown hK hP 2 rfl rfl 1 (by decide) (hts (.fieldLink RX7 158 "WaxTurns$Scene" "turn" "I") (zm_X7_minutesOf_r1 (List.mem_of_getElem? (i := 1) rfl))) (fun _ h9 => h9) rfl dX7_minutesOf_37 ?_
      refine lv_istore (lv' := [(4, .int a0_1_1), (3, .int 0), (0, .ref a0), (1, .int a1), (2, .int a2)]) hx hb dX7_minutesOf_40 hl (by decide) rfl (fun ls hl => ?_)
      refine lv_aload_n hx hb dX7_minutesOf_42 rfl (lv_at hl 2 rfl) ?_
      refine va_get (D := (dC, dI)) (ci := 7) (v := .ref a0_1) (C := RX7) (T := TX7) (N := 11) hx hb hts zi_X7_minutesOf_7 hown hK hP 0 rfl rfl 1 (by decide) (hts (.fieldLink RX7 19 "WaxTurns" "now" "LWaxTurns$Scene;") (zm_X7_minutesOf_r1 (List.mem_of_getElem? (i := 0) rfl))) (fun _ h9 => h9) rfl dX7_minutesOf_43 ?_
      refine va_get (D := (dC, dI)) (ci := 5) (v := .int a0_1_2) (C := RX5) (T := TX5) (N := 7) hx hb hts zi_X7_minutesOf_5 hown hK hP 2 rfl rfl 2 (by decide) (hts (.fieldLink RX7 164 "WaxTurns$Scene" "spent" "I") (zm_X7_minutesOf_r1 (List.mem_of_getElem? (i := 2) rfl))) (fun _ h9 => h9) rfl dX7_minutesOf_46 ?_
      refine lv_istore (lv' := [(5, .int a0_1_2), (4, .int a0_1_1), (3, .int 0), (0, .ref a0), (1, .int a1), (2, .int a2)]) hx hb dX7_minutesOf_49 hl (by decide) rfl (fun ls hl => ?_)
      refine lv_iconst (v := 0) hx hb dX7_minutesOf_51 zk_iconst_0 ?_
      refine lv_istore (lv' := [(6, .int 0), (5, .int a0_1_2), (4, .int a0_1_1), (3, .int 0), (0, .ref a0), (1, .int a1), (2, .int a2)]) hx hb dX7_minutesOf_52 hl (by decide) rfl (fun ls hl => ?_)
      have J54 : ∀ (n : Nat) (j54l6 : Int32) (j54l5 : Int32) (j54l4 : Int32) (j54l3 : Int32) (H : Heap) (locs : List Loc) (ls : Array Slot), (1000 : Int) - j54l6.toInt ≤ (n : Int) → (0 : Int) ≤ j54l6.toInt → j54l6.toInt ≤ (999 : Int) → (0 : Int) ≤ j54l4.toInt → j54l4.toInt ≤ (8 : Int) → va_P (dC, dI) vwCl [(a0, .inr (7, [a0g_0, .ref a0_1, a0g_2, a0g_3, a0g_4, a0g_5, a0g_6, .ref a0_7, .int a0_8, a0g_9, a0g_10])), (a0_7, .inr (0, [.int a0_7_0, .int a0_7_1, a0_7g_2, a0_7g_3, a0_7g_4, .int a0_7_5, .int a0_7_6, a0_7g_7, a0_7g_8, a0_7g_9, a0_7g_10, a0_7g_11, a0_7g_12, a0_7g_13, a0_7g_14])), (a0_1, .inr (5, [a0_1g_0, .int a0_1_1, .int a0_1_2, a0_1g_3, a0_1g_4, a0_1g_5, a0_1g_6]))] H → va_D A [(a0, .inr (7, [a0g_0, .ref a0_1, a0g_2, a0g_3, a0g_4, a0g_5, a0g_6, .ref a0_7, .int a0_8, a0g_9, a0g_10])), (a0_7, .inr (0, [.int a0_7_0, .int a0_7_1, a0_7g_2, a0_7g_3, a0_7g_4, .int a0_7_5, .int a0_7_6, a0_7g_7, a0_7g_8, a0_7g_9, a0_7g_10, a0_7g_11, a0_7g_12, a0_7g_13, a0_7g_14])), (a0_1, .inr (5, [a0_1g_0, .int a0_1_1, .int a0_1_2, a0_1g_3, a0_1g_4, a0_1g_5, a0_1g_6]))] → va_S A s.heap H locs → lv_has ls 7 [(0, .ref a0), (1, .int a1), (2, .int a2), (3, .int j54l3), (4, .int j54l4), (5, .int j54l5), (6, .int j54l6)] → K H locs (F0 m 54 ls []) := by
        intro n
        induction n with
        | zero =>
          intro j54l6 j54l5 j54l4 j54l3 H locs ls hm bj54l6_l bj54l6_u bj54l4_l bj54l4_u hP hD hS hl
          have h8 := ai_min j54l6
          have h9 := ai_max j54l6
          exact absurd hm (by omega)
        | succ n ih54 =>
          intro j54l6 j54l5 j54l4 j54l3 H locs ls hm bj54l6_l bj54l6_u bj54l4_l bj54l4_u hP hD hS hl
          refine (hK0 _ _ _).mpr ?_
          have hm54 := hm
          refine lv_iload hx hb dX7_minutesOf_54 (lv_at hl 6 rfl) ?_
          refine lv_iload_n hx hb dX7_minutesOf_56 rfl (lv_at hl 2 rfl) ?_
          refine lv_icmp_ge (tgt := 104) hx hb dX7_minutesOf_57 (by decide) (fun c57 => ?_) (fun c57 => ?_)
          · have gc57 := ai_le c57
            have u57t_a2 : a2.toInt ≤ (999 : Int) := u19k0_a2
            have l57t_j54l6 : (0 : Int) ≤ j54l6.toInt := bj54l6_l
            refine lv_aload_n hx hb dX7_minutesOf_104 rfl (lv_at hl 0 rfl) ?_
            refine lv_iload_n hx hb dX7_minutesOf_105 rfl (lv_at hl 3 rfl) ?_
            obtain ⟨hPc, hDc, hFc, hCc⟩ := zc_cut (wc := [(a0, .inr (7, [a0g_0, .ref a0_1, a0g_2, a0g_3, a0g_4, a0g_5, a0g_6, .ref a0_7, .int a0_8, a0g_9, a0g_10]))]) hP hD hS hA [0] (by decide +kernel) rfl
            have hKc := hK.sub (tys' := []) [] rfl
            refine va_calli (va_runV (As := [.int j54l3]) (rest := []) ⟨hx, hb, hml, hown, hts⟩ (c_X7_answered l dC dI H.size a0 j54l3 a0g_0 (.ref a0_1) a0g_2 a0g_3 a0g_4 a0g_5 a0g_6 (.ref a0_7) a0g_9 a0g_10 a0_8 ) (cwV 1 hts gX7_minutesOf_X7_answered rfl rfl rfl zd_X7_answered ⟨Nat.le_of_ble_eq_true rfl, Nat.le_of_ble_eq_true rfl⟩) ⟨ax_blind (fun _ _ _ _ _ => trivial), zr_7 hKc hPc (q0 := 0) rfl, ax_pre hPc hKc hDc (fun _ _ => trivial)⟩ rfl rfl hl.1 rfl (lv_room (Nat.le_of_ble_eq_true rfl)) dX7_minutesOf_106 ⟨Nat.le_of_ble_eq_true rfl, Nat.le_of_ble_eq_true rfl⟩) hS (fun q _ h => hFc q h) hFc (fun r106 u t H locs ht hvm hw hB hz1 hk1 hS => ?_)
            obtain ⟨v106na0_8, hP1, hK1, hD1⟩ := hB
            rw [ht] at hP1
            obtain ⟨hP, hD⟩ := zc_back (w := [(a0, .inr (7, [a0g_0, .ref a0_1, a0g_2, a0g_3, a0g_4, a0g_5, a0g_6, .ref a0_7, .int v106na0_8, a0g_9, a0g_10])), (a0_7, .inr (0, [.int a0_7_0, .int a0_7_1, a0_7g_2, a0_7g_3, a0_7g_4, .int a0_7_5, .int a0_7_6, a0_7g_7, a0_7g_8, a0_7g_9, a0_7g_10, a0_7g_11, a0_7g_12, a0_7g_13, a0_7g_14])), (a0_1, .inr (5, [a0_1g_0, .int a0_1_1, .int a0_1_2, a0_1g_3, a0_1g_4, a0_1g_5, a0_1g_6]))]) hP hD hCc hk1 hFc hP1 hD1 [.inr 0, .inl 1, .inl 2] (by decide +kernel) rfl
            have hw : r106 = j54l3 := hw
            have hw := hw.symm
            subst hw
            exact W.iret (v := j54l3) hx hb hr (fun t ht hW => ⟨⟨j54l3, (), rfl, trivial, v106na0_8, by rw [ht]; exact hP, va_K.moved hW.alike hK, hD⟩, hS.F ht⟩) hS.2.2 dX7_minutesOf_109
          · have gc57 := ai_nle c57
            have u57f_j54l6 : j54l6.toInt ≤ (998 : Int) := ai_lthi gc57 u19k0_a2
            have l57f_a2 : (1 : Int) ≤ a2.toInt := ai_ltlo gc57 bj54l6_l
            refine lv_iload hx hb dX7_minutesOf_60 (lv_at hl 4 rfl) ?_
            refine lv_iload_n hx hb dX7_minutesOf_62 rfl (lv_at hl 1 rfl) ?_
            have J69 : ∀ (j69l3 : Int32) (H : Heap) (locs : List Loc) (ls : Array Slot), va_P (dC, dI) vwCl [(a0, .inr (7, [a0g_0, .ref a0_1, a0g_2, a0g_3, a0g_4, a0g_5, a0g_6, .ref a0_7, .int a0_8, a0g_9, a0g_10])), (a0_7, .inr (0, [.int a0_7_0, .int a0_7_1, a0_7g_2, a0_7g_3, a0_7g_4, .int a0_7_5, .int a0_7_6, a0_7g_7, a0_7g_8, a0_7g_9, a0_7g_10, a0_7g_11, a0_7g_12, a0_7g_13, a0_7g_14])), (a0_1, .inr (5, [a0_1g_0, .int a0_1_1, .int a0_1_2, a0_1g_3, a0_1g_4, a0_1g_5, a0_1g_6]))] H → va_D A [(a0, .inr (7, [a0g_0, .ref a0_1, a0g_2, a0g_3, a0g_4, a0g_5, a0g_6, .ref a0_7, .int a0_8, a0g_9, a0g_10])), (a0_7, .inr (0, [.int a0_7_0, .int a0_7_1, a0_7g_2, a0_7g_3, a0_7g_4, .int a0_7_5, .int a0_7_6, a0_7g_7, a0_7g_8, a0_7g_9, a0_7g_10, a0_7g_11, a0_7g_12, a0_7g_13, a0_7g_14])), (a0_1, .inr (5, [a0_1g_0, .int a0_1_1, .int a0_1_2, a0_1g_3, a0_1g_4, a0_1g_5, a0_1g_6]))] → va_S A s.heap H locs → lv_has ls 7 [(0, .ref a0), (1, .int a1), (2, .int a2), (3, .int j69l3), (4, .int j54l4), (5, .int j54l5), (6, .int j54l6)] → K H locs (F0 m 69 ls []) := by
              intro j69l3 H locs ls   hP hD hS hl
              refine (hK0 _ _ _).mpr ?_
              obtain ⟨x69, ex69⟩ : ∃ y : Int32, y = j54l5 + Int32.ofInt 1 := ⟨_, rfl⟩
              refine lv_iinc (v := x69) (lv' := [(5, .int x69), (0, .ref a0), (1, .int a1), (2, .int a2), (3, .int j69l3), (4, .int j54l4), (6, .int j54l6)]) hx hb dX7_minutesOf_69 hl (k := 5) rfl ex69.symm (by decide) rfl (fun ls hl => ?_)
              refine lv_iload hx hb dX7_minutesOf_72 (lv_at hl 0 rfl) ?_
              refine lv_aload_n hx hb dX7_minutesOf_74 rfl (lv_at hl 1 rfl) ?_
              refine va_get (D := (dC, dI)) (ci := 7) (v := .ref a0_7) (C := RX7) (T := TX7) (N := 11) hx hb hts zi_X7_minutesOf_7 hown hK hP 0 rfl rfl 7 (by decide) (hts (.fieldLink RX7 57 "WaxTurns" "hall" "LWaxTurns$Hall;") (zm_X7_minutesOf_r1 (List.mem_of_getElem? (i := 3) rfl))) (fun _ h9 => h9) rfl dX7_minutesOf_75 ?_
              refine va_get (D := (dC, dI)) (ci := 0) (v := .int a0_7_1) (C := RX0) (T := TX0) (N := 15) hx hb hts zi_X7_minutesOf_0 hown hK hP 1 rfl rfl 1 (by decide) (hts (.fieldLink RX7 161 "WaxTurns$Hall" "span" "I") (zm_X7_minutesOf_r1 (List.mem_of_getElem? (i := 4) rfl))) (fun _ h9 => h9) rfl dX7_minutesOf_78 ?_
              have J98 : ∀ (j98l5 : Int32) (j98l4 : Int32) (H : Heap) (locs : List Loc) (ls : Array Slot), j98l5.toInt ≤ (2147483646 : Int) → (0 : Int) ≤ j98l4.toInt → j98l4.toInt ≤ (8 : Int) → va_P (dC, dI) vwCl [(a0, .inr (7, [a0g_0, .ref a0_1, a0g_2, a0g_3, a0g_4, a0g_5, a0g_6, .ref a0_7, .int a0_8, a0g_9, a0g_10])), (a0_7, .inr (0, [.int a0_7_0, .int a0_7_1, a0_7g_2, a0_7g_3, a0_7g_4, .int a0_7_5, .int a0_7_6, a0_7g_7, a0_7g_8, a0_7g_9, a0_7g_10, a0_7g_11, a0_7g_12, a0_7g_13, a0_7g_14])), (a0_1, .inr (5, [a0_1g_0, .int a0_1_1, .int a0_1_2, a0_1g_3, a0_1g_4, a0_1g_5, a0_1g_6]))] H → va_D A [(a0, .inr (7, [a0g_0, .ref a0_1, a0g_2, a0g_3, a0g_4, a0g_5, a0g_6, .ref a0_7, .int a0_8, a0g_9, a0g_10])), (a0_7, .inr (0, [.int a0_7_0, .int a0_7_1, a0_7g_2, a0_7g_3, a0_7g_4, .int a0_7_5, .int a0_7_6, a0_7g_7, a0_7g_8, a0_7g_9, a0_7g_10, a0_7g_11, a0_7g_12, a0_7g_13, a0_7g_14])), (a0_1, .inr (5, [a0_1g_0, .int a0_1_1, .int a0_1_2, a0_1g_3, a0_1g_4, a0_1g_5, a0_1g_6]))] → va_S A s.heap H locs → lv_has ls 7 [(0, .ref a0), (1, .int a1), (2, .int a2), (3, .int j69l3), (4, .int j98l4), (5, .int j98l5), (6, .int j54l6)] → K H locs (F0 m 98 ls []) := by
                intro j98l5 j98l4 H locs ls  bj98l5_u bj98l4_l bj98l4_u hP hD hS hl
                refine (hK0 _ _ _).mpr ?_
                obtain ⟨x98, ex98⟩ : ∃ y : Int32, y = j54l6 + Int32.ofInt 1 := ⟨_, rfl⟩
                have qx98 : x98.toInt = j54l6.toInt + 1 := ai_inc ex98 (by decide) (by decide) u57f_j54l6 (by decide)
                have bx98 : (1 : Int) ≤ x98.toInt ∧ x98.toInt ≤ 999 := ⟨by rw [qx98]; exact Int.add_le_add bj54l6_l (Int.le_refl _), by rw [qx98]; exact Int.add_le_add u57f_j54l6 (Int.le_refl _)⟩
                refine lv_iinc (v := x98) (lv' := [(6, .int x98), (0, .ref a0), (1, .int a1), (2, .int a2), (3, .int j69l3), (4, .int j98l4), (5, .int j98l5)]) hx hb dX7_minutesOf_98 hl (k := 6) rfl ex98.symm (by decide) rfl (fun ls hl => ?_)
                refine lv_goto (tgt := 54) hx hb dX7_minutesOf_101 (by decide) ?_
                exact (hK0 _ _ _).mp (ih54 x98 j98l5 j98l4 j69l3 _ _ _ (by have h0 := qx98; omega) (Int.le_trans zq4 bx98.1) bx98.2 bj98l4_l bj98l4_u hP hD hS (lv_sub hl [1, 2, 3, 4, 5, 6, 0] rfl))
              refine lv_icmp_lt (tgt := 98) hx hb dX7_minutesOf_81 (by decide) (fun c81 => ?_) (fun c81 => ?_)
              · have gc81 := ai_lt c81
                have u81t_x69 : x69.toInt ≤ (2147483646 : Int) := ai_lthi gc81 (ai_max a0_7_1)
                have l81t_a0_7_1 : (-2147483647 : Int) ≤ a0_7_1.toInt := ai_ltlo gc81 (ai_min x69)
                exact (hK0 _ _ _).mp (J98 x69 j54l4 _ _ _  u81t_x69 bj54l4_l bj54l4_u hP hD hS (lv_sub hl [1, 2, 3, 4, 5, 0, 6] rfl))
              · have gc81 := ai_nlt c81
                refine lv_iconst (v := 0) hx hb dX7_minutesOf_84 zk_iconst_0 ?_
                refine lv_istore (lv' := [(5, .int 0), (0, .ref a0), (1, .int a1), (2, .int a2), (3, .int j69l3), (4, .int j54l4), (6, .int j54l6)]) hx hb dX7_minutesOf_85 hl (by decide) rfl (fun ls hl => ?_)
                refine lv_aload_n hx hb dX7_minutesOf_87 rfl (lv_at hl 1 rfl) ?_
                refine va_get (D := (dC, dI)) (ci := 7) (v := .ref a0_7) (C := RX7) (T := TX7) (N := 11) hx hb hts zi_X7_minutesOf_7 hown hK hP 0 rfl rfl 7 (by decide) (hts (.fieldLink RX7 57 "WaxTurns" "hall" "LWaxTurns$Hall;") (zm_X7_minutesOf_r1 (List.mem_of_getElem? (i := 3) rfl))) (fun _ h9 => h9) rfl dX7_minutesOf_88 ?_
                refine lv_iload hx hb dX7_minutesOf_91 (lv_at hl 5 rfl) ?_
                obtain ⟨hPc, hDc, hFc, hCc⟩ := zc_cut (wc := [(a0_7, .inr (0, [.int a0_7_0, .int a0_7_1, a0_7g_2, a0_7g_3, a0_7g_4, .int a0_7_5, .int a0_7_6, a0_7g_7, a0_7g_8, a0_7g_9, a0_7g_10, a0_7g_11, a0_7g_12, a0_7g_13, a0_7g_14]))]) hP hD hS hA [1] (by decide +kernel) rfl
                have hKc := hK.sub (tys' := []) [] rfl
                refine va_calli (va_runV (As := [.int j54l4]) (rest := []) ⟨hx, hb, hml, hown, hts⟩ (c_X0_next l dC dI H.size a0_7 j54l4 a0_7_0 (.int a0_7_1) a0_7g_2 a0_7g_3 a0_7g_4 a0_7g_7 a0_7g_8 a0_7g_9 a0_7g_10 a0_7g_11 a0_7g_12 a0_7g_13 a0_7g_14 a0_7_5 a0_7_6 bj54l4_l bj54l4_u (Int.le_trans zq4 l2k0_a0_7_0) u2k0_a0_7_0 ba0_7_5_l ba0_7_5_u ba0_7_6_l ba0_7_6_u) (cwV 1 hts gX7_minutesOf_X0_next rfl rfl rfl zd_X0_next ⟨Nat.le_of_ble_eq_true rfl, Nat.le_of_ble_eq_true rfl⟩) ⟨ax_blind (fun _ _ _ _ _ => trivial), zr_0 hKc hPc (q0 := 0) rfl, ax_pre hPc hKc hDc (fun _ _ => trivial)⟩ rfl rfl hl.1 rfl (lv_room (Nat.le_of_ble_eq_true rfl)) dX7_minutesOf_93 ⟨Nat.le_of_ble_eq_true rfl, Nat.le_of_ble_eq_true rfl⟩) hS (fun q _ h => hFc q h) hFc (fun r93 u t H locs ht hvm hw hB hz1 hk1 hS => ?_)
                obtain ⟨hP1, hK1, hD1⟩ := hB
                rw [ht] at hP1
                obtain ⟨hP, hD⟩ := zc_back (w := [(a0, .inr (7, [a0g_0, .ref a0_1, a0g_2, a0g_3, a0g_4, a0g_5, a0g_6, .ref a0_7, .int a0_8, a0g_9, a0g_10])), (a0_7, .inr (0, [.int a0_7_0, .int a0_7_1, a0_7g_2, a0_7g_3, a0_7g_4, .int a0_7_5, .int a0_7_6, a0_7g_7, a0_7g_8, a0_7g_9, a0_7g_10, a0_7g_11, a0_7g_12, a0_7g_13, a0_7g_14])), (a0_1, .inr (5, [a0_1g_0, .int a0_1_1, .int a0_1_2, a0_1g_3, a0_1g_4, a0_1g_5, a0_1g_6]))]) hP hD hCc hk1 hFc hP1 hD1 [.inl 0, .inr 0, .inl 2] (by decide +kernel) rfl
                have hw : (0 : Int) ≤ r93.toInt ∧ r93.toInt ≤ (8 : Int) := hw
                obtain ⟨h93_0, h93_1⟩ := hw
                refine lv_istore (lv' := [(4, .int r93), (5, .int 0), (0, .ref a0), (1, .int a1), (2, .int a2), (3, .int j69l3), (6, .int j54l6)]) hx hb dX7_minutesOf_96 hl (by decide) rfl (fun ls hl => ?_)
                exact (hK0 _ _ _).mp (J98 0 r93 _ _ _  (Int.le_trans zq6 zq80) h93_0 h93_1 hP hD hS (lv_sub hl [2, 3, 4, 5, 0, 1, 6] rfl))
            refine lv_icmp_ne (tgt := 69) hx hb dX7_minutesOf_63 (by decide) (fun c63 => ?_) (fun c63 => ?_)
            · have gc63 := ai_ne c63
              exact (hK0 _ _ _).mp (J69 j54l3 _ _ _   hP hD hS (lv_sub hl [0, 1, 2, 3, 4, 5, 6] rfl))
            · have gc63 := ai_eq c63
              have u63f_j54l4 : j54l4.toInt ≤ (8 : Int) := bj54l4_u
              have l63f_j54l4 : (0 : Int) ≤ j54l4.toInt := bj54l4_l
              have u63f_a1 : a1.toInt ≤ (8 : Int) := u2k0_a1
              have l63f_a1 : (0 : Int) ≤ a1.toInt := l2k0_a1
              obtain ⟨x66, ex66⟩ : ∃ y : Int32, y = j54l3 + Int32.ofInt 1 := ⟨_, rfl⟩
              refine lv_iinc (v := x66) (lv' := [(3, .int x66), (0, .ref a0), (1, .int a1), (2, .int a2), (4, .int j54l4), (5, .int j54l5), (6, .int j54l6)]) hx hb dX7_minutesOf_66 hl (k := 3) rfl ex66.symm (by decide) rfl (fun ls hl => ?_)
              exact (hK0 _ _ _).mp (J69 x66 _ _ _   hP hD hS (lv_sub hl [1, 2, 3, 0, 4, 5, 6] rfl))
      exact (hK0 _ _ _).mp (J54 1000 0 a0_1_2 a0_1_1 0 _ _ _ (by have h1 : (0 : Int) ≤ (0 : Int32).toInt := zq5; have h2 : (0 : Int32).toInt ≤ (0 : Int) := zq6; omega) zq5 (Int.le_trans zq6 zq81) ba0_1_1_l ba0_1_1_u hP hD hS (lv_sub hl [4, 5, 6, 3, 2, 1, 0] rfl))
    · obtain ⟨hw, h19⟩ := hw
      subst hw
      refine lv_if_ne (tgt := 31) hx hb dX7_minutesOf_22 (by decide) (fun c22 => absurd (by decide +kernel) c22) (fun _ => ?_)
      refine lv_aload_n hx hb dX7_minutesOf_25 rfl (lv_at hl 0 rfl) ?_
      refine lv_iconst (v := 2) hx hb dX7_minutesOf_26 zk_iconst_2 ?_
      obtain ⟨hPc, hDc, hFc, hCc⟩ := zc_cut (wc := [(a0, .inr (7, [a0g_0, .ref a0_1, a0g_2, a0g_3, a0g_4, a0g_5, a0g_6, .ref a0_7, .int a0_8, a0g_9, a0g_10]))]) hP hD hS hA [0] (by decide +kernel) rfl
      have hKc := hK.sub (tys' := []) [] rfl
      refine va_calli (va_runV (As := [.int 2]) (rest := []) ⟨hx, hb, hml, hown, hts⟩ (c_X7_refused l dC dI H.size a0 2 a0g_0 (.ref a0_1) a0g_2 a0g_3 a0g_4 a0g_5 a0g_6 (.ref a0_7) a0g_9 a0g_10 a0_8 ) (cwV 1 hts gX7_minutesOf_X7_refused rfl rfl rfl zd_X7_refused ⟨Nat.le_of_ble_eq_true rfl, Nat.le_of_ble_eq_true rfl⟩) ⟨ax_blind (fun _ _ _ _ _ => trivial), zr_7 hKc hPc (q0 := 0) rfl, ax_pre hPc hKc hDc (fun _ _ => trivial)⟩ rfl rfl hl.1 rfl (lv_room (Nat.le_of_ble_eq_true rfl)) dX7_minutesOf_27 ⟨Nat.le_of_ble_eq_true rfl, Nat.le_of_ble_eq_true rfl⟩) hS (fun q _ h => hFc q h) hFc (fun r27 u t H locs ht hvm hw hB hz1 hk1 hS => ?_)
      obtain ⟨v27na0_8, hP1, hK1, hD1⟩ := hB
      rw [ht] at hP1
      obtain ⟨hP, hD⟩ := zc_back (w := [(a0, .inr (7, [a0g_0, .ref a0_1, a0g_2, a0g_3, a0g_4, a0g_5, a0g_6, .ref a0_7, .int v27na0_8, a0g_9, a0g_10])), (a0_7, .inr (0, [.int a0_7_0, .int a0_7_1, a0_7g_2, a0_7g_3, a0_7g_4, .int a0_7_5, .int a0_7_6, a0_7g_7, a0_7g_8, a0_7g_9, a0_7g_10, a0_7g_11, a0_7g_12, a0_7g_13, a0_7g_14])), (a0_1, .inr (5, [a0_1g_0, .int a0_1_1, .int a0_1_2, a0_1g_3, a0_1g_4, a0_1g_5, a0_1g_6]))]) hP hD hCc hk1 hFc hP1 hD1 [.inr 0, .inl 1, .inl 2] (by decide +kernel) rfl
      have hw : r27 = (-1) := hw
      have hw := hw.symm
      subst hw
      exact W.iret (v := (-1)) hx hb hr (fun t ht hW => ⟨⟨(-1), (), rfl, trivial, v27na0_8, by rw [ht]; exact hP, va_K.moved hW.alike hK, hD⟩, hS.F ht⟩) hS.2.2 dX7_minutesOf_30
  · subst hw
    refine lv_if_ne (tgt := 14) hx hb dX7_minutesOf_5 (by decide) (fun c5 => absurd (by decide +kernel) c5) (fun _ => ?_)
    refine lv_aload_n hx hb dX7_minutesOf_8 rfl (lv_at hl 0 rfl) ?_
    refine lv_iconst (v := 1) hx hb dX7_minutesOf_9 zk_iconst_1 ?_
    obtain ⟨hPc, hDc, hFc, hCc⟩ := zc_cut (wc := [(a0, .inr (7, [a0g_0, .ref a0_1, a0g_2, a0g_3, a0g_4, a0g_5, a0g_6, .ref a0_7, .int a0_8, a0g_9, a0g_10]))]) hP hD hS hA [0] (by decide +kernel) rfl
    have hKc := hK.sub (tys' := []) [] rfl
    refine va_calli (va_runV (As := [.int 1]) (rest := []) ⟨hx, hb, hml, hown, hts⟩ (c_X7_refused l dC dI H.size a0 1 a0g_0 (.ref a0_1) a0g_2 a0g_3 a0g_4 a0g_5 a0g_6 (.ref a0_7) a0g_9 a0g_10 a0_8 ) (cwV 1 hts gX7_minutesOf_X7_refused rfl rfl rfl zd_X7_refused ⟨Nat.le_of_ble_eq_true rfl, Nat.le_of_ble_eq_true rfl⟩) ⟨ax_blind (fun _ _ _ _ _ => trivial), zr_7 hKc hPc (q0 := 0) rfl, ax_pre hPc hKc hDc (fun _ _ => trivial)⟩ rfl rfl hl.1 rfl (lv_room (Nat.le_of_ble_eq_true rfl)) dX7_minutesOf_10 ⟨Nat.le_of_ble_eq_true rfl, Nat.le_of_ble_eq_true rfl⟩) hS (fun q _ h => hFc q h) hFc (fun r10 u t H locs ht hvm hw hB hz1 hk1 hS => ?_)
    obtain ⟨v10na0_8, hP1, hK1, hD1⟩ := hB
    rw [ht] at hP1
    obtain ⟨hP, hD⟩ := zc_back (w := [(a0, .inr (7, [a0g_0, .ref a0_1, a0g_2, a0g_3, a0g_4, a0g_5, a0g_6, .ref a0_7, .int v10na0_8, a0g_9, a0g_10])), (a0_7, .inr (0, [.int a0_7_0, .int a0_7_1, a0_7g_2, a0_7g_3, a0_7g_4, .int a0_7_5, .int a0_7_6, a0_7g_7, a0_7g_8, a0_7g_9, a0_7g_10, a0_7g_11, a0_7g_12, a0_7g_13, a0_7g_14])), (a0_1, .inr (5, [a0_1g_0, .int a0_1_1, .int a0_1_2, a0_1g_3, a0_1g_4, a0_1g_5, a0_1g_6]))]) hP hD hCc hk1 hFc hP1 hD1 [.inr 0, .inl 1, .inl 2] (by decide +kernel) rfl
    have hw : r10 = (-1) := hw
    have hw := hw.symm
    subst hw
    exact W.iret (v := (-1)) hx hb hr (fun t ht hW => ⟨⟨(-1), (), rfl, trivial, v10na0_8, by rw [ht]; exact hP, va_K.moved hW.alike hK, hD⟩, hS.F ht⟩) hS.2.2 dX7_minutesOf_13

set_option maxHeartbeats 4000000 in
set_option maxRecDepth 100000 in
theorem c_X7_place (l : Launch) (dC : Nat → ClassId) (dI : Nat → Nat → Nat) (sz : Nat) (a0 : Nat) (a1 : Int32) (a2 : Int32) (a0g_0 a0g_3 a0g_4 a0g_5 a0g_6 a0g_9 a0g_10 : Value) (a0_1 : Nat) (a0_2 : Nat) (a0_7 : Nat) (a0_8 : Int32) (a0_7_0 : Int32) (a0_7_1 : Int32) (a0_7_2 : Int32) (a0_7g_3 a0_7g_4 a0_7g_7 a0_7g_8 a0_7g_9 a0_7g_12 a0_7g_13 : Value) (a0_7_5 : Int32) (a0_7_6 : Int32) (a0_7_10 : Nat) (a0_7_11 : Nat) (a0_7_14 : Nat) (a0_2_0 : Int32) (a0_2_1 : Int32) (a0_2_2 : Int32) (a0_2_3 : Int32) (a0_2_4 : Int32) (a0_2_5 : Nat) (a0_2_6 : Nat) (a0_1_0 : Int32) (a0_1_1 : Int32) (a0_1_2 : Int32) (a0_1_3 : Int32) (a0_1_4 : Int32) (a0_1_5 : Nat) (a0_1_6 : Nat) (ka0_1_5 : ClassId) (fa0_1_5 : Nat → Int32) (ka0_2_5 : ClassId) (fa0_2_5 : Nat → Int32) (ka0_1_6 : ClassId) (fa0_1_6 : Nat → Int32) (ka0_2_6 : ClassId) (fa0_2_6 : Nat → Int32) (ka0_7_10 : ClassId) (fa0_7_10 : Nat → Int32) (ka0_7_11 : ClassId) (fa0_7_11 : Nat → Int32) (a0_7_14_0 : Int32) (a0_7_14_1 : Int32) (a0_7_14_2 : Nat) (a0_7_14_3 : Nat) (ka0_7_14_3 : ClassId) (fa0_7_14_3 : Nat → Int32) (ka0_7_14_2 : ClassId) (fa0_7_14_2 : Nat → Int32) (ba0_7_0_l : (0 : Int) ≤ a0_7_0.toInt) (ba0_7_0_u : a0_7_0.toInt ≤ (9 : Int)) (ba0_7_5_l : (0 : Int) ≤ a0_7_5.toInt) (ba0_7_5_u : a0_7_5.toInt ≤ (8 : Int)) (ba0_7_6_l : (0 : Int) ≤ a0_7_6.toInt) (ba0_7_6_u : a0_7_6.toInt ≤ (8 : Int)) (ba0_2_1_l : (0 : Int) ≤ a0_2_1.toInt) (ba0_2_1_u : a0_2_1.toInt ≤ (8 : Int)) (ba0_1_1_l : (0 : Int) ≤ a0_1_1.toInt) (ba0_1_1_u : a0_1_1.toInt ≤ (8 : Int)) (ba0_7_14_0_l : (0 : Int) ≤ a0_7_14_0.toInt) (ba0_7_14_0_u : a0_7_14_0.toInt ≤ (3 : Int)) (bfa0_7_14_3 : (∀ k, (0 : Int) ≤ (fa0_7_14_3 k).toInt ∧ (fa0_7_14_3 k).toInt ≤ 80)) (bfa0_7_14_2 : (∀ k, (0 : Int) ≤ (fa0_7_14_2 k).toInt ∧ (fa0_7_14_2 k).toInt ≤ 80)) : Met l yX7_place wsX7_place ({ frames := 6, cells := 0, slots := 0, locals := 141 }) (va_Pc [.ref a0, .int a1, .int a2] (ax_C dC dI sz [(a0, .inr (7, [a0g_0, .ref a0_1, .ref a0_2, a0g_3, a0g_4, a0g_5, a0g_6, .ref a0_7, .int a0_8, a0g_9, a0g_10])), (a0_7, .inr (0, [.int a0_7_0, .int a0_7_1, .int a0_7_2, a0_7g_3, a0_7g_4, .int a0_7_5, .int a0_7_6, a0_7g_7, a0_7g_8, a0_7g_9, .ref a0_7_10, .ref a0_7_11, a0_7g_12, a0_7g_13, .ref a0_7_14])), (a0_2, .inr (5, [.int a0_2_0, .int a0_2_1, .int a0_2_2, .int a0_2_3, .int a0_2_4, .ref a0_2_5, .ref a0_2_6])), (a0_1, .inr (5, [.int a0_1_0, .int a0_1_1, .int a0_1_2, .int a0_1_3, .int a0_1_4, .ref a0_1_5, .ref a0_1_6])), (a0_1_5, .inl (ka0_1_5, 9, .inl (fa0_1_5))), (a0_2_5, .inl (ka0_2_5, 9, .inl (fa0_2_5))), (a0_1_6, .inl (ka0_1_6, 9, .inl (fa0_1_6))), (a0_2_6, .inl (ka0_2_6, 9, .inl (fa0_2_6))), (a0_7_10, .inl (ka0_7_10, 9, .inl (fa0_7_10))), (a0_7_11, .inl (ka0_7_11, 9, .inl (fa0_7_11))), (a0_7_14, .inr (6, [.int a0_7_14_0, .int a0_7_14_1, .ref a0_7_14_2, .ref a0_7_14_3])), (a0_7_14_3, .inl (ka0_7_14_3, 3, .inl (fa0_7_14_3))), (a0_7_14_2, .inl (ka0_7_14_2, 3, .inl (fa0_7_14_2)))] [(ka0_1_5, .int), (ka0_2_5, .int), (ka0_1_6, .int), (ka0_2_6, .int), (ka0_7_10, .int), (ka0_7_11, .int), (ka0_7_14_3, .int), (ka0_7_14_2, .int)] (fun U => va_Nw (.methodLinkNest RX0 118 yX7_within RX7) U ∧ va_Nw (.methodLinkNest RX5 38 yX7_hasBit RX7) U ∧ va_Nw (.methodLinkNest RX0 129 yX7_hasBit RX7) U))) (va_Qi (fun (r : Int32) (_ : Unit) => True) (fun (_ : Unit) (t : State) => ∃ na0_8 : Int32, ∃ na0_2_0 : Int32, ∃ na0_2_1 : Int32, ∃ na0_2_2 : Int32, ∃ na0_2_3 : Int32, ∃ na0_2_4 : Int32, ∃ nfa0_2_5 : Nat → Int32, ∃ nfa0_2_6 : Nat → Int32, ((0 : Int) ≤ na0_2_1.toInt ∧ na0_2_1.toInt ≤ 8) ∧ ax_B dC dI (va_A [(a0, .inr (7, [a0g_0, .ref a0_1, .ref a0_2, a0g_3, a0g_4, a0g_5, a0g_6, .ref a0_7, .int a0_8, a0g_9, a0g_10])), (a0_7, .inr (0, [.int a0_7_0, .int a0_7_1, .int a0_7_2, a0_7g_3, a0_7g_4, .int a0_7_5, .int a0_7_6, a0_7g_7, a0_7g_8, a0_7g_9, .ref a0_7_10, .ref a0_7_11, a0_7g_12, a0_7g_13, .ref a0_7_14])), (a0_2, .inr (5, [.int a0_2_0, .int a0_2_1, .int a0_2_2, .int a0_2_3, .int a0_2_4, .ref a0_2_5, .ref a0_2_6])), (a0_1, .inr (5, [.int a0_1_0, .int a0_1_1, .int a0_1_2, .int a0_1_3, .int a0_1_4, .ref a0_1_5, .ref a0_1_6])), (a0_1_5, .inl (ka0_1_5, 9, .inl (fa0_1_5))), (a0_2_5, .inl (ka0_2_5, 9, .inl (fa0_2_5))), (a0_1_6, .inl (ka0_1_6, 9, .inl (fa0_1_6))), (a0_2_6, .inl (ka0_2_6, 9, .inl (fa0_2_6))), (a0_7_10, .inl (ka0_7_10, 9, .inl (fa0_7_10))), (a0_7_11, .inl (ka0_7_11, 9, .inl (fa0_7_11))), (a0_7_14, .inr (6, [.int a0_7_14_0, .int a0_7_14_1, .ref a0_7_14_2, .ref a0_7_14_3])), (a0_7_14_3, .inl (ka0_7_14_3, 3, .inl (fa0_7_14_3))), (a0_7_14_2, .inl (ka0_7_14_2, 3, .inl (fa0_7_14_2)))] sz) [(a0, .inr (7, [a0g_0, .ref a0_1, .ref a0_2, a0g_3, a0g_4, a0g_5, a0g_6, .ref a0_7, .int na0_8, a0g_9, a0g_10])), (a0_7, .inr (0, [.int a0_7_0, .int a0_7_1, .int a0_7_2, a0_7g_3, a0_7g_4, .int a0_7_5, .int a0_7_6, a0_7g_7, a0_7g_8, a0_7g_9, .ref a0_7_10, .ref a0_7_11, a0_7g_12, a0_7g_13, .ref a0_7_14])), (a0_2, .inr (5, [.int na0_2_0, .int na0_2_1, .int na0_2_2, .int na0_2_3, .int na0_2_4, .ref a0_2_5, .ref a0_2_6])), (a0_1, .inr (5, [.int a0_1_0, .int a0_1_1, .int a0_1_2, .int a0_1_3, .int a0_1_4, .ref a0_1_5, .ref a0_1_6])), (a0_1_5, .inl (ka0_1_5, 9, .inl (fa0_1_5))), (a0_2_5, .inl (ka0_2_5, 9, .inl (nfa0_2_5))), (a0_1_6, .inl (ka0_1_6, 9, .inl (fa0_1_6))), (a0_2_6, .inl (ka0_2_6, 9, .inl (nfa0_2_6))), (a0_7_10, .inl (ka0_7_10, 9, .inl (fa0_7_10))), (a0_7_11, .inl (ka0_7_11, 9, .inl (fa0_7_11))), (a0_7_14, .inr (6, [.int a0_7_14_0, .int a0_7_14_1, .ref a0_7_14_2, .ref a0_7_14_3])), (a0_7_14_3, .inl (ka0_7_14_3, 3, .inl (fa0_7_14_3))), (a0_7_14_2, .inl (ka0_7_14_2, 3, .inl (fa0_7_14_2)))] [(ka0_1_5, .int), (ka0_2_5, .int), (ka0_1_6, .int), (ka0_2_6, .int), (ka0_7_10, .int), (ka0_7_11, .int), (ka0_7_14_3, .int), (ka0_7_14_2, .int)] t) (va_A [(a0, .inr (7, [a0g_0, .ref a0_1, .ref a0_2, a0g_3, a0g_4, a0g_5, a0g_6, .ref a0_7, .int a0_8, a0g_9, a0g_10])), (a0_7, .inr (0, [.int a0_7_0, .int a0_7_1, .int a0_7_2, a0_7g_3, a0_7g_4, .int a0_7_5, .int a0_7_6, a0_7g_7, a0_7g_8, a0_7g_9, .ref a0_7_10, .ref a0_7_11, a0_7g_12, a0_7g_13, .ref a0_7_14])), (a0_2, .inr (5, [.int a0_2_0, .int a0_2_1, .int a0_2_2, .int a0_2_3, .int a0_2_4, .ref a0_2_5, .ref a0_2_6])), (a0_1, .inr (5, [.int a0_1_0, .int a0_1_1, .int a0_1_2, .int a0_1_3, .int a0_1_4, .ref a0_1_5, .ref a0_1_6])), (a0_1_5, .inl (ka0_1_5, 9, .inl (fa0_1_5))), (a0_2_5, .inl (ka0_2_5, 9, .inl (fa0_2_5))), (a0_1_6, .inl (ka0_1_6, 9, .inl (fa0_1_6))), (a0_2_6, .inl (ka0_2_6, 9, .inl (fa0_2_6))), (a0_7_10, .inl (ka0_7_10, 9, .inl (fa0_7_10))), (a0_7_11, .inl (ka0_7_11, 9, .inl (fa0_7_11))), (a0_7_14, .inr (6, [.int a0_7_14_0, .int a0_7_14_1, .ref a0_7_14_2, .ref a0_7_14_3])), (a0_7_14_3, .inl (ka0_7_14_3, 3, .inl (fa0_7_14_3))), (a0_7_14_2, .inl (ka0_7_14_2, 3, .inl (fa0_7_14_2)))] sz)) 0 0 (va_A [(a0, .inr (7, [a0g_0, .ref a0_1, .ref a0_2, a0g_3, a0g_4, a0g_5, a0g_6, .ref a0_7, .int a0_8, a0g_9, a0g_10])), (a0_7, .inr (0, [.int a0_7_0, .int a0_7_1, .int a0_7_2, a0_7g_3, a0_7g_4, .int a0_7_5, .int a0_7_6, a0_7g_7, a0_7g_8, a0_7g_9, .ref a0_7_10, .ref a0_7_11, a0_7g_12, a0_7g_13, .ref a0_7_14])), (a0_2, .inr (5, [.int a0_2_0, .int a0_2_1, .int a0_2_2, .int a0_2_3, .int a0_2_4, .ref a0_2_5, .ref a0_2_6])), (a0_1, .inr (5, [.int a0_1_0, .int a0_1_1, .int a0_1_2, .int a0_1_3, .int a0_1_4, .ref a0_1_5, .ref a0_1_6])), (a0_1_5, .inl (ka0_1_5, 9, .inl (fa0_1_5))), (a0_2_5, .inl (ka0_2_5, 9, .inl (fa0_2_5))), (a0_1_6, .inl (ka0_1_6, 9, .inl (fa0_1_6))), (a0_2_6, .inl (ka0_2_6, 9, .inl (fa0_2_6))), (a0_7_10, .inl (ka0_7_10, 9, .inl (fa0_7_10))), (a0_7_11, .inl (ka0_7_11, 9, .inl (fa0_7_11))), (a0_7_14, .inr (6, [.int a0_7_14_0, .int a0_7_14_1, .ref a0_7_14_2, .ref a0_7_14_3])), (a0_7_14_3, .inl (ka0_7_14_3, 3, .inl (fa0_7_14_3))), (a0_7_14_2, .inl (ka0_7_14_2, 3, .inl (fa0_7_14_2)))] sz) := by
  refine Met.ofW (cc := cX7_place) (maxL := 4) (ret := (some .int)) (by decide) rfl ?_
  intro p e s m args below meth c s₁ B hml hv
  obtain ⟨rfl, hsz, hP, hK, hD0, hE⟩ := hv
  have hx := B.exec
  have hb := B.bytes
  have hr := B.returns
  have hts := atoms_spec (ws := wsX7_place) B.pre
  have hown : s.vm.findClass RX7 = some m.cls := findClass_of_methodNamed B.named
  have hlocks := B.notSynchronized
  subst hsz
  have hD := hD0.self (sz := s.heap.size)
  generalize hAe : va_A [(a0, .inr (7, [a0g_0, .ref a0_1, .ref a0_2, a0g_3, a0g_4, a0g_5, a0g_6, .ref a0_7, .int a0_8, a0g_9, a0g_10])), (a0_7, .inr (0, [.int a0_7_0, .int a0_7_1, .int a0_7_2, a0_7g_3, a0_7g_4, .int a0_7_5, .int a0_7_6, a0_7g_7, a0_7g_8, a0_7g_9, .ref a0_7_10, .ref a0_7_11, a0_7g_12, a0_7g_13, .ref a0_7_14])), (a0_2, .inr (5, [.int a0_2_0, .int a0_2_1, .int a0_2_2, .int a0_2_3, .int a0_2_4, .ref a0_2_5, .ref a0_2_6])), (a0_1, .inr (5, [.int a0_1_0, .int a0_1_1, .int a0_1_2, .int a0_1_3, .int a0_1_4, .ref a0_1_5, .ref a0_1_6])), (a0_1_5, .inl (ka0_1_5, 9, .inl (fa0_1_5))), (a0_2_5, .inl (ka0_2_5, 9, .inl (fa0_2_5))), (a0_1_6, .inl (ka0_1_6, 9, .inl (fa0_1_6))), (a0_2_6, .inl (ka0_2_6, 9, .inl (fa0_2_6))), (a0_7_10, .inl (ka0_7_10, 9, .inl (fa0_7_10))), (a0_7_11, .inl (ka0_7_11, 9, .inl (fa0_7_11))), (a0_7_14, .inr (6, [.int a0_7_14_0, .int a0_7_14_1, .ref a0_7_14_2, .ref a0_7_14_3])), (a0_7_14_3, .inl (ka0_7_14_3, 3, .inl (fa0_7_14_3))), (a0_7_14_2, .inl (ka0_7_14_2, 3, .inl (fa0_7_14_2)))] s.heap.size = A at hD ⊢
  have hA : ∀ q : Nat, s.heap.size ≤ q → A q := fun q h => by rw [← hAe]; exact Or.inr h
  have hS : va_S A s.heap s.heap [] := va_S.rf
  have hP : va_P (dC, dI) vwCl [(a0, .inr (7, [a0g_0, .ref a0_1, .ref a0_2, a0g_3, a0g_4, a0g_5, a0g_6, .ref a0_7, .int a0_8, a0g_9, a0g_10])), (a0_7, .inr (0, [.int a0_7_0, .int a0_7_1, .int a0_7_2, a0_7g_3, a0_7g_4, .int a0_7_5, .int a0_7_6, a0_7g_7, a0_7g_8, a0_7g_9, .ref a0_7_10, .ref a0_7_11, a0_7g_12, a0_7g_13, .ref a0_7_14])), (a0_2, .inr (5, [.int a0_2_0, .int a0_2_1, .int a0_2_2, .int a0_2_3, .int a0_2_4, .ref a0_2_5, .ref a0_2_6])), (a0_1, .inr (5, [.int a0_1_0, .int a0_1_1, .int a0_1_2, .int a0_1_3, .int a0_1_4, .ref a0_1_5, .ref a0_1_6])), (a0_1_5, .inl (ka0_1_5, 9, .inl (fa0_1_5))), (a0_2_5, .inl (ka0_2_5, 9, .inl (fa0_2_5))), (a0_1_6, .inl (ka0_1_6, 9, .inl (fa0_1_6))), (a0_2_6, .inl (ka0_2_6, 9, .inl (fa0_2_6))), (a0_7_10, .inl (ka0_7_10, 9, .inl (fa0_7_10))), (a0_7_11, .inl (ka0_7_11, 9, .inl (fa0_7_11))), (a0_7_14, .inr (6, [.int a0_7_14_0, .int a0_7_14_1, .ref a0_7_14_2, .ref a0_7_14_3])), (a0_7_14_3, .inl (ka0_7_14_3, 3, .inl (fa0_7_14_3))), (a0_7_14_2, .inl (ka0_7_14_2, 3, .inl (fa0_7_14_2)))] s.heap := hP
  obtain ⟨hE0, hE1, hE2⟩ := hE
  have hl := lv_entry ([.ref a0, .int a1, .int a2]) (n := 4) (Nat.le_of_ble_eq_true rfl)
  rw [lg_entry_eq]
  generalize (lg_sl ([.ref a0, .int a1, .int a2]) ++ List.replicate (4 - (lg_sl ([.ref a0, .int a1, .int a2])).length) Slot.unset).toArray = ls at hl ⊢
  have hl : lv_has ls 4 [(0, .ref a0), (1, .int a1), (2, .int a2)] := hl
  refine lv_aload_n hx hb dX7_place_0 rfl (lv_at hl 0 rfl) ?_
  refine lv_iload_n hx hb dX7_place_1 rfl (lv_at hl 1 rfl) ?_
  refine lv_iload_n hx hb dX7_place_2 rfl (lv_at hl 2 rfl) ?_
  refine lv_sipush (v := 300) hx hb dX7_place_3 zk_sipush_300 ?_
  obtain ⟨hPc, hDc, hFc, hCc⟩ := zc_cut (wc := [(a0, .inr (7, [a0g_0, .ref a0_1, .ref a0_2, a0g_3, a0g_4, a0g_5, a0g_6, .ref a0_7, .int a0_8, a0g_9, a0g_10])), (a0_7, .inr (0, [.int a0_7_0, .int a0_7_1, .int a0_7_2, a0_7g_3, a0_7g_4, .int a0_7_5, .int a0_7_6, a0_7g_7, a0_7g_8, a0_7g_9, .ref a0_7_10, .ref a0_7_11, a0_7g_12, a0_7g_13, .ref a0_7_14]))]) hP hD hS hA [0, 1] (by decide +kernel) rfl
  have hKc := hK.sub (tys' := []) [] rfl
  refine va_calli (va_runV (As := [.int a1, .int a2, .int 300]) (rest := []) ⟨hx, hb, hml, hown, hts⟩ (c_X7_troubleOfFigureWithin l dC dI s.heap.size a0 a1 a2 300 a0g_0 (.ref a0_1) (.ref a0_2) a0g_3 a0g_4 a0g_5 a0g_6 (.int a0_8) a0g_9 a0g_10 a0_7 a0_7_0 (.int a0_7_1) (.int a0_7_2) a0_7g_3 a0_7g_4 (.int a0_7_5) (.int a0_7_6) a0_7g_7 a0_7g_8 a0_7g_9 (.ref a0_7_10) (.ref a0_7_11) a0_7g_12 a0_7g_13 (.ref a0_7_14) ba0_7_0_l ba0_7_0_u) (cwV 3 hts gX7_place_X7_troubleOfFigureWithin rfl rfl rfl zd_X7_troubleOfFigureWithin ⟨Nat.le_of_ble_eq_true rfl, Nat.le_of_ble_eq_true rfl⟩) ⟨ax_blind (fun _ _ _ _ _ => trivial), zr_7 hKc hPc (q0 := 0) rfl, ax_pre hPc hKc hDc (fun _ _ => trivial)⟩ rfl rfl hl.1 rfl (lv_room (Nat.le_of_ble_eq_true rfl)) dX7_place_6 ⟨Nat.le_of_ble_eq_true rfl, Nat.le_of_ble_eq_true rfl⟩) hS (fun q _ h => hFc q h) hFc (fun r6 u t H locs ht hvm hw hB hz1 hk1 hS => ?_)
  obtain ⟨hP1, hK1, hD1⟩ := hB
  rw [ht] at hP1
  obtain ⟨hP, hD⟩ := zc_back (w := [(a0, .inr (7, [a0g_0, .ref a0_1, .ref a0_2, a0g_3, a0g_4, a0g_5, a0g_6, .ref a0_7, .int a0_8, a0g_9, a0g_10])), (a0_7, .inr (0, [.int a0_7_0, .int a0_7_1, .int a0_7_2, a0_7g_3, a0_7g_4, .int a0_7_5, .int a0_7_6, a0_7g_7, a0_7g_8, a0_7g_9, .ref a0_7_10, .ref a0_7_11, a0_7g_12, a0_7g_13, .ref a0_7_14])), (a0_2, .inr (5, [.int a0_2_0, .int a0_2_1, .int a0_2_2, .int a0_2_3, .int a0_2_4, .ref a0_2_5, .ref a0_2_6])), (a0_1, .inr (5, [.int a0_1_0, .int a0_1_1, .int a0_1_2, .int a0_1_3, .int a0_1_4, .ref a0_1_5, .ref a0_1_6])), (a0_1_5, .inl (ka0_1_5, 9, .inl (fa0_1_5))), (a0_2_5, .inl (ka0_2_5, 9, .inl (fa0_2_5))), (a0_1_6, .inl (ka0_1_6, 9, .inl (fa0_1_6))), (a0_2_6, .inl (ka0_2_6, 9, .inl (fa0_2_6))), (a0_7_10, .inl (ka0_7_10, 9, .inl (fa0_7_10))), (a0_7_11, .inl (ka0_7_11, 9, .inl (fa0_7_11))), (a0_7_14, .inr (6, [.int a0_7_14_0, .int a0_7_14_1, .ref a0_7_14_2, .ref a0_7_14_3])), (a0_7_14_3, .inl (ka0_7_14_3, 3, .inl (fa0_7_14_3))), (a0_7_14_2, .inl (ka0_7_14_2, 3, .inl (fa0_7_14_2)))]) hP hD hCc hk1 hFc hP1 hD1 [.inr 0, .inr 1, .inl 2, .inl 3, .inl 4, .inl 5, .inl 6, .inl 7, .inl 8, .inl 9, .inl 10, .inl 11, .inl 12] (by decide +kernel) rfl
  rcases hw with hw | hw | hw
  · obtain ⟨hw, fh6, gh6, kh6, h6⟩ := hw
    subst hw
    have l6k0_a0_7_0 : (1 : Int) ≤ a0_7_0.toInt := fh6
    have l6k0_a1 : (0 : Int) ≤ a1.toInt := gh6
    have u6k0_a1 : a1.toInt ≤ (8 : Int) := kh6
    have l6k0_a2 : (0 : Int) ≤ a2.toInt := Int.le_trans zq5 h6.1
    have u6k0_a2 : a2.toInt ≤ (300 : Int) := Int.le_trans h6.2 zq82
    refine lv_istore_n (lv' := [(3, .int 0), (0, .ref a0), (1, .int a1), (2, .int a2)]) hx hb dX7_place_9 rfl hl (by decide) rfl (fun ls hl => ?_)
    refine lv_iload_n hx hb dX7_place_10 rfl (lv_at hl 0 rfl) ?_
    refine lv_if_eq (tgt := 20) hx hb dX7_place_11 (by decide) (fun _ => ?_) (fun c11 => absurd (by decide +kernel) c11)
    refine lv_aload_n hx hb dX7_place_20 rfl (lv_at hl 1 rfl) ?_
    refine lv_iload_n hx hb dX7_place_21 rfl (lv_at hl 3 rfl) ?_
    obtain ⟨hPc, hDc, hFc, hCc⟩ := zc_cut (wc := [(a0, .inr (7, [a0g_0, .ref a0_1, .ref a0_2, a0g_3, a0g_4, a0g_5, a0g_6, .ref a0_7, .int a0_8, a0g_9, a0g_10])), (a0_2, .inr (5, [.int a0_2_0, .int a0_2_1, .int a0_2_2, .int a0_2_3, .int a0_2_4, .ref a0_2_5, .ref a0_2_6])), (a0_1, .inr (5, [.int a0_1_0, .int a0_1_1, .int a0_1_2, .int a0_1_3, .int a0_1_4, .ref a0_1_5, .ref a0_1_6])), (a0_1_5, .inl (ka0_1_5, 9, .inl (fa0_1_5))), (a0_2_5, .inl (ka0_2_5, 9, .inl (fa0_2_5))), (a0_1_6, .inl (ka0_1_6, 9, .inl (fa0_1_6))), (a0_2_6, .inl (ka0_2_6, 9, .inl (fa0_2_6))), (a0_7, .inr (0, [.int a0_7_0, .int a0_7_1, .int a0_7_2, a0_7g_3, a0_7g_4, .int a0_7_5, .int a0_7_6, a0_7g_7, a0_7g_8, a0_7g_9, .ref a0_7_10, .ref a0_7_11, a0_7g_12, a0_7g_13, .ref a0_7_14])), (a0_7_10, .inl (ka0_7_10, 9, .inl (fa0_7_10))), (a0_7_11, .inl (ka0_7_11, 9, .inl (fa0_7_11))), (a0_7_14, .inr (6, [.int a0_7_14_0, .int a0_7_14_1, .ref a0_7_14_2, .ref a0_7_14_3])), (a0_7_14_3, .inl (ka0_7_14_3, 3, .inl (fa0_7_14_3))), (a0_7_14_2, .inl (ka0_7_14_2, 3, .inl (fa0_7_14_2)))]) hP hD hS hA [0, 2, 3, 4, 5, 6, 7, 1, 8, 9, 10, 11, 12] (by decide +kernel) rfl
    have hKc := hK.sub (tys' := [(ka0_1_5, .int), (ka0_2_5, .int), (ka0_1_6, .int), (ka0_2_6, .int), (ka0_7_10, .int), (ka0_7_11, .int), (ka0_7_14_3, .int), (ka0_7_14_2, .int)]) [0, 1, 2, 3, 4, 5, 6, 7] rfl
    refine va_callv (va_runV (As := [.int a2]) (rest := []) ⟨hx, hb, hml, hown, hts⟩ (c_X7_runAhead l dC dI H.size a0 a2 a0g_0 a0g_3 a0g_4 a0g_5 a0g_6 (.int a0_8) a0g_9 a0g_10 a0_1 a0_2 a0_7 a0_2_0 a0_2_1 a0_2_2 a0_2_3 a0_2_4 a0_2_5 a0_2_6 a0_1_0 a0_1_1 a0_1_2 a0_1_3 a0_1_4 a0_1_5 a0_1_6 ka0_1_5 fa0_1_5 ka0_2_5 fa0_2_5 ka0_1_6 fa0_1_6 ka0_2_6 fa0_2_6 a0_7_0 a0_7_1 a0_7_2 a0_7g_3 a0_7g_4 a0_7g_7 a0_7g_8 a0_7g_9 a0_7g_12 a0_7g_13 a0_7_5 a0_7_6 a0_7_10 a0_7_11 a0_7_14 ka0_7_10 fa0_7_10 ka0_7_11 fa0_7_11 a0_7_14_0 a0_7_14_1 a0_7_14_2 a0_7_14_3 ka0_7_14_3 fa0_7_14_3 ka0_7_14_2 fa0_7_14_2 ba0_2_1_l ba0_2_1_u ba0_1_1_l ba0_1_1_u (Int.le_trans zq4 l6k0_a0_7_0) ba0_7_0_u ba0_7_5_l ba0_7_5_u ba0_7_6_l ba0_7_6_u ba0_7_14_0_l ba0_7_14_0_u bfa0_7_14_3 bfa0_7_14_2) (cwV 1 hts gX7_place_X7_runAhead rfl rfl rfl zd_X7_runAhead ⟨Nat.le_of_ble_eq_true rfl, Nat.le_of_ble_eq_true rfl⟩) ⟨ax_blind (fun _ _ _ _ hq => ⟨va_Nw.same rfl rfl (hq.1), va_Nw.same rfl rfl (hq.2.1), va_Nw.same rfl rfl (hq.2.2)⟩), zr_7 hKc hPc (q0 := 0) rfl, ax_pre hPc hKc hDc (fun _ hW => ⟨va_Nw.warmM hW hE0, va_Nw.warmM hW hE1, va_Nw.warmM hW hE2⟩)⟩ rfl rfl hl.1 rfl (lv_room (Nat.le_of_ble_eq_true rfl)) dX7_place_22 ⟨Nat.le_of_ble_eq_true rfl, Nat.le_of_ble_eq_true rfl⟩) hS (fun q _ h => hFc q h) hFc (fun u t H locs ht hvm hw hB hz1 hk1 hS => ?_)
    obtain ⟨v22na0_2_0, v22na0_2_1, v22na0_2_2, v22na0_2_3, v22na0_2_4, v22nfa0_2_5, v22nfa0_2_6, bv22na0_2_1, hP1, hK1, hD1⟩ := hB
    rw [ht] at hP1
    obtain ⟨hP, hD⟩ := zc_back (w := [(a0, .inr (7, [a0g_0, .ref a0_1, .ref a0_2, a0g_3, a0g_4, a0g_5, a0g_6, .ref a0_7, .int a0_8, a0g_9, a0g_10])), (a0_7, .inr (0, [.int a0_7_0, .int a0_7_1, .int a0_7_2, a0_7g_3, a0_7g_4, .int a0_7_5, .int a0_7_6, a0_7g_7, a0_7g_8, a0_7g_9, .ref a0_7_10, .ref a0_7_11, a0_7g_12, a0_7g_13, .ref a0_7_14])), (a0_2, .inr (5, [.int v22na0_2_0, .int v22na0_2_1, .int v22na0_2_2, .int v22na0_2_3, .int v22na0_2_4, .ref a0_2_5, .ref a0_2_6])), (a0_1, .inr (5, [.int a0_1_0, .int a0_1_1, .int a0_1_2, .int a0_1_3, .int a0_1_4, .ref a0_1_5, .ref a0_1_6])), (a0_1_5, .inl (ka0_1_5, 9, .inl (fa0_1_5))), (a0_2_5, .inl (ka0_2_5, 9, .inl (v22nfa0_2_5))), (a0_1_6, .inl (ka0_1_6, 9, .inl (fa0_1_6))), (a0_2_6, .inl (ka0_2_6, 9, .inl (v22nfa0_2_6))), (a0_7_10, .inl (ka0_7_10, 9, .inl (fa0_7_10))), (a0_7_11, .inl (ka0_7_11, 9, .inl (fa0_7_11))), (a0_7_14, .inr (6, [.int a0_7_14_0, .int a0_7_14_1, .ref a0_7_14_2, .ref a0_7_14_3])), (a0_7_14_3, .inl (ka0_7_14_3, 3, .inl (fa0_7_14_3))), (a0_7_14_2, .inl (ka0_7_14_2, 3, .inl (fa0_7_14_2)))]) hP hD hCc hk1 hFc hP1 hD1 [.inr 0, .inr 7, .inr 1, .inr 2, .inr 3, .inr 4, .inr 5, .inr 6, .inr 8, .inr 9, .inr 10, .inr 11, .inr 12] (by decide +kernel) rfl
    refine lv_aload_n hx hb dX7_place_25 rfl (lv_at hl 1 rfl) ?_
    refine lv_aload_n hx hb dX7_place_26 rfl (lv_at hl 1 rfl) ?_
    refine va_get (D := (dC, dI)) (ci := 7) (v := .ref a0_2) (C := RX7) (T := TX7) (N := 11) hx hb hts zi_X7_place_7 hown hK hP 0 rfl rfl 2 (by decide) (hts (.fieldLink RX7 23 "WaxTurns" "ahead" "LWaxTurns$Scene;") (zm_X7_place_r1 (List.mem_of_getElem? (i := 0) rfl))) (fun _ h9 => h9) rfl dX7_place_27 ?_
    refine va_get (D := (dC, dI)) (ci := 5) (v := .ref a0_2_5) (C := RX5) (T := TX5) (N := 7) hx hb hts zi_X7_place_5 hown hK hP 2 rfl rfl 5 (by decide) (hts (.fieldLink RX7 126 "WaxTurns$Scene" "places" "[I") (zm_X7_place_r1 (List.mem_of_getElem? (i := 1) rfl))) (fun _ h9 => h9) rfl dX7_place_30 ?_
    refine lv_iload_n hx hb dX7_place_33 rfl (lv_at hl 2 rfl) ?_
    refine va_iald hx hb hK hP 5 1 rfl rfl (ai_in l6k0_a1 u6k0_a1 (by decide) (by decide)) dX7_place_34 ?_
    refine lv_topi (fun x34 ex34 => ?_)
    obtain ⟨hPc, hDc, hFc, hCc⟩ := zc_cut (wc := [(a0, .inr (7, [a0g_0, .ref a0_1, .ref a0_2, a0g_3, a0g_4, a0g_5, a0g_6, .ref a0_7, .int a0_8, a0g_9, a0g_10]))]) hP hD hS hA [0] (by decide +kernel) rfl
    have hKc := hK.sub (tys' := []) [] rfl
    refine va_calli (va_runV (As := [.int x34]) (rest := []) ⟨hx, hb, hml, hown, hts⟩ (c_X7_answered l dC dI H.size a0 x34 a0g_0 (.ref a0_1) (.ref a0_2) a0g_3 a0g_4 a0g_5 a0g_6 (.ref a0_7) a0g_9 a0g_10 a0_8 ) (cwV 1 hts gX7_place_X7_answered rfl rfl rfl zd_X7_answered ⟨Nat.le_of_ble_eq_true rfl, Nat.le_of_ble_eq_true rfl⟩) ⟨ax_blind (fun _ _ _ _ _ => trivial), zr_7 hKc hPc (q0 := 0) rfl, ax_pre hPc hKc hDc (fun _ _ => trivial)⟩ rfl rfl hl.1 rfl (lv_room (Nat.le_of_ble_eq_true rfl)) dX7_place_35 ⟨Nat.le_of_ble_eq_true rfl, Nat.le_of_ble_eq_true rfl⟩) hS (fun q _ h => hFc q h) hFc (fun r35 u t H locs ht hvm hw hB hz1 hk1 hS => ?_)
    obtain ⟨v35na0_8, hP1, hK1, hD1⟩ := hB
    rw [ht] at hP1
    obtain ⟨hP, hD⟩ := zc_back (w := [(a0, .inr (7, [a0g_0, .ref a0_1, .ref a0_2, a0g_3, a0g_4, a0g_5, a0g_6, .ref a0_7, .int v35na0_8, a0g_9, a0g_10])), (a0_7, .inr (0, [.int a0_7_0, .int a0_7_1, .int a0_7_2, a0_7g_3, a0_7g_4, .int a0_7_5, .int a0_7_6, a0_7g_7, a0_7g_8, a0_7g_9, .ref a0_7_10, .ref a0_7_11, a0_7g_12, a0_7g_13, .ref a0_7_14])), (a0_2, .inr (5, [.int v22na0_2_0, .int v22na0_2_1, .int v22na0_2_2, .int v22na0_2_3, .int v22na0_2_4, .ref a0_2_5, .ref a0_2_6])), (a0_1, .inr (5, [.int a0_1_0, .int a0_1_1, .int a0_1_2, .int a0_1_3, .int a0_1_4, .ref a0_1_5, .ref a0_1_6])), (a0_1_5, .inl (ka0_1_5, 9, .inl (fa0_1_5))), (a0_2_5, .inl (ka0_2_5, 9, .inl (v22nfa0_2_5))), (a0_1_6, .inl (ka0_1_6, 9, .inl (fa0_1_6))), (a0_2_6, .inl (ka0_2_6, 9, .inl (v22nfa0_2_6))), (a0_7_10, .inl (ka0_7_10, 9, .inl (fa0_7_10))), (a0_7_11, .inl (ka0_7_11, 9, .inl (fa0_7_11))), (a0_7_14, .inr (6, [.int a0_7_14_0, .int a0_7_14_1, .ref a0_7_14_2, .ref a0_7_14_3])), (a0_7_14_3, .inl (ka0_7_14_3, 3, .inl (fa0_7_14_3))), (a0_7_14_2, .inl (ka0_7_14_2, 3, .inl (fa0_7_14_2)))]) hP hD hCc hk1 hFc hP1 hD1 [.inr 0, .inl 1, .inl 2, .inl 3, .inl 4, .inl 5, .inl 6, .inl 7, .inl 8, .inl 9, .inl 10, .inl 11, .inl 12] (by decide +kernel) rfl
    have hw : r35 = x34 := hw
    have hw := hw.symm
    subst hw
    exact W.iret (v := x34) hx hb hr (fun t ht hW => ⟨⟨x34, (), rfl, trivial, v35na0_8, v22na0_2_0, v22na0_2_1, v22na0_2_2, v22na0_2_3, v22na0_2_4, v22nfa0_2_5, v22nfa0_2_6, ⟨bv22na0_2_1.1, bv22na0_2_1.2⟩, by rw [ht]; exact hP, va_K.moved hW.alike hK, hD⟩, hS.F ht⟩) hS.2.2 dX7_place_38
  · subst hw
    refine lv_istore_n (lv' := [(3, .int 1), (0, .ref a0), (1, .int a1), (2, .int a2)]) hx hb dX7_place_9 rfl hl (by decide) rfl (fun ls hl => ?_)
    refine lv_iload_n hx hb dX7_place_10 rfl (lv_at hl 0 rfl) ?_
    refine lv_if_eq (tgt := 20) hx hb dX7_place_11 (by decide) (fun c11 => absurd c11 (by decide +kernel)) (fun _ => ?_)
    refine lv_aload_n hx hb dX7_place_14 rfl (lv_at hl 1 rfl) ?_
    refine lv_iload_n hx hb dX7_place_15 rfl (lv_at hl 0 rfl) ?_
    obtain ⟨hPc, hDc, hFc, hCc⟩ := zc_cut (wc := [(a0, .inr (7, [a0g_0, .ref a0_1, .ref a0_2, a0g_3, a0g_4, a0g_5, a0g_6, .ref a0_7, .int a0_8, a0g_9, a0g_10]))]) hP hD hS hA [0] (by decide +kernel) rfl
    have hKc := hK.sub (tys' := []) [] rfl
    refine va_calli (va_runV (As := [.int 1]) (rest := []) ⟨hx, hb, hml, hown, hts⟩ (c_X7_refused l dC dI H.size a0 1 a0g_0 (.ref a0_1) (.ref a0_2) a0g_3 a0g_4 a0g_5 a0g_6 (.ref a0_7) a0g_9 a0g_10 a0_8 ) (cwV 1 hts gX7_place_X7_refused rfl rfl rfl zd_X7_refused ⟨Nat.le_of_ble_eq_true rfl, Nat.le_of_ble_eq_true rfl⟩) ⟨ax_blind (fun _ _ _ _ _ => trivial), zr_7 hKc hPc (q0 := 0) rfl, ax_pre hPc hKc hDc (fun _ _ => trivial)⟩ rfl rfl hl.1 rfl (lv_room (Nat.le_of_ble_eq_true rfl)) dX7_place_16 ⟨Nat.le_of_ble_eq_true rfl, Nat.le_of_ble_eq_true rfl⟩) hS (fun q _ h => hFc q h) hFc (fun r16 u t H locs ht hvm hw hB hz1 hk1 hS => ?_)
    obtain ⟨v16na0_8, hP1, hK1, hD1⟩ := hB
    rw [ht] at hP1
    obtain ⟨hP, hD⟩ := zc_back (w := [(a0, .inr (7, [a0g_0, .ref a0_1, .ref a0_2, a0g_3, a0g_4, a0g_5, a0g_6, .ref a0_7, .int v16na0_8, a0g_9, a0g_10])), (a0_7, .inr (0, [.int a0_7_0, .int a0_7_1, .int a0_7_2, a0_7g_3, a0_7g_4, .int a0_7_5, .int a0_7_6, a0_7g_7, a0_7g_8, a0_7g_9, .ref a0_7_10, .ref a0_7_11, a0_7g_12, a0_7g_13, .ref a0_7_14])), (a0_2, .inr (5, [.int a0_2_0, .int a0_2_1, .int a0_2_2, .int a0_2_3, .int a0_2_4, .ref a0_2_5, .ref a0_2_6])), (a0_1, .inr (5, [.int a0_1_0, .int a0_1_1, .int a0_1_2, .int a0_1_3, .int a0_1_4, .ref a0_1_5, .ref a0_1_6])), (a0_1_5, .inl (ka0_1_5, 9, .inl (fa0_1_5))), (a0_2_5, .inl (ka0_2_5, 9, .inl (fa0_2_5))), (a0_1_6, .inl (ka0_1_6, 9, .inl (fa0_1_6))), (a0_2_6, .inl (ka0_2_6, 9, .inl (fa0_2_6))), (a0_7_10, .inl (ka0_7_10, 9, .inl (fa0_7_10))), (a0_7_11, .inl (ka0_7_11, 9, .inl (fa0_7_11))), (a0_7_14, .inr (6, [.int a0_7_14_0, .int a0_7_14_1, .ref a0_7_14_2, .ref a0_7_14_3])), (a0_7_14_3, .inl (ka0_7_14_3, 3, .inl (fa0_7_14_3))), (a0_7_14_2, .inl (ka0_7_14_2, 3, .inl (fa0_7_14_2)))]) hP hD hCc hk1 hFc hP1 hD1 [.inr 0, .inl 1, .inl 2, .inl 3, .inl 4, .inl 5, .inl 6, .inl 7, .inl 8, .inl 9, .inl 10, .inl 11, .inl 12] (by decide +kernel) rfl
    have hw : r16 = (-1) := hw
    have hw := hw.symm
    subst hw
    exact W.iret (v := (-1)) hx hb hr (fun t ht hW => ⟨⟨(-1), (), rfl, trivial, v16na0_8, a0_2_0, a0_2_1, a0_2_2, a0_2_3, a0_2_4, fa0_2_5, fa0_2_6, ⟨ba0_2_1_l, ba0_2_1_u⟩, by rw [ht]; exact hP, va_K.moved hW.alike hK, hD⟩, hS.F ht⟩) hS.2.2 dX7_place_19
  · subst hw
    refine lv_istore_n (lv' := [(3, .int 2), (0, .ref a0), (1, .int a1), (2, .int a2)]) hx hb dX7_place_9 rfl hl (by decide) rfl (fun ls hl => ?_)
    refine lv_iload_n hx hb dX7_place_10 rfl (lv_at hl 0 rfl) ?_
    refine lv_if_eq (tgt := 20) hx hb dX7_place_11 (by decide) (fun c11 => absurd c11 (by decide +kernel)) (fun _ => ?_)
    refine lv_aload_n hx hb dX7_place_14 rfl (lv_at hl 1 rfl) ?_
    refine lv_iload_n hx hb dX7_place_15 rfl (lv_at hl 0 rfl) ?_
    obtain ⟨hPc, hDc, hFc, hCc⟩ := zc_cut (wc := [(a0, .inr (7, [a0g_0, .ref a0_1, .ref a0_2, a0g_3, a0g_4, a0g_5, a0g_6, .ref a0_7, .int a0_8, a0g_9, a0g_10]))]) hP hD hS hA [0] (by decide +kernel) rfl
    have hKc := hK.sub (tys' := []) [] rfl
    refine va_calli (va_runV (As := [.int 2]) (rest := []) ⟨hx, hb, hml, hown, hts⟩ (c_X7_refused l dC dI H.size a0 2 a0g_0 (.ref a0_1) (.ref a0_2) a0g_3 a0g_4 a0g_5 a0g_6 (.ref a0_7) a0g_9 a0g_10 a0_8 ) (cwV 1 hts gX7_place_X7_refused rfl rfl rfl zd_X7_refused ⟨Nat.le_of_ble_eq_true rfl, Nat.le_of_ble_eq_true rfl⟩) ⟨ax_blind (fun _ _ _ _ _ => trivial), zr_7 hKc hPc (q0 := 0) rfl, ax_pre hPc hKc hDc (fun _ _ => trivial)⟩ rfl rfl hl.1 rfl (lv_room (Nat.le_of_ble_eq_true rfl)) dX7_place_16 ⟨Nat.le_of_ble_eq_true rfl, Nat.le_of_ble_eq_true rfl⟩) hS (fun q _ h => hFc q h) hFc (fun r16 u t H locs ht hvm hw hB hz1 hk1 hS => ?_)
    obtain ⟨v16na0_8, hP1, hK1, hD1⟩ := hB
    rw [ht] at hP1
    obtain ⟨hP, hD⟩ := zc_back (w := [(a0, .inr (7, [a0g_0, .ref a0_1, .ref a0_2, a0g_3, a0g_4, a0g_5, a0g_6, .ref a0_7, .int v16na0_8, a0g_9, a0g_10])), (a0_7, .inr (0, [.int a0_7_0, .int a0_7_1, .int a0_7_2, a0_7g_3, a0_7g_4, .int a0_7_5, .int a0_7_6, a0_7g_7, a0_7g_8, a0_7g_9, .ref a0_7_10, .ref a0_7_11, a0_7g_12, a0_7g_13, .ref a0_7_14])), (a0_2, .inr (5, [.int a0_2_0, .int a0_2_1, .int a0_2_2, .int a0_2_3, .int a0_2_4, .ref a0_2_5, .ref a0_2_6])), (a0_1, .inr (5, [.int a0_1_0, .int a0_1_1, .int a0_1_2, .int a0_1_3, .int a0_1_4, .ref a0_1_5, .ref a0_1_6])), (a0_1_5, .inl (ka0_1_5, 9, .inl (fa0_1_5))), (a0_2_5, .inl (ka0_2_5, 9, .inl (fa0_2_5))), (a0_1_6, .inl (ka0_1_6, 9, .inl (fa0_1_6))), (a0_2_6, .inl (ka0_2_6, 9, .inl (fa0_2_6))), (a0_7_10, .inl (ka0_7_10, 9, .inl (fa0_7_10))), (a0_7_11, .inl (ka0_7_11, 9, .inl (fa0_7_11))), (a0_7_14, .inr (6, [.int a0_7_14_0, .int a0_7_14_1, .ref a0_7_14_2, .ref a0_7_14_3])), (a0_7_14_3, .inl (ka0_7_14_3, 3, .inl (fa0_7_14_3))), (a0_7_14_2, .inl (ka0_7_14_2, 3, .inl (fa0_7_14_2)))]) hP hD hCc hk1 hFc hP1 hD1 [.inr 0, .inl 1, .inl 2, .inl 3, .inl 4, .inl 5, .inl 6, .inl 7, .inl 8, .inl 9, .inl 10, .inl 11, .inl 12] (by decide +kernel) rfl
    have hw : r16 = (-1) := hw
    have hw := hw.symm
    subst hw
    exact W.iret (v := (-1)) hx hb hr (fun t ht hW => ⟨⟨(-1), (), rfl, trivial, v16na0_8, a0_2_0, a0_2_1, a0_2_2, a0_2_3, a0_2_4, fa0_2_5, fa0_2_6, ⟨ba0_2_1_l, ba0_2_1_u⟩, by rw [ht]; exact hP, va_K.moved hW.alike hK, hD⟩, hS.F ht⟩) hS.2.2 dX7_place_19
