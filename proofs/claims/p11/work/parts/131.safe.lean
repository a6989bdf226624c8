set_option maxHeartbeats 4000000 in
set_option maxRecDepth 100000 in
theorem c_X8_isWatched (l : Launch) (dC : Nat → ClassId) (dI : Nat → Nat → Nat) (sz : Nat) (a0 : Nat) (a1 : Int32) (a2 : Int32) (a0g_0 a0g_1 a0g_2 a0g_3 a0g_4 a0g_5 a0g_6 a0g_7 a0g_8 a0g_9 a0g_10 a0g_11 a0g_12 a0g_13 a0g_14 a0g_16 a0g_17 a0g_18 a0g_19 a0g_20 a0g_21 a0g_22 a0g_26 a0g_27 a0g_28 a0g_29 a0g_30 a0g_31 a0g_32 a0g_33 a0g_34 a0g_35 a0g_36 a0g_37 a0g_38 a0g_39 : Value) (a0_15 : Nat) (a0_23 : Nat) (a0_24 : Nat) (a0_25 : Int32) (ka0_15 : ClassId) (fa0_15 : Nat → Int32) (ka0_24 : ClassId) (fa0_24 : Nat → Int32) (ka0_23 : ClassId) (fa0_23 : Nat → Int32) (bfa0_15 : ((∀ k : Nat, 0 ≤ k → k ≤ 0 → (2 : Int) ≤ (fa0_15 k).toInt ∧ (fa0_15 k).toInt ≤ 9) ∧ (∀ k : Nat, 1 ≤ k → k ≤ 1 → (1 : Int) ≤ (fa0_15 k).toInt ∧ (fa0_15 k).toInt ≤ 20) ∧ (∀ k : Nat, 2 ≤ k → k ≤ 2 → (0 : Int) ≤ (fa0_15 k).toInt ∧ (fa0_15 k).toInt ≤ 8) ∧ (∀ k : Nat, 3 ≤ k → k ≤ 3 → (0 : Int) ≤ (fa0_15 k).toInt ∧ (fa0_15 k).toInt ≤ 100) ∧ (∀ k : Nat, 4 ≤ k → k ≤ 4 → (0 : Int) ≤ (fa0_15 k).toInt ∧ (fa0_15 k).toInt ≤ 9) ∧ (∀ k : Nat, 5 ≤ k → k ≤ 5 → (0 : Int) ≤ (fa0_15 k).toInt ∧ (fa0_15 k).toInt ≤ 3) ∧ (∀ k : Nat, 6 ≤ k → k ≤ 6 → (0 : Int) ≤ (fa0_15 k).toInt ∧ (fa0_15 k).toInt ≤ 6) ∧ (∀ k : Nat, 7 ≤ k → k ≤ 9 → (0 : Int) ≤ (fa0_15 k).toInt ∧ (fa0_15 k).toInt ≤ 8) ∧ (∀ k : Nat, 12 ≤ k → k ≤ 29 → (0 : Int) ≤ (fa0_15 k).toInt ∧ (fa0_15 k).toInt ≤ 20) ∧ (∀ k : Nat, 30 ≤ k → k ≤ 35 → (0 : Int) ≤ (fa0_15 k).toInt ∧ (fa0_15 k).toInt ≤ 8) ∧ (∀ k : Nat, 36 ≤ k → k ≤ 47 → (0 : Int) ≤ (fa0_15 k).toInt ∧ (fa0_15 k).toInt ≤ 999))) (bfa0_24 : (∀ k, (0 : Int) ≤ (fa0_24 k).toInt ∧ (fa0_24 k).toInt ≤ 80)) (bfa0_23 : (∀ k, (0 : Int) ≤ (fa0_23 k).toInt ∧ (fa0_23 k).toInt ≤ 80)) : Met l yX8_isWatched wsX8_isWatched ({ frames := 1, cells := 0, slots := 0, locals := 25 }) (va_Pc [.ref a0, .int a1, .int a2] (ax_C dC dI sz [(a0, .inr (8, [a0g_0, a0g_1, a0g_2, a0g_3, a0g_4, a0g_5, a0g_6, a0g_7, a0g_8, a0g_9, a0g_10, a0g_11, a0g_12, a0g_13, a0g_14, Value.ref a0_15, a0g_16, a0g_17, a0g_18, a0g_19, a0g_20, a0g_21, a0g_22, Value.ref a0_23, Value.ref a0_24, Value.int a0_25, a0g_26, a0g_27, a0g_28, a0g_29, a0g_30, a0g_31, a0g_32, a0g_33, a0g_34, a0g_35, a0g_36, a0g_37, a0g_38, a0g_39])), (a0_15, .inl (ka0_15, 156, .inl (fa0_15))), (a0_24, .inl (ka0_24, 3, .inl (fa0_24))), (a0_23, .inl (ka0_23, 3, .inl (fa0_23)))] [(ka0_15, .int), (ka0_24, .int), (ka0_23, .int)] (fun _ => True))) (va_Qi (fun (r : Int32) (_ : Unit) => (r = 1) ∨ (r = 0)) (fun (_ : Unit) (t : State) => ax_B dC dI (va_A [(a0, .inr (8, [a0g_0, a0g_1, a0g_2, a0g_3, a0g_4, a0g_5, a0g_6, a0g_7, a0g_8, a0g_9, a0g_10, a0g_11, a0g_12, a0g_13, a0g_14, Value.ref a0_15, a0g_16, a0g_17, a0g_18, a0g_19, a0g_20, a0g_21, a0g_22, Value.ref a0_23, Value.ref a0_24, Value.int a0_25, a0g_26, a0g_27, a0g_28, a0g_29, a0g_30, a0g_31, a0g_32, a0g_33, a0g_34, a0g_35, a0g_36, a0g_37, a0g_38, a0g_39])), (a0_15, .inl (ka0_15, 156, .inl (fa0_15))), (a0_24, .inl (ka0_24, 3, .inl (fa0_24))), (a0_23, .inl (ka0_23, 3, .inl (fa0_23)))] sz) [(a0, .inr (8, [a0g_0, a0g_1, a0g_2, a0g_3, a0g_4, a0g_5, a0g_6, a0g_7, a0g_8, a0g_9, a0g_10, a0g_11, a0g_12, a0g_13, a0g_14, Value.ref a0_15, a0g_16, a0g_17, a0g_18, a0g_19, a0g_20, a0g_21, a0g_22, Value.ref a0_23, Value.ref a0_24, Value.int a0_25, a0g_26, a0g_27, a0g_28, a0g_29, a0g_30, a0g_31, a0g_32, a0g_33, a0g_34, a0g_35, a0g_36, a0g_37, a0g_38, a0g_39])), (a0_15, .inl (ka0_15, 156, .inl (fa0_15))), (a0_24, .inl (ka0_24, 3, .inl (fa0_24))), (a0_23, .inl (ka0_23, 3, .inl (fa0_23)))] [(ka0_15, .int), (ka0_24, .int), (ka0_23, .int)] t) (va_A [(a0, .inr (8, [a0g_0, a0g_1, a0g_2, a0g_3, a0g_4, a0g_5, a0g_6, a0g_7, a0g_8, a0g_9, a0g_10, a0g_11, a0g_12, a0g_13, a0g_14, Value.ref a0_15, a0g_16, a0g_17, a0g_18, a0g_19, a0g_20, a0g_21, a0g_22, Value.ref a0_23, Value.ref a0_24, Value.int a0_25, a0g_26, a0g_27, a0g_28, a0g_29, a0g_30, a0g_31, a0g_32, a0g_33, a0g_34, a0g_35, a0g_36, a0g_37, a0g_38, a0g_39])), (a0_15, .inl (ka0_15, 156, .inl (fa0_15))), (a0_24, .inl (ka0_24, 3, .inl (fa0_24))), (a0_23, .inl (ka0_23, 3, .inl (fa0_23)))] sz)) 0 0 (va_A [(a0, .inr (8, [a0g_0, a0g_1, a0g_2, a0g_3, a0g_4, a0g_5, a0g_6, a0g_7, a0g_8, a0g_9, a0g_10, a0g_11, a0g_12, a0g_13, a0g_14, Value.ref a0_15, a0g_16, a0g_17, a0g_18, a0g_19, a0g_20, a0g_21, a0g_22, Value.ref a0_23, Value.ref a0_24, Value.int a0_25, a0g_26, a0g_27, a0g_28, a0g_29, a0g_30, a0g_31, a0g_32, a0g_33, a0g_34, a0g_35, a0g_36, a0g_37, a0g_38, a0g_39])), (a0_15, .inl (ka0_15, 156, .inl (fa0_15))), (a0_24, .inl (ka0_24, 3, .inl (fa0_24))), (a0_23, .inl (ka0_23, 3, .inl (fa0_23)))] sz) := by
  refine Met.ofW (cc := cX8_isWatched) (maxL := 4) (ret := (some .boolean)) (by decide) rfl ?_
  intro p e s m args below meth c s₁ B hml hv
  obtain ⟨rfl, hsz, hP, hK, hD0, hE⟩ := hv
  have hx := B.exec
  have hb := B.bytes
  have hr := B.returns
  have hts := atoms_spec (ws := wsX8_isWatched) B.pre
  have hown : s.vm.findClass RX8 = some m.cls := findClass_of_methodNamed B.named
  have hlocks := B.notSynchronized
  subst hsz
  have hD := hD0.self (sz := s.heap.size)
  generalize hAe : va_A [(a0, .inr (8, [a0g_0, a0g_1, a0g_2, a0g_3, a0g_4, a0g_5, a0g_6, a0g_7, a0g_8, a0g_9, a0g_10, a0g_11, a0g_12, a0g_13, a0g_14, Value.ref a0_15, a0g_16, a0g_17, a0g_18, a0g_19, a0g_20, a0g_21, a0g_22, Value.ref a0_23, Value.ref a0_24, Value.int a0_25, a0g_26, a0g_27, a0g_28, a0g_29, a0g_30, a0g_31, a0g_32, a0g_33, a0g_34, a0g_35, a0g_36, a0g_37, a0g_38, a0g_39])), (a0_15, .inl (ka0_15, 156, .inl (fa0_15))), (a0_24, .inl (ka0_24, 3, .inl (fa0_24))), (a0_23, .inl (ka0_23, 3, .inl (fa0_23)))] s.heap.size = A at hD ⊢
  have hA : ∀ q : Nat, s.heap.size ≤ q → A q := fun q h => by rw [← hAe]; exact Or.inr h
  have hS : va_S A s.heap s.heap [] := va_S.rf
  have hP : va_P (dC, dI) vwCl [(a0, .inr (8, [a0g_0, a0g_1, a0g_2, a0g_3, a0g_4, a0g_5, a0g_6, a0g_7, a0g_8, a0g_9, a0g_10, a0g_11, a0g_12, a0g_13, a0g_14, Value.ref a0_15, a0g_16, a0g_17, a0g_18, a0g_19, a0g_20, a0g_21, a0g_22, Value.ref a0_23, Value.ref a0_24, Value.int a0_25, a0g_26, a0g_27, a0g_28, a0g_29, a0g_30, a0g_31, a0g_32, a0g_33, a0g_34, a0g_35, a0g_36, a0g_37, a0g_38, a0g_39])), (a0_15, .inl (ka0_15, 156, .inl (fa0_15))), (a0_24, .inl (ka0_24, 3, .inl (fa0_24))), (a0_23, .inl (ka0_23, 3, .inl (fa0_23)))] s.heap := hP
  have hl := lv_entry ([.ref a0, .int a1, .int a2]) (n := 4) (Nat.le_of_ble_eq_true rfl)
  rw [lg_entry_eq]
  generalize (lg_sl ([.ref a0, .int a1, .int a2]) ++ List.replicate (4 - (lg_sl ([.ref a0, .int a1, .int a2])).length) Slot.unset).toArray = ls at hl ⊢
  have hl : lv_has ls 4 [(0, .ref a0), (1, .int a1), (2, .int a2)] := hl
  refine ai_open (fun K hK0 => ?_)
  refine (hK0 _ _ _).mpr ?_
  refine lv_aload_n hx hb dX8_isWatched_0 rfl (lv_at hl 0 rfl) ?_
  refine va_get (D := (dC, dI)) (ci := 8) (v := .int a0_25) (C := RX8) (T := TX8) (N := 40) hx hb hts zi_X8_isWatched_8 hown hK hP 0 rfl rfl 25 (by decide) (hts (.fieldLink RX8 235 "WaxTurnsModel" "stood" "I") (List.mem_cons_of_mem _ (List.mem_append_left _ (List.mem_of_getElem? (i := 0) rfl)))) (fun _ h9 => h9) rfl dX8_isWatched_1 ?_
  refine lv_iload_n hx hb dX8_isWatched_4 rfl (lv_at hl 1 rfl) ?_
  obtain ⟨hPc, hDc, hFc, hCc⟩ := zc_cut (wc := []) hP hD hS hA [] (by decide +kernel) rfl
  have hKc := hK.sub (tys' := []) [] rfl
  refine va_calli (va_runS (As := [.int a0_25, .int a1]) (rest := []) ⟨hx, hb, hml, hown, hts⟩ (c_X8_hasBit l dC dI s.heap.size a0_25 a1 ) (va_cwS 2 hts gX8_isWatched_X8_hasBit rfl rfl rfl zd_X8_hasBit.2 ⟨Nat.le_of_ble_eq_true rfl, Nat.le_of_ble_eq_true rfl⟩) ⟨ax_blind (fun _ _ _ _ _ => trivial), ax_pre hPc hKc hDc (fun _ _ => trivial)⟩ rfl rfl hl.1 rfl (lv_room (Nat.le_of_ble_eq_true rfl)) dX8_isWatched_5 ⟨Nat.le_of_ble_eq_true rfl, Nat.le_of_ble_eq_true rfl⟩) hS (fun q _ h => hFc q h) hFc (fun r5 u t H locs ht hvm hw hB hz1 hk1 hS => ?_)
  obtain ⟨hP1, hK1, hD1⟩ := hB
  rw [ht] at hP1
  obtain ⟨hP, hD⟩ := zc_back (w := [(a0, .inr (8, [a0g_0, a0g_1, a0g_2, a0g_3, a0g_4, a0g_5, a0g_6, a0g_7, a0g_8, a0g_9, a0g_10, a0g_11, a0g_12, a0g_13, a0g_14, Value.ref a0_15, a0g_16, a0g_17, a0g_18, a0g_19, a0g_20, a0g_21, a0g_22, Value.ref a0_23, Value.ref a0_24, Value.int a0_25, a0g_26, a0g_27, a0g_28, a0g_29, a0g_30, a0g_31, a0g_32, a0g_33, a0g_34, a0g_35, a0g_36, a0g_37, a0g_38, a0g_39])), (a0_15, .inl (ka0_15, 156, .inl (fa0_15))), (a0_24, .inl (ka0_24, 3, .inl (fa0_24))), (a0_23, .inl (ka0_23, 3, .inl (fa0_23)))]) hP hD hCc hk1 hFc hP1 hD1 [.inl 0, .inl 1, .inl 2, .inl 3] (by decide +kernel) rfl
  rcases hw with hw | hw
  · subst hw
    refine lv_if_eq (tgt := 13) hx hb dX8_isWatched_8 (by decide) (fun c8 => absurd c8 (by decide +kernel)) (fun _ => ?_)
    refine lv_iconst (v := 1) hx hb dX8_isWatched_11 zk_iconst_1 ?_
    exact W.zret (v := 1) hx hb hr rfl (fun t ht hW => ⟨⟨1, (), rfl, (Or.inl (rfl)), by rw [ht]; exact hP, va_K.moved hW.alike hK, hD⟩, hS.F ht⟩) hS.2.2 dX8_isWatched_12
  · subst hw
    refine lv_if_eq (tgt := 13) hx hb dX8_isWatched_8 (by decide) (fun _ => ?_) (fun c8 => absurd (by decide +kernel) c8)
    refine lv_iconst (v := 0) hx hb dX8_isWatched_13 zk_iconst_0 ?_
    refine lv_istore_n (lv' := [(3, .int 0), (0, .ref a0), (1, .int a1), (2, .int a2)]) hx hb dX8_isWatched_14 rfl hl (by decide) rfl (fun ls hl => ?_)
    have J15 : ∀ (n : Nat) (j15l3 : Int32) (H : Heap) (locs : List Loc) (ls : Array Slot), (4 : Int) - j15l3.toInt ≤ (n : Int) → (0 : Int) ≤ j15l3.toInt → j15l3.toInt ≤ (3 : Int) → va_P (dC, dI) vwCl [(a0, .inr (8, [a0g_0, a0g_1, a0g_2, a0g_3, a0g_4, a0g_5, a0g_6, a0g_7, a0g_8, a0g_9, a0g_10, a0g_11, a0g_12, a0g_13, a0g_14, Value.ref a0_15, a0g_16, a0g_17, a0g_18, a0g_19, a0g_20, a0g_21, a0g_22, Value.ref a0_23, Value.ref a0_24, Value.int a0_25, a0g_26, a0g_27, a0g_28, a0g_29, a0g_30, a0g_31, a0g_32, a0g_33, a0g_34, a0g_35, a0g_36, a0g_37, a0g_38, a0g_39])), (a0_15, .inl (ka0_15, 156, .inl (fa0_15))), (a0_24, .inl (ka0_24, 3, .inl (fa0_24))), (a0_23, .inl (ka0_23, 3, .inl (fa0_23)))] H → va_D A [(a0, .inr (8, [a0g_0, a0g_1, a0g_2, a0g_3, a0g_4, a0g_5, a0g_6, a0g_7, a0g_8, a0g_9, a0g_10, a0g_11, a0g_12, a0g_13, a0g_14, Value.ref a0_15, a0g_16, a0g_17, a0g_18, a0g_19, a0g_20, a0g_21, a0g_22, Value.ref a0_23, Value.ref a0_24, Value.int a0_25, a0g_26, a0g_27, a0g_28, a0g_29, a0g_30, a0g_31, a0g_32, a0g_33, a0g_34, a0g_35, a0g_36, a0g_37, a0g_38, a0g_39])), (a0_15, .inl (ka0_15, 156, .inl (fa0_15))), (a0_24, .inl (ka0_24, 3, .inl (fa0_24))), (a0_23, .inl (ka0_23, 3, .inl (fa0_23)))] → va_S A s.heap H locs → lv_has ls 4 [(0, .ref a0), (1, .int a1), (2, .int a2), (3, .int j15l3)] → K H locs (F0 m 15 ls []) := by
      intro n
      induction n with
      | zero =>
        intro j15l3 H locs ls hm bj15l3_l bj15l3_u hP hD hS hl
        have h8 := ai_min j15l3
        have h9 := ai_max j15l3
        exact absurd hm (by omega)
      | succ n ih15 =>
        intro j15l3 H locs ls hm bj15l3_l bj15l3_u hP hD hS hl
        refine (hK0 _ _ _).mpr ?_
        have hm15 := hm
        refine lv_iload_n hx hb dX8_isWatched_15 rfl (lv_at hl 3 rfl) ?_
        refine lv_aload_n hx hb dX8_isWatched_16 rfl (lv_at hl 0 rfl) ?_
        refine va_get (D := (dC, dI)) (ci := 8) (v := .ref a0_15) (C := RX8) (T := TX8) (N := 40) hx hb hts zi_X8_isWatched_8 hown hK hP 0 rfl rfl 15 (by decide) (hts (.fieldLink RX8 20 "WaxTurnsModel" "\x72" "[I") (List.mem_cons_of_mem _ (List.mem_append_left _ (List.mem_of_getElem? (i := 1) rfl)))) (fun _ h9 => h9) rfl dX8_isWatched_17 ?_
        refine lv_iconst (v := 5) hx hb dX8_isWatched_20 zk_iconst_5 ?_
        refine va_iald hx hb hK hP 1 0 rfl rfl (by unfold vp_in; decide +kernel) dX8_isWatched_21 ?_
        refine lv_topi (fun x21 ex21 => ?_)
        have bx21 : (0 : Int) ≤ x21.toInt ∧ x21.toInt ≤ 3 := by rw [ex21]; exact ai_rd bfa0_15.2.2.2.2.2.1 zq112 zq113 (by decide) (by decide) (by decide)
        refine lv_icmp_ge (tgt := 43) hx hb dX8_isWatched_22 (by decide) (fun c22 => ?_) (fun c22 => ?_)
        · have gc22 := ai_le c22
          have u22t_x21 : x21.toInt ≤ (3 : Int) := bx21.2
          have l22t_j15l3 : (0 : Int) ≤ j15l3.toInt := bj15l3_l
          refine lv_iconst (v := 0) hx hb dX8_isWatched_43 zk_iconst_0 ?_
          exact W.zret (v := 0) hx hb hr rfl (fun t ht hW => ⟨⟨0, (), rfl, (Or.inr (rfl)), by rw [ht]; exact hP, va_K.moved hW.alike hK, hD⟩, hS.F ht⟩) hS.2.2 dX8_isWatched_44
        · have gc22 := ai_nle c22
          have u22f_j15l3 : j15l3.toInt ≤ (2 : Int) := ai_lthi gc22 bx21.2
          have l22f_x21 : (1 : Int) ≤ x21.toInt := ai_ltlo gc22 bj15l3_l
          refine lv_aload_n hx hb dX8_isWatched_25 rfl (lv_at hl 0 rfl) ?_
          refine lv_iload_n hx hb dX8_isWatched_26 rfl (lv_at hl 3 rfl) ?_
          refine lv_iload_n hx hb dX8_isWatched_27 rfl (lv_at hl 2 rfl) ?_
          obtain ⟨hPc, hDc, hFc, hCc⟩ := zc_cut (wc := [(a0, .inr (8, [a0g_0, a0g_1, a0g_2, a0g_3, a0g_4, a0g_5, a0g_6, a0g_7, a0g_8, a0g_9, a0g_10, a0g_11, a0g_12, a0g_13, a0g_14, Value.ref a0_15, a0g_16, a0g_17, a0g_18, a0g_19, a0g_20, a0g_21, a0g_22, Value.ref a0_23, Value.ref a0_24, Value.int a0_25, a0g_26, a0g_27, a0g_28, a0g_29, a0g_30, a0g_31, a0g_32, a0g_33, a0g_34, a0g_35, a0g_36, a0g_37, a0g_38, a0g_39])), (a0_24, .inl (ka0_24, 3, .inl (fa0_24))), (a0_23, .inl (ka0_23, 3, .inl (fa0_23)))]) hP hD hS hA [0, 2, 3] (by decide +kernel) rfl
          have hKc := hK.sub (tys' := [(ka0_24, .int), (ka0_23, .int)]) [1, 2] rfl
          refine va_calli (va_runV (As := [.int j15l3, .int a2]) (rest := []) ⟨hx, hb, hml, hown, hts⟩ (c_X8_watcherAt l dC dI H.size a0 j15l3 a2 a0g_0 a0g_1 a0g_2 a0g_3 a0g_4 a0g_5 a0g_6 a0g_7 a0g_8 a0g_9 a0g_10 a0g_11 a0g_12 a0g_13 a0g_14 (Value.ref a0_15) a0g_16 a0g_17 a0g_18 a0g_19 a0g_20 a0g_21 a0g_22 (Value.int a0_25) a0g_26 a0g_27 a0g_28 a0g_29 a0g_30 a0g_31 a0g_32 a0g_33 a0g_34 a0g_35 a0g_36 a0g_37 a0g_38 a0g_39 a0_23 a0_24 ka0_24 fa0_24 ka0_23 fa0_23 bj15l3_l u22f_j15l3 bfa0_24 bfa0_23) (cwV 2 hts gX8_isWatched_X8_watcherAt rfl rfl rfl zd_X8_watcherAt ⟨Nat.le_of_ble_eq_true rfl, Nat.le_of_ble_eq_true rfl⟩) ⟨ax_blind (fun _ _ _ _ _ => trivial), zr_8 hKc hPc (q0 := 0) rfl, ax_pre hPc hKc hDc (fun _ _ => trivial)⟩ rfl rfl hl.1 rfl (lv_room (Nat.le_of_ble_eq_true rfl)) dX8_isWatched_28 ⟨Nat.le_of_ble_eq_true rfl, Nat.le_of_ble_eq_true rfl⟩) hS (fun q _ h => hFc q h) hFc (fun r28 u t H locs ht hvm hw hB hz1 hk1 hS => ?_)
          obtain ⟨hP1, hK1, hD1⟩ := hB
          rw [ht] at hP1
          obtain ⟨hP, hD⟩ := zc_back (w := [(a0, .inr (8, [a0g_0, a0g_1, a0g_2, a0g_3, a0g_4, a0g_5, a0g_6, a0g_7, a0g_8, a0g_9, a0g_10, a0g_11, a0g_12, a0g_13, a0g_14, Value.ref a0_15, a0g_16, a0g_17, a0g_18, a0g_19, a0g_20, a0g_21, a0g_22, Value.ref a0_23, Value.ref a0_24, Value.int a0_25, a0g_26, a0g_27, a0g_28, a0g_29, a0g_30, a0g_31, a0g_32, a0g_33, a0g_34, a0g_35, a0g_36, a0g_37, a0g_38, a0g_39])), (a0_15, .inl (ka0_15, 156, .inl (fa0_15))), (a0_24, .inl (ka0_24, 3, .inl (fa0_24))), (a0_23, .inl (ka0_23, 3, .inl (fa0_23)))]) hP hD hCc hk1 hFc hP1 hD1 [.inr 0, .inl 1, .inr 1, .inr 2] (by decide +kernel) rfl
          refine lv_iload_n hx hb dX8_isWatched_31 rfl (lv_at hl 1 rfl) ?_
          refine lv_icmp_ne (tgt := 37) hx hb dX8_isWatched_32 (by decide) (fun c32 => ?_) (fun c32 => ?_)
          · have gc32 := ai_ne c32
            obtain ⟨x37, ex37⟩ : ∃ y : Int32, y = j15l3 + Int32.ofInt 1 := ⟨_, rfl⟩
            have qx37 : x37.toInt = j15l3.toInt + 1 := ai_inc ex37 (by decide) (by decide) u22f_j15l3 (by decide)
            have bx37 : (1 : Int) ≤ x37.toInt ∧ x37.toInt ≤ 3 := ⟨by rw [qx37]; exact Int.add_le_add bj15l3_l (Int.le_refl _), by rw [qx37]; exact Int.add_le_add u22f_j15l3 (Int.le_refl _)⟩
            refine lv_iinc (v := x37) (lv' := [(3, .int x37), (0, .ref a0), (1, .int a1), (2, .int a2)]) hx hb dX8_isWatched_37 hl (k := 3) rfl ex37.symm (by decide) rfl (fun ls hl => ?_)
            refine lv_goto (tgt := 15) hx hb dX8_isWatched_40 (by decide) ?_
            exact (hK0 _ _ _).mp (ih15 x37 _ _ _ (by have h0 := qx37; omega) (Int.le_trans zq4 bx37.1) bx37.2 hP hD hS (lv_sub hl [1, 2, 3, 0] rfl))
          · have gc32 := ai_eq c32
            refine lv_iconst (v := 1) hx hb dX8_isWatched_35 zk_iconst_1 ?_
            exact W.zret (v := 1) hx hb hr rfl (fun t ht hW => ⟨⟨1, (), rfl, (Or.inl (rfl)), by rw [ht]; exact hP, va_K.moved hW.alike hK, hD⟩, hS.F ht⟩) hS.2.2 dX8_isWatched_36
    exact (hK0 _ _ _).mp (J15 4 0 _ _ _ (by have h1 : (0 : Int) ≤ (0 : Int32).toInt := zq5; have h2 : (0 : Int32).toInt ≤ (0 : Int) := zq6; omega) zq5 (Int.le_trans zq6 zq11) hP hD hS (lv_sub hl [1, 2, 3, 0] rfl))

set_option maxHeartbeats 4000000 in
set_option maxRecDepth 100000 in
theorem c_X8_nextOf (l : Launch) (dC : Nat → ClassId) (dI : Nat → Nat → Nat) (sz : Nat) (a0 : Nat) (a1 : Int32) (a0g_0 a0g_1 a0g_2 a0g_3 a0g_4 a0g_5 a0g_6 a0g_7 a0g_8 a0g_9 a0g_10 a0g_11 a0g_12 a0g_13 a0g_14 a0g_16 a0g_17 a0g_18 a0g_19 a0g_20 a0g_21 a0g_22 a0g_23 a0g_24 a0g_25 a0g_26 a0g_27 a0g_28 a0g_29 a0g_30 a0g_31 a0g_32 a0g_33 a0g_34 a0g_35 a0g_36 a0g_37 a0g_38 a0g_39 : Value) (a0_15 : Nat) (ka0_15 : ClassId) (fa0_15 : Nat → Int32) (ba1_l : (0 : Int) ≤ a1.toInt) (ba1_u : a1.toInt ≤ (8 : Int)) (bfa0_15 : ((∀ k : Nat, 0 ≤ k → k ≤ 0 → (2 : Int) ≤ (fa0_15 k).toInt ∧ (fa0_15 k).toInt ≤ 9) ∧ (∀ k : Nat, 1 ≤ k → k ≤ 1 → (1 : Int) ≤ (fa0_15 k).toInt ∧ (fa0_15 k).toInt ≤ 20) ∧ (∀ k : Nat, 2 ≤ k → k ≤ 2 → (0 : Int) ≤ (fa0_15 k).toInt ∧ (fa0_15 k).toInt ≤ 8) ∧ (∀ k : Nat, 3 ≤ k → k ≤ 3 → (0 : Int) ≤ (fa0_15 k).toInt ∧ (fa0_15 k).toInt ≤ 100) ∧ (∀ k : Nat, 4 ≤ k → k ≤ 4 → (0 : Int) ≤ (fa0_15 k).toInt ∧ (fa0_15 k).toInt ≤ 9) ∧ (∀ k : Nat, 5 ≤ k → k ≤ 5 → (0 : Int) ≤ (fa0_15 k).toInt ∧ (fa0_15 k).toInt ≤ 3) ∧ (∀ k : Nat, 6 ≤ k → k ≤ 6 → (0 : Int) ≤ (fa0_15 k).toInt ∧ (fa0_15 k).toInt ≤ 6) ∧ (∀ k : Nat, 7 ≤ k → k ≤ 9 → (0 : Int) ≤ (fa0_15 k).toInt ∧ (fa0_15 k).toInt ≤ 8) ∧ (∀ k : Nat, 12 ≤ k → k ≤ 29 → (0 : Int) ≤ (fa0_15 k).toInt ∧ (fa0_15 k).toInt ≤ 20) ∧ (∀ k : Nat, 30 ≤ k → k ≤ 35 → (0 : Int) ≤ (fa0_15 k).toInt ∧ (fa0_15 k).toInt ≤ 8) ∧ (∀ k : Nat, 36 ≤ k → k ≤ 47 → (0 : Int) ≤ (fa0_15 k).toInt ∧ (fa0_15 k).toInt ≤ 999))) : Met l yX8_nextOf wsX8_nextOf ({ frames := 0, cells := 0, slots := 0, locals := 0 }) (va_Pc [.ref a0, .int a1] (ax_C dC dI sz [(a0, .inr (8, [a0g_0, a0g_1, a0g_2, a0g_3, a0g_4, a0g_5, a0g_6, a0g_7, a0g_8, a0g_9, a0g_10, a0g_11, a0g_12, a0g_13, a0g_14, Value.ref a0_15, a0g_16, a0g_17, a0g_18, a0g_19, a0g_20, a0g_21, a0g_22, a0g_23, a0g_24, a0g_25, a0g_26, a0g_27, a0g_28, a0g_29, a0g_30, a0g_31, a0g_32, a0g_33, a0g_34, a0g_35, a0g_36, a0g_37, a0g_38, a0g_39])), (a0_15, .inl (ka0_15, 156, .inl (fa0_15)))] [(ka0_15, .int)] (fun _ => True))) (va_Qi (fun (r : Int32) (_ : Unit) => (0 : Int) ≤ r.toInt ∧ r.toInt ≤ (8 : Int)) (fun (_ : Unit) (t : State) => ax_B dC dI (va_A [(a0, .inr (8, [a0g_0, a0g_1, a0g_2, a0g_3, a0g_4, a0g_5, a0g_6, a0g_7, a0g_8, a0g_9, a0g_10, a0g_11, a0g_12, a0g_13, a0g_14, Value.ref a0_15, a0g_16, a0g_17, a0g_18, a0g_19, a0g_20, a0g_21, a0g_22, a0g_23, a0g_24, a0g_25, a0g_26, a0g_27, a0g_28, a0g_29, a0g_30, a0g_31, a0g_32, a0g_33, a0g_34, a0g_35, a0g_36, a0g_37, a0g_38, a0g_39])), (a0_15, .inl (ka0_15, 156, .inl (fa0_15)))] sz) [(a0, .inr (8, [a0g_0, a0g_1, a0g_2, a0g_3, a0g_4, a0g_5, a0g_6, a0g_7, a0g_8, a0g_9, a0g_10, a0g_11, a0g_12, a0g_13, a0g_14, Value.ref a0_15, a0g_16, a0g_17, a0g_18, a0g_19, a0g_20, a0g_21, a0g_22, a0g_23, a0g_24, a0g_25, a0g_26, a0g_27, a0g_28, a0g_29, a0g_30, a0g_31, a0g_32, a0g_33, a0g_34, a0g_35, a0g_36, a0g_37, a0g_38, a0g_39])), (a0_15, .inl (ka0_15, 156, .inl (fa0_15)))] [(ka0_15, .int)] t) (va_A [(a0, .inr (8, [a0g_0, a0g_1, a0g_2, a0g_3, a0g_4, a0g_5, a0g_6, a0g_7, a0g_8, a0g_9, a0g_10, a0g_11, a0g_12, a0g_13, a0g_14, Value.ref a0_15, a0g_16, a0g_17, a0g_18, a0g_19, a0g_20, a0g_21, a0g_22, a0g_23, a0g_24, a0g_25, a0g_26, a0g_27, a0g_28, a0g_29, a0g_30, a0g_31, a0g_32, a0g_33, a0g_34, a0g_35, a0g_36, a0g_37, a0g_38, a0g_39])), (a0_15, .inl (ka0_15, 156, .inl (fa0_15)))] sz)) 0 0 (va_A [(a0, .inr (8, [a0g_0, a0g_1, a0g_2, a0g_3, a0g_4, a0g_5, a0g_6, a0g_7, a0g_8, a0g_9, a0g_10, a0g_11, a0g_12, a0g_13, a0g_14, Value.ref a0_15, a0g_16, a0g_17, a0g_18, a0g_19, a0g_20, a0g_21, a0g_22, a0g_23, a0g_24, a0g_25, a0g_26, a0g_27, a0g_28, a0g_29, a0g_30, a0g_31, a0g_32, a0g_33, a0g_34, a0g_35, a0g_36, a0g_37, a0g_38, a0g_39])), (a0_15, .inl (ka0_15, 156, .inl (fa0_15)))] sz) := by
  refine Met.ofW (cc := cX8_nextOf) (maxL := 2) (ret := (some .int)) (by decide) rfl ?_
  intro p e s m args below meth c s₁ B hml hv
  obtain ⟨rfl, hsz, hP, hK, hD0, hE⟩ := hv
  have hx := B.exec
  have hb := B.bytes
  have hr := B.returns
  have hts := atoms_spec (ws := wsX8_nextOf) B.pre
  have hown : s.vm.findClass RX8 = some m.cls := findClass_of_methodNamed B.named
  have hlocks := B.notSynchronized
  subst hsz
  have hD := hD0.self (sz := s.heap.size)
  generalize hAe : va_A [(a0, .inr (8, [a0g_0, a0g_1, a0g_2, a0g_3, a0g_4, a0g_5, a0g_6, a0g_7, a0g_8, a0g_9, a0g_10, a0g_11, a0g_12, a0g_13, a0g_14, Value.ref a0_15, a0g_16, a0g_17, a0g_18, a0g_19, a0g_20, a0g_21, a0g_22, a0g_23, a0g_24, a0g_25, a0g_26, a0g_27, a0g_28, a0g_29, a0g_30, a0g_31, a0g_32, a0g_33, a0g_34, a0g_35, a0g_36, a0g_37, a0g_38, a0g_39])), (a0_15, .inl (ka0_15, 156, .inl (fa0_15)))] s.heap.size = A at hD ⊢
  have hA : ∀ q : Nat, s.heap.size ≤ q → A q := fun q h => by rw [← hAe]; exact Or.inr h
  have hS : va_S A s.heap s.heap [] := va_S.rf
  have hP : va_P (dC, dI) vwCl [(a0, .inr (8, [a0g_0, a0g_1, a0g_2, a0g_3, a0g_4, a0g_5, a0g_6, a0g_7, a0g_8, a0g_9, a0g_10, a0g_11, a0g_12, a0g_13, a0g_14, Value.ref a0_15, a0g_16, a0g_17, a0g_18, a0g_19, a0g_20, a0g_21, a0g_22, a0g_23, a0g_24, a0g_25, a0g_26, a0g_27, a0g_28, a0g_29, a0g_30, a0g_31, a0g_32, a0g_33, a0g_34, a0g_35, a0g_36, a0g_37, a0g_38, a0g_39])), (a0_15, .inl (ka0_15, 156, .inl (fa0_15)))] s.heap := hP
  have hl := lv_entry ([.ref a0, .int a1]) (n := 2) (Nat.le_of_ble_eq_true rfl)
  rw [lg_entry_eq]
  generalize (lg_sl ([.ref a0, .int a1]) ++ List.replicate (2 - (lg_sl ([.ref a0, .int a1])).length) Slot.unset).toArray = ls at hl ⊢
  have hl : lv_has ls 2 [(0, .ref a0), (1, .int a1)] := hl
  refine lv_aload_n hx hb dX8_nextOf_0 rfl (lv_at hl 0 rfl) ?_
  refine va_get (D := (dC, dI)) (ci := 8) (v := .ref a0_15) (C := RX8) (T := TX8) (N := 40) hx hb hts zi_X8_nextOf_8 hown hK hP 0 rfl rfl 15 (by decide) (hts (.fieldLink RX8 20 "WaxTurnsModel" "\x72" "[I") (List.mem_cons_of_mem _ (List.mem_append_left _ (List.mem_of_getElem? (i := 0) rfl)))) (fun _ h9 => h9) rfl dX8_nextOf_1 ?_
  refine lv_bipush (v := 7) hx hb dX8_nextOf_4 zk_bipush_7 ?_
  refine va_iald hx hb hK hP 1 0 rfl rfl (by unfold vp_in; decide +kernel) dX8_nextOf_6 ?_
  refine lv_topi (fun x6 ex6 => ?_)
  have bx6 : (0 : Int) ≤ x6.toInt ∧ x6.toInt ≤ 8 := by rw [ex6]; exact ai_rd bfa0_15.2.2.2.2.2.2.2.1 zq114 zq115 (by decide) (by decide) (by decide)
  refine lv_iload_n hx hb dX8_nextOf_7 rfl (lv_at hl 1 rfl) ?_
  refine lv_imul hx hb dX8_nextOf_8 ?_
  refine lv_topi (fun x8 ex8 => ?_)
  have qx8 : x8.toInt = x6.toInt * a1.toInt ∧ (0 : Int) ≤ x8.toInt ∧ x8.toInt ≤ 64 := ai_mul ex8 ⟨bx6.1, bx6.2⟩ ⟨ba1_l, ba1_u⟩ (by decide) (by decide) zq18
  refine lv_aload_n hx hb dX8_nextOf_9 rfl (lv_at hl 0 rfl) ?_
  refine va_get (D := (dC, dI)) (ci := 8) (v := .ref a0_15) (C := RX8) (T := TX8) (N := 40) hx hb hts zi_X8_nextOf_8 hown hK hP 0 rfl rfl 15 (by decide) (hts (.fieldLink RX8 20 "WaxTurnsModel" "\x72" "[I") (List.mem_cons_of_mem _ (List.mem_append_left _ (List.mem_of_getElem? (i := 0) rfl)))) (fun _ h9 => h9) rfl dX8_nextOf_10 ?_
  refine lv_bipush (v := 8) hx hb dX8_nextOf_13 zk_bipush_8 ?_
  refine va_iald hx hb hK hP 1 0 rfl rfl (by unfold vp_in; decide +kernel) dX8_nextOf_15 ?_
  refine lv_topi (fun x15 ex15 => ?_)
  have bx15 : (0 : Int) ≤ x15.toInt ∧ x15.toInt ≤ 8 := by rw [ex15]; exact ai_rd bfa0_15.2.2.2.2.2.2.2.1 zq116 zq28 (by decide) (by decide) (by decide)
  refine lv_iadd hx hb dX8_nextOf_16 ?_
  refine lv_topi (fun x16 ex16 => ?_)
  have qx16 : x16.toInt = x8.toInt + x15.toInt := ai_add ex16 ⟨qx8.2.1, qx8.2.2⟩ ⟨bx15.1, bx15.2⟩ (by decide) (by decide)
  have bx16 : (0 : Int) ≤ x16.toInt ∧ x16.toInt ≤ 72 := ⟨by rw [qx16]; exact Int.add_le_add qx8.2.1 bx15.1, by rw [qx16]; exact Int.add_le_add qx8.2.2 bx15.2⟩
  refine lv_aload_n hx hb dX8_nextOf_17 rfl (lv_at hl 0 rfl) ?_
  refine va_get (D := (dC, dI)) (ci := 8) (v := .ref a0_15) (C := RX8) (T := TX8) (N := 40) hx hb hts zi_X8_nextOf_8 hown hK hP 0 rfl rfl 15 (by decide) (hts (.fieldLink RX8 20 "WaxTurnsModel" "\x72" "[I") (List.mem_cons_of_mem _ (List.mem_append_left _ (List.mem_of_getElem? (i := 0) rfl)))) (fun _ h9 => h9) rfl dX8_nextOf_18 ?_
  refine lv_iconst (v := 0) hx hb dX8_nextOf_21 zk_iconst_0 ?_
  refine va_iald hx hb hK hP 1 0 rfl rfl (by unfold vp_in; decide +kernel) dX8_nextOf_22 ?_
  refine lv_topi (fun x22 ex22 => ?_)
  have bx22 : (2 : Int) ≤ x22.toInt ∧ x22.toInt ≤ 9 := by rw [ex22]; exact ai_rd bfa0_15.1 zq5 zq6 (by decide) (by decide) (by decide)
  refine lv_irem hx hb dX8_nextOf_23 (ai_nz bx22.1 (by decide)) ?_
  refine lv_topi (fun x23 ex23 => ?_)
  have qx23 := ai_rem2 ex23 bx16.1 (Int.lt_of_lt_of_le zq100 bx22.1) bx22.2
  exact W.iret (v := x23) hx hb hr (fun t ht hW => ⟨⟨x23, (), rfl, ⟨qx23.2.1, qx23.2.2⟩, by rw [ht]; exact hP, va_K.moved hW.alike hK, hD⟩, hS.F ht⟩) hS.2.2 dX8_nextOf_24

set_option maxHeartbeats 4000000 in
set_option maxRecDepth 100000 in
theorem c_X8_walkOn (l : Launch) (dC : Nat → ClassId) (dI : Nat → Nat → Nat) (sz : Nat) (a0 : Nat) (a1 : Nat) (a2 : Int32) (a0g_0 a0g_1 a0g_2 a0g_3 a0g_4 a0g_5 a0g_6 a0g_7 a0g_8 a0g_9 a0g_10 a0g_11 a0g_12 a0g_13 a0g_14 a0g_16 a0g_17 a0g_18 a0g_19 a0g_20 a0g_21 a0g_22 a0g_26 a0g_27 a0g_28 a0g_29 a0g_30 a0g_31 a0g_32 a0g_33 a0g_34 a0g_35 a0g_36 a0g_37 a0g_38 a0g_39 : Value) (a0_15 : Nat) (a0_23 : Nat) (a0_24 : Nat) (a0_25 : Int32) (ka1 : ClassId) (fa1 : Nat → Int32) (ka0_15 : ClassId) (fa0_15 : Nat → Int32) (ka0_24 : ClassId) (fa0_24 : Nat → Int32) (ka0_23 : ClassId) (fa0_23 : Nat → Int32) (ba2_l : (0 : Int) ≤ a2.toInt) (ba2_u : a2.toInt ≤ (8 : Int)) (bfa1 : ((∀ k : Nat, 0 ≤ k → k ≤ 8 → (0 : Int) ≤ (fa1 k).toInt ∧ (fa1 k).toInt ≤ 8) ∧ (∀ k : Nat, 19 ≤ k → k ≤ 19 → (0 : Int) ≤ (fa1 k).toInt ∧ (fa1 k).toInt ≤ 8) ∧ (∀ k : Nat, 20 ≤ k → k ≤ 20 → (0 : Int) ≤ (fa1 k).toInt ∧ (fa1 k).toInt ≤ 19))) (bfa0_15 : ((∀ k : Nat, 0 ≤ k → k ≤ 0 → (2 : Int) ≤ (fa0_15 k).toInt ∧ (fa0_15 k).toInt ≤ 9) ∧ (∀ k : Nat, 1 ≤ k → k ≤ 1 → (1 : Int) ≤ (fa0_15 k).toInt ∧ (fa0_15 k).toInt ≤ 20) ∧ (∀ k : Nat, 2 ≤ k → k ≤ 2 → (0 : Int) ≤ (fa0_15 k).toInt ∧ (fa0_15 k).toInt ≤ 8) ∧ (∀ k : Nat, 3 ≤ k → k ≤ 3 → (0 : Int) ≤ (fa0_15 k).toInt ∧ (fa0_15 k).toInt ≤ 100) ∧ (∀ k : Nat, 4 ≤ k → k ≤ 4 → (0 : Int) ≤ (fa0_15 k).toInt ∧ (fa0_15 k).toInt ≤ 9) ∧ (∀ k : Nat, 5 ≤ k → k ≤ 5 → (0 : Int) ≤ (fa0_15 k).toInt ∧ (fa0_15 k).toInt ≤ 3) ∧ (∀ k : Nat, 6 ≤ k → k ≤ 6 → (0 : Int) ≤ (fa0_15 k).toInt ∧ (fa0_15 k).toInt ≤ 6) ∧ (∀ k : Nat, 7 ≤ k → k ≤ 9 → (0 : Int) ≤ (fa0_15 k).toInt ∧ (fa0_15 k).toInt ≤ 8) ∧ (∀ k : Nat, 12 ≤ k → k ≤ 29 → (0 : Int) ≤ (fa0_15 k).toInt ∧ (fa0_15 k).toInt ≤ 20) ∧ (∀ k : Nat, 30 ≤ k → k ≤ 35 → (0 : Int) ≤ (fa0_15 k).toInt ∧ (fa0_15 k).toInt ≤ 8) ∧ (∀ k : Nat, 36 ≤ k → k ≤ 47 → (0 : Int) ≤ (fa0_15 k).toInt ∧ (fa0_15 k).toInt ≤ 999))) (bfa0_24 : (∀ k, (0 : Int) ≤ (fa0_24 k).toInt ∧ (fa0_24 k).toInt ≤ 80)) (bfa0_23 : (∀ k, (0 : Int) ≤ (fa0_23 k).toInt ∧ (fa0_23 k).toInt ≤ 80)) (hkm : ∀ i : Int32, i.toInt = 13 + 2 * a2.toInt → (1 : Int) ≤ (fa0_15 i.toNatClampNeg).toInt) : Met l yX8_walkOn wsX8_walkOn ({ frames := 2, cells := 0, slots := 0, locals := 48 }) (va_Pc [.ref a0, .ref a1, .int a2] (ax_C dC dI sz [(a0, .inr (8, [a0g_0, a0g_1, a0g_2, a0g_3, a0g_4, a0g_5, a0g_6, a0g_7, a0g_8, a0g_9, a0g_10, a0g_11, a0g_12, a0g_13, a0g_14, Value.ref a0_15, a0g_16, a0g_17, a0g_18, a0g_19, a0g_20, a0g_21, a0g_22, Value.ref a0_23, Value.ref a0_24, Value.int a0_25, a0g_26, a0g_27, a0g_28, a0g_29, a0g_30, a0g_31, a0g_32, a0g_33, a0g_34, a0g_35, a0g_36, a0g_37, a0g_38, a0g_39])), (a1, .inl (ka1, 23, .inl (fa1))), (a0_15, .inl (ka0_15, 156, .inl (fa0_15))), (a0_24, .inl (ka0_24, 3, .inl (fa0_24))), (a0_23, .inl (ka0_23, 3, .inl (fa0_23)))] [(ka1, .int), (ka0_15, .int), (ka0_24, .int), (ka0_23, .int)] (fun _ => True))) (va_Qv (fun (_ : Unit) => True) (fun (_ : Unit) (t : State) => ∃ nfa1 : Nat → Int32, ((∀ k : Nat, 0 ≤ k → k ≤ 8 → (0 : Int) ≤ (nfa1 k).toInt ∧ (nfa1 k).toInt ≤ 8) ∧ (∀ k : Nat, 19 ≤ k → k ≤ 19 → (0 : Int) ≤ (nfa1 k).toInt ∧ (nfa1 k).toInt ≤ 8) ∧ (∀ k : Nat, 20 ≤ k → k ≤ 20 → (0 : Int) ≤ (nfa1 k).toInt ∧ (nfa1 k).toInt ≤ 19)) ∧ ax_B dC dI (va_A [(a0, .inr (8, [a0g_0, a0g_1, a0g_2, a0g_3, a0g_4, a0g_5, a0g_6, a0g_7, a0g_8, a0g_9, a0g_10, a0g_11, a0g_12, a0g_13, a0g_14, Value.ref a0_15, a0g_16, a0g_17, a0g_18, a0g_19, a0g_20, a0g_21, a0g_22, Value.ref a0_23, Value.ref a0_24, Value.int a0_25, a0g_26, a0g_27, a0g_28, a0g_29, a0g_30, a0g_31, a0g_32, a0g_33, a0g_34, a0g_35, a0g_36, a0g_37, a0g_38, a0g_39])), (a1, .inl (ka1, 23, .inl (fa1))), (a0_15, .inl (ka0_15, 156, .inl (fa0_15))), (a0_24, .inl (ka0_24, 3, .inl (fa0_24))), (a0_23, .inl (ka0_23, 3, .inl (fa0_23)))] sz) [(a0, .inr (8, [a0g_0, a0g_1, a0g_2, a0g_3, a0g_4, a0g_5, a0g_6, a0g_7, a0g_8, a0g_9, a0g_10, a0g_11, a0g_12, a0g_13, a0g_14, Value.ref a0_15, a0g_16, a0g_17, a0g_18, a0g_19, a0g_20, a0g_21, a0g_22, Value.ref a0_23, Value.ref a0_24, Value.int a0_25, a0g_26, a0g_27, a0g_28, a0g_29, a0g_30, a0g_31, a0g_32, a0g_33, a0g_34, a0g_35, a0g_36, a0g_37, a0g_38, a0g_39])), (a1, .inl (ka1, 23, .inl (nfa1))), (a0_15, .inl (ka0_15, 156, .inl (fa0_15))), (a0_24, .inl (ka0_24, 3, .inl (fa0_24))), (a0_23, .inl (ka0_23, 3, .inl (fa0_23)))] [(ka1, .int), (ka0_15, .int), (ka0_24, .int), (ka0_23, .int)] t) (va_A [(a0, .inr (8, [a0g_0, a0g_1, a0g_2, a0g_3, a0g_4, a0g_5, a0g_6, a0g_7, a0g_8, a0g_9, a0g_10, a0g_11, a0g_12, a0g_13, a0g_14, Value.ref a0_15, a0g_16, a0g_17, a0g_18, a0g_19, a0g_20, a0g_21, a0g_22, Value.ref a0_23, Value.ref a0_24, Value.int a0_25, a0g_26, a0g_27, a0g_28, a0g_29, a0g_30, a0g_31, a0g_32, a0g_33, a0g_34, a0g_35, a0g_36, a0g_37, a0g_38, a0g_39])), (a1, .inl (ka1, 23, .inl (fa1))), (a0_15, .inl (ka0_15, 156, .inl (fa0_15))), (a0_24, .inl (ka0_24, 3, .inl (fa0_24))), (a0_23, .inl (ka0_23, 3, .inl (fa0_23)))] sz)) 0 0 (va_A [(a0, .inr (8, [a0g_0, a0g_1, a0g_2, a0g_3, a0g_4, a0g_5, a0g_6, a0g_7, a0g_8, a0g_9, a0g_10, a0g_11, a0g_12, a0g_13, a0g_14, Value.ref a0_15, a0g_16, a0g_17, a0g_18, a0g_19, a0g_20, a0g_21, a0g_22, Value.ref a0_23, Value.ref a0_24, Value.int a0_25, a0g_26, a0g_27, a0g_28, a0g_29, a0g_30, a0g_31, a0g_32, a0g_33, a0g_34, a0g_35, a0g_36, a0g_37, a0g_38, a0g_39])), (a1, .inl (ka1, 23, .inl (fa1))), (a0_15, .inl (ka0_15, 156, .inl (fa0_15))), (a0_24, .inl (ka0_24, 3, .inl (fa0_24))), (a0_23, .inl (ka0_23, 3, .inl (fa0_23)))] sz) := by
  refine Met.ofW (cc := cX8_walkOn) (maxL := 3) (ret := none) (by decide) rfl ?_
  intro p e s m args below meth c s₁ B hml hv
  obtain ⟨rfl, hsz, hP, hK, hD0, hE⟩ := hv
  have hx := B.exec
  have hb := B.bytes
  have hr := B.returns
  have hts := atoms_spec (ws := wsX8_walkOn) B.pre
  have hown : s.vm.findClass RX8 = some m.cls := findClass_of_methodNamed B.named
  have hlocks := B.notSynchronized
  subst hsz
  have hD := hD0.self (sz := s.heap.size)
  generalize hAe : va_A [(a0, .inr (8, [a0g_0, a0g_1, a0g_2, a0g_3, a0g_4, a0g_5, a0g_6, a0g_7, a0g_8, a0g_9, a0g_10, a0g_11, a0g_12, a0g_13, a0g_14, Value.ref a0_15, a0g_16, a0g_17, a0g_18, a0g_19, a0g_20, a0g_21, a0g_22, Value.ref a0_23, Value.ref a0_24, Value.int a0_25, a0g_26, a0g_27, a0g_28, a0g_29, a0g_30, a0g_31, a0g_32, a0g_33, a0g_34, a0g_35, a0g_36, a0g_37, a0g_38, a0g_39])), (a1, .inl (ka1, 23, .inl (fa1))), (a0_15, .inl (ka0_15, 156, .inl (fa0_15))), (a0_24, .inl (ka0_24, 3, .inl (fa0_24))), (a0_23, .inl (ka0_23, 3, .inl (fa0_23)))] s.heap.size = A at hD ⊢
  have hA : ∀ q : Nat, s.heap.size ≤ q → A q := fun q h => by rw [← hAe]; exact Or.inr h
  have hS : va_S A s.heap s.heap [] := va_S.rf
  have hP : va_P (dC, dI) vwCl [(a0, .inr (8, [a0g_0, a0g_1, a0g_2, a0g_3, a0g_4, a0g_5, a0g_6, a0g_7, a0g_8, a0g_9, a0g_10, a0g_11, a0g_12, a0g_13, a0g_14, Value.ref a0_15, a0g_16, a0g_17, a0g_18, a0g_19, a0g_20, a0g_21, a0g_22, Value.ref a0_23, Value.ref a0_24, Value.int a0_25, a0g_26, a0g_27, a0g_28, a0g_29, a0g_30, a0g_31, a0g_32, a0g_33, a0g_34, a0g_35, a0g_36, a0g_37, a0g_38, a0g_39])), (a1, .inl (ka1, 23, .inl (fa1))), (a0_15, .inl (ka0_15, 156, .inl (fa0_15))), (a0_24, .inl (ka0_24, 3, .inl (fa0_24))), (a0_23, .inl (ka0_23, 3, .inl (fa0_23)))] s.heap := hP
  have hl := lv_entry ([.ref a0, .ref a1, .int a2]) (n := 3) (Nat.le_of_ble_eq_true rfl)
  rw [lg_entry_eq]
  generalize (lg_sl ([.ref a0, .ref a1, .int a2]) ++ List.replicate (3 - (lg_sl ([.ref a0, .ref a1, .int a2])).length) Slot.unset).toArray = ls at hl ⊢
  have hl : lv_has ls 3 [(0, .ref a0), (1, .ref a1), (2, .int a2)] := hl
  refine lv_aload_n hx hb dX8_walkOn_0 rfl (lv_at hl 1 rfl) ?_
  refine lv_bipush (v := 20) hx hb dX8_walkOn_1 zk_bipush_20 ?_
  refine va_iald hx hb hK hP 1 0 rfl rfl (by unfold vp_in; decide +kernel) dX8_walkOn_3 ?_
  refine lv_topi (fun x3 ex3 => ?_)
  have bx3 : (0 : Int) ≤ x3.toInt ∧ x3.toInt ≤ 19 := by rw [ex3]; exact ai_rd bfa1.2.2 zq153 zq154 (by decide) (by decide) (by decide)
  refine lv_iconst (v := 1) hx hb dX8_walkOn_4 zk_iconst_1 ?_
  refine lv_iadd hx hb dX8_walkOn_5 ?_
  refine lv_topi (fun x5 ex5 => ?_)
  have qx5 : x5.toInt = x3.toInt + (1 : Int32).toInt := ai_add ex5 ⟨bx3.1, bx3.2⟩ ⟨zq1, zq0⟩ (by decide) (by decide)
  have bx5 : (1 : Int) ≤ x5.toInt ∧ x5.toInt ≤ 20 := ⟨by rw [qx5]; exact Int.add_le_add bx3.1 zq1, by rw [qx5]; exact Int.add_le_add bx3.2 zq0⟩
  have wx5 : x5.toInt = x3.toInt + 1 := qx5
  refine lv_aload_n hx hb dX8_walkOn_6 rfl (lv_at hl 0 rfl) ?_
  refine va_get (D := (dC, dI)) (ci := 8) (v := .ref a0_15) (C := RX8) (T := TX8) (N := 40) hx hb hts zi_X8_walkOn_8 hown hK hP 0 rfl rfl 15 (by decide) (hts (.fieldLink RX8 20 "WaxTurnsModel" "\x72" "[I") (List.mem_cons_of_mem _ (List.mem_append_left _ (List.mem_of_getElem? (i := 0) rfl)))) (fun _ h9 => h9) rfl dX8_walkOn_7 ?_
  refine lv_bipush (v := 12) hx hb dX8_walkOn_10 zk_bipush_12 ?_
  refine lv_iconst (v := 2) hx hb dX8_walkOn_12 zk_iconst_2 ?_
  refine lv_iload_n hx hb dX8_walkOn_13 rfl (lv_at hl 2 rfl) ?_
  refine lv_imul hx hb dX8_walkOn_14 ?_
  refine lv_topi (fun x14 ex14 => ?_)
  have qx14 : x14.toInt = (2 : Int32).toInt * a2.toInt ∧ (0 : Int) ≤ x14.toInt ∧ x14.toInt ≤ 16 := ai_mul ex14 ⟨zq12, zq13⟩ ⟨ba2_l, ba2_u⟩ (by decide) (by decide) zq155
  have wx14 : x14.toInt = 2 * a2.toInt := qx14.1
  refine lv_iadd hx hb dX8_walkOn_15 ?_
  refine lv_topi (fun x15 ex15 => ?_)
  have qx15 : x15.toInt = (12 : Int32).toInt + x14.toInt := ai_add ex15 ⟨zq119, zq120⟩ ⟨qx14.2.1, qx14.2.2⟩ (by decide) (by decide)
  have bx15 : (12 : Int) ≤ x15.toInt ∧ x15.toInt ≤ 28 := ⟨by rw [qx15]; exact Int.add_le_add zq119 qx14.2.1, by rw [qx15]; exact Int.add_le_add zq120 qx14.2.2⟩
  have wx15 : x15.toInt = 12 + x14.toInt := qx15
  refine lv_iconst (v := 1) hx hb dX8_walkOn_16 zk_iconst_1 ?_
  refine lv_iadd hx hb dX8_walkOn_17 ?_
  refine lv_topi (fun x17 ex17 => ?_)
  have qx17 : x17.toInt = x15.toInt + (1 : Int32).toInt := ai_add ex17 ⟨bx15.1, bx15.2⟩ ⟨zq1, zq0⟩ (by decide) (by decide)
  have bx17 : (13 : Int) ≤ x17.toInt ∧ x17.toInt ≤ 29 := ⟨by rw [qx17]; exact Int.add_le_add bx15.1 zq1, by rw [qx17]; exact Int.add_le_add bx15.2 zq0⟩
  have wx17 : x17.toInt = x15.toInt + 1 := qx17
  refine va_iald hx hb hK hP 2 1 rfl rfl (ai_in bx17.1 bx17.2 (by decide) (by decide)) dX8_walkOn_18 ?_
  refine lv_topi (fun x18 ex18 => ?_)
  have bx18 : (0 : Int) ≤ x18.toInt ∧ x18.toInt ≤ 20 := by rw [ex18]; exact ai_rd bfa0_15.2.2.2.2.2.2.2.2.1 bx17.1 bx17.2 (by decide) (by decide) (by decide)
  have l18z_x18 : (1 : Int) ≤ x18.toInt := by rw [ex18]; exact hkm x17 (by omega)
  refine lv_irem hx hb dX8_walkOn_19 (ai_nz l18z_x18 (by decide)) ?_
  refine lv_topi (fun x19 ex19 => ?_)
  have qx19 := ai_rem2 ex19 (Int.le_trans zq4 bx5.1) (Int.lt_of_lt_of_le zq19 l18z_x18) bx18.2
  refine lv_if_eq (tgt := 24) hx hb dX8_walkOn_20 (by decide) (fun c20 => ?_) (fun c20 => ?_)
  · have gc20 := ai_eq c20
    have u20t_x19 : x19.toInt ≤ (0 : Int) := Int.le_trans (Int.le_of_eq gc20) zq6
    have l20t_x19 : (0 : Int) ≤ x19.toInt := qx19.2.1
    refine lv_aload_n hx hb dX8_walkOn_24 rfl (lv_at hl 1 rfl) ?_
    refine lv_iload_n hx hb dX8_walkOn_25 rfl (lv_at hl 2 rfl) ?_
    refine lv_dup2_11 hx hb dX8_walkOn_26 rfl rfl ?_
    refine va_iald hx hb hK hP 1 0 rfl rfl (ai_in ba2_l ba2_u (by decide) (by decide)) dX8_walkOn_27 ?_
    refine lv_topi (fun x27 ex27 => ?_)
    have bx27 : (0 : Int) ≤ x27.toInt ∧ x27.toInt ≤ 8 := by rw [ex27]; exact ai_rd bfa1.1 ba2_l ba2_u (by decide) (by decide) (by decide)
    refine lv_aload_n hx hb dX8_walkOn_28 rfl (lv_at hl 1 rfl) ?_
    refine lv_iload_n hx hb dX8_walkOn_29 rfl (lv_at hl 2 rfl) ?_
    refine va_iald hx hb hK hP 1 0 rfl rfl (ai_in ba2_l ba2_u (by decide) (by decide)) dX8_walkOn_30 ?_
    refine ax_ti x27 ex27.symm ?_
    refine lv_aload_n hx hb dX8_walkOn_31 rfl (lv_at hl 0 rfl) ?_
    refine va_get (D := (dC, dI)) (ci := 8) (v := .ref a0_15) (C := RX8) (T := TX8) (N := 40) hx hb hts zi_X8_walkOn_8 hown hK hP 0 rfl rfl 15 (by decide) (hts (.fieldLink RX8 20 "WaxTurnsModel" "\x72" "[I") (List.mem_cons_of_mem _ (List.mem_append_left _ (List.mem_of_getElem? (i := 0) rfl)))) (fun _ h9 => h9) rfl dX8_walkOn_32 ?_
    refine lv_iconst (v := 2) hx hb dX8_walkOn_35 zk_iconst_2 ?_
    refine va_iald hx hb hK hP 2 1 rfl rfl (by unfold vp_in; decide +kernel) dX8_walkOn_36 ?_
    refine lv_topi (fun x36 ex36 => ?_)
    have bx36 : (0 : Int) ≤ x36.toInt ∧ x36.toInt ≤ 8 := by rw [ex36]; exact ai_rd bfa0_15.2.2.1 zq12 zq13 (by decide) (by decide) (by decide)
    refine lv_icmp_ge (tgt := 44) hx hb dX8_walkOn_37 (by decide) (fun c37 => ?_) (fun c37 => ?_)
    · have gc37 := ai_le c37
      have u37t_x36 : x36.toInt ≤ (8 : Int) := bx36.2
      have l37t_x27 : (0 : Int) ≤ x27.toInt := bx27.1
      refine lv_aload_n hx hb dX8_walkOn_44 rfl (lv_at hl 1 rfl) ?_
      refine lv_iload_n hx hb dX8_walkOn_45 rfl (lv_at hl 2 rfl) ?_
      refine va_iald hx hb hK hP 1 0 rfl rfl (ai_in ba2_l ba2_u (by decide) (by decide)) dX8_walkOn_46 ?_
      refine ax_ti x27 ex27.symm ?_
      refine lv_aload_n hx hb dX8_walkOn_47 rfl (lv_at hl 0 rfl) ?_
      refine va_get (D := (dC, dI)) (ci := 8) (v := .ref a0_15) (C := RX8) (T := TX8) (N := 40) hx hb hts zi_X8_walkOn_8 hown hK hP 0 rfl rfl 15 (by decide) (hts (.fieldLink RX8 20 "WaxTurnsModel" "\x72" "[I") (List.mem_cons_of_mem _ (List.mem_append_left _ (List.mem_of_getElem? (i := 0) rfl)))) (fun _ h9 => h9) rfl dX8_walkOn_48 ?_
      refine lv_iconst (v := 2) hx hb dX8_walkOn_51 zk_iconst_2 ?_
      refine va_iald hx hb hK hP 2 1 rfl rfl (by unfold vp_in; decide +kernel) dX8_walkOn_52 ?_
      refine ax_ti x36 ex36.symm ?_
      refine lv_icmp_le (tgt := 60) hx hb dX8_walkOn_53 (by decide) (fun c53 => ?_) (fun c53 => ?_)
      · have gc53 := ai_le c53
        have u53t_x27 : x27.toInt ≤ (8 : Int) := bx27.2
        have l53t_x36 : (0 : Int) ≤ x36.toInt := bx36.1
        refine lv_iconst (v := 0) hx hb dX8_walkOn_60 zk_iconst_0 ?_
        refine lv_iadd hx hb dX8_walkOn_61 ?_
        refine lv_topi (fun x61 ex61 => ?_)
        have qx61 : x61.toInt = x27.toInt + (0 : Int32).toInt := ai_add ex61 ⟨l37t_x27, u53t_x27⟩ ⟨zq5, zq6⟩ (by decide) (by decide)
        have bx61 : (0 : Int) ≤ x61.toInt ∧ x61.toInt ≤ 8 := ⟨by rw [qx61]; exact Int.add_le_add l37t_x27 zq5, by rw [qx61]; exact Int.add_le_add u53t_x27 zq6⟩
        have wx61 : x61.toInt = x27.toInt + 0 := qx61
        refine va_iast hx hb hK hP hD hS 1 0 rfl rfl (ai_in ba2_l ba2_u (by decide) (by decide)) dX8_walkOn_62 (fun H locs hP hD hS => ?_)
        obtain ⟨f62, ef62⟩ : ∃ g9 : Nat → Int32, g9 = upd fa1 (a2 : Int32).toNatClampNeg x61 := ⟨_, rfl⟩
        rw [← ef62] at hP hD
        obtain ⟨hP, hD⟩ := zc_re (w := [(a0, .inr (8, [a0g_0, a0g_1, a0g_2, a0g_3, a0g_4, a0g_5, a0g_6, a0g_7, a0g_8, a0g_9, a0g_10, a0g_11, a0g_12, a0g_13, a0g_14, Value.ref a0_15, a0g_16, a0g_17, a0g_18, a0g_19, a0g_20, a0g_21, a0g_22, Value.ref a0_23, Value.ref a0_24, Value.int a0_25, a0g_26, a0g_27, a0g_28, a0g_29, a0g_30, a0g_31, a0g_32, a0g_33, a0g_34, a0g_35, a0g_36, a0g_37, a0g_38, a0g_39])), (a1, .inl (ka1, 23, .inl (f62))), (a0_15, .inl (ka0_15, 156, .inl (fa0_15))), (a0_24, .inl (ka0_24, 3, .inl (fa0_24))), (a0_23, .inl (ka0_23, 3, .inl (fa0_23)))]) hP hD rfl
        have bf62 : ((∀ k : Nat, 0 ≤ k → k ≤ 8 → (0 : Int) ≤ (f62 k).toInt ∧ (f62 k).toInt ≤ 8) ∧ (∀ k : Nat, 19 ≤ k → k ≤ 19 → (0 : Int) ≤ (f62 k).toInt ∧ (f62 k).toInt ≤ 8) ∧ (∀ k : Nat, 20 ≤ k → k ≤ 20 → (0 : Int) ≤ (f62 k).toInt ∧ (f62 k).toInt ≤ 19)) := by rw [ef62]; exact ⟨ai_updS bfa1.1 _ ⟨bx61.1, bx61.2⟩, ai_updO bfa1.2.1 _ (Or.inl (ai_nlt_of ba2_l ba2_u (by decide) (by decide))), ai_updO bfa1.2.2 _ (Or.inl (ai_nlt_of ba2_l ba2_u (by decide) (by decide)))⟩
        refine lv_aload_n hx hb dX8_walkOn_63 rfl (lv_at hl 0 rfl) ?_
        refine lv_aload_n hx hb dX8_walkOn_64 rfl (lv_at hl 1 rfl) ?_
        refine lv_iload_n hx hb dX8_walkOn_65 rfl (lv_at hl 2 rfl) ?_
        refine va_iald hx hb hK hP 1 0 rfl rfl (ai_in ba2_l ba2_u (by decide) (by decide)) dX8_walkOn_66 ?_
        refine lv_topi (fun x66 ex66 => ?_)
        have bx66 : (0 : Int) ≤ x66.toInt ∧ x66.toInt ≤ 8 := by rw [ex66]; exact ai_rd bf62.1 ba2_l ba2_u (by decide) (by decide) (by decide)
        refine lv_aload_n hx hb dX8_walkOn_67 rfl (lv_at hl 1 rfl) ?_
        refine lv_bipush (v := 21) hx hb dX8_walkOn_68 zk_bipush_21 ?_
        refine va_iald hx hb hK hP 1 0 rfl rfl (by unfold vp_in; decide +kernel) dX8_walkOn_70 ?_
        refine lv_topi (fun x70 ex70 => ?_)
        obtain ⟨hPc, hDc, hFc, hCc⟩ := zc_cut (wc := [(a0, .inr (8, [a0g_0, a0g_1, a0g_2, a0g_3, a0g_4, a0g_5, a0g_6, a0g_7, a0g_8, a0g_9, a0g_10, a0g_11, a0g_12, a0g_13, a0g_14, Value.ref a0_15, a0g_16, a0g_17, a0g_18, a0g_19, a0g_20, a0g_21, a0g_22, Value.ref a0_23, Value.ref a0_24, Value.int a0_25, a0g_26, a0g_27, a0g_28, a0g_29, a0g_30, a0g_31, a0g_32, a0g_33, a0g_34, a0g_35, a0g_36, a0g_37, a0g_38, a0g_39])), (a0_15, .inl (ka0_15, 156, .inl (fa0_15))), (a0_24, .inl (ka0_24, 3, .inl (fa0_24))), (a0_23, .inl (ka0_23, 3, .inl (fa0_23)))]) hP hD hS hA [0, 2, 3, 4] (by decide +kernel) rfl
        have hKc := hK.sub (tys' := [(ka0_15, .int), (ka0_24, .int), (ka0_23, .int)]) [1, 2, 3] rfl
        refine va_calli (va_runV (As := [.int x66, .int x70]) (rest := []) ⟨hx, hb, hml, hown, hts⟩ (c_X8_isWatched l dC dI H.size a0 x66 x70 a0g_0 a0g_1 a0g_2 a0g_3 a0g_4 a0g_5 a0g_6 a0g_7 a0g_8 a0g_9 a0g_10 a0g_11 a0g_12 a0g_13 a0g_14 a0g_16 a0g_17 a0g_18 a0g_19 a0g_20 a0g_21 a0g_22 a0g_26 a0g_27 a0g_28 a0g_29 a0g_30 a0g_31 a0g_32 a0g_33 a0g_34 a0g_35 a0g_36 a0g_37 a0g_38 a0g_39 a0_15 a0_23 a0_24 a0_25 ka0_15 fa0_15 ka0_24 fa0_24 ka0_23 fa0_23 bfa0_15 bfa0_24 bfa0_23) (cwV 2 hts gX8_walkOn_X8_isWatched rfl rfl rfl zd_X8_isWatched ⟨Nat.le_of_ble_eq_true rfl, Nat.le_of_ble_eq_true rfl⟩) ⟨ax_blind (fun _ _ _ _ _ => trivial), zr_8 hKc hPc (q0 := 0) rfl, ax_pre hPc hKc hDc (fun _ _ => trivial)⟩ rfl rfl hl.1 rfl (lv_room (Nat.le_of_ble_eq_true rfl)) dX8_walkOn_71 ⟨Nat.le_of_ble_eq_true rfl, Nat.le_of_ble_eq_true rfl⟩) hS (fun q _ h => hFc q h) hFc (fun r71 u t H locs ht hvm hw hB hz1 hk1 hS => ?_)
        obtain ⟨hP1, hK1, hD1⟩ := hB
        rw [ht] at hP1
        obtain ⟨hP, hD⟩ := zc_back (w := [(a0, .inr (8, [a0g_0, a0g_1, a0g_2, a0g_3, a0g_4, a0g_5, a0g_6, a0g_7, a0g_8, a0g_9, a0g_10, a0g_11, a0g_12, a0g_13, a0g_14, Value.ref a0_15, a0g_16, a0g_17, a0g_18, a0g_19, a0g_20, a0g_21, a0g_22, Value.ref a0_23, Value.ref a0_24, Value.int a0_25, a0g_26, a0g_27, a0g_28, a0g_29, a0g_30, a0g_31, a0g_32, a0g_33, a0g_34, a0g_35, a0g_36, a0g_37, a0g_38, a0g_39])), (a1, .inl (ka1, 23, .inl (f62))), (a0_15, .inl (ka0_15, 156, .inl (fa0_15))), (a0_24, .inl (ka0_24, 3, .inl (fa0_24))), (a0_23, .inl (ka0_23, 3, .inl (fa0_23)))]) hP hD hCc hk1 hFc hP1 hD1 [.inr 0, .inl 1, .inr 1, .inr 2, .inr 3] (by decide +kernel) rfl
        rcases hw with hw | hw
        · subst hw
          refine lv_if_eq (tgt := 92) hx hb dX8_walkOn_74 (by decide) (fun c74 => absurd c74 (by decide +kernel)) (fun _ => ?_)
          refine lv_aload_n hx hb dX8_walkOn_77 rfl (lv_at hl 1 rfl) ?_
          refine lv_iload_n hx hb dX8_walkOn_78 rfl (lv_at hl 2 rfl) ?_
          refine lv_iload_n hx hb dX8_walkOn_79 rfl (lv_at hl 2 rfl) ?_
          refine va_iast hx hb hK hP hD hS 1 0 rfl rfl (ai_in ba2_l ba2_u (by decide) (by decide)) dX8_walkOn_80 (fun H locs hP hD hS => ?_)
          obtain ⟨f80, ef80⟩ : ∃ g9 : Nat → Int32, g9 = upd f62 (a2 : Int32).toNatClampNeg a2 := ⟨_, rfl⟩
          rw [← ef80] at hP hD
          obtain ⟨hP, hD⟩ := zc_re (w := [(a0, .inr (8, [a0g_0, a0g_1, a0g_2, a0g_3, a0g_4, a0g_5, a0g_6, a0g_7, a0g_8, a0g_9, a0g_10, a0g_11, a0g_12, a0g_13, a0g_14, Value.ref a0_15, a0g_16, a0g_17, a0g_18, a0g_19, a0g_20, a0g_21, a0g_22, Value.ref a0_23, Value.ref a0_24, Value.int a0_25, a0g_26, a0g_27, a0g_28, a0g_29, a0g_30, a0g_31, a0g_32, a0g_33, a0g_34, a0g_35, a0g_36, a0g_37, a0g_38, a0g_39])), (a1, .inl (ka1, 23, .inl (f80))), (a0_15, .inl (ka0_15, 156, .inl (fa0_15))), (a0_24, .inl (ka0_24, 3, .inl (fa0_24))), (a0_23, .inl (ka0_23, 3, .inl (fa0_23)))]) hP hD rfl
          have bf80 : ((∀ k : Nat, 0 ≤ k → k ≤ 8 → (0 : Int) ≤ (f80 k).toInt ∧ (f80 k).toInt ≤ 8) ∧ (∀ k : Nat, 19 ≤ k → k ≤ 19 → (0 : Int) ≤ (f80 k).toInt ∧ (f80 k).toInt ≤ 8) ∧ (∀ k : Nat, 20 ≤ k → k ≤ 20 → (0 : Int) ≤ (f80 k).toInt ∧ (f80 k).toInt ≤ 19)) := by rw [ef80]; exact ⟨ai_updS bf62.1 _ ⟨ba2_l, ba2_u⟩, ai_updO bf62.2.1 _ (Or.inl (ai_nlt_of ba2_l ba2_u (by decide) (by decide))), ai_updO bf62.2.2 _ (Or.inl (ai_nlt_of ba2_l ba2_u (by decide) (by decide)))⟩
          refine lv_aload_n hx hb dX8_walkOn_81 rfl (lv_at hl 1 rfl) ?_
          refine lv_bipush (v := 22) hx hb dX8_walkOn_82 zk_bipush_22 ?_
          refine lv_dup2_11 hx hb dX8_walkOn_84 rfl rfl ?_
          refine va_iald hx hb hK hP 1 0 rfl rfl (by unfold vp_in; decide +kernel) dX8_walkOn_85 ?_
          refine lv_topi (fun x85 ex85 => ?_)
          refine lv_iconst (v := 1) hx hb dX8_walkOn_86 zk_iconst_1 ?_
          refine lv_iadd hx hb dX8_walkOn_87 ?_
          refine lv_topi (fun x87 ex87 => ?_)
          refine va_iast hx hb hK hP hD hS 1 0 rfl rfl (by unfold vp_in; decide +kernel) dX8_walkOn_88 (fun H locs hP hD hS => ?_)
          obtain ⟨f88, ef88⟩ : ∃ g9 : Nat → Int32, g9 = upd f80 (22 : Int32).toNatClampNeg x87 := ⟨_, rfl⟩
          rw [← ef88] at hP hD
          obtain ⟨hP, hD⟩ := zc_re (w := [(a0, .inr (8, [a0g_0, a0g_1, a0g_2, a0g_3, a0g_4, a0g_5, a0g_6, a0g_7, a0g_8, a0g_9, a0g_10, a0g_11, a0g_12, a0g_13, a0g_14, Value.ref a0_15, a0g_16, a0g_17, a0g_18, a0g_19, a0g_20, a0g_21, a0g_22, Value.ref a0_23, Value.ref a0_24, Value.int a0_25, a0g_26, a0g_27, a0g_28, a0g_29, a0g_30, a0g_31, a0g_32, a0g_33, a0g_34, a0g_35, a0g_36, a0g_37, a0g_38, a0g_39])), (a1, .inl (ka1, 23, .inl (f88))), (a0_15, .inl (ka0_15, 156, .inl (fa0_15))), (a0_24, .inl (ka0_24, 3, .inl (fa0_24))), (a0_23, .inl (ka0_23, 3, .inl (fa0_23)))]) hP hD rfl
          have bf88 : ((∀ k : Nat, 0 ≤ k → k ≤ 8 → (0 : Int) ≤ (f88 k).toInt ∧ (f88 k).toInt ≤ 8) ∧ (∀ k : Nat, 19 ≤ k → k ≤ 19 → (0 : Int) ≤ (f88 k).toInt ∧ (f88 k).toInt ≤ 8) ∧ (∀ k : Nat, 20 ≤ k → k ≤ 20 → (0 : Int) ≤ (f88 k).toInt ∧ (f88 k).toInt ≤ 19)) := by rw [ef88]; exact ⟨ai_updO bf80.1 _ (Or.inr (ai_ngt_of zq156 (by decide) (by decide))), ai_updO bf80.2.1 _ (Or.inr (ai_ngt_of zq156 (by decide) (by decide))), ai_updO bf80.2.2 _ (Or.inr (ai_ngt_of zq156 (by decide) (by decide)))⟩
          have kf88_22 : f88 22 = x87 := by rw [ef88]; exact ai_k1 (by decide +kernel)
          refine lv_goto (tgt := 114) hx hb dX8_walkOn_89 (by decide) ?_
          exact W.vret hx hb hr (fun t ht hW => ⟨⟨(), rfl, trivial, f88, bf88, by rw [ht]; exact hP, va_K.moved hW.alike hK, hD⟩, hS.F ht⟩) hS.2.2 dX8_walkOn_114
        · subst hw
          refine lv_if_eq (tgt := 92) hx hb dX8_walkOn_74 (by decide) (fun _ => ?_) (fun c74 => absurd (by decide +kernel) c74)
          refine lv_aload_n hx hb dX8_walkOn_92 rfl (lv_at hl 1 rfl) ?_
          refine lv_iload_n hx hb dX8_walkOn_93 rfl (lv_at hl 2 rfl) ?_
          refine va_iald hx hb hK hP 1 0 rfl rfl (ai_in ba2_l ba2_u (by decide) (by decide)) dX8_walkOn_94 ?_
          refine ax_ti x66 ex66.symm ?_
          refine lv_aload_n hx hb dX8_walkOn_95 rfl (lv_at hl 0 rfl) ?_
          refine va_get (D := (dC, dI)) (ci := 8) (v := .ref a0_15) (C := RX8) (T := TX8) (N := 40) hx hb hts zi_X8_walkOn_8 hown hK hP 0 rfl rfl 15 (by decide) (hts (.fieldLink RX8 20 "WaxTurnsModel" "\x72" "[I") (List.mem_cons_of_mem _ (List.mem_append_left _ (List.mem_of_getElem? (i := 0) rfl)))) (fun _ h9 => h9) rfl dX8_walkOn_96 ?_
          refine lv_iconst (v := 2) hx hb dX8_walkOn_99 zk_iconst_2 ?_
          refine va_iald hx hb hK hP 2 1 rfl rfl (by unfold vp_in; decide +kernel) dX8_walkOn_100 ?_
          refine ax_ti x36 ex36.symm ?_
          refine lv_icmp_ne (tgt := 114) hx hb dX8_walkOn_101 (by decide) (fun c101 => ?_) (fun c101 => ?_)
          · have gc101 := ai_ne c101
            exact W.vret hx hb hr (fun t ht hW => ⟨⟨(), rfl, trivial, f62, bf62, by rw [ht]; exact hP, va_K.moved hW.alike hK, hD⟩, hS.F ht⟩) hS.2.2 dX8_walkOn_114
          · have gc101 := ai_eq c101
            have u101f_x66 : x66.toInt ≤ (8 : Int) := bx66.2
            have l101f_x66 : (0 : Int) ≤ x66.toInt := bx66.1
            have u101f_x36 : x36.toInt ≤ (8 : Int) := u37t_x36
            have l101f_x36 : (0 : Int) ≤ x36.toInt := l53t_x36
            refine lv_aload_n hx hb dX8_walkOn_104 rfl (lv_at hl 1 rfl) ?_
            refine lv_bipush (v := 18) hx hb dX8_walkOn_105 zk_bipush_18 ?_
            refine lv_dup2_11 hx hb dX8_walkOn_107 rfl rfl ?_
            refine va_iald hx hb hK hP 1 0 rfl rfl (by unfold vp_in; decide +kernel) dX8_walkOn_108 ?_
            refine lv_topi (fun x108 ex108 => ?_)
            refine lv_iconst (v := 1) hx hb dX8_walkOn_109 zk_iconst_1 ?_
            refine lv_iload_n hx hb dX8_walkOn_110 rfl (lv_at hl 2 rfl) ?_
            refine lv_ishl hx hb dX8_walkOn_111 ?_
            refine lv_topi (fun x111 ex111 => ?_)
            refine lv_ior hx hb dX8_walkOn_112 ?_
            refine lv_topi (fun x112 ex112 => ?_)
            refine va_iast hx hb hK hP hD hS 1 0 rfl rfl (by unfold vp_in; decide +kernel) dX8_walkOn_113 (fun H locs hP hD hS => ?_)
            obtain ⟨f113, ef113⟩ : ∃ g9 : Nat → Int32, g9 = upd f62 (18 : Int32).toNatClampNeg x112 := ⟨_, rfl⟩
            rw [← ef113] at hP hD
            obtain ⟨hP, hD⟩ := zc_re (w := [(a0, .inr (8, [a0g_0, a0g_1, a0g_2, a0g_3, a0g_4, a0g_5, a0g_6, a0g_7, a0g_8, a0g_9, a0g_10, a0g_11, a0g_12, a0g_13, a0g_14, Value.ref a0_15, a0g_16, a0g_17, a0g_18, a0g_19, a0g_20, a0g_21, a0g_22, Value.ref a0_23, Value.ref a0_24, Value.int a0_25, a0g_26, a0g_27, a0g_28, a0g_29, a0g_30, a0g_31, a0g_32, a0g_33, a0g_34, a0g_35, a0g_36, a0g_37, a0g_38, a0g_39])), (a1, .inl (ka1, 23, .inl (f113))), (a0_15, .inl (ka0_15, 156, .inl (fa0_15))), (a0_24, .inl (ka0_24, 3, .inl (fa0_24))), (a0_23, .inl (ka0_23, 3, .inl (fa0_23)))]) hP hD rfl
            have bf113 : ((∀ k : Nat, 0 ≤ k → k ≤ 8 → (0 : Int) ≤ (f113 k).toInt ∧ (f113 k).toInt ≤ 8) ∧ (∀ k : Nat, 19 ≤ k → k ≤ 19 → (0 : Int) ≤ (f113 k).toInt ∧ (f113 k).toInt ≤ 8) ∧ (∀ k : Nat, 20 ≤ k → k ≤ 20 → (0 : Int) ≤ (f113 k).toInt ∧ (f113 k).toInt ≤ 19)) := by rw [ef113]; exact ⟨ai_updO bf62.1 _ (Or.inr (ai_ngt_of zq157 (by decide) (by decide))), ai_updO bf62.2.1 _ (Or.inl (ai_nlt_of zq157 zq158 (by decide) (by decide))), ai_updO bf62.2.2 _ (Or.inl (ai_nlt_of zq157 zq158 (by decide) (by decide)))⟩
            have kf113_18 : f113 18 = x112 := by rw [ef113]; exact ai_k1 (by decide +kernel)
            exact W.vret hx hb hr (fun t ht hW => ⟨⟨(), rfl, trivial, f113, bf113, by rw [ht]; exact hP, va_K.moved hW.alike hK, hD⟩, hS.F ht⟩) hS.2.2 dX8_walkOn_114
      · have gc53 := ai_nle c53
        have u53f_x36 : x36.toInt ≤ (7 : Int) := ai_lthi gc53 bx27.2
        have l53f_x27 : (1 : Int) ≤ x27.toInt := ai_ltlo gc53 bx36.1
        refine lv_iconst (v := (-1)) hx hb dX8_walkOn_56 zk_iconst_n1 ?_
        refine lv_goto (tgt := 61) hx hb dX8_walkOn_57 (by decide) ?_
        refine lv_iadd hx hb dX8_walkOn_61 ?_
        refine lv_topi (fun x61 ex61 => ?_)
        have qx61 : x61.toInt = x27.toInt + ((-1) : Int32).toInt := ai_add ex61 ⟨l53f_x27, bx27.2⟩ ⟨zq70, zq71⟩ (by decide) (by decide)
        have bx61 : (0 : Int) ≤ x61.toInt ∧ x61.toInt ≤ 7 := ⟨by rw [qx61]; exact Int.add_le_add l53f_x27 zq70, by rw [qx61]; exact Int.add_le_add bx27.2 zq71⟩
        have wx61 : x61.toInt = x27.toInt - 1 := qx61
        refine va_iast hx hb hK hP hD hS 1 0 rfl rfl (ai_in ba2_l ba2_u (by decide) (by decide)) dX8_walkOn_62 (fun H locs hP hD hS => ?_)
        obtain ⟨f62, ef62⟩ : ∃ g9 : Nat → Int32, g9 = upd fa1 (a2 : Int32).toNatClampNeg x61 := ⟨_, rfl⟩
        rw [← ef62] at hP hD
        obtain ⟨hP, hD⟩ := zc_re (w := [(a0, .inr (8, [a0g_0, a0g_1, a0g_2, a0g_3, a0g_4, a0g_5, a0g_6, a0g_7, a0g_8, a0g_9, a0g_10, a0g_11, a0g_12, a0g_13, a0g_14, Value.ref a0_15, a0g_16, a0g_17, a0g_18, a0g_19, a0g_20, a0g_21, a0g_22, Value.ref a0_23, Value.ref a0_24, Value.int a0_25, a0g_26, a0g_27, a0g_28, a0g_29, a0g_30, a0g_31, a0g_32, a0g_33, a0g_34, a0g_35, a0g_36, a0g_37, a0g_38, a0g_39])), (a1, .inl (ka1, 23, .inl (f62))), (a0_15, .inl (ka0_15, 156, .inl (fa0_15))), (a0_24, .inl (ka0_24, 3, .inl (fa0_24))), (a0_23, .inl (ka0_23, 3, .inl (fa0_23)))]) hP hD rfl
        have bf62 : ((∀ k : Nat, 0 ≤ k → k ≤ 8 → (0 : Int) ≤ (f62 k).toInt ∧ (f62 k).toInt ≤ 8) ∧ (∀ k : Nat, 19 ≤ k → k ≤ 19 → (0 : Int) ≤ (f62 k).toInt ∧ (f62 k).toInt ≤ 8) ∧ (∀ k : Nat, 20 ≤ k → k ≤ 20 → (0 : Int) ≤ (f62 k).toInt ∧ (f62 k).toInt ≤ 19)) := by rw [ef62]; exact ⟨ai_updS bfa1.1 _ ⟨bx61.1, (Int.le_trans bx61.2 zq49)⟩, ai_updO bfa1.2.1 _ (Or.inl (ai_nlt_of ba2_l ba2_u (by decide) (by decide))), ai_updO bfa1.2.2 _ (Or.inl (ai_nlt_of ba2_l ba2_u (by decide) (by decide)))⟩
        refine lv_aload_n hx hb dX8_walkOn_63 rfl (lv_at hl 0 rfl) ?_
        refine lv_aload_n hx hb dX8_walkOn_64 rfl (lv_at hl 1 rfl) ?_
        refine lv_iload_n hx hb dX8_walkOn_65 rfl (lv_at hl 2 rfl) ?_
        refine va_iald hx hb hK hP 1 0 rfl rfl (ai_in ba2_l ba2_u (by decide) (by decide)) dX8_walkOn_66 ?_
        refine lv_topi (fun x66 ex66 => ?_)
        have bx66 : (0 : Int) ≤ x66.toInt ∧ x66.toInt ≤ 8 := by rw [ex66]; exact ai_rd bf62.1 ba2_l ba2_u (by decide) (by decide) (by decide)
        refine lv_aload_n hx hb dX8_walkOn_67 rfl (lv_at hl 1 rfl) ?_
        refine lv_bipush (v := 21) hx hb dX8_walkOn_68 zk_bipush_21 ?_
        refine va_iald hx hb hK hP 1 0 rfl rfl (by unfold vp_in; decide +kernel) dX8_walkOn_70 ?_
        refine lv_topi (fun x70 ex70 => ?_)
        obtain ⟨hPc, hDc, hFc, hCc⟩ := zc_cut (wc := [(a0, .inr (8, [a0g_0, a0g_1, a0g_2, a0g_3, a0g_4, a0g_5, a0g_6, a0g_7, a0g_8, a0g_9, a0g_10, a0g_11, a0g_12, a0g_13, a0g_14, Value.ref a0_15, a0g_16, a0g_17, a0g_18, a0g_19, a0g_20, a0g_21, a0g_22, Value.ref a0_23, Value.ref a0_24, Value.int a0_25, a0g_26, a0g_27, a0g_28, a0g_29, a0g_30, a0g_31, a0g_32, a0g_33, a0g_34, a0g_35, a0g_36, a0g_37, a0g_38, a0g_39])), (a0_15, .inl (ka0_15, 156, .inl (fa0_15))), (a0_24, .inl (ka0_24, 3, .inl (fa0_24))), (a0_23, .inl (ka0_23, 3, .inl (fa0_23)))]) hP hD hS hA [0, 2, 3, 4] (by decide +kernel) rfl
        have hKc := hK.sub (tys' := [(ka0_15, .int), (ka0_24, .int), (ka0_23, .int)]) [1, 2, 3] rfl
        refine va_calli (va_runV (As := [.int x66, .int x70]) (rest := []) ⟨hx, hb, hml, hown, hts⟩ (c_X8_isWatched l dC dI H.size a0 x66 x70 a0g_0 a0g_1 a0g_2 a0g_3 a0g_4 a0g_5 a0g_6 a0g_7 a0g_8 a0g_9 a0g_10 a0g_11 a0g_12 a0g_13 a0g_14 a0g_16 a0g_17 a0g_18 a0g_19 a0g_20 a0g_21 a0g_22 a0g_26 a0g_27 a0g_28 a0g_29 a0g_30 a0g_31 a0g_32 a0g_33 a0g_34 a0g_35 a0g_36 a0g_37 a0g_38 a0g_39 a0_15 a0_23 a0_24 a0_25 ka0_15 fa0_15 ka0_24 fa0_24 ka0_23 fa0_23 bfa0_15 bfa0_24 bfa0_23) (cwV 2 hts gX8_walkOn_X8_isWatched rfl rfl rfl zd_X8_isWatched ⟨Nat.le_of_ble_eq_true rfl, Nat.le_of_ble_eq_true rfl⟩) ⟨ax_blind (fun _ _ _ _ _ => trivial), zr_8 hKc hPc (q0 := 0) rfl, ax_pre hPc hKc hDc (fun _ _ => trivial)⟩ rfl rfl hl.1 rfl (lv_room (Nat.le_of_ble_eq_true rfl)) dX8_walkOn_71 ⟨Nat.le_of_ble_eq_true rfl, Nat.le_of_ble_eq_true rfl⟩) hS (fun q _ h => hFc q h) hFc (fun r71 u t H locs ht hvm hw hB hz1 hk1 hS => ?_)
        obtain ⟨hP1, hK1, hD1⟩ := hB
        rw [ht] at hP1
        obtain ⟨hP, hD⟩ := zc_back (w := [(a0, .inr (8, [a0g_0, a0g_1, a0g_2, a0g_3, a0g_4, a0g_5, a0g_6, a0g_7, a0g_8, a0g_9, a0g_10, a0g_11, a0g_12, a0g_13, a0g_14, Value.ref a0_15, a0g_16, a0g_17, a0g_18, a0g_19, a0g_20, a0g_21, a0g_22, Value.ref a0_23, Value.ref a0_24, Value.int a0_25, a0g_26, a0g_27, a0g_28, a0g_29, a0g_30, a0g_31, a0g_32, a0g_33, a0g_34, a0g_35, a0g_36, a0g_37, a0g_38, a0g_39])), (a1, .inl (ka1, 23, .inl (f62))), (a0_15, .inl (ka0_15, 156, .inl (fa0_15))), (a0_24, .inl (ka0_24, 3, .inl (fa0_24))), (a0_23, .inl (ka0_23, 3, .inl (fa0_23)))]) hP hD hCc hk1 hFc hP1 hD1 [.inr 0, .inl 1, .inr 1, .inr 2, .inr 3] (by decide +kernel) rfl
        rcases hw with hw | hw
        · subst hw
          refine lv_if_eq (tgt := 92) hx hb dX8_walkOn_74 (by decide) (fun c74 => absurd c74 (by decide +kernel)) (fun _ => ?_)
          refine lv_aload_n hx hb dX8_walkOn_77 rfl (lv_at hl 1 rfl) ?_
          refine lv_iload_n hx hb dX8_walkOn_78 rfl (lv_at hl 2 rfl) ?_
          refine lv_iload_n hx hb dX8_walkOn_79 rfl (lv_at hl 2 rfl) ?_
          refine va_iast hx hb hK hP hD hS 1 0 rfl rfl (ai_in ba2_l ba2_u (by decide) (by decide)) dX8_walkOn_80 (fun H locs hP hD hS => ?_)
          obtain ⟨f80, ef80⟩ : ∃ g9 : Nat → Int32, g9 = upd f62 (a2 : Int32).toNatClampNeg a2 := ⟨_, rfl⟩
          rw [← ef80] at hP hD
          obtain ⟨hP, hD⟩ := zc_re (w := [(a0, .inr (8, [a0g_0, a0g_1, a0g_2, a0g_3, a0g_4, a0g_5, a0g_6, a0g_7, a0g_8, a0g_9, a0g_10, a0g_11, a0g_12, a0g_13, a0g_14, Value.ref a0_15, a0g_16, a0g_17, a0g_18, a0g_19, a0g_20, a0g_21, a0g_22, Value.ref a0_23, Value.ref a0_24, Value.int a0_25, a0g_26, a0g_27, a0g_28, a0g_29, a0g_30, a0g_31, a0g_32, a0g_33, a0g_34, a0g_35, a0g_36, a0g_37, a0g_38, a0g_39])), (a1, .inl (ka1, 23, .inl (f80))), (a0_15, .inl (ka0_15, 156, .inl (fa0_15))), (a0_24, .inl (ka0_24, 3, .inl (fa0_24))), (a0_23, .inl (ka0_23, 3, .inl (fa0_23)))]) hP hD rfl
          have bf80 : ((∀ k : Nat, 0 ≤ k → k ≤ 8 → (0 : Int) ≤ (f80 k).toInt ∧ (f80 k).toInt ≤ 8) ∧ (∀ k : Nat, 19 ≤ k → k ≤ 19 → (0 : Int) ≤ (f80 k).toInt ∧ (f80 k).toInt ≤ 8) ∧ (∀ k : Nat, 20 ≤ k → k ≤ 20 → (0 : Int) ≤ (f80 k).toInt ∧ (f80 k).toInt ≤ 19)) := by rw [ef80]; exact ⟨ai_updS bf62.1 _ ⟨ba2_l, ba2_u⟩, ai_updO bf62.2.1 _ (Or.inl (ai_nlt_of ba2_l ba2_u (by decide) (by decide))), ai_updO bf62.2.2 _ (Or.inl (ai_nlt_of ba2_l ba2_u (by decide) (by decide)))⟩
          refine lv_aload_n hx hb dX8_walkOn_81 rfl (lv_at hl 1 rfl) ?_
          refine lv_bipush (v := 22) hx hb dX8_walkOn_82 zk_bipush_22 ?_
          refine lv_dup2_11 hx hb dX8_walkOn_84 rfl rfl ?_
          refine va_iald hx hb hK hP 1 0 rfl rfl (by unfold vp_in; decide +kernel) dX8_walkOn_85 ?_
          refine lv_topi (fun x85 ex85 => ?_)
          refine lv_iconst (v := 1) hx hb dX8_walkOn_86 zk_iconst_1 ?_
          refine lv_iadd hx hb dX8_walkOn_87 ?_
          refine lv_topi (fun x87 ex87 => ?_)
          refine va_iast hx hb hK hP hD hS 1 0 rfl rfl (by unfold vp_in; decide +kernel) dX8_walkOn_88 (fun H locs hP hD hS => ?_)
          obtain ⟨f88, ef88⟩ : ∃ g9 : Nat → Int32, g9 = upd f80 (22 : Int32).toNatClampNeg x87 := ⟨_, rfl⟩
          rw [← ef88] at hP hD
          obtain ⟨hP, hD⟩ := zc_re (w := [(a0, .inr (8, [a0g_0, a0g_1, a0g_2, a0g_3, a0g_4, a0g_5, a0g_6, a0g_7, a0g_8, a0g_9, a0g_10, a0g_11, a0g_12, a0g_13, a0g_14, Value.ref a0_15, a0g_16, a0g_17, a0g_18, a0g_19, a0g_20, a0g_21, a0g_22, Value.ref a0_23, Value.ref a0_24, Value.int a0_25, a0g_26, a0g_27, a0g_28, a0g_29, a0g_30, a0g_31, a0g_32, a0g_33, a0g_34, a0g_35, a0g_36, a0g_37, a0g_38, a0g_39])), (a1, .inl (ka1, 23, .inl (f88))), (a0_15, .inl (ka0_15, 156, .inl (fa0_15))), (a0_24, .inl (ka0_24, 3, .inl (fa0_24))), (a0_23, .inl (ka0_23, 3, .inl (fa0_23)))]) hP hD rfl
          have bf88 : ((∀ k : Nat, 0 ≤ k → k ≤ 8 → (0 : Int) ≤ (f88 k).toInt ∧ (f88 k).toInt ≤ 8) ∧ (∀ k : Nat, 19 ≤ k → k ≤ 19 → (0 : Int) ≤ (f88 k).toInt ∧ (f88 k).toInt ≤ 8) ∧ (∀ k : Nat, 20 ≤ k → k ≤ 20 → (0 : Int) ≤ (f88 k).toInt ∧ (f88 k).toInt ≤ 19)) := by rw [ef88]; exact ⟨ai_updO bf80.1 _ (Or.inr (ai_ngt_of zq156 (by decide) (by decide))), ai_updO bf80.2.1 _ (Or.inr (ai_ngt_of zq156 (by decide) (by decide))), ai_updO bf80.2.2 _ (Or.inr (ai_ngt_of zq156 (by decide) (by decide)))⟩
          have kf88_22 : f88 22 = x87 := by rw [ef88]; exact ai_k1 (by decide +kernel)
          refine lv_goto (tgt := 114) hx hb dX8_walkOn_89 (by decide) ?_
          exact W.vret hx hb hr (fun t ht hW => ⟨⟨(), rfl, trivial, f88, bf88, by rw [ht]; exact hP, va_K.moved hW.alike hK, hD⟩, hS.F ht⟩) hS.2.2 dX8_walkOn_114
        · subst hw
          refine lv_if_eq (tgt := 92) hx hb dX8_walkOn_74 (by decide) (fun _ => ?_) (fun c74 => absurd (by decide +kernel) c74)
          refine lv_aload_n hx hb dX8_walkOn_92 rfl (lv_at hl 1 rfl) ?_
          refine lv_iload_n hx hb dX8_walkOn_93 rfl (lv_at hl 2 rfl) ?_
          refine va_iald hx hb hK hP 1 0 rfl rfl (ai_in ba2_l ba2_u (by decide) (by decide)) dX8_walkOn_94 ?_
          refine ax_ti x66 ex66.symm ?_
          refine lv_aload_n hx hb dX8_walkOn_95 rfl (lv_at hl 0 rfl) ?_
          refine va_get (D := (dC, dI)) (ci := 8) (v := .ref a0_15) (C := RX8) (T := TX8) (N := 40) hx hb hts zi_X8_walkOn_8 hown hK hP 0 rfl rfl 15 (by decide) (hts (.fieldLink RX8 20 "WaxTurnsModel" "\x72" "[I") (List.mem_cons_of_mem _ (List.mem_append_left _ (List.mem_of_getElem? (i := 0) rfl)))) (fun _ h9 => h9) rfl dX8_walkOn_96 ?_
          refine lv_iconst (v := 2) hx hb dX8_walkOn_99 zk_iconst_2 ?_
          refine va_iald hx hb hK hP 2 1 rfl rfl (by unfold vp_in; decide +kernel) dX8_walkOn_100 ?_
          refine ax_ti x36 ex36.symm ?_
          refine lv_icmp_ne (tgt := 114) hx hb dX8_walkOn_101 (by decide) (fun c101 => ?_) (fun c101 => ?_)
          · have gc101 := ai_ne c101
            exact W.vret hx hb hr (fun t ht hW => ⟨⟨(), rfl, trivial, f62, bf62, by rw [ht]; exact hP, va_K.moved hW.alike hK, hD⟩, hS.F ht⟩) hS.2.2 dX8_walkOn_114
          · have gc101 := ai_eq c101
            have u101f_x66 : x66.toInt ≤ (7 : Int) := Int.le_trans (Int.le_of_eq gc101) u53f_x36
            have l101f_x66 : (0 : Int) ≤ x66.toInt := bx66.1
            have u101f_x36 : x36.toInt ≤ (7 : Int) := u53f_x36
            have l101f_x36 : (0 : Int) ≤ x36.toInt := bx36.1
            refine lv_aload_n hx hb dX8_walkOn_104 rfl (lv_at hl 1 rfl) ?_
            refine lv_bipush (v := 18) hx hb dX8_walkOn_105 zk_bipush_18 ?_
            refine lv_dup2_11 hx hb dX8_walkOn_107 rfl rfl ?_
            refine va_iald hx hb hK hP 1 0 rfl rfl (by unfold vp_in; decide +kernel) dX8_walkOn_108 ?_
            refine lv_topi (fun x108 ex108 => ?_)
            refine lv_iconst (v := 1) hx hb dX8_walkOn_109 zk_iconst_1 ?_
            refine lv_iload_n hx hb dX8_walkOn_110 rfl (lv_at hl 2 rfl) ?_
            refine lv_ishl hx hb dX8_walkOn_111 ?_
            refine lv_topi (fun x111 ex111 => ?_)
            refine lv_ior hx hb dX8_walkOn_112 ?_
            refine lv_topi (fun x112 ex112 => ?_)
            refine va_iast hx hb hK hP hD hS 1 0 rfl rfl (by unfold vp_in; decide +kernel) dX8_walkOn_113 (fun H locs hP hD hS => ?_)
            obtain ⟨f113, ef113⟩ : ∃ g9 : Nat → Int32, g9 = upd f62 (18 : Int32).toNatClampNeg x112 := ⟨_, rfl⟩
            rw [← ef113] at hP hD
            obtain ⟨hP, hD⟩ := zc_re (w := [(a0, .inr (8, [a0g_0, a0g_1, a0g_2, a0g_3, a0g_4, a0g_5, a0g_6, a0g_7, a0g_8, a0g_9, a0g_10, a0g_11, a0g_12, a0g_13, a0g_14, Value.ref a0_15, a0g_16, a0g_17, a0g_18, a0g_19, a0g_20, a0g_21, a0g_22, Value.ref a0_23, Value.ref a0_24, Value.int a0_25, a0g_26, a0g_27, a0g_28, a0g_29, a0g_30, a0g_31, a0g_32, a0g_33, a0g_34, a0g_35, a0g_36, a0g_37, a0g_38, a0g_39])), (a1, .inl (ka1, 23, .inl (f113))), (a0_15, .inl (ka0_15, 156, .inl (fa0_15))), (a0_24, .inl (ka0_24, 3, .inl (fa0_24))), (a0_23, .inl (ka0_23, 3, .inl (fa0_23)))]) hP hD rfl
            have bf113 : ((∀ k : Nat, 0 ≤ k → k ≤ 8 → (0 : Int) ≤ (f113 k).toInt ∧ (f113 k).toInt ≤ 8) ∧ (∀ k : Nat, 19 ≤ k → k ≤ 19 → (0 : Int) ≤ (f113 k).toInt ∧ (f113 k).toInt ≤ 8) ∧ (∀ k : Nat, 20 ≤ k → k ≤ 20 → (0 : Int) ≤ (f113 k).toInt ∧ (f113 k).toInt ≤ 19)) := by rw [ef113]; exact ⟨ai_updO bf62.1 _ (Or.inr (ai_ngt_of zq157 (by decide) (by decide))), ai_updO bf62.2.1 _ (Or.inl (ai_nlt_of zq157 zq158 (by decide) (by decide))), ai_updO bf62.2.2 _ (Or.inl (ai_nlt_of zq157 zq158 (by decide) (by decide)))⟩
            have kf113_18 : f113 18 = x112 := by rw [ef113]; exact ai_k1 (by decide +kernel)
            exact W.vret hx hb hr (fun t ht hW => ⟨⟨(), rfl, trivial, f113, bf113, by rw [ht]; exact hP, va_K.moved hW.alike hK, hD⟩, hS.F ht⟩) hS.2.2 dX8_walkOn_114
    · have gc37 := ai_nle c37
      have u37f_x27 : x27.toInt ≤ (7 : Int) := ai_lthi gc37 bx36.2
      have l37f_x36 : (1 : Int) ≤ x36.toInt := ai_ltlo gc37 bx27.1
      refine lv_iconst (v := 1) hx hb dX8_walkOn_40 zk_iconst_1 ?_
      refine lv_goto (tgt := 61) hx hb dX8_walkOn_41 (by decide) ?_
      refine lv_iadd hx hb dX8_walkOn_61 ?_
      refine lv_topi (fun x61 ex61 => ?_)
      have qx61 : x61.toInt = x27.toInt + (1 : Int32).toInt := ai_add ex61 ⟨bx27.1, u37f_x27⟩ ⟨zq1, zq0⟩ (by decide) (by decide)
      have bx61 : (1 : Int) ≤ x61.toInt ∧ x61.toInt ≤ 8 := ⟨by rw [qx61]; exact Int.add_le_add bx27.1 zq1, by rw [qx61]; exact Int.add_le_add u37f_x27 zq0⟩
      have wx61 : x61.toInt = x27.toInt + 1 := qx61
      refine va_iast hx hb hK hP hD hS 1 0 rfl rfl (ai_in ba2_l ba2_u (by decide) (by decide)) dX8_walkOn_62 (fun H locs hP hD hS => ?_)
      obtain ⟨f62, ef62⟩ : ∃ g9 : Nat → Int32, g9 = upd fa1 (a2 : Int32).toNatClampNeg x61 := ⟨_, rfl⟩
      rw [← ef62] at hP hD
      obtain ⟨hP, hD⟩ := zc_re (w := [(a0, .inr (8, [a0g_0, a0g_1, a0g_2, a0g_3, a0g_4, a0g_5, a0g_6, a0g_7, a0g_8, a0g_9, a0g_10, a0g_11, a0g_12, a0g_13, a0g_14, Value.ref a0_15, a0g_16, a0g_17, a0g_18, a0g_19, a0g_20, a0g_21, a0g_22, Value.ref a0_23, Value.ref a0_24, Value.int a0_25, a0g_26, a0g_27, a0g_28, a0g_29, a0g_30, a0g_31, a0g_32, a0g_33, a0g_34, a0g_35, a0g_36, a0g_37, a0g_38, a0g_39])), (a1, .inl (ka1, 23, .inl (f62))), (a0_15, .inl (ka0_15, 156, .inl (fa0_15))), (a0_24, .inl (ka0_24, 3, .inl (fa0_24))), (a0_23, .inl (ka0_23, 3, .inl (fa0_23)))]) hP hD rfl
      have bf62 : ((∀ k : Nat, 0 ≤ k → k ≤ 8 → (0 : Int) ≤ (f62 k).toInt ∧ (f62 k).toInt ≤ 8) ∧ (∀ k : Nat, 19 ≤ k → k ≤ 19 → (0 : Int) ≤ (f62 k).toInt ∧ (f62 k).toInt ≤ 8) ∧ (∀ k : Nat, 20 ≤ k → k ≤ 20 → (0 : Int) ≤ (f62 k).toInt ∧ (f62 k).toInt ≤ 19)) := by rw [ef62]; exact ⟨ai_updS bfa1.1 _ ⟨(Int.le_trans zq4 bx61.1), bx61.2⟩, ai_updO bfa1.2.1 _ (Or.inl (ai_nlt_of ba2_l ba2_u (by decide) (by decide))), ai_updO bfa1.2.2 _ (Or.inl (ai_nlt_of ba2_l ba2_u (by decide) (by decide)))⟩
      refine lv_aload_n hx hb dX8_walkOn_63 rfl (lv_at hl 0 rfl) ?_
      refine lv_aload_n hx hb dX8_walkOn_64 rfl (lv_at hl 1 rfl) ?_
      refine lv_iload_n hx hb dX8_walkOn_65 rfl (lv_at hl 2 rfl) ?_
      refine va_iald hx hb hK hP 1 0 rfl rfl (ai_in ba2_l ba2_u (by decide) (by decide)) dX8_walkOn_66 ?_
      refine lv_topi (fun x66 ex66 => ?_)
      have bx66 : (0 : Int) ≤ x66.toInt ∧ x66.toInt ≤ 8 := by rw [ex66]; exact ai_rd bf62.1 ba2_l ba2_u (by decide) (by decide) (by decide)
      refine lv_aload_n hx hb dX8_walkOn_67 rfl (lv_at hl 1 rfl) ?_
      refine lv_bipush (v := 21) hx hb dX8_walkOn_68 zk_bipush_21 ?_
      refine va_iald hx hb hK hP 1 0 rfl rfl (by unfold vp_in; decide +kernel) dX8_walkOn_70 ?_
      refine lv_topi (fun x70 ex70 => ?_)
      obtain ⟨hPc, hDc, hFc, hCc⟩ := zc_cut (wc := [(a0, .inr (8, [a0g_0, a0g_1, a0g_2, a0g_3, a0g_4, a0g_5, a0g_6, a0g_7, a0g_8, a0g_9, a0g_10, a0g_11, a0g_12, a0g_13, a0g_14, Value.ref a0_15, a0g_16, a0g_17, a0g_18, a0g_19, a0g_20, a0g_21, a0g_22, Value.ref a0_23, Value.ref a0_24, Value.int a0_25, a0g_26, a0g_27, a0g_28, a0g_29, a0g_30, a0g_31, a0g_32, a0g_33, a0g_34, a0g_35, a0g_36, a0g_37, a0g_38, a0g_39])), (a0_15, .inl (ka0_15, 156, .inl (fa0_15))), (a0_24, .inl (ka0_24, 3, .inl (fa0_24))), (a0_23, .inl (ka0_23, 3, .inl (fa0_23)))]) hP hD hS hA [0, 2, 3, 4] (by decide +kernel) rfl
      have hKc := hK.sub (tys' := [(ka0_15, .int), (ka0_24, .int), (ka0_23, .int)]) [1, 2, 3] rfl
      refine va_calli (va_runV (As := [.int x66, .int x70]) (rest := []) ⟨hx, hb, hml, hown, hts⟩ (c_X8_isWatched l dC dI H.size a0 x66 x70 a0g_0 a0g_1 a0g_2 a0g_3 a0g_4 a0g_5 a0g_6 a0g_7 a0g_8 a0g_9 a0g_10 a0g_11 a0g_12 a0g_13 a0g_14 a0g_16 a0g_17 a0g_18 a0g_19 a0g_20 a0g_21 a0g_22 a0g_26 a0g_27 a0g_28 a0g_29 a0g_30 a0g_31 a0g_32 a0g_33 a0g_34 a0g_35 a0g_36 a0g_37 a0g_38 a0g_39 a0_15 a0_23 a0_24 a0_25 ka0_15 fa0_15 ka0_24 fa0_24 ka0_23 fa0_23 bfa0_15 bfa0_24 bfa0_23) (cwV 2 hts gX8_walkOn_X8_isWatched rfl rfl rfl zd_X8_isWatched ⟨Nat.le_of_ble_eq_true rfl, Nat.le_of_ble_eq_true rfl⟩) ⟨ax_blind (fun _ _ _ _ _ => trivial), zr_8 hKc hPc (q0 := 0) rfl, ax_pre hPc hKc hDc (fun _ _ => trivial)⟩ rfl rfl hl.1 rfl (lv_room (Nat.le_of_ble_eq_true rfl)) dX8_walkOn_71 ⟨Nat.le_of_ble_eq_true rfl, Nat.le_of_ble_eq_true rfl⟩) hS (fun q _ h => hFc q h) hFc (fun r71 u t H locs ht hvm hw hB hz1 hk1 hS => ?_)
      obtain ⟨hP1, hK1, hD1⟩ := hB
      rw [ht] at hP1
      obtain ⟨hP, hD⟩ := zc_back (w := [(a0, .inr (8, [a0g_0, a0g_1, a0g_2, a0g_3, a0g_4, a0g_5, a0g_6, a0g_7, a0g_8, a0g_9, a0g_10, a0g_11, a0g_12, a0g_13, a0g_14, Value.ref a0_15, a0g_16, a0g_17, a0g_18, a0g_19, a0g_20, a0g_21, a0g_22, Value.ref a0_23, Value.ref a0_24, Value.int a0_25, a0g_26, a0g_27, a0g_28, a0g_29, a0g_30, a0g_31, a0g_32, a0g_33, a0g_34, a0g_35, a0g_36, a0g_37, a0g_38, a0g_39])), (a1, .inl (ka1, 23, .inl (f62))), (a0_15, .inl (ka0_15, 156, .inl (fa0_15))), (a0_24, .inl (ka0_24, 3, .inl (fa0_24))), (a0_23, .inl (ka0_23, 3, .inl (fa0_23)))]) hP hD hCc hk1 hFc hP1 hD1 [.inr 0, .inl 1, .inr 1, .inr 2, .inr 3] (by decide +kernel) rfl
      rcases hw with hw | hw
      · subst hw
        refine lv_if_eq (tgt := 92) hx hb dX8_walkOn_74 (by decide) (fun c74 => absurd c74 (by decide +kernel)) (fun _ => ?_)
        refine lv_aload_n hx hb dX8_walkOn_77 rfl (lv_at hl 1 rfl) ?_
        refine lv_iload_n hx hb dX8_walkOn_78 rfl (lv_at hl 2 rfl) ?_
        refine lv_iload_n hx hb dX8_walkOn_79 rfl (lv_at hl 2 rfl) ?_
        refine va_iast hx hb hK hP hD hS 1 0 rfl rfl (ai_in ba2_l ba2_u (by decide) (by decide)) dX8_walkOn_80 (fun H locs hP hD hS => ?_)
        obtain ⟨f80, ef80⟩ : ∃ g9 : Nat → Int32, g9 = upd f62 (a2 : Int32).toNatClampNeg a2 := ⟨_, rfl⟩
        rw [← ef80] at hP hD
        obtain ⟨hP, hD⟩ := zc_re (w := [(a0, .inr (8, [a0g_0, a0g_1, a0g_2, a0g_3, a0g_4, a0g_5, a0g_6, a0g_7, a0g_8, a0g_9, a0g_10, a0g_11, a0g_12, a0g_13, a0g_14, Value.ref a0_15, a0g_16, a0g_17, a0g_18, a0g_19, a0g_20, a0g_21, a0g_22, Value.ref a0_23, Value.ref a0_24, Value.int a0_25, a0g_26, a0g_27, a0g_28, a0g_29, a0g_30, a0g_31, a0g_32, a0g_33, a0g_34, a0g_35, a0g_36, a0g_37, a0g_38, a0g_39])), (a1, .inl (ka1, 23, .inl (f80))), (a0_15, .inl (ka0_15, 156, .inl (fa0_15))), (a0_24, .inl (ka0_24, 3, .inl (fa0_24))), (a0_23, .inl (ka0_23, 3, .inl (fa0_23)))]) hP hD rfl
        have bf80 : ((∀ k : Nat, 0 ≤ k → k ≤ 8 → (0 : Int) ≤ (f80 k).toInt ∧ (f80 k).toInt ≤ 8) ∧ (∀ k : Nat, 19 ≤ k → k ≤ 19 → (0 : Int) ≤ (f80 k).toInt ∧ (f80 k).toInt ≤ 8) ∧ (∀ k : Nat, 20 ≤ k → k ≤ 20 → (0 : Int) ≤ (f80 k).toInt ∧ (f80 k).toInt ≤ 19)) := by rw [ef80]; exact ⟨ai_updS bf62.1 _ ⟨ba2_l, ba2_u⟩, ai_updO bf62.2.1 _ (Or.inl (ai_nlt_of ba2_l ba2_u (by decide) (by decide))), ai_updO bf62.2.2 _ (Or.inl (ai_nlt_of ba2_l ba2_u (by decide) (by decide)))⟩
        refine lv_aload_n hx hb dX8_walkOn_81 rfl (lv_at hl 1 rfl) ?_
        refine lv_bipush (v := 22) hx hb dX8_walkOn_82 zk_bipush_22 ?_
        refine lv_dup2_11 hx hb dX8_walkOn_84 rfl rfl ?_
        refine va_iald hx hb hK hP 1 0 rfl rfl (by unfold vp_in; decide +kernel) dX8_walkOn_85 ?_
        refine lv_topi (fun x85 ex85 => ?_)
        refine lv_iconst (v := 1) hx hb dX8_walkOn_86 zk_iconst_1 ?_
        refine lv_iadd hx hb dX8_walkOn_87 ?_
        refine lv_topi (fun x87 ex87 => ?_)
        refine va_iast hx hb hK hP hD hS 1 0 rfl rfl (by unfold vp_in; decide +kernel) dX8_walkOn_88 (fun H locs hP hD hS => ?_)
        obtain ⟨f88, ef88⟩ : ∃ g9 : Nat → Int32, g9 = upd f80 (22 : Int32).toNatClampNeg x87 := ⟨_, rfl⟩
        rw [← ef88] at hP hD
        obtain ⟨hP, hD⟩ := zc_re (w := [(a0, .inr (8, [a0g_0, a0g_1, a0g_2, a0g_3, a0g_4, a0g_5, a0g_6, a0g_7, a0g_8, a0g_9, a0g_10, a0g_11, a0g_12, a0g_13, a0g_14, Value.ref a0_15, a0g_16, a0g_17, a0g_18, a0g_19, a0g_20, a0g_21, a0g_22, Value.ref a0_23, Value.ref a0_24, Value.int a0_25, a0g_26, a0g_27, a0g_28, a0g_29, a0g_30, a0g_31, a0g_32, a0g_33, a0g_34, a0g_35, a0g_36, a0g_37, a0g_38, a0g_39])), (a1, .inl (ka1, 23, .inl (f88))), (a0_15, .inl (ka0_15, 156, .inl (fa0_15))), (a0_24, .inl (ka0_24, 3, .inl (fa0_24))), (a0_23, .inl (ka0_23, 3, .inl (fa0_23)))]) hP hD rfl
        have bf88 : ((∀ k : Nat, 0 ≤ k → k ≤ 8 → (0 : Int) ≤ (f88 k).toInt ∧ (f88 k).toInt ≤ 8) ∧ (∀ k : Nat, 19 ≤ k → k ≤ 19 → (0 : Int) ≤ (f88 k).toInt ∧ (f88 k).toInt ≤ 8) ∧ (∀ k : Nat, 20 ≤ k → k ≤ 20 → (0 : Int) ≤ (f88 k).toInt ∧ (f88 k).toInt ≤ 19)) := by rw [ef88]; exact ⟨ai_updO bf80.1 _ (Or.inr (ai_ngt_of zq156 (by decide) (by decide))), ai_updO bf80.2.1 _ (Or.inr (ai_ngt_of zq156 (by decide) (by decide))), ai_updO bf80.2.2 _ (Or.inr (ai_ngt_of zq156 (by decide) (by decide)))⟩
        have kf88_22 : f88 22 = x87 := by rw [ef88]; exact ai_k1 (by decide +kernel)
        refine lv_goto (tgt := 114) hx hb dX8_walkOn_89 (by decide) ?_
        exact W.vret hx hb hr (fun t ht hW => ⟨⟨(), rfl, trivial, f88, bf88, by rw [ht]; exact hP, va_K.moved hW.alike hK, hD⟩, hS.F ht⟩) hS.2.2 dX8_walkOn_114
      · subst hw
        refine lv_if_eq (tgt := 92) hx hb dX8_walkOn_74 (by decide) (fun _ => ?_) (fun c74 => absurd (by decide +kernel) c74)
        refine lv_aload_n hx hb dX8_walkOn_92 rfl (lv_at hl 1 rfl) ?_
        refine lv_iload_n hx hb dX8_walkOn_93 rfl (lv_at hl 2 rfl) ?_
        refine va_iald hx hb hK hP 1 0 rfl rfl (ai_in ba2_l ba2_u (by decide) (by decide)) dX8_walkOn_94 ?_
        refine ax_ti x66 ex66.symm ?_
        refine lv_aload_n hx hb dX8_walkOn_95 rfl (lv_at hl 0 rfl) ?_
        refine va_get (D := (dC, dI)) (ci := 8) (v := .ref a0_15) (C := RX8) (T := TX8) (N := 40) hx hb hts zi_X8_walkOn_8 hown hK hP 0 rfl rfl 15 (by decide) (hts (.fieldLink RX8 20 "WaxTurnsModel" "\x72" "[I") (List.mem_cons_of_mem _ (List.mem_append_left _ (List.mem_of_getElem? (i := 0) rfl)))) (fun _ h9 => h9) rfl dX8_walkOn_96 ?_
        refine lv_iconst (v := 2) hx hb dX8_walkOn_99 zk_iconst_2 ?_
        refine va_iald hx hb hK hP 2 1 rfl rfl (by unfold vp_in; decide +kernel) dX8_walkOn_100 ?_
        refine ax_ti x36 ex36.symm ?_
        refine lv_icmp_ne (tgt := 114) hx hb dX8_walkOn_101 (by decide) (fun c101 => ?_) (fun c101 => ?_)
        · have gc101 := ai_ne c101
          exact W.vret hx hb hr (fun t ht hW => ⟨⟨(), rfl, trivial, f62, bf62, by rw [ht]; exact hP, va_K.moved hW.alike hK, hD⟩, hS.F ht⟩) hS.2.2 dX8_walkOn_114
        · have gc101 := ai_eq c101
          have u101f_x66 : x66.toInt ≤ (8 : Int) := bx66.2
          have l101f_x66 : (1 : Int) ≤ x66.toInt := Int.le_trans l37f_x36 (Int.le_of_eq gc101.symm)
          have u101f_x36 : x36.toInt ≤ (8 : Int) := bx36.2
          have l101f_x36 : (1 : Int) ≤ x36.toInt := l37f_x36
          refine lv_aload_n hx hb dX8_walkOn_104 rfl (lv_at hl 1 rfl) ?_
          refine lv_bipush (v := 18) hx hb dX8_walkOn_105 zk_bipush_18 ?_
          refine lv_dup2_11 hx hb dX8_walkOn_107 rfl rfl ?_
          refine va_iald hx hb hK hP 1 0 rfl rfl (by unfold vp_in; decide +kernel) dX8_walkOn_108 ?_
          refine lv_topi (fun x108 ex108 => ?_)
          refine lv_iconst (v := 1) hx hb dX8_walkOn_109 zk_iconst_1 ?_
          refine lv_iload_n hx hb dX8_walkOn_110 rfl (lv_at hl 2 rfl) ?_
          refine lv_ishl hx hb dX8_walkOn_111 ?_
          refine lv_topi (fun x111 ex111 => ?_)
          refine lv_ior hx hb dX8_walkOn_112 ?_
          refine lv_topi (fun x112 ex112 => ?_)
          refine va_iast hx hb hK hP hD hS 1 0 rfl rfl (by unfold vp_in; decide +kernel) dX8_walkOn_113 (fun H locs hP hD hS => ?_)
          obtain ⟨f113, ef113⟩ : ∃ g9 : Nat → Int32, g9 = upd f62 (18 : Int32).toNatClampNeg x112 := ⟨_, rfl⟩
          rw [← ef113] at hP hD
          obtain ⟨hP, hD⟩ := zc_re (w := [(a0, .inr (8, [a0g_0, a0g_1, a0g_2, a0g_3, a0g_4, a0g_5, a0g_6, a0g_7, a0g_8, a0g_9, a0g_10, a0g_11, a0g_12, a0g_13, a0g_14, Value.ref a0_15, a0g_16, a0g_17, a0g_18, a0g_19, a0g_20, a0g_21, a0g_22, Value.ref a0_23, Value.ref a0_24, Value.int a0_25, a0g_26, a0g_27, a0g_28, a0g_29, a0g_30, a0g_31, a0g_32, a0g_33, a0g_34, a0g_35, a0g_36, a0g_37, a0g_38, a0g_39])), (a1, .inl (ka1, 23, .inl (f113))), (a0_15, .inl (ka0_15, 156, .inl (fa0_15))), (a0_24, .inl (ka0_24, 3, .inl (fa0_24))), (a0_23, .inl (ka0_23, 3, .inl (fa0_23)))]) hP hD rfl
          have bf113 : ((∀ k : Nat, 0 ≤ k → k ≤ 8 → (0 : Int) ≤ (f113 k).toInt ∧ (f113 k).toInt ≤ 8) ∧ (∀ k : Nat, 19 ≤ k → k ≤ 19 → (0 : Int) ≤ (f113 k).toInt ∧ (f113 k).toInt ≤ 8) ∧ (∀ k : Nat, 20 ≤ k → k ≤ 20 → (0 : Int) ≤ (f113 k).toInt ∧ (f113 k).toInt ≤ 19)) := by rw [ef113]; exact ⟨ai_updO bf62.1 _ (Or.inr (ai_ngt_of zq157 (by decide) (by decide))), ai_updO bf62.2.1 _ (Or.inl (ai_nlt_of zq157 zq158 (by decide) (by decide))), ai_updO bf62.2.2 _ (Or.inl (ai_nlt_of zq157 zq158 (by decide) (by decide)))⟩
          have kf113_18 : f113 18 = x112 := by rw [ef113]; exact ai_k1 (by decide +kernel)
          exact W.vret hx hb hr (fun t ht hW => ⟨⟨(), rfl, trivial, f113, bf113, by rw [ht]; exact hP, va_K.moved hW.alike hK, hD⟩, hS.F ht⟩) hS.2.2 dX8_walkOn_114
  · have gc20 := ai_ne c20
    have l20f_x19 : (1 : Int) ≤ x19.toInt := (by have h1 := qx19.2.1; have h2 : (0 : Int32).toInt = 0 := (by decide); rw [h2] at gc20; omega)
    exact W.vret hx hb hr (fun t ht hW => ⟨⟨(), rfl, trivial, fa1, bfa1, by rw [ht]; exact hP, va_K.moved hW.alike hK, hD⟩, hS.F ht⟩) hS.2.2 dX8_walkOn_23

set_option maxHeartbeats 4000000 in
set_option maxRecDepth 100000 in
theorem c_X8_speakOn (l : Launch) (dC : Nat → ClassId) (dI : Nat → Nat → Nat) (sz : Nat) (a0 : Nat) (a1 : Nat) (a2 : Int32) (a0g_0 a0g_1 a0g_2 a0g_3 a0g_4 a0g_5 a0g_6 a0g_7 a0g_8 a0g_9 a0g_10 a0g_11 a0g_12 a0g_13 a0g_14 a0g_16 a0g_17 a0g_18 a0g_19 a0g_20 a0g_21 a0g_22 a0g_26 a0g_27 a0g_29 a0g_30 a0g_31 a0g_32 a0g_33 a0g_34 a0g_35 a0g_36 a0g_37 a0g_38 a0g_39 : Value) (a0_15 : Nat) (a0_23 : Nat) (a0_24 : Nat) (a0_25 : Int32) (a0_28 : Int32) (ka1 : ClassId) (fa1 : Nat → Int32) (ka0_15 : ClassId) (fa0_15 : Nat → Int32) (ka0_24 : ClassId) (fa0_24 : Nat → Int32) (ka0_23 : ClassId) (fa0_23 : Nat → Int32) (ba2_l : (0 : Int) ≤ a2.toInt) (ba2_u : a2.toInt ≤ (8 : Int)) (bfa1 : ((∀ k : Nat, 0 ≤ k → k ≤ 8 → (0 : Int) ≤ (fa1 k).toInt ∧ (fa1 k).toInt ≤ 8) ∧ (∀ k : Nat, 19 ≤ k → k ≤ 19 → (0 : Int) ≤ (fa1 k).toInt ∧ (fa1 k).toInt ≤ 8) ∧ (∀ k : Nat, 20 ≤ k → k ≤ 20 → (0 : Int) ≤ (fa1 k).toInt ∧ (fa1 k).toInt ≤ 19))) (bfa0_15 : ((∀ k : Nat, 0 ≤ k → k ≤ 0 → (2 : Int) ≤ (fa0_15 k).toInt ∧ (fa0_15 k).toInt ≤ 9) ∧ (∀ k : Nat, 1 ≤ k → k ≤ 1 → (1 : Int) ≤ (fa0_15 k).toInt ∧ (fa0_15 k).toInt ≤ 20) ∧ (∀ k : Nat, 2 ≤ k → k ≤ 2 → (0 : Int) ≤ (fa0_15 k).toInt ∧ (fa0_15 k).toInt ≤ 8) ∧ (∀ k : Nat, 3 ≤ k → k ≤ 3 → (0 : Int) ≤ (fa0_15 k).toInt ∧ (fa0_15 k).toInt ≤ 100) ∧ (∀ k : Nat, 4 ≤ k → k ≤ 4 → (0 : Int) ≤ (fa0_15 k).toInt ∧ (fa0_15 k).toInt ≤ 9) ∧ (∀ k : Nat, 5 ≤ k → k ≤ 5 → (0 : Int) ≤ (fa0_15 k).toInt ∧ (fa0_15 k).toInt ≤ 3) ∧ (∀ k : Nat, 6 ≤ k → k ≤ 6 → (0 : Int) ≤ (fa0_15 k).toInt ∧ (fa0_15 k).toInt ≤ 6) ∧ (∀ k : Nat, 7 ≤ k → k ≤ 9 → (0 : Int) ≤ (fa0_15 k).toInt ∧ (fa0_15 k).toInt ≤ 8) ∧ (∀ k : Nat, 12 ≤ k → k ≤ 29 → (0 : Int) ≤ (fa0_15 k).toInt ∧ (fa0_15 k).toInt ≤ 20) ∧ (∀ k : Nat, 30 ≤ k → k ≤ 35 → (0 : Int) ≤ (fa0_15 k).toInt ∧ (fa0_15 k).toInt ≤ 8) ∧ (∀ k : Nat, 36 ≤ k → k ≤ 47 → (0 : Int) ≤ (fa0_15 k).toInt ∧ (fa0_15 k).toInt ≤ 999))) (bfa0_24 : (∀ k, (0 : Int) ≤ (fa0_24 k).toInt ∧ (fa0_24 k).toInt ≤ 80)) (bfa0_23 : (∀ k, (0 : Int) ≤ (fa0_23 k).toInt ∧ (fa0_23 k).toInt ≤ 80)) : Met l yX8_speakOn wsX8_speakOn ({ frames := 2, cells := 0, slots := 0, locals := 48 }) (va_Pc [.ref a0, .ref a1, .int a2] (ax_C dC dI sz [(a0, .inr (8, [a0g_0, a0g_1, a0g_2, a0g_3, a0g_4, a0g_5, a0g_6, a0g_7, a0g_8, a0g_9, a0g_10, a0g_11, a0g_12, a0g_13, a0g_14, Value.ref a0_15, a0g_16, a0g_17, a0g_18, a0g_19, a0g_20, a0g_21, a0g_22, Value.ref a0_23, Value.ref a0_24, Value.int a0_25, a0g_26, a0g_27, Value.int a0_28, a0g_29, a0g_30, a0g_31, a0g_32, a0g_33, a0g_34, a0g_35, a0g_36, a0g_37, a0g_38, a0g_39])), (a1, .inl (ka1, 23, .inl (fa1))), (a0_15, .inl (ka0_15, 156, .inl (fa0_15))), (a0_24, .inl (ka0_24, 3, .inl (fa0_24))), (a0_23, .inl (ka0_23, 3, .inl (fa0_23)))] [(ka1, .int), (ka0_15, .int), (ka0_24, .int), (ka0_23, .int)] (fun _ => True))) (va_Qv (fun (_ : Unit) => True) (fun (_ : Unit) (t : State) => ∃ na0_28 : Int32, ∃ nfa1 : Nat → Int32, ((∀ k : Nat, 0 ≤ k → k ≤ 8 → (0 : Int) ≤ (nfa1 k).toInt ∧ (nfa1 k).toInt ≤ 8) ∧ (∀ k : Nat, 19 ≤ k → k ≤ 19 → (0 : Int) ≤ (nfa1 k).toInt ∧ (nfa1 k).toInt ≤ 8) ∧ (∀ k : Nat, 20 ≤ k → k ≤ 20 → (0 : Int) ≤ (nfa1 k).toInt ∧ (nfa1 k).toInt ≤ 19)) ∧ ax_B dC dI (va_A [(a0, .inr (8, [a0g_0, a0g_1, a0g_2, a0g_3, a0g_4, a0g_5, a0g_6, a0g_7, a0g_8, a0g_9, a0g_10, a0g_11, a0g_12, a0g_13, a0g_14, Value.ref a0_15, a0g_16, a0g_17, a0g_18, a0g_19, a0g_20, a0g_21, a0g_22, Value.ref a0_23, Value.ref a0_24, Value.int a0_25, a0g_26, a0g_27, Value.int a0_28, a0g_29, a0g_30, a0g_31, a0g_32, a0g_33, a0g_34, a0g_35, a0g_36, a0g_37, a0g_38, a0g_39])), (a1, .inl (ka1, 23, .inl (fa1))), (a0_15, .inl (ka0_15, 156, .inl (fa0_15))), (a0_24, .inl (ka0_24, 3, .inl (fa0_24))), (a0_23, .inl (ka0_23, 3, .inl (fa0_23)))] sz) [(a0, .inr (8, [a0g_0, a0g_1, a0g_2, a0g_3, a0g_4, a0g_5, a0g_6, a0g_7, a0g_8, a0g_9, a0g_10, a0g_11, a0g_12, a0g_13, a0g_14, Value.ref a0_15, a0g_16, a0g_17, a0g_18, a0g_19, a0g_20, a0g_21, a0g_22, Value.ref a0_23, Value.ref a0_24, Value.int a0_25, a0g_26, a0g_27, Value.int na0_28, a0g_29, a0g_30, a0g_31, a0g_32, a0g_33, a0g_34, a0g_35, a0g_36, a0g_37, a0g_38, a0g_39])), (a1, .inl (ka1, 23, .inl (nfa1))), (a0_15, .inl (ka0_15, 156, .inl (fa0_15))), (a0_24, .inl (ka0_24, 3, .inl (fa0_24))), (a0_23, .inl (ka0_23, 3, .inl (fa0_23)))] [(ka1, .int), (ka0_15, .int), (ka0_24, .int), (ka0_23, .int)] t) (va_A [(a0, .inr (8, [a0g_0, a0g_1, a0g_2, a0g_3, a0g_4, a0g_5, a0g_6, a0g_7, a0g_8, a0g_9, a0g_10, a0g_11, a0g_12, a0g_13, a0g_14, Value.ref a0_15, a0g_16, a0g_17, a0g_18, a0g_19, a0g_20, a0g_21, a0g_22, Value.ref a0_23, Value.ref a0_24, Value.int a0_25, a0g_26, a0g_27, Value.int a0_28, a0g_29, a0g_30, a0g_31, a0g_32, a0g_33, a0g_34, a0g_35, a0g_36, a0g_37, a0g_38, a0g_39])), (a1, .inl (ka1, 23, .inl (fa1))), (a0_15, .inl (ka0_15, 156, .inl (fa0_15))), (a0_24, .inl (ka0_24, 3, .inl (fa0_24))), (a0_23, .inl (ka0_23, 3, .inl (fa0_23)))] sz)) 0 0 (va_A [(a0, .inr (8, [a0g_0, a0g_1, a0g_2, a0g_3, a0g_4, a0g_5, a0g_6, a0g_7, a0g_8, a0g_9, a0g_10, a0g_11, a0g_12, a0g_13, a0g_14, Value.ref a0_15, a0g_16, a0g_17, a0g_18, a0g_19, a0g_20, a0g_21, a0g_22, Value.ref a0_23, Value.ref a0_24, Value.int a0_25, a0g_26, a0g_27, Value.int a0_28, a0g_29, a0g_30, a0g_31, a0g_32, a0g_33, a0g_34, a0g_35, a0g_36, a0g_37, a0g_38, a0g_39])), (a1, .inl (ka1, 23, .inl (fa1))), (a0_15, .inl (ka0_15, 156, .inl (fa0_15))), (a0_24, .inl (ka0_24, 3, .inl (fa0_24))), (a0_23, .inl (ka0_23, 3, .inl (fa0_23)))] sz) := by
  refine Met.ofW (cc := cX8_speakOn) (maxL := 6) (ret := none) (by decide) rfl ?_
  intro p e s m args below meth c s₁ B hml hv
  obtain ⟨rfl, hsz, hP, hK, hD0, hE⟩ := hv
  have hx := B.exec
  have hb := B.bytes
  have hr := B.returns
  have hts := atoms_spec (ws := wsX8_speakOn) B.pre
  have hown : s.vm.findClass RX8 = some m.cls := findClass_of_methodNamed B.named
  have hlocks := B.notSynchronized
  subst hsz
  have hD := hD0.self (sz := s.heap.size)
  generalize hAe : va_A [(a0, .inr (8, [a0g_0, a0g_1, a0g_2, a0g_3, a0g_4, a0g_5, a0g_6, a0g_7, a0g_8, a0g_9, a0g_10, a0g_11, a0g_12, a0g_13, a0g_14, Value.ref a0_15, a0g_16, a0g_17, a0g_18, a0g_19, a0g_20, a0g_21, a0g_22, Value.ref a0_23, Value.ref a0_24, Value.int a0_25, a0g_26, a0g_27, Value.int a0_28, a0g_29, a0g_30, a0g_31, a0g_32, a0g_33, a0g_34, a0g_35, a0g_36, a0g_37, a0g_38, a0g_39])), (a1, .inl (ka1, 23, .inl (fa1))), (a0_15, .inl (ka0_15, 156, .inl (fa0_15))), (a0_24, .inl (ka0_24, 3, .inl (fa0_24))), (a0_23, .inl (ka0_23, 3, .inl (fa0_23)))] s.heap.size = A at hD ⊢
  have hA : ∀ q : Nat, s.heap.size ≤ q → A q := fun q h => by rw [← hAe]; exact Or.inr h
  have hS : va_S A s.heap s.heap [] := va_S.rf
  have hP : va_P (dC, dI) vwCl [(a0, .inr (8, [a0g_0, a0g_1, a0g_2, a0g_3, a0g_4, a0g_5, a0g_6, a0g_7, a0g_8, a0g_9, a0g_10, a0g_11, a0g_12, a0g_13, a0g_14, Value.ref a0_15, a0g_16, a0g_17, a0g_18, a0g_19, a0g_20, a0g_21, a0g_22, Value.ref a0_23, Value.ref a0_24, Value.int a0_25, a0g_26, a0g_27, Value.int a0_28, a0g_29, a0g_30, a0g_31, a0g_32, a0g_33, a0g_34, a0g_35, a0g_36, a0g_37, a0g_38, a0g_39])), (a1, .inl (ka1, 23, .inl (fa1))), (a0_15, .inl (ka0_15, 156, .inl (fa0_15))), (a0_24, .inl (ka0_24, 3, .inl (fa0_24))), (a0_23, .inl (ka0_23, 3, .inl (fa0_23)))] s.heap := hP
  have hl := lv_entry ([.ref a0, .ref a1, .int a2]) (n := 6) (Nat.le_of_ble_eq_true rfl)
  rw [lg_entry_eq]
  generalize (lg_sl ([.ref a0, .ref a1, .int a2]) ++ List.replicate (6 - (lg_sl ([.ref a0, .ref a1, .int a2])).length) Slot.unset).toArray = ls at hl ⊢
  have hl : lv_has ls 6 [(0, .ref a0), (1, .ref a1), (2, .int a2)] := hl
  refine ai_open (fun K hK0 => ?_)
  refine (hK0 _ _ _).mpr ?_
  refine lv_aload_n hx hb dX8_speakOn_0 rfl (lv_at hl 1 rfl) ?_
  refine lv_bipush (v := 20) hx hb dX8_speakOn_1 zk_bipush_20 ?_
  refine va_iald hx hb hK hP 1 0 rfl rfl (by unfold vp_in; decide +kernel) dX8_speakOn_3 ?_
  refine lv_topi (fun x3 ex3 => ?_)
  have bx3 : (0 : Int) ≤ x3.toInt ∧ x3.toInt ≤ 19 := by rw [ex3]; exact ai_rd bfa1.2.2 zq153 zq154 (by decide) (by decide) (by decide)
  refine lv_istore_n (lv' := [(3, .int x3), (0, .ref a0), (1, .ref a1), (2, .int a2)]) hx hb dX8_speakOn_4 rfl hl (by decide) rfl (fun ls hl => ?_)
  refine lv_iload_n hx hb dX8_speakOn_5 rfl (lv_at hl 0 rfl) ?_
  refine lv_aload_n hx hb dX8_speakOn_6 rfl (lv_at hl 1 rfl) ?_
  refine va_get (D := (dC, dI)) (ci := 8) (v := .ref a0_15) (C := RX8) (T := TX8) (N := 40) hx hb hts zi_X8_speakOn_8 hown hK hP 0 rfl rfl 15 (by decide) (hts (.fieldLink RX8 20 "WaxTurnsModel" "\x72" "[I") (List.mem_cons_of_mem _ (List.mem_append_left _ (List.mem_of_getElem? (i := 0) rfl)))) (fun _ h9 => h9) rfl dX8_speakOn_7 ?_
  refine lv_bipush (v := 12) hx hb dX8_speakOn_10 zk_bipush_12 ?_
  refine lv_iconst (v := 2) hx hb dX8_speakOn_12 zk_iconst_2 ?_
  refine lv_iload_n hx hb dX8_speakOn_13 rfl (lv_at hl 3 rfl) ?_
  refine lv_imul hx hb dX8_speakOn_14 ?_
  refine lv_topi (fun x14 ex14 => ?_)
  have qx14 : x14.toInt = (2 : Int32).toInt * a2.toInt ∧ (0 : Int) ≤ x14.toInt ∧ x14.toInt ≤ 16 := ai_mul ex14 ⟨zq12, zq13⟩ ⟨ba2_l, ba2_u⟩ (by decide) (by decide) zq155
  have wx14 : x14.toInt = 2 * a2.toInt := qx14.1
  refine lv_iadd hx hb dX8_speakOn_15 ?_
  refine lv_topi (fun x15 ex15 => ?_)
  have qx15 : x15.toInt = (12 : Int32).toInt + x14.toInt := ai_add ex15 ⟨zq119, zq120⟩ ⟨qx14.2.1, qx14.2.2⟩ (by decide) (by decide)
  have bx15 : (12 : Int) ≤ x15.toInt ∧ x15.toInt ≤ 28 := ⟨by rw [qx15]; exact Int.add_le_add zq119 qx14.2.1, by rw [qx15]; exact Int.add_le_add zq120 qx14.2.2⟩
  have wx15 : x15.toInt = 12 + x14.toInt := qx15
  refine lv_iconst (v := 1) hx hb dX8_speakOn_16 zk_iconst_1 ?_
  refine lv_iadd hx hb dX8_speakOn_17 ?_
  refine lv_topi (fun x17 ex17 => ?_)
  have qx17 : x17.toInt = x15.toInt + (1 : Int32).toInt := ai_add ex17 ⟨bx15.1, bx15.2⟩ ⟨zq1, zq0⟩ (by decide) (by decide)
  have bx17 : (13 : Int) ≤ x17.toInt ∧ x17.toInt ≤ 29 := ⟨by rw [qx17]; exact Int.add_le_add bx15.1 zq1, by rw [qx17]; exact Int.add_le_add bx15.2 zq0⟩
  have wx17 : x17.toInt = x15.toInt + 1 := qx17
  refine va_iald hx hb hK hP 2 1 rfl rfl (ai_in bx17.1 bx17.2 (by decide) (by decide)) dX8_speakOn_18 ?_
  refine lv_topi (fun x18 ex18 => ?_)
  have bx18 : (0 : Int) ≤ x18.toInt ∧ x18.toInt ≤ 20 := by rw [ex18]; exact ai_rd bfa0_15.2.2.2.2.2.2.2.2.1 bx17.1 bx17.2 (by decide) (by decide) (by decide)
  refine lv_icmp_lt (tgt := 23) hx hb dX8_speakOn_19 (by decide) (fun c19 => ?_) (fun c19 => ?_)
  · have gc19 := ai_lt c19
    have u19t_x3 : x3.toInt ≤ (19 : Int) := bx3.2
    have l19t_x18 : (1 : Int) ≤ x18.toInt := ai_ltlo gc19 bx3.1
    refine lv_aload_n hx hb dX8_speakOn_23 rfl (lv_at hl 1 rfl) ?_
    refine lv_iconst (v := 1) hx hb dX8_speakOn_24 zk_iconst_1 ?_
    refine lv_iload_n hx hb dX8_speakOn_25 rfl (lv_at hl 0 rfl) ?_
    refine lv_ishl hx hb dX8_speakOn_26 ?_
    refine lv_topi (fun x26 ex26 => ?_)
    refine va_put (D := (dC, dI)) (ci := 8) (v := .int x26) (ty := .int) (C := RX8) (T := TX8) (N := 40) hx hb hts zi_X8_speakOn_8 tyX8 tyX8_ok nmX8 hown hK hP hD hS 0 rfl rfl 28 (by decide) (hts (.fieldLink RX8 248 "WaxTurnsModel" "said" "I") (List.mem_cons_of_mem _ (List.mem_append_left _ (List.mem_of_getElem? (i := 1) rfl)))) (fun _ h9 => h9) rfl (tyX8_ok 28 (by decide)) rfl rfl (Nat.le_of_ble_eq_true rfl) dX8_speakOn_27 (fun H locs hP hD hS => ?_)
    obtain ⟨hP, hD⟩ := zc_re (w := [(a0, .inr (8, [a0g_0, a0g_1, a0g_2, a0g_3, a0g_4, a0g_5, a0g_6, a0g_7, a0g_8, a0g_9, a0g_10, a0g_11, a0g_12, a0g_13, a0g_14, Value.ref a0_15, a0g_16, a0g_17, a0g_18, a0g_19, a0g_20, a0g_21, a0g_22, Value.ref a0_23, Value.ref a0_24, Value.int a0_25, a0g_26, a0g_27, Value.int x26, a0g_29, a0g_30, a0g_31, a0g_32, a0g_33, a0g_34, a0g_35, a0g_36, a0g_37, a0g_38, a0g_39])), (a1, .inl (ka1, 23, .inl (fa1))), (a0_15, .inl (ka0_15, 156, .inl (fa0_15))), (a0_24, .inl (ka0_24, 3, .inl (fa0_24))), (a0_23, .inl (ka0_23, 3, .inl (fa0_23)))]) hP hD rfl
    refine lv_iconst (v := 0) hx hb dX8_speakOn_30 zk_iconst_0 ?_
    refine lv_istore (lv' := [(4, .int 0), (3, .int x3), (0, .ref a0), (1, .ref a1), (2, .int a2)]) hx hb dX8_speakOn_31 hl (by decide) rfl (fun ls hl => ?_)
    refine lv_aload_n hx hb dX8_speakOn_33 rfl (lv_at hl 3 rfl) ?_
    refine lv_iload_n hx hb dX8_speakOn_34 rfl (lv_at hl 4 rfl) ?_
    refine va_iald hx hb hK hP 1 0 rfl rfl (ai_in ba2_l ba2_u (by decide) (by decide)) dX8_speakOn_35 ?_
    refine lv_topi (fun x35 ex35 => ?_)
    have bx35 : (0 : Int) ≤ x35.toInt ∧ x35.toInt ≤ 8 := by rw [ex35]; exact ai_rd bfa1.1 ba2_l ba2_u (by decide) (by decide) (by decide)
    refine lv_iconst (v := 1) hx hb dX8_speakOn_36 zk_iconst_1 ?_
    refine lv_isub hx hb dX8_speakOn_37 ?_
    refine lv_topi (fun x37 ex37 => ?_)
    have qx37 : x37.toInt = x35.toInt - (1 : Int32).toInt := ai_sub ex37 ⟨bx35.1, bx35.2⟩ ⟨zq1, zq0⟩ (by decide) (by decide)
    have bx37 : (-1 : Int) ≤ x37.toInt ∧ x37.toInt ≤ 7 := ⟨by rw [qx37]; exact Int.sub_le_sub bx35.1 zq0, by rw [qx37]; exact Int.sub_le_sub bx35.2 zq1⟩
    have wx37 : x37.toInt = x35.toInt - 1 := qx37
    refine lv_istore (lv' := [(5, .int x37), (4, .int 0), (3, .int x3), (0, .ref a0), (1, .ref a1), (2, .int a2)]) hx hb dX8_speakOn_38 hl (by decide) rfl (fun ls hl => ?_)
    have J40 : ∀ (n : Nat) (j40l5 : Int32) (j40l4 : Int32) (H : Heap) (locs : List Loc) (ls : Array Slot), (11 : Int) - j40l5.toInt ≤ (n : Int) → (-1 : Int) ≤ j40l5.toInt → j40l5.toInt ≤ (10 : Int) → (0 : Int) ≤ j40l4.toInt → j40l4.toInt ≤ (1 : Int) → va_P (dC, dI) vwCl [(a0, .inr (8, [a0g_0, a0g_1, a0g_2, a0g_3, a0g_4, a0g_5, a0g_6, a0g_7, a0g_8, a0g_9, a0g_10, a0g_11, a0g_12, a0g_13, a0g_14, Value.ref a0_15, a0g_16, a0g_17, a0g_18, a0g_19, a0g_20, a0g_21, a0g_22, Value.ref a0_23, Value.ref a0_24, Value.int a0_25, a0g_26, a0g_27, Value.int x26, a0g_29, a0g_30, a0g_31, a0g_32, a0g_33, a0g_34, a0g_35, a0g_36, a0g_37, a0g_38, a0g_39])), (a1, .inl (ka1, 23, .inl (fa1))), (a0_15, .inl (ka0_15, 156, .inl (fa0_15))), (a0_24, .inl (ka0_24, 3, .inl (fa0_24))), (a0_23, .inl (ka0_23, 3, .inl (fa0_23)))] H → va_D A [(a0, .inr (8, [a0g_0, a0g_1, a0g_2, a0g_3, a0g_4, a0g_5, a0g_6, a0g_7, a0g_8, a0g_9, a0g_10, a0g_11, a0g_12, a0g_13, a0g_14, Value.ref a0_15, a0g_16, a0g_17, a0g_18, a0g_19, a0g_20, a0g_21, a0g_22, Value.ref a0_23, Value.ref a0_24, Value.int a0_25, a0g_26, a0g_27, Value.int x26, a0g_29, a0g_30, a0g_31, a0g_32, a0g_33, a0g_34, a0g_35, a0g_36, a0g_37, a0g_38, a0g_39])), (a1, .inl (ka1, 23, .inl (fa1))), (a0_15, .inl (ka0_15, 156, .inl (fa0_15))), (a0_24, .inl (ka0_24, 3, .inl (fa0_24))), (a0_23, .inl (ka0_23, 3, .inl (fa0_23)))] → va_S A s.heap H locs → lv_has ls 6 [(0, .ref a0), (1, .ref a1), (2, .int a2), (4, .int j40l4), (5, .int j40l5)] → K H locs (F0 m 40 ls []) := by
      intro n
      induction n with
      | zero =>
        intro j40l5 j40l4 H locs ls hm bj40l5_l bj40l5_u bj40l4_l bj40l4_u hP hD hS hl
        have h8 := ai_min j40l5
        have h9 := ai_max j40l5
        exact absurd hm (by omega)
      | succ n ih40 =>
        intro j40l5 j40l4 H locs ls hm bj40l5_l bj40l5_u bj40l4_l bj40l4_u hP hD hS hl
        refine (hK0 _ _ _).mpr ?_
        have hm40 := hm
        refine lv_iload hx hb dX8_speakOn_40 (lv_at hl 4 rfl) ?_
        refine lv_aload_n hx hb dX8_speakOn_42 rfl (lv_at hl 1 rfl) ?_
        refine lv_iload_n hx hb dX8_speakOn_43 rfl (lv_at hl 2 rfl) ?_
        refine va_iald hx hb hK hP 1 0 rfl rfl (ai_in ba2_l ba2_u (by decide) (by decide)) dX8_speakOn_44 ?_
        refine lv_topi (fun x44 ex44 => ?_)
        have bx44 : (0 : Int) ≤ x44.toInt ∧ x44.toInt ≤ 8 := by rw [ex44]; exact ai_rd bfa1.1 ba2_l ba2_u (by decide) (by decide) (by decide)
        refine lv_iconst (v := 1) hx hb dX8_speakOn_45 zk_iconst_1 ?_
        refine lv_iadd hx hb dX8_speakOn_46 ?_
        refine lv_topi (fun x46 ex46 => ?_)
        have qx46 : x46.toInt = x44.toInt + (1 : Int32).toInt := ai_add ex46 ⟨bx44.1, bx44.2⟩ ⟨zq1, zq0⟩ (by decide) (by decide)
        have bx46 : (1 : Int) ≤ x46.toInt ∧ x46.toInt ≤ 9 := ⟨by rw [qx46]; exact Int.add_le_add bx44.1 zq1, by rw [qx46]; exact Int.add_le_add bx44.2 zq0⟩
        have wx46 : x46.toInt = x44.toInt + 1 := qx46
        refine lv_icmp_gt (tgt := 86) hx hb dX8_speakOn_47 (by decide) (fun c47 => ?_) (fun c47 => ?_)
        · have gc47 := ai_lt c47
          have u47t_x46 : x46.toInt ≤ (9 : Int) := bx46.2
          have l47t_j40l5 : (2 : Int) ≤ j40l5.toInt := ai_ltlo gc47 bx46.1
          refine lv_iload hx hb dX8_speakOn_86 (lv_at hl 3 rfl) ?_
          refine lv_if_eq (tgt := 104) hx hb dX8_speakOn_88 (by decide) (fun c88 => ?_) (fun c88 => ?_)
          · have gc88 := ai_eq c88
            have u88t_j40l4 : j40l4.toInt ≤ (0 : Int) := Int.le_trans (Int.le_of_eq gc88) zq6
            have l88t_j40l4 : (0 : Int) ≤ j40l4.toInt := bj40l4_l
            exact W.vret hx hb hr (fun t ht hW => ⟨⟨(), rfl, trivial, x26, fa1, bfa1, by rw [ht]; exact hP, va_K.moved hW.alike hK, hD⟩, hS.F ht⟩) hS.2.2 dX8_speakOn_104
          · have gc88 := ai_ne c88
            have l88f_j40l4 : (1 : Int) ≤ j40l4.toInt := (by have h1 := bj40l4_l; have h2 : (0 : Int32).toInt = 0 := (by decide); rw [h2] at gc88; omega)
            refine lv_aload_n hx hb dX8_speakOn_91 rfl (lv_at hl 1 rfl) ?_
            refine lv_bipush (v := 9) hx hb dX8_speakOn_92 zk_bipush_9 ?_
            refine lv_iload_n hx hb dX8_speakOn_94 rfl (lv_at hl 2 rfl) ?_
            refine lv_iadd hx hb dX8_speakOn_95 ?_
            refine lv_topi (fun x95 ex95 => ?_)
            have qx95 : x95.toInt = (9 : Int32).toInt + a2.toInt := ai_add ex95 ⟨zq2, zq3⟩ ⟨ba2_l, ba2_u⟩ (by decide) (by decide)
            have bx95 : (9 : Int) ≤ x95.toInt ∧ x95.toInt ≤ 17 := ⟨by rw [qx95]; exact Int.add_le_add zq2 ba2_l, by rw [qx95]; exact Int.add_le_add zq3 ba2_u⟩
            have wx95 : x95.toInt = 9 + a2.toInt := qx95
            refine lv_dup2_11 hx hb dX8_speakOn_96 rfl rfl ?_
            refine va_iald hx hb hK hP 1 0 rfl rfl (ai_in bx95.1 bx95.2 (by decide) (by decide)) dX8_speakOn_97 ?_
            refine lv_topi (fun x97 ex97 => ?_)
            refine lv_aload_n hx hb dX8_speakOn_98 rfl (lv_at hl 0 rfl) ?_
            refine va_get (D := (dC, dI)) (ci := 8) (v := .int x26) (C := RX8) (T := TX8) (N := 40) hx hb hts zi_X8_speakOn_8 hown hK hP 0 rfl rfl 28 (by decide) (hts (.fieldLink RX8 248 "WaxTurnsModel" "said" "I") (List.mem_cons_of_mem _ (List.mem_append_left _ (List.mem_of_getElem? (i := 1) rfl)))) (fun _ h9 => h9) rfl dX8_speakOn_99 ?_
            refine lv_ior hx hb dX8_speakOn_102 ?_
            refine lv_topi (fun x102 ex102 => ?_)
            refine va_iast hx hb hK hP hD hS 1 0 rfl rfl (ai_in bx95.1 bx95.2 (by decide) (by decide)) dX8_speakOn_103 (fun H locs hP hD hS => ?_)
            obtain ⟨f103, ef103⟩ : ∃ g9 : Nat → Int32, g9 = upd fa1 (x95 : Int32).toNatClampNeg x102 := ⟨_, rfl⟩
            rw [← ef103] at hP hD
            obtain ⟨hP, hD⟩ := zc_re (w := [(a0, .inr (8, [a0g_0, a0g_1, a0g_2, a0g_3, a0g_4, a0g_5, a0g_6, a0g_7, a0g_8, a0g_9, a0g_10, a0g_11, a0g_12, a0g_13, a0g_14, Value.ref a0_15, a0g_16, a0g_17, a0g_18, a0g_19, a0g_20, a0g_21, a0g_22, Value.ref a0_23, Value.ref a0_24, Value.int a0_25, a0g_26, a0g_27, Value.int x26, a0g_29, a0g_30, a0g_31, a0g_32, a0g_33, a0g_34, a0g_35, a0g_36, a0g_37, a0g_38, a0g_39])), (a1, .inl (ka1, 23, .inl (f103))), (a0_15, .inl (ka0_15, 156, .inl (fa0_15))), (a0_24, .inl (ka0_24, 3, .inl (fa0_24))), (a0_23, .inl (ka0_23, 3, .inl (fa0_23)))]) hP hD rfl
            have bf103 : ((∀ k : Nat, 0 ≤ k → k ≤ 8 → (0 : Int) ≤ (f103 k).toInt ∧ (f103 k).toInt ≤ 8) ∧ (∀ k : Nat, 19 ≤ k → k ≤ 19 → (0 : Int) ≤ (f103 k).toInt ∧ (f103 k).toInt ≤ 8) ∧ (∀ k : Nat, 20 ≤ k → k ≤ 20 → (0 : Int) ≤ (f103 k).toInt ∧ (f103 k).toInt ≤ 19)) := by rw [ef103]; exact ⟨ai_updO bfa1.1 _ (Or.inr (ai_ngt_of bx95.1 (by decide) (by decide))), ai_updO bfa1.2.1 _ (Or.inl (ai_nlt_of bx95.1 bx95.2 (by decide) (by decide))), ai_updO bfa1.2.2 _ (Or.inl (ai_nlt_of bx95.1 bx95.2 (by decide) (by decide)))⟩
            exact W.vret hx hb hr (fun t ht hW => ⟨⟨(), rfl, trivial, x26, f103, bf103, by rw [ht]; exact hP, va_K.moved hW.alike hK, hD⟩, hS.F ht⟩) hS.2.2 dX8_speakOn_104
        · have gc47 := ai_nlt c47
          have u47f_j40l5 : j40l5.toInt ≤ (9 : Int) := Int.le_trans gc47 bx46.2
          have l47f_x46 : (1 : Int) ≤ x46.toInt := bx46.1
          refine lv_iload hx hb dX8_speakOn_50 (lv_at hl 3 rfl) ?_
          have J78 : ∀ (j78s0 : Int32) (H : Heap) (locs : List Loc) (ls : Array Slot), (0 : Int) ≤ j78s0.toInt → j78s0.toInt ≤ (1 : Int) → va_P (dC, dI) vwCl [(a0, .inr (8, [a0g_0, a0g_1, a0g_2, a0g_3, a0g_4, a0g_5, a0g_6, a0g_7, a0g_8, a0g_9, a0g_10, a0g_11, a0g_12, a0g_13, a0g_14, Value.ref a0_15, a0g_16, a0g_17, a0g_18, a0g_19, a0g_20, a0g_21, a0g_22, Value.ref a0_23, Value.ref a0_24, Value.int a0_25, a0g_26, a0g_27, Value.int x26, a0g_29, a0g_30, a0g_31, a0g_32, a0g_33, a0g_34, a0g_35, a0g_36, a0g_37, a0g_38, a0g_39])), (a1, .inl (ka1, 23, .inl (fa1))), (a0_15, .inl (ka0_15, 156, .inl (fa0_15))), (a0_24, .inl (ka0_24, 3, .inl (fa0_24))), (a0_23, .inl (ka0_23, 3, .inl (fa0_23)))] H → va_D A [(a0, .inr (8, [a0g_0, a0g_1, a0g_2, a0g_3, a0g_4, a0g_5, a0g_6, a0g_7, a0g_8, a0g_9, a0g_10, a0g_11, a0g_12, a0g_13, a0g_14, Value.ref a0_15, a0g_16, a0g_17, a0g_18, a0g_19, a0g_20, a0g_21, a0g_22, Value.ref a0_23, Value.ref a0_24, Value.int a0_25, a0g_26, a0g_27, Value.int x26, a0g_29, a0g_30, a0g_31, a0g_32, a0g_33, a0g_34, a0g_35, a0g_36, a0g_37, a0g_38, a0g_39])), (a1, .inl (ka1, 23, .inl (fa1))), (a0_15, .inl (ka0_15, 156, .inl (fa0_15))), (a0_24, .inl (ka0_24, 3, .inl (fa0_24))), (a0_23, .inl (ka0_23, 3, .inl (fa0_23)))] → va_S A s.heap H locs → lv_has ls 6 [(0, .ref a0), (1, .ref a1), (2, .int a2), (5, .int j40l5)] → K H locs (F0 m 78 ls [.int j78s0]) := by
            intro j78s0 H locs ls  bj78s0_l bj78s0_u hP hD hS hl
            refine (hK0 _ _ _).mpr ?_
            refine lv_istore (lv' := [(4, .int j78s0), (0, .ref a0), (1, .ref a1), (2, .int a2), (5, .int j40l5)]) hx hb dX8_speakOn_78 hl (by decide) rfl (fun ls hl => ?_)
            obtain ⟨x80, ex80⟩ : ∃ y : Int32, y = j40l5 + Int32.ofInt 1 := ⟨_, rfl⟩
            have qx80 : x80.toInt = j40l5.toInt + 1 := ai_inc ex80 (by decide) (by decide) u47f_j40l5 (by decide)
            have bx80 : (0 : Int) ≤ x80.toInt ∧ x80.toInt ≤ 10 := ⟨by rw [qx80]; exact Int.add_le_add bj40l5_l (Int.le_refl _), by rw [qx80]; exact Int.add_le_add u47f_j40l5 (Int.le_refl _)⟩
            refine lv_iinc (v := x80) (lv' := [(5, .int x80), (4, .int j78s0), (0, .ref a0), (1, .ref a1), (2, .int a2)]) hx hb dX8_speakOn_80 hl (k := 4) rfl ex80.symm (by decide) rfl (fun ls hl => ?_)
            refine lv_goto (tgt := 40) hx hb dX8_speakOn_83 (by decide) ?_
            exact (hK0 _ _ _).mp (ih40 x80 j78s0 _ _ _ (by have h0 := qx80; omega) (Int.le_trans zq69 bx80.1) bx80.2 bj78s0_l bj78s0_u hP hD hS (lv_sub hl [2, 3, 4, 1, 0] rfl))
          have J73 : ∀ (H : Heap) (locs : List Loc) (ls : Array Slot), va_P (dC, dI) vwCl [(a0, .inr (8, [a0g_0, a0g_1, a0g_2, a0g_3, a0g_4, a0g_5, a0g_6, a0g_7, a0g_8, a0g_9, a0g_10, a0g_11, a0g_12, a0g_13, a0g_14, Value.ref a0_15, a0g_16, a0g_17, a0g_18, a0g_19, a0g_20, a0g_21, a0g_22, Value.ref a0_23, Value.ref a0_24, Value.int a0_25, a0g_26, a0g_27, Value.int x26, a0g_29, a0g_30, a0g_31, a0g_32, a0g_33, a0g_34, a0g_35, a0g_36, a0g_37, a0g_38, a0g_39])), (a1, .inl (ka1, 23, .inl (fa1))), (a0_15, .inl (ka0_15, 156, .inl (fa0_15))), (a0_24, .inl (ka0_24, 3, .inl (fa0_24))), (a0_23, .inl (ka0_23, 3, .inl (fa0_23)))] H → va_D A [(a0, .inr (8, [a0g_0, a0g_1, a0g_2, a0g_3, a0g_4, a0g_5, a0g_6, a0g_7, a0g_8, a0g_9, a0g_10, a0g_11, a0g_12, a0g_13, a0g_14, Value.ref a0_15, a0g_16, a0g_17, a0g_18, a0g_19, a0g_20, a0g_21, a0g_22, Value.ref a0_23, Value.ref a0_24, Value.int a0_25, a0g_26, a0g_27, Value.int x26, a0g_29, a0g_30, a0g_31, a0g_32, a0g_33, a0g_34, a0g_35, a0g_36, a0g_37, a0g_38, a0g_39])), (a1, .inl (ka1, 23, .inl (fa1))), (a0_15, .inl (ka0_15, 156, .inl (fa0_15))), (a0_24, .inl (ka0_24, 3, .inl (fa0_24))), (a0_23, .inl (ka0_23, 3, .inl (fa0_23)))] → va_S A s.heap H locs → lv_has ls 6 [(0, .ref a0), (1, .ref a1), (2, .int a2), (5, .int j40l5)] → K H locs (F0 m 73 ls []) := by
            intro  H locs ls   hP hD hS hl
            refine (hK0 _ _ _).mpr ?_
            refine lv_iconst (v := 1) hx hb dX8_speakOn_73 zk_iconst_1 ?_
            refine lv_goto (tgt := 78) hx hb dX8_speakOn_74 (by decide) ?_
            exact (hK0 _ _ _).mp (J78 1 _ _ _  (Int.le_trans zq4 zq1) zq0 hP hD hS (lv_sub hl [0, 1, 2, 3] rfl))
          refine lv_if_ne (tgt := 73) hx hb dX8_speakOn_52 (by decide) (fun c52 => ?_) (fun c52 => ?_)
          · have gc52 := ai_ne c52
            have l52t_j40l4 : (1 : Int) ≤ j40l4.toInt := (by have h1 := bj40l4_l; have h2 : (0 : Int32).toInt = 0 := (by decide); rw [h2] at gc52; omega)
            exact (hK0 _ _ _).mp (J73  _ _ _   hP hD hS (lv_sub hl [0, 1, 2, 4] rfl))
          · have gc52 := ai_eq c52
            have u52f_j40l4 : j40l4.toInt ≤ (0 : Int) := Int.le_trans (Int.le_of_eq gc52) zq6
            have l52f_j40l4 : (0 : Int) ≤ j40l4.toInt := bj40l4_l
            refine lv_iload hx hb dX8_speakOn_55 (lv_at hl 4 rfl) ?_
            have J77 : ∀ (H : Heap) (locs : List Loc) (ls : Array Slot), va_P (dC, dI) vwCl [(a0, .inr (8, [a0g_0, a0g_1, a0g_2, a0g_3, a0g_4, a0g_5, a0g_6, a0g_7, a0g_8, a0g_9, a0g_10, a0g_11, a0g_12, a0g_13, a0g_14, Value.ref a0_15, a0g_16, a0g_17, a0g_18, a0g_19, a0g_20, a0g_21, a0g_22, Value.ref a0_23, Value.ref a0_24, Value.int a0_25, a0g_26, a0g_27, Value.int x26, a0g_29, a0g_30, a0g_31, a0g_32, a0g_33, a0g_34, a0g_35, a0g_36, a0g_37, a0g_38, a0g_39])), (a1, .inl (ka1, 23, .inl (fa1))), (a0_15, .inl (ka0_15, 156, .inl (fa0_15))), (a0_24, .inl (ka0_24, 3, .inl (fa0_24))), (a0_23, .inl (ka0_23, 3, .inl (fa0_23)))] H → va_D A [(a0, .inr (8, [a0g_0, a0g_1, a0g_2, a0g_3, a0g_4, a0g_5, a0g_6, a0g_7, a0g_8, a0g_9, a0g_10, a0g_11, a0g_12, a0g_13, a0g_14, Value.ref a0_15, a0g_16, a0g_17, a0g_18, a0g_19, a0g_20, a0g_21, a0g_22, Value.ref a0_23, Value.ref a0_24, Value.int a0_25, a0g_26, a0g_27, Value.int x26, a0g_29, a0g_30, a0g_31, a0g_32, a0g_33, a0g_34, a0g_35, a0g_36, a0g_37, a0g_38, a0g_39])), (a1, .inl (ka1, 23, .inl (fa1))), (a0_15, .inl (ka0_15, 156, .inl (fa0_15))), (a0_24, .inl (ka0_24, 3, .inl (fa0_24))), (a0_23, .inl (ka0_23, 3, .inl (fa0_23)))] → va_S A s.heap H locs → lv_has ls 6 [(0, .ref a0), (1, .ref a1), (2, .int a2), (5, .int j40l5)] → K H locs (F0 m 77 ls []) := by
              intro  H locs ls   hP hD hS hl
              refine (hK0 _ _ _).mpr ?_
              refine lv_iconst (v := 0) hx hb dX8_speakOn_77 zk_iconst_0 ?_
              exact (hK0 _ _ _).mp (J78 0 _ _ _  zq5 (Int.le_trans zq6 zq4) hP hD hS (lv_sub hl [0, 1, 2, 3] rfl))
            refine lv_if_lt (tgt := 77) hx hb dX8_speakOn_57 (by decide) (fun c57 => ?_) (fun c57 => ?_)
            · have gc57 := ai_lt c57
              have u57t_j40l5 : j40l5.toInt ≤ (-1 : Int) := ai_lthi gc57 zq6
              exact (hK0 _ _ _).mp (J77  _ _ _   hP hD hS (lv_sub hl [0, 1, 2, 4] rfl))
            · have gc57 := ai_nlt c57
              have l57f_j40l5 : (0 : Int) ≤ j40l5.toInt := Int.le_trans zq5 gc57
              refine lv_aload_n hx hb dX8_speakOn_60 rfl (lv_at hl 0 rfl) ?_
              refine lv_iload hx hb dX8_speakOn_61 (lv_at hl 4 rfl) ?_
              refine lv_aload_n hx hb dX8_speakOn_63 rfl (lv_at hl 1 rfl) ?_
              refine lv_bipush (v := 21) hx hb dX8_speakOn_64 zk_bipush_21 ?_
              refine va_iald hx hb hK hP 1 0 rfl rfl (by unfold vp_in; decide +kernel) dX8_speakOn_66 ?_
              refine lv_topi (fun x66 ex66 => ?_)
              obtain ⟨hPc, hDc, hFc, hCc⟩ := zc_cut (wc := [(a0, .inr (8, [a0g_0, a0g_1, a0g_2, a0g_3, a0g_4, a0g_5, a0g_6, a0g_7, a0g_8, a0g_9, a0g_10, a0g_11, a0g_12, a0g_13, a0g_14, Value.ref a0_15, a0g_16, a0g_17, a0g_18, a0g_19, a0g_20, a0g_21, a0g_22, Value.ref a0_23, Value.ref a0_24, Value.int a0_25, a0g_26, a0g_27, Value.int x26, a0g_29, a0g_30, a0g_31, a0g_32, a0g_33, a0g_34, a0g_35, a0g_36, a0g_37, a0g_38, a0g_39])), (a0_15, .inl (ka0_15, 156, .inl (fa0_15))), (a0_24, .inl (ka0_24, 3, .inl (fa0_24))), (a0_23, .inl (ka0_23, 3, .inl (fa0_23)))]) hP hD hS hA [0, 2, 3, 4] (by decide +kernel) rfl
              have hKc := hK.sub (tys' := [(ka0_15, .int), (ka0_24, .int), (ka0_23, .int)]) [1, 2, 3] rfl
              refine va_calli (va_runV (As := [.int j40l5, .int x66]) (rest := []) ⟨hx, hb, hml, hown, hts⟩ (c_X8_isWatched l dC dI H.size a0 j40l5 x66 a0g_0 a0g_1 a0g_2 a0g_3 a0g_4 a0g_5 a0g_6 a0g_7 a0g_8 a0g_9 a0g_10 a0g_11 a0g_12 a0g_13 a0g_14 a0g_16 a0g_17 a0g_18 a0g_19 a0g_20 a0g_21 a0g_22 a0g_26 a0g_27 (Value.int x26) a0g_29 a0g_30 a0g_31 a0g_32 a0g_33 a0g_34 a0g_35 a0g_36 a0g_37 a0g_38 a0g_39 a0_15 a0_23 a0_24 a0_25 ka0_15 fa0_15 ka0_24 fa0_24 ka0_23 fa0_23 bfa0_15 bfa0_24 bfa0_23) (cwV 2 hts gX8_speakOn_X8_isWatched rfl rfl rfl zd_X8_isWatched ⟨Nat.le_of_ble_eq_true rfl, Nat.le_of_ble_eq_true rfl⟩) ⟨ax_blind (fun _ _ _ _ _ => trivial), zr_8 hKc hPc (q0 := 0) rfl, ax_pre hPc hKc hDc (fun _ _ => trivial)⟩ rfl rfl hl.1 rfl (lv_room (Nat.le_of_ble_eq_true rfl)) dX8_speakOn_67 ⟨Nat.le_of_ble_eq_true rfl, Nat.le_of_ble_eq_true rfl⟩) hS (fun q _ h => hFc q h) hFc (fun r67 u t H locs ht hvm hw hB hz1 hk1 hS => ?_)
              obtain ⟨hP1, hK1, hD1⟩ := hB
              rw [ht] at hP1
              obtain ⟨hP, hD⟩ := zc_back (w := [(a0, .inr (8, [a0g_0, a0g_1, a0g_2, a0g_3, a0g_4, a0g_5, a0g_6, a0g_7, a0g_8, a0g_9, a0g_10, a0g_11, a0g_12, a0g_13, a0g_14, Value.ref a0_15, a0g_16, a0g_17, a0g_18, a0g_19, a0g_20, a0g_21, a0g_22, Value.ref a0_23, Value.ref a0_24, Value.int a0_25, a0g_26, a0g_27, Value.int x26, a0g_29, a0g_30, a0g_31, a0g_32, a0g_33, a0g_34, a0g_35, a0g_36, a0g_37, a0g_38, a0g_39])), (a1, .inl (ka1, 23, .inl (fa1))), (a0_15, .inl (ka0_15, 156, .inl (fa0_15))), (a0_24, .inl (ka0_24, 3, .inl (fa0_24))), (a0_23, .inl (ka0_23, 3, .inl (fa0_23)))]) hP hD hCc hk1 hFc hP1 hD1 [.inr 0, .inl 1, .inr 1, .inr 2, .inr 3] (by decide +kernel) rfl
              rcases hw with hw | hw
              · subst hw
                refine lv_if_eq (tgt := 77) hx hb dX8_speakOn_70 (by decide) (fun c70 => absurd c70 (by decide +kernel)) (fun _ => ?_)
                exact (hK0 _ _ _).mp (J73  _ _ _   hP hD hS (lv_sub hl [0, 1, 2, 4] rfl))
              · subst hw
                refine lv_if_eq (tgt := 77) hx hb dX8_speakOn_70 (by decide) (fun _ => ?_) (fun c70 => absurd (by decide +kernel) c70)
                exact (hK0 _ _ _).mp (J77  _ _ _   hP hD hS (lv_sub hl [0, 1, 2, 4] rfl))
    exact (hK0 _ _ _).mp (J40 12 x37 0 _ _ _ (by have h1 : (-1 : Int) ≤ x37.toInt := bx37.1; have h2 : x37.toInt ≤ (7 : Int) := bx37.2; omega) bx37.1 (Int.le_trans bx37.2 zq159) zq5 (Int.le_trans zq6 zq4) hP hD hS (lv_sub hl [3, 4, 5, 1, 0] rfl))
  · have gc19 := ai_nlt c19
    have u19f_x18 : x18.toInt ≤ (19 : Int) := Int.le_trans gc19 bx3.2
    have l19f_x3 : (0 : Int) ≤ x3.toInt := bx3.1
    exact W.vret hx hb hr (fun t ht hW => ⟨⟨(), rfl, trivial, a0_28, fa1, bfa1, by rw [ht]; exact hP, va_K.moved hW.alike hK, hD⟩, hS.F ht⟩) hS.2.2 dX8_speakOn_22
