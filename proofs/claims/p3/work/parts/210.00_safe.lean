set_option maxHeartbeats 4000000 in
set_option maxRecDepth 100000 in
theorem c_X3_isWord (l : Launch) (dC : Nat → ClassId) (dI : Nat → Nat → Nat) (sz : Nat) (a0 : Nat) (a1 : Nat) (a0g : Nat → Value) (a0_10 : Int32) (a0_11 : Int64) (na1 : Nat) (ba0_10_l : (0 : Int) ≤ a0_10.toInt) (ba0_10_u : a0_10.toInt ≤ (4 : Int)) : Met l yX3_isWord wsX3_isWord ({ frames := 4, cells := 0, slots := 0, locals := 85 }) (va_Pc [.ref a0, .ref a1] (ax_C dC dI sz [(a0, .inr (3, [a0g 0, a0g 1, a0g 2, a0g 3, a0g 4, a0g 5, a0g 6, a0g 7, a0g 8, a0g 9, .int a0_10, .long a0_11, a0g 12, a0g 13]))] [] (fun U => sx_W a1 na1 (va_A [(a0, .inr (3, [a0g 0, a0g 1, a0g 2, a0g 3, a0g 4, a0g 5, a0g 6, a0g 7, a0g 8, a0g 9, .int a0_10, .long a0_11, a0g 12, a0g 13]))] sz) U))) (va_Qi (fun (r : Int32) (_ : Unit) => (r = 1 ∧ (1 : Int) ≤ a0_10.toInt ∧ a0_10.toInt ≤ (1 : Int)) ∨ (r = 0)) (fun (_ : Unit) (t : State) => ax_B dC dI (va_A [(a0, .inr (3, [a0g 0, a0g 1, a0g 2, a0g 3, a0g 4, a0g 5, a0g 6, a0g 7, a0g 8, a0g 9, .int a0_10, .long a0_11, a0g 12, a0g 13]))] sz) [(a0, .inr (3, [a0g 0, a0g 1, a0g 2, a0g 3, a0g 4, a0g 5, a0g 6, a0g 7, a0g 8, a0g 9, .int a0_10, .long a0_11, a0g 12, a0g 13]))] [] t) (va_A [(a0, .inr (3, [a0g 0, a0g 1, a0g 2, a0g 3, a0g 4, a0g 5, a0g 6, a0g 7, a0g 8, a0g 9, .int a0_10, .long a0_11, a0g 12, a0g 13]))] sz)) 0 0 (va_A [(a0, .inr (3, [a0g 0, a0g 1, a0g 2, a0g 3, a0g 4, a0g 5, a0g 6, a0g 7, a0g 8, a0g 9, .int a0_10, .long a0_11, a0g 12, a0g 13]))] sz) := by
  refine Met.ofW (cc := cX3_isWord) (maxL := 5) (ret := (some .boolean)) (by decide) rfl ?_
  intro p e s m args below meth c s₁ B hml hv
  obtain ⟨rfl, hsz, hP, hK, hD0, hE⟩ := hv
  have hx := B.exec
  have hb := B.bytes
  have hr := B.returns
  have hts := atoms_spec (ws := wsX3_isWord) B.pre
  have hown : s.vm.findClass RX3 = some m.cls := findClass_of_methodNamed B.named
  have hlocks := B.notSynchronized
  subst hsz
  have hD := hD0.self (sz := s.heap.size)
  generalize hAe : va_A [(a0, .inr (3, [a0g 0, a0g 1, a0g 2, a0g 3, a0g 4, a0g 5, a0g 6, a0g 7, a0g 8, a0g 9, .int a0_10, .long a0_11, a0g 12, a0g 13]))] s.heap.size = A at hD hE ⊢
  have hA : ∀ q : Nat, s.heap.size ≤ q → A q := fun q h => by rw [← hAe]; exact Or.inr h
  have hS : va_S A s.heap s.heap [] := va_S.rf
  have hP : va_P (dC, dI) vwCl [(a0, .inr (3, [a0g 0, a0g 1, a0g 2, a0g 3, a0g 4, a0g 5, a0g 6, a0g 7, a0g 8, a0g 9, .int a0_10, .long a0_11, a0g 12, a0g 13]))] s.heap := hP
  have hE0 := hE
  have hl := lv_entry ([.ref a0, .ref a1]) (n := 5) (Nat.le_of_ble_eq_true rfl)
  rw [lg_entry_eq]
  generalize (lg_sl ([.ref a0, .ref a1]) ++ List.replicate (5 - (lg_sl ([.ref a0, .ref a1])).length) Slot.unset).toArray = ls at hl ⊢
  have hl : lv_has ls 5 [(0, .ref a0), (1, .ref a1)] := hl
  refine ai_open (fun K hK0 => ?_)
  refine (hK0 _ _ _).mpr ?_
  refine lv_aload_n hx hb dX3_isWord_0 rfl (lv_at hl 0 rfl) ?_
  refine va_get (D := (dC, dI)) (ci := 3) (v := .int a0_10) (C := RX3) (T := TX3) (N := 14) hx hb hts (by decide +kernel) hown hK hP 0 rfl rfl 10 (by decide) (hts (.fieldLink RX3 61 "WaxTurns$Reade\x72" "token" "I") (by decide +kernel)) (fun _ h9 => h9) rfl dX3_isWord_1 ?_
  refine lv_iconst (v := 1) hx hb dX3_isWord_4 (by decide) ?_
  refine lv_icmp_eq (tgt := 10) hx hb dX3_isWord_5 (by decide) (fun c5 => ?_) (fun c5 => ?_)
  · have gc5 := ai_eq c5
    have u5t_a0_10 : a0_10.toInt ≤ (1 : Int) := Int.le_trans (Int.le_of_eq gc5) (by decide : (1 : Int32).toInt ≤ (1 : Int))
    have l5t_a0_10 : (1 : Int) ≤ a0_10.toInt := Int.le_trans (by decide : (1 : Int) ≤ (1 : Int32).toInt) (Int.le_of_eq gc5.symm)
    refine lv_lconst (v := 0) hx hb dX3_isWord_10 (by decide) ?_
    refine lv_lstore_n (lv' := [(2, .long 0), (0, .ref a0), (1, .ref a1)]) hx hb dX3_isWord_11 rfl hl (by decide) rfl (fun ls hl => ?_)
    refine lv_iconst (v := 0) hx hb dX3_isWord_12 (by decide) ?_
    refine lv_istore (lv' := [(4, .int 0), (2, .long 0), (0, .ref a0), (1, .ref a1)]) hx hb dX3_isWord_13 hl (by decide) rfl (fun ls hl => ?_)
    have J15 : ∀ (n : Nat) (j15l4 : Int32) (j15l2 : Int64) (H : Heap) (locs : List Loc) (ls : Array Slot), (9 : Int) - j15l4.toInt ≤ (n : Int) → (0 : Int) ≤ j15l4.toInt → j15l4.toInt ≤ (8 : Int) → va_P (dC, dI) vwCl [(a0, .inr (3, [a0g 0, a0g 1, a0g 2, a0g 3, a0g 4, a0g 5, a0g 6, a0g 7, a0g 8, a0g 9, .int a0_10, .long a0_11, a0g 12, a0g 13]))] H → va_D A [(a0, .inr (3, [a0g 0, a0g 1, a0g 2, a0g 3, a0g 4, a0g 5, a0g 6, a0g 7, a0g 8, a0g 9, .int a0_10, .long a0_11, a0g 12, a0g 13]))] → va_S A s.heap H locs → lv_has ls 5 [(0, .ref a0), (1, .ref a1), (2, .long j15l2), (4, .int j15l4)] → K H locs (F0 m 15 ls []) := by
      intro n
      induction n with
      | zero =>
        intro j15l4 j15l2 H locs ls hm bj15l4_l bj15l4_u hP hD hS hl
        have h8 := ai_min j15l4
        have h9 := ai_max j15l4
        exact absurd hm (by omega)
      | succ n ih15 =>
        intro j15l4 j15l2 H locs ls hm bj15l4_l bj15l4_u hP hD hS hl
        refine (hK0 _ _ _).mpr ?_
        have hm15 := hm
        refine lv_iload hx hb dX3_isWord_15 (lv_at hl 3 rfl) ?_
        refine lv_aload_n hx hb dX3_isWord_17 rfl (lv_at hl 1 rfl) ?_
        have hPc := hP.sub (ws' := []) [] rfl
        have hDc := hD.sub (ws' := []) [] (by decide) rfl
        have hKc := hK.sub (tys' := []) [] rfl
        have hFc := va_free (wc := []) hD hS hA [] rfl
        refine va_calli (va_runV (As := []) (rest := [.int j15l4]) ⟨hx, hb, hml, hown, hts⟩ (c_J0_length_8abf5 l dC dI H.size a1 na1 ) (cwV 0 hts gX3_isWord_J0_length_8abf5 rfl rfl rfl (by decide +kernel) ⟨Nat.le_of_ble_eq_true rfl, Nat.le_of_ble_eq_true rfl⟩) ⟨ax_blind (fun _ _ _ _ hq => sx_W_same _ _ _ _ (hq)), sx_recv hE0 hS, ax_preE hPc hKc hDc (fun U hU hW => sx_W_to hE0 hS.2.1 hFc hU hW)⟩ rfl rfl hl.1 rfl (lv_room (Nat.le_of_ble_eq_true rfl)) dX3_isWord_18 ⟨Nat.le_of_ble_eq_true rfl, Nat.le_of_ble_eq_true rfl⟩) hS (fun q _ h => hFc q h) hFc (fun r18 u t H1 locs ht hvm hw hB hz1 hk1 hS => ?_)
        obtain ⟨hP1, hK1, hD1⟩ := hB
        rw [ht] at hP1
        obtain ⟨hP, hD⟩ := va_join (wr := [(a0, .inr (3, [a0g 0, a0g 1, a0g 2, a0g 3, a0g 4, a0g 5, a0g 6, a0g 7, a0g 8, a0g 9, .int a0_10, .long a0_11, a0g 12, a0g 13]))]) (w1 := []) hP hD [] [0] rfl rfl (by decide) (by decide) hk1 hFc hP1 hD1
        generalize H1 = H at hP hS ⊢
        have hP : va_P (dC, dI) vwCl [(a0, .inr (3, [a0g 0, a0g 1, a0g 2, a0g 3, a0g 4, a0g 5, a0g 6, a0g 7, a0g 8, a0g 9, .int a0_10, .long a0_11, a0g 12, a0g 13]))] H := hP
        have hD : va_D A [(a0, .inr (3, [a0g 0, a0g 1, a0g 2, a0g 3, a0g 4, a0g 5, a0g 6, a0g 7, a0g 8, a0g 9, .int a0_10, .long a0_11, a0g 12, a0g 13]))] := hD
        rcases hw with hw
        · obtain ⟨hwr18, hnr18⟩ := hw
          refine lv_icmp_ge (tgt := 43) hx hb dX3_isWord_21 (by decide) (fun c21 => ?_) (fun c21 => ?_)
          · have gc21 := ai_le c21
            have u21t_r18 : r18.toInt ≤ (8 : Int) := (by omega : r18.toInt ≤ (8 : Int))
            have l21t_j15l4 : (0 : Int) ≤ j15l4.toInt := bj15l4_l
            refine lv_aload_n hx hb dX3_isWord_43 rfl (lv_at hl 0 rfl) ?_
            refine va_get (D := (dC, dI)) (ci := 3) (v := .long a0_11) (C := RX3) (T := TX3) (N := 14) hx hb hts (by decide +kernel) hown hK hP 0 rfl rfl 11 (by decide) (hts (.fieldLink RX3 81 "WaxTurns$Reade\x72" "word" "J") (by decide +kernel)) (fun _ h9 => h9) rfl dX3_isWord_44 ?_
            refine lv_lload_n hx hb dX3_isWord_47 rfl (lv_at hl 2 rfl) ?_
            refine W.lcmp hx hb dX3_isWord_48 ?_
            refine lv_topi (fun x48 ex48 => ?_)
            refine lv_if_ne (tgt := 56) hx hb dX3_isWord_49 (by decide) (fun c49 => ?_) (fun c49 => ?_)
            · have gc49 := ai_ne c49
              refine lv_iconst (v := 0) hx hb dX3_isWord_56 (by decide) ?_
              exact W.zret (v := 0) hx hb hr rfl (fun t ht hW => ⟨⟨0, (), rfl, (Or.inr (rfl)), by rw [ht]; exact hP, va_K.moved hW.alike hK, hD⟩, hS.F ht⟩) hS.2.2 dX3_isWord_57
            · have gc49 := ai_eq c49
              have u49f_x48 : x48.toInt ≤ (0 : Int) := Int.le_trans (Int.le_of_eq gc49) (by decide : (0 : Int32).toInt ≤ (0 : Int))
              have l49f_x48 : (0 : Int) ≤ x48.toInt := Int.le_trans (by decide : (0 : Int) ≤ (0 : Int32).toInt) (Int.le_of_eq gc49.symm)
              refine lv_iconst (v := 1) hx hb dX3_isWord_52 (by decide) ?_
              refine lv_goto (tgt := 57) hx hb dX3_isWord_53 (by decide) ?_
              exact W.zret (v := 1) hx hb hr rfl (fun t ht hW => ⟨⟨1, (), rfl, (Or.inl ⟨rfl, l5t_a0_10, u5t_a0_10⟩), by rw [ht]; exact hP, va_K.moved hW.alike hK, hD⟩, hS.F ht⟩) hS.2.2 dX3_isWord_57
          · have gc21 := ai_nle c21
            have u21f_j15l4 : j15l4.toInt ≤ (7 : Int) := ai_lthi gc21 (by omega : r18.toInt ≤ (8 : Int))
            have l21f_r18 : (1 : Int) ≤ r18.toInt := ai_ltlo gc21 bj15l4_l
            refine lv_lload_n hx hb dX3_isWord_24 rfl (lv_at hl 2 rfl) ?_
            refine lv_bipush (v := 8) hx hb dX3_isWord_25 (by decide) ?_
            refine lv_lshl hx hb dX3_isWord_27 rfl ?_
            refine lv_topl (fun x27 ex27 => ?_)
            refine lv_aload_n hx hb dX3_isWord_28 rfl (lv_at hl 1 rfl) ?_
            refine lv_iload hx hb dX3_isWord_29 (lv_at hl 3 rfl) ?_
            have hPc := hP.sub (ws' := []) [] rfl
            have hDc := hD.sub (ws' := []) [] (by decide) rfl
            have hKc := hK.sub (tys' := []) [] rfl
            have hFc := va_free (wc := []) hD hS hA [] rfl
            refine va_calli (va_runV (As := [.int j15l4]) (rest := [.long x27]) ⟨hx, hb, hml, hown, hts⟩ (c_J0_charAt_5068e l dC dI H.size a1 na1 j15l4 bj15l4_l (by omega)) (cwV 1 hts gX3_isWord_J0_charAt_5068e rfl rfl rfl (by decide +kernel) ⟨Nat.le_of_ble_eq_true rfl, Nat.le_of_ble_eq_true rfl⟩) ⟨ax_blind (fun _ _ _ _ hq => sx_W_same _ _ _ _ (hq)), sx_recv hE0 hS, ax_preE hPc hKc hDc (fun U hU hW => sx_W_to hE0 hS.2.1 hFc hU hW)⟩ rfl rfl hl.1 rfl (lv_room (Nat.le_of_ble_eq_true rfl)) dX3_isWord_31 ⟨Nat.le_of_ble_eq_true rfl, Nat.le_of_ble_eq_true rfl⟩) hS (fun q _ h => hFc q h) hFc (fun r31 u t H1 locs ht hvm hw hB hz1 hk1 hS => ?_)
            obtain ⟨hP1, hK1, hD1⟩ := hB
            rw [ht] at hP1
            obtain ⟨hP, hD⟩ := va_join (wr := [(a0, .inr (3, [a0g 0, a0g 1, a0g 2, a0g 3, a0g 4, a0g 5, a0g 6, a0g 7, a0g 8, a0g 9, .int a0_10, .long a0_11, a0g 12, a0g 13]))]) (w1 := []) hP hD [] [0] rfl rfl (by decide) (by decide) hk1 hFc hP1 hD1
            generalize H1 = H at hP hS ⊢
            have hP : va_P (dC, dI) vwCl [(a0, .inr (3, [a0g 0, a0g 1, a0g 2, a0g 3, a0g 4, a0g 5, a0g 6, a0g 7, a0g 8, a0g 9, .int a0_10, .long a0_11, a0g 12, a0g 13]))] H := hP
            have hD : va_D A [(a0, .inr (3, [a0g 0, a0g 1, a0g 2, a0g 3, a0g 4, a0g 5, a0g 6, a0g 7, a0g 8, a0g 9, .int a0_10, .long a0_11, a0g 12, a0g 13]))] := hD
            obtain ⟨x34, ex34⟩ : ∃ y : Int64, y = (r31 : Int32).toInt64 := ⟨_, rfl⟩
            refine lv_i2l (v := x34) hx hb dX3_isWord_34 ex34.symm ?_
            refine lv_lor hx hb dX3_isWord_35 ?_
            refine lv_topl (fun x35 ex35 => ?_)
            refine lv_lstore_n (lv' := [(2, .long x35), (0, .ref a0), (1, .ref a1), (4, .int j15l4)]) hx hb dX3_isWord_36 rfl hl (by decide) rfl (fun ls hl => ?_)
            obtain ⟨x37, ex37⟩ : ∃ y : Int32, y = j15l4 + Int32.ofInt 1 := ⟨_, rfl⟩
            have qx37 : x37.toInt = j15l4.toInt + 1 := ai_inc ex37 (by decide) (by decide) u21f_j15l4 (by decide)
            have bx37 : (1 : Int) ≤ x37.toInt ∧ x37.toInt ≤ 8 := ⟨by rw [qx37]; exact Int.add_le_add bj15l4_l (Int.le_refl _), by rw [qx37]; exact Int.add_le_add u21f_j15l4 (Int.le_refl _)⟩
            refine lv_iinc (v := x37) (lv' := [(4, .int x37), (2, .long x35), (0, .ref a0), (1, .ref a1)]) hx hb dX3_isWord_37 hl (k := 3) rfl ex37.symm (by decide) rfl (fun ls hl => ?_)
            refine lv_goto (tgt := 15) hx hb dX3_isWord_40 (by decide) ?_
            exact (hK0 _ _ _).mp (ih15 x37 x35 _ _ _ (by have h0 := qx37; omega) (Int.le_trans (by decide : (0 : Int) ≤ 1) bx37.1) bx37.2 hP hD hS (lv_sub hl [2, 3, 1, 0] rfl))
    exact (hK0 _ _ _).mp (J15 9 0 0 _ _ _ (by have h1 : (0 : Int) ≤ (0 : Int32).toInt := (by decide : (0 : Int) ≤ (0 : Int32).toInt); have h2 : (0 : Int32).toInt ≤ (0 : Int) := (by decide : (0 : Int32).toInt ≤ (0 : Int)); omega) (by decide : (0 : Int) ≤ (0 : Int32).toInt) (Int.le_trans (by decide : (0 : Int32).toInt ≤ (0 : Int)) (by decide : (0 : Int) ≤ 8)) hP hD hS (lv_sub hl [2, 3, 1, 0] rfl))
  · have gc5 := ai_ne c5
    refine lv_iconst (v := 0) hx hb dX3_isWord_8 (by decide) ?_
    exact W.zret (v := 0) hx hb hr rfl (fun t ht hW => ⟨⟨0, (), rfl, (Or.inr (rfl)), by rw [ht]; exact hP, va_K.moved hW.alike hK, hD⟩, hS.F ht⟩) hS.2.2 dX3_isWord_9

set_option maxHeartbeats 4000000 in
set_option maxRecDepth 100000 in
theorem c_X3_isWholeWithinP (l : Launch) (dC : Nat → ClassId) (dI : Nat → Nat → Nat) (sz : Nat) (a0 : Nat) (a1 : Int32) (a2 : Int32) (a0g : Nat → Value) (a0_1 : Int32) (a0_2 : Int32) (a0_8 : Int32) (a0_10 : Int32) (a0_12 : Int32) (ba0_8_l : (0 : Int) ≤ a0_8.toInt) (ba0_8_u : a0_8.toInt ≤ (900 : Int)) (ba0_10_l : (0 : Int) ≤ a0_10.toInt) (ba0_10_u : a0_10.toInt ≤ (4 : Int)) : Met l yX3_isWholeWithin wsX3_isWholeWithin ({ frames := 1, cells := 0, slots := 0, locals := 22 }) (va_Pc [.ref a0, .int a1, .int a2] (ax_C dC dI sz [(a0, .inr (3, [a0g 0, .int a0_1, .int a0_2, a0g 3, a0g 4, a0g 5, a0g 6, a0g 7, .int a0_8, a0g 9, .int a0_10, a0g 11, .int a0_12, a0g 13]))] [] (fun U => va_Nw (.methodLinkNest RX3 223 yX7_within RX7) U))) (va_Qi (fun (r : Int32) (_ : Unit) => (r = 1 ∧ a1.toInt ≤ a0_12.toInt ∧ a0_12.toInt ≤ a2.toInt) ∨ r = 0) (fun (_ : Unit) (t : State) => ∃ na0_1 : Int32, ∃ na0_2 : Int32, ax_B dC dI (va_A [(a0, .inr (3, [a0g 0, .int a0_1, .int a0_2, a0g 3, a0g 4, a0g 5, a0g 6, a0g 7, .int a0_8, a0g 9, .int a0_10, a0g 11, .int a0_12, a0g 13]))] sz) [(a0, .inr (3, [a0g 0, .int na0_1, .int na0_2, a0g 3, a0g 4, a0g 5, a0g 6, a0g 7, .int a0_8, a0g 9, .int a0_10, a0g 11, .int a0_12, a0g 13]))] [] t) (va_A [(a0, .inr (3, [a0g 0, .int a0_1, .int a0_2, a0g 3, a0g 4, a0g 5, a0g 6, a0g 7, .int a0_8, a0g 9, .int a0_10, a0g 11, .int a0_12, a0g 13]))] sz)) 0 0 (va_A [(a0, .inr (3, [a0g 0, .int a0_1, .int a0_2, a0g 3, a0g 4, a0g 5, a0g 6, a0g 7, .int a0_8, a0g 9, .int a0_10, a0g 11, .int a0_12, a0g 13]))] sz) := by
  refine Met.ofW (cc := cX3_isWholeWithin) (maxL := 3) (ret := (some .boolean)) (by decide) rfl ?_
  intro p e s m args below meth c s₁ B hml hv
  obtain ⟨rfl, hsz, hP, hK, hD0, hE⟩ := hv
  have hx := B.exec
  have hb := B.bytes
  have hr := B.returns
  have hts := atoms_spec (ws := wsX3_isWholeWithin) B.pre
  have hown : s.vm.findClass RX3 = some m.cls := findClass_of_methodNamed B.named
  have hlocks := B.notSynchronized
  subst hsz
  have hD := hD0.self (sz := s.heap.size)
  generalize hAe : va_A [(a0, .inr (3, [a0g 0, .int a0_1, .int a0_2, a0g 3, a0g 4, a0g 5, a0g 6, a0g 7, .int a0_8, a0g 9, .int a0_10, a0g 11, .int a0_12, a0g 13]))] s.heap.size = A at hD ⊢
  have hA : ∀ q : Nat, s.heap.size ≤ q → A q := fun q h => by rw [← hAe]; exact Or.inr h
  have hS : va_S A s.heap s.heap [] := va_S.rf
  have hP : va_P (dC, dI) vwCl [(a0, .inr (3, [a0g 0, .int a0_1, .int a0_2, a0g 3, a0g 4, a0g 5, a0g 6, a0g 7, .int a0_8, a0g 9, .int a0_10, a0g 11, .int a0_12, a0g 13]))] s.heap := hP
  have hE0 := hE
  have hl := lv_entry ([.ref a0, .int a1, .int a2]) (n := 3) (Nat.le_of_ble_eq_true rfl)
  rw [lg_entry_eq]
  generalize (lg_sl ([.ref a0, .int a1, .int a2]) ++ List.replicate (3 - (lg_sl ([.ref a0, .int a1, .int a2])).length) Slot.unset).toArray = ls at hl ⊢
  have hl : lv_has ls 3 [(0, .ref a0), (1, .int a1), (2, .int a2)] := hl
  refine lv_aload_n hx hb dX3_isWholeWithin_0 rfl (lv_at hl 0 rfl) ?_
  refine va_get (D := (dC, dI)) (ci := 3) (v := .int a0_10) (C := RX3) (T := TX3) (N := 14) hx hb hts (by decide +kernel) hown hK hP 0 rfl rfl 10 (by decide) (hts (.fieldLink RX3 61 "WaxTurns$Reade\x72" "token" "I") (by decide +kernel)) (fun _ h9 => h9) rfl dX3_isWholeWithin_1 ?_
  refine lv_iconst (v := 2) hx hb dX3_isWholeWithin_4 (by decide) ?_
  refine lv_icmp_eq (tgt := 14) hx hb dX3_isWholeWithin_5 (by decide) (fun c5 => ?_) (fun c5 => ?_)
  · have gc5 := ai_eq c5
    have u5t_a0_10 : a0_10.toInt ≤ (2 : Int) := Int.le_trans (Int.le_of_eq gc5) (by decide : (2 : Int32).toInt ≤ (2 : Int))
    have l5t_a0_10 : (2 : Int) ≤ a0_10.toInt := Int.le_trans (by decide : (2 : Int) ≤ (2 : Int32).toInt) (Int.le_of_eq gc5.symm)
    refine lv_aload_n hx hb dX3_isWholeWithin_14 rfl (lv_at hl 0 rfl) ?_
    refine va_get (D := (dC, dI)) (ci := 3) (v := .int a0_12) (C := RX3) (T := TX3) (N := 14) hx hb hts (by decide +kernel) hown hK hP 0 rfl rfl 12 (by decide) (hts (.fieldLink RX3 85 "WaxTurns$Reade\x72" "whole" "I") (by decide +kernel)) (fun _ h9 => h9) rfl dX3_isWholeWithin_15 ?_
    refine lv_iload_n hx hb dX3_isWholeWithin_18 rfl (lv_at hl 1 rfl) ?_
    refine lv_iload_n hx hb dX3_isWholeWithin_19 rfl (lv_at hl 2 rfl) ?_
    have hPc := hP.sub (ws' := []) [] rfl
    have hDc := hD.sub (ws' := []) [] (by decide) rfl
    have hKc := hK.sub (tys' := []) [] rfl
    have hFc := va_free (wc := []) hD hS hA [] rfl
    refine va_calli (va_runSN (As := [.int a0_12, .int a1, .int a2]) (rest := []) ⟨hx, hb, hml, hown, hts⟩ (c_X7_within l dC dI s.heap.size a0_12 a1 a2 ) ⟨va_cnB 3 hts gX3_isWholeWithin_X7_within_n223 rfl rfl rfl hE0 (hts (.initialized RX7) (by decide +kernel)) (by decide +kernel) ⟨Nat.le_of_ble_eq_true rfl, Nat.le_of_ble_eq_true rfl⟩, (hts (.static yX7_within) (by decide +kernel)), trivial⟩ ⟨ax_blind (fun _ _ _ _ _ => trivial), ax_pre hPc hKc hDc (fun _ _ => trivial)⟩ rfl rfl hl.1 rfl (lv_room (Nat.le_of_ble_eq_true rfl)) dX3_isWholeWithin_20 ⟨Nat.le_of_ble_eq_true rfl, Nat.le_of_ble_eq_true rfl⟩) hS (fun q _ h => hFc q h) hFc (fun r20 u t H1 locs ht hvm hw hB hz1 hk1 hS => ?_)
    obtain ⟨hP1, hK1, hD1⟩ := hB
    rw [ht] at hP1
    obtain ⟨hP, hD⟩ := va_join (wr := [(a0, .inr (3, [a0g 0, .int a0_1, .int a0_2, a0g 3, a0g 4, a0g 5, a0g 6, a0g 7, .int a0_8, a0g 9, .int a0_10, a0g 11, .int a0_12, a0g 13]))]) (w1 := []) hP hD [] [0] rfl rfl (by decide) (by decide) hk1 hFc hP1 hD1
    generalize H1 = H at hP hS ⊢
    have hP : va_P (dC, dI) vwCl [(a0, .inr (3, [a0g 0, .int a0_1, .int a0_2, a0g 3, a0g 4, a0g 5, a0g 6, a0g 7, .int a0_8, a0g 9, .int a0_10, a0g 11, .int a0_12, a0g 13]))] H := hP
    have hD : va_D A [(a0, .inr (3, [a0g 0, .int a0_1, .int a0_2, a0g 3, a0g 4, a0g 5, a0g 6, a0g 7, .int a0_8, a0g 9, .int a0_10, a0g 11, .int a0_12, a0g 13]))] := hD
    rcases hw with hw | hw
    · obtain ⟨hw, h20⟩ := hw
      subst hw
      refine lv_if_ne (tgt := 34) hx hb dX3_isWholeWithin_23 (by decide) (fun _ => ?_) (fun c23 => absurd c23 (by decide +kernel))
      refine lv_iconst (v := 1) hx hb dX3_isWholeWithin_34 (by decide) ?_
      refine lv_goto (tgt := 39) hx hb dX3_isWholeWithin_35 (by decide) ?_
      exact W.zret (v := 1) hx hb hr rfl (fun t ht hW => ⟨⟨1, (), rfl, (Or.inl ⟨rfl, h20⟩), a0_1, a0_2, by rw [ht]; exact hP, va_K.moved hW.alike hK, hD⟩, hS.F ht⟩) hS.2.2 dX3_isWholeWithin_39
    · obtain ⟨hw, h20⟩ := hw
      subst hw
      refine lv_if_ne (tgt := 34) hx hb dX3_isWholeWithin_23 (by decide) (fun c23 => absurd (by decide +kernel) c23) (fun _ => ?_)
      refine lv_aload_n hx hb dX3_isWholeWithin_26 rfl (lv_at hl 0 rfl) ?_
      refine lv_iconst (v := 4) hx hb dX3_isWholeWithin_27 (by decide) ?_
      have hPc := hP.sub (ws' := [(a0, .inr (3, [a0g 0, .int a0_1, .int a0_2, a0g 3, a0g 4, a0g 5, a0g 6, a0g 7, .int a0_8, a0g 9, .int a0_10, a0g 11, .int a0_12, a0g 13]))]) [0] rfl
      have hDc := hD.sub (ws' := [(a0, .inr (3, [a0g 0, .int a0_1, .int a0_2, a0g 3, a0g 4, a0g 5, a0g 6, a0g 7, .int a0_8, a0g 9, .int a0_10, a0g 11, .int a0_12, a0g 13]))]) [0] (by decide) rfl
      have hKc := hK.sub (tys' := []) [] rfl
      have hFc := va_free (wc := [(a0, .inr (3, [a0g 0, .int a0_1, .int a0_2, a0g 3, a0g 4, a0g 5, a0g 6, a0g 7, .int a0_8, a0g 9, .int a0_10, a0g 11, .int a0_12, a0g 13]))]) hD hS hA [0] rfl
      refine va_calli (va_runV (As := [.int 4]) (rest := []) ⟨hx, hb, hml, hown, hts⟩ (c_X3_fails l dC dI H.size a0 4 (fun i9 => ([a0g 0, .null, .null, a0g 3, a0g 4, a0g 5, a0g 6, a0g 7, .null, a0g 9, .int a0_10, a0g 11, .int a0_12, a0g 13] : List Value).getD i9 .null) a0_1 a0_2 a0_8 ba0_8_l ba0_8_u) (cwV 1 hts gX3_isWholeWithin_X3_fails rfl rfl rfl (by decide +kernel) ⟨Nat.le_of_ble_eq_true rfl, Nat.le_of_ble_eq_true rfl⟩) ⟨ax_blind (fun _ _ _ _ _ => trivial), va_recv hKc hPc (ci := 3) (q0 := 0) rfl rfl, ax_pre hPc hKc hDc (fun _ _ => trivial)⟩ rfl rfl hl.1 rfl (lv_room (Nat.le_of_ble_eq_true rfl)) dX3_isWholeWithin_28 ⟨Nat.le_of_ble_eq_true rfl, Nat.le_of_ble_eq_true rfl⟩) hS (fun q _ h => hFc q h) hFc (fun r28 u t H1 locs ht hvm hw hB hz1 hk1 hS => ?_)
      obtain ⟨v28na0_1, v28na0_2, hP1, hK1, hD1⟩ := hB
      rw [ht] at hP1
      obtain ⟨hP, hD⟩ := va_join (wr := []) (w1 := [(a0, .inr (3, [a0g 0, .int v28na0_1, .int v28na0_2, a0g 3, a0g 4, a0g 5, a0g 6, a0g 7, .int a0_8, a0g 9, .int a0_10, a0g 11, .int a0_12, a0g 13]))]) hP hD [0] [] rfl rfl (by decide) (by decide) hk1 hFc hP1 hD1
      generalize H1 = H at hP hS ⊢
      have hP : va_P (dC, dI) vwCl [(a0, .inr (3, [a0g 0, .int v28na0_1, .int v28na0_2, a0g 3, a0g 4, a0g 5, a0g 6, a0g 7, .int a0_8, a0g 9, .int a0_10, a0g 11, .int a0_12, a0g 13]))] H := hP
      have hD : va_D A [(a0, .inr (3, [a0g 0, .int v28na0_1, .int v28na0_2, a0g 3, a0g 4, a0g 5, a0g 6, a0g 7, .int a0_8, a0g 9, .int a0_10, a0g 11, .int a0_12, a0g 13]))] := hD
      have hw : r28 = 0 := hw
      have hw := hw.symm
      subst hw
      refine lv_if_eq (tgt := 38) hx hb dX3_isWholeWithin_31 (by decide) (fun _ => ?_) (fun c31 => absurd (by decide +kernel) c31)
      refine lv_iconst (v := 0) hx hb dX3_isWholeWithin_38 (by decide) ?_
      exact W.zret (v := 0) hx hb hr rfl (fun t ht hW => ⟨⟨0, (), rfl, (Or.inr rfl), v28na0_1, v28na0_2, by rw [ht]; exact hP, va_K.moved hW.alike hK, hD⟩, hS.F ht⟩) hS.2.2 dX3_isWholeWithin_39
  · have gc5 := ai_ne c5
    refine lv_aload_n hx hb dX3_isWholeWithin_8 rfl (lv_at hl 0 rfl) ?_
    refine lv_iconst (v := 1) hx hb dX3_isWholeWithin_9 (by decide) ?_
    have hPc := hP.sub (ws' := [(a0, .inr (3, [a0g 0, .int a0_1, .int a0_2, a0g 3, a0g 4, a0g 5, a0g 6, a0g 7, .int a0_8, a0g 9, .int a0_10, a0g 11, .int a0_12, a0g 13]))]) [0] rfl
    have hDc := hD.sub (ws' := [(a0, .inr (3, [a0g 0, .int a0_1, .int a0_2, a0g 3, a0g 4, a0g 5, a0g 6, a0g 7, .int a0_8, a0g 9, .int a0_10, a0g 11, .int a0_12, a0g 13]))]) [0] (by decide) rfl
    have hKc := hK.sub (tys' := []) [] rfl
    have hFc := va_free (wc := [(a0, .inr (3, [a0g 0, .int a0_1, .int a0_2, a0g 3, a0g 4, a0g 5, a0g 6, a0g 7, .int a0_8, a0g 9, .int a0_10, a0g 11, .int a0_12, a0g 13]))]) hD hS hA [0] rfl
    refine va_calli (va_runV (As := [.int 1]) (rest := []) ⟨hx, hb, hml, hown, hts⟩ (c_X3_fails l dC dI s.heap.size a0 1 (fun i9 => ([a0g 0, .null, .null, a0g 3, a0g 4, a0g 5, a0g 6, a0g 7, .null, a0g 9, .int a0_10, a0g 11, .int a0_12, a0g 13] : List Value).getD i9 .null) a0_1 a0_2 a0_8 ba0_8_l ba0_8_u) (cwV 1 hts gX3_isWholeWithin_X3_fails rfl rfl rfl (by decide +kernel) ⟨Nat.le_of_ble_eq_true rfl, Nat.le_of_ble_eq_true rfl⟩) ⟨ax_blind (fun _ _ _ _ _ => trivial), va_recv hKc hPc (ci := 3) (q0 := 0) rfl rfl, ax_pre hPc hKc hDc (fun _ _ => trivial)⟩ rfl rfl hl.1 rfl (lv_room (Nat.le_of_ble_eq_true rfl)) dX3_isWholeWithin_10 ⟨Nat.le_of_ble_eq_true rfl, Nat.le_of_ble_eq_true rfl⟩) hS (fun q _ h => hFc q h) hFc (fun r10 u t H1 locs ht hvm hw hB hz1 hk1 hS => ?_)
    obtain ⟨v10na0_1, v10na0_2, hP1, hK1, hD1⟩ := hB
    rw [ht] at hP1
    obtain ⟨hP, hD⟩ := va_join (wr := []) (w1 := [(a0, .inr (3, [a0g 0, .int v10na0_1, .int v10na0_2, a0g 3, a0g 4, a0g 5, a0g 6, a0g 7, .int a0_8, a0g 9, .int a0_10, a0g 11, .int a0_12, a0g 13]))]) hP hD [0] [] rfl rfl (by decide) (by decide) hk1 hFc hP1 hD1
    generalize H1 = H at hP hS ⊢
    have hP : va_P (dC, dI) vwCl [(a0, .inr (3, [a0g 0, .int v10na0_1, .int v10na0_2, a0g 3, a0g 4, a0g 5, a0g 6, a0g 7, .int a0_8, a0g 9, .int a0_10, a0g 11, .int a0_12, a0g 13]))] H := hP
    have hD : va_D A [(a0, .inr (3, [a0g 0, .int v10na0_1, .int v10na0_2, a0g 3, a0g 4, a0g 5, a0g 6, a0g 7, .int a0_8, a0g 9, .int a0_10, a0g 11, .int a0_12, a0g 13]))] := hD
    have hw : r10 = 0 := hw
    have hw := hw.symm
    subst hw
    exact W.zret (v := 0) hx hb hr rfl (fun t ht hW => ⟨⟨0, (), rfl, (Or.inr rfl), v10na0_1, v10na0_2, by rw [ht]; exact hP, va_K.moved hW.alike hK, hD⟩, hS.F ht⟩) hS.2.2 dX3_isWholeWithin_13

set_option maxHeartbeats 4000000 in
set_option maxRecDepth 100000 in
theorem c_X3_takeWord (l : Launch) (dC : Nat → ClassId) (dI : Nat → Nat → Nat) (sz : Nat) (a0 : Nat) (a1 : Nat) (a0g : Nat → Value) (a0_1 : Int32) (a0_2 : Int32) (a0_3 : Nat) (a0_7 : Int32) (a0_8 : Int32) (a0_9 : Int32) (a0_10 : Int32) (a0_11 : Int64) (a0_12 : Int32) (ka0_3 : ClassId) (fa0_3 : Nat → Int32) (na1 : Nat) (ba0_7_l : (0 : Int) ≤ a0_7.toInt) (ba0_7_u : a0_7.toInt ≤ (900 : Int)) (ba0_8_l : (0 : Int) ≤ a0_8.toInt) (ba0_8_u : a0_8.toInt ≤ (900 : Int)) (ba0_9_l : (0 : Int) ≤ a0_9.toInt) (ba0_9_u : a0_9.toInt ≤ (900 : Int)) (ba0_10_l : (0 : Int) ≤ a0_10.toInt) (ba0_10_u : a0_10.toInt ≤ (4 : Int)) : Met l yX3_takeWord wsX3_takeWord ({ frames := 5, cells := 0, slots := 0, locals := 109 }) (va_Pc [.ref a0, .ref a1] (ax_C dC dI sz [(a0, .inr (3, [a0g 0, .int a0_1, .int a0_2, .ref a0_3, a0g 4, a0g 5, a0g 6, .int a0_7, .int a0_8, .int a0_9, .int a0_10, .long a0_11, .int a0_12, a0g 13])), (a0_3, .inl (ka0_3, 900, .inl (fa0_3)))] [(ka0_3, .byte)] (fun U => sx_W a1 na1 (va_A [(a0, .inr (3, [a0g 0, .int a0_1, .int a0_2, .ref a0_3, a0g 4, a0g 5, a0g 6, .int a0_7, .int a0_8, .int a0_9, .int a0_10, .long a0_11, .int a0_12, a0g 13])), (a0_3, .inl (ka0_3, 900, .inl (fa0_3)))] sz) U))) (va_Qi (fun (r : Int32) (_ : Unit) => (r = 1) ∨ (r = 0)) (fun (_ : Unit) (t : State) => ∃ na0_1 : Int32, ∃ na0_2 : Int32, ∃ na0_8 : Int32, ∃ na0_9 : Int32, ∃ na0_10 : Int32, ∃ na0_11 : Int64, ∃ na0_12 : Int32, ((0 : Int) ≤ na0_8.toInt ∧ na0_8.toInt ≤ 900) ∧ ((0 : Int) ≤ na0_9.toInt ∧ na0_9.toInt ≤ 900) ∧ ((0 : Int) ≤ na0_10.toInt ∧ na0_10.toInt ≤ 4) ∧ ax_B dC dI (va_A [(a0, .inr (3, [a0g 0, .int a0_1, .int a0_2, .ref a0_3, a0g 4, a0g 5, a0g 6, .int a0_7, .int a0_8, .int a0_9, .int a0_10, .long a0_11, .int a0_12, a0g 13])), (a0_3, .inl (ka0_3, 900, .inl (fa0_3)))] sz) [(a0, .inr (3, [a0g 0, .int na0_1, .int na0_2, .ref a0_3, a0g 4, a0g 5, a0g 6, .int a0_7, .int na0_8, .int na0_9, .int na0_10, .long na0_11, .int na0_12, a0g 13])), (a0_3, .inl (ka0_3, 900, .inl (fa0_3)))] [(ka0_3, .byte)] t) (va_A [(a0, .inr (3, [a0g 0, .int a0_1, .int a0_2, .ref a0_3, a0g 4, a0g 5, a0g 6, .int a0_7, .int a0_8, .int a0_9, .int a0_10, .long a0_11, .int a0_12, a0g 13])), (a0_3, .inl (ka0_3, 900, .inl (fa0_3)))] sz)) 0 0 (va_A [(a0, .inr (3, [a0g 0, .int a0_1, .int a0_2, .ref a0_3, a0g 4, a0g 5, a0g 6, .int a0_7, .int a0_8, .int a0_9, .int a0_10, .long a0_11, .int a0_12, a0g 13])), (a0_3, .inl (ka0_3, 900, .inl (fa0_3)))] sz) := by
  refine Met.ofW (cc := cX3_takeWord) (maxL := 2) (ret := (some .boolean)) (by decide) rfl ?_
  intro p e s m args below meth c s₁ B hml hv
  obtain ⟨rfl, hsz, hP, hK, hD0, hE⟩ := hv
  have hx := B.exec
  have hb := B.bytes
  have hr := B.returns
  have hts := atoms_spec (ws := wsX3_takeWord) B.pre
  have hown : s.vm.findClass RX3 = some m.cls := findClass_of_methodNamed B.named
  have hlocks := B.notSynchronized
  subst hsz
  have hD := hD0.self (sz := s.heap.size)
  generalize hAe : va_A [(a0, .inr (3, [a0g 0, .int a0_1, .int a0_2, .ref a0_3, a0g 4, a0g 5, a0g 6, .int a0_7, .int a0_8, .int a0_9, .int a0_10, .long a0_11, .int a0_12, a0g 13])), (a0_3, .inl (ka0_3, 900, .inl (fa0_3)))] s.heap.size = A at hD hE ⊢
  have hA : ∀ q : Nat, s.heap.size ≤ q → A q := fun q h => by rw [← hAe]; exact Or.inr h
  have hS : va_S A s.heap s.heap [] := va_S.rf
  have hP : va_P (dC, dI) vwCl [(a0, .inr (3, [a0g 0, .int a0_1, .int a0_2, .ref a0_3, a0g 4, a0g 5, a0g 6, .int a0_7, .int a0_8, .int a0_9, .int a0_10, .long a0_11, .int a0_12, a0g 13])), (a0_3, .inl (ka0_3, 900, .inl (fa0_3)))] s.heap := hP
  have hE0 := hE
  have hl := lv_entry ([.ref a0, .ref a1]) (n := 2) (Nat.le_of_ble_eq_true rfl)
  rw [lg_entry_eq]
  generalize (lg_sl ([.ref a0, .ref a1]) ++ List.replicate (2 - (lg_sl ([.ref a0, .ref a1])).length) Slot.unset).toArray = ls at hl ⊢
  have hl : lv_has ls 2 [(0, .ref a0), (1, .ref a1)] := hl
  refine lv_aload_n hx hb dX3_takeWord_0 rfl (lv_at hl 0 rfl) ?_
  refine lv_aload_n hx hb dX3_takeWord_1 rfl (lv_at hl 1 rfl) ?_
  have hPc := hP.sub (ws' := [(a0, .inr (3, [a0g 0, .int a0_1, .int a0_2, .ref a0_3, a0g 4, a0g 5, a0g 6, .int a0_7, .int a0_8, .int a0_9, .int a0_10, .long a0_11, .int a0_12, a0g 13]))]) [0] rfl
  have hDc := hD.sub (ws' := [(a0, .inr (3, [a0g 0, .int a0_1, .int a0_2, .ref a0_3, a0g 4, a0g 5, a0g 6, .int a0_7, .int a0_8, .int a0_9, .int a0_10, .long a0_11, .int a0_12, a0g 13]))]) [0] (by decide) rfl
  have hKc := hK.sub (tys' := []) [] rfl
  have hFc := va_free (wc := [(a0, .inr (3, [a0g 0, .int a0_1, .int a0_2, .ref a0_3, a0g 4, a0g 5, a0g 6, .int a0_7, .int a0_8, .int a0_9, .int a0_10, .long a0_11, .int a0_12, a0g 13]))]) hD hS hA [0] rfl
  refine va_calli (va_runV (As := [.ref a1]) (rest := []) ⟨hx, hb, hml, hown, hts⟩ (c_X3_isWord l dC dI s.heap.size a0 a1 (fun i9 => ([a0g 0, .int a0_1, .int a0_2, .ref a0_3, a0g 4, a0g 5, a0g 6, .int a0_7, .int a0_8, .int a0_9, .null, .null, .int a0_12, a0g 13] : List Value).getD i9 .null) a0_10 a0_11 na1 ba0_10_l ba0_10_u) (cwV 1 hts gX3_takeWord_X3_isWord rfl rfl rfl (by decide +kernel) ⟨Nat.le_of_ble_eq_true rfl, Nat.le_of_ble_eq_true rfl⟩) ⟨ax_blind (fun _ _ _ _ hq => sx_W_same _ _ _ _ (hq)), va_recv hKc hPc (ci := 3) (q0 := 0) rfl rfl, ax_preE hPc hKc hDc (fun U hU hW => sx_W_to hE0 hS.2.1 hFc hU hW)⟩ rfl rfl hl.1 rfl (lv_room (Nat.le_of_ble_eq_true rfl)) dX3_takeWord_2 ⟨Nat.le_of_ble_eq_true rfl, Nat.le_of_ble_eq_true rfl⟩) hS (fun q _ h => hFc q h) hFc (fun r2 u t H1 locs ht hvm hw hB hz1 hk1 hS => ?_)
  obtain ⟨hP1, hK1, hD1⟩ := hB
  rw [ht] at hP1
  obtain ⟨hP, hD⟩ := va_join (wr := [(a0_3, .inl (ka0_3, 900, .inl (fa0_3)))]) (w1 := [(a0, .inr (3, [a0g 0, .int a0_1, .int a0_2, .ref a0_3, a0g 4, a0g 5, a0g 6, .int a0_7, .int a0_8, .int a0_9, .int a0_10, .long a0_11, .int a0_12, a0g 13]))]) hP hD [0] [1] rfl rfl (by decide) (by decide) hk1 hFc hP1 hD1
  generalize H1 = H at hP hS ⊢
  have hP : va_P (dC, dI) vwCl [(a0, .inr (3, [a0g 0, .int a0_1, .int a0_2, .ref a0_3, a0g 4, a0g 5, a0g 6, .int a0_7, .int a0_8, .int a0_9, .int a0_10, .long a0_11, .int a0_12, a0g 13])), (a0_3, .inl (ka0_3, 900, .inl (fa0_3)))] H := hP.sub [1, 0] rfl
  have hD : va_D A [(a0, .inr (3, [a0g 0, .int a0_1, .int a0_2, .ref a0_3, a0g 4, a0g 5, a0g 6, .int a0_7, .int a0_8, .int a0_9, .int a0_10, .long a0_11, .int a0_12, a0g 13])), (a0_3, .inl (ka0_3, 900, .inl (fa0_3)))] := hD.sub [1, 0] (by decide) rfl
  rcases hw with hw | hw
  · obtain ⟨hw, h2_0, h2_1⟩ := hw
    subst hw
    have l2k0_a0_10 : (1 : Int) ≤ a0_10.toInt := h2_0
    have u2k0_a0_10 : a0_10.toInt ≤ (1 : Int) := h2_1
    refine lv_if_ne (tgt := 14) hx hb dX3_takeWord_5 (by decide) (fun _ => ?_) (fun c5 => absurd c5 (by decide +kernel))
    refine lv_aload_n hx hb dX3_takeWord_14 rfl (lv_at hl 0 rfl) ?_
    have hPc := hP.sub (ws' := [(a0, .inr (3, [a0g 0, .int a0_1, .int a0_2, .ref a0_3, a0g 4, a0g 5, a0g 6, .int a0_7, .int a0_8, .int a0_9, .int a0_10, .long a0_11, .int a0_12, a0g 13])), (a0_3, .inl (ka0_3, 900, .inl (fa0_3)))]) [0, 1] rfl
    have hDc := hD.sub (ws' := [(a0, .inr (3, [a0g 0, .int a0_1, .int a0_2, .ref a0_3, a0g 4, a0g 5, a0g 6, .int a0_7, .int a0_8, .int a0_9, .int a0_10, .long a0_11, .int a0_12, a0g 13])), (a0_3, .inl (ka0_3, 900, .inl (fa0_3)))]) [0, 1] (by decide) rfl
    have hKc := hK.sub (tys' := [(ka0_3, .byte)]) [0] rfl
    have hFc := va_free (wc := [(a0, .inr (3, [a0g 0, .int a0_1, .int a0_2, .ref a0_3, a0g 4, a0g 5, a0g 6, .int a0_7, .int a0_8, .int a0_9, .int a0_10, .long a0_11, .int a0_12, a0g 13])), (a0_3, .inl (ka0_3, 900, .inl (fa0_3)))]) hD hS hA [0, 1] rfl
    refine va_callv (va_runV (As := []) (rest := []) ⟨hx, hb, hml, hown, hts⟩ (c_X3_advance l dC dI H.size a0 (fun i9 => ([a0g 0, .int a0_1, .int a0_2, .null, a0g 4, a0g 5, a0g 6, .null, .null, .null, .null, .null, .null, a0g 13] : List Value).getD i9 .null) a0_3 a0_7 a0_8 a0_9 a0_10 a0_11 a0_12 ka0_3 fa0_3 ba0_7_l ba0_7_u ba0_8_l ba0_8_u ba0_9_l ba0_9_u (Int.le_trans (by decide : (0 : Int) ≤ 1) l2k0_a0_10) (Int.le_trans u2k0_a0_10 (by decide : (1 : Int) ≤ 4))) (cwV 0 hts gX3_takeWord_X3_advance rfl rfl rfl (by decide +kernel) ⟨Nat.le_of_ble_eq_true rfl, Nat.le_of_ble_eq_true rfl⟩) ⟨ax_blind (fun _ _ _ _ _ => trivial), va_recv hKc hPc (ci := 3) (q0 := 0) rfl rfl, ax_pre hPc hKc hDc (fun _ _ => trivial)⟩ rfl rfl hl.1 rfl (lv_room (Nat.le_of_ble_eq_true rfl)) dX3_takeWord_15 ⟨Nat.le_of_ble_eq_true rfl, Nat.le_of_ble_eq_true rfl⟩) hS (fun q _ h => hFc q h) hFc (fun u t H1 locs ht hvm hw hB hz1 hk1 hS => ?_)
    obtain ⟨v15na0_8, v15na0_9, v15na0_10, v15na0_11, v15na0_12, bv15na0_8, bv15na0_9, bv15na0_10, hP1, hK1, hD1⟩ := hB
    rw [ht] at hP1
    obtain ⟨hP, hD⟩ := va_join (wr := []) (w1 := [(a0, .inr (3, [a0g 0, .int a0_1, .int a0_2, .ref a0_3, a0g 4, a0g 5, a0g 6, .int a0_7, .int v15na0_8, .int v15na0_9, .int v15na0_10, .long v15na0_11, .int v15na0_12, a0g 13])), (a0_3, .inl (ka0_3, 900, .inl (fa0_3)))]) hP hD [0, 1] [] rfl rfl (by decide) (by decide) hk1 hFc hP1 hD1
    generalize H1 = H at hP hS ⊢
    have hP : va_P (dC, dI) vwCl [(a0, .inr (3, [a0g 0, .int a0_1, .int a0_2, .ref a0_3, a0g 4, a0g 5, a0g 6, .int a0_7, .int v15na0_8, .int v15na0_9, .int v15na0_10, .long v15na0_11, .int v15na0_12, a0g 13])), (a0_3, .inl (ka0_3, 900, .inl (fa0_3)))] H := hP
    have hD : va_D A [(a0, .inr (3, [a0g 0, .int a0_1, .int a0_2, .ref a0_3, a0g 4, a0g 5, a0g 6, .int a0_7, .int v15na0_8, .int v15na0_9, .int v15na0_10, .long v15na0_11, .int v15na0_12, a0g 13])), (a0_3, .inl (ka0_3, 900, .inl (fa0_3)))] := hD
    refine lv_iconst (v := 1) hx hb dX3_takeWord_18 (by decide) ?_
    exact W.zret (v := 1) hx hb hr rfl (fun t ht hW => ⟨⟨1, (), rfl, (Or.inl (rfl)), a0_1, a0_2, v15na0_8, v15na0_9, v15na0_10, v15na0_11, v15na0_12, ⟨bv15na0_8.1, bv15na0_8.2⟩, ⟨bv15na0_9.1, bv15na0_9.2⟩, ⟨bv15na0_10.1, bv15na0_10.2⟩, by rw [ht]; exact hP, va_K.moved hW.alike hK, hD⟩, hS.F ht⟩) hS.2.2 dX3_takeWord_19
  · subst hw
    refine lv_if_ne (tgt := 14) hx hb dX3_takeWord_5 (by decide) (fun c5 => absurd (by decide +kernel) c5) (fun _ => ?_)
    refine lv_aload_n hx hb dX3_takeWord_8 rfl (lv_at hl 0 rfl) ?_
    refine lv_iconst (v := 1) hx hb dX3_takeWord_9 (by decide) ?_
    have hPc := hP.sub (ws' := [(a0, .inr (3, [a0g 0, .int a0_1, .int a0_2, .ref a0_3, a0g 4, a0g 5, a0g 6, .int a0_7, .int a0_8, .int a0_9, .int a0_10, .long a0_11, .int a0_12, a0g 13]))]) [0] rfl
    have hDc := hD.sub (ws' := [(a0, .inr (3, [a0g 0, .int a0_1, .int a0_2, .ref a0_3, a0g 4, a0g 5, a0g 6, .int a0_7, .int a0_8, .int a0_9, .int a0_10, .long a0_11, .int a0_12, a0g 13]))]) [0] (by decide) rfl
    have hKc := hK.sub (tys' := []) [] rfl
    have hFc := va_free (wc := [(a0, .inr (3, [a0g 0, .int a0_1, .int a0_2, .ref a0_3, a0g 4, a0g 5, a0g 6, .int a0_7, .int a0_8, .int a0_9, .int a0_10, .long a0_11, .int a0_12, a0g 13]))]) hD hS hA [0] rfl
    refine va_calli (va_runV (As := [.int 1]) (rest := []) ⟨hx, hb, hml, hown, hts⟩ (c_X3_fails l dC dI H.size a0 1 (fun i9 => ([a0g 0, .null, .null, .ref a0_3, a0g 4, a0g 5, a0g 6, .int a0_7, .null, .int a0_9, .int a0_10, .long a0_11, .int a0_12, a0g 13] : List Value).getD i9 .null) a0_1 a0_2 a0_8 ba0_8_l ba0_8_u) (cwV 1 hts gX3_takeWord_X3_fails rfl rfl rfl (by decide +kernel) ⟨Nat.le_of_ble_eq_true rfl, Nat.le_of_ble_eq_true rfl⟩) ⟨ax_blind (fun _ _ _ _ _ => trivial), va_recv hKc hPc (ci := 3) (q0 := 0) rfl rfl, ax_pre hPc hKc hDc (fun _ _ => trivial)⟩ rfl rfl hl.1 rfl (lv_room (Nat.le_of_ble_eq_true rfl)) dX3_takeWord_10 ⟨Nat.le_of_ble_eq_true rfl, Nat.le_of_ble_eq_true rfl⟩) hS (fun q _ h => hFc q h) hFc (fun r10 u t H1 locs ht hvm hw hB hz1 hk1 hS => ?_)
    obtain ⟨v10na0_1, v10na0_2, hP1, hK1, hD1⟩ := hB
    rw [ht] at hP1
    obtain ⟨hP, hD⟩ := va_join (wr := [(a0_3, .inl (ka0_3, 900, .inl (fa0_3)))]) (w1 := [(a0, .inr (3, [a0g 0, .int v10na0_1, .int v10na0_2, .ref a0_3, a0g 4, a0g 5, a0g 6, .int a0_7, .int a0_8, .int a0_9, .int a0_10, .long a0_11, .int a0_12, a0g 13]))]) hP hD [0] [1] rfl rfl (by decide) (by decide) hk1 hFc hP1 hD1
    generalize H1 = H at hP hS ⊢
    have hP : va_P (dC, dI) vwCl [(a0, .inr (3, [a0g 0, .int v10na0_1, .int v10na0_2, .ref a0_3, a0g 4, a0g 5, a0g 6, .int a0_7, .int a0_8, .int a0_9, .int a0_10, .long a0_11, .int a0_12, a0g 13])), (a0_3, .inl (ka0_3, 900, .inl (fa0_3)))] H := hP.sub [1, 0] rfl
    have hD : va_D A [(a0, .inr (3, [a0g 0, .int v10na0_1, .int v10na0_2, .ref a0_3, a0g 4, a0g 5, a0g 6, .int a0_7, .int a0_8, .int a0_9, .int a0_10, .long a0_11, .int a0_12, a0g 13])), (a0_3, .inl (ka0_3, 900, .inl (fa0_3)))] := hD.sub [1, 0] (by decide) rfl
    have hw : r10 = 0 := hw
    have hw := hw.symm
    subst hw
    exact W.zret (v := 0) hx hb hr rfl (fun t ht hW => ⟨⟨0, (), rfl, (Or.inr (rfl)), v10na0_1, v10na0_2, a0_8, a0_9, a0_10, a0_11, a0_12, ⟨ba0_8_l, ba0_8_u⟩, ⟨ba0_9_l, ba0_9_u⟩, ⟨ba0_10_l, ba0_10_u⟩, by rw [ht]; exact hP, va_K.moved hW.alike hK, hD⟩, hS.F ht⟩) hS.2.2 dX3_takeWord_13

set_option maxHeartbeats 4000000 in
set_option maxRecDepth 100000 in
theorem c_X3_takeWhole (l : Launch) (dC : Nat → ClassId) (dI : Nat → Nat → Nat) (sz : Nat) (a0 : Nat) (a1 : Nat) (a2 : Int32) (a3 : Int32) (a0g : Nat → Value) (a0_1 : Int32) (a0_2 : Int32) (a0_3 : Nat) (a0_7 : Int32) (a0_8 : Int32) (a0_9 : Int32) (a0_10 : Int32) (a0_11 : Int64) (a0_12 : Int32) (a0_13 : Int32) (ka0_3 : ClassId) (fa0_3 : Nat → Int32) (na1 : Nat) (ba0_7_l : (0 : Int) ≤ a0_7.toInt) (ba0_7_u : a0_7.toInt ≤ (900 : Int)) (ba0_8_l : (0 : Int) ≤ a0_8.toInt) (ba0_8_u : a0_8.toInt ≤ (900 : Int)) (ba0_9_l : (0 : Int) ≤ a0_9.toInt) (ba0_9_u : a0_9.toInt ≤ (900 : Int)) (ba0_10_l : (0 : Int) ≤ a0_10.toInt) (ba0_10_u : a0_10.toInt ≤ (4 : Int)) : Met l yX3_takeWhole wsX3_takeWhole ({ frames := 5, cells := 0, slots := 0, locals := 109 }) (va_Pc [.ref a0, .ref a1, .int a2, .int a3] (ax_C dC dI sz [(a0, .inr (3, [a0g 0, .int a0_1, .int a0_2, .ref a0_3, a0g 4, a0g 5, a0g 6, .int a0_7, .int a0_8, .int a0_9, .int a0_10, .long a0_11, .int a0_12, .int a0_13])), (a0_3, .inl (ka0_3, 900, .inl (fa0_3)))] [(ka0_3, .byte)] (fun U => sx_W a1 na1 (va_A [(a0, .inr (3, [a0g 0, .int a0_1, .int a0_2, .ref a0_3, a0g 4, a0g 5, a0g 6, .int a0_7, .int a0_8, .int a0_9, .int a0_10, .long a0_11, .int a0_12, .int a0_13])), (a0_3, .inl (ka0_3, 900, .inl (fa0_3)))] sz) U ∧ va_Nw (.methodLinkNest RX3 223 yX7_within RX7) U))) (va_Qi (fun (r : Int32) (na0_13 : Int32) => (r = 1 ∧ a2.toInt ≤ na0_13.toInt ∧ na0_13.toInt ≤ a3.toInt) ∨ r = 0) (fun (na0_13 : Int32) (t : State) => ∃ na0_1 : Int32, ∃ na0_2 : Int32, ∃ na0_8 : Int32, ∃ na0_9 : Int32, ∃ na0_10 : Int32, ∃ na0_11 : Int64, ∃ na0_12 : Int32, ((0 : Int) ≤ na0_8.toInt ∧ na0_8.toInt ≤ 900) ∧ ((0 : Int) ≤ na0_9.toInt ∧ na0_9.toInt ≤ 900) ∧ ((0 : Int) ≤ na0_10.toInt ∧ na0_10.toInt ≤ 4) ∧ ax_B dC dI (va_A [(a0, .inr (3, [a0g 0, .int a0_1, .int a0_2, .ref a0_3, a0g 4, a0g 5, a0g 6, .int a0_7, .int a0_8, .int a0_9, .int a0_10, .long a0_11, .int a0_12, .int a0_13])), (a0_3, .inl (ka0_3, 900, .inl (fa0_3)))] sz) [(a0, .inr (3, [a0g 0, .int na0_1, .int na0_2, .ref a0_3, a0g 4, a0g 5, a0g 6, .int a0_7, .int na0_8, .int na0_9, .int na0_10, .long na0_11, .int na0_12, .int na0_13])), (a0_3, .inl (ka0_3, 900, .inl (fa0_3)))] [(ka0_3, .byte)] t) (va_A [(a0, .inr (3, [a0g 0, .int a0_1, .int a0_2, .ref a0_3, a0g 4, a0g 5, a0g 6, .int a0_7, .int a0_8, .int a0_9, .int a0_10, .long a0_11, .int a0_12, .int a0_13])), (a0_3, .inl (ka0_3, 900, .inl (fa0_3)))] sz)) 0 0 (va_A [(a0, .inr (3, [a0g 0, .int a0_1, .int a0_2, .ref a0_3, a0g 4, a0g 5, a0g 6, .int a0_7, .int a0_8, .int a0_9, .int a0_10, .long a0_11, .int a0_12, .int a0_13])), (a0_3, .inl (ka0_3, 900, .inl (fa0_3)))] sz) := by
  refine Met.ofW (cc := cX3_takeWhole) (maxL := 4) (ret := (some .boolean)) (by decide) rfl ?_
  intro p e s m args below meth c s₁ B hml hv
  obtain ⟨rfl, hsz, hP, hK, hD0, hE⟩ := hv
  have hx := B.exec
  have hb := B.bytes
  have hr := B.returns
  have hts := atoms_spec (ws := wsX3_takeWhole) B.pre
  have hown : s.vm.findClass RX3 = some m.cls := findClass_of_methodNamed B.named
  have hlocks := B.notSynchronized
  subst hsz
  have hD := hD0.self (sz := s.heap.size)
  generalize hAe : va_A [(a0, .inr (3, [a0g 0, .int a0_1, .int a0_2, .ref a0_3, a0g 4, a0g 5, a0g 6, .int a0_7, .int a0_8, .int a0_9, .int a0_10, .long a0_11, .int a0_12, .int a0_13])), (a0_3, .inl (ka0_3, 900, .inl (fa0_3)))] s.heap.size = A at hD hE ⊢
  have hA : ∀ q : Nat, s.heap.size ≤ q → A q := fun q h => by rw [← hAe]; exact Or.inr h
  have hS : va_S A s.heap s.heap [] := va_S.rf
  have hP : va_P (dC, dI) vwCl [(a0, .inr (3, [a0g 0, .int a0_1, .int a0_2, .ref a0_3, a0g 4, a0g 5, a0g 6, .int a0_7, .int a0_8, .int a0_9, .int a0_10, .long a0_11, .int a0_12, .int a0_13])), (a0_3, .inl (ka0_3, 900, .inl (fa0_3)))] s.heap := hP
  obtain ⟨hE0, hE1⟩ := hE
  have hl := lv_entry ([.ref a0, .ref a1, .int a2, .int a3]) (n := 4) (Nat.le_of_ble_eq_true rfl)
  rw [lg_entry_eq]
  generalize (lg_sl ([.ref a0, .ref a1, .int a2, .int a3]) ++ List.replicate (4 - (lg_sl ([.ref a0, .ref a1, .int a2, .int a3])).length) Slot.unset).toArray = ls at hl ⊢
  have hl : lv_has ls 4 [(0, .ref a0), (1, .ref a1), (2, .int a2), (3, .int a3)] := hl
  refine lv_aload_n hx hb dX3_takeWhole_0 rfl (lv_at hl 0 rfl) ?_
  refine lv_aload_n hx hb dX3_takeWhole_1 rfl (lv_at hl 1 rfl) ?_
  have hPc := hP.sub (ws' := [(a0, .inr (3, [a0g 0, .int a0_1, .int a0_2, .ref a0_3, a0g 4, a0g 5, a0g 6, .int a0_7, .int a0_8, .int a0_9, .int a0_10, .long a0_11, .int a0_12, .int a0_13]))]) [0] rfl
  have hDc := hD.sub (ws' := [(a0, .inr (3, [a0g 0, .int a0_1, .int a0_2, .ref a0_3, a0g 4, a0g 5, a0g 6, .int a0_7, .int a0_8, .int a0_9, .int a0_10, .long a0_11, .int a0_12, .int a0_13]))]) [0] (by decide) rfl
  have hKc := hK.sub (tys' := []) [] rfl
  have hFc := va_free (wc := [(a0, .inr (3, [a0g 0, .int a0_1, .int a0_2, .ref a0_3, a0g 4, a0g 5, a0g 6, .int a0_7, .int a0_8, .int a0_9, .int a0_10, .long a0_11, .int a0_12, .int a0_13]))]) hD hS hA [0] rfl
  refine va_calli (va_runV (As := [.ref a1]) (rest := []) ⟨hx, hb, hml, hown, hts⟩ (c_X3_isWord l dC dI s.heap.size a0 a1 (fun i9 => ([a0g 0, .int a0_1, .int a0_2, .ref a0_3, a0g 4, a0g 5, a0g 6, .int a0_7, .int a0_8, .int a0_9, .null, .null, .int a0_12, .int a0_13] : List Value).getD i9 .null) a0_10 a0_11 na1 ba0_10_l ba0_10_u) (cwV 1 hts gX3_takeWhole_X3_isWord rfl rfl rfl (by decide +kernel) ⟨Nat.le_of_ble_eq_true rfl, Nat.le_of_ble_eq_true rfl⟩) ⟨ax_blind (fun _ _ _ _ hq => sx_W_same _ _ _ _ (hq)), va_recv hKc hPc (ci := 3) (q0 := 0) rfl rfl, ax_preE hPc hKc hDc (fun U hU hW => sx_W_to hE0 hS.2.1 hFc hU hW)⟩ rfl rfl hl.1 rfl (lv_room (Nat.le_of_ble_eq_true rfl)) dX3_takeWhole_2 ⟨Nat.le_of_ble_eq_true rfl, Nat.le_of_ble_eq_true rfl⟩) hS (fun q _ h => hFc q h) hFc (fun r2 u t H1 locs ht hvm hw hB hz1 hk1 hS => ?_)
  obtain ⟨hP1, hK1, hD1⟩ := hB
  rw [ht] at hP1
  obtain ⟨hP, hD⟩ := va_join (wr := [(a0_3, .inl (ka0_3, 900, .inl (fa0_3)))]) (w1 := [(a0, .inr (3, [a0g 0, .int a0_1, .int a0_2, .ref a0_3, a0g 4, a0g 5, a0g 6, .int a0_7, .int a0_8, .int a0_9, .int a0_10, .long a0_11, .int a0_12, .int a0_13]))]) hP hD [0] [1] rfl rfl (by decide) (by decide) hk1 hFc hP1 hD1
  generalize H1 = H at hP hS ⊢
  have hP : va_P (dC, dI) vwCl [(a0, .inr (3, [a0g 0, .int a0_1, .int a0_2, .ref a0_3, a0g 4, a0g 5, a0g 6, .int a0_7, .int a0_8, .int a0_9, .int a0_10, .long a0_11, .int a0_12, .int a0_13])), (a0_3, .inl (ka0_3, 900, .inl (fa0_3)))] H := hP.sub [1, 0] rfl
  have hD : va_D A [(a0, .inr (3, [a0g 0, .int a0_1, .int a0_2, .ref a0_3, a0g 4, a0g 5, a0g 6, .int a0_7, .int a0_8, .int a0_9, .int a0_10, .long a0_11, .int a0_12, .int a0_13])), (a0_3, .inl (ka0_3, 900, .inl (fa0_3)))] := hD.sub [1, 0] (by decide) rfl
  rcases hw with hw | hw
  · obtain ⟨hw, h2_0, h2_1⟩ := hw
    subst hw
    have l2k0_a0_10 : (1 : Int) ≤ a0_10.toInt := h2_0
    have u2k0_a0_10 : a0_10.toInt ≤ (1 : Int) := h2_1
    refine lv_if_ne (tgt := 14) hx hb dX3_takeWhole_5 (by decide) (fun _ => ?_) (fun c5 => absurd c5 (by decide +kernel))
    refine lv_aload_n hx hb dX3_takeWhole_14 rfl (lv_at hl 0 rfl) ?_
    have hPc := hP.sub (ws' := [(a0, .inr (3, [a0g 0, .int a0_1, .int a0_2, .ref a0_3, a0g 4, a0g 5, a0g 6, .int a0_7, .int a0_8, .int a0_9, .int a0_10, .long a0_11, .int a0_12, .int a0_13])), (a0_3, .inl (ka0_3, 900, .inl (fa0_3)))]) [0, 1] rfl
    have hDc := hD.sub (ws' := [(a0, .inr (3, [a0g 0, .int a0_1, .int a0_2, .ref a0_3, a0g 4, a0g 5, a0g 6, .int a0_7, .int a0_8, .int a0_9, .int a0_10, .long a0_11, .int a0_12, .int a0_13])), (a0_3, .inl (ka0_3, 900, .inl (fa0_3)))]) [0, 1] (by decide) rfl
    have hKc := hK.sub (tys' := [(ka0_3, .byte)]) [0] rfl
    have hFc := va_free (wc := [(a0, .inr (3, [a0g 0, .int a0_1, .int a0_2, .ref a0_3, a0g 4, a0g 5, a0g 6, .int a0_7, .int a0_8, .int a0_9, .int a0_10, .long a0_11, .int a0_12, .int a0_13])), (a0_3, .inl (ka0_3, 900, .inl (fa0_3)))]) hD hS hA [0, 1] rfl
    refine va_callv (va_runV (As := []) (rest := []) ⟨hx, hb, hml, hown, hts⟩ (c_X3_advance l dC dI H.size a0 (fun i9 => ([a0g 0, .int a0_1, .int a0_2, .null, a0g 4, a0g 5, a0g 6, .null, .null, .null, .null, .null, .null, .int a0_13] : List Value).getD i9 .null) a0_3 a0_7 a0_8 a0_9 a0_10 a0_11 a0_12 ka0_3 fa0_3 ba0_7_l ba0_7_u ba0_8_l ba0_8_u ba0_9_l ba0_9_u (Int.le_trans (by decide : (0 : Int) ≤ 1) l2k0_a0_10) (Int.le_trans u2k0_a0_10 (by decide : (1 : Int) ≤ 4))) (cwV 0 hts gX3_takeWhole_X3_advance rfl rfl rfl (by decide +kernel) ⟨Nat.le_of_ble_eq_true rfl, Nat.le_of_ble_eq_true rfl⟩) ⟨ax_blind (fun _ _ _ _ _ => trivial), va_recv hKc hPc (ci := 3) (q0 := 0) rfl rfl, ax_pre hPc hKc hDc (fun _ _ => trivial)⟩ rfl rfl hl.1 rfl (lv_room (Nat.le_of_ble_eq_true rfl)) dX3_takeWhole_15 ⟨Nat.le_of_ble_eq_true rfl, Nat.le_of_ble_eq_true rfl⟩) hS (fun q _ h => hFc q h) hFc (fun u t H1 locs ht hvm hw hB hz1 hk1 hS => ?_)
    obtain ⟨v15na0_8, v15na0_9, v15na0_10, v15na0_11, v15na0_12, bv15na0_8, bv15na0_9, bv15na0_10, hP1, hK1, hD1⟩ := hB
    rw [ht] at hP1
    obtain ⟨hP, hD⟩ := va_join (wr := []) (w1 := [(a0, .inr (3, [a0g 0, .int a0_1, .int a0_2, .ref a0_3, a0g 4, a0g 5, a0g 6, .int a0_7, .int v15na0_8, .int v15na0_9, .int v15na0_10, .long v15na0_11, .int v15na0_12, .int a0_13])), (a0_3, .inl (ka0_3, 900, .inl (fa0_3)))]) hP hD [0, 1] [] rfl rfl (by decide) (by decide) hk1 hFc hP1 hD1
    generalize H1 = H at hP hS ⊢
    have hP : va_P (dC, dI) vwCl [(a0, .inr (3, [a0g 0, .int a0_1, .int a0_2, .ref a0_3, a0g 4, a0g 5, a0g 6, .int a0_7, .int v15na0_8, .int v15na0_9, .int v15na0_10, .long v15na0_11, .int v15na0_12, .int a0_13])), (a0_3, .inl (ka0_3, 900, .inl (fa0_3)))] H := hP
    have hD : va_D A [(a0, .inr (3, [a0g 0, .int a0_1, .int a0_2, .ref a0_3, a0g 4, a0g 5, a0g 6, .int a0_7, .int v15na0_8, .int v15na0_9, .int v15na0_10, .long v15na0_11, .int v15na0_12, .int a0_13])), (a0_3, .inl (ka0_3, 900, .inl (fa0_3)))] := hD
    refine lv_aload_n hx hb dX3_takeWhole_18 rfl (lv_at hl 0 rfl) ?_
    refine lv_iload_n hx hb dX3_takeWhole_19 rfl (lv_at hl 2 rfl) ?_
    refine lv_iload_n hx hb dX3_takeWhole_20 rfl (lv_at hl 3 rfl) ?_
    have hPc := hP.sub (ws' := [(a0, .inr (3, [a0g 0, .int a0_1, .int a0_2, .ref a0_3, a0g 4, a0g 5, a0g 6, .int a0_7, .int v15na0_8, .int v15na0_9, .int v15na0_10, .long v15na0_11, .int v15na0_12, .int a0_13]))]) [0] rfl
    have hDc := hD.sub (ws' := [(a0, .inr (3, [a0g 0, .int a0_1, .int a0_2, .ref a0_3, a0g 4, a0g 5, a0g 6, .int a0_7, .int v15na0_8, .int v15na0_9, .int v15na0_10, .long v15na0_11, .int v15na0_12, .int a0_13]))]) [0] (by decide) rfl
    have hKc := hK.sub (tys' := []) [] rfl
    have hFc := va_free (wc := [(a0, .inr (3, [a0g 0, .int a0_1, .int a0_2, .ref a0_3, a0g 4, a0g 5, a0g 6, .int a0_7, .int v15na0_8, .int v15na0_9, .int v15na0_10, .long v15na0_11, .int v15na0_12, .int a0_13]))]) hD hS hA [0] rfl
    refine va_calli (va_runV (As := [.int a2, .int a3]) (rest := []) ⟨hx, hb, hml, hown, hts⟩ (c_X3_isWholeWithinP l dC dI H.size a0 a2 a3 (fun i9 => ([a0g 0, .null, .null, .ref a0_3, a0g 4, a0g 5, a0g 6, .int a0_7, .null, .int v15na0_9, .null, .long v15na0_11, .null, .int a0_13] : List Value).getD i9 .null) a0_1 a0_2 v15na0_8 v15na0_10 v15na0_12 bv15na0_8.1 bv15na0_8.2 bv15na0_10.1 bv15na0_10.2) (cwV 2 hts gX3_takeWhole_X3_isWholeWithin rfl rfl rfl (by decide +kernel) ⟨Nat.le_of_ble_eq_true rfl, Nat.le_of_ble_eq_true rfl⟩) ⟨ax_blind (fun _ _ _ _ hq => va_Nw.same rfl rfl (hq)), va_recv hKc hPc (ci := 3) (q0 := 0) rfl rfl, ax_pre hPc hKc hDc (fun _ hW => va_Nw.warmM hW hE1)⟩ rfl rfl hl.1 rfl (lv_room (Nat.le_of_ble_eq_true rfl)) dX3_takeWhole_21 ⟨Nat.le_of_ble_eq_true rfl, Nat.le_of_ble_eq_true rfl⟩) hS (fun q _ h => hFc q h) hFc (fun r21 u t H1 locs ht hvm hw hB hz1 hk1 hS => ?_)
    obtain ⟨v21na0_1, v21na0_2, hP1, hK1, hD1⟩ := hB
    rw [ht] at hP1
    obtain ⟨hP, hD⟩ := va_join (wr := [(a0_3, .inl (ka0_3, 900, .inl (fa0_3)))]) (w1 := [(a0, .inr (3, [a0g 0, .int v21na0_1, .int v21na0_2, .ref a0_3, a0g 4, a0g 5, a0g 6, .int a0_7, .int v15na0_8, .int v15na0_9, .int v15na0_10, .long v15na0_11, .int v15na0_12, .int a0_13]))]) hP hD [0] [1] rfl rfl (by decide) (by decide) hk1 hFc hP1 hD1
    generalize H1 = H at hP hS ⊢
    have hP : va_P (dC, dI) vwCl [(a0, .inr (3, [a0g 0, .int v21na0_1, .int v21na0_2, .ref a0_3, a0g 4, a0g 5, a0g 6, .int a0_7, .int v15na0_8, .int v15na0_9, .int v15na0_10, .long v15na0_11, .int v15na0_12, .int a0_13])), (a0_3, .inl (ka0_3, 900, .inl (fa0_3)))] H := hP.sub [1, 0] rfl
    have hD : va_D A [(a0, .inr (3, [a0g 0, .int v21na0_1, .int v21na0_2, .ref a0_3, a0g 4, a0g 5, a0g 6, .int a0_7, .int v15na0_8, .int v15na0_9, .int v15na0_10, .long v15na0_11, .int v15na0_12, .int a0_13])), (a0_3, .inl (ka0_3, 900, .inl (fa0_3)))] := hD.sub [1, 0] (by decide) rfl
    rcases hw with hw | hw
    · obtain ⟨hw, h21⟩ := hw
      subst hw
      refine lv_if_ne (tgt := 29) hx hb dX3_takeWhole_24 (by decide) (fun _ => ?_) (fun c24 => absurd c24 (by decide +kernel))
      refine lv_aload_n hx hb dX3_takeWhole_29 rfl (lv_at hl 0 rfl) ?_
      refine lv_aload_n hx hb dX3_takeWhole_30 rfl (lv_at hl 0 rfl) ?_
      refine va_get (D := (dC, dI)) (ci := 3) (v := .int v15na0_12) (C := RX3) (T := TX3) (N := 14) hx hb hts (by decide +kernel) hown hK hP 0 rfl rfl 12 (by decide) (hts (.fieldLink RX3 85 "WaxTurns$Reade\x72" "whole" "I") (by decide +kernel)) (fun _ h9 => h9) rfl dX3_takeWhole_31 ?_
      refine va_put (D := (dC, dI)) (ci := 3) (v := .int v15na0_12) (ty := .int) (C := RX3) (T := TX3) (N := 14) hx hb hts (by decide +kernel) tyX3 tyX3_ok nmX3 hown hK hP hD hS 0 rfl rfl 13 (by decide) (hts (.fieldLink RX3 156 "WaxTurns$Reade\x72" "taken" "I") (by decide +kernel)) (fun _ h9 => h9) rfl (by decide +kernel) rfl rfl (Nat.le_of_ble_eq_true rfl) dX3_takeWhole_34 (fun H locs hP hD hS => ?_)
      have hP : va_P (dC, dI) vwCl [(a0, .inr (3, [a0g 0, .int v21na0_1, .int v21na0_2, .ref a0_3, a0g 4, a0g 5, a0g 6, .int a0_7, .int v15na0_8, .int v15na0_9, .int v15na0_10, .long v15na0_11, .int v15na0_12, .int v15na0_12])), (a0_3, .inl (ka0_3, 900, .inl (fa0_3)))] H := hP
      have hD : va_D A [(a0, .inr (3, [a0g 0, .int v21na0_1, .int v21na0_2, .ref a0_3, a0g 4, a0g 5, a0g 6, .int a0_7, .int v15na0_8, .int v15na0_9, .int v15na0_10, .long v15na0_11, .int v15na0_12, .int v15na0_12])), (a0_3, .inl (ka0_3, 900, .inl (fa0_3)))] := hD
      refine lv_aload_n hx hb dX3_takeWhole_37 rfl (lv_at hl 0 rfl) ?_
      have hPc := hP.sub (ws' := [(a0, .inr (3, [a0g 0, .int v21na0_1, .int v21na0_2, .ref a0_3, a0g 4, a0g 5, a0g 6, .int a0_7, .int v15na0_8, .int v15na0_9, .int v15na0_10, .long v15na0_11, .int v15na0_12, .int v15na0_12])), (a0_3, .inl (ka0_3, 900, .inl (fa0_3)))]) [0, 1] rfl
      have hDc := hD.sub (ws' := [(a0, .inr (3, [a0g 0, .int v21na0_1, .int v21na0_2, .ref a0_3, a0g 4, a0g 5, a0g 6, .int a0_7, .int v15na0_8, .int v15na0_9, .int v15na0_10, .long v15na0_11, .int v15na0_12, .int v15na0_12])), (a0_3, .inl (ka0_3, 900, .inl (fa0_3)))]) [0, 1] (by decide) rfl
      have hKc := hK.sub (tys' := [(ka0_3, .byte)]) [0] rfl
      have hFc := va_free (wc := [(a0, .inr (3, [a0g 0, .int v21na0_1, .int v21na0_2, .ref a0_3, a0g 4, a0g 5, a0g 6, .int a0_7, .int v15na0_8, .int v15na0_9, .int v15na0_10, .long v15na0_11, .int v15na0_12, .int v15na0_12])), (a0_3, .inl (ka0_3, 900, .inl (fa0_3)))]) hD hS hA [0, 1] rfl
      refine va_callv (va_runV (As := []) (rest := []) ⟨hx, hb, hml, hown, hts⟩ (c_X3_advance l dC dI H.size a0 (fun i9 => ([a0g 0, .int v21na0_1, .int v21na0_2, .null, a0g 4, a0g 5, a0g 6, .null, .null, .null, .null, .null, .null, .int v15na0_12] : List Value).getD i9 .null) a0_3 a0_7 v15na0_8 v15na0_9 v15na0_10 v15na0_11 v15na0_12 ka0_3 fa0_3 ba0_7_l ba0_7_u bv15na0_8.1 bv15na0_8.2 bv15na0_9.1 bv15na0_9.2 bv15na0_10.1 bv15na0_10.2) (cwV 0 hts gX3_takeWhole_X3_advance rfl rfl rfl (by decide +kernel) ⟨Nat.le_of_ble_eq_true rfl, Nat.le_of_ble_eq_true rfl⟩) ⟨ax_blind (fun _ _ _ _ _ => trivial), va_recv hKc hPc (ci := 3) (q0 := 0) rfl rfl, ax_pre hPc hKc hDc (fun _ _ => trivial)⟩ rfl rfl hl.1 rfl (lv_room (Nat.le_of_ble_eq_true rfl)) dX3_takeWhole_38 ⟨Nat.le_of_ble_eq_true rfl, Nat.le_of_ble_eq_true rfl⟩) hS (fun q _ h => hFc q h) hFc (fun u t H1 locs ht hvm hw hB hz1 hk1 hS => ?_)
      obtain ⟨v38na0_8, v38na0_9, v38na0_10, v38na0_11, v38na0_12, bv38na0_8, bv38na0_9, bv38na0_10, hP1, hK1, hD1⟩ := hB
      rw [ht] at hP1
      obtain ⟨hP, hD⟩ := va_join (wr := []) (w1 := [(a0, .inr (3, [a0g 0, .int v21na0_1, .int v21na0_2, .ref a0_3, a0g 4, a0g 5, a0g 6, .int a0_7, .int v38na0_8, .int v38na0_9, .int v38na0_10, .long v38na0_11, .int v38na0_12, .int v15na0_12])), (a0_3, .inl (ka0_3, 900, .inl (fa0_3)))]) hP hD [0, 1] [] rfl rfl (by decide) (by decide) hk1 hFc hP1 hD1
      generalize H1 = H at hP hS ⊢
      have hP : va_P (dC, dI) vwCl [(a0, .inr (3, [a0g 0, .int v21na0_1, .int v21na0_2, .ref a0_3, a0g 4, a0g 5, a0g 6, .int a0_7, .int v38na0_8, .int v38na0_9, .int v38na0_10, .long v38na0_11, .int v38na0_12, .int v15na0_12])), (a0_3, .inl (ka0_3, 900, .inl (fa0_3)))] H := hP
      have hD : va_D A [(a0, .inr (3, [a0g 0, .int v21na0_1, .int v21na0_2, .ref a0_3, a0g 4, a0g 5, a0g 6, .int a0_7, .int v38na0_8, .int v38na0_9, .int v38na0_10, .long v38na0_11, .int v38na0_12, .int v15na0_12])), (a0_3, .inl (ka0_3, 900, .inl (fa0_3)))] := hD
      refine lv_iconst (v := 1) hx hb dX3_takeWhole_41 (by decide) ?_
      exact W.zret (v := 1) hx hb hr rfl (fun t ht hW => ⟨⟨1, v15na0_12, rfl, (Or.inl ⟨rfl, h21⟩), v21na0_1, v21na0_2, v38na0_8, v38na0_9, v38na0_10, v38na0_11, v38na0_12, ⟨bv38na0_8.1, bv38na0_8.2⟩, ⟨bv38na0_9.1, bv38na0_9.2⟩, ⟨bv38na0_10.1, bv38na0_10.2⟩, by rw [ht]; exact hP, va_K.moved hW.alike hK, hD⟩, hS.F ht⟩) hS.2.2 dX3_takeWhole_42
    · subst hw
      refine lv_if_ne (tgt := 29) hx hb dX3_takeWhole_24 (by decide) (fun c24 => absurd (by decide +kernel) c24) (fun _ => ?_)
      refine lv_iconst (v := 0) hx hb dX3_takeWhole_27 (by decide) ?_
      exact W.zret (v := 0) hx hb hr rfl (fun t ht hW => ⟨⟨0, a0_13, rfl, (Or.inr rfl), v21na0_1, v21na0_2, v15na0_8, v15na0_9, v15na0_10, v15na0_11, v15na0_12, ⟨bv15na0_8.1, bv15na0_8.2⟩, ⟨bv15na0_9.1, bv15na0_9.2⟩, ⟨bv15na0_10.1, bv15na0_10.2⟩, by rw [ht]; exact hP, va_K.moved hW.alike hK, hD⟩, hS.F ht⟩) hS.2.2 dX3_takeWhole_28
  · subst hw
    refine lv_if_ne (tgt := 14) hx hb dX3_takeWhole_5 (by decide) (fun c5 => absurd (by decide +kernel) c5) (fun _ => ?_)
    refine lv_aload_n hx hb dX3_takeWhole_8 rfl (lv_at hl 0 rfl) ?_
    refine lv_iconst (v := 1) hx hb dX3_takeWhole_9 (by decide) ?_
    have hPc := hP.sub (ws' := [(a0, .inr (3, [a0g 0, .int a0_1, .int a0_2, .ref a0_3, a0g 4, a0g 5, a0g 6, .int a0_7, .int a0_8, .int a0_9, .int a0_10, .long a0_11, .int a0_12, .int a0_13]))]) [0] rfl
    have hDc := hD.sub (ws' := [(a0, .inr (3, [a0g 0, .int a0_1, .int a0_2, .ref a0_3, a0g 4, a0g 5, a0g 6, .int a0_7, .int a0_8, .int a0_9, .int a0_10, .long a0_11, .int a0_12, .int a0_13]))]) [0] (by decide) rfl
    have hKc := hK.sub (tys' := []) [] rfl
    have hFc := va_free (wc := [(a0, .inr (3, [a0g 0, .int a0_1, .int a0_2, .ref a0_3, a0g 4, a0g 5, a0g 6, .int a0_7, .int a0_8, .int a0_9, .int a0_10, .long a0_11, .int a0_12, .int a0_13]))]) hD hS hA [0] rfl
    refine va_calli (va_runV (As := [.int 1]) (rest := []) ⟨hx, hb, hml, hown, hts⟩ (c_X3_fails l dC dI H.size a0 1 (fun i9 => ([a0g 0, .null, .null, .ref a0_3, a0g 4, a0g 5, a0g 6, .int a0_7, .null, .int a0_9, .int a0_10, .long a0_11, .int a0_12, .int a0_13] : List Value).getD i9 .null) a0_1 a0_2 a0_8 ba0_8_l ba0_8_u) (cwV 1 hts gX3_takeWhole_X3_fails rfl rfl rfl (by decide +kernel) ⟨Nat.le_of_ble_eq_true rfl, Nat.le_of_ble_eq_true rfl⟩) ⟨ax_blind (fun _ _ _ _ _ => trivial), va_recv hKc hPc (ci := 3) (q0 := 0) rfl rfl, ax_pre hPc hKc hDc (fun _ _ => trivial)⟩ rfl rfl hl.1 rfl (lv_room (Nat.le_of_ble_eq_true rfl)) dX3_takeWhole_10 ⟨Nat.le_of_ble_eq_true rfl, Nat.le_of_ble_eq_true rfl⟩) hS (fun q _ h => hFc q h) hFc (fun r10 u t H1 locs ht hvm hw hB hz1 hk1 hS => ?_)
    obtain ⟨v10na0_1, v10na0_2, hP1, hK1, hD1⟩ := hB
    rw [ht] at hP1
    obtain ⟨hP, hD⟩ := va_join (wr := [(a0_3, .inl (ka0_3, 900, .inl (fa0_3)))]) (w1 := [(a0, .inr (3, [a0g 0, .int v10na0_1, .int v10na0_2, .ref a0_3, a0g 4, a0g 5, a0g 6, .int a0_7, .int a0_8, .int a0_9, .int a0_10, .long a0_11, .int a0_12, .int a0_13]))]) hP hD [0] [1] rfl rfl (by decide) (by decide) hk1 hFc hP1 hD1
    generalize H1 = H at hP hS ⊢
    have hP : va_P (dC, dI) vwCl [(a0, .inr (3, [a0g 0, .int v10na0_1, .int v10na0_2, .ref a0_3, a0g 4, a0g 5, a0g 6, .int a0_7, .int a0_8, .int a0_9, .int a0_10, .long a0_11, .int a0_12, .int a0_13])), (a0_3, .inl (ka0_3, 900, .inl (fa0_3)))] H := hP.sub [1, 0] rfl
    have hD : va_D A [(a0, .inr (3, [a0g 0, .int v10na0_1, .int v10na0_2, .ref a0_3, a0g 4, a0g 5, a0g 6, .int a0_7, .int a0_8, .int a0_9, .int a0_10, .long a0_11, .int a0_12, .int a0_13])), (a0_3, .inl (ka0_3, 900, .inl (fa0_3)))] := hD.sub [1, 0] (by decide) rfl
    have hw : r10 = 0 := hw
    have hw := hw.symm
    subst hw
    exact W.zret (v := 0) hx hb hr rfl (fun t ht hW => ⟨⟨0, a0_13, rfl, (Or.inr rfl), v10na0_1, v10na0_2, a0_8, a0_9, a0_10, a0_11, a0_12, ⟨ba0_8_l, ba0_8_u⟩, ⟨ba0_9_l, ba0_9_u⟩, ⟨ba0_10_l, ba0_10_u⟩, by rw [ht]; exact hP, va_K.moved hW.alike hK, hD⟩, hS.F ht⟩) hS.2.2 dX3_takeWhole_13

set_option maxHeartbeats 4000000 in
set_option maxRecDepth 100000 in
theorem c_X3_takeName (l : Launch) (dC : Nat → ClassId) (dI : Nat → Nat → Nat) (sz : Nat) (a0 : Nat) (a0g : Nat → Value) (a0_1 : Int32) (a0_2 : Int32) (a0_3 : Nat) (a0_4 : Nat) (a0_6 : Int32) (a0_7 : Int32) (a0_8 : Int32) (a0_9 : Int32) (a0_10 : Int32) (a0_11 : Int64) (a0_12 : Int32) (ka0_4 : ClassId) (fa0_4 : Nat → Int64) (ka0_3 : ClassId) (fa0_3 : Nat → Int32) (ad : Nat → Nat) (ba0_6_l : (0 : Int) ≤ a0_6.toInt) (ba0_6_u : a0_6.toInt ≤ (12 : Int)) (ba0_7_l : (0 : Int) ≤ a0_7.toInt) (ba0_7_u : a0_7.toInt ≤ (900 : Int)) (ba0_8_l : (0 : Int) ≤ a0_8.toInt) (ba0_8_u : a0_8.toInt ≤ (900 : Int)) (ba0_9_l : (0 : Int) ≤ a0_9.toInt) (ba0_9_u : a0_9.toInt ≤ (900 : Int)) (ba0_10_l : (0 : Int) ≤ a0_10.toInt) (ba0_10_u : a0_10.toInt ≤ (4 : Int)) : Met l yX3_takeName wsX3_takeName ({ frames := 5, cells := 0, slots := 0, locals := 109 }) (va_Pc [.ref a0] (ax_C dC dI sz [(a0, .inr (3, [a0g 0, .int a0_1, .int a0_2, .ref a0_3, .ref a0_4, a0g 5, .int a0_6, .int a0_7, .int a0_8, .int a0_9, .int a0_10, .long a0_11, .int a0_12, a0g 13])), (a0_4, .inl (ka0_4, 12, .inr (.inl (fa0_4)))), (a0_3, .inl (ka0_3, 900, .inl (fa0_3)))] [(ka0_4, .long), (ka0_3, .byte)] (fun U => sx_T ad (va_A [(a0, .inr (3, [a0g 0, .int a0_1, .int a0_2, .ref a0_3, .ref a0_4, a0g 5, .int a0_6, .int a0_7, .int a0_8, .int a0_9, .int a0_10, .long a0_11, .int a0_12, a0g 13])), (a0_4, .inl (ka0_4, 12, .inr (.inl (fa0_4)))), (a0_3, .inl (ka0_3, 900, .inl (fa0_3)))] sz) U))) (va_Qi (fun (r : Int32) (_ : Unit) => (r = 1) ∨ (r = 0)) (fun (_ : Unit) (t : State) => ∃ na0_1 : Int32, ∃ na0_2 : Int32, ∃ na0_6 : Int32, ∃ na0_8 : Int32, ∃ na0_9 : Int32, ∃ na0_10 : Int32, ∃ na0_11 : Int64, ∃ na0_12 : Int32, ∃ nfa0_4 : Nat → Int64, ((0 : Int) ≤ na0_6.toInt ∧ na0_6.toInt ≤ 12) ∧ ((0 : Int) ≤ na0_8.toInt ∧ na0_8.toInt ≤ 900) ∧ ((0 : Int) ≤ na0_9.toInt ∧ na0_9.toInt ≤ 900) ∧ ((0 : Int) ≤ na0_10.toInt ∧ na0_10.toInt ≤ 4) ∧ ax_B dC dI (va_A [(a0, .inr (3, [a0g 0, .int a0_1, .int a0_2, .ref a0_3, .ref a0_4, a0g 5, .int a0_6, .int a0_7, .int a0_8, .int a0_9, .int a0_10, .long a0_11, .int a0_12, a0g 13])), (a0_4, .inl (ka0_4, 12, .inr (.inl (fa0_4)))), (a0_3, .inl (ka0_3, 900, .inl (fa0_3)))] sz) [(a0, .inr (3, [a0g 0, .int na0_1, .int na0_2, .ref a0_3, .ref a0_4, a0g 5, .int na0_6, .int a0_7, .int na0_8, .int na0_9, .int na0_10, .long na0_11, .int na0_12, a0g 13])), (a0_4, .inl (ka0_4, 12, .inr (.inl (nfa0_4)))), (a0_3, .inl (ka0_3, 900, .inl (fa0_3)))] [(ka0_4, .long), (ka0_3, .byte)] t) (va_A [(a0, .inr (3, [a0g 0, .int a0_1, .int a0_2, .ref a0_3, .ref a0_4, a0g 5, .int a0_6, .int a0_7, .int a0_8, .int a0_9, .int a0_10, .long a0_11, .int a0_12, a0g 13])), (a0_4, .inl (ka0_4, 12, .inr (.inl (fa0_4)))), (a0_3, .inl (ka0_3, 900, .inl (fa0_3)))] sz)) 0 0 (va_A [(a0, .inr (3, [a0g 0, .int a0_1, .int a0_2, .ref a0_3, .ref a0_4, a0g 5, .int a0_6, .int a0_7, .int a0_8, .int a0_9, .int a0_10, .long a0_11, .int a0_12, a0g 13])), (a0_4, .inl (ka0_4, 12, .inr (.inl (fa0_4)))), (a0_3, .inl (ka0_3, 900, .inl (fa0_3)))] sz) := by
  refine Met.ofW (cc := cX3_takeName) (maxL := 2) (ret := (some .boolean)) (by decide) rfl ?_
  intro p e s m args below meth c s₁ B hml hv
  obtain ⟨rfl, hsz, hP, hK, hD0, hE⟩ := hv
  have hx := B.exec
  have hb := B.bytes
  have hr := B.returns
  have hts := atoms_spec (ws := wsX3_takeName) B.pre
  have hown : s.vm.findClass RX3 = some m.cls := findClass_of_methodNamed B.named
  have hlocks := B.notSynchronized
  subst hsz
  have hD := hD0.self (sz := s.heap.size)
  generalize hAe : va_A [(a0, .inr (3, [a0g 0, .int a0_1, .int a0_2, .ref a0_3, .ref a0_4, a0g 5, .int a0_6, .int a0_7, .int a0_8, .int a0_9, .int a0_10, .long a0_11, .int a0_12, a0g 13])), (a0_4, .inl (ka0_4, 12, .inr (.inl (fa0_4)))), (a0_3, .inl (ka0_3, 900, .inl (fa0_3)))] s.heap.size = A at hD hE ⊢
  have hA : ∀ q : Nat, s.heap.size ≤ q → A q := fun q h => by rw [← hAe]; exact Or.inr h
  have hS : va_S A s.heap s.heap [] := va_S.rf
  have hP : va_P (dC, dI) vwCl [(a0, .inr (3, [a0g 0, .int a0_1, .int a0_2, .ref a0_3, .ref a0_4, a0g 5, .int a0_6, .int a0_7, .int a0_8, .int a0_9, .int a0_10, .long a0_11, .int a0_12, a0g 13])), (a0_4, .inl (ka0_4, 12, .inr (.inl (fa0_4)))), (a0_3, .inl (ka0_3, 900, .inl (fa0_3)))] s.heap := hP
  have hE0 := hE
  have hl := lv_entry ([.ref a0]) (n := 2) (Nat.le_of_ble_eq_true rfl)
  rw [lg_entry_eq]
  generalize (lg_sl ([.ref a0]) ++ List.replicate (2 - (lg_sl ([.ref a0])).length) Slot.unset).toArray = ls at hl ⊢
  have hl : lv_has ls 2 [(0, .ref a0)] := hl
  refine ai_open (fun K hK0 => ?_)
  refine (hK0 _ _ _).mpr ?_
  refine lv_aload_n hx hb dX3_takeName_0 rfl (lv_at hl 0 rfl) ?_
  refine va_get (D := (dC, dI)) (ci := 3) (v := .int a0_10) (C := RX3) (T := TX3) (N := 14) hx hb hts (by decide +kernel) hown hK hP 0 rfl rfl 10 (by decide) (hts (.fieldLink RX3 61 "WaxTurns$Reade\x72" "token" "I") (by decide +kernel)) (fun _ h9 => h9) rfl dX3_takeName_1 ?_
  refine lv_iconst (v := 1) hx hb dX3_takeName_4 (by decide) ?_
  have J53 : ∀ (H : Heap) (locs : List Loc) (ls : Array Slot), va_P (dC, dI) vwCl [(a0, .inr (3, [a0g 0, .int a0_1, .int a0_2, .ref a0_3, .ref a0_4, a0g 5, .int a0_6, .int a0_7, .int a0_8, .int a0_9, .int a0_10, .long a0_11, .int a0_12, a0g 13])), (a0_4, .inl (ka0_4, 12, .inr (.inl (fa0_4)))), (a0_3, .inl (ka0_3, 900, .inl (fa0_3)))] H → va_D A [(a0, .inr (3, [a0g 0, .int a0_1, .int a0_2, .ref a0_3, .ref a0_4, a0g 5, .int a0_6, .int a0_7, .int a0_8, .int a0_9, .int a0_10, .long a0_11, .int a0_12, a0g 13])), (a0_4, .inl (ka0_4, 12, .inr (.inl (fa0_4)))), (a0_3, .inl (ka0_3, 900, .inl (fa0_3)))] → va_S A s.heap H locs → lv_has ls 2 [(0, .ref a0)] → K H locs (F0 m 53 ls []) := by
    intro  H locs ls   hP hD hS hl
    refine (hK0 _ _ _).mpr ?_
    refine lv_aload_n hx hb dX3_takeName_53 rfl (lv_at hl 0 rfl) ?_
    refine lv_iconst (v := 1) hx hb dX3_takeName_54 (by decide) ?_
    have hPc := hP.sub (ws' := [(a0, .inr (3, [a0g 0, .int a0_1, .int a0_2, .ref a0_3, .ref a0_4, a0g 5, .int a0_6, .int a0_7, .int a0_8, .int a0_9, .int a0_10, .long a0_11, .int a0_12, a0g 13]))]) [0] rfl
    have hDc := hD.sub (ws' := [(a0, .inr (3, [a0g 0, .int a0_1, .int a0_2, .ref a0_3, .ref a0_4, a0g 5, .int a0_6, .int a0_7, .int a0_8, .int a0_9, .int a0_10, .long a0_11, .int a0_12, a0g 13]))]) [0] (by decide) rfl
    have hKc := hK.sub (tys' := []) [] rfl
    have hFc := va_free (wc := [(a0, .inr (3, [a0g 0, .int a0_1, .int a0_2, .ref a0_3, .ref a0_4, a0g 5, .int a0_6, .int a0_7, .int a0_8, .int a0_9, .int a0_10, .long a0_11, .int a0_12, a0g 13]))]) hD hS hA [0] rfl
    refine va_calli (va_runV (As := [.int 1]) (rest := []) ⟨hx, hb, hml, hown, hts⟩ (c_X3_fails l dC dI H.size a0 1 (fun i9 => ([a0g 0, .null, .null, .ref a0_3, .ref a0_4, a0g 5, .int a0_6, .int a0_7, .null, .int a0_9, .int a0_10, .long a0_11, .int a0_12, a0g 13] : List Value).getD i9 .null) a0_1 a0_2 a0_8 ba0_8_l ba0_8_u) (cwV 1 hts gX3_takeName_X3_fails rfl rfl rfl (by decide +kernel) ⟨Nat.le_of_ble_eq_true rfl, Nat.le_of_ble_eq_true rfl⟩) ⟨ax_blind (fun _ _ _ _ _ => trivial), va_recv hKc hPc (ci := 3) (q0 := 0) rfl rfl, ax_pre hPc hKc hDc (fun _ _ => trivial)⟩ rfl rfl hl.1 rfl (lv_room (Nat.le_of_ble_eq_true rfl)) dX3_takeName_55 ⟨Nat.le_of_ble_eq_true rfl, Nat.le_of_ble_eq_true rfl⟩) hS (fun q _ h => hFc q h) hFc (fun r55 u t H1 locs ht hvm hw hB hz1 hk1 hS => ?_)
    obtain ⟨v55na0_1, v55na0_2, hP1, hK1, hD1⟩ := hB
    rw [ht] at hP1
    obtain ⟨hP, hD⟩ := va_join (wr := [(a0_4, .inl (ka0_4, 12, .inr (.inl (fa0_4)))), (a0_3, .inl (ka0_3, 900, .inl (fa0_3)))]) (w1 := [(a0, .inr (3, [a0g 0, .int v55na0_1, .int v55na0_2, .ref a0_3, .ref a0_4, a0g 5, .int a0_6, .int a0_7, .int a0_8, .int a0_9, .int a0_10, .long a0_11, .int a0_12, a0g 13]))]) hP hD [0] [1, 2] rfl rfl (by decide) (by decide) hk1 hFc hP1 hD1
    generalize H1 = H at hP hS ⊢
    have hP : va_P (dC, dI) vwCl [(a0, .inr (3, [a0g 0, .int v55na0_1, .int v55na0_2, .ref a0_3, .ref a0_4, a0g 5, .int a0_6, .int a0_7, .int a0_8, .int a0_9, .int a0_10, .long a0_11, .int a0_12, a0g 13])), (a0_4, .inl (ka0_4, 12, .inr (.inl (fa0_4)))), (a0_3, .inl (ka0_3, 900, .inl (fa0_3)))] H := hP.sub [2, 0, 1] rfl
    have hD : va_D A [(a0, .inr (3, [a0g 0, .int v55na0_1, .int v55na0_2, .ref a0_3, .ref a0_4, a0g 5, .int a0_6, .int a0_7, .int a0_8, .int a0_9, .int a0_10, .long a0_11, .int a0_12, a0g 13])), (a0_4, .inl (ka0_4, 12, .inr (.inl (fa0_4)))), (a0_3, .inl (ka0_3, 900, .inl (fa0_3)))] := hD.sub [2, 0, 1] (by decide) rfl
    have hw : r55 = 0 := hw
    have hw := hw.symm
    subst hw
    exact W.zret (v := 0) hx hb hr rfl (fun t ht hW => ⟨⟨0, (), rfl, (Or.inr (rfl)), v55na0_1, v55na0_2, a0_6, a0_8, a0_9, a0_10, a0_11, a0_12, fa0_4, ⟨ba0_6_l, ba0_6_u⟩, ⟨ba0_8_l, ba0_8_u⟩, ⟨ba0_9_l, ba0_9_u⟩, ⟨ba0_10_l, ba0_10_u⟩, by rw [ht]; exact hP, va_K.moved hW.alike hK, hD⟩, hS.F ht⟩) hS.2.2 dX3_takeName_58
  refine lv_icmp_ne (tgt := 53) hx hb dX3_takeName_5 (by decide) (fun c5 => ?_) (fun c5 => ?_)
  · have gc5 := ai_ne c5
    exact (hK0 _ _ _).mp (J53  _ _ _   hP hD hS (lv_sub hl [0] rfl))
  · have gc5 := ai_eq c5
    have u5f_a0_10 : a0_10.toInt ≤ (1 : Int) := Int.le_trans (Int.le_of_eq gc5) (by decide : (1 : Int32).toInt ≤ (1 : Int))
    have l5f_a0_10 : (1 : Int) ≤ a0_10.toInt := Int.le_trans (by decide : (1 : Int) ≤ (1 : Int32).toInt) (Int.le_of_eq gc5.symm)
    refine lv_aload_n hx hb dX3_takeName_8 rfl (lv_at hl 0 rfl) ?_
    refine va_ldcS hx hb hown (sx_R0 hE0) dX3_takeName_9 ?_
    have hPc := hP.sub (ws' := [(a0, .inr (3, [a0g 0, .int a0_1, .int a0_2, .ref a0_3, .ref a0_4, a0g 5, .int a0_6, .int a0_7, .int a0_8, .int a0_9, .int a0_10, .long a0_11, .int a0_12, a0g 13]))]) [0] rfl
    have hDc := hD.sub (ws' := [(a0, .inr (3, [a0g 0, .int a0_1, .int a0_2, .ref a0_3, .ref a0_4, a0g 5, .int a0_6, .int a0_7, .int a0_8, .int a0_9, .int a0_10, .long a0_11, .int a0_12, a0g 13]))]) [0] (by decide) rfl
    have hKc := hK.sub (tys' := []) [] rfl
    have hFc := va_free (wc := [(a0, .inr (3, [a0g 0, .int a0_1, .int a0_2, .ref a0_3, .ref a0_4, a0g 5, .int a0_6, .int a0_7, .int a0_8, .int a0_9, .int a0_10, .long a0_11, .int a0_12, a0g 13]))]) hD hS hA [0] rfl
    refine va_calli (va_runV (As := [.ref (ad 0)]) (rest := []) ⟨hx, hb, hml, hown, hts⟩ (c_X3_isWord l dC dI s.heap.size a0 (ad 0) (fun i9 => ([a0g 0, .int a0_1, .int a0_2, .ref a0_3, .ref a0_4, a0g 5, .int a0_6, .int a0_7, .int a0_8, .int a0_9, .null, .null, .int a0_12, a0g 13] : List Value).getD i9 .null) a0_10 a0_11 7 (Int.le_trans (by decide : (0 : Int) ≤ 1) l5f_a0_10) (Int.le_trans u5f_a0_10 (by decide : (1 : Int) ≤ 4))) (cwV 1 hts gX3_takeName_X3_isWord rfl rfl rfl (by decide +kernel) ⟨Nat.le_of_ble_eq_true rfl, Nat.le_of_ble_eq_true rfl⟩) ⟨ax_blind (fun _ _ _ _ hq => sx_W_same _ _ _ _ (hq)), va_recv hKc hPc (ci := 3) (q0 := 0) rfl rfl, ax_preE hPc hKc hDc (fun U hU hW => sx_W_to (sx_T_w hE0 (i := 0) (by decide)) hS.2.1 hFc hU hW)⟩ rfl rfl hl.1 rfl (lv_room (Nat.le_of_ble_eq_true rfl)) dX3_takeName_11 ⟨Nat.le_of_ble_eq_true rfl, Nat.le_of_ble_eq_true rfl⟩) hS (fun q _ h => hFc q h) hFc (fun r11 u t H1 locs ht hvm hw hB hz1 hk1 hS => ?_)
    obtain ⟨hP1, hK1, hD1⟩ := hB
    rw [ht] at hP1
    obtain ⟨hP, hD⟩ := va_join (wr := [(a0_4, .inl (ka0_4, 12, .inr (.inl (fa0_4)))), (a0_3, .inl (ka0_3, 900, .inl (fa0_3)))]) (w1 := [(a0, .inr (3, [a0g 0, .int a0_1, .int a0_2, .ref a0_3, .ref a0_4, a0g 5, .int a0_6, .int a0_7, .int a0_8, .int a0_9, .int a0_10, .long a0_11, .int a0_12, a0g 13]))]) hP hD [0] [1, 2] rfl rfl (by decide) (by decide) hk1 hFc hP1 hD1
    generalize H1 = H at hP hS ⊢
    have hP : va_P (dC, dI) vwCl [(a0, .inr (3, [a0g 0, .int a0_1, .int a0_2, .ref a0_3, .ref a0_4, a0g 5, .int a0_6, .int a0_7, .int a0_8, .int a0_9, .int a0_10, .long a0_11, .int a0_12, a0g 13])), (a0_4, .inl (ka0_4, 12, .inr (.inl (fa0_4)))), (a0_3, .inl (ka0_3, 900, .inl (fa0_3)))] H := hP.sub [2, 0, 1] rfl
    have hD : va_D A [(a0, .inr (3, [a0g 0, .int a0_1, .int a0_2, .ref a0_3, .ref a0_4, a0g 5, .int a0_6, .int a0_7, .int a0_8, .int a0_9, .int a0_10, .long a0_11, .int a0_12, a0g 13])), (a0_4, .inl (ka0_4, 12, .inr (.inl (fa0_4)))), (a0_3, .inl (ka0_3, 900, .inl (fa0_3)))] := hD.sub [2, 0, 1] (by decide) rfl
    rcases hw with hw | hw
    · obtain ⟨hw, h11_0, h11_1⟩ := hw
      subst hw
      have l11k0_a0_10 : (1 : Int) ≤ a0_10.toInt := l5f_a0_10
      have u11k0_a0_10 : a0_10.toInt ≤ (1 : Int) := u5f_a0_10
      refine lv_if_ne (tgt := 53) hx hb dX3_takeName_14 (by decide) (fun _ => ?_) (fun c14 => absurd c14 (by decide +kernel))
      exact (hK0 _ _ _).mp (J53  _ _ _   hP hD hS (lv_sub hl [0] rfl))
    · subst hw
      refine lv_if_ne (tgt := 53) hx hb dX3_takeName_14 (by decide) (fun c14 => absurd (by decide +kernel) c14) (fun _ => ?_)
      refine lv_aload_n hx hb dX3_takeName_17 rfl (lv_at hl 0 rfl) ?_
      refine va_ldcS hx hb hown (sx_R1 hE0) dX3_takeName_18 ?_
      have hPc := hP.sub (ws' := [(a0, .inr (3, [a0g 0, .int a0_1, .int a0_2, .ref a0_3, .ref a0_4, a0g 5, .int a0_6, .int a0_7, .int a0_8, .int a0_9, .int a0_10, .long a0_11, .int a0_12, a0g 13]))]) [0] rfl
      have hDc := hD.sub (ws' := [(a0, .inr (3, [a0g 0, .int a0_1, .int a0_2, .ref a0_3, .ref a0_4, a0g 5, .int a0_6, .int a0_7, .int a0_8, .int a0_9, .int a0_10, .long a0_11, .int a0_12, a0g 13]))]) [0] (by decide) rfl
      have hKc := hK.sub (tys' := []) [] rfl
      have hFc := va_free (wc := [(a0, .inr (3, [a0g 0, .int a0_1, .int a0_2, .ref a0_3, .ref a0_4, a0g 5, .int a0_6, .int a0_7, .int a0_8, .int a0_9, .int a0_10, .long a0_11, .int a0_12, a0g 13]))]) hD hS hA [0] rfl
      refine va_calli (va_runV (As := [.ref (ad 1)]) (rest := []) ⟨hx, hb, hml, hown, hts⟩ (c_X3_isWord l dC dI H.size a0 (ad 1) (fun i9 => ([a0g 0, .int a0_1, .int a0_2, .ref a0_3, .ref a0_4, a0g 5, .int a0_6, .int a0_7, .int a0_8, .int a0_9, .null, .null, .int a0_12, a0g 13] : List Value).getD i9 .null) a0_10 a0_11 3 (Int.le_trans (by decide : (0 : Int) ≤ 1) l5f_a0_10) (Int.le_trans u5f_a0_10 (by decide : (1 : Int) ≤ 4))) (cwV 1 hts gX3_takeName_X3_isWord rfl rfl rfl (by decide +kernel) ⟨Nat.le_of_ble_eq_true rfl, Nat.le_of_ble_eq_true rfl⟩) ⟨ax_blind (fun _ _ _ _ hq => sx_W_same _ _ _ _ (hq)), va_recv hKc hPc (ci := 3) (q0 := 0) rfl rfl, ax_preE hPc hKc hDc (fun U hU hW => sx_W_to (sx_T_w hE0 (i := 1) (by decide)) hS.2.1 hFc hU hW)⟩ rfl rfl hl.1 rfl (lv_room (Nat.le_of_ble_eq_true rfl)) dX3_takeName_20 ⟨Nat.le_of_ble_eq_true rfl, Nat.le_of_ble_eq_true rfl⟩) hS (fun q _ h => hFc q h) hFc (fun r20 u t H1 locs ht hvm hw hB hz1 hk1 hS => ?_)
      obtain ⟨hP1, hK1, hD1⟩ := hB
      rw [ht] at hP1
      obtain ⟨hP, hD⟩ := va_join (wr := [(a0_4, .inl (ka0_4, 12, .inr (.inl (fa0_4)))), (a0_3, .inl (ka0_3, 900, .inl (fa0_3)))]) (w1 := [(a0, .inr (3, [a0g 0, .int a0_1, .int a0_2, .ref a0_3, .ref a0_4, a0g 5, .int a0_6, .int a0_7, .int a0_8, .int a0_9, .int a0_10, .long a0_11, .int a0_12, a0g 13]))]) hP hD [0] [1, 2] rfl rfl (by decide) (by decide) hk1 hFc hP1 hD1
      generalize H1 = H at hP hS ⊢
      have hP : va_P (dC, dI) vwCl [(a0, .inr (3, [a0g 0, .int a0_1, .int a0_2, .ref a0_3, .ref a0_4, a0g 5, .int a0_6, .int a0_7, .int a0_8, .int a0_9, .int a0_10, .long a0_11, .int a0_12, a0g 13])), (a0_4, .inl (ka0_4, 12, .inr (.inl (fa0_4)))), (a0_3, .inl (ka0_3, 900, .inl (fa0_3)))] H := hP.sub [2, 0, 1] rfl
      have hD : va_D A [(a0, .inr (3, [a0g 0, .int a0_1, .int a0_2, .ref a0_3, .ref a0_4, a0g 5, .int a0_6, .int a0_7, .int a0_8, .int a0_9, .int a0_10, .long a0_11, .int a0_12, a0g 13])), (a0_4, .inl (ka0_4, 12, .inr (.inl (fa0_4)))), (a0_3, .inl (ka0_3, 900, .inl (fa0_3)))] := hD.sub [2, 0, 1] (by decide) rfl
      rcases hw with hw | hw
      · obtain ⟨hw, h20_0, h20_1⟩ := hw
        subst hw
        have l20k0_a0_10 : (1 : Int) ≤ a0_10.toInt := l5f_a0_10
        have u20k0_a0_10 : a0_10.toInt ≤ (1 : Int) := u5f_a0_10
        refine lv_if_ne (tgt := 53) hx hb dX3_takeName_23 (by decide) (fun _ => ?_) (fun c23 => absurd c23 (by decide +kernel))
        exact (hK0 _ _ _).mp (J53  _ _ _   hP hD hS (lv_sub hl [0] rfl))
      · subst hw
        refine lv_if_ne (tgt := 53) hx hb dX3_takeName_23 (by decide) (fun c23 => absurd (by decide +kernel) c23) (fun _ => ?_)
        refine lv_aload_n hx hb dX3_takeName_26 rfl (lv_at hl 0 rfl) ?_
        refine va_ldcS hx hb hown (sx_R2 hE0) dX3_takeName_27 ?_
        have hPc := hP.sub (ws' := [(a0, .inr (3, [a0g 0, .int a0_1, .int a0_2, .ref a0_3, .ref a0_4, a0g 5, .int a0_6, .int a0_7, .int a0_8, .int a0_9, .int a0_10, .long a0_11, .int a0_12, a0g 13]))]) [0] rfl
        have hDc := hD.sub (ws' := [(a0, .inr (3, [a0g 0, .int a0_1, .int a0_2, .ref a0_3, .ref a0_4, a0g 5, .int a0_6, .int a0_7, .int a0_8, .int a0_9, .int a0_10, .long a0_11, .int a0_12, a0g 13]))]) [0] (by decide) rfl
        have hKc := hK.sub (tys' := []) [] rfl
        have hFc := va_free (wc := [(a0, .inr (3, [a0g 0, .int a0_1, .int a0_2, .ref a0_3, .ref a0_4, a0g 5, .int a0_6, .int a0_7, .int a0_8, .int a0_9, .int a0_10, .long a0_11, .int a0_12, a0g 13]))]) hD hS hA [0] rfl
        refine va_calli (va_runV (As := [.ref (ad 2)]) (rest := []) ⟨hx, hb, hml, hown, hts⟩ (c_X3_isWord l dC dI H.size a0 (ad 2) (fun i9 => ([a0g 0, .int a0_1, .int a0_2, .ref a0_3, .ref a0_4, a0g 5, .int a0_6, .int a0_7, .int a0_8, .int a0_9, .null, .null, .int a0_12, a0g 13] : List Value).getD i9 .null) a0_10 a0_11 6 (Int.le_trans (by decide : (0 : Int) ≤ 1) l5f_a0_10) (Int.le_trans u5f_a0_10 (by decide : (1 : Int) ≤ 4))) (cwV 1 hts gX3_takeName_X3_isWord rfl rfl rfl (by decide +kernel) ⟨Nat.le_of_ble_eq_true rfl, Nat.le_of_ble_eq_true rfl⟩) ⟨ax_blind (fun _ _ _ _ hq => sx_W_same _ _ _ _ (hq)), va_recv hKc hPc (ci := 3) (q0 := 0) rfl rfl, ax_preE hPc hKc hDc (fun U hU hW => sx_W_to (sx_T_w hE0 (i := 2) (by decide)) hS.2.1 hFc hU hW)⟩ rfl rfl hl.1 rfl (lv_room (Nat.le_of_ble_eq_true rfl)) dX3_takeName_29 ⟨Nat.le_of_ble_eq_true rfl, Nat.le_of_ble_eq_true rfl⟩) hS (fun q _ h => hFc q h) hFc (fun r29 u t H1 locs ht hvm hw hB hz1 hk1 hS => ?_)
        obtain ⟨hP1, hK1, hD1⟩ := hB
        rw [ht] at hP1
        obtain ⟨hP, hD⟩ := va_join (wr := [(a0_4, .inl (ka0_4, 12, .inr (.inl (fa0_4)))), (a0_3, .inl (ka0_3, 900, .inl (fa0_3)))]) (w1 := [(a0, .inr (3, [a0g 0, .int a0_1, .int a0_2, .ref a0_3, .ref a0_4, a0g 5, .int a0_6, .int a0_7, .int a0_8, .int a0_9, .int a0_10, .long a0_11, .int a0_12, a0g 13]))]) hP hD [0] [1, 2] rfl rfl (by decide) (by decide) hk1 hFc hP1 hD1
        generalize H1 = H at hP hS ⊢
        have hP : va_P (dC, dI) vwCl [(a0, .inr (3, [a0g 0, .int a0_1, .int a0_2, .ref a0_3, .ref a0_4, a0g 5, .int a0_6, .int a0_7, .int a0_8, .int a0_9, .int a0_10, .long a0_11, .int a0_12, a0g 13])), (a0_4, .inl (ka0_4, 12, .inr (.inl (fa0_4)))), (a0_3, .inl (ka0_3, 900, .inl (fa0_3)))] H := hP.sub [2, 0, 1] rfl
        have hD : va_D A [(a0, .inr (3, [a0g 0, .int a0_1, .int a0_2, .ref a0_3, .ref a0_4, a0g 5, .int a0_6, .int a0_7, .int a0_8, .int a0_9, .int a0_10, .long a0_11, .int a0_12, a0g 13])), (a0_4, .inl (ka0_4, 12, .inr (.inl (fa0_4)))), (a0_3, .inl (ka0_3, 900, .inl (fa0_3)))] := hD.sub [2, 0, 1] (by decide) rfl
        rcases hw with hw | hw
        · obtain ⟨hw, h29_0, h29_1⟩ := hw
          subst hw
          have l29k0_a0_10 : (1 : Int) ≤ a0_10.toInt := l5f_a0_10
          have u29k0_a0_10 : a0_10.toInt ≤ (1 : Int) := u5f_a0_10
          refine lv_if_ne (tgt := 53) hx hb dX3_takeName_32 (by decide) (fun _ => ?_) (fun c32 => absurd c32 (by decide +kernel))
          exact (hK0 _ _ _).mp (J53  _ _ _   hP hD hS (lv_sub hl [0] rfl))
        · subst hw
          refine lv_if_ne (tgt := 53) hx hb dX3_takeName_32 (by decide) (fun c32 => absurd (by decide +kernel) c32) (fun _ => ?_)
          refine lv_aload_n hx hb dX3_takeName_35 rfl (lv_at hl 0 rfl) ?_
          refine va_ldcS hx hb hown (sx_R3 hE0) dX3_takeName_36 ?_
          have hPc := hP.sub (ws' := [(a0, .inr (3, [a0g 0, .int a0_1, .int a0_2, .ref a0_3, .ref a0_4, a0g 5, .int a0_6, .int a0_7, .int a0_8, .int a0_9, .int a0_10, .long a0_11, .int a0_12, a0g 13]))]) [0] rfl
          have hDc := hD.sub (ws' := [(a0, .inr (3, [a0g 0, .int a0_1, .int a0_2, .ref a0_3, .ref a0_4, a0g 5, .int a0_6, .int a0_7, .int a0_8, .int a0_9, .int a0_10, .long a0_11, .int a0_12, a0g 13]))]) [0] (by decide) rfl
          have hKc := hK.sub (tys' := []) [] rfl
          have hFc := va_free (wc := [(a0, .inr (3, [a0g 0, .int a0_1, .int a0_2, .ref a0_3, .ref a0_4, a0g 5, .int a0_6, .int a0_7, .int a0_8, .int a0_9, .int a0_10, .long a0_11, .int a0_12, a0g 13]))]) hD hS hA [0] rfl
          refine va_calli (va_runV (As := [.ref (ad 3)]) (rest := []) ⟨hx, hb, hml, hown, hts⟩ (c_X3_isWord l dC dI H.size a0 (ad 3) (fun i9 => ([a0g 0, .int a0_1, .int a0_2, .ref a0_3, .ref a0_4, a0g 5, .int a0_6, .int a0_7, .int a0_8, .int a0_9, .null, .null, .int a0_12, a0g 13] : List Value).getD i9 .null) a0_10 a0_11 7 (Int.le_trans (by decide : (0 : Int) ≤ 1) l5f_a0_10) (Int.le_trans u5f_a0_10 (by decide : (1 : Int) ≤ 4))) (cwV 1 hts gX3_takeName_X3_isWord rfl rfl rfl (by decide +kernel) ⟨Nat.le_of_ble_eq_true rfl, Nat.le_of_ble_eq_true rfl⟩) ⟨ax_blind (fun _ _ _ _ hq => sx_W_same _ _ _ _ (hq)), va_recv hKc hPc (ci := 3) (q0 := 0) rfl rfl, ax_preE hPc hKc hDc (fun U hU hW => sx_W_to (sx_T_w hE0 (i := 3) (by decide)) hS.2.1 hFc hU hW)⟩ rfl rfl hl.1 rfl (lv_room (Nat.le_of_ble_eq_true rfl)) dX3_takeName_38 ⟨Nat.le_of_ble_eq_true rfl, Nat.le_of_ble_eq_true rfl⟩) hS (fun q _ h => hFc q h) hFc (fun r38 u t H1 locs ht hvm hw hB hz1 hk1 hS => ?_)
          obtain ⟨hP1, hK1, hD1⟩ := hB
          rw [ht] at hP1
          obtain ⟨hP, hD⟩ := va_join (wr := [(a0_4, .inl (ka0_4, 12, .inr (.inl (fa0_4)))), (a0_3, .inl (ka0_3, 900, .inl (fa0_3)))]) (w1 := [(a0, .inr (3, [a0g 0, .int a0_1, .int a0_2, .ref a0_3, .ref a0_4, a0g 5, .int a0_6, .int a0_7, .int a0_8, .int a0_9, .int a0_10, .long a0_11, .int a0_12, a0g 13]))]) hP hD [0] [1, 2] rfl rfl (by decide) (by decide) hk1 hFc hP1 hD1
          generalize H1 = H at hP hS ⊢
          have hP : va_P (dC, dI) vwCl [(a0, .inr (3, [a0g 0, .int a0_1, .int a0_2, .ref a0_3, .ref a0_4, a0g 5, .int a0_6, .int a0_7, .int a0_8, .int a0_9, .int a0_10, .long a0_11, .int a0_12, a0g 13])), (a0_4, .inl (ka0_4, 12, .inr (.inl (fa0_4)))), (a0_3, .inl (ka0_3, 900, .inl (fa0_3)))] H := hP.sub [2, 0, 1] rfl
          have hD : va_D A [(a0, .inr (3, [a0g 0, .int a0_1, .int a0_2, .ref a0_3, .ref a0_4, a0g 5, .int a0_6, .int a0_7, .int a0_8, .int a0_9, .int a0_10, .long a0_11, .int a0_12, a0g 13])), (a0_4, .inl (ka0_4, 12, .inr (.inl (fa0_4)))), (a0_3, .inl (ka0_3, 900, .inl (fa0_3)))] := hD.sub [2, 0, 1] (by decide) rfl
          rcases hw with hw | hw
          · obtain ⟨hw, h38_0, h38_1⟩ := hw
            subst hw
            have l38k0_a0_10 : (1 : Int) ≤ a0_10.toInt := l5f_a0_10
            have u38k0_a0_10 : a0_10.toInt ≤ (1 : Int) := u5f_a0_10
            refine lv_if_ne (tgt := 53) hx hb dX3_takeName_41 (by decide) (fun _ => ?_) (fun c41 => absurd c41 (by decide +kernel))
            exact (hK0 _ _ _).mp (J53  _ _ _   hP hD hS (lv_sub hl [0] rfl))
          · subst hw
            refine lv_if_ne (tgt := 53) hx hb dX3_takeName_41 (by decide) (fun c41 => absurd (by decide +kernel) c41) (fun _ => ?_)
            refine lv_aload_n hx hb dX3_takeName_44 rfl (lv_at hl 0 rfl) ?_
            refine va_ldcS hx hb hown (sx_R4 hE0) dX3_takeName_45 ?_
            have hPc := hP.sub (ws' := [(a0, .inr (3, [a0g 0, .int a0_1, .int a0_2, .ref a0_3, .ref a0_4, a0g 5, .int a0_6, .int a0_7, .int a0_8, .int a0_9, .int a0_10, .long a0_11, .int a0_12, a0g 13]))]) [0] rfl
            have hDc := hD.sub (ws' := [(a0, .inr (3, [a0g 0, .int a0_1, .int a0_2, .ref a0_3, .ref a0_4, a0g 5, .int a0_6, .int a0_7, .int a0_8, .int a0_9, .int a0_10, .long a0_11, .int a0_12, a0g 13]))]) [0] (by decide) rfl
            have hKc := hK.sub (tys' := []) [] rfl
            have hFc := va_free (wc := [(a0, .inr (3, [a0g 0, .int a0_1, .int a0_2, .ref a0_3, .ref a0_4, a0g 5, .int a0_6, .int a0_7, .int a0_8, .int a0_9, .int a0_10, .long a0_11, .int a0_12, a0g 13]))]) hD hS hA [0] rfl
            refine va_calli (va_runV (As := [.ref (ad 4)]) (rest := []) ⟨hx, hb, hml, hown, hts⟩ (c_X3_isWord l dC dI H.size a0 (ad 4) (fun i9 => ([a0g 0, .int a0_1, .int a0_2, .ref a0_3, .ref a0_4, a0g 5, .int a0_6, .int a0_7, .int a0_8, .int a0_9, .null, .null, .int a0_12, a0g 13] : List Value).getD i9 .null) a0_10 a0_11 4 (Int.le_trans (by decide : (0 : Int) ≤ 1) l5f_a0_10) (Int.le_trans u5f_a0_10 (by decide : (1 : Int) ≤ 4))) (cwV 1 hts gX3_takeName_X3_isWord rfl rfl rfl (by decide +kernel) ⟨Nat.le_of_ble_eq_true rfl, Nat.le_of_ble_eq_true rfl⟩) ⟨ax_blind (fun _ _ _ _ hq => sx_W_same _ _ _ _ (hq)), va_recv hKc hPc (ci := 3) (q0 := 0) rfl rfl, ax_preE hPc hKc hDc (fun U hU hW => sx_W_to (sx_T_w hE0 (i := 4) (by decide)) hS.2.1 hFc hU hW)⟩ rfl rfl hl.1 rfl (lv_room (Nat.le_of_ble_eq_true rfl)) dX3_takeName_47 ⟨Nat.le_of_ble_eq_true rfl, Nat.le_of_ble_eq_true rfl⟩) hS (fun q _ h => hFc q h) hFc (fun r47 u t H1 locs ht hvm hw hB hz1 hk1 hS => ?_)
            obtain ⟨hP1, hK1, hD1⟩ := hB
            rw [ht] at hP1
            obtain ⟨hP, hD⟩ := va_join (wr := [(a0_4, .inl (ka0_4, 12, .inr (.inl (fa0_4)))), (a0_3, .inl (ka0_3, 900, .inl (fa0_3)))]) (w1 := [(a0, .inr (3, [a0g 0, .int a0_1, .int a0_2, .ref a0_3, .ref a0_4, a0g 5, .int a0_6, .int a0_7, .int a0_8, .int a0_9, .int a0_10, .long a0_11, .int a0_12, a0g 13]))]) hP hD [0] [1, 2] rfl rfl (by decide) (by decide) hk1 hFc hP1 hD1
            generalize H1 = H at hP hS ⊢
            have hP : va_P (dC, dI) vwCl [(a0, .inr (3, [a0g 0, .int a0_1, .int a0_2, .ref a0_3, .ref a0_4, a0g 5, .int a0_6, .int a0_7, .int a0_8, .int a0_9, .int a0_10, .long a0_11, .int a0_12, a0g 13])), (a0_4, .inl (ka0_4, 12, .inr (.inl (fa0_4)))), (a0_3, .inl (ka0_3, 900, .inl (fa0_3)))] H := hP.sub [2, 0, 1] rfl
            have hD : va_D A [(a0, .inr (3, [a0g 0, .int a0_1, .int a0_2, .ref a0_3, .ref a0_4, a0g 5, .int a0_6, .int a0_7, .int a0_8, .int a0_9, .int a0_10, .long a0_11, .int a0_12, a0g 13])), (a0_4, .inl (ka0_4, 12, .inr (.inl (fa0_4)))), (a0_3, .inl (ka0_3, 900, .inl (fa0_3)))] := hD.sub [2, 0, 1] (by decide) rfl
            rcases hw with hw | hw
            · obtain ⟨hw, h47_0, h47_1⟩ := hw
              subst hw
              have l47k0_a0_10 : (1 : Int) ≤ a0_10.toInt := l5f_a0_10
              have u47k0_a0_10 : a0_10.toInt ≤ (1 : Int) := u5f_a0_10
              refine lv_if_eq (tgt := 59) hx hb dX3_takeName_50 (by decide) (fun c50 => absurd c50 (by decide +kernel)) (fun _ => ?_)
              exact (hK0 _ _ _).mp (J53  _ _ _   hP hD hS (lv_sub hl [0] rfl))
            · subst hw
              refine lv_if_eq (tgt := 59) hx hb dX3_takeName_50 (by decide) (fun _ => ?_) (fun c50 => absurd (by decide +kernel) c50)
              refine lv_iconst (v := 0) hx hb dX3_takeName_59 (by decide) ?_
              refine lv_istore_n (lv' := [(1, .int 0), (0, .ref a0)]) hx hb dX3_takeName_60 rfl hl (by decide) rfl (fun ls hl => ?_)
              have J61 : ∀ (n : Nat) (j61l1 : Int32) (H : Heap) (locs : List Loc) (ls : Array Slot), (13 : Int) - j61l1.toInt ≤ (n : Int) → (0 : Int) ≤ j61l1.toInt → j61l1.toInt ≤ (12 : Int) → va_P (dC, dI) vwCl [(a0, .inr (3, [a0g 0, .int a0_1, .int a0_2, .ref a0_3, .ref a0_4, a0g 5, .int a0_6, .int a0_7, .int a0_8, .int a0_9, .int a0_10, .long a0_11, .int a0_12, a0g 13])), (a0_4, .inl (ka0_4, 12, .inr (.inl (fa0_4)))), (a0_3, .inl (ka0_3, 900, .inl (fa0_3)))] H → va_D A [(a0, .inr (3, [a0g 0, .int a0_1, .int a0_2, .ref a0_3, .ref a0_4, a0g 5, .int a0_6, .int a0_7, .int a0_8, .int a0_9, .int a0_10, .long a0_11, .int a0_12, a0g 13])), (a0_4, .inl (ka0_4, 12, .inr (.inl (fa0_4)))), (a0_3, .inl (ka0_3, 900, .inl (fa0_3)))] → va_S A s.heap H locs → lv_has ls 2 [(0, .ref a0), (1, .int j61l1)] → K H locs (F0 m 61 ls []) := by
                intro n
                induction n with
                | zero =>
                  intro j61l1 H locs ls hm bj61l1_l bj61l1_u hP hD hS hl
                  have h8 := ai_min j61l1
                  have h9 := ai_max j61l1
                  exact absurd hm (by omega)
                | succ n ih61 =>
                  intro j61l1 H locs ls hm bj61l1_l bj61l1_u hP hD hS hl
                  refine (hK0 _ _ _).mpr ?_
                  have hm61 := hm
                  refine lv_iload_n hx hb dX3_takeName_61 rfl (lv_at hl 1 rfl) ?_
                  refine lv_aload_n hx hb dX3_takeName_62 rfl (lv_at hl 0 rfl) ?_
                  refine va_get (D := (dC, dI)) (ci := 3) (v := .int a0_6) (C := RX3) (T := TX3) (N := 14) hx hb hts (by decide +kernel) hown hK hP 0 rfl rfl 6 (by decide) (hts (.fieldLink RX3 42 "WaxTurns$Reade\x72" "nameCount" "I") (by decide +kernel)) (fun _ h9 => h9) rfl dX3_takeName_63 ?_
                  refine lv_icmp_ge (tgt := 95) hx hb dX3_takeName_66 (by decide) (fun c66 => ?_) (fun c66 => ?_)
                  · have gc66 := ai_le c66
                    have u66t_a0_6 : a0_6.toInt ≤ (12 : Int) := ba0_6_u
                    have l66t_j61l1 : (0 : Int) ≤ j61l1.toInt := bj61l1_l
                    refine lv_aload_n hx hb dX3_takeName_95 rfl (lv_at hl 0 rfl) ?_
                    refine va_get (D := (dC, dI)) (ci := 3) (v := .int a0_6) (C := RX3) (T := TX3) (N := 14) hx hb hts (by decide +kernel) hown hK hP 0 rfl rfl 6 (by decide) (hts (.fieldLink RX3 42 "WaxTurns$Reade\x72" "nameCount" "I") (by decide +kernel)) (fun _ h9 => h9) rfl dX3_takeName_96 ?_
                    refine lv_bipush (v := 12) hx hb dX3_takeName_99 (by decide) ?_
                    have J127 : ∀ (j127a0_6 : Int32) (j127a0_4_a : Nat → Int64) (H : Heap) (locs : List Loc) (ls : Array Slot), (0 : Int) ≤ j127a0_6.toInt → j127a0_6.toInt ≤ (12 : Int) → va_P (dC, dI) vwCl [(a0, .inr (3, [a0g 0, .int a0_1, .int a0_2, .ref a0_3, .ref a0_4, a0g 5, .int j127a0_6, .int a0_7, .int a0_8, .int a0_9, .int a0_10, .long a0_11, .int a0_12, a0g 13])), (a0_4, .inl (ka0_4, 12, .inr (.inl (j127a0_4_a)))), (a0_3, .inl (ka0_3, 900, .inl (fa0_3)))] H → va_D A [(a0, .inr (3, [a0g 0, .int a0_1, .int a0_2, .ref a0_3, .ref a0_4, a0g 5, .int j127a0_6, .int a0_7, .int a0_8, .int a0_9, .int a0_10, .long a0_11, .int a0_12, a0g 13])), (a0_4, .inl (ka0_4, 12, .inr (.inl (j127a0_4_a)))), (a0_3, .inl (ka0_3, 900, .inl (fa0_3)))] → va_S A s.heap H locs → lv_has ls 2 [(0, .ref a0)] → K H locs (F0 m 127 ls []) := by
                      intro j127a0_6 j127a0_4_a H locs ls  bj127a0_6_l bj127a0_6_u hP hD hS hl
                      refine (hK0 _ _ _).mpr ?_
                      refine lv_aload_n hx hb dX3_takeName_127 rfl (lv_at hl 0 rfl) ?_
                      have hPc := hP.sub (ws' := [(a0, .inr (3, [a0g 0, .int a0_1, .int a0_2, .ref a0_3, .ref a0_4, a0g 5, .int j127a0_6, .int a0_7, .int a0_8, .int a0_9, .int a0_10, .long a0_11, .int a0_12, a0g 13])), (a0_3, .inl (ka0_3, 900, .inl (fa0_3)))]) [0, 2] rfl
                      have hDc := hD.sub (ws' := [(a0, .inr (3, [a0g 0, .int a0_1, .int a0_2, .ref a0_3, .ref a0_4, a0g 5, .int j127a0_6, .int a0_7, .int a0_8, .int a0_9, .int a0_10, .long a0_11, .int a0_12, a0g 13])), (a0_3, .inl (ka0_3, 900, .inl (fa0_3)))]) [0, 2] (by decide) rfl
                      have hKc := hK.sub (tys' := [(ka0_3, .byte)]) [1] rfl
                      have hFc := va_free (wc := [(a0, .inr (3, [a0g 0, .int a0_1, .int a0_2, .ref a0_3, .ref a0_4, a0g 5, .int j127a0_6, .int a0_7, .int a0_8, .int a0_9, .int a0_10, .long a0_11, .int a0_12, a0g 13])), (a0_3, .inl (ka0_3, 900, .inl (fa0_3)))]) hD hS hA [0, 2] rfl
                      refine va_callv (va_runV (As := []) (rest := []) ⟨hx, hb, hml, hown, hts⟩ (c_X3_advance l dC dI H.size a0 (fun i9 => ([a0g 0, .int a0_1, .int a0_2, .null, .ref a0_4, a0g 5, .int j127a0_6, .null, .null, .null, .null, .null, .null, a0g 13] : List Value).getD i9 .null) a0_3 a0_7 a0_8 a0_9 a0_10 a0_11 a0_12 ka0_3 fa0_3 ba0_7_l ba0_7_u ba0_8_l ba0_8_u ba0_9_l ba0_9_u (Int.le_trans (by decide : (0 : Int) ≤ 1) l5f_a0_10) (Int.le_trans u5f_a0_10 (by decide : (1 : Int) ≤ 4))) (cwV 0 hts gX3_takeName_X3_advance rfl rfl rfl (by decide +kernel) ⟨Nat.le_of_ble_eq_true rfl, Nat.le_of_ble_eq_true rfl⟩) ⟨ax_blind (fun _ _ _ _ _ => trivial), va_recv hKc hPc (ci := 3) (q0 := 0) rfl rfl, ax_pre hPc hKc hDc (fun _ _ => trivial)⟩ rfl rfl hl.1 rfl (lv_room (Nat.le_of_ble_eq_true rfl)) dX3_takeName_128 ⟨Nat.le_of_ble_eq_true rfl, Nat.le_of_ble_eq_true rfl⟩) hS (fun q _ h => hFc q h) hFc (fun u t H1 locs ht hvm hw hB hz1 hk1 hS => ?_)
                      obtain ⟨v128na0_8, v128na0_9, v128na0_10, v128na0_11, v128na0_12, bv128na0_8, bv128na0_9, bv128na0_10, hP1, hK1, hD1⟩ := hB
                      rw [ht] at hP1
                      obtain ⟨hP, hD⟩ := va_join (wr := [(a0_4, .inl (ka0_4, 12, .inr (.inl (j127a0_4_a))))]) (w1 := [(a0, .inr (3, [a0g 0, .int a0_1, .int a0_2, .ref a0_3, .ref a0_4, a0g 5, .int j127a0_6, .int a0_7, .int v128na0_8, .int v128na0_9, .int v128na0_10, .long v128na0_11, .int v128na0_12, a0g 13])), (a0_3, .inl (ka0_3, 900, .inl (fa0_3)))]) hP hD [0, 2] [1] rfl rfl (by decide) (by decide) hk1 hFc hP1 hD1
                      generalize H1 = H at hP hS ⊢
                      have hP : va_P (dC, dI) vwCl [(a0, .inr (3, [a0g 0, .int a0_1, .int a0_2, .ref a0_3, .ref a0_4, a0g 5, .int j127a0_6, .int a0_7, .int v128na0_8, .int v128na0_9, .int v128na0_10, .long v128na0_11, .int v128na0_12, a0g 13])), (a0_4, .inl (ka0_4, 12, .inr (.inl (j127a0_4_a)))), (a0_3, .inl (ka0_3, 900, .inl (fa0_3)))] H := hP.sub [1, 0, 2] rfl
                      have hD : va_D A [(a0, .inr (3, [a0g 0, .int a0_1, .int a0_2, .ref a0_3, .ref a0_4, a0g 5, .int j127a0_6, .int a0_7, .int v128na0_8, .int v128na0_9, .int v128na0_10, .long v128na0_11, .int v128na0_12, a0g 13])), (a0_4, .inl (ka0_4, 12, .inr (.inl (j127a0_4_a)))), (a0_3, .inl (ka0_3, 900, .inl (fa0_3)))] := hD.sub [1, 0, 2] (by decide) rfl
                      refine lv_iconst (v := 1) hx hb dX3_takeName_131 (by decide) ?_
                      exact W.zret (v := 1) hx hb hr rfl (fun t ht hW => ⟨⟨1, (), rfl, (Or.inl (rfl)), a0_1, a0_2, j127a0_6, v128na0_8, v128na0_9, v128na0_10, v128na0_11, v128na0_12, j127a0_4_a, ⟨bj127a0_6_l, bj127a0_6_u⟩, ⟨bv128na0_8.1, bv128na0_8.2⟩, ⟨bv128na0_9.1, bv128na0_9.2⟩, ⟨bv128na0_10.1, bv128na0_10.2⟩, by rw [ht]; exact hP, va_K.moved hW.alike hK, hD⟩, hS.F ht⟩) hS.2.2 dX3_takeName_132
                    refine lv_icmp_ge (tgt := 127) hx hb dX3_takeName_101 (by decide) (fun c101 => ?_) (fun c101 => ?_)
                    · have gc101 := ai_le c101
                      have l101t_a0_6 : (12 : Int) ≤ a0_6.toInt := Int.le_trans (by decide : (12 : Int) ≤ (12 : Int32).toInt) gc101
                      exact (hK0 _ _ _).mp (J127 a0_6 fa0_4 _ _ _  (Int.le_trans (by decide : (0 : Int) ≤ 12) l101t_a0_6) u66t_a0_6 hP hD hS (lv_sub hl [0] rfl))
                    · have gc101 := ai_nle c101
                      have u101f_a0_6 : a0_6.toInt ≤ (11 : Int) := ai_lthi gc101 (by decide : (12 : Int32).toInt ≤ (12 : Int))
                      refine lv_aload_n hx hb dX3_takeName_104 rfl (lv_at hl 0 rfl) ?_
                      refine va_get (D := (dC, dI)) (ci := 3) (v := .ref a0_4) (C := RX3) (T := TX3) (N := 14) hx hb hts (by decide +kernel) hown hK hP 0 rfl rfl 4 (by decide) (hts (.fieldLink RX3 15 "WaxTurns$Reade\x72" "names" "[J") (by decide +kernel)) (fun _ h9 => h9) rfl dX3_takeName_105 ?_
                      refine lv_aload_n hx hb dX3_takeName_108 rfl (lv_at hl 0 rfl) ?_
                      refine va_get (D := (dC, dI)) (ci := 3) (v := .int a0_6) (C := RX3) (T := TX3) (N := 14) hx hb hts (by decide +kernel) hown hK hP 0 rfl rfl 6 (by decide) (hts (.fieldLink RX3 42 "WaxTurns$Reade\x72" "nameCount" "I") (by decide +kernel)) (fun _ h9 => h9) rfl dX3_takeName_109 ?_
                      refine lv_aload_n hx hb dX3_takeName_112 rfl (lv_at hl 0 rfl) ?_
                      refine va_get (D := (dC, dI)) (ci := 3) (v := .long a0_11) (C := RX3) (T := TX3) (N := 14) hx hb hts (by decide +kernel) hown hK hP 0 rfl rfl 11 (by decide) (hts (.fieldLink RX3 81 "WaxTurns$Reade\x72" "word" "J") (by decide +kernel)) (fun _ h9 => h9) rfl dX3_takeName_113 ?_
                      refine va_last hx hb hK hP hD hS 1 0 rfl rfl (ai_in ba0_6_l u101f_a0_6 (by decide) (by decide)) dX3_takeName_116 (fun H locs hP hD hS => ?_)
                      obtain ⟨f116, hP, hD⟩ : ∃ f116 : Nat → Int64, va_P (dC, dI) vwCl [(a0, .inr (3, [a0g 0, .int a0_1, .int a0_2, .ref a0_3, .ref a0_4, a0g 5, .int a0_6, .int a0_7, .int a0_8, .int a0_9, .int a0_10, .long a0_11, .int a0_12, a0g 13])), (a0_4, .inl (ka0_4, 12, .inr (.inl (f116)))), (a0_3, .inl (ka0_3, 900, .inl (fa0_3)))] H ∧ va_D A [(a0, .inr (3, [a0g 0, .int a0_1, .int a0_2, .ref a0_3, .ref a0_4, a0g 5, .int a0_6, .int a0_7, .int a0_8, .int a0_9, .int a0_10, .long a0_11, .int a0_12, a0g 13])), (a0_4, .inl (ka0_4, 12, .inr (.inl (f116)))), (a0_3, .inl (ka0_3, 900, .inl (fa0_3)))] := ⟨_, hP, hD⟩
                      refine lv_aload_n hx hb dX3_takeName_117 rfl (lv_at hl 0 rfl) ?_
                      refine lv_dup hx hb dX3_takeName_118 rfl ?_
                      refine va_get (D := (dC, dI)) (ci := 3) (v := .int a0_6) (C := RX3) (T := TX3) (N := 14) hx hb hts (by decide +kernel) hown hK hP 0 rfl rfl 6 (by decide) (hts (.fieldLink RX3 42 "WaxTurns$Reade\x72" "nameCount" "I") (by decide +kernel)) (fun _ h9 => h9) rfl dX3_takeName_119 ?_
                      refine lv_iconst (v := 1) hx hb dX3_takeName_122 (by decide) ?_
                      refine lv_iadd hx hb dX3_takeName_123 ?_
                      refine lv_topi (fun x123 ex123 => ?_)
                      have qx123 : x123.toInt = a0_6.toInt + (1 : Int32).toInt := ai_add ex123 ⟨ba0_6_l, u101f_a0_6⟩ ⟨(by decide : (1 : Int) ≤ (1 : Int32).toInt), (by decide : (1 : Int32).toInt ≤ (1 : Int))⟩ (by decide) (by decide)
                      have bx123 : (1 : Int) ≤ x123.toInt ∧ x123.toInt ≤ 12 := ⟨by rw [qx123]; exact Int.add_le_add ba0_6_l (by decide : (1 : Int) ≤ (1 : Int32).toInt), by rw [qx123]; exact Int.add_le_add u101f_a0_6 (by decide : (1 : Int32).toInt ≤ (1 : Int))⟩
                      have wx123 : x123.toInt = a0_6.toInt + 1 := qx123
                      refine va_put (D := (dC, dI)) (ci := 3) (v := .int x123) (ty := .int) (C := RX3) (T := TX3) (N := 14) hx hb hts (by decide +kernel) tyX3 tyX3_ok nmX3 hown hK hP hD hS 0 rfl rfl 6 (by decide) (hts (.fieldLink RX3 42 "WaxTurns$Reade\x72" "nameCount" "I") (by decide +kernel)) (fun _ h9 => h9) rfl (by decide +kernel) rfl rfl (Nat.le_of_ble_eq_true rfl) dX3_takeName_124 (fun H locs hP hD hS => ?_)
                      have hP : va_P (dC, dI) vwCl [(a0, .inr (3, [a0g 0, .int a0_1, .int a0_2, .ref a0_3, .ref a0_4, a0g 5, .int x123, .int a0_7, .int a0_8, .int a0_9, .int a0_10, .long a0_11, .int a0_12, a0g 13])), (a0_4, .inl (ka0_4, 12, .inr (.inl (f116)))), (a0_3, .inl (ka0_3, 900, .inl (fa0_3)))] H := hP
                      have hD : va_D A [(a0, .inr (3, [a0g 0, .int a0_1, .int a0_2, .ref a0_3, .ref a0_4, a0g 5, .int x123, .int a0_7, .int a0_8, .int a0_9, .int a0_10, .long a0_11, .int a0_12, a0g 13])), (a0_4, .inl (ka0_4, 12, .inr (.inl (f116)))), (a0_3, .inl (ka0_3, 900, .inl (fa0_3)))] := hD
                      exact (hK0 _ _ _).mp (J127 x123 f116 _ _ _  (Int.le_trans (by decide : (0 : Int) ≤ 1) bx123.1) bx123.2 hP hD hS (lv_sub hl [0] rfl))
                  · have gc66 := ai_nle c66
                    have u66f_j61l1 : j61l1.toInt ≤ (11 : Int) := ai_lthi gc66 ba0_6_u
                    have l66f_a0_6 : (1 : Int) ≤ a0_6.toInt := ai_ltlo gc66 bj61l1_l
                    refine lv_aload_n hx hb dX3_takeName_69 rfl (lv_at hl 0 rfl) ?_
                    refine va_get (D := (dC, dI)) (ci := 3) (v := .ref a0_4) (C := RX3) (T := TX3) (N := 14) hx hb hts (by decide +kernel) hown hK hP 0 rfl rfl 4 (by decide) (hts (.fieldLink RX3 15 "WaxTurns$Reade\x72" "names" "[J") (by decide +kernel)) (fun _ h9 => h9) rfl dX3_takeName_70 ?_
                    refine lv_iload_n hx hb dX3_takeName_73 rfl (lv_at hl 1 rfl) ?_
                    refine va_lald hx hb hK hP 1 0 rfl rfl (ai_in bj61l1_l u66f_j61l1 (by decide) (by decide)) dX3_takeName_74 ?_
                    refine lv_topl (fun x74 ex74 => ?_)
                    refine lv_aload_n hx hb dX3_takeName_75 rfl (lv_at hl 0 rfl) ?_
                    refine va_get (D := (dC, dI)) (ci := 3) (v := .long a0_11) (C := RX3) (T := TX3) (N := 14) hx hb hts (by decide +kernel) hown hK hP 0 rfl rfl 11 (by decide) (hts (.fieldLink RX3 81 "WaxTurns$Reade\x72" "word" "J") (by decide +kernel)) (fun _ h9 => h9) rfl dX3_takeName_76 ?_
                    refine W.lcmp hx hb dX3_takeName_79 ?_
                    refine lv_topi (fun x79 ex79 => ?_)
                    refine lv_if_ne (tgt := 89) hx hb dX3_takeName_80 (by decide) (fun c80 => ?_) (fun c80 => ?_)
                    · have gc80 := ai_ne c80
                      obtain ⟨x89, ex89⟩ : ∃ y : Int32, y = j61l1 + Int32.ofInt 1 := ⟨_, rfl⟩
                      have qx89 : x89.toInt = j61l1.toInt + 1 := ai_inc ex89 (by decide) (by decide) u66f_j61l1 (by decide)
                      have bx89 : (1 : Int) ≤ x89.toInt ∧ x89.toInt ≤ 12 := ⟨by rw [qx89]; exact Int.add_le_add bj61l1_l (Int.le_refl _), by rw [qx89]; exact Int.add_le_add u66f_j61l1 (Int.le_refl _)⟩
                      refine lv_iinc (v := x89) (lv' := [(1, .int x89), (0, .ref a0)]) hx hb dX3_takeName_89 hl (k := 1) rfl ex89.symm (by decide) rfl (fun ls hl => ?_)
                      refine lv_goto (tgt := 61) hx hb dX3_takeName_92 (by decide) ?_
                      exact (hK0 _ _ _).mp (ih61 x89 _ _ _ (by have h0 := qx89; omega) (Int.le_trans (by decide : (0 : Int) ≤ 1) bx89.1) bx89.2 hP hD hS (lv_sub hl [1, 0] rfl))
                    · have gc80 := ai_eq c80
                      have u80f_x79 : x79.toInt ≤ (0 : Int) := Int.le_trans (Int.le_of_eq gc80) (by decide : (0 : Int32).toInt ≤ (0 : Int))
                      have l80f_x79 : (0 : Int) ≤ x79.toInt := Int.le_trans (by decide : (0 : Int) ≤ (0 : Int32).toInt) (Int.le_of_eq gc80.symm)
                      refine lv_aload_n hx hb dX3_takeName_83 rfl (lv_at hl 0 rfl) ?_
                      refine lv_iconst (v := 3) hx hb dX3_takeName_84 (by decide) ?_
                      have hPc := hP.sub (ws' := [(a0, .inr (3, [a0g 0, .int a0_1, .int a0_2, .ref a0_3, .ref a0_4, a0g 5, .int a0_6, .int a0_7, .int a0_8, .int a0_9, .int a0_10, .long a0_11, .int a0_12, a0g 13]))]) [0] rfl
                      have hDc := hD.sub (ws' := [(a0, .inr (3, [a0g 0, .int a0_1, .int a0_2, .ref a0_3, .ref a0_4, a0g 5, .int a0_6, .int a0_7, .int a0_8, .int a0_9, .int a0_10, .long a0_11, .int a0_12, a0g 13]))]) [0] (by decide) rfl
                      have hKc := hK.sub (tys' := []) [] rfl
                      have hFc := va_free (wc := [(a0, .inr (3, [a0g 0, .int a0_1, .int a0_2, .ref a0_3, .ref a0_4, a0g 5, .int a0_6, .int a0_7, .int a0_8, .int a0_9, .int a0_10, .long a0_11, .int a0_12, a0g 13]))]) hD hS hA [0] rfl
                      refine va_calli (va_runV (As := [.int 3]) (rest := []) ⟨hx, hb, hml, hown, hts⟩ (c_X3_fails l dC dI H.size a0 3 (fun i9 => ([a0g 0, .null, .null, .ref a0_3, .ref a0_4, a0g 5, .int a0_6, .int a0_7, .null, .int a0_9, .int a0_10, .long a0_11, .int a0_12, a0g 13] : List Value).getD i9 .null) a0_1 a0_2 a0_8 ba0_8_l ba0_8_u) (cwV 1 hts gX3_takeName_X3_fails rfl rfl rfl (by decide +kernel) ⟨Nat.le_of_ble_eq_true rfl, Nat.le_of_ble_eq_true rfl⟩) ⟨ax_blind (fun _ _ _ _ _ => trivial), va_recv hKc hPc (ci := 3) (q0 := 0) rfl rfl, ax_pre hPc hKc hDc (fun _ _ => trivial)⟩ rfl rfl hl.1 rfl (lv_room (Nat.le_of_ble_eq_true rfl)) dX3_takeName_85 ⟨Nat.le_of_ble_eq_true rfl, Nat.le_of_ble_eq_true rfl⟩) hS (fun q _ h => hFc q h) hFc (fun r85 u t H1 locs ht hvm hw hB hz1 hk1 hS => ?_)
                      obtain ⟨v85na0_1, v85na0_2, hP1, hK1, hD1⟩ := hB
                      rw [ht] at hP1
                      obtain ⟨hP, hD⟩ := va_join (wr := [(a0_4, .inl (ka0_4, 12, .inr (.inl (fa0_4)))), (a0_3, .inl (ka0_3, 900, .inl (fa0_3)))]) (w1 := [(a0, .inr (3, [a0g 0, .int v85na0_1, .int v85na0_2, .ref a0_3, .ref a0_4, a0g 5, .int a0_6, .int a0_7, .int a0_8, .int a0_9, .int a0_10, .long a0_11, .int a0_12, a0g 13]))]) hP hD [0] [1, 2] rfl rfl (by decide) (by decide) hk1 hFc hP1 hD1
                      generalize H1 = H at hP hS ⊢
                      have hP : va_P (dC, dI) vwCl [(a0, .inr (3, [a0g 0, .int v85na0_1, .int v85na0_2, .ref a0_3, .ref a0_4, a0g 5, .int a0_6, .int a0_7, .int a0_8, .int a0_9, .int a0_10, .long a0_11, .int a0_12, a0g 13])), (a0_4, .inl (ka0_4, 12, .inr (.inl (fa0_4)))), (a0_3, .inl (ka0_3, 900, .inl (fa0_3)))] H := hP.sub [2, 0, 1] rfl
                      have hD : va_D A [(a0, .inr (3, [a0g 0, .int v85na0_1, .int v85na0_2, .ref a0_3, .ref a0_4, a0g 5, .int a0_6, .int a0_7, .int a0_8, .int a0_9, .int a0_10, .long a0_11, .int a0_12, a0g 13])), (a0_4, .inl (ka0_4, 12, .inr (.inl (fa0_4)))), (a0_3, .inl (ka0_3, 900, .inl (fa0_3)))] := hD.sub [2, 0, 1] (by decide) rfl
                      have hw : r85 = 0 := hw
                      have hw := hw.symm
                      subst hw
                      exact W.zret (v := 0) hx hb hr rfl (fun t ht hW => ⟨⟨0, (), rfl, (Or.inr (rfl)), v85na0_1, v85na0_2, a0_6, a0_8, a0_9, a0_10, a0_11, a0_12, fa0_4, ⟨Int.le_trans (by decide) l66f_a0_6, ba0_6_u⟩, ⟨ba0_8_l, ba0_8_u⟩, ⟨ba0_9_l, ba0_9_u⟩, ⟨Int.le_trans (by decide) l5f_a0_10, Int.le_trans u5f_a0_10 (by decide)⟩, by rw [ht]; exact hP, va_K.moved hW.alike hK, hD⟩, hS.F ht⟩) hS.2.2 dX3_takeName_88
              exact (hK0 _ _ _).mp (J61 13 0 _ _ _ (by have h1 : (0 : Int) ≤ (0 : Int32).toInt := (by decide : (0 : Int) ≤ (0 : Int32).toInt); have h2 : (0 : Int32).toInt ≤ (0 : Int) := (by decide : (0 : Int32).toInt ≤ (0 : Int)); omega) (by decide : (0 : Int) ≤ (0 : Int32).toInt) (Int.le_trans (by decide : (0 : Int32).toInt ≤ (0 : Int)) (by decide : (0 : Int) ≤ 12)) hP hD hS (lv_sub hl [1, 0] rfl))

set_option maxHeartbeats 4000000 in
set_option maxRecDepth 100000 in
theorem c_X3_readHall (l : Launch) (dC : Nat → ClassId) (dI : Nat → Nat → Nat) (sz : Nat) (a0 : Nat) (a0g : Nat → Value) (a0_1 : Int32) (a0_2 : Int32) (a0_3 : Nat) (a0_5 : Nat) (a0_7 : Int32) (a0_8 : Int32) (a0_9 : Int32) (a0_10 : Int32) (a0_11 : Int64) (a0_12 : Int32) (a0_13 : Int32) (ka0_3 : ClassId) (fa0_3 : Nat → Int32) (a0_5_0 : Int32) (a0_5_1 : Int32) (a0_5_2 : Int32) (a0_5_3 : Int32) (a0_5g : Nat → Value) (ad : Nat → Nat) (ba0_7_l : (0 : Int) ≤ a0_7.toInt) (ba0_7_u : a0_7.toInt ≤ (900 : Int)) (ba0_8_l : (0 : Int) ≤ a0_8.toInt) (ba0_8_u : a0_8.toInt ≤ (900 : Int)) (ba0_9_l : (0 : Int) ≤ a0_9.toInt) (ba0_9_u : a0_9.toInt ≤ (900 : Int)) (ba0_10_l : (0 : Int) ≤ a0_10.toInt) (ba0_10_u : a0_10.toInt ≤ (4 : Int)) (ba0_5_0_l : (0 : Int) ≤ a0_5_0.toInt) (ba0_5_0_u : a0_5_0.toInt ≤ (9 : Int)) : Met l yX3_readHall wsX3_readHall ({ frames := 6, cells := 0, slots := 0, locals := 132 }) (va_Pc [.ref a0] (ax_C dC dI sz [(a0, .inr (3, [a0g 0, .int a0_1, .int a0_2, .ref a0_3, a0g 4, .ref a0_5, a0g 6, .int a0_7, .int a0_8, .int a0_9, .int a0_10, .long a0_11, .int a0_12, .int a0_13])), (a0_3, .inl (ka0_3, 900, .inl (fa0_3))), (a0_5, .inr (0, [.int a0_5_0, .int a0_5_1, .int a0_5_2, .int a0_5_3, a0_5g 4, a0_5g 5, a0_5g 6, a0_5g 7, a0_5g 8, a0_5g 9, a0_5g 10, a0_5g 11, a0_5g 12, a0_5g 13, a0_5g 14]))] [(ka0_3, .byte)] (fun U => sx_T ad (va_A [(a0, .inr (3, [a0g 0, .int a0_1, .int a0_2, .ref a0_3, a0g 4, .ref a0_5, a0g 6, .int a0_7, .int a0_8, .int a0_9, .int a0_10, .long a0_11, .int a0_12, .int a0_13])), (a0_3, .inl (ka0_3, 900, .inl (fa0_3))), (a0_5, .inr (0, [.int a0_5_0, .int a0_5_1, .int a0_5_2, .int a0_5_3, a0_5g 4, a0_5g 5, a0_5g 6, a0_5g 7, a0_5g 8, a0_5g 9, a0_5g 10, a0_5g 11, a0_5g 12, a0_5g 13, a0_5g 14]))] sz) U ∧ va_Nw (.methodLinkNest RX3 223 yX7_within RX7) U))) (va_Qi (fun (r : Int32) (_ : Unit) => (r = 1) ∨ (r = 0)) (fun (_ : Unit) (t : State) => ∃ na0_1 : Int32, ∃ na0_2 : Int32, ∃ na0_8 : Int32, ∃ na0_9 : Int32, ∃ na0_10 : Int32, ∃ na0_11 : Int64, ∃ na0_12 : Int32, ∃ na0_13 : Int32, ∃ na0_5_0 : Int32, ∃ na0_5_1 : Int32, ∃ na0_5_2 : Int32, ∃ na0_5_3 : Int32, ((0 : Int) ≤ na0_8.toInt ∧ na0_8.toInt ≤ 900) ∧ ((0 : Int) ≤ na0_9.toInt ∧ na0_9.toInt ≤ 900) ∧ ((0 : Int) ≤ na0_10.toInt ∧ na0_10.toInt ≤ 4) ∧ ((0 : Int) ≤ na0_5_0.toInt ∧ na0_5_0.toInt ≤ 9) ∧ ax_B dC dI (va_A [(a0, .inr (3, [a0g 0, .int a0_1, .int a0_2, .ref a0_3, a0g 4, .ref a0_5, a0g 6, .int a0_7, .int a0_8, .int a0_9, .int a0_10, .long a0_11, .int a0_12, .int a0_13])), (a0_3, .inl (ka0_3, 900, .inl (fa0_3))), (a0_5, .inr (0, [.int a0_5_0, .int a0_5_1, .int a0_5_2, .int a0_5_3, a0_5g 4, a0_5g 5, a0_5g 6, a0_5g 7, a0_5g 8, a0_5g 9, a0_5g 10, a0_5g 11, a0_5g 12, a0_5g 13, a0_5g 14]))] sz) [(a0, .inr (3, [a0g 0, .int na0_1, .int na0_2, .ref a0_3, a0g 4, .ref a0_5, a0g 6, .int a0_7, .int na0_8, .int na0_9, .int na0_10, .long na0_11, .int na0_12, .int na0_13])), (a0_3, .inl (ka0_3, 900, .inl (fa0_3))), (a0_5, .inr (0, [.int na0_5_0, .int na0_5_1, .int na0_5_2, .int na0_5_3, a0_5g 4, a0_5g 5, a0_5g 6, a0_5g 7, a0_5g 8, a0_5g 9, a0_5g 10, a0_5g 11, a0_5g 12, a0_5g 13, a0_5g 14]))] [(ka0_3, .byte)] t) (va_A [(a0, .inr (3, [a0g 0, .int a0_1, .int a0_2, .ref a0_3, a0g 4, .ref a0_5, a0g 6, .int a0_7, .int a0_8, .int a0_9, .int a0_10, .long a0_11, .int a0_12, .int a0_13])), (a0_3, .inl (ka0_3, 900, .inl (fa0_3))), (a0_5, .inr (0, [.int a0_5_0, .int a0_5_1, .int a0_5_2, .int a0_5_3, a0_5g 4, a0_5g 5, a0_5g 6, a0_5g 7, a0_5g 8, a0_5g 9, a0_5g 10, a0_5g 11, a0_5g 12, a0_5g 13, a0_5g 14]))] sz)) 0 0 (va_A [(a0, .inr (3, [a0g 0, .int a0_1, .int a0_2, .ref a0_3, a0g 4, .ref a0_5, a0g 6, .int a0_7, .int a0_8, .int a0_9, .int a0_10, .long a0_11, .int a0_12, .int a0_13])), (a0_3, .inl (ka0_3, 900, .inl (fa0_3))), (a0_5, .inr (0, [.int a0_5_0, .int a0_5_1, .int a0_5_2, .int a0_5_3, a0_5g 4, a0_5g 5, a0_5g 6, a0_5g 7, a0_5g 8, a0_5g 9, a0_5g 10, a0_5g 11, a0_5g 12, a0_5g 13, a0_5g 14]))] sz) := by
  refine Met.ofW (cc := cX3_readHall) (maxL := 2) (ret := (some .boolean)) (by decide) rfl ?_
  intro p e s m args below meth c s₁ B hml hv
  obtain ⟨rfl, hsz, hP, hK, hD0, hE⟩ := hv
  have hx := B.exec
  have hb := B.bytes
  have hr := B.returns
  have hts := atoms_spec (ws := wsX3_readHall) B.pre
  have hown : s.vm.findClass RX3 = some m.cls := findClass_of_methodNamed B.named
  have hlocks := B.notSynchronized
  subst hsz
  have hD := hD0.self (sz := s.heap.size)
  generalize hAe : va_A [(a0, .inr (3, [a0g 0, .int a0_1, .int a0_2, .ref a0_3, a0g 4, .ref a0_5, a0g 6, .int a0_7, .int a0_8, .int a0_9, .int a0_10, .long a0_11, .int a0_12, .int a0_13])), (a0_3, .inl (ka0_3, 900, .inl (fa0_3))), (a0_5, .inr (0, [.int a0_5_0, .int a0_5_1, .int a0_5_2, .int a0_5_3, a0_5g 4, a0_5g 5, a0_5g 6, a0_5g 7, a0_5g 8, a0_5g 9, a0_5g 10, a0_5g 11, a0_5g 12, a0_5g 13, a0_5g 14]))] s.heap.size = A at hD hE ⊢
  have hA : ∀ q : Nat, s.heap.size ≤ q → A q := fun q h => by rw [← hAe]; exact Or.inr h
  have hS : va_S A s.heap s.heap [] := va_S.rf
  have hP : va_P (dC, dI) vwCl [(a0, .inr (3, [a0g 0, .int a0_1, .int a0_2, .ref a0_3, a0g 4, .ref a0_5, a0g 6, .int a0_7, .int a0_8, .int a0_9, .int a0_10, .long a0_11, .int a0_12, .int a0_13])), (a0_3, .inl (ka0_3, 900, .inl (fa0_3))), (a0_5, .inr (0, [.int a0_5_0, .int a0_5_1, .int a0_5_2, .int a0_5_3, a0_5g 4, a0_5g 5, a0_5g 6, a0_5g 7, a0_5g 8, a0_5g 9, a0_5g 10, a0_5g 11, a0_5g 12, a0_5g 13, a0_5g 14]))] s.heap := hP
  obtain ⟨hE0, hE1⟩ := hE
  have hl := lv_entry ([.ref a0]) (n := 2) (Nat.le_of_ble_eq_true rfl)
  rw [lg_entry_eq]
  generalize (lg_sl ([.ref a0]) ++ List.replicate (2 - (lg_sl ([.ref a0])).length) Slot.unset).toArray = ls at hl ⊢
  have hl : lv_has ls 2 [(0, .ref a0)] := hl
  refine lv_aload_n hx hb dX3_readHall_0 rfl (lv_at hl 0 rfl) ?_
  have hPc := hP.sub (ws' := [(a0, .inr (3, [a0g 0, .int a0_1, .int a0_2, .ref a0_3, a0g 4, .ref a0_5, a0g 6, .int a0_7, .int a0_8, .int a0_9, .int a0_10, .long a0_11, .int a0_12, .int a0_13])), (a0_3, .inl (ka0_3, 900, .inl (fa0_3)))]) [0, 1] rfl
  have hDc := hD.sub (ws' := [(a0, .inr (3, [a0g 0, .int a0_1, .int a0_2, .ref a0_3, a0g 4, .ref a0_5, a0g 6, .int a0_7, .int a0_8, .int a0_9, .int a0_10, .long a0_11, .int a0_12, .int a0_13])), (a0_3, .inl (ka0_3, 900, .inl (fa0_3)))]) [0, 1] (by decide) rfl
  have hKc := hK.sub (tys' := [(ka0_3, .byte)]) [0] rfl
  have hFc := va_free (wc := [(a0, .inr (3, [a0g 0, .int a0_1, .int a0_2, .ref a0_3, a0g 4, .ref a0_5, a0g 6, .int a0_7, .int a0_8, .int a0_9, .int a0_10, .long a0_11, .int a0_12, .int a0_13])), (a0_3, .inl (ka0_3, 900, .inl (fa0_3)))]) hD hS hA [0, 1] rfl
  refine va_callv (va_runV (As := []) (rest := []) ⟨hx, hb, hml, hown, hts⟩ (c_X3_advance l dC dI s.heap.size a0 (fun i9 => ([a0g 0, .int a0_1, .int a0_2, .null, a0g 4, .ref a0_5, a0g 6, .null, .null, .null, .null, .null, .null, .int a0_13] : List Value).getD i9 .null) a0_3 a0_7 a0_8 a0_9 a0_10 a0_11 a0_12 ka0_3 fa0_3 ba0_7_l ba0_7_u ba0_8_l ba0_8_u ba0_9_l ba0_9_u ba0_10_l ba0_10_u) (cwV 0 hts gX3_readHall_X3_advance rfl rfl rfl (by decide +kernel) ⟨Nat.le_of_ble_eq_true rfl, Nat.le_of_ble_eq_true rfl⟩) ⟨ax_blind (fun _ _ _ _ _ => trivial), va_recv hKc hPc (ci := 3) (q0 := 0) rfl rfl, ax_pre hPc hKc hDc (fun _ _ => trivial)⟩ rfl rfl hl.1 rfl (lv_room (Nat.le_of_ble_eq_true rfl)) dX3_readHall_1 ⟨Nat.le_of_ble_eq_true rfl, Nat.le_of_ble_eq_true rfl⟩) hS (fun q _ h => hFc q h) hFc (fun u t H1 locs ht hvm hw hB hz1 hk1 hS => ?_)
  obtain ⟨v1na0_8, v1na0_9, v1na0_10, v1na0_11, v1na0_12, bv1na0_8, bv1na0_9, bv1na0_10, hP1, hK1, hD1⟩ := hB
  rw [ht] at hP1
  obtain ⟨hP, hD⟩ := va_join (wr := [(a0_5, .inr (0, [.int a0_5_0, .int a0_5_1, .int a0_5_2, .int a0_5_3, a0_5g 4, a0_5g 5, a0_5g 6, a0_5g 7, a0_5g 8, a0_5g 9, a0_5g 10, a0_5g 11, a0_5g 12, a0_5g 13, a0_5g 14]))]) (w1 := [(a0, .inr (3, [a0g 0, .int a0_1, .int a0_2, .ref a0_3, a0g 4, .ref a0_5, a0g 6, .int a0_7, .int v1na0_8, .int v1na0_9, .int v1na0_10, .long v1na0_11, .int v1na0_12, .int a0_13])), (a0_3, .inl (ka0_3, 900, .inl (fa0_3)))]) hP hD [0, 1] [2] rfl rfl (by decide) (by decide) hk1 hFc hP1 hD1
  generalize H1 = H at hP hS ⊢
  have hP : va_P (dC, dI) vwCl [(a0, .inr (3, [a0g 0, .int a0_1, .int a0_2, .ref a0_3, a0g 4, .ref a0_5, a0g 6, .int a0_7, .int v1na0_8, .int v1na0_9, .int v1na0_10, .long v1na0_11, .int v1na0_12, .int a0_13])), (a0_3, .inl (ka0_3, 900, .inl (fa0_3))), (a0_5, .inr (0, [.int a0_5_0, .int a0_5_1, .int a0_5_2, .int a0_5_3, a0_5g 4, a0_5g 5, a0_5g 6, a0_5g 7, a0_5g 8, a0_5g 9, a0_5g 10, a0_5g 11, a0_5g 12, a0_5g 13, a0_5g 14]))] H := hP.sub [1, 2, 0] rfl
  have hD : va_D A [(a0, .inr (3, [a0g 0, .int a0_1, .int a0_2, .ref a0_3, a0g 4, .ref a0_5, a0g 6, .int a0_7, .int v1na0_8, .int v1na0_9, .int v1na0_10, .long v1na0_11, .int v1na0_12, .int a0_13])), (a0_3, .inl (ka0_3, 900, .inl (fa0_3))), (a0_5, .inr (0, [.int a0_5_0, .int a0_5_1, .int a0_5_2, .int a0_5_3, a0_5g 4, a0_5g 5, a0_5g 6, a0_5g 7, a0_5g 8, a0_5g 9, a0_5g 10, a0_5g 11, a0_5g 12, a0_5g 13, a0_5g 14]))] := hD.sub [1, 2, 0] (by decide) rfl
  refine lv_aload_n hx hb dX3_readHall_4 rfl (lv_at hl 0 rfl) ?_
  refine va_ldcS hx hb hown (sx_R5 hE0) dX3_readHall_5 ?_
  refine lv_iconst (v := 2) hx hb dX3_readHall_7 (by decide) ?_
  refine lv_bipush (v := 9) hx hb dX3_readHall_8 (by decide) ?_
  have hPc := hP.sub (ws' := [(a0, .inr (3, [a0g 0, .int a0_1, .int a0_2, .ref a0_3, a0g 4, .ref a0_5, a0g 6, .int a0_7, .int v1na0_8, .int v1na0_9, .int v1na0_10, .long v1na0_11, .int v1na0_12, .int a0_13])), (a0_3, .inl (ka0_3, 900, .inl (fa0_3)))]) [0, 1] rfl
  have hDc := hD.sub (ws' := [(a0, .inr (3, [a0g 0, .int a0_1, .int a0_2, .ref a0_3, a0g 4, .ref a0_5, a0g 6, .int a0_7, .int v1na0_8, .int v1na0_9, .int v1na0_10, .long v1na0_11, .int v1na0_12, .int a0_13])), (a0_3, .inl (ka0_3, 900, .inl (fa0_3)))]) [0, 1] (by decide) rfl
  have hKc := hK.sub (tys' := [(ka0_3, .byte)]) [0] rfl
  have hFc := va_free (wc := [(a0, .inr (3, [a0g 0, .int a0_1, .int a0_2, .ref a0_3, a0g 4, .ref a0_5, a0g 6, .int a0_7, .int v1na0_8, .int v1na0_9, .int v1na0_10, .long v1na0_11, .int v1na0_12, .int a0_13])), (a0_3, .inl (ka0_3, 900, .inl (fa0_3)))]) hD hS hA [0, 1] rfl
  refine va_calli (va_runV (As := [.ref (ad 5), .int 2, .int 9]) (rest := []) ⟨hx, hb, hml, hown, hts⟩ (c_X3_takeWhole l dC dI H.size a0 (ad 5) 2 9 (fun i9 => ([a0g 0, .null, .null, .null, a0g 4, .ref a0_5, a0g 6] : List Value).getD i9 .null) a0_1 a0_2 a0_3 a0_7 v1na0_8 v1na0_9 v1na0_10 v1na0_11 v1na0_12 a0_13 ka0_3 fa0_3 7 ba0_7_l ba0_7_u bv1na0_8.1 bv1na0_8.2 bv1na0_9.1 bv1na0_9.2 bv1na0_10.1 bv1na0_10.2) (cwV 3 hts gX3_readHall_X3_takeWhole rfl rfl rfl (by decide +kernel) ⟨Nat.le_of_ble_eq_true rfl, Nat.le_of_ble_eq_true rfl⟩) ⟨ax_blind (fun _ _ _ _ hq => ⟨sx_W_same _ _ _ _ (hq.1), va_Nw.same rfl rfl (hq.2)⟩), va_recv hKc hPc (ci := 3) (q0 := 0) rfl rfl, ax_preE hPc hKc hDc (fun U hU hW => ⟨sx_W_to (sx_T_w hE0 (i := 5) (by decide)) hS.2.1 hFc hU hW, va_Nw.warmM hW hE1⟩)⟩ rfl rfl hl.1 rfl (lv_room (Nat.le_of_ble_eq_true rfl)) dX3_readHall_10 ⟨Nat.le_of_ble_eq_true rfl, Nat.le_of_ble_eq_true rfl⟩) hS (fun q _ h => hFc q h) hFc (fun r10 v10na0_13 t H1 locs ht hvm hw hB hz1 hk1 hS => ?_)
  obtain ⟨v10na0_1, v10na0_2, v10na0_8, v10na0_9, v10na0_10, v10na0_11, v10na0_12, bv10na0_8, bv10na0_9, bv10na0_10, hP1, hK1, hD1⟩ := hB
  rw [ht] at hP1
  obtain ⟨hP, hD⟩ := va_join (wr := [(a0_5, .inr (0, [.int a0_5_0, .int a0_5_1, .int a0_5_2, .int a0_5_3, a0_5g 4, a0_5g 5, a0_5g 6, a0_5g 7, a0_5g 8, a0_5g 9, a0_5g 10, a0_5g 11, a0_5g 12, a0_5g 13, a0_5g 14]))]) (w1 := [(a0, .inr (3, [a0g 0, .int v10na0_1, .int v10na0_2, .ref a0_3, a0g 4, .ref a0_5, a0g 6, .int a0_7, .int v10na0_8, .int v10na0_9, .int v10na0_10, .long v10na0_11, .int v10na0_12, .int v10na0_13])), (a0_3, .inl (ka0_3, 900, .inl (fa0_3)))]) hP hD [0, 1] [2] rfl rfl (by decide) (by decide) hk1 hFc hP1 hD1
  generalize H1 = H at hP hS ⊢
  have hP : va_P (dC, dI) vwCl [(a0, .inr (3, [a0g 0, .int v10na0_1, .int v10na0_2, .ref a0_3, a0g 4, .ref a0_5, a0g 6, .int a0_7, .int v10na0_8, .int v10na0_9, .int v10na0_10, .long v10na0_11, .int v10na0_12, .int v10na0_13])), (a0_3, .inl (ka0_3, 900, .inl (fa0_3))), (a0_5, .inr (0, [.int a0_5_0, .int a0_5_1, .int a0_5_2, .int a0_5_3, a0_5g 4, a0_5g 5, a0_5g 6, a0_5g 7, a0_5g 8, a0_5g 9, a0_5g 10, a0_5g 11, a0_5g 12, a0_5g 13, a0_5g 14]))] H := hP.sub [1, 2, 0] rfl
  have hD : va_D A [(a0, .inr (3, [a0g 0, .int v10na0_1, .int v10na0_2, .ref a0_3, a0g 4, .ref a0_5, a0g 6, .int a0_7, .int v10na0_8, .int v10na0_9, .int v10na0_10, .long v10na0_11, .int v10na0_12, .int v10na0_13])), (a0_3, .inl (ka0_3, 900, .inl (fa0_3))), (a0_5, .inr (0, [.int a0_5_0, .int a0_5_1, .int a0_5_2, .int a0_5_3, a0_5g 4, a0_5g 5, a0_5g 6, a0_5g 7, a0_5g 8, a0_5g 9, a0_5g 10, a0_5g 11, a0_5g 12, a0_5g 13, a0_5g 14]))] := hD.sub [1, 2, 0] (by decide) rfl
  rcases hw with hw | hw
  · obtain ⟨hw, h10⟩ := hw
    subst hw
    have l10k0_v10na0_13 : (2 : Int) ≤ v10na0_13.toInt := Int.le_trans (by decide : (2 : Int) ≤ (2 : Int32).toInt) h10.1
    have u10k0_v10na0_13 : v10na0_13.toInt ≤ (9 : Int) := Int.le_trans h10.2 (by decide : (9 : Int32).toInt ≤ (9 : Int))
    refine lv_if_ne (tgt := 18) hx hb dX3_readHall_13 (by decide) (fun _ => ?_) (fun c13 => absurd c13 (by decide +kernel))
    refine lv_aload_n hx hb dX3_readHall_18 rfl (lv_at hl 0 rfl) ?_
    refine va_get (D := (dC, dI)) (ci := 3) (v := .int v10na0_13) (C := RX3) (T := TX3) (N := 14) hx hb hts (by decide +kernel) hown hK hP 0 rfl rfl 13 (by decide) (hts (.fieldLink RX3 156 "WaxTurns$Reade\x72" "taken" "I") (by decide +kernel)) (fun _ h9 => h9) rfl dX3_readHall_19 ?_
    refine lv_istore_n (lv' := [(1, .int v10na0_13), (0, .ref a0)]) hx hb dX3_readHall_22 rfl hl (by decide) rfl (fun ls hl => ?_)
    refine lv_aload_n hx hb dX3_readHall_23 rfl (lv_at hl 1 rfl) ?_
    refine va_ldcS hx hb hown (sx_R6 hE0) dX3_readHall_24 ?_
    refine lv_iconst (v := 1) hx hb dX3_readHall_26 (by decide) ?_
    refine lv_bipush (v := 20) hx hb dX3_readHall_27 (by decide) ?_
    have hPc := hP.sub (ws' := [(a0, .inr (3, [a0g 0, .int v10na0_1, .int v10na0_2, .ref a0_3, a0g 4, .ref a0_5, a0g 6, .int a0_7, .int v10na0_8, .int v10na0_9, .int v10na0_10, .long v10na0_11, .int v10na0_12, .int v10na0_13])), (a0_3, .inl (ka0_3, 900, .inl (fa0_3)))]) [0, 1] rfl
    have hDc := hD.sub (ws' := [(a0, .inr (3, [a0g 0, .int v10na0_1, .int v10na0_2, .ref a0_3, a0g 4, .ref a0_5, a0g 6, .int a0_7, .int v10na0_8, .int v10na0_9, .int v10na0_10, .long v10na0_11, .int v10na0_12, .int v10na0_13])), (a0_3, .inl (ka0_3, 900, .inl (fa0_3)))]) [0, 1] (by decide) rfl
    have hKc := hK.sub (tys' := [(ka0_3, .byte)]) [0] rfl
    have hFc := va_free (wc := [(a0, .inr (3, [a0g 0, .int v10na0_1, .int v10na0_2, .ref a0_3, a0g 4, .ref a0_5, a0g 6, .int a0_7, .int v10na0_8, .int v10na0_9, .int v10na0_10, .long v10na0_11, .int v10na0_12, .int v10na0_13])), (a0_3, .inl (ka0_3, 900, .inl (fa0_3)))]) hD hS hA [0, 1] rfl
    refine va_calli (va_runV (As := [.ref (ad 6), .int 1, .int 20]) (rest := []) ⟨hx, hb, hml, hown, hts⟩ (c_X3_takeWhole l dC dI H.size a0 (ad 6) 1 20 (fun i9 => ([a0g 0, .null, .null, .null, a0g 4, .ref a0_5, a0g 6] : List Value).getD i9 .null) v10na0_1 v10na0_2 a0_3 a0_7 v10na0_8 v10na0_9 v10na0_10 v10na0_11 v10na0_12 v10na0_13 ka0_3 fa0_3 4 ba0_7_l ba0_7_u bv10na0_8.1 bv10na0_8.2 bv10na0_9.1 bv10na0_9.2 bv10na0_10.1 bv10na0_10.2) (cwV 3 hts gX3_readHall_X3_takeWhole rfl rfl rfl (by decide +kernel) ⟨Nat.le_of_ble_eq_true rfl, Nat.le_of_ble_eq_true rfl⟩) ⟨ax_blind (fun _ _ _ _ hq => ⟨sx_W_same _ _ _ _ (hq.1), va_Nw.same rfl rfl (hq.2)⟩), va_recv hKc hPc (ci := 3) (q0 := 0) rfl rfl, ax_preE hPc hKc hDc (fun U hU hW => ⟨sx_W_to (sx_T_w hE0 (i := 6) (by decide)) hS.2.1 hFc hU hW, va_Nw.warmM hW hE1⟩)⟩ rfl rfl hl.1 rfl (lv_room (Nat.le_of_ble_eq_true rfl)) dX3_readHall_29 ⟨Nat.le_of_ble_eq_true rfl, Nat.le_of_ble_eq_true rfl⟩) hS (fun q _ h => hFc q h) hFc (fun r29 v29na0_13 t H1 locs ht hvm hw hB hz1 hk1 hS => ?_)
    obtain ⟨v29na0_1, v29na0_2, v29na0_8, v29na0_9, v29na0_10, v29na0_11, v29na0_12, bv29na0_8, bv29na0_9, bv29na0_10, hP1, hK1, hD1⟩ := hB
    rw [ht] at hP1
    obtain ⟨hP, hD⟩ := va_join (wr := [(a0_5, .inr (0, [.int a0_5_0, .int a0_5_1, .int a0_5_2, .int a0_5_3, a0_5g 4, a0_5g 5, a0_5g 6, a0_5g 7, a0_5g 8, a0_5g 9, a0_5g 10, a0_5g 11, a0_5g 12, a0_5g 13, a0_5g 14]))]) (w1 := [(a0, .inr (3, [a0g 0, .int v29na0_1, .int v29na0_2, .ref a0_3, a0g 4, .ref a0_5, a0g 6, .int a0_7, .int v29na0_8, .int v29na0_9, .int v29na0_10, .long v29na0_11, .int v29na0_12, .int v29na0_13])), (a0_3, .inl (ka0_3, 900, .inl (fa0_3)))]) hP hD [0, 1] [2] rfl rfl (by decide) (by decide) hk1 hFc hP1 hD1
    generalize H1 = H at hP hS ⊢
    have hP : va_P (dC, dI) vwCl [(a0, .inr (3, [a0g 0, .int v29na0_1, .int v29na0_2, .ref a0_3, a0g 4, .ref a0_5, a0g 6, .int a0_7, .int v29na0_8, .int v29na0_9, .int v29na0_10, .long v29na0_11, .int v29na0_12, .int v29na0_13])), (a0_3, .inl (ka0_3, 900, .inl (fa0_3))), (a0_5, .inr (0, [.int a0_5_0, .int a0_5_1, .int a0_5_2, .int a0_5_3, a0_5g 4, a0_5g 5, a0_5g 6, a0_5g 7, a0_5g 8, a0_5g 9, a0_5g 10, a0_5g 11, a0_5g 12, a0_5g 13, a0_5g 14]))] H := hP.sub [1, 2, 0] rfl
    have hD : va_D A [(a0, .inr (3, [a0g 0, .int v29na0_1, .int v29na0_2, .ref a0_3, a0g 4, .ref a0_5, a0g 6, .int a0_7, .int v29na0_8, .int v29na0_9, .int v29na0_10, .long v29na0_11, .int v29na0_12, .int v29na0_13])), (a0_3, .inl (ka0_3, 900, .inl (fa0_3))), (a0_5, .inr (0, [.int a0_5_0, .int a0_5_1, .int a0_5_2, .int a0_5_3, a0_5g 4, a0_5g 5, a0_5g 6, a0_5g 7, a0_5g 8, a0_5g 9, a0_5g 10, a0_5g 11, a0_5g 12, a0_5g 13, a0_5g 14]))] := hD.sub [1, 2, 0] (by decide) rfl
    rcases hw with hw | hw
    · obtain ⟨hw, h29⟩ := hw
      subst hw
      have l29k0_v29na0_13 : (1 : Int) ≤ v29na0_13.toInt := Int.le_trans (by decide : (1 : Int) ≤ (1 : Int32).toInt) h29.1
      have u29k0_v29na0_13 : v29na0_13.toInt ≤ (20 : Int) := Int.le_trans h29.2 (by decide : (20 : Int32).toInt ≤ (20 : Int))
      refine lv_if_ne (tgt := 37) hx hb dX3_readHall_32 (by decide) (fun _ => ?_) (fun c32 => absurd c32 (by decide +kernel))
      refine lv_aload_n hx hb dX3_readHall_37 rfl (lv_at hl 1 rfl) ?_
      refine va_get (D := (dC, dI)) (ci := 3) (v := .ref a0_5) (C := RX3) (T := TX3) (N := 14) hx hb hts (by decide +kernel) hown hK hP 0 rfl rfl 5 (by decide) (hts (.fieldLink RX3 22 "WaxTurns$Reade\x72" "draft" "LWaxTurns$Hall;") (by decide +kernel)) (fun _ h9 => h9) rfl dX3_readHall_38 ?_
      refine lv_aload_n hx hb dX3_readHall_41 rfl (lv_at hl 1 rfl) ?_
      refine va_get (D := (dC, dI)) (ci := 3) (v := .int v29na0_13) (C := RX3) (T := TX3) (N := 14) hx hb hts (by decide +kernel) hown hK hP 0 rfl rfl 13 (by decide) (hts (.fieldLink RX3 156 "WaxTurns$Reade\x72" "taken" "I") (by decide +kernel)) (fun _ h9 => h9) rfl dX3_readHall_42 ?_
      refine va_put (D := (dC, dI)) (ci := 0) (v := .int v29na0_13) (ty := .int) (C := RX0) (T := TX0) (N := 15) hx hb hts (by decide +kernel) tyX0 tyX0_ok nmX0 hown hK hP hD hS 2 rfl rfl 1 (by decide) (hts (.fieldLink RX3 161 "WaxTurns$Hall" "span" "I") (by decide +kernel)) (fun _ h9 => h9) rfl (by decide +kernel) rfl rfl (Nat.le_of_ble_eq_true rfl) dX3_readHall_45 (fun H locs hP hD hS => ?_)
      have hP : va_P (dC, dI) vwCl [(a0, .inr (3, [a0g 0, .int v29na0_1, .int v29na0_2, .ref a0_3, a0g 4, .ref a0_5, a0g 6, .int a0_7, .int v29na0_8, .int v29na0_9, .int v29na0_10, .long v29na0_11, .int v29na0_12, .int v29na0_13])), (a0_3, .inl (ka0_3, 900, .inl (fa0_3))), (a0_5, .inr (0, [.int a0_5_0, .int v29na0_13, .int a0_5_2, .int a0_5_3, a0_5g 4, a0_5g 5, a0_5g 6, a0_5g 7, a0_5g 8, a0_5g 9, a0_5g 10, a0_5g 11, a0_5g 12, a0_5g 13, a0_5g 14]))] H := hP
      have hD : va_D A [(a0, .inr (3, [a0g 0, .int v29na0_1, .int v29na0_2, .ref a0_3, a0g 4, .ref a0_5, a0g 6, .int a0_7, .int v29na0_8, .int v29na0_9, .int v29na0_10, .long v29na0_11, .int v29na0_12, .int v29na0_13])), (a0_3, .inl (ka0_3, 900, .inl (fa0_3))), (a0_5, .inr (0, [.int a0_5_0, .int v29na0_13, .int a0_5_2, .int a0_5_3, a0_5g 4, a0_5g 5, a0_5g 6, a0_5g 7, a0_5g 8, a0_5g 9, a0_5g 10, a0_5g 11, a0_5g 12, a0_5g 13, a0_5g 14]))] := hD
      refine lv_aload_n hx hb dX3_readHall_48 rfl (lv_at hl 1 rfl) ?_
      refine va_ldcS hx hb hown (sx_R7 hE0) dX3_readHall_49 ?_
      refine lv_iconst (v := 0) hx hb dX3_readHall_51 (by decide) ?_
      refine lv_iload_n hx hb dX3_readHall_52 rfl (lv_at hl 0 rfl) ?_
      refine lv_iconst (v := 1) hx hb dX3_readHall_53 (by decide) ?_
      refine lv_isub hx hb dX3_readHall_54 ?_
      refine lv_topi (fun x54 ex54 => ?_)
      have qx54 : x54.toInt = v10na0_13.toInt - (1 : Int32).toInt := ai_sub ex54 ⟨l10k0_v10na0_13, u10k0_v10na0_13⟩ ⟨(by decide : (1 : Int) ≤ (1 : Int32).toInt), (by decide : (1 : Int32).toInt ≤ (1 : Int))⟩ (by decide) (by decide)
      have bx54 : (1 : Int) ≤ x54.toInt ∧ x54.toInt ≤ 8 := ⟨by rw [qx54]; exact Int.sub_le_sub l10k0_v10na0_13 (by decide : (1 : Int32).toInt ≤ (1 : Int)), by rw [qx54]; exact Int.sub_le_sub u10k0_v10na0_13 (by decide : (1 : Int) ≤ (1 : Int32).toInt)⟩
      have wx54 : x54.toInt = v10na0_13.toInt - 1 := qx54
      have hPc := hP.sub (ws' := [(a0, .inr (3, [a0g 0, .int v29na0_1, .int v29na0_2, .ref a0_3, a0g 4, .ref a0_5, a0g 6, .int a0_7, .int v29na0_8, .int v29na0_9, .int v29na0_10, .long v29na0_11, .int v29na0_12, .int v29na0_13])), (a0_3, .inl (ka0_3, 900, .inl (fa0_3)))]) [0, 1] rfl
      have hDc := hD.sub (ws' := [(a0, .inr (3, [a0g 0, .int v29na0_1, .int v29na0_2, .ref a0_3, a0g 4, .ref a0_5, a0g 6, .int a0_7, .int v29na0_8, .int v29na0_9, .int v29na0_10, .long v29na0_11, .int v29na0_12, .int v29na0_13])), (a0_3, .inl (ka0_3, 900, .inl (fa0_3)))]) [0, 1] (by decide) rfl
      have hKc := hK.sub (tys' := [(ka0_3, .byte)]) [0] rfl
      have hFc := va_free (wc := [(a0, .inr (3, [a0g 0, .int v29na0_1, .int v29na0_2, .ref a0_3, a0g 4, .ref a0_5, a0g 6, .int a0_7, .int v29na0_8, .int v29na0_9, .int v29na0_10, .long v29na0_11, .int v29na0_12, .int v29na0_13])), (a0_3, .inl (ka0_3, 900, .inl (fa0_3)))]) hD hS hA [0, 1] rfl
      refine va_calli (va_runV (As := [.ref (ad 7), .int 0, .int x54]) (rest := []) ⟨hx, hb, hml, hown, hts⟩ (c_X3_takeWhole l dC dI H.size a0 (ad 7) 0 x54 (fun i9 => ([a0g 0, .null, .null, .null, a0g 4, .ref a0_5, a0g 6] : List Value).getD i9 .null) v29na0_1 v29na0_2 a0_3 a0_7 v29na0_8 v29na0_9 v29na0_10 v29na0_11 v29na0_12 v29na0_13 ka0_3 fa0_3 6 ba0_7_l ba0_7_u bv29na0_8.1 bv29na0_8.2 bv29na0_9.1 bv29na0_9.2 bv29na0_10.1 bv29na0_10.2) (cwV 3 hts gX3_readHall_X3_takeWhole rfl rfl rfl (by decide +kernel) ⟨Nat.le_of_ble_eq_true rfl, Nat.le_of_ble_eq_true rfl⟩) ⟨ax_blind (fun _ _ _ _ hq => ⟨sx_W_same _ _ _ _ (hq.1), va_Nw.same rfl rfl (hq.2)⟩), va_recv hKc hPc (ci := 3) (q0 := 0) rfl rfl, ax_preE hPc hKc hDc (fun U hU hW => ⟨sx_W_to (sx_T_w hE0 (i := 7) (by decide)) hS.2.1 hFc hU hW, va_Nw.warmM hW hE1⟩)⟩ rfl rfl hl.1 rfl (lv_room (Nat.le_of_ble_eq_true rfl)) dX3_readHall_55 ⟨Nat.le_of_ble_eq_true rfl, Nat.le_of_ble_eq_true rfl⟩) hS (fun q _ h => hFc q h) hFc (fun r55 v55na0_13 t H1 locs ht hvm hw hB hz1 hk1 hS => ?_)
      obtain ⟨v55na0_1, v55na0_2, v55na0_8, v55na0_9, v55na0_10, v55na0_11, v55na0_12, bv55na0_8, bv55na0_9, bv55na0_10, hP1, hK1, hD1⟩ := hB
      rw [ht] at hP1
      obtain ⟨hP, hD⟩ := va_join (wr := [(a0_5, .inr (0, [.int a0_5_0, .int v29na0_13, .int a0_5_2, .int a0_5_3, a0_5g 4, a0_5g 5, a0_5g 6, a0_5g 7, a0_5g 8, a0_5g 9, a0_5g 10, a0_5g 11, a0_5g 12, a0_5g 13, a0_5g 14]))]) (w1 := [(a0, .inr (3, [a0g 0, .int v55na0_1, .int v55na0_2, .ref a0_3, a0g 4, .ref a0_5, a0g 6, .int a0_7, .int v55na0_8, .int v55na0_9, .int v55na0_10, .long v55na0_11, .int v55na0_12, .int v55na0_13])), (a0_3, .inl (ka0_3, 900, .inl (fa0_3)))]) hP hD [0, 1] [2] rfl rfl (by decide) (by decide) hk1 hFc hP1 hD1
      generalize H1 = H at hP hS ⊢
      have hP : va_P (dC, dI) vwCl [(a0, .inr (3, [a0g 0, .int v55na0_1, .int v55na0_2, .ref a0_3, a0g 4, .ref a0_5, a0g 6, .int a0_7, .int v55na0_8, .int v55na0_9, .int v55na0_10, .long v55na0_11, .int v55na0_12, .int v55na0_13])), (a0_3, .inl (ka0_3, 900, .inl (fa0_3))), (a0_5, .inr (0, [.int a0_5_0, .int v29na0_13, .int a0_5_2, .int a0_5_3, a0_5g 4, a0_5g 5, a0_5g 6, a0_5g 7, a0_5g 8, a0_5g 9, a0_5g 10, a0_5g 11, a0_5g 12, a0_5g 13, a0_5g 14]))] H := hP.sub [1, 2, 0] rfl
      have hD : va_D A [(a0, .inr (3, [a0g 0, .int v55na0_1, .int v55na0_2, .ref a0_3, a0g 4, .ref a0_5, a0g 6, .int a0_7, .int v55na0_8, .int v55na0_9, .int v55na0_10, .long v55na0_11, .int v55na0_12, .int v55na0_13])), (a0_3, .inl (ka0_3, 900, .inl (fa0_3))), (a0_5, .inr (0, [.int a0_5_0, .int v29na0_13, .int a0_5_2, .int a0_5_3, a0_5g 4, a0_5g 5, a0_5g 6, a0_5g 7, a0_5g 8, a0_5g 9, a0_5g 10, a0_5g 11, a0_5g 12, a0_5g 13, a0_5g 14]))] := hD.sub [1, 2, 0] (by decide) rfl
      rcases hw with hw | hw
      · obtain ⟨hw, h55⟩ := hw
        subst hw
        have l55k0_v55na0_13 : (0 : Int) ≤ v55na0_13.toInt := Int.le_trans (by decide : (0 : Int) ≤ (0 : Int32).toInt) h55.1
        have u55k0_v55na0_13 : v55na0_13.toInt ≤ (8 : Int) := Int.le_trans h55.2 bx54.2
        refine lv_if_ne (tgt := 63) hx hb dX3_readHall_58 (by decide) (fun _ => ?_) (fun c58 => absurd c58 (by decide +kernel))
        refine lv_aload_n hx hb dX3_readHall_63 rfl (lv_at hl 1 rfl) ?_
        refine va_get (D := (dC, dI)) (ci := 3) (v := .ref a0_5) (C := RX3) (T := TX3) (N := 14) hx hb hts (by decide +kernel) hown hK hP 0 rfl rfl 5 (by decide) (hts (.fieldLink RX3 22 "WaxTurns$Reade\x72" "draft" "LWaxTurns$Hall;") (by decide +kernel)) (fun _ h9 => h9) rfl dX3_readHall_64 ?_
        refine lv_aload_n hx hb dX3_readHall_67 rfl (lv_at hl 1 rfl) ?_
        refine va_get (D := (dC, dI)) (ci := 3) (v := .int v55na0_13) (C := RX3) (T := TX3) (N := 14) hx hb hts (by decide +kernel) hown hK hP 0 rfl rfl 13 (by decide) (hts (.fieldLink RX3 156 "WaxTurns$Reade\x72" "taken" "I") (by decide +kernel)) (fun _ h9 => h9) rfl dX3_readHall_68 ?_
        refine va_put (D := (dC, dI)) (ci := 0) (v := .int v55na0_13) (ty := .int) (C := RX0) (T := TX0) (N := 15) hx hb hts (by decide +kernel) tyX0 tyX0_ok nmX0 hown hK hP hD hS 2 rfl rfl 2 (by decide) (hts (.fieldLink RX3 165 "WaxTurns$Hall" "stairsPlace" "I") (by decide +kernel)) (fun _ h9 => h9) rfl (by decide +kernel) rfl rfl (Nat.le_of_ble_eq_true rfl) dX3_readHall_71 (fun H locs hP hD hS => ?_)
        have hP : va_P (dC, dI) vwCl [(a0, .inr (3, [a0g 0, .int v55na0_1, .int v55na0_2, .ref a0_3, a0g 4, .ref a0_5, a0g 6, .int a0_7, .int v55na0_8, .int v55na0_9, .int v55na0_10, .long v55na0_11, .int v55na0_12, .int v55na0_13])), (a0_3, .inl (ka0_3, 900, .inl (fa0_3))), (a0_5, .inr (0, [.int a0_5_0, .int v29na0_13, .int v55na0_13, .int a0_5_3, a0_5g 4, a0_5g 5, a0_5g 6, a0_5g 7, a0_5g 8, a0_5g 9, a0_5g 10, a0_5g 11, a0_5g 12, a0_5g 13, a0_5g 14]))] H := hP
        have hD : va_D A [(a0, .inr (3, [a0g 0, .int v55na0_1, .int v55na0_2, .ref a0_3, a0g 4, .ref a0_5, a0g 6, .int a0_7, .int v55na0_8, .int v55na0_9, .int v55na0_10, .long v55na0_11, .int v55na0_12, .int v55na0_13])), (a0_3, .inl (ka0_3, 900, .inl (fa0_3))), (a0_5, .inr (0, [.int a0_5_0, .int v29na0_13, .int v55na0_13, .int a0_5_3, a0_5g 4, a0_5g 5, a0_5g 6, a0_5g 7, a0_5g 8, a0_5g 9, a0_5g 10, a0_5g 11, a0_5g 12, a0_5g 13, a0_5g 14]))] := hD
        refine lv_aload_n hx hb dX3_readHall_74 rfl (lv_at hl 1 rfl) ?_
        refine va_ldcS hx hb hown (sx_R8 hE0) dX3_readHall_75 ?_
        refine lv_iconst (v := 0) hx hb dX3_readHall_77 (by decide) ?_
        refine lv_bipush (v := 100) hx hb dX3_readHall_78 (by decide) ?_
        have hPc := hP.sub (ws' := [(a0, .inr (3, [a0g 0, .int v55na0_1, .int v55na0_2, .ref a0_3, a0g 4, .ref a0_5, a0g 6, .int a0_7, .int v55na0_8, .int v55na0_9, .int v55na0_10, .long v55na0_11, .int v55na0_12, .int v55na0_13])), (a0_3, .inl (ka0_3, 900, .inl (fa0_3)))]) [0, 1] rfl
        have hDc := hD.sub (ws' := [(a0, .inr (3, [a0g 0, .int v55na0_1, .int v55na0_2, .ref a0_3, a0g 4, .ref a0_5, a0g 6, .int a0_7, .int v55na0_8, .int v55na0_9, .int v55na0_10, .long v55na0_11, .int v55na0_12, .int v55na0_13])), (a0_3, .inl (ka0_3, 900, .inl (fa0_3)))]) [0, 1] (by decide) rfl
        have hKc := hK.sub (tys' := [(ka0_3, .byte)]) [0] rfl
        have hFc := va_free (wc := [(a0, .inr (3, [a0g 0, .int v55na0_1, .int v55na0_2, .ref a0_3, a0g 4, .ref a0_5, a0g 6, .int a0_7, .int v55na0_8, .int v55na0_9, .int v55na0_10, .long v55na0_11, .int v55na0_12, .int v55na0_13])), (a0_3, .inl (ka0_3, 900, .inl (fa0_3)))]) hD hS hA [0, 1] rfl
        refine va_calli (va_runV (As := [.ref (ad 8), .int 0, .int 100]) (rest := []) ⟨hx, hb, hml, hown, hts⟩ (c_X3_takeWhole l dC dI H.size a0 (ad 8) 0 100 (fun i9 => ([a0g 0, .null, .null, .null, a0g 4, .ref a0_5, a0g 6] : List Value).getD i9 .null) v55na0_1 v55na0_2 a0_3 a0_7 v55na0_8 v55na0_9 v55na0_10 v55na0_11 v55na0_12 v55na0_13 ka0_3 fa0_3 4 ba0_7_l ba0_7_u bv55na0_8.1 bv55na0_8.2 bv55na0_9.1 bv55na0_9.2 bv55na0_10.1 bv55na0_10.2) (cwV 3 hts gX3_readHall_X3_takeWhole rfl rfl rfl (by decide +kernel) ⟨Nat.le_of_ble_eq_true rfl, Nat.le_of_ble_eq_true rfl⟩) ⟨ax_blind (fun _ _ _ _ hq => ⟨sx_W_same _ _ _ _ (hq.1), va_Nw.same rfl rfl (hq.2)⟩), va_recv hKc hPc (ci := 3) (q0 := 0) rfl rfl, ax_preE hPc hKc hDc (fun U hU hW => ⟨sx_W_to (sx_T_w hE0 (i := 8) (by decide)) hS.2.1 hFc hU hW, va_Nw.warmM hW hE1⟩)⟩ rfl rfl hl.1 rfl (lv_room (Nat.le_of_ble_eq_true rfl)) dX3_readHall_80 ⟨Nat.le_of_ble_eq_true rfl, Nat.le_of_ble_eq_true rfl⟩) hS (fun q _ h => hFc q h) hFc (fun r80 v80na0_13 t H1 locs ht hvm hw hB hz1 hk1 hS => ?_)
        obtain ⟨v80na0_1, v80na0_2, v80na0_8, v80na0_9, v80na0_10, v80na0_11, v80na0_12, bv80na0_8, bv80na0_9, bv80na0_10, hP1, hK1, hD1⟩ := hB
        rw [ht] at hP1
        obtain ⟨hP, hD⟩ := va_join (wr := [(a0_5, .inr (0, [.int a0_5_0, .int v29na0_13, .int v55na0_13, .int a0_5_3, a0_5g 4, a0_5g 5, a0_5g 6, a0_5g 7, a0_5g 8, a0_5g 9, a0_5g 10, a0_5g 11, a0_5g 12, a0_5g 13, a0_5g 14]))]) (w1 := [(a0, .inr (3, [a0g 0, .int v80na0_1, .int v80na0_2, .ref a0_3, a0g 4, .ref a0_5, a0g 6, .int a0_7, .int v80na0_8, .int v80na0_9, .int v80na0_10, .long v80na0_11, .int v80na0_12, .int v80na0_13])), (a0_3, .inl (ka0_3, 900, .inl (fa0_3)))]) hP hD [0, 1] [2] rfl rfl (by decide) (by decide) hk1 hFc hP1 hD1
        generalize H1 = H at hP hS ⊢
        have hP : va_P (dC, dI) vwCl [(a0, .inr (3, [a0g 0, .int v80na0_1, .int v80na0_2, .ref a0_3, a0g 4, .ref a0_5, a0g 6, .int a0_7, .int v80na0_8, .int v80na0_9, .int v80na0_10, .long v80na0_11, .int v80na0_12, .int v80na0_13])), (a0_3, .inl (ka0_3, 900, .inl (fa0_3))), (a0_5, .inr (0, [.int a0_5_0, .int v29na0_13, .int v55na0_13, .int a0_5_3, a0_5g 4, a0_5g 5, a0_5g 6, a0_5g 7, a0_5g 8, a0_5g 9, a0_5g 10, a0_5g 11, a0_5g 12, a0_5g 13, a0_5g 14]))] H := hP.sub [1, 2, 0] rfl
        have hD : va_D A [(a0, .inr (3, [a0g 0, .int v80na0_1, .int v80na0_2, .ref a0_3, a0g 4, .ref a0_5, a0g 6, .int a0_7, .int v80na0_8, .int v80na0_9, .int v80na0_10, .long v80na0_11, .int v80na0_12, .int v80na0_13])), (a0_3, .inl (ka0_3, 900, .inl (fa0_3))), (a0_5, .inr (0, [.int a0_5_0, .int v29na0_13, .int v55na0_13, .int a0_5_3, a0_5g 4, a0_5g 5, a0_5g 6, a0_5g 7, a0_5g 8, a0_5g 9, a0_5g 10, a0_5g 11, a0_5g 12, a0_5g 13, a0_5g 14]))] := hD.sub [1, 2, 0] (by decide) rfl
        rcases hw with hw | hw
        · obtain ⟨hw, h80⟩ := hw
          subst hw
          have l80k0_v80na0_13 : (0 : Int) ≤ v80na0_13.toInt := Int.le_trans (by decide : (0 : Int) ≤ (0 : Int32).toInt) h80.1
          have u80k0_v80na0_13 : v80na0_13.toInt ≤ (100 : Int) := Int.le_trans h80.2 (by decide : (100 : Int32).toInt ≤ (100 : Int))
          refine lv_if_ne (tgt := 88) hx hb dX3_readHall_83 (by decide) (fun _ => ?_) (fun c83 => absurd c83 (by decide +kernel))
          refine lv_aload_n hx hb dX3_readHall_88 rfl (lv_at hl 1 rfl) ?_
          refine va_get (D := (dC, dI)) (ci := 3) (v := .ref a0_5) (C := RX3) (T := TX3) (N := 14) hx hb hts (by decide +kernel) hown hK hP 0 rfl rfl 5 (by decide) (hts (.fieldLink RX3 22 "WaxTurns$Reade\x72" "draft" "LWaxTurns$Hall;") (by decide +kernel)) (fun _ h9 => h9) rfl dX3_readHall_89 ?_
          refine lv_aload_n hx hb dX3_readHall_92 rfl (lv_at hl 1 rfl) ?_
          refine va_get (D := (dC, dI)) (ci := 3) (v := .int v80na0_13) (C := RX3) (T := TX3) (N := 14) hx hb hts (by decide +kernel) hown hK hP 0 rfl rfl 13 (by decide) (hts (.fieldLink RX3 156 "WaxTurns$Reade\x72" "taken" "I") (by decide +kernel)) (fun _ h9 => h9) rfl dX3_readHall_93 ?_
          refine va_put (D := (dC, dI)) (ci := 0) (v := .int v80na0_13) (ty := .int) (C := RX0) (T := TX0) (N := 15) hx hb hts (by decide +kernel) tyX0 tyX0_ok nmX0 hown hK hP hD hS 2 rfl rfl 3 (by decide) (hts (.fieldLink RX3 170 "WaxTurns$Hall" "shut" "I") (by decide +kernel)) (fun _ h9 => h9) rfl (by decide +kernel) rfl rfl (Nat.le_of_ble_eq_true rfl) dX3_readHall_96 (fun H locs hP hD hS => ?_)
          have hP : va_P (dC, dI) vwCl [(a0, .inr (3, [a0g 0, .int v80na0_1, .int v80na0_2, .ref a0_3, a0g 4, .ref a0_5, a0g 6, .int a0_7, .int v80na0_8, .int v80na0_9, .int v80na0_10, .long v80na0_11, .int v80na0_12, .int v80na0_13])), (a0_3, .inl (ka0_3, 900, .inl (fa0_3))), (a0_5, .inr (0, [.int a0_5_0, .int v29na0_13, .int v55na0_13, .int v80na0_13, a0_5g 4, a0_5g 5, a0_5g 6, a0_5g 7, a0_5g 8, a0_5g 9, a0_5g 10, a0_5g 11, a0_5g 12, a0_5g 13, a0_5g 14]))] H := hP
          have hD : va_D A [(a0, .inr (3, [a0g 0, .int v80na0_1, .int v80na0_2, .ref a0_3, a0g 4, .ref a0_5, a0g 6, .int a0_7, .int v80na0_8, .int v80na0_9, .int v80na0_10, .long v80na0_11, .int v80na0_12, .int v80na0_13])), (a0_3, .inl (ka0_3, 900, .inl (fa0_3))), (a0_5, .inr (0, [.int a0_5_0, .int v29na0_13, .int v55na0_13, .int v80na0_13, a0_5g 4, a0_5g 5, a0_5g 6, a0_5g 7, a0_5g 8, a0_5g 9, a0_5g 10, a0_5g 11, a0_5g 12, a0_5g 13, a0_5g 14]))] := hD
          refine lv_aload_n hx hb dX3_readHall_99 rfl (lv_at hl 1 rfl) ?_
          refine va_get (D := (dC, dI)) (ci := 3) (v := .ref a0_5) (C := RX3) (T := TX3) (N := 14) hx hb hts (by decide +kernel) hown hK hP 0 rfl rfl 5 (by decide) (hts (.fieldLink RX3 22 "WaxTurns$Reade\x72" "draft" "LWaxTurns$Hall;") (by decide +kernel)) (fun _ h9 => h9) rfl dX3_readHall_100 ?_
          refine lv_iload_n hx hb dX3_readHall_103 rfl (lv_at hl 0 rfl) ?_
          refine va_put (D := (dC, dI)) (ci := 0) (v := .int v10na0_13) (ty := .int) (C := RX0) (T := TX0) (N := 15) hx hb hts (by decide +kernel) tyX0 tyX0_ok nmX0 hown hK hP hD hS 2 rfl rfl 0 (by decide) (hts (.fieldLink RX3 104 "WaxTurns$Hall" "figures" "I") (by decide +kernel)) (fun _ h9 => h9) rfl (by decide +kernel) rfl rfl (Nat.le_of_ble_eq_true rfl) dX3_readHall_104 (fun H locs hP hD hS => ?_)
          have hP : va_P (dC, dI) vwCl [(a0, .inr (3, [a0g 0, .int v80na0_1, .int v80na0_2, .ref a0_3, a0g 4, .ref a0_5, a0g 6, .int a0_7, .int v80na0_8, .int v80na0_9, .int v80na0_10, .long v80na0_11, .int v80na0_12, .int v80na0_13])), (a0_3, .inl (ka0_3, 900, .inl (fa0_3))), (a0_5, .inr (0, [.int v10na0_13, .int v29na0_13, .int v55na0_13, .int v80na0_13, a0_5g 4, a0_5g 5, a0_5g 6, a0_5g 7, a0_5g 8, a0_5g 9, a0_5g 10, a0_5g 11, a0_5g 12, a0_5g 13, a0_5g 14]))] H := hP
          have hD : va_D A [(a0, .inr (3, [a0g 0, .int v80na0_1, .int v80na0_2, .ref a0_3, a0g 4, .ref a0_5, a0g 6, .int a0_7, .int v80na0_8, .int v80na0_9, .int v80na0_10, .long v80na0_11, .int v80na0_12, .int v80na0_13])), (a0_3, .inl (ka0_3, 900, .inl (fa0_3))), (a0_5, .inr (0, [.int v10na0_13, .int v29na0_13, .int v55na0_13, .int v80na0_13, a0_5g 4, a0_5g 5, a0_5g 6, a0_5g 7, a0_5g 8, a0_5g 9, a0_5g 10, a0_5g 11, a0_5g 12, a0_5g 13, a0_5g 14]))] := hD
          refine lv_iconst (v := 1) hx hb dX3_readHall_107 (by decide) ?_
          exact W.zret (v := 1) hx hb hr rfl (fun t ht hW => ⟨⟨1, (), rfl, (Or.inl (rfl)), v80na0_1, v80na0_2, v80na0_8, v80na0_9, v80na0_10, v80na0_11, v80na0_12, v80na0_13, v10na0_13, v29na0_13, v55na0_13, v80na0_13, ⟨bv80na0_8.1, bv80na0_8.2⟩, ⟨bv80na0_9.1, bv80na0_9.2⟩, ⟨bv80na0_10.1, bv80na0_10.2⟩, ⟨Int.le_trans (by decide) l10k0_v10na0_13, u10k0_v10na0_13⟩, by rw [ht]; exact hP, va_K.moved hW.alike hK, hD⟩, hS.F ht⟩) hS.2.2 dX3_readHall_108
        · subst hw
          refine lv_if_ne (tgt := 88) hx hb dX3_readHall_83 (by decide) (fun c83 => absurd (by decide +kernel) c83) (fun _ => ?_)
          refine lv_iconst (v := 0) hx hb dX3_readHall_86 (by decide) ?_
          exact W.zret (v := 0) hx hb hr rfl (fun t ht hW => ⟨⟨0, (), rfl, (Or.inr (rfl)), v80na0_1, v80na0_2, v80na0_8, v80na0_9, v80na0_10, v80na0_11, v80na0_12, v80na0_13, a0_5_0, v29na0_13, v55na0_13, a0_5_3, ⟨bv80na0_8.1, bv80na0_8.2⟩, ⟨bv80na0_9.1, bv80na0_9.2⟩, ⟨bv80na0_10.1, bv80na0_10.2⟩, ⟨ba0_5_0_l, ba0_5_0_u⟩, by rw [ht]; exact hP, va_K.moved hW.alike hK, hD⟩, hS.F ht⟩) hS.2.2 dX3_readHall_87
      · subst hw
        refine lv_if_ne (tgt := 63) hx hb dX3_readHall_58 (by decide) (fun c58 => absurd (by decide +kernel) c58) (fun _ => ?_)
        refine lv_iconst (v := 0) hx hb dX3_readHall_61 (by decide) ?_
        exact W.zret (v := 0) hx hb hr rfl (fun t ht hW => ⟨⟨0, (), rfl, (Or.inr (rfl)), v55na0_1, v55na0_2, v55na0_8, v55na0_9, v55na0_10, v55na0_11, v55na0_12, v55na0_13, a0_5_0, v29na0_13, a0_5_2, a0_5_3, ⟨bv55na0_8.1, bv55na0_8.2⟩, ⟨bv55na0_9.1, bv55na0_9.2⟩, ⟨bv55na0_10.1, bv55na0_10.2⟩, ⟨ba0_5_0_l, ba0_5_0_u⟩, by rw [ht]; exact hP, va_K.moved hW.alike hK, hD⟩, hS.F ht⟩) hS.2.2 dX3_readHall_62
    · subst hw
      refine lv_if_ne (tgt := 37) hx hb dX3_readHall_32 (by decide) (fun c32 => absurd (by decide +kernel) c32) (fun _ => ?_)
      refine lv_iconst (v := 0) hx hb dX3_readHall_35 (by decide) ?_
      exact W.zret (v := 0) hx hb hr rfl (fun t ht hW => ⟨⟨0, (), rfl, (Or.inr (rfl)), v29na0_1, v29na0_2, v29na0_8, v29na0_9, v29na0_10, v29na0_11, v29na0_12, v29na0_13, a0_5_0, a0_5_1, a0_5_2, a0_5_3, ⟨bv29na0_8.1, bv29na0_8.2⟩, ⟨bv29na0_9.1, bv29na0_9.2⟩, ⟨bv29na0_10.1, bv29na0_10.2⟩, ⟨ba0_5_0_l, ba0_5_0_u⟩, by rw [ht]; exact hP, va_K.moved hW.alike hK, hD⟩, hS.F ht⟩) hS.2.2 dX3_readHall_36
  · subst hw
    refine lv_if_ne (tgt := 18) hx hb dX3_readHall_13 (by decide) (fun c13 => absurd (by decide +kernel) c13) (fun _ => ?_)
    refine lv_iconst (v := 0) hx hb dX3_readHall_16 (by decide) ?_
    exact W.zret (v := 0) hx hb hr rfl (fun t ht hW => ⟨⟨0, (), rfl, (Or.inr (rfl)), v10na0_1, v10na0_2, v10na0_8, v10na0_9, v10na0_10, v10na0_11, v10na0_12, v10na0_13, a0_5_0, a0_5_1, a0_5_2, a0_5_3, ⟨bv10na0_8.1, bv10na0_8.2⟩, ⟨bv10na0_9.1, bv10na0_9.2⟩, ⟨bv10na0_10.1, bv10na0_10.2⟩, ⟨ba0_5_0_l, ba0_5_0_u⟩, by rw [ht]; exact hP, va_K.moved hW.alike hK, hD⟩, hS.F ht⟩) hS.2.2 dX3_readHall_17
