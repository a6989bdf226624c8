set_option maxHeartbeats 4000000 in
set_option maxRecDepth 100000 in
theorem c_X7_within (l : Launch) (dC : Nat → ClassId) (dI : Nat → Nat → Nat) (sz : Nat) (a : Int32) (lo : Int32) (hi : Int32) : Met l yX7_within wsX7_within ({ frames := 0, cells := 0, slots := 0, locals := 0 }) (va_Pc [.int a, .int lo, .int hi] (ax_C dC dI sz [] [] (fun _ => True))) (va_Qi (fun (r : Int32) (_ : Unit) => (r = 1 ∧ lo.toInt ≤ a.toInt ∧ a.toInt ≤ hi.toInt) ∨ (r = 0 ∧ (a.toInt < lo.toInt ∨ hi.toInt < a.toInt))) (fun (_ : Unit) (t : State) => ax_B dC dI (va_A [] sz) [] [] t) (va_A [] sz)) 0 0 (va_A [] sz) := by
  refine Met.ofW (cc := cX7_within) (maxL := 3) (ret := (some .boolean)) (by decide) rfl ?_
  intro p e s m args below meth c s₁ B hml hv
  obtain ⟨rfl, hsz, hP, hK, hD0, hE⟩ := hv
  have hx := B.exec
  have hb := B.bytes
  have hr := B.returns
  have hts := atoms_spec (ws := wsX7_within) B.pre
  have hown : s.vm.findClass RX7 = some m.cls := findClass_of_methodNamed B.named
  have hlocks := B.notSynchronized
  subst hsz
  have hD := hD0.self (sz := s.heap.size)
  generalize hAe : va_A [] s.heap.size = A at hD ⊢
  have hA : ∀ q : Nat, s.heap.size ≤ q → A q := fun q h => by rw [← hAe]; exact Or.inr h
  have hS : va_S A s.heap s.heap [] := va_S.rf
  have hP : va_P (dC, dI) vwCl [] s.heap := hP
  have hl := lv_entry ([.int a, .int lo, .int hi]) (n := 3) (Nat.le_of_ble_eq_true rfl)
  rw [lg_entry_eq]
  generalize (lg_sl ([.int a, .int lo, .int hi]) ++ List.replicate (3 - (lg_sl ([.int a, .int lo, .int hi])).length) Slot.unset).toArray = ls at hl ⊢
  have hl : lv_has ls 3 [(0, .int a), (1, .int lo), (2, .int hi)] := hl
  refine lv_iload_n hx hb dX7_within_0 rfl (lv_at hl 0 rfl) ?_
  refine lv_iload_n hx hb dX7_within_1 rfl (lv_at hl 1 rfl) ?_
  refine lv_icmp_lt (tgt := 14) hx hb dX7_within_2 (by decide) (fun c_1 => ?_) (fun c_1 => ?_)
  · refine lv_iconst (v := 0) hx hb dX7_within_14 (by decide) ?_
    have hP9 := hP.sub (ws' := []) [] rfl
    have hD9 := hD.sub (ws' := []) [] (by decide) rfl
    have hK9 := hK.sub (tys' := []) [] rfl
    exact W.zret (v := 0) hx hb hr rfl (fun t ht hW => ⟨⟨0, (), rfl, Or.inr ⟨rfl, Or.inl (ax_lt c_1)⟩, by rw [ht]; exact hP9, va_K.moved hW.alike hK9, hD9⟩, hS.F ht⟩) hS.2.2 dX7_within_15
  · refine lv_iload_n hx hb dX7_within_5 rfl (lv_at hl 0 rfl) ?_
    refine lv_iload_n hx hb dX7_within_6 rfl (lv_at hl 2 rfl) ?_
    refine lv_icmp_gt (tgt := 14) hx hb dX7_within_7 (by decide) (fun c_2 => ?_) (fun c_2 => ?_)
    · refine lv_iconst (v := 0) hx hb dX7_within_14 (by decide) ?_
      have hP9 := hP.sub (ws' := []) [] rfl
      have hD9 := hD.sub (ws' := []) [] (by decide) rfl
      have hK9 := hK.sub (tys' := []) [] rfl
      exact W.zret (v := 0) hx hb hr rfl (fun t ht hW => ⟨⟨0, (), rfl, Or.inr ⟨rfl, Or.inr (ax_lt c_2)⟩, by rw [ht]; exact hP9, va_K.moved hW.alike hK9, hD9⟩, hS.F ht⟩) hS.2.2 dX7_within_15
    · refine lv_iconst (v := 1) hx hb dX7_within_10 (by decide) ?_
      refine lv_goto (tgt := 15) hx hb dX7_within_11 (by decide) ?_
      have hP9 := hP.sub (ws' := []) [] rfl
      have hD9 := hD.sub (ws' := []) [] (by decide) rfl
      have hK9 := hK.sub (tys' := []) [] rfl
      exact W.zret (v := 1) hx hb hr rfl (fun t ht hW => ⟨⟨1, (), rfl, Or.inl ⟨rfl, ax_nlt c_1, ax_nlt c_2⟩, by rw [ht]; exact hP9, va_K.moved hW.alike hK9, hD9⟩, hS.F ht⟩) hS.2.2 dX7_within_15

set_option maxHeartbeats 4000000 in
set_option maxRecDepth 100000 in
theorem c_X7_hasGallery (l : Launch) (dC : Nat → ClassId) (dI : Nat → Nat → Nat) (sz : Nat) (x : Nat) (v : Nat → Value) (h : Nat) (g : Nat → Value) : Met l yX7_hasGallery wsX7_hasGallery ({ frames := 0, cells := 0, slots := 0, locals := 0 }) (va_Pc [.ref x] (ax_C dC dI sz [(x, .inr (7, [v 0, v 1, v 2, v 3, v 4, v 5, v 6, .ref h, v 8, v 9, v 10])), (h, .inr (0, [.int 0, g 1, g 2, g 3, g 4, g 5, g 6, g 7, g 8, g 9, g 10, g 11, g 12, g 13, g 14]))] [] (fun _ => True))) (va_Qi (fun (r : Int32) (_ : Unit) => r = 0) (fun (_ : Unit) (t : State) => ax_B dC dI (va_A [(x, .inr (7, [v 0, v 1, v 2, v 3, v 4, v 5, v 6, .ref h, v 8, v 9, v 10])), (h, .inr (0, [.int 0, g 1, g 2, g 3, g 4, g 5, g 6, g 7, g 8, g 9, g 10, g 11, g 12, g 13, g 14]))] sz) [(x, .inr (7, [v 0, v 1, v 2, v 3, v 4, v 5, v 6, .ref h, v 8, v 9, v 10])), (h, .inr (0, [.int 0, g 1, g 2, g 3, g 4, g 5, g 6, g 7, g 8, g 9, g 10, g 11, g 12, g 13, g 14]))] [] t) (va_A [(x, .inr (7, [v 0, v 1, v 2, v 3, v 4, v 5, v 6, .ref h, v 8, v 9, v 10])), (h, .inr (0, [.int 0, g 1, g 2, g 3, g 4, g 5, g 6, g 7, g 8, g 9, g 10, g 11, g 12, g 13, g 14]))] sz)) 0 0 (va_A [(x, .inr (7, [v 0, v 1, v 2, v 3, v 4, v 5, v 6, .ref h, v 8, v 9, v 10])), (h, .inr (0, [.int 0, g 1, g 2, g 3, g 4, g 5, g 6, g 7, g 8, g 9, g 10, g 11, g 12, g 13, g 14]))] sz) := by
  refine Met.ofW (cc := cX7_hasGallery) (maxL := 1) (ret := (some .boolean)) (by decide) rfl ?_
  intro p e s m args below meth c s₁ B hml hv
  obtain ⟨rfl, hsz, hP, hK, hD0, hE⟩ := hv
  have hx := B.exec
  have hb := B.bytes
  have hr := B.returns
  have hts := atoms_spec (ws := wsX7_hasGallery) B.pre
  have hown : s.vm.findClass RX7 = some m.cls := findClass_of_methodNamed B.named
  have hlocks := B.notSynchronized
  subst hsz
  have hD := hD0.self (sz := s.heap.size)
  generalize hAe : va_A [(x, .inr (7, [v 0, v 1, v 2, v 3, v 4, v 5, v 6, .ref h, v 8, v 9, v 10])), (h, .inr (0, [.int 0, g 1, g 2, g 3, g 4, g 5, g 6, g 7, g 8, g 9, g 10, g 11, g 12, g 13, g 14]))] s.heap.size = A at hD ⊢
  have hA : ∀ q : Nat, s.heap.size ≤ q → A q := fun q h => by rw [← hAe]; exact Or.inr h
  have hS : va_S A s.heap s.heap [] := va_S.rf
  have hP : va_P (dC, dI) vwCl [(x, .inr (7, [v 0, v 1, v 2, v 3, v 4, v 5, v 6, .ref h, v 8, v 9, v 10])), (h, .inr (0, [.int 0, g 1, g 2, g 3, g 4, g 5, g 6, g 7, g 8, g 9, g 10, g 11, g 12, g 13, g 14]))] s.heap := hP
  have hl := lv_entry ([.ref x]) (n := 1) (Nat.le_of_ble_eq_true rfl)
  rw [lg_entry_eq]
  generalize (lg_sl ([.ref x]) ++ List.replicate (1 - (lg_sl ([.ref x])).length) Slot.unset).toArray = ls at hl ⊢
  have hl : lv_has ls 1 [(0, .ref x)] := hl
  refine lv_aload_n hx hb dX7_hasGallery_0 rfl (lv_at hl 0 rfl) ?_
  refine va_get (D := (dC, dI)) (ci := 7) (v := .ref h) (C := RX7) (T := TX7) (N := 11) hx hb hts (by decide +kernel) hown hK hP 0 rfl rfl 7 (by decide) (hts (.fieldLink RX7 57 "WaxTurns" "hall" "LWaxTurns$Hall;") (by decide +kernel)) (fun _ h9 => h9) rfl dX7_hasGallery_1 ?_
  refine va_get (D := (dC, dI)) (ci := 0) (v := .int 0) (C := RX0) (T := TX0) (N := 15) hx hb hts (by decide +kernel) hown hK hP 1 rfl rfl 0 (by decide) (hts (.fieldLink RX7 110 "WaxTurns$Hall" "figures" "I") (by decide +kernel)) (fun _ h9 => h9) rfl dX7_hasGallery_4 ?_
  refine lv_if_le (tgt := 14) hx hb dX7_hasGallery_7 (by decide) (fun _ => ?_) (fun c_1 => absurd (by decide +kernel) c_1)
  refine lv_iconst (v := 0) hx hb dX7_hasGallery_14 (by decide) ?_
  have hP9 := hP.sub (ws' := [(x, .inr (7, [v 0, v 1, v 2, v 3, v 4, v 5, v 6, .ref h, v 8, v 9, v 10])), (h, .inr (0, [.int 0, g 1, g 2, g 3, g 4, g 5, g 6, g 7, g 8, g 9, g 10, g 11, g 12, g 13, g 14]))]) [0, 1] rfl
  have hD9 := hD.sub (ws' := [(x, .inr (7, [v 0, v 1, v 2, v 3, v 4, v 5, v 6, .ref h, v 8, v 9, v 10])), (h, .inr (0, [.int 0, g 1, g 2, g 3, g 4, g 5, g 6, g 7, g 8, g 9, g 10, g 11, g 12, g 13, g 14]))]) [0, 1] (by decide) rfl
  have hK9 := hK.sub (tys' := []) [] rfl
  exact W.zret (v := 0) hx hb hr rfl (fun t ht hW => ⟨⟨0, (), rfl, rfl, by rw [ht]; exact hP9, va_K.moved hW.alike hK9, hD9⟩, hS.F ht⟩) hS.2.2 dX7_hasGallery_15

set_option maxHeartbeats 4000000 in
set_option maxRecDepth 100000 in
theorem c_X7_isFigure (l : Launch) (dC : Nat → ClassId) (dI : Nat → Nat → Nat) (sz : Nat) (x : Nat) (f : Int32) (v : Nat → Value) (h : Nat) (g : Nat → Value) : Met l yX7_isFigure wsX7_isFigure ({ frames := 1, cells := 0, slots := 0, locals := 22 }) (va_Pc [.ref x, .int f] (ax_C dC dI sz [(x, .inr (7, [v 0, v 1, v 2, v 3, v 4, v 5, v 6, .ref h, v 8, v 9, v 10])), (h, .inr (0, [.int 0, g 1, g 2, g 3, g 4, g 5, g 6, g 7, g 8, g 9, g 10, g 11, g 12, g 13, g 14]))] [] (fun _ => True))) (va_Qi (fun (r : Int32) (_ : Unit) => r = 0) (fun (_ : Unit) (t : State) => ax_B dC dI (va_A [(x, .inr (7, [v 0, v 1, v 2, v 3, v 4, v 5, v 6, .ref h, v 8, v 9, v 10])), (h, .inr (0, [.int 0, g 1, g 2, g 3, g 4, g 5, g 6, g 7, g 8, g 9, g 10, g 11, g 12, g 13, g 14]))] sz) [(x, .inr (7, [v 0, v 1, v 2, v 3, v 4, v 5, v 6, .ref h, v 8, v 9, v 10])), (h, .inr (0, [.int 0, g 1, g 2, g 3, g 4, g 5, g 6, g 7, g 8, g 9, g 10, g 11, g 12, g 13, g 14]))] [] t) (va_A [(x, .inr (7, [v 0, v 1, v 2, v 3, v 4, v 5, v 6, .ref h, v 8, v 9, v 10])), (h, .inr (0, [.int 0, g 1, g 2, g 3, g 4, g 5, g 6, g 7, g 8, g 9, g 10, g 11, g 12, g 13, g 14]))] sz)) 0 0 (va_A [(x, .inr (7, [v 0, v 1, v 2, v 3, v 4, v 5, v 6, .ref h, v 8, v 9, v 10])), (h, .inr (0, [.int 0, g 1, g 2, g 3, g 4, g 5, g 6, g 7, g 8, g 9, g 10, g 11, g 12, g 13, g 14]))] sz) := by
  refine Met.ofW (cc := cX7_isFigure) (maxL := 2) (ret := (some .boolean)) (by decide) rfl ?_
  intro p e s m args below meth c s₁ B hml hv
  obtain ⟨rfl, hsz, hP, hK, hD0, hE⟩ := hv
  have hx := B.exec
  have hb := B.bytes
  have hr := B.returns
  have hts := atoms_spec (ws := wsX7_isFigure) B.pre
  have hown : s.vm.findClass RX7 = some m.cls := findClass_of_methodNamed B.named
  have hlocks := B.notSynchronized
  subst hsz
  have hD := hD0.self (sz := s.heap.size)
  generalize hAe : va_A [(x, .inr (7, [v 0, v 1, v 2, v 3, v 4, v 5, v 6, .ref h, v 8, v 9, v 10])), (h, .inr (0, [.int 0, g 1, g 2, g 3, g 4, g 5, g 6, g 7, g 8, g 9, g 10, g 11, g 12, g 13, g 14]))] s.heap.size = A at hD ⊢
  have hA : ∀ q : Nat, s.heap.size ≤ q → A q := fun q h => by rw [← hAe]; exact Or.inr h
  have hS : va_S A s.heap s.heap [] := va_S.rf
  have hP : va_P (dC, dI) vwCl [(x, .inr (7, [v 0, v 1, v 2, v 3, v 4, v 5, v 6, .ref h, v 8, v 9, v 10])), (h, .inr (0, [.int 0, g 1, g 2, g 3, g 4, g 5, g 6, g 7, g 8, g 9, g 10, g 11, g 12, g 13, g 14]))] s.heap := hP
  have hl := lv_entry ([.ref x, .int f]) (n := 2) (Nat.le_of_ble_eq_true rfl)
  rw [lg_entry_eq]
  generalize (lg_sl ([.ref x, .int f]) ++ List.replicate (2 - (lg_sl ([.ref x, .int f])).length) Slot.unset).toArray = ls at hl ⊢
  have hl : lv_has ls 2 [(0, .ref x), (1, .int f)] := hl
  refine lv_iload_n hx hb dX7_isFigure_0 rfl (lv_at hl 1 rfl) ?_
  refine lv_iconst (v := 0) hx hb dX7_isFigure_1 (by decide) ?_
  refine lv_aload_n hx hb dX7_isFigure_2 rfl (lv_at hl 0 rfl) ?_
  refine va_get (D := (dC, dI)) (ci := 7) (v := .ref h) (C := RX7) (T := TX7) (N := 11) hx hb hts (by decide +kernel) hown hK hP 0 rfl rfl 7 (by decide) (hts (.fieldLink RX7 57 "WaxTurns" "hall" "LWaxTurns$Hall;") (by decide +kernel)) (fun _ h9 => h9) rfl dX7_isFigure_3 ?_
  refine va_get (D := (dC, dI)) (ci := 0) (v := .int 0) (C := RX0) (T := TX0) (N := 15) hx hb hts (by decide +kernel) hown hK hP 1 rfl rfl 0 (by decide) (hts (.fieldLink RX7 110 "WaxTurns$Hall" "figures" "I") (by decide +kernel)) (fun _ h9 => h9) rfl dX7_isFigure_6 ?_
  refine lv_iconst (v := 1) hx hb dX7_isFigure_9 (by decide) ?_
  refine lv_isub hx hb dX7_isFigure_10 ?_
  refine ax_ti (-1) (by decide +kernel) ?_
  have hPc := hP.sub (ws' := []) [] rfl
  have hDc := hD.sub (ws' := []) [] (by decide) rfl
  have hKc := hK.sub (tys' := []) [] rfl
  have hFc := va_free (wc := []) hD hS hA [] rfl
  refine va_calli (va_runS (As := [.int f, .int 0, .int (-1)]) (rest := []) ⟨hx, hb, hml, hown, hts⟩ (c_X7_within l dC dI s.heap.size f 0 (-1) ) (va_cwS 3 hts gX7_isFigure_X7_within rfl rfl rfl (by decide +kernel) ⟨Nat.le_of_ble_eq_true rfl, Nat.le_of_ble_eq_true rfl⟩) ⟨ax_blind (fun _ _ _ _ _ => trivial), ax_pre hPc hKc hDc (fun _ _ => trivial)⟩ rfl rfl hl.1 rfl (lv_room (Nat.le_of_ble_eq_true rfl)) dX7_isFigure_11 ⟨Nat.le_of_ble_eq_true rfl, Nat.le_of_ble_eq_true rfl⟩) hS (fun q _ h => hFc q h) hFc (fun r_1 u t H1 locs ht hvm hw hB hz1 hk1 hS => ?_)
  obtain ⟨hP1, hK1, hD1⟩ := hB
  rw [ht] at hP1
  have hK1 := va_K.moved hvm.symm hK1
  obtain ⟨hP, hD⟩ := va_join (wr := [(x, .inr (7, [v 0, v 1, v 2, v 3, v 4, v 5, v 6, .ref h, v 8, v 9, v 10])), (h, .inr (0, [.int 0, g 1, g 2, g 3, g 4, g 5, g 6, g 7, g 8, g 9, g 10, g 11, g 12, g 13, g 14]))]) (w1 := []) hP hD [] [0, 1] rfl rfl (by decide) (by decide) hk1 hFc hP1 hD1
  have hK := (hK.sub (tys' := []) [] rfl).app hK1
  generalize H1 = H at hP hS ⊢
  have hP : va_P (dC, dI) vwCl [(x, .inr (7, [v 0, v 1, v 2, v 3, v 4, v 5, v 6, .ref h, v 8, v 9, v 10])), (h, .inr (0, [.int 0, g 1, g 2, g 3, g 4, g 5, g 6, g 7, g 8, g 9, g 10, g 11, g 12, g 13, g 14]))] H := hP
  have hD : va_D A [(x, .inr (7, [v 0, v 1, v 2, v 3, v 4, v 5, v 6, .ref h, v 8, v 9, v 10])), (h, .inr (0, [.int 0, g 1, g 2, g 3, g 4, g 5, g 6, g 7, g 8, g 9, g 10, g 11, g 12, g 13, g 14]))] := hD
  have hK : va_K (dC, dI) vwCl [] s := hK
  rcases hw with ⟨hw, h_2⟩ | ⟨hw, h_2⟩
  · exact absurd (Int.le_trans h_2.1 h_2.2) (by decide)
  · subst hw
    have hP9 := hP.sub (ws' := [(x, .inr (7, [v 0, v 1, v 2, v 3, v 4, v 5, v 6, .ref h, v 8, v 9, v 10])), (h, .inr (0, [.int 0, g 1, g 2, g 3, g 4, g 5, g 6, g 7, g 8, g 9, g 10, g 11, g 12, g 13, g 14]))]) [0, 1] rfl
    have hD9 := hD.sub (ws' := [(x, .inr (7, [v 0, v 1, v 2, v 3, v 4, v 5, v 6, .ref h, v 8, v 9, v 10])), (h, .inr (0, [.int 0, g 1, g 2, g 3, g 4, g 5, g 6, g 7, g 8, g 9, g 10, g 11, g 12, g 13, g 14]))]) [0, 1] (by decide) rfl
    have hK9 := hK.sub (tys' := []) [] rfl
    exact W.zret (v := 0) hx hb hr rfl (fun t ht hW => ⟨⟨0, (), rfl, rfl, by rw [ht]; exact hP9, va_K.moved hW.alike hK9, hD9⟩, hS.F ht⟩) hS.2.2 dX7_isFigure_14

set_option maxHeartbeats 4000000 in
set_option maxRecDepth 100000 in
theorem c_X7_isPlace (l : Launch) (dC : Nat → ClassId) (dI : Nat → Nat → Nat) (sz : Nat) (x : Nat) (f : Int32) (v : Nat → Value) (h : Nat) (g : Nat → Value) : Met l yX7_isPlace wsX7_isPlace ({ frames := 1, cells := 0, slots := 0, locals := 22 }) (va_Pc [.ref x, .int f] (ax_C dC dI sz [(x, .inr (7, [v 0, v 1, v 2, v 3, v 4, v 5, v 6, .ref h, v 8, v 9, v 10])), (h, .inr (0, [.int 0, g 1, g 2, g 3, g 4, g 5, g 6, g 7, g 8, g 9, g 10, g 11, g 12, g 13, g 14]))] [] (fun _ => True))) (va_Qi (fun (r : Int32) (_ : Unit) => r = 0) (fun (_ : Unit) (t : State) => ax_B dC dI (va_A [(x, .inr (7, [v 0, v 1, v 2, v 3, v 4, v 5, v 6, .ref h, v 8, v 9, v 10])), (h, .inr (0, [.int 0, g 1, g 2, g 3, g 4, g 5, g 6, g 7, g 8, g 9, g 10, g 11, g 12, g 13, g 14]))] sz) [(x, .inr (7, [v 0, v 1, v 2, v 3, v 4, v 5, v 6, .ref h, v 8, v 9, v 10])), (h, .inr (0, [.int 0, g 1, g 2, g 3, g 4, g 5, g 6, g 7, g 8, g 9, g 10, g 11, g 12, g 13, g 14]))] [] t) (va_A [(x, .inr (7, [v 0, v 1, v 2, v 3, v 4, v 5, v 6, .ref h, v 8, v 9, v 10])), (h, .inr (0, [.int 0, g 1, g 2, g 3, g 4, g 5, g 6, g 7, g 8, g 9, g 10, g 11, g 12, g 13, g 14]))] sz)) 0 0 (va_A [(x, .inr (7, [v 0, v 1, v 2, v 3, v 4, v 5, v 6, .ref h, v 8, v 9, v 10])), (h, .inr (0, [.int 0, g 1, g 2, g 3, g 4, g 5, g 6, g 7, g 8, g 9, g 10, g 11, g 12, g 13, g 14]))] sz) := by
  refine Met.ofW (cc := cX7_isPlace) (maxL := 2) (ret := (some .boolean)) (by decide) rfl ?_
  intro p e s m args below meth c s₁ B hml hv
  obtain ⟨rfl, hsz, hP, hK, hD0, hE⟩ := hv
  have hx := B.exec
  have hb := B.bytes
  have hr := B.returns
  have hts := atoms_spec (ws := wsX7_isPlace) B.pre
  have hown : s.vm.findClass RX7 = some m.cls := findClass_of_methodNamed B.named
  have hlocks := B.notSynchronized
  subst hsz
  have hD := hD0.self (sz := s.heap.size)
  generalize hAe : va_A [(x, .inr (7, [v 0, v 1, v 2, v 3, v 4, v 5, v 6, .ref h, v 8, v 9, v 10])), (h, .inr (0, [.int 0, g 1, g 2, g 3, g 4, g 5, g 6, g 7, g 8, g 9, g 10, g 11, g 12, g 13, g 14]))] s.heap.size = A at hD ⊢
  have hA : ∀ q : Nat, s.heap.size ≤ q → A q := fun q h => by rw [← hAe]; exact Or.inr h
  have hS : va_S A s.heap s.heap [] := va_S.rf
  have hP : va_P (dC, dI) vwCl [(x, .inr (7, [v 0, v 1, v 2, v 3, v 4, v 5, v 6, .ref h, v 8, v 9, v 10])), (h, .inr (0, [.int 0, g 1, g 2, g 3, g 4, g 5, g 6, g 7, g 8, g 9, g 10, g 11, g 12, g 13, g 14]))] s.heap := hP
  have hl := lv_entry ([.ref x, .int f]) (n := 2) (Nat.le_of_ble_eq_true rfl)
  rw [lg_entry_eq]
  generalize (lg_sl ([.ref x, .int f]) ++ List.replicate (2 - (lg_sl ([.ref x, .int f])).length) Slot.unset).toArray = ls at hl ⊢
  have hl : lv_has ls 2 [(0, .ref x), (1, .int f)] := hl
  refine lv_iload_n hx hb dX7_isPlace_0 rfl (lv_at hl 1 rfl) ?_
  refine lv_iconst (v := 0) hx hb dX7_isPlace_1 (by decide) ?_
  refine lv_aload_n hx hb dX7_isPlace_2 rfl (lv_at hl 0 rfl) ?_
  refine va_get (D := (dC, dI)) (ci := 7) (v := .ref h) (C := RX7) (T := TX7) (N := 11) hx hb hts (by decide +kernel) hown hK hP 0 rfl rfl 7 (by decide) (hts (.fieldLink RX7 57 "WaxTurns" "hall" "LWaxTurns$Hall;") (by decide +kernel)) (fun _ h9 => h9) rfl dX7_isPlace_3 ?_
  refine va_get (D := (dC, dI)) (ci := 0) (v := .int 0) (C := RX0) (T := TX0) (N := 15) hx hb hts (by decide +kernel) hown hK hP 1 rfl rfl 0 (by decide) (hts (.fieldLink RX7 110 "WaxTurns$Hall" "figures" "I") (by decide +kernel)) (fun _ h9 => h9) rfl dX7_isPlace_6 ?_
  refine lv_iconst (v := 1) hx hb dX7_isPlace_9 (by decide) ?_
  refine lv_isub hx hb dX7_isPlace_10 ?_
  refine ax_ti (-1) (by decide +kernel) ?_
  have hPc := hP.sub (ws' := []) [] rfl
  have hDc := hD.sub (ws' := []) [] (by decide) rfl
  have hKc := hK.sub (tys' := []) [] rfl
  have hFc := va_free (wc := []) hD hS hA [] rfl
  refine va_calli (va_runS (As := [.int f, .int 0, .int (-1)]) (rest := []) ⟨hx, hb, hml, hown, hts⟩ (c_X7_within l dC dI s.heap.size f 0 (-1) ) (va_cwS 3 hts gX7_isPlace_X7_within rfl rfl rfl (by decide +kernel) ⟨Nat.le_of_ble_eq_true rfl, Nat.le_of_ble_eq_true rfl⟩) ⟨ax_blind (fun _ _ _ _ _ => trivial), ax_pre hPc hKc hDc (fun _ _ => trivial)⟩ rfl rfl hl.1 rfl (lv_room (Nat.le_of_ble_eq_true rfl)) dX7_isPlace_11 ⟨Nat.le_of_ble_eq_true rfl, Nat.le_of_ble_eq_true rfl⟩) hS (fun q _ h => hFc q h) hFc (fun r_1 u t H1 locs ht hvm hw hB hz1 hk1 hS => ?_)
  obtain ⟨hP1, hK1, hD1⟩ := hB
  rw [ht] at hP1
  have hK1 := va_K.moved hvm.symm hK1
  obtain ⟨hP, hD⟩ := va_join (wr := [(x, .inr (7, [v 0, v 1, v 2, v 3, v 4, v 5, v 6, .ref h, v 8, v 9, v 10])), (h, .inr (0, [.int 0, g 1, g 2, g 3, g 4, g 5, g 6, g 7, g 8, g 9, g 10, g 11, g 12, g 13, g 14]))]) (w1 := []) hP hD [] [0, 1] rfl rfl (by decide) (by decide) hk1 hFc hP1 hD1
  have hK := (hK.sub (tys' := []) [] rfl).app hK1
  generalize H1 = H at hP hS ⊢
  have hP : va_P (dC, dI) vwCl [(x, .inr (7, [v 0, v 1, v 2, v 3, v 4, v 5, v 6, .ref h, v 8, v 9, v 10])), (h, .inr (0, [.int 0, g 1, g 2, g 3, g 4, g 5, g 6, g 7, g 8, g 9, g 10, g 11, g 12, g 13, g 14]))] H := hP
  have hD : va_D A [(x, .inr (7, [v 0, v 1, v 2, v 3, v 4, v 5, v 6, .ref h, v 8, v 9, v 10])), (h, .inr (0, [.int 0, g 1, g 2, g 3, g 4, g 5, g 6, g 7, g 8, g 9, g 10, g 11, g 12, g 13, g 14]))] := hD
  have hK : va_K (dC, dI) vwCl [] s := hK
  rcases hw with ⟨hw, h_2⟩ | ⟨hw, h_2⟩
  · exact absurd (Int.le_trans h_2.1 h_2.2) (by decide)
  · subst hw
    have hP9 := hP.sub (ws' := [(x, .inr (7, [v 0, v 1, v 2, v 3, v 4, v 5, v 6, .ref h, v 8, v 9, v 10])), (h, .inr (0, [.int 0, g 1, g 2, g 3, g 4, g 5, g 6, g 7, g 8, g 9, g 10, g 11, g 12, g 13, g 14]))]) [0, 1] rfl
    have hD9 := hD.sub (ws' := [(x, .inr (7, [v 0, v 1, v 2, v 3, v 4, v 5, v 6, .ref h, v 8, v 9, v 10])), (h, .inr (0, [.int 0, g 1, g 2, g 3, g 4, g 5, g 6, g 7, g 8, g 9, g 10, g 11, g 12, g 13, g 14]))]) [0, 1] (by decide) rfl
    have hK9 := hK.sub (tys' := []) [] rfl
    exact W.zret (v := 0) hx hb hr rfl (fun t ht hW => ⟨⟨0, (), rfl, rfl, by rw [ht]; exact hP9, va_K.moved hW.alike hK9, hD9⟩, hS.F ht⟩) hS.2.2 dX7_isPlace_14

set_option maxHeartbeats 4000000 in
set_option maxRecDepth 100000 in
theorem c_X7_isWatcher (l : Launch) (dC : Nat → ClassId) (dI : Nat → Nat → Nat) (sz : Nat) (x : Nat) (f : Int32) (v : Nat → Value) (h : Nat) (g : Nat → Value) (w : Nat) (pw : Nat → Value) : Met l yX7_isWatcher wsX7_isWatcher ({ frames := 1, cells := 0, slots := 0, locals := 22 }) (va_Pc [.ref x, .int f] (ax_C dC dI sz [(x, .inr (7, [v 0, v 1, v 2, v 3, v 4, v 5, v 6, .ref h, v 8, v 9, v 10])), (h, .inr (0, [.int 0, g 1, g 2, g 3, g 4, g 5, g 6, g 7, g 8, g 9, g 10, g 11, g 12, g 13, .ref w])), (w, .inr (6, [.int 0, pw 1, pw 2, pw 3]))] [] (fun _ => True))) (va_Qi (fun (r : Int32) (_ : Unit) => r = 0) (fun (_ : Unit) (t : State) => ax_B dC dI (va_A [(x, .inr (7, [v 0, v 1, v 2, v 3, v 4, v 5, v 6, .ref h, v 8, v 9, v 10])), (h, .inr (0, [.int 0, g 1, g 2, g 3, g 4, g 5, g 6, g 7, g 8, g 9, g 10, g 11, g 12, g 13, .ref w])), (w, .inr (6, [.int 0, pw 1, pw 2, pw 3]))] sz) [(x, .inr (7, [v 0, v 1, v 2, v 3, v 4, v 5, v 6, .ref h, v 8, v 9, v 10])), (h, .inr (0, [.int 0, g 1, g 2, g 3, g 4, g 5, g 6, g 7, g 8, g 9, g 10, g 11, g 12, g 13, .ref w])), (w, .inr (6, [.int 0, pw 1, pw 2, pw 3]))] [] t) (va_A [(x, .inr (7, [v 0, v 1, v 2, v 3, v 4, v 5, v 6, .ref h, v 8, v 9, v 10])), (h, .inr (0, [.int 0, g 1, g 2, g 3, g 4, g 5, g 6, g 7, g 8, g 9, g 10, g 11, g 12, g 13, .ref w])), (w, .inr (6, [.int 0, pw 1, pw 2, pw 3]))] sz)) 0 0 (va_A [(x, .inr (7, [v 0, v 1, v 2, v 3, v 4, v 5, v 6, .ref h, v 8, v 9, v 10])), (h, .inr (0, [.int 0, g 1, g 2, g 3, g 4, g 5, g 6, g 7, g 8, g 9, g 10, g 11, g 12, g 13, .ref w])), (w, .inr (6, [.int 0, pw 1, pw 2, pw 3]))] sz) := by
  refine Met.ofW (cc := cX7_isWatcher) (maxL := 2) (ret := (some .boolean)) (by decide) rfl ?_
  intro p e s m args below meth c s₁ B hml hv
  obtain ⟨rfl, hsz, hP, hK, hD0, hE⟩ := hv
  have hx := B.exec
  have hb := B.bytes
  have hr := B.returns
  have hts := atoms_spec (ws := wsX7_isWatcher) B.pre
  have hown : s.vm.findClass RX7 = some m.cls := findClass_of_methodNamed B.named
  have hlocks := B.notSynchronized
  subst hsz
  have hD := hD0.self (sz := s.heap.size)
  generalize hAe : va_A [(x, .inr (7, [v 0, v 1, v 2, v 3, v 4, v 5, v 6, .ref h, v 8, v 9, v 10])), (h, .inr (0, [.int 0, g 1, g 2, g 3, g 4, g 5, g 6, g 7, g 8, g 9, g 10, g 11, g 12, g 13, .ref w])), (w, .inr (6, [.int 0, pw 1, pw 2, pw 3]))] s.heap.size = A at hD ⊢
  have hA : ∀ q : Nat, s.heap.size ≤ q → A q := fun q h => by rw [← hAe]; exact Or.inr h
  have hS : va_S A s.heap s.heap [] := va_S.rf
  have hP : va_P (dC, dI) vwCl [(x, .inr (7, [v 0, v 1, v 2, v 3, v 4, v 5, v 6, .ref h, v 8, v 9, v 10])), (h, .inr (0, [.int 0, g 1, g 2, g 3, g 4, g 5, g 6, g 7, g 8, g 9, g 10, g 11, g 12, g 13, .ref w])), (w, .inr (6, [.int 0, pw 1, pw 2, pw 3]))] s.heap := hP
  have hl := lv_entry ([.ref x, .int f]) (n := 2) (Nat.le_of_ble_eq_true rfl)
  rw [lg_entry_eq]
  generalize (lg_sl ([.ref x, .int f]) ++ List.replicate (2 - (lg_sl ([.ref x, .int f])).length) Slot.unset).toArray = ls at hl ⊢
  have hl : lv_has ls 2 [(0, .ref x), (1, .int f)] := hl
  refine lv_iload_n hx hb dX7_isWatcher_0 rfl (lv_at hl 1 rfl) ?_
  refine lv_iconst (v := 0) hx hb dX7_isWatcher_1 (by decide) ?_
  refine lv_aload_n hx hb dX7_isWatcher_2 rfl (lv_at hl 0 rfl) ?_
  refine va_get (D := (dC, dI)) (ci := 7) (v := .ref h) (C := RX7) (T := TX7) (N := 11) hx hb hts (by decide +kernel) hown hK hP 0 rfl rfl 7 (by decide) (hts (.fieldLink RX7 57 "WaxTurns" "hall" "LWaxTurns$Hall;") (by decide +kernel)) (fun _ h9 => h9) rfl dX7_isWatcher_3 ?_
  refine va_get (D := (dC, dI)) (ci := 0) (v := .ref w) (C := RX0) (T := TX0) (N := 15) hx hb hts (by decide +kernel) hown hK hP 1 rfl rfl 14 (by decide) (hts (.fieldLink RX7 138 "WaxTurns$Hall" "watchers" "LWaxTurns$Watchers;") (by decide +kernel)) (fun _ h9 => h9) rfl dX7_isWatcher_6 ?_
  refine va_get (D := (dC, dI)) (ci := 6) (v := .int 0) (C := RX6) (T := TX6) (N := 4) hx hb hts (by decide +kernel) hown hK hP 2 rfl rfl 0 (by decide) (hts (.fieldLink RX7 361 "WaxTurns$Watchers" "count" "I") (by decide +kernel)) (fun _ h9 => h9) rfl dX7_isWatcher_9 ?_
  refine lv_iconst (v := 1) hx hb dX7_isWatcher_12 (by decide) ?_
  refine lv_isub hx hb dX7_isWatcher_13 ?_
  refine ax_ti (-1) (by decide +kernel) ?_
  have hPc := hP.sub (ws' := []) [] rfl
  have hDc := hD.sub (ws' := []) [] (by decide) rfl
  have hKc := hK.sub (tys' := []) [] rfl
  have hFc := va_free (wc := []) hD hS hA [] rfl
  refine va_calli (va_runS (As := [.int f, .int 0, .int (-1)]) (rest := []) ⟨hx, hb, hml, hown, hts⟩ (c_X7_within l dC dI s.heap.size f 0 (-1) ) (va_cwS 3 hts gX7_isWatcher_X7_within rfl rfl rfl (by decide +kernel) ⟨Nat.le_of_ble_eq_true rfl, Nat.le_of_ble_eq_true rfl⟩) ⟨ax_blind (fun _ _ _ _ _ => trivial), ax_pre hPc hKc hDc (fun _ _ => trivial)⟩ rfl rfl hl.1 rfl (lv_room (Nat.le_of_ble_eq_true rfl)) dX7_isWatcher_14 ⟨Nat.le_of_ble_eq_true rfl, Nat.le_of_ble_eq_true rfl⟩) hS (fun q _ h => hFc q h) hFc (fun r_1 u t H1 locs ht hvm hw hB hz1 hk1 hS => ?_)
  obtain ⟨hP1, hK1, hD1⟩ := hB
  rw [ht] at hP1
  have hK1 := va_K.moved hvm.symm hK1
  obtain ⟨hP, hD⟩ := va_join (wr := [(x, .inr (7, [v 0, v 1, v 2, v 3, v 4, v 5, v 6, .ref h, v 8, v 9, v 10])), (h, .inr (0, [.int 0, g 1, g 2, g 3, g 4, g 5, g 6, g 7, g 8, g 9, g 10, g 11, g 12, g 13, .ref w])), (w, .inr (6, [.int 0, pw 1, pw 2, pw 3]))]) (w1 := []) hP hD [] [0, 1, 2] rfl rfl (by decide) (by decide) hk1 hFc hP1 hD1
  have hK := (hK.sub (tys' := []) [] rfl).app hK1
  generalize H1 = H at hP hS ⊢
  have hP : va_P (dC, dI) vwCl [(x, .inr (7, [v 0, v 1, v 2, v 3, v 4, v 5, v 6, .ref h, v 8, v 9, v 10])), (h, .inr (0, [.int 0, g 1, g 2, g 3, g 4, g 5, g 6, g 7, g 8, g 9, g 10, g 11, g 12, g 13, .ref w])), (w, .inr (6, [.int 0, pw 1, pw 2, pw 3]))] H := hP
  have hD : va_D A [(x, .inr (7, [v 0, v 1, v 2, v 3, v 4, v 5, v 6, .ref h, v 8, v 9, v 10])), (h, .inr (0, [.int 0, g 1, g 2, g 3, g 4, g 5, g 6, g 7, g 8, g 9, g 10, g 11, g 12, g 13, .ref w])), (w, .inr (6, [.int 0, pw 1, pw 2, pw 3]))] := hD
  have hK : va_K (dC, dI) vwCl [] s := hK
  rcases hw with ⟨hw, h_2⟩ | ⟨hw, h_2⟩
  · exact absurd (Int.le_trans h_2.1 h_2.2) (by decide)
  · subst hw
    have hP9 := hP.sub (ws' := [(x, .inr (7, [v 0, v 1, v 2, v 3, v 4, v 5, v 6, .ref h, v 8, v 9, v 10])), (h, .inr (0, [.int 0, g 1, g 2, g 3, g 4, g 5, g 6, g 7, g 8, g 9, g 10, g 11, g 12, g 13, .ref w])), (w, .inr (6, [.int 0, pw 1, pw 2, pw 3]))]) [0, 1, 2] rfl
    have hD9 := hD.sub (ws' := [(x, .inr (7, [v 0, v 1, v 2, v 3, v 4, v 5, v 6, .ref h, v 8, v 9, v 10])), (h, .inr (0, [.int 0, g 1, g 2, g 3, g 4, g 5, g 6, g 7, g 8, g 9, g 10, g 11, g 12, g 13, .ref w])), (w, .inr (6, [.int 0, pw 1, pw 2, pw 3]))]) [0, 1, 2] (by decide) rfl
    have hK9 := hK.sub (tys' := []) [] rfl
    exact W.zret (v := 0) hx hb hr rfl (fun t ht hW => ⟨⟨0, (), rfl, rfl, by rw [ht]; exact hP9, va_K.moved hW.alike hK9, hD9⟩, hS.F ht⟩) hS.2.2 dX7_isWatcher_17

set_option maxHeartbeats 4000000 in
set_option maxRecDepth 100000 in
theorem c_X7_refused (l : Launch) (dC : Nat → ClassId) (dI : Nat → Nat → Nat) (sz : Nat) (x : Nat) (n : Int32) (v : Nat → Value) : Met l yX7_refused wsX7_refused ({ frames := 0, cells := 0, slots := 0, locals := 0 }) (va_Pc [.ref x, .int n] (ax_C dC dI sz [(x, .inr (7, [v 0, v 1, v 2, v 3, v 4, v 5, v 6, v 7, v 8, v 9, v 10]))] [] (fun _ => True))) (va_Qi (fun (r : Int32) (_ : Unit) => r = -1) (fun (_ : Unit) (t : State) => ax_B dC dI (va_A [(x, .inr (7, [v 0, v 1, v 2, v 3, v 4, v 5, v 6, v 7, v 8, v 9, v 10]))] sz) [] [] t) (va_A [(x, .inr (7, [v 0, v 1, v 2, v 3, v 4, v 5, v 6, v 7, v 8, v 9, v 10]))] sz)) 0 0 (va_A [(x, .inr (7, [v 0, v 1, v 2, v 3, v 4, v 5, v 6, v 7, v 8, v 9, v 10]))] sz) := by
  refine Met.ofW (cc := cX7_refused) (maxL := 2) (ret := (some .int)) (by decide) rfl ?_
  intro p e s m args below meth c s₁ B hml hv
  obtain ⟨rfl, hsz, hP, hK, hD0, hE⟩ := hv
  have hx := B.exec
  have hb := B.bytes
  have hr := B.returns
  have hts := atoms_spec (ws := wsX7_refused) B.pre
  have hown : s.vm.findClass RX7 = some m.cls := findClass_of_methodNamed B.named
  have hlocks := B.notSynchronized
  subst hsz
  have hD := hD0.self (sz := s.heap.size)
  generalize hAe : va_A [(x, .inr (7, [v 0, v 1, v 2, v 3, v 4, v 5, v 6, v 7, v 8, v 9, v 10]))] s.heap.size = A at hD ⊢
  have hA : ∀ q : Nat, s.heap.size ≤ q → A q := fun q h => by rw [← hAe]; exact Or.inr h
  have hS : va_S A s.heap s.heap [] := va_S.rf
  have hP : va_P (dC, dI) vwCl [(x, .inr (7, [v 0, v 1, v 2, v 3, v 4, v 5, v 6, v 7, v 8, v 9, v 10]))] s.heap := hP
  have hl := lv_entry ([.ref x, .int n]) (n := 2) (Nat.le_of_ble_eq_true rfl)
  rw [lg_entry_eq]
  generalize (lg_sl ([.ref x, .int n]) ++ List.replicate (2 - (lg_sl ([.ref x, .int n])).length) Slot.unset).toArray = ls at hl ⊢
  have hl : lv_has ls 2 [(0, .ref x), (1, .int n)] := hl
  refine lv_aload_n hx hb dX7_refused_0 rfl (lv_at hl 0 rfl) ?_
  refine lv_iload_n hx hb dX7_refused_1 rfl (lv_at hl 1 rfl) ?_
  refine va_put (D := (dC, dI)) (ci := 7) (v := .int n) (ty := .int) (C := RX7) (T := TX7) (N := 11) hx hb hts (by decide +kernel) tyX7 tyX7_ok nmX7 hown hK hP hD hS 0 rfl rfl 8 (by decide) (hts (.fieldLink RX7 61 "WaxTurns" "latestTrouble" "I") (by decide +kernel)) (fun _ h9 => h9) rfl (by decide +kernel) rfl rfl (Nat.le_of_ble_eq_true rfl) dX7_refused_2 (fun H locs hP hD hS => ?_)
  have hP : va_P (dC, dI) vwCl [(x, .inr (7, [v 0, v 1, v 2, v 3, v 4, v 5, v 6, v 7, .int n, v 9, v 10]))] H := hP
  have hD : va_D A [(x, .inr (7, [v 0, v 1, v 2, v 3, v 4, v 5, v 6, v 7, .int n, v 9, v 10]))] := hD
  refine lv_iconst (v := (-1)) hx hb dX7_refused_5 (by decide) ?_
  have hP9 := hP.sub (ws' := []) [] rfl
  have hD9 := hD.sub (ws' := []) [] (by decide) rfl
  have hK9 := hK.sub (tys' := []) [] rfl
  exact W.iret (v := (-1)) hx hb hr (fun t ht hW => ⟨⟨(-1), (), rfl, rfl, by rw [ht]; exact hP9, va_K.moved hW.alike hK9, hD9⟩, hS.F ht⟩) hS.2.2 dX7_refused_6

set_option maxHeartbeats 4000000 in
set_option maxRecDepth 100000 in
theorem c_X7_troubleOfNumber (l : Launch) (dC : Nat → ClassId) (dI : Nat → Nat → Nat) (sz : Nat) (x : Nat) (n : Int32) (a : Int32) (b : Int32) (v : Nat → Value) (h : Nat) (g : Nat → Value) : Met l yX7_troubleOfNumber wsX7_troubleOfNumber ({ frames := 1, cells := 0, slots := 0, locals := 20 }) (va_Pc [.ref x, .int n, .int a, .int b] (ax_C dC dI sz [(x, .inr (7, [v 0, v 1, v 2, v 3, v 4, v 5, v 6, .ref h, v 8, v 9, v 10])), (h, .inr (0, [.int 0, g 1, g 2, g 3, g 4, g 5, g 6, g 7, g 8, g 9, g 10, g 11, g 12, g 13, g 14]))] [] (fun _ => True))) (va_Qi (fun (r : Int32) (_ : Unit) => r = 1) (fun (_ : Unit) (t : State) => ax_B dC dI (va_A [(x, .inr (7, [v 0, v 1, v 2, v 3, v 4, v 5, v 6, .ref h, v 8, v 9, v 10])), (h, .inr (0, [.int 0, g 1, g 2, g 3, g 4, g 5, g 6, g 7, g 8, g 9, g 10, g 11, g 12, g 13, g 14]))] sz) [(x, .inr (7, [v 0, v 1, v 2, v 3, v 4, v 5, v 6, .ref h, v 8, v 9, v 10])), (h, .inr (0, [.int 0, g 1, g 2, g 3, g 4, g 5, g 6, g 7, g 8, g 9, g 10, g 11, g 12, g 13, g 14]))] [] t) (va_A [(x, .inr (7, [v 0, v 1, v 2, v 3, v 4, v 5, v 6, .ref h, v 8, v 9, v 10])), (h, .inr (0, [.int 0, g 1, g 2, g 3, g 4, g 5, g 6, g 7, g 8, g 9, g 10, g 11, g 12, g 13, g 14]))] sz)) 0 0 (va_A [(x, .inr (7, [v 0, v 1, v 2, v 3, v 4, v 5, v 6, .ref h, v 8, v 9, v 10])), (h, .inr (0, [.int 0, g 1, g 2, g 3, g 4, g 5, g 6, g 7, g 8, g 9, g 10, g 11, g 12, g 13, g 14]))] sz) := by
  refine Met.ofW (cc := cX7_troubleOfNumber) (maxL := 4) (ret := (some .int)) (by decide) rfl ?_
  intro p e s m args below meth c s₁ B hml hv
  obtain ⟨rfl, hsz, hP, hK, hD0, hE⟩ := hv
  have hx := B.exec
  have hb := B.bytes
  have hr := B.returns
  have hts := atoms_spec (ws := wsX7_troubleOfNumber) B.pre
  have hown : s.vm.findClass RX7 = some m.cls := findClass_of_methodNamed B.named
  have hlocks := B.notSynchronized
  subst hsz
  have hD := hD0.self (sz := s.heap.size)
  generalize hAe : va_A [(x, .inr (7, [v 0, v 1, v 2, v 3, v 4, v 5, v 6, .ref h, v 8, v 9, v 10])), (h, .inr (0, [.int 0, g 1, g 2, g 3, g 4, g 5, g 6, g 7, g 8, g 9, g 10, g 11, g 12, g 13, g 14]))] s.heap.size = A at hD ⊢
  have hA : ∀ q : Nat, s.heap.size ≤ q → A q := fun q h => by rw [← hAe]; exact Or.inr h
  have hS : va_S A s.heap s.heap [] := va_S.rf
  have hP : va_P (dC, dI) vwCl [(x, .inr (7, [v 0, v 1, v 2, v 3, v 4, v 5, v 6, .ref h, v 8, v 9, v 10])), (h, .inr (0, [.int 0, g 1, g 2, g 3, g 4, g 5, g 6, g 7, g 8, g 9, g 10, g 11, g 12, g 13, g 14]))] s.heap := hP
  have hl := lv_entry ([.ref x, .int n, .int a, .int b]) (n := 4) (Nat.le_of_ble_eq_true rfl)
  rw [lg_entry_eq]
  generalize (lg_sl ([.ref x, .int n, .int a, .int b]) ++ List.replicate (4 - (lg_sl ([.ref x, .int n, .int a, .int b])).length) Slot.unset).toArray = ls at hl ⊢
  have hl : lv_has ls 4 [(0, .ref x), (1, .int n), (2, .int a), (3, .int b)] := hl
  refine lv_aload_n hx hb dX7_troubleOfNumber_0 rfl (lv_at hl 0 rfl) ?_
  have hPc := hP.sub (ws' := [(x, .inr (7, [v 0, v 1, v 2, v 3, v 4, v 5, v 6, .ref h, v 8, v 9, v 10])), (h, .inr (0, [.int 0, g 1, g 2, g 3, g 4, g 5, g 6, g 7, g 8, g 9, g 10, g 11, g 12, g 13, g 14]))]) [0, 1] rfl
  have hDc := hD.sub (ws' := [(x, .inr (7, [v 0, v 1, v 2, v 3, v 4, v 5, v 6, .ref h, v 8, v 9, v 10])), (h, .inr (0, [.int 0, g 1, g 2, g 3, g 4, g 5, g 6, g 7, g 8, g 9, g 10, g 11, g 12, g 13, g 14]))]) [0, 1] (by decide) rfl
  have hKc := hK.sub (tys' := []) [] rfl
  have hFc := va_free (wc := [(x, .inr (7, [v 0, v 1, v 2, v 3, v 4, v 5, v 6, .ref h, v 8, v 9, v 10])), (h, .inr (0, [.int 0, g 1, g 2, g 3, g 4, g 5, g 6, g 7, g 8, g 9, g 10, g 11, g 12, g 13, g 14]))]) hD hS hA [0, 1] rfl
  refine va_calli (va_runV (As := []) (rest := []) ⟨hx, hb, hml, hown, hts⟩ (c_X7_hasGallery l dC dI s.heap.size x v h g ) (cwV 0 hts gX7_troubleOfNumber_X7_hasGallery rfl rfl rfl (by decide +kernel) ⟨Nat.le_of_ble_eq_true rfl, Nat.le_of_ble_eq_true rfl⟩) ⟨ax_blind (fun _ _ _ _ _ => trivial), va_recv hKc hPc (ci := 7) (q0 := 0) rfl rfl, ax_pre hPc hKc hDc (fun _ _ => trivial)⟩ rfl rfl hl.1 rfl (lv_room (Nat.le_of_ble_eq_true rfl)) dX7_troubleOfNumber_1 ⟨Nat.le_of_ble_eq_true rfl, Nat.le_of_ble_eq_true rfl⟩) hS (fun q _ h => hFc q h) hFc (fun r_1 u t H1 locs ht hvm hw hB hz1 hk1 hS => ?_)
  obtain ⟨hP1, hK1, hD1⟩ := hB
  rw [ht] at hP1
  have hK1 := va_K.moved hvm.symm hK1
  obtain ⟨hP, hD⟩ := va_join (wr := []) (w1 := [(x, .inr (7, [v 0, v 1, v 2, v 3, v 4, v 5, v 6, .ref h, v 8, v 9, v 10])), (h, .inr (0, [.int 0, g 1, g 2, g 3, g 4, g 5, g 6, g 7, g 8, g 9, g 10, g 11, g 12, g 13, g 14]))]) hP hD [0, 1] [] rfl rfl (by decide) (by decide) hk1 hFc hP1 hD1
  have hK := (hK.sub (tys' := []) [] rfl).app hK1
  generalize H1 = H at hP hS ⊢
  have hP : va_P (dC, dI) vwCl [(x, .inr (7, [v 0, v 1, v 2, v 3, v 4, v 5, v 6, .ref h, v 8, v 9, v 10])), (h, .inr (0, [.int 0, g 1, g 2, g 3, g 4, g 5, g 6, g 7, g 8, g 9, g 10, g 11, g 12, g 13, g 14]))] H := hP
  have hD : va_D A [(x, .inr (7, [v 0, v 1, v 2, v 3, v 4, v 5, v 6, .ref h, v 8, v 9, v 10])), (h, .inr (0, [.int 0, g 1, g 2, g 3, g 4, g 5, g 6, g 7, g 8, g 9, g 10, g 11, g 12, g 13, g 14]))] := hD
  have hK : va_K (dC, dI) vwCl [] s := hK
  have hw : r_1 = 0 := hw
  subst hw
  refine lv_if_ne (tgt := 9) hx hb dX7_troubleOfNumber_4 (by decide) (fun c_2 => absurd (by decide +kernel) c_2) (fun _ => ?_)
  refine lv_iconst (v := 1) hx hb dX7_troubleOfNumber_7 (by decide) ?_
  have hP9 := hP.sub (ws' := [(x, .inr (7, [v 0, v 1, v 2, v 3, v 4, v 5, v 6, .ref h, v 8, v 9, v 10])), (h, .inr (0, [.int 0, g 1, g 2, g 3, g 4, g 5, g 6, g 7, g 8, g 9, g 10, g 11, g 12, g 13, g 14]))]) [0, 1] rfl
  have hD9 := hD.sub (ws' := [(x, .inr (7, [v 0, v 1, v 2, v 3, v 4, v 5, v 6, .ref h, v 8, v 9, v 10])), (h, .inr (0, [.int 0, g 1, g 2, g 3, g 4, g 5, g 6, g 7, g 8, g 9, g 10, g 11, g 12, g 13, g 14]))]) [0, 1] (by decide) rfl
  have hK9 := hK.sub (tys' := []) [] rfl
  exact W.iret (v := 1) hx hb hr (fun t ht hW => ⟨⟨1, (), rfl, rfl, by rw [ht]; exact hP9, va_K.moved hW.alike hK9, hD9⟩, hS.F ht⟩) hS.2.2 dX7_troubleOfNumber_8

set_option maxHeartbeats 4000000 in
set_option maxRecDepth 100000 in
theorem c_X7_troubleOfFigureWithin (l : Launch) (dC : Nat → ClassId) (dI : Nat → Nat → Nat) (sz : Nat) (x : Nat) (f : Int32) (n : Int32) (b : Int32) (v : Nat → Value) (h : Nat) (g : Nat → Value) : Met l yX7_troubleOfFigureWithin wsX7_troubleOfFigureWithin ({ frames := 2, cells := 0, slots := 0, locals := 43 }) (va_Pc [.ref x, .int f, .int n, .int b] (ax_C dC dI sz [(x, .inr (7, [v 0, v 1, v 2, v 3, v 4, v 5, v 6, .ref h, v 8, v 9, v 10])), (h, .inr (0, [.int 0, g 1, g 2, g 3, g 4, g 5, g 6, g 7, g 8, g 9, g 10, g 11, g 12, g 13, g 14]))] [] (fun _ => True))) (va_Qi (fun (r : Int32) (_ : Unit) => r = 1) (fun (_ : Unit) (t : State) => ax_B dC dI (va_A [(x, .inr (7, [v 0, v 1, v 2, v 3, v 4, v 5, v 6, .ref h, v 8, v 9, v 10])), (h, .inr (0, [.int 0, g 1, g 2, g 3, g 4, g 5, g 6, g 7, g 8, g 9, g 10, g 11, g 12, g 13, g 14]))] sz) [(x, .inr (7, [v 0, v 1, v 2, v 3, v 4, v 5, v 6, .ref h, v 8, v 9, v 10])), (h, .inr (0, [.int 0, g 1, g 2, g 3, g 4, g 5, g 6, g 7, g 8, g 9, g 10, g 11, g 12, g 13, g 14]))] [] t) (va_A [(x, .inr (7, [v 0, v 1, v 2, v 3, v 4, v 5, v 6, .ref h, v 8, v 9, v 10])), (h, .inr (0, [.int 0, g 1, g 2, g 3, g 4, g 5, g 6, g 7, g 8, g 9, g 10, g 11, g 12, g 13, g 14]))] sz)) 0 0 (va_A [(x, .inr (7, [v 0, v 1, v 2, v 3, v 4, v 5, v 6, .ref h, v 8, v 9, v 10])), (h, .inr (0, [.int 0, g 1, g 2, g 3, g 4, g 5, g 6, g 7, g 8, g 9, g 10, g 11, g 12, g 13, g 14]))] sz) := by
  refine Met.ofW (cc := cX7_troubleOfFigureWithin) (maxL := 4) (ret := (some .int)) (by decide) rfl ?_
  intro p e s m args below meth c s₁ B hml hv
  obtain ⟨rfl, hsz, hP, hK, hD0, hE⟩ := hv
  have hx := B.exec
  have hb := B.bytes
  have hr := B.returns
  have hts := atoms_spec (ws := wsX7_troubleOfFigureWithin) B.pre
  have hown : s.vm.findClass RX7 = some m.cls := findClass_of_methodNamed B.named
  have hlocks := B.notSynchronized
  subst hsz
  have hD := hD0.self (sz := s.heap.size)
  generalize hAe : va_A [(x, .inr (7, [v 0, v 1, v 2, v 3, v 4, v 5, v 6, .ref h, v 8, v 9, v 10])), (h, .inr (0, [.int 0, g 1, g 2, g 3, g 4, g 5, g 6, g 7, g 8, g 9, g 10, g 11, g 12, g 13, g 14]))] s.heap.size = A at hD ⊢
  have hA : ∀ q : Nat, s.heap.size ≤ q → A q := fun q h => by rw [← hAe]; exact Or.inr h
  have hS : va_S A s.heap s.heap [] := va_S.rf
  have hP : va_P (dC, dI) vwCl [(x, .inr (7, [v 0, v 1, v 2, v 3, v 4, v 5, v 6, .ref h, v 8, v 9, v 10])), (h, .inr (0, [.int 0, g 1, g 2, g 3, g 4, g 5, g 6, g 7, g 8, g 9, g 10, g 11, g 12, g 13, g 14]))] s.heap := hP
  have hl := lv_entry ([.ref x, .int f, .int n, .int b]) (n := 4) (Nat.le_of_ble_eq_true rfl)
  rw [lg_entry_eq]
  generalize (lg_sl ([.ref x, .int f, .int n, .int b]) ++ List.replicate (4 - (lg_sl ([.ref x, .int f, .int n, .int b])).length) Slot.unset).toArray = ls at hl ⊢
  have hl : lv_has ls 4 [(0, .ref x), (1, .int f), (2, .int n), (3, .int b)] := hl
  refine lv_aload_n hx hb dX7_troubleOfFigureWithin_0 rfl (lv_at hl 0 rfl) ?_
  refine lv_iload_n hx hb dX7_troubleOfFigureWithin_1 rfl (lv_at hl 1 rfl) ?_
  have hPc := hP.sub (ws' := [(x, .inr (7, [v 0, v 1, v 2, v 3, v 4, v 5, v 6, .ref h, v 8, v 9, v 10])), (h, .inr (0, [.int 0, g 1, g 2, g 3, g 4, g 5, g 6, g 7, g 8, g 9, g 10, g 11, g 12, g 13, g 14]))]) [0, 1] rfl
  have hDc := hD.sub (ws' := [(x, .inr (7, [v 0, v 1, v 2, v 3, v 4, v 5, v 6, .ref h, v 8, v 9, v 10])), (h, .inr (0, [.int 0, g 1, g 2, g 3, g 4, g 5, g 6, g 7, g 8, g 9, g 10, g 11, g 12, g 13, g 14]))]) [0, 1] (by decide) rfl
  have hKc := hK.sub (tys' := []) [] rfl
  have hFc := va_free (wc := [(x, .inr (7, [v 0, v 1, v 2, v 3, v 4, v 5, v 6, .ref h, v 8, v 9, v 10])), (h, .inr (0, [.int 0, g 1, g 2, g 3, g 4, g 5, g 6, g 7, g 8, g 9, g 10, g 11, g 12, g 13, g 14]))]) hD hS hA [0, 1] rfl
  refine va_calli (va_runV (As := [.int f]) (rest := []) ⟨hx, hb, hml, hown, hts⟩ (c_X7_isFigure l dC dI s.heap.size x f v h g ) (cwV 1 hts gX7_troubleOfFigureWithin_X7_isFigure rfl rfl rfl (by decide +kernel) ⟨Nat.le_of_ble_eq_true rfl, Nat.le_of_ble_eq_true rfl⟩) ⟨ax_blind (fun _ _ _ _ _ => trivial), va_recv hKc hPc (ci := 7) (q0 := 0) rfl rfl, ax_pre hPc hKc hDc (fun _ _ => trivial)⟩ rfl rfl hl.1 rfl (lv_room (Nat.le_of_ble_eq_true rfl)) dX7_troubleOfFigureWithin_2 ⟨Nat.le_of_ble_eq_true rfl, Nat.le_of_ble_eq_true rfl⟩) hS (fun q _ h => hFc q h) hFc (fun r_1 u t H1 locs ht hvm hw hB hz1 hk1 hS => ?_)
  obtain ⟨hP1, hK1, hD1⟩ := hB
  rw [ht] at hP1
  have hK1 := va_K.moved hvm.symm hK1
  obtain ⟨hP, hD⟩ := va_join (wr := []) (w1 := [(x, .inr (7, [v 0, v 1, v 2, v 3, v 4, v 5, v 6, .ref h, v 8, v 9, v 10])), (h, .inr (0, [.int 0, g 1, g 2, g 3, g 4, g 5, g 6, g 7, g 8, g 9, g 10, g 11, g 12, g 13, g 14]))]) hP hD [0, 1] [] rfl rfl (by decide) (by decide) hk1 hFc hP1 hD1
  have hK := (hK.sub (tys' := []) [] rfl).app hK1
  generalize H1 = H at hP hS ⊢
  have hP : va_P (dC, dI) vwCl [(x, .inr (7, [v 0, v 1, v 2, v 3, v 4, v 5, v 6, .ref h, v 8, v 9, v 10])), (h, .inr (0, [.int 0, g 1, g 2, g 3, g 4, g 5, g 6, g 7, g 8, g 9, g 10, g 11, g 12, g 13, g 14]))] H := hP
  have hD : va_D A [(x, .inr (7, [v 0, v 1, v 2, v 3, v 4, v 5, v 6, .ref h, v 8, v 9, v 10])), (h, .inr (0, [.int 0, g 1, g 2, g 3, g 4, g 5, g 6, g 7, g 8, g 9, g 10, g 11, g 12, g 13, g 14]))] := hD
  have hK : va_K (dC, dI) vwCl [] s := hK
  have hw : r_1 = 0 := hw
  subst hw
  refine lv_if_ne (tgt := 10) hx hb dX7_troubleOfFigureWithin_5 (by decide) (fun c_2 => absurd (by decide +kernel) c_2) (fun _ => ?_)
  refine lv_iconst (v := 1) hx hb dX7_troubleOfFigureWithin_8 (by decide) ?_
  have hP9 := hP.sub (ws' := [(x, .inr (7, [v 0, v 1, v 2, v 3, v 4, v 5, v 6, .ref h, v 8, v 9, v 10])), (h, .inr (0, [.int 0, g 1, g 2, g 3, g 4, g 5, g 6, g 7, g 8, g 9, g 10, g 11, g 12, g 13, g 14]))]) [0, 1] rfl
  have hD9 := hD.sub (ws' := [(x, .inr (7, [v 0, v 1, v 2, v 3, v 4, v 5, v 6, .ref h, v 8, v 9, v 10])), (h, .inr (0, [.int 0, g 1, g 2, g 3, g 4, g 5, g 6, g 7, g 8, g 9, g 10, g 11, g 12, g 13, g 14]))]) [0, 1] (by decide) rfl
  have hK9 := hK.sub (tys' := []) [] rfl
  exact W.iret (v := 1) hx hb hr (fun t ht hW => ⟨⟨1, (), rfl, rfl, by rw [ht]; exact hP9, va_K.moved hW.alike hK9, hD9⟩, hS.F ht⟩) hS.2.2 dX7_troubleOfFigureWithin_9
