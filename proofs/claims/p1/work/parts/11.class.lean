set_option maxHeartbeats 4000000 in
set_option maxRecDepth 100000 in
theorem c_X7_figure (l : Launch) (dC : Nat → ClassId) (dI : Nat → Nat → Nat) (sz : Nat) (x : Nat) (a0 : Int32) (a1 : Int32) (v : Nat → Value) (h : Nat) (g : Nat → Value) : Met l yX7_figure wsX7_figure ({ frames := 2, cells := 0, slots := 0, locals := 43 }) (va_Pc [.ref x, .int a0, .int a1] (ax_C dC dI sz [(x, .inr (7, [v 0, v 1, v 2, v 3, v 4, v 5, v 6, .ref h, v 8, v 9, v 10])), (h, .inr (0, [.int 0, g 1, g 2, g 3, g 4, g 5, g 6, g 7, g 8, g 9, g 10, g 11, g 12, g 13, g 14]))] [] (fun _ => True))) (va_Qi (fun (r : Int32) (_ : Unit) => r = -1) (fun (_ : Unit) (t : State) => ax_B dC dI (va_A [(x, .inr (7, [v 0, v 1, v 2, v 3, v 4, v 5, v 6, .ref h, v 8, v 9, v 10])), (h, .inr (0, [.int 0, g 1, g 2, g 3, g 4, g 5, g 6, g 7, g 8, g 9, g 10, g 11, g 12, g 13, g 14]))] sz) [] [] t) (va_A [(x, .inr (7, [v 0, v 1, v 2, v 3, v 4, v 5, v 6, .ref h, v 8, v 9, v 10])), (h, .inr (0, [.int 0, g 1, g 2, g 3, g 4, g 5, g 6, g 7, g 8, g 9, g 10, g 11, g 12, g 13, g 14]))] sz)) 0 0 (va_A [(x, .inr (7, [v 0, v 1, v 2, v 3, v 4, v 5, v 6, .ref h, v 8, v 9, v 10])), (h, .inr (0, [.int 0, g 1, g 2, g 3, g 4, g 5, g 6, g 7, g 8, g 9, g 10, g 11, g 12, g 13, g 14]))] sz) := by
  refine Met.ofW (cc := cX7_figure) (maxL := 3) (ret := (some .int)) (by decide) rfl ?_
  intro p e s m args below meth c s₁ B hml hv
  obtain ⟨rfl, hsz, hP, hK, hD0, hE⟩ := hv
  have hx := B.exec
  have hb := B.bytes
  have hr := B.returns
  have hts := atoms_spec (ws := wsX7_figure) B.pre
  have hown : s.vm.findClass RX7 = some m.cls := findClass_of_methodNamed B.named
  have hlocks := B.notSynchronized
  subst hsz
  have hD := hD0.self (sz := s.heap.size)
  generalize hAe : va_A [(x, .inr (7, [v 0, v 1, v 2, v 3, v 4, v 5, v 6, .ref h, v 8, v 9, v 10])), (h, .inr (0, [.int 0, g 1, g 2, g 3, g 4, g 5, g 6, g 7, g 8, g 9, g 10, g 11, g 12, g 13, g 14]))] s.heap.size = A at hD ⊢
  have hA : ∀ q : Nat, s.heap.size ≤ q → A q := fun q h => by rw [← hAe]; exact Or.inr h
  have hS : va_S A s.heap s.heap [] := va_S.rf
  have hP : va_P (dC, dI) vwCl [(x, .inr (7, [v 0, v 1, v 2, v 3, v 4, v 5, v 6, .ref h, v 8, v 9, v 10])), (h, .inr (0, [.int 0, g 1, g 2, g 3, g 4, g 5, g 6, g 7, g 8, g 9, g 10, g 11, g 12, g 13, g 14]))] s.heap := hP
  have hl := lv_entry ([.ref x, .int a0, .int a1]) (n := 3) (Nat.le_of_ble_eq_true rfl)
  rw [lg_entry_eq]
  generalize (lg_sl ([.ref x, .int a0, .int a1]) ++ List.replicate (3 - (lg_sl ([.ref x, .int a0, .int a1])).length) Slot.unset).toArray = ls at hl ⊢
  have hl : lv_has ls 3 [(0, .ref x), (1, .int a0), (2, .int a1)] := hl
  refine lv_aload_n hx hb dX7_figure_0 rfl (lv_at hl 0 rfl) ?_
  refine lv_iload_n hx hb dX7_figure_1 rfl (lv_at hl 1 rfl) ?_
  have hPc := hP.sub (ws' := [(x, .inr (7, [v 0, v 1, v 2, v 3, v 4, v 5, v 6, .ref h, v 8, v 9, v 10])), (h, .inr (0, [.int 0, g 1, g 2, g 3, g 4, g 5, g 6, g 7, g 8, g 9, g 10, g 11, g 12, g 13, g 14]))]) [0, 1] rfl
  have hDc := hD.sub (ws' := [(x, .inr (7, [v 0, v 1, v 2, v 3, v 4, v 5, v 6, .ref h, v 8, v 9, v 10])), (h, .inr (0, [.int 0, g 1, g 2, g 3, g 4, g 5, g 6, g 7, g 8, g 9, g 10, g 11, g 12, g 13, g 14]))]) [0, 1] (by decide) rfl
  have hKc := hK.sub (tys' := []) [] rfl
  have hFc := va_free (wc := [(x, .inr (7, [v 0, v 1, v 2, v 3, v 4, v 5, v 6, .ref h, v 8, v 9, v 10])), (h, .inr (0, [.int 0, g 1, g 2, g 3, g 4, g 5, g 6, g 7, g 8, g 9, g 10, g 11, g 12, g 13, g 14]))]) hD hS hA [0, 1] rfl
  refine va_calli (va_runV (As := [.int a0]) (rest := []) ⟨hx, hb, hml, hown, hts⟩ (c_X7_isFigure l dC dI s.heap.size x a0 v h g ) (cwV 1 hts gX7_figure_X7_isFigure rfl rfl rfl (by decide +kernel) ⟨Nat.le_of_ble_eq_true rfl, Nat.le_of_ble_eq_true rfl⟩) ⟨ax_blind (fun _ _ _ _ _ => trivial), va_recv hKc hPc (ci := 7) (q0 := 0) rfl rfl, ax_pre hPc hKc hDc (fun _ _ => trivial)⟩ rfl rfl hl.1 rfl (lv_room (Nat.le_of_ble_eq_true rfl)) dX7_figure_2 ⟨Nat.le_of_ble_eq_true rfl, Nat.le_of_ble_eq_true rfl⟩) hS (fun q _ h => hFc q h) hFc (fun r_1 u t H1 locs ht hvm hw hB hz1 hk1 hS => ?_)
  obtain ⟨hP1, hK1, hD1⟩ := hB
  rw [ht] at hP1
  have hK1 := va_K.moved hvm.symm hK1
  obtain ⟨hP, hD⟩ := va_join (wr := []) (w1 := [(x, .inr (7, [v 0, v 1, v 2, v 3, v 4, v 5, v 6, .ref h, v 8, v 9, v 10])), (h, .inr (0, [.int 0, g 1, g 2, g 3, g 4, g 5, g 6, g 7, g 8, g 9, g 10, g 11, g 12, g 13, g 14]))]) hP hD [0, 1] [] rfl rfl (by decide) (by decide) hk1 hFc hP1 hD1
  have hK := (hK.sub (tys' := []) [] rfl).app hK1
  generalize H1 = H at hP hS ⊢
  have hP : va_P (dC, dI) vwCl [(x, .inr (7, [v 0, v 1, v 2, v 3, v 4, v 5, v 6, .ref h, v 8, v 9, v 10])), (h, .inr (0, [.int 0, g 1, g 2, g 3, g 4, g 5, g 6, g 7, g 8, g 9, g 10, g 11, g 12, g 13, g 14]))] H := hP
  have hD : va_D A [(x, .inr (7, [v 0, v 1, v 2, v 3, v 4, v 5, v 6, .ref h, v 8, v 9, v 10])), (h, .inr (0, [.int 0, g 1, g 2, g 3, g 4, g 5, g 6, g 7, g 8, g 9, g 10, g 11, g 12, g 13, g 14]))] := hD
  have hK : va_K (dC, dI) vwCl [] s := hK
  have hw : r_1 = 0 := hw
  subst hw
  refine lv_if_eq (tgt := 17) hx hb dX7_figure_5 (by decide) (fun _ => ?_) (fun c_2 => absurd (by decide +kernel) c_2)
  refine lv_aload_n hx hb dX7_figure_17 rfl (lv_at hl 0 rfl) ?_
  refine lv_iconst (v := 1) hx hb dX7_figure_18 (by decide) ?_
  have hPc := hP.sub (ws' := [(x, .inr (7, [v 0, v 1, v 2, v 3, v 4, v 5, v 6, .ref h, v 8, v 9, v 10]))]) [0] rfl
  have hDc := hD.sub (ws' := [(x, .inr (7, [v 0, v 1, v 2, v 3, v 4, v 5, v 6, .ref h, v 8, v 9, v 10]))]) [0] (by decide) rfl
  have hKc := hK.sub (tys' := []) [] rfl
  have hFc := va_free (wc := [(x, .inr (7, [v 0, v 1, v 2, v 3, v 4, v 5, v 6, .ref h, v 8, v 9, v 10]))]) hD hS hA [0] rfl
  refine va_calli (va_runV (As := [.int 1]) (rest := []) ⟨hx, hb, hml, hown, hts⟩ (c_X7_refused l dC dI H.size x 1 (fun i9 => ([v 0, v 1, v 2, v 3, v 4, v 5, v 6, .ref h, v 8, v 9, v 10] : List Value).getD i9 .null) ) (cwV 1 hts gX7_figure_X7_refused rfl rfl rfl (by decide +kernel) ⟨Nat.le_of_ble_eq_true rfl, Nat.le_of_ble_eq_true rfl⟩) ⟨ax_blind (fun _ _ _ _ _ => trivial), va_recv hKc hPc (ci := 7) (q0 := 0) rfl rfl, ax_pre hPc hKc hDc (fun _ _ => trivial)⟩ rfl rfl hl.1 rfl (lv_room (Nat.le_of_ble_eq_true rfl)) dX7_figure_19 ⟨Nat.le_of_ble_eq_true rfl, Nat.le_of_ble_eq_true rfl⟩) hS (fun q _ h => hFc q h) hFc (fun r_3 u t H1 locs ht hvm hw hB hz1 hk1 hS => ?_)
  obtain ⟨hP1, hK1, hD1⟩ := hB
  rw [ht] at hP1
  have hK1 := va_K.moved hvm.symm hK1
  obtain ⟨hP, hD⟩ := va_join (wr := [(h, .inr (0, [.int 0, g 1, g 2, g 3, g 4, g 5, g 6, g 7, g 8, g 9, g 10, g 11, g 12, g 13, g 14]))]) (w1 := []) hP hD [0] [1] rfl rfl (by decide) (by decide) hk1 hFc hP1 hD1
  have hK := (hK.sub (tys' := []) [] rfl).app hK1
  generalize H1 = H at hP hS ⊢
  have hP : va_P (dC, dI) vwCl [(h, .inr (0, [.int 0, g 1, g 2, g 3, g 4, g 5, g 6, g 7, g 8, g 9, g 10, g 11, g 12, g 13, g 14]))] H := hP
  have hD : va_D A [(h, .inr (0, [.int 0, g 1, g 2, g 3, g 4, g 5, g 6, g 7, g 8, g 9, g 10, g 11, g 12, g 13, g 14]))] := hD
  have hK : va_K (dC, dI) vwCl [] s := hK
  have hw : r_3 = (-1) := hw
  subst hw
  have hP9 := hP.sub (ws' := []) [] rfl
  have hD9 := hD.sub (ws' := []) [] (by decide) rfl
  have hK9 := hK.sub (tys' := []) [] rfl
  exact W.iret (v := (-1)) hx hb hr (fun t ht hW => ⟨⟨(-1), (), rfl, rfl, by rw [ht]; exact hP9, va_K.moved hW.alike hK9, hD9⟩, hS.F ht⟩) hS.2.2 dX7_figure_22

set_option maxHeartbeats 4000000 in
set_option maxRecDepth 100000 in
theorem c_X7_alive (l : Launch) (dC : Nat → ClassId) (dI : Nat → Nat → Nat) (sz : Nat) (x : Nat) (v : Nat → Value) (h : Nat) (g : Nat → Value) : Met l yX7_alive wsX7_alive ({ frames := 1, cells := 0, slots := 0, locals := 21 }) (va_Pc [.ref x] (ax_C dC dI sz [(x, .inr (7, [v 0, v 1, v 2, v 3, v 4, v 5, v 6, .ref h, v 8, v 9, v 10])), (h, .inr (0, [.int 0, g 1, g 2, g 3, g 4, g 5, g 6, g 7, g 8, g 9, g 10, g 11, g 12, g 13, g 14]))] [] (fun _ => True))) (va_Qi (fun (r : Int32) (_ : Unit) => r = -1) (fun (_ : Unit) (t : State) => ax_B dC dI (va_A [(x, .inr (7, [v 0, v 1, v 2, v 3, v 4, v 5, v 6, .ref h, v 8, v 9, v 10])), (h, .inr (0, [.int 0, g 1, g 2, g 3, g 4, g 5, g 6, g 7, g 8, g 9, g 10, g 11, g 12, g 13, g 14]))] sz) [] [] t) (va_A [(x, .inr (7, [v 0, v 1, v 2, v 3, v 4, v 5, v 6, .ref h, v 8, v 9, v 10])), (h, .inr (0, [.int 0, g 1, g 2, g 3, g 4, g 5, g 6, g 7, g 8, g 9, g 10, g 11, g 12, g 13, g 14]))] sz)) 0 0 (va_A [(x, .inr (7, [v 0, v 1, v 2, v 3, v 4, v 5, v 6, .ref h, v 8, v 9, v 10])), (h, .inr (0, [.int 0, g 1, g 2, g 3, g 4, g 5, g 6, g 7, g 8, g 9, g 10, g 11, g 12, g 13, g 14]))] sz) := by
  refine Met.ofW (cc := cX7_alive) (maxL := 1) (ret := (some .int)) (by decide) rfl ?_
  intro p e s m args below meth c s₁ B hml hv
  obtain ⟨rfl, hsz, hP, hK, hD0, hE⟩ := hv
  have hx := B.exec
  have hb := B.bytes
  have hr := B.returns
  have hts := atoms_spec (ws := wsX7_alive) B.pre
  have hown : s.vm.findClass RX7 = some m.cls := findClass_of_methodNamed B.named
  have hlocks := B.notSynchronized
  subst hsz
  have hD := hD0.self (sz := s.heap.size)
  generalize hAe : va_A [(x, .inr (7, [v 0, v 1, v 2, v 3, v 4, v 5, v 6, .ref h, v 8, v 9, v 10])), (h, .inr (0, [.int 0, g 1, g 2, g 3, g 4, g 5, g 6, g 7, g 8, g 9, g 10, g 11, g 12, g 13, g 14]))] s.heap.size = A at hD ⊢
  have hA : ∀ q : Nat, s.heap.size ≤ q → A q := fun q h => by rw [← hAe]; exact Or.inr h
  have hS : va_S A s.heap s.heap [] := va_S.rf
  have hP : va_P (dC, dI) vwCl [(x, .inr (7, [v 0, v 1, v 2, v 3, v 4, v 5, v 6, .ref h, v 8, v 9, v 10])), (h, .inr (0, [.int 0, g 1, g 2, g 3, g 4, g 5, g 6, g 7, g 8, g 9, g 10, g 11, g 12, g 13, g 14]))] s.heap := hP
  have hl := lv_entry ([.ref x]) (n := 1) (Nat.le_of_ble_eq_true rfl)
  rw [lg_entry_eq]
  generalize (lg_sl ([.ref x]) ++ List.replicate (1 - (lg_sl ([.ref x])).length) Slot.unset).toArray = ls at hl ⊢
  have hl : lv_has ls 1 [(0, .ref x)] := hl
  refine lv_aload_n hx hb dX7_alive_0 rfl (lv_at hl 0 rfl) ?_
  have hPc := hP.sub (ws' := [(x, .inr (7, [v 0, v 1, v 2, v 3, v 4, v 5, v 6, .ref h, v 8, v 9, v 10])), (h, .inr (0, [.int 0, g 1, g 2, g 3, g 4, g 5, g 6, g 7, g 8, g 9, g 10, g 11, g 12, g 13, g 14]))]) [0, 1] rfl
  have hDc := hD.sub (ws' := [(x, .inr (7, [v 0, v 1, v 2, v 3, v 4, v 5, v 6, .ref h, v 8, v 9, v 10])), (h, .inr (0, [.int 0, g 1, g 2, g 3, g 4, g 5, g 6, g 7, g 8, g 9, g 10, g 11, g 12, g 13, g 14]))]) [0, 1] (by decide) rfl
  have hKc := hK.sub (tys' := []) [] rfl
  have hFc := va_free (wc := [(x, .inr (7, [v 0, v 1, v 2, v 3, v 4, v 5, v 6, .ref h, v 8, v 9, v 10])), (h, .inr (0, [.int 0, g 1, g 2, g 3, g 4, g 5, g 6, g 7, g 8, g 9, g 10, g 11, g 12, g 13, g 14]))]) hD hS hA [0, 1] rfl
  refine va_calli (va_runV (As := []) (rest := []) ⟨hx, hb, hml, hown, hts⟩ (c_X7_hasGallery l dC dI s.heap.size x v h g ) (cwV 0 hts gX7_alive_X7_hasGallery rfl rfl rfl (by decide +kernel) ⟨Nat.le_of_ble_eq_true rfl, Nat.le_of_ble_eq_true rfl⟩) ⟨ax_blind (fun _ _ _ _ _ => trivial), va_recv hKc hPc (ci := 7) (q0 := 0) rfl rfl, ax_pre hPc hKc hDc (fun _ _ => trivial)⟩ rfl rfl hl.1 rfl (lv_room (Nat.le_of_ble_eq_true rfl)) dX7_alive_1 ⟨Nat.le_of_ble_eq_true rfl, Nat.le_of_ble_eq_true rfl⟩) hS (fun q _ h => hFc q h) hFc (fun r_1 u t H1 locs ht hvm hw hB hz1 hk1 hS => ?_)
  obtain ⟨hP1, hK1, hD1⟩ := hB
  rw [ht] at hP1
  have hK1 := va_K.moved hvm.symm hK1
  obtain ⟨hP, hD⟩ := va_join (wr := []) (w1 := [(x, .inr (7, [v 0, v 1, v 2, v 3, v 4, v 5, v 6, .ref h, v 8, v 9, v 10])), (h, .inr (0, [.int 0, g 1, g 2, g 3, g 4, g 5, g 6, g 7, g 8, g 9, g 10, g 11, g 12, g 13, g 14]))]) hP hD [0, 1] [] rfl rfl (by decide) (by decide) hk1 hFc hP1 hD1
  have hK := (hK.sub (tys' := []) [] rfl).app hK1
  generalize H1 = H at hP hS ⊢
  have hP : va_P (dC, dI) vwCl [(x, .inr (7, [v 0, v 1, v 2, v 3, v 4, v 5, v 6, .ref h, v 8, v 9, v 10])), (h, .inr (0, [.int 0, g 1, g 2, g 3, g 4, g 5, g 6, g 7, g 8, g 9, g 10, g 11, g 12, g 13, g 14]))] H := hP
  have hD : va_D A [(x, .inr (7, [v 0, v 1, v 2, v 3, v 4, v 5, v 6, .ref h, v 8, v 9, v 10])), (h, .inr (0, [.int 0, g 1, g 2, g 3, g 4, g 5, g 6, g 7, g 8, g 9, g 10, g 11, g 12, g 13, g 14]))] := hD
  have hK : va_K (dC, dI) vwCl [] s := hK
  have hw : r_1 = 0 := hw
  subst hw
  refine lv_if_ne (tgt := 13) hx hb dX7_alive_4 (by decide) (fun c_2 => absurd (by decide +kernel) c_2) (fun _ => ?_)
  refine lv_aload_n hx hb dX7_alive_7 rfl (lv_at hl 0 rfl) ?_
  refine lv_iconst (v := 1) hx hb dX7_alive_8 (by decide) ?_
  have hPc := hP.sub (ws' := [(x, .inr (7, [v 0, v 1, v 2, v 3, v 4, v 5, v 6, .ref h, v 8, v 9, v 10]))]) [0] rfl
  have hDc := hD.sub (ws' := [(x, .inr (7, [v 0, v 1, v 2, v 3, v 4, v 5, v 6, .ref h, v 8, v 9, v 10]))]) [0] (by decide) rfl
  have hKc := hK.sub (tys' := []) [] rfl
  have hFc := va_free (wc := [(x, .inr (7, [v 0, v 1, v 2, v 3, v 4, v 5, v 6, .ref h, v 8, v 9, v 10]))]) hD hS hA [0] rfl
  refine va_calli (va_runV (As := [.int 1]) (rest := []) ⟨hx, hb, hml, hown, hts⟩ (c_X7_refused l dC dI H.size x 1 (fun i9 => ([v 0, v 1, v 2, v 3, v 4, v 5, v 6, .ref h, v 8, v 9, v 10] : List Value).getD i9 .null) ) (cwV 1 hts gX7_alive_X7_refused rfl rfl rfl (by decide +kernel) ⟨Nat.le_of_ble_eq_true rfl, Nat.le_of_ble_eq_true rfl⟩) ⟨ax_blind (fun _ _ _ _ _ => trivial), va_recv hKc hPc (ci := 7) (q0 := 0) rfl rfl, ax_pre hPc hKc hDc (fun _ _ => trivial)⟩ rfl rfl hl.1 rfl (lv_room (Nat.le_of_ble_eq_true rfl)) dX7_alive_9 ⟨Nat.le_of_ble_eq_true rfl, Nat.le_of_ble_eq_true rfl⟩) hS (fun q _ h => hFc q h) hFc (fun r_3 u t H1 locs ht hvm hw hB hz1 hk1 hS => ?_)
  obtain ⟨hP1, hK1, hD1⟩ := hB
  rw [ht] at hP1
  have hK1 := va_K.moved hvm.symm hK1
  obtain ⟨hP, hD⟩ := va_join (wr := [(h, .inr (0, [.int 0, g 1, g 2, g 3, g 4, g 5, g 6, g 7, g 8, g 9, g 10, g 11, g 12, g 13, g 14]))]) (w1 := []) hP hD [0] [1] rfl rfl (by decide) (by decide) hk1 hFc hP1 hD1
  have hK := (hK.sub (tys' := []) [] rfl).app hK1
  generalize H1 = H at hP hS ⊢
  have hP : va_P (dC, dI) vwCl [(h, .inr (0, [.int 0, g 1, g 2, g 3, g 4, g 5, g 6, g 7, g 8, g 9, g 10, g 11, g 12, g 13, g 14]))] H := hP
  have hD : va_D A [(h, .inr (0, [.int 0, g 1, g 2, g 3, g 4, g 5, g 6, g 7, g 8, g 9, g 10, g 11, g 12, g 13, g 14]))] := hD
  have hK : va_K (dC, dI) vwCl [] s := hK
  have hw : r_3 = (-1) := hw
  subst hw
  have hP9 := hP.sub (ws' := []) [] rfl
  have hD9 := hD.sub (ws' := []) [] (by decide) rfl
  have hK9 := hK.sub (tys' := []) [] rfl
  exact W.iret (v := (-1)) hx hb hr (fun t ht hW => ⟨⟨(-1), (), rfl, rfl, by rw [ht]; exact hP9, va_K.moved hW.alike hK9, hD9⟩, hS.F ht⟩) hS.2.2 dX7_alive_12

set_option maxHeartbeats 4000000 in
set_option maxRecDepth 100000 in
theorem c_X7_left (l : Launch) (dC : Nat → ClassId) (dI : Nat → Nat → Nat) (sz : Nat) (x : Nat) (v : Nat → Value) (h : Nat) (g : Nat → Value) : Met l yX7_left wsX7_left ({ frames := 1, cells := 0, slots := 0, locals := 21 }) (va_Pc [.ref x] (ax_C dC dI sz [(x, .inr (7, [v 0, v 1, v 2, v 3, v 4, v 5, v 6, .ref h, v 8, v 9, v 10])), (h, .inr (0, [.int 0, g 1, g 2, g 3, g 4, g 5, g 6, g 7, g 8, g 9, g 10, g 11, g 12, g 13, g 14]))] [] (fun _ => True))) (va_Qi (fun (r : Int32) (_ : Unit) => r = -1) (fun (_ : Unit) (t : State) => ax_B dC dI (va_A [(x, .inr (7, [v 0, v 1, v 2, v 3, v 4, v 5, v 6, .ref h, v 8, v 9, v 10])), (h, .inr (0, [.int 0, g 1, g 2, g 3, g 4, g 5, g 6, g 7, g 8, g 9, g 10, g 11, g 12, g 13, g 14]))] sz) [] [] t) (va_A [(x, .inr (7, [v 0, v 1, v 2, v 3, v 4, v 5, v 6, .ref h, v 8, v 9, v 10])), (h, .inr (0, [.int 0, g 1, g 2, g 3, g 4, g 5, g 6, g 7, g 8, g 9, g 10, g 11, g 12, g 13, g 14]))] sz)) 0 0 (va_A [(x, .inr (7, [v 0, v 1, v 2, v 3, v 4, v 5, v 6, .ref h, v 8, v 9, v 10])), (h, .inr (0, [.int 0, g 1, g 2, g 3, g 4, g 5, g 6, g 7, g 8, g 9, g 10, g 11, g 12, g 13, g 14]))] sz) := by
  refine Met.ofW (cc := cX7_left) (maxL := 1) (ret := (some .int)) (by decide) rfl ?_
  intro p e s m args below meth c s₁ B hml hv
  obtain ⟨rfl, hsz, hP, hK, hD0, hE⟩ := hv
  have hx := B.exec
  have hb := B.bytes
  have hr := B.returns
  have hts := atoms_spec (ws := wsX7_left) B.pre
  have hown : s.vm.findClass RX7 = some m.cls := findClass_of_methodNamed B.named
  have hlocks := B.notSynchronized
  subst hsz
  have hD := hD0.self (sz := s.heap.size)
  generalize hAe : va_A [(x, .inr (7, [v 0, v 1, v 2, v 3, v 4, v 5, v 6, .ref h, v 8, v 9, v 10])), (h, .inr (0, [.int 0, g 1, g 2, g 3, g 4, g 5, g 6, g 7, g 8, g 9, g 10, g 11, g 12, g 13, g 14]))] s.heap.size = A at hD ⊢
  have hA : ∀ q : Nat, s.heap.size ≤ q → A q := fun q h => by rw [← hAe]; exact Or.inr h
  have hS : va_S A s.heap s.heap [] := va_S.rf
  have hP : va_P (dC, dI) vwCl [(x, .inr (7, [v 0, v 1, v 2, v 3, v 4, v 5, v 6, .ref h, v 8, v 9, v 10])), (h, .inr (0, [.int 0, g 1, g 2, g 3, g 4, g 5, g 6, g 7, g 8, g 9, g 10, g 11, g 12, g 13, g 14]))] s.heap := hP
  have hl := lv_entry ([.ref x]) (n := 1) (Nat.le_of_ble_eq_true rfl)
  rw [lg_entry_eq]
  generalize (lg_sl ([.ref x]) ++ List.replicate (1 - (lg_sl ([.ref x])).length) Slot.unset).toArray = ls at hl ⊢
  have hl : lv_has ls 1 [(0, .ref x)] := hl
  refine lv_aload_n hx hb dX7_left_0 rfl (lv_at hl 0 rfl) ?_
  have hPc := hP.sub (ws' := [(x, .inr (7, [v 0, v 1, v 2, v 3, v 4, v 5, v 6, .ref h, v 8, v 9, v 10])), (h, .inr (0, [.int 0, g 1, g 2, g 3, g 4, g 5, g 6, g 7, g 8, g 9, g 10, g 11, g 12, g 13, g 14]))]) [0, 1] rfl
  have hDc := hD.sub (ws' := [(x, .inr (7, [v 0, v 1, v 2, v 3, v 4, v 5, v 6, .ref h, v 8, v 9, v 10])), (h, .inr (0, [.int 0, g 1, g 2, g 3, g 4, g 5, g 6, g 7, g 8, g 9, g 10, g 11, g 12, g 13, g 14]))]) [0, 1] (by decide) rfl
  have hKc := hK.sub (tys' := []) [] rfl
  have hFc := va_free (wc := [(x, .inr (7, [v 0, v 1, v 2, v 3, v 4, v 5, v 6, .ref h, v 8, v 9, v 10])), (h, .inr (0, [.int 0, g 1, g 2, g 3, g 4, g 5, g 6, g 7, g 8, g 9, g 10, g 11, g 12, g 13, g 14]))]) hD hS hA [0, 1] rfl
  refine va_calli (va_runV (As := []) (rest := []) ⟨hx, hb, hml, hown, hts⟩ (c_X7_hasGallery l dC dI s.heap.size x v h g ) (cwV 0 hts gX7_left_X7_hasGallery rfl rfl rfl (by decide +kernel) ⟨Nat.le_of_ble_eq_true rfl, Nat.le_of_ble_eq_true rfl⟩) ⟨ax_blind (fun _ _ _ _ _ => trivial), va_recv hKc hPc (ci := 7) (q0 := 0) rfl rfl, ax_pre hPc hKc hDc (fun _ _ => trivial)⟩ rfl rfl hl.1 rfl (lv_room (Nat.le_of_ble_eq_true rfl)) dX7_left_1 ⟨Nat.le_of_ble_eq_true rfl, Nat.le_of_ble_eq_true rfl⟩) hS (fun q _ h => hFc q h) hFc (fun r_1 u t H1 locs ht hvm hw hB hz1 hk1 hS => ?_)
  obtain ⟨hP1, hK1, hD1⟩ := hB
  rw [ht] at hP1
  have hK1 := va_K.moved hvm.symm hK1
  obtain ⟨hP, hD⟩ := va_join (wr := []) (w1 := [(x, .inr (7, [v 0, v 1, v 2, v 3, v 4, v 5, v 6, .ref h, v 8, v 9, v 10])), (h, .inr (0, [.int 0, g 1, g 2, g 3, g 4, g 5, g 6, g 7, g 8, g 9, g 10, g 11, g 12, g 13, g 14]))]) hP hD [0, 1] [] rfl rfl (by decide) (by decide) hk1 hFc hP1 hD1
  have hK := (hK.sub (tys' := []) [] rfl).app hK1
  generalize H1 = H at hP hS ⊢
  have hP : va_P (dC, dI) vwCl [(x, .inr (7, [v 0, v 1, v 2, v 3, v 4, v 5, v 6, .ref h, v 8, v 9, v 10])), (h, .inr (0, [.int 0, g 1, g 2, g 3, g 4, g 5, g 6, g 7, g 8, g 9, g 10, g 11, g 12, g 13, g 14]))] H := hP
  have hD : va_D A [(x, .inr (7, [v 0, v 1, v 2, v 3, v 4, v 5, v 6, .ref h, v 8, v 9, v 10])), (h, .inr (0, [.int 0, g 1, g 2, g 3, g 4, g 5, g 6, g 7, g 8, g 9, g 10, g 11, g 12, g 13, g 14]))] := hD
  have hK : va_K (dC, dI) vwCl [] s := hK
  have hw : r_1 = 0 := hw
  subst hw
  refine lv_if_ne (tgt := 13) hx hb dX7_left_4 (by decide) (fun c_2 => absurd (by decide +kernel) c_2) (fun _ => ?_)
  refine lv_aload_n hx hb dX7_left_7 rfl (lv_at hl 0 rfl) ?_
  refine lv_iconst (v := 1) hx hb dX7_left_8 (by decide) ?_
  have hPc := hP.sub (ws' := [(x, .inr (7, [v 0, v 1, v 2, v 3, v 4, v 5, v 6, .ref h, v 8, v 9, v 10]))]) [0] rfl
  have hDc := hD.sub (ws' := [(x, .inr (7, [v 0, v 1, v 2, v 3, v 4, v 5, v 6, .ref h, v 8, v 9, v 10]))]) [0] (by decide) rfl
  have hKc := hK.sub (tys' := []) [] rfl
  have hFc := va_free (wc := [(x, .inr (7, [v 0, v 1, v 2, v 3, v 4, v 5, v 6, .ref h, v 8, v 9, v 10]))]) hD hS hA [0] rfl
  refine va_calli (va_runV (As := [.int 1]) (rest := []) ⟨hx, hb, hml, hown, hts⟩ (c_X7_refused l dC dI H.size x 1 (fun i9 => ([v 0, v 1, v 2, v 3, v 4, v 5, v 6, .ref h, v 8, v 9, v 10] : List Value).getD i9 .null) ) (cwV 1 hts gX7_left_X7_refused rfl rfl rfl (by decide +kernel) ⟨Nat.le_of_ble_eq_true rfl, Nat.le_of_ble_eq_true rfl⟩) ⟨ax_blind (fun _ _ _ _ _ => trivial), va_recv hKc hPc (ci := 7) (q0 := 0) rfl rfl, ax_pre hPc hKc hDc (fun _ _ => trivial)⟩ rfl rfl hl.1 rfl (lv_room (Nat.le_of_ble_eq_true rfl)) dX7_left_9 ⟨Nat.le_of_ble_eq_true rfl, Nat.le_of_ble_eq_true rfl⟩) hS (fun q _ h => hFc q h) hFc (fun r_3 u t H1 locs ht hvm hw hB hz1 hk1 hS => ?_)
  obtain ⟨hP1, hK1, hD1⟩ := hB
  rw [ht] at hP1
  have hK1 := va_K.moved hvm.symm hK1
  obtain ⟨hP, hD⟩ := va_join (wr := [(h, .inr (0, [.int 0, g 1, g 2, g 3, g 4, g 5, g 6, g 7, g 8, g 9, g 10, g 11, g 12, g 13, g 14]))]) (w1 := []) hP hD [0] [1] rfl rfl (by decide) (by decide) hk1 hFc hP1 hD1
  have hK := (hK.sub (tys' := []) [] rfl).app hK1
  generalize H1 = H at hP hS ⊢
  have hP : va_P (dC, dI) vwCl [(h, .inr (0, [.int 0, g 1, g 2, g 3, g 4, g 5, g 6, g 7, g 8, g 9, g 10, g 11, g 12, g 13, g 14]))] H := hP
  have hD : va_D A [(h, .inr (0, [.int 0, g 1, g 2, g 3, g 4, g 5, g 6, g 7, g 8, g 9, g 10, g 11, g 12, g 13, g 14]))] := hD
  have hK : va_K (dC, dI) vwCl [] s := hK
  have hw : r_3 = (-1) := hw
  subst hw
  have hP9 := hP.sub (ws' := []) [] rfl
  have hD9 := hD.sub (ws' := []) [] (by decide) rfl
  have hK9 := hK.sub (tys' := []) [] rfl
  exact W.iret (v := (-1)) hx hb hr (fun t ht hW => ⟨⟨(-1), (), rfl, rfl, by rw [ht]; exact hP9, va_K.moved hW.alike hK9, hD9⟩, hS.F ht⟩) hS.2.2 dX7_left_12

set_option maxHeartbeats 4000000 in
set_option maxRecDepth 100000 in
theorem c_X7_caught (l : Launch) (dC : Nat → ClassId) (dI : Nat → Nat → Nat) (sz : Nat) (x : Nat) (v : Nat → Value) (h : Nat) (g : Nat → Value) : Met l yX7_caught wsX7_caught ({ frames := 1, cells := 0, slots := 0, locals := 21 }) (va_Pc [.ref x] (ax_C dC dI sz [(x, .inr (7, [v 0, v 1, v 2, v 3, v 4, v 5, v 6, .ref h, v 8, v 9, v 10])), (h, .inr (0, [.int 0, g 1, g 2, g 3, g 4, g 5, g 6, g 7, g 8, g 9, g 10, g 11, g 12, g 13, g 14]))] [] (fun _ => True))) (va_Qi (fun (r : Int32) (_ : Unit) => r = -1) (fun (_ : Unit) (t : State) => ax_B dC dI (va_A [(x, .inr (7, [v 0, v 1, v 2, v 3, v 4, v 5, v 6, .ref h, v 8, v 9, v 10])), (h, .inr (0, [.int 0, g 1, g 2, g 3, g 4, g 5, g 6, g 7, g 8, g 9, g 10, g 11, g 12, g 13, g 14]))] sz) [] [] t) (va_A [(x, .inr (7, [v 0, v 1, v 2, v 3, v 4, v 5, v 6, .ref h, v 8, v 9, v 10])), (h, .inr (0, [.int 0, g 1, g 2, g 3, g 4, g 5, g 6, g 7, g 8, g 9, g 10, g 11, g 12, g 13, g 14]))] sz)) 0 0 (va_A [(x, .inr (7, [v 0, v 1, v 2, v 3, v 4, v 5, v 6, .ref h, v 8, v 9, v 10])), (h, .inr (0, [.int 0, g 1, g 2, g 3, g 4, g 5, g 6, g 7, g 8, g 9, g 10, g 11, g 12, g 13, g 14]))] sz) := by
  refine Met.ofW (cc := cX7_caught) (maxL := 1) (ret := (some .int)) (by decide) rfl ?_
  intro p e s m args below meth c s₁ B hml hv
  obtain ⟨rfl, hsz, hP, hK, hD0, hE⟩ := hv
  have hx := B.exec
  have hb := B.bytes
  have hr := B.returns
  have hts := atoms_spec (ws := wsX7_caught) B.pre
  have hown : s.vm.findClass RX7 = some m.cls := findClass_of_methodNamed B.named
  have hlocks := B.notSynchronized
  subst hsz
  have hD := hD0.self (sz := s.heap.size)
  generalize hAe : va_A [(x, .inr (7, [v 0, v 1, v 2, v 3, v 4, v 5, v 6, .ref h, v 8, v 9, v 10])), (h, .inr (0, [.int 0, g 1, g 2, g 3, g 4, g 5, g 6, g 7, g 8, g 9, g 10, g 11, g 12, g 13, g 14]))] s.heap.size = A at hD ⊢
  have hA : ∀ q : Nat, s.heap.size ≤ q → A q := fun q h => by rw [← hAe]; exact Or.inr h
  have hS : va_S A s.heap s.heap [] := va_S.rf
  have hP : va_P (dC, dI) vwCl [(x, .inr (7, [v 0, v 1, v 2, v 3, v 4, v 5, v 6, .ref h, v 8, v 9, v 10])), (h, .inr (0, [.int 0, g 1, g 2, g 3, g 4, g 5, g 6, g 7, g 8, g 9, g 10, g 11, g 12, g 13, g 14]))] s.heap := hP
  have hl := lv_entry ([.ref x]) (n := 1) (Nat.le_of_ble_eq_true rfl)
  rw [lg_entry_eq]
  generalize (lg_sl ([.ref x]) ++ List.replicate (1 - (lg_sl ([.ref x])).length) Slot.unset).toArray = ls at hl ⊢
  have hl : lv_has ls 1 [(0, .ref x)] := hl
  refine lv_aload_n hx hb dX7_caught_0 rfl (lv_at hl 0 rfl) ?_
  have hPc := hP.sub (ws' := [(x, .inr (7, [v 0, v 1, v 2, v 3, v 4, v 5, v 6, .ref h, v 8, v 9, v 10])), (h, .inr (0, [.int 0, g 1, g 2, g 3, g 4, g 5, g 6, g 7, g 8, g 9, g 10, g 11, g 12, g 13, g 14]))]) [0, 1] rfl
  have hDc := hD.sub (ws' := [(x, .inr (7, [v 0, v 1, v 2, v 3, v 4, v 5, v 6, .ref h, v 8, v 9, v 10])), (h, .inr (0, [.int 0, g 1, g 2, g 3, g 4, g 5, g 6, g 7, g 8, g 9, g 10, g 11, g 12, g 13, g 14]))]) [0, 1] (by decide) rfl
  have hKc := hK.sub (tys' := []) [] rfl
  have hFc := va_free (wc := [(x, .inr (7, [v 0, v 1, v 2, v 3, v 4, v 5, v 6, .ref h, v 8, v 9, v 10])), (h, .inr (0, [.int 0, g 1, g 2, g 3, g 4, g 5, g 6, g 7, g 8, g 9, g 10, g 11, g 12, g 13, g 14]))]) hD hS hA [0, 1] rfl
  refine va_calli (va_runV (As := []) (rest := []) ⟨hx, hb, hml, hown, hts⟩ (c_X7_hasGallery l dC dI s.heap.size x v h g ) (cwV 0 hts gX7_caught_X7_hasGallery rfl rfl rfl (by decide +kernel) ⟨Nat.le_of_ble_eq_true rfl, Nat.le_of_ble_eq_true rfl⟩) ⟨ax_blind (fun _ _ _ _ _ => trivial), va_recv hKc hPc (ci := 7) (q0 := 0) rfl rfl, ax_pre hPc hKc hDc (fun _ _ => trivial)⟩ rfl rfl hl.1 rfl (lv_room (Nat.le_of_ble_eq_true rfl)) dX7_caught_1 ⟨Nat.le_of_ble_eq_true rfl, Nat.le_of_ble_eq_true rfl⟩) hS (fun q _ h => hFc q h) hFc (fun r_1 u t H1 locs ht hvm hw hB hz1 hk1 hS => ?_)
  obtain ⟨hP1, hK1, hD1⟩ := hB
  rw [ht] at hP1
  have hK1 := va_K.moved hvm.symm hK1
  obtain ⟨hP, hD⟩ := va_join (wr := []) (w1 := [(x, .inr (7, [v 0, v 1, v 2, v 3, v 4, v 5, v 6, .ref h, v 8, v 9, v 10])), (h, .inr (0, [.int 0, g 1, g 2, g 3, g 4, g 5, g 6, g 7, g 8, g 9, g 10, g 11, g 12, g 13, g 14]))]) hP hD [0, 1] [] rfl rfl (by decide) (by decide) hk1 hFc hP1 hD1
  have hK := (hK.sub (tys' := []) [] rfl).app hK1
  generalize H1 = H at hP hS ⊢
  have hP : va_P (dC, dI) vwCl [(x, .inr (7, [v 0, v 1, v 2, v 3, v 4, v 5, v 6, .ref h, v 8, v 9, v 10])), (h, .inr (0, [.int 0, g 1, g 2, g 3, g 4, g 5, g 6, g 7, g 8, g 9, g 10, g 11, g 12, g 13, g 14]))] H := hP
  have hD : va_D A [(x, .inr (7, [v 0, v 1, v 2, v 3, v 4, v 5, v 6, .ref h, v 8, v 9, v 10])), (h, .inr (0, [.int 0, g 1, g 2, g 3, g 4, g 5, g 6, g 7, g 8, g 9, g 10, g 11, g 12, g 13, g 14]))] := hD
  have hK : va_K (dC, dI) vwCl [] s := hK
  have hw : r_1 = 0 := hw
  subst hw
  refine lv_if_ne (tgt := 13) hx hb dX7_caught_4 (by decide) (fun c_2 => absurd (by decide +kernel) c_2) (fun _ => ?_)
  refine lv_aload_n hx hb dX7_caught_7 rfl (lv_at hl 0 rfl) ?_
  refine lv_iconst (v := 1) hx hb dX7_caught_8 (by decide) ?_
  have hPc := hP.sub (ws' := [(x, .inr (7, [v 0, v 1, v 2, v 3, v 4, v 5, v 6, .ref h, v 8, v 9, v 10]))]) [0] rfl
  have hDc := hD.sub (ws' := [(x, .inr (7, [v 0, v 1, v 2, v 3, v 4, v 5, v 6, .ref h, v 8, v 9, v 10]))]) [0] (by decide) rfl
  have hKc := hK.sub (tys' := []) [] rfl
  have hFc := va_free (wc := [(x, .inr (7, [v 0, v 1, v 2, v 3, v 4, v 5, v 6, .ref h, v 8, v 9, v 10]))]) hD hS hA [0] rfl
  refine va_calli (va_runV (As := [.int 1]) (rest := []) ⟨hx, hb, hml, hown, hts⟩ (c_X7_refused l dC dI H.size x 1 (fun i9 => ([v 0, v 1, v 2, v 3, v 4, v 5, v 6, .ref h, v 8, v 9, v 10] : List Value).getD i9 .null) ) (cwV 1 hts gX7_caught_X7_refused rfl rfl rfl (by decide +kernel) ⟨Nat.le_of_ble_eq_true rfl, Nat.le_of_ble_eq_true rfl⟩) ⟨ax_blind (fun _ _ _ _ _ => trivial), va_recv hKc hPc (ci := 7) (q0 := 0) rfl rfl, ax_pre hPc hKc hDc (fun _ _ => trivial)⟩ rfl rfl hl.1 rfl (lv_room (Nat.le_of_ble_eq_true rfl)) dX7_caught_9 ⟨Nat.le_of_ble_eq_true rfl, Nat.le_of_ble_eq_true rfl⟩) hS (fun q _ h => hFc q h) hFc (fun r_3 u t H1 locs ht hvm hw hB hz1 hk1 hS => ?_)
  obtain ⟨hP1, hK1, hD1⟩ := hB
  rw [ht] at hP1
  have hK1 := va_K.moved hvm.symm hK1
  obtain ⟨hP, hD⟩ := va_join (wr := [(h, .inr (0, [.int 0, g 1, g 2, g 3, g 4, g 5, g 6, g 7, g 8, g 9, g 10, g 11, g 12, g 13, g 14]))]) (w1 := []) hP hD [0] [1] rfl rfl (by decide) (by decide) hk1 hFc hP1 hD1
  have hK := (hK.sub (tys' := []) [] rfl).app hK1
  generalize H1 = H at hP hS ⊢
  have hP : va_P (dC, dI) vwCl [(h, .inr (0, [.int 0, g 1, g 2, g 3, g 4, g 5, g 6, g 7, g 8, g 9, g 10, g 11, g 12, g 13, g 14]))] H := hP
  have hD : va_D A [(h, .inr (0, [.int 0, g 1, g 2, g 3, g 4, g 5, g 6, g 7, g 8, g 9, g 10, g 11, g 12, g 13, g 14]))] := hD
  have hK : va_K (dC, dI) vwCl [] s := hK
  have hw : r_3 = (-1) := hw
  subst hw
  have hP9 := hP.sub (ws' := []) [] rfl
  have hD9 := hD.sub (ws' := []) [] (by decide) rfl
  have hK9 := hK.sub (tys' := []) [] rfl
  exact W.iret (v := (-1)) hx hb hr (fun t ht hW => ⟨⟨(-1), (), rfl, rfl, by rw [ht]; exact hP9, va_K.moved hW.alike hK9, hD9⟩, hS.F ht⟩) hS.2.2 dX7_caught_12

set_option maxHeartbeats 4000000 in
set_option maxRecDepth 100000 in
theorem c_X7_turnOf (l : Launch) (dC : Nat → ClassId) (dI : Nat → Nat → Nat) (sz : Nat) (x : Nat) (a0 : Int32) (v : Nat → Value) (h : Nat) (g : Nat → Value) : Met l yX7_turnOf wsX7_turnOf ({ frames := 1, cells := 0, slots := 0, locals := 21 }) (va_Pc [.ref x, .int a0] (ax_C dC dI sz [(x, .inr (7, [v 0, v 1, v 2, v 3, v 4, v 5, v 6, .ref h, v 8, v 9, v 10])), (h, .inr (0, [.int 0, g 1, g 2, g 3, g 4, g 5, g 6, g 7, g 8, g 9, g 10, g 11, g 12, g 13, g 14]))] [] (fun _ => True))) (va_Qi (fun (r : Int32) (_ : Unit) => r = -1) (fun (_ : Unit) (t : State) => ax_B dC dI (va_A [(x, .inr (7, [v 0, v 1, v 2, v 3, v 4, v 5, v 6, .ref h, v 8, v 9, v 10])), (h, .inr (0, [.int 0, g 1, g 2, g 3, g 4, g 5, g 6, g 7, g 8, g 9, g 10, g 11, g 12, g 13, g 14]))] sz) [] [] t) (va_A [(x, .inr (7, [v 0, v 1, v 2, v 3, v 4, v 5, v 6, .ref h, v 8, v 9, v 10])), (h, .inr (0, [.int 0, g 1, g 2, g 3, g 4, g 5, g 6, g 7, g 8, g 9, g 10, g 11, g 12, g 13, g 14]))] sz)) 0 0 (va_A [(x, .inr (7, [v 0, v 1, v 2, v 3, v 4, v 5, v 6, .ref h, v 8, v 9, v 10])), (h, .inr (0, [.int 0, g 1, g 2, g 3, g 4, g 5, g 6, g 7, g 8, g 9, g 10, g 11, g 12, g 13, g 14]))] sz) := by
  refine Met.ofW (cc := cX7_turnOf) (maxL := 2) (ret := (some .int)) (by decide) rfl ?_
  intro p e s m args below meth c s₁ B hml hv
  obtain ⟨rfl, hsz, hP, hK, hD0, hE⟩ := hv
  have hx := B.exec
  have hb := B.bytes
  have hr := B.returns
  have hts := atoms_spec (ws := wsX7_turnOf) B.pre
  have hown : s.vm.findClass RX7 = some m.cls := findClass_of_methodNamed B.named
  have hlocks := B.notSynchronized
  subst hsz
  have hD := hD0.self (sz := s.heap.size)
  generalize hAe : va_A [(x, .inr (7, [v 0, v 1, v 2, v 3, v 4, v 5, v 6, .ref h, v 8, v 9, v 10])), (h, .inr (0, [.int 0, g 1, g 2, g 3, g 4, g 5, g 6, g 7, g 8, g 9, g 10, g 11, g 12, g 13, g 14]))] s.heap.size = A at hD ⊢
  have hA : ∀ q : Nat, s.heap.size ≤ q → A q := fun q h => by rw [← hAe]; exact Or.inr h
  have hS : va_S A s.heap s.heap [] := va_S.rf
  have hP : va_P (dC, dI) vwCl [(x, .inr (7, [v 0, v 1, v 2, v 3, v 4, v 5, v 6, .ref h, v 8, v 9, v 10])), (h, .inr (0, [.int 0, g 1, g 2, g 3, g 4, g 5, g 6, g 7, g 8, g 9, g 10, g 11, g 12, g 13, g 14]))] s.heap := hP
  have hl := lv_entry ([.ref x, .int a0]) (n := 2) (Nat.le_of_ble_eq_true rfl)
  rw [lg_entry_eq]
  generalize (lg_sl ([.ref x, .int a0]) ++ List.replicate (2 - (lg_sl ([.ref x, .int a0])).length) Slot.unset).toArray = ls at hl ⊢
  have hl : lv_has ls 2 [(0, .ref x), (1, .int a0)] := hl
  refine lv_aload_n hx hb dX7_turnOf_0 rfl (lv_at hl 0 rfl) ?_
  have hPc := hP.sub (ws' := [(x, .inr (7, [v 0, v 1, v 2, v 3, v 4, v 5, v 6, .ref h, v 8, v 9, v 10])), (h, .inr (0, [.int 0, g 1, g 2, g 3, g 4, g 5, g 6, g 7, g 8, g 9, g 10, g 11, g 12, g 13, g 14]))]) [0, 1] rfl
  have hDc := hD.sub (ws' := [(x, .inr (7, [v 0, v 1, v 2, v 3, v 4, v 5, v 6, .ref h, v 8, v 9, v 10])), (h, .inr (0, [.int 0, g 1, g 2, g 3, g 4, g 5, g 6, g 7, g 8, g 9, g 10, g 11, g 12, g 13, g 14]))]) [0, 1] (by decide) rfl
  have hKc := hK.sub (tys' := []) [] rfl
  have hFc := va_free (wc := [(x, .inr (7, [v 0, v 1, v 2, v 3, v 4, v 5, v 6, .ref h, v 8, v 9, v 10])), (h, .inr (0, [.int 0, g 1, g 2, g 3, g 4, g 5, g 6, g 7, g 8, g 9, g 10, g 11, g 12, g 13, g 14]))]) hD hS hA [0, 1] rfl
  refine va_calli (va_runV (As := []) (rest := []) ⟨hx, hb, hml, hown, hts⟩ (c_X7_hasGallery l dC dI s.heap.size x v h g ) (cwV 0 hts gX7_turnOf_X7_hasGallery rfl rfl rfl (by decide +kernel) ⟨Nat.le_of_ble_eq_true rfl, Nat.le_of_ble_eq_true rfl⟩) ⟨ax_blind (fun _ _ _ _ _ => trivial), va_recv hKc hPc (ci := 7) (q0 := 0) rfl rfl, ax_pre hPc hKc hDc (fun _ _ => trivial)⟩ rfl rfl hl.1 rfl (lv_room (Nat.le_of_ble_eq_true rfl)) dX7_turnOf_1 ⟨Nat.le_of_ble_eq_true rfl, Nat.le_of_ble_eq_true rfl⟩) hS (fun q _ h => hFc q h) hFc (fun r_1 u t H1 locs ht hvm hw hB hz1 hk1 hS => ?_)
  obtain ⟨hP1, hK1, hD1⟩ := hB
  rw [ht] at hP1
  have hK1 := va_K.moved hvm.symm hK1
  obtain ⟨hP, hD⟩ := va_join (wr := []) (w1 := [(x, .inr (7, [v 0, v 1, v 2, v 3, v 4, v 5, v 6, .ref h, v 8, v 9, v 10])), (h, .inr (0, [.int 0, g 1, g 2, g 3, g 4, g 5, g 6, g 7, g 8, g 9, g 10, g 11, g 12, g 13, g 14]))]) hP hD [0, 1] [] rfl rfl (by decide) (by decide) hk1 hFc hP1 hD1
  have hK := (hK.sub (tys' := []) [] rfl).app hK1
  generalize H1 = H at hP hS ⊢
  have hP : va_P (dC, dI) vwCl [(x, .inr (7, [v 0, v 1, v 2, v 3, v 4, v 5, v 6, .ref h, v 8, v 9, v 10])), (h, .inr (0, [.int 0, g 1, g 2, g 3, g 4, g 5, g 6, g 7, g 8, g 9, g 10, g 11, g 12, g 13, g 14]))] H := hP
  have hD : va_D A [(x, .inr (7, [v 0, v 1, v 2, v 3, v 4, v 5, v 6, .ref h, v 8, v 9, v 10])), (h, .inr (0, [.int 0, g 1, g 2, g 3, g 4, g 5, g 6, g 7, g 8, g 9, g 10, g 11, g 12, g 13, g 14]))] := hD
  have hK : va_K (dC, dI) vwCl [] s := hK
  have hw : r_1 = 0 := hw
  subst hw
  refine lv_if_ne (tgt := 13) hx hb dX7_turnOf_4 (by decide) (fun c_2 => absurd (by decide +kernel) c_2) (fun _ => ?_)
  refine lv_aload_n hx hb dX7_turnOf_7 rfl (lv_at hl 0 rfl) ?_
  refine lv_iconst (v := 1) hx hb dX7_turnOf_8 (by decide) ?_
  have hPc := hP.sub (ws' := [(x, .inr (7, [v 0, v 1, v 2, v 3, v 4, v 5, v 6, .ref h, v 8, v 9, v 10]))]) [0] rfl
  have hDc := hD.sub (ws' := [(x, .inr (7, [v 0, v 1, v 2, v 3, v 4, v 5, v 6, .ref h, v 8, v 9, v 10]))]) [0] (by decide) rfl
  have hKc := hK.sub (tys' := []) [] rfl
  have hFc := va_free (wc := [(x, .inr (7, [v 0, v 1, v 2, v 3, v 4, v 5, v 6, .ref h, v 8, v 9, v 10]))]) hD hS hA [0] rfl
  refine va_calli (va_runV (As := [.int 1]) (rest := []) ⟨hx, hb, hml, hown, hts⟩ (c_X7_refused l dC dI H.size x 1 (fun i9 => ([v 0, v 1, v 2, v 3, v 4, v 5, v 6, .ref h, v 8, v 9, v 10] : List Value).getD i9 .null) ) (cwV 1 hts gX7_turnOf_X7_refused rfl rfl rfl (by decide +kernel) ⟨Nat.le_of_ble_eq_true rfl, Nat.le_of_ble_eq_true rfl⟩) ⟨ax_blind (fun _ _ _ _ _ => trivial), va_recv hKc hPc (ci := 7) (q0 := 0) rfl rfl, ax_pre hPc hKc hDc (fun _ _ => trivial)⟩ rfl rfl hl.1 rfl (lv_room (Nat.le_of_ble_eq_true rfl)) dX7_turnOf_9 ⟨Nat.le_of_ble_eq_true rfl, Nat.le_of_ble_eq_true rfl⟩) hS (fun q _ h => hFc q h) hFc (fun r_3 u t H1 locs ht hvm hw hB hz1 hk1 hS => ?_)
  obtain ⟨hP1, hK1, hD1⟩ := hB
  rw [ht] at hP1
  have hK1 := va_K.moved hvm.symm hK1
  obtain ⟨hP, hD⟩ := va_join (wr := [(h, .inr (0, [.int 0, g 1, g 2, g 3, g 4, g 5, g 6, g 7, g 8, g 9, g 10, g 11, g 12, g 13, g 14]))]) (w1 := []) hP hD [0] [1] rfl rfl (by decide) (by decide) hk1 hFc hP1 hD1
  have hK := (hK.sub (tys' := []) [] rfl).app hK1
  generalize H1 = H at hP hS ⊢
  have hP : va_P (dC, dI) vwCl [(h, .inr (0, [.int 0, g 1, g 2, g 3, g 4, g 5, g 6, g 7, g 8, g 9, g 10, g 11, g 12, g 13, g 14]))] H := hP
  have hD : va_D A [(h, .inr (0, [.int 0, g 1, g 2, g 3, g 4, g 5, g 6, g 7, g 8, g 9, g 10, g 11, g 12, g 13, g 14]))] := hD
  have hK : va_K (dC, dI) vwCl [] s := hK
  have hw : r_3 = (-1) := hw
  subst hw
  have hP9 := hP.sub (ws' := []) [] rfl
  have hD9 := hD.sub (ws' := []) [] (by decide) rfl
  have hK9 := hK.sub (tys' := []) [] rfl
  exact W.iret (v := (-1)) hx hb hr (fun t ht hW => ⟨⟨(-1), (), rfl, rfl, by rw [ht]; exact hP9, va_K.moved hW.alike hK9, hD9⟩, hS.F ht⟩) hS.2.2 dX7_turnOf_12

set_option maxHeartbeats 4000000 in
set_option maxRecDepth 100000 in
theorem c_X7_turnIn (l : Launch) (dC : Nat → ClassId) (dI : Nat → Nat → Nat) (sz : Nat) (x : Nat) (a0 : Int32) (v : Nat → Value) (h : Nat) (g : Nat → Value) : Met l yX7_turnIn wsX7_turnIn ({ frames := 2, cells := 0, slots := 0, locals := 43 }) (va_Pc [.ref x, .int a0] (ax_C dC dI sz [(x, .inr (7, [v 0, v 1, v 2, v 3, v 4, v 5, v 6, .ref h, v 8, v 9, v 10])), (h, .inr (0, [.int 0, g 1, g 2, g 3, g 4, g 5, g 6, g 7, g 8, g 9, g 10, g 11, g 12, g 13, g 14]))] [] (fun _ => True))) (va_Qi (fun (r : Int32) (_ : Unit) => r = -1) (fun (_ : Unit) (t : State) => ax_B dC dI (va_A [(x, .inr (7, [v 0, v 1, v 2, v 3, v 4, v 5, v 6, .ref h, v 8, v 9, v 10])), (h, .inr (0, [.int 0, g 1, g 2, g 3, g 4, g 5, g 6, g 7, g 8, g 9, g 10, g 11, g 12, g 13, g 14]))] sz) [] [] t) (va_A [(x, .inr (7, [v 0, v 1, v 2, v 3, v 4, v 5, v 6, .ref h, v 8, v 9, v 10])), (h, .inr (0, [.int 0, g 1, g 2, g 3, g 4, g 5, g 6, g 7, g 8, g 9, g 10, g 11, g 12, g 13, g 14]))] sz)) 0 0 (va_A [(x, .inr (7, [v 0, v 1, v 2, v 3, v 4, v 5, v 6, .ref h, v 8, v 9, v 10])), (h, .inr (0, [.int 0, g 1, g 2, g 3, g 4, g 5, g 6, g 7, g 8, g 9, g 10, g 11, g 12, g 13, g 14]))] sz) := by
  refine Met.ofW (cc := cX7_turnIn) (maxL := 4) (ret := (some .int)) (by decide) rfl ?_
  intro p e s m args below meth c s₁ B hml hv
  obtain ⟨rfl, hsz, hP, hK, hD0, hE⟩ := hv
  have hx := B.exec
  have hb := B.bytes
  have hr := B.returns
  have hts := atoms_spec (ws := wsX7_turnIn) B.pre
  have hown : s.vm.findClass RX7 = some m.cls := findClass_of_methodNamed B.named
  have hlocks := B.notSynchronized
  subst hsz
  have hD := hD0.self (sz := s.heap.size)
  generalize hAe : va_A [(x, .inr (7, [v 0, v 1, v 2, v 3, v 4, v 5, v 6, .ref h, v 8, v 9, v 10])), (h, .inr (0, [.int 0, g 1, g 2, g 3, g 4, g 5, g 6, g 7, g 8, g 9, g 10, g 11, g 12, g 13, g 14]))] s.heap.size = A at hD ⊢
  have hA : ∀ q : Nat, s.heap.size ≤ q → A q := fun q h => by rw [← hAe]; exact Or.inr h
  have hS : va_S A s.heap s.heap [] := va_S.rf
  have hP : va_P (dC, dI) vwCl [(x, .inr (7, [v 0, v 1, v 2, v 3, v 4, v 5, v 6, .ref h, v 8, v 9, v 10])), (h, .inr (0, [.int 0, g 1, g 2, g 3, g 4, g 5, g 6, g 7, g 8, g 9, g 10, g 11, g 12, g 13, g 14]))] s.heap := hP
  have hl := lv_entry ([.ref x, .int a0]) (n := 4) (Nat.le_of_ble_eq_true rfl)
  rw [lg_entry_eq]
  generalize (lg_sl ([.ref x, .int a0]) ++ List.replicate (4 - (lg_sl ([.ref x, .int a0])).length) Slot.unset).toArray = ls at hl ⊢
  have hl : lv_has ls 4 [(0, .ref x), (1, .int a0)] := hl
  refine lv_aload_n hx hb dX7_turnIn_0 rfl (lv_at hl 0 rfl) ?_
  refine lv_iload_n hx hb dX7_turnIn_1 rfl (lv_at hl 1 rfl) ?_
  have hPc := hP.sub (ws' := [(x, .inr (7, [v 0, v 1, v 2, v 3, v 4, v 5, v 6, .ref h, v 8, v 9, v 10])), (h, .inr (0, [.int 0, g 1, g 2, g 3, g 4, g 5, g 6, g 7, g 8, g 9, g 10, g 11, g 12, g 13, g 14]))]) [0, 1] rfl
  have hDc := hD.sub (ws' := [(x, .inr (7, [v 0, v 1, v 2, v 3, v 4, v 5, v 6, .ref h, v 8, v 9, v 10])), (h, .inr (0, [.int 0, g 1, g 2, g 3, g 4, g 5, g 6, g 7, g 8, g 9, g 10, g 11, g 12, g 13, g 14]))]) [0, 1] (by decide) rfl
  have hKc := hK.sub (tys' := []) [] rfl
  have hFc := va_free (wc := [(x, .inr (7, [v 0, v 1, v 2, v 3, v 4, v 5, v 6, .ref h, v 8, v 9, v 10])), (h, .inr (0, [.int 0, g 1, g 2, g 3, g 4, g 5, g 6, g 7, g 8, g 9, g 10, g 11, g 12, g 13, g 14]))]) hD hS hA [0, 1] rfl
  refine va_calli (va_runV (As := [.int a0]) (rest := []) ⟨hx, hb, hml, hown, hts⟩ (c_X7_isFigure l dC dI s.heap.size x a0 v h g ) (cwV 1 hts gX7_turnIn_X7_isFigure rfl rfl rfl (by decide +kernel) ⟨Nat.le_of_ble_eq_true rfl, Nat.le_of_ble_eq_true rfl⟩) ⟨ax_blind (fun _ _ _ _ _ => trivial), va_recv hKc hPc (ci := 7) (q0 := 0) rfl rfl, ax_pre hPc hKc hDc (fun _ _ => trivial)⟩ rfl rfl hl.1 rfl (lv_room (Nat.le_of_ble_eq_true rfl)) dX7_turnIn_2 ⟨Nat.le_of_ble_eq_true rfl, Nat.le_of_ble_eq_true rfl⟩) hS (fun q _ h => hFc q h) hFc (fun r_1 u t H1 locs ht hvm hw hB hz1 hk1 hS => ?_)
  obtain ⟨hP1, hK1, hD1⟩ := hB
  rw [ht] at hP1
  have hK1 := va_K.moved hvm.symm hK1
  obtain ⟨hP, hD⟩ := va_join (wr := []) (w1 := [(x, .inr (7, [v 0, v 1, v 2, v 3, v 4, v 5, v 6, .ref h, v 8, v 9, v 10])), (h, .inr (0, [.int 0, g 1, g 2, g 3, g 4, g 5, g 6, g 7, g 8, g 9, g 10, g 11, g 12, g 13, g 14]))]) hP hD [0, 1] [] rfl rfl (by decide) (by decide) hk1 hFc hP1 hD1
  have hK := (hK.sub (tys' := []) [] rfl).app hK1
  generalize H1 = H at hP hS ⊢
  have hP : va_P (dC, dI) vwCl [(x, .inr (7, [v 0, v 1, v 2, v 3, v 4, v 5, v 6, .ref h, v 8, v 9, v 10])), (h, .inr (0, [.int 0, g 1, g 2, g 3, g 4, g 5, g 6, g 7, g 8, g 9, g 10, g 11, g 12, g 13, g 14]))] H := hP
  have hD : va_D A [(x, .inr (7, [v 0, v 1, v 2, v 3, v 4, v 5, v 6, .ref h, v 8, v 9, v 10])), (h, .inr (0, [.int 0, g 1, g 2, g 3, g 4, g 5, g 6, g 7, g 8, g 9, g 10, g 11, g 12, g 13, g 14]))] := hD
  have hK : va_K (dC, dI) vwCl [] s := hK
  have hw : r_1 = 0 := hw
  subst hw
  refine lv_if_ne (tgt := 14) hx hb dX7_turnIn_5 (by decide) (fun c_2 => absurd (by decide +kernel) c_2) (fun _ => ?_)
  refine lv_aload_n hx hb dX7_turnIn_8 rfl (lv_at hl 0 rfl) ?_
  refine lv_iconst (v := 1) hx hb dX7_turnIn_9 (by decide) ?_
  have hPc := hP.sub (ws' := [(x, .inr (7, [v 0, v 1, v 2, v 3, v 4, v 5, v 6, .ref h, v 8, v 9, v 10]))]) [0] rfl
  have hDc := hD.sub (ws' := [(x, .inr (7, [v 0, v 1, v 2, v 3, v 4, v 5, v 6, .ref h, v 8, v 9, v 10]))]) [0] (by decide) rfl
  have hKc := hK.sub (tys' := []) [] rfl
  have hFc := va_free (wc := [(x, .inr (7, [v 0, v 1, v 2, v 3, v 4, v 5, v 6, .ref h, v 8, v 9, v 10]))]) hD hS hA [0] rfl
  refine va_calli (va_runV (As := [.int 1]) (rest := []) ⟨hx, hb, hml, hown, hts⟩ (c_X7_refused l dC dI H.size x 1 (fun i9 => ([v 0, v 1, v 2, v 3, v 4, v 5, v 6, .ref h, v 8, v 9, v 10] : List Value).getD i9 .null) ) (cwV 1 hts gX7_turnIn_X7_refused rfl rfl rfl (by decide +kernel) ⟨Nat.le_of_ble_eq_true rfl, Nat.le_of_ble_eq_true rfl⟩) ⟨ax_blind (fun _ _ _ _ _ => trivial), va_recv hKc hPc (ci := 7) (q0 := 0) rfl rfl, ax_pre hPc hKc hDc (fun _ _ => trivial)⟩ rfl rfl hl.1 rfl (lv_room (Nat.le_of_ble_eq_true rfl)) dX7_turnIn_10 ⟨Nat.le_of_ble_eq_true rfl, Nat.le_of_ble_eq_true rfl⟩) hS (fun q _ h => hFc q h) hFc (fun r_3 u t H1 locs ht hvm hw hB hz1 hk1 hS => ?_)
  obtain ⟨hP1, hK1, hD1⟩ := hB
  rw [ht] at hP1
  have hK1 := va_K.moved hvm.symm hK1
  obtain ⟨hP, hD⟩ := va_join (wr := [(h, .inr (0, [.int 0, g 1, g 2, g 3, g 4, g 5, g 6, g 7, g 8, g 9, g 10, g 11, g 12, g 13, g 14]))]) (w1 := []) hP hD [0] [1] rfl rfl (by decide) (by decide) hk1 hFc hP1 hD1
  have hK := (hK.sub (tys' := []) [] rfl).app hK1
  generalize H1 = H at hP hS ⊢
  have hP : va_P (dC, dI) vwCl [(h, .inr (0, [.int 0, g 1, g 2, g 3, g 4, g 5, g 6, g 7, g 8, g 9, g 10, g 11, g 12, g 13, g 14]))] H := hP
  have hD : va_D A [(h, .inr (0, [.int 0, g 1, g 2, g 3, g 4, g 5, g 6, g 7, g 8, g 9, g 10, g 11, g 12, g 13, g 14]))] := hD
  have hK : va_K (dC, dI) vwCl [] s := hK
  have hw : r_3 = (-1) := hw
  subst hw
  have hP9 := hP.sub (ws' := []) [] rfl
  have hD9 := hD.sub (ws' := []) [] (by decide) rfl
  have hK9 := hK.sub (tys' := []) [] rfl
  exact W.iret (v := (-1)) hx hb hr (fun t ht hW => ⟨⟨(-1), (), rfl, rfl, by rw [ht]; exact hP9, va_K.moved hW.alike hK9, hD9⟩, hS.F ht⟩) hS.2.2 dX7_turnIn_13

set_option maxHeartbeats 4000000 in
set_option maxRecDepth 100000 in
theorem c_X7_settles (l : Launch) (dC : Nat → ClassId) (dI : Nat → Nat → Nat) (sz : Nat) (x : Nat) (v : Nat → Value) (h : Nat) (g : Nat → Value) : Met l yX7_settles wsX7_settles ({ frames := 1, cells := 0, slots := 0, locals := 21 }) (va_Pc [.ref x] (ax_C dC dI sz [(x, .inr (7, [v 0, v 1, v 2, v 3, v 4, v 5, v 6, .ref h, v 8, v 9, v 10])), (h, .inr (0, [.int 0, g 1, g 2, g 3, g 4, g 5, g 6, g 7, g 8, g 9, g 10, g 11, g 12, g 13, g 14]))] [] (fun _ => True))) (va_Qi (fun (r : Int32) (_ : Unit) => r = -1) (fun (_ : Unit) (t : State) => ax_B dC dI (va_A [(x, .inr (7, [v 0, v 1, v 2, v 3, v 4, v 5, v 6, .ref h, v 8, v 9, v 10])), (h, .inr (0, [.int 0, g 1, g 2, g 3, g 4, g 5, g 6, g 7, g 8, g 9, g 10, g 11, g 12, g 13, g 14]))] sz) [] [] t) (va_A [(x, .inr (7, [v 0, v 1, v 2, v 3, v 4, v 5, v 6, .ref h, v 8, v 9, v 10])), (h, .inr (0, [.int 0, g 1, g 2, g 3, g 4, g 5, g 6, g 7, g 8, g 9, g 10, g 11, g 12, g 13, g 14]))] sz)) 0 0 (va_A [(x, .inr (7, [v 0, v 1, v 2, v 3, v 4, v 5, v 6, .ref h, v 8, v 9, v 10])), (h, .inr (0, [.int 0, g 1, g 2, g 3, g 4, g 5, g 6, g 7, g 8, g 9, g 10, g 11, g 12, g 13, g 14]))] sz) := by
  refine Met.ofW (cc := cX7_settles) (maxL := 3) (ret := (some .int)) (by decide) rfl ?_
  intro p e s m args below meth c s₁ B hml hv
  obtain ⟨rfl, hsz, hP, hK, hD0, hE⟩ := hv
  have hx := B.exec
  have hb := B.bytes
  have hr := B.returns
  have hts := atoms_spec (ws := wsX7_settles) B.pre
  have hown : s.vm.findClass RX7 = some m.cls := findClass_of_methodNamed B.named
  have hlocks := B.notSynchronized
  subst hsz
  have hD := hD0.self (sz := s.heap.size)
  generalize hAe : va_A [(x, .inr (7, [v 0, v 1, v 2, v 3, v 4, v 5, v 6, .ref h, v 8, v 9, v 10])), (h, .inr (0, [.int 0, g 1, g 2, g 3, g 4, g 5, g 6, g 7, g 8, g 9, g 10, g 11, g 12, g 13, g 14]))] s.heap.size = A at hD ⊢
  have hA : ∀ q : Nat, s.heap.size ≤ q → A q := fun q h => by rw [← hAe]; exact Or.inr h
  have hS : va_S A s.heap s.heap [] := va_S.rf
  have hP : va_P (dC, dI) vwCl [(x, .inr (7, [v 0, v 1, v 2, v 3, v 4, v 5, v 6, .ref h, v 8, v 9, v 10])), (h, .inr (0, [.int 0, g 1, g 2, g 3, g 4, g 5, g 6, g 7, g 8, g 9, g 10, g 11, g 12, g 13, g 14]))] s.heap := hP
  have hl := lv_entry ([.ref x]) (n := 3) (Nat.le_of_ble_eq_true rfl)
  rw [lg_entry_eq]
  generalize (lg_sl ([.ref x]) ++ List.replicate (3 - (lg_sl ([.ref x])).length) Slot.unset).toArray = ls at hl ⊢
  have hl : lv_has ls 3 [(0, .ref x)] := hl
  refine lv_aload_n hx hb dX7_settles_0 rfl (lv_at hl 0 rfl) ?_
  have hPc := hP.sub (ws' := [(x, .inr (7, [v 0, v 1, v 2, v 3, v 4, v 5, v 6, .ref h, v 8, v 9, v 10])), (h, .inr (0, [.int 0, g 1, g 2, g 3, g 4, g 5, g 6, g 7, g 8, g 9, g 10, g 11, g 12, g 13, g 14]))]) [0, 1] rfl
  have hDc := hD.sub (ws' := [(x, .inr (7, [v 0, v 1, v 2, v 3, v 4, v 5, v 6, .ref h, v 8, v 9, v 10])), (h, .inr (0, [.int 0, g 1, g 2, g 3, g 4, g 5, g 6, g 7, g 8, g 9, g 10, g 11, g 12, g 13, g 14]))]) [0, 1] (by decide) rfl
  have hKc := hK.sub (tys' := []) [] rfl
  have hFc := va_free (wc := [(x, .inr (7, [v 0, v 1, v 2, v 3, v 4, v 5, v 6, .ref h, v 8, v 9, v 10])), (h, .inr (0, [.int 0, g 1, g 2, g 3, g 4, g 5, g 6, g 7, g 8, g 9, g 10, g 11, g 12, g 13, g 14]))]) hD hS hA [0, 1] rfl
  refine va_calli (va_runV (As := []) (rest := []) ⟨hx, hb, hml, hown, hts⟩ (c_X7_hasGallery l dC dI s.heap.size x v h g ) (cwV 0 hts gX7_settles_X7_hasGallery rfl rfl rfl (by decide +kernel) ⟨Nat.le_of_ble_eq_true rfl, Nat.le_of_ble_eq_true rfl⟩) ⟨ax_blind (fun _ _ _ _ _ => trivial), va_recv hKc hPc (ci := 7) (q0 := 0) rfl rfl, ax_pre hPc hKc hDc (fun _ _ => trivial)⟩ rfl rfl hl.1 rfl (lv_room (Nat.le_of_ble_eq_true rfl)) dX7_settles_1 ⟨Nat.le_of_ble_eq_true rfl, Nat.le_of_ble_eq_true rfl⟩) hS (fun q _ h => hFc q h) hFc (fun r_1 u t H1 locs ht hvm hw hB hz1 hk1 hS => ?_)
  obtain ⟨hP1, hK1, hD1⟩ := hB
  rw [ht] at hP1
  have hK1 := va_K.moved hvm.symm hK1
  obtain ⟨hP, hD⟩ := va_join (wr := []) (w1 := [(x, .inr (7, [v 0, v 1, v 2, v 3, v 4, v 5, v 6, .ref h, v 8, v 9, v 10])), (h, .inr (0, [.int 0, g 1, g 2, g 3, g 4, g 5, g 6, g 7, g 8, g 9, g 10, g 11, g 12, g 13, g 14]))]) hP hD [0, 1] [] rfl rfl (by decide) (by decide) hk1 hFc hP1 hD1
  have hK := (hK.sub (tys' := []) [] rfl).app hK1
  generalize H1 = H at hP hS ⊢
  have hP : va_P (dC, dI) vwCl [(x, .inr (7, [v 0, v 1, v 2, v 3, v 4, v 5, v 6, .ref h, v 8, v 9, v 10])), (h, .inr (0, [.int 0, g 1, g 2, g 3, g 4, g 5, g 6, g 7, g 8, g 9, g 10, g 11, g 12, g 13, g 14]))] H := hP
  have hD : va_D A [(x, .inr (7, [v 0, v 1, v 2, v 3, v 4, v 5, v 6, .ref h, v 8, v 9, v 10])), (h, .inr (0, [.int 0, g 1, g 2, g 3, g 4, g 5, g 6, g 7, g 8, g 9, g 10, g 11, g 12, g 13, g 14]))] := hD
  have hK : va_K (dC, dI) vwCl [] s := hK
  have hw : r_1 = 0 := hw
  subst hw
  refine lv_if_ne (tgt := 13) hx hb dX7_settles_4 (by decide) (fun c_2 => absurd (by decide +kernel) c_2) (fun _ => ?_)
  refine lv_aload_n hx hb dX7_settles_7 rfl (lv_at hl 0 rfl) ?_
  refine lv_iconst (v := 1) hx hb dX7_settles_8 (by decide) ?_
  have hPc := hP.sub (ws' := [(x, .inr (7, [v 0, v 1, v 2, v 3, v 4, v 5, v 6, .ref h, v 8, v 9, v 10]))]) [0] rfl
  have hDc := hD.sub (ws' := [(x, .inr (7, [v 0, v 1, v 2, v 3, v 4, v 5, v 6, .ref h, v 8, v 9, v 10]))]) [0] (by decide) rfl
  have hKc := hK.sub (tys' := []) [] rfl
  have hFc := va_free (wc := [(x, .inr (7, [v 0, v 1, v 2, v 3, v 4, v 5, v 6, .ref h, v 8, v 9, v 10]))]) hD hS hA [0] rfl
  refine va_calli (va_runV (As := [.int 1]) (rest := []) ⟨hx, hb, hml, hown, hts⟩ (c_X7_refused l dC dI H.size x 1 (fun i9 => ([v 0, v 1, v 2, v 3, v 4, v 5, v 6, .ref h, v 8, v 9, v 10] : List Value).getD i9 .null) ) (cwV 1 hts gX7_settles_X7_refused rfl rfl rfl (by decide +kernel) ⟨Nat.le_of_ble_eq_true rfl, Nat.le_of_ble_eq_true rfl⟩) ⟨ax_blind (fun _ _ _ _ _ => trivial), va_recv hKc hPc (ci := 7) (q0 := 0) rfl rfl, ax_pre hPc hKc hDc (fun _ _ => trivial)⟩ rfl rfl hl.1 rfl (lv_room (Nat.le_of_ble_eq_true rfl)) dX7_settles_9 ⟨Nat.le_of_ble_eq_true rfl, Nat.le_of_ble_eq_true rfl⟩) hS (fun q _ h => hFc q h) hFc (fun r_3 u t H1 locs ht hvm hw hB hz1 hk1 hS => ?_)
  obtain ⟨hP1, hK1, hD1⟩ := hB
  rw [ht] at hP1
  have hK1 := va_K.moved hvm.symm hK1
  obtain ⟨hP, hD⟩ := va_join (wr := [(h, .inr (0, [.int 0, g 1, g 2, g 3, g 4, g 5, g 6, g 7, g 8, g 9, g 10, g 11, g 12, g 13, g 14]))]) (w1 := []) hP hD [0] [1] rfl rfl (by decide) (by decide) hk1 hFc hP1 hD1
  have hK := (hK.sub (tys' := []) [] rfl).app hK1
  generalize H1 = H at hP hS ⊢
  have hP : va_P (dC, dI) vwCl [(h, .inr (0, [.int 0, g 1, g 2, g 3, g 4, g 5, g 6, g 7, g 8, g 9, g 10, g 11, g 12, g 13, g 14]))] H := hP
  have hD : va_D A [(h, .inr (0, [.int 0, g 1, g 2, g 3, g 4, g 5, g 6, g 7, g 8, g 9, g 10, g 11, g 12, g 13, g 14]))] := hD
  have hK : va_K (dC, dI) vwCl [] s := hK
  have hw : r_3 = (-1) := hw
  subst hw
  have hP9 := hP.sub (ws' := []) [] rfl
  have hD9 := hD.sub (ws' := []) [] (by decide) rfl
  have hK9 := hK.sub (tys' := []) [] rfl
  exact W.iret (v := (-1)) hx hb hr (fun t ht hW => ⟨⟨(-1), (), rfl, rfl, by rw [ht]; exact hP9, va_K.moved hW.alike hK9, hD9⟩, hS.F ht⟩) hS.2.2 dX7_settles_12

set_option maxHeartbeats 4000000 in
set_option maxRecDepth 100000 in
theorem c_X7_round (l : Launch) (dC : Nat → ClassId) (dI : Nat → Nat → Nat) (sz : Nat) (x : Nat) (v : Nat → Value) (h : Nat) (g : Nat → Value) : Met l yX7_round wsX7_round ({ frames := 1, cells := 0, slots := 0, locals := 21 }) (va_Pc [.ref x] (ax_C dC dI sz [(x, .inr (7, [v 0, v 1, v 2, v 3, v 4, v 5, v 6, .ref h, v 8, v 9, v 10])), (h, .inr (0, [.int 0, g 1, g 2, g 3, g 4, g 5, g 6, g 7, g 8, g 9, g 10, g 11, g 12, g 13, g 14]))] [] (fun _ => True))) (va_Qi (fun (r : Int32) (_ : Unit) => r = -1) (fun (_ : Unit) (t : State) => ax_B dC dI (va_A [(x, .inr (7, [v 0, v 1, v 2, v 3, v 4, v 5, v 6, .ref h, v 8, v 9, v 10])), (h, .inr (0, [.int 0, g 1, g 2, g 3, g 4, g 5, g 6, g 7, g 8, g 9, g 10, g 11, g 12, g 13, g 14]))] sz) [] [] t) (va_A [(x, .inr (7, [v 0, v 1, v 2, v 3, v 4, v 5, v 6, .ref h, v 8, v 9, v 10])), (h, .inr (0, [.int 0, g 1, g 2, g 3, g 4, g 5, g 6, g 7, g 8, g 9, g 10, g 11, g 12, g 13, g 14]))] sz)) 0 0 (va_A [(x, .inr (7, [v 0, v 1, v 2, v 3, v 4, v 5, v 6, .ref h, v 8, v 9, v 10])), (h, .inr (0, [.int 0, g 1, g 2, g 3, g 4, g 5, g 6, g 7, g 8, g 9, g 10, g 11, g 12, g 13, g 14]))] sz) := by
  refine Met.ofW (cc := cX7_round) (maxL := 1) (ret := (some .int)) (by decide) rfl ?_
  intro p e s m args below meth c s₁ B hml hv
  obtain ⟨rfl, hsz, hP, hK, hD0, hE⟩ := hv
  have hx := B.exec
  have hb := B.bytes
  have hr := B.returns
  have hts := atoms_spec (ws := wsX7_round) B.pre
  have hown : s.vm.findClass RX7 = some m.cls := findClass_of_methodNamed B.named
  have hlocks := B.notSynchronized
  subst hsz
  have hD := hD0.self (sz := s.heap.size)
  generalize hAe : va_A [(x, .inr (7, [v 0, v 1, v 2, v 3, v 4, v 5, v 6, .ref h, v 8, v 9, v 10])), (h, .inr (0, [.int 0, g 1, g 2, g 3, g 4, g 5, g 6, g 7, g 8, g 9, g 10, g 11, g 12, g 13, g 14]))] s.heap.size = A at hD ⊢
  have hA : ∀ q : Nat, s.heap.size ≤ q → A q := fun q h => by rw [← hAe]; exact Or.inr h
  have hS : va_S A s.heap s.heap [] := va_S.rf
  have hP : va_P (dC, dI) vwCl [(x, .inr (7, [v 0, v 1, v 2, v 3, v 4, v 5, v 6, .ref h, v 8, v 9, v 10])), (h, .inr (0, [.int 0, g 1, g 2, g 3, g 4, g 5, g 6, g 7, g 8, g 9, g 10, g 11, g 12, g 13, g 14]))] s.heap := hP
  have hl := lv_entry ([.ref x]) (n := 1) (Nat.le_of_ble_eq_true rfl)
  rw [lg_entry_eq]
  generalize (lg_sl ([.ref x]) ++ List.replicate (1 - (lg_sl ([.ref x])).length) Slot.unset).toArray = ls at hl ⊢
  have hl : lv_has ls 1 [(0, .ref x)] := hl
  refine lv_aload_n hx hb dX7_round_0 rfl (lv_at hl 0 rfl) ?_
  have hPc := hP.sub (ws' := [(x, .inr (7, [v 0, v 1, v 2, v 3, v 4, v 5, v 6, .ref h, v 8, v 9, v 10])), (h, .inr (0, [.int 0, g 1, g 2, g 3, g 4, g 5, g 6, g 7, g 8, g 9, g 10, g 11, g 12, g 13, g 14]))]) [0, 1] rfl
  have hDc := hD.sub (ws' := [(x, .inr (7, [v 0, v 1, v 2, v 3, v 4, v 5, v 6, .ref h, v 8, v 9, v 10])), (h, .inr (0, [.int 0, g 1, g 2, g 3, g 4, g 5, g 6, g 7, g 8, g 9, g 10, g 11, g 12, g 13, g 14]))]) [0, 1] (by decide) rfl
  have hKc := hK.sub (tys' := []) [] rfl
  have hFc := va_free (wc := [(x, .inr (7, [v 0, v 1, v 2, v 3, v 4, v 5, v 6, .ref h, v 8, v 9, v 10])), (h, .inr (0, [.int 0, g 1, g 2, g 3, g 4, g 5, g 6, g 7, g 8, g 9, g 10, g 11, g 12, g 13, g 14]))]) hD hS hA [0, 1] rfl
  refine va_calli (va_runV (As := []) (rest := []) ⟨hx, hb, hml, hown, hts⟩ (c_X7_hasGallery l dC dI s.heap.size x v h g ) (cwV 0 hts gX7_round_X7_hasGallery rfl rfl rfl (by decide +kernel) ⟨Nat.le_of_ble_eq_true rfl, Nat.le_of_ble_eq_true rfl⟩) ⟨ax_blind (fun _ _ _ _ _ => trivial), va_recv hKc hPc (ci := 7) (q0 := 0) rfl rfl, ax_pre hPc hKc hDc (fun _ _ => trivial)⟩ rfl rfl hl.1 rfl (lv_room (Nat.le_of_ble_eq_true rfl)) dX7_round_1 ⟨Nat.le_of_ble_eq_true rfl, Nat.le_of_ble_eq_true rfl⟩) hS (fun q _ h => hFc q h) hFc (fun r_1 u t H1 locs ht hvm hw hB hz1 hk1 hS => ?_)
  obtain ⟨hP1, hK1, hD1⟩ := hB
  rw [ht] at hP1
  have hK1 := va_K.moved hvm.symm hK1
  obtain ⟨hP, hD⟩ := va_join (wr := []) (w1 := [(x, .inr (7, [v 0, v 1, v 2, v 3, v 4, v 5, v 6, .ref h, v 8, v 9, v 10])), (h, .inr (0, [.int 0, g 1, g 2, g 3, g 4, g 5, g 6, g 7, g 8, g 9, g 10, g 11, g 12, g 13, g 14]))]) hP hD [0, 1] [] rfl rfl (by decide) (by decide) hk1 hFc hP1 hD1
  have hK := (hK.sub (tys' := []) [] rfl).app hK1
  generalize H1 = H at hP hS ⊢
  have hP : va_P (dC, dI) vwCl [(x, .inr (7, [v 0, v 1, v 2, v 3, v 4, v 5, v 6, .ref h, v 8, v 9, v 10])), (h, .inr (0, [.int 0, g 1, g 2, g 3, g 4, g 5, g 6, g 7, g 8, g 9, g 10, g 11, g 12, g 13, g 14]))] H := hP
  have hD : va_D A [(x, .inr (7, [v 0, v 1, v 2, v 3, v 4, v 5, v 6, .ref h, v 8, v 9, v 10])), (h, .inr (0, [.int 0, g 1, g 2, g 3, g 4, g 5, g 6, g 7, g 8, g 9, g 10, g 11, g 12, g 13, g 14]))] := hD
  have hK : va_K (dC, dI) vwCl [] s := hK
  have hw : r_1 = 0 := hw
  subst hw
  refine lv_if_ne (tgt := 13) hx hb dX7_round_4 (by decide) (fun c_2 => absurd (by decide +kernel) c_2) (fun _ => ?_)
  refine lv_aload_n hx hb dX7_round_7 rfl (lv_at hl 0 rfl) ?_
  refine lv_iconst (v := 1) hx hb dX7_round_8 (by decide) ?_
  have hPc := hP.sub (ws' := [(x, .inr (7, [v 0, v 1, v 2, v 3, v 4, v 5, v 6, .ref h, v 8, v 9, v 10]))]) [0] rfl
  have hDc := hD.sub (ws' := [(x, .inr (7, [v 0, v 1, v 2, v 3, v 4, v 5, v 6, .ref h, v 8, v 9, v 10]))]) [0] (by decide) rfl
  have hKc := hK.sub (tys' := []) [] rfl
  have hFc := va_free (wc := [(x, .inr (7, [v 0, v 1, v 2, v 3, v 4, v 5, v 6, .ref h, v 8, v 9, v 10]))]) hD hS hA [0] rfl
  refine va_calli (va_runV (As := [.int 1]) (rest := []) ⟨hx, hb, hml, hown, hts⟩ (c_X7_refused l dC dI H.size x 1 (fun i9 => ([v 0, v 1, v 2, v 3, v 4, v 5, v 6, .ref h, v 8, v 9, v 10] : List Value).getD i9 .null) ) (cwV 1 hts gX7_round_X7_refused rfl rfl rfl (by decide +kernel) ⟨Nat.le_of_ble_eq_true rfl, Nat.le_of_ble_eq_true rfl⟩) ⟨ax_blind (fun _ _ _ _ _ => trivial), va_recv hKc hPc (ci := 7) (q0 := 0) rfl rfl, ax_pre hPc hKc hDc (fun _ _ => trivial)⟩ rfl rfl hl.1 rfl (lv_room (Nat.le_of_ble_eq_true rfl)) dX7_round_9 ⟨Nat.le_of_ble_eq_true rfl, Nat.le_of_ble_eq_true rfl⟩) hS (fun q _ h => hFc q h) hFc (fun r_3 u t H1 locs ht hvm hw hB hz1 hk1 hS => ?_)
  obtain ⟨hP1, hK1, hD1⟩ := hB
  rw [ht] at hP1
  have hK1 := va_K.moved hvm.symm hK1
  obtain ⟨hP, hD⟩ := va_join (wr := [(h, .inr (0, [.int 0, g 1, g 2, g 3, g 4, g 5, g 6, g 7, g 8, g 9, g 10, g 11, g 12, g 13, g 14]))]) (w1 := []) hP hD [0] [1] rfl rfl (by decide) (by decide) hk1 hFc hP1 hD1
  have hK := (hK.sub (tys' := []) [] rfl).app hK1
  generalize H1 = H at hP hS ⊢
  have hP : va_P (dC, dI) vwCl [(h, .inr (0, [.int 0, g 1, g 2, g 3, g 4, g 5, g 6, g 7, g 8, g 9, g 10, g 11, g 12, g 13, g 14]))] H := hP
  have hD : va_D A [(h, .inr (0, [.int 0, g 1, g 2, g 3, g 4, g 5, g 6, g 7, g 8, g 9, g 10, g 11, g 12, g 13, g 14]))] := hD
  have hK : va_K (dC, dI) vwCl [] s := hK
  have hw : r_3 = (-1) := hw
  subst hw
  have hP9 := hP.sub (ws' := []) [] rfl
  have hD9 := hD.sub (ws' := []) [] (by decide) rfl
  have hK9 := hK.sub (tys' := []) [] rfl
  exact W.iret (v := (-1)) hx hb hr (fun t ht hW => ⟨⟨(-1), (), rfl, rfl, by rw [ht]; exact hP9, va_K.moved hW.alike hK9, hD9⟩, hS.F ht⟩) hS.2.2 dX7_round_12

set_option maxHeartbeats 4000000 in
set_option maxRecDepth 100000 in
theorem c_X7_called (l : Launch) (dC : Nat → ClassId) (dI : Nat → Nat → Nat) (sz : Nat) (x : Nat) (v : Nat → Value) (h : Nat) (g : Nat → Value) : Met l yX7_called wsX7_called ({ frames := 1, cells := 0, slots := 0, locals := 21 }) (va_Pc [.ref x] (ax_C dC dI sz [(x, .inr (7, [v 0, v 1, v 2, v 3, v 4, v 5, v 6, .ref h, v 8, v 9, v 10])), (h, .inr (0, [.int 0, g 1, g 2, g 3, g 4, g 5, g 6, g 7, g 8, g 9, g 10, g 11, g 12, g 13, g 14]))] [] (fun _ => True))) (va_Qi (fun (r : Int32) (_ : Unit) => r = -1) (fun (_ : Unit) (t : State) => ax_B dC dI (va_A [(x, .inr (7, [v 0, v 1, v 2, v 3, v 4, v 5, v 6, .ref h, v 8, v 9, v 10])), (h, .inr (0, [.int 0, g 1, g 2, g 3, g 4, g 5, g 6, g 7, g 8, g 9, g 10, g 11, g 12, g 13, g 14]))] sz) [] [] t) (va_A [(x, .inr (7, [v 0, v 1, v 2, v 3, v 4, v 5, v 6, .ref h, v 8, v 9, v 10])), (h, .inr (0, [.int 0, g 1, g 2, g 3, g 4, g 5, g 6, g 7, g 8, g 9, g 10, g 11, g 12, g 13, g 14]))] sz)) 0 0 (va_A [(x, .inr (7, [v 0, v 1, v 2, v 3, v 4, v 5, v 6, .ref h, v 8, v 9, v 10])), (h, .inr (0, [.int 0, g 1, g 2, g 3, g 4, g 5, g 6, g 7, g 8, g 9, g 10, g 11, g 12, g 13, g 14]))] sz) := by
  refine Met.ofW (cc := cX7_called) (maxL := 4) (ret := (some .int)) (by decide) rfl ?_
  intro p e s m args below meth c s₁ B hml hv
  obtain ⟨rfl, hsz, hP, hK, hD0, hE⟩ := hv
  have hx := B.exec
  have hb := B.bytes
  have hr := B.returns
  have hts := atoms_spec (ws := wsX7_called) B.pre
  have hown : s.vm.findClass RX7 = some m.cls := findClass_of_methodNamed B.named
  have hlocks := B.notSynchronized
  subst hsz
  have hD := hD0.self (sz := s.heap.size)
  generalize hAe : va_A [(x, .inr (7, [v 0, v 1, v 2, v 3, v 4, v 5, v 6, .ref h, v 8, v 9, v 10])), (h, .inr (0, [.int 0, g 1, g 2, g 3, g 4, g 5, g 6, g 7, g 8, g 9, g 10, g 11, g 12, g 13, g 14]))] s.heap.size = A at hD ⊢
  have hA : ∀ q : Nat, s.heap.size ≤ q → A q := fun q h => by rw [← hAe]; exact Or.inr h
  have hS : va_S A s.heap s.heap [] := va_S.rf
  have hP : va_P (dC, dI) vwCl [(x, .inr (7, [v 0, v 1, v 2, v 3, v 4, v 5, v 6, .ref h, v 8, v 9, v 10])), (h, .inr (0, [.int 0, g 1, g 2, g 3, g 4, g 5, g 6, g 7, g 8, g 9, g 10, g 11, g 12, g 13, g 14]))] s.heap := hP
  have hl := lv_entry ([.ref x]) (n := 4) (Nat.le_of_ble_eq_true rfl)
  rw [lg_entry_eq]
  generalize (lg_sl ([.ref x]) ++ List.replicate (4 - (lg_sl ([.ref x])).length) Slot.unset).toArray = ls at hl ⊢
  have hl : lv_has ls 4 [(0, .ref x)] := hl
  refine lv_aload_n hx hb dX7_called_0 rfl (lv_at hl 0 rfl) ?_
  have hPc := hP.sub (ws' := [(x, .inr (7, [v 0, v 1, v 2, v 3, v 4, v 5, v 6, .ref h, v 8, v 9, v 10])), (h, .inr (0, [.int 0, g 1, g 2, g 3, g 4, g 5, g 6, g 7, g 8, g 9, g 10, g 11, g 12, g 13, g 14]))]) [0, 1] rfl
  have hDc := hD.sub (ws' := [(x, .inr (7, [v 0, v 1, v 2, v 3, v 4, v 5, v 6, .ref h, v 8, v 9, v 10])), (h, .inr (0, [.int 0, g 1, g 2, g 3, g 4, g 5, g 6, g 7, g 8, g 9, g 10, g 11, g 12, g 13, g 14]))]) [0, 1] (by decide) rfl
  have hKc := hK.sub (tys' := []) [] rfl
  have hFc := va_free (wc := [(x, .inr (7, [v 0, v 1, v 2, v 3, v 4, v 5, v 6, .ref h, v 8, v 9, v 10])), (h, .inr (0, [.int 0, g 1, g 2, g 3, g 4, g 5, g 6, g 7, g 8, g 9, g 10, g 11, g 12, g 13, g 14]))]) hD hS hA [0, 1] rfl
  refine va_calli (va_runV (As := []) (rest := []) ⟨hx, hb, hml, hown, hts⟩ (c_X7_hasGallery l dC dI s.heap.size x v h g ) (cwV 0 hts gX7_called_X7_hasGallery rfl rfl rfl (by decide +kernel) ⟨Nat.le_of_ble_eq_true rfl, Nat.le_of_ble_eq_true rfl⟩) ⟨ax_blind (fun _ _ _ _ _ => trivial), va_recv hKc hPc (ci := 7) (q0 := 0) rfl rfl, ax_pre hPc hKc hDc (fun _ _ => trivial)⟩ rfl rfl hl.1 rfl (lv_room (Nat.le_of_ble_eq_true rfl)) dX7_called_1 ⟨Nat.le_of_ble_eq_true rfl, Nat.le_of_ble_eq_true rfl⟩) hS (fun q _ h => hFc q h) hFc (fun r_1 u t H1 locs ht hvm hw hB hz1 hk1 hS => ?_)
  obtain ⟨hP1, hK1, hD1⟩ := hB
  rw [ht] at hP1
  have hK1 := va_K.moved hvm.symm hK1
  obtain ⟨hP, hD⟩ := va_join (wr := []) (w1 := [(x, .inr (7, [v 0, v 1, v 2, v 3, v 4, v 5, v 6, .ref h, v 8, v 9, v 10])), (h, .inr (0, [.int 0, g 1, g 2, g 3, g 4, g 5, g 6, g 7, g 8, g 9, g 10, g 11, g 12, g 13, g 14]))]) hP hD [0, 1] [] rfl rfl (by decide) (by decide) hk1 hFc hP1 hD1
  have hK := (hK.sub (tys' := []) [] rfl).app hK1
  generalize H1 = H at hP hS ⊢
  have hP : va_P (dC, dI) vwCl [(x, .inr (7, [v 0, v 1, v 2, v 3, v 4, v 5, v 6, .ref h, v 8, v 9, v 10])), (h, .inr (0, [.int 0, g 1, g 2, g 3, g 4, g 5, g 6, g 7, g 8, g 9, g 10, g 11, g 12, g 13, g 14]))] H := hP
  have hD : va_D A [(x, .inr (7, [v 0, v 1, v 2, v 3, v 4, v 5, v 6, .ref h, v 8, v 9, v 10])), (h, .inr (0, [.int 0, g 1, g 2, g 3, g 4, g 5, g 6, g 7, g 8, g 9, g 10, g 11, g 12, g 13, g 14]))] := hD
  have hK : va_K (dC, dI) vwCl [] s := hK
  have hw : r_1 = 0 := hw
  subst hw
  refine lv_if_ne (tgt := 13) hx hb dX7_called_4 (by decide) (fun c_2 => absurd (by decide +kernel) c_2) (fun _ => ?_)
  refine lv_aload_n hx hb dX7_called_7 rfl (lv_at hl 0 rfl) ?_
  refine lv_iconst (v := 1) hx hb dX7_called_8 (by decide) ?_
  have hPc := hP.sub (ws' := [(x, .inr (7, [v 0, v 1, v 2, v 3, v 4, v 5, v 6, .ref h, v 8, v 9, v 10]))]) [0] rfl
  have hDc := hD.sub (ws' := [(x, .inr (7, [v 0, v 1, v 2, v 3, v 4, v 5, v 6, .ref h, v 8, v 9, v 10]))]) [0] (by decide) rfl
  have hKc := hK.sub (tys' := []) [] rfl
  have hFc := va_free (wc := [(x, .inr (7, [v 0, v 1, v 2, v 3, v 4, v 5, v 6, .ref h, v 8, v 9, v 10]))]) hD hS hA [0] rfl
  refine va_calli (va_runV (As := [.int 1]) (rest := []) ⟨hx, hb, hml, hown, hts⟩ (c_X7_refused l dC dI H.size x 1 (fun i9 => ([v 0, v 1, v 2, v 3, v 4, v 5, v 6, .ref h, v 8, v 9, v 10] : List Value).getD i9 .null) ) (cwV 1 hts gX7_called_X7_refused rfl rfl rfl (by decide +kernel) ⟨Nat.le_of_ble_eq_true rfl, Nat.le_of_ble_eq_true rfl⟩) ⟨ax_blind (fun _ _ _ _ _ => trivial), va_recv hKc hPc (ci := 7) (q0 := 0) rfl rfl, ax_pre hPc hKc hDc (fun _ _ => trivial)⟩ rfl rfl hl.1 rfl (lv_room (Nat.le_of_ble_eq_true rfl)) dX7_called_9 ⟨Nat.le_of_ble_eq_true rfl, Nat.le_of_ble_eq_true rfl⟩) hS (fun q _ h => hFc q h) hFc (fun r_3 u t H1 locs ht hvm hw hB hz1 hk1 hS => ?_)
  obtain ⟨hP1, hK1, hD1⟩ := hB
  rw [ht] at hP1
  have hK1 := va_K.moved hvm.symm hK1
  obtain ⟨hP, hD⟩ := va_join (wr := [(h, .inr (0, [.int 0, g 1, g 2, g 3, g 4, g 5, g 6, g 7, g 8, g 9, g 10, g 11, g 12, g 13, g 14]))]) (w1 := []) hP hD [0] [1] rfl rfl (by decide) (by decide) hk1 hFc hP1 hD1
  have hK := (hK.sub (tys' := []) [] rfl).app hK1
  generalize H1 = H at hP hS ⊢
  have hP : va_P (dC, dI) vwCl [(h, .inr (0, [.int 0, g 1, g 2, g 3, g 4, g 5, g 6, g 7, g 8, g 9, g 10, g 11, g 12, g 13, g 14]))] H := hP
  have hD : va_D A [(h, .inr (0, [.int 0, g 1, g 2, g 3, g 4, g 5, g 6, g 7, g 8, g 9, g 10, g 11, g 12, g 13, g 14]))] := hD
  have hK : va_K (dC, dI) vwCl [] s := hK
  have hw : r_3 = (-1) := hw
  subst hw
  have hP9 := hP.sub (ws' := []) [] rfl
  have hD9 := hD.sub (ws' := []) [] (by decide) rfl
  have hK9 := hK.sub (tys' := []) [] rfl
  exact W.iret (v := (-1)) hx hb hr (fun t ht hW => ⟨⟨(-1), (), rfl, rfl, by rw [ht]; exact hP9, va_K.moved hW.alike hK9, hD9⟩, hS.F ht⟩) hS.2.2 dX7_called_12

set_option maxHeartbeats 4000000 in
set_option maxRecDepth 100000 in
theorem c_X7_minutesOf (l : Launch) (dC : Nat → ClassId) (dI : Nat → Nat → Nat) (sz : Nat) (x : Nat) (a0 : Int32) (a1 : Int32) (v : Nat → Value) (h : Nat) (g : Nat → Value) : Met l yX7_minutesOf wsX7_minutesOf ({ frames := 2, cells := 0, slots := 0, locals := 43 }) (va_Pc [.ref x, .int a0, .int a1] (ax_C dC dI sz [(x, .inr (7, [v 0, v 1, v 2, v 3, v 4, v 5, v 6, .ref h, v 8, v 9, v 10])), (h, .inr (0, [.int 0, g 1, g 2, g 3, g 4, g 5, g 6, g 7, g 8, g 9, g 10, g 11, g 12, g 13, g 14]))] [] (fun _ => True))) (va_Qi (fun (r : Int32) (_ : Unit) => r = -1) (fun (_ : Unit) (t : State) => ax_B dC dI (va_A [(x, .inr (7, [v 0, v 1, v 2, v 3, v 4, v 5, v 6, .ref h, v 8, v 9, v 10])), (h, .inr (0, [.int 0, g 1, g 2, g 3, g 4, g 5, g 6, g 7, g 8, g 9, g 10, g 11, g 12, g 13, g 14]))] sz) [] [] t) (va_A [(x, .inr (7, [v 0, v 1, v 2, v 3, v 4, v 5, v 6, .ref h, v 8, v 9, v 10])), (h, .inr (0, [.int 0, g 1, g 2, g 3, g 4, g 5, g 6, g 7, g 8, g 9, g 10, g 11, g 12, g 13, g 14]))] sz)) 0 0 (va_A [(x, .inr (7, [v 0, v 1, v 2, v 3, v 4, v 5, v 6, .ref h, v 8, v 9, v 10])), (h, .inr (0, [.int 0, g 1, g 2, g 3, g 4, g 5, g 6, g 7, g 8, g 9, g 10, g 11, g 12, g 13, g 14]))] sz) := by
  refine Met.ofW (cc := cX7_minutesOf) (maxL := 7) (ret := (some .int)) (by decide) rfl ?_
  intro p e s m args below meth c s₁ B hml hv
  obtain ⟨rfl, hsz, hP, hK, hD0, hE⟩ := hv
  have hx := B.exec
  have hb := B.bytes
  have hr := B.returns
  have hts := atoms_spec (ws := wsX7_minutesOf) B.pre
  have hown : s.vm.findClass RX7 = some m.cls := findClass_of_methodNamed B.named
  have hlocks := B.notSynchronized
  subst hsz
  have hD := hD0.self (sz := s.heap.size)
  generalize hAe : va_A [(x, .inr (7, [v 0, v 1, v 2, v 3, v 4, v 5, v 6, .ref h, v 8, v 9, v 10])), (h, .inr (0, [.int 0, g 1, g 2, g 3, g 4, g 5, g 6, g 7, g 8, g 9, g 10, g 11, g 12, g 13, g 14]))] s.heap.size = A at hD ⊢
  have hA : ∀ q : Nat, s.heap.size ≤ q → A q := fun q h => by rw [← hAe]; exact Or.inr h
  have hS : va_S A s.heap s.heap [] := va_S.rf
  have hP : va_P (dC, dI) vwCl [(x, .inr (7, [v 0, v 1, v 2, v 3, v 4, v 5, v 6, .ref h, v 8, v 9, v 10])), (h, .inr (0, [.int 0, g 1, g 2, g 3, g 4, g 5, g 6, g 7, g 8, g 9, g 10, g 11, g 12, g 13, g 14]))] s.heap := hP
  have hl := lv_entry ([.ref x, .int a0, .int a1]) (n := 7) (Nat.le_of_ble_eq_true rfl)
  rw [lg_entry_eq]
  generalize (lg_sl ([.ref x, .int a0, .int a1]) ++ List.replicate (7 - (lg_sl ([.ref x, .int a0, .int a1])).length) Slot.unset).toArray = ls at hl ⊢
  have hl : lv_has ls 7 [(0, .ref x), (1, .int a0), (2, .int a1)] := hl
  refine lv_aload_n hx hb dX7_minutesOf_0 rfl (lv_at hl 0 rfl) ?_
  refine lv_iload_n hx hb dX7_minutesOf_1 rfl (lv_at hl 1 rfl) ?_
  have hPc := hP.sub (ws' := [(x, .inr (7, [v 0, v 1, v 2, v 3, v 4, v 5, v 6, .ref h, v 8, v 9, v 10])), (h, .inr (0, [.int 0, g 1, g 2, g 3, g 4, g 5, g 6, g 7, g 8, g 9, g 10, g 11, g 12, g 13, g 14]))]) [0, 1] rfl
  have hDc := hD.sub (ws' := [(x, .inr (7, [v 0, v 1, v 2, v 3, v 4, v 5, v 6, .ref h, v 8, v 9, v 10])), (h, .inr (0, [.int 0, g 1, g 2, g 3, g 4, g 5, g 6, g 7, g 8, g 9, g 10, g 11, g 12, g 13, g 14]))]) [0, 1] (by decide) rfl
  have hKc := hK.sub (tys' := []) [] rfl
  have hFc := va_free (wc := [(x, .inr (7, [v 0, v 1, v 2, v 3, v 4, v 5, v 6, .ref h, v 8, v 9, v 10])), (h, .inr (0, [.int 0, g 1, g 2, g 3, g 4, g 5, g 6, g 7, g 8, g 9, g 10, g 11, g 12, g 13, g 14]))]) hD hS hA [0, 1] rfl
  refine va_calli (va_runV (As := [.int a0]) (rest := []) ⟨hx, hb, hml, hown, hts⟩ (c_X7_isFigure l dC dI s.heap.size x a0 v h g ) (cwV 1 hts gX7_minutesOf_X7_isFigure rfl rfl rfl (by decide +kernel) ⟨Nat.le_of_ble_eq_true rfl, Nat.le_of_ble_eq_true rfl⟩) ⟨ax_blind (fun _ _ _ _ _ => trivial), va_recv hKc hPc (ci := 7) (q0 := 0) rfl rfl, ax_pre hPc hKc hDc (fun _ _ => trivial)⟩ rfl rfl hl.1 rfl (lv_room (Nat.le_of_ble_eq_true rfl)) dX7_minutesOf_2 ⟨Nat.le_of_ble_eq_true rfl, Nat.le_of_ble_eq_true rfl⟩) hS (fun q _ h => hFc q h) hFc (fun r_1 u t H1 locs ht hvm hw hB hz1 hk1 hS => ?_)
  obtain ⟨hP1, hK1, hD1⟩ := hB
  rw [ht] at hP1
  have hK1 := va_K.moved hvm.symm hK1
  obtain ⟨hP, hD⟩ := va_join (wr := []) (w1 := [(x, .inr (7, [v 0, v 1, v 2, v 3, v 4, v 5, v 6, .ref h, v 8, v 9, v 10])), (h, .inr (0, [.int 0, g 1, g 2, g 3, g 4, g 5, g 6, g 7, g 8, g 9, g 10, g 11, g 12, g 13, g 14]))]) hP hD [0, 1] [] rfl rfl (by decide) (by decide) hk1 hFc hP1 hD1
  have hK := (hK.sub (tys' := []) [] rfl).app hK1
  generalize H1 = H at hP hS ⊢
  have hP : va_P (dC, dI) vwCl [(x, .inr (7, [v 0, v 1, v 2, v 3, v 4, v 5, v 6, .ref h, v 8, v 9, v 10])), (h, .inr (0, [.int 0, g 1, g 2, g 3, g 4, g 5, g 6, g 7, g 8, g 9, g 10, g 11, g 12, g 13, g 14]))] H := hP
  have hD : va_D A [(x, .inr (7, [v 0, v 1, v 2, v 3, v 4, v 5, v 6, .ref h, v 8, v 9, v 10])), (h, .inr (0, [.int 0, g 1, g 2, g 3, g 4, g 5, g 6, g 7, g 8, g 9, g 10, g 11, g 12, g 13, g 14]))] := hD
  have hK : va_K (dC, dI) vwCl [] s := hK
  have hw : r_1 = 0 := hw
  subst hw
  refine lv_if_ne (tgt := 14) hx hb dX7_minutesOf_5 (by decide) (fun c_2 => absurd (by decide +kernel) c_2) (fun _ => ?_)
  refine lv_aload_n hx hb dX7_minutesOf_8 rfl (lv_at hl 0 rfl) ?_
  refine lv_iconst (v := 1) hx hb dX7_minutesOf_9 (by decide) ?_
  have hPc := hP.sub (ws' := [(x, .inr (7, [v 0, v 1, v 2, v 3, v 4, v 5, v 6, .ref h, v 8, v 9, v 10]))]) [0] rfl
  have hDc := hD.sub (ws' := [(x, .inr (7, [v 0, v 1, v 2, v 3, v 4, v 5, v 6, .ref h, v 8, v 9, v 10]))]) [0] (by decide) rfl
  have hKc := hK.sub (tys' := []) [] rfl
  have hFc := va_free (wc := [(x, .inr (7, [v 0, v 1, v 2, v 3, v 4, v 5, v 6, .ref h, v 8, v 9, v 10]))]) hD hS hA [0] rfl
  refine va_calli (va_runV (As := [.int 1]) (rest := []) ⟨hx, hb, hml, hown, hts⟩ (c_X7_refused l dC dI H.size x 1 (fun i9 => ([v 0, v 1, v 2, v 3, v 4, v 5, v 6, .ref h, v 8, v 9, v 10] : List Value).getD i9 .null) ) (cwV 1 hts gX7_minutesOf_X7_refused rfl rfl rfl (by decide +kernel) ⟨Nat.le_of_ble_eq_true rfl, Nat.le_of_ble_eq_true rfl⟩) ⟨ax_blind (fun _ _ _ _ _ => trivial), va_recv hKc hPc (ci := 7) (q0 := 0) rfl rfl, ax_pre hPc hKc hDc (fun _ _ => trivial)⟩ rfl rfl hl.1 rfl (lv_room (Nat.le_of_ble_eq_true rfl)) dX7_minutesOf_10 ⟨Nat.le_of_ble_eq_true rfl, Nat.le_of_ble_eq_true rfl⟩) hS (fun q _ h => hFc q h) hFc (fun r_3 u t H1 locs ht hvm hw hB hz1 hk1 hS => ?_)
  obtain ⟨hP1, hK1, hD1⟩ := hB
  rw [ht] at hP1
  have hK1 := va_K.moved hvm.symm hK1
  obtain ⟨hP, hD⟩ := va_join (wr := [(h, .inr (0, [.int 0, g 1, g 2, g 3, g 4, g 5, g 6, g 7, g 8, g 9, g 10, g 11, g 12, g 13, g 14]))]) (w1 := []) hP hD [0] [1] rfl rfl (by decide) (by decide) hk1 hFc hP1 hD1
  have hK := (hK.sub (tys' := []) [] rfl).app hK1
  generalize H1 = H at hP hS ⊢
  have hP : va_P (dC, dI) vwCl [(h, .inr (0, [.int 0, g 1, g 2, g 3, g 4, g 5, g 6, g 7, g 8, g 9, g 10, g 11, g 12, g 13, g 14]))] H := hP
  have hD : va_D A [(h, .inr (0, [.int 0, g 1, g 2, g 3, g 4, g 5, g 6, g 7, g 8, g 9, g 10, g 11, g 12, g 13, g 14]))] := hD
  have hK : va_K (dC, dI) vwCl [] s := hK
  have hw : r_3 = (-1) := hw
  subst hw
  have hP9 := hP.sub (ws' := []) [] rfl
  have hD9 := hD.sub (ws' := []) [] (by decide) rfl
  have hK9 := hK.sub (tys' := []) [] rfl
  exact W.iret (v := (-1)) hx hb hr (fun t ht hW => ⟨⟨(-1), (), rfl, rfl, by rw [ht]; exact hP9, va_K.moved hW.alike hK9, hD9⟩, hS.F ht⟩) hS.2.2 dX7_minutesOf_13

set_option maxHeartbeats 4000000 in
set_option maxRecDepth 100000 in
theorem c_X7_place (l : Launch) (dC : Nat → ClassId) (dI : Nat → Nat → Nat) (sz : Nat) (x : Nat) (a0 : Int32) (a1 : Int32) (v : Nat → Value) (h : Nat) (g : Nat → Value) : Met l yX7_place wsX7_place ({ frames := 3, cells := 0, slots := 0, locals := 66 }) (va_Pc [.ref x, .int a0, .int a1] (ax_C dC dI sz [(x, .inr (7, [v 0, v 1, v 2, v 3, v 4, v 5, v 6, .ref h, v 8, v 9, v 10])), (h, .inr (0, [.int 0, g 1, g 2, g 3, g 4, g 5, g 6, g 7, g 8, g 9, g 10, g 11, g 12, g 13, g 14]))] [] (fun _ => True))) (va_Qi (fun (r : Int32) (_ : Unit) => r = -1) (fun (_ : Unit) (t : State) => ax_B dC dI (va_A [(x, .inr (7, [v 0, v 1, v 2, v 3, v 4, v 5, v 6, .ref h, v 8, v 9, v 10])), (h, .inr (0, [.int 0, g 1, g 2, g 3, g 4, g 5, g 6, g 7, g 8, g 9, g 10, g 11, g 12, g 13, g 14]))] sz) [] [] t) (va_A [(x, .inr (7, [v 0, v 1, v 2, v 3, v 4, v 5, v 6, .ref h, v 8, v 9, v 10])), (h, .inr (0, [.int 0, g 1, g 2, g 3, g 4, g 5, g 6, g 7, g 8, g 9, g 10, g 11, g 12, g 13, g 14]))] sz)) 0 0 (va_A [(x, .inr (7, [v 0, v 1, v 2, v 3, v 4, v 5, v 6, .ref h, v 8, v 9, v 10])), (h, .inr (0, [.int 0, g 1, g 2, g 3, g 4, g 5, g 6, g 7, g 8, g 9, g 10, g 11, g 12, g 13, g 14]))] sz) := by
  refine Met.ofW (cc := cX7_place) (maxL := 4) (ret := (some .int)) (by decide) rfl ?_
  intro p e s m args below meth c s₁ B hml hv
  obtain ⟨rfl, hsz, hP, hK, hD0, hE⟩ := hv
  have hx := B.exec
  have hb := B.bytes
  have hr := B.returns
  have hts := atoms_spec (ws := wsX7_place) B.pre
  have hown : s.vm.findClass RX7 = some m.cls := findClass_of_methodNamed B.named
  have hlocks := B.notSynchronized
  subst hsz
  have hD := hD0.self (sz := s.heap.size)
  generalize hAe : va_A [(x, .inr (7, [v 0, v 1, v 2, v 3, v 4, v 5, v 6, .ref h, v 8, v 9, v 10])), (h, .inr (0, [.int 0, g 1, g 2, g 3, g 4, g 5, g 6, g 7, g 8, g 9, g 10, g 11, g 12, g 13, g 14]))] s.heap.size = A at hD ⊢
  have hA : ∀ q : Nat, s.heap.size ≤ q → A q := fun q h => by rw [← hAe]; exact Or.inr h
  have hS : va_S A s.heap s.heap [] := va_S.rf
  have hP : va_P (dC, dI) vwCl [(x, .inr (7, [v 0, v 1, v 2, v 3, v 4, v 5, v 6, .ref h, v 8, v 9, v 10])), (h, .inr (0, [.int 0, g 1, g 2, g 3, g 4, g 5, g 6, g 7, g 8, g 9, g 10, g 11, g 12, g 13, g 14]))] s.heap := hP
  have hl := lv_entry ([.ref x, .int a0, .int a1]) (n := 4) (Nat.le_of_ble_eq_true rfl)
  rw [lg_entry_eq]
  generalize (lg_sl ([.ref x, .int a0, .int a1]) ++ List.replicate (4 - (lg_sl ([.ref x, .int a0, .int a1])).length) Slot.unset).toArray = ls at hl ⊢
  have hl : lv_has ls 4 [(0, .ref x), (1, .int a0), (2, .int a1)] := hl
  refine lv_aload_n hx hb dX7_place_0 rfl (lv_at hl 0 rfl) ?_
  refine lv_iload_n hx hb dX7_place_1 rfl (lv_at hl 1 rfl) ?_
  refine lv_iload_n hx hb dX7_place_2 rfl (lv_at hl 2 rfl) ?_
  refine lv_sipush (v := 300) hx hb dX7_place_3 (by decide) ?_
  have hPc := hP.sub (ws' := [(x, .inr (7, [v 0, v 1, v 2, v 3, v 4, v 5, v 6, .ref h, v 8, v 9, v 10])), (h, .inr (0, [.int 0, g 1, g 2, g 3, g 4, g 5, g 6, g 7, g 8, g 9, g 10, g 11, g 12, g 13, g 14]))]) [0, 1] rfl
  have hDc := hD.sub (ws' := [(x, .inr (7, [v 0, v 1, v 2, v 3, v 4, v 5, v 6, .ref h, v 8, v 9, v 10])), (h, .inr (0, [.int 0, g 1, g 2, g 3, g 4, g 5, g 6, g 7, g 8, g 9, g 10, g 11, g 12, g 13, g 14]))]) [0, 1] (by decide) rfl
  have hKc := hK.sub (tys' := []) [] rfl
  have hFc := va_free (wc := [(x, .inr (7, [v 0, v 1, v 2, v 3, v 4, v 5, v 6, .ref h, v 8, v 9, v 10])), (h, .inr (0, [.int 0, g 1, g 2, g 3, g 4, g 5, g 6, g 7, g 8, g 9, g 10, g 11, g 12, g 13, g 14]))]) hD hS hA [0, 1] rfl
  refine va_calli (va_runV (As := [.int a0, .int a1, .int 300]) (rest := []) ⟨hx, hb, hml, hown, hts⟩ (c_X7_troubleOfFigureWithin l dC dI s.heap.size x a0 a1 300 v h g ) (cwV 3 hts gX7_place_X7_troubleOfFigureWithin rfl rfl rfl (by decide +kernel) ⟨Nat.le_of_ble_eq_true rfl, Nat.le_of_ble_eq_true rfl⟩) ⟨ax_blind (fun _ _ _ _ _ => trivial), va_recv hKc hPc (ci := 7) (q0 := 0) rfl rfl, ax_pre hPc hKc hDc (fun _ _ => trivial)⟩ rfl rfl hl.1 rfl (lv_room (Nat.le_of_ble_eq_true rfl)) dX7_place_6 ⟨Nat.le_of_ble_eq_true rfl, Nat.le_of_ble_eq_true rfl⟩) hS (fun q _ h => hFc q h) hFc (fun r_1 u t H1 locs ht hvm hw hB hz1 hk1 hS => ?_)
  obtain ⟨hP1, hK1, hD1⟩ := hB
  rw [ht] at hP1
  have hK1 := va_K.moved hvm.symm hK1
  obtain ⟨hP, hD⟩ := va_join (wr := []) (w1 := [(x, .inr (7, [v 0, v 1, v 2, v 3, v 4, v 5, v 6, .ref h, v 8, v 9, v 10])), (h, .inr (0, [.int 0, g 1, g 2, g 3, g 4, g 5, g 6, g 7, g 8, g 9, g 10, g 11, g 12, g 13, g 14]))]) hP hD [0, 1] [] rfl rfl (by decide) (by decide) hk1 hFc hP1 hD1
  have hK := (hK.sub (tys' := []) [] rfl).app hK1
  generalize H1 = H at hP hS ⊢
  have hP : va_P (dC, dI) vwCl [(x, .inr (7, [v 0, v 1, v 2, v 3, v 4, v 5, v 6, .ref h, v 8, v 9, v 10])), (h, .inr (0, [.int 0, g 1, g 2, g 3, g 4, g 5, g 6, g 7, g 8, g 9, g 10, g 11, g 12, g 13, g 14]))] H := hP
  have hD : va_D A [(x, .inr (7, [v 0, v 1, v 2, v 3, v 4, v 5, v 6, .ref h, v 8, v 9, v 10])), (h, .inr (0, [.int 0, g 1, g 2, g 3, g 4, g 5, g 6, g 7, g 8, g 9, g 10, g 11, g 12, g 13, g 14]))] := hD
  have hK : va_K (dC, dI) vwCl [] s := hK
  have hw : r_1 = 1 := hw
  subst hw
  refine lv_istore_n (lv' := [(3, .int 1), (0, .ref x), (1, .int a0), (2, .int a1)]) hx hb dX7_place_9 rfl hl (by decide) rfl (fun ls hl => ?_)
  refine lv_iload_n hx hb dX7_place_10 rfl (lv_at hl 0 rfl) ?_
  refine lv_if_eq (tgt := 20) hx hb dX7_place_11 (by decide) (fun c_2 => absurd c_2 (by decide +kernel)) (fun _ => ?_)
  refine lv_aload_n hx hb dX7_place_14 rfl (lv_at hl 1 rfl) ?_
  refine lv_iload_n hx hb dX7_place_15 rfl (lv_at hl 0 rfl) ?_
  have hPc := hP.sub (ws' := [(x, .inr (7, [v 0, v 1, v 2, v 3, v 4, v 5, v 6, .ref h, v 8, v 9, v 10]))]) [0] rfl
  have hDc := hD.sub (ws' := [(x, .inr (7, [v 0, v 1, v 2, v 3, v 4, v 5, v 6, .ref h, v 8, v 9, v 10]))]) [0] (by decide) rfl
  have hKc := hK.sub (tys' := []) [] rfl
  have hFc := va_free (wc := [(x, .inr (7, [v 0, v 1, v 2, v 3, v 4, v 5, v 6, .ref h, v 8, v 9, v 10]))]) hD hS hA [0] rfl
  refine va_calli (va_runV (As := [.int 1]) (rest := []) ⟨hx, hb, hml, hown, hts⟩ (c_X7_refused l dC dI H.size x 1 (fun i9 => ([v 0, v 1, v 2, v 3, v 4, v 5, v 6, .ref h, v 8, v 9, v 10] : List Value).getD i9 .null) ) (cwV 1 hts gX7_place_X7_refused rfl rfl rfl (by decide +kernel) ⟨Nat.le_of_ble_eq_true rfl, Nat.le_of_ble_eq_true rfl⟩) ⟨ax_blind (fun _ _ _ _ _ => trivial), va_recv hKc hPc (ci := 7) (q0 := 0) rfl rfl, ax_pre hPc hKc hDc (fun _ _ => trivial)⟩ rfl rfl hl.1 rfl (lv_room (Nat.le_of_ble_eq_true rfl)) dX7_place_16 ⟨Nat.le_of_ble_eq_true rfl, Nat.le_of_ble_eq_true rfl⟩) hS (fun q _ h => hFc q h) hFc (fun r_3 u t H1 locs ht hvm hw hB hz1 hk1 hS => ?_)
  obtain ⟨hP1, hK1, hD1⟩ := hB
  rw [ht] at hP1
  have hK1 := va_K.moved hvm.symm hK1
  obtain ⟨hP, hD⟩ := va_join (wr := [(h, .inr (0, [.int 0, g 1, g 2, g 3, g 4, g 5, g 6, g 7, g 8, g 9, g 10, g 11, g 12, g 13, g 14]))]) (w1 := []) hP hD [0] [1] rfl rfl (by decide) (by decide) hk1 hFc hP1 hD1
  have hK := (hK.sub (tys' := []) [] rfl).app hK1
  generalize H1 = H at hP hS ⊢
  have hP : va_P (dC, dI) vwCl [(h, .inr (0, [.int 0, g 1, g 2, g 3, g 4, g 5, g 6, g 7, g 8, g 9, g 10, g 11, g 12, g 13, g 14]))] H := hP
  have hD : va_D A [(h, .inr (0, [.int 0, g 1, g 2, g 3, g 4, g 5, g 6, g 7, g 8, g 9, g 10, g 11, g 12, g 13, g 14]))] := hD
  have hK : va_K (dC, dI) vwCl [] s := hK
  have hw : r_3 = (-1) := hw
  subst hw
  have hP9 := hP.sub (ws' := []) [] rfl
  have hD9 := hD.sub (ws' := []) [] (by decide) rfl
  have hK9 := hK.sub (tys' := []) [] rfl
  exact W.iret (v := (-1)) hx hb hr (fun t ht hW => ⟨⟨(-1), (), rfl, rfl, by rw [ht]; exact hP9, va_K.moved hW.alike hK9, hD9⟩, hS.F ht⟩) hS.2.2 dX7_place_19

set_option maxHeartbeats 4000000 in
set_option maxRecDepth 100000 in
theorem c_X7_gone (l : Launch) (dC : Nat → ClassId) (dI : Nat → Nat → Nat) (sz : Nat) (x : Nat) (a0 : Int32) (v : Nat → Value) (h : Nat) (g : Nat → Value) : Met l yX7_gone wsX7_gone ({ frames := 2, cells := 0, slots := 0, locals := 43 }) (va_Pc [.ref x, .int a0] (ax_C dC dI sz [(x, .inr (7, [v 0, v 1, v 2, v 3, v 4, v 5, v 6, .ref h, v 8, v 9, v 10])), (h, .inr (0, [.int 0, g 1, g 2, g 3, g 4, g 5, g 6, g 7, g 8, g 9, g 10, g 11, g 12, g 13, g 14]))] [] (fun _ => True))) (va_Qi (fun (r : Int32) (_ : Unit) => r = -1) (fun (_ : Unit) (t : State) => ax_B dC dI (va_A [(x, .inr (7, [v 0, v 1, v 2, v 3, v 4, v 5, v 6, .ref h, v 8, v 9, v 10])), (h, .inr (0, [.int 0, g 1, g 2, g 3, g 4, g 5, g 6, g 7, g 8, g 9, g 10, g 11, g 12, g 13, g 14]))] sz) [] [] t) (va_A [(x, .inr (7, [v 0, v 1, v 2, v 3, v 4, v 5, v 6, .ref h, v 8, v 9, v 10])), (h, .inr (0, [.int 0, g 1, g 2, g 3, g 4, g 5, g 6, g 7, g 8, g 9, g 10, g 11, g 12, g 13, g 14]))] sz)) 0 0 (va_A [(x, .inr (7, [v 0, v 1, v 2, v 3, v 4, v 5, v 6, .ref h, v 8, v 9, v 10])), (h, .inr (0, [.int 0, g 1, g 2, g 3, g 4, g 5, g 6, g 7, g 8, g 9, g 10, g 11, g 12, g 13, g 14]))] sz) := by
  refine Met.ofW (cc := cX7_gone) (maxL := 3) (ret := (some .int)) (by decide) rfl ?_
  intro p e s m args below meth c s₁ B hml hv
  obtain ⟨rfl, hsz, hP, hK, hD0, hE⟩ := hv
  have hx := B.exec
  have hb := B.bytes
  have hr := B.returns
  have hts := atoms_spec (ws := wsX7_gone) B.pre
  have hown : s.vm.findClass RX7 = some m.cls := findClass_of_methodNamed B.named
  have hlocks := B.notSynchronized
  subst hsz
  have hD := hD0.self (sz := s.heap.size)
  generalize hAe : va_A [(x, .inr (7, [v 0, v 1, v 2, v 3, v 4, v 5, v 6, .ref h, v 8, v 9, v 10])), (h, .inr (0, [.int 0, g 1, g 2, g 3, g 4, g 5, g 6, g 7, g 8, g 9, g 10, g 11, g 12, g 13, g 14]))] s.heap.size = A at hD ⊢
  have hA : ∀ q : Nat, s.heap.size ≤ q → A q := fun q h => by rw [← hAe]; exact Or.inr h
  have hS : va_S A s.heap s.heap [] := va_S.rf
  have hP : va_P (dC, dI) vwCl [(x, .inr (7, [v 0, v 1, v 2, v 3, v 4, v 5, v 6, .ref h, v 8, v 9, v 10])), (h, .inr (0, [.int 0, g 1, g 2, g 3, g 4, g 5, g 6, g 7, g 8, g 9, g 10, g 11, g 12, g 13, g 14]))] s.heap := hP
  have hl := lv_entry ([.ref x, .int a0]) (n := 3) (Nat.le_of_ble_eq_true rfl)
  rw [lg_entry_eq]
  generalize (lg_sl ([.ref x, .int a0]) ++ List.replicate (3 - (lg_sl ([.ref x, .int a0])).length) Slot.unset).toArray = ls at hl ⊢
  have hl : lv_has ls 3 [(0, .ref x), (1, .int a0)] := hl
  refine lv_aload_n hx hb dX7_gone_0 rfl (lv_at hl 0 rfl) ?_
  refine lv_iload_n hx hb dX7_gone_1 rfl (lv_at hl 1 rfl) ?_
  refine lv_iconst (v := 0) hx hb dX7_gone_2 (by decide) ?_
  refine lv_sipush (v := 300) hx hb dX7_gone_3 (by decide) ?_
  have hPc := hP.sub (ws' := [(x, .inr (7, [v 0, v 1, v 2, v 3, v 4, v 5, v 6, .ref h, v 8, v 9, v 10])), (h, .inr (0, [.int 0, g 1, g 2, g 3, g 4, g 5, g 6, g 7, g 8, g 9, g 10, g 11, g 12, g 13, g 14]))]) [0, 1] rfl
  have hDc := hD.sub (ws' := [(x, .inr (7, [v 0, v 1, v 2, v 3, v 4, v 5, v 6, .ref h, v 8, v 9, v 10])), (h, .inr (0, [.int 0, g 1, g 2, g 3, g 4, g 5, g 6, g 7, g 8, g 9, g 10, g 11, g 12, g 13, g 14]))]) [0, 1] (by decide) rfl
  have hKc := hK.sub (tys' := []) [] rfl
  have hFc := va_free (wc := [(x, .inr (7, [v 0, v 1, v 2, v 3, v 4, v 5, v 6, .ref h, v 8, v 9, v 10])), (h, .inr (0, [.int 0, g 1, g 2, g 3, g 4, g 5, g 6, g 7, g 8, g 9, g 10, g 11, g 12, g 13, g 14]))]) hD hS hA [0, 1] rfl
  refine va_calli (va_runV (As := [.int a0, .int 0, .int 300]) (rest := []) ⟨hx, hb, hml, hown, hts⟩ (c_X7_troubleOfNumber l dC dI s.heap.size x a0 0 300 v h g ) (cwV 3 hts gX7_gone_X7_troubleOfNumber rfl rfl rfl (by decide +kernel) ⟨Nat.le_of_ble_eq_true rfl, Nat.le_of_ble_eq_true rfl⟩) ⟨ax_blind (fun _ _ _ _ _ => trivial), va_recv hKc hPc (ci := 7) (q0 := 0) rfl rfl, ax_pre hPc hKc hDc (fun _ _ => trivial)⟩ rfl rfl hl.1 rfl (lv_room (Nat.le_of_ble_eq_true rfl)) dX7_gone_6 ⟨Nat.le_of_ble_eq_true rfl, Nat.le_of_ble_eq_true rfl⟩) hS (fun q _ h => hFc q h) hFc (fun r_1 u t H1 locs ht hvm hw hB hz1 hk1 hS => ?_)
  obtain ⟨hP1, hK1, hD1⟩ := hB
  rw [ht] at hP1
  have hK1 := va_K.moved hvm.symm hK1
  obtain ⟨hP, hD⟩ := va_join (wr := []) (w1 := [(x, .inr (7, [v 0, v 1, v 2, v 3, v 4, v 5, v 6, .ref h, v 8, v 9, v 10])), (h, .inr (0, [.int 0, g 1, g 2, g 3, g 4, g 5, g 6, g 7, g 8, g 9, g 10, g 11, g 12, g 13, g 14]))]) hP hD [0, 1] [] rfl rfl (by decide) (by decide) hk1 hFc hP1 hD1
  have hK := (hK.sub (tys' := []) [] rfl).app hK1
  generalize H1 = H at hP hS ⊢
  have hP : va_P (dC, dI) vwCl [(x, .inr (7, [v 0, v 1, v 2, v 3, v 4, v 5, v 6, .ref h, v 8, v 9, v 10])), (h, .inr (0, [.int 0, g 1, g 2, g 3, g 4, g 5, g 6, g 7, g 8, g 9, g 10, g 11, g 12, g 13, g 14]))] H := hP
  have hD : va_D A [(x, .inr (7, [v 0, v 1, v 2, v 3, v 4, v 5, v 6, .ref h, v 8, v 9, v 10])), (h, .inr (0, [.int 0, g 1, g 2, g 3, g 4, g 5, g 6, g 7, g 8, g 9, g 10, g 11, g 12, g 13, g 14]))] := hD
  have hK : va_K (dC, dI) vwCl [] s := hK
  have hw : r_1 = 1 := hw
  subst hw
  refine lv_istore_n (lv' := [(2, .int 1), (0, .ref x), (1, .int a0)]) hx hb dX7_gone_9 rfl hl (by decide) rfl (fun ls hl => ?_)
  refine lv_iload_n hx hb dX7_gone_10 rfl (lv_at hl 0 rfl) ?_
  refine lv_if_eq (tgt := 20) hx hb dX7_gone_11 (by decide) (fun c_2 => absurd c_2 (by decide +kernel)) (fun _ => ?_)
  refine lv_aload_n hx hb dX7_gone_14 rfl (lv_at hl 1 rfl) ?_
  refine lv_iload_n hx hb dX7_gone_15 rfl (lv_at hl 0 rfl) ?_
  have hPc := hP.sub (ws' := [(x, .inr (7, [v 0, v 1, v 2, v 3, v 4, v 5, v 6, .ref h, v 8, v 9, v 10]))]) [0] rfl
  have hDc := hD.sub (ws' := [(x, .inr (7, [v 0, v 1, v 2, v 3, v 4, v 5, v 6, .ref h, v 8, v 9, v 10]))]) [0] (by decide) rfl
  have hKc := hK.sub (tys' := []) [] rfl
  have hFc := va_free (wc := [(x, .inr (7, [v 0, v 1, v 2, v 3, v 4, v 5, v 6, .ref h, v 8, v 9, v 10]))]) hD hS hA [0] rfl
  refine va_calli (va_runV (As := [.int 1]) (rest := []) ⟨hx, hb, hml, hown, hts⟩ (c_X7_refused l dC dI H.size x 1 (fun i9 => ([v 0, v 1, v 2, v 3, v 4, v 5, v 6, .ref h, v 8, v 9, v 10] : List Value).getD i9 .null) ) (cwV 1 hts gX7_gone_X7_refused rfl rfl rfl (by decide +kernel) ⟨Nat.le_of_ble_eq_true rfl, Nat.le_of_ble_eq_true rfl⟩) ⟨ax_blind (fun _ _ _ _ _ => trivial), va_recv hKc hPc (ci := 7) (q0 := 0) rfl rfl, ax_pre hPc hKc hDc (fun _ _ => trivial)⟩ rfl rfl hl.1 rfl (lv_room (Nat.le_of_ble_eq_true rfl)) dX7_gone_16 ⟨Nat.le_of_ble_eq_true rfl, Nat.le_of_ble_eq_true rfl⟩) hS (fun q _ h => hFc q h) hFc (fun r_3 u t H1 locs ht hvm hw hB hz1 hk1 hS => ?_)
  obtain ⟨hP1, hK1, hD1⟩ := hB
  rw [ht] at hP1
  have hK1 := va_K.moved hvm.symm hK1
  obtain ⟨hP, hD⟩ := va_join (wr := [(h, .inr (0, [.int 0, g 1, g 2, g 3, g 4, g 5, g 6, g 7, g 8, g 9, g 10, g 11, g 12, g 13, g 14]))]) (w1 := []) hP hD [0] [1] rfl rfl (by decide) (by decide) hk1 hFc hP1 hD1
  have hK := (hK.sub (tys' := []) [] rfl).app hK1
  generalize H1 = H at hP hS ⊢
  have hP : va_P (dC, dI) vwCl [(h, .inr (0, [.int 0, g 1, g 2, g 3, g 4, g 5, g 6, g 7, g 8, g 9, g 10, g 11, g 12, g 13, g 14]))] H := hP
  have hD : va_D A [(h, .inr (0, [.int 0, g 1, g 2, g 3, g 4, g 5, g 6, g 7, g 8, g 9, g 10, g 11, g 12, g 13, g 14]))] := hD
  have hK : va_K (dC, dI) vwCl [] s := hK
  have hw : r_3 = (-1) := hw
  subst hw
  have hP9 := hP.sub (ws' := []) [] rfl
  have hD9 := hD.sub (ws' := []) [] (by decide) rfl
  have hK9 := hK.sub (tys' := []) [] rfl
  exact W.iret (v := (-1)) hx hb hr (fun t ht hW => ⟨⟨(-1), (), rfl, rfl, by rw [ht]; exact hP9, va_K.moved hW.alike hK9, hD9⟩, hS.F ht⟩) hS.2.2 dX7_gone_19

set_option maxHeartbeats 4000000 in
set_option maxRecDepth 100000 in
theorem c_X7_stairs (l : Launch) (dC : Nat → ClassId) (dI : Nat → Nat → Nat) (sz : Nat) (x : Nat) (v : Nat → Value) (h : Nat) (g : Nat → Value) : Met l yX7_stairs wsX7_stairs ({ frames := 1, cells := 0, slots := 0, locals := 21 }) (va_Pc [.ref x] (ax_C dC dI sz [(x, .inr (7, [v 0, v 1, v 2, v 3, v 4, v 5, v 6, .ref h, v 8, v 9, v 10])), (h, .inr (0, [.int 0, g 1, g 2, g 3, g 4, g 5, g 6, g 7, g 8, g 9, g 10, g 11, g 12, g 13, g 14]))] [] (fun _ => True))) (va_Qi (fun (r : Int32) (_ : Unit) => r = -1) (fun (_ : Unit) (t : State) => ax_B dC dI (va_A [(x, .inr (7, [v 0, v 1, v 2, v 3, v 4, v 5, v 6, .ref h, v 8, v 9, v 10])), (h, .inr (0, [.int 0, g 1, g 2, g 3, g 4, g 5, g 6, g 7, g 8, g 9, g 10, g 11, g 12, g 13, g 14]))] sz) [] [] t) (va_A [(x, .inr (7, [v 0, v 1, v 2, v 3, v 4, v 5, v 6, .ref h, v 8, v 9, v 10])), (h, .inr (0, [.int 0, g 1, g 2, g 3, g 4, g 5, g 6, g 7, g 8, g 9, g 10, g 11, g 12, g 13, g 14]))] sz)) 0 0 (va_A [(x, .inr (7, [v 0, v 1, v 2, v 3, v 4, v 5, v 6, .ref h, v 8, v 9, v 10])), (h, .inr (0, [.int 0, g 1, g 2, g 3, g 4, g 5, g 6, g 7, g 8, g 9, g 10, g 11, g 12, g 13, g 14]))] sz) := by
  refine Met.ofW (cc := cX7_stairs) (maxL := 1) (ret := (some .int)) (by decide) rfl ?_
  intro p e s m args below meth c s₁ B hml hv
  obtain ⟨rfl, hsz, hP, hK, hD0, hE⟩ := hv
  have hx := B.exec
  have hb := B.bytes
  have hr := B.returns
  have hts := atoms_spec (ws := wsX7_stairs) B.pre
  have hown : s.vm.findClass RX7 = some m.cls := findClass_of_methodNamed B.named
  have hlocks := B.notSynchronized
  subst hsz
  have hD := hD0.self (sz := s.heap.size)
  generalize hAe : va_A [(x, .inr (7, [v 0, v 1, v 2, v 3, v 4, v 5, v 6, .ref h, v 8, v 9, v 10])), (h, .inr (0, [.int 0, g 1, g 2, g 3, g 4, g 5, g 6, g 7, g 8, g 9, g 10, g 11, g 12, g 13, g 14]))] s.heap.size = A at hD ⊢
  have hA : ∀ q : Nat, s.heap.size ≤ q → A q := fun q h => by rw [← hAe]; exact Or.inr h
  have hS : va_S A s.heap s.heap [] := va_S.rf
  have hP : va_P (dC, dI) vwCl [(x, .inr (7, [v 0, v 1, v 2, v 3, v 4, v 5, v 6, .ref h, v 8, v 9, v 10])), (h, .inr (0, [.int 0, g 1, g 2, g 3, g 4, g 5, g 6, g 7, g 8, g 9, g 10, g 11, g 12, g 13, g 14]))] s.heap := hP
  have hl := lv_entry ([.ref x]) (n := 1) (Nat.le_of_ble_eq_true rfl)
  rw [lg_entry_eq]
  generalize (lg_sl ([.ref x]) ++ List.replicate (1 - (lg_sl ([.ref x])).length) Slot.unset).toArray = ls at hl ⊢
  have hl : lv_has ls 1 [(0, .ref x)] := hl
  refine lv_aload_n hx hb dX7_stairs_0 rfl (lv_at hl 0 rfl) ?_
  have hPc := hP.sub (ws' := [(x, .inr (7, [v 0, v 1, v 2, v 3, v 4, v 5, v 6, .ref h, v 8, v 9, v 10])), (h, .inr (0, [.int 0, g 1, g 2, g 3, g 4, g 5, g 6, g 7, g 8, g 9, g 10, g 11, g 12, g 13, g 14]))]) [0, 1] rfl
  have hDc := hD.sub (ws' := [(x, .inr (7, [v 0, v 1, v 2, v 3, v 4, v 5, v 6, .ref h, v 8, v 9, v 10])), (h, .inr (0, [.int 0, g 1, g 2, g 3, g 4, g 5, g 6, g 7, g 8, g 9, g 10, g 11, g 12, g 13, g 14]))]) [0, 1] (by decide) rfl
  have hKc := hK.sub (tys' := []) [] rfl
  have hFc := va_free (wc := [(x, .inr (7, [v 0, v 1, v 2, v 3, v 4, v 5, v 6, .ref h, v 8, v 9, v 10])), (h, .inr (0, [.int 0, g 1, g 2, g 3, g 4, g 5, g 6, g 7, g 8, g 9, g 10, g 11, g 12, g 13, g 14]))]) hD hS hA [0, 1] rfl
  refine va_calli (va_runV (As := []) (rest := []) ⟨hx, hb, hml, hown, hts⟩ (c_X7_hasGallery l dC dI s.heap.size x v h g ) (cwV 0 hts gX7_stairs_X7_hasGallery rfl rfl rfl (by decide +kernel) ⟨Nat.le_of_ble_eq_true rfl, Nat.le_of_ble_eq_true rfl⟩) ⟨ax_blind (fun _ _ _ _ _ => trivial), va_recv hKc hPc (ci := 7) (q0 := 0) rfl rfl, ax_pre hPc hKc hDc (fun _ _ => trivial)⟩ rfl rfl hl.1 rfl (lv_room (Nat.le_of_ble_eq_true rfl)) dX7_stairs_1 ⟨Nat.le_of_ble_eq_true rfl, Nat.le_of_ble_eq_true rfl⟩) hS (fun q _ h => hFc q h) hFc (fun r_1 u t H1 locs ht hvm hw hB hz1 hk1 hS => ?_)
  obtain ⟨hP1, hK1, hD1⟩ := hB
  rw [ht] at hP1
  have hK1 := va_K.moved hvm.symm hK1
  obtain ⟨hP, hD⟩ := va_join (wr := []) (w1 := [(x, .inr (7, [v 0, v 1, v 2, v 3, v 4, v 5, v 6, .ref h, v 8, v 9, v 10])), (h, .inr (0, [.int 0, g 1, g 2, g 3, g 4, g 5, g 6, g 7, g 8, g 9, g 10, g 11, g 12, g 13, g 14]))]) hP hD [0, 1] [] rfl rfl (by decide) (by decide) hk1 hFc hP1 hD1
  have hK := (hK.sub (tys' := []) [] rfl).app hK1
  generalize H1 = H at hP hS ⊢
  have hP : va_P (dC, dI) vwCl [(x, .inr (7, [v 0, v 1, v 2, v 3, v 4, v 5, v 6, .ref h, v 8, v 9, v 10])), (h, .inr (0, [.int 0, g 1, g 2, g 3, g 4, g 5, g 6, g 7, g 8, g 9, g 10, g 11, g 12, g 13, g 14]))] H := hP
  have hD : va_D A [(x, .inr (7, [v 0, v 1, v 2, v 3, v 4, v 5, v 6, .ref h, v 8, v 9, v 10])), (h, .inr (0, [.int 0, g 1, g 2, g 3, g 4, g 5, g 6, g 7, g 8, g 9, g 10, g 11, g 12, g 13, g 14]))] := hD
  have hK : va_K (dC, dI) vwCl [] s := hK
  have hw : r_1 = 0 := hw
  subst hw
  refine lv_if_ne (tgt := 13) hx hb dX7_stairs_4 (by decide) (fun c_2 => absurd (by decide +kernel) c_2) (fun _ => ?_)
  refine lv_aload_n hx hb dX7_stairs_7 rfl (lv_at hl 0 rfl) ?_
  refine lv_iconst (v := 1) hx hb dX7_stairs_8 (by decide) ?_
  have hPc := hP.sub (ws' := [(x, .inr (7, [v 0, v 1, v 2, v 3, v 4, v 5, v 6, .ref h, v 8, v 9, v 10]))]) [0] rfl
  have hDc := hD.sub (ws' := [(x, .inr (7, [v 0, v 1, v 2, v 3, v 4, v 5, v 6, .ref h, v 8, v 9, v 10]))]) [0] (by decide) rfl
  have hKc := hK.sub (tys' := []) [] rfl
  have hFc := va_free (wc := [(x, .inr (7, [v 0, v 1, v 2, v 3, v 4, v 5, v 6, .ref h, v 8, v 9, v 10]))]) hD hS hA [0] rfl
  refine va_calli (va_runV (As := [.int 1]) (rest := []) ⟨hx, hb, hml, hown, hts⟩ (c_X7_refused l dC dI H.size x 1 (fun i9 => ([v 0, v 1, v 2, v 3, v 4, v 5, v 6, .ref h, v 8, v 9, v 10] : List Value).getD i9 .null) ) (cwV 1 hts gX7_stairs_X7_refused rfl rfl rfl (by decide +kernel) ⟨Nat.le_of_ble_eq_true rfl, Nat.le_of_ble_eq_true rfl⟩) ⟨ax_blind (fun _ _ _ _ _ => trivial), va_recv hKc hPc (ci := 7) (q0 := 0) rfl rfl, ax_pre hPc hKc hDc (fun _ _ => trivial)⟩ rfl rfl hl.1 rfl (lv_room (Nat.le_of_ble_eq_true rfl)) dX7_stairs_9 ⟨Nat.le_of_ble_eq_true rfl, Nat.le_of_ble_eq_true rfl⟩) hS (fun q _ h => hFc q h) hFc (fun r_3 u t H1 locs ht hvm hw hB hz1 hk1 hS => ?_)
  obtain ⟨hP1, hK1, hD1⟩ := hB
  rw [ht] at hP1
  have hK1 := va_K.moved hvm.symm hK1
  obtain ⟨hP, hD⟩ := va_join (wr := [(h, .inr (0, [.int 0, g 1, g 2, g 3, g 4, g 5, g 6, g 7, g 8, g 9, g 10, g 11, g 12, g 13, g 14]))]) (w1 := []) hP hD [0] [1] rfl rfl (by decide) (by decide) hk1 hFc hP1 hD1
  have hK := (hK.sub (tys' := []) [] rfl).app hK1
  generalize H1 = H at hP hS ⊢
  have hP : va_P (dC, dI) vwCl [(h, .inr (0, [.int 0, g 1, g 2, g 3, g 4, g 5, g 6, g 7, g 8, g 9, g 10, g 11, g 12, g 13, g 14]))] H := hP
  have hD : va_D A [(h, .inr (0, [.int 0, g 1, g 2, g 3, g 4, g 5, g 6, g 7, g 8, g 9, g 10, g 11, g 12, g 13, g 14]))] := hD
  have hK : va_K (dC, dI) vwCl [] s := hK
  have hw : r_3 = (-1) := hw
  subst hw
  have hP9 := hP.sub (ws' := []) [] rfl
  have hD9 := hD.sub (ws' := []) [] (by decide) rfl
  have hK9 := hK.sub (tys' := []) [] rfl
  exact W.iret (v := (-1)) hx hb hr (fun t ht hW => ⟨⟨(-1), (), rfl, rfl, by rw [ht]; exact hP9, va_K.moved hW.alike hK9, hD9⟩, hS.F ht⟩) hS.2.2 dX7_stairs_12

set_option maxHeartbeats 4000000 in
set_option maxRecDepth 100000 in
theorem c_X7_catches (l : Launch) (dC : Nat → ClassId) (dI : Nat → Nat → Nat) (sz : Nat) (x : Nat) (a0 : Int32) (v : Nat → Value) (h : Nat) (g : Nat → Value) : Met l yX7_catches wsX7_catches ({ frames := 2, cells := 0, slots := 0, locals := 43 }) (va_Pc [.ref x, .int a0] (ax_C dC dI sz [(x, .inr (7, [v 0, v 1, v 2, v 3, v 4, v 5, v 6, .ref h, v 8, v 9, v 10])), (h, .inr (0, [.int 0, g 1, g 2, g 3, g 4, g 5, g 6, g 7, g 8, g 9, g 10, g 11, g 12, g 13, g 14]))] [] (fun _ => True))) (va_Qi (fun (r : Int32) (_ : Unit) => r = -1) (fun (_ : Unit) (t : State) => ax_B dC dI (va_A [(x, .inr (7, [v 0, v 1, v 2, v 3, v 4, v 5, v 6, .ref h, v 8, v 9, v 10])), (h, .inr (0, [.int 0, g 1, g 2, g 3, g 4, g 5, g 6, g 7, g 8, g 9, g 10, g 11, g 12, g 13, g 14]))] sz) [] [] t) (va_A [(x, .inr (7, [v 0, v 1, v 2, v 3, v 4, v 5, v 6, .ref h, v 8, v 9, v 10])), (h, .inr (0, [.int 0, g 1, g 2, g 3, g 4, g 5, g 6, g 7, g 8, g 9, g 10, g 11, g 12, g 13, g 14]))] sz)) 0 0 (va_A [(x, .inr (7, [v 0, v 1, v 2, v 3, v 4, v 5, v 6, .ref h, v 8, v 9, v 10])), (h, .inr (0, [.int 0, g 1, g 2, g 3, g 4, g 5, g 6, g 7, g 8, g 9, g 10, g 11, g 12, g 13, g 14]))] sz) := by
  refine Met.ofW (cc := cX7_catches) (maxL := 3) (ret := (some .int)) (by decide) rfl ?_
  intro p e s m args below meth c s₁ B hml hv
  obtain ⟨rfl, hsz, hP, hK, hD0, hE⟩ := hv
  have hx := B.exec
  have hb := B.bytes
  have hr := B.returns
  have hts := atoms_spec (ws := wsX7_catches) B.pre
  have hown : s.vm.findClass RX7 = some m.cls := findClass_of_methodNamed B.named
  have hlocks := B.notSynchronized
  subst hsz
  have hD := hD0.self (sz := s.heap.size)
  generalize hAe : va_A [(x, .inr (7, [v 0, v 1, v 2, v 3, v 4, v 5, v 6, .ref h, v 8, v 9, v 10])), (h, .inr (0, [.int 0, g 1, g 2, g 3, g 4, g 5, g 6, g 7, g 8, g 9, g 10, g 11, g 12, g 13, g 14]))] s.heap.size = A at hD ⊢
  have hA : ∀ q : Nat, s.heap.size ≤ q → A q := fun q h => by rw [← hAe]; exact Or.inr h
  have hS : va_S A s.heap s.heap [] := va_S.rf
  have hP : va_P (dC, dI) vwCl [(x, .inr (7, [v 0, v 1, v 2, v 3, v 4, v 5, v 6, .ref h, v 8, v 9, v 10])), (h, .inr (0, [.int 0, g 1, g 2, g 3, g 4, g 5, g 6, g 7, g 8, g 9, g 10, g 11, g 12, g 13, g 14]))] s.heap := hP
  have hl := lv_entry ([.ref x, .int a0]) (n := 3) (Nat.le_of_ble_eq_true rfl)
  rw [lg_entry_eq]
  generalize (lg_sl ([.ref x, .int a0]) ++ List.replicate (3 - (lg_sl ([.ref x, .int a0])).length) Slot.unset).toArray = ls at hl ⊢
  have hl : lv_has ls 3 [(0, .ref x), (1, .int a0)] := hl
  refine lv_aload_n hx hb dX7_catches_0 rfl (lv_at hl 0 rfl) ?_
  refine lv_iload_n hx hb dX7_catches_1 rfl (lv_at hl 1 rfl) ?_
  refine lv_iconst (v := 0) hx hb dX7_catches_2 (by decide) ?_
  refine lv_sipush (v := 300) hx hb dX7_catches_3 (by decide) ?_
  have hPc := hP.sub (ws' := [(x, .inr (7, [v 0, v 1, v 2, v 3, v 4, v 5, v 6, .ref h, v 8, v 9, v 10])), (h, .inr (0, [.int 0, g 1, g 2, g 3, g 4, g 5, g 6, g 7, g 8, g 9, g 10, g 11, g 12, g 13, g 14]))]) [0, 1] rfl
  have hDc := hD.sub (ws' := [(x, .inr (7, [v 0, v 1, v 2, v 3, v 4, v 5, v 6, .ref h, v 8, v 9, v 10])), (h, .inr (0, [.int 0, g 1, g 2, g 3, g 4, g 5, g 6, g 7, g 8, g 9, g 10, g 11, g 12, g 13, g 14]))]) [0, 1] (by decide) rfl
  have hKc := hK.sub (tys' := []) [] rfl
  have hFc := va_free (wc := [(x, .inr (7, [v 0, v 1, v 2, v 3, v 4, v 5, v 6, .ref h, v 8, v 9, v 10])), (h, .inr (0, [.int 0, g 1, g 2, g 3, g 4, g 5, g 6, g 7, g 8, g 9, g 10, g 11, g 12, g 13, g 14]))]) hD hS hA [0, 1] rfl
  refine va_calli (va_runV (As := [.int a0, .int 0, .int 300]) (rest := []) ⟨hx, hb, hml, hown, hts⟩ (c_X7_troubleOfNumber l dC dI s.heap.size x a0 0 300 v h g ) (cwV 3 hts gX7_catches_X7_troubleOfNumber rfl rfl rfl (by decide +kernel) ⟨Nat.le_of_ble_eq_true rfl, Nat.le_of_ble_eq_true rfl⟩) ⟨ax_blind (fun _ _ _ _ _ => trivial), va_recv hKc hPc (ci := 7) (q0 := 0) rfl rfl, ax_pre hPc hKc hDc (fun _ _ => trivial)⟩ rfl rfl hl.1 rfl (lv_room (Nat.le_of_ble_eq_true rfl)) dX7_catches_6 ⟨Nat.le_of_ble_eq_true rfl, Nat.le_of_ble_eq_true rfl⟩) hS (fun q _ h => hFc q h) hFc (fun r_1 u t H1 locs ht hvm hw hB hz1 hk1 hS => ?_)
  obtain ⟨hP1, hK1, hD1⟩ := hB
  rw [ht] at hP1
  have hK1 := va_K.moved hvm.symm hK1
  obtain ⟨hP, hD⟩ := va_join (wr := []) (w1 := [(x, .inr (7, [v 0, v 1, v 2, v 3, v 4, v 5, v 6, .ref h, v 8, v 9, v 10])), (h, .inr (0, [.int 0, g 1, g 2, g 3, g 4, g 5, g 6, g 7, g 8, g 9, g 10, g 11, g 12, g 13, g 14]))]) hP hD [0, 1] [] rfl rfl (by decide) (by decide) hk1 hFc hP1 hD1
  have hK := (hK.sub (tys' := []) [] rfl).app hK1
  generalize H1 = H at hP hS ⊢
  have hP : va_P (dC, dI) vwCl [(x, .inr (7, [v 0, v 1, v 2, v 3, v 4, v 5, v 6, .ref h, v 8, v 9, v 10])), (h, .inr (0, [.int 0, g 1, g 2, g 3, g 4, g 5, g 6, g 7, g 8, g 9, g 10, g 11, g 12, g 13, g 14]))] H := hP
  have hD : va_D A [(x, .inr (7, [v 0, v 1, v 2, v 3, v 4, v 5, v 6, .ref h, v 8, v 9, v 10])), (h, .inr (0, [.int 0, g 1, g 2, g 3, g 4, g 5, g 6, g 7, g 8, g 9, g 10, g 11, g 12, g 13, g 14]))] := hD
  have hK : va_K (dC, dI) vwCl [] s := hK
  have hw : r_1 = 1 := hw
  subst hw
  refine lv_istore_n (lv' := [(2, .int 1), (0, .ref x), (1, .int a0)]) hx hb dX7_catches_9 rfl hl (by decide) rfl (fun ls hl => ?_)
  refine lv_iload_n hx hb dX7_catches_10 rfl (lv_at hl 0 rfl) ?_
  refine lv_if_eq (tgt := 20) hx hb dX7_catches_11 (by decide) (fun c_2 => absurd c_2 (by decide +kernel)) (fun _ => ?_)
  refine lv_aload_n hx hb dX7_catches_14 rfl (lv_at hl 1 rfl) ?_
  refine lv_iload_n hx hb dX7_catches_15 rfl (lv_at hl 0 rfl) ?_
  have hPc := hP.sub (ws' := [(x, .inr (7, [v 0, v 1, v 2, v 3, v 4, v 5, v 6, .ref h, v 8, v 9, v 10]))]) [0] rfl
  have hDc := hD.sub (ws' := [(x, .inr (7, [v 0, v 1, v 2, v 3, v 4, v 5, v 6, .ref h, v 8, v 9, v 10]))]) [0] (by decide) rfl
  have hKc := hK.sub (tys' := []) [] rfl
  have hFc := va_free (wc := [(x, .inr (7, [v 0, v 1, v 2, v 3, v 4, v 5, v 6, .ref h, v 8, v 9, v 10]))]) hD hS hA [0] rfl
  refine va_calli (va_runV (As := [.int 1]) (rest := []) ⟨hx, hb, hml, hown, hts⟩ (c_X7_refused l dC dI H.size x 1 (fun i9 => ([v 0, v 1, v 2, v 3, v 4, v 5, v 6, .ref h, v 8, v 9, v 10] : List Value).getD i9 .null) ) (cwV 1 hts gX7_catches_X7_refused rfl rfl rfl (by decide +kernel) ⟨Nat.le_of_ble_eq_true rfl, Nat.le_of_ble_eq_true rfl⟩) ⟨ax_blind (fun _ _ _ _ _ => trivial), va_recv hKc hPc (ci := 7) (q0 := 0) rfl rfl, ax_pre hPc hKc hDc (fun _ _ => trivial)⟩ rfl rfl hl.1 rfl (lv_room (Nat.le_of_ble_eq_true rfl)) dX7_catches_16 ⟨Nat.le_of_ble_eq_true rfl, Nat.le_of_ble_eq_true rfl⟩) hS (fun q _ h => hFc q h) hFc (fun r_3 u t H1 locs ht hvm hw hB hz1 hk1 hS => ?_)
  obtain ⟨hP1, hK1, hD1⟩ := hB
  rw [ht] at hP1
  have hK1 := va_K.moved hvm.symm hK1
  obtain ⟨hP, hD⟩ := va_join (wr := [(h, .inr (0, [.int 0, g 1, g 2, g 3, g 4, g 5, g 6, g 7, g 8, g 9, g 10, g 11, g 12, g 13, g 14]))]) (w1 := []) hP hD [0] [1] rfl rfl (by decide) (by decide) hk1 hFc hP1 hD1
  have hK := (hK.sub (tys' := []) [] rfl).app hK1
  generalize H1 = H at hP hS ⊢
  have hP : va_P (dC, dI) vwCl [(h, .inr (0, [.int 0, g 1, g 2, g 3, g 4, g 5, g 6, g 7, g 8, g 9, g 10, g 11, g 12, g 13, g 14]))] H := hP
  have hD : va_D A [(h, .inr (0, [.int 0, g 1, g 2, g 3, g 4, g 5, g 6, g 7, g 8, g 9, g 10, g 11, g 12, g 13, g 14]))] := hD
  have hK : va_K (dC, dI) vwCl [] s := hK
  have hw : r_3 = (-1) := hw
  subst hw
  have hP9 := hP.sub (ws' := []) [] rfl
  have hD9 := hD.sub (ws' := []) [] (by decide) rfl
  have hK9 := hK.sub (tys' := []) [] rfl
  exact W.iret (v := (-1)) hx hb hr (fun t ht hW => ⟨⟨(-1), (), rfl, rfl, by rw [ht]; exact hP9, va_K.moved hW.alike hK9, hD9⟩, hS.F ht⟩) hS.2.2 dX7_catches_19

set_option maxHeartbeats 4000000 in
set_option maxRecDepth 100000 in
theorem c_X7_heard (l : Launch) (dC : Nat → ClassId) (dI : Nat → Nat → Nat) (sz : Nat) (x : Nat) (a0 : Int32) (a1 : Int32) (v : Nat → Value) (h : Nat) (g : Nat → Value) : Met l yX7_heard wsX7_heard ({ frames := 3, cells := 0, slots := 0, locals := 66 }) (va_Pc [.ref x, .int a0, .int a1] (ax_C dC dI sz [(x, .inr (7, [v 0, v 1, v 2, v 3, v 4, v 5, v 6, .ref h, v 8, v 9, v 10])), (h, .inr (0, [.int 0, g 1, g 2, g 3, g 4, g 5, g 6, g 7, g 8, g 9, g 10, g 11, g 12, g 13, g 14]))] [] (fun _ => True))) (va_Qi (fun (r : Int32) (_ : Unit) => r = -1) (fun (_ : Unit) (t : State) => ax_B dC dI (va_A [(x, .inr (7, [v 0, v 1, v 2, v 3, v 4, v 5, v 6, .ref h, v 8, v 9, v 10])), (h, .inr (0, [.int 0, g 1, g 2, g 3, g 4, g 5, g 6, g 7, g 8, g 9, g 10, g 11, g 12, g 13, g 14]))] sz) [] [] t) (va_A [(x, .inr (7, [v 0, v 1, v 2, v 3, v 4, v 5, v 6, .ref h, v 8, v 9, v 10])), (h, .inr (0, [.int 0, g 1, g 2, g 3, g 4, g 5, g 6, g 7, g 8, g 9, g 10, g 11, g 12, g 13, g 14]))] sz)) 0 0 (va_A [(x, .inr (7, [v 0, v 1, v 2, v 3, v 4, v 5, v 6, .ref h, v 8, v 9, v 10])), (h, .inr (0, [.int 0, g 1, g 2, g 3, g 4, g 5, g 6, g 7, g 8, g 9, g 10, g 11, g 12, g 13, g 14]))] sz) := by
  refine Met.ofW (cc := cX7_heard) (maxL := 4) (ret := (some .int)) (by decide) rfl ?_
  intro p e s m args below meth c s₁ B hml hv
  obtain ⟨rfl, hsz, hP, hK, hD0, hE⟩ := hv
  have hx := B.exec
  have hb := B.bytes
  have hr := B.returns
  have hts := atoms_spec (ws := wsX7_heard) B.pre
  have hown : s.vm.findClass RX7 = some m.cls := findClass_of_methodNamed B.named
  have hlocks := B.notSynchronized
  subst hsz
  have hD := hD0.self (sz := s.heap.size)
  generalize hAe : va_A [(x, .inr (7, [v 0, v 1, v 2, v 3, v 4, v 5, v 6, .ref h, v 8, v 9, v 10])), (h, .inr (0, [.int 0, g 1, g 2, g 3, g 4, g 5, g 6, g 7, g 8, g 9, g 10, g 11, g 12, g 13, g 14]))] s.heap.size = A at hD ⊢
  have hA : ∀ q : Nat, s.heap.size ≤ q → A q := fun q h => by rw [← hAe]; exact Or.inr h
  have hS : va_S A s.heap s.heap [] := va_S.rf
  have hP : va_P (dC, dI) vwCl [(x, .inr (7, [v 0, v 1, v 2, v 3, v 4, v 5, v 6, .ref h, v 8, v 9, v 10])), (h, .inr (0, [.int 0, g 1, g 2, g 3, g 4, g 5, g 6, g 7, g 8, g 9, g 10, g 11, g 12, g 13, g 14]))] s.heap := hP
  have hl := lv_entry ([.ref x, .int a0, .int a1]) (n := 4) (Nat.le_of_ble_eq_true rfl)
  rw [lg_entry_eq]
  generalize (lg_sl ([.ref x, .int a0, .int a1]) ++ List.replicate (4 - (lg_sl ([.ref x, .int a0, .int a1])).length) Slot.unset).toArray = ls at hl ⊢
  have hl : lv_has ls 4 [(0, .ref x), (1, .int a0), (2, .int a1)] := hl
  refine lv_aload_n hx hb dX7_heard_0 rfl (lv_at hl 0 rfl) ?_
  refine lv_iload_n hx hb dX7_heard_1 rfl (lv_at hl 1 rfl) ?_
  refine lv_iload_n hx hb dX7_heard_2 rfl (lv_at hl 2 rfl) ?_
  refine lv_sipush (v := 300) hx hb dX7_heard_3 (by decide) ?_
  have hPc := hP.sub (ws' := [(x, .inr (7, [v 0, v 1, v 2, v 3, v 4, v 5, v 6, .ref h, v 8, v 9, v 10])), (h, .inr (0, [.int 0, g 1, g 2, g 3, g 4, g 5, g 6, g 7, g 8, g 9, g 10, g 11, g 12, g 13, g 14]))]) [0, 1] rfl
  have hDc := hD.sub (ws' := [(x, .inr (7, [v 0, v 1, v 2, v 3, v 4, v 5, v 6, .ref h, v 8, v 9, v 10])), (h, .inr (0, [.int 0, g 1, g 2, g 3, g 4, g 5, g 6, g 7, g 8, g 9, g 10, g 11, g 12, g 13, g 14]))]) [0, 1] (by decide) rfl
  have hKc := hK.sub (tys' := []) [] rfl
  have hFc := va_free (wc := [(x, .inr (7, [v 0, v 1, v 2, v 3, v 4, v 5, v 6, .ref h, v 8, v 9, v 10])), (h, .inr (0, [.int 0, g 1, g 2, g 3, g 4, g 5, g 6, g 7, g 8, g 9, g 10, g 11, g 12, g 13, g 14]))]) hD hS hA [0, 1] rfl
  refine va_calli (va_runV (As := [.int a0, .int a1, .int 300]) (rest := []) ⟨hx, hb, hml, hown, hts⟩ (c_X7_troubleOfFigureWithin l dC dI s.heap.size x a0 a1 300 v h g ) (cwV 3 hts gX7_heard_X7_troubleOfFigureWithin rfl rfl rfl (by decide +kernel) ⟨Nat.le_of_ble_eq_true rfl, Nat.le_of_ble_eq_true rfl⟩) ⟨ax_blind (fun _ _ _ _ _ => trivial), va_recv hKc hPc (ci := 7) (q0 := 0) rfl rfl, ax_pre hPc hKc hDc (fun _ _ => trivial)⟩ rfl rfl hl.1 rfl (lv_room (Nat.le_of_ble_eq_true rfl)) dX7_heard_6 ⟨Nat.le_of_ble_eq_true rfl, Nat.le_of_ble_eq_true rfl⟩) hS (fun q _ h => hFc q h) hFc (fun r_1 u t H1 locs ht hvm hw hB hz1 hk1 hS => ?_)
  obtain ⟨hP1, hK1, hD1⟩ := hB
  rw [ht] at hP1
  have hK1 := va_K.moved hvm.symm hK1
  obtain ⟨hP, hD⟩ := va_join (wr := []) (w1 := [(x, .inr (7, [v 0, v 1, v 2, v 3, v 4, v 5, v 6, .ref h, v 8, v 9, v 10])), (h, .inr (0, [.int 0, g 1, g 2, g 3, g 4, g 5, g 6, g 7, g 8, g 9, g 10, g 11, g 12, g 13, g 14]))]) hP hD [0, 1] [] rfl rfl (by decide) (by decide) hk1 hFc hP1 hD1
  have hK := (hK.sub (tys' := []) [] rfl).app hK1
  generalize H1 = H at hP hS ⊢
  have hP : va_P (dC, dI) vwCl [(x, .inr (7, [v 0, v 1, v 2, v 3, v 4, v 5, v 6, .ref h, v 8, v 9, v 10])), (h, .inr (0, [.int 0, g 1, g 2, g 3, g 4, g 5, g 6, g 7, g 8, g 9, g 10, g 11, g 12, g 13, g 14]))] H := hP
  have hD : va_D A [(x, .inr (7, [v 0, v 1, v 2, v 3, v 4, v 5, v 6, .ref h, v 8, v 9, v 10])), (h, .inr (0, [.int 0, g 1, g 2, g 3, g 4, g 5, g 6, g 7, g 8, g 9, g 10, g 11, g 12, g 13, g 14]))] := hD
  have hK : va_K (dC, dI) vwCl [] s := hK
  have hw : r_1 = 1 := hw
  subst hw
  refine lv_istore_n (lv' := [(3, .int 1), (0, .ref x), (1, .int a0), (2, .int a1)]) hx hb dX7_heard_9 rfl hl (by decide) rfl (fun ls hl => ?_)
  refine lv_iload_n hx hb dX7_heard_10 rfl (lv_at hl 0 rfl) ?_
  refine lv_if_eq (tgt := 20) hx hb dX7_heard_11 (by decide) (fun c_2 => absurd c_2 (by decide +kernel)) (fun _ => ?_)
  refine lv_aload_n hx hb dX7_heard_14 rfl (lv_at hl 1 rfl) ?_
  refine lv_iload_n hx hb dX7_heard_15 rfl (lv_at hl 0 rfl) ?_
  have hPc := hP.sub (ws' := [(x, .inr (7, [v 0, v 1, v 2, v 3, v 4, v 5, v 6, .ref h, v 8, v 9, v 10]))]) [0] rfl
  have hDc := hD.sub (ws' := [(x, .inr (7, [v 0, v 1, v 2, v 3, v 4, v 5, v 6, .ref h, v 8, v 9, v 10]))]) [0] (by decide) rfl
  have hKc := hK.sub (tys' := []) [] rfl
  have hFc := va_free (wc := [(x, .inr (7, [v 0, v 1, v 2, v 3, v 4, v 5, v 6, .ref h, v 8, v 9, v 10]))]) hD hS hA [0] rfl
  refine va_calli (va_runV (As := [.int 1]) (rest := []) ⟨hx, hb, hml, hown, hts⟩ (c_X7_refused l dC dI H.size x 1 (fun i9 => ([v 0, v 1, v 2, v 3, v 4, v 5, v 6, .ref h, v 8, v 9, v 10] : List Value).getD i9 .null) ) (cwV 1 hts gX7_heard_X7_refused rfl rfl rfl (by decide +kernel) ⟨Nat.le_of_ble_eq_true rfl, Nat.le_of_ble_eq_true rfl⟩) ⟨ax_blind (fun _ _ _ _ _ => trivial), va_recv hKc hPc (ci := 7) (q0 := 0) rfl rfl, ax_pre hPc hKc hDc (fun _ _ => trivial)⟩ rfl rfl hl.1 rfl (lv_room (Nat.le_of_ble_eq_true rfl)) dX7_heard_16 ⟨Nat.le_of_ble_eq_true rfl, Nat.le_of_ble_eq_true rfl⟩) hS (fun q _ h => hFc q h) hFc (fun r_3 u t H1 locs ht hvm hw hB hz1 hk1 hS => ?_)
  obtain ⟨hP1, hK1, hD1⟩ := hB
  rw [ht] at hP1
  have hK1 := va_K.moved hvm.symm hK1
  obtain ⟨hP, hD⟩ := va_join (wr := [(h, .inr (0, [.int 0, g 1, g 2, g 3, g 4, g 5, g 6, g 7, g 8, g 9, g 10, g 11, g 12, g 13, g 14]))]) (w1 := []) hP hD [0] [1] rfl rfl (by decide) (by decide) hk1 hFc hP1 hD1
  have hK := (hK.sub (tys' := []) [] rfl).app hK1
  generalize H1 = H at hP hS ⊢
  have hP : va_P (dC, dI) vwCl [(h, .inr (0, [.int 0, g 1, g 2, g 3, g 4, g 5, g 6, g 7, g 8, g 9, g 10, g 11, g 12, g 13, g 14]))] H := hP
  have hD : va_D A [(h, .inr (0, [.int 0, g 1, g 2, g 3, g 4, g 5, g 6, g 7, g 8, g 9, g 10, g 11, g 12, g 13, g 14]))] := hD
  have hK : va_K (dC, dI) vwCl [] s := hK
  have hw : r_3 = (-1) := hw
  subst hw
  have hP9 := hP.sub (ws' := []) [] rfl
  have hD9 := hD.sub (ws' := []) [] (by decide) rfl
  have hK9 := hK.sub (tys' := []) [] rfl
  exact W.iret (v := (-1)) hx hb hr (fun t ht hW => ⟨⟨(-1), (), rfl, rfl, by rw [ht]; exact hP9, va_K.moved hW.alike hK9, hD9⟩, hS.F ht⟩) hS.2.2 dX7_heard_19

set_option maxHeartbeats 4000000 in
set_option maxRecDepth 100000 in
theorem c_X7_allIn (l : Launch) (dC : Nat → ClassId) (dI : Nat → Nat → Nat) (sz : Nat) (x : Nat) (a0 : Int32) (v : Nat → Value) (h : Nat) (g : Nat → Value) : Met l yX7_allIn wsX7_allIn ({ frames := 2, cells := 0, slots := 0, locals := 43 }) (va_Pc [.ref x, .int a0] (ax_C dC dI sz [(x, .inr (7, [v 0, v 1, v 2, v 3, v 4, v 5, v 6, .ref h, v 8, v 9, v 10])), (h, .inr (0, [.int 0, g 1, g 2, g 3, g 4, g 5, g 6, g 7, g 8, g 9, g 10, g 11, g 12, g 13, g 14]))] [] (fun _ => True))) (va_Qi (fun (r : Int32) (_ : Unit) => r = -1) (fun (_ : Unit) (t : State) => ax_B dC dI (va_A [(x, .inr (7, [v 0, v 1, v 2, v 3, v 4, v 5, v 6, .ref h, v 8, v 9, v 10])), (h, .inr (0, [.int 0, g 1, g 2, g 3, g 4, g 5, g 6, g 7, g 8, g 9, g 10, g 11, g 12, g 13, g 14]))] sz) [] [] t) (va_A [(x, .inr (7, [v 0, v 1, v 2, v 3, v 4, v 5, v 6, .ref h, v 8, v 9, v 10])), (h, .inr (0, [.int 0, g 1, g 2, g 3, g 4, g 5, g 6, g 7, g 8, g 9, g 10, g 11, g 12, g 13, g 14]))] sz)) 0 0 (va_A [(x, .inr (7, [v 0, v 1, v 2, v 3, v 4, v 5, v 6, .ref h, v 8, v 9, v 10])), (h, .inr (0, [.int 0, g 1, g 2, g 3, g 4, g 5, g 6, g 7, g 8, g 9, g 10, g 11, g 12, g 13, g 14]))] sz) := by
  refine Met.ofW (cc := cX7_allIn) (maxL := 4) (ret := (some .int)) (by decide) rfl ?_
  intro p e s m args below meth c s₁ B hml hv
  obtain ⟨rfl, hsz, hP, hK, hD0, hE⟩ := hv
  have hx := B.exec
  have hb := B.bytes
  have hr := B.returns
  have hts := atoms_spec (ws := wsX7_allIn) B.pre
  have hown : s.vm.findClass RX7 = some m.cls := findClass_of_methodNamed B.named
  have hlocks := B.notSynchronized
  subst hsz
  have hD := hD0.self (sz := s.heap.size)
  generalize hAe : va_A [(x, .inr (7, [v 0, v 1, v 2, v 3, v 4, v 5, v 6, .ref h, v 8, v 9, v 10])), (h, .inr (0, [.int 0, g 1, g 2, g 3, g 4, g 5, g 6, g 7, g 8, g 9, g 10, g 11, g 12, g 13, g 14]))] s.heap.size = A at hD ⊢
  have hA : ∀ q : Nat, s.heap.size ≤ q → A q := fun q h => by rw [← hAe]; exact Or.inr h
  have hS : va_S A s.heap s.heap [] := va_S.rf
  have hP : va_P (dC, dI) vwCl [(x, .inr (7, [v 0, v 1, v 2, v 3, v 4, v 5, v 6, .ref h, v 8, v 9, v 10])), (h, .inr (0, [.int 0, g 1, g 2, g 3, g 4, g 5, g 6, g 7, g 8, g 9, g 10, g 11, g 12, g 13, g 14]))] s.heap := hP
  have hl := lv_entry ([.ref x, .int a0]) (n := 4) (Nat.le_of_ble_eq_true rfl)
  rw [lg_entry_eq]
  generalize (lg_sl ([.ref x, .int a0]) ++ List.replicate (4 - (lg_sl ([.ref x, .int a0])).length) Slot.unset).toArray = ls at hl ⊢
  have hl : lv_has ls 4 [(0, .ref x), (1, .int a0)] := hl
  refine lv_aload_n hx hb dX7_allIn_0 rfl (lv_at hl 0 rfl) ?_
  refine lv_iload_n hx hb dX7_allIn_1 rfl (lv_at hl 1 rfl) ?_
  have hPc := hP.sub (ws' := [(x, .inr (7, [v 0, v 1, v 2, v 3, v 4, v 5, v 6, .ref h, v 8, v 9, v 10])), (h, .inr (0, [.int 0, g 1, g 2, g 3, g 4, g 5, g 6, g 7, g 8, g 9, g 10, g 11, g 12, g 13, g 14]))]) [0, 1] rfl
  have hDc := hD.sub (ws' := [(x, .inr (7, [v 0, v 1, v 2, v 3, v 4, v 5, v 6, .ref h, v 8, v 9, v 10])), (h, .inr (0, [.int 0, g 1, g 2, g 3, g 4, g 5, g 6, g 7, g 8, g 9, g 10, g 11, g 12, g 13, g 14]))]) [0, 1] (by decide) rfl
  have hKc := hK.sub (tys' := []) [] rfl
  have hFc := va_free (wc := [(x, .inr (7, [v 0, v 1, v 2, v 3, v 4, v 5, v 6, .ref h, v 8, v 9, v 10])), (h, .inr (0, [.int 0, g 1, g 2, g 3, g 4, g 5, g 6, g 7, g 8, g 9, g 10, g 11, g 12, g 13, g 14]))]) hD hS hA [0, 1] rfl
  refine va_calli (va_runV (As := [.int a0]) (rest := []) ⟨hx, hb, hml, hown, hts⟩ (c_X7_isFigure l dC dI s.heap.size x a0 v h g ) (cwV 1 hts gX7_allIn_X7_isFigure rfl rfl rfl (by decide +kernel) ⟨Nat.le_of_ble_eq_true rfl, Nat.le_of_ble_eq_true rfl⟩) ⟨ax_blind (fun _ _ _ _ _ => trivial), va_recv hKc hPc (ci := 7) (q0 := 0) rfl rfl, ax_pre hPc hKc hDc (fun _ _ => trivial)⟩ rfl rfl hl.1 rfl (lv_room (Nat.le_of_ble_eq_true rfl)) dX7_allIn_2 ⟨Nat.le_of_ble_eq_true rfl, Nat.le_of_ble_eq_true rfl⟩) hS (fun q _ h => hFc q h) hFc (fun r_1 u t H1 locs ht hvm hw hB hz1 hk1 hS => ?_)
  obtain ⟨hP1, hK1, hD1⟩ := hB
  rw [ht] at hP1
  have hK1 := va_K.moved hvm.symm hK1
  obtain ⟨hP, hD⟩ := va_join (wr := []) (w1 := [(x, .inr (7, [v 0, v 1, v 2, v 3, v 4, v 5, v 6, .ref h, v 8, v 9, v 10])), (h, .inr (0, [.int 0, g 1, g 2, g 3, g 4, g 5, g 6, g 7, g 8, g 9, g 10, g 11, g 12, g 13, g 14]))]) hP hD [0, 1] [] rfl rfl (by decide) (by decide) hk1 hFc hP1 hD1
  have hK := (hK.sub (tys' := []) [] rfl).app hK1
  generalize H1 = H at hP hS ⊢
  have hP : va_P (dC, dI) vwCl [(x, .inr (7, [v 0, v 1, v 2, v 3, v 4, v 5, v 6, .ref h, v 8, v 9, v 10])), (h, .inr (0, [.int 0, g 1, g 2, g 3, g 4, g 5, g 6, g 7, g 8, g 9, g 10, g 11, g 12, g 13, g 14]))] H := hP
  have hD : va_D A [(x, .inr (7, [v 0, v 1, v 2, v 3, v 4, v 5, v 6, .ref h, v 8, v 9, v 10])), (h, .inr (0, [.int 0, g 1, g 2, g 3, g 4, g 5, g 6, g 7, g 8, g 9, g 10, g 11, g 12, g 13, g 14]))] := hD
  have hK : va_K (dC, dI) vwCl [] s := hK
  have hw : r_1 = 0 := hw
  subst hw
  refine lv_if_ne (tgt := 14) hx hb dX7_allIn_5 (by decide) (fun c_2 => absurd (by decide +kernel) c_2) (fun _ => ?_)
  refine lv_aload_n hx hb dX7_allIn_8 rfl (lv_at hl 0 rfl) ?_
  refine lv_iconst (v := 1) hx hb dX7_allIn_9 (by decide) ?_
  have hPc := hP.sub (ws' := [(x, .inr (7, [v 0, v 1, v 2, v 3, v 4, v 5, v 6, .ref h, v 8, v 9, v 10]))]) [0] rfl
  have hDc := hD.sub (ws' := [(x, .inr (7, [v 0, v 1, v 2, v 3, v 4, v 5, v 6, .ref h, v 8, v 9, v 10]))]) [0] (by decide) rfl
  have hKc := hK.sub (tys' := []) [] rfl
  have hFc := va_free (wc := [(x, .inr (7, [v 0, v 1, v 2, v 3, v 4, v 5, v 6, .ref h, v 8, v 9, v 10]))]) hD hS hA [0] rfl
  refine va_calli (va_runV (As := [.int 1]) (rest := []) ⟨hx, hb, hml, hown, hts⟩ (c_X7_refused l dC dI H.size x 1 (fun i9 => ([v 0, v 1, v 2, v 3, v 4, v 5, v 6, .ref h, v 8, v 9, v 10] : List Value).getD i9 .null) ) (cwV 1 hts gX7_allIn_X7_refused rfl rfl rfl (by decide +kernel) ⟨Nat.le_of_ble_eq_true rfl, Nat.le_of_ble_eq_true rfl⟩) ⟨ax_blind (fun _ _ _ _ _ => trivial), va_recv hKc hPc (ci := 7) (q0 := 0) rfl rfl, ax_pre hPc hKc hDc (fun _ _ => trivial)⟩ rfl rfl hl.1 rfl (lv_room (Nat.le_of_ble_eq_true rfl)) dX7_allIn_10 ⟨Nat.le_of_ble_eq_true rfl, Nat.le_of_ble_eq_true rfl⟩) hS (fun q _ h => hFc q h) hFc (fun r_3 u t H1 locs ht hvm hw hB hz1 hk1 hS => ?_)
  obtain ⟨hP1, hK1, hD1⟩ := hB
  rw [ht] at hP1
  have hK1 := va_K.moved hvm.symm hK1
  obtain ⟨hP, hD⟩ := va_join (wr := [(h, .inr (0, [.int 0, g 1, g 2, g 3, g 4, g 5, g 6, g 7, g 8, g 9, g 10, g 11, g 12, g 13, g 14]))]) (w1 := []) hP hD [0] [1] rfl rfl (by decide) (by decide) hk1 hFc hP1 hD1
  have hK := (hK.sub (tys' := []) [] rfl).app hK1
  generalize H1 = H at hP hS ⊢
  have hP : va_P (dC, dI) vwCl [(h, .inr (0, [.int 0, g 1, g 2, g 3, g 4, g 5, g 6, g 7, g 8, g 9, g 10, g 11, g 12, g 13, g 14]))] H := hP
  have hD : va_D A [(h, .inr (0, [.int 0, g 1, g 2, g 3, g 4, g 5, g 6, g 7, g 8, g 9, g 10, g 11, g 12, g 13, g 14]))] := hD
  have hK : va_K (dC, dI) vwCl [] s := hK
  have hw : r_3 = (-1) := hw
  subst hw
  have hP9 := hP.sub (ws' := []) [] rfl
  have hD9 := hD.sub (ws' := []) [] (by decide) rfl
  have hK9 := hK.sub (tys' := []) [] rfl
  exact W.iret (v := (-1)) hx hb hr (fun t ht hW => ⟨⟨(-1), (), rfl, rfl, by rw [ht]; exact hP9, va_K.moved hW.alike hK9, hD9⟩, hS.F ht⟩) hS.2.2 dX7_allIn_13

set_option maxHeartbeats 4000000 in
set_option maxRecDepth 100000 in
theorem c_X7_crowd (l : Launch) (dC : Nat → ClassId) (dI : Nat → Nat → Nat) (sz : Nat) (x : Nat) (a0 : Int32) (v : Nat → Value) (h : Nat) (g : Nat → Value) : Met l yX7_crowd wsX7_crowd ({ frames := 2, cells := 0, slots := 0, locals := 43 }) (va_Pc [.ref x, .int a0] (ax_C dC dI sz [(x, .inr (7, [v 0, v 1, v 2, v 3, v 4, v 5, v 6, .ref h, v 8, v 9, v 10])), (h, .inr (0, [.int 0, g 1, g 2, g 3, g 4, g 5, g 6, g 7, g 8, g 9, g 10, g 11, g 12, g 13, g 14]))] [] (fun _ => True))) (va_Qi (fun (r : Int32) (_ : Unit) => r = -1) (fun (_ : Unit) (t : State) => ax_B dC dI (va_A [(x, .inr (7, [v 0, v 1, v 2, v 3, v 4, v 5, v 6, .ref h, v 8, v 9, v 10])), (h, .inr (0, [.int 0, g 1, g 2, g 3, g 4, g 5, g 6, g 7, g 8, g 9, g 10, g 11, g 12, g 13, g 14]))] sz) [] [] t) (va_A [(x, .inr (7, [v 0, v 1, v 2, v 3, v 4, v 5, v 6, .ref h, v 8, v 9, v 10])), (h, .inr (0, [.int 0, g 1, g 2, g 3, g 4, g 5, g 6, g 7, g 8, g 9, g 10, g 11, g 12, g 13, g 14]))] sz)) 0 0 (va_A [(x, .inr (7, [v 0, v 1, v 2, v 3, v 4, v 5, v 6, .ref h, v 8, v 9, v 10])), (h, .inr (0, [.int 0, g 1, g 2, g 3, g 4, g 5, g 6, g 7, g 8, g 9, g 10, g 11, g 12, g 13, g 14]))] sz) := by
  refine Met.ofW (cc := cX7_crowd) (maxL := 5) (ret := (some .int)) (by decide) rfl ?_
  intro p e s m args below meth c s₁ B hml hv
  obtain ⟨rfl, hsz, hP, hK, hD0, hE⟩ := hv
  have hx := B.exec
  have hb := B.bytes
  have hr := B.returns
  have hts := atoms_spec (ws := wsX7_crowd) B.pre
  have hown : s.vm.findClass RX7 = some m.cls := findClass_of_methodNamed B.named
  have hlocks := B.notSynchronized
  subst hsz
  have hD := hD0.self (sz := s.heap.size)
  generalize hAe : va_A [(x, .inr (7, [v 0, v 1, v 2, v 3, v 4, v 5, v 6, .ref h, v 8, v 9, v 10])), (h, .inr (0, [.int 0, g 1, g 2, g 3, g 4, g 5, g 6, g 7, g 8, g 9, g 10, g 11, g 12, g 13, g 14]))] s.heap.size = A at hD ⊢
  have hA : ∀ q : Nat, s.heap.size ≤ q → A q := fun q h => by rw [← hAe]; exact Or.inr h
  have hS : va_S A s.heap s.heap [] := va_S.rf
  have hP : va_P (dC, dI) vwCl [(x, .inr (7, [v 0, v 1, v 2, v 3, v 4, v 5, v 6, .ref h, v 8, v 9, v 10])), (h, .inr (0, [.int 0, g 1, g 2, g 3, g 4, g 5, g 6, g 7, g 8, g 9, g 10, g 11, g 12, g 13, g 14]))] s.heap := hP
  have hl := lv_entry ([.ref x, .int a0]) (n := 5) (Nat.le_of_ble_eq_true rfl)
  rw [lg_entry_eq]
  generalize (lg_sl ([.ref x, .int a0]) ++ List.replicate (5 - (lg_sl ([.ref x, .int a0])).length) Slot.unset).toArray = ls at hl ⊢
  have hl : lv_has ls 5 [(0, .ref x), (1, .int a0)] := hl
  refine lv_aload_n hx hb dX7_crowd_0 rfl (lv_at hl 0 rfl) ?_
  refine lv_iload_n hx hb dX7_crowd_1 rfl (lv_at hl 1 rfl) ?_
  refine lv_iconst (v := 0) hx hb dX7_crowd_2 (by decide) ?_
  refine lv_sipush (v := 300) hx hb dX7_crowd_3 (by decide) ?_
  have hPc := hP.sub (ws' := [(x, .inr (7, [v 0, v 1, v 2, v 3, v 4, v 5, v 6, .ref h, v 8, v 9, v 10])), (h, .inr (0, [.int 0, g 1, g 2, g 3, g 4, g 5, g 6, g 7, g 8, g 9, g 10, g 11, g 12, g 13, g 14]))]) [0, 1] rfl
  have hDc := hD.sub (ws' := [(x, .inr (7, [v 0, v 1, v 2, v 3, v 4, v 5, v 6, .ref h, v 8, v 9, v 10])), (h, .inr (0, [.int 0, g 1, g 2, g 3, g 4, g 5, g 6, g 7, g 8, g 9, g 10, g 11, g 12, g 13, g 14]))]) [0, 1] (by decide) rfl
  have hKc := hK.sub (tys' := []) [] rfl
  have hFc := va_free (wc := [(x, .inr (7, [v 0, v 1, v 2, v 3, v 4, v 5, v 6, .ref h, v 8, v 9, v 10])), (h, .inr (0, [.int 0, g 1, g 2, g 3, g 4, g 5, g 6, g 7, g 8, g 9, g 10, g 11, g 12, g 13, g 14]))]) hD hS hA [0, 1] rfl
  refine va_calli (va_runV (As := [.int a0, .int 0, .int 300]) (rest := []) ⟨hx, hb, hml, hown, hts⟩ (c_X7_troubleOfNumber l dC dI s.heap.size x a0 0 300 v h g ) (cwV 3 hts gX7_crowd_X7_troubleOfNumber rfl rfl rfl (by decide +kernel) ⟨Nat.le_of_ble_eq_true rfl, Nat.le_of_ble_eq_true rfl⟩) ⟨ax_blind (fun _ _ _ _ _ => trivial), va_recv hKc hPc (ci := 7) (q0 := 0) rfl rfl, ax_pre hPc hKc hDc (fun _ _ => trivial)⟩ rfl rfl hl.1 rfl (lv_room (Nat.le_of_ble_eq_true rfl)) dX7_crowd_6 ⟨Nat.le_of_ble_eq_true rfl, Nat.le_of_ble_eq_true rfl⟩) hS (fun q _ h => hFc q h) hFc (fun r_1 u t H1 locs ht hvm hw hB hz1 hk1 hS => ?_)
  obtain ⟨hP1, hK1, hD1⟩ := hB
  rw [ht] at hP1
  have hK1 := va_K.moved hvm.symm hK1
  obtain ⟨hP, hD⟩ := va_join (wr := []) (w1 := [(x, .inr (7, [v 0, v 1, v 2, v 3, v 4, v 5, v 6, .ref h, v 8, v 9, v 10])), (h, .inr (0, [.int 0, g 1, g 2, g 3, g 4, g 5, g 6, g 7, g 8, g 9, g 10, g 11, g 12, g 13, g 14]))]) hP hD [0, 1] [] rfl rfl (by decide) (by decide) hk1 hFc hP1 hD1
  have hK := (hK.sub (tys' := []) [] rfl).app hK1
  generalize H1 = H at hP hS ⊢
  have hP : va_P (dC, dI) vwCl [(x, .inr (7, [v 0, v 1, v 2, v 3, v 4, v 5, v 6, .ref h, v 8, v 9, v 10])), (h, .inr (0, [.int 0, g 1, g 2, g 3, g 4, g 5, g 6, g 7, g 8, g 9, g 10, g 11, g 12, g 13, g 14]))] H := hP
  have hD : va_D A [(x, .inr (7, [v 0, v 1, v 2, v 3, v 4, v 5, v 6, .ref h, v 8, v 9, v 10])), (h, .inr (0, [.int 0, g 1, g 2, g 3, g 4, g 5, g 6, g 7, g 8, g 9, g 10, g 11, g 12, g 13, g 14]))] := hD
  have hK : va_K (dC, dI) vwCl [] s := hK
  have hw : r_1 = 1 := hw
  subst hw
  refine lv_istore_n (lv' := [(2, .int 1), (0, .ref x), (1, .int a0)]) hx hb dX7_crowd_9 rfl hl (by decide) rfl (fun ls hl => ?_)
  refine lv_iload_n hx hb dX7_crowd_10 rfl (lv_at hl 0 rfl) ?_
  refine lv_if_eq (tgt := 20) hx hb dX7_crowd_11 (by decide) (fun c_2 => absurd c_2 (by decide +kernel)) (fun _ => ?_)
  refine lv_aload_n hx hb dX7_crowd_14 rfl (lv_at hl 1 rfl) ?_
  refine lv_iload_n hx hb dX7_crowd_15 rfl (lv_at hl 0 rfl) ?_
  have hPc := hP.sub (ws' := [(x, .inr (7, [v 0, v 1, v 2, v 3, v 4, v 5, v 6, .ref h, v 8, v 9, v 10]))]) [0] rfl
  have hDc := hD.sub (ws' := [(x, .inr (7, [v 0, v 1, v 2, v 3, v 4, v 5, v 6, .ref h, v 8, v 9, v 10]))]) [0] (by decide) rfl
  have hKc := hK.sub (tys' := []) [] rfl
  have hFc := va_free (wc := [(x, .inr (7, [v 0, v 1, v 2, v 3, v 4, v 5, v 6, .ref h, v 8, v 9, v 10]))]) hD hS hA [0] rfl
  refine va_calli (va_runV (As := [.int 1]) (rest := []) ⟨hx, hb, hml, hown, hts⟩ (c_X7_refused l dC dI H.size x 1 (fun i9 => ([v 0, v 1, v 2, v 3, v 4, v 5, v 6, .ref h, v 8, v 9, v 10] : List Value).getD i9 .null) ) (cwV 1 hts gX7_crowd_X7_refused rfl rfl rfl (by decide +kernel) ⟨Nat.le_of_ble_eq_true rfl, Nat.le_of_ble_eq_true rfl⟩) ⟨ax_blind (fun _ _ _ _ _ => trivial), va_recv hKc hPc (ci := 7) (q0 := 0) rfl rfl, ax_pre hPc hKc hDc (fun _ _ => trivial)⟩ rfl rfl hl.1 rfl (lv_room (Nat.le_of_ble_eq_true rfl)) dX7_crowd_16 ⟨Nat.le_of_ble_eq_true rfl, Nat.le_of_ble_eq_true rfl⟩) hS (fun q _ h => hFc q h) hFc (fun r_3 u t H1 locs ht hvm hw hB hz1 hk1 hS => ?_)
  obtain ⟨hP1, hK1, hD1⟩ := hB
  rw [ht] at hP1
  have hK1 := va_K.moved hvm.symm hK1
  obtain ⟨hP, hD⟩ := va_join (wr := [(h, .inr (0, [.int 0, g 1, g 2, g 3, g 4, g 5, g 6, g 7, g 8, g 9, g 10, g 11, g 12, g 13, g 14]))]) (w1 := []) hP hD [0] [1] rfl rfl (by decide) (by decide) hk1 hFc hP1 hD1
  have hK := (hK.sub (tys' := []) [] rfl).app hK1
  generalize H1 = H at hP hS ⊢
  have hP : va_P (dC, dI) vwCl [(h, .inr (0, [.int 0, g 1, g 2, g 3, g 4, g 5, g 6, g 7, g 8, g 9, g 10, g 11, g 12, g 13, g 14]))] H := hP
  have hD : va_D A [(h, .inr (0, [.int 0, g 1, g 2, g 3, g 4, g 5, g 6, g 7, g 8, g 9, g 10, g 11, g 12, g 13, g 14]))] := hD
  have hK : va_K (dC, dI) vwCl [] s := hK
  have hw : r_3 = (-1) := hw
  subst hw
  have hP9 := hP.sub (ws' := []) [] rfl
  have hD9 := hD.sub (ws' := []) [] (by decide) rfl
  have hK9 := hK.sub (tys' := []) [] rfl
  exact W.iret (v := (-1)) hx hb hr (fun t ht hW => ⟨⟨(-1), (), rfl, rfl, by rw [ht]; exact hP9, va_K.moved hW.alike hK9, hD9⟩, hS.F ht⟩) hS.2.2 dX7_crowd_19

set_option maxHeartbeats 4000000 in
set_option maxRecDepth 100000 in
theorem c_X7_farthest (l : Launch) (dC : Nat → ClassId) (dI : Nat → Nat → Nat) (sz : Nat) (x : Nat) (a0 : Int32) (v : Nat → Value) (h : Nat) (g : Nat → Value) : Met l yX7_farthest wsX7_farthest ({ frames := 2, cells := 0, slots := 0, locals := 43 }) (va_Pc [.ref x, .int a0] (ax_C dC dI sz [(x, .inr (7, [v 0, v 1, v 2, v 3, v 4, v 5, v 6, .ref h, v 8, v 9, v 10])), (h, .inr (0, [.int 0, g 1, g 2, g 3, g 4, g 5, g 6, g 7, g 8, g 9, g 10, g 11, g 12, g 13, g 14]))] [] (fun _ => True))) (va_Qi (fun (r : Int32) (_ : Unit) => r = -1) (fun (_ : Unit) (t : State) => ax_B dC dI (va_A [(x, .inr (7, [v 0, v 1, v 2, v 3, v 4, v 5, v 6, .ref h, v 8, v 9, v 10])), (h, .inr (0, [.int 0, g 1, g 2, g 3, g 4, g 5, g 6, g 7, g 8, g 9, g 10, g 11, g 12, g 13, g 14]))] sz) [] [] t) (va_A [(x, .inr (7, [v 0, v 1, v 2, v 3, v 4, v 5, v 6, .ref h, v 8, v 9, v 10])), (h, .inr (0, [.int 0, g 1, g 2, g 3, g 4, g 5, g 6, g 7, g 8, g 9, g 10, g 11, g 12, g 13, g 14]))] sz)) 0 0 (va_A [(x, .inr (7, [v 0, v 1, v 2, v 3, v 4, v 5, v 6, .ref h, v 8, v 9, v 10])), (h, .inr (0, [.int 0, g 1, g 2, g 3, g 4, g 5, g 6, g 7, g 8, g 9, g 10, g 11, g 12, g 13, g 14]))] sz) := by
  refine Met.ofW (cc := cX7_farthest) (maxL := 5) (ret := (some .int)) (by decide) rfl ?_
  intro p e s m args below meth c s₁ B hml hv
  obtain ⟨rfl, hsz, hP, hK, hD0, hE⟩ := hv
  have hx := B.exec
  have hb := B.bytes
  have hr := B.returns
  have hts := atoms_spec (ws := wsX7_farthest) B.pre
  have hown : s.vm.findClass RX7 = some m.cls := findClass_of_methodNamed B.named
  have hlocks := B.notSynchronized
  subst hsz
  have hD := hD0.self (sz := s.heap.size)
  generalize hAe : va_A [(x, .inr (7, [v 0, v 1, v 2, v 3, v 4, v 5, v 6, .ref h, v 8, v 9, v 10])), (h, .inr (0, [.int 0, g 1, g 2, g 3, g 4, g 5, g 6, g 7, g 8, g 9, g 10, g 11, g 12, g 13, g 14]))] s.heap.size = A at hD ⊢
  have hA : ∀ q : Nat, s.heap.size ≤ q → A q := fun q h => by rw [← hAe]; exact Or.inr h
  have hS : va_S A s.heap s.heap [] := va_S.rf
  have hP : va_P (dC, dI) vwCl [(x, .inr (7, [v 0, v 1, v 2, v 3, v 4, v 5, v 6, .ref h, v 8, v 9, v 10])), (h, .inr (0, [.int 0, g 1, g 2, g 3, g 4, g 5, g 6, g 7, g 8, g 9, g 10, g 11, g 12, g 13, g 14]))] s.heap := hP
  have hl := lv_entry ([.ref x, .int a0]) (n := 5) (Nat.le_of_ble_eq_true rfl)
  rw [lg_entry_eq]
  generalize (lg_sl ([.ref x, .int a0]) ++ List.replicate (5 - (lg_sl ([.ref x, .int a0])).length) Slot.unset).toArray = ls at hl ⊢
  have hl : lv_has ls 5 [(0, .ref x), (1, .int a0)] := hl
  refine lv_aload_n hx hb dX7_farthest_0 rfl (lv_at hl 0 rfl) ?_
  refine lv_iload_n hx hb dX7_farthest_1 rfl (lv_at hl 1 rfl) ?_
  refine lv_iconst (v := 0) hx hb dX7_farthest_2 (by decide) ?_
  refine lv_sipush (v := 300) hx hb dX7_farthest_3 (by decide) ?_
  have hPc := hP.sub (ws' := [(x, .inr (7, [v 0, v 1, v 2, v 3, v 4, v 5, v 6, .ref h, v 8, v 9, v 10])), (h, .inr (0, [.int 0, g 1, g 2, g 3, g 4, g 5, g 6, g 7, g 8, g 9, g 10, g 11, g 12, g 13, g 14]))]) [0, 1] rfl
  have hDc := hD.sub (ws' := [(x, .inr (7, [v 0, v 1, v 2, v 3, v 4, v 5, v 6, .ref h, v 8, v 9, v 10])), (h, .inr (0, [.int 0, g 1, g 2, g 3, g 4, g 5, g 6, g 7, g 8, g 9, g 10, g 11, g 12, g 13, g 14]))]) [0, 1] (by decide) rfl
  have hKc := hK.sub (tys' := []) [] rfl
  have hFc := va_free (wc := [(x, .inr (7, [v 0, v 1, v 2, v 3, v 4, v 5, v 6, .ref h, v 8, v 9, v 10])), (h, .inr (0, [.int 0, g 1, g 2, g 3, g 4, g 5, g 6, g 7, g 8, g 9, g 10, g 11, g 12, g 13, g 14]))]) hD hS hA [0, 1] rfl
  refine va_calli (va_runV (As := [.int a0, .int 0, .int 300]) (rest := []) ⟨hx, hb, hml, hown, hts⟩ (c_X7_troubleOfNumber l dC dI s.heap.size x a0 0 300 v h g ) (cwV 3 hts gX7_farthest_X7_troubleOfNumber rfl rfl rfl (by decide +kernel) ⟨Nat.le_of_ble_eq_true rfl, Nat.le_of_ble_eq_true rfl⟩) ⟨ax_blind (fun _ _ _ _ _ => trivial), va_recv hKc hPc (ci := 7) (q0 := 0) rfl rfl, ax_pre hPc hKc hDc (fun _ _ => trivial)⟩ rfl rfl hl.1 rfl (lv_room (Nat.le_of_ble_eq_true rfl)) dX7_farthest_6 ⟨Nat.le_of_ble_eq_true rfl, Nat.le_of_ble_eq_true rfl⟩) hS (fun q _ h => hFc q h) hFc (fun r_1 u t H1 locs ht hvm hw hB hz1 hk1 hS => ?_)
  obtain ⟨hP1, hK1, hD1⟩ := hB
  rw [ht] at hP1
  have hK1 := va_K.moved hvm.symm hK1
  obtain ⟨hP, hD⟩ := va_join (wr := []) (w1 := [(x, .inr (7, [v 0, v 1, v 2, v 3, v 4, v 5, v 6, .ref h, v 8, v 9, v 10])), (h, .inr (0, [.int 0, g 1, g 2, g 3, g 4, g 5, g 6, g 7, g 8, g 9, g 10, g 11, g 12, g 13, g 14]))]) hP hD [0, 1] [] rfl rfl (by decide) (by decide) hk1 hFc hP1 hD1
  have hK := (hK.sub (tys' := []) [] rfl).app hK1
  generalize H1 = H at hP hS ⊢
  have hP : va_P (dC, dI) vwCl [(x, .inr (7, [v 0, v 1, v 2, v 3, v 4, v 5, v 6, .ref h, v 8, v 9, v 10])), (h, .inr (0, [.int 0, g 1, g 2, g 3, g 4, g 5, g 6, g 7, g 8, g 9, g 10, g 11, g 12, g 13, g 14]))] H := hP
  have hD : va_D A [(x, .inr (7, [v 0, v 1, v 2, v 3, v 4, v 5, v 6, .ref h, v 8, v 9, v 10])), (h, .inr (0, [.int 0, g 1, g 2, g 3, g 4, g 5, g 6, g 7, g 8, g 9, g 10, g 11, g 12, g 13, g 14]))] := hD
  have hK : va_K (dC, dI) vwCl [] s := hK
  have hw : r_1 = 1 := hw
  subst hw
  refine lv_istore_n (lv' := [(2, .int 1), (0, .ref x), (1, .int a0)]) hx hb dX7_farthest_9 rfl hl (by decide) rfl (fun ls hl => ?_)
  refine lv_iload_n hx hb dX7_farthest_10 rfl (lv_at hl 0 rfl) ?_
  refine lv_if_eq (tgt := 20) hx hb dX7_farthest_11 (by decide) (fun c_2 => absurd c_2 (by decide +kernel)) (fun _ => ?_)
  refine lv_aload_n hx hb dX7_farthest_14 rfl (lv_at hl 1 rfl) ?_
  refine lv_iload_n hx hb dX7_farthest_15 rfl (lv_at hl 0 rfl) ?_
  have hPc := hP.sub (ws' := [(x, .inr (7, [v 0, v 1, v 2, v 3, v 4, v 5, v 6, .ref h, v 8, v 9, v 10]))]) [0] rfl
  have hDc := hD.sub (ws' := [(x, .inr (7, [v 0, v 1, v 2, v 3, v 4, v 5, v 6, .ref h, v 8, v 9, v 10]))]) [0] (by decide) rfl
  have hKc := hK.sub (tys' := []) [] rfl
  have hFc := va_free (wc := [(x, .inr (7, [v 0, v 1, v 2, v 3, v 4, v 5, v 6, .ref h, v 8, v 9, v 10]))]) hD hS hA [0] rfl
  refine va_calli (va_runV (As := [.int 1]) (rest := []) ⟨hx, hb, hml, hown, hts⟩ (c_X7_refused l dC dI H.size x 1 (fun i9 => ([v 0, v 1, v 2, v 3, v 4, v 5, v 6, .ref h, v 8, v 9, v 10] : List Value).getD i9 .null) ) (cwV 1 hts gX7_farthest_X7_refused rfl rfl rfl (by decide +kernel) ⟨Nat.le_of_ble_eq_true rfl, Nat.le_of_ble_eq_true rfl⟩) ⟨ax_blind (fun _ _ _ _ _ => trivial), va_recv hKc hPc (ci := 7) (q0 := 0) rfl rfl, ax_pre hPc hKc hDc (fun _ _ => trivial)⟩ rfl rfl hl.1 rfl (lv_room (Nat.le_of_ble_eq_true rfl)) dX7_farthest_16 ⟨Nat.le_of_ble_eq_true rfl, Nat.le_of_ble_eq_true rfl⟩) hS (fun q _ h => hFc q h) hFc (fun r_3 u t H1 locs ht hvm hw hB hz1 hk1 hS => ?_)
  obtain ⟨hP1, hK1, hD1⟩ := hB
  rw [ht] at hP1
  have hK1 := va_K.moved hvm.symm hK1
  obtain ⟨hP, hD⟩ := va_join (wr := [(h, .inr (0, [.int 0, g 1, g 2, g 3, g 4, g 5, g 6, g 7, g 8, g 9, g 10, g 11, g 12, g 13, g 14]))]) (w1 := []) hP hD [0] [1] rfl rfl (by decide) (by decide) hk1 hFc hP1 hD1
  have hK := (hK.sub (tys' := []) [] rfl).app hK1
  generalize H1 = H at hP hS ⊢
  have hP : va_P (dC, dI) vwCl [(h, .inr (0, [.int 0, g 1, g 2, g 3, g 4, g 5, g 6, g 7, g 8, g 9, g 10, g 11, g 12, g 13, g 14]))] H := hP
  have hD : va_D A [(h, .inr (0, [.int 0, g 1, g 2, g 3, g 4, g 5, g 6, g 7, g 8, g 9, g 10, g 11, g 12, g 13, g 14]))] := hD
  have hK : va_K (dC, dI) vwCl [] s := hK
  have hw : r_3 = (-1) := hw
  subst hw
  have hP9 := hP.sub (ws' := []) [] rfl
  have hD9 := hD.sub (ws' := []) [] (by decide) rfl
  have hK9 := hK.sub (tys' := []) [] rfl
  exact W.iret (v := (-1)) hx hb hr (fun t ht hW => ⟨⟨(-1), (), rfl, rfl, by rw [ht]; exact hP9, va_K.moved hW.alike hK9, hD9⟩, hS.F ht⟩) hS.2.2 dX7_farthest_19

set_option maxHeartbeats 4000000 in
set_option maxRecDepth 100000 in
theorem c_X7_nearBy (l : Launch) (dC : Nat → ClassId) (dI : Nat → Nat → Nat) (sz : Nat) (x : Nat) (a0 : Int32) (a1 : Int32) (v : Nat → Value) (h : Nat) (g : Nat → Value) : Met l yX7_nearBy wsX7_nearBy ({ frames := 3, cells := 0, slots := 0, locals := 66 }) (va_Pc [.ref x, .int a0, .int a1] (ax_C dC dI sz [(x, .inr (7, [v 0, v 1, v 2, v 3, v 4, v 5, v 6, .ref h, v 8, v 9, v 10])), (h, .inr (0, [.int 0, g 1, g 2, g 3, g 4, g 5, g 6, g 7, g 8, g 9, g 10, g 11, g 12, g 13, g 14]))] [] (fun _ => True))) (va_Qi (fun (r : Int32) (_ : Unit) => r = -1) (fun (_ : Unit) (t : State) => ax_B dC dI (va_A [(x, .inr (7, [v 0, v 1, v 2, v 3, v 4, v 5, v 6, .ref h, v 8, v 9, v 10])), (h, .inr (0, [.int 0, g 1, g 2, g 3, g 4, g 5, g 6, g 7, g 8, g 9, g 10, g 11, g 12, g 13, g 14]))] sz) [] [] t) (va_A [(x, .inr (7, [v 0, v 1, v 2, v 3, v 4, v 5, v 6, .ref h, v 8, v 9, v 10])), (h, .inr (0, [.int 0, g 1, g 2, g 3, g 4, g 5, g 6, g 7, g 8, g 9, g 10, g 11, g 12, g 13, g 14]))] sz)) 0 0 (va_A [(x, .inr (7, [v 0, v 1, v 2, v 3, v 4, v 5, v 6, .ref h, v 8, v 9, v 10])), (h, .inr (0, [.int 0, g 1, g 2, g 3, g 4, g 5, g 6, g 7, g 8, g 9, g 10, g 11, g 12, g 13, g 14]))] sz) := by
  refine Met.ofW (cc := cX7_nearBy) (maxL := 7) (ret := (some .int)) (by decide) rfl ?_
  intro p e s m args below meth c s₁ B hml hv
  obtain ⟨rfl, hsz, hP, hK, hD0, hE⟩ := hv
  have hx := B.exec
  have hb := B.bytes
  have hr := B.returns
  have hts := atoms_spec (ws := wsX7_nearBy) B.pre
  have hown : s.vm.findClass RX7 = some m.cls := findClass_of_methodNamed B.named
  have hlocks := B.notSynchronized
  subst hsz
  have hD := hD0.self (sz := s.heap.size)
  generalize hAe : va_A [(x, .inr (7, [v 0, v 1, v 2, v 3, v 4, v 5, v 6, .ref h, v 8, v 9, v 10])), (h, .inr (0, [.int 0, g 1, g 2, g 3, g 4, g 5, g 6, g 7, g 8, g 9, g 10, g 11, g 12, g 13, g 14]))] s.heap.size = A at hD ⊢
  have hA : ∀ q : Nat, s.heap.size ≤ q → A q := fun q h => by rw [← hAe]; exact Or.inr h
  have hS : va_S A s.heap s.heap [] := va_S.rf
  have hP : va_P (dC, dI) vwCl [(x, .inr (7, [v 0, v 1, v 2, v 3, v 4, v 5, v 6, .ref h, v 8, v 9, v 10])), (h, .inr (0, [.int 0, g 1, g 2, g 3, g 4, g 5, g 6, g 7, g 8, g 9, g 10, g 11, g 12, g 13, g 14]))] s.heap := hP
  have hl := lv_entry ([.ref x, .int a0, .int a1]) (n := 7) (Nat.le_of_ble_eq_true rfl)
  rw [lg_entry_eq]
  generalize (lg_sl ([.ref x, .int a0, .int a1]) ++ List.replicate (7 - (lg_sl ([.ref x, .int a0, .int a1])).length) Slot.unset).toArray = ls at hl ⊢
  have hl : lv_has ls 7 [(0, .ref x), (1, .int a0), (2, .int a1)] := hl
  refine lv_aload_n hx hb dX7_nearBy_0 rfl (lv_at hl 0 rfl) ?_
  refine lv_iload_n hx hb dX7_nearBy_1 rfl (lv_at hl 1 rfl) ?_
  refine lv_iload_n hx hb dX7_nearBy_2 rfl (lv_at hl 2 rfl) ?_
  refine lv_sipush (v := 300) hx hb dX7_nearBy_3 (by decide) ?_
  have hPc := hP.sub (ws' := [(x, .inr (7, [v 0, v 1, v 2, v 3, v 4, v 5, v 6, .ref h, v 8, v 9, v 10])), (h, .inr (0, [.int 0, g 1, g 2, g 3, g 4, g 5, g 6, g 7, g 8, g 9, g 10, g 11, g 12, g 13, g 14]))]) [0, 1] rfl
  have hDc := hD.sub (ws' := [(x, .inr (7, [v 0, v 1, v 2, v 3, v 4, v 5, v 6, .ref h, v 8, v 9, v 10])), (h, .inr (0, [.int 0, g 1, g 2, g 3, g 4, g 5, g 6, g 7, g 8, g 9, g 10, g 11, g 12, g 13, g 14]))]) [0, 1] (by decide) rfl
  have hKc := hK.sub (tys' := []) [] rfl
  have hFc := va_free (wc := [(x, .inr (7, [v 0, v 1, v 2, v 3, v 4, v 5, v 6, .ref h, v 8, v 9, v 10])), (h, .inr (0, [.int 0, g 1, g 2, g 3, g 4, g 5, g 6, g 7, g 8, g 9, g 10, g 11, g 12, g 13, g 14]))]) hD hS hA [0, 1] rfl
  refine va_calli (va_runV (As := [.int a0, .int a1, .int 300]) (rest := []) ⟨hx, hb, hml, hown, hts⟩ (c_X7_troubleOfFigureWithin l dC dI s.heap.size x a0 a1 300 v h g ) (cwV 3 hts gX7_nearBy_X7_troubleOfFigureWithin rfl rfl rfl (by decide +kernel) ⟨Nat.le_of_ble_eq_true rfl, Nat.le_of_ble_eq_true rfl⟩) ⟨ax_blind (fun _ _ _ _ _ => trivial), va_recv hKc hPc (ci := 7) (q0 := 0) rfl rfl, ax_pre hPc hKc hDc (fun _ _ => trivial)⟩ rfl rfl hl.1 rfl (lv_room (Nat.le_of_ble_eq_true rfl)) dX7_nearBy_6 ⟨Nat.le_of_ble_eq_true rfl, Nat.le_of_ble_eq_true rfl⟩) hS (fun q _ h => hFc q h) hFc (fun r_1 u t H1 locs ht hvm hw hB hz1 hk1 hS => ?_)
  obtain ⟨hP1, hK1, hD1⟩ := hB
  rw [ht] at hP1
  have hK1 := va_K.moved hvm.symm hK1
  obtain ⟨hP, hD⟩ := va_join (wr := []) (w1 := [(x, .inr (7, [v 0, v 1, v 2, v 3, v 4, v 5, v 6, .ref h, v 8, v 9, v 10])), (h, .inr (0, [.int 0, g 1, g 2, g 3, g 4, g 5, g 6, g 7, g 8, g 9, g 10, g 11, g 12, g 13, g 14]))]) hP hD [0, 1] [] rfl rfl (by decide) (by decide) hk1 hFc hP1 hD1
  have hK := (hK.sub (tys' := []) [] rfl).app hK1
  generalize H1 = H at hP hS ⊢
  have hP : va_P (dC, dI) vwCl [(x, .inr (7, [v 0, v 1, v 2, v 3, v 4, v 5, v 6, .ref h, v 8, v 9, v 10])), (h, .inr (0, [.int 0, g 1, g 2, g 3, g 4, g 5, g 6, g 7, g 8, g 9, g 10, g 11, g 12, g 13, g 14]))] H := hP
  have hD : va_D A [(x, .inr (7, [v 0, v 1, v 2, v 3, v 4, v 5, v 6, .ref h, v 8, v 9, v 10])), (h, .inr (0, [.int 0, g 1, g 2, g 3, g 4, g 5, g 6, g 7, g 8, g 9, g 10, g 11, g 12, g 13, g 14]))] := hD
  have hK : va_K (dC, dI) vwCl [] s := hK
  have hw : r_1 = 1 := hw
  subst hw
  refine lv_istore_n (lv' := [(3, .int 1), (0, .ref x), (1, .int a0), (2, .int a1)]) hx hb dX7_nearBy_9 rfl hl (by decide) rfl (fun ls hl => ?_)
  refine lv_iload_n hx hb dX7_nearBy_10 rfl (lv_at hl 0 rfl) ?_
  refine lv_if_eq (tgt := 20) hx hb dX7_nearBy_11 (by decide) (fun c_2 => absurd c_2 (by decide +kernel)) (fun _ => ?_)
  refine lv_aload_n hx hb dX7_nearBy_14 rfl (lv_at hl 1 rfl) ?_
  refine lv_iload_n hx hb dX7_nearBy_15 rfl (lv_at hl 0 rfl) ?_
  have hPc := hP.sub (ws' := [(x, .inr (7, [v 0, v 1, v 2, v 3, v 4, v 5, v 6, .ref h, v 8, v 9, v 10]))]) [0] rfl
  have hDc := hD.sub (ws' := [(x, .inr (7, [v 0, v 1, v 2, v 3, v 4, v 5, v 6, .ref h, v 8, v 9, v 10]))]) [0] (by decide) rfl
  have hKc := hK.sub (tys' := []) [] rfl
  have hFc := va_free (wc := [(x, .inr (7, [v 0, v 1, v 2, v 3, v 4, v 5, v 6, .ref h, v 8, v 9, v 10]))]) hD hS hA [0] rfl
  refine va_calli (va_runV (As := [.int 1]) (rest := []) ⟨hx, hb, hml, hown, hts⟩ (c_X7_refused l dC dI H.size x 1 (fun i9 => ([v 0, v 1, v 2, v 3, v 4, v 5, v 6, .ref h, v 8, v 9, v 10] : List Value).getD i9 .null) ) (cwV 1 hts gX7_nearBy_X7_refused rfl rfl rfl (by decide +kernel) ⟨Nat.le_of_ble_eq_true rfl, Nat.le_of_ble_eq_true rfl⟩) ⟨ax_blind (fun _ _ _ _ _ => trivial), va_recv hKc hPc (ci := 7) (q0 := 0) rfl rfl, ax_pre hPc hKc hDc (fun _ _ => trivial)⟩ rfl rfl hl.1 rfl (lv_room (Nat.le_of_ble_eq_true rfl)) dX7_nearBy_16 ⟨Nat.le_of_ble_eq_true rfl, Nat.le_of_ble_eq_true rfl⟩) hS (fun q _ h => hFc q h) hFc (fun r_3 u t H1 locs ht hvm hw hB hz1 hk1 hS => ?_)
  obtain ⟨hP1, hK1, hD1⟩ := hB
  rw [ht] at hP1
  have hK1 := va_K.moved hvm.symm hK1
  obtain ⟨hP, hD⟩ := va_join (wr := [(h, .inr (0, [.int 0, g 1, g 2, g 3, g 4, g 5, g 6, g 7, g 8, g 9, g 10, g 11, g 12, g 13, g 14]))]) (w1 := []) hP hD [0] [1] rfl rfl (by decide) (by decide) hk1 hFc hP1 hD1
  have hK := (hK.sub (tys' := []) [] rfl).app hK1
  generalize H1 = H at hP hS ⊢
  have hP : va_P (dC, dI) vwCl [(h, .inr (0, [.int 0, g 1, g 2, g 3, g 4, g 5, g 6, g 7, g 8, g 9, g 10, g 11, g 12, g 13, g 14]))] H := hP
  have hD : va_D A [(h, .inr (0, [.int 0, g 1, g 2, g 3, g 4, g 5, g 6, g 7, g 8, g 9, g 10, g 11, g 12, g 13, g 14]))] := hD
  have hK : va_K (dC, dI) vwCl [] s := hK
  have hw : r_3 = (-1) := hw
  subst hw
  have hP9 := hP.sub (ws' := []) [] rfl
  have hD9 := hD.sub (ws' := []) [] (by decide) rfl
  have hK9 := hK.sub (tys' := []) [] rfl
  exact W.iret (v := (-1)) hx hb hr (fun t ht hW => ⟨⟨(-1), (), rfl, rfl, by rw [ht]; exact hP9, va_K.moved hW.alike hK9, hD9⟩, hS.F ht⟩) hS.2.2 dX7_nearBy_19

set_option maxHeartbeats 4000000 in
set_option maxRecDepth 100000 in
theorem c_X7_spoken (l : Launch) (dC : Nat → ClassId) (dI : Nat → Nat → Nat) (sz : Nat) (x : Nat) (a0 : Int32) (a1 : Int32) (v : Nat → Value) (h : Nat) (g : Nat → Value) : Met l yX7_spoken wsX7_spoken ({ frames := 3, cells := 0, slots := 0, locals := 66 }) (va_Pc [.ref x, .int a0, .int a1] (ax_C dC dI sz [(x, .inr (7, [v 0, v 1, v 2, v 3, v 4, v 5, v 6, .ref h, v 8, v 9, v 10])), (h, .inr (0, [.int 0, g 1, g 2, g 3, g 4, g 5, g 6, g 7, g 8, g 9, g 10, g 11, g 12, g 13, g 14]))] [] (fun _ => True))) (va_Qi (fun (r : Int32) (_ : Unit) => r = -1) (fun (_ : Unit) (t : State) => ax_B dC dI (va_A [(x, .inr (7, [v 0, v 1, v 2, v 3, v 4, v 5, v 6, .ref h, v 8, v 9, v 10])), (h, .inr (0, [.int 0, g 1, g 2, g 3, g 4, g 5, g 6, g 7, g 8, g 9, g 10, g 11, g 12, g 13, g 14]))] sz) [] [] t) (va_A [(x, .inr (7, [v 0, v 1, v 2, v 3, v 4, v 5, v 6, .ref h, v 8, v 9, v 10])), (h, .inr (0, [.int 0, g 1, g 2, g 3, g 4, g 5, g 6, g 7, g 8, g 9, g 10, g 11, g 12, g 13, g 14]))] sz)) 0 0 (va_A [(x, .inr (7, [v 0, v 1, v 2, v 3, v 4, v 5, v 6, .ref h, v 8, v 9, v 10])), (h, .inr (0, [.int 0, g 1, g 2, g 3, g 4, g 5, g 6, g 7, g 8, g 9, g 10, g 11, g 12, g 13, g 14]))] sz) := by
  refine Met.ofW (cc := cX7_spoken) (maxL := 6) (ret := (some .int)) (by decide) rfl ?_
  intro p e s m args below meth c s₁ B hml hv
  obtain ⟨rfl, hsz, hP, hK, hD0, hE⟩ := hv
  have hx := B.exec
  have hb := B.bytes
  have hr := B.returns
  have hts := atoms_spec (ws := wsX7_spoken) B.pre
  have hown : s.vm.findClass RX7 = some m.cls := findClass_of_methodNamed B.named
  have hlocks := B.notSynchronized
  subst hsz
  have hD := hD0.self (sz := s.heap.size)
  generalize hAe : va_A [(x, .inr (7, [v 0, v 1, v 2, v 3, v 4, v 5, v 6, .ref h, v 8, v 9, v 10])), (h, .inr (0, [.int 0, g 1, g 2, g 3, g 4, g 5, g 6, g 7, g 8, g 9, g 10, g 11, g 12, g 13, g 14]))] s.heap.size = A at hD ⊢
  have hA : ∀ q : Nat, s.heap.size ≤ q → A q := fun q h => by rw [← hAe]; exact Or.inr h
  have hS : va_S A s.heap s.heap [] := va_S.rf
  have hP : va_P (dC, dI) vwCl [(x, .inr (7, [v 0, v 1, v 2, v 3, v 4, v 5, v 6, .ref h, v 8, v 9, v 10])), (h, .inr (0, [.int 0, g 1, g 2, g 3, g 4, g 5, g 6, g 7, g 8, g 9, g 10, g 11, g 12, g 13, g 14]))] s.heap := hP
  have hl := lv_entry ([.ref x, .int a0, .int a1]) (n := 6) (Nat.le_of_ble_eq_true rfl)
  rw [lg_entry_eq]
  generalize (lg_sl ([.ref x, .int a0, .int a1]) ++ List.replicate (6 - (lg_sl ([.ref x, .int a0, .int a1])).length) Slot.unset).toArray = ls at hl ⊢
  have hl : lv_has ls 6 [(0, .ref x), (1, .int a0), (2, .int a1)] := hl
  refine lv_aload_n hx hb dX7_spoken_0 rfl (lv_at hl 0 rfl) ?_
  refine lv_iload_n hx hb dX7_spoken_1 rfl (lv_at hl 1 rfl) ?_
  refine lv_iload_n hx hb dX7_spoken_2 rfl (lv_at hl 2 rfl) ?_
  refine lv_sipush (v := 300) hx hb dX7_spoken_3 (by decide) ?_
  have hPc := hP.sub (ws' := [(x, .inr (7, [v 0, v 1, v 2, v 3, v 4, v 5, v 6, .ref h, v 8, v 9, v 10])), (h, .inr (0, [.int 0, g 1, g 2, g 3, g 4, g 5, g 6, g 7, g 8, g 9, g 10, g 11, g 12, g 13, g 14]))]) [0, 1] rfl
  have hDc := hD.sub (ws' := [(x, .inr (7, [v 0, v 1, v 2, v 3, v 4, v 5, v 6, .ref h, v 8, v 9, v 10])), (h, .inr (0, [.int 0, g 1, g 2, g 3, g 4, g 5, g 6, g 7, g 8, g 9, g 10, g 11, g 12, g 13, g 14]))]) [0, 1] (by decide) rfl
  have hKc := hK.sub (tys' := []) [] rfl
  have hFc := va_free (wc := [(x, .inr (7, [v 0, v 1, v 2, v 3, v 4, v 5, v 6, .ref h, v 8, v 9, v 10])), (h, .inr (0, [.int 0, g 1, g 2, g 3, g 4, g 5, g 6, g 7, g 8, g 9, g 10, g 11, g 12, g 13, g 14]))]) hD hS hA [0, 1] rfl
  refine va_calli (va_runV (As := [.int a0, .int a1, .int 300]) (rest := []) ⟨hx, hb, hml, hown, hts⟩ (c_X7_troubleOfFigureWithin l dC dI s.heap.size x a0 a1 300 v h g ) (cwV 3 hts gX7_spoken_X7_troubleOfFigureWithin rfl rfl rfl (by decide +kernel) ⟨Nat.le_of_ble_eq_true rfl, Nat.le_of_ble_eq_true rfl⟩) ⟨ax_blind (fun _ _ _ _ _ => trivial), va_recv hKc hPc (ci := 7) (q0 := 0) rfl rfl, ax_pre hPc hKc hDc (fun _ _ => trivial)⟩ rfl rfl hl.1 rfl (lv_room (Nat.le_of_ble_eq_true rfl)) dX7_spoken_6 ⟨Nat.le_of_ble_eq_true rfl, Nat.le_of_ble_eq_true rfl⟩) hS (fun q _ h => hFc q h) hFc (fun r_1 u t H1 locs ht hvm hw hB hz1 hk1 hS => ?_)
  obtain ⟨hP1, hK1, hD1⟩ := hB
  rw [ht] at hP1
  have hK1 := va_K.moved hvm.symm hK1
  obtain ⟨hP, hD⟩ := va_join (wr := []) (w1 := [(x, .inr (7, [v 0, v 1, v 2, v 3, v 4, v 5, v 6, .ref h, v 8, v 9, v 10])), (h, .inr (0, [.int 0, g 1, g 2, g 3, g 4, g 5, g 6, g 7, g 8, g 9, g 10, g 11, g 12, g 13, g 14]))]) hP hD [0, 1] [] rfl rfl (by decide) (by decide) hk1 hFc hP1 hD1
  have hK := (hK.sub (tys' := []) [] rfl).app hK1
  generalize H1 = H at hP hS ⊢
  have hP : va_P (dC, dI) vwCl [(x, .inr (7, [v 0, v 1, v 2, v 3, v 4, v 5, v 6, .ref h, v 8, v 9, v 10])), (h, .inr (0, [.int 0, g 1, g 2, g 3, g 4, g 5, g 6, g 7, g 8, g 9, g 10, g 11, g 12, g 13, g 14]))] H := hP
  have hD : va_D A [(x, .inr (7, [v 0, v 1, v 2, v 3, v 4, v 5, v 6, .ref h, v 8, v 9, v 10])), (h, .inr (0, [.int 0, g 1, g 2, g 3, g 4, g 5, g 6, g 7, g 8, g 9, g 10, g 11, g 12, g 13, g 14]))] := hD
  have hK : va_K (dC, dI) vwCl [] s := hK
  have hw : r_1 = 1 := hw
  subst hw
  refine lv_istore_n (lv' := [(3, .int 1), (0, .ref x), (1, .int a0), (2, .int a1)]) hx hb dX7_spoken_9 rfl hl (by decide) rfl (fun ls hl => ?_)
  refine lv_iload_n hx hb dX7_spoken_10 rfl (lv_at hl 0 rfl) ?_
  refine lv_if_eq (tgt := 20) hx hb dX7_spoken_11 (by decide) (fun c_2 => absurd c_2 (by decide +kernel)) (fun _ => ?_)
  refine lv_aload_n hx hb dX7_spoken_14 rfl (lv_at hl 1 rfl) ?_
  refine lv_iload_n hx hb dX7_spoken_15 rfl (lv_at hl 0 rfl) ?_
  have hPc := hP.sub (ws' := [(x, .inr (7, [v 0, v 1, v 2, v 3, v 4, v 5, v 6, .ref h, v 8, v 9, v 10]))]) [0] rfl
  have hDc := hD.sub (ws' := [(x, .inr (7, [v 0, v 1, v 2, v 3, v 4, v 5, v 6, .ref h, v 8, v 9, v 10]))]) [0] (by decide) rfl
  have hKc := hK.sub (tys' := []) [] rfl
  have hFc := va_free (wc := [(x, .inr (7, [v 0, v 1, v 2, v 3, v 4, v 5, v 6, .ref h, v 8, v 9, v 10]))]) hD hS hA [0] rfl
  refine va_calli (va_runV (As := [.int 1]) (rest := []) ⟨hx, hb, hml, hown, hts⟩ (c_X7_refused l dC dI H.size x 1 (fun i9 => ([v 0, v 1, v 2, v 3, v 4, v 5, v 6, .ref h, v 8, v 9, v 10] : List Value).getD i9 .null) ) (cwV 1 hts gX7_spoken_X7_refused rfl rfl rfl (by decide +kernel) ⟨Nat.le_of_ble_eq_true rfl, Nat.le_of_ble_eq_true rfl⟩) ⟨ax_blind (fun _ _ _ _ _ => trivial), va_recv hKc hPc (ci := 7) (q0 := 0) rfl rfl, ax_pre hPc hKc hDc (fun _ _ => trivial)⟩ rfl rfl hl.1 rfl (lv_room (Nat.le_of_ble_eq_true rfl)) dX7_spoken_16 ⟨Nat.le_of_ble_eq_true rfl, Nat.le_of_ble_eq_true rfl⟩) hS (fun q _ h => hFc q h) hFc (fun r_3 u t H1 locs ht hvm hw hB hz1 hk1 hS => ?_)
  obtain ⟨hP1, hK1, hD1⟩ := hB
  rw [ht] at hP1
  have hK1 := va_K.moved hvm.symm hK1
  obtain ⟨hP, hD⟩ := va_join (wr := [(h, .inr (0, [.int 0, g 1, g 2, g 3, g 4, g 5, g 6, g 7, g 8, g 9, g 10, g 11, g 12, g 13, g 14]))]) (w1 := []) hP hD [0] [1] rfl rfl (by decide) (by decide) hk1 hFc hP1 hD1
  have hK := (hK.sub (tys' := []) [] rfl).app hK1
  generalize H1 = H at hP hS ⊢
  have hP : va_P (dC, dI) vwCl [(h, .inr (0, [.int 0, g 1, g 2, g 3, g 4, g 5, g 6, g 7, g 8, g 9, g 10, g 11, g 12, g 13, g 14]))] H := hP
  have hD : va_D A [(h, .inr (0, [.int 0, g 1, g 2, g 3, g 4, g 5, g 6, g 7, g 8, g 9, g 10, g 11, g 12, g 13, g 14]))] := hD
  have hK : va_K (dC, dI) vwCl [] s := hK
  have hw : r_3 = (-1) := hw
  subst hw
  have hP9 := hP.sub (ws' := []) [] rfl
  have hD9 := hD.sub (ws' := []) [] (by decide) rfl
  have hK9 := hK.sub (tys' := []) [] rfl
  exact W.iret (v := (-1)) hx hb hr (fun t ht hW => ⟨⟨(-1), (), rfl, rfl, by rw [ht]; exact hP9, va_K.moved hW.alike hK9, hD9⟩, hS.F ht⟩) hS.2.2 dX7_spoken_19

set_option maxHeartbeats 4000000 in
set_option maxRecDepth 100000 in
theorem c_X7_route (l : Launch) (dC : Nat → ClassId) (dI : Nat → Nat → Nat) (sz : Nat) (x : Nat) (a0 : Int32) (a1 : Int32) (v : Nat → Value) (h : Nat) (g : Nat → Value) : Met l yX7_route wsX7_route ({ frames := 2, cells := 0, slots := 0, locals := 43 }) (va_Pc [.ref x, .int a0, .int a1] (ax_C dC dI sz [(x, .inr (7, [v 0, v 1, v 2, v 3, v 4, v 5, v 6, .ref h, v 8, v 9, v 10])), (h, .inr (0, [.int 0, g 1, g 2, g 3, g 4, g 5, g 6, g 7, g 8, g 9, g 10, g 11, g 12, g 13, g 14]))] [] (fun _ => True))) (va_Qi (fun (r : Int32) (_ : Unit) => r = -1) (fun (_ : Unit) (t : State) => ax_B dC dI (va_A [(x, .inr (7, [v 0, v 1, v 2, v 3, v 4, v 5, v 6, .ref h, v 8, v 9, v 10])), (h, .inr (0, [.int 0, g 1, g 2, g 3, g 4, g 5, g 6, g 7, g 8, g 9, g 10, g 11, g 12, g 13, g 14]))] sz) [] [] t) (va_A [(x, .inr (7, [v 0, v 1, v 2, v 3, v 4, v 5, v 6, .ref h, v 8, v 9, v 10])), (h, .inr (0, [.int 0, g 1, g 2, g 3, g 4, g 5, g 6, g 7, g 8, g 9, g 10, g 11, g 12, g 13, g 14]))] sz)) 0 0 (va_A [(x, .inr (7, [v 0, v 1, v 2, v 3, v 4, v 5, v 6, .ref h, v 8, v 9, v 10])), (h, .inr (0, [.int 0, g 1, g 2, g 3, g 4, g 5, g 6, g 7, g 8, g 9, g 10, g 11, g 12, g 13, g 14]))] sz) := by
  refine Met.ofW (cc := cX7_route) (maxL := 3) (ret := (some .int)) (by decide) rfl ?_
  intro p e s m args below meth c s₁ B hml hv
  obtain ⟨rfl, hsz, hP, hK, hD0, hE⟩ := hv
  have hx := B.exec
  have hb := B.bytes
  have hr := B.returns
  have hts := atoms_spec (ws := wsX7_route) B.pre
  have hown : s.vm.findClass RX7 = some m.cls := findClass_of_methodNamed B.named
  have hlocks := B.notSynchronized
  subst hsz
  have hD := hD0.self (sz := s.heap.size)
  generalize hAe : va_A [(x, .inr (7, [v 0, v 1, v 2, v 3, v 4, v 5, v 6, .ref h, v 8, v 9, v 10])), (h, .inr (0, [.int 0, g 1, g 2, g 3, g 4, g 5, g 6, g 7, g 8, g 9, g 10, g 11, g 12, g 13, g 14]))] s.heap.size = A at hD ⊢
  have hA : ∀ q : Nat, s.heap.size ≤ q → A q := fun q h => by rw [← hAe]; exact Or.inr h
  have hS : va_S A s.heap s.heap [] := va_S.rf
  have hP : va_P (dC, dI) vwCl [(x, .inr (7, [v 0, v 1, v 2, v 3, v 4, v 5, v 6, .ref h, v 8, v 9, v 10])), (h, .inr (0, [.int 0, g 1, g 2, g 3, g 4, g 5, g 6, g 7, g 8, g 9, g 10, g 11, g 12, g 13, g 14]))] s.heap := hP
  have hl := lv_entry ([.ref x, .int a0, .int a1]) (n := 3) (Nat.le_of_ble_eq_true rfl)
  rw [lg_entry_eq]
  generalize (lg_sl ([.ref x, .int a0, .int a1]) ++ List.replicate (3 - (lg_sl ([.ref x, .int a0, .int a1])).length) Slot.unset).toArray = ls at hl ⊢
  have hl : lv_has ls 3 [(0, .ref x), (1, .int a0), (2, .int a1)] := hl
  refine lv_aload_n hx hb dX7_route_0 rfl (lv_at hl 0 rfl) ?_
  refine lv_iload_n hx hb dX7_route_1 rfl (lv_at hl 1 rfl) ?_
  have hPc := hP.sub (ws' := [(x, .inr (7, [v 0, v 1, v 2, v 3, v 4, v 5, v 6, .ref h, v 8, v 9, v 10])), (h, .inr (0, [.int 0, g 1, g 2, g 3, g 4, g 5, g 6, g 7, g 8, g 9, g 10, g 11, g 12, g 13, g 14]))]) [0, 1] rfl
  have hDc := hD.sub (ws' := [(x, .inr (7, [v 0, v 1, v 2, v 3, v 4, v 5, v 6, .ref h, v 8, v 9, v 10])), (h, .inr (0, [.int 0, g 1, g 2, g 3, g 4, g 5, g 6, g 7, g 8, g 9, g 10, g 11, g 12, g 13, g 14]))]) [0, 1] (by decide) rfl
  have hKc := hK.sub (tys' := []) [] rfl
  have hFc := va_free (wc := [(x, .inr (7, [v 0, v 1, v 2, v 3, v 4, v 5, v 6, .ref h, v 8, v 9, v 10])), (h, .inr (0, [.int 0, g 1, g 2, g 3, g 4, g 5, g 6, g 7, g 8, g 9, g 10, g 11, g 12, g 13, g 14]))]) hD hS hA [0, 1] rfl
  refine va_calli (va_runV (As := [.int a0]) (rest := []) ⟨hx, hb, hml, hown, hts⟩ (c_X7_isPlace l dC dI s.heap.size x a0 v h g ) (cwV 1 hts gX7_route_X7_isPlace rfl rfl rfl (by decide +kernel) ⟨Nat.le_of_ble_eq_true rfl, Nat.le_of_ble_eq_true rfl⟩) ⟨ax_blind (fun _ _ _ _ _ => trivial), va_recv hKc hPc (ci := 7) (q0 := 0) rfl rfl, ax_pre hPc hKc hDc (fun _ _ => trivial)⟩ rfl rfl hl.1 rfl (lv_room (Nat.le_of_ble_eq_true rfl)) dX7_route_2 ⟨Nat.le_of_ble_eq_true rfl, Nat.le_of_ble_eq_true rfl⟩) hS (fun q _ h => hFc q h) hFc (fun r_1 u t H1 locs ht hvm hw hB hz1 hk1 hS => ?_)
  obtain ⟨hP1, hK1, hD1⟩ := hB
  rw [ht] at hP1
  have hK1 := va_K.moved hvm.symm hK1
  obtain ⟨hP, hD⟩ := va_join (wr := []) (w1 := [(x, .inr (7, [v 0, v 1, v 2, v 3, v 4, v 5, v 6, .ref h, v 8, v 9, v 10])), (h, .inr (0, [.int 0, g 1, g 2, g 3, g 4, g 5, g 6, g 7, g 8, g 9, g 10, g 11, g 12, g 13, g 14]))]) hP hD [0, 1] [] rfl rfl (by decide) (by decide) hk1 hFc hP1 hD1
  have hK := (hK.sub (tys' := []) [] rfl).app hK1
  generalize H1 = H at hP hS ⊢
  have hP : va_P (dC, dI) vwCl [(x, .inr (7, [v 0, v 1, v 2, v 3, v 4, v 5, v 6, .ref h, v 8, v 9, v 10])), (h, .inr (0, [.int 0, g 1, g 2, g 3, g 4, g 5, g 6, g 7, g 8, g 9, g 10, g 11, g 12, g 13, g 14]))] H := hP
  have hD : va_D A [(x, .inr (7, [v 0, v 1, v 2, v 3, v 4, v 5, v 6, .ref h, v 8, v 9, v 10])), (h, .inr (0, [.int 0, g 1, g 2, g 3, g 4, g 5, g 6, g 7, g 8, g 9, g 10, g 11, g 12, g 13, g 14]))] := hD
  have hK : va_K (dC, dI) vwCl [] s := hK
  have hw : r_1 = 0 := hw
  subst hw
  refine lv_if_ne (tgt := 14) hx hb dX7_route_5 (by decide) (fun c_2 => absurd (by decide +kernel) c_2) (fun _ => ?_)
  refine lv_aload_n hx hb dX7_route_8 rfl (lv_at hl 0 rfl) ?_
  refine lv_iconst (v := 1) hx hb dX7_route_9 (by decide) ?_
  have hPc := hP.sub (ws' := [(x, .inr (7, [v 0, v 1, v 2, v 3, v 4, v 5, v 6, .ref h, v 8, v 9, v 10]))]) [0] rfl
  have hDc := hD.sub (ws' := [(x, .inr (7, [v 0, v 1, v 2, v 3, v 4, v 5, v 6, .ref h, v 8, v 9, v 10]))]) [0] (by decide) rfl
  have hKc := hK.sub (tys' := []) [] rfl
  have hFc := va_free (wc := [(x, .inr (7, [v 0, v 1, v 2, v 3, v 4, v 5, v 6, .ref h, v 8, v 9, v 10]))]) hD hS hA [0] rfl
  refine va_calli (va_runV (As := [.int 1]) (rest := []) ⟨hx, hb, hml, hown, hts⟩ (c_X7_refused l dC dI H.size x 1 (fun i9 => ([v 0, v 1, v 2, v 3, v 4, v 5, v 6, .ref h, v 8, v 9, v 10] : List Value).getD i9 .null) ) (cwV 1 hts gX7_route_X7_refused rfl rfl rfl (by decide +kernel) ⟨Nat.le_of_ble_eq_true rfl, Nat.le_of_ble_eq_true rfl⟩) ⟨ax_blind (fun _ _ _ _ _ => trivial), va_recv hKc hPc (ci := 7) (q0 := 0) rfl rfl, ax_pre hPc hKc hDc (fun _ _ => trivial)⟩ rfl rfl hl.1 rfl (lv_room (Nat.le_of_ble_eq_true rfl)) dX7_route_10 ⟨Nat.le_of_ble_eq_true rfl, Nat.le_of_ble_eq_true rfl⟩) hS (fun q _ h => hFc q h) hFc (fun r_3 u t H1 locs ht hvm hw hB hz1 hk1 hS => ?_)
  obtain ⟨hP1, hK1, hD1⟩ := hB
  rw [ht] at hP1
  have hK1 := va_K.moved hvm.symm hK1
  obtain ⟨hP, hD⟩ := va_join (wr := [(h, .inr (0, [.int 0, g 1, g 2, g 3, g 4, g 5, g 6, g 7, g 8, g 9, g 10, g 11, g 12, g 13, g 14]))]) (w1 := []) hP hD [0] [1] rfl rfl (by decide) (by decide) hk1 hFc hP1 hD1
  have hK := (hK.sub (tys' := []) [] rfl).app hK1
  generalize H1 = H at hP hS ⊢
  have hP : va_P (dC, dI) vwCl [(h, .inr (0, [.int 0, g 1, g 2, g 3, g 4, g 5, g 6, g 7, g 8, g 9, g 10, g 11, g 12, g 13, g 14]))] H := hP
  have hD : va_D A [(h, .inr (0, [.int 0, g 1, g 2, g 3, g 4, g 5, g 6, g 7, g 8, g 9, g 10, g 11, g 12, g 13, g 14]))] := hD
  have hK : va_K (dC, dI) vwCl [] s := hK
  have hw : r_3 = (-1) := hw
  subst hw
  have hP9 := hP.sub (ws' := []) [] rfl
  have hD9 := hD.sub (ws' := []) [] (by decide) rfl
  have hK9 := hK.sub (tys' := []) [] rfl
  exact W.iret (v := (-1)) hx hb hr (fun t ht hW => ⟨⟨(-1), (), rfl, rfl, by rw [ht]; exact hP9, va_K.moved hW.alike hK9, hD9⟩, hS.F ht⟩) hS.2.2 dX7_route_13

set_option maxHeartbeats 4000000 in
set_option maxRecDepth 100000 in
theorem c_X7_routeAt (l : Launch) (dC : Nat → ClassId) (dI : Nat → Nat → Nat) (sz : Nat) (x : Nat) (a0 : Int32) (a1 : Int32) (a2 : Int32) (v : Nat → Value) (h : Nat) (g : Nat → Value) : Met l yX7_routeAt wsX7_routeAt ({ frames := 2, cells := 0, slots := 0, locals := 43 }) (va_Pc [.ref x, .int a0, .int a1, .int a2] (ax_C dC dI sz [(x, .inr (7, [v 0, v 1, v 2, v 3, v 4, v 5, v 6, .ref h, v 8, v 9, v 10])), (h, .inr (0, [.int 0, g 1, g 2, g 3, g 4, g 5, g 6, g 7, g 8, g 9, g 10, g 11, g 12, g 13, g 14]))] [] (fun _ => True))) (va_Qi (fun (r : Int32) (_ : Unit) => r = -1) (fun (_ : Unit) (t : State) => ax_B dC dI (va_A [(x, .inr (7, [v 0, v 1, v 2, v 3, v 4, v 5, v 6, .ref h, v 8, v 9, v 10])), (h, .inr (0, [.int 0, g 1, g 2, g 3, g 4, g 5, g 6, g 7, g 8, g 9, g 10, g 11, g 12, g 13, g 14]))] sz) [] [] t) (va_A [(x, .inr (7, [v 0, v 1, v 2, v 3, v 4, v 5, v 6, .ref h, v 8, v 9, v 10])), (h, .inr (0, [.int 0, g 1, g 2, g 3, g 4, g 5, g 6, g 7, g 8, g 9, g 10, g 11, g 12, g 13, g 14]))] sz)) 0 0 (va_A [(x, .inr (7, [v 0, v 1, v 2, v 3, v 4, v 5, v 6, .ref h, v 8, v 9, v 10])), (h, .inr (0, [.int 0, g 1, g 2, g 3, g 4, g 5, g 6, g 7, g 8, g 9, g 10, g 11, g 12, g 13, g 14]))] sz) := by
  refine Met.ofW (cc := cX7_routeAt) (maxL := 4) (ret := (some .int)) (by decide) rfl ?_
  intro p e s m args below meth c s₁ B hml hv
  obtain ⟨rfl, hsz, hP, hK, hD0, hE⟩ := hv
  have hx := B.exec
  have hb := B.bytes
  have hr := B.returns
  have hts := atoms_spec (ws := wsX7_routeAt) B.pre
  have hown : s.vm.findClass RX7 = some m.cls := findClass_of_methodNamed B.named
  have hlocks := B.notSynchronized
  subst hsz
  have hD := hD0.self (sz := s.heap.size)
  generalize hAe : va_A [(x, .inr (7, [v 0, v 1, v 2, v 3, v 4, v 5, v 6, .ref h, v 8, v 9, v 10])), (h, .inr (0, [.int 0, g 1, g 2, g 3, g 4, g 5, g 6, g 7, g 8, g 9, g 10, g 11, g 12, g 13, g 14]))] s.heap.size = A at hD ⊢
  have hA : ∀ q : Nat, s.heap.size ≤ q → A q := fun q h => by rw [← hAe]; exact Or.inr h
  have hS : va_S A s.heap s.heap [] := va_S.rf
  have hP : va_P (dC, dI) vwCl [(x, .inr (7, [v 0, v 1, v 2, v 3, v 4, v 5, v 6, .ref h, v 8, v 9, v 10])), (h, .inr (0, [.int 0, g 1, g 2, g 3, g 4, g 5, g 6, g 7, g 8, g 9, g 10, g 11, g 12, g 13, g 14]))] s.heap := hP
  have hl := lv_entry ([.ref x, .int a0, .int a1, .int a2]) (n := 4) (Nat.le_of_ble_eq_true rfl)
  rw [lg_entry_eq]
  generalize (lg_sl ([.ref x, .int a0, .int a1, .int a2]) ++ List.replicate (4 - (lg_sl ([.ref x, .int a0, .int a1, .int a2])).length) Slot.unset).toArray = ls at hl ⊢
  have hl : lv_has ls 4 [(0, .ref x), (1, .int a0), (2, .int a1), (3, .int a2)] := hl
  refine lv_aload_n hx hb dX7_routeAt_0 rfl (lv_at hl 0 rfl) ?_
  refine lv_iload_n hx hb dX7_routeAt_1 rfl (lv_at hl 1 rfl) ?_
  have hPc := hP.sub (ws' := [(x, .inr (7, [v 0, v 1, v 2, v 3, v 4, v 5, v 6, .ref h, v 8, v 9, v 10])), (h, .inr (0, [.int 0, g 1, g 2, g 3, g 4, g 5, g 6, g 7, g 8, g 9, g 10, g 11, g 12, g 13, g 14]))]) [0, 1] rfl
  have hDc := hD.sub (ws' := [(x, .inr (7, [v 0, v 1, v 2, v 3, v 4, v 5, v 6, .ref h, v 8, v 9, v 10])), (h, .inr (0, [.int 0, g 1, g 2, g 3, g 4, g 5, g 6, g 7, g 8, g 9, g 10, g 11, g 12, g 13, g 14]))]) [0, 1] (by decide) rfl
  have hKc := hK.sub (tys' := []) [] rfl
  have hFc := va_free (wc := [(x, .inr (7, [v 0, v 1, v 2, v 3, v 4, v 5, v 6, .ref h, v 8, v 9, v 10])), (h, .inr (0, [.int 0, g 1, g 2, g 3, g 4, g 5, g 6, g 7, g 8, g 9, g 10, g 11, g 12, g 13, g 14]))]) hD hS hA [0, 1] rfl
  refine va_calli (va_runV (As := [.int a0]) (rest := []) ⟨hx, hb, hml, hown, hts⟩ (c_X7_isPlace l dC dI s.heap.size x a0 v h g ) (cwV 1 hts gX7_routeAt_X7_isPlace rfl rfl rfl (by decide +kernel) ⟨Nat.le_of_ble_eq_true rfl, Nat.le_of_ble_eq_true rfl⟩) ⟨ax_blind (fun _ _ _ _ _ => trivial), va_recv hKc hPc (ci := 7) (q0 := 0) rfl rfl, ax_pre hPc hKc hDc (fun _ _ => trivial)⟩ rfl rfl hl.1 rfl (lv_room (Nat.le_of_ble_eq_true rfl)) dX7_routeAt_2 ⟨Nat.le_of_ble_eq_true rfl, Nat.le_of_ble_eq_true rfl⟩) hS (fun q _ h => hFc q h) hFc (fun r_1 u t H1 locs ht hvm hw hB hz1 hk1 hS => ?_)
  obtain ⟨hP1, hK1, hD1⟩ := hB
  rw [ht] at hP1
  have hK1 := va_K.moved hvm.symm hK1
  obtain ⟨hP, hD⟩ := va_join (wr := []) (w1 := [(x, .inr (7, [v 0, v 1, v 2, v 3, v 4, v 5, v 6, .ref h, v 8, v 9, v 10])), (h, .inr (0, [.int 0, g 1, g 2, g 3, g 4, g 5, g 6, g 7, g 8, g 9, g 10, g 11, g 12, g 13, g 14]))]) hP hD [0, 1] [] rfl rfl (by decide) (by decide) hk1 hFc hP1 hD1
  have hK := (hK.sub (tys' := []) [] rfl).app hK1
  generalize H1 = H at hP hS ⊢
  have hP : va_P (dC, dI) vwCl [(x, .inr (7, [v 0, v 1, v 2, v 3, v 4, v 5, v 6, .ref h, v 8, v 9, v 10])), (h, .inr (0, [.int 0, g 1, g 2, g 3, g 4, g 5, g 6, g 7, g 8, g 9, g 10, g 11, g 12, g 13, g 14]))] H := hP
  have hD : va_D A [(x, .inr (7, [v 0, v 1, v 2, v 3, v 4, v 5, v 6, .ref h, v 8, v 9, v 10])), (h, .inr (0, [.int 0, g 1, g 2, g 3, g 4, g 5, g 6, g 7, g 8, g 9, g 10, g 11, g 12, g 13, g 14]))] := hD
  have hK : va_K (dC, dI) vwCl [] s := hK
  have hw : r_1 = 0 := hw
  subst hw
  refine lv_if_eq (tgt := 17) hx hb dX7_routeAt_5 (by decide) (fun _ => ?_) (fun c_2 => absurd (by decide +kernel) c_2)
  refine lv_aload_n hx hb dX7_routeAt_17 rfl (lv_at hl 0 rfl) ?_
  refine lv_iconst (v := 1) hx hb dX7_routeAt_18 (by decide) ?_
  have hPc := hP.sub (ws' := [(x, .inr (7, [v 0, v 1, v 2, v 3, v 4, v 5, v 6, .ref h, v 8, v 9, v 10]))]) [0] rfl
  have hDc := hD.sub (ws' := [(x, .inr (7, [v 0, v 1, v 2, v 3, v 4, v 5, v 6, .ref h, v 8, v 9, v 10]))]) [0] (by decide) rfl
  have hKc := hK.sub (tys' := []) [] rfl
  have hFc := va_free (wc := [(x, .inr (7, [v 0, v 1, v 2, v 3, v 4, v 5, v 6, .ref h, v 8, v 9, v 10]))]) hD hS hA [0] rfl
  refine va_calli (va_runV (As := [.int 1]) (rest := []) ⟨hx, hb, hml, hown, hts⟩ (c_X7_refused l dC dI H.size x 1 (fun i9 => ([v 0, v 1, v 2, v 3, v 4, v 5, v 6, .ref h, v 8, v 9, v 10] : List Value).getD i9 .null) ) (cwV 1 hts gX7_routeAt_X7_refused rfl rfl rfl (by decide +kernel) ⟨Nat.le_of_ble_eq_true rfl, Nat.le_of_ble_eq_true rfl⟩) ⟨ax_blind (fun _ _ _ _ _ => trivial), va_recv hKc hPc (ci := 7) (q0 := 0) rfl rfl, ax_pre hPc hKc hDc (fun _ _ => trivial)⟩ rfl rfl hl.1 rfl (lv_room (Nat.le_of_ble_eq_true rfl)) dX7_routeAt_19 ⟨Nat.le_of_ble_eq_true rfl, Nat.le_of_ble_eq_true rfl⟩) hS (fun q _ h => hFc q h) hFc (fun r_3 u t H1 locs ht hvm hw hB hz1 hk1 hS => ?_)
  obtain ⟨hP1, hK1, hD1⟩ := hB
  rw [ht] at hP1
  have hK1 := va_K.moved hvm.symm hK1
  obtain ⟨hP, hD⟩ := va_join (wr := [(h, .inr (0, [.int 0, g 1, g 2, g 3, g 4, g 5, g 6, g 7, g 8, g 9, g 10, g 11, g 12, g 13, g 14]))]) (w1 := []) hP hD [0] [1] rfl rfl (by decide) (by decide) hk1 hFc hP1 hD1
  have hK := (hK.sub (tys' := []) [] rfl).app hK1
  generalize H1 = H at hP hS ⊢
  have hP : va_P (dC, dI) vwCl [(h, .inr (0, [.int 0, g 1, g 2, g 3, g 4, g 5, g 6, g 7, g 8, g 9, g 10, g 11, g 12, g 13, g 14]))] H := hP
  have hD : va_D A [(h, .inr (0, [.int 0, g 1, g 2, g 3, g 4, g 5, g 6, g 7, g 8, g 9, g 10, g 11, g 12, g 13, g 14]))] := hD
  have hK : va_K (dC, dI) vwCl [] s := hK
  have hw : r_3 = (-1) := hw
  subst hw
  have hP9 := hP.sub (ws' := []) [] rfl
  have hD9 := hD.sub (ws' := []) [] (by decide) rfl
  have hK9 := hK.sub (tys' := []) [] rfl
  exact W.iret (v := (-1)) hx hb hr (fun t ht hW => ⟨⟨(-1), (), rfl, rfl, by rw [ht]; exact hP9, va_K.moved hW.alike hK9, hD9⟩, hS.F ht⟩) hS.2.2 dX7_routeAt_22

set_option maxHeartbeats 4000000 in
set_option maxRecDepth 100000 in
theorem c_X7_stand (l : Launch) (dC : Nat → ClassId) (dI : Nat → Nat → Nat) (sz : Nat) (x : Nat) (a0 : Int32) (v : Nat → Value) (h : Nat) (g : Nat → Value) : Met l yX7_stand wsX7_stand ({ frames := 2, cells := 0, slots := 0, locals := 43 }) (va_Pc [.ref x, .int a0] (ax_C dC dI sz [(x, .inr (7, [v 0, v 1, v 2, v 3, v 4, v 5, v 6, .ref h, v 8, v 9, v 10])), (h, .inr (0, [.int 0, g 1, g 2, g 3, g 4, g 5, g 6, g 7, g 8, g 9, g 10, g 11, g 12, g 13, g 14]))] [] (fun _ => True))) (va_Qi (fun (r : Int32) (_ : Unit) => r = -1) (fun (_ : Unit) (t : State) => ax_B dC dI (va_A [(x, .inr (7, [v 0, v 1, v 2, v 3, v 4, v 5, v 6, .ref h, v 8, v 9, v 10])), (h, .inr (0, [.int 0, g 1, g 2, g 3, g 4, g 5, g 6, g 7, g 8, g 9, g 10, g 11, g 12, g 13, g 14]))] sz) [] [] t) (va_A [(x, .inr (7, [v 0, v 1, v 2, v 3, v 4, v 5, v 6, .ref h, v 8, v 9, v 10])), (h, .inr (0, [.int 0, g 1, g 2, g 3, g 4, g 5, g 6, g 7, g 8, g 9, g 10, g 11, g 12, g 13, g 14]))] sz)) 0 0 (va_A [(x, .inr (7, [v 0, v 1, v 2, v 3, v 4, v 5, v 6, .ref h, v 8, v 9, v 10])), (h, .inr (0, [.int 0, g 1, g 2, g 3, g 4, g 5, g 6, g 7, g 8, g 9, g 10, g 11, g 12, g 13, g 14]))] sz) := by
  refine Met.ofW (cc := cX7_stand) (maxL := 5) (ret := (some .int)) (by decide) rfl ?_
  intro p e s m args below meth c s₁ B hml hv
  obtain ⟨rfl, hsz, hP, hK, hD0, hE⟩ := hv
  have hx := B.exec
  have hb := B.bytes
  have hr := B.returns
  have hts := atoms_spec (ws := wsX7_stand) B.pre
  have hown : s.vm.findClass RX7 = some m.cls := findClass_of_methodNamed B.named
  have hlocks := B.notSynchronized
  subst hsz
  have hD := hD0.self (sz := s.heap.size)
  generalize hAe : va_A [(x, .inr (7, [v 0, v 1, v 2, v 3, v 4, v 5, v 6, .ref h, v 8, v 9, v 10])), (h, .inr (0, [.int 0, g 1, g 2, g 3, g 4, g 5, g 6, g 7, g 8, g 9, g 10, g 11, g 12, g 13, g 14]))] s.heap.size = A at hD ⊢
  have hA : ∀ q : Nat, s.heap.size ≤ q → A q := fun q h => by rw [← hAe]; exact Or.inr h
  have hS : va_S A s.heap s.heap [] := va_S.rf
  have hP : va_P (dC, dI) vwCl [(x, .inr (7, [v 0, v 1, v 2, v 3, v 4, v 5, v 6, .ref h, v 8, v 9, v 10])), (h, .inr (0, [.int 0, g 1, g 2, g 3, g 4, g 5, g 6, g 7, g 8, g 9, g 10, g 11, g 12, g 13, g 14]))] s.heap := hP
  have hl := lv_entry ([.ref x, .int a0]) (n := 5) (Nat.le_of_ble_eq_true rfl)
  rw [lg_entry_eq]
  generalize (lg_sl ([.ref x, .int a0]) ++ List.replicate (5 - (lg_sl ([.ref x, .int a0])).length) Slot.unset).toArray = ls at hl ⊢
  have hl : lv_has ls 5 [(0, .ref x), (1, .int a0)] := hl
  refine lv_aload_n hx hb dX7_stand_0 rfl (lv_at hl 0 rfl) ?_
  refine lv_iload_n hx hb dX7_stand_1 rfl (lv_at hl 1 rfl) ?_
  refine lv_iconst (v := 1) hx hb dX7_stand_2 (by decide) ?_
  refine lv_bipush (v := 60) hx hb dX7_stand_3 (by decide) ?_
  have hPc := hP.sub (ws' := [(x, .inr (7, [v 0, v 1, v 2, v 3, v 4, v 5, v 6, .ref h, v 8, v 9, v 10])), (h, .inr (0, [.int 0, g 1, g 2, g 3, g 4, g 5, g 6, g 7, g 8, g 9, g 10, g 11, g 12, g 13, g 14]))]) [0, 1] rfl
  have hDc := hD.sub (ws' := [(x, .inr (7, [v 0, v 1, v 2, v 3, v 4, v 5, v 6, .ref h, v 8, v 9, v 10])), (h, .inr (0, [.int 0, g 1, g 2, g 3, g 4, g 5, g 6, g 7, g 8, g 9, g 10, g 11, g 12, g 13, g 14]))]) [0, 1] (by decide) rfl
  have hKc := hK.sub (tys' := []) [] rfl
  have hFc := va_free (wc := [(x, .inr (7, [v 0, v 1, v 2, v 3, v 4, v 5, v 6, .ref h, v 8, v 9, v 10])), (h, .inr (0, [.int 0, g 1, g 2, g 3, g 4, g 5, g 6, g 7, g 8, g 9, g 10, g 11, g 12, g 13, g 14]))]) hD hS hA [0, 1] rfl
  refine va_calli (va_runV (As := [.int a0, .int 1, .int 60]) (rest := []) ⟨hx, hb, hml, hown, hts⟩ (c_X7_troubleOfNumber l dC dI s.heap.size x a0 1 60 v h g ) (cwV 3 hts gX7_stand_X7_troubleOfNumber rfl rfl rfl (by decide +kernel) ⟨Nat.le_of_ble_eq_true rfl, Nat.le_of_ble_eq_true rfl⟩) ⟨ax_blind (fun _ _ _ _ _ => trivial), va_recv hKc hPc (ci := 7) (q0 := 0) rfl rfl, ax_pre hPc hKc hDc (fun _ _ => trivial)⟩ rfl rfl hl.1 rfl (lv_room (Nat.le_of_ble_eq_true rfl)) dX7_stand_5 ⟨Nat.le_of_ble_eq_true rfl, Nat.le_of_ble_eq_true rfl⟩) hS (fun q _ h => hFc q h) hFc (fun r_1 u t H1 locs ht hvm hw hB hz1 hk1 hS => ?_)
  obtain ⟨hP1, hK1, hD1⟩ := hB
  rw [ht] at hP1
  have hK1 := va_K.moved hvm.symm hK1
  obtain ⟨hP, hD⟩ := va_join (wr := []) (w1 := [(x, .inr (7, [v 0, v 1, v 2, v 3, v 4, v 5, v 6, .ref h, v 8, v 9, v 10])), (h, .inr (0, [.int 0, g 1, g 2, g 3, g 4, g 5, g 6, g 7, g 8, g 9, g 10, g 11, g 12, g 13, g 14]))]) hP hD [0, 1] [] rfl rfl (by decide) (by decide) hk1 hFc hP1 hD1
  have hK := (hK.sub (tys' := []) [] rfl).app hK1
  generalize H1 = H at hP hS ⊢
  have hP : va_P (dC, dI) vwCl [(x, .inr (7, [v 0, v 1, v 2, v 3, v 4, v 5, v 6, .ref h, v 8, v 9, v 10])), (h, .inr (0, [.int 0, g 1, g 2, g 3, g 4, g 5, g 6, g 7, g 8, g 9, g 10, g 11, g 12, g 13, g 14]))] H := hP
  have hD : va_D A [(x, .inr (7, [v 0, v 1, v 2, v 3, v 4, v 5, v 6, .ref h, v 8, v 9, v 10])), (h, .inr (0, [.int 0, g 1, g 2, g 3, g 4, g 5, g 6, g 7, g 8, g 9, g 10, g 11, g 12, g 13, g 14]))] := hD
  have hK : va_K (dC, dI) vwCl [] s := hK
  have hw : r_1 = 1 := hw
  subst hw
  refine lv_istore_n (lv' := [(2, .int 1), (0, .ref x), (1, .int a0)]) hx hb dX7_stand_8 rfl hl (by decide) rfl (fun ls hl => ?_)
  refine lv_iload_n hx hb dX7_stand_9 rfl (lv_at hl 0 rfl) ?_
  refine lv_if_eq (tgt := 19) hx hb dX7_stand_10 (by decide) (fun c_2 => absurd c_2 (by decide +kernel)) (fun _ => ?_)
  refine lv_aload_n hx hb dX7_stand_13 rfl (lv_at hl 1 rfl) ?_
  refine lv_iload_n hx hb dX7_stand_14 rfl (lv_at hl 0 rfl) ?_
  have hPc := hP.sub (ws' := [(x, .inr (7, [v 0, v 1, v 2, v 3, v 4, v 5, v 6, .ref h, v 8, v 9, v 10]))]) [0] rfl
  have hDc := hD.sub (ws' := [(x, .inr (7, [v 0, v 1, v 2, v 3, v 4, v 5, v 6, .ref h, v 8, v 9, v 10]))]) [0] (by decide) rfl
  have hKc := hK.sub (tys' := []) [] rfl
  have hFc := va_free (wc := [(x, .inr (7, [v 0, v 1, v 2, v 3, v 4, v 5, v 6, .ref h, v 8, v 9, v 10]))]) hD hS hA [0] rfl
  refine va_calli (va_runV (As := [.int 1]) (rest := []) ⟨hx, hb, hml, hown, hts⟩ (c_X7_refused l dC dI H.size x 1 (fun i9 => ([v 0, v 1, v 2, v 3, v 4, v 5, v 6, .ref h, v 8, v 9, v 10] : List Value).getD i9 .null) ) (cwV 1 hts gX7_stand_X7_refused rfl rfl rfl (by decide +kernel) ⟨Nat.le_of_ble_eq_true rfl, Nat.le_of_ble_eq_true rfl⟩) ⟨ax_blind (fun _ _ _ _ _ => trivial), va_recv hKc hPc (ci := 7) (q0 := 0) rfl rfl, ax_pre hPc hKc hDc (fun _ _ => trivial)⟩ rfl rfl hl.1 rfl (lv_room (Nat.le_of_ble_eq_true rfl)) dX7_stand_15 ⟨Nat.le_of_ble_eq_true rfl, Nat.le_of_ble_eq_true rfl⟩) hS (fun q _ h => hFc q h) hFc (fun r_3 u t H1 locs ht hvm hw hB hz1 hk1 hS => ?_)
  obtain ⟨hP1, hK1, hD1⟩ := hB
  rw [ht] at hP1
  have hK1 := va_K.moved hvm.symm hK1
  obtain ⟨hP, hD⟩ := va_join (wr := [(h, .inr (0, [.int 0, g 1, g 2, g 3, g 4, g 5, g 6, g 7, g 8, g 9, g 10, g 11, g 12, g 13, g 14]))]) (w1 := []) hP hD [0] [1] rfl rfl (by decide) (by decide) hk1 hFc hP1 hD1
  have hK := (hK.sub (tys' := []) [] rfl).app hK1
  generalize H1 = H at hP hS ⊢
  have hP : va_P (dC, dI) vwCl [(h, .inr (0, [.int 0, g 1, g 2, g 3, g 4, g 5, g 6, g 7, g 8, g 9, g 10, g 11, g 12, g 13, g 14]))] H := hP
  have hD : va_D A [(h, .inr (0, [.int 0, g 1, g 2, g 3, g 4, g 5, g 6, g 7, g 8, g 9, g 10, g 11, g 12, g 13, g 14]))] := hD
  have hK : va_K (dC, dI) vwCl [] s := hK
  have hw : r_3 = (-1) := hw
  subst hw
  have hP9 := hP.sub (ws' := []) [] rfl
  have hD9 := hD.sub (ws' := []) [] (by decide) rfl
  have hK9 := hK.sub (tys' := []) [] rfl
  exact W.iret (v := (-1)) hx hb hr (fun t ht hW => ⟨⟨(-1), (), rfl, rfl, by rw [ht]; exact hP9, va_K.moved hW.alike hK9, hD9⟩, hS.F ht⟩) hS.2.2 dX7_stand_18

set_option maxHeartbeats 4000000 in
set_option maxRecDepth 100000 in
theorem c_X7_guard (l : Launch) (dC : Nat → ClassId) (dI : Nat → Nat → Nat) (sz : Nat) (x : Nat) (a0 : Int32) (v : Nat → Value) (h : Nat) (g : Nat → Value) : Met l yX7_guard wsX7_guard ({ frames := 2, cells := 0, slots := 0, locals := 43 }) (va_Pc [.ref x, .int a0] (ax_C dC dI sz [(x, .inr (7, [v 0, v 1, v 2, v 3, v 4, v 5, v 6, .ref h, v 8, v 9, v 10])), (h, .inr (0, [.int 0, g 1, g 2, g 3, g 4, g 5, g 6, g 7, g 8, g 9, g 10, g 11, g 12, g 13, g 14]))] [] (fun _ => True))) (va_Qi (fun (r : Int32) (_ : Unit) => r = -1) (fun (_ : Unit) (t : State) => ax_B dC dI (va_A [(x, .inr (7, [v 0, v 1, v 2, v 3, v 4, v 5, v 6, .ref h, v 8, v 9, v 10])), (h, .inr (0, [.int 0, g 1, g 2, g 3, g 4, g 5, g 6, g 7, g 8, g 9, g 10, g 11, g 12, g 13, g 14]))] sz) [] [] t) (va_A [(x, .inr (7, [v 0, v 1, v 2, v 3, v 4, v 5, v 6, .ref h, v 8, v 9, v 10])), (h, .inr (0, [.int 0, g 1, g 2, g 3, g 4, g 5, g 6, g 7, g 8, g 9, g 10, g 11, g 12, g 13, g 14]))] sz)) 0 0 (va_A [(x, .inr (7, [v 0, v 1, v 2, v 3, v 4, v 5, v 6, .ref h, v 8, v 9, v 10])), (h, .inr (0, [.int 0, g 1, g 2, g 3, g 4, g 5, g 6, g 7, g 8, g 9, g 10, g 11, g 12, g 13, g 14]))] sz) := by
  refine Met.ofW (cc := cX7_guard) (maxL := 4) (ret := (some .int)) (by decide) rfl ?_
  intro p e s m args below meth c s₁ B hml hv
  obtain ⟨rfl, hsz, hP, hK, hD0, hE⟩ := hv
  have hx := B.exec
  have hb := B.bytes
  have hr := B.returns
  have hts := atoms_spec (ws := wsX7_guard) B.pre
  have hown : s.vm.findClass RX7 = some m.cls := findClass_of_methodNamed B.named
  have hlocks := B.notSynchronized
  subst hsz
  have hD := hD0.self (sz := s.heap.size)
  generalize hAe : va_A [(x, .inr (7, [v 0, v 1, v 2, v 3, v 4, v 5, v 6, .ref h, v 8, v 9, v 10])), (h, .inr (0, [.int 0, g 1, g 2, g 3, g 4, g 5, g 6, g 7, g 8, g 9, g 10, g 11, g 12, g 13, g 14]))] s.heap.size = A at hD ⊢
  have hA : ∀ q : Nat, s.heap.size ≤ q → A q := fun q h => by rw [← hAe]; exact Or.inr h
  have hS : va_S A s.heap s.heap [] := va_S.rf
  have hP : va_P (dC, dI) vwCl [(x, .inr (7, [v 0, v 1, v 2, v 3, v 4, v 5, v 6, .ref h, v 8, v 9, v 10])), (h, .inr (0, [.int 0, g 1, g 2, g 3, g 4, g 5, g 6, g 7, g 8, g 9, g 10, g 11, g 12, g 13, g 14]))] s.heap := hP
  have hl := lv_entry ([.ref x, .int a0]) (n := 4) (Nat.le_of_ble_eq_true rfl)
  rw [lg_entry_eq]
  generalize (lg_sl ([.ref x, .int a0]) ++ List.replicate (4 - (lg_sl ([.ref x, .int a0])).length) Slot.unset).toArray = ls at hl ⊢
  have hl : lv_has ls 4 [(0, .ref x), (1, .int a0)] := hl
  refine lv_aload_n hx hb dX7_guard_0 rfl (lv_at hl 0 rfl) ?_
  refine lv_iload_n hx hb dX7_guard_1 rfl (lv_at hl 1 rfl) ?_
  refine lv_iconst (v := 1) hx hb dX7_guard_2 (by decide) ?_
  refine lv_bipush (v := 60) hx hb dX7_guard_3 (by decide) ?_
  have hPc := hP.sub (ws' := [(x, .inr (7, [v 0, v 1, v 2, v 3, v 4, v 5, v 6, .ref h, v 8, v 9, v 10])), (h, .inr (0, [.int 0, g 1, g 2, g 3, g 4, g 5, g 6, g 7, g 8, g 9, g 10, g 11, g 12, g 13, g 14]))]) [0, 1] rfl
  have hDc := hD.sub (ws' := [(x, .inr (7, [v 0, v 1, v 2, v 3, v 4, v 5, v 6, .ref h, v 8, v 9, v 10])), (h, .inr (0, [.int 0, g 1, g 2, g 3, g 4, g 5, g 6, g 7, g 8, g 9, g 10, g 11, g 12, g 13, g 14]))]) [0, 1] (by decide) rfl
  have hKc := hK.sub (tys' := []) [] rfl
  have hFc := va_free (wc := [(x, .inr (7, [v 0, v 1, v 2, v 3, v 4, v 5, v 6, .ref h, v 8, v 9, v 10])), (h, .inr (0, [.int 0, g 1, g 2, g 3, g 4, g 5, g 6, g 7, g 8, g 9, g 10, g 11, g 12, g 13, g 14]))]) hD hS hA [0, 1] rfl
  refine va_calli (va_runV (As := [.int a0, .int 1, .int 60]) (rest := []) ⟨hx, hb, hml, hown, hts⟩ (c_X7_troubleOfNumber l dC dI s.heap.size x a0 1 60 v h g ) (cwV 3 hts gX7_guard_X7_troubleOfNumber rfl rfl rfl (by decide +kernel) ⟨Nat.le_of_ble_eq_true rfl, Nat.le_of_ble_eq_true rfl⟩) ⟨ax_blind (fun _ _ _ _ _ => trivial), va_recv hKc hPc (ci := 7) (q0 := 0) rfl rfl, ax_pre hPc hKc hDc (fun _ _ => trivial)⟩ rfl rfl hl.1 rfl (lv_room (Nat.le_of_ble_eq_true rfl)) dX7_guard_5 ⟨Nat.le_of_ble_eq_true rfl, Nat.le_of_ble_eq_true rfl⟩) hS (fun q _ h => hFc q h) hFc (fun r_1 u t H1 locs ht hvm hw hB hz1 hk1 hS => ?_)
  obtain ⟨hP1, hK1, hD1⟩ := hB
  rw [ht] at hP1
  have hK1 := va_K.moved hvm.symm hK1
  obtain ⟨hP, hD⟩ := va_join (wr := []) (w1 := [(x, .inr (7, [v 0, v 1, v 2, v 3, v 4, v 5, v 6, .ref h, v 8, v 9, v 10])), (h, .inr (0, [.int 0, g 1, g 2, g 3, g 4, g 5, g 6, g 7, g 8, g 9, g 10, g 11, g 12, g 13, g 14]))]) hP hD [0, 1] [] rfl rfl (by decide) (by decide) hk1 hFc hP1 hD1
  have hK := (hK.sub (tys' := []) [] rfl).app hK1
  generalize H1 = H at hP hS ⊢
  have hP : va_P (dC, dI) vwCl [(x, .inr (7, [v 0, v 1, v 2, v 3, v 4, v 5, v 6, .ref h, v 8, v 9, v 10])), (h, .inr (0, [.int 0, g 1, g 2, g 3, g 4, g 5, g 6, g 7, g 8, g 9, g 10, g 11, g 12, g 13, g 14]))] H := hP
  have hD : va_D A [(x, .inr (7, [v 0, v 1, v 2, v 3, v 4, v 5, v 6, .ref h, v 8, v 9, v 10])), (h, .inr (0, [.int 0, g 1, g 2, g 3, g 4, g 5, g 6, g 7, g 8, g 9, g 10, g 11, g 12, g 13, g 14]))] := hD
  have hK : va_K (dC, dI) vwCl [] s := hK
  have hw : r_1 = 1 := hw
  subst hw
  refine lv_istore_n (lv' := [(2, .int 1), (0, .ref x), (1, .int a0)]) hx hb dX7_guard_8 rfl hl (by decide) rfl (fun ls hl => ?_)
  refine lv_iload_n hx hb dX7_guard_9 rfl (lv_at hl 0 rfl) ?_
  refine lv_if_eq (tgt := 19) hx hb dX7_guard_10 (by decide) (fun c_2 => absurd c_2 (by decide +kernel)) (fun _ => ?_)
  refine lv_aload_n hx hb dX7_guard_13 rfl (lv_at hl 1 rfl) ?_
  refine lv_iload_n hx hb dX7_guard_14 rfl (lv_at hl 0 rfl) ?_
  have hPc := hP.sub (ws' := [(x, .inr (7, [v 0, v 1, v 2, v 3, v 4, v 5, v 6, .ref h, v 8, v 9, v 10]))]) [0] rfl
  have hDc := hD.sub (ws' := [(x, .inr (7, [v 0, v 1, v 2, v 3, v 4, v 5, v 6, .ref h, v 8, v 9, v 10]))]) [0] (by decide) rfl
  have hKc := hK.sub (tys' := []) [] rfl
  have hFc := va_free (wc := [(x, .inr (7, [v 0, v 1, v 2, v 3, v 4, v 5, v 6, .ref h, v 8, v 9, v 10]))]) hD hS hA [0] rfl
  refine va_calli (va_runV (As := [.int 1]) (rest := []) ⟨hx, hb, hml, hown, hts⟩ (c_X7_refused l dC dI H.size x 1 (fun i9 => ([v 0, v 1, v 2, v 3, v 4, v 5, v 6, .ref h, v 8, v 9, v 10] : List Value).getD i9 .null) ) (cwV 1 hts gX7_guard_X7_refused rfl rfl rfl (by decide +kernel) ⟨Nat.le_of_ble_eq_true rfl, Nat.le_of_ble_eq_true rfl⟩) ⟨ax_blind (fun _ _ _ _ _ => trivial), va_recv hKc hPc (ci := 7) (q0 := 0) rfl rfl, ax_pre hPc hKc hDc (fun _ _ => trivial)⟩ rfl rfl hl.1 rfl (lv_room (Nat.le_of_ble_eq_true rfl)) dX7_guard_15 ⟨Nat.le_of_ble_eq_true rfl, Nat.le_of_ble_eq_true rfl⟩) hS (fun q _ h => hFc q h) hFc (fun r_3 u t H1 locs ht hvm hw hB hz1 hk1 hS => ?_)
  obtain ⟨hP1, hK1, hD1⟩ := hB
  rw [ht] at hP1
  have hK1 := va_K.moved hvm.symm hK1
  obtain ⟨hP, hD⟩ := va_join (wr := [(h, .inr (0, [.int 0, g 1, g 2, g 3, g 4, g 5, g 6, g 7, g 8, g 9, g 10, g 11, g 12, g 13, g 14]))]) (w1 := []) hP hD [0] [1] rfl rfl (by decide) (by decide) hk1 hFc hP1 hD1
  have hK := (hK.sub (tys' := []) [] rfl).app hK1
  generalize H1 = H at hP hS ⊢
  have hP : va_P (dC, dI) vwCl [(h, .inr (0, [.int 0, g 1, g 2, g 3, g 4, g 5, g 6, g 7, g 8, g 9, g 10, g 11, g 12, g 13, g 14]))] H := hP
  have hD : va_D A [(h, .inr (0, [.int 0, g 1, g 2, g 3, g 4, g 5, g 6, g 7, g 8, g 9, g 10, g 11, g 12, g 13, g 14]))] := hD
  have hK : va_K (dC, dI) vwCl [] s := hK
  have hw : r_3 = (-1) := hw
  subst hw
  have hP9 := hP.sub (ws' := []) [] rfl
  have hD9 := hD.sub (ws' := []) [] (by decide) rfl
  have hK9 := hK.sub (tys' := []) [] rfl
  exact W.iret (v := (-1)) hx hb hr (fun t ht hW => ⟨⟨(-1), (), rfl, rfl, by rw [ht]; exact hP9, va_K.moved hW.alike hK9, hD9⟩, hS.F ht⟩) hS.2.2 dX7_guard_18

set_option maxHeartbeats 4000000 in
set_option maxRecDepth 100000 in
theorem c_X7_windBest (l : Launch) (dC : Nat → ClassId) (dI : Nat → Nat → Nat) (sz : Nat) (x : Nat) (v : Nat → Value) (h : Nat) (g : Nat → Value) : Met l yX7_windBest wsX7_windBest ({ frames := 1, cells := 0, slots := 0, locals := 21 }) (va_Pc [.ref x] (ax_C dC dI sz [(x, .inr (7, [v 0, v 1, v 2, v 3, v 4, v 5, v 6, .ref h, v 8, v 9, v 10])), (h, .inr (0, [.int 0, g 1, g 2, g 3, g 4, g 5, g 6, g 7, g 8, g 9, g 10, g 11, g 12, g 13, g 14]))] [] (fun _ => True))) (va_Qi (fun (r : Int32) (_ : Unit) => r = -1) (fun (_ : Unit) (t : State) => ax_B dC dI (va_A [(x, .inr (7, [v 0, v 1, v 2, v 3, v 4, v 5, v 6, .ref h, v 8, v 9, v 10])), (h, .inr (0, [.int 0, g 1, g 2, g 3, g 4, g 5, g 6, g 7, g 8, g 9, g 10, g 11, g 12, g 13, g 14]))] sz) [] [] t) (va_A [(x, .inr (7, [v 0, v 1, v 2, v 3, v 4, v 5, v 6, .ref h, v 8, v 9, v 10])), (h, .inr (0, [.int 0, g 1, g 2, g 3, g 4, g 5, g 6, g 7, g 8, g 9, g 10, g 11, g 12, g 13, g 14]))] sz)) 0 0 (va_A [(x, .inr (7, [v 0, v 1, v 2, v 3, v 4, v 5, v 6, .ref h, v 8, v 9, v 10])), (h, .inr (0, [.int 0, g 1, g 2, g 3, g 4, g 5, g 6, g 7, g 8, g 9, g 10, g 11, g 12, g 13, g 14]))] sz) := by
  refine Met.ofW (cc := cX7_windBest) (maxL := 5) (ret := (some .int)) (by decide) rfl ?_
  intro p e s m args below meth c s₁ B hml hv
  obtain ⟨rfl, hsz, hP, hK, hD0, hE⟩ := hv
  have hx := B.exec
  have hb := B.bytes
  have hr := B.returns
  have hts := atoms_spec (ws := wsX7_windBest) B.pre
  have hown : s.vm.findClass RX7 = some m.cls := findClass_of_methodNamed B.named
  have hlocks := B.notSynchronized
  subst hsz
  have hD := hD0.self (sz := s.heap.size)
  generalize hAe : va_A [(x, .inr (7, [v 0, v 1, v 2, v 3, v 4, v 5, v 6, .ref h, v 8, v 9, v 10])), (h, .inr (0, [.int 0, g 1, g 2, g 3, g 4, g 5, g 6, g 7, g 8, g 9, g 10, g 11, g 12, g 13, g 14]))] s.heap.size = A at hD ⊢
  have hA : ∀ q : Nat, s.heap.size ≤ q → A q := fun q h => by rw [← hAe]; exact Or.inr h
  have hS : va_S A s.heap s.heap [] := va_S.rf
  have hP : va_P (dC, dI) vwCl [(x, .inr (7, [v 0, v 1, v 2, v 3, v 4, v 5, v 6, .ref h, v 8, v 9, v 10])), (h, .inr (0, [.int 0, g 1, g 2, g 3, g 4, g 5, g 6, g 7, g 8, g 9, g 10, g 11, g 12, g 13, g 14]))] s.heap := hP
  have hl := lv_entry ([.ref x]) (n := 5) (Nat.le_of_ble_eq_true rfl)
  rw [lg_entry_eq]
  generalize (lg_sl ([.ref x]) ++ List.replicate (5 - (lg_sl ([.ref x])).length) Slot.unset).toArray = ls at hl ⊢
  have hl : lv_has ls 5 [(0, .ref x)] := hl
  refine lv_aload_n hx hb dX7_windBest_0 rfl (lv_at hl 0 rfl) ?_
  have hPc := hP.sub (ws' := [(x, .inr (7, [v 0, v 1, v 2, v 3, v 4, v 5, v 6, .ref h, v 8, v 9, v 10])), (h, .inr (0, [.int 0, g 1, g 2, g 3, g 4, g 5, g 6, g 7, g 8, g 9, g 10, g 11, g 12, g 13, g 14]))]) [0, 1] rfl
  have hDc := hD.sub (ws' := [(x, .inr (7, [v 0, v 1, v 2, v 3, v 4, v 5, v 6, .ref h, v 8, v 9, v 10])), (h, .inr (0, [.int 0, g 1, g 2, g 3, g 4, g 5, g 6, g 7, g 8, g 9, g 10, g 11, g 12, g 13, g 14]))]) [0, 1] (by decide) rfl
  have hKc := hK.sub (tys' := []) [] rfl
  have hFc := va_free (wc := [(x, .inr (7, [v 0, v 1, v 2, v 3, v 4, v 5, v 6, .ref h, v 8, v 9, v 10])), (h, .inr (0, [.int 0, g 1, g 2, g 3, g 4, g 5, g 6, g 7, g 8, g 9, g 10, g 11, g 12, g 13, g 14]))]) hD hS hA [0, 1] rfl
  refine va_calli (va_runV (As := []) (rest := []) ⟨hx, hb, hml, hown, hts⟩ (c_X7_hasGallery l dC dI s.heap.size x v h g ) (cwV 0 hts gX7_windBest_X7_hasGallery rfl rfl rfl (by decide +kernel) ⟨Nat.le_of_ble_eq_true rfl, Nat.le_of_ble_eq_true rfl⟩) ⟨ax_blind (fun _ _ _ _ _ => trivial), va_recv hKc hPc (ci := 7) (q0 := 0) rfl rfl, ax_pre hPc hKc hDc (fun _ _ => trivial)⟩ rfl rfl hl.1 rfl (lv_room (Nat.le_of_ble_eq_true rfl)) dX7_windBest_1 ⟨Nat.le_of_ble_eq_true rfl, Nat.le_of_ble_eq_true rfl⟩) hS (fun q _ h => hFc q h) hFc (fun r_1 u t H1 locs ht hvm hw hB hz1 hk1 hS => ?_)
  obtain ⟨hP1, hK1, hD1⟩ := hB
  rw [ht] at hP1
  have hK1 := va_K.moved hvm.symm hK1
  obtain ⟨hP, hD⟩ := va_join (wr := []) (w1 := [(x, .inr (7, [v 0, v 1, v 2, v 3, v 4, v 5, v 6, .ref h, v 8, v 9, v 10])), (h, .inr (0, [.int 0, g 1, g 2, g 3, g 4, g 5, g 6, g 7, g 8, g 9, g 10, g 11, g 12, g 13, g 14]))]) hP hD [0, 1] [] rfl rfl (by decide) (by decide) hk1 hFc hP1 hD1
  have hK := (hK.sub (tys' := []) [] rfl).app hK1
  generalize H1 = H at hP hS ⊢
  have hP : va_P (dC, dI) vwCl [(x, .inr (7, [v 0, v 1, v 2, v 3, v 4, v 5, v 6, .ref h, v 8, v 9, v 10])), (h, .inr (0, [.int 0, g 1, g 2, g 3, g 4, g 5, g 6, g 7, g 8, g 9, g 10, g 11, g 12, g 13, g 14]))] H := hP
  have hD : va_D A [(x, .inr (7, [v 0, v 1, v 2, v 3, v 4, v 5, v 6, .ref h, v 8, v 9, v 10])), (h, .inr (0, [.int 0, g 1, g 2, g 3, g 4, g 5, g 6, g 7, g 8, g 9, g 10, g 11, g 12, g 13, g 14]))] := hD
  have hK : va_K (dC, dI) vwCl [] s := hK
  have hw : r_1 = 0 := hw
  subst hw
  refine lv_if_ne (tgt := 13) hx hb dX7_windBest_4 (by decide) (fun c_2 => absurd (by decide +kernel) c_2) (fun _ => ?_)
  refine lv_aload_n hx hb dX7_windBest_7 rfl (lv_at hl 0 rfl) ?_
  refine lv_iconst (v := 1) hx hb dX7_windBest_8 (by decide) ?_
  have hPc := hP.sub (ws' := [(x, .inr (7, [v 0, v 1, v 2, v 3, v 4, v 5, v 6, .ref h, v 8, v 9, v 10]))]) [0] rfl
  have hDc := hD.sub (ws' := [(x, .inr (7, [v 0, v 1, v 2, v 3, v 4, v 5, v 6, .ref h, v 8, v 9, v 10]))]) [0] (by decide) rfl
  have hKc := hK.sub (tys' := []) [] rfl
  have hFc := va_free (wc := [(x, .inr (7, [v 0, v 1, v 2, v 3, v 4, v 5, v 6, .ref h, v 8, v 9, v 10]))]) hD hS hA [0] rfl
  refine va_calli (va_runV (As := [.int 1]) (rest := []) ⟨hx, hb, hml, hown, hts⟩ (c_X7_refused l dC dI H.size x 1 (fun i9 => ([v 0, v 1, v 2, v 3, v 4, v 5, v 6, .ref h, v 8, v 9, v 10] : List Value).getD i9 .null) ) (cwV 1 hts gX7_windBest_X7_refused rfl rfl rfl (by decide +kernel) ⟨Nat.le_of_ble_eq_true rfl, Nat.le_of_ble_eq_true rfl⟩) ⟨ax_blind (fun _ _ _ _ _ => trivial), va_recv hKc hPc (ci := 7) (q0 := 0) rfl rfl, ax_pre hPc hKc hDc (fun _ _ => trivial)⟩ rfl rfl hl.1 rfl (lv_room (Nat.le_of_ble_eq_true rfl)) dX7_windBest_9 ⟨Nat.le_of_ble_eq_true rfl, Nat.le_of_ble_eq_true rfl⟩) hS (fun q _ h => hFc q h) hFc (fun r_3 u t H1 locs ht hvm hw hB hz1 hk1 hS => ?_)
  obtain ⟨hP1, hK1, hD1⟩ := hB
  rw [ht] at hP1
  have hK1 := va_K.moved hvm.symm hK1
  obtain ⟨hP, hD⟩ := va_join (wr := [(h, .inr (0, [.int 0, g 1, g 2, g 3, g 4, g 5, g 6, g 7, g 8, g 9, g 10, g 11, g 12, g 13, g 14]))]) (w1 := []) hP hD [0] [1] rfl rfl (by decide) (by decide) hk1 hFc hP1 hD1
  have hK := (hK.sub (tys' := []) [] rfl).app hK1
  generalize H1 = H at hP hS ⊢
  have hP : va_P (dC, dI) vwCl [(h, .inr (0, [.int 0, g 1, g 2, g 3, g 4, g 5, g 6, g 7, g 8, g 9, g 10, g 11, g 12, g 13, g 14]))] H := hP
  have hD : va_D A [(h, .inr (0, [.int 0, g 1, g 2, g 3, g 4, g 5, g 6, g 7, g 8, g 9, g 10, g 11, g 12, g 13, g 14]))] := hD
  have hK : va_K (dC, dI) vwCl [] s := hK
  have hw : r_3 = (-1) := hw
  subst hw
  have hP9 := hP.sub (ws' := []) [] rfl
  have hD9 := hD.sub (ws' := []) [] (by decide) rfl
  have hK9 := hK.sub (tys' := []) [] rfl
  exact W.iret (v := (-1)) hx hb hr (fun t ht hW => ⟨⟨(-1), (), rfl, rfl, by rw [ht]; exact hP9, va_K.moved hW.alike hK9, hD9⟩, hS.F ht⟩) hS.2.2 dX7_windBest_12

set_option maxHeartbeats 4000000 in
set_option maxRecDepth 100000 in
theorem c_X7_fits (l : Launch) (dC : Nat → ClassId) (dI : Nat → Nat → Nat) (sz : Nat) (x : Nat) (v : Nat → Value) (h : Nat) (g : Nat → Value) : Met l yX7_fits wsX7_fits ({ frames := 1, cells := 0, slots := 0, locals := 21 }) (va_Pc [.ref x] (ax_C dC dI sz [(x, .inr (7, [v 0, v 1, v 2, v 3, v 4, v 5, v 6, .ref h, v 8, v 9, v 10])), (h, .inr (0, [.int 0, g 1, g 2, g 3, g 4, g 5, g 6, g 7, g 8, g 9, g 10, g 11, g 12, g 13, g 14]))] [] (fun _ => True))) (va_Qi (fun (r : Int32) (_ : Unit) => r = -1) (fun (_ : Unit) (t : State) => ax_B dC dI (va_A [(x, .inr (7, [v 0, v 1, v 2, v 3, v 4, v 5, v 6, .ref h, v 8, v 9, v 10])), (h, .inr (0, [.int 0, g 1, g 2, g 3, g 4, g 5, g 6, g 7, g 8, g 9, g 10, g 11, g 12, g 13, g 14]))] sz) [] [] t) (va_A [(x, .inr (7, [v 0, v 1, v 2, v 3, v 4, v 5, v 6, .ref h, v 8, v 9, v 10])), (h, .inr (0, [.int 0, g 1, g 2, g 3, g 4, g 5, g 6, g 7, g 8, g 9, g 10, g 11, g 12, g 13, g 14]))] sz)) 0 0 (va_A [(x, .inr (7, [v 0, v 1, v 2, v 3, v 4, v 5, v 6, .ref h, v 8, v 9, v 10])), (h, .inr (0, [.int 0, g 1, g 2, g 3, g 4, g 5, g 6, g 7, g 8, g 9, g 10, g 11, g 12, g 13, g 14]))] sz) := by
  refine Met.ofW (cc := cX7_fits) (maxL := 1) (ret := (some .int)) (by decide) rfl ?_
  intro p e s m args below meth c s₁ B hml hv
  obtain ⟨rfl, hsz, hP, hK, hD0, hE⟩ := hv
  have hx := B.exec
  have hb := B.bytes
  have hr := B.returns
  have hts := atoms_spec (ws := wsX7_fits) B.pre
  have hown : s.vm.findClass RX7 = some m.cls := findClass_of_methodNamed B.named
  have hlocks := B.notSynchronized
  subst hsz
  have hD := hD0.self (sz := s.heap.size)
  generalize hAe : va_A [(x, .inr (7, [v 0, v 1, v 2, v 3, v 4, v 5, v 6, .ref h, v 8, v 9, v 10])), (h, .inr (0, [.int 0, g 1, g 2, g 3, g 4, g 5, g 6, g 7, g 8, g 9, g 10, g 11, g 12, g 13, g 14]))] s.heap.size = A at hD ⊢
  have hA : ∀ q : Nat, s.heap.size ≤ q → A q := fun q h => by rw [← hAe]; exact Or.inr h
  have hS : va_S A s.heap s.heap [] := va_S.rf
  have hP : va_P (dC, dI) vwCl [(x, .inr (7, [v 0, v 1, v 2, v 3, v 4, v 5, v 6, .ref h, v 8, v 9, v 10])), (h, .inr (0, [.int 0, g 1, g 2, g 3, g 4, g 5, g 6, g 7, g 8, g 9, g 10, g 11, g 12, g 13, g 14]))] s.heap := hP
  have hl := lv_entry ([.ref x]) (n := 1) (Nat.le_of_ble_eq_true rfl)
  rw [lg_entry_eq]
  generalize (lg_sl ([.ref x]) ++ List.replicate (1 - (lg_sl ([.ref x])).length) Slot.unset).toArray = ls at hl ⊢
  have hl : lv_has ls 1 [(0, .ref x)] := hl
  refine lv_aload_n hx hb dX7_fits_0 rfl (lv_at hl 0 rfl) ?_
  have hPc := hP.sub (ws' := [(x, .inr (7, [v 0, v 1, v 2, v 3, v 4, v 5, v 6, .ref h, v 8, v 9, v 10])), (h, .inr (0, [.int 0, g 1, g 2, g 3, g 4, g 5, g 6, g 7, g 8, g 9, g 10, g 11, g 12, g 13, g 14]))]) [0, 1] rfl
  have hDc := hD.sub (ws' := [(x, .inr (7, [v 0, v 1, v 2, v 3, v 4, v 5, v 6, .ref h, v 8, v 9, v 10])), (h, .inr (0, [.int 0, g 1, g 2, g 3, g 4, g 5, g 6, g 7, g 8, g 9, g 10, g 11, g 12, g 13, g 14]))]) [0, 1] (by decide) rfl
  have hKc := hK.sub (tys' := []) [] rfl
  have hFc := va_free (wc := [(x, .inr (7, [v 0, v 1, v 2, v 3, v 4, v 5, v 6, .ref h, v 8, v 9, v 10])), (h, .inr (0, [.int 0, g 1, g 2, g 3, g 4, g 5, g 6, g 7, g 8, g 9, g 10, g 11, g 12, g 13, g 14]))]) hD hS hA [0, 1] rfl
  refine va_calli (va_runV (As := []) (rest := []) ⟨hx, hb, hml, hown, hts⟩ (c_X7_hasGallery l dC dI s.heap.size x v h g ) (cwV 0 hts gX7_fits_X7_hasGallery rfl rfl rfl (by decide +kernel) ⟨Nat.le_of_ble_eq_true rfl, Nat.le_of_ble_eq_true rfl⟩) ⟨ax_blind (fun _ _ _ _ _ => trivial), va_recv hKc hPc (ci := 7) (q0 := 0) rfl rfl, ax_pre hPc hKc hDc (fun _ _ => trivial)⟩ rfl rfl hl.1 rfl (lv_room (Nat.le_of_ble_eq_true rfl)) dX7_fits_1 ⟨Nat.le_of_ble_eq_true rfl, Nat.le_of_ble_eq_true rfl⟩) hS (fun q _ h => hFc q h) hFc (fun r_1 u t H1 locs ht hvm hw hB hz1 hk1 hS => ?_)
  obtain ⟨hP1, hK1, hD1⟩ := hB
  rw [ht] at hP1
  have hK1 := va_K.moved hvm.symm hK1
  obtain ⟨hP, hD⟩ := va_join (wr := []) (w1 := [(x, .inr (7, [v 0, v 1, v 2, v 3, v 4, v 5, v 6, .ref h, v 8, v 9, v 10])), (h, .inr (0, [.int 0, g 1, g 2, g 3, g 4, g 5, g 6, g 7, g 8, g 9, g 10, g 11, g 12, g 13, g 14]))]) hP hD [0, 1] [] rfl rfl (by decide) (by decide) hk1 hFc hP1 hD1
  have hK := (hK.sub (tys' := []) [] rfl).app hK1
  generalize H1 = H at hP hS ⊢
  have hP : va_P (dC, dI) vwCl [(x, .inr (7, [v 0, v 1, v 2, v 3, v 4, v 5, v 6, .ref h, v 8, v 9, v 10])), (h, .inr (0, [.int 0, g 1, g 2, g 3, g 4, g 5, g 6, g 7, g 8, g 9, g 10, g 11, g 12, g 13, g 14]))] H := hP
  have hD : va_D A [(x, .inr (7, [v 0, v 1, v 2, v 3, v 4, v 5, v 6, .ref h, v 8, v 9, v 10])), (h, .inr (0, [.int 0, g 1, g 2, g 3, g 4, g 5, g 6, g 7, g 8, g 9, g 10, g 11, g 12, g 13, g 14]))] := hD
  have hK : va_K (dC, dI) vwCl [] s := hK
  have hw : r_1 = 0 := hw
  subst hw
  refine lv_if_ne (tgt := 13) hx hb dX7_fits_4 (by decide) (fun c_2 => absurd (by decide +kernel) c_2) (fun _ => ?_)
  refine lv_aload_n hx hb dX7_fits_7 rfl (lv_at hl 0 rfl) ?_
  refine lv_iconst (v := 1) hx hb dX7_fits_8 (by decide) ?_
  have hPc := hP.sub (ws' := [(x, .inr (7, [v 0, v 1, v 2, v 3, v 4, v 5, v 6, .ref h, v 8, v 9, v 10]))]) [0] rfl
  have hDc := hD.sub (ws' := [(x, .inr (7, [v 0, v 1, v 2, v 3, v 4, v 5, v 6, .ref h, v 8, v 9, v 10]))]) [0] (by decide) rfl
  have hKc := hK.sub (tys' := []) [] rfl
  have hFc := va_free (wc := [(x, .inr (7, [v 0, v 1, v 2, v 3, v 4, v 5, v 6, .ref h, v 8, v 9, v 10]))]) hD hS hA [0] rfl
  refine va_calli (va_runV (As := [.int 1]) (rest := []) ⟨hx, hb, hml, hown, hts⟩ (c_X7_refused l dC dI H.size x 1 (fun i9 => ([v 0, v 1, v 2, v 3, v 4, v 5, v 6, .ref h, v 8, v 9, v 10] : List Value).getD i9 .null) ) (cwV 1 hts gX7_fits_X7_refused rfl rfl rfl (by decide +kernel) ⟨Nat.le_of_ble_eq_true rfl, Nat.le_of_ble_eq_true rfl⟩) ⟨ax_blind (fun _ _ _ _ _ => trivial), va_recv hKc hPc (ci := 7) (q0 := 0) rfl rfl, ax_pre hPc hKc hDc (fun _ _ => trivial)⟩ rfl rfl hl.1 rfl (lv_room (Nat.le_of_ble_eq_true rfl)) dX7_fits_9 ⟨Nat.le_of_ble_eq_true rfl, Nat.le_of_ble_eq_true rfl⟩) hS (fun q _ h => hFc q h) hFc (fun r_3 u t H1 locs ht hvm hw hB hz1 hk1 hS => ?_)
  obtain ⟨hP1, hK1, hD1⟩ := hB
  rw [ht] at hP1
  have hK1 := va_K.moved hvm.symm hK1
  obtain ⟨hP, hD⟩ := va_join (wr := [(h, .inr (0, [.int 0, g 1, g 2, g 3, g 4, g 5, g 6, g 7, g 8, g 9, g 10, g 11, g 12, g 13, g 14]))]) (w1 := []) hP hD [0] [1] rfl rfl (by decide) (by decide) hk1 hFc hP1 hD1
  have hK := (hK.sub (tys' := []) [] rfl).app hK1
  generalize H1 = H at hP hS ⊢
  have hP : va_P (dC, dI) vwCl [(h, .inr (0, [.int 0, g 1, g 2, g 3, g 4, g 5, g 6, g 7, g 8, g 9, g 10, g 11, g 12, g 13, g 14]))] H := hP
  have hD : va_D A [(h, .inr (0, [.int 0, g 1, g 2, g 3, g 4, g 5, g 6, g 7, g 8, g 9, g 10, g 11, g 12, g 13, g 14]))] := hD
  have hK : va_K (dC, dI) vwCl [] s := hK
  have hw : r_3 = (-1) := hw
  subst hw
  have hP9 := hP.sub (ws' := []) [] rfl
  have hD9 := hD.sub (ws' := []) [] (by decide) rfl
  have hK9 := hK.sub (tys' := []) [] rfl
  exact W.iret (v := (-1)) hx hb hr (fun t ht hW => ⟨⟨(-1), (), rfl, rfl, by rw [ht]; exact hP9, va_K.moved hW.alike hK9, hD9⟩, hS.F ht⟩) hS.2.2 dX7_fits_12

set_option maxHeartbeats 4000000 in
set_option maxRecDepth 100000 in
theorem c_X7_fitAt (l : Launch) (dC : Nat → ClassId) (dI : Nat → Nat → Nat) (sz : Nat) (x : Nat) (a0 : Int32) (v : Nat → Value) (h : Nat) (g : Nat → Value) : Met l yX7_fitAt wsX7_fitAt ({ frames := 1, cells := 0, slots := 0, locals := 21 }) (va_Pc [.ref x, .int a0] (ax_C dC dI sz [(x, .inr (7, [v 0, v 1, v 2, v 3, v 4, v 5, v 6, .ref h, v 8, v 9, v 10])), (h, .inr (0, [.int 0, g 1, g 2, g 3, g 4, g 5, g 6, g 7, g 8, g 9, g 10, g 11, g 12, g 13, g 14]))] [] (fun _ => True))) (va_Qi (fun (r : Int32) (_ : Unit) => r = -1) (fun (_ : Unit) (t : State) => ax_B dC dI (va_A [(x, .inr (7, [v 0, v 1, v 2, v 3, v 4, v 5, v 6, .ref h, v 8, v 9, v 10])), (h, .inr (0, [.int 0, g 1, g 2, g 3, g 4, g 5, g 6, g 7, g 8, g 9, g 10, g 11, g 12, g 13, g 14]))] sz) [] [] t) (va_A [(x, .inr (7, [v 0, v 1, v 2, v 3, v 4, v 5, v 6, .ref h, v 8, v 9, v 10])), (h, .inr (0, [.int 0, g 1, g 2, g 3, g 4, g 5, g 6, g 7, g 8, g 9, g 10, g 11, g 12, g 13, g 14]))] sz)) 0 0 (va_A [(x, .inr (7, [v 0, v 1, v 2, v 3, v 4, v 5, v 6, .ref h, v 8, v 9, v 10])), (h, .inr (0, [.int 0, g 1, g 2, g 3, g 4, g 5, g 6, g 7, g 8, g 9, g 10, g 11, g 12, g 13, g 14]))] sz) := by
  refine Met.ofW (cc := cX7_fitAt) (maxL := 2) (ret := (some .int)) (by decide) rfl ?_
  intro p e s m args below meth c s₁ B hml hv
  obtain ⟨rfl, hsz, hP, hK, hD0, hE⟩ := hv
  have hx := B.exec
  have hb := B.bytes
  have hr := B.returns
  have hts := atoms_spec (ws := wsX7_fitAt) B.pre
  have hown : s.vm.findClass RX7 = some m.cls := findClass_of_methodNamed B.named
  have hlocks := B.notSynchronized
  subst hsz
  have hD := hD0.self (sz := s.heap.size)
  generalize hAe : va_A [(x, .inr (7, [v 0, v 1, v 2, v 3, v 4, v 5, v 6, .ref h, v 8, v 9, v 10])), (h, .inr (0, [.int 0, g 1, g 2, g 3, g 4, g 5, g 6, g 7, g 8, g 9, g 10, g 11, g 12, g 13, g 14]))] s.heap.size = A at hD ⊢
  have hA : ∀ q : Nat, s.heap.size ≤ q → A q := fun q h => by rw [← hAe]; exact Or.inr h
  have hS : va_S A s.heap s.heap [] := va_S.rf
  have hP : va_P (dC, dI) vwCl [(x, .inr (7, [v 0, v 1, v 2, v 3, v 4, v 5, v 6, .ref h, v 8, v 9, v 10])), (h, .inr (0, [.int 0, g 1, g 2, g 3, g 4, g 5, g 6, g 7, g 8, g 9, g 10, g 11, g 12, g 13, g 14]))] s.heap := hP
  have hl := lv_entry ([.ref x, .int a0]) (n := 2) (Nat.le_of_ble_eq_true rfl)
  rw [lg_entry_eq]
  generalize (lg_sl ([.ref x, .int a0]) ++ List.replicate (2 - (lg_sl ([.ref x, .int a0])).length) Slot.unset).toArray = ls at hl ⊢
  have hl : lv_has ls 2 [(0, .ref x), (1, .int a0)] := hl
  refine lv_aload_n hx hb dX7_fitAt_0 rfl (lv_at hl 0 rfl) ?_
  have hPc := hP.sub (ws' := [(x, .inr (7, [v 0, v 1, v 2, v 3, v 4, v 5, v 6, .ref h, v 8, v 9, v 10])), (h, .inr (0, [.int 0, g 1, g 2, g 3, g 4, g 5, g 6, g 7, g 8, g 9, g 10, g 11, g 12, g 13, g 14]))]) [0, 1] rfl
  have hDc := hD.sub (ws' := [(x, .inr (7, [v 0, v 1, v 2, v 3, v 4, v 5, v 6, .ref h, v 8, v 9, v 10])), (h, .inr (0, [.int 0, g 1, g 2, g 3, g 4, g 5, g 6, g 7, g 8, g 9, g 10, g 11, g 12, g 13, g 14]))]) [0, 1] (by decide) rfl
  have hKc := hK.sub (tys' := []) [] rfl
  have hFc := va_free (wc := [(x, .inr (7, [v 0, v 1, v 2, v 3, v 4, v 5, v 6, .ref h, v 8, v 9, v 10])), (h, .inr (0, [.int 0, g 1, g 2, g 3, g 4, g 5, g 6, g 7, g 8, g 9, g 10, g 11, g 12, g 13, g 14]))]) hD hS hA [0, 1] rfl
  refine va_calli (va_runV (As := []) (rest := []) ⟨hx, hb, hml, hown, hts⟩ (c_X7_hasGallery l dC dI s.heap.size x v h g ) (cwV 0 hts gX7_fitAt_X7_hasGallery rfl rfl rfl (by decide +kernel) ⟨Nat.le_of_ble_eq_true rfl, Nat.le_of_ble_eq_true rfl⟩) ⟨ax_blind (fun _ _ _ _ _ => trivial), va_recv hKc hPc (ci := 7) (q0 := 0) rfl rfl, ax_pre hPc hKc hDc (fun _ _ => trivial)⟩ rfl rfl hl.1 rfl (lv_room (Nat.le_of_ble_eq_true rfl)) dX7_fitAt_1 ⟨Nat.le_of_ble_eq_true rfl, Nat.le_of_ble_eq_true rfl⟩) hS (fun q _ h => hFc q h) hFc (fun r_1 u t H1 locs ht hvm hw hB hz1 hk1 hS => ?_)
  obtain ⟨hP1, hK1, hD1⟩ := hB
  rw [ht] at hP1
  have hK1 := va_K.moved hvm.symm hK1
  obtain ⟨hP, hD⟩ := va_join (wr := []) (w1 := [(x, .inr (7, [v 0, v 1, v 2, v 3, v 4, v 5, v 6, .ref h, v 8, v 9, v 10])), (h, .inr (0, [.int 0, g 1, g 2, g 3, g 4, g 5, g 6, g 7, g 8, g 9, g 10, g 11, g 12, g 13, g 14]))]) hP hD [0, 1] [] rfl rfl (by decide) (by decide) hk1 hFc hP1 hD1
  have hK := (hK.sub (tys' := []) [] rfl).app hK1
  generalize H1 = H at hP hS ⊢
  have hP : va_P (dC, dI) vwCl [(x, .inr (7, [v 0, v 1, v 2, v 3, v 4, v 5, v 6, .ref h, v 8, v 9, v 10])), (h, .inr (0, [.int 0, g 1, g 2, g 3, g 4, g 5, g 6, g 7, g 8, g 9, g 10, g 11, g 12, g 13, g 14]))] H := hP
  have hD : va_D A [(x, .inr (7, [v 0, v 1, v 2, v 3, v 4, v 5, v 6, .ref h, v 8, v 9, v 10])), (h, .inr (0, [.int 0, g 1, g 2, g 3, g 4, g 5, g 6, g 7, g 8, g 9, g 10, g 11, g 12, g 13, g 14]))] := hD
  have hK : va_K (dC, dI) vwCl [] s := hK
  have hw : r_1 = 0 := hw
  subst hw
  refine lv_if_ne (tgt := 13) hx hb dX7_fitAt_4 (by decide) (fun c_2 => absurd (by decide +kernel) c_2) (fun _ => ?_)
  refine lv_aload_n hx hb dX7_fitAt_7 rfl (lv_at hl 0 rfl) ?_
  refine lv_iconst (v := 1) hx hb dX7_fitAt_8 (by decide) ?_
  have hPc := hP.sub (ws' := [(x, .inr (7, [v 0, v 1, v 2, v 3, v 4, v 5, v 6, .ref h, v 8, v 9, v 10]))]) [0] rfl
  have hDc := hD.sub (ws' := [(x, .inr (7, [v 0, v 1, v 2, v 3, v 4, v 5, v 6, .ref h, v 8, v 9, v 10]))]) [0] (by decide) rfl
  have hKc := hK.sub (tys' := []) [] rfl
  have hFc := va_free (wc := [(x, .inr (7, [v 0, v 1, v 2, v 3, v 4, v 5, v 6, .ref h, v 8, v 9, v 10]))]) hD hS hA [0] rfl
  refine va_calli (va_runV (As := [.int 1]) (rest := []) ⟨hx, hb, hml, hown, hts⟩ (c_X7_refused l dC dI H.size x 1 (fun i9 => ([v 0, v 1, v 2, v 3, v 4, v 5, v 6, .ref h, v 8, v 9, v 10] : List Value).getD i9 .null) ) (cwV 1 hts gX7_fitAt_X7_refused rfl rfl rfl (by decide +kernel) ⟨Nat.le_of_ble_eq_true rfl, Nat.le_of_ble_eq_true rfl⟩) ⟨ax_blind (fun _ _ _ _ _ => trivial), va_recv hKc hPc (ci := 7) (q0 := 0) rfl rfl, ax_pre hPc hKc hDc (fun _ _ => trivial)⟩ rfl rfl hl.1 rfl (lv_room (Nat.le_of_ble_eq_true rfl)) dX7_fitAt_9 ⟨Nat.le_of_ble_eq_true rfl, Nat.le_of_ble_eq_true rfl⟩) hS (fun q _ h => hFc q h) hFc (fun r_3 u t H1 locs ht hvm hw hB hz1 hk1 hS => ?_)
  obtain ⟨hP1, hK1, hD1⟩ := hB
  rw [ht] at hP1
  have hK1 := va_K.moved hvm.symm hK1
  obtain ⟨hP, hD⟩ := va_join (wr := [(h, .inr (0, [.int 0, g 1, g 2, g 3, g 4, g 5, g 6, g 7, g 8, g 9, g 10, g 11, g 12, g 13, g 14]))]) (w1 := []) hP hD [0] [1] rfl rfl (by decide) (by decide) hk1 hFc hP1 hD1
  have hK := (hK.sub (tys' := []) [] rfl).app hK1
  generalize H1 = H at hP hS ⊢
  have hP : va_P (dC, dI) vwCl [(h, .inr (0, [.int 0, g 1, g 2, g 3, g 4, g 5, g 6, g 7, g 8, g 9, g 10, g 11, g 12, g 13, g 14]))] H := hP
  have hD : va_D A [(h, .inr (0, [.int 0, g 1, g 2, g 3, g 4, g 5, g 6, g 7, g 8, g 9, g 10, g 11, g 12, g 13, g 14]))] := hD
  have hK : va_K (dC, dI) vwCl [] s := hK
  have hw : r_3 = (-1) := hw
  subst hw
  have hP9 := hP.sub (ws' := []) [] rfl
  have hD9 := hD.sub (ws' := []) [] (by decide) rfl
  have hK9 := hK.sub (tys' := []) [] rfl
  exact W.iret (v := (-1)) hx hb hr (fun t ht hW => ⟨⟨(-1), (), rfl, rfl, by rw [ht]; exact hP9, va_K.moved hW.alike hK9, hD9⟩, hS.F ht⟩) hS.2.2 dX7_fitAt_12

set_option maxHeartbeats 4000000 in
set_option maxRecDepth 100000 in
theorem c_X7_could (l : Launch) (dC : Nat → ClassId) (dI : Nat → Nat → Nat) (sz : Nat) (x : Nat) (a0 : Int32) (v : Nat → Value) (h : Nat) (g : Nat → Value) : Met l yX7_could wsX7_could ({ frames := 2, cells := 0, slots := 0, locals := 43 }) (va_Pc [.ref x, .int a0] (ax_C dC dI sz [(x, .inr (7, [v 0, v 1, v 2, v 3, v 4, v 5, v 6, .ref h, v 8, v 9, v 10])), (h, .inr (0, [.int 0, g 1, g 2, g 3, g 4, g 5, g 6, g 7, g 8, g 9, g 10, g 11, g 12, g 13, g 14]))] [] (fun _ => True))) (va_Qi (fun (r : Int32) (_ : Unit) => r = -1) (fun (_ : Unit) (t : State) => ax_B dC dI (va_A [(x, .inr (7, [v 0, v 1, v 2, v 3, v 4, v 5, v 6, .ref h, v 8, v 9, v 10])), (h, .inr (0, [.int 0, g 1, g 2, g 3, g 4, g 5, g 6, g 7, g 8, g 9, g 10, g 11, g 12, g 13, g 14]))] sz) [] [] t) (va_A [(x, .inr (7, [v 0, v 1, v 2, v 3, v 4, v 5, v 6, .ref h, v 8, v 9, v 10])), (h, .inr (0, [.int 0, g 1, g 2, g 3, g 4, g 5, g 6, g 7, g 8, g 9, g 10, g 11, g 12, g 13, g 14]))] sz)) 0 0 (va_A [(x, .inr (7, [v 0, v 1, v 2, v 3, v 4, v 5, v 6, .ref h, v 8, v 9, v 10])), (h, .inr (0, [.int 0, g 1, g 2, g 3, g 4, g 5, g 6, g 7, g 8, g 9, g 10, g 11, g 12, g 13, g 14]))] sz) := by
  refine Met.ofW (cc := cX7_could) (maxL := 5) (ret := (some .int)) (by decide) rfl ?_
  intro p e s m args below meth c s₁ B hml hv
  obtain ⟨rfl, hsz, hP, hK, hD0, hE⟩ := hv
  have hx := B.exec
  have hb := B.bytes
  have hr := B.returns
  have hts := atoms_spec (ws := wsX7_could) B.pre
  have hown : s.vm.findClass RX7 = some m.cls := findClass_of_methodNamed B.named
  have hlocks := B.notSynchronized
  subst hsz
  have hD := hD0.self (sz := s.heap.size)
  generalize hAe : va_A [(x, .inr (7, [v 0, v 1, v 2, v 3, v 4, v 5, v 6, .ref h, v 8, v 9, v 10])), (h, .inr (0, [.int 0, g 1, g 2, g 3, g 4, g 5, g 6, g 7, g 8, g 9, g 10, g 11, g 12, g 13, g 14]))] s.heap.size = A at hD ⊢
  have hA : ∀ q : Nat, s.heap.size ≤ q → A q := fun q h => by rw [← hAe]; exact Or.inr h
  have hS : va_S A s.heap s.heap [] := va_S.rf
  have hP : va_P (dC, dI) vwCl [(x, .inr (7, [v 0, v 1, v 2, v 3, v 4, v 5, v 6, .ref h, v 8, v 9, v 10])), (h, .inr (0, [.int 0, g 1, g 2, g 3, g 4, g 5, g 6, g 7, g 8, g 9, g 10, g 11, g 12, g 13, g 14]))] s.heap := hP
  have hl := lv_entry ([.ref x, .int a0]) (n := 5) (Nat.le_of_ble_eq_true rfl)
  rw [lg_entry_eq]
  generalize (lg_sl ([.ref x, .int a0]) ++ List.replicate (5 - (lg_sl ([.ref x, .int a0])).length) Slot.unset).toArray = ls at hl ⊢
  have hl : lv_has ls 5 [(0, .ref x), (1, .int a0)] := hl
  refine lv_aload_n hx hb dX7_could_0 rfl (lv_at hl 0 rfl) ?_
  refine lv_iload_n hx hb dX7_could_1 rfl (lv_at hl 1 rfl) ?_
  refine lv_iconst (v := 0) hx hb dX7_could_2 (by decide) ?_
  refine lv_sipush (v := 999) hx hb dX7_could_3 (by decide) ?_
  have hPc := hP.sub (ws' := [(x, .inr (7, [v 0, v 1, v 2, v 3, v 4, v 5, v 6, .ref h, v 8, v 9, v 10])), (h, .inr (0, [.int 0, g 1, g 2, g 3, g 4, g 5, g 6, g 7, g 8, g 9, g 10, g 11, g 12, g 13, g 14]))]) [0, 1] rfl
  have hDc := hD.sub (ws' := [(x, .inr (7, [v 0, v 1, v 2, v 3, v 4, v 5, v 6, .ref h, v 8, v 9, v 10])), (h, .inr (0, [.int 0, g 1, g 2, g 3, g 4, g 5, g 6, g 7, g 8, g 9, g 10, g 11, g 12, g 13, g 14]))]) [0, 1] (by decide) rfl
  have hKc := hK.sub (tys' := []) [] rfl
  have hFc := va_free (wc := [(x, .inr (7, [v 0, v 1, v 2, v 3, v 4, v 5, v 6, .ref h, v 8, v 9, v 10])), (h, .inr (0, [.int 0, g 1, g 2, g 3, g 4, g 5, g 6, g 7, g 8, g 9, g 10, g 11, g 12, g 13, g 14]))]) hD hS hA [0, 1] rfl
  refine va_calli (va_runV (As := [.int a0, .int 0, .int 999]) (rest := []) ⟨hx, hb, hml, hown, hts⟩ (c_X7_troubleOfNumber l dC dI s.heap.size x a0 0 999 v h g ) (cwV 3 hts gX7_could_X7_troubleOfNumber rfl rfl rfl (by decide +kernel) ⟨Nat.le_of_ble_eq_true rfl, Nat.le_of_ble_eq_true rfl⟩) ⟨ax_blind (fun _ _ _ _ _ => trivial), va_recv hKc hPc (ci := 7) (q0 := 0) rfl rfl, ax_pre hPc hKc hDc (fun _ _ => trivial)⟩ rfl rfl hl.1 rfl (lv_room (Nat.le_of_ble_eq_true rfl)) dX7_could_6 ⟨Nat.le_of_ble_eq_true rfl, Nat.le_of_ble_eq_true rfl⟩) hS (fun q _ h => hFc q h) hFc (fun r_1 u t H1 locs ht hvm hw hB hz1 hk1 hS => ?_)
  obtain ⟨hP1, hK1, hD1⟩ := hB
  rw [ht] at hP1
  have hK1 := va_K.moved hvm.symm hK1
  obtain ⟨hP, hD⟩ := va_join (wr := []) (w1 := [(x, .inr (7, [v 0, v 1, v 2, v 3, v 4, v 5, v 6, .ref h, v 8, v 9, v 10])), (h, .inr (0, [.int 0, g 1, g 2, g 3, g 4, g 5, g 6, g 7, g 8, g 9, g 10, g 11, g 12, g 13, g 14]))]) hP hD [0, 1] [] rfl rfl (by decide) (by decide) hk1 hFc hP1 hD1
  have hK := (hK.sub (tys' := []) [] rfl).app hK1
  generalize H1 = H at hP hS ⊢
  have hP : va_P (dC, dI) vwCl [(x, .inr (7, [v 0, v 1, v 2, v 3, v 4, v 5, v 6, .ref h, v 8, v 9, v 10])), (h, .inr (0, [.int 0, g 1, g 2, g 3, g 4, g 5, g 6, g 7, g 8, g 9, g 10, g 11, g 12, g 13, g 14]))] H := hP
  have hD : va_D A [(x, .inr (7, [v 0, v 1, v 2, v 3, v 4, v 5, v 6, .ref h, v 8, v 9, v 10])), (h, .inr (0, [.int 0, g 1, g 2, g 3, g 4, g 5, g 6, g 7, g 8, g 9, g 10, g 11, g 12, g 13, g 14]))] := hD
  have hK : va_K (dC, dI) vwCl [] s := hK
  have hw : r_1 = 1 := hw
  subst hw
  refine lv_istore_n (lv' := [(2, .int 1), (0, .ref x), (1, .int a0)]) hx hb dX7_could_9 rfl hl (by decide) rfl (fun ls hl => ?_)
  refine lv_iload_n hx hb dX7_could_10 rfl (lv_at hl 0 rfl) ?_
  refine lv_if_eq (tgt := 20) hx hb dX7_could_11 (by decide) (fun c_2 => absurd c_2 (by decide +kernel)) (fun _ => ?_)
  refine lv_aload_n hx hb dX7_could_14 rfl (lv_at hl 1 rfl) ?_
  refine lv_iload_n hx hb dX7_could_15 rfl (lv_at hl 0 rfl) ?_
  have hPc := hP.sub (ws' := [(x, .inr (7, [v 0, v 1, v 2, v 3, v 4, v 5, v 6, .ref h, v 8, v 9, v 10]))]) [0] rfl
  have hDc := hD.sub (ws' := [(x, .inr (7, [v 0, v 1, v 2, v 3, v 4, v 5, v 6, .ref h, v 8, v 9, v 10]))]) [0] (by decide) rfl
  have hKc := hK.sub (tys' := []) [] rfl
  have hFc := va_free (wc := [(x, .inr (7, [v 0, v 1, v 2, v 3, v 4, v 5, v 6, .ref h, v 8, v 9, v 10]))]) hD hS hA [0] rfl
  refine va_calli (va_runV (As := [.int 1]) (rest := []) ⟨hx, hb, hml, hown, hts⟩ (c_X7_refused l dC dI H.size x 1 (fun i9 => ([v 0, v 1, v 2, v 3, v 4, v 5, v 6, .ref h, v 8, v 9, v 10] : List Value).getD i9 .null) ) (cwV 1 hts gX7_could_X7_refused rfl rfl rfl (by decide +kernel) ⟨Nat.le_of_ble_eq_true rfl, Nat.le_of_ble_eq_true rfl⟩) ⟨ax_blind (fun _ _ _ _ _ => trivial), va_recv hKc hPc (ci := 7) (q0 := 0) rfl rfl, ax_pre hPc hKc hDc (fun _ _ => trivial)⟩ rfl rfl hl.1 rfl (lv_room (Nat.le_of_ble_eq_true rfl)) dX7_could_16 ⟨Nat.le_of_ble_eq_true rfl, Nat.le_of_ble_eq_true rfl⟩) hS (fun q _ h => hFc q h) hFc (fun r_3 u t H1 locs ht hvm hw hB hz1 hk1 hS => ?_)
  obtain ⟨hP1, hK1, hD1⟩ := hB
  rw [ht] at hP1
  have hK1 := va_K.moved hvm.symm hK1
  obtain ⟨hP, hD⟩ := va_join (wr := [(h, .inr (0, [.int 0, g 1, g 2, g 3, g 4, g 5, g 6, g 7, g 8, g 9, g 10, g 11, g 12, g 13, g 14]))]) (w1 := []) hP hD [0] [1] rfl rfl (by decide) (by decide) hk1 hFc hP1 hD1
  have hK := (hK.sub (tys' := []) [] rfl).app hK1
  generalize H1 = H at hP hS ⊢
  have hP : va_P (dC, dI) vwCl [(h, .inr (0, [.int 0, g 1, g 2, g 3, g 4, g 5, g 6, g 7, g 8, g 9, g 10, g 11, g 12, g 13, g 14]))] H := hP
  have hD : va_D A [(h, .inr (0, [.int 0, g 1, g 2, g 3, g 4, g 5, g 6, g 7, g 8, g 9, g 10, g 11, g 12, g 13, g 14]))] := hD
  have hK : va_K (dC, dI) vwCl [] s := hK
  have hw : r_3 = (-1) := hw
  subst hw
  have hP9 := hP.sub (ws' := []) [] rfl
  have hD9 := hD.sub (ws' := []) [] (by decide) rfl
  have hK9 := hK.sub (tys' := []) [] rfl
  exact W.iret (v := (-1)) hx hb hr (fun t ht hW => ⟨⟨(-1), (), rfl, rfl, by rw [ht]; exact hP9, va_K.moved hW.alike hK9, hD9⟩, hS.F ht⟩) hS.2.2 dX7_could_19

set_option maxHeartbeats 4000000 in
set_option maxRecDepth 100000 in
theorem c_X7_aliveBy (l : Launch) (dC : Nat → ClassId) (dI : Nat → Nat → Nat) (sz : Nat) (x : Nat) (a0 : Int32) (a1 : Int32) (v : Nat → Value) (h : Nat) (g : Nat → Value) : Met l yX7_aliveBy wsX7_aliveBy ({ frames := 3, cells := 0, slots := 0, locals := 66 }) (va_Pc [.ref x, .int a0, .int a1] (ax_C dC dI sz [(x, .inr (7, [v 0, v 1, v 2, v 3, v 4, v 5, v 6, .ref h, v 8, v 9, v 10])), (h, .inr (0, [.int 0, g 1, g 2, g 3, g 4, g 5, g 6, g 7, g 8, g 9, g 10, g 11, g 12, g 13, g 14]))] [] (fun _ => True))) (va_Qi (fun (r : Int32) (_ : Unit) => r = -1) (fun (_ : Unit) (t : State) => ax_B dC dI (va_A [(x, .inr (7, [v 0, v 1, v 2, v 3, v 4, v 5, v 6, .ref h, v 8, v 9, v 10])), (h, .inr (0, [.int 0, g 1, g 2, g 3, g 4, g 5, g 6, g 7, g 8, g 9, g 10, g 11, g 12, g 13, g 14]))] sz) [] [] t) (va_A [(x, .inr (7, [v 0, v 1, v 2, v 3, v 4, v 5, v 6, .ref h, v 8, v 9, v 10])), (h, .inr (0, [.int 0, g 1, g 2, g 3, g 4, g 5, g 6, g 7, g 8, g 9, g 10, g 11, g 12, g 13, g 14]))] sz)) 0 0 (va_A [(x, .inr (7, [v 0, v 1, v 2, v 3, v 4, v 5, v 6, .ref h, v 8, v 9, v 10])), (h, .inr (0, [.int 0, g 1, g 2, g 3, g 4, g 5, g 6, g 7, g 8, g 9, g 10, g 11, g 12, g 13, g 14]))] sz) := by
  refine Met.ofW (cc := cX7_aliveBy) (maxL := 6) (ret := (some .int)) (by decide) rfl ?_
  intro p e s m args below meth c s₁ B hml hv
  obtain ⟨rfl, hsz, hP, hK, hD0, hE⟩ := hv
  have hx := B.exec
  have hb := B.bytes
  have hr := B.returns
  have hts := atoms_spec (ws := wsX7_aliveBy) B.pre
  have hown : s.vm.findClass RX7 = some m.cls := findClass_of_methodNamed B.named
  have hlocks := B.notSynchronized
  subst hsz
  have hD := hD0.self (sz := s.heap.size)
  generalize hAe : va_A [(x, .inr (7, [v 0, v 1, v 2, v 3, v 4, v 5, v 6, .ref h, v 8, v 9, v 10])), (h, .inr (0, [.int 0, g 1, g 2, g 3, g 4, g 5, g 6, g 7, g 8, g 9, g 10, g 11, g 12, g 13, g 14]))] s.heap.size = A at hD ⊢
  have hA : ∀ q : Nat, s.heap.size ≤ q → A q := fun q h => by rw [← hAe]; exact Or.inr h
  have hS : va_S A s.heap s.heap [] := va_S.rf
  have hP : va_P (dC, dI) vwCl [(x, .inr (7, [v 0, v 1, v 2, v 3, v 4, v 5, v 6, .ref h, v 8, v 9, v 10])), (h, .inr (0, [.int 0, g 1, g 2, g 3, g 4, g 5, g 6, g 7, g 8, g 9, g 10, g 11, g 12, g 13, g 14]))] s.heap := hP
  have hl := lv_entry ([.ref x, .int a0, .int a1]) (n := 6) (Nat.le_of_ble_eq_true rfl)
  rw [lg_entry_eq]
  generalize (lg_sl ([.ref x, .int a0, .int a1]) ++ List.replicate (6 - (lg_sl ([.ref x, .int a0, .int a1])).length) Slot.unset).toArray = ls at hl ⊢
  have hl : lv_has ls 6 [(0, .ref x), (1, .int a0), (2, .int a1)] := hl
  refine lv_aload_n hx hb dX7_aliveBy_0 rfl (lv_at hl 0 rfl) ?_
  refine lv_iload_n hx hb dX7_aliveBy_1 rfl (lv_at hl 1 rfl) ?_
  refine lv_iload_n hx hb dX7_aliveBy_2 rfl (lv_at hl 2 rfl) ?_
  refine lv_sipush (v := 999) hx hb dX7_aliveBy_3 (by decide) ?_
  have hPc := hP.sub (ws' := [(x, .inr (7, [v 0, v 1, v 2, v 3, v 4, v 5, v 6, .ref h, v 8, v 9, v 10])), (h, .inr (0, [.int 0, g 1, g 2, g 3, g 4, g 5, g 6, g 7, g 8, g 9, g 10, g 11, g 12, g 13, g 14]))]) [0, 1] rfl
  have hDc := hD.sub (ws' := [(x, .inr (7, [v 0, v 1, v 2, v 3, v 4, v 5, v 6, .ref h, v 8, v 9, v 10])), (h, .inr (0, [.int 0, g 1, g 2, g 3, g 4, g 5, g 6, g 7, g 8, g 9, g 10, g 11, g 12, g 13, g 14]))]) [0, 1] (by decide) rfl
  have hKc := hK.sub (tys' := []) [] rfl
  have hFc := va_free (wc := [(x, .inr (7, [v 0, v 1, v 2, v 3, v 4, v 5, v 6, .ref h, v 8, v 9, v 10])), (h, .inr (0, [.int 0, g 1, g 2, g 3, g 4, g 5, g 6, g 7, g 8, g 9, g 10, g 11, g 12, g 13, g 14]))]) hD hS hA [0, 1] rfl
  refine va_calli (va_runV (As := [.int a0, .int a1, .int 999]) (rest := []) ⟨hx, hb, hml, hown, hts⟩ (c_X7_troubleOfFigureWithin l dC dI s.heap.size x a0 a1 999 v h g ) (cwV 3 hts gX7_aliveBy_X7_troubleOfFigureWithin rfl rfl rfl (by decide +kernel) ⟨Nat.le_of_ble_eq_true rfl, Nat.le_of_ble_eq_true rfl⟩) ⟨ax_blind (fun _ _ _ _ _ => trivial), va_recv hKc hPc (ci := 7) (q0 := 0) rfl rfl, ax_pre hPc hKc hDc (fun _ _ => trivial)⟩ rfl rfl hl.1 rfl (lv_room (Nat.le_of_ble_eq_true rfl)) dX7_aliveBy_6 ⟨Nat.le_of_ble_eq_true rfl, Nat.le_of_ble_eq_true rfl⟩) hS (fun q _ h => hFc q h) hFc (fun r_1 u t H1 locs ht hvm hw hB hz1 hk1 hS => ?_)
  obtain ⟨hP1, hK1, hD1⟩ := hB
  rw [ht] at hP1
  have hK1 := va_K.moved hvm.symm hK1
  obtain ⟨hP, hD⟩ := va_join (wr := []) (w1 := [(x, .inr (7, [v 0, v 1, v 2, v 3, v 4, v 5, v 6, .ref h, v 8, v 9, v 10])), (h, .inr (0, [.int 0, g 1, g 2, g 3, g 4, g 5, g 6, g 7, g 8, g 9, g 10, g 11, g 12, g 13, g 14]))]) hP hD [0, 1] [] rfl rfl (by decide) (by decide) hk1 hFc hP1 hD1
  have hK := (hK.sub (tys' := []) [] rfl).app hK1
  generalize H1 = H at hP hS ⊢
  have hP : va_P (dC, dI) vwCl [(x, .inr (7, [v 0, v 1, v 2, v 3, v 4, v 5, v 6, .ref h, v 8, v 9, v 10])), (h, .inr (0, [.int 0, g 1, g 2, g 3, g 4, g 5, g 6, g 7, g 8, g 9, g 10, g 11, g 12, g 13, g 14]))] H := hP
  have hD : va_D A [(x, .inr (7, [v 0, v 1, v 2, v 3, v 4, v 5, v 6, .ref h, v 8, v 9, v 10])), (h, .inr (0, [.int 0, g 1, g 2, g 3, g 4, g 5, g 6, g 7, g 8, g 9, g 10, g 11, g 12, g 13, g 14]))] := hD
  have hK : va_K (dC, dI) vwCl [] s := hK
  have hw : r_1 = 1 := hw
  subst hw
  refine lv_istore_n (lv' := [(3, .int 1), (0, .ref x), (1, .int a0), (2, .int a1)]) hx hb dX7_aliveBy_9 rfl hl (by decide) rfl (fun ls hl => ?_)
  refine lv_iload_n hx hb dX7_aliveBy_10 rfl (lv_at hl 0 rfl) ?_
  refine lv_if_eq (tgt := 20) hx hb dX7_aliveBy_11 (by decide) (fun c_2 => absurd c_2 (by decide +kernel)) (fun _ => ?_)
  refine lv_aload_n hx hb dX7_aliveBy_14 rfl (lv_at hl 1 rfl) ?_
  refine lv_iload_n hx hb dX7_aliveBy_15 rfl (lv_at hl 0 rfl) ?_
  have hPc := hP.sub (ws' := [(x, .inr (7, [v 0, v 1, v 2, v 3, v 4, v 5, v 6, .ref h, v 8, v 9, v 10]))]) [0] rfl
  have hDc := hD.sub (ws' := [(x, .inr (7, [v 0, v 1, v 2, v 3, v 4, v 5, v 6, .ref h, v 8, v 9, v 10]))]) [0] (by decide) rfl
  have hKc := hK.sub (tys' := []) [] rfl
  have hFc := va_free (wc := [(x, .inr (7, [v 0, v 1, v 2, v 3, v 4, v 5, v 6, .ref h, v 8, v 9, v 10]))]) hD hS hA [0] rfl
  refine va_calli (va_runV (As := [.int 1]) (rest := []) ⟨hx, hb, hml, hown, hts⟩ (c_X7_refused l dC dI H.size x 1 (fun i9 => ([v 0, v 1, v 2, v 3, v 4, v 5, v 6, .ref h, v 8, v 9, v 10] : List Value).getD i9 .null) ) (cwV 1 hts gX7_aliveBy_X7_refused rfl rfl rfl (by decide +kernel) ⟨Nat.le_of_ble_eq_true rfl, Nat.le_of_ble_eq_true rfl⟩) ⟨ax_blind (fun _ _ _ _ _ => trivial), va_recv hKc hPc (ci := 7) (q0 := 0) rfl rfl, ax_pre hPc hKc hDc (fun _ _ => trivial)⟩ rfl rfl hl.1 rfl (lv_room (Nat.le_of_ble_eq_true rfl)) dX7_aliveBy_16 ⟨Nat.le_of_ble_eq_true rfl, Nat.le_of_ble_eq_true rfl⟩) hS (fun q _ h => hFc q h) hFc (fun r_3 u t H1 locs ht hvm hw hB hz1 hk1 hS => ?_)
  obtain ⟨hP1, hK1, hD1⟩ := hB
  rw [ht] at hP1
  have hK1 := va_K.moved hvm.symm hK1
  obtain ⟨hP, hD⟩ := va_join (wr := [(h, .inr (0, [.int 0, g 1, g 2, g 3, g 4, g 5, g 6, g 7, g 8, g 9, g 10, g 11, g 12, g 13, g 14]))]) (w1 := []) hP hD [0] [1] rfl rfl (by decide) (by decide) hk1 hFc hP1 hD1
  have hK := (hK.sub (tys' := []) [] rfl).app hK1
  generalize H1 = H at hP hS ⊢
  have hP : va_P (dC, dI) vwCl [(h, .inr (0, [.int 0, g 1, g 2, g 3, g 4, g 5, g 6, g 7, g 8, g 9, g 10, g 11, g 12, g 13, g 14]))] H := hP
  have hD : va_D A [(h, .inr (0, [.int 0, g 1, g 2, g 3, g 4, g 5, g 6, g 7, g 8, g 9, g 10, g 11, g 12, g 13, g 14]))] := hD
  have hK : va_K (dC, dI) vwCl [] s := hK
  have hw : r_3 = (-1) := hw
  subst hw
  have hP9 := hP.sub (ws' := []) [] rfl
  have hD9 := hD.sub (ws' := []) [] (by decide) rfl
  have hK9 := hK.sub (tys' := []) [] rfl
  exact W.iret (v := (-1)) hx hb hr (fun t ht hW => ⟨⟨(-1), (), rfl, rfl, by rw [ht]; exact hP9, va_K.moved hW.alike hK9, hD9⟩, hS.F ht⟩) hS.2.2 dX7_aliveBy_19

set_option maxHeartbeats 4000000 in
set_option maxRecDepth 100000 in
theorem c_X7_look (l : Launch) (dC : Nat → ClassId) (dI : Nat → Nat → Nat) (sz : Nat) (x : Nat) (v : Nat → Value) (h : Nat) (g : Nat → Value) : Met l yX7_look wsX7_look ({ frames := 1, cells := 0, slots := 0, locals := 21 }) (va_Pc [.ref x] (ax_C dC dI sz [(x, .inr (7, [v 0, v 1, v 2, v 3, v 4, v 5, v 6, .ref h, v 8, v 9, v 10])), (h, .inr (0, [.int 0, g 1, g 2, g 3, g 4, g 5, g 6, g 7, g 8, g 9, g 10, g 11, g 12, g 13, g 14]))] [] (fun _ => True))) (va_Qi (fun (r : Int32) (_ : Unit) => r = -1) (fun (_ : Unit) (t : State) => ax_B dC dI (va_A [(x, .inr (7, [v 0, v 1, v 2, v 3, v 4, v 5, v 6, .ref h, v 8, v 9, v 10])), (h, .inr (0, [.int 0, g 1, g 2, g 3, g 4, g 5, g 6, g 7, g 8, g 9, g 10, g 11, g 12, g 13, g 14]))] sz) [] [] t) (va_A [(x, .inr (7, [v 0, v 1, v 2, v 3, v 4, v 5, v 6, .ref h, v 8, v 9, v 10])), (h, .inr (0, [.int 0, g 1, g 2, g 3, g 4, g 5, g 6, g 7, g 8, g 9, g 10, g 11, g 12, g 13, g 14]))] sz)) 0 0 (va_A [(x, .inr (7, [v 0, v 1, v 2, v 3, v 4, v 5, v 6, .ref h, v 8, v 9, v 10])), (h, .inr (0, [.int 0, g 1, g 2, g 3, g 4, g 5, g 6, g 7, g 8, g 9, g 10, g 11, g 12, g 13, g 14]))] sz) := by
  refine Met.ofW (cc := cX7_look) (maxL := 1) (ret := (some .int)) (by decide) rfl ?_
  intro p e s m args below meth c s₁ B hml hv
  obtain ⟨rfl, hsz, hP, hK, hD0, hE⟩ := hv
  have hx := B.exec
  have hb := B.bytes
  have hr := B.returns
  have hts := atoms_spec (ws := wsX7_look) B.pre
  have hown : s.vm.findClass RX7 = some m.cls := findClass_of_methodNamed B.named
  have hlocks := B.notSynchronized
  subst hsz
  have hD := hD0.self (sz := s.heap.size)
  generalize hAe : va_A [(x, .inr (7, [v 0, v 1, v 2, v 3, v 4, v 5, v 6, .ref h, v 8, v 9, v 10])), (h, .inr (0, [.int 0, g 1, g 2, g 3, g 4, g 5, g 6, g 7, g 8, g 9, g 10, g 11, g 12, g 13, g 14]))] s.heap.size = A at hD ⊢
  have hA : ∀ q : Nat, s.heap.size ≤ q → A q := fun q h => by rw [← hAe]; exact Or.inr h
  have hS : va_S A s.heap s.heap [] := va_S.rf
  have hP : va_P (dC, dI) vwCl [(x, .inr (7, [v 0, v 1, v 2, v 3, v 4, v 5, v 6, .ref h, v 8, v 9, v 10])), (h, .inr (0, [.int 0, g 1, g 2, g 3, g 4, g 5, g 6, g 7, g 8, g 9, g 10, g 11, g 12, g 13, g 14]))] s.heap := hP
  have hl := lv_entry ([.ref x]) (n := 1) (Nat.le_of_ble_eq_true rfl)
  rw [lg_entry_eq]
  generalize (lg_sl ([.ref x]) ++ List.replicate (1 - (lg_sl ([.ref x])).length) Slot.unset).toArray = ls at hl ⊢
  have hl : lv_has ls 1 [(0, .ref x)] := hl
  refine lv_aload_n hx hb dX7_look_0 rfl (lv_at hl 0 rfl) ?_
  have hPc := hP.sub (ws' := [(x, .inr (7, [v 0, v 1, v 2, v 3, v 4, v 5, v 6, .ref h, v 8, v 9, v 10])), (h, .inr (0, [.int 0, g 1, g 2, g 3, g 4, g 5, g 6, g 7, g 8, g 9, g 10, g 11, g 12, g 13, g 14]))]) [0, 1] rfl
  have hDc := hD.sub (ws' := [(x, .inr (7, [v 0, v 1, v 2, v 3, v 4, v 5, v 6, .ref h, v 8, v 9, v 10])), (h, .inr (0, [.int 0, g 1, g 2, g 3, g 4, g 5, g 6, g 7, g 8, g 9, g 10, g 11, g 12, g 13, g 14]))]) [0, 1] (by decide) rfl
  have hKc := hK.sub (tys' := []) [] rfl
  have hFc := va_free (wc := [(x, .inr (7, [v 0, v 1, v 2, v 3, v 4, v 5, v 6, .ref h, v 8, v 9, v 10])), (h, .inr (0, [.int 0, g 1, g 2, g 3, g 4, g 5, g 6, g 7, g 8, g 9, g 10, g 11, g 12, g 13, g 14]))]) hD hS hA [0, 1] rfl
  refine va_calli (va_runV (As := []) (rest := []) ⟨hx, hb, hml, hown, hts⟩ (c_X7_hasGallery l dC dI s.heap.size x v h g ) (cwV 0 hts gX7_look_X7_hasGallery rfl rfl rfl (by decide +kernel) ⟨Nat.le_of_ble_eq_true rfl, Nat.le_of_ble_eq_true rfl⟩) ⟨ax_blind (fun _ _ _ _ _ => trivial), va_recv hKc hPc (ci := 7) (q0 := 0) rfl rfl, ax_pre hPc hKc hDc (fun _ _ => trivial)⟩ rfl rfl hl.1 rfl (lv_room (Nat.le_of_ble_eq_true rfl)) dX7_look_1 ⟨Nat.le_of_ble_eq_true rfl, Nat.le_of_ble_eq_true rfl⟩) hS (fun q _ h => hFc q h) hFc (fun r_1 u t H1 locs ht hvm hw hB hz1 hk1 hS => ?_)
  obtain ⟨hP1, hK1, hD1⟩ := hB
  rw [ht] at hP1
  have hK1 := va_K.moved hvm.symm hK1
  obtain ⟨hP, hD⟩ := va_join (wr := []) (w1 := [(x, .inr (7, [v 0, v 1, v 2, v 3, v 4, v 5, v 6, .ref h, v 8, v 9, v 10])), (h, .inr (0, [.int 0, g 1, g 2, g 3, g 4, g 5, g 6, g 7, g 8, g 9, g 10, g 11, g 12, g 13, g 14]))]) hP hD [0, 1] [] rfl rfl (by decide) (by decide) hk1 hFc hP1 hD1
  have hK := (hK.sub (tys' := []) [] rfl).app hK1
  generalize H1 = H at hP hS ⊢
  have hP : va_P (dC, dI) vwCl [(x, .inr (7, [v 0, v 1, v 2, v 3, v 4, v 5, v 6, .ref h, v 8, v 9, v 10])), (h, .inr (0, [.int 0, g 1, g 2, g 3, g 4, g 5, g 6, g 7, g 8, g 9, g 10, g 11, g 12, g 13, g 14]))] H := hP
  have hD : va_D A [(x, .inr (7, [v 0, v 1, v 2, v 3, v 4, v 5, v 6, .ref h, v 8, v 9, v 10])), (h, .inr (0, [.int 0, g 1, g 2, g 3, g 4, g 5, g 6, g 7, g 8, g 9, g 10, g 11, g 12, g 13, g 14]))] := hD
  have hK : va_K (dC, dI) vwCl [] s := hK
  have hw : r_1 = 0 := hw
  subst hw
  refine lv_if_ne (tgt := 13) hx hb dX7_look_4 (by decide) (fun c_2 => absurd (by decide +kernel) c_2) (fun _ => ?_)
  refine lv_aload_n hx hb dX7_look_7 rfl (lv_at hl 0 rfl) ?_
  refine lv_iconst (v := 1) hx hb dX7_look_8 (by decide) ?_
  have hPc := hP.sub (ws' := [(x, .inr (7, [v 0, v 1, v 2, v 3, v 4, v 5, v 6, .ref h, v 8, v 9, v 10]))]) [0] rfl
  have hDc := hD.sub (ws' := [(x, .inr (7, [v 0, v 1, v 2, v 3, v 4, v 5, v 6, .ref h, v 8, v 9, v 10]))]) [0] (by decide) rfl
  have hKc := hK.sub (tys' := []) [] rfl
  have hFc := va_free (wc := [(x, .inr (7, [v 0, v 1, v 2, v 3, v 4, v 5, v 6, .ref h, v 8, v 9, v 10]))]) hD hS hA [0] rfl
  refine va_calli (va_runV (As := [.int 1]) (rest := []) ⟨hx, hb, hml, hown, hts⟩ (c_X7_refused l dC dI H.size x 1 (fun i9 => ([v 0, v 1, v 2, v 3, v 4, v 5, v 6, .ref h, v 8, v 9, v 10] : List Value).getD i9 .null) ) (cwV 1 hts gX7_look_X7_refused rfl rfl rfl (by decide +kernel) ⟨Nat.le_of_ble_eq_true rfl, Nat.le_of_ble_eq_true rfl⟩) ⟨ax_blind (fun _ _ _ _ _ => trivial), va_recv hKc hPc (ci := 7) (q0 := 0) rfl rfl, ax_pre hPc hKc hDc (fun _ _ => trivial)⟩ rfl rfl hl.1 rfl (lv_room (Nat.le_of_ble_eq_true rfl)) dX7_look_9 ⟨Nat.le_of_ble_eq_true rfl, Nat.le_of_ble_eq_true rfl⟩) hS (fun q _ h => hFc q h) hFc (fun r_3 u t H1 locs ht hvm hw hB hz1 hk1 hS => ?_)
  obtain ⟨hP1, hK1, hD1⟩ := hB
  rw [ht] at hP1
  have hK1 := va_K.moved hvm.symm hK1
  obtain ⟨hP, hD⟩ := va_join (wr := [(h, .inr (0, [.int 0, g 1, g 2, g 3, g 4, g 5, g 6, g 7, g 8, g 9, g 10, g 11, g 12, g 13, g 14]))]) (w1 := []) hP hD [0] [1] rfl rfl (by decide) (by decide) hk1 hFc hP1 hD1
  have hK := (hK.sub (tys' := []) [] rfl).app hK1
  generalize H1 = H at hP hS ⊢
  have hP : va_P (dC, dI) vwCl [(h, .inr (0, [.int 0, g 1, g 2, g 3, g 4, g 5, g 6, g 7, g 8, g 9, g 10, g 11, g 12, g 13, g 14]))] H := hP
  have hD : va_D A [(h, .inr (0, [.int 0, g 1, g 2, g 3, g 4, g 5, g 6, g 7, g 8, g 9, g 10, g 11, g 12, g 13, g 14]))] := hD
  have hK : va_K (dC, dI) vwCl [] s := hK
  have hw : r_3 = (-1) := hw
  subst hw
  have hP9 := hP.sub (ws' := []) [] rfl
  have hD9 := hD.sub (ws' := []) [] (by decide) rfl
  have hK9 := hK.sub (tys' := []) [] rfl
  exact W.iret (v := (-1)) hx hb hr (fun t ht hW => ⟨⟨(-1), (), rfl, rfl, by rw [ht]; exact hP9, va_K.moved hW.alike hK9, hD9⟩, hS.F ht⟩) hS.2.2 dX7_look_12

set_option maxHeartbeats 4000000 in
set_option maxRecDepth 100000 in
theorem c_X7_lookLeaves (l : Launch) (dC : Nat → ClassId) (dI : Nat → Nat → Nat) (sz : Nat) (x : Nat) (v : Nat → Value) (h : Nat) (g : Nat → Value) : Met l yX7_lookLeaves wsX7_lookLeaves ({ frames := 1, cells := 0, slots := 0, locals := 21 }) (va_Pc [.ref x] (ax_C dC dI sz [(x, .inr (7, [v 0, v 1, v 2, v 3, v 4, v 5, v 6, .ref h, v 8, v 9, v 10])), (h, .inr (0, [.int 0, g 1, g 2, g 3, g 4, g 5, g 6, g 7, g 8, g 9, g 10, g 11, g 12, g 13, g 14]))] [] (fun _ => True))) (va_Qi (fun (r : Int32) (_ : Unit) => r = -1) (fun (_ : Unit) (t : State) => ax_B dC dI (va_A [(x, .inr (7, [v 0, v 1, v 2, v 3, v 4, v 5, v 6, .ref h, v 8, v 9, v 10])), (h, .inr (0, [.int 0, g 1, g 2, g 3, g 4, g 5, g 6, g 7, g 8, g 9, g 10, g 11, g 12, g 13, g 14]))] sz) [] [] t) (va_A [(x, .inr (7, [v 0, v 1, v 2, v 3, v 4, v 5, v 6, .ref h, v 8, v 9, v 10])), (h, .inr (0, [.int 0, g 1, g 2, g 3, g 4, g 5, g 6, g 7, g 8, g 9, g 10, g 11, g 12, g 13, g 14]))] sz)) 0 0 (va_A [(x, .inr (7, [v 0, v 1, v 2, v 3, v 4, v 5, v 6, .ref h, v 8, v 9, v 10])), (h, .inr (0, [.int 0, g 1, g 2, g 3, g 4, g 5, g 6, g 7, g 8, g 9, g 10, g 11, g 12, g 13, g 14]))] sz) := by
  refine Met.ofW (cc := cX7_lookLeaves) (maxL := 1) (ret := (some .int)) (by decide) rfl ?_
  intro p e s m args below meth c s₁ B hml hv
  obtain ⟨rfl, hsz, hP, hK, hD0, hE⟩ := hv
  have hx := B.exec
  have hb := B.bytes
  have hr := B.returns
  have hts := atoms_spec (ws := wsX7_lookLeaves) B.pre
  have hown : s.vm.findClass RX7 = some m.cls := findClass_of_methodNamed B.named
  have hlocks := B.notSynchronized
  subst hsz
  have hD := hD0.self (sz := s.heap.size)
  generalize hAe : va_A [(x, .inr (7, [v 0, v 1, v 2, v 3, v 4, v 5, v 6, .ref h, v 8, v 9, v 10])), (h, .inr (0, [.int 0, g 1, g 2, g 3, g 4, g 5, g 6, g 7, g 8, g 9, g 10, g 11, g 12, g 13, g 14]))] s.heap.size = A at hD ⊢
  have hA : ∀ q : Nat, s.heap.size ≤ q → A q := fun q h => by rw [← hAe]; exact Or.inr h
  have hS : va_S A s.heap s.heap [] := va_S.rf
  have hP : va_P (dC, dI) vwCl [(x, .inr (7, [v 0, v 1, v 2, v 3, v 4, v 5, v 6, .ref h, v 8, v 9, v 10])), (h, .inr (0, [.int 0, g 1, g 2, g 3, g 4, g 5, g 6, g 7, g 8, g 9, g 10, g 11, g 12, g 13, g 14]))] s.heap := hP
  have hl := lv_entry ([.ref x]) (n := 1) (Nat.le_of_ble_eq_true rfl)
  rw [lg_entry_eq]
  generalize (lg_sl ([.ref x]) ++ List.replicate (1 - (lg_sl ([.ref x])).length) Slot.unset).toArray = ls at hl ⊢
  have hl : lv_has ls 1 [(0, .ref x)] := hl
  refine lv_aload_n hx hb dX7_lookLeaves_0 rfl (lv_at hl 0 rfl) ?_
  have hPc := hP.sub (ws' := [(x, .inr (7, [v 0, v 1, v 2, v 3, v 4, v 5, v 6, .ref h, v 8, v 9, v 10])), (h, .inr (0, [.int 0, g 1, g 2, g 3, g 4, g 5, g 6, g 7, g 8, g 9, g 10, g 11, g 12, g 13, g 14]))]) [0, 1] rfl
  have hDc := hD.sub (ws' := [(x, .inr (7, [v 0, v 1, v 2, v 3, v 4, v 5, v 6, .ref h, v 8, v 9, v 10])), (h, .inr (0, [.int 0, g 1, g 2, g 3, g 4, g 5, g 6, g 7, g 8, g 9, g 10, g 11, g 12, g 13, g 14]))]) [0, 1] (by decide) rfl
  have hKc := hK.sub (tys' := []) [] rfl
  have hFc := va_free (wc := [(x, .inr (7, [v 0, v 1, v 2, v 3, v 4, v 5, v 6, .ref h, v 8, v 9, v 10])), (h, .inr (0, [.int 0, g 1, g 2, g 3, g 4, g 5, g 6, g 7, g 8, g 9, g 10, g 11, g 12, g 13, g 14]))]) hD hS hA [0, 1] rfl
  refine va_calli (va_runV (As := []) (rest := []) ⟨hx, hb, hml, hown, hts⟩ (c_X7_hasGallery l dC dI s.heap.size x v h g ) (cwV 0 hts gX7_lookLeaves_X7_hasGallery rfl rfl rfl (by decide +kernel) ⟨Nat.le_of_ble_eq_true rfl, Nat.le_of_ble_eq_true rfl⟩) ⟨ax_blind (fun _ _ _ _ _ => trivial), va_recv hKc hPc (ci := 7) (q0 := 0) rfl rfl, ax_pre hPc hKc hDc (fun _ _ => trivial)⟩ rfl rfl hl.1 rfl (lv_room (Nat.le_of_ble_eq_true rfl)) dX7_lookLeaves_1 ⟨Nat.le_of_ble_eq_true rfl, Nat.le_of_ble_eq_true rfl⟩) hS (fun q _ h => hFc q h) hFc (fun r_1 u t H1 locs ht hvm hw hB hz1 hk1 hS => ?_)
  obtain ⟨hP1, hK1, hD1⟩ := hB
  rw [ht] at hP1
  have hK1 := va_K.moved hvm.symm hK1
  obtain ⟨hP, hD⟩ := va_join (wr := []) (w1 := [(x, .inr (7, [v 0, v 1, v 2, v 3, v 4, v 5, v 6, .ref h, v 8, v 9, v 10])), (h, .inr (0, [.int 0, g 1, g 2, g 3, g 4, g 5, g 6, g 7, g 8, g 9, g 10, g 11, g 12, g 13, g 14]))]) hP hD [0, 1] [] rfl rfl (by decide) (by decide) hk1 hFc hP1 hD1
  have hK := (hK.sub (tys' := []) [] rfl).app hK1
  generalize H1 = H at hP hS ⊢
  have hP : va_P (dC, dI) vwCl [(x, .inr (7, [v 0, v 1, v 2, v 3, v 4, v 5, v 6, .ref h, v 8, v 9, v 10])), (h, .inr (0, [.int 0, g 1, g 2, g 3, g 4, g 5, g 6, g 7, g 8, g 9, g 10, g 11, g 12, g 13, g 14]))] H := hP
  have hD : va_D A [(x, .inr (7, [v 0, v 1, v 2, v 3, v 4, v 5, v 6, .ref h, v 8, v 9, v 10])), (h, .inr (0, [.int 0, g 1, g 2, g 3, g 4, g 5, g 6, g 7, g 8, g 9, g 10, g 11, g 12, g 13, g 14]))] := hD
  have hK : va_K (dC, dI) vwCl [] s := hK
  have hw : r_1 = 0 := hw
  subst hw
  refine lv_if_ne (tgt := 13) hx hb dX7_lookLeaves_4 (by decide) (fun c_2 => absurd (by decide +kernel) c_2) (fun _ => ?_)
  refine lv_aload_n hx hb dX7_lookLeaves_7 rfl (lv_at hl 0 rfl) ?_
  refine lv_iconst (v := 1) hx hb dX7_lookLeaves_8 (by decide) ?_
  have hPc := hP.sub (ws' := [(x, .inr (7, [v 0, v 1, v 2, v 3, v 4, v 5, v 6, .ref h, v 8, v 9, v 10]))]) [0] rfl
  have hDc := hD.sub (ws' := [(x, .inr (7, [v 0, v 1, v 2, v 3, v 4, v 5, v 6, .ref h, v 8, v 9, v 10]))]) [0] (by decide) rfl
  have hKc := hK.sub (tys' := []) [] rfl
  have hFc := va_free (wc := [(x, .inr (7, [v 0, v 1, v 2, v 3, v 4, v 5, v 6, .ref h, v 8, v 9, v 10]))]) hD hS hA [0] rfl
  refine va_calli (va_runV (As := [.int 1]) (rest := []) ⟨hx, hb, hml, hown, hts⟩ (c_X7_refused l dC dI H.size x 1 (fun i9 => ([v 0, v 1, v 2, v 3, v 4, v 5, v 6, .ref h, v 8, v 9, v 10] : List Value).getD i9 .null) ) (cwV 1 hts gX7_lookLeaves_X7_refused rfl rfl rfl (by decide +kernel) ⟨Nat.le_of_ble_eq_true rfl, Nat.le_of_ble_eq_true rfl⟩) ⟨ax_blind (fun _ _ _ _ _ => trivial), va_recv hKc hPc (ci := 7) (q0 := 0) rfl rfl, ax_pre hPc hKc hDc (fun _ _ => trivial)⟩ rfl rfl hl.1 rfl (lv_room (Nat.le_of_ble_eq_true rfl)) dX7_lookLeaves_9 ⟨Nat.le_of_ble_eq_true rfl, Nat.le_of_ble_eq_true rfl⟩) hS (fun q _ h => hFc q h) hFc (fun r_3 u t H1 locs ht hvm hw hB hz1 hk1 hS => ?_)
  obtain ⟨hP1, hK1, hD1⟩ := hB
  rw [ht] at hP1
  have hK1 := va_K.moved hvm.symm hK1
  obtain ⟨hP, hD⟩ := va_join (wr := [(h, .inr (0, [.int 0, g 1, g 2, g 3, g 4, g 5, g 6, g 7, g 8, g 9, g 10, g 11, g 12, g 13, g 14]))]) (w1 := []) hP hD [0] [1] rfl rfl (by decide) (by decide) hk1 hFc hP1 hD1
  have hK := (hK.sub (tys' := []) [] rfl).app hK1
  generalize H1 = H at hP hS ⊢
  have hP : va_P (dC, dI) vwCl [(h, .inr (0, [.int 0, g 1, g 2, g 3, g 4, g 5, g 6, g 7, g 8, g 9, g 10, g 11, g 12, g 13, g 14]))] H := hP
  have hD : va_D A [(h, .inr (0, [.int 0, g 1, g 2, g 3, g 4, g 5, g 6, g 7, g 8, g 9, g 10, g 11, g 12, g 13, g 14]))] := hD
  have hK : va_K (dC, dI) vwCl [] s := hK
  have hw : r_3 = (-1) := hw
  subst hw
  have hP9 := hP.sub (ws' := []) [] rfl
  have hD9 := hD.sub (ws' := []) [] (by decide) rfl
  have hK9 := hK.sub (tys' := []) [] rfl
  exact W.iret (v := (-1)) hx hb hr (fun t ht hW => ⟨⟨(-1), (), rfl, rfl, by rw [ht]; exact hP9, va_K.moved hW.alike hK9, hD9⟩, hS.F ht⟩) hS.2.2 dX7_lookLeaves_12

set_option maxHeartbeats 4000000 in
set_option maxRecDepth 100000 in
theorem c_X7_lawsLike (l : Launch) (dC : Nat → ClassId) (dI : Nat → Nat → Nat) (sz : Nat) (x : Nat) (v : Nat → Value) (h : Nat) (g : Nat → Value) : Met l yX7_lawsLike wsX7_lawsLike ({ frames := 1, cells := 0, slots := 0, locals := 21 }) (va_Pc [.ref x] (ax_C dC dI sz [(x, .inr (7, [v 0, v 1, v 2, v 3, v 4, v 5, v 6, .ref h, v 8, v 9, v 10])), (h, .inr (0, [.int 0, g 1, g 2, g 3, g 4, g 5, g 6, g 7, g 8, g 9, g 10, g 11, g 12, g 13, g 14]))] [] (fun _ => True))) (va_Qi (fun (r : Int32) (_ : Unit) => r = -1) (fun (_ : Unit) (t : State) => ax_B dC dI (va_A [(x, .inr (7, [v 0, v 1, v 2, v 3, v 4, v 5, v 6, .ref h, v 8, v 9, v 10])), (h, .inr (0, [.int 0, g 1, g 2, g 3, g 4, g 5, g 6, g 7, g 8, g 9, g 10, g 11, g 12, g 13, g 14]))] sz) [] [] t) (va_A [(x, .inr (7, [v 0, v 1, v 2, v 3, v 4, v 5, v 6, .ref h, v 8, v 9, v 10])), (h, .inr (0, [.int 0, g 1, g 2, g 3, g 4, g 5, g 6, g 7, g 8, g 9, g 10, g 11, g 12, g 13, g 14]))] sz)) 0 0 (va_A [(x, .inr (7, [v 0, v 1, v 2, v 3, v 4, v 5, v 6, .ref h, v 8, v 9, v 10])), (h, .inr (0, [.int 0, g 1, g 2, g 3, g 4, g 5, g 6, g 7, g 8, g 9, g 10, g 11, g 12, g 13, g 14]))] sz) := by
  refine Met.ofW (cc := cX7_lawsLike) (maxL := 4) (ret := (some .int)) (by decide) rfl ?_
  intro p e s m args below meth c s₁ B hml hv
  obtain ⟨rfl, hsz, hP, hK, hD0, hE⟩ := hv
  have hx := B.exec
  have hb := B.bytes
  have hr := B.returns
  have hts := atoms_spec (ws := wsX7_lawsLike) B.pre
  have hown : s.vm.findClass RX7 = some m.cls := findClass_of_methodNamed B.named
  have hlocks := B.notSynchronized
  subst hsz
  have hD := hD0.self (sz := s.heap.size)
  generalize hAe : va_A [(x, .inr (7, [v 0, v 1, v 2, v 3, v 4, v 5, v 6, .ref h, v 8, v 9, v 10])), (h, .inr (0, [.int 0, g 1, g 2, g 3, g 4, g 5, g 6, g 7, g 8, g 9, g 10, g 11, g 12, g 13, g 14]))] s.heap.size = A at hD ⊢
  have hA : ∀ q : Nat, s.heap.size ≤ q → A q := fun q h => by rw [← hAe]; exact Or.inr h
  have hS : va_S A s.heap s.heap [] := va_S.rf
  have hP : va_P (dC, dI) vwCl [(x, .inr (7, [v 0, v 1, v 2, v 3, v 4, v 5, v 6, .ref h, v 8, v 9, v 10])), (h, .inr (0, [.int 0, g 1, g 2, g 3, g 4, g 5, g 6, g 7, g 8, g 9, g 10, g 11, g 12, g 13, g 14]))] s.heap := hP
  have hl := lv_entry ([.ref x]) (n := 4) (Nat.le_of_ble_eq_true rfl)
  rw [lg_entry_eq]
  generalize (lg_sl ([.ref x]) ++ List.replicate (4 - (lg_sl ([.ref x])).length) Slot.unset).toArray = ls at hl ⊢
  have hl : lv_has ls 4 [(0, .ref x)] := hl
  refine lv_aload_n hx hb dX7_lawsLike_0 rfl (lv_at hl 0 rfl) ?_
  have hPc := hP.sub (ws' := [(x, .inr (7, [v 0, v 1, v 2, v 3, v 4, v 5, v 6, .ref h, v 8, v 9, v 10])), (h, .inr (0, [.int 0, g 1, g 2, g 3, g 4, g 5, g 6, g 7, g 8, g 9, g 10, g 11, g 12, g 13, g 14]))]) [0, 1] rfl
  have hDc := hD.sub (ws' := [(x, .inr (7, [v 0, v 1, v 2, v 3, v 4, v 5, v 6, .ref h, v 8, v 9, v 10])), (h, .inr (0, [.int 0, g 1, g 2, g 3, g 4, g 5, g 6, g 7, g 8, g 9, g 10, g 11, g 12, g 13, g 14]))]) [0, 1] (by decide) rfl
  have hKc := hK.sub (tys' := []) [] rfl
  have hFc := va_free (wc := [(x, .inr (7, [v 0, v 1, v 2, v 3, v 4, v 5, v 6, .ref h, v 8, v 9, v 10])), (h, .inr (0, [.int 0, g 1, g 2, g 3, g 4, g 5, g 6, g 7, g 8, g 9, g 10, g 11, g 12, g 13, g 14]))]) hD hS hA [0, 1] rfl
  refine va_calli (va_runV (As := []) (rest := []) ⟨hx, hb, hml, hown, hts⟩ (c_X7_hasGallery l dC dI s.heap.size x v h g ) (cwV 0 hts gX7_lawsLike_X7_hasGallery rfl rfl rfl (by decide +kernel) ⟨Nat.le_of_ble_eq_true rfl, Nat.le_of_ble_eq_true rfl⟩) ⟨ax_blind (fun _ _ _ _ _ => trivial), va_recv hKc hPc (ci := 7) (q0 := 0) rfl rfl, ax_pre hPc hKc hDc (fun _ _ => trivial)⟩ rfl rfl hl.1 rfl (lv_room (Nat.le_of_ble_eq_true rfl)) dX7_lawsLike_1 ⟨Nat.le_of_ble_eq_true rfl, Nat.le_of_ble_eq_true rfl⟩) hS (fun q _ h => hFc q h) hFc (fun r_1 u t H1 locs ht hvm hw hB hz1 hk1 hS => ?_)
  obtain ⟨hP1, hK1, hD1⟩ := hB
  rw [ht] at hP1
  have hK1 := va_K.moved hvm.symm hK1
  obtain ⟨hP, hD⟩ := va_join (wr := []) (w1 := [(x, .inr (7, [v 0, v 1, v 2, v 3, v 4, v 5, v 6, .ref h, v 8, v 9, v 10])), (h, .inr (0, [.int 0, g 1, g 2, g 3, g 4, g 5, g 6, g 7, g 8, g 9, g 10, g 11, g 12, g 13, g 14]))]) hP hD [0, 1] [] rfl rfl (by decide) (by decide) hk1 hFc hP1 hD1
  have hK := (hK.sub (tys' := []) [] rfl).app hK1
  generalize H1 = H at hP hS ⊢
  have hP : va_P (dC, dI) vwCl [(x, .inr (7, [v 0, v 1, v 2, v 3, v 4, v 5, v 6, .ref h, v 8, v 9, v 10])), (h, .inr (0, [.int 0, g 1, g 2, g 3, g 4, g 5, g 6, g 7, g 8, g 9, g 10, g 11, g 12, g 13, g 14]))] H := hP
  have hD : va_D A [(x, .inr (7, [v 0, v 1, v 2, v 3, v 4, v 5, v 6, .ref h, v 8, v 9, v 10])), (h, .inr (0, [.int 0, g 1, g 2, g 3, g 4, g 5, g 6, g 7, g 8, g 9, g 10, g 11, g 12, g 13, g 14]))] := hD
  have hK : va_K (dC, dI) vwCl [] s := hK
  have hw : r_1 = 0 := hw
  subst hw
  refine lv_if_ne (tgt := 13) hx hb dX7_lawsLike_4 (by decide) (fun c_2 => absurd (by decide +kernel) c_2) (fun _ => ?_)
  refine lv_aload_n hx hb dX7_lawsLike_7 rfl (lv_at hl 0 rfl) ?_
  refine lv_iconst (v := 1) hx hb dX7_lawsLike_8 (by decide) ?_
  have hPc := hP.sub (ws' := [(x, .inr (7, [v 0, v 1, v 2, v 3, v 4, v 5, v 6, .ref h, v 8, v 9, v 10]))]) [0] rfl
  have hDc := hD.sub (ws' := [(x, .inr (7, [v 0, v 1, v 2, v 3, v 4, v 5, v 6, .ref h, v 8, v 9, v 10]))]) [0] (by decide) rfl
  have hKc := hK.sub (tys' := []) [] rfl
  have hFc := va_free (wc := [(x, .inr (7, [v 0, v 1, v 2, v 3, v 4, v 5, v 6, .ref h, v 8, v 9, v 10]))]) hD hS hA [0] rfl
  refine va_calli (va_runV (As := [.int 1]) (rest := []) ⟨hx, hb, hml, hown, hts⟩ (c_X7_refused l dC dI H.size x 1 (fun i9 => ([v 0, v 1, v 2, v 3, v 4, v 5, v 6, .ref h, v 8, v 9, v 10] : List Value).getD i9 .null) ) (cwV 1 hts gX7_lawsLike_X7_refused rfl rfl rfl (by decide +kernel) ⟨Nat.le_of_ble_eq_true rfl, Nat.le_of_ble_eq_true rfl⟩) ⟨ax_blind (fun _ _ _ _ _ => trivial), va_recv hKc hPc (ci := 7) (q0 := 0) rfl rfl, ax_pre hPc hKc hDc (fun _ _ => trivial)⟩ rfl rfl hl.1 rfl (lv_room (Nat.le_of_ble_eq_true rfl)) dX7_lawsLike_9 ⟨Nat.le_of_ble_eq_true rfl, Nat.le_of_ble_eq_true rfl⟩) hS (fun q _ h => hFc q h) hFc (fun r_3 u t H1 locs ht hvm hw hB hz1 hk1 hS => ?_)
  obtain ⟨hP1, hK1, hD1⟩ := hB
  rw [ht] at hP1
  have hK1 := va_K.moved hvm.symm hK1
  obtain ⟨hP, hD⟩ := va_join (wr := [(h, .inr (0, [.int 0, g 1, g 2, g 3, g 4, g 5, g 6, g 7, g 8, g 9, g 10, g 11, g 12, g 13, g 14]))]) (w1 := []) hP hD [0] [1] rfl rfl (by decide) (by decide) hk1 hFc hP1 hD1
  have hK := (hK.sub (tys' := []) [] rfl).app hK1
  generalize H1 = H at hP hS ⊢
  have hP : va_P (dC, dI) vwCl [(h, .inr (0, [.int 0, g 1, g 2, g 3, g 4, g 5, g 6, g 7, g 8, g 9, g 10, g 11, g 12, g 13, g 14]))] H := hP
  have hD : va_D A [(h, .inr (0, [.int 0, g 1, g 2, g 3, g 4, g 5, g 6, g 7, g 8, g 9, g 10, g 11, g 12, g 13, g 14]))] := hD
  have hK : va_K (dC, dI) vwCl [] s := hK
  have hw : r_3 = (-1) := hw
  subst hw
  have hP9 := hP.sub (ws' := []) [] rfl
  have hD9 := hD.sub (ws' := []) [] (by decide) rfl
  have hK9 := hK.sub (tys' := []) [] rfl
  exact W.iret (v := (-1)) hx hb hr (fun t ht hW => ⟨⟨(-1), (), rfl, rfl, by rw [ht]; exact hP9, va_K.moved hW.alike hK9, hD9⟩, hS.F ht⟩) hS.2.2 dX7_lawsLike_12

set_option maxHeartbeats 4000000 in
set_option maxRecDepth 100000 in
theorem c_X7_lawFor (l : Launch) (dC : Nat → ClassId) (dI : Nat → Nat → Nat) (sz : Nat) (x : Nat) (a0 : Int32) (a1 : Int32) (v : Nat → Value) (h : Nat) (g : Nat → Value) : Met l yX7_lawFor wsX7_lawFor ({ frames := 3, cells := 0, slots := 0, locals := 66 }) (va_Pc [.ref x, .int a0, .int a1] (ax_C dC dI sz [(x, .inr (7, [v 0, v 1, v 2, v 3, v 4, v 5, v 6, .ref h, v 8, v 9, v 10])), (h, .inr (0, [.int 0, g 1, g 2, g 3, g 4, g 5, g 6, g 7, g 8, g 9, g 10, g 11, g 12, g 13, g 14]))] [] (fun _ => True))) (va_Qi (fun (r : Int32) (_ : Unit) => r = -1) (fun (_ : Unit) (t : State) => ax_B dC dI (va_A [(x, .inr (7, [v 0, v 1, v 2, v 3, v 4, v 5, v 6, .ref h, v 8, v 9, v 10])), (h, .inr (0, [.int 0, g 1, g 2, g 3, g 4, g 5, g 6, g 7, g 8, g 9, g 10, g 11, g 12, g 13, g 14]))] sz) [] [] t) (va_A [(x, .inr (7, [v 0, v 1, v 2, v 3, v 4, v 5, v 6, .ref h, v 8, v 9, v 10])), (h, .inr (0, [.int 0, g 1, g 2, g 3, g 4, g 5, g 6, g 7, g 8, g 9, g 10, g 11, g 12, g 13, g 14]))] sz)) 0 0 (va_A [(x, .inr (7, [v 0, v 1, v 2, v 3, v 4, v 5, v 6, .ref h, v 8, v 9, v 10])), (h, .inr (0, [.int 0, g 1, g 2, g 3, g 4, g 5, g 6, g 7, g 8, g 9, g 10, g 11, g 12, g 13, g 14]))] sz) := by
  refine Met.ofW (cc := cX7_lawFor) (maxL := 4) (ret := (some .int)) (by decide) rfl ?_
  intro p e s m args below meth c s₁ B hml hv
  obtain ⟨rfl, hsz, hP, hK, hD0, hE⟩ := hv
  have hx := B.exec
  have hb := B.bytes
  have hr := B.returns
  have hts := atoms_spec (ws := wsX7_lawFor) B.pre
  have hown : s.vm.findClass RX7 = some m.cls := findClass_of_methodNamed B.named
  have hlocks := B.notSynchronized
  subst hsz
  have hD := hD0.self (sz := s.heap.size)
  generalize hAe : va_A [(x, .inr (7, [v 0, v 1, v 2, v 3, v 4, v 5, v 6, .ref h, v 8, v 9, v 10])), (h, .inr (0, [.int 0, g 1, g 2, g 3, g 4, g 5, g 6, g 7, g 8, g 9, g 10, g 11, g 12, g 13, g 14]))] s.heap.size = A at hD ⊢
  have hA : ∀ q : Nat, s.heap.size ≤ q → A q := fun q h => by rw [← hAe]; exact Or.inr h
  have hS : va_S A s.heap s.heap [] := va_S.rf
  have hP : va_P (dC, dI) vwCl [(x, .inr (7, [v 0, v 1, v 2, v 3, v 4, v 5, v 6, .ref h, v 8, v 9, v 10])), (h, .inr (0, [.int 0, g 1, g 2, g 3, g 4, g 5, g 6, g 7, g 8, g 9, g 10, g 11, g 12, g 13, g 14]))] s.heap := hP
  have hl := lv_entry ([.ref x, .int a0, .int a1]) (n := 4) (Nat.le_of_ble_eq_true rfl)
  rw [lg_entry_eq]
  generalize (lg_sl ([.ref x, .int a0, .int a1]) ++ List.replicate (4 - (lg_sl ([.ref x, .int a0, .int a1])).length) Slot.unset).toArray = ls at hl ⊢
  have hl : lv_has ls 4 [(0, .ref x), (1, .int a0), (2, .int a1)] := hl
  refine lv_aload_n hx hb dX7_lawFor_0 rfl (lv_at hl 0 rfl) ?_
  refine lv_iload_n hx hb dX7_lawFor_1 rfl (lv_at hl 1 rfl) ?_
  refine lv_iload_n hx hb dX7_lawFor_2 rfl (lv_at hl 2 rfl) ?_
  refine lv_bipush (v := 99) hx hb dX7_lawFor_3 (by decide) ?_
  have hPc := hP.sub (ws' := [(x, .inr (7, [v 0, v 1, v 2, v 3, v 4, v 5, v 6, .ref h, v 8, v 9, v 10])), (h, .inr (0, [.int 0, g 1, g 2, g 3, g 4, g 5, g 6, g 7, g 8, g 9, g 10, g 11, g 12, g 13, g 14]))]) [0, 1] rfl
  have hDc := hD.sub (ws' := [(x, .inr (7, [v 0, v 1, v 2, v 3, v 4, v 5, v 6, .ref h, v 8, v 9, v 10])), (h, .inr (0, [.int 0, g 1, g 2, g 3, g 4, g 5, g 6, g 7, g 8, g 9, g 10, g 11, g 12, g 13, g 14]))]) [0, 1] (by decide) rfl
  have hKc := hK.sub (tys' := []) [] rfl
  have hFc := va_free (wc := [(x, .inr (7, [v 0, v 1, v 2, v 3, v 4, v 5, v 6, .ref h, v 8, v 9, v 10])), (h, .inr (0, [.int 0, g 1, g 2, g 3, g 4, g 5, g 6, g 7, g 8, g 9, g 10, g 11, g 12, g 13, g 14]))]) hD hS hA [0, 1] rfl
  refine va_calli (va_runV (As := [.int a0, .int a1, .int 99]) (rest := []) ⟨hx, hb, hml, hown, hts⟩ (c_X7_troubleOfFigureWithin l dC dI s.heap.size x a0 a1 99 v h g ) (cwV 3 hts gX7_lawFor_X7_troubleOfFigureWithin rfl rfl rfl (by decide +kernel) ⟨Nat.le_of_ble_eq_true rfl, Nat.le_of_ble_eq_true rfl⟩) ⟨ax_blind (fun _ _ _ _ _ => trivial), va_recv hKc hPc (ci := 7) (q0 := 0) rfl rfl, ax_pre hPc hKc hDc (fun _ _ => trivial)⟩ rfl rfl hl.1 rfl (lv_room (Nat.le_of_ble_eq_true rfl)) dX7_lawFor_5 ⟨Nat.le_of_ble_eq_true rfl, Nat.le_of_ble_eq_true rfl⟩) hS (fun q _ h => hFc q h) hFc (fun r_1 u t H1 locs ht hvm hw hB hz1 hk1 hS => ?_)
  obtain ⟨hP1, hK1, hD1⟩ := hB
  rw [ht] at hP1
  have hK1 := va_K.moved hvm.symm hK1
  obtain ⟨hP, hD⟩ := va_join (wr := []) (w1 := [(x, .inr (7, [v 0, v 1, v 2, v 3, v 4, v 5, v 6, .ref h, v 8, v 9, v 10])), (h, .inr (0, [.int 0, g 1, g 2, g 3, g 4, g 5, g 6, g 7, g 8, g 9, g 10, g 11, g 12, g 13, g 14]))]) hP hD [0, 1] [] rfl rfl (by decide) (by decide) hk1 hFc hP1 hD1
  have hK := (hK.sub (tys' := []) [] rfl).app hK1
  generalize H1 = H at hP hS ⊢
  have hP : va_P (dC, dI) vwCl [(x, .inr (7, [v 0, v 1, v 2, v 3, v 4, v 5, v 6, .ref h, v 8, v 9, v 10])), (h, .inr (0, [.int 0, g 1, g 2, g 3, g 4, g 5, g 6, g 7, g 8, g 9, g 10, g 11, g 12, g 13, g 14]))] H := hP
  have hD : va_D A [(x, .inr (7, [v 0, v 1, v 2, v 3, v 4, v 5, v 6, .ref h, v 8, v 9, v 10])), (h, .inr (0, [.int 0, g 1, g 2, g 3, g 4, g 5, g 6, g 7, g 8, g 9, g 10, g 11, g 12, g 13, g 14]))] := hD
  have hK : va_K (dC, dI) vwCl [] s := hK
  have hw : r_1 = 1 := hw
  subst hw
  refine lv_istore_n (lv' := [(3, .int 1), (0, .ref x), (1, .int a0), (2, .int a1)]) hx hb dX7_lawFor_8 rfl hl (by decide) rfl (fun ls hl => ?_)
  refine lv_iload_n hx hb dX7_lawFor_9 rfl (lv_at hl 0 rfl) ?_
  refine lv_if_eq (tgt := 19) hx hb dX7_lawFor_10 (by decide) (fun c_2 => absurd c_2 (by decide +kernel)) (fun _ => ?_)
  refine lv_aload_n hx hb dX7_lawFor_13 rfl (lv_at hl 1 rfl) ?_
  refine lv_iload_n hx hb dX7_lawFor_14 rfl (lv_at hl 0 rfl) ?_
  have hPc := hP.sub (ws' := [(x, .inr (7, [v 0, v 1, v 2, v 3, v 4, v 5, v 6, .ref h, v 8, v 9, v 10]))]) [0] rfl
  have hDc := hD.sub (ws' := [(x, .inr (7, [v 0, v 1, v 2, v 3, v 4, v 5, v 6, .ref h, v 8, v 9, v 10]))]) [0] (by decide) rfl
  have hKc := hK.sub (tys' := []) [] rfl
  have hFc := va_free (wc := [(x, .inr (7, [v 0, v 1, v 2, v 3, v 4, v 5, v 6, .ref h, v 8, v 9, v 10]))]) hD hS hA [0] rfl
  refine va_calli (va_runV (As := [.int 1]) (rest := []) ⟨hx, hb, hml, hown, hts⟩ (c_X7_refused l dC dI H.size x 1 (fun i9 => ([v 0, v 1, v 2, v 3, v 4, v 5, v 6, .ref h, v 8, v 9, v 10] : List Value).getD i9 .null) ) (cwV 1 hts gX7_lawFor_X7_refused rfl rfl rfl (by decide +kernel) ⟨Nat.le_of_ble_eq_true rfl, Nat.le_of_ble_eq_true rfl⟩) ⟨ax_blind (fun _ _ _ _ _ => trivial), va_recv hKc hPc (ci := 7) (q0 := 0) rfl rfl, ax_pre hPc hKc hDc (fun _ _ => trivial)⟩ rfl rfl hl.1 rfl (lv_room (Nat.le_of_ble_eq_true rfl)) dX7_lawFor_15 ⟨Nat.le_of_ble_eq_true rfl, Nat.le_of_ble_eq_true rfl⟩) hS (fun q _ h => hFc q h) hFc (fun r_3 u t H1 locs ht hvm hw hB hz1 hk1 hS => ?_)
  obtain ⟨hP1, hK1, hD1⟩ := hB
  rw [ht] at hP1
  have hK1 := va_K.moved hvm.symm hK1
  obtain ⟨hP, hD⟩ := va_join (wr := [(h, .inr (0, [.int 0, g 1, g 2, g 3, g 4, g 5, g 6, g 7, g 8, g 9, g 10, g 11, g 12, g 13, g 14]))]) (w1 := []) hP hD [0] [1] rfl rfl (by decide) (by decide) hk1 hFc hP1 hD1
  have hK := (hK.sub (tys' := []) [] rfl).app hK1
  generalize H1 = H at hP hS ⊢
  have hP : va_P (dC, dI) vwCl [(h, .inr (0, [.int 0, g 1, g 2, g 3, g 4, g 5, g 6, g 7, g 8, g 9, g 10, g 11, g 12, g 13, g 14]))] H := hP
  have hD : va_D A [(h, .inr (0, [.int 0, g 1, g 2, g 3, g 4, g 5, g 6, g 7, g 8, g 9, g 10, g 11, g 12, g 13, g 14]))] := hD
  have hK : va_K (dC, dI) vwCl [] s := hK
  have hw : r_3 = (-1) := hw
  subst hw
  have hP9 := hP.sub (ws' := []) [] rfl
  have hD9 := hD.sub (ws' := []) [] (by decide) rfl
  have hK9 := hK.sub (tys' := []) [] rfl
  exact W.iret (v := (-1)) hx hb hr (fun t ht hW => ⟨⟨(-1), (), rfl, rfl, by rw [ht]; exact hP9, va_K.moved hW.alike hK9, hD9⟩, hS.F ht⟩) hS.2.2 dX7_lawFor_18

set_option maxHeartbeats 4000000 in
set_option maxRecDepth 100000 in
theorem c_X7_judge (l : Launch) (dC : Nat → ClassId) (dI : Nat → Nat → Nat) (sz : Nat) (x : Nat) (v : Nat → Value) (h : Nat) (g : Nat → Value) : Met l yX7_judge wsX7_judge ({ frames := 1, cells := 0, slots := 0, locals := 21 }) (va_Pc [.ref x] (ax_C dC dI sz [(x, .inr (7, [v 0, v 1, v 2, v 3, v 4, v 5, v 6, .ref h, v 8, v 9, v 10])), (h, .inr (0, [.int 0, g 1, g 2, g 3, g 4, g 5, g 6, g 7, g 8, g 9, g 10, g 11, g 12, g 13, g 14]))] [] (fun _ => True))) (va_Qi (fun (r : Int32) (_ : Unit) => r = -1) (fun (_ : Unit) (t : State) => ax_B dC dI (va_A [(x, .inr (7, [v 0, v 1, v 2, v 3, v 4, v 5, v 6, .ref h, v 8, v 9, v 10])), (h, .inr (0, [.int 0, g 1, g 2, g 3, g 4, g 5, g 6, g 7, g 8, g 9, g 10, g 11, g 12, g 13, g 14]))] sz) [] [] t) (va_A [(x, .inr (7, [v 0, v 1, v 2, v 3, v 4, v 5, v 6, .ref h, v 8, v 9, v 10])), (h, .inr (0, [.int 0, g 1, g 2, g 3, g 4, g 5, g 6, g 7, g 8, g 9, g 10, g 11, g 12, g 13, g 14]))] sz)) 0 0 (va_A [(x, .inr (7, [v 0, v 1, v 2, v 3, v 4, v 5, v 6, .ref h, v 8, v 9, v 10])), (h, .inr (0, [.int 0, g 1, g 2, g 3, g 4, g 5, g 6, g 7, g 8, g 9, g 10, g 11, g 12, g 13, g 14]))] sz) := by
  refine Met.ofW (cc := cX7_judge) (maxL := 3) (ret := (some .int)) (by decide) rfl ?_
  intro p e s m args below meth c s₁ B hml hv
  obtain ⟨rfl, hsz, hP, hK, hD0, hE⟩ := hv
  have hx := B.exec
  have hb := B.bytes
  have hr := B.returns
  have hts := atoms_spec (ws := wsX7_judge) B.pre
  have hown : s.vm.findClass RX7 = some m.cls := findClass_of_methodNamed B.named
  have hlocks := B.notSynchronized
  subst hsz
  have hD := hD0.self (sz := s.heap.size)
  generalize hAe : va_A [(x, .inr (7, [v 0, v 1, v 2, v 3, v 4, v 5, v 6, .ref h, v 8, v 9, v 10])), (h, .inr (0, [.int 0, g 1, g 2, g 3, g 4, g 5, g 6, g 7, g 8, g 9, g 10, g 11, g 12, g 13, g 14]))] s.heap.size = A at hD ⊢
  have hA : ∀ q : Nat, s.heap.size ≤ q → A q := fun q h => by rw [← hAe]; exact Or.inr h
  have hS : va_S A s.heap s.heap [] := va_S.rf
  have hP : va_P (dC, dI) vwCl [(x, .inr (7, [v 0, v 1, v 2, v 3, v 4, v 5, v 6, .ref h, v 8, v 9, v 10])), (h, .inr (0, [.int 0, g 1, g 2, g 3, g 4, g 5, g 6, g 7, g 8, g 9, g 10, g 11, g 12, g 13, g 14]))] s.heap := hP
  have hl := lv_entry ([.ref x]) (n := 3) (Nat.le_of_ble_eq_true rfl)
  rw [lg_entry_eq]
  generalize (lg_sl ([.ref x]) ++ List.replicate (3 - (lg_sl ([.ref x])).length) Slot.unset).toArray = ls at hl ⊢
  have hl : lv_has ls 3 [(0, .ref x)] := hl
  refine lv_aload_n hx hb dX7_judge_0 rfl (lv_at hl 0 rfl) ?_
  have hPc := hP.sub (ws' := [(x, .inr (7, [v 0, v 1, v 2, v 3, v 4, v 5, v 6, .ref h, v 8, v 9, v 10])), (h, .inr (0, [.int 0, g 1, g 2, g 3, g 4, g 5, g 6, g 7, g 8, g 9, g 10, g 11, g 12, g 13, g 14]))]) [0, 1] rfl
  have hDc := hD.sub (ws' := [(x, .inr (7, [v 0, v 1, v 2, v 3, v 4, v 5, v 6, .ref h, v 8, v 9, v 10])), (h, .inr (0, [.int 0, g 1, g 2, g 3, g 4, g 5, g 6, g 7, g 8, g 9, g 10, g 11, g 12, g 13, g 14]))]) [0, 1] (by decide) rfl
  have hKc := hK.sub (tys' := []) [] rfl
  have hFc := va_free (wc := [(x, .inr (7, [v 0, v 1, v 2, v 3, v 4, v 5, v 6, .ref h, v 8, v 9, v 10])), (h, .inr (0, [.int 0, g 1, g 2, g 3, g 4, g 5, g 6, g 7, g 8, g 9, g 10, g 11, g 12, g 13, g 14]))]) hD hS hA [0, 1] rfl
  refine va_calli (va_runV (As := []) (rest := []) ⟨hx, hb, hml, hown, hts⟩ (c_X7_hasGallery l dC dI s.heap.size x v h g ) (cwV 0 hts gX7_judge_X7_hasGallery rfl rfl rfl (by decide +kernel) ⟨Nat.le_of_ble_eq_true rfl, Nat.le_of_ble_eq_true rfl⟩) ⟨ax_blind (fun _ _ _ _ _ => trivial), va_recv hKc hPc (ci := 7) (q0 := 0) rfl rfl, ax_pre hPc hKc hDc (fun _ _ => trivial)⟩ rfl rfl hl.1 rfl (lv_room (Nat.le_of_ble_eq_true rfl)) dX7_judge_1 ⟨Nat.le_of_ble_eq_true rfl, Nat.le_of_ble_eq_true rfl⟩) hS (fun q _ h => hFc q h) hFc (fun r_1 u t H1 locs ht hvm hw hB hz1 hk1 hS => ?_)
  obtain ⟨hP1, hK1, hD1⟩ := hB
  rw [ht] at hP1
  have hK1 := va_K.moved hvm.symm hK1
  obtain ⟨hP, hD⟩ := va_join (wr := []) (w1 := [(x, .inr (7, [v 0, v 1, v 2, v 3, v 4, v 5, v 6, .ref h, v 8, v 9, v 10])), (h, .inr (0, [.int 0, g 1, g 2, g 3, g 4, g 5, g 6, g 7, g 8, g 9, g 10, g 11, g 12, g 13, g 14]))]) hP hD [0, 1] [] rfl rfl (by decide) (by decide) hk1 hFc hP1 hD1
  have hK := (hK.sub (tys' := []) [] rfl).app hK1
  generalize H1 = H at hP hS ⊢
  have hP : va_P (dC, dI) vwCl [(x, .inr (7, [v 0, v 1, v 2, v 3, v 4, v 5, v 6, .ref h, v 8, v 9, v 10])), (h, .inr (0, [.int 0, g 1, g 2, g 3, g 4, g 5, g 6, g 7, g 8, g 9, g 10, g 11, g 12, g 13, g 14]))] H := hP
  have hD : va_D A [(x, .inr (7, [v 0, v 1, v 2, v 3, v 4, v 5, v 6, .ref h, v 8, v 9, v 10])), (h, .inr (0, [.int 0, g 1, g 2, g 3, g 4, g 5, g 6, g 7, g 8, g 9, g 10, g 11, g 12, g 13, g 14]))] := hD
  have hK : va_K (dC, dI) vwCl [] s := hK
  have hw : r_1 = 0 := hw
  subst hw
  refine lv_if_ne (tgt := 13) hx hb dX7_judge_4 (by decide) (fun c_2 => absurd (by decide +kernel) c_2) (fun _ => ?_)
  refine lv_aload_n hx hb dX7_judge_7 rfl (lv_at hl 0 rfl) ?_
  refine lv_iconst (v := 1) hx hb dX7_judge_8 (by decide) ?_
  have hPc := hP.sub (ws' := [(x, .inr (7, [v 0, v 1, v 2, v 3, v 4, v 5, v 6, .ref h, v 8, v 9, v 10]))]) [0] rfl
  have hDc := hD.sub (ws' := [(x, .inr (7, [v 0, v 1, v 2, v 3, v 4, v 5, v 6, .ref h, v 8, v 9, v 10]))]) [0] (by decide) rfl
  have hKc := hK.sub (tys' := []) [] rfl
  have hFc := va_free (wc := [(x, .inr (7, [v 0, v 1, v 2, v 3, v 4, v 5, v 6, .ref h, v 8, v 9, v 10]))]) hD hS hA [0] rfl
  refine va_calli (va_runV (As := [.int 1]) (rest := []) ⟨hx, hb, hml, hown, hts⟩ (c_X7_refused l dC dI H.size x 1 (fun i9 => ([v 0, v 1, v 2, v 3, v 4, v 5, v 6, .ref h, v 8, v 9, v 10] : List Value).getD i9 .null) ) (cwV 1 hts gX7_judge_X7_refused rfl rfl rfl (by decide +kernel) ⟨Nat.le_of_ble_eq_true rfl, Nat.le_of_ble_eq_true rfl⟩) ⟨ax_blind (fun _ _ _ _ _ => trivial), va_recv hKc hPc (ci := 7) (q0 := 0) rfl rfl, ax_pre hPc hKc hDc (fun _ _ => trivial)⟩ rfl rfl hl.1 rfl (lv_room (Nat.le_of_ble_eq_true rfl)) dX7_judge_9 ⟨Nat.le_of_ble_eq_true rfl, Nat.le_of_ble_eq_true rfl⟩) hS (fun q _ h => hFc q h) hFc (fun r_3 u t H1 locs ht hvm hw hB hz1 hk1 hS => ?_)
  obtain ⟨hP1, hK1, hD1⟩ := hB
  rw [ht] at hP1
  have hK1 := va_K.moved hvm.symm hK1
  obtain ⟨hP, hD⟩ := va_join (wr := [(h, .inr (0, [.int 0, g 1, g 2, g 3, g 4, g 5, g 6, g 7, g 8, g 9, g 10, g 11, g 12, g 13, g 14]))]) (w1 := []) hP hD [0] [1] rfl rfl (by decide) (by decide) hk1 hFc hP1 hD1
  have hK := (hK.sub (tys' := []) [] rfl).app hK1
  generalize H1 = H at hP hS ⊢
  have hP : va_P (dC, dI) vwCl [(h, .inr (0, [.int 0, g 1, g 2, g 3, g 4, g 5, g 6, g 7, g 8, g 9, g 10, g 11, g 12, g 13, g 14]))] H := hP
  have hD : va_D A [(h, .inr (0, [.int 0, g 1, g 2, g 3, g 4, g 5, g 6, g 7, g 8, g 9, g 10, g 11, g 12, g 13, g 14]))] := hD
  have hK : va_K (dC, dI) vwCl [] s := hK
  have hw : r_3 = (-1) := hw
  subst hw
  have hP9 := hP.sub (ws' := []) [] rfl
  have hD9 := hD.sub (ws' := []) [] (by decide) rfl
  have hK9 := hK.sub (tys' := []) [] rfl
  exact W.iret (v := (-1)) hx hb hr (fun t ht hW => ⟨⟨(-1), (), rfl, rfl, by rw [ht]; exact hP9, va_K.moved hW.alike hK9, hD9⟩, hS.F ht⟩) hS.2.2 dX7_judge_12

set_option maxHeartbeats 4000000 in
set_option maxRecDepth 100000 in
theorem c_X7_rests (l : Launch) (dC : Nat → ClassId) (dI : Nat → Nat → Nat) (sz : Nat) (x : Nat) (a0 : Int32) (v : Nat → Value) (h : Nat) (g : Nat → Value) : Met l yX7_rests wsX7_rests ({ frames := 2, cells := 0, slots := 0, locals := 43 }) (va_Pc [.ref x, .int a0] (ax_C dC dI sz [(x, .inr (7, [v 0, v 1, v 2, v 3, v 4, v 5, v 6, .ref h, v 8, v 9, v 10])), (h, .inr (0, [.int 0, g 1, g 2, g 3, g 4, g 5, g 6, g 7, g 8, g 9, g 10, g 11, g 12, g 13, g 14]))] [] (fun _ => True))) (va_Qi (fun (r : Int32) (_ : Unit) => r = -1) (fun (_ : Unit) (t : State) => ax_B dC dI (va_A [(x, .inr (7, [v 0, v 1, v 2, v 3, v 4, v 5, v 6, .ref h, v 8, v 9, v 10])), (h, .inr (0, [.int 0, g 1, g 2, g 3, g 4, g 5, g 6, g 7, g 8, g 9, g 10, g 11, g 12, g 13, g 14]))] sz) [] [] t) (va_A [(x, .inr (7, [v 0, v 1, v 2, v 3, v 4, v 5, v 6, .ref h, v 8, v 9, v 10])), (h, .inr (0, [.int 0, g 1, g 2, g 3, g 4, g 5, g 6, g 7, g 8, g 9, g 10, g 11, g 12, g 13, g 14]))] sz)) 0 0 (va_A [(x, .inr (7, [v 0, v 1, v 2, v 3, v 4, v 5, v 6, .ref h, v 8, v 9, v 10])), (h, .inr (0, [.int 0, g 1, g 2, g 3, g 4, g 5, g 6, g 7, g 8, g 9, g 10, g 11, g 12, g 13, g 14]))] sz) := by
  refine Met.ofW (cc := cX7_rests) (maxL := 5) (ret := (some .int)) (by decide) rfl ?_
  intro p e s m args below meth c s₁ B hml hv
  obtain ⟨rfl, hsz, hP, hK, hD0, hE⟩ := hv
  have hx := B.exec
  have hb := B.bytes
  have hr := B.returns
  have hts := atoms_spec (ws := wsX7_rests) B.pre
  have hown : s.vm.findClass RX7 = some m.cls := findClass_of_methodNamed B.named
  have hlocks := B.notSynchronized
  subst hsz
  have hD := hD0.self (sz := s.heap.size)
  generalize hAe : va_A [(x, .inr (7, [v 0, v 1, v 2, v 3, v 4, v 5, v 6, .ref h, v 8, v 9, v 10])), (h, .inr (0, [.int 0, g 1, g 2, g 3, g 4, g 5, g 6, g 7, g 8, g 9, g 10, g 11, g 12, g 13, g 14]))] s.heap.size = A at hD ⊢
  have hA : ∀ q : Nat, s.heap.size ≤ q → A q := fun q h => by rw [← hAe]; exact Or.inr h
  have hS : va_S A s.heap s.heap [] := va_S.rf
  have hP : va_P (dC, dI) vwCl [(x, .inr (7, [v 0, v 1, v 2, v 3, v 4, v 5, v 6, .ref h, v 8, v 9, v 10])), (h, .inr (0, [.int 0, g 1, g 2, g 3, g 4, g 5, g 6, g 7, g 8, g 9, g 10, g 11, g 12, g 13, g 14]))] s.heap := hP
  have hl := lv_entry ([.ref x, .int a0]) (n := 5) (Nat.le_of_ble_eq_true rfl)
  rw [lg_entry_eq]
  generalize (lg_sl ([.ref x, .int a0]) ++ List.replicate (5 - (lg_sl ([.ref x, .int a0])).length) Slot.unset).toArray = ls at hl ⊢
  have hl : lv_has ls 5 [(0, .ref x), (1, .int a0)] := hl
  refine lv_aload_n hx hb dX7_rests_0 rfl (lv_at hl 0 rfl) ?_
  refine lv_iload_n hx hb dX7_rests_1 rfl (lv_at hl 1 rfl) ?_
  refine lv_iconst (v := 0) hx hb dX7_rests_2 (by decide) ?_
  refine lv_bipush (v := 9) hx hb dX7_rests_3 (by decide) ?_
  have hPc := hP.sub (ws' := [(x, .inr (7, [v 0, v 1, v 2, v 3, v 4, v 5, v 6, .ref h, v 8, v 9, v 10])), (h, .inr (0, [.int 0, g 1, g 2, g 3, g 4, g 5, g 6, g 7, g 8, g 9, g 10, g 11, g 12, g 13, g 14]))]) [0, 1] rfl
  have hDc := hD.sub (ws' := [(x, .inr (7, [v 0, v 1, v 2, v 3, v 4, v 5, v 6, .ref h, v 8, v 9, v 10])), (h, .inr (0, [.int 0, g 1, g 2, g 3, g 4, g 5, g 6, g 7, g 8, g 9, g 10, g 11, g 12, g 13, g 14]))]) [0, 1] (by decide) rfl
  have hKc := hK.sub (tys' := []) [] rfl
  have hFc := va_free (wc := [(x, .inr (7, [v 0, v 1, v 2, v 3, v 4, v 5, v 6, .ref h, v 8, v 9, v 10])), (h, .inr (0, [.int 0, g 1, g 2, g 3, g 4, g 5, g 6, g 7, g 8, g 9, g 10, g 11, g 12, g 13, g 14]))]) hD hS hA [0, 1] rfl
  refine va_calli (va_runV (As := [.int a0, .int 0, .int 9]) (rest := []) ⟨hx, hb, hml, hown, hts⟩ (c_X7_troubleOfNumber l dC dI s.heap.size x a0 0 9 v h g ) (cwV 3 hts gX7_rests_X7_troubleOfNumber rfl rfl rfl (by decide +kernel) ⟨Nat.le_of_ble_eq_true rfl, Nat.le_of_ble_eq_true rfl⟩) ⟨ax_blind (fun _ _ _ _ _ => trivial), va_recv hKc hPc (ci := 7) (q0 := 0) rfl rfl, ax_pre hPc hKc hDc (fun _ _ => trivial)⟩ rfl rfl hl.1 rfl (lv_room (Nat.le_of_ble_eq_true rfl)) dX7_rests_5 ⟨Nat.le_of_ble_eq_true rfl, Nat.le_of_ble_eq_true rfl⟩) hS (fun q _ h => hFc q h) hFc (fun r_1 u t H1 locs ht hvm hw hB hz1 hk1 hS => ?_)
  obtain ⟨hP1, hK1, hD1⟩ := hB
  rw [ht] at hP1
  have hK1 := va_K.moved hvm.symm hK1
  obtain ⟨hP, hD⟩ := va_join (wr := []) (w1 := [(x, .inr (7, [v 0, v 1, v 2, v 3, v 4, v 5, v 6, .ref h, v 8, v 9, v 10])), (h, .inr (0, [.int 0, g 1, g 2, g 3, g 4, g 5, g 6, g 7, g 8, g 9, g 10, g 11, g 12, g 13, g 14]))]) hP hD [0, 1] [] rfl rfl (by decide) (by decide) hk1 hFc hP1 hD1
  have hK := (hK.sub (tys' := []) [] rfl).app hK1
  generalize H1 = H at hP hS ⊢
  have hP : va_P (dC, dI) vwCl [(x, .inr (7, [v 0, v 1, v 2, v 3, v 4, v 5, v 6, .ref h, v 8, v 9, v 10])), (h, .inr (0, [.int 0, g 1, g 2, g 3, g 4, g 5, g 6, g 7, g 8, g 9, g 10, g 11, g 12, g 13, g 14]))] H := hP
  have hD : va_D A [(x, .inr (7, [v 0, v 1, v 2, v 3, v 4, v 5, v 6, .ref h, v 8, v 9, v 10])), (h, .inr (0, [.int 0, g 1, g 2, g 3, g 4, g 5, g 6, g 7, g 8, g 9, g 10, g 11, g 12, g 13, g 14]))] := hD
  have hK : va_K (dC, dI) vwCl [] s := hK
  have hw : r_1 = 1 := hw
  subst hw
  refine lv_istore_n (lv' := [(2, .int 1), (0, .ref x), (1, .int a0)]) hx hb dX7_rests_8 rfl hl (by decide) rfl (fun ls hl => ?_)
  refine lv_iload_n hx hb dX7_rests_9 rfl (lv_at hl 0 rfl) ?_
  refine lv_if_eq (tgt := 19) hx hb dX7_rests_10 (by decide) (fun c_2 => absurd c_2 (by decide +kernel)) (fun _ => ?_)
  refine lv_aload_n hx hb dX7_rests_13 rfl (lv_at hl 1 rfl) ?_
  refine lv_iload_n hx hb dX7_rests_14 rfl (lv_at hl 0 rfl) ?_
  have hPc := hP.sub (ws' := [(x, .inr (7, [v 0, v 1, v 2, v 3, v 4, v 5, v 6, .ref h, v 8, v 9, v 10]))]) [0] rfl
  have hDc := hD.sub (ws' := [(x, .inr (7, [v 0, v 1, v 2, v 3, v 4, v 5, v 6, .ref h, v 8, v 9, v 10]))]) [0] (by decide) rfl
  have hKc := hK.sub (tys' := []) [] rfl
  have hFc := va_free (wc := [(x, .inr (7, [v 0, v 1, v 2, v 3, v 4, v 5, v 6, .ref h, v 8, v 9, v 10]))]) hD hS hA [0] rfl
  refine va_calli (va_runV (As := [.int 1]) (rest := []) ⟨hx, hb, hml, hown, hts⟩ (c_X7_refused l dC dI H.size x 1 (fun i9 => ([v 0, v 1, v 2, v 3, v 4, v 5, v 6, .ref h, v 8, v 9, v 10] : List Value).getD i9 .null) ) (cwV 1 hts gX7_rests_X7_refused rfl rfl rfl (by decide +kernel) ⟨Nat.le_of_ble_eq_true rfl, Nat.le_of_ble_eq_true rfl⟩) ⟨ax_blind (fun _ _ _ _ _ => trivial), va_recv hKc hPc (ci := 7) (q0 := 0) rfl rfl, ax_pre hPc hKc hDc (fun _ _ => trivial)⟩ rfl rfl hl.1 rfl (lv_room (Nat.le_of_ble_eq_true rfl)) dX7_rests_15 ⟨Nat.le_of_ble_eq_true rfl, Nat.le_of_ble_eq_true rfl⟩) hS (fun q _ h => hFc q h) hFc (fun r_3 u t H1 locs ht hvm hw hB hz1 hk1 hS => ?_)
  obtain ⟨hP1, hK1, hD1⟩ := hB
  rw [ht] at hP1
  have hK1 := va_K.moved hvm.symm hK1
  obtain ⟨hP, hD⟩ := va_join (wr := [(h, .inr (0, [.int 0, g 1, g 2, g 3, g 4, g 5, g 6, g 7, g 8, g 9, g 10, g 11, g 12, g 13, g 14]))]) (w1 := []) hP hD [0] [1] rfl rfl (by decide) (by decide) hk1 hFc hP1 hD1
  have hK := (hK.sub (tys' := []) [] rfl).app hK1
  generalize H1 = H at hP hS ⊢
  have hP : va_P (dC, dI) vwCl [(h, .inr (0, [.int 0, g 1, g 2, g 3, g 4, g 5, g 6, g 7, g 8, g 9, g 10, g 11, g 12, g 13, g 14]))] H := hP
  have hD : va_D A [(h, .inr (0, [.int 0, g 1, g 2, g 3, g 4, g 5, g 6, g 7, g 8, g 9, g 10, g 11, g 12, g 13, g 14]))] := hD
  have hK : va_K (dC, dI) vwCl [] s := hK
  have hw : r_3 = (-1) := hw
  subst hw
  have hP9 := hP.sub (ws' := []) [] rfl
  have hD9 := hD.sub (ws' := []) [] (by decide) rfl
  have hK9 := hK.sub (tys' := []) [] rfl
  exact W.iret (v := (-1)) hx hb hr (fun t ht hW => ⟨⟨(-1), (), rfl, rfl, by rw [ht]; exact hP9, va_K.moved hW.alike hK9, hD9⟩, hS.F ht⟩) hS.2.2 dX7_rests_18

set_option maxHeartbeats 4000000 in
set_option maxRecDepth 100000 in
theorem c_X7_rest (l : Launch) (dC : Nat → ClassId) (dI : Nat → Nat → Nat) (sz : Nat) (x : Nat) (a0 : Int32) (v : Nat → Value) (h : Nat) (g : Nat → Value) : Met l yX7_rest wsX7_rest ({ frames := 2, cells := 0, slots := 0, locals := 43 }) (va_Pc [.ref x, .int a0] (ax_C dC dI sz [(x, .inr (7, [v 0, v 1, v 2, v 3, v 4, v 5, v 6, .ref h, v 8, v 9, v 10])), (h, .inr (0, [.int 0, g 1, g 2, g 3, g 4, g 5, g 6, g 7, g 8, g 9, g 10, g 11, g 12, g 13, g 14]))] [] (fun _ => True))) (va_Qi (fun (r : Int32) (_ : Unit) => r = -1) (fun (_ : Unit) (t : State) => ax_B dC dI (va_A [(x, .inr (7, [v 0, v 1, v 2, v 3, v 4, v 5, v 6, .ref h, v 8, v 9, v 10])), (h, .inr (0, [.int 0, g 1, g 2, g 3, g 4, g 5, g 6, g 7, g 8, g 9, g 10, g 11, g 12, g 13, g 14]))] sz) [] [] t) (va_A [(x, .inr (7, [v 0, v 1, v 2, v 3, v 4, v 5, v 6, .ref h, v 8, v 9, v 10])), (h, .inr (0, [.int 0, g 1, g 2, g 3, g 4, g 5, g 6, g 7, g 8, g 9, g 10, g 11, g 12, g 13, g 14]))] sz)) 0 0 (va_A [(x, .inr (7, [v 0, v 1, v 2, v 3, v 4, v 5, v 6, .ref h, v 8, v 9, v 10])), (h, .inr (0, [.int 0, g 1, g 2, g 3, g 4, g 5, g 6, g 7, g 8, g 9, g 10, g 11, g 12, g 13, g 14]))] sz) := by
  refine Met.ofW (cc := cX7_rest) (maxL := 4) (ret := (some .int)) (by decide) rfl ?_
  intro p e s m args below meth c s₁ B hml hv
  obtain ⟨rfl, hsz, hP, hK, hD0, hE⟩ := hv
  have hx := B.exec
  have hb := B.bytes
  have hr := B.returns
  have hts := atoms_spec (ws := wsX7_rest) B.pre
  have hown : s.vm.findClass RX7 = some m.cls := findClass_of_methodNamed B.named
  have hlocks := B.notSynchronized
  subst hsz
  have hD := hD0.self (sz := s.heap.size)
  generalize hAe : va_A [(x, .inr (7, [v 0, v 1, v 2, v 3, v 4, v 5, v 6, .ref h, v 8, v 9, v 10])), (h, .inr (0, [.int 0, g 1, g 2, g 3, g 4, g 5, g 6, g 7, g 8, g 9, g 10, g 11, g 12, g 13, g 14]))] s.heap.size = A at hD ⊢
  have hA : ∀ q : Nat, s.heap.size ≤ q → A q := fun q h => by rw [← hAe]; exact Or.inr h
  have hS : va_S A s.heap s.heap [] := va_S.rf
  have hP : va_P (dC, dI) vwCl [(x, .inr (7, [v 0, v 1, v 2, v 3, v 4, v 5, v 6, .ref h, v 8, v 9, v 10])), (h, .inr (0, [.int 0, g 1, g 2, g 3, g 4, g 5, g 6, g 7, g 8, g 9, g 10, g 11, g 12, g 13, g 14]))] s.heap := hP
  have hl := lv_entry ([.ref x, .int a0]) (n := 4) (Nat.le_of_ble_eq_true rfl)
  rw [lg_entry_eq]
  generalize (lg_sl ([.ref x, .int a0]) ++ List.replicate (4 - (lg_sl ([.ref x, .int a0])).length) Slot.unset).toArray = ls at hl ⊢
  have hl : lv_has ls 4 [(0, .ref x), (1, .int a0)] := hl
  refine lv_aload_n hx hb dX7_rest_0 rfl (lv_at hl 0 rfl) ?_
  refine lv_iload_n hx hb dX7_rest_1 rfl (lv_at hl 1 rfl) ?_
  refine lv_iconst (v := 0) hx hb dX7_rest_2 (by decide) ?_
  refine lv_bipush (v := 9) hx hb dX7_rest_3 (by decide) ?_
  have hPc := hP.sub (ws' := [(x, .inr (7, [v 0, v 1, v 2, v 3, v 4, v 5, v 6, .ref h, v 8, v 9, v 10])), (h, .inr (0, [.int 0, g 1, g 2, g 3, g 4, g 5, g 6, g 7, g 8, g 9, g 10, g 11, g 12, g 13, g 14]))]) [0, 1] rfl
  have hDc := hD.sub (ws' := [(x, .inr (7, [v 0, v 1, v 2, v 3, v 4, v 5, v 6, .ref h, v 8, v 9, v 10])), (h, .inr (0, [.int 0, g 1, g 2, g 3, g 4, g 5, g 6, g 7, g 8, g 9, g 10, g 11, g 12, g 13, g 14]))]) [0, 1] (by decide) rfl
  have hKc := hK.sub (tys' := []) [] rfl
  have hFc := va_free (wc := [(x, .inr (7, [v 0, v 1, v 2, v 3, v 4, v 5, v 6, .ref h, v 8, v 9, v 10])), (h, .inr (0, [.int 0, g 1, g 2, g 3, g 4, g 5, g 6, g 7, g 8, g 9, g 10, g 11, g 12, g 13, g 14]))]) hD hS hA [0, 1] rfl
  refine va_calli (va_runV (As := [.int a0, .int 0, .int 9]) (rest := []) ⟨hx, hb, hml, hown, hts⟩ (c_X7_troubleOfNumber l dC dI s.heap.size x a0 0 9 v h g ) (cwV 3 hts gX7_rest_X7_troubleOfNumber rfl rfl rfl (by decide +kernel) ⟨Nat.le_of_ble_eq_true rfl, Nat.le_of_ble_eq_true rfl⟩) ⟨ax_blind (fun _ _ _ _ _ => trivial), va_recv hKc hPc (ci := 7) (q0 := 0) rfl rfl, ax_pre hPc hKc hDc (fun _ _ => trivial)⟩ rfl rfl hl.1 rfl (lv_room (Nat.le_of_ble_eq_true rfl)) dX7_rest_5 ⟨Nat.le_of_ble_eq_true rfl, Nat.le_of_ble_eq_true rfl⟩) hS (fun q _ h => hFc q h) hFc (fun r_1 u t H1 locs ht hvm hw hB hz1 hk1 hS => ?_)
  obtain ⟨hP1, hK1, hD1⟩ := hB
  rw [ht] at hP1
  have hK1 := va_K.moved hvm.symm hK1
  obtain ⟨hP, hD⟩ := va_join (wr := []) (w1 := [(x, .inr (7, [v 0, v 1, v 2, v 3, v 4, v 5, v 6, .ref h, v 8, v 9, v 10])), (h, .inr (0, [.int 0, g 1, g 2, g 3, g 4, g 5, g 6, g 7, g 8, g 9, g 10, g 11, g 12, g 13, g 14]))]) hP hD [0, 1] [] rfl rfl (by decide) (by decide) hk1 hFc hP1 hD1
  have hK := (hK.sub (tys' := []) [] rfl).app hK1
  generalize H1 = H at hP hS ⊢
  have hP : va_P (dC, dI) vwCl [(x, .inr (7, [v 0, v 1, v 2, v 3, v 4, v 5, v 6, .ref h, v 8, v 9, v 10])), (h, .inr (0, [.int 0, g 1, g 2, g 3, g 4, g 5, g 6, g 7, g 8, g 9, g 10, g 11, g 12, g 13, g 14]))] H := hP
  have hD : va_D A [(x, .inr (7, [v 0, v 1, v 2, v 3, v 4, v 5, v 6, .ref h, v 8, v 9, v 10])), (h, .inr (0, [.int 0, g 1, g 2, g 3, g 4, g 5, g 6, g 7, g 8, g 9, g 10, g 11, g 12, g 13, g 14]))] := hD
  have hK : va_K (dC, dI) vwCl [] s := hK
  have hw : r_1 = 1 := hw
  subst hw
  refine lv_istore_n (lv' := [(2, .int 1), (0, .ref x), (1, .int a0)]) hx hb dX7_rest_8 rfl hl (by decide) rfl (fun ls hl => ?_)
  refine lv_iload_n hx hb dX7_rest_9 rfl (lv_at hl 0 rfl) ?_
  refine lv_if_eq (tgt := 19) hx hb dX7_rest_10 (by decide) (fun c_2 => absurd c_2 (by decide +kernel)) (fun _ => ?_)
  refine lv_aload_n hx hb dX7_rest_13 rfl (lv_at hl 1 rfl) ?_
  refine lv_iload_n hx hb dX7_rest_14 rfl (lv_at hl 0 rfl) ?_
  have hPc := hP.sub (ws' := [(x, .inr (7, [v 0, v 1, v 2, v 3, v 4, v 5, v 6, .ref h, v 8, v 9, v 10]))]) [0] rfl
  have hDc := hD.sub (ws' := [(x, .inr (7, [v 0, v 1, v 2, v 3, v 4, v 5, v 6, .ref h, v 8, v 9, v 10]))]) [0] (by decide) rfl
  have hKc := hK.sub (tys' := []) [] rfl
  have hFc := va_free (wc := [(x, .inr (7, [v 0, v 1, v 2, v 3, v 4, v 5, v 6, .ref h, v 8, v 9, v 10]))]) hD hS hA [0] rfl
  refine va_calli (va_runV (As := [.int 1]) (rest := []) ⟨hx, hb, hml, hown, hts⟩ (c_X7_refused l dC dI H.size x 1 (fun i9 => ([v 0, v 1, v 2, v 3, v 4, v 5, v 6, .ref h, v 8, v 9, v 10] : List Value).getD i9 .null) ) (cwV 1 hts gX7_rest_X7_refused rfl rfl rfl (by decide +kernel) ⟨Nat.le_of_ble_eq_true rfl, Nat.le_of_ble_eq_true rfl⟩) ⟨ax_blind (fun _ _ _ _ _ => trivial), va_recv hKc hPc (ci := 7) (q0 := 0) rfl rfl, ax_pre hPc hKc hDc (fun _ _ => trivial)⟩ rfl rfl hl.1 rfl (lv_room (Nat.le_of_ble_eq_true rfl)) dX7_rest_15 ⟨Nat.le_of_ble_eq_true rfl, Nat.le_of_ble_eq_true rfl⟩) hS (fun q _ h => hFc q h) hFc (fun r_3 u t H1 locs ht hvm hw hB hz1 hk1 hS => ?_)
  obtain ⟨hP1, hK1, hD1⟩ := hB
  rw [ht] at hP1
  have hK1 := va_K.moved hvm.symm hK1
  obtain ⟨hP, hD⟩ := va_join (wr := [(h, .inr (0, [.int 0, g 1, g 2, g 3, g 4, g 5, g 6, g 7, g 8, g 9, g 10, g 11, g 12, g 13, g 14]))]) (w1 := []) hP hD [0] [1] rfl rfl (by decide) (by decide) hk1 hFc hP1 hD1
  have hK := (hK.sub (tys' := []) [] rfl).app hK1
  generalize H1 = H at hP hS ⊢
  have hP : va_P (dC, dI) vwCl [(h, .inr (0, [.int 0, g 1, g 2, g 3, g 4, g 5, g 6, g 7, g 8, g 9, g 10, g 11, g 12, g 13, g 14]))] H := hP
  have hD : va_D A [(h, .inr (0, [.int 0, g 1, g 2, g 3, g 4, g 5, g 6, g 7, g 8, g 9, g 10, g 11, g 12, g 13, g 14]))] := hD
  have hK : va_K (dC, dI) vwCl [] s := hK
  have hw : r_3 = (-1) := hw
  subst hw
  have hP9 := hP.sub (ws' := []) [] rfl
  have hD9 := hD.sub (ws' := []) [] (by decide) rfl
  have hK9 := hK.sub (tys' := []) [] rfl
  exact W.iret (v := (-1)) hx hb hr (fun t ht hW => ⟨⟨(-1), (), rfl, rfl, by rw [ht]; exact hP9, va_K.moved hW.alike hK9, hD9⟩, hS.F ht⟩) hS.2.2 dX7_rest_18

set_option maxHeartbeats 4000000 in
set_option maxRecDepth 100000 in
theorem c_X7_drawn (l : Launch) (dC : Nat → ClassId) (dI : Nat → Nat → Nat) (sz : Nat) (x : Nat) (a0 : Int32) (a1 : Int32) (a2 : Int32) (v : Nat → Value) (h : Nat) (g : Nat → Value) : Met l yX7_drawn wsX7_drawn ({ frames := 2, cells := 0, slots := 0, locals := 43 }) (va_Pc [.ref x, .int a0, .int a1, .int a2] (ax_C dC dI sz [(x, .inr (7, [v 0, v 1, v 2, v 3, v 4, v 5, v 6, .ref h, v 8, v 9, v 10])), (h, .inr (0, [.int 0, g 1, g 2, g 3, g 4, g 5, g 6, g 7, g 8, g 9, g 10, g 11, g 12, g 13, g 14]))] [] (fun _ => True))) (va_Qi (fun (r : Int32) (_ : Unit) => r = -1) (fun (_ : Unit) (t : State) => ax_B dC dI (va_A [(x, .inr (7, [v 0, v 1, v 2, v 3, v 4, v 5, v 6, .ref h, v 8, v 9, v 10])), (h, .inr (0, [.int 0, g 1, g 2, g 3, g 4, g 5, g 6, g 7, g 8, g 9, g 10, g 11, g 12, g 13, g 14]))] sz) [] [] t) (va_A [(x, .inr (7, [v 0, v 1, v 2, v 3, v 4, v 5, v 6, .ref h, v 8, v 9, v 10])), (h, .inr (0, [.int 0, g 1, g 2, g 3, g 4, g 5, g 6, g 7, g 8, g 9, g 10, g 11, g 12, g 13, g 14]))] sz)) 0 0 (va_A [(x, .inr (7, [v 0, v 1, v 2, v 3, v 4, v 5, v 6, .ref h, v 8, v 9, v 10])), (h, .inr (0, [.int 0, g 1, g 2, g 3, g 4, g 5, g 6, g 7, g 8, g 9, g 10, g 11, g 12, g 13, g 14]))] sz) := by
  refine Met.ofW (cc := cX7_drawn) (maxL := 8) (ret := (some .int)) (by decide) rfl ?_
  intro p e s m args below meth c s₁ B hml hv
  obtain ⟨rfl, hsz, hP, hK, hD0, hE⟩ := hv
  have hx := B.exec
  have hb := B.bytes
  have hr := B.returns
  have hts := atoms_spec (ws := wsX7_drawn) B.pre
  have hown : s.vm.findClass RX7 = some m.cls := findClass_of_methodNamed B.named
  have hlocks := B.notSynchronized
  subst hsz
  have hD := hD0.self (sz := s.heap.size)
  generalize hAe : va_A [(x, .inr (7, [v 0, v 1, v 2, v 3, v 4, v 5, v 6, .ref h, v 8, v 9, v 10])), (h, .inr (0, [.int 0, g 1, g 2, g 3, g 4, g 5, g 6, g 7, g 8, g 9, g 10, g 11, g 12, g 13, g 14]))] s.heap.size = A at hD ⊢
  have hA : ∀ q : Nat, s.heap.size ≤ q → A q := fun q h => by rw [← hAe]; exact Or.inr h
  have hS : va_S A s.heap s.heap [] := va_S.rf
  have hP : va_P (dC, dI) vwCl [(x, .inr (7, [v 0, v 1, v 2, v 3, v 4, v 5, v 6, .ref h, v 8, v 9, v 10])), (h, .inr (0, [.int 0, g 1, g 2, g 3, g 4, g 5, g 6, g 7, g 8, g 9, g 10, g 11, g 12, g 13, g 14]))] s.heap := hP
  have hl := lv_entry ([.ref x, .int a0, .int a1, .int a2]) (n := 8) (Nat.le_of_ble_eq_true rfl)
  rw [lg_entry_eq]
  generalize (lg_sl ([.ref x, .int a0, .int a1, .int a2]) ++ List.replicate (8 - (lg_sl ([.ref x, .int a0, .int a1, .int a2])).length) Slot.unset).toArray = ls at hl ⊢
  have hl : lv_has ls 8 [(0, .ref x), (1, .int a0), (2, .int a1), (3, .int a2)] := hl
  refine lv_aload_n hx hb dX7_drawn_0 rfl (lv_at hl 0 rfl) ?_
  refine lv_iload_n hx hb dX7_drawn_1 rfl (lv_at hl 1 rfl) ?_
  have hPc := hP.sub (ws' := [(x, .inr (7, [v 0, v 1, v 2, v 3, v 4, v 5, v 6, .ref h, v 8, v 9, v 10])), (h, .inr (0, [.int 0, g 1, g 2, g 3, g 4, g 5, g 6, g 7, g 8, g 9, g 10, g 11, g 12, g 13, g 14]))]) [0, 1] rfl
  have hDc := hD.sub (ws' := [(x, .inr (7, [v 0, v 1, v 2, v 3, v 4, v 5, v 6, .ref h, v 8, v 9, v 10])), (h, .inr (0, [.int 0, g 1, g 2, g 3, g 4, g 5, g 6, g 7, g 8, g 9, g 10, g 11, g 12, g 13, g 14]))]) [0, 1] (by decide) rfl
  have hKc := hK.sub (tys' := []) [] rfl
  have hFc := va_free (wc := [(x, .inr (7, [v 0, v 1, v 2, v 3, v 4, v 5, v 6, .ref h, v 8, v 9, v 10])), (h, .inr (0, [.int 0, g 1, g 2, g 3, g 4, g 5, g 6, g 7, g 8, g 9, g 10, g 11, g 12, g 13, g 14]))]) hD hS hA [0, 1] rfl
  refine va_calli (va_runV (As := [.int a0]) (rest := []) ⟨hx, hb, hml, hown, hts⟩ (c_X7_isFigure l dC dI s.heap.size x a0 v h g ) (cwV 1 hts gX7_drawn_X7_isFigure rfl rfl rfl (by decide +kernel) ⟨Nat.le_of_ble_eq_true rfl, Nat.le_of_ble_eq_true rfl⟩) ⟨ax_blind (fun _ _ _ _ _ => trivial), va_recv hKc hPc (ci := 7) (q0 := 0) rfl rfl, ax_pre hPc hKc hDc (fun _ _ => trivial)⟩ rfl rfl hl.1 rfl (lv_room (Nat.le_of_ble_eq_true rfl)) dX7_drawn_2 ⟨Nat.le_of_ble_eq_true rfl, Nat.le_of_ble_eq_true rfl⟩) hS (fun q _ h => hFc q h) hFc (fun r_1 u t H1 locs ht hvm hw hB hz1 hk1 hS => ?_)
  obtain ⟨hP1, hK1, hD1⟩ := hB
  rw [ht] at hP1
  have hK1 := va_K.moved hvm.symm hK1
  obtain ⟨hP, hD⟩ := va_join (wr := []) (w1 := [(x, .inr (7, [v 0, v 1, v 2, v 3, v 4, v 5, v 6, .ref h, v 8, v 9, v 10])), (h, .inr (0, [.int 0, g 1, g 2, g 3, g 4, g 5, g 6, g 7, g 8, g 9, g 10, g 11, g 12, g 13, g 14]))]) hP hD [0, 1] [] rfl rfl (by decide) (by decide) hk1 hFc hP1 hD1
  have hK := (hK.sub (tys' := []) [] rfl).app hK1
  generalize H1 = H at hP hS ⊢
  have hP : va_P (dC, dI) vwCl [(x, .inr (7, [v 0, v 1, v 2, v 3, v 4, v 5, v 6, .ref h, v 8, v 9, v 10])), (h, .inr (0, [.int 0, g 1, g 2, g 3, g 4, g 5, g 6, g 7, g 8, g 9, g 10, g 11, g 12, g 13, g 14]))] H := hP
  have hD : va_D A [(x, .inr (7, [v 0, v 1, v 2, v 3, v 4, v 5, v 6, .ref h, v 8, v 9, v 10])), (h, .inr (0, [.int 0, g 1, g 2, g 3, g 4, g 5, g 6, g 7, g 8, g 9, g 10, g 11, g 12, g 13, g 14]))] := hD
  have hK : va_K (dC, dI) vwCl [] s := hK
  have hw : r_1 = 0 := hw
  subst hw
  refine lv_if_ne (tgt := 14) hx hb dX7_drawn_5 (by decide) (fun c_2 => absurd (by decide +kernel) c_2) (fun _ => ?_)
  refine lv_aload_n hx hb dX7_drawn_8 rfl (lv_at hl 0 rfl) ?_
  refine lv_iconst (v := 1) hx hb dX7_drawn_9 (by decide) ?_
  have hPc := hP.sub (ws' := [(x, .inr (7, [v 0, v 1, v 2, v 3, v 4, v 5, v 6, .ref h, v 8, v 9, v 10]))]) [0] rfl
  have hDc := hD.sub (ws' := [(x, .inr (7, [v 0, v 1, v 2, v 3, v 4, v 5, v 6, .ref h, v 8, v 9, v 10]))]) [0] (by decide) rfl
  have hKc := hK.sub (tys' := []) [] rfl
  have hFc := va_free (wc := [(x, .inr (7, [v 0, v 1, v 2, v 3, v 4, v 5, v 6, .ref h, v 8, v 9, v 10]))]) hD hS hA [0] rfl
  refine va_calli (va_runV (As := [.int 1]) (rest := []) ⟨hx, hb, hml, hown, hts⟩ (c_X7_refused l dC dI H.size x 1 (fun i9 => ([v 0, v 1, v 2, v 3, v 4, v 5, v 6, .ref h, v 8, v 9, v 10] : List Value).getD i9 .null) ) (cwV 1 hts gX7_drawn_X7_refused rfl rfl rfl (by decide +kernel) ⟨Nat.le_of_ble_eq_true rfl, Nat.le_of_ble_eq_true rfl⟩) ⟨ax_blind (fun _ _ _ _ _ => trivial), va_recv hKc hPc (ci := 7) (q0 := 0) rfl rfl, ax_pre hPc hKc hDc (fun _ _ => trivial)⟩ rfl rfl hl.1 rfl (lv_room (Nat.le_of_ble_eq_true rfl)) dX7_drawn_10 ⟨Nat.le_of_ble_eq_true rfl, Nat.le_of_ble_eq_true rfl⟩) hS (fun q _ h => hFc q h) hFc (fun r_3 u t H1 locs ht hvm hw hB hz1 hk1 hS => ?_)
  obtain ⟨hP1, hK1, hD1⟩ := hB
  rw [ht] at hP1
  have hK1 := va_K.moved hvm.symm hK1
  obtain ⟨hP, hD⟩ := va_join (wr := [(h, .inr (0, [.int 0, g 1, g 2, g 3, g 4, g 5, g 6, g 7, g 8, g 9, g 10, g 11, g 12, g 13, g 14]))]) (w1 := []) hP hD [0] [1] rfl rfl (by decide) (by decide) hk1 hFc hP1 hD1
  have hK := (hK.sub (tys' := []) [] rfl).app hK1
  generalize H1 = H at hP hS ⊢
  have hP : va_P (dC, dI) vwCl [(h, .inr (0, [.int 0, g 1, g 2, g 3, g 4, g 5, g 6, g 7, g 8, g 9, g 10, g 11, g 12, g 13, g 14]))] H := hP
  have hD : va_D A [(h, .inr (0, [.int 0, g 1, g 2, g 3, g 4, g 5, g 6, g 7, g 8, g 9, g 10, g 11, g 12, g 13, g 14]))] := hD
  have hK : va_K (dC, dI) vwCl [] s := hK
  have hw : r_3 = (-1) := hw
  subst hw
  have hP9 := hP.sub (ws' := []) [] rfl
  have hD9 := hD.sub (ws' := []) [] (by decide) rfl
  have hK9 := hK.sub (tys' := []) [] rfl
  exact W.iret (v := (-1)) hx hb hr (fun t ht hW => ⟨⟨(-1), (), rfl, rfl, by rw [ht]; exact hP9, va_K.moved hW.alike hK9, hD9⟩, hS.F ht⟩) hS.2.2 dX7_drawn_13

set_option maxHeartbeats 4000000 in
set_option maxRecDepth 100000 in
theorem c_X7_firstShut (l : Launch) (dC : Nat → ClassId) (dI : Nat → Nat → Nat) (sz : Nat) (x : Nat) (a0 : Int32) (a1 : Int32) (v : Nat → Value) (h : Nat) (g : Nat → Value) : Met l yX7_firstShut wsX7_firstShut ({ frames := 1, cells := 0, slots := 0, locals := 21 }) (va_Pc [.ref x, .int a0, .int a1] (ax_C dC dI sz [(x, .inr (7, [v 0, v 1, v 2, v 3, v 4, v 5, v 6, .ref h, v 8, v 9, v 10])), (h, .inr (0, [.int 0, g 1, g 2, g 3, g 4, g 5, g 6, g 7, g 8, g 9, g 10, g 11, g 12, g 13, g 14]))] [] (fun _ => True))) (va_Qi (fun (r : Int32) (_ : Unit) => r = -1) (fun (_ : Unit) (t : State) => ax_B dC dI (va_A [(x, .inr (7, [v 0, v 1, v 2, v 3, v 4, v 5, v 6, .ref h, v 8, v 9, v 10])), (h, .inr (0, [.int 0, g 1, g 2, g 3, g 4, g 5, g 6, g 7, g 8, g 9, g 10, g 11, g 12, g 13, g 14]))] sz) [] [] t) (va_A [(x, .inr (7, [v 0, v 1, v 2, v 3, v 4, v 5, v 6, .ref h, v 8, v 9, v 10])), (h, .inr (0, [.int 0, g 1, g 2, g 3, g 4, g 5, g 6, g 7, g 8, g 9, g 10, g 11, g 12, g 13, g 14]))] sz)) 0 0 (va_A [(x, .inr (7, [v 0, v 1, v 2, v 3, v 4, v 5, v 6, .ref h, v 8, v 9, v 10])), (h, .inr (0, [.int 0, g 1, g 2, g 3, g 4, g 5, g 6, g 7, g 8, g 9, g 10, g 11, g 12, g 13, g 14]))] sz) := by
  refine Met.ofW (cc := cX7_firstShut) (maxL := 5) (ret := (some .int)) (by decide) rfl ?_
  intro p e s m args below meth c s₁ B hml hv
  obtain ⟨rfl, hsz, hP, hK, hD0, hE⟩ := hv
  have hx := B.exec
  have hb := B.bytes
  have hr := B.returns
  have hts := atoms_spec (ws := wsX7_firstShut) B.pre
  have hown : s.vm.findClass RX7 = some m.cls := findClass_of_methodNamed B.named
  have hlocks := B.notSynchronized
  subst hsz
  have hD := hD0.self (sz := s.heap.size)
  generalize hAe : va_A [(x, .inr (7, [v 0, v 1, v 2, v 3, v 4, v 5, v 6, .ref h, v 8, v 9, v 10])), (h, .inr (0, [.int 0, g 1, g 2, g 3, g 4, g 5, g 6, g 7, g 8, g 9, g 10, g 11, g 12, g 13, g 14]))] s.heap.size = A at hD ⊢
  have hA : ∀ q : Nat, s.heap.size ≤ q → A q := fun q h => by rw [← hAe]; exact Or.inr h
  have hS : va_S A s.heap s.heap [] := va_S.rf
  have hP : va_P (dC, dI) vwCl [(x, .inr (7, [v 0, v 1, v 2, v 3, v 4, v 5, v 6, .ref h, v 8, v 9, v 10])), (h, .inr (0, [.int 0, g 1, g 2, g 3, g 4, g 5, g 6, g 7, g 8, g 9, g 10, g 11, g 12, g 13, g 14]))] s.heap := hP
  have hl := lv_entry ([.ref x, .int a0, .int a1]) (n := 5) (Nat.le_of_ble_eq_true rfl)
  rw [lg_entry_eq]
  generalize (lg_sl ([.ref x, .int a0, .int a1]) ++ List.replicate (5 - (lg_sl ([.ref x, .int a0, .int a1])).length) Slot.unset).toArray = ls at hl ⊢
  have hl : lv_has ls 5 [(0, .ref x), (1, .int a0), (2, .int a1)] := hl
  refine lv_aload_n hx hb dX7_firstShut_0 rfl (lv_at hl 0 rfl) ?_
  have hPc := hP.sub (ws' := [(x, .inr (7, [v 0, v 1, v 2, v 3, v 4, v 5, v 6, .ref h, v 8, v 9, v 10])), (h, .inr (0, [.int 0, g 1, g 2, g 3, g 4, g 5, g 6, g 7, g 8, g 9, g 10, g 11, g 12, g 13, g 14]))]) [0, 1] rfl
  have hDc := hD.sub (ws' := [(x, .inr (7, [v 0, v 1, v 2, v 3, v 4, v 5, v 6, .ref h, v 8, v 9, v 10])), (h, .inr (0, [.int 0, g 1, g 2, g 3, g 4, g 5, g 6, g 7, g 8, g 9, g 10, g 11, g 12, g 13, g 14]))]) [0, 1] (by decide) rfl
  have hKc := hK.sub (tys' := []) [] rfl
  have hFc := va_free (wc := [(x, .inr (7, [v 0, v 1, v 2, v 3, v 4, v 5, v 6, .ref h, v 8, v 9, v 10])), (h, .inr (0, [.int 0, g 1, g 2, g 3, g 4, g 5, g 6, g 7, g 8, g 9, g 10, g 11, g 12, g 13, g 14]))]) hD hS hA [0, 1] rfl
  refine va_calli (va_runV (As := []) (rest := []) ⟨hx, hb, hml, hown, hts⟩ (c_X7_hasGallery l dC dI s.heap.size x v h g ) (cwV 0 hts gX7_firstShut_X7_hasGallery rfl rfl rfl (by decide +kernel) ⟨Nat.le_of_ble_eq_true rfl, Nat.le_of_ble_eq_true rfl⟩) ⟨ax_blind (fun _ _ _ _ _ => trivial), va_recv hKc hPc (ci := 7) (q0 := 0) rfl rfl, ax_pre hPc hKc hDc (fun _ _ => trivial)⟩ rfl rfl hl.1 rfl (lv_room (Nat.le_of_ble_eq_true rfl)) dX7_firstShut_1 ⟨Nat.le_of_ble_eq_true rfl, Nat.le_of_ble_eq_true rfl⟩) hS (fun q _ h => hFc q h) hFc (fun r_1 u t H1 locs ht hvm hw hB hz1 hk1 hS => ?_)
  obtain ⟨hP1, hK1, hD1⟩ := hB
  rw [ht] at hP1
  have hK1 := va_K.moved hvm.symm hK1
  obtain ⟨hP, hD⟩ := va_join (wr := []) (w1 := [(x, .inr (7, [v 0, v 1, v 2, v 3, v 4, v 5, v 6, .ref h, v 8, v 9, v 10])), (h, .inr (0, [.int 0, g 1, g 2, g 3, g 4, g 5, g 6, g 7, g 8, g 9, g 10, g 11, g 12, g 13, g 14]))]) hP hD [0, 1] [] rfl rfl (by decide) (by decide) hk1 hFc hP1 hD1
  have hK := (hK.sub (tys' := []) [] rfl).app hK1
  generalize H1 = H at hP hS ⊢
  have hP : va_P (dC, dI) vwCl [(x, .inr (7, [v 0, v 1, v 2, v 3, v 4, v 5, v 6, .ref h, v 8, v 9, v 10])), (h, .inr (0, [.int 0, g 1, g 2, g 3, g 4, g 5, g 6, g 7, g 8, g 9, g 10, g 11, g 12, g 13, g 14]))] H := hP
  have hD : va_D A [(x, .inr (7, [v 0, v 1, v 2, v 3, v 4, v 5, v 6, .ref h, v 8, v 9, v 10])), (h, .inr (0, [.int 0, g 1, g 2, g 3, g 4, g 5, g 6, g 7, g 8, g 9, g 10, g 11, g 12, g 13, g 14]))] := hD
  have hK : va_K (dC, dI) vwCl [] s := hK
  have hw : r_1 = 0 := hw
  subst hw
  refine lv_if_ne (tgt := 13) hx hb dX7_firstShut_4 (by decide) (fun c_2 => absurd (by decide +kernel) c_2) (fun _ => ?_)
  refine lv_aload_n hx hb dX7_firstShut_7 rfl (lv_at hl 0 rfl) ?_
  refine lv_iconst (v := 1) hx hb dX7_firstShut_8 (by decide) ?_
  have hPc := hP.sub (ws' := [(x, .inr (7, [v 0, v 1, v 2, v 3, v 4, v 5, v 6, .ref h, v 8, v 9, v 10]))]) [0] rfl
  have hDc := hD.sub (ws' := [(x, .inr (7, [v 0, v 1, v 2, v 3, v 4, v 5, v 6, .ref h, v 8, v 9, v 10]))]) [0] (by decide) rfl
  have hKc := hK.sub (tys' := []) [] rfl
  have hFc := va_free (wc := [(x, .inr (7, [v 0, v 1, v 2, v 3, v 4, v 5, v 6, .ref h, v 8, v 9, v 10]))]) hD hS hA [0] rfl
  refine va_calli (va_runV (As := [.int 1]) (rest := []) ⟨hx, hb, hml, hown, hts⟩ (c_X7_refused l dC dI H.size x 1 (fun i9 => ([v 0, v 1, v 2, v 3, v 4, v 5, v 6, .ref h, v 8, v 9, v 10] : List Value).getD i9 .null) ) (cwV 1 hts gX7_firstShut_X7_refused rfl rfl rfl (by decide +kernel) ⟨Nat.le_of_ble_eq_true rfl, Nat.le_of_ble_eq_true rfl⟩) ⟨ax_blind (fun _ _ _ _ _ => trivial), va_recv hKc hPc (ci := 7) (q0 := 0) rfl rfl, ax_pre hPc hKc hDc (fun _ _ => trivial)⟩ rfl rfl hl.1 rfl (lv_room (Nat.le_of_ble_eq_true rfl)) dX7_firstShut_9 ⟨Nat.le_of_ble_eq_true rfl, Nat.le_of_ble_eq_true rfl⟩) hS (fun q _ h => hFc q h) hFc (fun r_3 u t H1 locs ht hvm hw hB hz1 hk1 hS => ?_)
  obtain ⟨hP1, hK1, hD1⟩ := hB
  rw [ht] at hP1
  have hK1 := va_K.moved hvm.symm hK1
  obtain ⟨hP, hD⟩ := va_join (wr := [(h, .inr (0, [.int 0, g 1, g 2, g 3, g 4, g 5, g 6, g 7, g 8, g 9, g 10, g 11, g 12, g 13, g 14]))]) (w1 := []) hP hD [0] [1] rfl rfl (by decide) (by decide) hk1 hFc hP1 hD1
  have hK := (hK.sub (tys' := []) [] rfl).app hK1
  generalize H1 = H at hP hS ⊢
  have hP : va_P (dC, dI) vwCl [(h, .inr (0, [.int 0, g 1, g 2, g 3, g 4, g 5, g 6, g 7, g 8, g 9, g 10, g 11, g 12, g 13, g 14]))] H := hP
  have hD : va_D A [(h, .inr (0, [.int 0, g 1, g 2, g 3, g 4, g 5, g 6, g 7, g 8, g 9, g 10, g 11, g 12, g 13, g 14]))] := hD
  have hK : va_K (dC, dI) vwCl [] s := hK
  have hw : r_3 = (-1) := hw
  subst hw
  have hP9 := hP.sub (ws' := []) [] rfl
  have hD9 := hD.sub (ws' := []) [] (by decide) rfl
  have hK9 := hK.sub (tys' := []) [] rfl
  exact W.iret (v := (-1)) hx hb hr (fun t ht hW => ⟨⟨(-1), (), rfl, rfl, by rw [ht]; exact hP9, va_K.moved hW.alike hK9, hD9⟩, hS.F ht⟩) hS.2.2 dX7_firstShut_12

set_option maxHeartbeats 4000000 in
set_option maxRecDepth 100000 in
theorem c_X7_go (l : Launch) (dC : Nat → ClassId) (dI : Nat → Nat → Nat) (sz : Nat) (x : Nat) (a0 : Int32) (v : Nat → Value) (h : Nat) (g : Nat → Value) : Met l yX7_go wsX7_go ({ frames := 2, cells := 0, slots := 0, locals := 43 }) (va_Pc [.ref x, .int a0] (ax_C dC dI sz [(x, .inr (7, [v 0, v 1, v 2, v 3, v 4, v 5, v 6, .ref h, v 8, v 9, v 10])), (h, .inr (0, [.int 0, g 1, g 2, g 3, g 4, g 5, g 6, g 7, g 8, g 9, g 10, g 11, g 12, g 13, g 14]))] [] (fun _ => True))) (va_Qi (fun (r : Int32) (_ : Unit) => r = -1) (fun (_ : Unit) (t : State) => ax_B dC dI (va_A [(x, .inr (7, [v 0, v 1, v 2, v 3, v 4, v 5, v 6, .ref h, v 8, v 9, v 10])), (h, .inr (0, [.int 0, g 1, g 2, g 3, g 4, g 5, g 6, g 7, g 8, g 9, g 10, g 11, g 12, g 13, g 14]))] sz) [] [] t) (va_A [(x, .inr (7, [v 0, v 1, v 2, v 3, v 4, v 5, v 6, .ref h, v 8, v 9, v 10])), (h, .inr (0, [.int 0, g 1, g 2, g 3, g 4, g 5, g 6, g 7, g 8, g 9, g 10, g 11, g 12, g 13, g 14]))] sz)) 0 0 (va_A [(x, .inr (7, [v 0, v 1, v 2, v 3, v 4, v 5, v 6, .ref h, v 8, v 9, v 10])), (h, .inr (0, [.int 0, g 1, g 2, g 3, g 4, g 5, g 6, g 7, g 8, g 9, g 10, g 11, g 12, g 13, g 14]))] sz) := by
  refine Met.ofW (cc := cX7_go) (maxL := 5) (ret := (some .int)) (by decide) rfl ?_
  intro p e s m args below meth c s₁ B hml hv
  obtain ⟨rfl, hsz, hP, hK, hD0, hE⟩ := hv
  have hx := B.exec
  have hb := B.bytes
  have hr := B.returns
  have hts := atoms_spec (ws := wsX7_go) B.pre
  have hown : s.vm.findClass RX7 = some m.cls := findClass_of_methodNamed B.named
  have hlocks := B.notSynchronized
  subst hsz
  have hD := hD0.self (sz := s.heap.size)
  generalize hAe : va_A [(x, .inr (7, [v 0, v 1, v 2, v 3, v 4, v 5, v 6, .ref h, v 8, v 9, v 10])), (h, .inr (0, [.int 0, g 1, g 2, g 3, g 4, g 5, g 6, g 7, g 8, g 9, g 10, g 11, g 12, g 13, g 14]))] s.heap.size = A at hD ⊢
  have hA : ∀ q : Nat, s.heap.size ≤ q → A q := fun q h => by rw [← hAe]; exact Or.inr h
  have hS : va_S A s.heap s.heap [] := va_S.rf
  have hP : va_P (dC, dI) vwCl [(x, .inr (7, [v 0, v 1, v 2, v 3, v 4, v 5, v 6, .ref h, v 8, v 9, v 10])), (h, .inr (0, [.int 0, g 1, g 2, g 3, g 4, g 5, g 6, g 7, g 8, g 9, g 10, g 11, g 12, g 13, g 14]))] s.heap := hP
  have hl := lv_entry ([.ref x, .int a0]) (n := 5) (Nat.le_of_ble_eq_true rfl)
  rw [lg_entry_eq]
  generalize (lg_sl ([.ref x, .int a0]) ++ List.replicate (5 - (lg_sl ([.ref x, .int a0])).length) Slot.unset).toArray = ls at hl ⊢
  have hl : lv_has ls 5 [(0, .ref x), (1, .int a0)] := hl
  refine lv_aload_n hx hb dX7_go_0 rfl (lv_at hl 0 rfl) ?_
  refine lv_iload_n hx hb dX7_go_1 rfl (lv_at hl 1 rfl) ?_
  refine lv_iconst (v := 1) hx hb dX7_go_2 (by decide) ?_
  refine lv_bipush (v := 60) hx hb dX7_go_3 (by decide) ?_
  have hPc := hP.sub (ws' := [(x, .inr (7, [v 0, v 1, v 2, v 3, v 4, v 5, v 6, .ref h, v 8, v 9, v 10])), (h, .inr (0, [.int 0, g 1, g 2, g 3, g 4, g 5, g 6, g 7, g 8, g 9, g 10, g 11, g 12, g 13, g 14]))]) [0, 1] rfl
  have hDc := hD.sub (ws' := [(x, .inr (7, [v 0, v 1, v 2, v 3, v 4, v 5, v 6, .ref h, v 8, v 9, v 10])), (h, .inr (0, [.int 0, g 1, g 2, g 3, g 4, g 5, g 6, g 7, g 8, g 9, g 10, g 11, g 12, g 13, g 14]))]) [0, 1] (by decide) rfl
  have hKc := hK.sub (tys' := []) [] rfl
  have hFc := va_free (wc := [(x, .inr (7, [v 0, v 1, v 2, v 3, v 4, v 5, v 6, .ref h, v 8, v 9, v 10])), (h, .inr (0, [.int 0, g 1, g 2, g 3, g 4, g 5, g 6, g 7, g 8, g 9, g 10, g 11, g 12, g 13, g 14]))]) hD hS hA [0, 1] rfl
  refine va_calli (va_runV (As := [.int a0, .int 1, .int 60]) (rest := []) ⟨hx, hb, hml, hown, hts⟩ (c_X7_troubleOfNumber l dC dI s.heap.size x a0 1 60 v h g ) (cwV 3 hts gX7_go_X7_troubleOfNumber rfl rfl rfl (by decide +kernel) ⟨Nat.le_of_ble_eq_true rfl, Nat.le_of_ble_eq_true rfl⟩) ⟨ax_blind (fun _ _ _ _ _ => trivial), va_recv hKc hPc (ci := 7) (q0 := 0) rfl rfl, ax_pre hPc hKc hDc (fun _ _ => trivial)⟩ rfl rfl hl.1 rfl (lv_room (Nat.le_of_ble_eq_true rfl)) dX7_go_5 ⟨Nat.le_of_ble_eq_true rfl, Nat.le_of_ble_eq_true rfl⟩) hS (fun q _ h => hFc q h) hFc (fun r_1 u t H1 locs ht hvm hw hB hz1 hk1 hS => ?_)
  obtain ⟨hP1, hK1, hD1⟩ := hB
  rw [ht] at hP1
  have hK1 := va_K.moved hvm.symm hK1
  obtain ⟨hP, hD⟩ := va_join (wr := []) (w1 := [(x, .inr (7, [v 0, v 1, v 2, v 3, v 4, v 5, v 6, .ref h, v 8, v 9, v 10])), (h, .inr (0, [.int 0, g 1, g 2, g 3, g 4, g 5, g 6, g 7, g 8, g 9, g 10, g 11, g 12, g 13, g 14]))]) hP hD [0, 1] [] rfl rfl (by decide) (by decide) hk1 hFc hP1 hD1
  have hK := (hK.sub (tys' := []) [] rfl).app hK1
  generalize H1 = H at hP hS ⊢
  have hP : va_P (dC, dI) vwCl [(x, .inr (7, [v 0, v 1, v 2, v 3, v 4, v 5, v 6, .ref h, v 8, v 9, v 10])), (h, .inr (0, [.int 0, g 1, g 2, g 3, g 4, g 5, g 6, g 7, g 8, g 9, g 10, g 11, g 12, g 13, g 14]))] H := hP
  have hD : va_D A [(x, .inr (7, [v 0, v 1, v 2, v 3, v 4, v 5, v 6, .ref h, v 8, v 9, v 10])), (h, .inr (0, [.int 0, g 1, g 2, g 3, g 4, g 5, g 6, g 7, g 8, g 9, g 10, g 11, g 12, g 13, g 14]))] := hD
  have hK : va_K (dC, dI) vwCl [] s := hK
  have hw : r_1 = 1 := hw
  subst hw
  refine lv_istore_n (lv' := [(2, .int 1), (0, .ref x), (1, .int a0)]) hx hb dX7_go_8 rfl hl (by decide) rfl (fun ls hl => ?_)
  refine lv_iload_n hx hb dX7_go_9 rfl (lv_at hl 0 rfl) ?_
  refine lv_if_eq (tgt := 19) hx hb dX7_go_10 (by decide) (fun c_2 => absurd c_2 (by decide +kernel)) (fun _ => ?_)
  refine lv_aload_n hx hb dX7_go_13 rfl (lv_at hl 1 rfl) ?_
  refine lv_iload_n hx hb dX7_go_14 rfl (lv_at hl 0 rfl) ?_
  have hPc := hP.sub (ws' := [(x, .inr (7, [v 0, v 1, v 2, v 3, v 4, v 5, v 6, .ref h, v 8, v 9, v 10]))]) [0] rfl
  have hDc := hD.sub (ws' := [(x, .inr (7, [v 0, v 1, v 2, v 3, v 4, v 5, v 6, .ref h, v 8, v 9, v 10]))]) [0] (by decide) rfl
  have hKc := hK.sub (tys' := []) [] rfl
  have hFc := va_free (wc := [(x, .inr (7, [v 0, v 1, v 2, v 3, v 4, v 5, v 6, .ref h, v 8, v 9, v 10]))]) hD hS hA [0] rfl
  refine va_calli (va_runV (As := [.int 1]) (rest := []) ⟨hx, hb, hml, hown, hts⟩ (c_X7_refused l dC dI H.size x 1 (fun i9 => ([v 0, v 1, v 2, v 3, v 4, v 5, v 6, .ref h, v 8, v 9, v 10] : List Value).getD i9 .null) ) (cwV 1 hts gX7_go_X7_refused rfl rfl rfl (by decide +kernel) ⟨Nat.le_of_ble_eq_true rfl, Nat.le_of_ble_eq_true rfl⟩) ⟨ax_blind (fun _ _ _ _ _ => trivial), va_recv hKc hPc (ci := 7) (q0 := 0) rfl rfl, ax_pre hPc hKc hDc (fun _ _ => trivial)⟩ rfl rfl hl.1 rfl (lv_room (Nat.le_of_ble_eq_true rfl)) dX7_go_15 ⟨Nat.le_of_ble_eq_true rfl, Nat.le_of_ble_eq_true rfl⟩) hS (fun q _ h => hFc q h) hFc (fun r_3 u t H1 locs ht hvm hw hB hz1 hk1 hS => ?_)
  obtain ⟨hP1, hK1, hD1⟩ := hB
  rw [ht] at hP1
  have hK1 := va_K.moved hvm.symm hK1
  obtain ⟨hP, hD⟩ := va_join (wr := [(h, .inr (0, [.int 0, g 1, g 2, g 3, g 4, g 5, g 6, g 7, g 8, g 9, g 10, g 11, g 12, g 13, g 14]))]) (w1 := []) hP hD [0] [1] rfl rfl (by decide) (by decide) hk1 hFc hP1 hD1
  have hK := (hK.sub (tys' := []) [] rfl).app hK1
  generalize H1 = H at hP hS ⊢
  have hP : va_P (dC, dI) vwCl [(h, .inr (0, [.int 0, g 1, g 2, g 3, g 4, g 5, g 6, g 7, g 8, g 9, g 10, g 11, g 12, g 13, g 14]))] H := hP
  have hD : va_D A [(h, .inr (0, [.int 0, g 1, g 2, g 3, g 4, g 5, g 6, g 7, g 8, g 9, g 10, g 11, g 12, g 13, g 14]))] := hD
  have hK : va_K (dC, dI) vwCl [] s := hK
  have hw : r_3 = (-1) := hw
  subst hw
  have hP9 := hP.sub (ws' := []) [] rfl
  have hD9 := hD.sub (ws' := []) [] (by decide) rfl
  have hK9 := hK.sub (tys' := []) [] rfl
  exact W.iret (v := (-1)) hx hb hr (fun t ht hW => ⟨⟨(-1), (), rfl, rfl, by rw [ht]; exact hP9, va_K.moved hW.alike hK9, hD9⟩, hS.F ht⟩) hS.2.2 dX7_go_18

set_option maxHeartbeats 4000000 in
set_option maxRecDepth 100000 in
theorem c_X7_put (l : Launch) (dC : Nat → ClassId) (dI : Nat → Nat → Nat) (sz : Nat) (x : Nat) (a0 : Int32) (v : Nat → Value) (h : Nat) (g : Nat → Value) : Met l yX7_put wsX7_put ({ frames := 2, cells := 0, slots := 0, locals := 43 }) (va_Pc [.ref x, .int a0] (ax_C dC dI sz [(x, .inr (7, [v 0, v 1, v 2, v 3, v 4, v 5, v 6, .ref h, v 8, v 9, v 10])), (h, .inr (0, [.int 0, g 1, g 2, g 3, g 4, g 5, g 6, g 7, g 8, g 9, g 10, g 11, g 12, g 13, g 14]))] [] (fun _ => True))) (va_Qi (fun (r : Int32) (_ : Unit) => r = -1) (fun (_ : Unit) (t : State) => ax_B dC dI (va_A [(x, .inr (7, [v 0, v 1, v 2, v 3, v 4, v 5, v 6, .ref h, v 8, v 9, v 10])), (h, .inr (0, [.int 0, g 1, g 2, g 3, g 4, g 5, g 6, g 7, g 8, g 9, g 10, g 11, g 12, g 13, g 14]))] sz) [] [] t) (va_A [(x, .inr (7, [v 0, v 1, v 2, v 3, v 4, v 5, v 6, .ref h, v 8, v 9, v 10])), (h, .inr (0, [.int 0, g 1, g 2, g 3, g 4, g 5, g 6, g 7, g 8, g 9, g 10, g 11, g 12, g 13, g 14]))] sz)) 0 0 (va_A [(x, .inr (7, [v 0, v 1, v 2, v 3, v 4, v 5, v 6, .ref h, v 8, v 9, v 10])), (h, .inr (0, [.int 0, g 1, g 2, g 3, g 4, g 5, g 6, g 7, g 8, g 9, g 10, g 11, g 12, g 13, g 14]))] sz) := by
  refine Met.ofW (cc := cX7_put) (maxL := 3) (ret := (some .int)) (by decide) rfl ?_
  intro p e s m args below meth c s₁ B hml hv
  obtain ⟨rfl, hsz, hP, hK, hD0, hE⟩ := hv
  have hx := B.exec
  have hb := B.bytes
  have hr := B.returns
  have hts := atoms_spec (ws := wsX7_put) B.pre
  have hown : s.vm.findClass RX7 = some m.cls := findClass_of_methodNamed B.named
  have hlocks := B.notSynchronized
  subst hsz
  have hD := hD0.self (sz := s.heap.size)
  generalize hAe : va_A [(x, .inr (7, [v 0, v 1, v 2, v 3, v 4, v 5, v 6, .ref h, v 8, v 9, v 10])), (h, .inr (0, [.int 0, g 1, g 2, g 3, g 4, g 5, g 6, g 7, g 8, g 9, g 10, g 11, g 12, g 13, g 14]))] s.heap.size = A at hD ⊢
  have hA : ∀ q : Nat, s.heap.size ≤ q → A q := fun q h => by rw [← hAe]; exact Or.inr h
  have hS : va_S A s.heap s.heap [] := va_S.rf
  have hP : va_P (dC, dI) vwCl [(x, .inr (7, [v 0, v 1, v 2, v 3, v 4, v 5, v 6, .ref h, v 8, v 9, v 10])), (h, .inr (0, [.int 0, g 1, g 2, g 3, g 4, g 5, g 6, g 7, g 8, g 9, g 10, g 11, g 12, g 13, g 14]))] s.heap := hP
  have hl := lv_entry ([.ref x, .int a0]) (n := 3) (Nat.le_of_ble_eq_true rfl)
  rw [lg_entry_eq]
  generalize (lg_sl ([.ref x, .int a0]) ++ List.replicate (3 - (lg_sl ([.ref x, .int a0])).length) Slot.unset).toArray = ls at hl ⊢
  have hl : lv_has ls 3 [(0, .ref x), (1, .int a0)] := hl
  refine lv_aload_n hx hb dX7_put_0 rfl (lv_at hl 0 rfl) ?_
  refine lv_iload_n hx hb dX7_put_1 rfl (lv_at hl 1 rfl) ?_
  have hPc := hP.sub (ws' := [(x, .inr (7, [v 0, v 1, v 2, v 3, v 4, v 5, v 6, .ref h, v 8, v 9, v 10])), (h, .inr (0, [.int 0, g 1, g 2, g 3, g 4, g 5, g 6, g 7, g 8, g 9, g 10, g 11, g 12, g 13, g 14]))]) [0, 1] rfl
  have hDc := hD.sub (ws' := [(x, .inr (7, [v 0, v 1, v 2, v 3, v 4, v 5, v 6, .ref h, v 8, v 9, v 10])), (h, .inr (0, [.int 0, g 1, g 2, g 3, g 4, g 5, g 6, g 7, g 8, g 9, g 10, g 11, g 12, g 13, g 14]))]) [0, 1] (by decide) rfl
  have hKc := hK.sub (tys' := []) [] rfl
  have hFc := va_free (wc := [(x, .inr (7, [v 0, v 1, v 2, v 3, v 4, v 5, v 6, .ref h, v 8, v 9, v 10])), (h, .inr (0, [.int 0, g 1, g 2, g 3, g 4, g 5, g 6, g 7, g 8, g 9, g 10, g 11, g 12, g 13, g 14]))]) hD hS hA [0, 1] rfl
  refine va_calli (va_runV (As := [.int a0]) (rest := []) ⟨hx, hb, hml, hown, hts⟩ (c_X7_isFigure l dC dI s.heap.size x a0 v h g ) (cwV 1 hts gX7_put_X7_isFigure rfl rfl rfl (by decide +kernel) ⟨Nat.le_of_ble_eq_true rfl, Nat.le_of_ble_eq_true rfl⟩) ⟨ax_blind (fun _ _ _ _ _ => trivial), va_recv hKc hPc (ci := 7) (q0 := 0) rfl rfl, ax_pre hPc hKc hDc (fun _ _ => trivial)⟩ rfl rfl hl.1 rfl (lv_room (Nat.le_of_ble_eq_true rfl)) dX7_put_2 ⟨Nat.le_of_ble_eq_true rfl, Nat.le_of_ble_eq_true rfl⟩) hS (fun q _ h => hFc q h) hFc (fun r_1 u t H1 locs ht hvm hw hB hz1 hk1 hS => ?_)
  obtain ⟨hP1, hK1, hD1⟩ := hB
  rw [ht] at hP1
  have hK1 := va_K.moved hvm.symm hK1
  obtain ⟨hP, hD⟩ := va_join (wr := []) (w1 := [(x, .inr (7, [v 0, v 1, v 2, v 3, v 4, v 5, v 6, .ref h, v 8, v 9, v 10])), (h, .inr (0, [.int 0, g 1, g 2, g 3, g 4, g 5, g 6, g 7, g 8, g 9, g 10, g 11, g 12, g 13, g 14]))]) hP hD [0, 1] [] rfl rfl (by decide) (by decide) hk1 hFc hP1 hD1
  have hK := (hK.sub (tys' := []) [] rfl).app hK1
  generalize H1 = H at hP hS ⊢
  have hP : va_P (dC, dI) vwCl [(x, .inr (7, [v 0, v 1, v 2, v 3, v 4, v 5, v 6, .ref h, v 8, v 9, v 10])), (h, .inr (0, [.int 0, g 1, g 2, g 3, g 4, g 5, g 6, g 7, g 8, g 9, g 10, g 11, g 12, g 13, g 14]))] H := hP
  have hD : va_D A [(x, .inr (7, [v 0, v 1, v 2, v 3, v 4, v 5, v 6, .ref h, v 8, v 9, v 10])), (h, .inr (0, [.int 0, g 1, g 2, g 3, g 4, g 5, g 6, g 7, g 8, g 9, g 10, g 11, g 12, g 13, g 14]))] := hD
  have hK : va_K (dC, dI) vwCl [] s := hK
  have hw : r_1 = 0 := hw
  subst hw
  refine lv_if_ne (tgt := 14) hx hb dX7_put_5 (by decide) (fun c_2 => absurd (by decide +kernel) c_2) (fun _ => ?_)
  refine lv_aload_n hx hb dX7_put_8 rfl (lv_at hl 0 rfl) ?_
  refine lv_iconst (v := 1) hx hb dX7_put_9 (by decide) ?_
  have hPc := hP.sub (ws' := [(x, .inr (7, [v 0, v 1, v 2, v 3, v 4, v 5, v 6, .ref h, v 8, v 9, v 10]))]) [0] rfl
  have hDc := hD.sub (ws' := [(x, .inr (7, [v 0, v 1, v 2, v 3, v 4, v 5, v 6, .ref h, v 8, v 9, v 10]))]) [0] (by decide) rfl
  have hKc := hK.sub (tys' := []) [] rfl
  have hFc := va_free (wc := [(x, .inr (7, [v 0, v 1, v 2, v 3, v 4, v 5, v 6, .ref h, v 8, v 9, v 10]))]) hD hS hA [0] rfl
  refine va_calli (va_runV (As := [.int 1]) (rest := []) ⟨hx, hb, hml, hown, hts⟩ (c_X7_refused l dC dI H.size x 1 (fun i9 => ([v 0, v 1, v 2, v 3, v 4, v 5, v 6, .ref h, v 8, v 9, v 10] : List Value).getD i9 .null) ) (cwV 1 hts gX7_put_X7_refused rfl rfl rfl (by decide +kernel) ⟨Nat.le_of_ble_eq_true rfl, Nat.le_of_ble_eq_true rfl⟩) ⟨ax_blind (fun _ _ _ _ _ => trivial), va_recv hKc hPc (ci := 7) (q0 := 0) rfl rfl, ax_pre hPc hKc hDc (fun _ _ => trivial)⟩ rfl rfl hl.1 rfl (lv_room (Nat.le_of_ble_eq_true rfl)) dX7_put_10 ⟨Nat.le_of_ble_eq_true rfl, Nat.le_of_ble_eq_true rfl⟩) hS (fun q _ h => hFc q h) hFc (fun r_3 u t H1 locs ht hvm hw hB hz1 hk1 hS => ?_)
  obtain ⟨hP1, hK1, hD1⟩ := hB
  rw [ht] at hP1
  have hK1 := va_K.moved hvm.symm hK1
  obtain ⟨hP, hD⟩ := va_join (wr := [(h, .inr (0, [.int 0, g 1, g 2, g 3, g 4, g 5, g 6, g 7, g 8, g 9, g 10, g 11, g 12, g 13, g 14]))]) (w1 := []) hP hD [0] [1] rfl rfl (by decide) (by decide) hk1 hFc hP1 hD1
  have hK := (hK.sub (tys' := []) [] rfl).app hK1
  generalize H1 = H at hP hS ⊢
  have hP : va_P (dC, dI) vwCl [(h, .inr (0, [.int 0, g 1, g 2, g 3, g 4, g 5, g 6, g 7, g 8, g 9, g 10, g 11, g 12, g 13, g 14]))] H := hP
  have hD : va_D A [(h, .inr (0, [.int 0, g 1, g 2, g 3, g 4, g 5, g 6, g 7, g 8, g 9, g 10, g 11, g 12, g 13, g 14]))] := hD
  have hK : va_K (dC, dI) vwCl [] s := hK
  have hw : r_3 = (-1) := hw
  subst hw
  have hP9 := hP.sub (ws' := []) [] rfl
  have hD9 := hD.sub (ws' := []) [] (by decide) rfl
  have hK9 := hK.sub (tys' := []) [] rfl
  exact W.iret (v := (-1)) hx hb hr (fun t ht hW => ⟨⟨(-1), (), rfl, rfl, by rw [ht]; exact hP9, va_K.moved hW.alike hK9, hD9⟩, hS.F ht⟩) hS.2.2 dX7_put_13

set_option maxHeartbeats 4000000 in
set_option maxRecDepth 100000 in
theorem c_X7_wind (l : Launch) (dC : Nat → ClassId) (dI : Nat → Nat → Nat) (sz : Nat) (x : Nat) (a0 : Int32) (v : Nat → Value) (h : Nat) (g : Nat → Value) : Met l yX7_wind wsX7_wind ({ frames := 2, cells := 0, slots := 0, locals := 43 }) (va_Pc [.ref x, .int a0] (ax_C dC dI sz [(x, .inr (7, [v 0, v 1, v 2, v 3, v 4, v 5, v 6, .ref h, v 8, v 9, v 10])), (h, .inr (0, [.int 0, g 1, g 2, g 3, g 4, g 5, g 6, g 7, g 8, g 9, g 10, g 11, g 12, g 13, g 14]))] [] (fun _ => True))) (va_Qi (fun (r : Int32) (_ : Unit) => r = -1) (fun (_ : Unit) (t : State) => ax_B dC dI (va_A [(x, .inr (7, [v 0, v 1, v 2, v 3, v 4, v 5, v 6, .ref h, v 8, v 9, v 10])), (h, .inr (0, [.int 0, g 1, g 2, g 3, g 4, g 5, g 6, g 7, g 8, g 9, g 10, g 11, g 12, g 13, g 14]))] sz) [] [] t) (va_A [(x, .inr (7, [v 0, v 1, v 2, v 3, v 4, v 5, v 6, .ref h, v 8, v 9, v 10])), (h, .inr (0, [.int 0, g 1, g 2, g 3, g 4, g 5, g 6, g 7, g 8, g 9, g 10, g 11, g 12, g 13, g 14]))] sz)) 0 0 (va_A [(x, .inr (7, [v 0, v 1, v 2, v 3, v 4, v 5, v 6, .ref h, v 8, v 9, v 10])), (h, .inr (0, [.int 0, g 1, g 2, g 3, g 4, g 5, g 6, g 7, g 8, g 9, g 10, g 11, g 12, g 13, g 14]))] sz) := by
  refine Met.ofW (cc := cX7_wind) (maxL := 3) (ret := (some .int)) (by decide) rfl ?_
  intro p e s m args below meth c s₁ B hml hv
  obtain ⟨rfl, hsz, hP, hK, hD0, hE⟩ := hv
  have hx := B.exec
  have hb := B.bytes
  have hr := B.returns
  have hts := atoms_spec (ws := wsX7_wind) B.pre
  have hown : s.vm.findClass RX7 = some m.cls := findClass_of_methodNamed B.named
  have hlocks := B.notSynchronized
  subst hsz
  have hD := hD0.self (sz := s.heap.size)
  generalize hAe : va_A [(x, .inr (7, [v 0, v 1, v 2, v 3, v 4, v 5, v 6, .ref h, v 8, v 9, v 10])), (h, .inr (0, [.int 0, g 1, g 2, g 3, g 4, g 5, g 6, g 7, g 8, g 9, g 10, g 11, g 12, g 13, g 14]))] s.heap.size = A at hD ⊢
  have hA : ∀ q : Nat, s.heap.size ≤ q → A q := fun q h => by rw [← hAe]; exact Or.inr h
  have hS : va_S A s.heap s.heap [] := va_S.rf
  have hP : va_P (dC, dI) vwCl [(x, .inr (7, [v 0, v 1, v 2, v 3, v 4, v 5, v 6, .ref h, v 8, v 9, v 10])), (h, .inr (0, [.int 0, g 1, g 2, g 3, g 4, g 5, g 6, g 7, g 8, g 9, g 10, g 11, g 12, g 13, g 14]))] s.heap := hP
  have hl := lv_entry ([.ref x, .int a0]) (n := 3) (Nat.le_of_ble_eq_true rfl)
  rw [lg_entry_eq]
  generalize (lg_sl ([.ref x, .int a0]) ++ List.replicate (3 - (lg_sl ([.ref x, .int a0])).length) Slot.unset).toArray = ls at hl ⊢
  have hl : lv_has ls 3 [(0, .ref x), (1, .int a0)] := hl
  refine lv_aload_n hx hb dX7_wind_0 rfl (lv_at hl 0 rfl) ?_
  refine lv_iload_n hx hb dX7_wind_1 rfl (lv_at hl 1 rfl) ?_
  have hPc := hP.sub (ws' := [(x, .inr (7, [v 0, v 1, v 2, v 3, v 4, v 5, v 6, .ref h, v 8, v 9, v 10])), (h, .inr (0, [.int 0, g 1, g 2, g 3, g 4, g 5, g 6, g 7, g 8, g 9, g 10, g 11, g 12, g 13, g 14]))]) [0, 1] rfl
  have hDc := hD.sub (ws' := [(x, .inr (7, [v 0, v 1, v 2, v 3, v 4, v 5, v 6, .ref h, v 8, v 9, v 10])), (h, .inr (0, [.int 0, g 1, g 2, g 3, g 4, g 5, g 6, g 7, g 8, g 9, g 10, g 11, g 12, g 13, g 14]))]) [0, 1] (by decide) rfl
  have hKc := hK.sub (tys' := []) [] rfl
  have hFc := va_free (wc := [(x, .inr (7, [v 0, v 1, v 2, v 3, v 4, v 5, v 6, .ref h, v 8, v 9, v 10])), (h, .inr (0, [.int 0, g 1, g 2, g 3, g 4, g 5, g 6, g 7, g 8, g 9, g 10, g 11, g 12, g 13, g 14]))]) hD hS hA [0, 1] rfl
  refine va_calli (va_runV (As := [.int a0]) (rest := []) ⟨hx, hb, hml, hown, hts⟩ (c_X7_isFigure l dC dI s.heap.size x a0 v h g ) (cwV 1 hts gX7_wind_X7_isFigure rfl rfl rfl (by decide +kernel) ⟨Nat.le_of_ble_eq_true rfl, Nat.le_of_ble_eq_true rfl⟩) ⟨ax_blind (fun _ _ _ _ _ => trivial), va_recv hKc hPc (ci := 7) (q0 := 0) rfl rfl, ax_pre hPc hKc hDc (fun _ _ => trivial)⟩ rfl rfl hl.1 rfl (lv_room (Nat.le_of_ble_eq_true rfl)) dX7_wind_2 ⟨Nat.le_of_ble_eq_true rfl, Nat.le_of_ble_eq_true rfl⟩) hS (fun q _ h => hFc q h) hFc (fun r_1 u t H1 locs ht hvm hw hB hz1 hk1 hS => ?_)
  obtain ⟨hP1, hK1, hD1⟩ := hB
  rw [ht] at hP1
  have hK1 := va_K.moved hvm.symm hK1
  obtain ⟨hP, hD⟩ := va_join (wr := []) (w1 := [(x, .inr (7, [v 0, v 1, v 2, v 3, v 4, v 5, v 6, .ref h, v 8, v 9, v 10])), (h, .inr (0, [.int 0, g 1, g 2, g 3, g 4, g 5, g 6, g 7, g 8, g 9, g 10, g 11, g 12, g 13, g 14]))]) hP hD [0, 1] [] rfl rfl (by decide) (by decide) hk1 hFc hP1 hD1
  have hK := (hK.sub (tys' := []) [] rfl).app hK1
  generalize H1 = H at hP hS ⊢
  have hP : va_P (dC, dI) vwCl [(x, .inr (7, [v 0, v 1, v 2, v 3, v 4, v 5, v 6, .ref h, v 8, v 9, v 10])), (h, .inr (0, [.int 0, g 1, g 2, g 3, g 4, g 5, g 6, g 7, g 8, g 9, g 10, g 11, g 12, g 13, g 14]))] H := hP
  have hD : va_D A [(x, .inr (7, [v 0, v 1, v 2, v 3, v 4, v 5, v 6, .ref h, v 8, v 9, v 10])), (h, .inr (0, [.int 0, g 1, g 2, g 3, g 4, g 5, g 6, g 7, g 8, g 9, g 10, g 11, g 12, g 13, g 14]))] := hD
  have hK : va_K (dC, dI) vwCl [] s := hK
  have hw : r_1 = 0 := hw
  subst hw
  refine lv_if_ne (tgt := 14) hx hb dX7_wind_5 (by decide) (fun c_2 => absurd (by decide +kernel) c_2) (fun _ => ?_)
  refine lv_aload_n hx hb dX7_wind_8 rfl (lv_at hl 0 rfl) ?_
  refine lv_iconst (v := 1) hx hb dX7_wind_9 (by decide) ?_
  have hPc := hP.sub (ws' := [(x, .inr (7, [v 0, v 1, v 2, v 3, v 4, v 5, v 6, .ref h, v 8, v 9, v 10]))]) [0] rfl
  have hDc := hD.sub (ws' := [(x, .inr (7, [v 0, v 1, v 2, v 3, v 4, v 5, v 6, .ref h, v 8, v 9, v 10]))]) [0] (by decide) rfl
  have hKc := hK.sub (tys' := []) [] rfl
  have hFc := va_free (wc := [(x, .inr (7, [v 0, v 1, v 2, v 3, v 4, v 5, v 6, .ref h, v 8, v 9, v 10]))]) hD hS hA [0] rfl
  refine va_calli (va_runV (As := [.int 1]) (rest := []) ⟨hx, hb, hml, hown, hts⟩ (c_X7_refused l dC dI H.size x 1 (fun i9 => ([v 0, v 1, v 2, v 3, v 4, v 5, v 6, .ref h, v 8, v 9, v 10] : List Value).getD i9 .null) ) (cwV 1 hts gX7_wind_X7_refused rfl rfl rfl (by decide +kernel) ⟨Nat.le_of_ble_eq_true rfl, Nat.le_of_ble_eq_true rfl⟩) ⟨ax_blind (fun _ _ _ _ _ => trivial), va_recv hKc hPc (ci := 7) (q0 := 0) rfl rfl, ax_pre hPc hKc hDc (fun _ _ => trivial)⟩ rfl rfl hl.1 rfl (lv_room (Nat.le_of_ble_eq_true rfl)) dX7_wind_10 ⟨Nat.le_of_ble_eq_true rfl, Nat.le_of_ble_eq_true rfl⟩) hS (fun q _ h => hFc q h) hFc (fun r_3 u t H1 locs ht hvm hw hB hz1 hk1 hS => ?_)
  obtain ⟨hP1, hK1, hD1⟩ := hB
  rw [ht] at hP1
  have hK1 := va_K.moved hvm.symm hK1
  obtain ⟨hP, hD⟩ := va_join (wr := [(h, .inr (0, [.int 0, g 1, g 2, g 3, g 4, g 5, g 6, g 7, g 8, g 9, g 10, g 11, g 12, g 13, g 14]))]) (w1 := []) hP hD [0] [1] rfl rfl (by decide) (by decide) hk1 hFc hP1 hD1
  have hK := (hK.sub (tys' := []) [] rfl).app hK1
  generalize H1 = H at hP hS ⊢
  have hP : va_P (dC, dI) vwCl [(h, .inr (0, [.int 0, g 1, g 2, g 3, g 4, g 5, g 6, g 7, g 8, g 9, g 10, g 11, g 12, g 13, g 14]))] H := hP
  have hD : va_D A [(h, .inr (0, [.int 0, g 1, g 2, g 3, g 4, g 5, g 6, g 7, g 8, g 9, g 10, g 11, g 12, g 13, g 14]))] := hD
  have hK : va_K (dC, dI) vwCl [] s := hK
  have hw : r_3 = (-1) := hw
  subst hw
  have hP9 := hP.sub (ws' := []) [] rfl
  have hD9 := hD.sub (ws' := []) [] (by decide) rfl
  have hK9 := hK.sub (tys' := []) [] rfl
  exact W.iret (v := (-1)) hx hb hr (fun t ht hW => ⟨⟨(-1), (), rfl, rfl, by rw [ht]; exact hP9, va_K.moved hW.alike hK9, hD9⟩, hS.F ht⟩) hS.2.2 dX7_wind_13

set_option maxHeartbeats 4000000 in
set_option maxRecDepth 100000 in
theorem c_X7_image (l : Launch) (dC : Nat → ClassId) (dI : Nat → Nat → Nat) (sz : Nat) (x : Nat) (v : Nat → Value) (h : Nat) (g : Nat → Value) : Met l yX7_image wsX7_image ({ frames := 1, cells := 0, slots := 0, locals := 21 }) (va_Pc [.ref x] (ax_C dC dI sz [(x, .inr (7, [v 0, v 1, v 2, v 3, v 4, v 5, v 6, .ref h, v 8, v 9, v 10])), (h, .inr (0, [.int 0, g 1, g 2, g 3, g 4, g 5, g 6, g 7, g 8, g 9, g 10, g 11, g 12, g 13, g 14]))] [] (fun _ => True))) (va_Qi (fun (r : Int32) (_ : Unit) => r = -1) (fun (_ : Unit) (t : State) => ax_B dC dI (va_A [(x, .inr (7, [v 0, v 1, v 2, v 3, v 4, v 5, v 6, .ref h, v 8, v 9, v 10])), (h, .inr (0, [.int 0, g 1, g 2, g 3, g 4, g 5, g 6, g 7, g 8, g 9, g 10, g 11, g 12, g 13, g 14]))] sz) [] [] t) (va_A [(x, .inr (7, [v 0, v 1, v 2, v 3, v 4, v 5, v 6, .ref h, v 8, v 9, v 10])), (h, .inr (0, [.int 0, g 1, g 2, g 3, g 4, g 5, g 6, g 7, g 8, g 9, g 10, g 11, g 12, g 13, g 14]))] sz)) 0 0 (va_A [(x, .inr (7, [v 0, v 1, v 2, v 3, v 4, v 5, v 6, .ref h, v 8, v 9, v 10])), (h, .inr (0, [.int 0, g 1, g 2, g 3, g 4, g 5, g 6, g 7, g 8, g 9, g 10, g 11, g 12, g 13, g 14]))] sz) := by
  refine Met.ofW (cc := cX7_image) (maxL := 1) (ret := (some .int)) (by decide) rfl ?_
  intro p e s m args below meth c s₁ B hml hv
  obtain ⟨rfl, hsz, hP, hK, hD0, hE⟩ := hv
  have hx := B.exec
  have hb := B.bytes
  have hr := B.returns
  have hts := atoms_spec (ws := wsX7_image) B.pre
  have hown : s.vm.findClass RX7 = some m.cls := findClass_of_methodNamed B.named
  have hlocks := B.notSynchronized
  subst hsz
  have hD := hD0.self (sz := s.heap.size)
  generalize hAe : va_A [(x, .inr (7, [v 0, v 1, v 2, v 3, v 4, v 5, v 6, .ref h, v 8, v 9, v 10])), (h, .inr (0, [.int 0, g 1, g 2, g 3, g 4, g 5, g 6, g 7, g 8, g 9, g 10, g 11, g 12, g 13, g 14]))] s.heap.size = A at hD ⊢
  have hA : ∀ q : Nat, s.heap.size ≤ q → A q := fun q h => by rw [← hAe]; exact Or.inr h
  have hS : va_S A s.heap s.heap [] := va_S.rf
  have hP : va_P (dC, dI) vwCl [(x, .inr (7, [v 0, v 1, v 2, v 3, v 4, v 5, v 6, .ref h, v 8, v 9, v 10])), (h, .inr (0, [.int 0, g 1, g 2, g 3, g 4, g 5, g 6, g 7, g 8, g 9, g 10, g 11, g 12, g 13, g 14]))] s.heap := hP
  have hl := lv_entry ([.ref x]) (n := 1) (Nat.le_of_ble_eq_true rfl)
  rw [lg_entry_eq]
  generalize (lg_sl ([.ref x]) ++ List.replicate (1 - (lg_sl ([.ref x])).length) Slot.unset).toArray = ls at hl ⊢
  have hl : lv_has ls 1 [(0, .ref x)] := hl
  refine lv_aload_n hx hb dX7_image_0 rfl (lv_at hl 0 rfl) ?_
  have hPc := hP.sub (ws' := [(x, .inr (7, [v 0, v 1, v 2, v 3, v 4, v 5, v 6, .ref h, v 8, v 9, v 10])), (h, .inr (0, [.int 0, g 1, g 2, g 3, g 4, g 5, g 6, g 7, g 8, g 9, g 10, g 11, g 12, g 13, g 14]))]) [0, 1] rfl
  have hDc := hD.sub (ws' := [(x, .inr (7, [v 0, v 1, v 2, v 3, v 4, v 5, v 6, .ref h, v 8, v 9, v 10])), (h, .inr (0, [.int 0, g 1, g 2, g 3, g 4, g 5, g 6, g 7, g 8, g 9, g 10, g 11, g 12, g 13, g 14]))]) [0, 1] (by decide) rfl
  have hKc := hK.sub (tys' := []) [] rfl
  have hFc := va_free (wc := [(x, .inr (7, [v 0, v 1, v 2, v 3, v 4, v 5, v 6, .ref h, v 8, v 9, v 10])), (h, .inr (0, [.int 0, g 1, g 2, g 3, g 4, g 5, g 6, g 7, g 8, g 9, g 10, g 11, g 12, g 13, g 14]))]) hD hS hA [0, 1] rfl
  refine va_calli (va_runV (As := []) (rest := []) ⟨hx, hb, hml, hown, hts⟩ (c_X7_hasGallery l dC dI s.heap.size x v h g ) (cwV 0 hts gX7_image_X7_hasGallery rfl rfl rfl (by decide +kernel) ⟨Nat.le_of_ble_eq_true rfl, Nat.le_of_ble_eq_true rfl⟩) ⟨ax_blind (fun _ _ _ _ _ => trivial), va_recv hKc hPc (ci := 7) (q0 := 0) rfl rfl, ax_pre hPc hKc hDc (fun _ _ => trivial)⟩ rfl rfl hl.1 rfl (lv_room (Nat.le_of_ble_eq_true rfl)) dX7_image_1 ⟨Nat.le_of_ble_eq_true rfl, Nat.le_of_ble_eq_true rfl⟩) hS (fun q _ h => hFc q h) hFc (fun r_1 u t H1 locs ht hvm hw hB hz1 hk1 hS => ?_)
  obtain ⟨hP1, hK1, hD1⟩ := hB
  rw [ht] at hP1
  have hK1 := va_K.moved hvm.symm hK1
  obtain ⟨hP, hD⟩ := va_join (wr := []) (w1 := [(x, .inr (7, [v 0, v 1, v 2, v 3, v 4, v 5, v 6, .ref h, v 8, v 9, v 10])), (h, .inr (0, [.int 0, g 1, g 2, g 3, g 4, g 5, g 6, g 7, g 8, g 9, g 10, g 11, g 12, g 13, g 14]))]) hP hD [0, 1] [] rfl rfl (by decide) (by decide) hk1 hFc hP1 hD1
  have hK := (hK.sub (tys' := []) [] rfl).app hK1
  generalize H1 = H at hP hS ⊢
  have hP : va_P (dC, dI) vwCl [(x, .inr (7, [v 0, v 1, v 2, v 3, v 4, v 5, v 6, .ref h, v 8, v 9, v 10])), (h, .inr (0, [.int 0, g 1, g 2, g 3, g 4, g 5, g 6, g 7, g 8, g 9, g 10, g 11, g 12, g 13, g 14]))] H := hP
  have hD : va_D A [(x, .inr (7, [v 0, v 1, v 2, v 3, v 4, v 5, v 6, .ref h, v 8, v 9, v 10])), (h, .inr (0, [.int 0, g 1, g 2, g 3, g 4, g 5, g 6, g 7, g 8, g 9, g 10, g 11, g 12, g 13, g 14]))] := hD
  have hK : va_K (dC, dI) vwCl [] s := hK
  have hw : r_1 = 0 := hw
  subst hw
  refine lv_if_ne (tgt := 13) hx hb dX7_image_4 (by decide) (fun c_2 => absurd (by decide +kernel) c_2) (fun _ => ?_)
  refine lv_aload_n hx hb dX7_image_7 rfl (lv_at hl 0 rfl) ?_
  refine lv_iconst (v := 1) hx hb dX7_image_8 (by decide) ?_
  have hPc := hP.sub (ws' := [(x, .inr (7, [v 0, v 1, v 2, v 3, v 4, v 5, v 6, .ref h, v 8, v 9, v 10]))]) [0] rfl
  have hDc := hD.sub (ws' := [(x, .inr (7, [v 0, v 1, v 2, v 3, v 4, v 5, v 6, .ref h, v 8, v 9, v 10]))]) [0] (by decide) rfl
  have hKc := hK.sub (tys' := []) [] rfl
  have hFc := va_free (wc := [(x, .inr (7, [v 0, v 1, v 2, v 3, v 4, v 5, v 6, .ref h, v 8, v 9, v 10]))]) hD hS hA [0] rfl
  refine va_calli (va_runV (As := [.int 1]) (rest := []) ⟨hx, hb, hml, hown, hts⟩ (c_X7_refused l dC dI H.size x 1 (fun i9 => ([v 0, v 1, v 2, v 3, v 4, v 5, v 6, .ref h, v 8, v 9, v 10] : List Value).getD i9 .null) ) (cwV 1 hts gX7_image_X7_refused rfl rfl rfl (by decide +kernel) ⟨Nat.le_of_ble_eq_true rfl, Nat.le_of_ble_eq_true rfl⟩) ⟨ax_blind (fun _ _ _ _ _ => trivial), va_recv hKc hPc (ci := 7) (q0 := 0) rfl rfl, ax_pre hPc hKc hDc (fun _ _ => trivial)⟩ rfl rfl hl.1 rfl (lv_room (Nat.le_of_ble_eq_true rfl)) dX7_image_9 ⟨Nat.le_of_ble_eq_true rfl, Nat.le_of_ble_eq_true rfl⟩) hS (fun q _ h => hFc q h) hFc (fun r_3 u t H1 locs ht hvm hw hB hz1 hk1 hS => ?_)
  obtain ⟨hP1, hK1, hD1⟩ := hB
  rw [ht] at hP1
  have hK1 := va_K.moved hvm.symm hK1
  obtain ⟨hP, hD⟩ := va_join (wr := [(h, .inr (0, [.int 0, g 1, g 2, g 3, g 4, g 5, g 6, g 7, g 8, g 9, g 10, g 11, g 12, g 13, g 14]))]) (w1 := []) hP hD [0] [1] rfl rfl (by decide) (by decide) hk1 hFc hP1 hD1
  have hK := (hK.sub (tys' := []) [] rfl).app hK1
  generalize H1 = H at hP hS ⊢
  have hP : va_P (dC, dI) vwCl [(h, .inr (0, [.int 0, g 1, g 2, g 3, g 4, g 5, g 6, g 7, g 8, g 9, g 10, g 11, g 12, g 13, g 14]))] H := hP
  have hD : va_D A [(h, .inr (0, [.int 0, g 1, g 2, g 3, g 4, g 5, g 6, g 7, g 8, g 9, g 10, g 11, g 12, g 13, g 14]))] := hD
  have hK : va_K (dC, dI) vwCl [] s := hK
  have hw : r_3 = (-1) := hw
  subst hw
  have hP9 := hP.sub (ws' := []) [] rfl
  have hD9 := hD.sub (ws' := []) [] (by decide) rfl
  have hK9 := hK.sub (tys' := []) [] rfl
  exact W.iret (v := (-1)) hx hb hr (fun t ht hW => ⟨⟨(-1), (), rfl, rfl, by rw [ht]; exact hP9, va_K.moved hW.alike hK9, hD9⟩, hS.F ht⟩) hS.2.2 dX7_image_12
