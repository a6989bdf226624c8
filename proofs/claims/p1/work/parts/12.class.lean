set_option maxHeartbeats 4000000 in
set_option maxRecDepth 100000 in
theorem c_X7_watcher (l : Launch) (dC : Nat → ClassId) (dI : Nat → Nat → Nat) (sz : Nat) (x : Nat) (a0 : Int32) (a1 : Int32) (v : Nat → Value) (h : Nat) (g : Nat → Value) (w : Nat) (pw : Nat → Value) : Met l yX7_watcher wsX7_watcher ({ frames := 2, cells := 0, slots := 0, locals := 43 }) (va_Pc [.ref x, .int a0, .int a1] (ax_C dC dI sz [(x, .inr (7, [v 0, v 1, v 2, v 3, v 4, v 5, v 6, .ref h, v 8, v 9, v 10])), (h, .inr (0, [.int 0, g 1, g 2, g 3, g 4, g 5, g 6, g 7, g 8, g 9, g 10, g 11, g 12, g 13, .ref w])), (w, .inr (6, [.int 0, pw 1, pw 2, pw 3]))] [] (fun _ => True))) (va_Qi (fun (r : Int32) (_ : Unit) => r = -1) (fun (_ : Unit) (t : State) => ax_B dC dI (va_A [(x, .inr (7, [v 0, v 1, v 2, v 3, v 4, v 5, v 6, .ref h, v 8, v 9, v 10])), (h, .inr (0, [.int 0, g 1, g 2, g 3, g 4, g 5, g 6, g 7, g 8, g 9, g 10, g 11, g 12, g 13, .ref w])), (w, .inr (6, [.int 0, pw 1, pw 2, pw 3]))] sz) [] [] t) (va_A [(x, .inr (7, [v 0, v 1, v 2, v 3, v 4, v 5, v 6, .ref h, v 8, v 9, v 10])), (h, .inr (0, [.int 0, g 1, g 2, g 3, g 4, g 5, g 6, g 7, g 8, g 9, g 10, g 11, g 12, g 13, .ref w])), (w, .inr (6, [.int 0, pw 1, pw 2, pw 3]))] sz)) 0 0 (va_A [(x, .inr (7, [v 0, v 1, v 2, v 3, v 4, v 5, v 6, .ref h, v 8, v 9, v 10])), (h, .inr (0, [.int 0, g 1, g 2, g 3, g 4, g 5, g 6, g 7, g 8, g 9, g 10, g 11, g 12, g 13, .ref w])), (w, .inr (6, [.int 0, pw 1, pw 2, pw 3]))] sz) := by
  refine Met.ofW (cc := cX7_watcher) (maxL := 3) (ret := (some .int)) (by decide) rfl ?_
  intro p e s m args below meth c s₁ B hml hv
  obtain ⟨rfl, hsz, hP, hK, hD0, hE⟩ := hv
  have hx := B.exec
  have hb := B.bytes
  have hr := B.returns
  have hts := atoms_spec (ws := wsX7_watcher) B.pre
  have hown : s.vm.findClass RX7 = some m.cls := findClass_of_methodNamed B.named
  have hlocks := B.notSynchronized
  subst hsz
  have hD := hD0.self (sz := s.heap.size)
  generalize hAe : va_A [(x, .inr (7, [v 0, v 1, v 2, v 3, v 4, v 5, v 6, .ref h, v 8, v 9, v 10])), (h, .inr (0, [.int 0, g 1, g 2, g 3, g 4, g 5, g 6, g 7, g 8, g 9, g 10, g 11, g 12, g 13, .ref w])), (w, .inr (6, [.int 0, pw 1, pw 2, pw 3]))] s.heap.size = A at hD ⊢
  have hA : ∀ q : Nat, s.heap.size ≤ q → A q := fun q h => by rw [← hAe]; exact Or.inr h
  have hS : va_S A s.heap s.heap [] := va_S.rf
  have hP : va_P (dC, dI) vwCl [(x, .inr (7, [v 0, v 1, v 2, v 3, v 4, v 5, v 6, .ref h, v 8, v 9, v 10])), (h, .inr (0, [.int 0, g 1, g 2, g 3, g 4, g 5, g 6, g 7, g 8, g 9, g 10, g 11, g 12, g 13, .ref w])), (w, .inr (6, [.int 0, pw 1, pw 2, pw 3]))] s.heap := hP
  have hl := lv_entry ([.ref x, .int a0, .int a1]) (n := 3) (Nat.le_of_ble_eq_true rfl)
  rw [lg_entry_eq]
  generalize (lg_sl ([.ref x, .int a0, .int a1]) ++ List.replicate (3 - (lg_sl ([.ref x, .int a0, .int a1])).length) Slot.unset).toArray = ls at hl ⊢
  have hl : lv_has ls 3 [(0, .ref x), (1, .int a0), (2, .int a1)] := hl
  refine lv_aload_n hx hb dX7_watcher_0 rfl (lv_at hl 0 rfl) ?_
  refine lv_iload_n hx hb dX7_watcher_1 rfl (lv_at hl 1 rfl) ?_
  have hPc := hP.sub (ws' := [(x, .inr (7, [v 0, v 1, v 2, v 3, v 4, v 5, v 6, .ref h, v 8, v 9, v 10])), (h, .inr (0, [.int 0, g 1, g 2, g 3, g 4, g 5, g 6, g 7, g 8, g 9, g 10, g 11, g 12, g 13, .ref w])), (w, .inr (6, [.int 0, pw 1, pw 2, pw 3]))]) [0, 1, 2] rfl
  have hDc := hD.sub (ws' := [(x, .inr (7, [v 0, v 1, v 2, v 3, v 4, v 5, v 6, .ref h, v 8, v 9, v 10])), (h, .inr (0, [.int 0, g 1, g 2, g 3, g 4, g 5, g 6, g 7, g 8, g 9, g 10, g 11, g 12, g 13, .ref w])), (w, .inr (6, [.int 0, pw 1, pw 2, pw 3]))]) [0, 1, 2] (by decide) rfl
  have hKc := hK.sub (tys' := []) [] rfl
  have hFc := va_free (wc := [(x, .inr (7, [v 0, v 1, v 2, v 3, v 4, v 5, v 6, .ref h, v 8, v 9, v 10])), (h, .inr (0, [.int 0, g 1, g 2, g 3, g 4, g 5, g 6, g 7, g 8, g 9, g 10, g 11, g 12, g 13, .ref w])), (w, .inr (6, [.int 0, pw 1, pw 2, pw 3]))]) hD hS hA [0, 1, 2] rfl
  refine va_calli (va_runV (As := [.int a0]) (rest := []) ⟨hx, hb, hml, hown, hts⟩ (c_X7_isWatcher l dC dI s.heap.size x a0 v h g w pw ) (cwV 1 hts gX7_watcher_X7_isWatcher rfl rfl rfl (by decide +kernel) ⟨Nat.le_of_ble_eq_true rfl, Nat.le_of_ble_eq_true rfl⟩) ⟨ax_blind (fun _ _ _ _ _ => trivial), va_recv hKc hPc (ci := 7) (q0 := 0) rfl rfl, ax_pre hPc hKc hDc (fun _ _ => trivial)⟩ rfl rfl hl.1 rfl (lv_room (Nat.le_of_ble_eq_true rfl)) dX7_watcher_2 ⟨Nat.le_of_ble_eq_true rfl, Nat.le_of_ble_eq_true rfl⟩) hS (fun q _ h => hFc q h) hFc (fun r_1 u t H1 locs ht hvm hw hB hz1 hk1 hS => ?_)
  obtain ⟨hP1, hK1, hD1⟩ := hB
  rw [ht] at hP1
  have hK1 := va_K.moved hvm.symm hK1
  obtain ⟨hP, hD⟩ := va_join (wr := []) (w1 := [(x, .inr (7, [v 0, v 1, v 2, v 3, v 4, v 5, v 6, .ref h, v 8, v 9, v 10])), (h, .inr (0, [.int 0, g 1, g 2, g 3, g 4, g 5, g 6, g 7, g 8, g 9, g 10, g 11, g 12, g 13, .ref w])), (w, .inr (6, [.int 0, pw 1, pw 2, pw 3]))]) hP hD [0, 1, 2] [] rfl rfl (by decide) (by decide) hk1 hFc hP1 hD1
  have hK := (hK.sub (tys' := []) [] rfl).app hK1
  generalize H1 = H at hP hS ⊢
  have hP : va_P (dC, dI) vwCl [(x, .inr (7, [v 0, v 1, v 2, v 3, v 4, v 5, v 6, .ref h, v 8, v 9, v 10])), (h, .inr (0, [.int 0, g 1, g 2, g 3, g 4, g 5, g 6, g 7, g 8, g 9, g 10, g 11, g 12, g 13, .ref w])), (w, .inr (6, [.int 0, pw 1, pw 2, pw 3]))] H := hP
  have hD : va_D A [(x, .inr (7, [v 0, v 1, v 2, v 3, v 4, v 5, v 6, .ref h, v 8, v 9, v 10])), (h, .inr (0, [.int 0, g 1, g 2, g 3, g 4, g 5, g 6, g 7, g 8, g 9, g 10, g 11, g 12, g 13, .ref w])), (w, .inr (6, [.int 0, pw 1, pw 2, pw 3]))] := hD
  have hK : va_K (dC, dI) vwCl [] s := hK
  have hw : r_1 = 0 := hw
  subst hw
  refine lv_if_eq (tgt := 17) hx hb dX7_watcher_5 (by decide) (fun _ => ?_) (fun c_2 => absurd (by decide +kernel) c_2)
  refine lv_aload_n hx hb dX7_watcher_17 rfl (lv_at hl 0 rfl) ?_
  refine lv_iconst (v := 1) hx hb dX7_watcher_18 (by decide) ?_
  have hPc := hP.sub (ws' := [(x, .inr (7, [v 0, v 1, v 2, v 3, v 4, v 5, v 6, .ref h, v 8, v 9, v 10]))]) [0] rfl
  have hDc := hD.sub (ws' := [(x, .inr (7, [v 0, v 1, v 2, v 3, v 4, v 5, v 6, .ref h, v 8, v 9, v 10]))]) [0] (by decide) rfl
  have hKc := hK.sub (tys' := []) [] rfl
  have hFc := va_free (wc := [(x, .inr (7, [v 0, v 1, v 2, v 3, v 4, v 5, v 6, .ref h, v 8, v 9, v 10]))]) hD hS hA [0] rfl
  refine va_calli (va_runV (As := [.int 1]) (rest := []) ⟨hx, hb, hml, hown, hts⟩ (c_X7_refused l dC dI H.size x 1 (fun i9 => ([v 0, v 1, v 2, v 3, v 4, v 5, v 6, .ref h, v 8, v 9, v 10] : List Value).getD i9 .null) ) (cwV 1 hts gX7_watcher_X7_refused rfl rfl rfl (by decide +kernel) ⟨Nat.le_of_ble_eq_true rfl, Nat.le_of_ble_eq_true rfl⟩) ⟨ax_blind (fun _ _ _ _ _ => trivial), va_recv hKc hPc (ci := 7) (q0 := 0) rfl rfl, ax_pre hPc hKc hDc (fun _ _ => trivial)⟩ rfl rfl hl.1 rfl (lv_room (Nat.le_of_ble_eq_true rfl)) dX7_watcher_19 ⟨Nat.le_of_ble_eq_true rfl, Nat.le_of_ble_eq_true rfl⟩) hS (fun q _ h => hFc q h) hFc (fun r_3 u t H1 locs ht hvm hw hB hz1 hk1 hS => ?_)
  obtain ⟨hP1, hK1, hD1⟩ := hB
  rw [ht] at hP1
  have hK1 := va_K.moved hvm.symm hK1
  obtain ⟨hP, hD⟩ := va_join (wr := [(h, .inr (0, [.int 0, g 1, g 2, g 3, g 4, g 5, g 6, g 7, g 8, g 9, g 10, g 11, g 12, g 13, .ref w])), (w, .inr (6, [.int 0, pw 1, pw 2, pw 3]))]) (w1 := []) hP hD [0] [1, 2] rfl rfl (by decide) (by decide) hk1 hFc hP1 hD1
  have hK := (hK.sub (tys' := []) [] rfl).app hK1
  generalize H1 = H at hP hS ⊢
  have hP : va_P (dC, dI) vwCl [(h, .inr (0, [.int 0, g 1, g 2, g 3, g 4, g 5, g 6, g 7, g 8, g 9, g 10, g 11, g 12, g 13, .ref w])), (w, .inr (6, [.int 0, pw 1, pw 2, pw 3]))] H := hP
  have hD : va_D A [(h, .inr (0, [.int 0, g 1, g 2, g 3, g 4, g 5, g 6, g 7, g 8, g 9, g 10, g 11, g 12, g 13, .ref w])), (w, .inr (6, [.int 0, pw 1, pw 2, pw 3]))] := hD
  have hK : va_K (dC, dI) vwCl [] s := hK
  have hw : r_3 = (-1) := hw
  subst hw
  have hP9 := hP.sub (ws' := []) [] rfl
  have hD9 := hD.sub (ws' := []) [] (by decide) rfl
  have hK9 := hK.sub (tys' := []) [] rfl
  exact W.iret (v := (-1)) hx hb hr (fun t ht hW => ⟨⟨(-1), (), rfl, rfl, by rw [ht]; exact hP9, va_K.moved hW.alike hK9, hD9⟩, hS.F ht⟩) hS.2.2 dX7_watcher_22

set_option maxHeartbeats 4000000 in
set_option maxRecDepth 100000 in
theorem c_X7_watch (l : Launch) (dC : Nat → ClassId) (dI : Nat → Nat → Nat) (sz : Nat) (x : Nat) (a0 : Int32) (a1 : Int32) (v : Nat → Value) (h : Nat) (g : Nat → Value) (w : Nat) (pw : Nat → Value) : Met l yX7_watch wsX7_watch ({ frames := 2, cells := 0, slots := 0, locals := 43 }) (va_Pc [.ref x, .int a0, .int a1] (ax_C dC dI sz [(x, .inr (7, [v 0, v 1, v 2, v 3, v 4, v 5, v 6, .ref h, v 8, v 9, v 10])), (h, .inr (0, [.int 0, g 1, g 2, g 3, g 4, g 5, g 6, g 7, g 8, g 9, g 10, g 11, g 12, g 13, .ref w])), (w, .inr (6, [.int 0, pw 1, pw 2, pw 3]))] [] (fun _ => True))) (va_Qi (fun (r : Int32) (_ : Unit) => r = -1) (fun (_ : Unit) (t : State) => ax_B dC dI (va_A [(x, .inr (7, [v 0, v 1, v 2, v 3, v 4, v 5, v 6, .ref h, v 8, v 9, v 10])), (h, .inr (0, [.int 0, g 1, g 2, g 3, g 4, g 5, g 6, g 7, g 8, g 9, g 10, g 11, g 12, g 13, .ref w])), (w, .inr (6, [.int 0, pw 1, pw 2, pw 3]))] sz) [] [] t) (va_A [(x, .inr (7, [v 0, v 1, v 2, v 3, v 4, v 5, v 6, .ref h, v 8, v 9, v 10])), (h, .inr (0, [.int 0, g 1, g 2, g 3, g 4, g 5, g 6, g 7, g 8, g 9, g 10, g 11, g 12, g 13, .ref w])), (w, .inr (6, [.int 0, pw 1, pw 2, pw 3]))] sz)) 0 0 (va_A [(x, .inr (7, [v 0, v 1, v 2, v 3, v 4, v 5, v 6, .ref h, v 8, v 9, v 10])), (h, .inr (0, [.int 0, g 1, g 2, g 3, g 4, g 5, g 6, g 7, g 8, g 9, g 10, g 11, g 12, g 13, .ref w])), (w, .inr (6, [.int 0, pw 1, pw 2, pw 3]))] sz) := by
  refine Met.ofW (cc := cX7_watch) (maxL := 3) (ret := (some .int)) (by decide) rfl ?_
  intro p e s m args below meth c s₁ B hml hv
  obtain ⟨rfl, hsz, hP, hK, hD0, hE⟩ := hv
  have hx := B.exec
  have hb := B.bytes
  have hr := B.returns
  have hts := atoms_spec (ws := wsX7_watch) B.pre
  have hown : s.vm.findClass RX7 = some m.cls := findClass_of_methodNamed B.named
  have hlocks := B.notSynchronized
  subst hsz
  have hD := hD0.self (sz := s.heap.size)
  generalize hAe : va_A [(x, .inr (7, [v 0, v 1, v 2, v 3, v 4, v 5, v 6, .ref h, v 8, v 9, v 10])), (h, .inr (0, [.int 0, g 1, g 2, g 3, g 4, g 5, g 6, g 7, g 8, g 9, g 10, g 11, g 12, g 13, .ref w])), (w, .inr (6, [.int 0, pw 1, pw 2, pw 3]))] s.heap.size = A at hD ⊢
  have hA : ∀ q : Nat, s.heap.size ≤ q → A q := fun q h => by rw [← hAe]; exact Or.inr h
  have hS : va_S A s.heap s.heap [] := va_S.rf
  have hP : va_P (dC, dI) vwCl [(x, .inr (7, [v 0, v 1, v 2, v 3, v 4, v 5, v 6, .ref h, v 8, v 9, v 10])), (h, .inr (0, [.int 0, g 1, g 2, g 3, g 4, g 5, g 6, g 7, g 8, g 9, g 10, g 11, g 12, g 13, .ref w])), (w, .inr (6, [.int 0, pw 1, pw 2, pw 3]))] s.heap := hP
  have hl := lv_entry ([.ref x, .int a0, .int a1]) (n := 3) (Nat.le_of_ble_eq_true rfl)
  rw [lg_entry_eq]
  generalize (lg_sl ([.ref x, .int a0, .int a1]) ++ List.replicate (3 - (lg_sl ([.ref x, .int a0, .int a1])).length) Slot.unset).toArray = ls at hl ⊢
  have hl : lv_has ls 3 [(0, .ref x), (1, .int a0), (2, .int a1)] := hl
  refine lv_aload_n hx hb dX7_watch_0 rfl (lv_at hl 0 rfl) ?_
  refine lv_iload_n hx hb dX7_watch_1 rfl (lv_at hl 1 rfl) ?_
  have hPc := hP.sub (ws' := [(x, .inr (7, [v 0, v 1, v 2, v 3, v 4, v 5, v 6, .ref h, v 8, v 9, v 10])), (h, .inr (0, [.int 0, g 1, g 2, g 3, g 4, g 5, g 6, g 7, g 8, g 9, g 10, g 11, g 12, g 13, .ref w])), (w, .inr (6, [.int 0, pw 1, pw 2, pw 3]))]) [0, 1, 2] rfl
  have hDc := hD.sub (ws' := [(x, .inr (7, [v 0, v 1, v 2, v 3, v 4, v 5, v 6, .ref h, v 8, v 9, v 10])), (h, .inr (0, [.int 0, g 1, g 2, g 3, g 4, g 5, g 6, g 7, g 8, g 9, g 10, g 11, g 12, g 13, .ref w])), (w, .inr (6, [.int 0, pw 1, pw 2, pw 3]))]) [0, 1, 2] (by decide) rfl
  have hKc := hK.sub (tys' := []) [] rfl
  have hFc := va_free (wc := [(x, .inr (7, [v 0, v 1, v 2, v 3, v 4, v 5, v 6, .ref h, v 8, v 9, v 10])), (h, .inr (0, [.int 0, g 1, g 2, g 3, g 4, g 5, g 6, g 7, g 8, g 9, g 10, g 11, g 12, g 13, .ref w])), (w, .inr (6, [.int 0, pw 1, pw 2, pw 3]))]) hD hS hA [0, 1, 2] rfl
  refine va_calli (va_runV (As := [.int a0]) (rest := []) ⟨hx, hb, hml, hown, hts⟩ (c_X7_isWatcher l dC dI s.heap.size x a0 v h g w pw ) (cwV 1 hts gX7_watch_X7_isWatcher rfl rfl rfl (by decide +kernel) ⟨Nat.le_of_ble_eq_true rfl, Nat.le_of_ble_eq_true rfl⟩) ⟨ax_blind (fun _ _ _ _ _ => trivial), va_recv hKc hPc (ci := 7) (q0 := 0) rfl rfl, ax_pre hPc hKc hDc (fun _ _ => trivial)⟩ rfl rfl hl.1 rfl (lv_room (Nat.le_of_ble_eq_true rfl)) dX7_watch_2 ⟨Nat.le_of_ble_eq_true rfl, Nat.le_of_ble_eq_true rfl⟩) hS (fun q _ h => hFc q h) hFc (fun r_1 u t H1 locs ht hvm hw hB hz1 hk1 hS => ?_)
  obtain ⟨hP1, hK1, hD1⟩ := hB
  rw [ht] at hP1
  have hK1 := va_K.moved hvm.symm hK1
  obtain ⟨hP, hD⟩ := va_join (wr := []) (w1 := [(x, .inr (7, [v 0, v 1, v 2, v 3, v 4, v 5, v 6, .ref h, v 8, v 9, v 10])), (h, .inr (0, [.int 0, g 1, g 2, g 3, g 4, g 5, g 6, g 7, g 8, g 9, g 10, g 11, g 12, g 13, .ref w])), (w, .inr (6, [.int 0, pw 1, pw 2, pw 3]))]) hP hD [0, 1, 2] [] rfl rfl (by decide) (by decide) hk1 hFc hP1 hD1
  have hK := (hK.sub (tys' := []) [] rfl).app hK1
  generalize H1 = H at hP hS ⊢
  have hP : va_P (dC, dI) vwCl [(x, .inr (7, [v 0, v 1, v 2, v 3, v 4, v 5, v 6, .ref h, v 8, v 9, v 10])), (h, .inr (0, [.int 0, g 1, g 2, g 3, g 4, g 5, g 6, g 7, g 8, g 9, g 10, g 11, g 12, g 13, .ref w])), (w, .inr (6, [.int 0, pw 1, pw 2, pw 3]))] H := hP
  have hD : va_D A [(x, .inr (7, [v 0, v 1, v 2, v 3, v 4, v 5, v 6, .ref h, v 8, v 9, v 10])), (h, .inr (0, [.int 0, g 1, g 2, g 3, g 4, g 5, g 6, g 7, g 8, g 9, g 10, g 11, g 12, g 13, .ref w])), (w, .inr (6, [.int 0, pw 1, pw 2, pw 3]))] := hD
  have hK : va_K (dC, dI) vwCl [] s := hK
  have hw : r_1 = 0 := hw
  subst hw
  refine lv_if_ne (tgt := 14) hx hb dX7_watch_5 (by decide) (fun c_2 => absurd (by decide +kernel) c_2) (fun _ => ?_)
  refine lv_aload_n hx hb dX7_watch_8 rfl (lv_at hl 0 rfl) ?_
  refine lv_iconst (v := 1) hx hb dX7_watch_9 (by decide) ?_
  have hPc := hP.sub (ws' := [(x, .inr (7, [v 0, v 1, v 2, v 3, v 4, v 5, v 6, .ref h, v 8, v 9, v 10]))]) [0] rfl
  have hDc := hD.sub (ws' := [(x, .inr (7, [v 0, v 1, v 2, v 3, v 4, v 5, v 6, .ref h, v 8, v 9, v 10]))]) [0] (by decide) rfl
  have hKc := hK.sub (tys' := []) [] rfl
  have hFc := va_free (wc := [(x, .inr (7, [v 0, v 1, v 2, v 3, v 4, v 5, v 6, .ref h, v 8, v 9, v 10]))]) hD hS hA [0] rfl
  refine va_calli (va_runV (As := [.int 1]) (rest := []) ⟨hx, hb, hml, hown, hts⟩ (c_X7_refused l dC dI H.size x 1 (fun i9 => ([v 0, v 1, v 2, v 3, v 4, v 5, v 6, .ref h, v 8, v 9, v 10] : List Value).getD i9 .null) ) (cwV 1 hts gX7_watch_X7_refused rfl rfl rfl (by decide +kernel) ⟨Nat.le_of_ble_eq_true rfl, Nat.le_of_ble_eq_true rfl⟩) ⟨ax_blind (fun _ _ _ _ _ => trivial), va_recv hKc hPc (ci := 7) (q0 := 0) rfl rfl, ax_pre hPc hKc hDc (fun _ _ => trivial)⟩ rfl rfl hl.1 rfl (lv_room (Nat.le_of_ble_eq_true rfl)) dX7_watch_10 ⟨Nat.le_of_ble_eq_true rfl, Nat.le_of_ble_eq_true rfl⟩) hS (fun q _ h => hFc q h) hFc (fun r_3 u t H1 locs ht hvm hw hB hz1 hk1 hS => ?_)
  obtain ⟨hP1, hK1, hD1⟩ := hB
  rw [ht] at hP1
  have hK1 := va_K.moved hvm.symm hK1
  obtain ⟨hP, hD⟩ := va_join (wr := [(h, .inr (0, [.int 0, g 1, g 2, g 3, g 4, g 5, g 6, g 7, g 8, g 9, g 10, g 11, g 12, g 13, .ref w])), (w, .inr (6, [.int 0, pw 1, pw 2, pw 3]))]) (w1 := []) hP hD [0] [1, 2] rfl rfl (by decide) (by decide) hk1 hFc hP1 hD1
  have hK := (hK.sub (tys' := []) [] rfl).app hK1
  generalize H1 = H at hP hS ⊢
  have hP : va_P (dC, dI) vwCl [(h, .inr (0, [.int 0, g 1, g 2, g 3, g 4, g 5, g 6, g 7, g 8, g 9, g 10, g 11, g 12, g 13, .ref w])), (w, .inr (6, [.int 0, pw 1, pw 2, pw 3]))] H := hP
  have hD : va_D A [(h, .inr (0, [.int 0, g 1, g 2, g 3, g 4, g 5, g 6, g 7, g 8, g 9, g 10, g 11, g 12, g 13, .ref w])), (w, .inr (6, [.int 0, pw 1, pw 2, pw 3]))] := hD
  have hK : va_K (dC, dI) vwCl [] s := hK
  have hw : r_3 = (-1) := hw
  subst hw
  have hP9 := hP.sub (ws' := []) [] rfl
  have hD9 := hD.sub (ws' := []) [] (by decide) rfl
  have hK9 := hK.sub (tys' := []) [] rfl
  exact W.iret (v := (-1)) hx hb hr (fun t ht hW => ⟨⟨(-1), (), rfl, rfl, by rw [ht]; exact hP9, va_K.moved hW.alike hK9, hD9⟩, hS.F ht⟩) hS.2.2 dX7_watch_13

set_option maxHeartbeats 4000000 in
set_option maxRecDepth 100000 in
theorem c_X7_meets (l : Launch) (dC : Nat → ClassId) (dI : Nat → Nat → Nat) (sz : Nat) (x : Nat) (a0 : Int32) (v : Nat → Value) (h : Nat) (g : Nat → Value) (w : Nat) (pw : Nat → Value) : Met l yX7_meets wsX7_meets ({ frames := 2, cells := 0, slots := 0, locals := 43 }) (va_Pc [.ref x, .int a0] (ax_C dC dI sz [(x, .inr (7, [v 0, v 1, v 2, v 3, v 4, v 5, v 6, .ref h, v 8, v 9, v 10])), (h, .inr (0, [.int 0, g 1, g 2, g 3, g 4, g 5, g 6, g 7, g 8, g 9, g 10, g 11, g 12, g 13, .ref w])), (w, .inr (6, [.int 0, pw 1, pw 2, pw 3]))] [] (fun _ => True))) (va_Qi (fun (r : Int32) (_ : Unit) => r = -1) (fun (_ : Unit) (t : State) => ax_B dC dI (va_A [(x, .inr (7, [v 0, v 1, v 2, v 3, v 4, v 5, v 6, .ref h, v 8, v 9, v 10])), (h, .inr (0, [.int 0, g 1, g 2, g 3, g 4, g 5, g 6, g 7, g 8, g 9, g 10, g 11, g 12, g 13, .ref w])), (w, .inr (6, [.int 0, pw 1, pw 2, pw 3]))] sz) [] [] t) (va_A [(x, .inr (7, [v 0, v 1, v 2, v 3, v 4, v 5, v 6, .ref h, v 8, v 9, v 10])), (h, .inr (0, [.int 0, g 1, g 2, g 3, g 4, g 5, g 6, g 7, g 8, g 9, g 10, g 11, g 12, g 13, .ref w])), (w, .inr (6, [.int 0, pw 1, pw 2, pw 3]))] sz)) 0 0 (va_A [(x, .inr (7, [v 0, v 1, v 2, v 3, v 4, v 5, v 6, .ref h, v 8, v 9, v 10])), (h, .inr (0, [.int 0, g 1, g 2, g 3, g 4, g 5, g 6, g 7, g 8, g 9, g 10, g 11, g 12, g 13, .ref w])), (w, .inr (6, [.int 0, pw 1, pw 2, pw 3]))] sz) := by
  refine Met.ofW (cc := cX7_meets) (maxL := 4) (ret := (some .int)) (by decide) rfl ?_
  intro p e s m args below meth c s₁ B hml hv
  obtain ⟨rfl, hsz, hP, hK, hD0, hE⟩ := hv
  have hx := B.exec
  have hb := B.bytes
  have hr := B.returns
  have hts := atoms_spec (ws := wsX7_meets) B.pre
  have hown : s.vm.findClass RX7 = some m.cls := findClass_of_methodNamed B.named
  have hlocks := B.notSynchronized
  subst hsz
  have hD := hD0.self (sz := s.heap.size)
  generalize hAe : va_A [(x, .inr (7, [v 0, v 1, v 2, v 3, v 4, v 5, v 6, .ref h, v 8, v 9, v 10])), (h, .inr (0, [.int 0, g 1, g 2, g 3, g 4, g 5, g 6, g 7, g 8, g 9, g 10, g 11, g 12, g 13, .ref w])), (w, .inr (6, [.int 0, pw 1, pw 2, pw 3]))] s.heap.size = A at hD ⊢
  have hA : ∀ q : Nat, s.heap.size ≤ q → A q := fun q h => by rw [← hAe]; exact Or.inr h
  have hS : va_S A s.heap s.heap [] := va_S.rf
  have hP : va_P (dC, dI) vwCl [(x, .inr (7, [v 0, v 1, v 2, v 3, v 4, v 5, v 6, .ref h, v 8, v 9, v 10])), (h, .inr (0, [.int 0, g 1, g 2, g 3, g 4, g 5, g 6, g 7, g 8, g 9, g 10, g 11, g 12, g 13, .ref w])), (w, .inr (6, [.int 0, pw 1, pw 2, pw 3]))] s.heap := hP
  have hl := lv_entry ([.ref x, .int a0]) (n := 4) (Nat.le_of_ble_eq_true rfl)
  rw [lg_entry_eq]
  generalize (lg_sl ([.ref x, .int a0]) ++ List.replicate (4 - (lg_sl ([.ref x, .int a0])).length) Slot.unset).toArray = ls at hl ⊢
  have hl : lv_has ls 4 [(0, .ref x), (1, .int a0)] := hl
  refine lv_aload_n hx hb dX7_meets_0 rfl (lv_at hl 0 rfl) ?_
  refine lv_iload_n hx hb dX7_meets_1 rfl (lv_at hl 1 rfl) ?_
  have hPc := hP.sub (ws' := [(x, .inr (7, [v 0, v 1, v 2, v 3, v 4, v 5, v 6, .ref h, v 8, v 9, v 10])), (h, .inr (0, [.int 0, g 1, g 2, g 3, g 4, g 5, g 6, g 7, g 8, g 9, g 10, g 11, g 12, g 13, .ref w])), (w, .inr (6, [.int 0, pw 1, pw 2, pw 3]))]) [0, 1, 2] rfl
  have hDc := hD.sub (ws' := [(x, .inr (7, [v 0, v 1, v 2, v 3, v 4, v 5, v 6, .ref h, v 8, v 9, v 10])), (h, .inr (0, [.int 0, g 1, g 2, g 3, g 4, g 5, g 6, g 7, g 8, g 9, g 10, g 11, g 12, g 13, .ref w])), (w, .inr (6, [.int 0, pw 1, pw 2, pw 3]))]) [0, 1, 2] (by decide) rfl
  have hKc := hK.sub (tys' := []) [] rfl
  have hFc := va_free (wc := [(x, .inr (7, [v 0, v 1, v 2, v 3, v 4, v 5, v 6, .ref h, v 8, v 9, v 10])), (h, .inr (0, [.int 0, g 1, g 2, g 3, g 4, g 5, g 6, g 7, g 8, g 9, g 10, g 11, g 12, g 13, .ref w])), (w, .inr (6, [.int 0, pw 1, pw 2, pw 3]))]) hD hS hA [0, 1, 2] rfl
  refine va_calli (va_runV (As := [.int a0]) (rest := []) ⟨hx, hb, hml, hown, hts⟩ (c_X7_isWatcher l dC dI s.heap.size x a0 v h g w pw ) (cwV 1 hts gX7_meets_X7_isWatcher rfl rfl rfl (by decide +kernel) ⟨Nat.le_of_ble_eq_true rfl, Nat.le_of_ble_eq_true rfl⟩) ⟨ax_blind (fun _ _ _ _ _ => trivial), va_recv hKc hPc (ci := 7) (q0 := 0) rfl rfl, ax_pre hPc hKc hDc (fun _ _ => trivial)⟩ rfl rfl hl.1 rfl (lv_room (Nat.le_of_ble_eq_true rfl)) dX7_meets_2 ⟨Nat.le_of_ble_eq_true rfl, Nat.le_of_ble_eq_true rfl⟩) hS (fun q _ h => hFc q h) hFc (fun r_1 u t H1 locs ht hvm hw hB hz1 hk1 hS => ?_)
  obtain ⟨hP1, hK1, hD1⟩ := hB
  rw [ht] at hP1
  have hK1 := va_K.moved hvm.symm hK1
  obtain ⟨hP, hD⟩ := va_join (wr := []) (w1 := [(x, .inr (7, [v 0, v 1, v 2, v 3, v 4, v 5, v 6, .ref h, v 8, v 9, v 10])), (h, .inr (0, [.int 0, g 1, g 2, g 3, g 4, g 5, g 6, g 7, g 8, g 9, g 10, g 11, g 12, g 13, .ref w])), (w, .inr (6, [.int 0, pw 1, pw 2, pw 3]))]) hP hD [0, 1, 2] [] rfl rfl (by decide) (by decide) hk1 hFc hP1 hD1
  have hK := (hK.sub (tys' := []) [] rfl).app hK1
  generalize H1 = H at hP hS ⊢
  have hP : va_P (dC, dI) vwCl [(x, .inr (7, [v 0, v 1, v 2, v 3, v 4, v 5, v 6, .ref h, v 8, v 9, v 10])), (h, .inr (0, [.int 0, g 1, g 2, g 3, g 4, g 5, g 6, g 7, g 8, g 9, g 10, g 11, g 12, g 13, .ref w])), (w, .inr (6, [.int 0, pw 1, pw 2, pw 3]))] H := hP
  have hD : va_D A [(x, .inr (7, [v 0, v 1, v 2, v 3, v 4, v 5, v 6, .ref h, v 8, v 9, v 10])), (h, .inr (0, [.int 0, g 1, g 2, g 3, g 4, g 5, g 6, g 7, g 8, g 9, g 10, g 11, g 12, g 13, .ref w])), (w, .inr (6, [.int 0, pw 1, pw 2, pw 3]))] := hD
  have hK : va_K (dC, dI) vwCl [] s := hK
  have hw : r_1 = 0 := hw
  subst hw
  refine lv_if_ne (tgt := 14) hx hb dX7_meets_5 (by decide) (fun c_2 => absurd (by decide +kernel) c_2) (fun _ => ?_)
  refine lv_aload_n hx hb dX7_meets_8 rfl (lv_at hl 0 rfl) ?_
  refine lv_iconst (v := 1) hx hb dX7_meets_9 (by decide) ?_
  have hPc := hP.sub (ws' := [(x, .inr (7, [v 0, v 1, v 2, v 3, v 4, v 5, v 6, .ref h, v 8, v 9, v 10]))]) [0] rfl
  have hDc := hD.sub (ws' := [(x, .inr (7, [v 0, v 1, v 2, v 3, v 4, v 5, v 6, .ref h, v 8, v 9, v 10]))]) [0] (by decide) rfl
  have hKc := hK.sub (tys' := []) [] rfl
  have hFc := va_free (wc := [(x, .inr (7, [v 0, v 1, v 2, v 3, v 4, v 5, v 6, .ref h, v 8, v 9, v 10]))]) hD hS hA [0] rfl
  refine va_calli (va_runV (As := [.int 1]) (rest := []) ⟨hx, hb, hml, hown, hts⟩ (c_X7_refused l dC dI H.size x 1 (fun i9 => ([v 0, v 1, v 2, v 3, v 4, v 5, v 6, .ref h, v 8, v 9, v 10] : List Value).getD i9 .null) ) (cwV 1 hts gX7_meets_X7_refused rfl rfl rfl (by decide +kernel) ⟨Nat.le_of_ble_eq_true rfl, Nat.le_of_ble_eq_true rfl⟩) ⟨ax_blind (fun _ _ _ _ _ => trivial), va_recv hKc hPc (ci := 7) (q0 := 0) rfl rfl, ax_pre hPc hKc hDc (fun _ _ => trivial)⟩ rfl rfl hl.1 rfl (lv_room (Nat.le_of_ble_eq_true rfl)) dX7_meets_10 ⟨Nat.le_of_ble_eq_true rfl, Nat.le_of_ble_eq_true rfl⟩) hS (fun q _ h => hFc q h) hFc (fun r_3 u t H1 locs ht hvm hw hB hz1 hk1 hS => ?_)
  obtain ⟨hP1, hK1, hD1⟩ := hB
  rw [ht] at hP1
  have hK1 := va_K.moved hvm.symm hK1
  obtain ⟨hP, hD⟩ := va_join (wr := [(h, .inr (0, [.int 0, g 1, g 2, g 3, g 4, g 5, g 6, g 7, g 8, g 9, g 10, g 11, g 12, g 13, .ref w])), (w, .inr (6, [.int 0, pw 1, pw 2, pw 3]))]) (w1 := []) hP hD [0] [1, 2] rfl rfl (by decide) (by decide) hk1 hFc hP1 hD1
  have hK := (hK.sub (tys' := []) [] rfl).app hK1
  generalize H1 = H at hP hS ⊢
  have hP : va_P (dC, dI) vwCl [(h, .inr (0, [.int 0, g 1, g 2, g 3, g 4, g 5, g 6, g 7, g 8, g 9, g 10, g 11, g 12, g 13, .ref w])), (w, .inr (6, [.int 0, pw 1, pw 2, pw 3]))] H := hP
  have hD : va_D A [(h, .inr (0, [.int 0, g 1, g 2, g 3, g 4, g 5, g 6, g 7, g 8, g 9, g 10, g 11, g 12, g 13, .ref w])), (w, .inr (6, [.int 0, pw 1, pw 2, pw 3]))] := hD
  have hK : va_K (dC, dI) vwCl [] s := hK
  have hw : r_3 = (-1) := hw
  subst hw
  have hP9 := hP.sub (ws' := []) [] rfl
  have hD9 := hD.sub (ws' := []) [] (by decide) rfl
  have hK9 := hK.sub (tys' := []) [] rfl
  exact W.iret (v := (-1)) hx hb hr (fun t ht hW => ⟨⟨(-1), (), rfl, rfl, by rw [ht]; exact hP9, va_K.moved hW.alike hK9, hD9⟩, hS.F ht⟩) hS.2.2 dX7_meets_13

set_option maxHeartbeats 4000000 in
set_option maxRecDepth 100000 in
theorem c_X7_patrol (l : Launch) (dC : Nat → ClassId) (dI : Nat → Nat → Nat) (sz : Nat) (x : Nat) (a0 : Int32) (a1 : Int32) (v : Nat → Value) (h : Nat) (g : Nat → Value) (w : Nat) (pw : Nat → Value) : Met l yX7_patrol wsX7_patrol ({ frames := 2, cells := 0, slots := 0, locals := 43 }) (va_Pc [.ref x, .int a0, .int a1] (ax_C dC dI sz [(x, .inr (7, [v 0, v 1, v 2, v 3, v 4, v 5, v 6, .ref h, v 8, v 9, v 10])), (h, .inr (0, [.int 0, g 1, g 2, g 3, g 4, g 5, g 6, g 7, g 8, g 9, g 10, g 11, g 12, g 13, .ref w])), (w, .inr (6, [.int 0, pw 1, pw 2, pw 3]))] [] (fun _ => True))) (va_Qi (fun (r : Int32) (_ : Unit) => r = -1) (fun (_ : Unit) (t : State) => ax_B dC dI (va_A [(x, .inr (7, [v 0, v 1, v 2, v 3, v 4, v 5, v 6, .ref h, v 8, v 9, v 10])), (h, .inr (0, [.int 0, g 1, g 2, g 3, g 4, g 5, g 6, g 7, g 8, g 9, g 10, g 11, g 12, g 13, .ref w])), (w, .inr (6, [.int 0, pw 1, pw 2, pw 3]))] sz) [] [] t) (va_A [(x, .inr (7, [v 0, v 1, v 2, v 3, v 4, v 5, v 6, .ref h, v 8, v 9, v 10])), (h, .inr (0, [.int 0, g 1, g 2, g 3, g 4, g 5, g 6, g 7, g 8, g 9, g 10, g 11, g 12, g 13, .ref w])), (w, .inr (6, [.int 0, pw 1, pw 2, pw 3]))] sz)) 0 0 (va_A [(x, .inr (7, [v 0, v 1, v 2, v 3, v 4, v 5, v 6, .ref h, v 8, v 9, v 10])), (h, .inr (0, [.int 0, g 1, g 2, g 3, g 4, g 5, g 6, g 7, g 8, g 9, g 10, g 11, g 12, g 13, .ref w])), (w, .inr (6, [.int 0, pw 1, pw 2, pw 3]))] sz) := by
  refine Met.ofW (cc := cX7_patrol) (maxL := 9) (ret := (some .int)) (by decide) rfl ?_
  intro p e s m args below meth c s₁ B hml hv
  obtain ⟨rfl, hsz, hP, hK, hD0, hE⟩ := hv
  have hx := B.exec
  have hb := B.bytes
  have hr := B.returns
  have hts := atoms_spec (ws := wsX7_patrol) B.pre
  have hown : s.vm.findClass RX7 = some m.cls := findClass_of_methodNamed B.named
  have hlocks := B.notSynchronized
  subst hsz
  have hD := hD0.self (sz := s.heap.size)
  generalize hAe : va_A [(x, .inr (7, [v 0, v 1, v 2, v 3, v 4, v 5, v 6, .ref h, v 8, v 9, v 10])), (h, .inr (0, [.int 0, g 1, g 2, g 3, g 4, g 5, g 6, g 7, g 8, g 9, g 10, g 11, g 12, g 13, .ref w])), (w, .inr (6, [.int 0, pw 1, pw 2, pw 3]))] s.heap.size = A at hD ⊢
  have hA : ∀ q : Nat, s.heap.size ≤ q → A q := fun q h => by rw [← hAe]; exact Or.inr h
  have hS : va_S A s.heap s.heap [] := va_S.rf
  have hP : va_P (dC, dI) vwCl [(x, .inr (7, [v 0, v 1, v 2, v 3, v 4, v 5, v 6, .ref h, v 8, v 9, v 10])), (h, .inr (0, [.int 0, g 1, g 2, g 3, g 4, g 5, g 6, g 7, g 8, g 9, g 10, g 11, g 12, g 13, .ref w])), (w, .inr (6, [.int 0, pw 1, pw 2, pw 3]))] s.heap := hP
  have hl := lv_entry ([.ref x, .int a0, .int a1]) (n := 9) (Nat.le_of_ble_eq_true rfl)
  rw [lg_entry_eq]
  generalize (lg_sl ([.ref x, .int a0, .int a1]) ++ List.replicate (9 - (lg_sl ([.ref x, .int a0, .int a1])).length) Slot.unset).toArray = ls at hl ⊢
  have hl : lv_has ls 9 [(0, .ref x), (1, .int a0), (2, .int a1)] := hl
  refine lv_aload_n hx hb dX7_patrol_0 rfl (lv_at hl 0 rfl) ?_
  refine lv_iload_n hx hb dX7_patrol_1 rfl (lv_at hl 1 rfl) ?_
  have hPc := hP.sub (ws' := [(x, .inr (7, [v 0, v 1, v 2, v 3, v 4, v 5, v 6, .ref h, v 8, v 9, v 10])), (h, .inr (0, [.int 0, g 1, g 2, g 3, g 4, g 5, g 6, g 7, g 8, g 9, g 10, g 11, g 12, g 13, .ref w])), (w, .inr (6, [.int 0, pw 1, pw 2, pw 3]))]) [0, 1, 2] rfl
  have hDc := hD.sub (ws' := [(x, .inr (7, [v 0, v 1, v 2, v 3, v 4, v 5, v 6, .ref h, v 8, v 9, v 10])), (h, .inr (0, [.int 0, g 1, g 2, g 3, g 4, g 5, g 6, g 7, g 8, g 9, g 10, g 11, g 12, g 13, .ref w])), (w, .inr (6, [.int 0, pw 1, pw 2, pw 3]))]) [0, 1, 2] (by decide) rfl
  have hKc := hK.sub (tys' := []) [] rfl
  have hFc := va_free (wc := [(x, .inr (7, [v 0, v 1, v 2, v 3, v 4, v 5, v 6, .ref h, v 8, v 9, v 10])), (h, .inr (0, [.int 0, g 1, g 2, g 3, g 4, g 5, g 6, g 7, g 8, g 9, g 10, g 11, g 12, g 13, .ref w])), (w, .inr (6, [.int 0, pw 1, pw 2, pw 3]))]) hD hS hA [0, 1, 2] rfl
  refine va_calli (va_runV (As := [.int a0]) (rest := []) ⟨hx, hb, hml, hown, hts⟩ (c_X7_isWatcher l dC dI s.heap.size x a0 v h g w pw ) (cwV 1 hts gX7_patrol_X7_isWatcher rfl rfl rfl (by decide +kernel) ⟨Nat.le_of_ble_eq_true rfl, Nat.le_of_ble_eq_true rfl⟩) ⟨ax_blind (fun _ _ _ _ _ => trivial), va_recv hKc hPc (ci := 7) (q0 := 0) rfl rfl, ax_pre hPc hKc hDc (fun _ _ => trivial)⟩ rfl rfl hl.1 rfl (lv_room (Nat.le_of_ble_eq_true rfl)) dX7_patrol_2 ⟨Nat.le_of_ble_eq_true rfl, Nat.le_of_ble_eq_true rfl⟩) hS (fun q _ h => hFc q h) hFc (fun r_1 u t H1 locs ht hvm hw hB hz1 hk1 hS => ?_)
  obtain ⟨hP1, hK1, hD1⟩ := hB
  rw [ht] at hP1
  have hK1 := va_K.moved hvm.symm hK1
  obtain ⟨hP, hD⟩ := va_join (wr := []) (w1 := [(x, .inr (7, [v 0, v 1, v 2, v 3, v 4, v 5, v 6, .ref h, v 8, v 9, v 10])), (h, .inr (0, [.int 0, g 1, g 2, g 3, g 4, g 5, g 6, g 7, g 8, g 9, g 10, g 11, g 12, g 13, .ref w])), (w, .inr (6, [.int 0, pw 1, pw 2, pw 3]))]) hP hD [0, 1, 2] [] rfl rfl (by decide) (by decide) hk1 hFc hP1 hD1
  have hK := (hK.sub (tys' := []) [] rfl).app hK1
  generalize H1 = H at hP hS ⊢
  have hP : va_P (dC, dI) vwCl [(x, .inr (7, [v 0, v 1, v 2, v 3, v 4, v 5, v 6, .ref h, v 8, v 9, v 10])), (h, .inr (0, [.int 0, g 1, g 2, g 3, g 4, g 5, g 6, g 7, g 8, g 9, g 10, g 11, g 12, g 13, .ref w])), (w, .inr (6, [.int 0, pw 1, pw 2, pw 3]))] H := hP
  have hD : va_D A [(x, .inr (7, [v 0, v 1, v 2, v 3, v 4, v 5, v 6, .ref h, v 8, v 9, v 10])), (h, .inr (0, [.int 0, g 1, g 2, g 3, g 4, g 5, g 6, g 7, g 8, g 9, g 10, g 11, g 12, g 13, .ref w])), (w, .inr (6, [.int 0, pw 1, pw 2, pw 3]))] := hD
  have hK : va_K (dC, dI) vwCl [] s := hK
  have hw : r_1 = 0 := hw
  subst hw
  refine lv_if_ne (tgt := 14) hx hb dX7_patrol_5 (by decide) (fun c_2 => absurd (by decide +kernel) c_2) (fun _ => ?_)
  refine lv_aload_n hx hb dX7_patrol_8 rfl (lv_at hl 0 rfl) ?_
  refine lv_iconst (v := 1) hx hb dX7_patrol_9 (by decide) ?_
  have hPc := hP.sub (ws' := [(x, .inr (7, [v 0, v 1, v 2, v 3, v 4, v 5, v 6, .ref h, v 8, v 9, v 10]))]) [0] rfl
  have hDc := hD.sub (ws' := [(x, .inr (7, [v 0, v 1, v 2, v 3, v 4, v 5, v 6, .ref h, v 8, v 9, v 10]))]) [0] (by decide) rfl
  have hKc := hK.sub (tys' := []) [] rfl
  have hFc := va_free (wc := [(x, .inr (7, [v 0, v 1, v 2, v 3, v 4, v 5, v 6, .ref h, v 8, v 9, v 10]))]) hD hS hA [0] rfl
  refine va_calli (va_runV (As := [.int 1]) (rest := []) ⟨hx, hb, hml, hown, hts⟩ (c_X7_refused l dC dI H.size x 1 (fun i9 => ([v 0, v 1, v 2, v 3, v 4, v 5, v 6, .ref h, v 8, v 9, v 10] : List Value).getD i9 .null) ) (cwV 1 hts gX7_patrol_X7_refused rfl rfl rfl (by decide +kernel) ⟨Nat.le_of_ble_eq_true rfl, Nat.le_of_ble_eq_true rfl⟩) ⟨ax_blind (fun _ _ _ _ _ => trivial), va_recv hKc hPc (ci := 7) (q0 := 0) rfl rfl, ax_pre hPc hKc hDc (fun _ _ => trivial)⟩ rfl rfl hl.1 rfl (lv_room (Nat.le_of_ble_eq_true rfl)) dX7_patrol_10 ⟨Nat.le_of_ble_eq_true rfl, Nat.le_of_ble_eq_true rfl⟩) hS (fun q _ h => hFc q h) hFc (fun r_3 u t H1 locs ht hvm hw hB hz1 hk1 hS => ?_)
  obtain ⟨hP1, hK1, hD1⟩ := hB
  rw [ht] at hP1
  have hK1 := va_K.moved hvm.symm hK1
  obtain ⟨hP, hD⟩ := va_join (wr := [(h, .inr (0, [.int 0, g 1, g 2, g 3, g 4, g 5, g 6, g 7, g 8, g 9, g 10, g 11, g 12, g 13, .ref w])), (w, .inr (6, [.int 0, pw 1, pw 2, pw 3]))]) (w1 := []) hP hD [0] [1, 2] rfl rfl (by decide) (by decide) hk1 hFc hP1 hD1
  have hK := (hK.sub (tys' := []) [] rfl).app hK1
  generalize H1 = H at hP hS ⊢
  have hP : va_P (dC, dI) vwCl [(h, .inr (0, [.int 0, g 1, g 2, g 3, g 4, g 5, g 6, g 7, g 8, g 9, g 10, g 11, g 12, g 13, .ref w])), (w, .inr (6, [.int 0, pw 1, pw 2, pw 3]))] H := hP
  have hD : va_D A [(h, .inr (0, [.int 0, g 1, g 2, g 3, g 4, g 5, g 6, g 7, g 8, g 9, g 10, g 11, g 12, g 13, .ref w])), (w, .inr (6, [.int 0, pw 1, pw 2, pw 3]))] := hD
  have hK : va_K (dC, dI) vwCl [] s := hK
  have hw : r_3 = (-1) := hw
  subst hw
  have hP9 := hP.sub (ws' := []) [] rfl
  have hD9 := hD.sub (ws' := []) [] (by decide) rfl
  have hK9 := hK.sub (tys' := []) [] rfl
  exact W.iret (v := (-1)) hx hb hr (fun t ht hW => ⟨⟨(-1), (), rfl, rfl, by rw [ht]; exact hP9, va_K.moved hW.alike hK9, hD9⟩, hS.F ht⟩) hS.2.2 dX7_patrol_13

set_option maxHeartbeats 4000000 in
set_option maxRecDepth 100000 in
theorem c_X7_odds (l : Launch) (dC : Nat → ClassId) (dI : Nat → Nat → Nat) (sz : Nat) (x : Nat) (a0 : Int32) (a1 : Int32) (a2 : Int32) (v : Nat → Value) (h : Nat) (g : Nat → Value) : Met l yX7_odds wsX7_odds ({ frames := 3, cells := 0, slots := 0, locals := 66 }) (va_Pc [.ref x, .int a0, .int a1, .int a2] (ax_C dC dI sz [(x, .inr (7, [v 0, v 1, v 2, v 3, v 4, v 5, v 6, .ref h, v 8, v 9, v 10])), (h, .inr (0, [.int 0, g 1, g 2, g 3, g 4, g 5, g 6, g 7, g 8, g 9, g 10, g 11, g 12, g 13, g 14]))] [] (fun _ => True))) (va_Ql (fun (r : Int64) (_ : Unit) => r = -1) (fun (_ : Unit) (t : State) => ax_B dC dI (va_A [(x, .inr (7, [v 0, v 1, v 2, v 3, v 4, v 5, v 6, .ref h, v 8, v 9, v 10])), (h, .inr (0, [.int 0, g 1, g 2, g 3, g 4, g 5, g 6, g 7, g 8, g 9, g 10, g 11, g 12, g 13, g 14]))] sz) [] [] t) (va_A [(x, .inr (7, [v 0, v 1, v 2, v 3, v 4, v 5, v 6, .ref h, v 8, v 9, v 10])), (h, .inr (0, [.int 0, g 1, g 2, g 3, g 4, g 5, g 6, g 7, g 8, g 9, g 10, g 11, g 12, g 13, g 14]))] sz)) 0 0 (va_A [(x, .inr (7, [v 0, v 1, v 2, v 3, v 4, v 5, v 6, .ref h, v 8, v 9, v 10])), (h, .inr (0, [.int 0, g 1, g 2, g 3, g 4, g 5, g 6, g 7, g 8, g 9, g 10, g 11, g 12, g 13, g 14]))] sz) := by
  refine Met.ofW (cc := cX7_odds) (maxL := 11) (ret := (some .long)) (by decide) rfl ?_
  intro p e s m args below meth c s₁ B hml hv
  obtain ⟨rfl, hsz, hP, hK, hD0, hE⟩ := hv
  have hx := B.exec
  have hb := B.bytes
  have hr := B.returns
  have hts := atoms_spec (ws := wsX7_odds) B.pre
  have hown : s.vm.findClass RX7 = some m.cls := findClass_of_methodNamed B.named
  have hlocks := B.notSynchronized
  subst hsz
  have hD := hD0.self (sz := s.heap.size)
  generalize hAe : va_A [(x, .inr (7, [v 0, v 1, v 2, v 3, v 4, v 5, v 6, .ref h, v 8, v 9, v 10])), (h, .inr (0, [.int 0, g 1, g 2, g 3, g 4, g 5, g 6, g 7, g 8, g 9, g 10, g 11, g 12, g 13, g 14]))] s.heap.size = A at hD ⊢
  have hA : ∀ q : Nat, s.heap.size ≤ q → A q := fun q h => by rw [← hAe]; exact Or.inr h
  have hS : va_S A s.heap s.heap [] := va_S.rf
  have hP : va_P (dC, dI) vwCl [(x, .inr (7, [v 0, v 1, v 2, v 3, v 4, v 5, v 6, .ref h, v 8, v 9, v 10])), (h, .inr (0, [.int 0, g 1, g 2, g 3, g 4, g 5, g 6, g 7, g 8, g 9, g 10, g 11, g 12, g 13, g 14]))] s.heap := hP
  have hl := lv_entry ([.ref x, .int a0, .int a1, .int a2]) (n := 11) (Nat.le_of_ble_eq_true rfl)
  rw [lg_entry_eq]
  generalize (lg_sl ([.ref x, .int a0, .int a1, .int a2]) ++ List.replicate (11 - (lg_sl ([.ref x, .int a0, .int a1, .int a2])).length) Slot.unset).toArray = ls at hl ⊢
  have hl : lv_has ls 11 [(0, .ref x), (1, .int a0), (2, .int a1), (3, .int a2)] := hl
  refine lv_aload_n hx hb dX7_odds_0 rfl (lv_at hl 0 rfl) ?_
  refine lv_iload_n hx hb dX7_odds_1 rfl (lv_at hl 1 rfl) ?_
  refine lv_iload_n hx hb dX7_odds_2 rfl (lv_at hl 2 rfl) ?_
  refine lv_bipush (v := 8) hx hb dX7_odds_3 (by decide) ?_
  have hPc := hP.sub (ws' := [(x, .inr (7, [v 0, v 1, v 2, v 3, v 4, v 5, v 6, .ref h, v 8, v 9, v 10])), (h, .inr (0, [.int 0, g 1, g 2, g 3, g 4, g 5, g 6, g 7, g 8, g 9, g 10, g 11, g 12, g 13, g 14]))]) [0, 1] rfl
  have hDc := hD.sub (ws' := [(x, .inr (7, [v 0, v 1, v 2, v 3, v 4, v 5, v 6, .ref h, v 8, v 9, v 10])), (h, .inr (0, [.int 0, g 1, g 2, g 3, g 4, g 5, g 6, g 7, g 8, g 9, g 10, g 11, g 12, g 13, g 14]))]) [0, 1] (by decide) rfl
  have hKc := hK.sub (tys' := []) [] rfl
  have hFc := va_free (wc := [(x, .inr (7, [v 0, v 1, v 2, v 3, v 4, v 5, v 6, .ref h, v 8, v 9, v 10])), (h, .inr (0, [.int 0, g 1, g 2, g 3, g 4, g 5, g 6, g 7, g 8, g 9, g 10, g 11, g 12, g 13, g 14]))]) hD hS hA [0, 1] rfl
  refine va_calli (va_runV (As := [.int a0, .int a1, .int 8]) (rest := []) ⟨hx, hb, hml, hown, hts⟩ (c_X7_troubleOfFigureWithin l dC dI s.heap.size x a0 a1 8 v h g ) (cwV 3 hts gX7_odds_X7_troubleOfFigureWithin rfl rfl rfl (by decide +kernel) ⟨Nat.le_of_ble_eq_true rfl, Nat.le_of_ble_eq_true rfl⟩) ⟨ax_blind (fun _ _ _ _ _ => trivial), va_recv hKc hPc (ci := 7) (q0 := 0) rfl rfl, ax_pre hPc hKc hDc (fun _ _ => trivial)⟩ rfl rfl hl.1 rfl (lv_room (Nat.le_of_ble_eq_true rfl)) dX7_odds_5 ⟨Nat.le_of_ble_eq_true rfl, Nat.le_of_ble_eq_true rfl⟩) hS (fun q _ h => hFc q h) hFc (fun r_1 u t H1 locs ht hvm hw hB hz1 hk1 hS => ?_)
  obtain ⟨hP1, hK1, hD1⟩ := hB
  rw [ht] at hP1
  have hK1 := va_K.moved hvm.symm hK1
  obtain ⟨hP, hD⟩ := va_join (wr := []) (w1 := [(x, .inr (7, [v 0, v 1, v 2, v 3, v 4, v 5, v 6, .ref h, v 8, v 9, v 10])), (h, .inr (0, [.int 0, g 1, g 2, g 3, g 4, g 5, g 6, g 7, g 8, g 9, g 10, g 11, g 12, g 13, g 14]))]) hP hD [0, 1] [] rfl rfl (by decide) (by decide) hk1 hFc hP1 hD1
  have hK := (hK.sub (tys' := []) [] rfl).app hK1
  generalize H1 = H at hP hS ⊢
  have hP : va_P (dC, dI) vwCl [(x, .inr (7, [v 0, v 1, v 2, v 3, v 4, v 5, v 6, .ref h, v 8, v 9, v 10])), (h, .inr (0, [.int 0, g 1, g 2, g 3, g 4, g 5, g 6, g 7, g 8, g 9, g 10, g 11, g 12, g 13, g 14]))] H := hP
  have hD : va_D A [(x, .inr (7, [v 0, v 1, v 2, v 3, v 4, v 5, v 6, .ref h, v 8, v 9, v 10])), (h, .inr (0, [.int 0, g 1, g 2, g 3, g 4, g 5, g 6, g 7, g 8, g 9, g 10, g 11, g 12, g 13, g 14]))] := hD
  have hK : va_K (dC, dI) vwCl [] s := hK
  have hw : r_1 = 1 := hw
  subst hw
  refine lv_istore (lv' := [(4, .int 1), (0, .ref x), (1, .int a0), (2, .int a1), (3, .int a2)]) hx hb dX7_odds_8 hl (by decide) rfl (fun ls hl => ?_)
  refine lv_iload hx hb dX7_odds_10 (lv_at hl 0 rfl) ?_
  refine lv_if_eq (tgt := 23) hx hb dX7_odds_12 (by decide) (fun c_2 => absurd c_2 (by decide +kernel)) (fun _ => ?_)
  refine lv_aload_n hx hb dX7_odds_15 rfl (lv_at hl 1 rfl) ?_
  refine lv_iload hx hb dX7_odds_16 (lv_at hl 0 rfl) ?_
  have hPc := hP.sub (ws' := [(x, .inr (7, [v 0, v 1, v 2, v 3, v 4, v 5, v 6, .ref h, v 8, v 9, v 10]))]) [0] rfl
  have hDc := hD.sub (ws' := [(x, .inr (7, [v 0, v 1, v 2, v 3, v 4, v 5, v 6, .ref h, v 8, v 9, v 10]))]) [0] (by decide) rfl
  have hKc := hK.sub (tys' := []) [] rfl
  have hFc := va_free (wc := [(x, .inr (7, [v 0, v 1, v 2, v 3, v 4, v 5, v 6, .ref h, v 8, v 9, v 10]))]) hD hS hA [0] rfl
  refine va_calli (va_runV (As := [.int 1]) (rest := []) ⟨hx, hb, hml, hown, hts⟩ (c_X7_refused l dC dI H.size x 1 (fun i9 => ([v 0, v 1, v 2, v 3, v 4, v 5, v 6, .ref h, v 8, v 9, v 10] : List Value).getD i9 .null) ) (cwV 1 hts gX7_odds_X7_refused rfl rfl rfl (by decide +kernel) ⟨Nat.le_of_ble_eq_true rfl, Nat.le_of_ble_eq_true rfl⟩) ⟨ax_blind (fun _ _ _ _ _ => trivial), va_recv hKc hPc (ci := 7) (q0 := 0) rfl rfl, ax_pre hPc hKc hDc (fun _ _ => trivial)⟩ rfl rfl hl.1 rfl (lv_room (Nat.le_of_ble_eq_true rfl)) dX7_odds_18 ⟨Nat.le_of_ble_eq_true rfl, Nat.le_of_ble_eq_true rfl⟩) hS (fun q _ h => hFc q h) hFc (fun r_3 u t H1 locs ht hvm hw hB hz1 hk1 hS => ?_)
  obtain ⟨hP1, hK1, hD1⟩ := hB
  rw [ht] at hP1
  have hK1 := va_K.moved hvm.symm hK1
  obtain ⟨hP, hD⟩ := va_join (wr := [(h, .inr (0, [.int 0, g 1, g 2, g 3, g 4, g 5, g 6, g 7, g 8, g 9, g 10, g 11, g 12, g 13, g 14]))]) (w1 := []) hP hD [0] [1] rfl rfl (by decide) (by decide) hk1 hFc hP1 hD1
  have hK := (hK.sub (tys' := []) [] rfl).app hK1
  generalize H1 = H at hP hS ⊢
  have hP : va_P (dC, dI) vwCl [(h, .inr (0, [.int 0, g 1, g 2, g 3, g 4, g 5, g 6, g 7, g 8, g 9, g 10, g 11, g 12, g 13, g 14]))] H := hP
  have hD : va_D A [(h, .inr (0, [.int 0, g 1, g 2, g 3, g 4, g 5, g 6, g 7, g 8, g 9, g 10, g 11, g 12, g 13, g 14]))] := hD
  have hK : va_K (dC, dI) vwCl [] s := hK
  have hw : r_3 = (-1) := hw
  subst hw
  refine lv_i2l (v := (-1)) hx hb dX7_odds_21 (by decide +kernel) ?_
  have hP9 := hP.sub (ws' := []) [] rfl
  have hD9 := hD.sub (ws' := []) [] (by decide) rfl
  have hK9 := hK.sub (tys' := []) [] rfl
  exact W.lret (v := (-1)) hx hb hr (fun t ht hW => ⟨⟨(-1), (), rfl, rfl, by rw [ht]; exact hP9, va_K.moved hW.alike hK9, hD9⟩, hS.F ht⟩) hS.2.2 dX7_odds_22

set_option maxHeartbeats 4000000 in
set_option maxRecDepth 100000 in
theorem c_X7_mean (l : Launch) (dC : Nat → ClassId) (dI : Nat → Nat → Nat) (sz : Nat) (x : Nat) (a0 : Int32) (a1 : Int32) (a2 : Int32) (v : Nat → Value) (h : Nat) (g : Nat → Value) : Met l yX7_mean wsX7_mean ({ frames := 3, cells := 0, slots := 0, locals := 66 }) (va_Pc [.ref x, .int a0, .int a1, .int a2] (ax_C dC dI sz [(x, .inr (7, [v 0, v 1, v 2, v 3, v 4, v 5, v 6, .ref h, v 8, v 9, v 10])), (h, .inr (0, [.int 0, g 1, g 2, g 3, g 4, g 5, g 6, g 7, g 8, g 9, g 10, g 11, g 12, g 13, g 14]))] [] (fun _ => True))) (va_Ql (fun (r : Int64) (_ : Unit) => r = -1) (fun (_ : Unit) (t : State) => ax_B dC dI (va_A [(x, .inr (7, [v 0, v 1, v 2, v 3, v 4, v 5, v 6, .ref h, v 8, v 9, v 10])), (h, .inr (0, [.int 0, g 1, g 2, g 3, g 4, g 5, g 6, g 7, g 8, g 9, g 10, g 11, g 12, g 13, g 14]))] sz) [] [] t) (va_A [(x, .inr (7, [v 0, v 1, v 2, v 3, v 4, v 5, v 6, .ref h, v 8, v 9, v 10])), (h, .inr (0, [.int 0, g 1, g 2, g 3, g 4, g 5, g 6, g 7, g 8, g 9, g 10, g 11, g 12, g 13, g 14]))] sz)) 0 0 (va_A [(x, .inr (7, [v 0, v 1, v 2, v 3, v 4, v 5, v 6, .ref h, v 8, v 9, v 10])), (h, .inr (0, [.int 0, g 1, g 2, g 3, g 4, g 5, g 6, g 7, g 8, g 9, g 10, g 11, g 12, g 13, g 14]))] sz) := by
  refine Met.ofW (cc := cX7_mean) (maxL := 5) (ret := (some .long)) (by decide) rfl ?_
  intro p e s m args below meth c s₁ B hml hv
  obtain ⟨rfl, hsz, hP, hK, hD0, hE⟩ := hv
  have hx := B.exec
  have hb := B.bytes
  have hr := B.returns
  have hts := atoms_spec (ws := wsX7_mean) B.pre
  have hown : s.vm.findClass RX7 = some m.cls := findClass_of_methodNamed B.named
  have hlocks := B.notSynchronized
  subst hsz
  have hD := hD0.self (sz := s.heap.size)
  generalize hAe : va_A [(x, .inr (7, [v 0, v 1, v 2, v 3, v 4, v 5, v 6, .ref h, v 8, v 9, v 10])), (h, .inr (0, [.int 0, g 1, g 2, g 3, g 4, g 5, g 6, g 7, g 8, g 9, g 10, g 11, g 12, g 13, g 14]))] s.heap.size = A at hD ⊢
  have hA : ∀ q : Nat, s.heap.size ≤ q → A q := fun q h => by rw [← hAe]; exact Or.inr h
  have hS : va_S A s.heap s.heap [] := va_S.rf
  have hP : va_P (dC, dI) vwCl [(x, .inr (7, [v 0, v 1, v 2, v 3, v 4, v 5, v 6, .ref h, v 8, v 9, v 10])), (h, .inr (0, [.int 0, g 1, g 2, g 3, g 4, g 5, g 6, g 7, g 8, g 9, g 10, g 11, g 12, g 13, g 14]))] s.heap := hP
  have hl := lv_entry ([.ref x, .int a0, .int a1, .int a2]) (n := 5) (Nat.le_of_ble_eq_true rfl)
  rw [lg_entry_eq]
  generalize (lg_sl ([.ref x, .int a0, .int a1, .int a2]) ++ List.replicate (5 - (lg_sl ([.ref x, .int a0, .int a1, .int a2])).length) Slot.unset).toArray = ls at hl ⊢
  have hl : lv_has ls 5 [(0, .ref x), (1, .int a0), (2, .int a1), (3, .int a2)] := hl
  refine lv_aload_n hx hb dX7_mean_0 rfl (lv_at hl 0 rfl) ?_
  refine lv_iload_n hx hb dX7_mean_1 rfl (lv_at hl 1 rfl) ?_
  refine lv_iload_n hx hb dX7_mean_2 rfl (lv_at hl 2 rfl) ?_
  refine lv_bipush (v := 8) hx hb dX7_mean_3 (by decide) ?_
  have hPc := hP.sub (ws' := [(x, .inr (7, [v 0, v 1, v 2, v 3, v 4, v 5, v 6, .ref h, v 8, v 9, v 10])), (h, .inr (0, [.int 0, g 1, g 2, g 3, g 4, g 5, g 6, g 7, g 8, g 9, g 10, g 11, g 12, g 13, g 14]))]) [0, 1] rfl
  have hDc := hD.sub (ws' := [(x, .inr (7, [v 0, v 1, v 2, v 3, v 4, v 5, v 6, .ref h, v 8, v 9, v 10])), (h, .inr (0, [.int 0, g 1, g 2, g 3, g 4, g 5, g 6, g 7, g 8, g 9, g 10, g 11, g 12, g 13, g 14]))]) [0, 1] (by decide) rfl
  have hKc := hK.sub (tys' := []) [] rfl
  have hFc := va_free (wc := [(x, .inr (7, [v 0, v 1, v 2, v 3, v 4, v 5, v 6, .ref h, v 8, v 9, v 10])), (h, .inr (0, [.int 0, g 1, g 2, g 3, g 4, g 5, g 6, g 7, g 8, g 9, g 10, g 11, g 12, g 13, g 14]))]) hD hS hA [0, 1] rfl
  refine va_calli (va_runV (As := [.int a0, .int a1, .int 8]) (rest := []) ⟨hx, hb, hml, hown, hts⟩ (c_X7_troubleOfFigureWithin l dC dI s.heap.size x a0 a1 8 v h g ) (cwV 3 hts gX7_mean_X7_troubleOfFigureWithin rfl rfl rfl (by decide +kernel) ⟨Nat.le_of_ble_eq_true rfl, Nat.le_of_ble_eq_true rfl⟩) ⟨ax_blind (fun _ _ _ _ _ => trivial), va_recv hKc hPc (ci := 7) (q0 := 0) rfl rfl, ax_pre hPc hKc hDc (fun _ _ => trivial)⟩ rfl rfl hl.1 rfl (lv_room (Nat.le_of_ble_eq_true rfl)) dX7_mean_5 ⟨Nat.le_of_ble_eq_true rfl, Nat.le_of_ble_eq_true rfl⟩) hS (fun q _ h => hFc q h) hFc (fun r_1 u t H1 locs ht hvm hw hB hz1 hk1 hS => ?_)
  obtain ⟨hP1, hK1, hD1⟩ := hB
  rw [ht] at hP1
  have hK1 := va_K.moved hvm.symm hK1
  obtain ⟨hP, hD⟩ := va_join (wr := []) (w1 := [(x, .inr (7, [v 0, v 1, v 2, v 3, v 4, v 5, v 6, .ref h, v 8, v 9, v 10])), (h, .inr (0, [.int 0, g 1, g 2, g 3, g 4, g 5, g 6, g 7, g 8, g 9, g 10, g 11, g 12, g 13, g 14]))]) hP hD [0, 1] [] rfl rfl (by decide) (by decide) hk1 hFc hP1 hD1
  have hK := (hK.sub (tys' := []) [] rfl).app hK1
  generalize H1 = H at hP hS ⊢
  have hP : va_P (dC, dI) vwCl [(x, .inr (7, [v 0, v 1, v 2, v 3, v 4, v 5, v 6, .ref h, v 8, v 9, v 10])), (h, .inr (0, [.int 0, g 1, g 2, g 3, g 4, g 5, g 6, g 7, g 8, g 9, g 10, g 11, g 12, g 13, g 14]))] H := hP
  have hD : va_D A [(x, .inr (7, [v 0, v 1, v 2, v 3, v 4, v 5, v 6, .ref h, v 8, v 9, v 10])), (h, .inr (0, [.int 0, g 1, g 2, g 3, g 4, g 5, g 6, g 7, g 8, g 9, g 10, g 11, g 12, g 13, g 14]))] := hD
  have hK : va_K (dC, dI) vwCl [] s := hK
  have hw : r_1 = 1 := hw
  subst hw
  refine lv_istore (lv' := [(4, .int 1), (0, .ref x), (1, .int a0), (2, .int a1), (3, .int a2)]) hx hb dX7_mean_8 hl (by decide) rfl (fun ls hl => ?_)
  refine lv_iload hx hb dX7_mean_10 (lv_at hl 0 rfl) ?_
  refine lv_if_eq (tgt := 23) hx hb dX7_mean_12 (by decide) (fun c_2 => absurd c_2 (by decide +kernel)) (fun _ => ?_)
  refine lv_aload_n hx hb dX7_mean_15 rfl (lv_at hl 1 rfl) ?_
  refine lv_iload hx hb dX7_mean_16 (lv_at hl 0 rfl) ?_
  have hPc := hP.sub (ws' := [(x, .inr (7, [v 0, v 1, v 2, v 3, v 4, v 5, v 6, .ref h, v 8, v 9, v 10]))]) [0] rfl
  have hDc := hD.sub (ws' := [(x, .inr (7, [v 0, v 1, v 2, v 3, v 4, v 5, v 6, .ref h, v 8, v 9, v 10]))]) [0] (by decide) rfl
  have hKc := hK.sub (tys' := []) [] rfl
  have hFc := va_free (wc := [(x, .inr (7, [v 0, v 1, v 2, v 3, v 4, v 5, v 6, .ref h, v 8, v 9, v 10]))]) hD hS hA [0] rfl
  refine va_calli (va_runV (As := [.int 1]) (rest := []) ⟨hx, hb, hml, hown, hts⟩ (c_X7_refused l dC dI H.size x 1 (fun i9 => ([v 0, v 1, v 2, v 3, v 4, v 5, v 6, .ref h, v 8, v 9, v 10] : List Value).getD i9 .null) ) (cwV 1 hts gX7_mean_X7_refused rfl rfl rfl (by decide +kernel) ⟨Nat.le_of_ble_eq_true rfl, Nat.le_of_ble_eq_true rfl⟩) ⟨ax_blind (fun _ _ _ _ _ => trivial), va_recv hKc hPc (ci := 7) (q0 := 0) rfl rfl, ax_pre hPc hKc hDc (fun _ _ => trivial)⟩ rfl rfl hl.1 rfl (lv_room (Nat.le_of_ble_eq_true rfl)) dX7_mean_18 ⟨Nat.le_of_ble_eq_true rfl, Nat.le_of_ble_eq_true rfl⟩) hS (fun q _ h => hFc q h) hFc (fun r_3 u t H1 locs ht hvm hw hB hz1 hk1 hS => ?_)
  obtain ⟨hP1, hK1, hD1⟩ := hB
  rw [ht] at hP1
  have hK1 := va_K.moved hvm.symm hK1
  obtain ⟨hP, hD⟩ := va_join (wr := [(h, .inr (0, [.int 0, g 1, g 2, g 3, g 4, g 5, g 6, g 7, g 8, g 9, g 10, g 11, g 12, g 13, g 14]))]) (w1 := []) hP hD [0] [1] rfl rfl (by decide) (by decide) hk1 hFc hP1 hD1
  have hK := (hK.sub (tys' := []) [] rfl).app hK1
  generalize H1 = H at hP hS ⊢
  have hP : va_P (dC, dI) vwCl [(h, .inr (0, [.int 0, g 1, g 2, g 3, g 4, g 5, g 6, g 7, g 8, g 9, g 10, g 11, g 12, g 13, g 14]))] H := hP
  have hD : va_D A [(h, .inr (0, [.int 0, g 1, g 2, g 3, g 4, g 5, g 6, g 7, g 8, g 9, g 10, g 11, g 12, g 13, g 14]))] := hD
  have hK : va_K (dC, dI) vwCl [] s := hK
  have hw : r_3 = (-1) := hw
  subst hw
  refine lv_i2l (v := (-1)) hx hb dX7_mean_21 (by decide +kernel) ?_
  have hP9 := hP.sub (ws' := []) [] rfl
  have hD9 := hD.sub (ws' := []) [] (by decide) rfl
  have hK9 := hK.sub (tys' := []) [] rfl
  exact W.lret (v := (-1)) hx hb hr (fun t ht hW => ⟨⟨(-1), (), rfl, rfl, by rw [ht]; exact hP9, va_K.moved hW.alike hK9, hD9⟩, hS.F ht⟩) hS.2.2 dX7_mean_22

set_option maxHeartbeats 4000000 in
set_option maxRecDepth 100000 in
theorem c_X7_dares (l : Launch) (dC : Nat → ClassId) (dI : Nat → Nat → Nat) (sz : Nat) (x : Nat) (a0 : Int32) (a1 : Int32) (a2 : Int32) (a3 : Int32) (v : Nat → Value) (h : Nat) (g : Nat → Value) : Met l yX7_dares wsX7_dares ({ frames := 2, cells := 0, slots := 0, locals := 43 }) (va_Pc [.ref x, .int a0, .int a1, .int a2, .int a3] (ax_C dC dI sz [(x, .inr (7, [v 0, v 1, v 2, v 3, v 4, v 5, v 6, .ref h, v 8, v 9, v 10])), (h, .inr (0, [.int 0, g 1, g 2, g 3, g 4, g 5, g 6, g 7, g 8, g 9, g 10, g 11, g 12, g 13, g 14]))] [] (fun _ => True))) (va_Qi (fun (r : Int32) (_ : Unit) => r = -100) (fun (_ : Unit) (t : State) => ax_B dC dI (va_A [(x, .inr (7, [v 0, v 1, v 2, v 3, v 4, v 5, v 6, .ref h, v 8, v 9, v 10])), (h, .inr (0, [.int 0, g 1, g 2, g 3, g 4, g 5, g 6, g 7, g 8, g 9, g 10, g 11, g 12, g 13, g 14]))] sz) [] [] t) (va_A [(x, .inr (7, [v 0, v 1, v 2, v 3, v 4, v 5, v 6, .ref h, v 8, v 9, v 10])), (h, .inr (0, [.int 0, g 1, g 2, g 3, g 4, g 5, g 6, g 7, g 8, g 9, g 10, g 11, g 12, g 13, g 14]))] sz)) 0 0 (va_A [(x, .inr (7, [v 0, v 1, v 2, v 3, v 4, v 5, v 6, .ref h, v 8, v 9, v 10])), (h, .inr (0, [.int 0, g 1, g 2, g 3, g 4, g 5, g 6, g 7, g 8, g 9, g 10, g 11, g 12, g 13, g 14]))] sz) := by
  refine Met.ofW (cc := cX7_dares) (maxL := 6) (ret := (some .int)) (by decide) rfl ?_
  intro p e s m args below meth c s₁ B hml hv
  obtain ⟨rfl, hsz, hP, hK, hD0, hE⟩ := hv
  have hx := B.exec
  have hb := B.bytes
  have hr := B.returns
  have hts := atoms_spec (ws := wsX7_dares) B.pre
  have hown : s.vm.findClass RX7 = some m.cls := findClass_of_methodNamed B.named
  have hlocks := B.notSynchronized
  subst hsz
  have hD := hD0.self (sz := s.heap.size)
  generalize hAe : va_A [(x, .inr (7, [v 0, v 1, v 2, v 3, v 4, v 5, v 6, .ref h, v 8, v 9, v 10])), (h, .inr (0, [.int 0, g 1, g 2, g 3, g 4, g 5, g 6, g 7, g 8, g 9, g 10, g 11, g 12, g 13, g 14]))] s.heap.size = A at hD ⊢
  have hA : ∀ q : Nat, s.heap.size ≤ q → A q := fun q h => by rw [← hAe]; exact Or.inr h
  have hS : va_S A s.heap s.heap [] := va_S.rf
  have hP : va_P (dC, dI) vwCl [(x, .inr (7, [v 0, v 1, v 2, v 3, v 4, v 5, v 6, .ref h, v 8, v 9, v 10])), (h, .inr (0, [.int 0, g 1, g 2, g 3, g 4, g 5, g 6, g 7, g 8, g 9, g 10, g 11, g 12, g 13, g 14]))] s.heap := hP
  have hl := lv_entry ([.ref x, .int a0, .int a1, .int a2, .int a3]) (n := 6) (Nat.le_of_ble_eq_true rfl)
  rw [lg_entry_eq]
  generalize (lg_sl ([.ref x, .int a0, .int a1, .int a2, .int a3]) ++ List.replicate (6 - (lg_sl ([.ref x, .int a0, .int a1, .int a2, .int a3])).length) Slot.unset).toArray = ls at hl ⊢
  have hl : lv_has ls 6 [(0, .ref x), (1, .int a0), (2, .int a1), (3, .int a2), (4, .int a3)] := hl
  refine lv_aload_n hx hb dX7_dares_0 rfl (lv_at hl 0 rfl) ?_
  refine lv_iload_n hx hb dX7_dares_1 rfl (lv_at hl 1 rfl) ?_
  refine lv_iconst (v := 0) hx hb dX7_dares_2 (by decide) ?_
  refine lv_bipush (v := 9) hx hb dX7_dares_3 (by decide) ?_
  have hPc := hP.sub (ws' := [(x, .inr (7, [v 0, v 1, v 2, v 3, v 4, v 5, v 6, .ref h, v 8, v 9, v 10])), (h, .inr (0, [.int 0, g 1, g 2, g 3, g 4, g 5, g 6, g 7, g 8, g 9, g 10, g 11, g 12, g 13, g 14]))]) [0, 1] rfl
  have hDc := hD.sub (ws' := [(x, .inr (7, [v 0, v 1, v 2, v 3, v 4, v 5, v 6, .ref h, v 8, v 9, v 10])), (h, .inr (0, [.int 0, g 1, g 2, g 3, g 4, g 5, g 6, g 7, g 8, g 9, g 10, g 11, g 12, g 13, g 14]))]) [0, 1] (by decide) rfl
  have hKc := hK.sub (tys' := []) [] rfl
  have hFc := va_free (wc := [(x, .inr (7, [v 0, v 1, v 2, v 3, v 4, v 5, v 6, .ref h, v 8, v 9, v 10])), (h, .inr (0, [.int 0, g 1, g 2, g 3, g 4, g 5, g 6, g 7, g 8, g 9, g 10, g 11, g 12, g 13, g 14]))]) hD hS hA [0, 1] rfl
  refine va_calli (va_runV (As := [.int a0, .int 0, .int 9]) (rest := []) ⟨hx, hb, hml, hown, hts⟩ (c_X7_troubleOfNumber l dC dI s.heap.size x a0 0 9 v h g ) (cwV 3 hts gX7_dares_X7_troubleOfNumber rfl rfl rfl (by decide +kernel) ⟨Nat.le_of_ble_eq_true rfl, Nat.le_of_ble_eq_true rfl⟩) ⟨ax_blind (fun _ _ _ _ _ => trivial), va_recv hKc hPc (ci := 7) (q0 := 0) rfl rfl, ax_pre hPc hKc hDc (fun _ _ => trivial)⟩ rfl rfl hl.1 rfl (lv_room (Nat.le_of_ble_eq_true rfl)) dX7_dares_5 ⟨Nat.le_of_ble_eq_true rfl, Nat.le_of_ble_eq_true rfl⟩) hS (fun q _ h => hFc q h) hFc (fun r_1 u t H1 locs ht hvm hw hB hz1 hk1 hS => ?_)
  obtain ⟨hP1, hK1, hD1⟩ := hB
  rw [ht] at hP1
  have hK1 := va_K.moved hvm.symm hK1
  obtain ⟨hP, hD⟩ := va_join (wr := []) (w1 := [(x, .inr (7, [v 0, v 1, v 2, v 3, v 4, v 5, v 6, .ref h, v 8, v 9, v 10])), (h, .inr (0, [.int 0, g 1, g 2, g 3, g 4, g 5, g 6, g 7, g 8, g 9, g 10, g 11, g 12, g 13, g 14]))]) hP hD [0, 1] [] rfl rfl (by decide) (by decide) hk1 hFc hP1 hD1
  have hK := (hK.sub (tys' := []) [] rfl).app hK1
  generalize H1 = H at hP hS ⊢
  have hP : va_P (dC, dI) vwCl [(x, .inr (7, [v 0, v 1, v 2, v 3, v 4, v 5, v 6, .ref h, v 8, v 9, v 10])), (h, .inr (0, [.int 0, g 1, g 2, g 3, g 4, g 5, g 6, g 7, g 8, g 9, g 10, g 11, g 12, g 13, g 14]))] H := hP
  have hD : va_D A [(x, .inr (7, [v 0, v 1, v 2, v 3, v 4, v 5, v 6, .ref h, v 8, v 9, v 10])), (h, .inr (0, [.int 0, g 1, g 2, g 3, g 4, g 5, g 6, g 7, g 8, g 9, g 10, g 11, g 12, g 13, g 14]))] := hD
  have hK : va_K (dC, dI) vwCl [] s := hK
  have hw : r_1 = 1 := hw
  subst hw
  refine lv_istore (lv' := [(5, .int 1), (0, .ref x), (1, .int a0), (2, .int a1), (3, .int a2), (4, .int a3)]) hx hb dX7_dares_8 hl (by decide) rfl (fun ls hl => ?_)
  refine lv_iload hx hb dX7_dares_10 (lv_at hl 0 rfl) ?_
  refine lv_if_eq (tgt := 24) hx hb dX7_dares_12 (by decide) (fun c_2 => absurd c_2 (by decide +kernel)) (fun _ => ?_)
  refine lv_aload_n hx hb dX7_dares_15 rfl (lv_at hl 1 rfl) ?_
  refine lv_iload hx hb dX7_dares_16 (lv_at hl 0 rfl) ?_
  refine va_put (D := (dC, dI)) (ci := 7) (v := .int 1) (ty := .int) (C := RX7) (T := TX7) (N := 11) hx hb hts (by decide +kernel) tyX7 tyX7_ok nmX7 hown hK hP hD hS 0 rfl rfl 8 (by decide) (hts (.fieldLink RX7 61 "WaxTurns" "latestTrouble" "I") (by decide +kernel)) (fun _ h9 => h9) rfl (by decide +kernel) rfl rfl (Nat.le_of_ble_eq_true rfl) dX7_dares_18 (fun H locs hP hD hS => ?_)
  have hP : va_P (dC, dI) vwCl [(x, .inr (7, [v 0, v 1, v 2, v 3, v 4, v 5, v 6, .ref h, .int 1, v 9, v 10])), (h, .inr (0, [.int 0, g 1, g 2, g 3, g 4, g 5, g 6, g 7, g 8, g 9, g 10, g 11, g 12, g 13, g 14]))] H := hP
  have hD : va_D A [(x, .inr (7, [v 0, v 1, v 2, v 3, v 4, v 5, v 6, .ref h, .int 1, v 9, v 10])), (h, .inr (0, [.int 0, g 1, g 2, g 3, g 4, g 5, g 6, g 7, g 8, g 9, g 10, g 11, g 12, g 13, g 14]))] := hD
  refine lv_bipush (v := (-100)) hx hb dX7_dares_21 (by decide) ?_
  have hP9 := hP.sub (ws' := []) [] rfl
  have hD9 := hD.sub (ws' := []) [] (by decide) rfl
  have hK9 := hK.sub (tys' := []) [] rfl
  exact W.iret (v := (-100)) hx hb hr (fun t ht hW => ⟨⟨(-100), (), rfl, rfl, by rw [ht]; exact hP9, va_K.moved hW.alike hK9, hD9⟩, hS.F ht⟩) hS.2.2 dX7_dares_23

set_option maxHeartbeats 4000000 in
set_option maxRecDepth 100000 in
theorem c_X7_fault (l : Launch) (dC : Nat → ClassId) (dI : Nat → Nat → Nat) (sz : Nat) (x : Nat) (v : Nat → Value) : Met l yX7_fault wsX7_fault ({ frames := 0, cells := 0, slots := 0, locals := 0 }) (va_Pc [.ref x] (ax_C dC dI sz [(x, .inr (7, [v 0, v 1, v 2, v 3, v 4, v 5, v 6, v 7, v 8, .int 0, v 10]))] [] (fun _ => True))) (va_Qi (fun (r : Int32) (_ : Unit) => r = 0) (fun (_ : Unit) (t : State) => ax_B dC dI (va_A [(x, .inr (7, [v 0, v 1, v 2, v 3, v 4, v 5, v 6, v 7, v 8, .int 0, v 10]))] sz) [] [] t) (va_A [(x, .inr (7, [v 0, v 1, v 2, v 3, v 4, v 5, v 6, v 7, v 8, .int 0, v 10]))] sz)) 0 0 (va_A [(x, .inr (7, [v 0, v 1, v 2, v 3, v 4, v 5, v 6, v 7, v 8, .int 0, v 10]))] sz) := by
  refine Met.ofW (cc := cX7_fault) (maxL := 1) (ret := (some .int)) (by decide) rfl ?_
  intro p e s m args below meth c s₁ B hml hv
  obtain ⟨rfl, hsz, hP, hK, hD0, hE⟩ := hv
  have hx := B.exec
  have hb := B.bytes
  have hr := B.returns
  have hts := atoms_spec (ws := wsX7_fault) B.pre
  have hown : s.vm.findClass RX7 = some m.cls := findClass_of_methodNamed B.named
  have hlocks := B.notSynchronized
  subst hsz
  have hD := hD0.self (sz := s.heap.size)
  generalize hAe : va_A [(x, .inr (7, [v 0, v 1, v 2, v 3, v 4, v 5, v 6, v 7, v 8, .int 0, v 10]))] s.heap.size = A at hD ⊢
  have hA : ∀ q : Nat, s.heap.size ≤ q → A q := fun q h => by rw [← hAe]; exact Or.inr h
  have hS : va_S A s.heap s.heap [] := va_S.rf
  have hP : va_P (dC, dI) vwCl [(x, .inr (7, [v 0, v 1, v 2, v 3, v 4, v 5, v 6, v 7, v 8, .int 0, v 10]))] s.heap := hP
  have hl := lv_entry ([.ref x]) (n := 1) (Nat.le_of_ble_eq_true rfl)
  rw [lg_entry_eq]
  generalize (lg_sl ([.ref x]) ++ List.replicate (1 - (lg_sl ([.ref x])).length) Slot.unset).toArray = ls at hl ⊢
  have hl : lv_has ls 1 [(0, .ref x)] := hl
  refine lv_aload_n hx hb dX7_fault_0 rfl (lv_at hl 0 rfl) ?_
  refine va_get (D := (dC, dI)) (ci := 7) (v := .int 0) (C := RX7) (T := TX7) (N := 11) hx hb hts (by decide +kernel) hown hK hP 0 rfl rfl 9 (by decide) (hts (.fieldLink RX7 65 "WaxTurns" "latestFault" "I") (by decide +kernel)) (fun _ h9 => h9) rfl dX7_fault_1 ?_
  have hP9 := hP.sub (ws' := []) [] rfl
  have hD9 := hD.sub (ws' := []) [] (by decide) rfl
  have hK9 := hK.sub (tys' := []) [] rfl
  exact W.iret (v := 0) hx hb hr (fun t ht hW => ⟨⟨0, (), rfl, rfl, by rw [ht]; exact hP9, va_K.moved hW.alike hK9, hD9⟩, hS.F ht⟩) hS.2.2 dX7_fault_4

set_option maxHeartbeats 4000000 in
set_option maxRecDepth 100000 in
theorem c_X7_trouble (l : Launch) (dC : Nat → ClassId) (dI : Nat → Nat → Nat) (sz : Nat) (x : Nat) (v : Nat → Value) : Met l yX7_trouble wsX7_trouble ({ frames := 0, cells := 0, slots := 0, locals := 0 }) (va_Pc [.ref x] (ax_C dC dI sz [(x, .inr (7, [v 0, v 1, v 2, v 3, v 4, v 5, v 6, v 7, .int 0, v 9, v 10]))] [] (fun _ => True))) (va_Qi (fun (r : Int32) (_ : Unit) => r = 0) (fun (_ : Unit) (t : State) => ax_B dC dI (va_A [(x, .inr (7, [v 0, v 1, v 2, v 3, v 4, v 5, v 6, v 7, .int 0, v 9, v 10]))] sz) [] [] t) (va_A [(x, .inr (7, [v 0, v 1, v 2, v 3, v 4, v 5, v 6, v 7, .int 0, v 9, v 10]))] sz)) 0 0 (va_A [(x, .inr (7, [v 0, v 1, v 2, v 3, v 4, v 5, v 6, v 7, .int 0, v 9, v 10]))] sz) := by
  refine Met.ofW (cc := cX7_trouble) (maxL := 1) (ret := (some .int)) (by decide) rfl ?_
  intro p e s m args below meth c s₁ B hml hv
  obtain ⟨rfl, hsz, hP, hK, hD0, hE⟩ := hv
  have hx := B.exec
  have hb := B.bytes
  have hr := B.returns
  have hts := atoms_spec (ws := wsX7_trouble) B.pre
  have hown : s.vm.findClass RX7 = some m.cls := findClass_of_methodNamed B.named
  have hlocks := B.notSynchronized
  subst hsz
  have hD := hD0.self (sz := s.heap.size)
  generalize hAe : va_A [(x, .inr (7, [v 0, v 1, v 2, v 3, v 4, v 5, v 6, v 7, .int 0, v 9, v 10]))] s.heap.size = A at hD ⊢
  have hA : ∀ q : Nat, s.heap.size ≤ q → A q := fun q h => by rw [← hAe]; exact Or.inr h
  have hS : va_S A s.heap s.heap [] := va_S.rf
  have hP : va_P (dC, dI) vwCl [(x, .inr (7, [v 0, v 1, v 2, v 3, v 4, v 5, v 6, v 7, .int 0, v 9, v 10]))] s.heap := hP
  have hl := lv_entry ([.ref x]) (n := 1) (Nat.le_of_ble_eq_true rfl)
  rw [lg_entry_eq]
  generalize (lg_sl ([.ref x]) ++ List.replicate (1 - (lg_sl ([.ref x])).length) Slot.unset).toArray = ls at hl ⊢
  have hl : lv_has ls 1 [(0, .ref x)] := hl
  refine lv_aload_n hx hb dX7_trouble_0 rfl (lv_at hl 0 rfl) ?_
  refine va_get (D := (dC, dI)) (ci := 7) (v := .int 0) (C := RX7) (T := TX7) (N := 11) hx hb hts (by decide +kernel) hown hK hP 0 rfl rfl 8 (by decide) (hts (.fieldLink RX7 61 "WaxTurns" "latestTrouble" "I") (by decide +kernel)) (fun _ h9 => h9) rfl dX7_trouble_1 ?_
  have hP9 := hP.sub (ws' := []) [] rfl
  have hD9 := hD.sub (ws' := []) [] (by decide) rfl
  have hK9 := hK.sub (tys' := []) [] rfl
  exact W.iret (v := 0) hx hb hr (fun t ht hW => ⟨⟨0, (), rfl, rfl, by rw [ht]; exact hP9, va_K.moved hW.alike hK9, hD9⟩, hS.F ht⟩) hS.2.2 dX7_trouble_4

set_option maxHeartbeats 4000000 in
set_option maxRecDepth 100000 in
theorem c_X7_where (l : Launch) (dC : Nat → ClassId) (dI : Nat → Nat → Nat) (sz : Nat) (x : Nat) (v : Nat → Value) : Met l yX7_where wsX7_where ({ frames := 0, cells := 0, slots := 0, locals := 0 }) (va_Pc [.ref x] (ax_C dC dI sz [(x, .inr (7, [v 0, v 1, v 2, v 3, v 4, v 5, v 6, v 7, .int 0, v 9, v 10]))] [] (fun _ => True))) (va_Qi (fun (r : Int32) (_ : Unit) => r = -1) (fun (_ : Unit) (t : State) => ax_B dC dI (va_A [(x, .inr (7, [v 0, v 1, v 2, v 3, v 4, v 5, v 6, v 7, .int 0, v 9, v 10]))] sz) [] [] t) (va_A [(x, .inr (7, [v 0, v 1, v 2, v 3, v 4, v 5, v 6, v 7, .int 0, v 9, v 10]))] sz)) 0 0 (va_A [(x, .inr (7, [v 0, v 1, v 2, v 3, v 4, v 5, v 6, v 7, .int 0, v 9, v 10]))] sz) := by
  refine Met.ofW (cc := cX7_where) (maxL := 1) (ret := (some .int)) (by decide) rfl ?_
  intro p e s m args below meth c s₁ B hml hv
  obtain ⟨rfl, hsz, hP, hK, hD0, hE⟩ := hv
  have hx := B.exec
  have hb := B.bytes
  have hr := B.returns
  have hts := atoms_spec (ws := wsX7_where) B.pre
  have hown : s.vm.findClass RX7 = some m.cls := findClass_of_methodNamed B.named
  have hlocks := B.notSynchronized
  subst hsz
  have hD := hD0.self (sz := s.heap.size)
  generalize hAe : va_A [(x, .inr (7, [v 0, v 1, v 2, v 3, v 4, v 5, v 6, v 7, .int 0, v 9, v 10]))] s.heap.size = A at hD ⊢
  have hA : ∀ q : Nat, s.heap.size ≤ q → A q := fun q h => by rw [← hAe]; exact Or.inr h
  have hS : va_S A s.heap s.heap [] := va_S.rf
  have hP : va_P (dC, dI) vwCl [(x, .inr (7, [v 0, v 1, v 2, v 3, v 4, v 5, v 6, v 7, .int 0, v 9, v 10]))] s.heap := hP
  have hl := lv_entry ([.ref x]) (n := 1) (Nat.le_of_ble_eq_true rfl)
  rw [lg_entry_eq]
  generalize (lg_sl ([.ref x]) ++ List.replicate (1 - (lg_sl ([.ref x])).length) Slot.unset).toArray = ls at hl ⊢
  have hl : lv_has ls 1 [(0, .ref x)] := hl
  refine lv_aload_n hx hb dX7_where_0 rfl (lv_at hl 0 rfl) ?_
  refine va_get (D := (dC, dI)) (ci := 7) (v := .int 0) (C := RX7) (T := TX7) (N := 11) hx hb hts (by decide +kernel) hown hK hP 0 rfl rfl 8 (by decide) (hts (.fieldLink RX7 61 "WaxTurns" "latestTrouble" "I") (by decide +kernel)) (fun _ h9 => h9) rfl dX7_where_1 ?_
  refine lv_iconst (v := 4) hx hb dX7_where_4 (by decide) ?_
  refine lv_icmp_ne (tgt := 15) hx hb dX7_where_5 (by decide) (fun _ => ?_) (fun c_1 => absurd c_1 (by decide +kernel))
  refine lv_iconst (v := (-1)) hx hb dX7_where_15 (by decide) ?_
  have hP9 := hP.sub (ws' := []) [] rfl
  have hD9 := hD.sub (ws' := []) [] (by decide) rfl
  have hK9 := hK.sub (tys' := []) [] rfl
  exact W.iret (v := (-1)) hx hb hr (fun t ht hW => ⟨⟨(-1), (), rfl, rfl, by rw [ht]; exact hP9, va_K.moved hW.alike hK9, hD9⟩, hS.F ht⟩) hS.2.2 dX7_where_16

set_option maxHeartbeats 4000000 in
set_option maxRecDepth 100000 in
theorem c_X1_takeLatest (l : Launch) (dC : Nat → ClassId) (dI : Nat → Nat → Nat) (sz : Nat) (y : Nat) (z : Nat) (g : Nat → Value) : Met l yX1_takeLatest wsX1_takeLatest ({ frames := 0, cells := 0, slots := 0, locals := 0 }) (va_Pc [.ref y, .ref z] (ax_C dC dI sz [(y, .inr (1, [.int 0, .int 0, g 2, g 3, g 4]))] [] (fun _ => True))) (va_Qi (fun (r : Int32) (_ : Unit) => r = 0) (fun (_ : Unit) (t : State) => ax_B dC dI (va_A [(y, .inr (1, [.int 0, .int 0, g 2, g 3, g 4]))] sz) [(y, .inr (1, [.int 0, .int 0, g 2, g 3, g 4]))] [] t) (va_A [(y, .inr (1, [.int 0, .int 0, g 2, g 3, g 4]))] sz)) 0 0 (va_A [(y, .inr (1, [.int 0, .int 0, g 2, g 3, g 4]))] sz) := by
  refine Met.ofW (cc := cX1_takeLatest) (maxL := 2) (ret := (some .boolean)) (by decide) rfl ?_
  intro p e s m args below meth c s₁ B hml hv
  obtain ⟨rfl, hsz, hP, hK, hD0, hE⟩ := hv
  have hx := B.exec
  have hb := B.bytes
  have hr := B.returns
  have hts := atoms_spec (ws := wsX1_takeLatest) B.pre
  have hown : s.vm.findClass RX1 = some m.cls := findClass_of_methodNamed B.named
  have hlocks := B.notSynchronized
  subst hsz
  have hD := hD0.self (sz := s.heap.size)
  generalize hAe : va_A [(y, .inr (1, [.int 0, .int 0, g 2, g 3, g 4]))] s.heap.size = A at hD ⊢
  have hA : ∀ q : Nat, s.heap.size ≤ q → A q := fun q h => by rw [← hAe]; exact Or.inr h
  have hS : va_S A s.heap s.heap [] := va_S.rf
  have hP : va_P (dC, dI) vwCl [(y, .inr (1, [.int 0, .int 0, g 2, g 3, g 4]))] s.heap := hP
  have hl := lv_entry ([.ref y, .ref z]) (n := 2) (Nat.le_of_ble_eq_true rfl)
  rw [lg_entry_eq]
  generalize (lg_sl ([.ref y, .ref z]) ++ List.replicate (2 - (lg_sl ([.ref y, .ref z])).length) Slot.unset).toArray = ls at hl ⊢
  have hl : lv_has ls 2 [(0, .ref y), (1, .ref z)] := hl
  refine lv_aload_n hx hb dX1_takeLatest_0 rfl (lv_at hl 0 rfl) ?_
  refine va_get (D := (dC, dI)) (ci := 1) (v := .int 0) (C := RX1) (T := TX1) (N := 5) hx hb hts (by decide +kernel) hown hK hP 0 rfl rfl 0 (by decide) (hts (.fieldLink RX1 21 "WaxTurns$History" "keptCount" "I") (by decide +kernel)) (fun _ h9 => h9) rfl dX1_takeLatest_1 ?_
  refine lv_if_ne (tgt := 9) hx hb dX1_takeLatest_4 (by decide) (fun c_1 => absurd (by decide +kernel) c_1) (fun _ => ?_)
  refine lv_iconst (v := 0) hx hb dX1_takeLatest_7 (by decide) ?_
  have hP9 := hP.sub (ws' := [(y, .inr (1, [.int 0, .int 0, g 2, g 3, g 4]))]) [0] rfl
  have hD9 := hD.sub (ws' := [(y, .inr (1, [.int 0, .int 0, g 2, g 3, g 4]))]) [0] (by decide) rfl
  have hK9 := hK.sub (tys' := []) [] rfl
  exact W.zret (v := 0) hx hb hr rfl (fun t ht hW => ⟨⟨0, (), rfl, rfl, by rw [ht]; exact hP9, va_K.moved hW.alike hK9, hD9⟩, hS.F ht⟩) hS.2.2 dX1_takeLatest_8

set_option maxHeartbeats 4000000 in
set_option maxRecDepth 100000 in
theorem c_X1_goBack (l : Launch) (dC : Nat → ClassId) (dI : Nat → Nat → Nat) (sz : Nat) (y : Nat) (i : Int32) (z : Nat) (g : Nat → Value) : Met l yX1_goBack wsX1_goBack ({ frames := 1, cells := 0, slots := 0, locals := 22 }) (va_Pc [.ref y, .int i, .ref z] (ax_C dC dI sz [(y, .inr (1, [.int 0, .int 0, g 2, g 3, g 4]))] [] (fun U => va_Nw (.methodLinkNest RX1 41 yX7_within RX7) U))) (va_Qi (fun (r : Int32) (_ : Unit) => r = 0) (fun (_ : Unit) (t : State) => ax_B dC dI (va_A [(y, .inr (1, [.int 0, .int 0, g 2, g 3, g 4]))] sz) [(y, .inr (1, [.int 0, .int 0, g 2, g 3, g 4]))] [] t) (va_A [(y, .inr (1, [.int 0, .int 0, g 2, g 3, g 4]))] sz)) 0 0 (va_A [(y, .inr (1, [.int 0, .int 0, g 2, g 3, g 4]))] sz) := by
  refine Met.ofW (cc := cX1_goBack) (maxL := 3) (ret := (some .boolean)) (by decide) rfl ?_
  intro p e s m args below meth c s₁ B hml hv
  obtain ⟨rfl, hsz, hP, hK, hD0, hE⟩ := hv
  have hx := B.exec
  have hb := B.bytes
  have hr := B.returns
  have hts := atoms_spec (ws := wsX1_goBack) B.pre
  have hown : s.vm.findClass RX1 = some m.cls := findClass_of_methodNamed B.named
  have hlocks := B.notSynchronized
  subst hsz
  have hD := hD0.self (sz := s.heap.size)
  generalize hAe : va_A [(y, .inr (1, [.int 0, .int 0, g 2, g 3, g 4]))] s.heap.size = A at hD ⊢
  have hA : ∀ q : Nat, s.heap.size ≤ q → A q := fun q h => by rw [← hAe]; exact Or.inr h
  have hS : va_S A s.heap s.heap [] := va_S.rf
  have hP : va_P (dC, dI) vwCl [(y, .inr (1, [.int 0, .int 0, g 2, g 3, g 4]))] s.heap := hP
  have hE0 := hE
  have hl := lv_entry ([.ref y, .int i, .ref z]) (n := 3) (Nat.le_of_ble_eq_true rfl)
  rw [lg_entry_eq]
  generalize (lg_sl ([.ref y, .int i, .ref z]) ++ List.replicate (3 - (lg_sl ([.ref y, .int i, .ref z])).length) Slot.unset).toArray = ls at hl ⊢
  have hl : lv_has ls 3 [(0, .ref y), (1, .int i), (2, .ref z)] := hl
  refine lv_iload_n hx hb dX1_goBack_0 rfl (lv_at hl 1 rfl) ?_
  refine lv_iconst (v := 0) hx hb dX1_goBack_1 (by decide) ?_
  refine lv_aload_n hx hb dX1_goBack_2 rfl (lv_at hl 0 rfl) ?_
  refine va_get (D := (dC, dI)) (ci := 1) (v := .int 0) (C := RX1) (T := TX1) (N := 5) hx hb hts (by decide +kernel) hown hK hP 0 rfl rfl 1 (by decide) (hts (.fieldLink RX1 25 "WaxTurns$History" "imageCount" "I") (by decide +kernel)) (fun _ h9 => h9) rfl dX1_goBack_3 ?_
  refine lv_iconst (v := 1) hx hb dX1_goBack_6 (by decide) ?_
  refine lv_isub hx hb dX1_goBack_7 ?_
  refine ax_ti (-1) (by decide +kernel) ?_
  have hPc := hP.sub (ws' := []) [] rfl
  have hDc := hD.sub (ws' := []) [] (by decide) rfl
  have hKc := hK.sub (tys' := []) [] rfl
  have hFc := va_free (wc := []) hD hS hA [] rfl
  refine va_calli (va_runSN (As := [.int i, .int 0, .int (-1)]) (rest := []) ⟨hx, hb, hml, hown, hts⟩ (c_X7_within l dC dI s.heap.size i 0 (-1) ) ⟨va_cnB 3 hts gX1_goBack_X7_within_n41 rfl rfl rfl hE0 (hts (.initialized RX7) (by decide +kernel)) (by decide +kernel) ⟨Nat.le_of_ble_eq_true rfl, Nat.le_of_ble_eq_true rfl⟩, (hts (.static yX7_within) (by decide +kernel)), trivial⟩ ⟨ax_blind (fun _ _ _ _ _ => trivial), ax_pre hPc hKc hDc (fun _ _ => trivial)⟩ rfl rfl hl.1 rfl (lv_room (Nat.le_of_ble_eq_true rfl)) dX1_goBack_8 ⟨Nat.le_of_ble_eq_true rfl, Nat.le_of_ble_eq_true rfl⟩) hS (fun q _ h => hFc q h) hFc (fun r_1 u t H1 locs ht hvm hw hB hz1 hk1 hS => ?_)
  obtain ⟨hP1, hK1, hD1⟩ := hB
  rw [ht] at hP1
  have hK1 := va_K.moved hvm.symm hK1
  obtain ⟨hP, hD⟩ := va_join (wr := [(y, .inr (1, [.int 0, .int 0, g 2, g 3, g 4]))]) (w1 := []) hP hD [] [0] rfl rfl (by decide) (by decide) hk1 hFc hP1 hD1
  have hK := (hK.sub (tys' := []) [] rfl).app hK1
  generalize H1 = H at hP hS ⊢
  have hP : va_P (dC, dI) vwCl [(y, .inr (1, [.int 0, .int 0, g 2, g 3, g 4]))] H := hP
  have hD : va_D A [(y, .inr (1, [.int 0, .int 0, g 2, g 3, g 4]))] := hD
  have hK : va_K (dC, dI) vwCl [] s := hK
  rcases hw with ⟨hw, h_2⟩ | ⟨hw, h_2⟩
  · exact absurd (Int.le_trans h_2.1 h_2.2) (by decide)
  · subst hw
    refine lv_if_ne (tgt := 16) hx hb dX1_goBack_11 (by decide) (fun c_3 => absurd (by decide +kernel) c_3) (fun _ => ?_)
    refine lv_iconst (v := 0) hx hb dX1_goBack_14 (by decide) ?_
    have hP9 := hP.sub (ws' := [(y, .inr (1, [.int 0, .int 0, g 2, g 3, g 4]))]) [0] rfl
    have hD9 := hD.sub (ws' := [(y, .inr (1, [.int 0, .int 0, g 2, g 3, g 4]))]) [0] (by decide) rfl
    have hK9 := hK.sub (tys' := []) [] rfl
    exact W.zret (v := 0) hx hb hr rfl (fun t ht hW => ⟨⟨0, (), rfl, rfl, by rw [ht]; exact hP9, va_K.moved hW.alike hK9, hD9⟩, hS.F ht⟩) hS.2.2 dX1_goBack_15

set_option maxHeartbeats 4000000 in
set_option maxRecDepth 100000 in
theorem c_X7_undo (l : Launch) (dC : Nat → ClassId) (dI : Nat → Nat → Nat) (sz : Nat) (x : Nat) (v : Nat → Value) (z : Nat) (y : Nat) (g : Nat → Value) : Met l yX7_undo wsX7_undo ({ frames := 1, cells := 0, slots := 0, locals := 21 }) (va_Pc [.ref x] (ax_C dC dI sz [(x, .inr (7, [v 0, .ref z, v 2, v 3, .ref y, v 5, v 6, v 7, v 8, v 9, v 10])), (y, .inr (1, [.int 0, .int 0, g 2, g 3, g 4]))] [] (fun _ => True))) (va_Qi (fun (r : Int32) (_ : Unit) => r = 0) (fun (_ : Unit) (t : State) => ax_B dC dI (va_A [(x, .inr (7, [v 0, .ref z, v 2, v 3, .ref y, v 5, v 6, v 7, v 8, v 9, v 10])), (y, .inr (1, [.int 0, .int 0, g 2, g 3, g 4]))] sz) [] [] t) (va_A [(x, .inr (7, [v 0, .ref z, v 2, v 3, .ref y, v 5, v 6, v 7, v 8, v 9, v 10])), (y, .inr (1, [.int 0, .int 0, g 2, g 3, g 4]))] sz)) 0 0 (va_A [(x, .inr (7, [v 0, .ref z, v 2, v 3, .ref y, v 5, v 6, v 7, v 8, v 9, v 10])), (y, .inr (1, [.int 0, .int 0, g 2, g 3, g 4]))] sz) := by
  refine Met.ofW (cc := cX7_undo) (maxL := 2) (ret := (some .boolean)) (by decide) rfl ?_
  intro p e s m args below meth c s₁ B hml hv
  obtain ⟨rfl, hsz, hP, hK, hD0, hE⟩ := hv
  have hx := B.exec
  have hb := B.bytes
  have hr := B.returns
  have hts := atoms_spec (ws := wsX7_undo) B.pre
  have hown : s.vm.findClass RX7 = some m.cls := findClass_of_methodNamed B.named
  have hlocks := B.notSynchronized
  subst hsz
  have hD := hD0.self (sz := s.heap.size)
  generalize hAe : va_A [(x, .inr (7, [v 0, .ref z, v 2, v 3, .ref y, v 5, v 6, v 7, v 8, v 9, v 10])), (y, .inr (1, [.int 0, .int 0, g 2, g 3, g 4]))] s.heap.size = A at hD ⊢
  have hA : ∀ q : Nat, s.heap.size ≤ q → A q := fun q h => by rw [← hAe]; exact Or.inr h
  have hS : va_S A s.heap s.heap [] := va_S.rf
  have hP : va_P (dC, dI) vwCl [(x, .inr (7, [v 0, .ref z, v 2, v 3, .ref y, v 5, v 6, v 7, v 8, v 9, v 10])), (y, .inr (1, [.int 0, .int 0, g 2, g 3, g 4]))] s.heap := hP
  have hl := lv_entry ([.ref x]) (n := 2) (Nat.le_of_ble_eq_true rfl)
  rw [lg_entry_eq]
  generalize (lg_sl ([.ref x]) ++ List.replicate (2 - (lg_sl ([.ref x])).length) Slot.unset).toArray = ls at hl ⊢
  have hl : lv_has ls 2 [(0, .ref x)] := hl
  refine lv_aload_n hx hb dX7_undo_0 rfl (lv_at hl 0 rfl) ?_
  refine va_get (D := (dC, dI)) (ci := 7) (v := .ref y) (C := RX7) (T := TX7) (N := 11) hx hb hts (by decide +kernel) hown hK hP 0 rfl rfl 4 (by decide) (hts (.fieldLink RX7 36 "WaxTurns" "history" "LWaxTurns$History;") (by decide +kernel)) (fun _ h9 => h9) rfl dX7_undo_1 ?_
  refine lv_aload_n hx hb dX7_undo_4 rfl (lv_at hl 0 rfl) ?_
  refine va_get (D := (dC, dI)) (ci := 7) (v := .ref z) (C := RX7) (T := TX7) (N := 11) hx hb hts (by decide +kernel) hown hK hP 0 rfl rfl 1 (by decide) (hts (.fieldLink RX7 19 "WaxTurns" "now" "LWaxTurns$Scene;") (by decide +kernel)) (fun _ h9 => h9) rfl dX7_undo_5 ?_
  have hPc := hP.sub (ws' := [(y, .inr (1, [.int 0, .int 0, g 2, g 3, g 4]))]) [1] rfl
  have hDc := hD.sub (ws' := [(y, .inr (1, [.int 0, .int 0, g 2, g 3, g 4]))]) [1] (by decide) rfl
  have hKc := hK.sub (tys' := []) [] rfl
  have hFc := va_free (wc := [(y, .inr (1, [.int 0, .int 0, g 2, g 3, g 4]))]) hD hS hA [1] rfl
  refine va_calli (va_runV (As := [.ref z]) (rest := []) ⟨hx, hb, hml, hown, hts⟩ (c_X1_takeLatest l dC dI s.heap.size y z g ) (cwV 1 hts gX7_undo_X1_takeLatest rfl rfl rfl (by decide +kernel) ⟨Nat.le_of_ble_eq_true rfl, Nat.le_of_ble_eq_true rfl⟩) ⟨ax_blind (fun _ _ _ _ _ => trivial), va_recv hKc hPc (ci := 1) (q0 := 0) rfl rfl, ax_pre hPc hKc hDc (fun _ _ => trivial)⟩ rfl rfl hl.1 rfl (lv_room (Nat.le_of_ble_eq_true rfl)) dX7_undo_8 ⟨Nat.le_of_ble_eq_true rfl, Nat.le_of_ble_eq_true rfl⟩) hS (fun q _ h => hFc q h) hFc (fun r_1 u t H1 locs ht hvm hw hB hz1 hk1 hS => ?_)
  obtain ⟨hP1, hK1, hD1⟩ := hB
  rw [ht] at hP1
  have hK1 := va_K.moved hvm.symm hK1
  obtain ⟨hP, hD⟩ := va_join (wr := [(x, .inr (7, [v 0, .ref z, v 2, v 3, .ref y, v 5, v 6, v 7, v 8, v 9, v 10]))]) (w1 := [(y, .inr (1, [.int 0, .int 0, g 2, g 3, g 4]))]) hP hD [1] [0] rfl rfl (by decide) (by decide) hk1 hFc hP1 hD1
  have hK := (hK.sub (tys' := []) [] rfl).app hK1
  generalize H1 = H at hP hS ⊢
  have hP : va_P (dC, dI) vwCl [(x, .inr (7, [v 0, .ref z, v 2, v 3, .ref y, v 5, v 6, v 7, v 8, v 9, v 10])), (y, .inr (1, [.int 0, .int 0, g 2, g 3, g 4]))] H := hP
  have hD : va_D A [(x, .inr (7, [v 0, .ref z, v 2, v 3, .ref y, v 5, v 6, v 7, v 8, v 9, v 10])), (y, .inr (1, [.int 0, .int 0, g 2, g 3, g 4]))] := hD
  have hK : va_K (dC, dI) vwCl [] s := hK
  have hw : r_1 = 0 := hw
  subst hw
  refine lv_istore_n (lv' := [(1, .int 0), (0, .ref x)]) hx hb dX7_undo_11 rfl hl (by decide) rfl (fun ls hl => ?_)
  refine lv_aload_n hx hb dX7_undo_12 rfl (lv_at hl 1 rfl) ?_
  refine lv_iload_n hx hb dX7_undo_13 rfl (lv_at hl 0 rfl) ?_
  refine lv_if_eq (tgt := 21) hx hb dX7_undo_14 (by decide) (fun _ => ?_) (fun c_2 => absurd (by decide +kernel) c_2)
  refine lv_bipush (v := 6) hx hb dX7_undo_21 (by decide) ?_
  refine va_put (D := (dC, dI)) (ci := 7) (v := .int 6) (ty := .int) (C := RX7) (T := TX7) (N := 11) hx hb hts (by decide +kernel) tyX7 tyX7_ok nmX7 hown hK hP hD hS 0 rfl rfl 8 (by decide) (hts (.fieldLink RX7 61 "WaxTurns" "latestTrouble" "I") (by decide +kernel)) (fun _ h9 => h9) rfl (by decide +kernel) rfl rfl (Nat.le_of_ble_eq_true rfl) dX7_undo_23 (fun H locs hP hD hS => ?_)
  have hP : va_P (dC, dI) vwCl [(x, .inr (7, [v 0, .ref z, v 2, v 3, .ref y, v 5, v 6, v 7, .int 6, v 9, v 10])), (y, .inr (1, [.int 0, .int 0, g 2, g 3, g 4]))] H := hP
  have hD : va_D A [(x, .inr (7, [v 0, .ref z, v 2, v 3, .ref y, v 5, v 6, v 7, .int 6, v 9, v 10])), (y, .inr (1, [.int 0, .int 0, g 2, g 3, g 4]))] := hD
  refine lv_iload_n hx hb dX7_undo_26 rfl (lv_at hl 0 rfl) ?_
  have hP9 := hP.sub (ws' := []) [] rfl
  have hD9 := hD.sub (ws' := []) [] (by decide) rfl
  have hK9 := hK.sub (tys' := []) [] rfl
  exact W.zret (v := 0) hx hb hr rfl (fun t ht hW => ⟨⟨0, (), rfl, rfl, by rw [ht]; exact hP9, va_K.moved hW.alike hK9, hD9⟩, hS.F ht⟩) hS.2.2 dX7_undo_27

set_option maxHeartbeats 4000000 in
set_option maxRecDepth 100000 in
theorem c_X7_back (l : Launch) (dC : Nat → ClassId) (dI : Nat → Nat → Nat) (sz : Nat) (x : Nat) (i : Int32) (v : Nat → Value) (z : Nat) (y : Nat) (g : Nat → Value) : Met l yX7_back wsX7_back ({ frames := 2, cells := 0, slots := 0, locals := 44 }) (va_Pc [.ref x, .int i] (ax_C dC dI sz [(x, .inr (7, [v 0, .ref z, v 2, v 3, .ref y, v 5, v 6, v 7, v 8, v 9, v 10])), (y, .inr (1, [.int 0, .int 0, g 2, g 3, g 4]))] [] (fun U => va_Nw (.methodLinkNest RX1 41 yX7_within RX7) U))) (va_Qi (fun (r : Int32) (_ : Unit) => r = 0) (fun (_ : Unit) (t : State) => ax_B dC dI (va_A [(x, .inr (7, [v 0, .ref z, v 2, v 3, .ref y, v 5, v 6, v 7, v 8, v 9, v 10])), (y, .inr (1, [.int 0, .int 0, g 2, g 3, g 4]))] sz) [] [] t) (va_A [(x, .inr (7, [v 0, .ref z, v 2, v 3, .ref y, v 5, v 6, v 7, v 8, v 9, v 10])), (y, .inr (1, [.int 0, .int 0, g 2, g 3, g 4]))] sz)) 0 0 (va_A [(x, .inr (7, [v 0, .ref z, v 2, v 3, .ref y, v 5, v 6, v 7, v 8, v 9, v 10])), (y, .inr (1, [.int 0, .int 0, g 2, g 3, g 4]))] sz) := by
  refine Met.ofW (cc := cX7_back) (maxL := 3) (ret := (some .boolean)) (by decide) rfl ?_
  intro p e s m args below meth c s₁ B hml hv
  obtain ⟨rfl, hsz, hP, hK, hD0, hE⟩ := hv
  have hx := B.exec
  have hb := B.bytes
  have hr := B.returns
  have hts := atoms_spec (ws := wsX7_back) B.pre
  have hown : s.vm.findClass RX7 = some m.cls := findClass_of_methodNamed B.named
  have hlocks := B.notSynchronized
  subst hsz
  have hD := hD0.self (sz := s.heap.size)
  generalize hAe : va_A [(x, .inr (7, [v 0, .ref z, v 2, v 3, .ref y, v 5, v 6, v 7, v 8, v 9, v 10])), (y, .inr (1, [.int 0, .int 0, g 2, g 3, g 4]))] s.heap.size = A at hD ⊢
  have hA : ∀ q : Nat, s.heap.size ≤ q → A q := fun q h => by rw [← hAe]; exact Or.inr h
  have hS : va_S A s.heap s.heap [] := va_S.rf
  have hP : va_P (dC, dI) vwCl [(x, .inr (7, [v 0, .ref z, v 2, v 3, .ref y, v 5, v 6, v 7, v 8, v 9, v 10])), (y, .inr (1, [.int 0, .int 0, g 2, g 3, g 4]))] s.heap := hP
  have hE0 := hE
  have hl := lv_entry ([.ref x, .int i]) (n := 3) (Nat.le_of_ble_eq_true rfl)
  rw [lg_entry_eq]
  generalize (lg_sl ([.ref x, .int i]) ++ List.replicate (3 - (lg_sl ([.ref x, .int i])).length) Slot.unset).toArray = ls at hl ⊢
  have hl : lv_has ls 3 [(0, .ref x), (1, .int i)] := hl
  refine lv_aload_n hx hb dX7_back_0 rfl (lv_at hl 0 rfl) ?_
  refine va_get (D := (dC, dI)) (ci := 7) (v := .ref y) (C := RX7) (T := TX7) (N := 11) hx hb hts (by decide +kernel) hown hK hP 0 rfl rfl 4 (by decide) (hts (.fieldLink RX7 36 "WaxTurns" "history" "LWaxTurns$History;") (by decide +kernel)) (fun _ h9 => h9) rfl dX7_back_1 ?_
  refine lv_iload_n hx hb dX7_back_4 rfl (lv_at hl 1 rfl) ?_
  refine lv_aload_n hx hb dX7_back_5 rfl (lv_at hl 0 rfl) ?_
  refine va_get (D := (dC, dI)) (ci := 7) (v := .ref z) (C := RX7) (T := TX7) (N := 11) hx hb hts (by decide +kernel) hown hK hP 0 rfl rfl 1 (by decide) (hts (.fieldLink RX7 19 "WaxTurns" "now" "LWaxTurns$Scene;") (by decide +kernel)) (fun _ h9 => h9) rfl dX7_back_6 ?_
  have hPc := hP.sub (ws' := [(y, .inr (1, [.int 0, .int 0, g 2, g 3, g 4]))]) [1] rfl
  have hDc := hD.sub (ws' := [(y, .inr (1, [.int 0, .int 0, g 2, g 3, g 4]))]) [1] (by decide) rfl
  have hKc := hK.sub (tys' := []) [] rfl
  have hFc := va_free (wc := [(y, .inr (1, [.int 0, .int 0, g 2, g 3, g 4]))]) hD hS hA [1] rfl
  refine va_calli (va_runV (As := [.int i, .ref z]) (rest := []) ⟨hx, hb, hml, hown, hts⟩ (c_X1_goBack l dC dI s.heap.size y i z g ) (cwV 2 hts gX7_back_X1_goBack rfl rfl rfl (by decide +kernel) ⟨Nat.le_of_ble_eq_true rfl, Nat.le_of_ble_eq_true rfl⟩) ⟨ax_blind (fun _ _ _ _ hq => va_Nw.same rfl rfl (hq)), va_recv hKc hPc (ci := 1) (q0 := 0) rfl rfl, ax_pre hPc hKc hDc (fun _ hW => va_Nw.warmM hW hE0)⟩ rfl rfl hl.1 rfl (lv_room (Nat.le_of_ble_eq_true rfl)) dX7_back_9 ⟨Nat.le_of_ble_eq_true rfl, Nat.le_of_ble_eq_true rfl⟩) hS (fun q _ h => hFc q h) hFc (fun r_1 u t H1 locs ht hvm hw hB hz1 hk1 hS => ?_)
  obtain ⟨hP1, hK1, hD1⟩ := hB
  rw [ht] at hP1
  have hK1 := va_K.moved hvm.symm hK1
  obtain ⟨hP, hD⟩ := va_join (wr := [(x, .inr (7, [v 0, .ref z, v 2, v 3, .ref y, v 5, v 6, v 7, v 8, v 9, v 10]))]) (w1 := [(y, .inr (1, [.int 0, .int 0, g 2, g 3, g 4]))]) hP hD [1] [0] rfl rfl (by decide) (by decide) hk1 hFc hP1 hD1
  have hK := (hK.sub (tys' := []) [] rfl).app hK1
  generalize H1 = H at hP hS ⊢
  have hP : va_P (dC, dI) vwCl [(x, .inr (7, [v 0, .ref z, v 2, v 3, .ref y, v 5, v 6, v 7, v 8, v 9, v 10])), (y, .inr (1, [.int 0, .int 0, g 2, g 3, g 4]))] H := hP
  have hD : va_D A [(x, .inr (7, [v 0, .ref z, v 2, v 3, .ref y, v 5, v 6, v 7, v 8, v 9, v 10])), (y, .inr (1, [.int 0, .int 0, g 2, g 3, g 4]))] := hD
  have hK : va_K (dC, dI) vwCl [] s := hK
  have hw : r_1 = 0 := hw
  subst hw
  refine lv_istore_n (lv' := [(2, .int 0), (0, .ref x), (1, .int i)]) hx hb dX7_back_12 rfl hl (by decide) rfl (fun ls hl => ?_)
  refine lv_aload_n hx hb dX7_back_13 rfl (lv_at hl 1 rfl) ?_
  refine lv_iload_n hx hb dX7_back_14 rfl (lv_at hl 0 rfl) ?_
  refine lv_if_eq (tgt := 22) hx hb dX7_back_15 (by decide) (fun _ => ?_) (fun c_2 => absurd (by decide +kernel) c_2)
  refine lv_iconst (v := 1) hx hb dX7_back_22 (by decide) ?_
  refine va_put (D := (dC, dI)) (ci := 7) (v := .int 1) (ty := .int) (C := RX7) (T := TX7) (N := 11) hx hb hts (by decide +kernel) tyX7 tyX7_ok nmX7 hown hK hP hD hS 0 rfl rfl 8 (by decide) (hts (.fieldLink RX7 61 "WaxTurns" "latestTrouble" "I") (by decide +kernel)) (fun _ h9 => h9) rfl (by decide +kernel) rfl rfl (Nat.le_of_ble_eq_true rfl) dX7_back_23 (fun H locs hP hD hS => ?_)
  have hP : va_P (dC, dI) vwCl [(x, .inr (7, [v 0, .ref z, v 2, v 3, .ref y, v 5, v 6, v 7, .int 1, v 9, v 10])), (y, .inr (1, [.int 0, .int 0, g 2, g 3, g 4]))] H := hP
  have hD : va_D A [(x, .inr (7, [v 0, .ref z, v 2, v 3, .ref y, v 5, v 6, v 7, .int 1, v 9, v 10])), (y, .inr (1, [.int 0, .int 0, g 2, g 3, g 4]))] := hD
  refine lv_iload_n hx hb dX7_back_26 rfl (lv_at hl 0 rfl) ?_
  have hP9 := hP.sub (ws' := []) [] rfl
  have hD9 := hD.sub (ws' := []) [] (by decide) rfl
  have hK9 := hK.sub (tys' := []) [] rfl
  exact W.zret (v := 0) hx hb hr rfl (fun t ht hW => ⟨⟨0, (), rfl, rfl, by rw [ht]; exact hP9, va_K.moved hW.alike hK9, hD9⟩, hS.F ht⟩) hS.2.2 dX7_back_27
