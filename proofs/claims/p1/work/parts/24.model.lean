set_option maxHeartbeats 4000000 in
set_option maxRecDepth 100000 in
theorem c_X8_see (l : Launch) (dC : Nat → ClassId) (dI : Nat → Nat → Nat) (sz : Nat) (mo : Nat) (g : Nat → Value) : Met l yX8_see wsX8_see ({ frames := 0, cells := 0, slots := 0, locals := 0 }) (va_Pc [.ref mo, .int 0] (ax_C dC dI sz [(mo, .inr (8, [g 0, g 1, g 2, Value.int 0, g 4, g 5, g 6, g 7, g 8, g 9, g 10, g 11, g 12, g 13, g 14, g 15, g 16, g 17, g 18, g 19, g 20, g 21, g 22, g 23, g 24, g 25, g 26, g 27, g 28, g 29, g 30, g 31, g 32, g 33, g 34, g 35, g 36, g 37, g 38, g 39]))] [] (fun _ => True))) (va_Qi (fun (r : Int32) (_ : Unit) => r = -1) (fun (_ : Unit) (t : State) => ax_B dC dI (va_A [(mo, .inr (8, [g 0, g 1, g 2, Value.int 0, g 4, g 5, g 6, g 7, g 8, g 9, g 10, g 11, g 12, g 13, g 14, g 15, g 16, g 17, g 18, g 19, g 20, g 21, g 22, g 23, g 24, g 25, g 26, g 27, g 28, g 29, g 30, g 31, g 32, g 33, g 34, g 35, g 36, g 37, g 38, g 39]))] sz) [(mo, .inr (8, [g 0, g 1, g 2, Value.int 0, g 4, g 5, g 6, g 7, g 8, g 9, g 10, g 11, g 12, g 13, g 14, g 15, g 16, g 17, g 18, g 19, g 20, g 21, g 22, g 23, g 24, g 25, g 26, g 27, g 28, g 29, g 30, g 31, g 32, g 33, g 34, g 35, g 36, g 37, g 38, g 39]))] [] t) (va_A [(mo, .inr (8, [g 0, g 1, g 2, Value.int 0, g 4, g 5, g 6, g 7, g 8, g 9, g 10, g 11, g 12, g 13, g 14, g 15, g 16, g 17, g 18, g 19, g 20, g 21, g 22, g 23, g 24, g 25, g 26, g 27, g 28, g 29, g 30, g 31, g 32, g 33, g 34, g 35, g 36, g 37, g 38, g 39]))] sz)) 0 0 (va_A [(mo, .inr (8, [g 0, g 1, g 2, Value.int 0, g 4, g 5, g 6, g 7, g 8, g 9, g 10, g 11, g 12, g 13, g 14, g 15, g 16, g 17, g 18, g 19, g 20, g 21, g 22, g 23, g 24, g 25, g 26, g 27, g 28, g 29, g 30, g 31, g 32, g 33, g 34, g 35, g 36, g 37, g 38, g 39]))] sz) := by
  refine Met.ofW (cc := cX8_see) (maxL := 2) (ret := (some .int)) (by decide) rfl ?_
  intro p e s m args below meth c s₁ B hml hv
  obtain ⟨rfl, hsz, hP, hK, hD0, hE⟩ := hv
  have hx := B.exec
  have hb := B.bytes
  have hr := B.returns
  have hts := atoms_spec (ws := wsX8_see) B.pre
  have hown : s.vm.findClass RX8 = some m.cls := findClass_of_methodNamed B.named
  have hlocks := B.notSynchronized
  subst hsz
  have hD := hD0.self (sz := s.heap.size)
  generalize hAe : va_A [(mo, .inr (8, [g 0, g 1, g 2, Value.int 0, g 4, g 5, g 6, g 7, g 8, g 9, g 10, g 11, g 12, g 13, g 14, g 15, g 16, g 17, g 18, g 19, g 20, g 21, g 22, g 23, g 24, g 25, g 26, g 27, g 28, g 29, g 30, g 31, g 32, g 33, g 34, g 35, g 36, g 37, g 38, g 39]))] s.heap.size = A at hD ⊢
  have hA : ∀ q : Nat, s.heap.size ≤ q → A q := fun q h => by rw [← hAe]; exact Or.inr h
  have hS : va_S A s.heap s.heap [] := va_S.rf
  have hP : va_P (dC, dI) vwCl [(mo, .inr (8, [g 0, g 1, g 2, Value.int 0, g 4, g 5, g 6, g 7, g 8, g 9, g 10, g 11, g 12, g 13, g 14, g 15, g 16, g 17, g 18, g 19, g 20, g 21, g 22, g 23, g 24, g 25, g 26, g 27, g 28, g 29, g 30, g 31, g 32, g 33, g 34, g 35, g 36, g 37, g 38, g 39]))] s.heap := hP
  have hl := lv_entry ([.ref mo, .int 0]) (n := 2) (Nat.le_of_ble_eq_true rfl)
  rw [lg_entry_eq]
  generalize (lg_sl ([.ref mo, .int 0]) ++ List.replicate (2 - (lg_sl ([.ref mo, .int 0])).length) Slot.unset).toArray = ls at hl ⊢
  have hl : lv_has ls 2 [(0, .ref mo), (1, .int 0)] := hl
  refine lv_iload_n hx hb dX8_see_0 rfl (lv_at hl 1 rfl) ?_
  refine lv_aload_n hx hb dX8_see_1 rfl (lv_at hl 0 rfl) ?_
  refine va_get (D := (dC, dI)) (ci := 8) (v := .int 0) (C := RX8) (T := TX8) (N := 40) hx hb hts (by decide +kernel) hown hK hP 0 rfl rfl 3 (by decide) (hts (.fieldLink RX8 68 "WaxTurnsModel" "size" "I") (by decide +kernel)) (fun _ h9 => h9) rfl dX8_see_2 ?_
  refine lv_icmp_ge (tgt := 17) hx hb dX8_see_5 (by decide) (fun _ => ?_) (fun c_1 => absurd (by decide +kernel) c_1)
  refine lv_iconst (v := (-1)) hx hb dX8_see_17 (by decide) ?_
  have hP9 := hP.sub (ws' := [(mo, .inr (8, [g 0, g 1, g 2, Value.int 0, g 4, g 5, g 6, g 7, g 8, g 9, g 10, g 11, g 12, g 13, g 14, g 15, g 16, g 17, g 18, g 19, g 20, g 21, g 22, g 23, g 24, g 25, g 26, g 27, g 28, g 29, g 30, g 31, g 32, g 33, g 34, g 35, g 36, g 37, g 38, g 39]))]) [0] rfl
  have hD9 := hD.sub (ws' := [(mo, .inr (8, [g 0, g 1, g 2, Value.int 0, g 4, g 5, g 6, g 7, g 8, g 9, g 10, g 11, g 12, g 13, g 14, g 15, g 16, g 17, g 18, g 19, g 20, g 21, g 22, g 23, g 24, g 25, g 26, g 27, g 28, g 29, g 30, g 31, g 32, g 33, g 34, g 35, g 36, g 37, g 38, g 39]))]) [0] (by decide) rfl
  have hK9 := hK.sub (tys' := []) [] rfl
  exact W.iret (v := (-1)) hx hb hr (fun t ht hW => ⟨⟨(-1), (), rfl, rfl, by rw [ht]; exact hP9, va_K.moved hW.alike hK9, hD9⟩, hS.F ht⟩) hS.2.2 dX8_see_18

set_option maxHeartbeats 4000000 in
set_option maxRecDepth 100000 in
theorem c_X8_next (l : Launch) (dC : Nat → ClassId) (dI : Nat → Nat → Nat) (sz : Nat) (mo : Nat) (g : Nat → Value) : Met l yX8_next wsX8_next ({ frames := 1, cells := 0, slots := 0, locals := 21 }) (va_Pc [.ref mo] (ax_C dC dI sz [(mo, .inr (8, [g 0, g 1, g 2, Value.int 0, g 4, Value.int 0, g 6, g 7, g 8, g 9, g 10, g 11, g 12, g 13, g 14, g 15, g 16, g 17, g 18, g 19, g 20, g 21, g 22, g 23, g 24, g 25, g 26, g 27, g 28, g 29, g 30, g 31, g 32, g 33, g 34, g 35, g 36, g 37, g 38, g 39]))] [] (fun _ => True))) (va_Qv (fun (_ : Unit) => True) (fun (_ : Unit) (t : State) => ax_B dC dI (va_A [(mo, .inr (8, [g 0, g 1, g 2, Value.int 0, g 4, Value.int 0, g 6, g 7, g 8, g 9, g 10, g 11, g 12, g 13, g 14, g 15, g 16, g 17, g 18, g 19, g 20, g 21, g 22, g 23, g 24, g 25, g 26, g 27, g 28, g 29, g 30, g 31, g 32, g 33, g 34, g 35, g 36, g 37, g 38, g 39]))] sz) [(mo, .inr (8, [g 0, g 1, g 2, Value.int 0, Value.int 0, Value.int 0, Value.int 0, Value.int 0, Value.int 0, g 9, g 10, g 11, g 12, g 13, g 14, g 15, g 16, g 17, g 18, g 19, g 20, g 21, g 22, g 23, g 24, g 25, g 26, g 27, g 28, g 29, g 30, g 31, g 32, g 33, g 34, g 35, g 36, g 37, g 38, g 39]))] [] t) (va_A [(mo, .inr (8, [g 0, g 1, g 2, Value.int 0, g 4, Value.int 0, g 6, g 7, g 8, g 9, g 10, g 11, g 12, g 13, g 14, g 15, g 16, g 17, g 18, g 19, g 20, g 21, g 22, g 23, g 24, g 25, g 26, g 27, g 28, g 29, g 30, g 31, g 32, g 33, g 34, g 35, g 36, g 37, g 38, g 39]))] sz)) 0 0 (va_A [(mo, .inr (8, [g 0, g 1, g 2, Value.int 0, g 4, Value.int 0, g 6, g 7, g 8, g 9, g 10, g 11, g 12, g 13, g 14, g 15, g 16, g 17, g 18, g 19, g 20, g 21, g 22, g 23, g 24, g 25, g 26, g 27, g 28, g 29, g 30, g 31, g 32, g 33, g 34, g 35, g 36, g 37, g 38, g 39]))] sz) := by
  refine Met.ofW (cc := cX8_next) (maxL := 4) (ret := none) (by decide) rfl ?_
  intro p e s m args below meth c s₁ B hml hv
  obtain ⟨rfl, hsz, hP, hK, hD0, hE⟩ := hv
  have hx := B.exec
  have hb := B.bytes
  have hr := B.returns
  have hts := atoms_spec (ws := wsX8_next) B.pre
  have hown : s.vm.findClass RX8 = some m.cls := findClass_of_methodNamed B.named
  have hlocks := B.notSynchronized
  subst hsz
  have hD := hD0.self (sz := s.heap.size)
  generalize hAe : va_A [(mo, .inr (8, [g 0, g 1, g 2, Value.int 0, g 4, Value.int 0, g 6, g 7, g 8, g 9, g 10, g 11, g 12, g 13, g 14, g 15, g 16, g 17, g 18, g 19, g 20, g 21, g 22, g 23, g 24, g 25, g 26, g 27, g 28, g 29, g 30, g 31, g 32, g 33, g 34, g 35, g 36, g 37, g 38, g 39]))] s.heap.size = A at hD ⊢
  have hA : ∀ q : Nat, s.heap.size ≤ q → A q := fun q h => by rw [← hAe]; exact Or.inr h
  have hS : va_S A s.heap s.heap [] := va_S.rf
  have hP : va_P (dC, dI) vwCl [(mo, .inr (8, [g 0, g 1, g 2, Value.int 0, g 4, Value.int 0, g 6, g 7, g 8, g 9, g 10, g 11, g 12, g 13, g 14, g 15, g 16, g 17, g 18, g 19, g 20, g 21, g 22, g 23, g 24, g 25, g 26, g 27, g 28, g 29, g 30, g 31, g 32, g 33, g 34, g 35, g 36, g 37, g 38, g 39]))] s.heap := hP
  have hl := lv_entry ([.ref mo]) (n := 4) (Nat.le_of_ble_eq_true rfl)
  rw [lg_entry_eq]
  generalize (lg_sl ([.ref mo]) ++ List.replicate (4 - (lg_sl ([.ref mo])).length) Slot.unset).toArray = ls at hl ⊢
  have hl : lv_has ls 4 [(0, .ref mo)] := hl
  refine lv_aload_n hx hb dX8_next_0 rfl (lv_at hl 0 rfl) ?_
  refine va_get (D := (dC, dI)) (ci := 8) (v := .int 0) (C := RX8) (T := TX8) (N := 40) hx hb hts (by decide +kernel) hown hK hP 0 rfl rfl 5 (by decide) (hts (.fieldLink RX8 71 "WaxTurnsModel" "end" "I") (by decide +kernel)) (fun _ h9 => h9) rfl dX8_next_1 ?_
  refine lv_istore_n (lv' := [(1, .int 0), (0, .ref mo)]) hx hb dX8_next_4 rfl hl (by decide) rfl (fun ls hl => ?_)
  refine lv_aload_n hx hb dX8_next_5 rfl (lv_at hl 1 rfl) ?_
  refine lv_iload_n hx hb dX8_next_6 rfl (lv_at hl 0 rfl) ?_
  have hPc := hP.sub (ws' := [(mo, .inr (8, [g 0, g 1, g 2, Value.int 0, g 4, Value.int 0, g 6, g 7, g 8, g 9, g 10, g 11, g 12, g 13, g 14, g 15, g 16, g 17, g 18, g 19, g 20, g 21, g 22, g 23, g 24, g 25, g 26, g 27, g 28, g 29, g 30, g 31, g 32, g 33, g 34, g 35, g 36, g 37, g 38, g 39]))]) [0] rfl
  have hDc := hD.sub (ws' := [(mo, .inr (8, [g 0, g 1, g 2, Value.int 0, g 4, Value.int 0, g 6, g 7, g 8, g 9, g 10, g 11, g 12, g 13, g 14, g 15, g 16, g 17, g 18, g 19, g 20, g 21, g 22, g 23, g 24, g 25, g 26, g 27, g 28, g 29, g 30, g 31, g 32, g 33, g 34, g 35, g 36, g 37, g 38, g 39]))]) [0] (by decide) rfl
  have hKc := hK.sub (tys' := []) [] rfl
  have hFc := va_free (wc := [(mo, .inr (8, [g 0, g 1, g 2, Value.int 0, g 4, Value.int 0, g 6, g 7, g 8, g 9, g 10, g 11, g 12, g 13, g 14, g 15, g 16, g 17, g 18, g 19, g 20, g 21, g 22, g 23, g 24, g 25, g 26, g 27, g 28, g 29, g 30, g 31, g 32, g 33, g 34, g 35, g 36, g 37, g 38, g 39]))]) hD hS hA [0] rfl
  refine va_calli (va_runV (As := [.int 0]) (rest := []) ⟨hx, hb, hml, hown, hts⟩ (c_X8_see l dC dI s.heap.size mo (fun i9 => ([g 0, g 1, g 2, Value.null, g 4, Value.int 0, g 6, g 7, g 8, g 9, g 10, g 11, g 12, g 13, g 14, g 15, g 16, g 17, g 18, g 19, g 20, g 21, g 22, g 23, g 24, g 25, g 26, g 27, g 28, g 29, g 30, g 31, g 32, g 33, g 34, g 35, g 36, g 37, g 38, g 39] : List Value).getD i9 .null) ) (cwV 1 hts gX8_next_X8_see rfl rfl rfl (by decide +kernel) ⟨Nat.le_of_ble_eq_true rfl, Nat.le_of_ble_eq_true rfl⟩) ⟨ax_blind (fun _ _ _ _ _ => trivial), va_recv hKc hPc (ci := 8) (q0 := 0) rfl rfl, ax_pre hPc hKc hDc (fun _ _ => trivial)⟩ rfl rfl hl.1 rfl (lv_room (Nat.le_of_ble_eq_true rfl)) dX8_next_7 ⟨Nat.le_of_ble_eq_true rfl, Nat.le_of_ble_eq_true rfl⟩) hS (fun q _ h => hFc q h) hFc (fun r_1 u t H1 locs ht hvm hw hB hz1 hk1 hS => ?_)
  obtain ⟨hP1, hK1, hD1⟩ := hB
  rw [ht] at hP1
  have hK1 := va_K.moved hvm.symm hK1
  obtain ⟨hP, hD⟩ := va_join (wr := []) (w1 := [(mo, .inr (8, [g 0, g 1, g 2, Value.int 0, g 4, Value.int 0, g 6, g 7, g 8, g 9, g 10, g 11, g 12, g 13, g 14, g 15, g 16, g 17, g 18, g 19, g 20, g 21, g 22, g 23, g 24, g 25, g 26, g 27, g 28, g 29, g 30, g 31, g 32, g 33, g 34, g 35, g 36, g 37, g 38, g 39]))]) hP hD [0] [] rfl rfl (by decide) (by decide) hk1 hFc hP1 hD1
  have hK := (hK.sub (tys' := []) [] rfl).app hK1
  generalize H1 = H at hP hS ⊢
  have hP : va_P (dC, dI) vwCl [(mo, .inr (8, [g 0, g 1, g 2, Value.int 0, g 4, Value.int 0, g 6, g 7, g 8, g 9, g 10, g 11, g 12, g 13, g 14, g 15, g 16, g 17, g 18, g 19, g 20, g 21, g 22, g 23, g 24, g 25, g 26, g 27, g 28, g 29, g 30, g 31, g 32, g 33, g 34, g 35, g 36, g 37, g 38, g 39]))] H := hP
  have hD : va_D A [(mo, .inr (8, [g 0, g 1, g 2, Value.int 0, g 4, Value.int 0, g 6, g 7, g 8, g 9, g 10, g 11, g 12, g 13, g 14, g 15, g 16, g 17, g 18, g 19, g 20, g 21, g 22, g 23, g 24, g 25, g 26, g 27, g 28, g 29, g 30, g 31, g 32, g 33, g 34, g 35, g 36, g 37, g 38, g 39]))] := hD
  have hK : va_K (dC, dI) vwCl [] s := hK
  have hw : r_1 = (-1) := hw
  subst hw
  refine lv_bipush (v := 32) hx hb dX8_next_10 (by decide) ?_
  refine lv_icmp_ne (tgt := 21) hx hb dX8_next_12 (by decide) (fun _ => ?_) (fun c_2 => absurd c_2 (by decide +kernel))
  refine lv_aload_n hx hb dX8_next_21 rfl (lv_at hl 1 rfl) ?_
  refine lv_iload_n hx hb dX8_next_22 rfl (lv_at hl 0 rfl) ?_
  refine va_put (D := (dC, dI)) (ci := 8) (v := .int 0) (ty := .int) (C := RX8) (T := TX8) (N := 40) hx hb hts (by decide +kernel) tyX8 tyX8_ok nmX8 hown hK hP hD hS 0 rfl rfl 4 (by decide) (hts (.fieldLink RX8 78 "WaxTurnsModel" "at" "I") (by decide +kernel)) (fun _ h9 => h9) rfl (by decide +kernel) rfl rfl (Nat.le_of_ble_eq_true rfl) dX8_next_23 (fun H locs hP hD hS => ?_)
  have hP : va_P (dC, dI) vwCl [(mo, .inr (8, [g 0, g 1, g 2, Value.int 0, Value.int 0, Value.int 0, g 6, g 7, g 8, g 9, g 10, g 11, g 12, g 13, g 14, g 15, g 16, g 17, g 18, g 19, g 20, g 21, g 22, g 23, g 24, g 25, g 26, g 27, g 28, g 29, g 30, g 31, g 32, g 33, g 34, g 35, g 36, g 37, g 38, g 39]))] H := hP
  have hD : va_D A [(mo, .inr (8, [g 0, g 1, g 2, Value.int 0, Value.int 0, Value.int 0, g 6, g 7, g 8, g 9, g 10, g 11, g 12, g 13, g 14, g 15, g 16, g 17, g 18, g 19, g 20, g 21, g 22, g 23, g 24, g 25, g 26, g 27, g 28, g 29, g 30, g 31, g 32, g 33, g 34, g 35, g 36, g 37, g 38, g 39]))] := hD
  refine lv_aload_n hx hb dX8_next_26 rfl (lv_at hl 1 rfl) ?_
  refine lv_iload_n hx hb dX8_next_27 rfl (lv_at hl 0 rfl) ?_
  have hPc := hP.sub (ws' := [(mo, .inr (8, [g 0, g 1, g 2, Value.int 0, Value.int 0, Value.int 0, g 6, g 7, g 8, g 9, g 10, g 11, g 12, g 13, g 14, g 15, g 16, g 17, g 18, g 19, g 20, g 21, g 22, g 23, g 24, g 25, g 26, g 27, g 28, g 29, g 30, g 31, g 32, g 33, g 34, g 35, g 36, g 37, g 38, g 39]))]) [0] rfl
  have hDc := hD.sub (ws' := [(mo, .inr (8, [g 0, g 1, g 2, Value.int 0, Value.int 0, Value.int 0, g 6, g 7, g 8, g 9, g 10, g 11, g 12, g 13, g 14, g 15, g 16, g 17, g 18, g 19, g 20, g 21, g 22, g 23, g 24, g 25, g 26, g 27, g 28, g 29, g 30, g 31, g 32, g 33, g 34, g 35, g 36, g 37, g 38, g 39]))]) [0] (by decide) rfl
  have hKc := hK.sub (tys' := []) [] rfl
  have hFc := va_free (wc := [(mo, .inr (8, [g 0, g 1, g 2, Value.int 0, Value.int 0, Value.int 0, g 6, g 7, g 8, g 9, g 10, g 11, g 12, g 13, g 14, g 15, g 16, g 17, g 18, g 19, g 20, g 21, g 22, g 23, g 24, g 25, g 26, g 27, g 28, g 29, g 30, g 31, g 32, g 33, g 34, g 35, g 36, g 37, g 38, g 39]))]) hD hS hA [0] rfl
  refine va_calli (va_runV (As := [.int 0]) (rest := []) ⟨hx, hb, hml, hown, hts⟩ (c_X8_see l dC dI H.size mo (fun i9 => ([g 0, g 1, g 2, Value.null, Value.int 0, Value.int 0, g 6, g 7, g 8, g 9, g 10, g 11, g 12, g 13, g 14, g 15, g 16, g 17, g 18, g 19, g 20, g 21, g 22, g 23, g 24, g 25, g 26, g 27, g 28, g 29, g 30, g 31, g 32, g 33, g 34, g 35, g 36, g 37, g 38, g 39] : List Value).getD i9 .null) ) (cwV 1 hts gX8_next_X8_see rfl rfl rfl (by decide +kernel) ⟨Nat.le_of_ble_eq_true rfl, Nat.le_of_ble_eq_true rfl⟩) ⟨ax_blind (fun _ _ _ _ _ => trivial), va_recv hKc hPc (ci := 8) (q0 := 0) rfl rfl, ax_pre hPc hKc hDc (fun _ _ => trivial)⟩ rfl rfl hl.1 rfl (lv_room (Nat.le_of_ble_eq_true rfl)) dX8_next_28 ⟨Nat.le_of_ble_eq_true rfl, Nat.le_of_ble_eq_true rfl⟩) hS (fun q _ h => hFc q h) hFc (fun r_3 u t H1 locs ht hvm hw hB hz1 hk1 hS => ?_)
  obtain ⟨hP1, hK1, hD1⟩ := hB
  rw [ht] at hP1
  have hK1 := va_K.moved hvm.symm hK1
  obtain ⟨hP, hD⟩ := va_join (wr := []) (w1 := [(mo, .inr (8, [g 0, g 1, g 2, Value.int 0, Value.int 0, Value.int 0, g 6, g 7, g 8, g 9, g 10, g 11, g 12, g 13, g 14, g 15, g 16, g 17, g 18, g 19, g 20, g 21, g 22, g 23, g 24, g 25, g 26, g 27, g 28, g 29, g 30, g 31, g 32, g 33, g 34, g 35, g 36, g 37, g 38, g 39]))]) hP hD [0] [] rfl rfl (by decide) (by decide) hk1 hFc hP1 hD1
  have hK := (hK.sub (tys' := []) [] rfl).app hK1
  generalize H1 = H at hP hS ⊢
  have hP : va_P (dC, dI) vwCl [(mo, .inr (8, [g 0, g 1, g 2, Value.int 0, Value.int 0, Value.int 0, g 6, g 7, g 8, g 9, g 10, g 11, g 12, g 13, g 14, g 15, g 16, g 17, g 18, g 19, g 20, g 21, g 22, g 23, g 24, g 25, g 26, g 27, g 28, g 29, g 30, g 31, g 32, g 33, g 34, g 35, g 36, g 37, g 38, g 39]))] H := hP
  have hD : va_D A [(mo, .inr (8, [g 0, g 1, g 2, Value.int 0, Value.int 0, Value.int 0, g 6, g 7, g 8, g 9, g 10, g 11, g 12, g 13, g 14, g 15, g 16, g 17, g 18, g 19, g 20, g 21, g 22, g 23, g 24, g 25, g 26, g 27, g 28, g 29, g 30, g 31, g 32, g 33, g 34, g 35, g 36, g 37, g 38, g 39]))] := hD
  have hK : va_K (dC, dI) vwCl [] s := hK
  have hw : r_3 = (-1) := hw
  subst hw
  refine lv_istore_n (lv' := [(2, .int (-1)), (1, .int 0), (0, .ref mo)]) hx hb dX8_next_31 rfl hl (by decide) rfl (fun ls hl => ?_)
  refine lv_aload_n hx hb dX8_next_32 rfl (lv_at hl 2 rfl) ?_
  refine lv_iconst (v := 0) hx hb dX8_next_33 (by decide) ?_
  refine va_put (D := (dC, dI)) (ci := 8) (v := .int 0) (ty := .int) (C := RX8) (T := TX8) (N := 40) hx hb hts (by decide +kernel) tyX8 tyX8_ok nmX8 hown hK hP hD hS 0 rfl rfl 8 (by decide) (hts (.fieldLink RX8 81 "WaxTurnsModel" "nameSize" "I") (by decide +kernel)) (fun _ h9 => h9) rfl (by decide +kernel) rfl rfl (Nat.le_of_ble_eq_true rfl) dX8_next_34 (fun H locs hP hD hS => ?_)
  have hP : va_P (dC, dI) vwCl [(mo, .inr (8, [g 0, g 1, g 2, Value.int 0, Value.int 0, Value.int 0, g 6, g 7, Value.int 0, g 9, g 10, g 11, g 12, g 13, g 14, g 15, g 16, g 17, g 18, g 19, g 20, g 21, g 22, g 23, g 24, g 25, g 26, g 27, g 28, g 29, g 30, g 31, g 32, g 33, g 34, g 35, g 36, g 37, g 38, g 39]))] H := hP
  have hD : va_D A [(mo, .inr (8, [g 0, g 1, g 2, Value.int 0, Value.int 0, Value.int 0, g 6, g 7, Value.int 0, g 9, g 10, g 11, g 12, g 13, g 14, g 15, g 16, g 17, g 18, g 19, g 20, g 21, g 22, g 23, g 24, g 25, g 26, g 27, g 28, g 29, g 30, g 31, g 32, g 33, g 34, g 35, g 36, g 37, g 38, g 39]))] := hD
  refine lv_aload_n hx hb dX8_next_37 rfl (lv_at hl 2 rfl) ?_
  refine lv_iconst (v := 0) hx hb dX8_next_38 (by decide) ?_
  refine va_put (D := (dC, dI)) (ci := 8) (v := .int 0) (ty := .int) (C := RX8) (T := TX8) (N := 40) hx hb hts (by decide +kernel) tyX8 tyX8_ok nmX8 hown hK hP hD hS 0 rfl rfl 7 (by decide) (hts (.fieldLink RX8 84 "WaxTurnsModel" "whole" "I") (by decide +kernel)) (fun _ h9 => h9) rfl (by decide +kernel) rfl rfl (Nat.le_of_ble_eq_true rfl) dX8_next_39 (fun H locs hP hD hS => ?_)
  have hP : va_P (dC, dI) vwCl [(mo, .inr (8, [g 0, g 1, g 2, Value.int 0, Value.int 0, Value.int 0, g 6, Value.int 0, Value.int 0, g 9, g 10, g 11, g 12, g 13, g 14, g 15, g 16, g 17, g 18, g 19, g 20, g 21, g 22, g 23, g 24, g 25, g 26, g 27, g 28, g 29, g 30, g 31, g 32, g 33, g 34, g 35, g 36, g 37, g 38, g 39]))] H := hP
  have hD : va_D A [(mo, .inr (8, [g 0, g 1, g 2, Value.int 0, Value.int 0, Value.int 0, g 6, Value.int 0, Value.int 0, g 9, g 10, g 11, g 12, g 13, g 14, g 15, g 16, g 17, g 18, g 19, g 20, g 21, g 22, g 23, g 24, g 25, g 26, g 27, g 28, g 29, g 30, g 31, g 32, g 33, g 34, g 35, g 36, g 37, g 38, g 39]))] := hD
  refine lv_iload_n hx hb dX8_next_42 rfl (lv_at hl 0 rfl) ?_
  refine lv_iconst (v := (-1)) hx hb dX8_next_43 (by decide) ?_
  refine lv_icmp_ne (tgt := 60) hx hb dX8_next_44 (by decide) (fun c_4 => absurd (by decide +kernel) c_4) (fun _ => ?_)
  refine lv_aload_n hx hb dX8_next_47 rfl (lv_at hl 2 rfl) ?_
  refine lv_iconst (v := 0) hx hb dX8_next_48 (by decide) ?_
  refine va_put (D := (dC, dI)) (ci := 8) (v := .int 0) (ty := .int) (C := RX8) (T := TX8) (N := 40) hx hb hts (by decide +kernel) tyX8 tyX8_ok nmX8 hown hK hP hD hS 0 rfl rfl 6 (by decide) (hts (.fieldLink RX8 87 "WaxTurnsModel" "token" "I") (by decide +kernel)) (fun _ h9 => h9) rfl (by decide +kernel) rfl rfl (Nat.le_of_ble_eq_true rfl) dX8_next_49 (fun H locs hP hD hS => ?_)
  have hP : va_P (dC, dI) vwCl [(mo, .inr (8, [g 0, g 1, g 2, Value.int 0, Value.int 0, Value.int 0, Value.int 0, Value.int 0, Value.int 0, g 9, g 10, g 11, g 12, g 13, g 14, g 15, g 16, g 17, g 18, g 19, g 20, g 21, g 22, g 23, g 24, g 25, g 26, g 27, g 28, g 29, g 30, g 31, g 32, g 33, g 34, g 35, g 36, g 37, g 38, g 39]))] H := hP
  have hD : va_D A [(mo, .inr (8, [g 0, g 1, g 2, Value.int 0, Value.int 0, Value.int 0, Value.int 0, Value.int 0, Value.int 0, g 9, g 10, g 11, g 12, g 13, g 14, g 15, g 16, g 17, g 18, g 19, g 20, g 21, g 22, g 23, g 24, g 25, g 26, g 27, g 28, g 29, g 30, g 31, g 32, g 33, g 34, g 35, g 36, g 37, g 38, g 39]))] := hD
  refine lv_aload_n hx hb dX8_next_52 rfl (lv_at hl 2 rfl) ?_
  refine lv_iload_n hx hb dX8_next_53 rfl (lv_at hl 1 rfl) ?_
  refine va_put (D := (dC, dI)) (ci := 8) (v := .int 0) (ty := .int) (C := RX8) (T := TX8) (N := 40) hx hb hts (by decide +kernel) tyX8 tyX8_ok nmX8 hown hK hP hD hS 0 rfl rfl 5 (by decide) (hts (.fieldLink RX8 71 "WaxTurnsModel" "end" "I") (by decide +kernel)) (fun _ h9 => h9) rfl (by decide +kernel) rfl rfl (Nat.le_of_ble_eq_true rfl) dX8_next_54 (fun H locs hP hD hS => ?_)
  have hP : va_P (dC, dI) vwCl [(mo, .inr (8, [g 0, g 1, g 2, Value.int 0, Value.int 0, Value.int 0, Value.int 0, Value.int 0, Value.int 0, g 9, g 10, g 11, g 12, g 13, g 14, g 15, g 16, g 17, g 18, g 19, g 20, g 21, g 22, g 23, g 24, g 25, g 26, g 27, g 28, g 29, g 30, g 31, g 32, g 33, g 34, g 35, g 36, g 37, g 38, g 39]))] H := hP
  have hD : va_D A [(mo, .inr (8, [g 0, g 1, g 2, Value.int 0, Value.int 0, Value.int 0, Value.int 0, Value.int 0, Value.int 0, g 9, g 10, g 11, g 12, g 13, g 14, g 15, g 16, g 17, g 18, g 19, g 20, g 21, g 22, g 23, g 24, g 25, g 26, g 27, g 28, g 29, g 30, g 31, g 32, g 33, g 34, g 35, g 36, g 37, g 38, g 39]))] := hD
  refine lv_goto (tgt := 241) hx hb dX8_next_57 (by decide) ?_
  have hP9 := hP.sub (ws' := [(mo, .inr (8, [g 0, g 1, g 2, Value.int 0, Value.int 0, Value.int 0, Value.int 0, Value.int 0, Value.int 0, g 9, g 10, g 11, g 12, g 13, g 14, g 15, g 16, g 17, g 18, g 19, g 20, g 21, g 22, g 23, g 24, g 25, g 26, g 27, g 28, g 29, g 30, g 31, g 32, g 33, g 34, g 35, g 36, g 37, g 38, g 39]))]) [0] rfl
  have hD9 := hD.sub (ws' := [(mo, .inr (8, [g 0, g 1, g 2, Value.int 0, Value.int 0, Value.int 0, Value.int 0, Value.int 0, Value.int 0, g 9, g 10, g 11, g 12, g 13, g 14, g 15, g 16, g 17, g 18, g 19, g 20, g 21, g 22, g 23, g 24, g 25, g 26, g 27, g 28, g 29, g 30, g 31, g 32, g 33, g 34, g 35, g 36, g 37, g 38, g 39]))]) [0] (by decide) rfl
  have hK9 := hK.sub (tys' := []) [] rfl
  exact W.vret hx hb hr (fun t ht hW => ⟨⟨(), rfl, trivial, by rw [ht]; exact hP9, va_K.moved hW.alike hK9, hD9⟩, hS.F ht⟩) hS.2.2 dX8_next_241

set_option maxHeartbeats 4000000 in
set_option maxRecDepth 100000 in
theorem c_X8_isWord (l : Launch) (dC : Nat → ClassId) (dI : Nat → Nat → Nat) (sz : Nat) (mo : Nat) (sq : Nat) (g : Nat → Value) : Met l yX8_isWord wsX8_isWord ({ frames := 0, cells := 0, slots := 0, locals := 0 }) (va_Pc [.ref mo, .ref sq] (ax_C dC dI sz [(mo, .inr (8, [g 0, g 1, g 2, g 3, g 4, g 5, Value.int 0, g 7, g 8, g 9, g 10, g 11, g 12, Value.int 0, g 14, g 15, g 16, g 17, g 18, g 19, g 20, g 21, g 22, g 23, g 24, g 25, g 26, g 27, g 28, g 29, g 30, g 31, g 32, g 33, g 34, g 35, g 36, g 37, g 38, g 39]))] [] (fun _ => True))) (va_Qi (fun (r : Int32) (_ : Unit) => r = 0) (fun (_ : Unit) (t : State) => ax_B dC dI (va_A [(mo, .inr (8, [g 0, g 1, g 2, g 3, g 4, g 5, Value.int 0, g 7, g 8, g 9, g 10, g 11, g 12, Value.int 0, g 14, g 15, g 16, g 17, g 18, g 19, g 20, g 21, g 22, g 23, g 24, g 25, g 26, g 27, g 28, g 29, g 30, g 31, g 32, g 33, g 34, g 35, g 36, g 37, g 38, g 39]))] sz) [(mo, .inr (8, [g 0, g 1, g 2, g 3, g 4, g 5, Value.int 0, g 7, g 8, g 9, g 10, g 11, g 12, Value.int 0, g 14, g 15, g 16, g 17, g 18, g 19, g 20, g 21, g 22, g 23, g 24, g 25, g 26, g 27, g 28, g 29, g 30, g 31, g 32, g 33, g 34, g 35, g 36, g 37, g 38, g 39]))] [] t) (va_A [(mo, .inr (8, [g 0, g 1, g 2, g 3, g 4, g 5, Value.int 0, g 7, g 8, g 9, g 10, g 11, g 12, Value.int 0, g 14, g 15, g 16, g 17, g 18, g 19, g 20, g 21, g 22, g 23, g 24, g 25, g 26, g 27, g 28, g 29, g 30, g 31, g 32, g 33, g 34, g 35, g 36, g 37, g 38, g 39]))] sz)) 0 0 (va_A [(mo, .inr (8, [g 0, g 1, g 2, g 3, g 4, g 5, Value.int 0, g 7, g 8, g 9, g 10, g 11, g 12, Value.int 0, g 14, g 15, g 16, g 17, g 18, g 19, g 20, g 21, g 22, g 23, g 24, g 25, g 26, g 27, g 28, g 29, g 30, g 31, g 32, g 33, g 34, g 35, g 36, g 37, g 38, g 39]))] sz) := by
  refine Met.ofW (cc := cX8_isWord) (maxL := 4) (ret := (some .boolean)) (by decide) rfl ?_
  intro p e s m args below meth c s₁ B hml hv
  obtain ⟨rfl, hsz, hP, hK, hD0, hE⟩ := hv
  have hx := B.exec
  have hb := B.bytes
  have hr := B.returns
  have hts := atoms_spec (ws := wsX8_isWord) B.pre
  have hown : s.vm.findClass RX8 = some m.cls := findClass_of_methodNamed B.named
  have hlocks := B.notSynchronized
  subst hsz
  have hD := hD0.self (sz := s.heap.size)
  generalize hAe : va_A [(mo, .inr (8, [g 0, g 1, g 2, g 3, g 4, g 5, Value.int 0, g 7, g 8, g 9, g 10, g 11, g 12, Value.int 0, g 14, g 15, g 16, g 17, g 18, g 19, g 20, g 21, g 22, g 23, g 24, g 25, g 26, g 27, g 28, g 29, g 30, g 31, g 32, g 33, g 34, g 35, g 36, g 37, g 38, g 39]))] s.heap.size = A at hD ⊢
  have hA : ∀ q : Nat, s.heap.size ≤ q → A q := fun q h => by rw [← hAe]; exact Or.inr h
  have hS : va_S A s.heap s.heap [] := va_S.rf
  have hP : va_P (dC, dI) vwCl [(mo, .inr (8, [g 0, g 1, g 2, g 3, g 4, g 5, Value.int 0, g 7, g 8, g 9, g 10, g 11, g 12, Value.int 0, g 14, g 15, g 16, g 17, g 18, g 19, g 20, g 21, g 22, g 23, g 24, g 25, g 26, g 27, g 28, g 29, g 30, g 31, g 32, g 33, g 34, g 35, g 36, g 37, g 38, g 39]))] s.heap := hP
  have hl := lv_entry ([.ref mo, .ref sq]) (n := 4) (Nat.le_of_ble_eq_true rfl)
  rw [lg_entry_eq]
  generalize (lg_sl ([.ref mo, .ref sq]) ++ List.replicate (4 - (lg_sl ([.ref mo, .ref sq])).length) Slot.unset).toArray = ls at hl ⊢
  have hl : lv_has ls 4 [(0, .ref mo), (1, .ref sq)] := hl
  refine lv_aload_n hx hb dX8_isWord_0 rfl (lv_at hl 0 rfl) ?_
  refine va_get (D := (dC, dI)) (ci := 8) (v := .int 0) (C := RX8) (T := TX8) (N := 40) hx hb hts (by decide +kernel) hown hK hP 0 rfl rfl 13 (by decide) (hts (.fieldLink RX8 97 "WaxTurnsModel" "failed" "Z") (by decide +kernel)) (fun _ h9 => h9) rfl dX8_isWord_1 ?_
  refine lv_if_ne (tgt := 26) hx hb dX8_isWord_4 (by decide) (fun c_1 => absurd (by decide +kernel) c_1) (fun _ => ?_)
  refine lv_aload_n hx hb dX8_isWord_7 rfl (lv_at hl 0 rfl) ?_
  refine va_get (D := (dC, dI)) (ci := 8) (v := .int 0) (C := RX8) (T := TX8) (N := 40) hx hb hts (by decide +kernel) hown hK hP 0 rfl rfl 6 (by decide) (hts (.fieldLink RX8 87 "WaxTurnsModel" "token" "I") (by decide +kernel)) (fun _ h9 => h9) rfl dX8_isWord_8 ?_
  refine lv_iconst (v := 2) hx hb dX8_isWord_11 (by decide) ?_
  refine lv_icmp_ne (tgt := 26) hx hb dX8_isWord_12 (by decide) (fun _ => ?_) (fun c_2 => absurd c_2 (by decide +kernel))
  refine lv_iconst (v := 0) hx hb dX8_isWord_26 (by decide) ?_
  have hP9 := hP.sub (ws' := [(mo, .inr (8, [g 0, g 1, g 2, g 3, g 4, g 5, Value.int 0, g 7, g 8, g 9, g 10, g 11, g 12, Value.int 0, g 14, g 15, g 16, g 17, g 18, g 19, g 20, g 21, g 22, g 23, g 24, g 25, g 26, g 27, g 28, g 29, g 30, g 31, g 32, g 33, g 34, g 35, g 36, g 37, g 38, g 39]))]) [0] rfl
  have hD9 := hD.sub (ws' := [(mo, .inr (8, [g 0, g 1, g 2, g 3, g 4, g 5, Value.int 0, g 7, g 8, g 9, g 10, g 11, g 12, Value.int 0, g 14, g 15, g 16, g 17, g 18, g 19, g 20, g 21, g 22, g 23, g 24, g 25, g 26, g 27, g 28, g 29, g 30, g 31, g 32, g 33, g 34, g 35, g 36, g 37, g 38, g 39]))]) [0] (by decide) rfl
  have hK9 := hK.sub (tys' := []) [] rfl
  exact W.zret (v := 0) hx hb hr rfl (fun t ht hW => ⟨⟨0, (), rfl, rfl, by rw [ht]; exact hP9, va_K.moved hW.alike hK9, hD9⟩, hS.F ht⟩) hS.2.2 dX8_isWord_27

set_option maxHeartbeats 4000000 in
set_option maxRecDepth 100000 in
theorem c_X8_begins (l : Launch) (dC : Nat → ClassId) (dI : Nat → Nat → Nat) (sz : Nat) (mo : Nat) (sq : Nat) (b : Int32) (g : Nat → Value) : Met l yX8_begins wsX8_begins ({ frames := 1, cells := 0, slots := 0, locals := 23 }) (va_Pc [.ref mo, .ref sq, .int b] (ax_C dC dI sz [(mo, .inr (8, [g 0, g 1, g 2, g 3, g 4, g 5, Value.int 0, g 7, g 8, g 9, g 10, g 11, g 12, Value.int 0, g 14, g 15, g 16, g 17, g 18, g 19, g 20, g 21, g 22, g 23, g 24, g 25, g 26, g 27, g 28, g 29, g 30, g 31, g 32, g 33, g 34, g 35, g 36, g 37, g 38, g 39]))] [] (fun _ => True))) (va_Qi (fun (r : Int32) (_ : Unit) => r = 0) (fun (_ : Unit) (t : State) => ax_B dC dI (va_A [(mo, .inr (8, [g 0, g 1, g 2, g 3, g 4, g 5, Value.int 0, g 7, g 8, g 9, g 10, g 11, g 12, Value.int 0, g 14, g 15, g 16, g 17, g 18, g 19, g 20, g 21, g 22, g 23, g 24, g 25, g 26, g 27, g 28, g 29, g 30, g 31, g 32, g 33, g 34, g 35, g 36, g 37, g 38, g 39]))] sz) [(mo, .inr (8, [g 0, g 1, g 2, g 3, g 4, g 5, Value.int 0, g 7, g 8, g 9, g 10, g 11, g 12, Value.int 0, g 14, g 15, g 16, g 17, g 18, g 19, g 20, g 21, g 22, g 23, g 24, g 25, g 26, g 27, g 28, g 29, g 30, g 31, g 32, g 33, g 34, g 35, g 36, g 37, g 38, g 39]))] [] t) (va_A [(mo, .inr (8, [g 0, g 1, g 2, g 3, g 4, g 5, Value.int 0, g 7, g 8, g 9, g 10, g 11, g 12, Value.int 0, g 14, g 15, g 16, g 17, g 18, g 19, g 20, g 21, g 22, g 23, g 24, g 25, g 26, g 27, g 28, g 29, g 30, g 31, g 32, g 33, g 34, g 35, g 36, g 37, g 38, g 39]))] sz)) 0 0 (va_A [(mo, .inr (8, [g 0, g 1, g 2, g 3, g 4, g 5, Value.int 0, g 7, g 8, g 9, g 10, g 11, g 12, Value.int 0, g 14, g 15, g 16, g 17, g 18, g 19, g 20, g 21, g 22, g 23, g 24, g 25, g 26, g 27, g 28, g 29, g 30, g 31, g 32, g 33, g 34, g 35, g 36, g 37, g 38, g 39]))] sz) := by
  refine Met.ofW (cc := cX8_begins) (maxL := 3) (ret := (some .boolean)) (by decide) rfl ?_
  intro p e s m args below meth c s₁ B hml hv
  obtain ⟨rfl, hsz, hP, hK, hD0, hE⟩ := hv
  have hx := B.exec
  have hb := B.bytes
  have hr := B.returns
  have hts := atoms_spec (ws := wsX8_begins) B.pre
  have hown : s.vm.findClass RX8 = some m.cls := findClass_of_methodNamed B.named
  have hlocks := B.notSynchronized
  subst hsz
  have hD := hD0.self (sz := s.heap.size)
  generalize hAe : va_A [(mo, .inr (8, [g 0, g 1, g 2, g 3, g 4, g 5, Value.int 0, g 7, g 8, g 9, g 10, g 11, g 12, Value.int 0, g 14, g 15, g 16, g 17, g 18, g 19, g 20, g 21, g 22, g 23, g 24, g 25, g 26, g 27, g 28, g 29, g 30, g 31, g 32, g 33, g 34, g 35, g 36, g 37, g 38, g 39]))] s.heap.size = A at hD ⊢
  have hA : ∀ q : Nat, s.heap.size ≤ q → A q := fun q h => by rw [← hAe]; exact Or.inr h
  have hS : va_S A s.heap s.heap [] := va_S.rf
  have hP : va_P (dC, dI) vwCl [(mo, .inr (8, [g 0, g 1, g 2, g 3, g 4, g 5, Value.int 0, g 7, g 8, g 9, g 10, g 11, g 12, Value.int 0, g 14, g 15, g 16, g 17, g 18, g 19, g 20, g 21, g 22, g 23, g 24, g 25, g 26, g 27, g 28, g 29, g 30, g 31, g 32, g 33, g 34, g 35, g 36, g 37, g 38, g 39]))] s.heap := hP
  have hl := lv_entry ([.ref mo, .ref sq, .int b]) (n := 3) (Nat.le_of_ble_eq_true rfl)
  rw [lg_entry_eq]
  generalize (lg_sl ([.ref mo, .ref sq, .int b]) ++ List.replicate (3 - (lg_sl ([.ref mo, .ref sq, .int b])).length) Slot.unset).toArray = ls at hl ⊢
  have hl : lv_has ls 3 [(0, .ref mo), (1, .ref sq), (2, .int b)] := hl
  refine lv_aload_n hx hb dX8_begins_0 rfl (lv_at hl 0 rfl) ?_
  refine lv_aload_n hx hb dX8_begins_1 rfl (lv_at hl 1 rfl) ?_
  have hPc := hP.sub (ws' := [(mo, .inr (8, [g 0, g 1, g 2, g 3, g 4, g 5, Value.int 0, g 7, g 8, g 9, g 10, g 11, g 12, Value.int 0, g 14, g 15, g 16, g 17, g 18, g 19, g 20, g 21, g 22, g 23, g 24, g 25, g 26, g 27, g 28, g 29, g 30, g 31, g 32, g 33, g 34, g 35, g 36, g 37, g 38, g 39]))]) [0] rfl
  have hDc := hD.sub (ws' := [(mo, .inr (8, [g 0, g 1, g 2, g 3, g 4, g 5, Value.int 0, g 7, g 8, g 9, g 10, g 11, g 12, Value.int 0, g 14, g 15, g 16, g 17, g 18, g 19, g 20, g 21, g 22, g 23, g 24, g 25, g 26, g 27, g 28, g 29, g 30, g 31, g 32, g 33, g 34, g 35, g 36, g 37, g 38, g 39]))]) [0] (by decide) rfl
  have hKc := hK.sub (tys' := []) [] rfl
  have hFc := va_free (wc := [(mo, .inr (8, [g 0, g 1, g 2, g 3, g 4, g 5, Value.int 0, g 7, g 8, g 9, g 10, g 11, g 12, Value.int 0, g 14, g 15, g 16, g 17, g 18, g 19, g 20, g 21, g 22, g 23, g 24, g 25, g 26, g 27, g 28, g 29, g 30, g 31, g 32, g 33, g 34, g 35, g 36, g 37, g 38, g 39]))]) hD hS hA [0] rfl
  refine va_calli (va_runV (As := [.ref sq]) (rest := []) ⟨hx, hb, hml, hown, hts⟩ (c_X8_isWord l dC dI s.heap.size mo sq g ) (cwV 1 hts gX8_begins_X8_isWord rfl rfl rfl (by decide +kernel) ⟨Nat.le_of_ble_eq_true rfl, Nat.le_of_ble_eq_true rfl⟩) ⟨ax_blind (fun _ _ _ _ _ => trivial), va_recv hKc hPc (ci := 8) (q0 := 0) rfl rfl, ax_pre hPc hKc hDc (fun _ _ => trivial)⟩ rfl rfl hl.1 rfl (lv_room (Nat.le_of_ble_eq_true rfl)) dX8_begins_2 ⟨Nat.le_of_ble_eq_true rfl, Nat.le_of_ble_eq_true rfl⟩) hS (fun q _ h => hFc q h) hFc (fun r_1 u t H1 locs ht hvm hw hB hz1 hk1 hS => ?_)
  obtain ⟨hP1, hK1, hD1⟩ := hB
  rw [ht] at hP1
  have hK1 := va_K.moved hvm.symm hK1
  obtain ⟨hP, hD⟩ := va_join (wr := []) (w1 := [(mo, .inr (8, [g 0, g 1, g 2, g 3, g 4, g 5, Value.int 0, g 7, g 8, g 9, g 10, g 11, g 12, Value.int 0, g 14, g 15, g 16, g 17, g 18, g 19, g 20, g 21, g 22, g 23, g 24, g 25, g 26, g 27, g 28, g 29, g 30, g 31, g 32, g 33, g 34, g 35, g 36, g 37, g 38, g 39]))]) hP hD [0] [] rfl rfl (by decide) (by decide) hk1 hFc hP1 hD1
  have hK := (hK.sub (tys' := []) [] rfl).app hK1
  generalize H1 = H at hP hS ⊢
  have hP : va_P (dC, dI) vwCl [(mo, .inr (8, [g 0, g 1, g 2, g 3, g 4, g 5, Value.int 0, g 7, g 8, g 9, g 10, g 11, g 12, Value.int 0, g 14, g 15, g 16, g 17, g 18, g 19, g 20, g 21, g 22, g 23, g 24, g 25, g 26, g 27, g 28, g 29, g 30, g 31, g 32, g 33, g 34, g 35, g 36, g 37, g 38, g 39]))] H := hP
  have hD : va_D A [(mo, .inr (8, [g 0, g 1, g 2, g 3, g 4, g 5, Value.int 0, g 7, g 8, g 9, g 10, g 11, g 12, Value.int 0, g 14, g 15, g 16, g 17, g 18, g 19, g 20, g 21, g 22, g 23, g 24, g 25, g 26, g 27, g 28, g 29, g 30, g 31, g 32, g 33, g 34, g 35, g 36, g 37, g 38, g 39]))] := hD
  have hK : va_K (dC, dI) vwCl [] s := hK
  have hw : r_1 = 0 := hw
  subst hw
  refine lv_if_ne (tgt := 10) hx hb dX8_begins_5 (by decide) (fun c_2 => absurd (by decide +kernel) c_2) (fun _ => ?_)
  refine lv_iconst (v := 0) hx hb dX8_begins_8 (by decide) ?_
  have hP9 := hP.sub (ws' := [(mo, .inr (8, [g 0, g 1, g 2, g 3, g 4, g 5, Value.int 0, g 7, g 8, g 9, g 10, g 11, g 12, Value.int 0, g 14, g 15, g 16, g 17, g 18, g 19, g 20, g 21, g 22, g 23, g 24, g 25, g 26, g 27, g 28, g 29, g 30, g 31, g 32, g 33, g 34, g 35, g 36, g 37, g 38, g 39]))]) [0] rfl
  have hD9 := hD.sub (ws' := [(mo, .inr (8, [g 0, g 1, g 2, g 3, g 4, g 5, Value.int 0, g 7, g 8, g 9, g 10, g 11, g 12, Value.int 0, g 14, g 15, g 16, g 17, g 18, g 19, g 20, g 21, g 22, g 23, g 24, g 25, g 26, g 27, g 28, g 29, g 30, g 31, g 32, g 33, g 34, g 35, g 36, g 37, g 38, g 39]))]) [0] (by decide) rfl
  have hK9 := hK.sub (tys' := []) [] rfl
  exact W.zret (v := 0) hx hb hr rfl (fun t ht hW => ⟨⟨0, (), rfl, rfl, by rw [ht]; exact hP9, va_K.moved hW.alike hK9, hD9⟩, hS.F ht⟩) hS.2.2 dX8_begins_9

set_option maxHeartbeats 4000000 in
set_option maxRecDepth 100000 in
theorem c_X8_wrong (l : Launch) (dC : Nat → ClassId) (dI : Nat → Nat → Nat) (sz : Nat) (mo : Nat) (n : Int32) (a : Int32) (g : Nat → Value) : Met l yX8_wrong wsX8_wrong ({ frames := 0, cells := 0, slots := 0, locals := 0 }) (va_Pc [.ref mo, .int n, .int a] (ax_C dC dI sz [(mo, .inr (8, [g 0, g 1, g 2, g 3, g 4, g 5, g 6, g 7, g 8, g 9, g 10, g 11, g 12, Value.int 0, g 14, g 15, g 16, g 17, g 18, g 19, g 20, g 21, g 22, g 23, g 24, g 25, g 26, g 27, g 28, g 29, g 30, g 31, g 32, g 33, g 34, g 35, g 36, g 37, g 38, g 39]))] [] (fun _ => True))) (va_Qv (fun (_ : Unit) => True) (fun (_ : Unit) (t : State) => ax_B dC dI (va_A [(mo, .inr (8, [g 0, g 1, g 2, g 3, g 4, g 5, g 6, g 7, g 8, g 9, g 10, g 11, g 12, Value.int 0, g 14, g 15, g 16, g 17, g 18, g 19, g 20, g 21, g 22, g 23, g 24, g 25, g 26, g 27, g 28, g 29, g 30, g 31, g 32, g 33, g 34, g 35, g 36, g 37, g 38, g 39]))] sz) [(mo, .inr (8, [g 0, g 1, g 2, g 3, g 4, g 5, g 6, g 7, g 8, Value.int n, Value.int a, g 11, g 12, Value.int 1, g 14, g 15, g 16, g 17, g 18, g 19, g 20, g 21, g 22, g 23, g 24, g 25, g 26, g 27, g 28, g 29, g 30, g 31, g 32, g 33, g 34, g 35, g 36, g 37, g 38, g 39]))] [] t) (va_A [(mo, .inr (8, [g 0, g 1, g 2, g 3, g 4, g 5, g 6, g 7, g 8, g 9, g 10, g 11, g 12, Value.int 0, g 14, g 15, g 16, g 17, g 18, g 19, g 20, g 21, g 22, g 23, g 24, g 25, g 26, g 27, g 28, g 29, g 30, g 31, g 32, g 33, g 34, g 35, g 36, g 37, g 38, g 39]))] sz)) 0 0 (va_A [(mo, .inr (8, [g 0, g 1, g 2, g 3, g 4, g 5, g 6, g 7, g 8, g 9, g 10, g 11, g 12, Value.int 0, g 14, g 15, g 16, g 17, g 18, g 19, g 20, g 21, g 22, g 23, g 24, g 25, g 26, g 27, g 28, g 29, g 30, g 31, g 32, g 33, g 34, g 35, g 36, g 37, g 38, g 39]))] sz) := by
  refine Met.ofW (cc := cX8_wrong) (maxL := 3) (ret := none) (by decide) rfl ?_
  intro p e s m args below meth c s₁ B hml hv
  obtain ⟨rfl, hsz, hP, hK, hD0, hE⟩ := hv
  have hx := B.exec
  have hb := B.bytes
  have hr := B.returns
  have hts := atoms_spec (ws := wsX8_wrong) B.pre
  have hown : s.vm.findClass RX8 = some m.cls := findClass_of_methodNamed B.named
  have hlocks := B.notSynchronized
  subst hsz
  have hD := hD0.self (sz := s.heap.size)
  generalize hAe : va_A [(mo, .inr (8, [g 0, g 1, g 2, g 3, g 4, g 5, g 6, g 7, g 8, g 9, g 10, g 11, g 12, Value.int 0, g 14, g 15, g 16, g 17, g 18, g 19, g 20, g 21, g 22, g 23, g 24, g 25, g 26, g 27, g 28, g 29, g 30, g 31, g 32, g 33, g 34, g 35, g 36, g 37, g 38, g 39]))] s.heap.size = A at hD ⊢
  have hA : ∀ q : Nat, s.heap.size ≤ q → A q := fun q h => by rw [← hAe]; exact Or.inr h
  have hS : va_S A s.heap s.heap [] := va_S.rf
  have hP : va_P (dC, dI) vwCl [(mo, .inr (8, [g 0, g 1, g 2, g 3, g 4, g 5, g 6, g 7, g 8, g 9, g 10, g 11, g 12, Value.int 0, g 14, g 15, g 16, g 17, g 18, g 19, g 20, g 21, g 22, g 23, g 24, g 25, g 26, g 27, g 28, g 29, g 30, g 31, g 32, g 33, g 34, g 35, g 36, g 37, g 38, g 39]))] s.heap := hP
  have hl := lv_entry ([.ref mo, .int n, .int a]) (n := 3) (Nat.le_of_ble_eq_true rfl)
  rw [lg_entry_eq]
  generalize (lg_sl ([.ref mo, .int n, .int a]) ++ List.replicate (3 - (lg_sl ([.ref mo, .int n, .int a])).length) Slot.unset).toArray = ls at hl ⊢
  have hl : lv_has ls 3 [(0, .ref mo), (1, .int n), (2, .int a)] := hl
  refine lv_aload_n hx hb dX8_wrong_0 rfl (lv_at hl 0 rfl) ?_
  refine va_get (D := (dC, dI)) (ci := 8) (v := .int 0) (C := RX8) (T := TX8) (N := 40) hx hb hts (by decide +kernel) hown hK hP 0 rfl rfl 13 (by decide) (hts (.fieldLink RX8 97 "WaxTurnsModel" "failed" "Z") (by decide +kernel)) (fun _ h9 => h9) rfl dX8_wrong_1 ?_
  refine lv_if_eq (tgt := 8) hx hb dX8_wrong_4 (by decide) (fun _ => ?_) (fun c_1 => absurd (by decide +kernel) c_1)
  refine lv_aload_n hx hb dX8_wrong_8 rfl (lv_at hl 0 rfl) ?_
  refine lv_iconst (v := 1) hx hb dX8_wrong_9 (by decide) ?_
  refine va_put (D := (dC, dI)) (ci := 8) (v := .int 1) (ty := .boolean) (C := RX8) (T := TX8) (N := 40) hx hb hts (by decide +kernel) tyX8 tyX8_ok nmX8 hown hK hP hD hS 0 rfl rfl 13 (by decide) (hts (.fieldLink RX8 97 "WaxTurnsModel" "failed" "Z") (by decide +kernel)) (fun _ h9 => h9) rfl (by decide +kernel) rfl rfl (Nat.le_of_ble_eq_true rfl) dX8_wrong_10 (fun H locs hP hD hS => ?_)
  have hP : va_P (dC, dI) vwCl [(mo, .inr (8, [g 0, g 1, g 2, g 3, g 4, g 5, g 6, g 7, g 8, g 9, g 10, g 11, g 12, Value.int 1, g 14, g 15, g 16, g 17, g 18, g 19, g 20, g 21, g 22, g 23, g 24, g 25, g 26, g 27, g 28, g 29, g 30, g 31, g 32, g 33, g 34, g 35, g 36, g 37, g 38, g 39]))] H := hP
  have hD : va_D A [(mo, .inr (8, [g 0, g 1, g 2, g 3, g 4, g 5, g 6, g 7, g 8, g 9, g 10, g 11, g 12, Value.int 1, g 14, g 15, g 16, g 17, g 18, g 19, g 20, g 21, g 22, g 23, g 24, g 25, g 26, g 27, g 28, g 29, g 30, g 31, g 32, g 33, g 34, g 35, g 36, g 37, g 38, g 39]))] := hD
  refine lv_aload_n hx hb dX8_wrong_13 rfl (lv_at hl 0 rfl) ?_
  refine lv_iload_n hx hb dX8_wrong_14 rfl (lv_at hl 1 rfl) ?_
  refine va_put (D := (dC, dI)) (ci := 8) (v := .int n) (ty := .int) (C := RX8) (T := TX8) (N := 40) hx hb hts (by decide +kernel) tyX8 tyX8_ok nmX8 hown hK hP hD hS 0 rfl rfl 9 (by decide) (hts (.fieldLink RX8 101 "WaxTurnsModel" "fault" "I") (by decide +kernel)) (fun _ h9 => h9) rfl (by decide +kernel) rfl rfl (Nat.le_of_ble_eq_true rfl) dX8_wrong_15 (fun H locs hP hD hS => ?_)
  have hP : va_P (dC, dI) vwCl [(mo, .inr (8, [g 0, g 1, g 2, g 3, g 4, g 5, g 6, g 7, g 8, Value.int n, g 10, g 11, g 12, Value.int 1, g 14, g 15, g 16, g 17, g 18, g 19, g 20, g 21, g 22, g 23, g 24, g 25, g 26, g 27, g 28, g 29, g 30, g 31, g 32, g 33, g 34, g 35, g 36, g 37, g 38, g 39]))] H := hP
  have hD : va_D A [(mo, .inr (8, [g 0, g 1, g 2, g 3, g 4, g 5, g 6, g 7, g 8, Value.int n, g 10, g 11, g 12, Value.int 1, g 14, g 15, g 16, g 17, g 18, g 19, g 20, g 21, g 22, g 23, g 24, g 25, g 26, g 27, g 28, g 29, g 30, g 31, g 32, g 33, g 34, g 35, g 36, g 37, g 38, g 39]))] := hD
  refine lv_aload_n hx hb dX8_wrong_18 rfl (lv_at hl 0 rfl) ?_
  refine lv_iload_n hx hb dX8_wrong_19 rfl (lv_at hl 2 rfl) ?_
  refine va_put (D := (dC, dI)) (ci := 8) (v := .int a) (ty := .int) (C := RX8) (T := TX8) (N := 40) hx hb hts (by decide +kernel) tyX8 tyX8_ok nmX8 hown hK hP hD hS 0 rfl rfl 10 (by decide) (hts (.fieldLink RX8 13 "WaxTurnsModel" "place" "I") (by decide +kernel)) (fun _ h9 => h9) rfl (by decide +kernel) rfl rfl (Nat.le_of_ble_eq_true rfl) dX8_wrong_20 (fun H locs hP hD hS => ?_)
  have hP : va_P (dC, dI) vwCl [(mo, .inr (8, [g 0, g 1, g 2, g 3, g 4, g 5, g 6, g 7, g 8, Value.int n, Value.int a, g 11, g 12, Value.int 1, g 14, g 15, g 16, g 17, g 18, g 19, g 20, g 21, g 22, g 23, g 24, g 25, g 26, g 27, g 28, g 29, g 30, g 31, g 32, g 33, g 34, g 35, g 36, g 37, g 38, g 39]))] H := hP
  have hD : va_D A [(mo, .inr (8, [g 0, g 1, g 2, g 3, g 4, g 5, g 6, g 7, g 8, Value.int n, Value.int a, g 11, g 12, Value.int 1, g 14, g 15, g 16, g 17, g 18, g 19, g 20, g 21, g 22, g 23, g 24, g 25, g 26, g 27, g 28, g 29, g 30, g 31, g 32, g 33, g 34, g 35, g 36, g 37, g 38, g 39]))] := hD
  have hP9 := hP.sub (ws' := [(mo, .inr (8, [g 0, g 1, g 2, g 3, g 4, g 5, g 6, g 7, g 8, Value.int n, Value.int a, g 11, g 12, Value.int 1, g 14, g 15, g 16, g 17, g 18, g 19, g 20, g 21, g 22, g 23, g 24, g 25, g 26, g 27, g 28, g 29, g 30, g 31, g 32, g 33, g 34, g 35, g 36, g 37, g 38, g 39]))]) [0] rfl
  have hD9 := hD.sub (ws' := [(mo, .inr (8, [g 0, g 1, g 2, g 3, g 4, g 5, g 6, g 7, g 8, Value.int n, Value.int a, g 11, g 12, Value.int 1, g 14, g 15, g 16, g 17, g 18, g 19, g 20, g 21, g 22, g 23, g 24, g 25, g 26, g 27, g 28, g 29, g 30, g 31, g 32, g 33, g 34, g 35, g 36, g 37, g 38, g 39]))]) [0] (by decide) rfl
  have hK9 := hK.sub (tys' := []) [] rfl
  exact W.vret hx hb hr (fun t ht hW => ⟨⟨(), rfl, trivial, by rw [ht]; exact hP9, va_K.moved hW.alike hK9, hD9⟩, hS.F ht⟩) hS.2.2 dX8_wrong_23

set_option maxHeartbeats 4000000 in
set_option maxRecDepth 100000 in
theorem c_X8_readLine (l : Launch) (dC : Nat → ClassId) (dI : Nat → Nat → Nat) (sz : Nat) (mo : Nat) (g : Nat → Value) (ap : Int32) (fr : Nat) (kf : ClassId) (s128 : Nat) (s130 : Nat) (s132 : Nat) (s134 : Nat) (s136 : Nat) : Met l yX8_readLine wsX8_readLine ({ frames := 2, cells := 0, slots := 0, locals := 45 }) (va_Pc [.ref mo] (ax_C dC dI sz [(mo, .inr (8, [g 0, g 1, g 2, g 3, Value.int ap, g 5, Value.int 0, g 7, g 8, g 9, g 10, g 11, g 12, Value.int 0, g 14, g 15, Value.ref fr, g 17, g 18, g 19, g 20, g 21, g 22, g 23, g 24, g 25, g 26, g 27, g 28, g 29, g 30, g 31, g 32, g 33, g 34, g 35, g 36, g 37, g 38, g 39])), (fr, .inl (kf, 156, .inl (fun _ => 0)))] [(kf, .int)] (fun U => vk_R RX8 128 "gallery" s128 U ∧ vk_R RX8 130 "law" s130 U ∧ vk_R RX8 132 "figure" s132 U ∧ vk_R RX8 134 "watche\x72" s134 U ∧ vk_R RX8 136 "seen" s136 U))) (va_Qv (fun (_ : Unit) => True) (fun (_ : Unit) (t : State) => ax_B dC dI (va_A [(mo, .inr (8, [g 0, g 1, g 2, g 3, Value.int ap, g 5, Value.int 0, g 7, g 8, g 9, g 10, g 11, g 12, Value.int 0, g 14, g 15, Value.ref fr, g 17, g 18, g 19, g 20, g 21, g 22, g 23, g 24, g 25, g 26, g 27, g 28, g 29, g 30, g 31, g 32, g 33, g 34, g 35, g 36, g 37, g 38, g 39])), (fr, .inl (kf, 156, .inl (fun _ => 0)))] sz) [(mo, .inr (8, [g 0, g 1, g 2, g 3, Value.int ap, g 5, Value.int 0, g 7, g 8, Value.int 1, Value.int ap, g 11, g 12, Value.int 1, g 14, g 15, Value.ref fr, g 17, g 18, g 19, g 20, g 21, g 22, g 23, g 24, g 25, g 26, g 27, g 28, g 29, g 30, g 31, g 32, g 33, g 34, g 35, g 36, g 37, g 38, g 39])), (fr, .inl (kf, 156, .inl (fun _ => 0)))] [(kf, .int)] t) (va_A [(mo, .inr (8, [g 0, g 1, g 2, g 3, Value.int ap, g 5, Value.int 0, g 7, g 8, g 9, g 10, g 11, g 12, Value.int 0, g 14, g 15, Value.ref fr, g 17, g 18, g 19, g 20, g 21, g 22, g 23, g 24, g 25, g 26, g 27, g 28, g 29, g 30, g 31, g 32, g 33, g 34, g 35, g 36, g 37, g 38, g 39])), (fr, .inl (kf, 156, .inl (fun _ => 0)))] sz)) 0 0 (va_A [(mo, .inr (8, [g 0, g 1, g 2, g 3, Value.int ap, g 5, Value.int 0, g 7, g 8, g 9, g 10, g 11, g 12, Value.int 0, g 14, g 15, Value.ref fr, g 17, g 18, g 19, g 20, g 21, g 22, g 23, g 24, g 25, g 26, g 27, g 28, g 29, g 30, g 31, g 32, g 33, g 34, g 35, g 36, g 37, g 38, g 39])), (fr, .inl (kf, 156, .inl (fun _ => 0)))] sz) := by
  refine Met.ofW (cc := cX8_readLine) (maxL := 1) (ret := none) (by decide) rfl ?_
  intro p e s m args below meth c s₁ B hml hv
  obtain ⟨rfl, hsz, hP, hK, hD0, hE⟩ := hv
  have hx := B.exec
  have hb := B.bytes
  have hr := B.returns
  have hts := atoms_spec (ws := wsX8_readLine) B.pre
  have hown : s.vm.findClass RX8 = some m.cls := findClass_of_methodNamed B.named
  have hlocks := B.notSynchronized
  subst hsz
  have hD := hD0.self (sz := s.heap.size)
  generalize hAe : va_A [(mo, .inr (8, [g 0, g 1, g 2, g 3, Value.int ap, g 5, Value.int 0, g 7, g 8, g 9, g 10, g 11, g 12, Value.int 0, g 14, g 15, Value.ref fr, g 17, g 18, g 19, g 20, g 21, g 22, g 23, g 24, g 25, g 26, g 27, g 28, g 29, g 30, g 31, g 32, g 33, g 34, g 35, g 36, g 37, g 38, g 39])), (fr, .inl (kf, 156, .inl (fun _ => 0)))] s.heap.size = A at hD ⊢
  have hA : ∀ q : Nat, s.heap.size ≤ q → A q := fun q h => by rw [← hAe]; exact Or.inr h
  have hS : va_S A s.heap s.heap [] := va_S.rf
  have hP : va_P (dC, dI) vwCl [(mo, .inr (8, [g 0, g 1, g 2, g 3, Value.int ap, g 5, Value.int 0, g 7, g 8, g 9, g 10, g 11, g 12, Value.int 0, g 14, g 15, Value.ref fr, g 17, g 18, g 19, g 20, g 21, g 22, g 23, g 24, g 25, g 26, g 27, g 28, g 29, g 30, g 31, g 32, g 33, g 34, g 35, g 36, g 37, g 38, g 39])), (fr, .inl (kf, 156, .inl (fun _ => 0)))] s.heap := hP
  obtain ⟨hE0, hE1, hE2, hE3, hE4⟩ := hE
  have hl := lv_entry ([.ref mo]) (n := 1) (Nat.le_of_ble_eq_true rfl)
  rw [lg_entry_eq]
  generalize (lg_sl ([.ref mo]) ++ List.replicate (1 - (lg_sl ([.ref mo])).length) Slot.unset).toArray = ls at hl ⊢
  have hl : lv_has ls 1 [(0, .ref mo)] := hl
  refine lv_aload_n hx hb dX8_readLine_0 rfl (lv_at hl 0 rfl) ?_
  refine va_ldcS hx hb hown hE0 dX8_readLine_1 ?_
  have hPc := hP.sub (ws' := [(mo, .inr (8, [g 0, g 1, g 2, g 3, Value.int ap, g 5, Value.int 0, g 7, g 8, g 9, g 10, g 11, g 12, Value.int 0, g 14, g 15, Value.ref fr, g 17, g 18, g 19, g 20, g 21, g 22, g 23, g 24, g 25, g 26, g 27, g 28, g 29, g 30, g 31, g 32, g 33, g 34, g 35, g 36, g 37, g 38, g 39]))]) [0] rfl
  have hDc := hD.sub (ws' := [(mo, .inr (8, [g 0, g 1, g 2, g 3, Value.int ap, g 5, Value.int 0, g 7, g 8, g 9, g 10, g 11, g 12, Value.int 0, g 14, g 15, Value.ref fr, g 17, g 18, g 19, g 20, g 21, g 22, g 23, g 24, g 25, g 26, g 27, g 28, g 29, g 30, g 31, g 32, g 33, g 34, g 35, g 36, g 37, g 38, g 39]))]) [0] (by decide) rfl
  have hKc := hK.sub (tys' := []) [] rfl
  have hFc := va_free (wc := [(mo, .inr (8, [g 0, g 1, g 2, g 3, Value.int ap, g 5, Value.int 0, g 7, g 8, g 9, g 10, g 11, g 12, Value.int 0, g 14, g 15, Value.ref fr, g 17, g 18, g 19, g 20, g 21, g 22, g 23, g 24, g 25, g 26, g 27, g 28, g 29, g 30, g 31, g 32, g 33, g 34, g 35, g 36, g 37, g 38, g 39]))]) hD hS hA [0] rfl
  refine va_calli (va_runV (As := [.ref s128]) (rest := []) ⟨hx, hb, hml, hown, hts⟩ (c_X8_isWord l dC dI s.heap.size mo s128 (fun i9 => ([g 0, g 1, g 2, g 3, Value.int ap, g 5, Value.null, g 7, g 8, g 9, g 10, g 11, g 12, Value.null, g 14, g 15, Value.ref fr, g 17, g 18, g 19, g 20, g 21, g 22, g 23, g 24, g 25, g 26, g 27, g 28, g 29, g 30, g 31, g 32, g 33, g 34, g 35, g 36, g 37, g 38, g 39] : List Value).getD i9 .null) ) (cwV 1 hts gX8_readLine_X8_isWord rfl rfl rfl (by decide +kernel) ⟨Nat.le_of_ble_eq_true rfl, Nat.le_of_ble_eq_true rfl⟩) ⟨ax_blind (fun _ _ _ _ _ => trivial), va_recv hKc hPc (ci := 8) (q0 := 0) rfl rfl, ax_pre hPc hKc hDc (fun _ _ => trivial)⟩ rfl rfl hl.1 rfl (lv_room (Nat.le_of_ble_eq_true rfl)) dX8_readLine_3 ⟨Nat.le_of_ble_eq_true rfl, Nat.le_of_ble_eq_true rfl⟩) hS (fun q _ h => hFc q h) hFc (fun r_1 u t H1 locs ht hvm hw hB hz1 hk1 hS => ?_)
  obtain ⟨hP1, hK1, hD1⟩ := hB
  rw [ht] at hP1
  have hK1 := va_K.moved hvm.symm hK1
  obtain ⟨hP, hD⟩ := va_join (wr := [(fr, .inl (kf, 156, .inl (fun _ => 0)))]) (w1 := [(mo, .inr (8, [g 0, g 1, g 2, g 3, Value.int ap, g 5, Value.int 0, g 7, g 8, g 9, g 10, g 11, g 12, Value.int 0, g 14, g 15, Value.ref fr, g 17, g 18, g 19, g 20, g 21, g 22, g 23, g 24, g 25, g 26, g 27, g 28, g 29, g 30, g 31, g 32, g 33, g 34, g 35, g 36, g 37, g 38, g 39]))]) hP hD [0] [1] rfl rfl (by decide) (by decide) hk1 hFc hP1 hD1
  have hK := (hK.sub (tys' := [(kf, .int)]) [0] rfl).app hK1
  generalize H1 = H at hP hS ⊢
  have hP : va_P (dC, dI) vwCl [(fr, .inl (kf, 156, .inl (fun _ => 0))), (mo, .inr (8, [g 0, g 1, g 2, g 3, Value.int ap, g 5, Value.int 0, g 7, g 8, g 9, g 10, g 11, g 12, Value.int 0, g 14, g 15, Value.ref fr, g 17, g 18, g 19, g 20, g 21, g 22, g 23, g 24, g 25, g 26, g 27, g 28, g 29, g 30, g 31, g 32, g 33, g 34, g 35, g 36, g 37, g 38, g 39]))] H := hP
  have hD : va_D A [(fr, .inl (kf, 156, .inl (fun _ => 0))), (mo, .inr (8, [g 0, g 1, g 2, g 3, Value.int ap, g 5, Value.int 0, g 7, g 8, g 9, g 10, g 11, g 12, Value.int 0, g 14, g 15, Value.ref fr, g 17, g 18, g 19, g 20, g 21, g 22, g 23, g 24, g 25, g 26, g 27, g 28, g 29, g 30, g 31, g 32, g 33, g 34, g 35, g 36, g 37, g 38, g 39]))] := hD
  have hK : va_K (dC, dI) vwCl [(kf, .int)] s := hK
  have hw : r_1 = 0 := hw
  subst hw
  refine lv_if_eq (tgt := 16) hx hb dX8_readLine_6 (by decide) (fun _ => ?_) (fun c_2 => absurd (by decide +kernel) c_2)
  refine lv_aload_n hx hb dX8_readLine_16 rfl (lv_at hl 0 rfl) ?_
  refine va_ldcS hx hb hown hE1 dX8_readLine_17 ?_
  have hPc := hP.sub (ws' := [(mo, .inr (8, [g 0, g 1, g 2, g 3, Value.int ap, g 5, Value.int 0, g 7, g 8, g 9, g 10, g 11, g 12, Value.int 0, g 14, g 15, Value.ref fr, g 17, g 18, g 19, g 20, g 21, g 22, g 23, g 24, g 25, g 26, g 27, g 28, g 29, g 30, g 31, g 32, g 33, g 34, g 35, g 36, g 37, g 38, g 39]))]) [1] rfl
  have hDc := hD.sub (ws' := [(mo, .inr (8, [g 0, g 1, g 2, g 3, Value.int ap, g 5, Value.int 0, g 7, g 8, g 9, g 10, g 11, g 12, Value.int 0, g 14, g 15, Value.ref fr, g 17, g 18, g 19, g 20, g 21, g 22, g 23, g 24, g 25, g 26, g 27, g 28, g 29, g 30, g 31, g 32, g 33, g 34, g 35, g 36, g 37, g 38, g 39]))]) [1] (by decide) rfl
  have hKc := hK.sub (tys' := []) [] rfl
  have hFc := va_free (wc := [(mo, .inr (8, [g 0, g 1, g 2, g 3, Value.int ap, g 5, Value.int 0, g 7, g 8, g 9, g 10, g 11, g 12, Value.int 0, g 14, g 15, Value.ref fr, g 17, g 18, g 19, g 20, g 21, g 22, g 23, g 24, g 25, g 26, g 27, g 28, g 29, g 30, g 31, g 32, g 33, g 34, g 35, g 36, g 37, g 38, g 39]))]) hD hS hA [1] rfl
  refine va_calli (va_runV (As := [.ref s130]) (rest := []) ⟨hx, hb, hml, hown, hts⟩ (c_X8_isWord l dC dI H.size mo s130 (fun i9 => ([g 0, g 1, g 2, g 3, Value.int ap, g 5, Value.null, g 7, g 8, g 9, g 10, g 11, g 12, Value.null, g 14, g 15, Value.ref fr, g 17, g 18, g 19, g 20, g 21, g 22, g 23, g 24, g 25, g 26, g 27, g 28, g 29, g 30, g 31, g 32, g 33, g 34, g 35, g 36, g 37, g 38, g 39] : List Value).getD i9 .null) ) (cwV 1 hts gX8_readLine_X8_isWord rfl rfl rfl (by decide +kernel) ⟨Nat.le_of_ble_eq_true rfl, Nat.le_of_ble_eq_true rfl⟩) ⟨ax_blind (fun _ _ _ _ _ => trivial), va_recv hKc hPc (ci := 8) (q0 := 0) rfl rfl, ax_pre hPc hKc hDc (fun _ _ => trivial)⟩ rfl rfl hl.1 rfl (lv_room (Nat.le_of_ble_eq_true rfl)) dX8_readLine_19 ⟨Nat.le_of_ble_eq_true rfl, Nat.le_of_ble_eq_true rfl⟩) hS (fun q _ h => hFc q h) hFc (fun r_3 u t H1 locs ht hvm hw hB hz1 hk1 hS => ?_)
  obtain ⟨hP1, hK1, hD1⟩ := hB
  rw [ht] at hP1
  have hK1 := va_K.moved hvm.symm hK1
  obtain ⟨hP, hD⟩ := va_join (wr := [(fr, .inl (kf, 156, .inl (fun _ => 0)))]) (w1 := [(mo, .inr (8, [g 0, g 1, g 2, g 3, Value.int ap, g 5, Value.int 0, g 7, g 8, g 9, g 10, g 11, g 12, Value.int 0, g 14, g 15, Value.ref fr, g 17, g 18, g 19, g 20, g 21, g 22, g 23, g 24, g 25, g 26, g 27, g 28, g 29, g 30, g 31, g 32, g 33, g 34, g 35, g 36, g 37, g 38, g 39]))]) hP hD [1] [0] rfl rfl (by decide) (by decide) hk1 hFc hP1 hD1
  have hK := (hK.sub (tys' := [(kf, .int)]) [0] rfl).app hK1
  generalize H1 = H at hP hS ⊢
  have hP : va_P (dC, dI) vwCl [(fr, .inl (kf, 156, .inl (fun _ => 0))), (mo, .inr (8, [g 0, g 1, g 2, g 3, Value.int ap, g 5, Value.int 0, g 7, g 8, g 9, g 10, g 11, g 12, Value.int 0, g 14, g 15, Value.ref fr, g 17, g 18, g 19, g 20, g 21, g 22, g 23, g 24, g 25, g 26, g 27, g 28, g 29, g 30, g 31, g 32, g 33, g 34, g 35, g 36, g 37, g 38, g 39]))] H := hP
  have hD : va_D A [(fr, .inl (kf, 156, .inl (fun _ => 0))), (mo, .inr (8, [g 0, g 1, g 2, g 3, Value.int ap, g 5, Value.int 0, g 7, g 8, g 9, g 10, g 11, g 12, Value.int 0, g 14, g 15, Value.ref fr, g 17, g 18, g 19, g 20, g 21, g 22, g 23, g 24, g 25, g 26, g 27, g 28, g 29, g 30, g 31, g 32, g 33, g 34, g 35, g 36, g 37, g 38, g 39]))] := hD
  have hK : va_K (dC, dI) vwCl [(kf, .int)] s := hK
  have hw : r_3 = 0 := hw
  subst hw
  refine lv_if_eq (tgt := 32) hx hb dX8_readLine_22 (by decide) (fun _ => ?_) (fun c_4 => absurd (by decide +kernel) c_4)
  refine lv_aload_n hx hb dX8_readLine_32 rfl (lv_at hl 0 rfl) ?_
  refine va_ldcS hx hb hown hE2 dX8_readLine_33 ?_
  refine lv_aload_n hx hb dX8_readLine_35 rfl (lv_at hl 0 rfl) ?_
  refine va_get (D := (dC, dI)) (ci := 8) (v := .ref fr) (C := RX8) (T := TX8) (N := 40) hx hb hts (by decide +kernel) hown hK hP 1 rfl rfl 16 (by decide) (hts (.fieldLink RX8 23 "WaxTurnsModel" "fresh" "[I") (by decide +kernel)) (fun _ h9 => h9) rfl dX8_readLine_36 ?_
  refine lv_iconst (v := 4) hx hb dX8_readLine_39 (by decide) ?_
  refine va_iald hx hb hK hP 0 0 rfl rfl (by unfold vp_in; decide +kernel) dX8_readLine_40 ?_
  refine ax_ti 0 rfl ?_
  refine lv_bipush (v := 9) hx hb dX8_readLine_41 (by decide) ?_
  refine lv_icmp_ge (tgt := 50) hx hb dX8_readLine_43 (by decide) (fun c_5 => absurd c_5 (by decide +kernel)) (fun _ => ?_)
  refine lv_iconst (v := 1) hx hb dX8_readLine_46 (by decide) ?_
  refine lv_goto (tgt := 51) hx hb dX8_readLine_47 (by decide) ?_
  have hPc := hP.sub (ws' := [(mo, .inr (8, [g 0, g 1, g 2, g 3, Value.int ap, g 5, Value.int 0, g 7, g 8, g 9, g 10, g 11, g 12, Value.int 0, g 14, g 15, Value.ref fr, g 17, g 18, g 19, g 20, g 21, g 22, g 23, g 24, g 25, g 26, g 27, g 28, g 29, g 30, g 31, g 32, g 33, g 34, g 35, g 36, g 37, g 38, g 39]))]) [1] rfl
  have hDc := hD.sub (ws' := [(mo, .inr (8, [g 0, g 1, g 2, g 3, Value.int ap, g 5, Value.int 0, g 7, g 8, g 9, g 10, g 11, g 12, Value.int 0, g 14, g 15, Value.ref fr, g 17, g 18, g 19, g 20, g 21, g 22, g 23, g 24, g 25, g 26, g 27, g 28, g 29, g 30, g 31, g 32, g 33, g 34, g 35, g 36, g 37, g 38, g 39]))]) [1] (by decide) rfl
  have hKc := hK.sub (tys' := []) [] rfl
  have hFc := va_free (wc := [(mo, .inr (8, [g 0, g 1, g 2, g 3, Value.int ap, g 5, Value.int 0, g 7, g 8, g 9, g 10, g 11, g 12, Value.int 0, g 14, g 15, Value.ref fr, g 17, g 18, g 19, g 20, g 21, g 22, g 23, g 24, g 25, g 26, g 27, g 28, g 29, g 30, g 31, g 32, g 33, g 34, g 35, g 36, g 37, g 38, g 39]))]) hD hS hA [1] rfl
  refine va_calli (va_runV (As := [.ref s132, .int 1]) (rest := []) ⟨hx, hb, hml, hown, hts⟩ (c_X8_begins l dC dI H.size mo s132 1 (fun i9 => ([g 0, g 1, g 2, g 3, Value.int ap, g 5, Value.null, g 7, g 8, g 9, g 10, g 11, g 12, Value.null, g 14, g 15, Value.ref fr, g 17, g 18, g 19, g 20, g 21, g 22, g 23, g 24, g 25, g 26, g 27, g 28, g 29, g 30, g 31, g 32, g 33, g 34, g 35, g 36, g 37, g 38, g 39] : List Value).getD i9 .null) ) (cwV 2 hts gX8_readLine_X8_begins rfl rfl rfl (by decide +kernel) ⟨Nat.le_of_ble_eq_true rfl, Nat.le_of_ble_eq_true rfl⟩) ⟨ax_blind (fun _ _ _ _ _ => trivial), va_recv hKc hPc (ci := 8) (q0 := 0) rfl rfl, ax_pre hPc hKc hDc (fun _ _ => trivial)⟩ rfl rfl hl.1 rfl (lv_room (Nat.le_of_ble_eq_true rfl)) dX8_readLine_51 ⟨Nat.le_of_ble_eq_true rfl, Nat.le_of_ble_eq_true rfl⟩) hS (fun q _ h => hFc q h) hFc (fun r_6 u t H1 locs ht hvm hw hB hz1 hk1 hS => ?_)
  obtain ⟨hP1, hK1, hD1⟩ := hB
  rw [ht] at hP1
  have hK1 := va_K.moved hvm.symm hK1
  obtain ⟨hP, hD⟩ := va_join (wr := [(fr, .inl (kf, 156, .inl (fun _ => 0)))]) (w1 := [(mo, .inr (8, [g 0, g 1, g 2, g 3, Value.int ap, g 5, Value.int 0, g 7, g 8, g 9, g 10, g 11, g 12, Value.int 0, g 14, g 15, Value.ref fr, g 17, g 18, g 19, g 20, g 21, g 22, g 23, g 24, g 25, g 26, g 27, g 28, g 29, g 30, g 31, g 32, g 33, g 34, g 35, g 36, g 37, g 38, g 39]))]) hP hD [1] [0] rfl rfl (by decide) (by decide) hk1 hFc hP1 hD1
  have hK := (hK.sub (tys' := [(kf, .int)]) [0] rfl).app hK1
  generalize H1 = H at hP hS ⊢
  have hP : va_P (dC, dI) vwCl [(fr, .inl (kf, 156, .inl (fun _ => 0))), (mo, .inr (8, [g 0, g 1, g 2, g 3, Value.int ap, g 5, Value.int 0, g 7, g 8, g 9, g 10, g 11, g 12, Value.int 0, g 14, g 15, Value.ref fr, g 17, g 18, g 19, g 20, g 21, g 22, g 23, g 24, g 25, g 26, g 27, g 28, g 29, g 30, g 31, g 32, g 33, g 34, g 35, g 36, g 37, g 38, g 39]))] H := hP
  have hD : va_D A [(fr, .inl (kf, 156, .inl (fun _ => 0))), (mo, .inr (8, [g 0, g 1, g 2, g 3, Value.int ap, g 5, Value.int 0, g 7, g 8, g 9, g 10, g 11, g 12, Value.int 0, g 14, g 15, Value.ref fr, g 17, g 18, g 19, g 20, g 21, g 22, g 23, g 24, g 25, g 26, g 27, g 28, g 29, g 30, g 31, g 32, g 33, g 34, g 35, g 36, g 37, g 38, g 39]))] := hD
  have hK : va_K (dC, dI) vwCl [(kf, .int)] s := hK
  have hw : r_6 = 0 := hw
  subst hw
  refine lv_if_eq (tgt := 64) hx hb dX8_readLine_54 (by decide) (fun _ => ?_) (fun c_7 => absurd (by decide +kernel) c_7)
  refine lv_aload_n hx hb dX8_readLine_64 rfl (lv_at hl 0 rfl) ?_
  refine va_ldcS hx hb hown hE3 dX8_readLine_65 ?_
  refine lv_aload_n hx hb dX8_readLine_67 rfl (lv_at hl 0 rfl) ?_
  refine va_get (D := (dC, dI)) (ci := 8) (v := .ref fr) (C := RX8) (T := TX8) (N := 40) hx hb hts (by decide +kernel) hown hK hP 1 rfl rfl 16 (by decide) (hts (.fieldLink RX8 23 "WaxTurnsModel" "fresh" "[I") (by decide +kernel)) (fun _ h9 => h9) rfl dX8_readLine_68 ?_
  refine lv_iconst (v := 5) hx hb dX8_readLine_71 (by decide) ?_
  refine va_iald hx hb hK hP 0 0 rfl rfl (by unfold vp_in; decide +kernel) dX8_readLine_72 ?_
  refine ax_ti 0 rfl ?_
  refine lv_iconst (v := 3) hx hb dX8_readLine_73 (by decide) ?_
  refine lv_icmp_ge (tgt := 81) hx hb dX8_readLine_74 (by decide) (fun c_8 => absurd c_8 (by decide +kernel)) (fun _ => ?_)
  refine lv_iconst (v := 1) hx hb dX8_readLine_77 (by decide) ?_
  refine lv_goto (tgt := 82) hx hb dX8_readLine_78 (by decide) ?_
  have hPc := hP.sub (ws' := [(mo, .inr (8, [g 0, g 1, g 2, g 3, Value.int ap, g 5, Value.int 0, g 7, g 8, g 9, g 10, g 11, g 12, Value.int 0, g 14, g 15, Value.ref fr, g 17, g 18, g 19, g 20, g 21, g 22, g 23, g 24, g 25, g 26, g 27, g 28, g 29, g 30, g 31, g 32, g 33, g 34, g 35, g 36, g 37, g 38, g 39]))]) [1] rfl
  have hDc := hD.sub (ws' := [(mo, .inr (8, [g 0, g 1, g 2, g 3, Value.int ap, g 5, Value.int 0, g 7, g 8, g 9, g 10, g 11, g 12, Value.int 0, g 14, g 15, Value.ref fr, g 17, g 18, g 19, g 20, g 21, g 22, g 23, g 24, g 25, g 26, g 27, g 28, g 29, g 30, g 31, g 32, g 33, g 34, g 35, g 36, g 37, g 38, g 39]))]) [1] (by decide) rfl
  have hKc := hK.sub (tys' := []) [] rfl
  have hFc := va_free (wc := [(mo, .inr (8, [g 0, g 1, g 2, g 3, Value.int ap, g 5, Value.int 0, g 7, g 8, g 9, g 10, g 11, g 12, Value.int 0, g 14, g 15, Value.ref fr, g 17, g 18, g 19, g 20, g 21, g 22, g 23, g 24, g 25, g 26, g 27, g 28, g 29, g 30, g 31, g 32, g 33, g 34, g 35, g 36, g 37, g 38, g 39]))]) hD hS hA [1] rfl
  refine va_calli (va_runV (As := [.ref s134, .int 1]) (rest := []) ⟨hx, hb, hml, hown, hts⟩ (c_X8_begins l dC dI H.size mo s134 1 (fun i9 => ([g 0, g 1, g 2, g 3, Value.int ap, g 5, Value.null, g 7, g 8, g 9, g 10, g 11, g 12, Value.null, g 14, g 15, Value.ref fr, g 17, g 18, g 19, g 20, g 21, g 22, g 23, g 24, g 25, g 26, g 27, g 28, g 29, g 30, g 31, g 32, g 33, g 34, g 35, g 36, g 37, g 38, g 39] : List Value).getD i9 .null) ) (cwV 2 hts gX8_readLine_X8_begins rfl rfl rfl (by decide +kernel) ⟨Nat.le_of_ble_eq_true rfl, Nat.le_of_ble_eq_true rfl⟩) ⟨ax_blind (fun _ _ _ _ _ => trivial), va_recv hKc hPc (ci := 8) (q0 := 0) rfl rfl, ax_pre hPc hKc hDc (fun _ _ => trivial)⟩ rfl rfl hl.1 rfl (lv_room (Nat.le_of_ble_eq_true rfl)) dX8_readLine_82 ⟨Nat.le_of_ble_eq_true rfl, Nat.le_of_ble_eq_true rfl⟩) hS (fun q _ h => hFc q h) hFc (fun r_9 u t H1 locs ht hvm hw hB hz1 hk1 hS => ?_)
  obtain ⟨hP1, hK1, hD1⟩ := hB
  rw [ht] at hP1
  have hK1 := va_K.moved hvm.symm hK1
  obtain ⟨hP, hD⟩ := va_join (wr := [(fr, .inl (kf, 156, .inl (fun _ => 0)))]) (w1 := [(mo, .inr (8, [g 0, g 1, g 2, g 3, Value.int ap, g 5, Value.int 0, g 7, g 8, g 9, g 10, g 11, g 12, Value.int 0, g 14, g 15, Value.ref fr, g 17, g 18, g 19, g 20, g 21, g 22, g 23, g 24, g 25, g 26, g 27, g 28, g 29, g 30, g 31, g 32, g 33, g 34, g 35, g 36, g 37, g 38, g 39]))]) hP hD [1] [0] rfl rfl (by decide) (by decide) hk1 hFc hP1 hD1
  have hK := (hK.sub (tys' := [(kf, .int)]) [0] rfl).app hK1
  generalize H1 = H at hP hS ⊢
  have hP : va_P (dC, dI) vwCl [(fr, .inl (kf, 156, .inl (fun _ => 0))), (mo, .inr (8, [g 0, g 1, g 2, g 3, Value.int ap, g 5, Value.int 0, g 7, g 8, g 9, g 10, g 11, g 12, Value.int 0, g 14, g 15, Value.ref fr, g 17, g 18, g 19, g 20, g 21, g 22, g 23, g 24, g 25, g 26, g 27, g 28, g 29, g 30, g 31, g 32, g 33, g 34, g 35, g 36, g 37, g 38, g 39]))] H := hP
  have hD : va_D A [(fr, .inl (kf, 156, .inl (fun _ => 0))), (mo, .inr (8, [g 0, g 1, g 2, g 3, Value.int ap, g 5, Value.int 0, g 7, g 8, g 9, g 10, g 11, g 12, Value.int 0, g 14, g 15, Value.ref fr, g 17, g 18, g 19, g 20, g 21, g 22, g 23, g 24, g 25, g 26, g 27, g 28, g 29, g 30, g 31, g 32, g 33, g 34, g 35, g 36, g 37, g 38, g 39]))] := hD
  have hK : va_K (dC, dI) vwCl [(kf, .int)] s := hK
  have hw : r_9 = 0 := hw
  subst hw
  refine lv_if_eq (tgt := 95) hx hb dX8_readLine_85 (by decide) (fun _ => ?_) (fun c_10 => absurd (by decide +kernel) c_10)
  refine lv_aload_n hx hb dX8_readLine_95 rfl (lv_at hl 0 rfl) ?_
  refine va_ldcS hx hb hown hE4 dX8_readLine_96 ?_
  refine lv_aload_n hx hb dX8_readLine_98 rfl (lv_at hl 0 rfl) ?_
  refine va_get (D := (dC, dI)) (ci := 8) (v := .ref fr) (C := RX8) (T := TX8) (N := 40) hx hb hts (by decide +kernel) hown hK hP 1 rfl rfl 16 (by decide) (hts (.fieldLink RX8 23 "WaxTurnsModel" "fresh" "[I") (by decide +kernel)) (fun _ h9 => h9) rfl dX8_readLine_99 ?_
  refine lv_bipush (v := 6) hx hb dX8_readLine_102 (by decide) ?_
  refine va_iald hx hb hK hP 0 0 rfl rfl (by unfold vp_in; decide +kernel) dX8_readLine_104 ?_
  refine ax_ti 0 rfl ?_
  refine lv_bipush (v := 6) hx hb dX8_readLine_105 (by decide) ?_
  refine lv_icmp_ge (tgt := 114) hx hb dX8_readLine_107 (by decide) (fun c_11 => absurd c_11 (by decide +kernel)) (fun _ => ?_)
  refine lv_iconst (v := 1) hx hb dX8_readLine_110 (by decide) ?_
  refine lv_goto (tgt := 115) hx hb dX8_readLine_111 (by decide) ?_
  have hPc := hP.sub (ws' := [(mo, .inr (8, [g 0, g 1, g 2, g 3, Value.int ap, g 5, Value.int 0, g 7, g 8, g 9, g 10, g 11, g 12, Value.int 0, g 14, g 15, Value.ref fr, g 17, g 18, g 19, g 20, g 21, g 22, g 23, g 24, g 25, g 26, g 27, g 28, g 29, g 30, g 31, g 32, g 33, g 34, g 35, g 36, g 37, g 38, g 39]))]) [1] rfl
  have hDc := hD.sub (ws' := [(mo, .inr (8, [g 0, g 1, g 2, g 3, Value.int ap, g 5, Value.int 0, g 7, g 8, g 9, g 10, g 11, g 12, Value.int 0, g 14, g 15, Value.ref fr, g 17, g 18, g 19, g 20, g 21, g 22, g 23, g 24, g 25, g 26, g 27, g 28, g 29, g 30, g 31, g 32, g 33, g 34, g 35, g 36, g 37, g 38, g 39]))]) [1] (by decide) rfl
  have hKc := hK.sub (tys' := []) [] rfl
  have hFc := va_free (wc := [(mo, .inr (8, [g 0, g 1, g 2, g 3, Value.int ap, g 5, Value.int 0, g 7, g 8, g 9, g 10, g 11, g 12, Value.int 0, g 14, g 15, Value.ref fr, g 17, g 18, g 19, g 20, g 21, g 22, g 23, g 24, g 25, g 26, g 27, g 28, g 29, g 30, g 31, g 32, g 33, g 34, g 35, g 36, g 37, g 38, g 39]))]) hD hS hA [1] rfl
  refine va_calli (va_runV (As := [.ref s136, .int 1]) (rest := []) ⟨hx, hb, hml, hown, hts⟩ (c_X8_begins l dC dI H.size mo s136 1 (fun i9 => ([g 0, g 1, g 2, g 3, Value.int ap, g 5, Value.null, g 7, g 8, g 9, g 10, g 11, g 12, Value.null, g 14, g 15, Value.ref fr, g 17, g 18, g 19, g 20, g 21, g 22, g 23, g 24, g 25, g 26, g 27, g 28, g 29, g 30, g 31, g 32, g 33, g 34, g 35, g 36, g 37, g 38, g 39] : List Value).getD i9 .null) ) (cwV 2 hts gX8_readLine_X8_begins rfl rfl rfl (by decide +kernel) ⟨Nat.le_of_ble_eq_true rfl, Nat.le_of_ble_eq_true rfl⟩) ⟨ax_blind (fun _ _ _ _ _ => trivial), va_recv hKc hPc (ci := 8) (q0 := 0) rfl rfl, ax_pre hPc hKc hDc (fun _ _ => trivial)⟩ rfl rfl hl.1 rfl (lv_room (Nat.le_of_ble_eq_true rfl)) dX8_readLine_115 ⟨Nat.le_of_ble_eq_true rfl, Nat.le_of_ble_eq_true rfl⟩) hS (fun q _ h => hFc q h) hFc (fun r_12 u t H1 locs ht hvm hw hB hz1 hk1 hS => ?_)
  obtain ⟨hP1, hK1, hD1⟩ := hB
  rw [ht] at hP1
  have hK1 := va_K.moved hvm.symm hK1
  obtain ⟨hP, hD⟩ := va_join (wr := [(fr, .inl (kf, 156, .inl (fun _ => 0)))]) (w1 := [(mo, .inr (8, [g 0, g 1, g 2, g 3, Value.int ap, g 5, Value.int 0, g 7, g 8, g 9, g 10, g 11, g 12, Value.int 0, g 14, g 15, Value.ref fr, g 17, g 18, g 19, g 20, g 21, g 22, g 23, g 24, g 25, g 26, g 27, g 28, g 29, g 30, g 31, g 32, g 33, g 34, g 35, g 36, g 37, g 38, g 39]))]) hP hD [1] [0] rfl rfl (by decide) (by decide) hk1 hFc hP1 hD1
  have hK := (hK.sub (tys' := [(kf, .int)]) [0] rfl).app hK1
  generalize H1 = H at hP hS ⊢
  have hP : va_P (dC, dI) vwCl [(fr, .inl (kf, 156, .inl (fun _ => 0))), (mo, .inr (8, [g 0, g 1, g 2, g 3, Value.int ap, g 5, Value.int 0, g 7, g 8, g 9, g 10, g 11, g 12, Value.int 0, g 14, g 15, Value.ref fr, g 17, g 18, g 19, g 20, g 21, g 22, g 23, g 24, g 25, g 26, g 27, g 28, g 29, g 30, g 31, g 32, g 33, g 34, g 35, g 36, g 37, g 38, g 39]))] H := hP
  have hD : va_D A [(fr, .inl (kf, 156, .inl (fun _ => 0))), (mo, .inr (8, [g 0, g 1, g 2, g 3, Value.int ap, g 5, Value.int 0, g 7, g 8, g 9, g 10, g 11, g 12, Value.int 0, g 14, g 15, Value.ref fr, g 17, g 18, g 19, g 20, g 21, g 22, g 23, g 24, g 25, g 26, g 27, g 28, g 29, g 30, g 31, g 32, g 33, g 34, g 35, g 36, g 37, g 38, g 39]))] := hD
  have hK : va_K (dC, dI) vwCl [(kf, .int)] s := hK
  have hw : r_12 = 0 := hw
  subst hw
  refine lv_if_eq (tgt := 128) hx hb dX8_readLine_118 (by decide) (fun _ => ?_) (fun c_13 => absurd (by decide +kernel) c_13)
  refine lv_aload_n hx hb dX8_readLine_128 rfl (lv_at hl 0 rfl) ?_
  refine lv_iconst (v := 1) hx hb dX8_readLine_129 (by decide) ?_
  refine lv_aload_n hx hb dX8_readLine_130 rfl (lv_at hl 0 rfl) ?_
  refine va_get (D := (dC, dI)) (ci := 8) (v := .int ap) (C := RX8) (T := TX8) (N := 40) hx hb hts (by decide +kernel) hown hK hP 1 rfl rfl 4 (by decide) (hts (.fieldLink RX8 78 "WaxTurnsModel" "at" "I") (by decide +kernel)) (fun _ h9 => h9) rfl dX8_readLine_131 ?_
  have hPc := hP.sub (ws' := [(mo, .inr (8, [g 0, g 1, g 2, g 3, Value.int ap, g 5, Value.int 0, g 7, g 8, g 9, g 10, g 11, g 12, Value.int 0, g 14, g 15, Value.ref fr, g 17, g 18, g 19, g 20, g 21, g 22, g 23, g 24, g 25, g 26, g 27, g 28, g 29, g 30, g 31, g 32, g 33, g 34, g 35, g 36, g 37, g 38, g 39]))]) [1] rfl
  have hDc := hD.sub (ws' := [(mo, .inr (8, [g 0, g 1, g 2, g 3, Value.int ap, g 5, Value.int 0, g 7, g 8, g 9, g 10, g 11, g 12, Value.int 0, g 14, g 15, Value.ref fr, g 17, g 18, g 19, g 20, g 21, g 22, g 23, g 24, g 25, g 26, g 27, g 28, g 29, g 30, g 31, g 32, g 33, g 34, g 35, g 36, g 37, g 38, g 39]))]) [1] (by decide) rfl
  have hKc := hK.sub (tys' := []) [] rfl
  have hFc := va_free (wc := [(mo, .inr (8, [g 0, g 1, g 2, g 3, Value.int ap, g 5, Value.int 0, g 7, g 8, g 9, g 10, g 11, g 12, Value.int 0, g 14, g 15, Value.ref fr, g 17, g 18, g 19, g 20, g 21, g 22, g 23, g 24, g 25, g 26, g 27, g 28, g 29, g 30, g 31, g 32, g 33, g 34, g 35, g 36, g 37, g 38, g 39]))]) hD hS hA [1] rfl
  refine va_callv (va_runV (As := [.int 1, .int ap]) (rest := []) ⟨hx, hb, hml, hown, hts⟩ (c_X8_wrong l dC dI H.size mo 1 ap (fun i9 => ([g 0, g 1, g 2, g 3, Value.int ap, g 5, Value.int 0, g 7, g 8, g 9, g 10, g 11, g 12, Value.null, g 14, g 15, Value.ref fr, g 17, g 18, g 19, g 20, g 21, g 22, g 23, g 24, g 25, g 26, g 27, g 28, g 29, g 30, g 31, g 32, g 33, g 34, g 35, g 36, g 37, g 38, g 39] : List Value).getD i9 .null) ) (cwV 2 hts gX8_readLine_X8_wrong rfl rfl rfl (by decide +kernel) ⟨Nat.le_of_ble_eq_true rfl, Nat.le_of_ble_eq_true rfl⟩) ⟨ax_blind (fun _ _ _ _ _ => trivial), va_recv hKc hPc (ci := 8) (q0 := 0) rfl rfl, ax_pre hPc hKc hDc (fun _ _ => trivial)⟩ rfl rfl hl.1 rfl (lv_room (Nat.le_of_ble_eq_true rfl)) dX8_readLine_134 ⟨Nat.le_of_ble_eq_true rfl, Nat.le_of_ble_eq_true rfl⟩) hS (fun q _ h => hFc q h) hFc (fun u t H1 locs ht hvm hw hB hz1 hk1 hS => ?_)
  obtain ⟨hP1, hK1, hD1⟩ := hB
  rw [ht] at hP1
  have hK1 := va_K.moved hvm.symm hK1
  obtain ⟨hP, hD⟩ := va_join (wr := [(fr, .inl (kf, 156, .inl (fun _ => 0)))]) (w1 := [(mo, .inr (8, [g 0, g 1, g 2, g 3, Value.int ap, g 5, Value.int 0, g 7, g 8, Value.int 1, Value.int ap, g 11, g 12, Value.int 1, g 14, g 15, Value.ref fr, g 17, g 18, g 19, g 20, g 21, g 22, g 23, g 24, g 25, g 26, g 27, g 28, g 29, g 30, g 31, g 32, g 33, g 34, g 35, g 36, g 37, g 38, g 39]))]) hP hD [1] [0] rfl rfl (by decide) (by decide) hk1 hFc hP1 hD1
  have hK := (hK.sub (tys' := [(kf, .int)]) [0] rfl).app hK1
  generalize H1 = H at hP hS ⊢
  have hP : va_P (dC, dI) vwCl [(fr, .inl (kf, 156, .inl (fun _ => 0))), (mo, .inr (8, [g 0, g 1, g 2, g 3, Value.int ap, g 5, Value.int 0, g 7, g 8, Value.int 1, Value.int ap, g 11, g 12, Value.int 1, g 14, g 15, Value.ref fr, g 17, g 18, g 19, g 20, g 21, g 22, g 23, g 24, g 25, g 26, g 27, g 28, g 29, g 30, g 31, g 32, g 33, g 34, g 35, g 36, g 37, g 38, g 39]))] H := hP
  have hD : va_D A [(fr, .inl (kf, 156, .inl (fun _ => 0))), (mo, .inr (8, [g 0, g 1, g 2, g 3, Value.int ap, g 5, Value.int 0, g 7, g 8, Value.int 1, Value.int ap, g 11, g 12, Value.int 1, g 14, g 15, Value.ref fr, g 17, g 18, g 19, g 20, g 21, g 22, g 23, g 24, g 25, g 26, g 27, g 28, g 29, g 30, g 31, g 32, g 33, g 34, g 35, g 36, g 37, g 38, g 39]))] := hD
  have hK : va_K (dC, dI) vwCl [(kf, .int)] s := hK
  have hP9 := hP.sub (ws' := [(mo, .inr (8, [g 0, g 1, g 2, g 3, Value.int ap, g 5, Value.int 0, g 7, g 8, Value.int 1, Value.int ap, g 11, g 12, Value.int 1, g 14, g 15, Value.ref fr, g 17, g 18, g 19, g 20, g 21, g 22, g 23, g 24, g 25, g 26, g 27, g 28, g 29, g 30, g 31, g 32, g 33, g 34, g 35, g 36, g 37, g 38, g 39])), (fr, .inl (kf, 156, .inl (fun _ => 0)))]) [1, 0] rfl
  have hD9 := hD.sub (ws' := [(mo, .inr (8, [g 0, g 1, g 2, g 3, Value.int ap, g 5, Value.int 0, g 7, g 8, Value.int 1, Value.int ap, g 11, g 12, Value.int 1, g 14, g 15, Value.ref fr, g 17, g 18, g 19, g 20, g 21, g 22, g 23, g 24, g 25, g 26, g 27, g 28, g 29, g 30, g 31, g 32, g 33, g 34, g 35, g 36, g 37, g 38, g 39])), (fr, .inl (kf, 156, .inl (fun _ => 0)))]) [1, 0] (by decide) rfl
  have hK9 := hK.sub (tys' := [(kf, .int)]) [0] rfl
  exact W.vret hx hb hr (fun t ht hW => ⟨⟨(), rfl, trivial, by rw [ht]; exact hP9, va_K.moved hW.alike hK9, hD9⟩, hS.F ht⟩) hS.2.2 dX8_readLine_137
