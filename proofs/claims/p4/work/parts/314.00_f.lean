set_option maxHeartbeats 4000000 in
set_option maxRecDepth 100000 in
theorem f_X7_fault (l : Launch) (dC : Nat → ClassId) (dI : Nat → Nat → Nat) (sz : Nat) (a0 : Nat) (a0g : Nat → Value) (a0_9 : Int32)  : Met l yX7_fault wsX7_fault ({ frames := 0, cells := 0, slots := 0, locals := 0 }) (va_Pc [.ref a0] (ax_C dC dI sz [(a0, .inr (7, [a0g 0, a0g 1, a0g 2, a0g 3, a0g 4, a0g 5, a0g 6, a0g 7, a0g 8, .int a0_9, a0g 10]))] [] (fun _ => True))) (va_Qi (fun (r : Int32) (_ : Unit) => (True) ∧ r.toInt = Ff_X7_fault a0_9.toInt) (fun (_ : Unit) (t : State) => ax_B dC dI (va_A [(a0, .inr (7, [a0g 0, a0g 1, a0g 2, a0g 3, a0g 4, a0g 5, a0g 6, a0g 7, a0g 8, .int a0_9, a0g 10]))] sz) [(a0, .inr (7, [a0g 0, a0g 1, a0g 2, a0g 3, a0g 4, a0g 5, a0g 6, a0g 7, a0g 8, .int a0_9, a0g 10]))] [] t) (va_A [(a0, .inr (7, [a0g 0, a0g 1, a0g 2, a0g 3, a0g 4, a0g 5, a0g 6, a0g 7, a0g 8, .int a0_9, a0g 10]))] sz)) 0 0 (va_A [(a0, .inr (7, [a0g 0, a0g 1, a0g 2, a0g 3, a0g 4, a0g 5, a0g 6, a0g 7, a0g 8, .int a0_9, a0g 10]))] sz) := by
  refine Met.ofW (cc := cX7_fault) (maxL := 1) (ret := (some .int)) (by decide) rfl ?_
  intro p e s m args below meth c s₁ B hml hv
  obtain ⟨rfl, hsz, hP, hK, hD0, hE⟩ := hv
  have hx := B.exec
  have hb := B.bytes
  have hr := B.returns
  have hts := atoms_spec (ws := wsX7_fault) B.pre
  have hown : s.vm.findClass RX7 = some m.cls := findClass_of_methodNamed B.named
  have hlocks := B.notSynchronized
  subst hsz
  have hD := hD0.self (sz := s.heap.size)
  generalize hAe : va_A [(a0, .inr (7, [a0g 0, a0g 1, a0g 2, a0g 3, a0g 4, a0g 5, a0g 6, a0g 7, a0g 8, .int a0_9, a0g 10]))] s.heap.size = A at hD ⊢
  have hA : ∀ q : Nat, s.heap.size ≤ q → A q := fun q h => by rw [← hAe]; exact Or.inr h
  have hS : va_S A s.heap s.heap [] := va_S.rf
  have hP : va_P (dC, dI) vwCl [(a0, .inr (7, [a0g 0, a0g 1, a0g 2, a0g 3, a0g 4, a0g 5, a0g 6, a0g 7, a0g 8, .int a0_9, a0g 10]))] s.heap := hP
  have hl := lv_entry ([.ref a0]) (n := 1) (Nat.le_of_ble_eq_true rfl)
  rw [lg_entry_eq]
  generalize (lg_sl ([.ref a0]) ++ List.replicate (1 - (lg_sl ([.ref a0])).length) Slot.unset).toArray = ls at hl ⊢
  have hl : lv_has ls 1 [(0, .ref a0)] := hl
  generalize hFX : Ff_X7_fault a0_9.toInt = FX at ⊢
  have hF0 := hFX.symm.trans (Ff_X7_fault.eq_1 a0_9.toInt)
  refine lv_aload_n hx hb dX7_fault_0 rfl (lv_at hl 0 rfl) ?_
  refine va_get (D := (dC, dI)) (ci := 7) (v := .int a0_9) (C := RX7) (T := TX7) (N := 11) hx hb hts (by decide +kernel) hown hK hP 0 rfl rfl 9 (by decide) (hts (.fieldLink RX7 65 "WaxTurns" "latestFault" "I") (by decide +kernel)) (fun _ h9 => h9) rfl dX7_fault_1 ?_
  have hFe : FX = a0_9.toInt := hF0
  exact W.iret (v := a0_9) hx hb hr (fun t ht hW => ⟨⟨a0_9, (), rfl, ⟨trivial, hFe.symm⟩, by rw [ht]; exact hP, va_K.moved hW.alike hK, hD⟩, hS.F ht⟩) hS.2.2 dX7_fault_4

set_option maxHeartbeats 4000000 in
set_option maxRecDepth 100000 in
theorem f_X8_fault (l : Launch) (dC : Nat → ClassId) (dI : Nat → Nat → Nat) (sz : Nat) (a0 : Nat) (a0_0 : Int32) (a0g : Nat → Value) (a0_9 : Int32)  : Met l yX8_fault wsX8_fault ({ frames := 0, cells := 0, slots := 0, locals := 0 }) (va_Pc [.ref a0] (ax_C dC dI sz [(a0, .inr (8, [Value.int a0_0, a0g 1, a0g 2, a0g 3, a0g 4, a0g 5, a0g 6, a0g 7, a0g 8, Value.int a0_9, a0g 10, a0g 11, a0g 12, a0g 13, a0g 14, a0g 15, a0g 16, a0g 17, a0g 18, a0g 19, a0g 20, a0g 21, a0g 22, a0g 23, a0g 24, a0g 25, a0g 26, a0g 27, a0g 28, a0g 29, a0g 30, a0g 31, a0g 32, a0g 33, a0g 34, a0g 35, a0g 36, a0g 37, a0g 38, a0g 39]))] [] (fun _ => True))) (va_Qi (fun (r : Int32) (_ : Unit) => (True) ∧ r.toInt = (Ff_X8_fault a0_9.toInt).1) (fun (_ : Unit) (t : State) => ∃ na0_0 : Int32, ((Ff_X8_fault a0_9.toInt).2 = na0_0.toInt) ∧ ax_B dC dI (va_A [(a0, .inr (8, [Value.int a0_0, a0g 1, a0g 2, a0g 3, a0g 4, a0g 5, a0g 6, a0g 7, a0g 8, Value.int a0_9, a0g 10, a0g 11, a0g 12, a0g 13, a0g 14, a0g 15, a0g 16, a0g 17, a0g 18, a0g 19, a0g 20, a0g 21, a0g 22, a0g 23, a0g 24, a0g 25, a0g 26, a0g 27, a0g 28, a0g 29, a0g 30, a0g 31, a0g 32, a0g 33, a0g 34, a0g 35, a0g 36, a0g 37, a0g 38, a0g 39]))] sz) [(a0, .inr (8, [Value.int na0_0, a0g 1, a0g 2, a0g 3, a0g 4, a0g 5, a0g 6, a0g 7, a0g 8, Value.int a0_9, a0g 10, a0g 11, a0g 12, a0g 13, a0g 14, a0g 15, a0g 16, a0g 17, a0g 18, a0g 19, a0g 20, a0g 21, a0g 22, a0g 23, a0g 24, a0g 25, a0g 26, a0g 27, a0g 28, a0g 29, a0g 30, a0g 31, a0g 32, a0g 33, a0g 34, a0g 35, a0g 36, a0g 37, a0g 38, a0g 39]))] [] t) (va_A [(a0, .inr (8, [Value.int a0_0, a0g 1, a0g 2, a0g 3, a0g 4, a0g 5, a0g 6, a0g 7, a0g 8, Value.int a0_9, a0g 10, a0g 11, a0g 12, a0g 13, a0g 14, a0g 15, a0g 16, a0g 17, a0g 18, a0g 19, a0g 20, a0g 21, a0g 22, a0g 23, a0g 24, a0g 25, a0g 26, a0g 27, a0g 28, a0g 29, a0g 30, a0g 31, a0g 32, a0g 33, a0g 34, a0g 35, a0g 36, a0g 37, a0g 38, a0g 39]))] sz)) 0 0 (va_A [(a0, .inr (8, [Value.int a0_0, a0g 1, a0g 2, a0g 3, a0g 4, a0g 5, a0g 6, a0g 7, a0g 8, Value.int a0_9, a0g 10, a0g 11, a0g 12, a0g 13, a0g 14, a0g 15, a0g 16, a0g 17, a0g 18, a0g 19, a0g 20, a0g 21, a0g 22, a0g 23, a0g 24, a0g 25, a0g 26, a0g 27, a0g 28, a0g 29, a0g 30, a0g 31, a0g 32, a0g 33, a0g 34, a0g 35, a0g 36, a0g 37, a0g 38, a0g 39]))] sz) := by
  refine Met.ofW (cc := cX8_fault) (maxL := 1) (ret := (some .int)) (by decide) rfl ?_
  intro p e s m args below meth c s₁ B hml hv
  obtain ⟨rfl, hsz, hP, hK, hD0, hE⟩ := hv
  have hx := B.exec
  have hb := B.bytes
  have hr := B.returns
  have hts := atoms_spec (ws := wsX8_fault) B.pre
  have hown : s.vm.findClass RX8 = some m.cls := findClass_of_methodNamed B.named
  have hlocks := B.notSynchronized
  subst hsz
  have hD := hD0.self (sz := s.heap.size)
  generalize hAe : va_A [(a0, .inr (8, [Value.int a0_0, a0g 1, a0g 2, a0g 3, a0g 4, a0g 5, a0g 6, a0g 7, a0g 8, Value.int a0_9, a0g 10, a0g 11, a0g 12, a0g 13, a0g 14, a0g 15, a0g 16, a0g 17, a0g 18, a0g 19, a0g 20, a0g 21, a0g 22, a0g 23, a0g 24, a0g 25, a0g 26, a0g 27, a0g 28, a0g 29, a0g 30, a0g 31, a0g 32, a0g 33, a0g 34, a0g 35, a0g 36, a0g 37, a0g 38, a0g 39]))] s.heap.size = A at hD ⊢
  have hA : ∀ q : Nat, s.heap.size ≤ q → A q := fun q h => by rw [← hAe]; exact Or.inr h
  have hS : va_S A s.heap s.heap [] := va_S.rf
  have hP : va_P (dC, dI) vwCl [(a0, .inr (8, [Value.int a0_0, a0g 1, a0g 2, a0g 3, a0g 4, a0g 5, a0g 6, a0g 7, a0g 8, Value.int a0_9, a0g 10, a0g 11, a0g 12, a0g 13, a0g 14, a0g 15, a0g 16, a0g 17, a0g 18, a0g 19, a0g 20, a0g 21, a0g 22, a0g 23, a0g 24, a0g 25, a0g 26, a0g 27, a0g 28, a0g 29, a0g 30, a0g 31, a0g 32, a0g 33, a0g 34, a0g 35, a0g 36, a0g 37, a0g 38, a0g 39]))] s.heap := hP
  have hl := lv_entry ([.ref a0]) (n := 1) (Nat.le_of_ble_eq_true rfl)
  rw [lg_entry_eq]
  generalize (lg_sl ([.ref a0]) ++ List.replicate (1 - (lg_sl ([.ref a0])).length) Slot.unset).toArray = ls at hl ⊢
  have hl : lv_has ls 1 [(0, .ref a0)] := hl
  generalize hFX : Ff_X8_fault a0_9.toInt = FX at ⊢
  have hF0 := hFX.symm.trans (Ff_X8_fault.eq_1 a0_9.toInt)
  refine lv_aload_n hx hb dX8_fault_0 rfl (lv_at hl 0 rfl) ?_
  refine lv_iconst (v := 0) hx hb dX8_fault_1 (by decide) ?_
  refine va_put (D := (dC, dI)) (ci := 8) (v := .int 0) (ty := .int) (C := RX8) (T := TX8) (N := 40) hx hb hts (by decide +kernel) tyX8 tyX8_ok nmX8 hown hK hP hD hS 0 rfl rfl 0 (by decide) (hts (.fieldLink RX8 59 "WaxTurnsModel" "thrown" "I") (by decide +kernel)) (fun _ h9 => h9) rfl (by decide +kernel) rfl rfl (Nat.le_of_ble_eq_true rfl) dX8_fault_2 (fun H locs hP hD hS => ?_)
  have hP : va_P (dC, dI) vwCl [(a0, .inr (8, [Value.int 0, a0g 1, a0g 2, a0g 3, a0g 4, a0g 5, a0g 6, a0g 7, a0g 8, Value.int a0_9, a0g 10, a0g 11, a0g 12, a0g 13, a0g 14, a0g 15, a0g 16, a0g 17, a0g 18, a0g 19, a0g 20, a0g 21, a0g 22, a0g 23, a0g 24, a0g 25, a0g 26, a0g 27, a0g 28, a0g 29, a0g 30, a0g 31, a0g 32, a0g 33, a0g 34, a0g 35, a0g 36, a0g 37, a0g 38, a0g 39]))] H := hP
  have hD : va_D A [(a0, .inr (8, [Value.int 0, a0g 1, a0g 2, a0g 3, a0g 4, a0g 5, a0g 6, a0g 7, a0g 8, Value.int a0_9, a0g 10, a0g 11, a0g 12, a0g 13, a0g 14, a0g 15, a0g 16, a0g 17, a0g 18, a0g 19, a0g 20, a0g 21, a0g 22, a0g 23, a0g 24, a0g 25, a0g 26, a0g 27, a0g 28, a0g 29, a0g 30, a0g 31, a0g 32, a0g 33, a0g 34, a0g 35, a0g 36, a0g 37, a0g 38, a0g 39]))] := hD
  refine lv_aload_n hx hb dX8_fault_5 rfl (lv_at hl 0 rfl) ?_
  refine va_get (D := (dC, dI)) (ci := 8) (v := .int a0_9) (C := RX8) (T := TX8) (N := 40) hx hb hts (by decide +kernel) hown hK hP 0 rfl rfl 9 (by decide) (hts (.fieldLink RX8 101 "WaxTurnsModel" "fault" "I") (by decide +kernel)) (fun _ h9 => h9) rfl dX8_fault_6 ?_
  have hFe : FX = (a0_9.toInt, 0) := hF0
  exact W.iret (v := a0_9) hx hb hr (fun t ht hW => ⟨⟨a0_9, (), rfl, ⟨trivial, (congrArg Prod.fst hFe).symm⟩, 0, (congrArg Prod.snd hFe), by rw [ht]; exact hP, va_K.moved hW.alike hK, hD⟩, hS.F ht⟩) hS.2.2 dX8_fault_9
