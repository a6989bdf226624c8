set_option maxHeartbeats 4000000 in
set_option maxRecDepth 100000 in
theorem c_X5_init (l : Launch) (dC : Nat → ClassId) (dI : Nat → Nat → Nat) (sz : Nat) (q : Nat) : Met l yX5_init wsX5_init ({ frames := 1, cells := 2, slots := 18, locals := 24 }) (va_Pc [.ref q] (ax_C dC dI sz [(q, .inr (5, [.int 0, .int 0, .int 0, .int 0, .int 0, .null, .null]))] [] (fun _ => True))) (va_Qv (fun (_ : Unit) => True) (fun (_ : Unit) (t : State) => ∃ (a : Nat) (b : Nat), ax_B dC dI (va_A [(q, .inr (5, [.int 0, .int 0, .int 0, .int 0, .int 0, .null, .null]))] sz) [(q, .inr (5, [.int 0, .int 0, .int 0, .int 0, .int 0, .ref a, .ref b]))] [] t) (va_A [(q, .inr (5, [.int 0, .int 0, .int 0, .int 0, .int 0, .null, .null]))] sz)) 2 18 (va_A [(q, .inr (5, [.int 0, .int 0, .int 0, .int 0, .int 0, .null, .null]))] sz) := by
  refine Met.ofW (cc := cX5_init) (maxL := 1) (ret := none) (by decide) rfl ?_
  intro p e s m args below meth c s₁ B hml hv
  obtain ⟨rfl, hsz, hP, hK, hD0, hE⟩ := hv
  have hx := B.exec
  have hb := B.bytes
  have hr := B.returns
  have hts := atoms_spec (ws := wsX5_init) B.pre
  have hown : s.vm.findClass RX5 = some m.cls := findClass_of_methodNamed B.named
  have hlocks := B.notSynchronized
  have hin : meth.name = "<init>" := (name_of_methodNamed B.named B.method).1
  subst hsz
  have hD := hD0.self (sz := s.heap.size)
  generalize hAe : va_A [(q, .inr (5, [.int 0, .int 0, .int 0, .int 0, .int 0, .null, .null]))] s.heap.size = A at hD ⊢
  have hA : ∀ q : Nat, s.heap.size ≤ q → A q := fun q h => by rw [← hAe]; exact Or.inr h
  have hS : va_S A s.heap s.heap [] := va_S.rf
  have hP : va_P (dC, dI) vwCl [(q, .inr (5, [.int 0, .int 0, .int 0, .int 0, .int 0, .null, .null]))] s.heap := hP
  have hl := lv_entry ([.ref q]) (n := 1) (Nat.le_of_ble_eq_true rfl)
  rw [lg_entry_eq]
  generalize (lg_sl ([.ref q]) ++ List.replicate (1 - (lg_sl ([.ref q])).length) Slot.unset).toArray = ls at hl ⊢
  have hl : lv_has ls 1 [(0, .ref q)] := hl
  refine lv_aload_n hx hb dX5_init_0 rfl (lv_at hl 0 rfl) ?_
  refine W.objInit hx hb hown (hts (.methodLink RX5 3 objectInit) (by decide +kernel)) (hts (.instanceMethod objectInit) (by decide +kernel)) (hts _ (ocXX5_init)) rfl (by rw [hml]; exact hl.1) rfl dX5_init_1 (Nat.le_of_ble_eq_true rfl) (Nat.le_of_ble_eq_true rfl) ?_
  refine W.eq (g2 := F0 m 4 ls []) rfl ?_
  refine lv_aload_n hx hb dX5_init_4 rfl (lv_at hl 0 rfl) ?_
  refine lv_bipush (v := 9) hx hb dX5_init_5 (by decide) ?_
  refine va_newa (atype := .int) (ty := .int) (N' := 9) (a0 := (9, .inl (fun _ => 0))) hx hb (hts (.arrayClass .int) (by decide +kernel)) rfl hK hP hD hS hA (fun _ => rfl) (by decide +kernel) (by decide +kernel) (Nat.le_of_ble_eq_true rfl) (Nat.le_of_ble_eq_true rfl) (Nat.le_of_ble_eq_true rfl) dX5_init_7 (fun q_1 k_2 H hK hP hD hS => ?_)
  have hP : va_P (dC, dI) vwCl [(q, .inr (5, [.int 0, .int 0, .int 0, .int 0, .int 0, .null, .null])), (q_1, .inl (k_2, 9, .inl (fun _ => 0)))] H := hP
  have hD : va_D A [(q, .inr (5, [.int 0, .int 0, .int 0, .int 0, .int 0, .null, .null])), (q_1, .inl (k_2, 9, .inl (fun _ => 0)))] := hD
  have hK : va_K (dC, dI) vwCl [(k_2, .int)] s := hK
  refine W.widen (k := 1) (n := 9) (Nat.le_of_ble_eq_true rfl) (Nat.le_of_ble_eq_true rfl) ?_
  refine va_putF (D := (dC, dI)) (ci := 5) (v := .ref q_1) (ty := (.array .int)) (C := RX5) (T := TX5) (N := 7) hx hb hts (by decide +kernel) tyX5 tyX5_ok nmX5 hown hK hP hD hS 0 rfl rfl 5 (by decide) (hts (.fieldLink RX5 9 "WaxTurns$Scene" "places" "[I") (by decide +kernel)) (fun _ h9 => h9) rfl hin rfl (by decide +kernel) rfl rfl (Nat.le_of_ble_eq_true rfl) dX5_init_9 (fun H locs hP hD hS => ?_)
  have hP : va_P (dC, dI) vwCl [(q, .inr (5, [.int 0, .int 0, .int 0, .int 0, .int 0, .ref q_1, .null])), (q_1, .inl (k_2, 9, .inl (fun _ => 0)))] H := hP
  have hD : va_D A [(q, .inr (5, [.int 0, .int 0, .int 0, .int 0, .int 0, .ref q_1, .null])), (q_1, .inl (k_2, 9, .inl (fun _ => 0)))] := hD
  refine lv_aload_n hx hb dX5_init_12 rfl (lv_at hl 0 rfl) ?_
  refine lv_bipush (v := 9) hx hb dX5_init_13 (by decide) ?_
  refine va_newa (atype := .int) (ty := .int) (N' := 9) (a0 := (9, .inl (fun _ => 0))) hx hb (hts (.arrayClass .int) (by decide +kernel)) rfl hK hP hD hS hA (fun _ => rfl) (by decide +kernel) (by decide +kernel) (Nat.le_of_ble_eq_true rfl) (Nat.le_of_ble_eq_true rfl) (Nat.le_of_ble_eq_true rfl) dX5_init_15 (fun q_3 k_4 H hK hP hD hS => ?_)
  have hP : va_P (dC, dI) vwCl [(q, .inr (5, [.int 0, .int 0, .int 0, .int 0, .int 0, .ref q_1, .null])), (q_1, .inl (k_2, 9, .inl (fun _ => 0))), (q_3, .inl (k_4, 9, .inl (fun _ => 0)))] H := hP
  have hD : va_D A [(q, .inr (5, [.int 0, .int 0, .int 0, .int 0, .int 0, .ref q_1, .null])), (q_1, .inl (k_2, 9, .inl (fun _ => 0))), (q_3, .inl (k_4, 9, .inl (fun _ => 0)))] := hD
  have hK : va_K (dC, dI) vwCl [(k_2, .int), (k_4, .int)] s := hK
  refine W.widen (k := 2) (n := 18) (Nat.le_of_ble_eq_true rfl) (Nat.le_of_ble_eq_true rfl) ?_
  refine va_putF (D := (dC, dI)) (ci := 5) (v := .ref q_3) (ty := (.array .int)) (C := RX5) (T := TX5) (N := 7) hx hb hts (by decide +kernel) tyX5 tyX5_ok nmX5 hown hK hP hD hS 0 rfl rfl 6 (by decide) (hts (.fieldLink RX5 15 "WaxTurns$Scene" "heardBits" "[I") (by decide +kernel)) (fun _ h9 => h9) rfl hin rfl (by decide +kernel) rfl rfl (Nat.le_of_ble_eq_true rfl) dX5_init_17 (fun H locs hP hD hS => ?_)
  have hP : va_P (dC, dI) vwCl [(q, .inr (5, [.int 0, .int 0, .int 0, .int 0, .int 0, .ref q_1, .ref q_3])), (q_1, .inl (k_2, 9, .inl (fun _ => 0))), (q_3, .inl (k_4, 9, .inl (fun _ => 0)))] H := hP
  have hD : va_D A [(q, .inr (5, [.int 0, .int 0, .int 0, .int 0, .int 0, .ref q_1, .ref q_3])), (q_1, .inl (k_2, 9, .inl (fun _ => 0))), (q_3, .inl (k_4, 9, .inl (fun _ => 0)))] := hD
  have hP9 := hP.sub (ws' := [(q, .inr (5, [.int 0, .int 0, .int 0, .int 0, .int 0, .ref q_1, .ref q_3]))]) [0] rfl
  have hD9 := hD.sub (ws' := [(q, .inr (5, [.int 0, .int 0, .int 0, .int 0, .int 0, .ref q_1, .ref q_3]))]) [0] (by decide) rfl
  have hK9 := hK.sub (tys' := []) [] rfl
  exact W.vret hx hb hr (fun t ht hW => ⟨⟨(), rfl, trivial, q_1, q_3, by rw [ht]; exact hP9, va_K.moved hW.alike hK9, hD9⟩, hS.F ht⟩) hS.2.2 dX5_init_20

set_option maxHeartbeats 4000000 in
set_option maxRecDepth 100000 in
theorem c_X6_init (l : Launch) (dC : Nat → ClassId) (dI : Nat → Nat → Nat) (sz : Nat) (q : Nat) : Met l yX6_init wsX6_init ({ frames := 1, cells := 2, slots := 6, locals := 24 }) (va_Pc [.ref q] (ax_C dC dI sz [(q, .inr (6, [.int 0, .int 0, .null, .null]))] [] (fun _ => True))) (va_Qv (fun (_ : Unit) => True) (fun (_ : Unit) (t : State) => ∃ (a : Nat) (b : Nat), ax_B dC dI (va_A [(q, .inr (6, [.int 0, .int 0, .null, .null]))] sz) [(q, .inr (6, [.int 0, .int 0, .ref a, .ref b]))] [] t) (va_A [(q, .inr (6, [.int 0, .int 0, .null, .null]))] sz)) 2 6 (va_A [(q, .inr (6, [.int 0, .int 0, .null, .null]))] sz) := by
  refine Met.ofW (cc := cX6_init) (maxL := 1) (ret := none) (by decide) rfl ?_
  intro p e s m args below meth c s₁ B hml hv
  obtain ⟨rfl, hsz, hP, hK, hD0, hE⟩ := hv
  have hx := B.exec
  have hb := B.bytes
  have hr := B.returns
  have hts := atoms_spec (ws := wsX6_init) B.pre
  have hown : s.vm.findClass RX6 = some m.cls := findClass_of_methodNamed B.named
  have hlocks := B.notSynchronized
  have hin : meth.name = "<init>" := (name_of_methodNamed B.named B.method).1
  subst hsz
  have hD := hD0.self (sz := s.heap.size)
  generalize hAe : va_A [(q, .inr (6, [.int 0, .int 0, .null, .null]))] s.heap.size = A at hD ⊢
  have hA : ∀ q : Nat, s.heap.size ≤ q → A q := fun q h => by rw [← hAe]; exact Or.inr h
  have hS : va_S A s.heap s.heap [] := va_S.rf
  have hP : va_P (dC, dI) vwCl [(q, .inr (6, [.int 0, .int 0, .null, .null]))] s.heap := hP
  have hl := lv_entry ([.ref q]) (n := 1) (Nat.le_of_ble_eq_true rfl)
  rw [lg_entry_eq]
  generalize (lg_sl ([.ref q]) ++ List.replicate (1 - (lg_sl ([.ref q])).length) Slot.unset).toArray = ls at hl ⊢
  have hl : lv_has ls 1 [(0, .ref q)] := hl
  refine lv_aload_n hx hb dX6_init_0 rfl (lv_at hl 0 rfl) ?_
  refine W.objInit hx hb hown (hts (.methodLink RX6 3 objectInit) (by decide +kernel)) (hts (.instanceMethod objectInit) (by decide +kernel)) (hts _ (ocXX6_init)) rfl (by rw [hml]; exact hl.1) rfl dX6_init_1 (Nat.le_of_ble_eq_true rfl) (Nat.le_of_ble_eq_true rfl) ?_
  refine W.eq (g2 := F0 m 4 ls []) rfl ?_
  refine lv_aload_n hx hb dX6_init_4 rfl (lv_at hl 0 rfl) ?_
  refine lv_iconst (v := 3) hx hb dX6_init_5 (by decide) ?_
  refine va_newa (atype := .int) (ty := .int) (N' := 3) (a0 := (3, .inl (fun _ => 0))) hx hb (hts (.arrayClass .int) (by decide +kernel)) rfl hK hP hD hS hA (fun _ => rfl) (by decide +kernel) (by decide +kernel) (Nat.le_of_ble_eq_true rfl) (Nat.le_of_ble_eq_true rfl) (Nat.le_of_ble_eq_true rfl) dX6_init_6 (fun q_1 k_2 H hK hP hD hS => ?_)
  have hP : va_P (dC, dI) vwCl [(q, .inr (6, [.int 0, .int 0, .null, .null])), (q_1, .inl (k_2, 3, .inl (fun _ => 0)))] H := hP
  have hD : va_D A [(q, .inr (6, [.int 0, .int 0, .null, .null])), (q_1, .inl (k_2, 3, .inl (fun _ => 0)))] := hD
  have hK : va_K (dC, dI) vwCl [(k_2, .int)] s := hK
  refine W.widen (k := 1) (n := 3) (Nat.le_of_ble_eq_true rfl) (Nat.le_of_ble_eq_true rfl) ?_
  refine va_putF (D := (dC, dI)) (ci := 6) (v := .ref q_1) (ty := (.array .int)) (C := RX6) (T := TX6) (N := 4) hx hb hts (by decide +kernel) tyX6 tyX6_ok nmX6 hown hK hP hD hS 0 rfl rfl 2 (by decide) (hts (.fieldLink RX6 9 "WaxTurns$Watchers" "from" "[I") (by decide +kernel)) (fun _ h9 => h9) rfl hin rfl (by decide +kernel) rfl rfl (Nat.le_of_ble_eq_true rfl) dX6_init_8 (fun H locs hP hD hS => ?_)
  have hP : va_P (dC, dI) vwCl [(q, .inr (6, [.int 0, .int 0, .ref q_1, .null])), (q_1, .inl (k_2, 3, .inl (fun _ => 0)))] H := hP
  have hD : va_D A [(q, .inr (6, [.int 0, .int 0, .ref q_1, .null])), (q_1, .inl (k_2, 3, .inl (fun _ => 0)))] := hD
  refine lv_aload_n hx hb dX6_init_11 rfl (lv_at hl 0 rfl) ?_
  refine lv_iconst (v := 3) hx hb dX6_init_12 (by decide) ?_
  refine va_newa (atype := .int) (ty := .int) (N' := 3) (a0 := (3, .inl (fun _ => 0))) hx hb (hts (.arrayClass .int) (by decide +kernel)) rfl hK hP hD hS hA (fun _ => rfl) (by decide +kernel) (by decide +kernel) (Nat.le_of_ble_eq_true rfl) (Nat.le_of_ble_eq_true rfl) (Nat.le_of_ble_eq_true rfl) dX6_init_13 (fun q_3 k_4 H hK hP hD hS => ?_)
  have hP : va_P (dC, dI) vwCl [(q, .inr (6, [.int 0, .int 0, .ref q_1, .null])), (q_1, .inl (k_2, 3, .inl (fun _ => 0))), (q_3, .inl (k_4, 3, .inl (fun _ => 0)))] H := hP
  have hD : va_D A [(q, .inr (6, [.int 0, .int 0, .ref q_1, .null])), (q_1, .inl (k_2, 3, .inl (fun _ => 0))), (q_3, .inl (k_4, 3, .inl (fun _ => 0)))] := hD
  have hK : va_K (dC, dI) vwCl [(k_2, .int), (k_4, .int)] s := hK
  refine W.widen (k := 2) (n := 6) (Nat.le_of_ble_eq_true rfl) (Nat.le_of_ble_eq_true rfl) ?_
  refine va_putF (D := (dC, dI)) (ci := 6) (v := .ref q_3) (ty := (.array .int)) (C := RX6) (T := TX6) (N := 4) hx hb hts (by decide +kernel) tyX6 tyX6_ok nmX6 hown hK hP hD hS 0 rfl rfl 3 (by decide) (hts (.fieldLink RX6 15 "WaxTurns$Watchers" "to" "[I") (by decide +kernel)) (fun _ h9 => h9) rfl hin rfl (by decide +kernel) rfl rfl (Nat.le_of_ble_eq_true rfl) dX6_init_15 (fun H locs hP hD hS => ?_)
  have hP : va_P (dC, dI) vwCl [(q, .inr (6, [.int 0, .int 0, .ref q_1, .ref q_3])), (q_1, .inl (k_2, 3, .inl (fun _ => 0))), (q_3, .inl (k_4, 3, .inl (fun _ => 0)))] H := hP
  have hD : va_D A [(q, .inr (6, [.int 0, .int 0, .ref q_1, .ref q_3])), (q_1, .inl (k_2, 3, .inl (fun _ => 0))), (q_3, .inl (k_4, 3, .inl (fun _ => 0)))] := hD
  have hP9 := hP.sub (ws' := [(q, .inr (6, [.int 0, .int 0, .ref q_1, .ref q_3]))]) [0] rfl
  have hD9 := hD.sub (ws' := [(q, .inr (6, [.int 0, .int 0, .ref q_1, .ref q_3]))]) [0] (by decide) rfl
  have hK9 := hK.sub (tys' := []) [] rfl
  exact W.vret hx hb hr (fun t ht hW => ⟨⟨(), rfl, trivial, q_1, q_3, by rw [ht]; exact hP9, va_K.moved hW.alike hK9, hD9⟩, hS.F ht⟩) hS.2.2 dX6_init_18

set_option maxHeartbeats 4000000 in
set_option maxRecDepth 100000 in
theorem c_X0_init (l : Launch) (dC : Nat → ClassId) (dI : Nat → Nat → Nat) (sz : Nat) (q : Nat) : Met l yX0_init wsX0_init ({ frames := 2, cells := 7, slots := 40, locals := 44 }) (va_Pc [.ref q] (ax_C dC dI sz [(q, .inr (0, [.int 0, .int 0, .int 0, .int 0, .int 0, .int 0, .int 0, .int 0, .int 0, .int 0, .null, .null, .null, .null, .null]))] [] (fun _ => True))) (va_Qv (fun (_ : Unit) => True) (fun (_ : Unit) (t : State) => ∃ (a : Nat) (b : Nat) (c : Nat) (d : Nat) (w : Nat) (e : Nat) (f : Nat) (ka : ClassId) (kb : ClassId), ax_B dC dI (va_A [(q, .inr (0, [.int 0, .int 0, .int 0, .int 0, .int 0, .int 0, .int 0, .int 0, .int 0, .int 0, .null, .null, .null, .null, .null]))] sz) [(q, .inr (0, [.int 0, .int 0, .int 0, .int 0, .int 0, .int 0, .int 0, .int 0, .int 0, .int 0, .ref a, .ref b, .ref c, .ref d, .ref w])), (w, .inr (6, [.int 0, .int 0, .ref e, .ref f])), (a, .inl (ka, 9, .inl (fun _ => 0))), (b, .inl (kb, 9, .inl (fun _ => 0)))] [(ka, .int), (kb, .int)] t) (va_A [(q, .inr (0, [.int 0, .int 0, .int 0, .int 0, .int 0, .int 0, .int 0, .int 0, .int 0, .int 0, .null, .null, .null, .null, .null]))] sz)) 7 40 (va_A [(q, .inr (0, [.int 0, .int 0, .int 0, .int 0, .int 0, .int 0, .int 0, .int 0, .int 0, .int 0, .null, .null, .null, .null, .null]))] sz) := by
  refine Met.ofW (cc := cX0_init) (maxL := 1) (ret := none) (by decide) rfl ?_
  intro p e s m args below meth c s₁ B hml hv
  obtain ⟨rfl, hsz, hP, hK, hD0, hE⟩ := hv
  have hx := B.exec
  have hb := B.bytes
  have hr := B.returns
  have hts := atoms_spec (ws := wsX0_init) B.pre
  have hown : s.vm.findClass RX0 = some m.cls := findClass_of_methodNamed B.named
  have hlocks := B.notSynchronized
  have hin : meth.name = "<init>" := (name_of_methodNamed B.named B.method).1
  subst hsz
  have hD := hD0.self (sz := s.heap.size)
  generalize hAe : va_A [(q, .inr (0, [.int 0, .int 0, .int 0, .int 0, .int 0, .int 0, .int 0, .int 0, .int 0, .int 0, .null, .null, .null, .null, .null]))] s.heap.size = A at hD ⊢
  have hA : ∀ q : Nat, s.heap.size ≤ q → A q := fun q h => by rw [← hAe]; exact Or.inr h
  have hS : va_S A s.heap s.heap [] := va_S.rf
  have hP : va_P (dC, dI) vwCl [(q, .inr (0, [.int 0, .int 0, .int 0, .int 0, .int 0, .int 0, .int 0, .int 0, .int 0, .int 0, .null, .null, .null, .null, .null]))] s.heap := hP
  have hl := lv_entry ([.ref q]) (n := 1) (Nat.le_of_ble_eq_true rfl)
  rw [lg_entry_eq]
  generalize (lg_sl ([.ref q]) ++ List.replicate (1 - (lg_sl ([.ref q])).length) Slot.unset).toArray = ls at hl ⊢
  have hl : lv_has ls 1 [(0, .ref q)] := hl
  refine lv_aload_n hx hb dX0_init_0 rfl (lv_at hl 0 rfl) ?_
  refine W.objInit hx hb hown (hts (.methodLink RX0 3 objectInit) (by decide +kernel)) (hts (.instanceMethod objectInit) (by decide +kernel)) (hts _ (ocXX0_init)) rfl (by rw [hml]; exact hl.1) rfl dX0_init_1 (Nat.le_of_ble_eq_true rfl) (Nat.le_of_ble_eq_true rfl) ?_
  refine W.eq (g2 := F0 m 4 ls []) rfl ?_
  refine lv_aload_n hx hb dX0_init_4 rfl (lv_at hl 0 rfl) ?_
  refine lv_bipush (v := 9) hx hb dX0_init_5 (by decide) ?_
  refine va_newa (atype := .int) (ty := .int) (N' := 9) (a0 := (9, .inl (fun _ => 0))) hx hb (hts (.arrayClass .int) (by decide +kernel)) rfl hK hP hD hS hA (fun _ => rfl) (by decide +kernel) (by decide +kernel) (Nat.le_of_ble_eq_true rfl) (Nat.le_of_ble_eq_true rfl) (Nat.le_of_ble_eq_true rfl) dX0_init_7 (fun q_1 k_2 H hK hP hD hS => ?_)
  have hP : va_P (dC, dI) vwCl [(q, .inr (0, [.int 0, .int 0, .int 0, .int 0, .int 0, .int 0, .int 0, .int 0, .int 0, .int 0, .null, .null, .null, .null, .null])), (q_1, .inl (k_2, 9, .inl (fun _ => 0)))] H := hP
  have hD : va_D A [(q, .inr (0, [.int 0, .int 0, .int 0, .int 0, .int 0, .int 0, .int 0, .int 0, .int 0, .int 0, .null, .null, .null, .null, .null])), (q_1, .inl (k_2, 9, .inl (fun _ => 0)))] := hD
  have hK : va_K (dC, dI) vwCl [(k_2, .int)] s := hK
  refine W.widen (k := 1) (n := 9) (Nat.le_of_ble_eq_true rfl) (Nat.le_of_ble_eq_true rfl) ?_
  refine va_putF (D := (dC, dI)) (ci := 0) (v := .ref q_1) (ty := (.array .int)) (C := RX0) (T := TX0) (N := 15) hx hb hts (by decide +kernel) tyX0 tyX0_ok nmX0 hown hK hP hD hS 0 rfl rfl 10 (by decide) (hts (.fieldLink RX0 9 "WaxTurns$Hall" "kinds" "[I") (by decide +kernel)) (fun _ h9 => h9) rfl hin rfl (by decide +kernel) rfl rfl (Nat.le_of_ble_eq_true rfl) dX0_init_9 (fun H locs hP hD hS => ?_)
  have hP : va_P (dC, dI) vwCl [(q, .inr (0, [.int 0, .int 0, .int 0, .int 0, .int 0, .int 0, .int 0, .int 0, .int 0, .int 0, .ref q_1, .null, .null, .null, .null])), (q_1, .inl (k_2, 9, .inl (fun _ => 0)))] H := hP
  have hD : va_D A [(q, .inr (0, [.int 0, .int 0, .int 0, .int 0, .int 0, .int 0, .int 0, .int 0, .int 0, .int 0, .ref q_1, .null, .null, .null, .null])), (q_1, .inl (k_2, 9, .inl (fun _ => 0)))] := hD
  refine lv_aload_n hx hb dX0_init_12 rfl (lv_at hl 0 rfl) ?_
  refine lv_bipush (v := 9) hx hb dX0_init_13 (by decide) ?_
  refine va_newa (atype := .int) (ty := .int) (N' := 9) (a0 := (9, .inl (fun _ => 0))) hx hb (hts (.arrayClass .int) (by decide +kernel)) rfl hK hP hD hS hA (fun _ => rfl) (by decide +kernel) (by decide +kernel) (Nat.le_of_ble_eq_true rfl) (Nat.le_of_ble_eq_true rfl) (Nat.le_of_ble_eq_true rfl) dX0_init_15 (fun q_3 k_4 H hK hP hD hS => ?_)
  have hP : va_P (dC, dI) vwCl [(q, .inr (0, [.int 0, .int 0, .int 0, .int 0, .int 0, .int 0, .int 0, .int 0, .int 0, .int 0, .ref q_1, .null, .null, .null, .null])), (q_1, .inl (k_2, 9, .inl (fun _ => 0))), (q_3, .inl (k_4, 9, .inl (fun _ => 0)))] H := hP
  have hD : va_D A [(q, .inr (0, [.int 0, .int 0, .int 0, .int 0, .int 0, .int 0, .int 0, .int 0, .int 0, .int 0, .ref q_1, .null, .null, .null, .null])), (q_1, .inl (k_2, 9, .inl (fun _ => 0))), (q_3, .inl (k_4, 9, .inl (fun _ => 0)))] := hD
  have hK : va_K (dC, dI) vwCl [(k_2, .int), (k_4, .int)] s := hK
  refine W.widen (k := 2) (n := 18) (Nat.le_of_ble_eq_true rfl) (Nat.le_of_ble_eq_true rfl) ?_
  refine va_putF (D := (dC, dI)) (ci := 0) (v := .ref q_3) (ty := (.array .int)) (C := RX0) (T := TX0) (N := 15) hx hb hts (by decide +kernel) tyX0 tyX0_ok nmX0 hown hK hP hD hS 0 rfl rfl 11 (by decide) (hts (.fieldLink RX0 15 "WaxTurns$Hall" "measures" "[I") (by decide +kernel)) (fun _ h9 => h9) rfl hin rfl (by decide +kernel) rfl rfl (Nat.le_of_ble_eq_true rfl) dX0_init_17 (fun H locs hP hD hS => ?_)
  have hP : va_P (dC, dI) vwCl [(q, .inr (0, [.int 0, .int 0, .int 0, .int 0, .int 0, .int 0, .int 0, .int 0, .int 0, .int 0, .ref q_1, .ref q_3, .null, .null, .null])), (q_1, .inl (k_2, 9, .inl (fun _ => 0))), (q_3, .inl (k_4, 9, .inl (fun _ => 0)))] H := hP
  have hD : va_D A [(q, .inr (0, [.int 0, .int 0, .int 0, .int 0, .int 0, .int 0, .int 0, .int 0, .int 0, .int 0, .ref q_1, .ref q_3, .null, .null, .null])), (q_1, .inl (k_2, 9, .inl (fun _ => 0))), (q_3, .inl (k_4, 9, .inl (fun _ => 0)))] := hD
  refine lv_aload_n hx hb dX0_init_20 rfl (lv_at hl 0 rfl) ?_
  refine lv_bipush (v := 6) hx hb dX0_init_21 (by decide) ?_
  refine va_newa (atype := .int) (ty := .int) (N' := 6) (a0 := (6, .inl (fun _ => 0))) hx hb (hts (.arrayClass .int) (by decide +kernel)) rfl hK hP hD hS hA (fun _ => rfl) (by decide +kernel) (by decide +kernel) (Nat.le_of_ble_eq_true rfl) (Nat.le_of_ble_eq_true rfl) (Nat.le_of_ble_eq_true rfl) dX0_init_23 (fun q_5 k_6 H hK hP hD hS => ?_)
  have hP : va_P (dC, dI) vwCl [(q, .inr (0, [.int 0, .int 0, .int 0, .int 0, .int 0, .int 0, .int 0, .int 0, .int 0, .int 0, .ref q_1, .ref q_3, .null, .null, .null])), (q_1, .inl (k_2, 9, .inl (fun _ => 0))), (q_3, .inl (k_4, 9, .inl (fun _ => 0))), (q_5, .inl (k_6, 6, .inl (fun _ => 0)))] H := hP
  have hD : va_D A [(q, .inr (0, [.int 0, .int 0, .int 0, .int 0, .int 0, .int 0, .int 0, .int 0, .int 0, .int 0, .ref q_1, .ref q_3, .null, .null, .null])), (q_1, .inl (k_2, 9, .inl (fun _ => 0))), (q_3, .inl (k_4, 9, .inl (fun _ => 0))), (q_5, .inl (k_6, 6, .inl (fun _ => 0)))] := hD
  have hK : va_K (dC, dI) vwCl [(k_2, .int), (k_4, .int), (k_6, .int)] s := hK
  refine W.widen (k := 3) (n := 24) (Nat.le_of_ble_eq_true rfl) (Nat.le_of_ble_eq_true rfl) ?_
  refine va_putF (D := (dC, dI)) (ci := 0) (v := .ref q_5) (ty := (.array .int)) (C := RX0) (T := TX0) (N := 15) hx hb hts (by decide +kernel) tyX0 tyX0_ok nmX0 hown hK hP hD hS 0 rfl rfl 12 (by decide) (hts (.fieldLink RX0 18 "WaxTurns$Hall" "seenFigures" "[I") (by decide +kernel)) (fun _ h9 => h9) rfl hin rfl (by decide +kernel) rfl rfl (Nat.le_of_ble_eq_true rfl) dX0_init_25 (fun H locs hP hD hS => ?_)
  have hP : va_P (dC, dI) vwCl [(q, .inr (0, [.int 0, .int 0, .int 0, .int 0, .int 0, .int 0, .int 0, .int 0, .int 0, .int 0, .ref q_1, .ref q_3, .ref q_5, .null, .null])), (q_1, .inl (k_2, 9, .inl (fun _ => 0))), (q_3, .inl (k_4, 9, .inl (fun _ => 0))), (q_5, .inl (k_6, 6, .inl (fun _ => 0)))] H := hP
  have hD : va_D A [(q, .inr (0, [.int 0, .int 0, .int 0, .int 0, .int 0, .int 0, .int 0, .int 0, .int 0, .int 0, .ref q_1, .ref q_3, .ref q_5, .null, .null])), (q_1, .inl (k_2, 9, .inl (fun _ => 0))), (q_3, .inl (k_4, 9, .inl (fun _ => 0))), (q_5, .inl (k_6, 6, .inl (fun _ => 0)))] := hD
  refine lv_aload_n hx hb dX0_init_28 rfl (lv_at hl 0 rfl) ?_
  refine lv_bipush (v := 6) hx hb dX0_init_29 (by decide) ?_
  refine va_newa (atype := .int) (ty := .int) (N' := 6) (a0 := (6, .inl (fun _ => 0))) hx hb (hts (.arrayClass .int) (by decide +kernel)) rfl hK hP hD hS hA (fun _ => rfl) (by decide +kernel) (by decide +kernel) (Nat.le_of_ble_eq_true rfl) (Nat.le_of_ble_eq_true rfl) (Nat.le_of_ble_eq_true rfl) dX0_init_31 (fun q_7 k_8 H hK hP hD hS => ?_)
  have hP : va_P (dC, dI) vwCl [(q, .inr (0, [.int 0, .int 0, .int 0, .int 0, .int 0, .int 0, .int 0, .int 0, .int 0, .int 0, .ref q_1, .ref q_3, .ref q_5, .null, .null])), (q_1, .inl (k_2, 9, .inl (fun _ => 0))), (q_3, .inl (k_4, 9, .inl (fun _ => 0))), (q_5, .inl (k_6, 6, .inl (fun _ => 0))), (q_7, .inl (k_8, 6, .inl (fun _ => 0)))] H := hP
  have hD : va_D A [(q, .inr (0, [.int 0, .int 0, .int 0, .int 0, .int 0, .int 0, .int 0, .int 0, .int 0, .int 0, .ref q_1, .ref q_3, .ref q_5, .null, .null])), (q_1, .inl (k_2, 9, .inl (fun _ => 0))), (q_3, .inl (k_4, 9, .inl (fun _ => 0))), (q_5, .inl (k_6, 6, .inl (fun _ => 0))), (q_7, .inl (k_8, 6, .inl (fun _ => 0)))] := hD
  have hK : va_K (dC, dI) vwCl [(k_2, .int), (k_4, .int), (k_6, .int), (k_8, .int)] s := hK
  refine W.widen (k := 4) (n := 30) (Nat.le_of_ble_eq_true rfl) (Nat.le_of_ble_eq_true rfl) ?_
  refine va_putF (D := (dC, dI)) (ci := 0) (v := .ref q_7) (ty := (.array .int)) (C := RX0) (T := TX0) (N := 15) hx hb hts (by decide +kernel) tyX0 tyX0_ok nmX0 hown hK hP hD hS 0 rfl rfl 13 (by decide) (hts (.fieldLink RX0 21 "WaxTurns$Hall" "seenMinutes" "[I") (by decide +kernel)) (fun _ h9 => h9) rfl hin rfl (by decide +kernel) rfl rfl (Nat.le_of_ble_eq_true rfl) dX0_init_33 (fun H locs hP hD hS => ?_)
  have hP : va_P (dC, dI) vwCl [(q, .inr (0, [.int 0, .int 0, .int 0, .int 0, .int 0, .int 0, .int 0, .int 0, .int 0, .int 0, .ref q_1, .ref q_3, .ref q_5, .ref q_7, .null])), (q_1, .inl (k_2, 9, .inl (fun _ => 0))), (q_3, .inl (k_4, 9, .inl (fun _ => 0))), (q_5, .inl (k_6, 6, .inl (fun _ => 0))), (q_7, .inl (k_8, 6, .inl (fun _ => 0)))] H := hP
  have hD : va_D A [(q, .inr (0, [.int 0, .int 0, .int 0, .int 0, .int 0, .int 0, .int 0, .int 0, .int 0, .int 0, .ref q_1, .ref q_3, .ref q_5, .ref q_7, .null])), (q_1, .inl (k_2, 9, .inl (fun _ => 0))), (q_3, .inl (k_4, 9, .inl (fun _ => 0))), (q_5, .inl (k_6, 6, .inl (fun _ => 0))), (q_7, .inl (k_8, 6, .inl (fun _ => 0)))] := hD
  refine lv_aload_n hx hb dX0_init_36 rfl (lv_at hl 0 rfl) ?_
  refine va_new (ci := 6) (fs := [.int 0, .int 0, .null, .null]) (C := RX6) (T := TX6) (N := 4) hx hb hts (by decide +kernel) tyX6 tyX6_ok hown (hts (.classLink RX0 24 RX6) (by decide +kernel)) (hts (.instantiable RX6 4) (by decide +kernel)) (hts (.initialized RX6) (by decide +kernel)) hK hP hD hS hA rfl (dfX6) (Nat.le_of_ble_eq_true rfl) (Nat.le_of_ble_eq_true rfl) dX0_init_37 (fun q_9 H hP hD hS => ?_)
  have hP : va_P (dC, dI) vwCl [(q, .inr (0, [.int 0, .int 0, .int 0, .int 0, .int 0, .int 0, .int 0, .int 0, .int 0, .int 0, .ref q_1, .ref q_3, .ref q_5, .ref q_7, .null])), (q_1, .inl (k_2, 9, .inl (fun _ => 0))), (q_3, .inl (k_4, 9, .inl (fun _ => 0))), (q_5, .inl (k_6, 6, .inl (fun _ => 0))), (q_7, .inl (k_8, 6, .inl (fun _ => 0))), (q_9, .inr (6, [.int 0, .int 0, .null, .null]))] H := hP
  have hD : va_D A [(q, .inr (0, [.int 0, .int 0, .int 0, .int 0, .int 0, .int 0, .int 0, .int 0, .int 0, .int 0, .ref q_1, .ref q_3, .ref q_5, .ref q_7, .null])), (q_1, .inl (k_2, 9, .inl (fun _ => 0))), (q_3, .inl (k_4, 9, .inl (fun _ => 0))), (q_5, .inl (k_6, 6, .inl (fun _ => 0))), (q_7, .inl (k_8, 6, .inl (fun _ => 0))), (q_9, .inr (6, [.int 0, .int 0, .null, .null]))] := hD
  refine W.widen (k := 5) (n := 34) (Nat.le_of_ble_eq_true rfl) (Nat.le_of_ble_eq_true rfl) ?_
  refine lv_dup hx hb dX0_init_40 rfl ?_
  have hPc := hP.sub (ws' := [(q_9, .inr (6, [.int 0, .int 0, .null, .null]))]) [5] rfl
  have hDc := hD.sub (ws' := [(q_9, .inr (6, [.int 0, .int 0, .null, .null]))]) [5] (by decide) rfl
  have hKc := hK.sub (tys' := []) [] rfl
  have hFc := va_free (wc := [(q_9, .inr (6, [.int 0, .int 0, .null, .null]))]) hD hS hA [5] rfl
  refine va_callv (va_runI (As := []) (rest := [.ref q_9, .ref q]) ⟨hx, hb, hml, hown, hts⟩ (c_X6_init l dC dI H.size q_9 ) (cwI 0 hts gX0_init_X6_init rfl rfl rfl (hts (.initialized RX6) (by decide +kernel)) (hts (.methodLink RX0 26 yX6_init) (by decide +kernel)) (hts (.instanceMethod yX6_init) (by decide +kernel)) rfl (by decide +kernel) ⟨Nat.le_of_ble_eq_true rfl, Nat.le_of_ble_eq_true rfl⟩) ⟨ax_blind (fun _ _ _ _ _ => trivial), ax_pre hPc hKc hDc (fun _ _ => trivial)⟩ rfl rfl hl.1 rfl (lv_room (Nat.le_of_ble_eq_true rfl)) dX0_init_41 ⟨Nat.le_of_ble_eq_true rfl, Nat.le_of_ble_eq_true rfl⟩) hS (fun q _ h => hFc q h) hFc (fun u t H1 locs ht hvm hw hB hz1 hk1 hS => ?_)
  obtain ⟨a_11, b_12, hP1, hK1, hD1⟩ := hB
  rw [ht] at hP1
  have hK1 := va_K.moved hvm.symm hK1
  obtain ⟨hP, hD⟩ := va_join (wr := [(q, .inr (0, [.int 0, .int 0, .int 0, .int 0, .int 0, .int 0, .int 0, .int 0, .int 0, .int 0, .ref q_1, .ref q_3, .ref q_5, .ref q_7, .null])), (q_1, .inl (k_2, 9, .inl (fun _ => 0))), (q_3, .inl (k_4, 9, .inl (fun _ => 0))), (q_5, .inl (k_6, 6, .inl (fun _ => 0))), (q_7, .inl (k_8, 6, .inl (fun _ => 0)))]) (w1 := [(q_9, .inr (6, [.int 0, .int 0, .ref a_11, .ref b_12]))]) hP hD [5] [0, 1, 2, 3, 4] rfl rfl (by decide) (by decide) hk1 hFc hP1 hD1
  have hK := (hK.sub (tys' := [(k_2, .int), (k_4, .int), (k_6, .int), (k_8, .int)]) [0, 1, 2, 3] rfl).app hK1
  generalize H1 = H at hP hS ⊢
  have hP : va_P (dC, dI) vwCl [(q, .inr (0, [.int 0, .int 0, .int 0, .int 0, .int 0, .int 0, .int 0, .int 0, .int 0, .int 0, .ref q_1, .ref q_3, .ref q_5, .ref q_7, .null])), (q_1, .inl (k_2, 9, .inl (fun _ => 0))), (q_3, .inl (k_4, 9, .inl (fun _ => 0))), (q_5, .inl (k_6, 6, .inl (fun _ => 0))), (q_7, .inl (k_8, 6, .inl (fun _ => 0))), (q_9, .inr (6, [.int 0, .int 0, .ref a_11, .ref b_12]))] H := hP
  have hD : va_D A [(q, .inr (0, [.int 0, .int 0, .int 0, .int 0, .int 0, .int 0, .int 0, .int 0, .int 0, .int 0, .ref q_1, .ref q_3, .ref q_5, .ref q_7, .null])), (q_1, .inl (k_2, 9, .inl (fun _ => 0))), (q_3, .inl (k_4, 9, .inl (fun _ => 0))), (q_5, .inl (k_6, 6, .inl (fun _ => 0))), (q_7, .inl (k_8, 6, .inl (fun _ => 0))), (q_9, .inr (6, [.int 0, .int 0, .ref a_11, .ref b_12]))] := hD
  have hK : va_K (dC, dI) vwCl [(k_2, .int), (k_4, .int), (k_6, .int), (k_8, .int)] s := hK
  refine W.widen (k := 7) (n := 40) (Nat.le_of_ble_eq_true rfl) (Nat.le_of_ble_eq_true rfl) ?_
  refine va_putF (D := (dC, dI)) (ci := 0) (v := .ref q_9) (ty := (.object "WaxTurns$Watchers")) (C := RX0) (T := TX0) (N := 15) hx hb hts (by decide +kernel) tyX0 tyX0_ok nmX0 hown hK hP hD hS 0 rfl rfl 14 (by decide) (hts (.fieldLink RX0 27 "WaxTurns$Hall" "watchers" "LWaxTurns$Watchers;") (by decide +kernel)) (fun _ h9 => h9) rfl hin rfl (by decide +kernel) rfl rfl (Nat.le_of_ble_eq_true rfl) dX0_init_44 (fun H locs hP hD hS => ?_)
  have hP : va_P (dC, dI) vwCl [(q, .inr (0, [.int 0, .int 0, .int 0, .int 0, .int 0, .int 0, .int 0, .int 0, .int 0, .int 0, .ref q_1, .ref q_3, .ref q_5, .ref q_7, .ref q_9])), (q_1, .inl (k_2, 9, .inl (fun _ => 0))), (q_3, .inl (k_4, 9, .inl (fun _ => 0))), (q_5, .inl (k_6, 6, .inl (fun _ => 0))), (q_7, .inl (k_8, 6, .inl (fun _ => 0))), (q_9, .inr (6, [.int 0, .int 0, .ref a_11, .ref b_12]))] H := hP
  have hD : va_D A [(q, .inr (0, [.int 0, .int 0, .int 0, .int 0, .int 0, .int 0, .int 0, .int 0, .int 0, .int 0, .ref q_1, .ref q_3, .ref q_5, .ref q_7, .ref q_9])), (q_1, .inl (k_2, 9, .inl (fun _ => 0))), (q_3, .inl (k_4, 9, .inl (fun _ => 0))), (q_5, .inl (k_6, 6, .inl (fun _ => 0))), (q_7, .inl (k_8, 6, .inl (fun _ => 0))), (q_9, .inr (6, [.int 0, .int 0, .ref a_11, .ref b_12]))] := hD
  have hP9 := hP.sub (ws' := [(q, .inr (0, [.int 0, .int 0, .int 0, .int 0, .int 0, .int 0, .int 0, .int 0, .int 0, .int 0, .ref q_1, .ref q_3, .ref q_5, .ref q_7, .ref q_9])), (q_9, .inr (6, [.int 0, .int 0, .ref a_11, .ref b_12])), (q_1, .inl (k_2, 9, .inl (fun _ => 0))), (q_3, .inl (k_4, 9, .inl (fun _ => 0)))]) [0, 5, 1, 2] rfl
  have hD9 := hD.sub (ws' := [(q, .inr (0, [.int 0, .int 0, .int 0, .int 0, .int 0, .int 0, .int 0, .int 0, .int 0, .int 0, .ref q_1, .ref q_3, .ref q_5, .ref q_7, .ref q_9])), (q_9, .inr (6, [.int 0, .int 0, .ref a_11, .ref b_12])), (q_1, .inl (k_2, 9, .inl (fun _ => 0))), (q_3, .inl (k_4, 9, .inl (fun _ => 0)))]) [0, 5, 1, 2] (by decide) rfl
  have hK9 := hK.sub (tys' := [(k_2, .int), (k_4, .int)]) [0, 1] rfl
  exact W.vret hx hb hr (fun t ht hW => ⟨⟨(), rfl, trivial, q_1, q_3, q_5, q_7, q_9, a_11, b_12, k_2, k_4, by rw [ht]; exact hP9, va_K.moved hW.alike hK9, hD9⟩, hS.F ht⟩) hS.2.2 dX0_init_47

set_option maxHeartbeats 4000000 in
set_option maxRecDepth 100000 in
theorem c_X2_init (l : Launch) (dC : Nat → ClassId) (dI : Nat → Nat → Nat) (sz : Nat) (q : Nat) : Met l yX2_init wsX2_init ({ frames := 1, cells := 2, slots := 1629, locals := 24 }) (va_Pc [.ref q] (ax_C dC dI sz [(q, .inr (2, [.int 0, .int 0, .int 0, .null, .null, .int 0, .int 0]))] [] (fun _ => True))) (va_Qv (fun (_ : Unit) => True) (fun (_ : Unit) (t : State) => ax_B dC dI (va_A [(q, .inr (2, [.int 0, .int 0, .int 0, .null, .null, .int 0, .int 0]))] sz) [] [] t) (va_A [(q, .inr (2, [.int 0, .int 0, .int 0, .null, .null, .int 0, .int 0]))] sz)) 2 1629 (va_A [(q, .inr (2, [.int 0, .int 0, .int 0, .null, .null, .int 0, .int 0]))] sz) := by
  refine Met.ofW (cc := cX2_init) (maxL := 1) (ret := none) (by decide) rfl ?_
  intro p e s m args below meth c s₁ B hml hv
  obtain ⟨rfl, hsz, hP, hK, hD0, hE⟩ := hv
  have hx := B.exec
  have hb := B.bytes
  have hr := B.returns
  have hts := atoms_spec (ws := wsX2_init) B.pre
  have hown : s.vm.findClass RX2 = some m.cls := findClass_of_methodNamed B.named
  have hlocks := B.notSynchronized
  have hin : meth.name = "<init>" := (name_of_methodNamed B.named B.method).1
  subst hsz
  have hD := hD0.self (sz := s.heap.size)
  generalize hAe : va_A [(q, .inr (2, [.int 0, .int 0, .int 0, .null, .null, .int 0, .int 0]))] s.heap.size = A at hD ⊢
  have hA : ∀ q : Nat, s.heap.size ≤ q → A q := fun q h => by rw [← hAe]; exact Or.inr h
  have hS : va_S A s.heap s.heap [] := va_S.rf
  have hP : va_P (dC, dI) vwCl [(q, .inr (2, [.int 0, .int 0, .int 0, .null, .null, .int 0, .int 0]))] s.heap := hP
  have hl := lv_entry ([.ref q]) (n := 1) (Nat.le_of_ble_eq_true rfl)
  rw [lg_entry_eq]
  generalize (lg_sl ([.ref q]) ++ List.replicate (1 - (lg_sl ([.ref q])).length) Slot.unset).toArray = ls at hl ⊢
  have hl : lv_has ls 1 [(0, .ref q)] := hl
  refine lv_aload_n hx hb dX2_init_0 rfl (lv_at hl 0 rfl) ?_
  refine W.objInit hx hb hown (hts (.methodLink RX2 3 objectInit) (by decide +kernel)) (hts (.instanceMethod objectInit) (by decide +kernel)) (hts _ (ocXX2_init)) rfl (by rw [hml]; exact hl.1) rfl dX2_init_1 (Nat.le_of_ble_eq_true rfl) (Nat.le_of_ble_eq_true rfl) ?_
  refine W.eq (g2 := F0 m 4 ls []) rfl ?_
  refine lv_aload_n hx hb dX2_init_4 rfl (lv_at hl 0 rfl) ?_
  refine lv_sipush (v := 729) hx hb dX2_init_5 (by decide) ?_
  refine va_newa (atype := .int) (ty := .int) (N' := 729) (a0 := (729, .inl (fun _ => 0))) hx hb (hts (.arrayClass .int) (by decide +kernel)) rfl hK hP hD hS hA (fun _ => rfl) (by decide +kernel) (by decide +kernel) (Nat.le_of_ble_eq_true rfl) (Nat.le_of_ble_eq_true rfl) (Nat.le_of_ble_eq_true rfl) dX2_init_8 (fun q_1 k_2 H hK hP hD hS => ?_)
  have hP : va_P (dC, dI) vwCl [(q, .inr (2, [.int 0, .int 0, .int 0, .null, .null, .int 0, .int 0])), (q_1, .inl (k_2, 729, .inl (fun _ => 0)))] H := hP
  have hD : va_D A [(q, .inr (2, [.int 0, .int 0, .int 0, .null, .null, .int 0, .int 0])), (q_1, .inl (k_2, 729, .inl (fun _ => 0)))] := hD
  have hK : va_K (dC, dI) vwCl [(k_2, .int)] s := hK
  refine W.widen (k := 1) (n := 729) (Nat.le_of_ble_eq_true rfl) (Nat.le_of_ble_eq_true rfl) ?_
  refine va_putF (D := (dC, dI)) (ci := 2) (v := .ref q_1) (ty := (.array .int)) (C := RX2) (T := TX2) (N := 7) hx hb hts (by decide +kernel) tyX2 tyX2_ok nmX2 hown hK hP hD hS 0 rfl rfl 3 (by decide) (hts (.fieldLink RX2 9 "WaxTurns$Laws" "fitting" "[I") (by decide +kernel)) (fun _ h9 => h9) rfl hin rfl (by decide +kernel) rfl rfl (Nat.le_of_ble_eq_true rfl) dX2_init_10 (fun H locs hP hD hS => ?_)
  have hP : va_P (dC, dI) vwCl [(q, .inr (2, [.int 0, .int 0, .int 0, .ref q_1, .null, .int 0, .int 0])), (q_1, .inl (k_2, 729, .inl (fun _ => 0)))] H := hP
  have hD : va_D A [(q, .inr (2, [.int 0, .int 0, .int 0, .ref q_1, .null, .int 0, .int 0])), (q_1, .inl (k_2, 729, .inl (fun _ => 0)))] := hD
  refine lv_aload_n hx hb dX2_init_13 rfl (lv_at hl 0 rfl) ?_
  refine lv_sipush (v := 900) hx hb dX2_init_14 (by decide) ?_
  refine va_newa (atype := .int) (ty := .int) (N' := 900) (a0 := (900, .inl (fun _ => 0))) hx hb (hts (.arrayClass .int) (by decide +kernel)) rfl hK hP hD hS hA (fun _ => rfl) (by decide +kernel) (by decide +kernel) (Nat.le_of_ble_eq_true rfl) (Nat.le_of_ble_eq_true rfl) (Nat.le_of_ble_eq_true rfl) dX2_init_17 (fun q_3 k_4 H hK hP hD hS => ?_)
  have hP : va_P (dC, dI) vwCl [(q, .inr (2, [.int 0, .int 0, .int 0, .ref q_1, .null, .int 0, .int 0])), (q_1, .inl (k_2, 729, .inl (fun _ => 0))), (q_3, .inl (k_4, 900, .inl (fun _ => 0)))] H := hP
  have hD : va_D A [(q, .inr (2, [.int 0, .int 0, .int 0, .ref q_1, .null, .int 0, .int 0])), (q_1, .inl (k_2, 729, .inl (fun _ => 0))), (q_3, .inl (k_4, 900, .inl (fun _ => 0)))] := hD
  have hK : va_K (dC, dI) vwCl [(k_2, .int), (k_4, .int)] s := hK
  refine W.widen (k := 2) (n := 1629) (Nat.le_of_ble_eq_true rfl) (Nat.le_of_ble_eq_true rfl) ?_
  refine va_putF (D := (dC, dI)) (ci := 2) (v := .ref q_3) (ty := (.array .int)) (C := RX2) (T := TX2) (N := 7) hx hb hts (by decide +kernel) tyX2 tyX2_ok nmX2 hown hK hP hD hS 0 rfl rfl 4 (by decide) (hts (.fieldLink RX2 15 "WaxTurns$Laws" "tallies" "[I") (by decide +kernel)) (fun _ h9 => h9) rfl hin rfl (by decide +kernel) rfl rfl (Nat.le_of_ble_eq_true rfl) dX2_init_19 (fun H locs hP hD hS => ?_)
  have hP : va_P (dC, dI) vwCl [(q, .inr (2, [.int 0, .int 0, .int 0, .ref q_1, .ref q_3, .int 0, .int 0])), (q_1, .inl (k_2, 729, .inl (fun _ => 0))), (q_3, .inl (k_4, 900, .inl (fun _ => 0)))] H := hP
  have hD : va_D A [(q, .inr (2, [.int 0, .int 0, .int 0, .ref q_1, .ref q_3, .int 0, .int 0])), (q_1, .inl (k_2, 729, .inl (fun _ => 0))), (q_3, .inl (k_4, 900, .inl (fun _ => 0)))] := hD
  have hP9 := hP.sub (ws' := []) [] rfl
  have hD9 := hD.sub (ws' := []) [] (by decide) rfl
  have hK9 := hK.sub (tys' := []) [] rfl
  exact W.vret hx hb hr (fun t ht hW => ⟨⟨(), rfl, trivial, by rw [ht]; exact hP9, va_K.moved hW.alike hK9, hD9⟩, hS.F ht⟩) hS.2.2 dX2_init_22

set_option maxHeartbeats 4000000 in
set_option maxRecDepth 100000 in
theorem c_X4_init (l : Launch) (dC : Nat → ClassId) (dI : Nat → Nat → Nat) (sz : Nat) (q : Nat) : Met l yX4_init wsX4_init ({ frames := 1, cells := 2, slots := 610, locals := 24 }) (va_Pc [.ref q] (ax_C dC dI sz [(q, .inr (4, [.int 0, .null, .null]))] [] (fun _ => True))) (va_Qv (fun (_ : Unit) => True) (fun (_ : Unit) (t : State) => ax_B dC dI (va_A [(q, .inr (4, [.int 0, .null, .null]))] sz) [] [] t) (va_A [(q, .inr (4, [.int 0, .null, .null]))] sz)) 2 610 (va_A [(q, .inr (4, [.int 0, .null, .null]))] sz) := by
  refine Met.ofW (cc := cX4_init) (maxL := 1) (ret := none) (by decide) rfl ?_
  intro p e s m args below meth c s₁ B hml hv
  obtain ⟨rfl, hsz, hP, hK, hD0, hE⟩ := hv
  have hx := B.exec
  have hb := B.bytes
  have hr := B.returns
  have hts := atoms_spec (ws := wsX4_init) B.pre
  have hown : s.vm.findClass RX4 = some m.cls := findClass_of_methodNamed B.named
  have hlocks := B.notSynchronized
  have hin : meth.name = "<init>" := (name_of_methodNamed B.named B.method).1
  subst hsz
  have hD := hD0.self (sz := s.heap.size)
  generalize hAe : va_A [(q, .inr (4, [.int 0, .null, .null]))] s.heap.size = A at hD ⊢
  have hA : ∀ q : Nat, s.heap.size ≤ q → A q := fun q h => by rw [← hAe]; exact Or.inr h
  have hS : va_S A s.heap s.heap [] := va_S.rf
  have hP : va_P (dC, dI) vwCl [(q, .inr (4, [.int 0, .null, .null]))] s.heap := hP
  have hl := lv_entry ([.ref q]) (n := 1) (Nat.le_of_ble_eq_true rfl)
  rw [lg_entry_eq]
  generalize (lg_sl ([.ref q]) ++ List.replicate (1 - (lg_sl ([.ref q])).length) Slot.unset).toArray = ls at hl ⊢
  have hl : lv_has ls 1 [(0, .ref q)] := hl
  refine lv_aload_n hx hb dX4_init_0 rfl (lv_at hl 0 rfl) ?_
  refine W.objInit hx hb hown (hts (.methodLink RX4 3 objectInit) (by decide +kernel)) (hts (.instanceMethod objectInit) (by decide +kernel)) (hts _ (ocXX4_init)) rfl (by rw [hml]; exact hl.1) rfl dX4_init_1 (Nat.le_of_ble_eq_true rfl) (Nat.le_of_ble_eq_true rfl) ?_
  refine W.eq (g2 := F0 m 4 ls []) rfl ?_
  refine lv_aload_n hx hb dX4_init_4 rfl (lv_at hl 0 rfl) ?_
  refine lv_bipush (v := 61) hx hb dX4_init_5 (by decide) ?_
  refine va_newa (atype := .int) (ty := .int) (N' := 61) (a0 := (61, .inl (fun _ => 0))) hx hb (hts (.arrayClass .int) (by decide +kernel)) rfl hK hP hD hS hA (fun _ => rfl) (by decide +kernel) (by decide +kernel) (Nat.le_of_ble_eq_true rfl) (Nat.le_of_ble_eq_true rfl) (Nat.le_of_ble_eq_true rfl) dX4_init_7 (fun q_1 k_2 H hK hP hD hS => ?_)
  have hP : va_P (dC, dI) vwCl [(q, .inr (4, [.int 0, .null, .null])), (q_1, .inl (k_2, 61, .inl (fun _ => 0)))] H := hP
  have hD : va_D A [(q, .inr (4, [.int 0, .null, .null])), (q_1, .inl (k_2, 61, .inl (fun _ => 0)))] := hD
  have hK : va_K (dC, dI) vwCl [(k_2, .int)] s := hK
  refine W.widen (k := 1) (n := 61) (Nat.le_of_ble_eq_true rfl) (Nat.le_of_ble_eq_true rfl) ?_
  refine va_putF (D := (dC, dI)) (ci := 4) (v := .ref q_1) (ty := (.array .int)) (C := RX4) (T := TX4) (N := 3) hx hb hts (by decide +kernel) tyX4 tyX4_ok nmX4 hown hK hP hD hS 0 rfl rfl 1 (by decide) (hts (.fieldLink RX4 9 "WaxTurns$Routes" "aims" "[I") (by decide +kernel)) (fun _ h9 => h9) rfl hin rfl (by decide +kernel) rfl rfl (Nat.le_of_ble_eq_true rfl) dX4_init_9 (fun H locs hP hD hS => ?_)
  have hP : va_P (dC, dI) vwCl [(q, .inr (4, [.int 0, .ref q_1, .null])), (q_1, .inl (k_2, 61, .inl (fun _ => 0)))] H := hP
  have hD : va_D A [(q, .inr (4, [.int 0, .ref q_1, .null])), (q_1, .inl (k_2, 61, .inl (fun _ => 0)))] := hD
  refine lv_aload_n hx hb dX4_init_12 rfl (lv_at hl 0 rfl) ?_
  refine lv_sipush (v := 549) hx hb dX4_init_13 (by decide) ?_
  refine va_newa (atype := .int) (ty := .int) (N' := 549) (a0 := (549, .inl (fun _ => 0))) hx hb (hts (.arrayClass .int) (by decide +kernel)) rfl hK hP hD hS hA (fun _ => rfl) (by decide +kernel) (by decide +kernel) (Nat.le_of_ble_eq_true rfl) (Nat.le_of_ble_eq_true rfl) (Nat.le_of_ble_eq_true rfl) dX4_init_16 (fun q_3 k_4 H hK hP hD hS => ?_)
  have hP : va_P (dC, dI) vwCl [(q, .inr (4, [.int 0, .ref q_1, .null])), (q_1, .inl (k_2, 61, .inl (fun _ => 0))), (q_3, .inl (k_4, 549, .inl (fun _ => 0)))] H := hP
  have hD : va_D A [(q, .inr (4, [.int 0, .ref q_1, .null])), (q_1, .inl (k_2, 61, .inl (fun _ => 0))), (q_3, .inl (k_4, 549, .inl (fun _ => 0)))] := hD
  have hK : va_K (dC, dI) vwCl [(k_2, .int), (k_4, .int)] s := hK
  refine W.widen (k := 2) (n := 610) (Nat.le_of_ble_eq_true rfl) (Nat.le_of_ble_eq_true rfl) ?_
  refine va_putF (D := (dC, dI)) (ci := 4) (v := .ref q_3) (ty := (.array .int)) (C := RX4) (T := TX4) (N := 3) hx hb hts (by decide +kernel) tyX4 tyX4_ok nmX4 hown hK hP hD hS 0 rfl rfl 2 (by decide) (hts (.fieldLink RX4 15 "WaxTurns$Routes" "bestBehind" "[I") (by decide +kernel)) (fun _ h9 => h9) rfl hin rfl (by decide +kernel) rfl rfl (Nat.le_of_ble_eq_true rfl) dX4_init_18 (fun H locs hP hD hS => ?_)
  have hP : va_P (dC, dI) vwCl [(q, .inr (4, [.int 0, .ref q_1, .ref q_3])), (q_1, .inl (k_2, 61, .inl (fun _ => 0))), (q_3, .inl (k_4, 549, .inl (fun _ => 0)))] H := hP
  have hD : va_D A [(q, .inr (4, [.int 0, .ref q_1, .ref q_3])), (q_1, .inl (k_2, 61, .inl (fun _ => 0))), (q_3, .inl (k_4, 549, .inl (fun _ => 0)))] := hD
  have hP9 := hP.sub (ws' := []) [] rfl
  have hD9 := hD.sub (ws' := []) [] (by decide) rfl
  have hK9 := hK.sub (tys' := []) [] rfl
  exact W.vret hx hb hr (fun t ht hW => ⟨⟨(), rfl, trivial, by rw [ht]; exact hP9, va_K.moved hW.alike hK9, hD9⟩, hS.F ht⟩) hS.2.2 dX4_init_21

set_option maxHeartbeats 4000000 in
set_option maxRecDepth 100000 in
theorem c_X1_init (l : Launch) (dC : Nat → ClassId) (dI : Nat → Nat → Nat) (sz : Nat) (q : Nat) : Met l yX1_init wsX1_init ({ frames := 2, cells := 59, slots := 494, locals := 44 }) (va_Pc [.ref q] (ax_C dC dI sz [(q, .inr (1, [.int 0, .int 0, .int 0, .null, .null]))] [] (fun U => va_AO RX5 U))) (va_Qv (fun (_ : Unit) => True) (fun (_ : Unit) (t : State) => ∃ (a : Nat) (b : Nat), ax_B dC dI (va_A [(q, .inr (1, [.int 0, .int 0, .int 0, .null, .null]))] sz) [(q, .inr (1, [.int 0, .int 0, .int 0, .ref a, .ref b]))] [] t) (va_A [(q, .inr (1, [.int 0, .int 0, .int 0, .null, .null]))] sz)) 59 494 (va_A [(q, .inr (1, [.int 0, .int 0, .int 0, .null, .null]))] sz) := by
  refine Met.ofW (cc := cX1_init) (maxL := 2) (ret := none) (by decide) rfl ?_
  intro p e s m args below meth c s₁ B hml hv
  obtain ⟨rfl, hsz, hP, hK, hD0, hE⟩ := hv
  have hx := B.exec
  have hb := B.bytes
  have hr := B.returns
  have hts := atoms_spec (ws := wsX1_init) B.pre
  have hown : s.vm.findClass RX1 = some m.cls := findClass_of_methodNamed B.named
  have hlocks := B.notSynchronized
  have hin : meth.name = "<init>" := (name_of_methodNamed B.named B.method).1
  subst hsz
  have hD := hD0.self (sz := s.heap.size)
  generalize hAe : va_A [(q, .inr (1, [.int 0, .int 0, .int 0, .null, .null]))] s.heap.size = A at hD ⊢
  have hA : ∀ q : Nat, s.heap.size ≤ q → A q := fun q h => by rw [← hAe]; exact Or.inr h
  have hS : va_S A s.heap s.heap [] := va_S.rf
  have hP : va_P (dC, dI) vwCl [(q, .inr (1, [.int 0, .int 0, .int 0, .null, .null]))] s.heap := hP
  have hE0 := hE
  have hl := lv_entry ([.ref q]) (n := 2) (Nat.le_of_ble_eq_true rfl)
  rw [lg_entry_eq]
  generalize (lg_sl ([.ref q]) ++ List.replicate (2 - (lg_sl ([.ref q])).length) Slot.unset).toArray = ls at hl ⊢
  have hl : lv_has ls 2 [(0, .ref q)] := hl
  refine lv_aload_n hx hb dX1_init_0 rfl (lv_at hl 0 rfl) ?_
  refine W.objInit hx hb hown (hts (.methodLink RX1 3 objectInit) (by decide +kernel)) (hts (.instanceMethod objectInit) (by decide +kernel)) (hts _ (ocXX1_init)) rfl (by rw [hml]; exact hl.1) rfl dX1_init_1 (Nat.le_of_ble_eq_true rfl) (Nat.le_of_ble_eq_true rfl) ?_
  refine W.eq (g2 := F0 m 4 ls []) rfl ?_
  refine lv_aload_n hx hb dX1_init_4 rfl (lv_at hl 0 rfl) ?_
  refine lv_bipush (v := 16) hx hb dX1_init_5 (by decide) ?_
  refine va_newq (C := RX5) (N' := 16) hx hb hown (hts (.classLink RX1 9 RX5) (by decide +kernel)) hE0 hK hP hD hS hA (by decide +kernel) (by decide +kernel) (Nat.le_of_ble_eq_true rfl) (Nat.le_of_ble_eq_true rfl) (Nat.le_of_ble_eq_true rfl) dX1_init_7 (fun q_1 k_2 H hK hP hD hS => ?_)
  have hP : va_P (dC, dI) vwCl [(q, .inr (1, [.int 0, .int 0, .int 0, .null, .null])), (q_1, .inl (k_2, 16, .inr (.inr (.inr (.inr (fun _ => none))))))] H := hP
  have hD : va_D A [(q, .inr (1, [.int 0, .int 0, .int 0, .null, .null])), (q_1, .inl (k_2, 16, .inr (.inr (.inr (.inr (fun _ => none))))))] := hD
  have hK : va_K (dC, dI) vwCl [(k_2, (.object RX5))] s := hK
  refine W.widen (k := 1) (n := 16) (Nat.le_of_ble_eq_true rfl) (Nat.le_of_ble_eq_true rfl) ?_
  refine va_putF (D := (dC, dI)) (ci := 1) (v := .ref q_1) (ty := (.array (.object "WaxTurns$Scene"))) (C := RX1) (T := TX1) (N := 5) hx hb hts (by decide +kernel) tyX1 tyX1_ok nmX1 hown hK hP hD hS 0 rfl rfl 3 (by decide) (hts (.fieldLink RX1 11 "WaxTurns$History" "kept" "[LWaxTurns$Scene;") (by decide +kernel)) (fun _ h9 => h9) rfl hin rfl (by decide +kernel) rfl rfl (Nat.le_of_ble_eq_true rfl) dX1_init_10 (fun H locs hP hD hS => ?_)
  have hP : va_P (dC, dI) vwCl [(q, .inr (1, [.int 0, .int 0, .int 0, .ref q_1, .null])), (q_1, .inl (k_2, 16, .inr (.inr (.inr (.inr (fun _ => none))))))] H := hP
  have hD : va_D A [(q, .inr (1, [.int 0, .int 0, .int 0, .ref q_1, .null])), (q_1, .inl (k_2, 16, .inr (.inr (.inr (.inr (fun _ => none))))))] := hD
  refine lv_iconst (v := 0) hx hb dX1_init_13 (by decide) ?_
  refine lv_istore_n (lv' := [(1, .int 0), (0, .ref q)]) hx hb dX1_init_14 rfl hl (by decide) rfl (fun ls hl => ?_)
  refine lv_iload_n hx hb dX1_init_15 rfl (lv_at hl 0 rfl) ?_
  refine lv_bipush (v := 16) hx hb dX1_init_16 (by decide) ?_
  refine lv_icmp_ge (tgt := 40) hx hb dX1_init_18 (by decide) (fun c_3 => absurd c_3 (by decide +kernel)) (fun _ => ?_)
  refine lv_aload_n hx hb dX1_init_21 rfl (lv_at hl 1 rfl) ?_
  refine va_get (D := (dC, dI)) (ci := 1) (v := .ref q_1) (C := RX1) (T := TX1) (N := 5) hx hb hts (by decide +kernel) hown hK hP 0 rfl rfl 3 (by decide) (hts (.fieldLink RX1 11 "WaxTurns$History" "kept" "[LWaxTurns$Scene;") (by decide +kernel)) (fun _ h9 => h9) rfl dX1_init_22 ?_
  refine lv_iload_n hx hb dX1_init_25 rfl (lv_at hl 0 rfl) ?_
  refine va_new (ci := 5) (fs := [.int 0, .int 0, .int 0, .int 0, .int 0, .null, .null]) (C := RX5) (T := TX5) (N := 7) hx hb hts (by decide +kernel) tyX5 tyX5_ok hown (hts (.classLink RX1 9 RX5) (by decide +kernel)) (hts (.instantiable RX5 7) (by decide +kernel)) (hts (.initialized RX5) (by decide +kernel)) hK hP hD hS hA rfl (dfX5) (Nat.le_of_ble_eq_true rfl) (Nat.le_of_ble_eq_true rfl) dX1_init_26 (fun q_4 H hP hD hS => ?_)
  have hP : va_P (dC, dI) vwCl [(q, .inr (1, [.int 0, .int 0, .int 0, .ref q_1, .null])), (q_1, .inl (k_2, 16, .inr (.inr (.inr (.inr (fun _ => none)))))), (q_4, .inr (5, [.int 0, .int 0, .int 0, .int 0, .int 0, .null, .null]))] H := hP
  have hD : va_D A [(q, .inr (1, [.int 0, .int 0, .int 0, .ref q_1, .null])), (q_1, .inl (k_2, 16, .inr (.inr (.inr (.inr (fun _ => none)))))), (q_4, .inr (5, [.int 0, .int 0, .int 0, .int 0, .int 0, .null, .null]))] := hD
  refine W.widen (k := 2) (n := 23) (Nat.le_of_ble_eq_true rfl) (Nat.le_of_ble_eq_true rfl) ?_
  refine lv_dup hx hb dX1_init_29 rfl ?_
  have hPc := hP.sub (ws' := [(q_4, .inr (5, [.int 0, .int 0, .int 0, .int 0, .int 0, .null, .null]))]) [2] rfl
  have hDc := hD.sub (ws' := [(q_4, .inr (5, [.int 0, .int 0, .int 0, .int 0, .int 0, .null, .null]))]) [2] (by decide) rfl
  have hKc := hK.sub (tys' := []) [] rfl
  have hFc := va_free (wc := [(q_4, .inr (5, [.int 0, .int 0, .int 0, .int 0, .int 0, .null, .null]))]) hD hS hA [2] rfl
  refine va_callv (va_runI (As := []) (rest := [.ref q_4, .int 0, .ref q_1]) ⟨hx, hb, hml, hown, hts⟩ (c_X5_init l dC dI H.size q_4 ) (cwI 0 hts gX1_init_X5_init rfl rfl rfl (hts (.initialized RX5) (by decide +kernel)) (hts (.methodLink RX1 17 yX5_init) (by decide +kernel)) (hts (.instanceMethod yX5_init) (by decide +kernel)) rfl (by decide +kernel) ⟨Nat.le_of_ble_eq_true rfl, Nat.le_of_ble_eq_true rfl⟩) ⟨ax_blind (fun _ _ _ _ _ => trivial), ax_pre hPc hKc hDc (fun _ _ => trivial)⟩ rfl rfl hl.1 rfl (lv_room (Nat.le_of_ble_eq_true rfl)) dX1_init_30 ⟨Nat.le_of_ble_eq_true rfl, Nat.le_of_ble_eq_true rfl⟩) hS (fun q _ h => hFc q h) hFc (fun u t H1 locs ht hvm hw hB hz1 hk1 hS => ?_)
  obtain ⟨a_6, b_7, hP1, hK1, hD1⟩ := hB
  rw [ht] at hP1
  have hK1 := va_K.moved hvm.symm hK1
  obtain ⟨hP, hD⟩ := va_join (wr := [(q, .inr (1, [.int 0, .int 0, .int 0, .ref q_1, .null])), (q_1, .inl (k_2, 16, .inr (.inr (.inr (.inr (fun _ => none))))))]) (w1 := [(q_4, .inr (5, [.int 0, .int 0, .int 0, .int 0, .int 0, .ref a_6, .ref b_7]))]) hP hD [2] [0, 1] rfl rfl (by decide) (by decide) hk1 hFc hP1 hD1
  have hK := (hK.sub (tys' := [(k_2, (.object RX5))]) [0] rfl).app hK1
  generalize H1 = H at hP hS ⊢
  have hP : va_P (dC, dI) vwCl [(q, .inr (1, [.int 0, .int 0, .int 0, .ref q_1, .null])), (q_1, .inl (k_2, 16, .inr (.inr (.inr (.inr (fun _ => none)))))), (q_4, .inr (5, [.int 0, .int 0, .int 0, .int 0, .int 0, .ref a_6, .ref b_7]))] H := hP
  have hD : va_D A [(q, .inr (1, [.int 0, .int 0, .int 0, .ref q_1, .null])), (q_1, .inl (k_2, 16, .inr (.inr (.inr (.inr (fun _ => none)))))), (q_4, .inr (5, [.int 0, .int 0, .int 0, .int 0, .int 0, .ref a_6, .ref b_7]))] := hD
  have hK : va_K (dC, dI) vwCl [(k_2, (.object RX5))] s := hK
  refine W.widen (k := 4) (n := 41) (Nat.le_of_ble_eq_true rfl) (Nat.le_of_ble_eq_true rfl) ?_
  refine va_astq hx hb hK hP hD hS 1 0 2 5 (r := (RX5, TX5, 7)) rfl rfl rfl rfl (by unfold vp_in; decide +kernel) dX1_init_33 (fun H locs hP hD hS => ?_)
  obtain ⟨f_8, hP, hD⟩ : ∃ f_8 : Nat → Option Nat, va_P (dC, dI) vwCl [(q, .inr (1, [.int 0, .int 0, .int 0, .ref q_1, .null])), (q_1, .inl (k_2, 16, .inr (.inr (.inr (.inr (f_8)))))), (q_4, .inr (5, [.int 0, .int 0, .int 0, .int 0, .int 0, .ref a_6, .ref b_7]))] H ∧ va_D A [(q, .inr (1, [.int 0, .int 0, .int 0, .ref q_1, .null])), (q_1, .inl (k_2, 16, .inr (.inr (.inr (.inr (f_8)))))), (q_4, .inr (5, [.int 0, .int 0, .int 0, .int 0, .int 0, .ref a_6, .ref b_7]))] := ⟨_, hP, hD⟩
  have hP := hP.sub (ws' := [(q, .inr (1, [.int 0, .int 0, .int 0, .ref q_1, .null])), (q_1, .inl (k_2, 16, .inr (.inr (.inr (.inr (f_8))))))]) [0, 1] rfl
  have hD := hD.sub (ws' := [(q, .inr (1, [.int 0, .int 0, .int 0, .ref q_1, .null])), (q_1, .inl (k_2, 16, .inr (.inr (.inr (.inr (f_8))))))]) [0, 1] (by decide) rfl
  have hK := hK.sub (tys' := [(k_2, (.object RX5))]) [0] rfl
  refine lv_iinc (v := 1) (lv' := [(1, .int 1), (0, .ref q)]) hx hb dX1_init_34 hl (k := 0) rfl (by decide +kernel) (by decide) rfl (fun ls hl => ?_)
  refine lv_goto (tgt := 15) hx hb dX1_init_37 (by decide) ?_
  refine lv_iload_n hx hb dX1_init_15 rfl (lv_at hl 0 rfl) ?_
  refine lv_bipush (v := 16) hx hb dX1_init_16 (by decide) ?_
  refine lv_icmp_ge (tgt := 40) hx hb dX1_init_18 (by decide) (fun c_9 => absurd c_9 (by decide +kernel)) (fun _ => ?_)
  refine lv_aload_n hx hb dX1_init_21 rfl (lv_at hl 1 rfl) ?_
  refine va_get (D := (dC, dI)) (ci := 1) (v := .ref q_1) (C := RX1) (T := TX1) (N := 5) hx hb hts (by decide +kernel) hown hK hP 0 rfl rfl 3 (by decide) (hts (.fieldLink RX1 11 "WaxTurns$History" "kept" "[LWaxTurns$Scene;") (by decide +kernel)) (fun _ h9 => h9) rfl dX1_init_22 ?_
  refine lv_iload_n hx hb dX1_init_25 rfl (lv_at hl 0 rfl) ?_
  refine va_new (ci := 5) (fs := [.int 0, .int 0, .int 0, .int 0, .int 0, .null, .null]) (C := RX5) (T := TX5) (N := 7) hx hb hts (by decide +kernel) tyX5 tyX5_ok hown (hts (.classLink RX1 9 RX5) (by decide +kernel)) (hts (.instantiable RX5 7) (by decide +kernel)) (hts (.initialized RX5) (by decide +kernel)) hK hP hD hS hA rfl (dfX5) (Nat.le_of_ble_eq_true rfl) (Nat.le_of_ble_eq_true rfl) dX1_init_26 (fun q_10 H hP hD hS => ?_)
  have hP : va_P (dC, dI) vwCl [(q, .inr (1, [.int 0, .int 0, .int 0, .ref q_1, .null])), (q_1, .inl (k_2, 16, .inr (.inr (.inr (.inr (f_8)))))), (q_10, .inr (5, [.int 0, .int 0, .int 0, .int 0, .int 0, .null, .null]))] H := hP
  have hD : va_D A [(q, .inr (1, [.int 0, .int 0, .int 0, .ref q_1, .null])), (q_1, .inl (k_2, 16, .inr (.inr (.inr (.inr (f_8)))))), (q_10, .inr (5, [.int 0, .int 0, .int 0, .int 0, .int 0, .null, .null]))] := hD
  refine W.widen (k := 5) (n := 48) (Nat.le_of_ble_eq_true rfl) (Nat.le_of_ble_eq_true rfl) ?_
  refine lv_dup hx hb dX1_init_29 rfl ?_
  have hPc := hP.sub (ws' := [(q_10, .inr (5, [.int 0, .int 0, .int 0, .int 0, .int 0, .null, .null]))]) [2] rfl
  have hDc := hD.sub (ws' := [(q_10, .inr (5, [.int 0, .int 0, .int 0, .int 0, .int 0, .null, .null]))]) [2] (by decide) rfl
  have hKc := hK.sub (tys' := []) [] rfl
  have hFc := va_free (wc := [(q_10, .inr (5, [.int 0, .int 0, .int 0, .int 0, .int 0, .null, .null]))]) hD hS hA [2] rfl
  refine va_callv (va_runI (As := []) (rest := [.ref q_10, .int 1, .ref q_1]) ⟨hx, hb, hml, hown, hts⟩ (c_X5_init l dC dI H.size q_10 ) (cwI 0 hts gX1_init_X5_init rfl rfl rfl (hts (.initialized RX5) (by decide +kernel)) (hts (.methodLink RX1 17 yX5_init) (by decide +kernel)) (hts (.instanceMethod yX5_init) (by decide +kernel)) rfl (by decide +kernel) ⟨Nat.le_of_ble_eq_true rfl, Nat.le_of_ble_eq_true rfl⟩) ⟨ax_blind (fun _ _ _ _ _ => trivial), ax_pre hPc hKc hDc (fun _ _ => trivial)⟩ rfl rfl hl.1 rfl (lv_room (Nat.le_of_ble_eq_true rfl)) dX1_init_30 ⟨Nat.le_of_ble_eq_true rfl, Nat.le_of_ble_eq_true rfl⟩) hS (fun q _ h => hFc q h) hFc (fun u t H1 locs ht hvm hw hB hz1 hk1 hS => ?_)
  obtain ⟨a_12, b_13, hP1, hK1, hD1⟩ := hB
  rw [ht] at hP1
  have hK1 := va_K.moved hvm.symm hK1
  obtain ⟨hP, hD⟩ := va_join (wr := [(q, .inr (1, [.int 0, .int 0, .int 0, .ref q_1, .null])), (q_1, .inl (k_2, 16, .inr (.inr (.inr (.inr (f_8))))))]) (w1 := [(q_10, .inr (5, [.int 0, .int 0, .int 0, .int 0, .int 0, .ref a_12, .ref b_13]))]) hP hD [2] [0, 1] rfl rfl (by decide) (by decide) hk1 hFc hP1 hD1
  have hK := (hK.sub (tys' := [(k_2, (.object RX5))]) [0] rfl).app hK1
  generalize H1 = H at hP hS ⊢
  have hP : va_P (dC, dI) vwCl [(q, .inr (1, [.int 0, .int 0, .int 0, .ref q_1, .null])), (q_1, .inl (k_2, 16, .inr (.inr (.inr (.inr (f_8)))))), (q_10, .inr (5, [.int 0, .int 0, .int 0, .int 0, .int 0, .ref a_12, .ref b_13]))] H := hP
  have hD : va_D A [(q, .inr (1, [.int 0, .int 0, .int 0, .ref q_1, .null])), (q_1, .inl (k_2, 16, .inr (.inr (.inr (.inr (f_8)))))), (q_10, .inr (5, [.int 0, .int 0, .int 0, .int 0, .int 0, .ref a_12, .ref b_13]))] := hD
  have hK : va_K (dC, dI) vwCl [(k_2, (.object RX5))] s := hK
  refine W.widen (k := 7) (n := 66) (Nat.le_of_ble_eq_true rfl) (Nat.le_of_ble_eq_true rfl) ?_
  refine va_astq hx hb hK hP hD hS 1 0 2 5 (r := (RX5, TX5, 7)) rfl rfl rfl rfl (by unfold vp_in; decide +kernel) dX1_init_33 (fun H locs hP hD hS => ?_)
  obtain ⟨f_14, hP, hD⟩ : ∃ f_14 : Nat → Option Nat, va_P (dC, dI) vwCl [(q, .inr (1, [.int 0, .int 0, .int 0, .ref q_1, .null])), (q_1, .inl (k_2, 16, .inr (.inr (.inr (.inr (f_14)))))), (q_10, .inr (5, [.int 0, .int 0, .int 0, .int 0, .int 0, .ref a_12, .ref b_13]))] H ∧ va_D A [(q, .inr (1, [.int 0, .int 0, .int 0, .ref q_1, .null])), (q_1, .inl (k_2, 16, .inr (.inr (.inr (.inr (f_14)))))), (q_10, .inr (5, [.int 0, .int 0, .int 0, .int 0, .int 0, .ref a_12, .ref b_13]))] := ⟨_, hP, hD⟩
  have hP := hP.sub (ws' := [(q, .inr (1, [.int 0, .int 0, .int 0, .ref q_1, .null])), (q_1, .inl (k_2, 16, .inr (.inr (.inr (.inr (f_14))))))]) [0, 1] rfl
  have hD := hD.sub (ws' := [(q, .inr (1, [.int 0, .int 0, .int 0, .ref q_1, .null])), (q_1, .inl (k_2, 16, .inr (.inr (.inr (.inr (f_14))))))]) [0, 1] (by decide) rfl
  have hK := hK.sub (tys' := [(k_2, (.object RX5))]) [0] rfl
  refine lv_iinc (v := 2) (lv' := [(1, .int 2), (0, .ref q)]) hx hb dX1_init_34 hl (k := 0) rfl (by decide +kernel) (by decide) rfl (fun ls hl => ?_)
  refine lv_goto (tgt := 15) hx hb dX1_init_37 (by decide) ?_
  refine lv_iload_n hx hb dX1_init_15 rfl (lv_at hl 0 rfl) ?_
  refine lv_bipush (v := 16) hx hb dX1_init_16 (by decide) ?_
  refine lv_icmp_ge (tgt := 40) hx hb dX1_init_18 (by decide) (fun c_15 => absurd c_15 (by decide +kernel)) (fun _ => ?_)
  refine lv_aload_n hx hb dX1_init_21 rfl (lv_at hl 1 rfl) ?_
  refine va_get (D := (dC, dI)) (ci := 1) (v := .ref q_1) (C := RX1) (T := TX1) (N := 5) hx hb hts (by decide +kernel) hown hK hP 0 rfl rfl 3 (by decide) (hts (.fieldLink RX1 11 "WaxTurns$History" "kept" "[LWaxTurns$Scene;") (by decide +kernel)) (fun _ h9 => h9) rfl dX1_init_22 ?_
  refine lv_iload_n hx hb dX1_init_25 rfl (lv_at hl 0 rfl) ?_
  refine va_new (ci := 5) (fs := [.int 0, .int 0, .int 0, .int 0, .int 0, .null, .null]) (C := RX5) (T := TX5) (N := 7) hx hb hts (by decide +kernel) tyX5 tyX5_ok hown (hts (.classLink RX1 9 RX5) (by decide +kernel)) (hts (.instantiable RX5 7) (by decide +kernel)) (hts (.initialized RX5) (by decide +kernel)) hK hP hD hS hA rfl (dfX5) (Nat.le_of_ble_eq_true rfl) (Nat.le_of_ble_eq_true rfl) dX1_init_26 (fun q_16 H hP hD hS => ?_)
  have hP : va_P (dC, dI) vwCl [(q, .inr (1, [.int 0, .int 0, .int 0, .ref q_1, .null])), (q_1, .inl (k_2, 16, .inr (.inr (.inr (.inr (f_14)))))), (q_16, .inr (5, [.int 0, .int 0, .int 0, .int 0, .int 0, .null, .null]))] H := hP
  have hD : va_D A [(q, .inr (1, [.int 0, .int 0, .int 0, .ref q_1, .null])), (q_1, .inl (k_2, 16, .inr (.inr (.inr (.inr (f_14)))))), (q_16, .inr (5, [.int 0, .int 0, .int 0, .int 0, .int 0, .null, .null]))] := hD
  refine W.widen (k := 8) (n := 73) (Nat.le_of_ble_eq_true rfl) (Nat.le_of_ble_eq_true rfl) ?_
  refine lv_dup hx hb dX1_init_29 rfl ?_
  have hPc := hP.sub (ws' := [(q_16, .inr (5, [.int 0, .int 0, .int 0, .int 0, .int 0, .null, .null]))]) [2] rfl
  have hDc := hD.sub (ws' := [(q_16, .inr (5, [.int 0, .int 0, .int 0, .int 0, .int 0, .null, .null]))]) [2] (by decide) rfl
  have hKc := hK.sub (tys' := []) [] rfl
  have hFc := va_free (wc := [(q_16, .inr (5, [.int 0, .int 0, .int 0, .int 0, .int 0, .null, .null]))]) hD hS hA [2] rfl
  refine va_callv (va_runI (As := []) (rest := [.ref q_16, .int 2, .ref q_1]) ⟨hx, hb, hml, hown, hts⟩ (c_X5_init l dC dI H.size q_16 ) (cwI 0 hts gX1_init_X5_init rfl rfl rfl (hts (.initialized RX5) (by decide +kernel)) (hts (.methodLink RX1 17 yX5_init) (by decide +kernel)) (hts (.instanceMethod yX5_init) (by decide +kernel)) rfl (by decide +kernel) ⟨Nat.le_of_ble_eq_true rfl, Nat.le_of_ble_eq_true rfl⟩) ⟨ax_blind (fun _ _ _ _ _ => trivial), ax_pre hPc hKc hDc (fun _ _ => trivial)⟩ rfl rfl hl.1 rfl (lv_room (Nat.le_of_ble_eq_true rfl)) dX1_init_30 ⟨Nat.le_of_ble_eq_true rfl, Nat.le_of_ble_eq_true rfl⟩) hS (fun q _ h => hFc q h) hFc (fun u t H1 locs ht hvm hw hB hz1 hk1 hS => ?_)
  obtain ⟨a_18, b_19, hP1, hK1, hD1⟩ := hB
  rw [ht] at hP1
  have hK1 := va_K.moved hvm.symm hK1
  obtain ⟨hP, hD⟩ := va_join (wr := [(q, .inr (1, [.int 0, .int 0, .int 0, .ref q_1, .null])), (q_1, .inl (k_2, 16, .inr (.inr (.inr (.inr (f_14))))))]) (w1 := [(q_16, .inr (5, [.int 0, .int 0, .int 0, .int 0, .int 0, .ref a_18, .ref b_19]))]) hP hD [2] [0, 1] rfl rfl (by decide) (by decide) hk1 hFc hP1 hD1
  have hK := (hK.sub (tys' := [(k_2, (.object RX5))]) [0] rfl).app hK1
  generalize H1 = H at hP hS ⊢
  have hP : va_P (dC, dI) vwCl [(q, .inr (1, [.int 0, .int 0, .int 0, .ref q_1, .null])), (q_1, .inl (k_2, 16, .inr (.inr (.inr (.inr (f_14)))))), (q_16, .inr (5, [.int 0, .int 0, .int 0, .int 0, .int 0, .ref a_18, .ref b_19]))] H := hP
  have hD : va_D A [(q, .inr (1, [.int 0, .int 0, .int 0, .ref q_1, .null])), (q_1, .inl (k_2, 16, .inr (.inr (.inr (.inr (f_14)))))), (q_16, .inr (5, [.int 0, .int 0, .int 0, .int 0, .int 0, .ref a_18, .ref b_19]))] := hD
  have hK : va_K (dC, dI) vwCl [(k_2, (.object RX5))] s := hK
  refine W.widen (k := 10) (n := 91) (Nat.le_of_ble_eq_true rfl) (Nat.le_of_ble_eq_true rfl) ?_
  refine va_astq hx hb hK hP hD hS 1 0 2 5 (r := (RX5, TX5, 7)) rfl rfl rfl rfl (by unfold vp_in; decide +kernel) dX1_init_33 (fun H locs hP hD hS => ?_)
  obtain ⟨f_20, hP, hD⟩ : ∃ f_20 : Nat → Option Nat, va_P (dC, dI) vwCl [(q, .inr (1, [.int 0, .int 0, .int 0, .ref q_1, .null])), (q_1, .inl (k_2, 16, .inr (.inr (.inr (.inr (f_20)))))), (q_16, .inr (5, [.int 0, .int 0, .int 0, .int 0, .int 0, .ref a_18, .ref b_19]))] H ∧ va_D A [(q, .inr (1, [.int 0, .int 0, .int 0, .ref q_1, .null])), (q_1, .inl (k_2, 16, .inr (.inr (.inr (.inr (f_20)))))), (q_16, .inr (5, [.int 0, .int 0, .int 0, .int 0, .int 0, .ref a_18, .ref b_19]))] := ⟨_, hP, hD⟩
  have hP := hP.sub (ws' := [(q, .inr (1, [.int 0, .int 0, .int 0, .ref q_1, .null])), (q_1, .inl (k_2, 16, .inr (.inr (.inr (.inr (f_20))))))]) [0, 1] rfl
  have hD := hD.sub (ws' := [(q, .inr (1, [.int 0, .int 0, .int 0, .ref q_1, .null])), (q_1, .inl (k_2, 16, .inr (.inr (.inr (.inr (f_20))))))]) [0, 1] (by decide) rfl
  have hK := hK.sub (tys' := [(k_2, (.object RX5))]) [0] rfl
  refine lv_iinc (v := 3) (lv' := [(1, .int 3), (0, .ref q)]) hx hb dX1_init_34 hl (k := 0) rfl (by decide +kernel) (by decide) rfl (fun ls hl => ?_)
  refine lv_goto (tgt := 15) hx hb dX1_init_37 (by decide) ?_
  refine lv_iload_n hx hb dX1_init_15 rfl (lv_at hl 0 rfl) ?_
  refine lv_bipush (v := 16) hx hb dX1_init_16 (by decide) ?_
  refine lv_icmp_ge (tgt := 40) hx hb dX1_init_18 (by decide) (fun c_21 => absurd c_21 (by decide +kernel)) (fun _ => ?_)
  refine lv_aload_n hx hb dX1_init_21 rfl (lv_at hl 1 rfl) ?_
  refine va_get (D := (dC, dI)) (ci := 1) (v := .ref q_1) (C := RX1) (T := TX1) (N := 5) hx hb hts (by decide +kernel) hown hK hP 0 rfl rfl 3 (by decide) (hts (.fieldLink RX1 11 "WaxTurns$History" "kept" "[LWaxTurns$Scene;") (by decide +kernel)) (fun _ h9 => h9) rfl dX1_init_22 ?_
  refine lv_iload_n hx hb dX1_init_25 rfl (lv_at hl 0 rfl) ?_
  refine va_new (ci := 5) (fs := [.int 0, .int 0, .int 0, .int 0, .int 0, .null, .null]) (C := RX5) (T := TX5) (N := 7) hx hb hts (by decide +kernel) tyX5 tyX5_ok hown (hts (.classLink RX1 9 RX5) (by decide +kernel)) (hts (.instantiable RX5 7) (by decide +kernel)) (hts (.initialized RX5) (by decide +kernel)) hK hP hD hS hA rfl (dfX5) (Nat.le_of_ble_eq_true rfl) (Nat.le_of_ble_eq_true rfl) dX1_init_26 (fun q_22 H hP hD hS => ?_)
  have hP : va_P (dC, dI) vwCl [(q, .inr (1, [.int 0, .int 0, .int 0, .ref q_1, .null])), (q_1, .inl (k_2, 16, .inr (.inr (.inr (.inr (f_20)))))), (q_22, .inr (5, [.int 0, .int 0, .int 0, .int 0, .int 0, .null, .null]))] H := hP
  have hD : va_D A [(q, .inr (1, [.int 0, .int 0, .int 0, .ref q_1, .null])), (q_1, .inl (k_2, 16, .inr (.inr (.inr (.inr (f_20)))))), (q_22, .inr (5, [.int 0, .int 0, .int 0, .int 0, .int 0, .null, .null]))] := hD
  refine W.widen (k := 11) (n := 98) (Nat.le_of_ble_eq_true rfl) (Nat.le_of_ble_eq_true rfl) ?_
  refine lv_dup hx hb dX1_init_29 rfl ?_
  have hPc := hP.sub (ws' := [(q_22, .inr (5, [.int 0, .int 0, .int 0, .int 0, .int 0, .null, .null]))]) [2] rfl
  have hDc := hD.sub (ws' := [(q_22, .inr (5, [.int 0, .int 0, .int 0, .int 0, .int 0, .null, .null]))]) [2] (by decide) rfl
  have hKc := hK.sub (tys' := []) [] rfl
  have hFc := va_free (wc := [(q_22, .inr (5, [.int 0, .int 0, .int 0, .int 0, .int 0, .null, .null]))]) hD hS hA [2] rfl
  refine va_callv (va_runI (As := []) (rest := [.ref q_22, .int 3, .ref q_1]) ⟨hx, hb, hml, hown, hts⟩ (c_X5_init l dC dI H.size q_22 ) (cwI 0 hts gX1_init_X5_init rfl rfl rfl (hts (.initialized RX5) (by decide +kernel)) (hts (.methodLink RX1 17 yX5_init) (by decide +kernel)) (hts (.instanceMethod yX5_init) (by decide +kernel)) rfl (by decide +kernel) ⟨Nat.le_of_ble_eq_true rfl, Nat.le_of_ble_eq_true rfl⟩) ⟨ax_blind (fun _ _ _ _ _ => trivial), ax_pre hPc hKc hDc (fun _ _ => trivial)⟩ rfl rfl hl.1 rfl (lv_room (Nat.le_of_ble_eq_true rfl)) dX1_init_30 ⟨Nat.le_of_ble_eq_true rfl, Nat.le_of_ble_eq_true rfl⟩) hS (fun q _ h => hFc q h) hFc (fun u t H1 locs ht hvm hw hB hz1 hk1 hS => ?_)
  obtain ⟨a_24, b_25, hP1, hK1, hD1⟩ := hB
  rw [ht] at hP1
  have hK1 := va_K.moved hvm.symm hK1
  obtain ⟨hP, hD⟩ := va_join (wr := [(q, .inr (1, [.int 0, .int 0, .int 0, .ref q_1, .null])), (q_1, .inl (k_2, 16, .inr (.inr (.inr (.inr (f_20))))))]) (w1 := [(q_22, .inr (5, [.int 0, .int 0, .int 0, .int 0, .int 0, .ref a_24, .ref b_25]))]) hP hD [2] [0, 1] rfl rfl (by decide) (by decide) hk1 hFc hP1 hD1
  have hK := (hK.sub (tys' := [(k_2, (.object RX5))]) [0] rfl).app hK1
  generalize H1 = H at hP hS ⊢
  have hP : va_P (dC, dI) vwCl [(q, .inr (1, [.int 0, .int 0, .int 0, .ref q_1, .null])), (q_1, .inl (k_2, 16, .inr (.inr (.inr (.inr (f_20)))))), (q_22, .inr (5, [.int 0, .int 0, .int 0, .int 0, .int 0, .ref a_24, .ref b_25]))] H := hP
  have hD : va_D A [(q, .inr (1, [.int 0, .int 0, .int 0, .ref q_1, .null])), (q_1, .inl (k_2, 16, .inr (.inr (.inr (.inr (f_20)))))), (q_22, .inr (5, [.int 0, .int 0, .int 0, .int 0, .int 0, .ref a_24, .ref b_25]))] := hD
  have hK : va_K (dC, dI) vwCl [(k_2, (.object RX5))] s := hK
  refine W.widen (k := 13) (n := 116) (Nat.le_of_ble_eq_true rfl) (Nat.le_of_ble_eq_true rfl) ?_
  refine va_astq hx hb hK hP hD hS 1 0 2 5 (r := (RX5, TX5, 7)) rfl rfl rfl rfl (by unfold vp_in; decide +kernel) dX1_init_33 (fun H locs hP hD hS => ?_)
  obtain ⟨f_26, hP, hD⟩ : ∃ f_26 : Nat → Option Nat, va_P (dC, dI) vwCl [(q, .inr (1, [.int 0, .int 0, .int 0, .ref q_1, .null])), (q_1, .inl (k_2, 16, .inr (.inr (.inr (.inr (f_26)))))), (q_22, .inr (5, [.int 0, .int 0, .int 0, .int 0, .int 0, .ref a_24, .ref b_25]))] H ∧ va_D A [(q, .inr (1, [.int 0, .int 0, .int 0, .ref q_1, .null])), (q_1, .inl (k_2, 16, .inr (.inr (.inr (.inr (f_26)))))), (q_22, .inr (5, [.int 0, .int 0, .int 0, .int 0, .int 0, .ref a_24, .ref b_25]))] := ⟨_, hP, hD⟩
  have hP := hP.sub (ws' := [(q, .inr (1, [.int 0, .int 0, .int 0, .ref q_1, .null])), (q_1, .inl (k_2, 16, .inr (.inr (.inr (.inr (f_26))))))]) [0, 1] rfl
  have hD := hD.sub (ws' := [(q, .inr (1, [.int 0, .int 0, .int 0, .ref q_1, .null])), (q_1, .inl (k_2, 16, .inr (.inr (.inr (.inr (f_26))))))]) [0, 1] (by decide) rfl
  have hK := hK.sub (tys' := [(k_2, (.object RX5))]) [0] rfl
  refine lv_iinc (v := 4) (lv' := [(1, .int 4), (0, .ref q)]) hx hb dX1_init_34 hl (k := 0) rfl (by decide +kernel) (by decide) rfl (fun ls hl => ?_)
  refine lv_goto (tgt := 15) hx hb dX1_init_37 (by decide) ?_
  refine lv_iload_n hx hb dX1_init_15 rfl (lv_at hl 0 rfl) ?_
  refine lv_bipush (v := 16) hx hb dX1_init_16 (by decide) ?_
  refine lv_icmp_ge (tgt := 40) hx hb dX1_init_18 (by decide) (fun c_27 => absurd c_27 (by decide +kernel)) (fun _ => ?_)
  refine lv_aload_n hx hb dX1_init_21 rfl (lv_at hl 1 rfl) ?_
  refine va_get (D := (dC, dI)) (ci := 1) (v := .ref q_1) (C := RX1) (T := TX1) (N := 5) hx hb hts (by decide +kernel) hown hK hP 0 rfl rfl 3 (by decide) (hts (.fieldLink RX1 11 "WaxTurns$History" "kept" "[LWaxTurns$Scene;") (by decide +kernel)) (fun _ h9 => h9) rfl dX1_init_22 ?_
  refine lv_iload_n hx hb dX1_init_25 rfl (lv_at hl 0 rfl) ?_
  refine va_new (ci := 5) (fs := [.int 0, .int 0, .int 0, .int 0, .int 0, .null, .null]) (C := RX5) (T := TX5) (N := 7) hx hb hts (by decide +kernel) tyX5 tyX5_ok hown (hts (.classLink RX1 9 RX5) (by decide +kernel)) (hts (.instantiable RX5 7) (by decide +kernel)) (hts (.initialized RX5) (by decide +kernel)) hK hP hD hS hA rfl (dfX5) (Nat.le_of_ble_eq_true rfl) (Nat.le_of_ble_eq_true rfl) dX1_init_26 (fun q_28 H hP hD hS => ?_)
  have hP : va_P (dC, dI) vwCl [(q, .inr (1, [.int 0, .int 0, .int 0, .ref q_1, .null])), (q_1, .inl (k_2, 16, .inr (.inr (.inr (.inr (f_26)))))), (q_28, .inr (5, [.int 0, .int 0, .int 0, .int 0, .int 0, .null, .null]))] H := hP
  have hD : va_D A [(q, .inr (1, [.int 0, .int 0, .int 0, .ref q_1, .null])), (q_1, .inl (k_2, 16, .inr (.inr (.inr (.inr (f_26)))))), (q_28, .inr (5, [.int 0, .int 0, .int 0, .int 0, .int 0, .null, .null]))] := hD
  refine W.widen (k := 14) (n := 123) (Nat.le_of_ble_eq_true rfl) (Nat.le_of_ble_eq_true rfl) ?_
  refine lv_dup hx hb dX1_init_29 rfl ?_
  have hPc := hP.sub (ws' := [(q_28, .inr (5, [.int 0, .int 0, .int 0, .int 0, .int 0, .null, .null]))]) [2] rfl
  have hDc := hD.sub (ws' := [(q_28, .inr (5, [.int 0, .int 0, .int 0, .int 0, .int 0, .null, .null]))]) [2] (by decide) rfl
  have hKc := hK.sub (tys' := []) [] rfl
  have hFc := va_free (wc := [(q_28, .inr (5, [.int 0, .int 0, .int 0, .int 0, .int 0, .null, .null]))]) hD hS hA [2] rfl
  refine va_callv (va_runI (As := []) (rest := [.ref q_28, .int 4, .ref q_1]) ⟨hx, hb, hml, hown, hts⟩ (c_X5_init l dC dI H.size q_28 ) (cwI 0 hts gX1_init_X5_init rfl rfl rfl (hts (.initialized RX5) (by decide +kernel)) (hts (.methodLink RX1 17 yX5_init) (by decide +kernel)) (hts (.instanceMethod yX5_init) (by decide +kernel)) rfl (by decide +kernel) ⟨Nat.le_of_ble_eq_true rfl, Nat.le_of_ble_eq_true rfl⟩) ⟨ax_blind (fun _ _ _ _ _ => trivial), ax_pre hPc hKc hDc (fun _ _ => trivial)⟩ rfl rfl hl.1 rfl (lv_room (Nat.le_of_ble_eq_true rfl)) dX1_init_30 ⟨Nat.le_of_ble_eq_true rfl, Nat.le_of_ble_eq_true rfl⟩) hS (fun q _ h => hFc q h) hFc (fun u t H1 locs ht hvm hw hB hz1 hk1 hS => ?_)
  obtain ⟨a_30, b_31, hP1, hK1, hD1⟩ := hB
  rw [ht] at hP1
  have hK1 := va_K.moved hvm.symm hK1
  obtain ⟨hP, hD⟩ := va_join (wr := [(q, .inr (1, [.int 0, .int 0, .int 0, .ref q_1, .null])), (q_1, .inl (k_2, 16, .inr (.inr (.inr (.inr (f_26))))))]) (w1 := [(q_28, .inr (5, [.int 0, .int 0, .int 0, .int 0, .int 0, .ref a_30, .ref b_31]))]) hP hD [2] [0, 1] rfl rfl (by decide) (by decide) hk1 hFc hP1 hD1
  have hK := (hK.sub (tys' := [(k_2, (.object RX5))]) [0] rfl).app hK1
  generalize H1 = H at hP hS ⊢
  have hP : va_P (dC, dI) vwCl [(q, .inr (1, [.int 0, .int 0, .int 0, .ref q_1, .null])), (q_1, .inl (k_2, 16, .inr (.inr (.inr (.inr (f_26)))))), (q_28, .inr (5, [.int 0, .int 0, .int 0, .int 0, .int 0, .ref a_30, .ref b_31]))] H := hP
  have hD : va_D A [(q, .inr (1, [.int 0, .int 0, .int 0, .ref q_1, .null])), (q_1, .inl (k_2, 16, .inr (.inr (.inr (.inr (f_26)))))), (q_28, .inr (5, [.int 0, .int 0, .int 0, .int 0, .int 0, .ref a_30, .ref b_31]))] := hD
  have hK : va_K (dC, dI) vwCl [(k_2, (.object RX5))] s := hK
  refine W.widen (k := 16) (n := 141) (Nat.le_of_ble_eq_true rfl) (Nat.le_of_ble_eq_true rfl) ?_
  refine va_astq hx hb hK hP hD hS 1 0 2 5 (r := (RX5, TX5, 7)) rfl rfl rfl rfl (by unfold vp_in; decide +kernel) dX1_init_33 (fun H locs hP hD hS => ?_)
  obtain ⟨f_32, hP, hD⟩ : ∃ f_32 : Nat → Option Nat, va_P (dC, dI) vwCl [(q, .inr (1, [.int 0, .int 0, .int 0, .ref q_1, .null])), (q_1, .inl (k_2, 16, .inr (.inr (.inr (.inr (f_32)))))), (q_28, .inr (5, [.int 0, .int 0, .int 0, .int 0, .int 0, .ref a_30, .ref b_31]))] H ∧ va_D A [(q, .inr (1, [.int 0, .int 0, .int 0, .ref q_1, .null])), (q_1, .inl (k_2, 16, .inr (.inr (.inr (.inr (f_32)))))), (q_28, .inr (5, [.int 0, .int 0, .int 0, .int 0, .int 0, .ref a_30, .ref b_31]))] := ⟨_, hP, hD⟩
  have hP := hP.sub (ws' := [(q, .inr (1, [.int 0, .int 0, .int 0, .ref q_1, .null])), (q_1, .inl (k_2, 16, .inr (.inr (.inr (.inr (f_32))))))]) [0, 1] rfl
  have hD := hD.sub (ws' := [(q, .inr (1, [.int 0, .int 0, .int 0, .ref q_1, .null])), (q_1, .inl (k_2, 16, .inr (.inr (.inr (.inr (f_32))))))]) [0, 1] (by decide) rfl
  have hK := hK.sub (tys' := [(k_2, (.object RX5))]) [0] rfl
  refine lv_iinc (v := 5) (lv' := [(1, .int 5), (0, .ref q)]) hx hb dX1_init_34 hl (k := 0) rfl (by decide +kernel) (by decide) rfl (fun ls hl => ?_)
  refine lv_goto (tgt := 15) hx hb dX1_init_37 (by decide) ?_
  refine lv_iload_n hx hb dX1_init_15 rfl (lv_at hl 0 rfl) ?_
  refine lv_bipush (v := 16) hx hb dX1_init_16 (by decide) ?_
  refine lv_icmp_ge (tgt := 40) hx hb dX1_init_18 (by decide) (fun c_33 => absurd c_33 (by decide +kernel)) (fun _ => ?_)
  refine lv_aload_n hx hb dX1_init_21 rfl (lv_at hl 1 rfl) ?_
  refine va_get (D := (dC, dI)) (ci := 1) (v := .ref q_1) (C := RX1) (T := TX1) (N := 5) hx hb hts (by decide +kernel) hown hK hP 0 rfl rfl 3 (by decide) (hts (.fieldLink RX1 11 "WaxTurns$History" "kept" "[LWaxTurns$Scene;") (by decide +kernel)) (fun _ h9 => h9) rfl dX1_init_22 ?_
  refine lv_iload_n hx hb dX1_init_25 rfl (lv_at hl 0 rfl) ?_
  refine va_new (ci := 5) (fs := [.int 0, .int 0, .int 0, .int 0, .int 0, .null, .null]) (C := RX5) (T := TX5) (N := 7) hx hb hts (by decide +kernel) tyX5 tyX5_ok hown (hts (.classLink RX1 9 RX5) (by decide +kernel)) (hts (.instantiable RX5 7) (by decide +kernel)) (hts (.initialized RX5) (by decide +kernel)) hK hP hD hS hA rfl (dfX5) (Nat.le_of_ble_eq_true rfl) (Nat.le_of_ble_eq_true rfl) dX1_init_26 (fun q_34 H hP hD hS => ?_)
  have hP : va_P (dC, dI) vwCl [(q, .inr (1, [.int 0, .int 0, .int 0, .ref q_1, .null])), (q_1, .inl (k_2, 16, .inr (.inr (.inr (.inr (f_32)))))), (q_34, .inr (5, [.int 0, .int 0, .int 0, .int 0, .int 0, .null, .null]))] H := hP
  have hD : va_D A [(q, .inr (1, [.int 0, .int 0, .int 0, .ref q_1, .null])), (q_1, .inl (k_2, 16, .inr (.inr (.inr (.inr (f_32)))))), (q_34, .inr (5, [.int 0, .int 0, .int 0, .int 0, .int 0, .null, .null]))] := hD
  refine W.widen (k := 17) (n := 148) (Nat.le_of_ble_eq_true rfl) (Nat.le_of_ble_eq_true rfl) ?_
  refine lv_dup hx hb dX1_init_29 rfl ?_
  have hPc := hP.sub (ws' := [(q_34, .inr (5, [.int 0, .int 0, .int 0, .int 0, .int 0, .null, .null]))]) [2] rfl
  have hDc := hD.sub (ws' := [(q_34, .inr (5, [.int 0, .int 0, .int 0, .int 0, .int 0, .null, .null]))]) [2] (by decide) rfl
  have hKc := hK.sub (tys' := []) [] rfl
  have hFc := va_free (wc := [(q_34, .inr (5, [.int 0, .int 0, .int 0, .int 0, .int 0, .null, .null]))]) hD hS hA [2] rfl
  refine va_callv (va_runI (As := []) (rest := [.ref q_34, .int 5, .ref q_1]) ⟨hx, hb, hml, hown, hts⟩ (c_X5_init l dC dI H.size q_34 ) (cwI 0 hts gX1_init_X5_init rfl rfl rfl (hts (.initialized RX5) (by decide +kernel)) (hts (.methodLink RX1 17 yX5_init) (by decide +kernel)) (hts (.instanceMethod yX5_init) (by decide +kernel)) rfl (by decide +kernel) ⟨Nat.le_of_ble_eq_true rfl, Nat.le_of_ble_eq_true rfl⟩) ⟨ax_blind (fun _ _ _ _ _ => trivial), ax_pre hPc hKc hDc (fun _ _ => trivial)⟩ rfl rfl hl.1 rfl (lv_room (Nat.le_of_ble_eq_true rfl)) dX1_init_30 ⟨Nat.le_of_ble_eq_true rfl, Nat.le_of_ble_eq_true rfl⟩) hS (fun q _ h => hFc q h) hFc (fun u t H1 locs ht hvm hw hB hz1 hk1 hS => ?_)
  obtain ⟨a_36, b_37, hP1, hK1, hD1⟩ := hB
  rw [ht] at hP1
  have hK1 := va_K.moved hvm.symm hK1
  obtain ⟨hP, hD⟩ := va_join (wr := [(q, .inr (1, [.int 0, .int 0, .int 0, .ref q_1, .null])), (q_1, .inl (k_2, 16, .inr (.inr (.inr (.inr (f_32))))))]) (w1 := [(q_34, .inr (5, [.int 0, .int 0, .int 0, .int 0, .int 0, .ref a_36, .ref b_37]))]) hP hD [2] [0, 1] rfl rfl (by decide) (by decide) hk1 hFc hP1 hD1
  have hK := (hK.sub (tys' := [(k_2, (.object RX5))]) [0] rfl).app hK1
  generalize H1 = H at hP hS ⊢
  have hP : va_P (dC, dI) vwCl [(q, .inr (1, [.int 0, .int 0, .int 0, .ref q_1, .null])), (q_1, .inl (k_2, 16, .inr (.inr (.inr (.inr (f_32)))))), (q_34, .inr (5, [.int 0, .int 0, .int 0, .int 0, .int 0, .ref a_36, .ref b_37]))] H := hP
  have hD : va_D A [(q, .inr (1, [.int 0, .int 0, .int 0, .ref q_1, .null])), (q_1, .inl (k_2, 16, .inr (.inr (.inr (.inr (f_32)))))), (q_34, .inr (5, [.int 0, .int 0, .int 0, .int 0, .int 0, .ref a_36, .ref b_37]))] := hD
  have hK : va_K (dC, dI) vwCl [(k_2, (.object RX5))] s := hK
  refine W.widen (k := 19) (n := 166) (Nat.le_of_ble_eq_true rfl) (Nat.le_of_ble_eq_true rfl) ?_
  refine va_astq hx hb hK hP hD hS 1 0 2 5 (r := (RX5, TX5, 7)) rfl rfl rfl rfl (by unfold vp_in; decide +kernel) dX1_init_33 (fun H locs hP hD hS => ?_)
  obtain ⟨f_38, hP, hD⟩ : ∃ f_38 : Nat → Option Nat, va_P (dC, dI) vwCl [(q, .inr (1, [.int 0, .int 0, .int 0, .ref q_1, .null])), (q_1, .inl (k_2, 16, .inr (.inr (.inr (.inr (f_38)))))), (q_34, .inr (5, [.int 0, .int 0, .int 0, .int 0, .int 0, .ref a_36, .ref b_37]))] H ∧ va_D A [(q, .inr (1, [.int 0, .int 0, .int 0, .ref q_1, .null])), (q_1, .inl (k_2, 16, .inr (.inr (.inr (.inr (f_38)))))), (q_34, .inr (5, [.int 0, .int 0, .int 0, .int 0, .int 0, .ref a_36, .ref b_37]))] := ⟨_, hP, hD⟩
  have hP := hP.sub (ws' := [(q, .inr (1, [.int 0, .int 0, .int 0, .ref q_1, .null])), (q_1, .inl (k_2, 16, .inr (.inr (.inr (.inr (f_38))))))]) [0, 1] rfl
  have hD := hD.sub (ws' := [(q, .inr (1, [.int 0, .int 0, .int 0, .ref q_1, .null])), (q_1, .inl (k_2, 16, .inr (.inr (.inr (.inr (f_38))))))]) [0, 1] (by decide) rfl
  have hK := hK.sub (tys' := [(k_2, (.object RX5))]) [0] rfl
  refine lv_iinc (v := 6) (lv' := [(1, .int 6), (0, .ref q)]) hx hb dX1_init_34 hl (k := 0) rfl (by decide +kernel) (by decide) rfl (fun ls hl => ?_)
  refine lv_goto (tgt := 15) hx hb dX1_init_37 (by decide) ?_
  refine lv_iload_n hx hb dX1_init_15 rfl (lv_at hl 0 rfl) ?_
  refine lv_bipush (v := 16) hx hb dX1_init_16 (by decide) ?_
  refine lv_icmp_ge (tgt := 40) hx hb dX1_init_18 (by decide) (fun c_39 => absurd c_39 (by decide +kernel)) (fun _ => ?_)
  refine lv_aload_n hx hb dX1_init_21 rfl (lv_at hl 1 rfl) ?_
  refine va_get (D := (dC, dI)) (ci := 1) (v := .ref q_1) (C := RX1) (T := TX1) (N := 5) hx hb hts (by decide +kernel) hown hK hP 0 rfl rfl 3 (by decide) (hts (.fieldLink RX1 11 "WaxTurns$History" "kept" "[LWaxTurns$Scene;") (by decide +kernel)) (fun _ h9 => h9) rfl dX1_init_22 ?_
  refine lv_iload_n hx hb dX1_init_25 rfl (lv_at hl 0 rfl) ?_
  refine va_new (ci := 5) (fs := [.int 0, .int 0, .int 0, .int 0, .int 0, .null, .null]) (C := RX5) (T := TX5) (N := 7) hx hb hts (by decide +kernel) tyX5 tyX5_ok hown (hts (.classLink RX1 9 RX5) (by decide +kernel)) (hts (.instantiable RX5 7) (by decide +kernel)) (hts (.initialized RX5) (by decide +kernel)) hK hP hD hS hA rfl (dfX5) (Nat.le_of_ble_eq_true rfl) (Nat.le_of_ble_eq_true rfl) dX1_init_26 (fun q_40 H hP hD hS => ?_)
  have hP : va_P (dC, dI) vwCl [(q, .inr (1, [.int 0, .int 0, .int 0, .ref q_1, .null])), (q_1, .inl (k_2, 16, .inr (.inr (.inr (.inr (f_38)))))), (q_40, .inr (5, [.int 0, .int 0, .int 0, .int 0, .int 0, .null, .null]))] H := hP
  have hD : va_D A [(q, .inr (1, [.int 0, .int 0, .int 0, .ref q_1, .null])), (q_1, .inl (k_2, 16, .inr (.inr (.inr (.inr (f_38)))))), (q_40, .inr (5, [.int 0, .int 0, .int 0, .int 0, .int 0, .null, .null]))] := hD
  refine W.widen (k := 20) (n := 173) (Nat.le_of_ble_eq_true rfl) (Nat.le_of_ble_eq_true rfl) ?_
  refine lv_dup hx hb dX1_init_29 rfl ?_
  have hPc := hP.sub (ws' := [(q_40, .inr (5, [.int 0, .int 0, .int 0, .int 0, .int 0, .null, .null]))]) [2] rfl
  have hDc := hD.sub (ws' := [(q_40, .inr (5, [.int 0, .int 0, .int 0, .int 0, .int 0, .null, .null]))]) [2] (by decide) rfl
  have hKc := hK.sub (tys' := []) [] rfl
  have hFc := va_free (wc := [(q_40, .inr (5, [.int 0, .int 0, .int 0, .int 0, .int 0, .null, .null]))]) hD hS hA [2] rfl
  refine va_callv (va_runI (As := []) (rest := [.ref q_40, .int 6, .ref q_1]) ⟨hx, hb, hml, hown, hts⟩ (c_X5_init l dC dI H.size q_40 ) (cwI 0 hts gX1_init_X5_init rfl rfl rfl (hts (.initialized RX5) (by decide +kernel)) (hts (.methodLink RX1 17 yX5_init) (by decide +kernel)) (hts (.instanceMethod yX5_init) (by decide +kernel)) rfl (by decide +kernel) ⟨Nat.le_of_ble_eq_true rfl, Nat.le_of_ble_eq_true rfl⟩) ⟨ax_blind (fun _ _ _ _ _ => trivial), ax_pre hPc hKc hDc (fun _ _ => trivial)⟩ rfl rfl hl.1 rfl (lv_room (Nat.le_of_ble_eq_true rfl)) dX1_init_30 ⟨Nat.le_of_ble_eq_true rfl, Nat.le_of_ble_eq_true rfl⟩) hS (fun q _ h => hFc q h) hFc (fun u t H1 locs ht hvm hw hB hz1 hk1 hS => ?_)
  obtain ⟨a_42, b_43, hP1, hK1, hD1⟩ := hB
  rw [ht] at hP1
  have hK1 := va_K.moved hvm.symm hK1
  obtain ⟨hP, hD⟩ := va_join (wr := [(q, .inr (1, [.int 0, .int 0, .int 0, .ref q_1, .null])), (q_1, .inl (k_2, 16, .inr (.inr (.inr (.inr (f_38))))))]) (w1 := [(q_40, .inr (5, [.int 0, .int 0, .int 0, .int 0, .int 0, .ref a_42, .ref b_43]))]) hP hD [2] [0, 1] rfl rfl (by decide) (by decide) hk1 hFc hP1 hD1
  have hK := (hK.sub (tys' := [(k_2, (.object RX5))]) [0] rfl).app hK1
  generalize H1 = H at hP hS ⊢
  have hP : va_P (dC, dI) vwCl [(q, .inr (1, [.int 0, .int 0, .int 0, .ref q_1, .null])), (q_1, .inl (k_2, 16, .inr (.inr (.inr (.inr (f_38)))))), (q_40, .inr (5, [.int 0, .int 0, .int 0, .int 0, .int 0, .ref a_42, .ref b_43]))] H := hP
  have hD : va_D A [(q, .inr (1, [.int 0, .int 0, .int 0, .ref q_1, .null])), (q_1, .inl (k_2, 16, .inr (.inr (.inr (.inr (f_38)))))), (q_40, .inr (5, [.int 0, .int 0, .int 0, .int 0, .int 0, .ref a_42, .ref b_43]))] := hD
  have hK : va_K (dC, dI) vwCl [(k_2, (.object RX5))] s := hK
  refine W.widen (k := 22) (n := 191) (Nat.le_of_ble_eq_true rfl) (Nat.le_of_ble_eq_true rfl) ?_
  refine va_astq hx hb hK hP hD hS 1 0 2 5 (r := (RX5, TX5, 7)) rfl rfl rfl rfl (by unfold vp_in; decide +kernel) dX1_init_33 (fun H locs hP hD hS => ?_)
  obtain ⟨f_44, hP, hD⟩ : ∃ f_44 : Nat → Option Nat, va_P (dC, dI) vwCl [(q, .inr (1, [.int 0, .int 0, .int 0, .ref q_1, .null])), (q_1, .inl (k_2, 16, .inr (.inr (.inr (.inr (f_44)))))), (q_40, .inr (5, [.int 0, .int 0, .int 0, .int 0, .int 0, .ref a_42, .ref b_43]))] H ∧ va_D A [(q, .inr (1, [.int 0, .int 0, .int 0, .ref q_1, .null])), (q_1, .inl (k_2, 16, .inr (.inr (.inr (.inr (f_44)))))), (q_40, .inr (5, [.int 0, .int 0, .int 0, .int 0, .int 0, .ref a_42, .ref b_43]))] := ⟨_, hP, hD⟩
  have hP := hP.sub (ws' := [(q, .inr (1, [.int 0, .int 0, .int 0, .ref q_1, .null])), (q_1, .inl (k_2, 16, .inr (.inr (.inr (.inr (f_44))))))]) [0, 1] rfl
  have hD := hD.sub (ws' := [(q, .inr (1, [.int 0, .int 0, .int 0, .ref q_1, .null])), (q_1, .inl (k_2, 16, .inr (.inr (.inr (.inr (f_44))))))]) [0, 1] (by decide) rfl
  have hK := hK.sub (tys' := [(k_2, (.object RX5))]) [0] rfl
  refine lv_iinc (v := 7) (lv' := [(1, .int 7), (0, .ref q)]) hx hb dX1_init_34 hl (k := 0) rfl (by decide +kernel) (by decide) rfl (fun ls hl => ?_)
  refine lv_goto (tgt := 15) hx hb dX1_init_37 (by decide) ?_
  refine lv_iload_n hx hb dX1_init_15 rfl (lv_at hl 0 rfl) ?_
  refine lv_bipush (v := 16) hx hb dX1_init_16 (by decide) ?_
  refine lv_icmp_ge (tgt := 40) hx hb dX1_init_18 (by decide) (fun c_45 => absurd c_45 (by decide +kernel)) (fun _ => ?_)
  refine lv_aload_n hx hb dX1_init_21 rfl (lv_at hl 1 rfl) ?_
  refine va_get (D := (dC, dI)) (ci := 1) (v := .ref q_1) (C := RX1) (T := TX1) (N := 5) hx hb hts (by decide +kernel) hown hK hP 0 rfl rfl 3 (by decide) (hts (.fieldLink RX1 11 "WaxTurns$History" "kept" "[LWaxTurns$Scene;") (by decide +kernel)) (fun _ h9 => h9) rfl dX1_init_22 ?_
  refine lv_iload_n hx hb dX1_init_25 rfl (lv_at hl 0 rfl) ?_
  refine va_new (ci := 5) (fs := [.int 0, .int 0, .int 0, .int 0, .int 0, .null, .null]) (C := RX5) (T := TX5) (N := 7) hx hb hts (by decide +kernel) tyX5 tyX5_ok hown (hts (.classLink RX1 9 RX5) (by decide +kernel)) (hts (.instantiable RX5 7) (by decide +kernel)) (hts (.initialized RX5) (by decide +kernel)) hK hP hD hS hA rfl (dfX5) (Nat.le_of_ble_eq_true rfl) (Nat.le_of_ble_eq_true rfl) dX1_init_26 (fun q_46 H hP hD hS => ?_)
  have hP : va_P (dC, dI) vwCl [(q, .inr (1, [.int 0, .int 0, .int 0, .ref q_1, .null])), (q_1, .inl (k_2, 16, .inr (.inr (.inr (.inr (f_44)))))), (q_46, .inr (5, [.int 0, .int 0, .int 0, .int 0, .int 0, .null, .null]))] H := hP
  have hD : va_D A [(q, .inr (1, [.int 0, .int 0, .int 0, .ref q_1, .null])), (q_1, .inl (k_2, 16, .inr (.inr (.inr (.inr (f_44)))))), (q_46, .inr (5, [.int 0, .int 0, .int 0, .int 0, .int 0, .null, .null]))] := hD
  refine W.widen (k := 23) (n := 198) (Nat.le_of_ble_eq_true rfl) (Nat.le_of_ble_eq_true rfl) ?_
  refine lv_dup hx hb dX1_init_29 rfl ?_
  have hPc := hP.sub (ws' := [(q_46, .inr (5, [.int 0, .int 0, .int 0, .int 0, .int 0, .null, .null]))]) [2] rfl
  have hDc := hD.sub (ws' := [(q_46, .inr (5, [.int 0, .int 0, .int 0, .int 0, .int 0, .null, .null]))]) [2] (by decide) rfl
  have hKc := hK.sub (tys' := []) [] rfl
  have hFc := va_free (wc := [(q_46, .inr (5, [.int 0, .int 0, .int 0, .int 0, .int 0, .null, .null]))]) hD hS hA [2] rfl
  refine va_callv (va_runI (As := []) (rest := [.ref q_46, .int 7, .ref q_1]) ⟨hx, hb, hml, hown, hts⟩ (c_X5_init l dC dI H.size q_46 ) (cwI 0 hts gX1_init_X5_init rfl rfl rfl (hts (.initialized RX5) (by decide +kernel)) (hts (.methodLink RX1 17 yX5_init) (by decide +kernel)) (hts (.instanceMethod yX5_init) (by decide +kernel)) rfl (by decide +kernel) ⟨Nat.le_of_ble_eq_true rfl, Nat.le_of_ble_eq_true rfl⟩) ⟨ax_blind (fun _ _ _ _ _ => trivial), ax_pre hPc hKc hDc (fun _ _ => trivial)⟩ rfl rfl hl.1 rfl (lv_room (Nat.le_of_ble_eq_true rfl)) dX1_init_30 ⟨Nat.le_of_ble_eq_true rfl, Nat.le_of_ble_eq_true rfl⟩) hS (fun q _ h => hFc q h) hFc (fun u t H1 locs ht hvm hw hB hz1 hk1 hS => ?_)
  obtain ⟨a_48, b_49, hP1, hK1, hD1⟩ := hB
  rw [ht] at hP1
  have hK1 := va_K.moved hvm.symm hK1
  obtain ⟨hP, hD⟩ := va_join (wr := [(q, .inr (1, [.int 0, .int 0, .int 0, .ref q_1, .null])), (q_1, .inl (k_2, 16, .inr (.inr (.inr (.inr (f_44))))))]) (w1 := [(q_46, .inr (5, [.int 0, .int 0, .int 0, .int 0, .int 0, .ref a_48, .ref b_49]))]) hP hD [2] [0, 1] rfl rfl (by decide) (by decide) hk1 hFc hP1 hD1
  have hK := (hK.sub (tys' := [(k_2, (.object RX5))]) [0] rfl).app hK1
  generalize H1 = H at hP hS ⊢
  have hP : va_P (dC, dI) vwCl [(q, .inr (1, [.int 0, .int 0, .int 0, .ref q_1, .null])), (q_1, .inl (k_2, 16, .inr (.inr (.inr (.inr (f_44)))))), (q_46, .inr (5, [.int 0, .int 0, .int 0, .int 0, .int 0, .ref a_48, .ref b_49]))] H := hP
  have hD : va_D A [(q, .inr (1, [.int 0, .int 0, .int 0, .ref q_1, .null])), (q_1, .inl (k_2, 16, .inr (.inr (.inr (.inr (f_44)))))), (q_46, .inr (5, [.int 0, .int 0, .int 0, .int 0, .int 0, .ref a_48, .ref b_49]))] := hD
  have hK : va_K (dC, dI) vwCl [(k_2, (.object RX5))] s := hK
  refine W.widen (k := 25) (n := 216) (Nat.le_of_ble_eq_true rfl) (Nat.le_of_ble_eq_true rfl) ?_
  refine va_astq hx hb hK hP hD hS 1 0 2 5 (r := (RX5, TX5, 7)) rfl rfl rfl rfl (by unfold vp_in; decide +kernel) dX1_init_33 (fun H locs hP hD hS => ?_)
  obtain ⟨f_50, hP, hD⟩ : ∃ f_50 : Nat → Option Nat, va_P (dC, dI) vwCl [(q, .inr (1, [.int 0, .int 0, .int 0, .ref q_1, .null])), (q_1, .inl (k_2, 16, .inr (.inr (.inr (.inr (f_50)))))), (q_46, .inr (5, [.int 0, .int 0, .int 0, .int 0, .int 0, .ref a_48, .ref b_49]))] H ∧ va_D A [(q, .inr (1, [.int 0, .int 0, .int 0, .ref q_1, .null])), (q_1, .inl (k_2, 16, .inr (.inr (.inr (.inr (f_50)))))), (q_46, .inr (5, [.int 0, .int 0, .int 0, .int 0, .int 0, .ref a_48, .ref b_49]))] := ⟨_, hP, hD⟩
  have hP := hP.sub (ws' := [(q, .inr (1, [.int 0, .int 0, .int 0, .ref q_1, .null])), (q_1, .inl (k_2, 16, .inr (.inr (.inr (.inr (f_50))))))]) [0, 1] rfl
  have hD := hD.sub (ws' := [(q, .inr (1, [.int 0, .int 0, .int 0, .ref q_1, .null])), (q_1, .inl (k_2, 16, .inr (.inr (.inr (.inr (f_50))))))]) [0, 1] (by decide) rfl
  have hK := hK.sub (tys' := [(k_2, (.object RX5))]) [0] rfl
  refine lv_iinc (v := 8) (lv' := [(1, .int 8), (0, .ref q)]) hx hb dX1_init_34 hl (k := 0) rfl (by decide +kernel) (by decide) rfl (fun ls hl => ?_)
  refine lv_goto (tgt := 15) hx hb dX1_init_37 (by decide) ?_
  refine lv_iload_n hx hb dX1_init_15 rfl (lv_at hl 0 rfl) ?_
  refine lv_bipush (v := 16) hx hb dX1_init_16 (by decide) ?_
  refine lv_icmp_ge (tgt := 40) hx hb dX1_init_18 (by decide) (fun c_51 => absurd c_51 (by decide +kernel)) (fun _ => ?_)
  refine lv_aload_n hx hb dX1_init_21 rfl (lv_at hl 1 rfl) ?_
  refine va_get (D := (dC, dI)) (ci := 1) (v := .ref q_1) (C := RX1) (T := TX1) (N := 5) hx hb hts (by decide +kernel) hown hK hP 0 rfl rfl 3 (by decide) (hts (.fieldLink RX1 11 "WaxTurns$History" "kept" "[LWaxTurns$Scene;") (by decide +kernel)) (fun _ h9 => h9) rfl dX1_init_22 ?_
  refine lv_iload_n hx hb dX1_init_25 rfl (lv_at hl 0 rfl) ?_
  refine va_new (ci := 5) (fs := [.int 0, .int 0, .int 0, .int 0, .int 0, .null, .null]) (C := RX5) (T := TX5) (N := 7) hx hb hts (by decide +kernel) tyX5 tyX5_ok hown (hts (.classLink RX1 9 RX5) (by decide +kernel)) (hts (.instantiable RX5 7) (by decide +kernel)) (hts (.initialized RX5) (by decide +kernel)) hK hP hD hS hA rfl (dfX5) (Nat.le_of_ble_eq_true rfl) (Nat.le_of_ble_eq_true rfl) dX1_init_26 (fun q_52 H hP hD hS => ?_)
  have hP : va_P (dC, dI) vwCl [(q, .inr (1, [.int 0, .int 0, .int 0, .ref q_1, .null])), (q_1, .inl (k_2, 16, .inr (.inr (.inr (.inr (f_50)))))), (q_52, .inr (5, [.int 0, .int 0, .int 0, .int 0, .int 0, .null, .null]))] H := hP
  have hD : va_D A [(q, .inr (1, [.int 0, .int 0, .int 0, .ref q_1, .null])), (q_1, .inl (k_2, 16, .inr (.inr (.inr (.inr (f_50)))))), (q_52, .inr (5, [.int 0, .int 0, .int 0, .int 0, .int 0, .null, .null]))] := hD
  refine W.widen (k := 26) (n := 223) (Nat.le_of_ble_eq_true rfl) (Nat.le_of_ble_eq_true rfl) ?_
  refine lv_dup hx hb dX1_init_29 rfl ?_
  have hPc := hP.sub (ws' := [(q_52, .inr (5, [.int 0, .int 0, .int 0, .int 0, .int 0, .null, .null]))]) [2] rfl
  have hDc := hD.sub (ws' := [(q_52, .inr (5, [.int 0, .int 0, .int 0, .int 0, .int 0, .null, .null]))]) [2] (by decide) rfl
  have hKc := hK.sub (tys' := []) [] rfl
  have hFc := va_free (wc := [(q_52, .inr (5, [.int 0, .int 0, .int 0, .int 0, .int 0, .null, .null]))]) hD hS hA [2] rfl
  refine va_callv (va_runI (As := []) (rest := [.ref q_52, .int 8, .ref q_1]) ⟨hx, hb, hml, hown, hts⟩ (c_X5_init l dC dI H.size q_52 ) (cwI 0 hts gX1_init_X5_init rfl rfl rfl (hts (.initialized RX5) (by decide +kernel)) (hts (.methodLink RX1 17 yX5_init) (by decide +kernel)) (hts (.instanceMethod yX5_init) (by decide +kernel)) rfl (by decide +kernel) ⟨Nat.le_of_ble_eq_true rfl, Nat.le_of_ble_eq_true rfl⟩) ⟨ax_blind (fun _ _ _ _ _ => trivial), ax_pre hPc hKc hDc (fun _ _ => trivial)⟩ rfl rfl hl.1 rfl (lv_room (Nat.le_of_ble_eq_true rfl)) dX1_init_30 ⟨Nat.le_of_ble_eq_true rfl, Nat.le_of_ble_eq_true rfl⟩) hS (fun q _ h => hFc q h) hFc (fun u t H1 locs ht hvm hw hB hz1 hk1 hS => ?_)
  obtain ⟨a_54, b_55, hP1, hK1, hD1⟩ := hB
  rw [ht] at hP1
  have hK1 := va_K.moved hvm.symm hK1
  obtain ⟨hP, hD⟩ := va_join (wr := [(q, .inr (1, [.int 0, .int 0, .int 0, .ref q_1, .null])), (q_1, .inl (k_2, 16, .inr (.inr (.inr (.inr (f_50))))))]) (w1 := [(q_52, .inr (5, [.int 0, .int 0, .int 0, .int 0, .int 0, .ref a_54, .ref b_55]))]) hP hD [2] [0, 1] rfl rfl (by decide) (by decide) hk1 hFc hP1 hD1
  have hK := (hK.sub (tys' := [(k_2, (.object RX5))]) [0] rfl).app hK1
  generalize H1 = H at hP hS ⊢
  have hP : va_P (dC, dI) vwCl [(q, .inr (1, [.int 0, .int 0, .int 0, .ref q_1, .null])), (q_1, .inl (k_2, 16, .inr (.inr (.inr (.inr (f_50)))))), (q_52, .inr (5, [.int 0, .int 0, .int 0, .int 0, .int 0, .ref a_54, .ref b_55]))] H := hP
  have hD : va_D A [(q, .inr (1, [.int 0, .int 0, .int 0, .ref q_1, .null])), (q_1, .inl (k_2, 16, .inr (.inr (.inr (.inr (f_50)))))), (q_52, .inr (5, [.int 0, .int 0, .int 0, .int 0, .int 0, .ref a_54, .ref b_55]))] := hD
  have hK : va_K (dC, dI) vwCl [(k_2, (.object RX5))] s := hK
  refine W.widen (k := 28) (n := 241) (Nat.le_of_ble_eq_true rfl) (Nat.le_of_ble_eq_true rfl) ?_
  refine va_astq hx hb hK hP hD hS 1 0 2 5 (r := (RX5, TX5, 7)) rfl rfl rfl rfl (by unfold vp_in; decide +kernel) dX1_init_33 (fun H locs hP hD hS => ?_)
  obtain ⟨f_56, hP, hD⟩ : ∃ f_56 : Nat → Option Nat, va_P (dC, dI) vwCl [(q, .inr (1, [.int 0, .int 0, .int 0, .ref q_1, .null])), (q_1, .inl (k_2, 16, .inr (.inr (.inr (.inr (f_56)))))), (q_52, .inr (5, [.int 0, .int 0, .int 0, .int 0, .int 0, .ref a_54, .ref b_55]))] H ∧ va_D A [(q, .inr (1, [.int 0, .int 0, .int 0, .ref q_1, .null])), (q_1, .inl (k_2, 16, .inr (.inr (.inr (.inr (f_56)))))), (q_52, .inr (5, [.int 0, .int 0, .int 0, .int 0, .int 0, .ref a_54, .ref b_55]))] := ⟨_, hP, hD⟩
  have hP := hP.sub (ws' := [(q, .inr (1, [.int 0, .int 0, .int 0, .ref q_1, .null])), (q_1, .inl (k_2, 16, .inr (.inr (.inr (.inr (f_56))))))]) [0, 1] rfl
  have hD := hD.sub (ws' := [(q, .inr (1, [.int 0, .int 0, .int 0, .ref q_1, .null])), (q_1, .inl (k_2, 16, .inr (.inr (.inr (.inr (f_56))))))]) [0, 1] (by decide) rfl
  have hK := hK.sub (tys' := [(k_2, (.object RX5))]) [0] rfl
  refine lv_iinc (v := 9) (lv' := [(1, .int 9), (0, .ref q)]) hx hb dX1_init_34 hl (k := 0) rfl (by decide +kernel) (by decide) rfl (fun ls hl => ?_)
  refine lv_goto (tgt := 15) hx hb dX1_init_37 (by decide) ?_
  refine lv_iload_n hx hb dX1_init_15 rfl (lv_at hl 0 rfl) ?_
  refine lv_bipush (v := 16) hx hb dX1_init_16 (by decide) ?_
  refine lv_icmp_ge (tgt := 40) hx hb dX1_init_18 (by decide) (fun c_57 => absurd c_57 (by decide +kernel)) (fun _ => ?_)
  refine lv_aload_n hx hb dX1_init_21 rfl (lv_at hl 1 rfl) ?_
  refine va_get (D := (dC, dI)) (ci := 1) (v := .ref q_1) (C := RX1) (T := TX1) (N := 5) hx hb hts (by decide +kernel) hown hK hP 0 rfl rfl 3 (by decide) (hts (.fieldLink RX1 11 "WaxTurns$History" "kept" "[LWaxTurns$Scene;") (by decide +kernel)) (fun _ h9 => h9) rfl dX1_init_22 ?_
  refine lv_iload_n hx hb dX1_init_25 rfl (lv_at hl 0 rfl) ?_
  refine va_new (ci := 5) (fs := [.int 0, .int 0, .int 0, .int 0, .int 0, .null, .null]) (C := RX5) (T := TX5) (N := 7) hx hb hts (by decide +kernel) tyX5 tyX5_ok hown (hts (.classLink RX1 9 RX5) (by decide +kernel)) (hts (.instantiable RX5 7) (by decide +kernel)) (hts (.initialized RX5) (by decide +kernel)) hK hP hD hS hA rfl (dfX5) (Nat.le_of_ble_eq_true rfl) (Nat.le_of_ble_eq_true rfl) dX1_init_26 (fun q_58 H hP hD hS => ?_)
  have hP : va_P (dC, dI) vwCl [(q, .inr (1, [.int 0, .int 0, .int 0, .ref q_1, .null])), (q_1, .inl (k_2, 16, .inr (.inr (.inr (.inr (f_56)))))), (q_58, .inr (5, [.int 0, .int 0, .int 0, .int 0, .int 0, .null, .null]))] H := hP
  have hD : va_D A [(q, .inr (1, [.int 0, .int 0, .int 0, .ref q_1, .null])), (q_1, .inl (k_2, 16, .inr (.inr (.inr (.inr (f_56)))))), (q_58, .inr (5, [.int 0, .int 0, .int 0, .int 0, .int 0, .null, .null]))] := hD
  refine W.widen (k := 29) (n := 248) (Nat.le_of_ble_eq_true rfl) (Nat.le_of_ble_eq_true rfl) ?_
  refine lv_dup hx hb dX1_init_29 rfl ?_
  have hPc := hP.sub (ws' := [(q_58, .inr (5, [.int 0, .int 0, .int 0, .int 0, .int 0, .null, .null]))]) [2] rfl
  have hDc := hD.sub (ws' := [(q_58, .inr (5, [.int 0, .int 0, .int 0, .int 0, .int 0, .null, .null]))]) [2] (by decide) rfl
  have hKc := hK.sub (tys' := []) [] rfl
  have hFc := va_free (wc := [(q_58, .inr (5, [.int 0, .int 0, .int 0, .int 0, .int 0, .null, .null]))]) hD hS hA [2] rfl
  refine va_callv (va_runI (As := []) (rest := [.ref q_58, .int 9, .ref q_1]) ⟨hx, hb, hml, hown, hts⟩ (c_X5_init l dC dI H.size q_58 ) (cwI 0 hts gX1_init_X5_init rfl rfl rfl (hts (.initialized RX5) (by decide +kernel)) (hts (.methodLink RX1 17 yX5_init) (by decide +kernel)) (hts (.instanceMethod yX5_init) (by decide +kernel)) rfl (by decide +kernel) ⟨Nat.le_of_ble_eq_true rfl, Nat.le_of_ble_eq_true rfl⟩) ⟨ax_blind (fun _ _ _ _ _ => trivial), ax_pre hPc hKc hDc (fun _ _ => trivial)⟩ rfl rfl hl.1 rfl (lv_room (Nat.le_of_ble_eq_true rfl)) dX1_init_30 ⟨Nat.le_of_ble_eq_true rfl, Nat.le_of_ble_eq_true rfl⟩) hS (fun q _ h => hFc q h) hFc (fun u t H1 locs ht hvm hw hB hz1 hk1 hS => ?_)
  obtain ⟨a_60, b_61, hP1, hK1, hD1⟩ := hB
  rw [ht] at hP1
  have hK1 := va_K.moved hvm.symm hK1
  obtain ⟨hP, hD⟩ := va_join (wr := [(q, .inr (1, [.int 0, .int 0, .int 0, .ref q_1, .null])), (q_1, .inl (k_2, 16, .inr (.inr (.inr (.inr (f_56))))))]) (w1 := [(q_58, .inr (5, [.int 0, .int 0, .int 0, .int 0, .int 0, .ref a_60, .ref b_61]))]) hP hD [2] [0, 1] rfl rfl (by decide) (by decide) hk1 hFc hP1 hD1
  have hK := (hK.sub (tys' := [(k_2, (.object RX5))]) [0] rfl).app hK1
  generalize H1 = H at hP hS ⊢
  have hP : va_P (dC, dI) vwCl [(q, .inr (1, [.int 0, .int 0, .int 0, .ref q_1, .null])), (q_1, .inl (k_2, 16, .inr (.inr (.inr (.inr (f_56)))))), (q_58, .inr (5, [.int 0, .int 0, .int 0, .int 0, .int 0, .ref a_60, .ref b_61]))] H := hP
  have hD : va_D A [(q, .inr (1, [.int 0, .int 0, .int 0, .ref q_1, .null])), (q_1, .inl (k_2, 16, .inr (.inr (.inr (.inr (f_56)))))), (q_58, .inr (5, [.int 0, .int 0, .int 0, .int 0, .int 0, .ref a_60, .ref b_61]))] := hD
  have hK : va_K (dC, dI) vwCl [(k_2, (.object RX5))] s := hK
  refine W.widen (k := 31) (n := 266) (Nat.le_of_ble_eq_true rfl) (Nat.le_of_ble_eq_true rfl) ?_
  refine va_astq hx hb hK hP hD hS 1 0 2 5 (r := (RX5, TX5, 7)) rfl rfl rfl rfl (by unfold vp_in; decide +kernel) dX1_init_33 (fun H locs hP hD hS => ?_)
  obtain ⟨f_62, hP, hD⟩ : ∃ f_62 : Nat → Option Nat, va_P (dC, dI) vwCl [(q, .inr (1, [.int 0, .int 0, .int 0, .ref q_1, .null])), (q_1, .inl (k_2, 16, .inr (.inr (.inr (.inr (f_62)))))), (q_58, .inr (5, [.int 0, .int 0, .int 0, .int 0, .int 0, .ref a_60, .ref b_61]))] H ∧ va_D A [(q, .inr (1, [.int 0, .int 0, .int 0, .ref q_1, .null])), (q_1, .inl (k_2, 16, .inr (.inr (.inr (.inr (f_62)))))), (q_58, .inr (5, [.int 0, .int 0, .int 0, .int 0, .int 0, .ref a_60, .ref b_61]))] := ⟨_, hP, hD⟩
  have hP := hP.sub (ws' := [(q, .inr (1, [.int 0, .int 0, .int 0, .ref q_1, .null])), (q_1, .inl (k_2, 16, .inr (.inr (.inr (.inr (f_62))))))]) [0, 1] rfl
  have hD := hD.sub (ws' := [(q, .inr (1, [.int 0, .int 0, .int 0, .ref q_1, .null])), (q_1, .inl (k_2, 16, .inr (.inr (.inr (.inr (f_62))))))]) [0, 1] (by decide) rfl
  have hK := hK.sub (tys' := [(k_2, (.object RX5))]) [0] rfl
  refine lv_iinc (v := 10) (lv' := [(1, .int 10), (0, .ref q)]) hx hb dX1_init_34 hl (k := 0) rfl (by decide +kernel) (by decide) rfl (fun ls hl => ?_)
  refine lv_goto (tgt := 15) hx hb dX1_init_37 (by decide) ?_
  refine lv_iload_n hx hb dX1_init_15 rfl (lv_at hl 0 rfl) ?_
  refine lv_bipush (v := 16) hx hb dX1_init_16 (by decide) ?_
  refine lv_icmp_ge (tgt := 40) hx hb dX1_init_18 (by decide) (fun c_63 => absurd c_63 (by decide +kernel)) (fun _ => ?_)
  refine lv_aload_n hx hb dX1_init_21 rfl (lv_at hl 1 rfl) ?_
  refine va_get (D := (dC, dI)) (ci := 1) (v := .ref q_1) (C := RX1) (T := TX1) (N := 5) hx hb hts (by decide +kernel) hown hK hP 0 rfl rfl 3 (by decide) (hts (.fieldLink RX1 11 "WaxTurns$History" "kept" "[LWaxTurns$Scene;") (by decide +kernel)) (fun _ h9 => h9) rfl dX1_init_22 ?_
  refine lv_iload_n hx hb dX1_init_25 rfl (lv_at hl 0 rfl) ?_
  refine va_new (ci := 5) (fs := [.int 0, .int 0, .int 0, .int 0, .int 0, .null, .null]) (C := RX5) (T := TX5) (N := 7) hx hb hts (by decide +kernel) tyX5 tyX5_ok hown (hts (.classLink RX1 9 RX5) (by decide +kernel)) (hts (.instantiable RX5 7) (by decide +kernel)) (hts (.initialized RX5) (by decide +kernel)) hK hP hD hS hA rfl (dfX5) (Nat.le_of_ble_eq_true rfl) (Nat.le_of_ble_eq_true rfl) dX1_init_26 (fun q_64 H hP hD hS => ?_)
  have hP : va_P (dC, dI) vwCl [(q, .inr (1, [.int 0, .int 0, .int 0, .ref q_1, .null])), (q_1, .inl (k_2, 16, .inr (.inr (.inr (.inr (f_62)))))), (q_64, .inr (5, [.int 0, .int 0, .int 0, .int 0, .int 0, .null, .null]))] H := hP
  have hD : va_D A [(q, .inr (1, [.int 0, .int 0, .int 0, .ref q_1, .null])), (q_1, .inl (k_2, 16, .inr (.inr (.inr (.inr (f_62)))))), (q_64, .inr (5, [.int 0, .int 0, .int 0, .int 0, .int 0, .null, .null]))] := hD
  refine W.widen (k := 32) (n := 273) (Nat.le_of_ble_eq_true rfl) (Nat.le_of_ble_eq_true rfl) ?_
  refine lv_dup hx hb dX1_init_29 rfl ?_
  have hPc := hP.sub (ws' := [(q_64, .inr (5, [.int 0, .int 0, .int 0, .int 0, .int 0, .null, .null]))]) [2] rfl
  have hDc := hD.sub (ws' := [(q_64, .inr (5, [.int 0, .int 0, .int 0, .int 0, .int 0, .null, .null]))]) [2] (by decide) rfl
  have hKc := hK.sub (tys' := []) [] rfl
  have hFc := va_free (wc := [(q_64, .inr (5, [.int 0, .int 0, .int 0, .int 0, .int 0, .null, .null]))]) hD hS hA [2] rfl
  refine va_callv (va_runI (As := []) (rest := [.ref q_64, .int 10, .ref q_1]) ⟨hx, hb, hml, hown, hts⟩ (c_X5_init l dC dI H.size q_64 ) (cwI 0 hts gX1_init_X5_init rfl rfl rfl (hts (.initialized RX5) (by decide +kernel)) (hts (.methodLink RX1 17 yX5_init) (by decide +kernel)) (hts (.instanceMethod yX5_init) (by decide +kernel)) rfl (by decide +kernel) ⟨Nat.le_of_ble_eq_true rfl, Nat.le_of_ble_eq_true rfl⟩) ⟨ax_blind (fun _ _ _ _ _ => trivial), ax_pre hPc hKc hDc (fun _ _ => trivial)⟩ rfl rfl hl.1 rfl (lv_room (Nat.le_of_ble_eq_true rfl)) dX1_init_30 ⟨Nat.le_of_ble_eq_true rfl, Nat.le_of_ble_eq_true rfl⟩) hS (fun q _ h => hFc q h) hFc (fun u t H1 locs ht hvm hw hB hz1 hk1 hS => ?_)
  obtain ⟨a_66, b_67, hP1, hK1, hD1⟩ := hB
  rw [ht] at hP1
  have hK1 := va_K.moved hvm.symm hK1
  obtain ⟨hP, hD⟩ := va_join (wr := [(q, .inr (1, [.int 0, .int 0, .int 0, .ref q_1, .null])), (q_1, .inl (k_2, 16, .inr (.inr (.inr (.inr (f_62))))))]) (w1 := [(q_64, .inr (5, [.int 0, .int 0, .int 0, .int 0, .int 0, .ref a_66, .ref b_67]))]) hP hD [2] [0, 1] rfl rfl (by decide) (by decide) hk1 hFc hP1 hD1
  have hK := (hK.sub (tys' := [(k_2, (.object RX5))]) [0] rfl).app hK1
  generalize H1 = H at hP hS ⊢
  have hP : va_P (dC, dI) vwCl [(q, .inr (1, [.int 0, .int 0, .int 0, .ref q_1, .null])), (q_1, .inl (k_2, 16, .inr (.inr (.inr (.inr (f_62)))))), (q_64, .inr (5, [.int 0, .int 0, .int 0, .int 0, .int 0, .ref a_66, .ref b_67]))] H := hP
  have hD : va_D A [(q, .inr (1, [.int 0, .int 0, .int 0, .ref q_1, .null])), (q_1, .inl (k_2, 16, .inr (.inr (.inr (.inr (f_62)))))), (q_64, .inr (5, [.int 0, .int 0, .int 0, .int 0, .int 0, .ref a_66, .ref b_67]))] := hD
  have hK : va_K (dC, dI) vwCl [(k_2, (.object RX5))] s := hK
  refine W.widen (k := 34) (n := 291) (Nat.le_of_ble_eq_true rfl) (Nat.le_of_ble_eq_true rfl) ?_
  refine va_astq hx hb hK hP hD hS 1 0 2 5 (r := (RX5, TX5, 7)) rfl rfl rfl rfl (by unfold vp_in; decide +kernel) dX1_init_33 (fun H locs hP hD hS => ?_)
  obtain ⟨f_68, hP, hD⟩ : ∃ f_68 : Nat → Option Nat, va_P (dC, dI) vwCl [(q, .inr (1, [.int 0, .int 0, .int 0, .ref q_1, .null])), (q_1, .inl (k_2, 16, .inr (.inr (.inr (.inr (f_68)))))), (q_64, .inr (5, [.int 0, .int 0, .int 0, .int 0, .int 0, .ref a_66, .ref b_67]))] H ∧ va_D A [(q, .inr (1, [.int 0, .int 0, .int 0, .ref q_1, .null])), (q_1, .inl (k_2, 16, .inr (.inr (.inr (.inr (f_68)))))), (q_64, .inr (5, [.int 0, .int 0, .int 0, .int 0, .int 0, .ref a_66, .ref b_67]))] := ⟨_, hP, hD⟩
  have hP := hP.sub (ws' := [(q, .inr (1, [.int 0, .int 0, .int 0, .ref q_1, .null])), (q_1, .inl (k_2, 16, .inr (.inr (.inr (.inr (f_68))))))]) [0, 1] rfl
  have hD := hD.sub (ws' := [(q, .inr (1, [.int 0, .int 0, .int 0, .ref q_1, .null])), (q_1, .inl (k_2, 16, .inr (.inr (.inr (.inr (f_68))))))]) [0, 1] (by decide) rfl
  have hK := hK.sub (tys' := [(k_2, (.object RX5))]) [0] rfl
  refine lv_iinc (v := 11) (lv' := [(1, .int 11), (0, .ref q)]) hx hb dX1_init_34 hl (k := 0) rfl (by decide +kernel) (by decide) rfl (fun ls hl => ?_)
  refine lv_goto (tgt := 15) hx hb dX1_init_37 (by decide) ?_
  refine lv_iload_n hx hb dX1_init_15 rfl (lv_at hl 0 rfl) ?_
  refine lv_bipush (v := 16) hx hb dX1_init_16 (by decide) ?_
  refine lv_icmp_ge (tgt := 40) hx hb dX1_init_18 (by decide) (fun c_69 => absurd c_69 (by decide +kernel)) (fun _ => ?_)
  refine lv_aload_n hx hb dX1_init_21 rfl (lv_at hl 1 rfl) ?_
  refine va_get (D := (dC, dI)) (ci := 1) (v := .ref q_1) (C := RX1) (T := TX1) (N := 5) hx hb hts (by decide +kernel) hown hK hP 0 rfl rfl 3 (by decide) (hts (.fieldLink RX1 11 "WaxTurns$History" "kept" "[LWaxTurns$Scene;") (by decide +kernel)) (fun _ h9 => h9) rfl dX1_init_22 ?_
  refine lv_iload_n hx hb dX1_init_25 rfl (lv_at hl 0 rfl) ?_
  refine va_new (ci := 5) (fs := [.int 0, .int 0, .int 0, .int 0, .int 0, .null, .null]) (C := RX5) (T := TX5) (N := 7) hx hb hts (by decide +kernel) tyX5 tyX5_ok hown (hts (.classLink RX1 9 RX5) (by decide +kernel)) (hts (.instantiable RX5 7) (by decide +kernel)) (hts (.initialized RX5) (by decide +kernel)) hK hP hD hS hA rfl (dfX5) (Nat.le_of_ble_eq_true rfl) (Nat.le_of_ble_eq_true rfl) dX1_init_26 (fun q_70 H hP hD hS => ?_)
  have hP : va_P (dC, dI) vwCl [(q, .inr (1, [.int 0, .int 0, .int 0, .ref q_1, .null])), (q_1, .inl (k_2, 16, .inr (.inr (.inr (.inr (f_68)))))), (q_70, .inr (5, [.int 0, .int 0, .int 0, .int 0, .int 0, .null, .null]))] H := hP
  have hD : va_D A [(q, .inr (1, [.int 0, .int 0, .int 0, .ref q_1, .null])), (q_1, .inl (k_2, 16, .inr (.inr (.inr (.inr (f_68)))))), (q_70, .inr (5, [.int 0, .int 0, .int 0, .int 0, .int 0, .null, .null]))] := hD
  refine W.widen (k := 35) (n := 298) (Nat.le_of_ble_eq_true rfl) (Nat.le_of_ble_eq_true rfl) ?_
  refine lv_dup hx hb dX1_init_29 rfl ?_
  have hPc := hP.sub (ws' := [(q_70, .inr (5, [.int 0, .int 0, .int 0, .int 0, .int 0, .null, .null]))]) [2] rfl
  have hDc := hD.sub (ws' := [(q_70, .inr (5, [.int 0, .int 0, .int 0, .int 0, .int 0, .null, .null]))]) [2] (by decide) rfl
  have hKc := hK.sub (tys' := []) [] rfl
  have hFc := va_free (wc := [(q_70, .inr (5, [.int 0, .int 0, .int 0, .int 0, .int 0, .null, .null]))]) hD hS hA [2] rfl
  refine va_callv (va_runI (As := []) (rest := [.ref q_70, .int 11, .ref q_1]) ⟨hx, hb, hml, hown, hts⟩ (c_X5_init l dC dI H.size q_70 ) (cwI 0 hts gX1_init_X5_init rfl rfl rfl (hts (.initialized RX5) (by decide +kernel)) (hts (.methodLink RX1 17 yX5_init) (by decide +kernel)) (hts (.instanceMethod yX5_init) (by decide +kernel)) rfl (by decide +kernel) ⟨Nat.le_of_ble_eq_true rfl, Nat.le_of_ble_eq_true rfl⟩) ⟨ax_blind (fun _ _ _ _ _ => trivial), ax_pre hPc hKc hDc (fun _ _ => trivial)⟩ rfl rfl hl.1 rfl (lv_room (Nat.le_of_ble_eq_true rfl)) dX1_init_30 ⟨Nat.le_of_ble_eq_true rfl, Nat.le_of_ble_eq_true rfl⟩) hS (fun q _ h => hFc q h) hFc (fun u t H1 locs ht hvm hw hB hz1 hk1 hS => ?_)
  obtain ⟨a_72, b_73, hP1, hK1, hD1⟩ := hB
  rw [ht] at hP1
  have hK1 := va_K.moved hvm.symm hK1
  obtain ⟨hP, hD⟩ := va_join (wr := [(q, .inr (1, [.int 0, .int 0, .int 0, .ref q_1, .null])), (q_1, .inl (k_2, 16, .inr (.inr (.inr (.inr (f_68))))))]) (w1 := [(q_70, .inr (5, [.int 0, .int 0, .int 0, .int 0, .int 0, .ref a_72, .ref b_73]))]) hP hD [2] [0, 1] rfl rfl (by decide) (by decide) hk1 hFc hP1 hD1
  have hK := (hK.sub (tys' := [(k_2, (.object RX5))]) [0] rfl).app hK1
  generalize H1 = H at hP hS ⊢
  have hP : va_P (dC, dI) vwCl [(q, .inr (1, [.int 0, .int 0, .int 0, .ref q_1, .null])), (q_1, .inl (k_2, 16, .inr (.inr (.inr (.inr (f_68)))))), (q_70, .inr (5, [.int 0, .int 0, .int 0, .int 0, .int 0, .ref a_72, .ref b_73]))] H := hP
  have hD : va_D A [(q, .inr (1, [.int 0, .int 0, .int 0, .ref q_1, .null])), (q_1, .inl (k_2, 16, .inr (.inr (.inr (.inr (f_68)))))), (q_70, .inr (5, [.int 0, .int 0, .int 0, .int 0, .int 0, .ref a_72, .ref b_73]))] := hD
  have hK : va_K (dC, dI) vwCl [(k_2, (.object RX5))] s := hK
  refine W.widen (k := 37) (n := 316) (Nat.le_of_ble_eq_true rfl) (Nat.le_of_ble_eq_true rfl) ?_
  refine va_astq hx hb hK hP hD hS 1 0 2 5 (r := (RX5, TX5, 7)) rfl rfl rfl rfl (by unfold vp_in; decide +kernel) dX1_init_33 (fun H locs hP hD hS => ?_)
  obtain ⟨f_74, hP, hD⟩ : ∃ f_74 : Nat → Option Nat, va_P (dC, dI) vwCl [(q, .inr (1, [.int 0, .int 0, .int 0, .ref q_1, .null])), (q_1, .inl (k_2, 16, .inr (.inr (.inr (.inr (f_74)))))), (q_70, .inr (5, [.int 0, .int 0, .int 0, .int 0, .int 0, .ref a_72, .ref b_73]))] H ∧ va_D A [(q, .inr (1, [.int 0, .int 0, .int 0, .ref q_1, .null])), (q_1, .inl (k_2, 16, .inr (.inr (.inr (.inr (f_74)))))), (q_70, .inr (5, [.int 0, .int 0, .int 0, .int 0, .int 0, .ref a_72, .ref b_73]))] := ⟨_, hP, hD⟩
  have hP := hP.sub (ws' := [(q, .inr (1, [.int 0, .int 0, .int 0, .ref q_1, .null])), (q_1, .inl (k_2, 16, .inr (.inr (.inr (.inr (f_74))))))]) [0, 1] rfl
  have hD := hD.sub (ws' := [(q, .inr (1, [.int 0, .int 0, .int 0, .ref q_1, .null])), (q_1, .inl (k_2, 16, .inr (.inr (.inr (.inr (f_74))))))]) [0, 1] (by decide) rfl
  have hK := hK.sub (tys' := [(k_2, (.object RX5))]) [0] rfl
  refine lv_iinc (v := 12) (lv' := [(1, .int 12), (0, .ref q)]) hx hb dX1_init_34 hl (k := 0) rfl (by decide +kernel) (by decide) rfl (fun ls hl => ?_)
  refine lv_goto (tgt := 15) hx hb dX1_init_37 (by decide) ?_
  refine lv_iload_n hx hb dX1_init_15 rfl (lv_at hl 0 rfl) ?_
  refine lv_bipush (v := 16) hx hb dX1_init_16 (by decide) ?_
  refine lv_icmp_ge (tgt := 40) hx hb dX1_init_18 (by decide) (fun c_75 => absurd c_75 (by decide +kernel)) (fun _ => ?_)
  refine lv_aload_n hx hb dX1_init_21 rfl (lv_at hl 1 rfl) ?_
  refine va_get (D := (dC, dI)) (ci := 1) (v := .ref q_1) (C := RX1) (T := TX1) (N := 5) hx hb hts (by decide +kernel) hown hK hP 0 rfl rfl 3 (by decide) (hts (.fieldLink RX1 11 "WaxTurns$History" "kept" "[LWaxTurns$Scene;") (by decide +kernel)) (fun _ h9 => h9) rfl dX1_init_22 ?_
  refine lv_iload_n hx hb dX1_init_25 rfl (lv_at hl 0 rfl) ?_
  refine va_new (ci := 5) (fs := [.int 0, .int 0, .int 0, .int 0, .int 0, .null, .null]) (C := RX5) (T := TX5) (N := 7) hx hb hts (by decide +kernel) tyX5 tyX5_ok hown (hts (.classLink RX1 9 RX5) (by decide +kernel)) (hts (.instantiable RX5 7) (by decide +kernel)) (hts (.initialized RX5) (by decide +kernel)) hK hP hD hS hA rfl (dfX5) (Nat.le_of_ble_eq_true rfl) (Nat.le_of_ble_eq_true rfl) dX1_init_26 (fun q_76 H hP hD hS => ?_)
  have hP : va_P (dC, dI) vwCl [(q, .inr (1, [.int 0, .int 0, .int 0, .ref q_1, .null])), (q_1, .inl (k_2, 16, .inr (.inr (.inr (.inr (f_74)))))), (q_76, .inr (5, [.int 0, .int 0, .int 0, .int 0, .int 0, .null, .null]))] H := hP
  have hD : va_D A [(q, .inr (1, [.int 0, .int 0, .int 0, .ref q_1, .null])), (q_1, .inl (k_2, 16, .inr (.inr (.inr (.inr (f_74)))))), (q_76, .inr (5, [.int 0, .int 0, .int 0, .int 0, .int 0, .null, .null]))] := hD
  refine W.widen (k := 38) (n := 323) (Nat.le_of_ble_eq_true rfl) (Nat.le_of_ble_eq_true rfl) ?_
  refine lv_dup hx hb dX1_init_29 rfl ?_
  have hPc := hP.sub (ws' := [(q_76, .inr (5, [.int 0, .int 0, .int 0, .int 0, .int 0, .null, .null]))]) [2] rfl
  have hDc := hD.sub (ws' := [(q_76, .inr (5, [.int 0, .int 0, .int 0, .int 0, .int 0, .null, .null]))]) [2] (by decide) rfl
  have hKc := hK.sub (tys' := []) [] rfl
  have hFc := va_free (wc := [(q_76, .inr (5, [.int 0, .int 0, .int 0, .int 0, .int 0, .null, .null]))]) hD hS hA [2] rfl
  refine va_callv (va_runI (As := []) (rest := [.ref q_76, .int 12, .ref q_1]) ⟨hx, hb, hml, hown, hts⟩ (c_X5_init l dC dI H.size q_76 ) (cwI 0 hts gX1_init_X5_init rfl rfl rfl (hts (.initialized RX5) (by decide +kernel)) (hts (.methodLink RX1 17 yX5_init) (by decide +kernel)) (hts (.instanceMethod yX5_init) (by decide +kernel)) rfl (by decide +kernel) ⟨Nat.le_of_ble_eq_true rfl, Nat.le_of_ble_eq_true rfl⟩) ⟨ax_blind (fun _ _ _ _ _ => trivial), ax_pre hPc hKc hDc (fun _ _ => trivial)⟩ rfl rfl hl.1 rfl (lv_room (Nat.le_of_ble_eq_true rfl)) dX1_init_30 ⟨Nat.le_of_ble_eq_true rfl, Nat.le_of_ble_eq_true rfl⟩) hS (fun q _ h => hFc q h) hFc (fun u t H1 locs ht hvm hw hB hz1 hk1 hS => ?_)
  obtain ⟨a_78, b_79, hP1, hK1, hD1⟩ := hB
  rw [ht] at hP1
  have hK1 := va_K.moved hvm.symm hK1
  obtain ⟨hP, hD⟩ := va_join (wr := [(q, .inr (1, [.int 0, .int 0, .int 0, .ref q_1, .null])), (q_1, .inl (k_2, 16, .inr (.inr (.inr (.inr (f_74))))))]) (w1 := [(q_76, .inr (5, [.int 0, .int 0, .int 0, .int 0, .int 0, .ref a_78, .ref b_79]))]) hP hD [2] [0, 1] rfl rfl (by decide) (by decide) hk1 hFc hP1 hD1
  have hK := (hK.sub (tys' := [(k_2, (.object RX5))]) [0] rfl).app hK1
  generalize H1 = H at hP hS ⊢
  have hP : va_P (dC, dI) vwCl [(q, .inr (1, [.int 0, .int 0, .int 0, .ref q_1, .null])), (q_1, .inl (k_2, 16, .inr (.inr (.inr (.inr (f_74)))))), (q_76, .inr (5, [.int 0, .int 0, .int 0, .int 0, .int 0, .ref a_78, .ref b_79]))] H := hP
  have hD : va_D A [(q, .inr (1, [.int 0, .int 0, .int 0, .ref q_1, .null])), (q_1, .inl (k_2, 16, .inr (.inr (.inr (.inr (f_74)))))), (q_76, .inr (5, [.int 0, .int 0, .int 0, .int 0, .int 0, .ref a_78, .ref b_79]))] := hD
  have hK : va_K (dC, dI) vwCl [(k_2, (.object RX5))] s := hK
  refine W.widen (k := 40) (n := 341) (Nat.le_of_ble_eq_true rfl) (Nat.le_of_ble_eq_true rfl) ?_
  refine va_astq hx hb hK hP hD hS 1 0 2 5 (r := (RX5, TX5, 7)) rfl rfl rfl rfl (by unfold vp_in; decide +kernel) dX1_init_33 (fun H locs hP hD hS => ?_)
  obtain ⟨f_80, hP, hD⟩ : ∃ f_80 : Nat → Option Nat, va_P (dC, dI) vwCl [(q, .inr (1, [.int 0, .int 0, .int 0, .ref q_1, .null])), (q_1, .inl (k_2, 16, .inr (.inr (.inr (.inr (f_80)))))), (q_76, .inr (5, [.int 0, .int 0, .int 0, .int 0, .int 0, .ref a_78, .ref b_79]))] H ∧ va_D A [(q, .inr (1, [.int 0, .int 0, .int 0, .ref q_1, .null])), (q_1, .inl (k_2, 16, .inr (.inr (.inr (.inr (f_80)))))), (q_76, .inr (5, [.int 0, .int 0, .int 0, .int 0, .int 0, .ref a_78, .ref b_79]))] := ⟨_, hP, hD⟩
  have hP := hP.sub (ws' := [(q, .inr (1, [.int 0, .int 0, .int 0, .ref q_1, .null])), (q_1, .inl (k_2, 16, .inr (.inr (.inr (.inr (f_80))))))]) [0, 1] rfl
  have hD := hD.sub (ws' := [(q, .inr (1, [.int 0, .int 0, .int 0, .ref q_1, .null])), (q_1, .inl (k_2, 16, .inr (.inr (.inr (.inr (f_80))))))]) [0, 1] (by decide) rfl
  have hK := hK.sub (tys' := [(k_2, (.object RX5))]) [0] rfl
  refine lv_iinc (v := 13) (lv' := [(1, .int 13), (0, .ref q)]) hx hb dX1_init_34 hl (k := 0) rfl (by decide +kernel) (by decide) rfl (fun ls hl => ?_)
  refine lv_goto (tgt := 15) hx hb dX1_init_37 (by decide) ?_
  refine lv_iload_n hx hb dX1_init_15 rfl (lv_at hl 0 rfl) ?_
  refine lv_bipush (v := 16) hx hb dX1_init_16 (by decide) ?_
  refine lv_icmp_ge (tgt := 40) hx hb dX1_init_18 (by decide) (fun c_81 => absurd c_81 (by decide +kernel)) (fun _ => ?_)
  refine lv_aload_n hx hb dX1_init_21 rfl (lv_at hl 1 rfl) ?_
  refine va_get (D := (dC, dI)) (ci := 1) (v := .ref q_1) (C := RX1) (T := TX1) (N := 5) hx hb hts (by decide +kernel) hown hK hP 0 rfl rfl 3 (by decide) (hts (.fieldLink RX1 11 "WaxTurns$History" "kept" "[LWaxTurns$Scene;") (by decide +kernel)) (fun _ h9 => h9) rfl dX1_init_22 ?_
  refine lv_iload_n hx hb dX1_init_25 rfl (lv_at hl 0 rfl) ?_
  refine va_new (ci := 5) (fs := [.int 0, .int 0, .int 0, .int 0, .int 0, .null, .null]) (C := RX5) (T := TX5) (N := 7) hx hb hts (by decide +kernel) tyX5 tyX5_ok hown (hts (.classLink RX1 9 RX5) (by decide +kernel)) (hts (.instantiable RX5 7) (by decide +kernel)) (hts (.initialized RX5) (by decide +kernel)) hK hP hD hS hA rfl (dfX5) (Nat.le_of_ble_eq_true rfl) (Nat.le_of_ble_eq_true rfl) dX1_init_26 (fun q_82 H hP hD hS => ?_)
  have hP : va_P (dC, dI) vwCl [(q, .inr (1, [.int 0, .int 0, .int 0, .ref q_1, .null])), (q_1, .inl (k_2, 16, .inr (.inr (.inr (.inr (f_80)))))), (q_82, .inr (5, [.int 0, .int 0, .int 0, .int 0, .int 0, .null, .null]))] H := hP
  have hD : va_D A [(q, .inr (1, [.int 0, .int 0, .int 0, .ref q_1, .null])), (q_1, .inl (k_2, 16, .inr (.inr (.inr (.inr (f_80)))))), (q_82, .inr (5, [.int 0, .int 0, .int 0, .int 0, .int 0, .null, .null]))] := hD
  refine W.widen (k := 41) (n := 348) (Nat.le_of_ble_eq_true rfl) (Nat.le_of_ble_eq_true rfl) ?_
  refine lv_dup hx hb dX1_init_29 rfl ?_
  have hPc := hP.sub (ws' := [(q_82, .inr (5, [.int 0, .int 0, .int 0, .int 0, .int 0, .null, .null]))]) [2] rfl
  have hDc := hD.sub (ws' := [(q_82, .inr (5, [.int 0, .int 0, .int 0, .int 0, .int 0, .null, .null]))]) [2] (by decide) rfl
  have hKc := hK.sub (tys' := []) [] rfl
  have hFc := va_free (wc := [(q_82, .inr (5, [.int 0, .int 0, .int 0, .int 0, .int 0, .null, .null]))]) hD hS hA [2] rfl
  refine va_callv (va_runI (As := []) (rest := [.ref q_82, .int 13, .ref q_1]) ⟨hx, hb, hml, hown, hts⟩ (c_X5_init l dC dI H.size q_82 ) (cwI 0 hts gX1_init_X5_init rfl rfl rfl (hts (.initialized RX5) (by decide +kernel)) (hts (.methodLink RX1 17 yX5_init) (by decide +kernel)) (hts (.instanceMethod yX5_init) (by decide +kernel)) rfl (by decide +kernel) ⟨Nat.le_of_ble_eq_true rfl, Nat.le_of_ble_eq_true rfl⟩) ⟨ax_blind (fun _ _ _ _ _ => trivial), ax_pre hPc hKc hDc (fun _ _ => trivial)⟩ rfl rfl hl.1 rfl (lv_room (Nat.le_of_ble_eq_true rfl)) dX1_init_30 ⟨Nat.le_of_ble_eq_true rfl, Nat.le_of_ble_eq_true rfl⟩) hS (fun q _ h => hFc q h) hFc (fun u t H1 locs ht hvm hw hB hz1 hk1 hS => ?_)
  obtain ⟨a_84, b_85, hP1, hK1, hD1⟩ := hB
  rw [ht] at hP1
  have hK1 := va_K.moved hvm.symm hK1
  obtain ⟨hP, hD⟩ := va_join (wr := [(q, .inr (1, [.int 0, .int 0, .int 0, .ref q_1, .null])), (q_1, .inl (k_2, 16, .inr (.inr (.inr (.inr (f_80))))))]) (w1 := [(q_82, .inr (5, [.int 0, .int 0, .int 0, .int 0, .int 0, .ref a_84, .ref b_85]))]) hP hD [2] [0, 1] rfl rfl (by decide) (by decide) hk1 hFc hP1 hD1
  have hK := (hK.sub (tys' := [(k_2, (.object RX5))]) [0] rfl).app hK1
  generalize H1 = H at hP hS ⊢
  have hP : va_P (dC, dI) vwCl [(q, .inr (1, [.int 0, .int 0, .int 0, .ref q_1, .null])), (q_1, .inl (k_2, 16, .inr (.inr (.inr (.inr (f_80)))))), (q_82, .inr (5, [.int 0, .int 0, .int 0, .int 0, .int 0, .ref a_84, .ref b_85]))] H := hP
  have hD : va_D A [(q, .inr (1, [.int 0, .int 0, .int 0, .ref q_1, .null])), (q_1, .inl (k_2, 16, .inr (.inr (.inr (.inr (f_80)))))), (q_82, .inr (5, [.int 0, .int 0, .int 0, .int 0, .int 0, .ref a_84, .ref b_85]))] := hD
  have hK : va_K (dC, dI) vwCl [(k_2, (.object RX5))] s := hK
  refine W.widen (k := 43) (n := 366) (Nat.le_of_ble_eq_true rfl) (Nat.le_of_ble_eq_true rfl) ?_
  refine va_astq hx hb hK hP hD hS 1 0 2 5 (r := (RX5, TX5, 7)) rfl rfl rfl rfl (by unfold vp_in; decide +kernel) dX1_init_33 (fun H locs hP hD hS => ?_)
  obtain ⟨f_86, hP, hD⟩ : ∃ f_86 : Nat → Option Nat, va_P (dC, dI) vwCl [(q, .inr (1, [.int 0, .int 0, .int 0, .ref q_1, .null])), (q_1, .inl (k_2, 16, .inr (.inr (.inr (.inr (f_86)))))), (q_82, .inr (5, [.int 0, .int 0, .int 0, .int 0, .int 0, .ref a_84, .ref b_85]))] H ∧ va_D A [(q, .inr (1, [.int 0, .int 0, .int 0, .ref q_1, .null])), (q_1, .inl (k_2, 16, .inr (.inr (.inr (.inr (f_86)))))), (q_82, .inr (5, [.int 0, .int 0, .int 0, .int 0, .int 0, .ref a_84, .ref b_85]))] := ⟨_, hP, hD⟩
  have hP := hP.sub (ws' := [(q, .inr (1, [.int 0, .int 0, .int 0, .ref q_1, .null])), (q_1, .inl (k_2, 16, .inr (.inr (.inr (.inr (f_86))))))]) [0, 1] rfl
  have hD := hD.sub (ws' := [(q, .inr (1, [.int 0, .int 0, .int 0, .ref q_1, .null])), (q_1, .inl (k_2, 16, .inr (.inr (.inr (.inr (f_86))))))]) [0, 1] (by decide) rfl
  have hK := hK.sub (tys' := [(k_2, (.object RX5))]) [0] rfl
  refine lv_iinc (v := 14) (lv' := [(1, .int 14), (0, .ref q)]) hx hb dX1_init_34 hl (k := 0) rfl (by decide +kernel) (by decide) rfl (fun ls hl => ?_)
  refine lv_goto (tgt := 15) hx hb dX1_init_37 (by decide) ?_
  refine lv_iload_n hx hb dX1_init_15 rfl (lv_at hl 0 rfl) ?_
  refine lv_bipush (v := 16) hx hb dX1_init_16 (by decide) ?_
  refine lv_icmp_ge (tgt := 40) hx hb dX1_init_18 (by decide) (fun c_87 => absurd c_87 (by decide +kernel)) (fun _ => ?_)
  refine lv_aload_n hx hb dX1_init_21 rfl (lv_at hl 1 rfl) ?_
  refine va_get (D := (dC, dI)) (ci := 1) (v := .ref q_1) (C := RX1) (T := TX1) (N := 5) hx hb hts (by decide +kernel) hown hK hP 0 rfl rfl 3 (by decide) (hts (.fieldLink RX1 11 "WaxTurns$History" "kept" "[LWaxTurns$Scene;") (by decide +kernel)) (fun _ h9 => h9) rfl dX1_init_22 ?_
  refine lv_iload_n hx hb dX1_init_25 rfl (lv_at hl 0 rfl) ?_
  refine va_new (ci := 5) (fs := [.int 0, .int 0, .int 0, .int 0, .int 0, .null, .null]) (C := RX5) (T := TX5) (N := 7) hx hb hts (by decide +kernel) tyX5 tyX5_ok hown (hts (.classLink RX1 9 RX5) (by decide +kernel)) (hts (.instantiable RX5 7) (by decide +kernel)) (hts (.initialized RX5) (by decide +kernel)) hK hP hD hS hA rfl (dfX5) (Nat.le_of_ble_eq_true rfl) (Nat.le_of_ble_eq_true rfl) dX1_init_26 (fun q_88 H hP hD hS => ?_)
  have hP : va_P (dC, dI) vwCl [(q, .inr (1, [.int 0, .int 0, .int 0, .ref q_1, .null])), (q_1, .inl (k_2, 16, .inr (.inr (.inr (.inr (f_86)))))), (q_88, .inr (5, [.int 0, .int 0, .int 0, .int 0, .int 0, .null, .null]))] H := hP
  have hD : va_D A [(q, .inr (1, [.int 0, .int 0, .int 0, .ref q_1, .null])), (q_1, .inl (k_2, 16, .inr (.inr (.inr (.inr (f_86)))))), (q_88, .inr (5, [.int 0, .int 0, .int 0, .int 0, .int 0, .null, .null]))] := hD
  refine W.widen (k := 44) (n := 373) (Nat.le_of_ble_eq_true rfl) (Nat.le_of_ble_eq_true rfl) ?_
  refine lv_dup hx hb dX1_init_29 rfl ?_
  have hPc := hP.sub (ws' := [(q_88, .inr (5, [.int 0, .int 0, .int 0, .int 0, .int 0, .null, .null]))]) [2] rfl
  have hDc := hD.sub (ws' := [(q_88, .inr (5, [.int 0, .int 0, .int 0, .int 0, .int 0, .null, .null]))]) [2] (by decide) rfl
  have hKc := hK.sub (tys' := []) [] rfl
  have hFc := va_free (wc := [(q_88, .inr (5, [.int 0, .int 0, .int 0, .int 0, .int 0, .null, .null]))]) hD hS hA [2] rfl
  refine va_callv (va_runI (As := []) (rest := [.ref q_88, .int 14, .ref q_1]) ⟨hx, hb, hml, hown, hts⟩ (c_X5_init l dC dI H.size q_88 ) (cwI 0 hts gX1_init_X5_init rfl rfl rfl (hts (.initialized RX5) (by decide +kernel)) (hts (.methodLink RX1 17 yX5_init) (by decide +kernel)) (hts (.instanceMethod yX5_init) (by decide +kernel)) rfl (by decide +kernel) ⟨Nat.le_of_ble_eq_true rfl, Nat.le_of_ble_eq_true rfl⟩) ⟨ax_blind (fun _ _ _ _ _ => trivial), ax_pre hPc hKc hDc (fun _ _ => trivial)⟩ rfl rfl hl.1 rfl (lv_room (Nat.le_of_ble_eq_true rfl)) dX1_init_30 ⟨Nat.le_of_ble_eq_true rfl, Nat.le_of_ble_eq_true rfl⟩) hS (fun q _ h => hFc q h) hFc (fun u t H1 locs ht hvm hw hB hz1 hk1 hS => ?_)
  obtain ⟨a_90, b_91, hP1, hK1, hD1⟩ := hB
  rw [ht] at hP1
  have hK1 := va_K.moved hvm.symm hK1
  obtain ⟨hP, hD⟩ := va_join (wr := [(q, .inr (1, [.int 0, .int 0, .int 0, .ref q_1, .null])), (q_1, .inl (k_2, 16, .inr (.inr (.inr (.inr (f_86))))))]) (w1 := [(q_88, .inr (5, [.int 0, .int 0, .int 0, .int 0, .int 0, .ref a_90, .ref b_91]))]) hP hD [2] [0, 1] rfl rfl (by decide) (by decide) hk1 hFc hP1 hD1
  have hK := (hK.sub (tys' := [(k_2, (.object RX5))]) [0] rfl).app hK1
  generalize H1 = H at hP hS ⊢
  have hP : va_P (dC, dI) vwCl [(q, .inr (1, [.int 0, .int 0, .int 0, .ref q_1, .null])), (q_1, .inl (k_2, 16, .inr (.inr (.inr (.inr (f_86)))))), (q_88, .inr (5, [.int 0, .int 0, .int 0, .int 0, .int 0, .ref a_90, .ref b_91]))] H := hP
  have hD : va_D A [(q, .inr (1, [.int 0, .int 0, .int 0, .ref q_1, .null])), (q_1, .inl (k_2, 16, .inr (.inr (.inr (.inr (f_86)))))), (q_88, .inr (5, [.int 0, .int 0, .int 0, .int 0, .int 0, .ref a_90, .ref b_91]))] := hD
  have hK : va_K (dC, dI) vwCl [(k_2, (.object RX5))] s := hK
  refine W.widen (k := 46) (n := 391) (Nat.le_of_ble_eq_true rfl) (Nat.le_of_ble_eq_true rfl) ?_
  refine va_astq hx hb hK hP hD hS 1 0 2 5 (r := (RX5, TX5, 7)) rfl rfl rfl rfl (by unfold vp_in; decide +kernel) dX1_init_33 (fun H locs hP hD hS => ?_)
  obtain ⟨f_92, hP, hD⟩ : ∃ f_92 : Nat → Option Nat, va_P (dC, dI) vwCl [(q, .inr (1, [.int 0, .int 0, .int 0, .ref q_1, .null])), (q_1, .inl (k_2, 16, .inr (.inr (.inr (.inr (f_92)))))), (q_88, .inr (5, [.int 0, .int 0, .int 0, .int 0, .int 0, .ref a_90, .ref b_91]))] H ∧ va_D A [(q, .inr (1, [.int 0, .int 0, .int 0, .ref q_1, .null])), (q_1, .inl (k_2, 16, .inr (.inr (.inr (.inr (f_92)))))), (q_88, .inr (5, [.int 0, .int 0, .int 0, .int 0, .int 0, .ref a_90, .ref b_91]))] := ⟨_, hP, hD⟩
  have hP := hP.sub (ws' := [(q, .inr (1, [.int 0, .int 0, .int 0, .ref q_1, .null])), (q_1, .inl (k_2, 16, .inr (.inr (.inr (.inr (f_92))))))]) [0, 1] rfl
  have hD := hD.sub (ws' := [(q, .inr (1, [.int 0, .int 0, .int 0, .ref q_1, .null])), (q_1, .inl (k_2, 16, .inr (.inr (.inr (.inr (f_92))))))]) [0, 1] (by decide) rfl
  have hK := hK.sub (tys' := [(k_2, (.object RX5))]) [0] rfl
  refine lv_iinc (v := 15) (lv' := [(1, .int 15), (0, .ref q)]) hx hb dX1_init_34 hl (k := 0) rfl (by decide +kernel) (by decide) rfl (fun ls hl => ?_)
  refine lv_goto (tgt := 15) hx hb dX1_init_37 (by decide) ?_
  refine lv_iload_n hx hb dX1_init_15 rfl (lv_at hl 0 rfl) ?_
  refine lv_bipush (v := 16) hx hb dX1_init_16 (by decide) ?_
  refine lv_icmp_ge (tgt := 40) hx hb dX1_init_18 (by decide) (fun c_93 => absurd c_93 (by decide +kernel)) (fun _ => ?_)
  refine lv_aload_n hx hb dX1_init_21 rfl (lv_at hl 1 rfl) ?_
  refine va_get (D := (dC, dI)) (ci := 1) (v := .ref q_1) (C := RX1) (T := TX1) (N := 5) hx hb hts (by decide +kernel) hown hK hP 0 rfl rfl 3 (by decide) (hts (.fieldLink RX1 11 "WaxTurns$History" "kept" "[LWaxTurns$Scene;") (by decide +kernel)) (fun _ h9 => h9) rfl dX1_init_22 ?_
  refine lv_iload_n hx hb dX1_init_25 rfl (lv_at hl 0 rfl) ?_
  refine va_new (ci := 5) (fs := [.int 0, .int 0, .int 0, .int 0, .int 0, .null, .null]) (C := RX5) (T := TX5) (N := 7) hx hb hts (by decide +kernel) tyX5 tyX5_ok hown (hts (.classLink RX1 9 RX5) (by decide +kernel)) (hts (.instantiable RX5 7) (by decide +kernel)) (hts (.initialized RX5) (by decide +kernel)) hK hP hD hS hA rfl (dfX5) (Nat.le_of_ble_eq_true rfl) (Nat.le_of_ble_eq_true rfl) dX1_init_26 (fun q_94 H hP hD hS => ?_)
  have hP : va_P (dC, dI) vwCl [(q, .inr (1, [.int 0, .int 0, .int 0, .ref q_1, .null])), (q_1, .inl (k_2, 16, .inr (.inr (.inr (.inr (f_92)))))), (q_94, .inr (5, [.int 0, .int 0, .int 0, .int 0, .int 0, .null, .null]))] H := hP
  have hD : va_D A [(q, .inr (1, [.int 0, .int 0, .int 0, .ref q_1, .null])), (q_1, .inl (k_2, 16, .inr (.inr (.inr (.inr (f_92)))))), (q_94, .inr (5, [.int 0, .int 0, .int 0, .int 0, .int 0, .null, .null]))] := hD
  refine W.widen (k := 47) (n := 398) (Nat.le_of_ble_eq_true rfl) (Nat.le_of_ble_eq_true rfl) ?_
  refine lv_dup hx hb dX1_init_29 rfl ?_
  have hPc := hP.sub (ws' := [(q_94, .inr (5, [.int 0, .int 0, .int 0, .int 0, .int 0, .null, .null]))]) [2] rfl
  have hDc := hD.sub (ws' := [(q_94, .inr (5, [.int 0, .int 0, .int 0, .int 0, .int 0, .null, .null]))]) [2] (by decide) rfl
  have hKc := hK.sub (tys' := []) [] rfl
  have hFc := va_free (wc := [(q_94, .inr (5, [.int 0, .int 0, .int 0, .int 0, .int 0, .null, .null]))]) hD hS hA [2] rfl
  refine va_callv (va_runI (As := []) (rest := [.ref q_94, .int 15, .ref q_1]) ⟨hx, hb, hml, hown, hts⟩ (c_X5_init l dC dI H.size q_94 ) (cwI 0 hts gX1_init_X5_init rfl rfl rfl (hts (.initialized RX5) (by decide +kernel)) (hts (.methodLink RX1 17 yX5_init) (by decide +kernel)) (hts (.instanceMethod yX5_init) (by decide +kernel)) rfl (by decide +kernel) ⟨Nat.le_of_ble_eq_true rfl, Nat.le_of_ble_eq_true rfl⟩) ⟨ax_blind (fun _ _ _ _ _ => trivial), ax_pre hPc hKc hDc (fun _ _ => trivial)⟩ rfl rfl hl.1 rfl (lv_room (Nat.le_of_ble_eq_true rfl)) dX1_init_30 ⟨Nat.le_of_ble_eq_true rfl, Nat.le_of_ble_eq_true rfl⟩) hS (fun q _ h => hFc q h) hFc (fun u t H1 locs ht hvm hw hB hz1 hk1 hS => ?_)
  obtain ⟨a_96, b_97, hP1, hK1, hD1⟩ := hB
  rw [ht] at hP1
  have hK1 := va_K.moved hvm.symm hK1
  obtain ⟨hP, hD⟩ := va_join (wr := [(q, .inr (1, [.int 0, .int 0, .int 0, .ref q_1, .null])), (q_1, .inl (k_2, 16, .inr (.inr (.inr (.inr (f_92))))))]) (w1 := [(q_94, .inr (5, [.int 0, .int 0, .int 0, .int 0, .int 0, .ref a_96, .ref b_97]))]) hP hD [2] [0, 1] rfl rfl (by decide) (by decide) hk1 hFc hP1 hD1
  have hK := (hK.sub (tys' := [(k_2, (.object RX5))]) [0] rfl).app hK1
  generalize H1 = H at hP hS ⊢
  have hP : va_P (dC, dI) vwCl [(q, .inr (1, [.int 0, .int 0, .int 0, .ref q_1, .null])), (q_1, .inl (k_2, 16, .inr (.inr (.inr (.inr (f_92)))))), (q_94, .inr (5, [.int 0, .int 0, .int 0, .int 0, .int 0, .ref a_96, .ref b_97]))] H := hP
  have hD : va_D A [(q, .inr (1, [.int 0, .int 0, .int 0, .ref q_1, .null])), (q_1, .inl (k_2, 16, .inr (.inr (.inr (.inr (f_92)))))), (q_94, .inr (5, [.int 0, .int 0, .int 0, .int 0, .int 0, .ref a_96, .ref b_97]))] := hD
  have hK : va_K (dC, dI) vwCl [(k_2, (.object RX5))] s := hK
  refine W.widen (k := 49) (n := 416) (Nat.le_of_ble_eq_true rfl) (Nat.le_of_ble_eq_true rfl) ?_
  refine va_astq hx hb hK hP hD hS 1 0 2 5 (r := (RX5, TX5, 7)) rfl rfl rfl rfl (by unfold vp_in; decide +kernel) dX1_init_33 (fun H locs hP hD hS => ?_)
  obtain ⟨f_98, hP, hD⟩ : ∃ f_98 : Nat → Option Nat, va_P (dC, dI) vwCl [(q, .inr (1, [.int 0, .int 0, .int 0, .ref q_1, .null])), (q_1, .inl (k_2, 16, .inr (.inr (.inr (.inr (f_98)))))), (q_94, .inr (5, [.int 0, .int 0, .int 0, .int 0, .int 0, .ref a_96, .ref b_97]))] H ∧ va_D A [(q, .inr (1, [.int 0, .int 0, .int 0, .ref q_1, .null])), (q_1, .inl (k_2, 16, .inr (.inr (.inr (.inr (f_98)))))), (q_94, .inr (5, [.int 0, .int 0, .int 0, .int 0, .int 0, .ref a_96, .ref b_97]))] := ⟨_, hP, hD⟩
  have hP := hP.sub (ws' := [(q, .inr (1, [.int 0, .int 0, .int 0, .ref q_1, .null])), (q_1, .inl (k_2, 16, .inr (.inr (.inr (.inr (f_98))))))]) [0, 1] rfl
  have hD := hD.sub (ws' := [(q, .inr (1, [.int 0, .int 0, .int 0, .ref q_1, .null])), (q_1, .inl (k_2, 16, .inr (.inr (.inr (.inr (f_98))))))]) [0, 1] (by decide) rfl
  have hK := hK.sub (tys' := [(k_2, (.object RX5))]) [0] rfl
  refine lv_iinc (v := 16) (lv' := [(1, .int 16), (0, .ref q)]) hx hb dX1_init_34 hl (k := 0) rfl (by decide +kernel) (by decide) rfl (fun ls hl => ?_)
  refine lv_goto (tgt := 15) hx hb dX1_init_37 (by decide) ?_
  refine lv_iload_n hx hb dX1_init_15 rfl (lv_at hl 0 rfl) ?_
  refine lv_bipush (v := 16) hx hb dX1_init_16 (by decide) ?_
  refine lv_icmp_ge (tgt := 40) hx hb dX1_init_18 (by decide) (fun _ => ?_) (fun c_99 => absurd (by decide +kernel) c_99)
  refine lv_aload_n hx hb dX1_init_40 rfl (lv_at hl 1 rfl) ?_
  refine lv_iconst (v := 3) hx hb dX1_init_41 (by decide) ?_
  refine va_newq (C := RX5) (N' := 3) hx hb hown (hts (.classLink RX1 9 RX5) (by decide +kernel)) hE0 hK hP hD hS hA (by decide +kernel) (by decide +kernel) (Nat.le_of_ble_eq_true rfl) (Nat.le_of_ble_eq_true rfl) (Nat.le_of_ble_eq_true rfl) dX1_init_42 (fun q_100 k_101 H hK hP hD hS => ?_)
  have hP : va_P (dC, dI) vwCl [(q, .inr (1, [.int 0, .int 0, .int 0, .ref q_1, .null])), (q_1, .inl (k_2, 16, .inr (.inr (.inr (.inr (f_98)))))), (q_100, .inl (k_101, 3, .inr (.inr (.inr (.inr (fun _ => none))))))] H := hP
  have hD : va_D A [(q, .inr (1, [.int 0, .int 0, .int 0, .ref q_1, .null])), (q_1, .inl (k_2, 16, .inr (.inr (.inr (.inr (f_98)))))), (q_100, .inl (k_101, 3, .inr (.inr (.inr (.inr (fun _ => none))))))] := hD
  have hK : va_K (dC, dI) vwCl [(k_2, (.object RX5)), (k_101, (.object RX5))] s := hK
  refine W.widen (k := 50) (n := 419) (Nat.le_of_ble_eq_true rfl) (Nat.le_of_ble_eq_true rfl) ?_
  refine va_putF (D := (dC, dI)) (ci := 1) (v := .ref q_100) (ty := (.array (.object "WaxTurns$Scene"))) (C := RX1) (T := TX1) (N := 5) hx hb hts (by decide +kernel) tyX1 tyX1_ok nmX1 hown hK hP hD hS 0 rfl rfl 4 (by decide) (hts (.fieldLink RX1 18 "WaxTurns$History" "images" "[LWaxTurns$Scene;") (by decide +kernel)) (fun _ h9 => h9) rfl hin rfl (by decide +kernel) rfl rfl (Nat.le_of_ble_eq_true rfl) dX1_init_45 (fun H locs hP hD hS => ?_)
  have hP : va_P (dC, dI) vwCl [(q, .inr (1, [.int 0, .int 0, .int 0, .ref q_1, .ref q_100])), (q_1, .inl (k_2, 16, .inr (.inr (.inr (.inr (f_98)))))), (q_100, .inl (k_101, 3, .inr (.inr (.inr (.inr (fun _ => none))))))] H := hP
  have hD : va_D A [(q, .inr (1, [.int 0, .int 0, .int 0, .ref q_1, .ref q_100])), (q_1, .inl (k_2, 16, .inr (.inr (.inr (.inr (f_98)))))), (q_100, .inl (k_101, 3, .inr (.inr (.inr (.inr (fun _ => none))))))] := hD
  refine lv_iconst (v := 0) hx hb dX1_init_48 (by decide) ?_
  refine lv_istore_n (lv' := [(1, .int 0), (0, .ref q)]) hx hb dX1_init_49 rfl hl (by decide) rfl (fun ls hl => ?_)
  refine lv_iload_n hx hb dX1_init_50 rfl (lv_at hl 0 rfl) ?_
  refine lv_iconst (v := 3) hx hb dX1_init_51 (by decide) ?_
  refine lv_icmp_ge (tgt := 74) hx hb dX1_init_52 (by decide) (fun c_102 => absurd c_102 (by decide +kernel)) (fun _ => ?_)
  refine lv_aload_n hx hb dX1_init_55 rfl (lv_at hl 1 rfl) ?_
  refine va_get (D := (dC, dI)) (ci := 1) (v := .ref q_100) (C := RX1) (T := TX1) (N := 5) hx hb hts (by decide +kernel) hown hK hP 0 rfl rfl 4 (by decide) (hts (.fieldLink RX1 18 "WaxTurns$History" "images" "[LWaxTurns$Scene;") (by decide +kernel)) (fun _ h9 => h9) rfl dX1_init_56 ?_
  refine lv_iload_n hx hb dX1_init_59 rfl (lv_at hl 0 rfl) ?_
  refine va_new (ci := 5) (fs := [.int 0, .int 0, .int 0, .int 0, .int 0, .null, .null]) (C := RX5) (T := TX5) (N := 7) hx hb hts (by decide +kernel) tyX5 tyX5_ok hown (hts (.classLink RX1 9 RX5) (by decide +kernel)) (hts (.instantiable RX5 7) (by decide +kernel)) (hts (.initialized RX5) (by decide +kernel)) hK hP hD hS hA rfl (dfX5) (Nat.le_of_ble_eq_true rfl) (Nat.le_of_ble_eq_true rfl) dX1_init_60 (fun q_103 H hP hD hS => ?_)
  have hP : va_P (dC, dI) vwCl [(q, .inr (1, [.int 0, .int 0, .int 0, .ref q_1, .ref q_100])), (q_1, .inl (k_2, 16, .inr (.inr (.inr (.inr (f_98)))))), (q_100, .inl (k_101, 3, .inr (.inr (.inr (.inr (fun _ => none)))))), (q_103, .inr (5, [.int 0, .int 0, .int 0, .int 0, .int 0, .null, .null]))] H := hP
  have hD : va_D A [(q, .inr (1, [.int 0, .int 0, .int 0, .ref q_1, .ref q_100])), (q_1, .inl (k_2, 16, .inr (.inr (.inr (.inr (f_98)))))), (q_100, .inl (k_101, 3, .inr (.inr (.inr (.inr (fun _ => none)))))), (q_103, .inr (5, [.int 0, .int 0, .int 0, .int 0, .int 0, .null, .null]))] := hD
  refine W.widen (k := 51) (n := 426) (Nat.le_of_ble_eq_true rfl) (Nat.le_of_ble_eq_true rfl) ?_
  refine lv_dup hx hb dX1_init_63 rfl ?_
  have hPc := hP.sub (ws' := [(q_103, .inr (5, [.int 0, .int 0, .int 0, .int 0, .int 0, .null, .null]))]) [3] rfl
  have hDc := hD.sub (ws' := [(q_103, .inr (5, [.int 0, .int 0, .int 0, .int 0, .int 0, .null, .null]))]) [3] (by decide) rfl
  have hKc := hK.sub (tys' := []) [] rfl
  have hFc := va_free (wc := [(q_103, .inr (5, [.int 0, .int 0, .int 0, .int 0, .int 0, .null, .null]))]) hD hS hA [3] rfl
  refine va_callv (va_runI (As := []) (rest := [.ref q_103, .int 0, .ref q_100]) ⟨hx, hb, hml, hown, hts⟩ (c_X5_init l dC dI H.size q_103 ) (cwI 0 hts gX1_init_X5_init rfl rfl rfl (hts (.initialized RX5) (by decide +kernel)) (hts (.methodLink RX1 17 yX5_init) (by decide +kernel)) (hts (.instanceMethod yX5_init) (by decide +kernel)) rfl (by decide +kernel) ⟨Nat.le_of_ble_eq_true rfl, Nat.le_of_ble_eq_true rfl⟩) ⟨ax_blind (fun _ _ _ _ _ => trivial), ax_pre hPc hKc hDc (fun _ _ => trivial)⟩ rfl rfl hl.1 rfl (lv_room (Nat.le_of_ble_eq_true rfl)) dX1_init_64 ⟨Nat.le_of_ble_eq_true rfl, Nat.le_of_ble_eq_true rfl⟩) hS (fun q _ h => hFc q h) hFc (fun u t H1 locs ht hvm hw hB hz1 hk1 hS => ?_)
  obtain ⟨a_105, b_106, hP1, hK1, hD1⟩ := hB
  rw [ht] at hP1
  have hK1 := va_K.moved hvm.symm hK1
  obtain ⟨hP, hD⟩ := va_join (wr := [(q, .inr (1, [.int 0, .int 0, .int 0, .ref q_1, .ref q_100])), (q_1, .inl (k_2, 16, .inr (.inr (.inr (.inr (f_98)))))), (q_100, .inl (k_101, 3, .inr (.inr (.inr (.inr (fun _ => none))))))]) (w1 := [(q_103, .inr (5, [.int 0, .int 0, .int 0, .int 0, .int 0, .ref a_105, .ref b_106]))]) hP hD [3] [0, 1, 2] rfl rfl (by decide) (by decide) hk1 hFc hP1 hD1
  have hK := (hK.sub (tys' := [(k_2, (.object RX5)), (k_101, (.object RX5))]) [0, 1] rfl).app hK1
  generalize H1 = H at hP hS ⊢
  have hP : va_P (dC, dI) vwCl [(q, .inr (1, [.int 0, .int 0, .int 0, .ref q_1, .ref q_100])), (q_1, .inl (k_2, 16, .inr (.inr (.inr (.inr (f_98)))))), (q_100, .inl (k_101, 3, .inr (.inr (.inr (.inr (fun _ => none)))))), (q_103, .inr (5, [.int 0, .int 0, .int 0, .int 0, .int 0, .ref a_105, .ref b_106]))] H := hP
  have hD : va_D A [(q, .inr (1, [.int 0, .int 0, .int 0, .ref q_1, .ref q_100])), (q_1, .inl (k_2, 16, .inr (.inr (.inr (.inr (f_98)))))), (q_100, .inl (k_101, 3, .inr (.inr (.inr (.inr (fun _ => none)))))), (q_103, .inr (5, [.int 0, .int 0, .int 0, .int 0, .int 0, .ref a_105, .ref b_106]))] := hD
  have hK : va_K (dC, dI) vwCl [(k_2, (.object RX5)), (k_101, (.object RX5))] s := hK
  refine W.widen (k := 53) (n := 444) (Nat.le_of_ble_eq_true rfl) (Nat.le_of_ble_eq_true rfl) ?_
  refine va_astq hx hb hK hP hD hS 2 1 3 5 (r := (RX5, TX5, 7)) rfl rfl rfl rfl (by unfold vp_in; decide +kernel) dX1_init_67 (fun H locs hP hD hS => ?_)
  obtain ⟨f_107, hP, hD⟩ : ∃ f_107 : Nat → Option Nat, va_P (dC, dI) vwCl [(q, .inr (1, [.int 0, .int 0, .int 0, .ref q_1, .ref q_100])), (q_1, .inl (k_2, 16, .inr (.inr (.inr (.inr (f_98)))))), (q_100, .inl (k_101, 3, .inr (.inr (.inr (.inr (f_107)))))), (q_103, .inr (5, [.int 0, .int 0, .int 0, .int 0, .int 0, .ref a_105, .ref b_106]))] H ∧ va_D A [(q, .inr (1, [.int 0, .int 0, .int 0, .ref q_1, .ref q_100])), (q_1, .inl (k_2, 16, .inr (.inr (.inr (.inr (f_98)))))), (q_100, .inl (k_101, 3, .inr (.inr (.inr (.inr (f_107)))))), (q_103, .inr (5, [.int 0, .int 0, .int 0, .int 0, .int 0, .ref a_105, .ref b_106]))] := ⟨_, hP, hD⟩
  have hP := hP.sub (ws' := [(q, .inr (1, [.int 0, .int 0, .int 0, .ref q_1, .ref q_100])), (q_1, .inl (k_2, 16, .inr (.inr (.inr (.inr (f_98)))))), (q_100, .inl (k_101, 3, .inr (.inr (.inr (.inr (f_107))))))]) [0, 1, 2] rfl
  have hD := hD.sub (ws' := [(q, .inr (1, [.int 0, .int 0, .int 0, .ref q_1, .ref q_100])), (q_1, .inl (k_2, 16, .inr (.inr (.inr (.inr (f_98)))))), (q_100, .inl (k_101, 3, .inr (.inr (.inr (.inr (f_107))))))]) [0, 1, 2] (by decide) rfl
  have hK := hK.sub (tys' := [(k_2, (.object RX5)), (k_101, (.object RX5))]) [0, 1] rfl
  refine lv_iinc (v := 1) (lv' := [(1, .int 1), (0, .ref q)]) hx hb dX1_init_68 hl (k := 0) rfl (by decide +kernel) (by decide) rfl (fun ls hl => ?_)
  refine lv_goto (tgt := 50) hx hb dX1_init_71 (by decide) ?_
  refine lv_iload_n hx hb dX1_init_50 rfl (lv_at hl 0 rfl) ?_
  refine lv_iconst (v := 3) hx hb dX1_init_51 (by decide) ?_
  refine lv_icmp_ge (tgt := 74) hx hb dX1_init_52 (by decide) (fun c_108 => absurd c_108 (by decide +kernel)) (fun _ => ?_)
  refine lv_aload_n hx hb dX1_init_55 rfl (lv_at hl 1 rfl) ?_
  refine va_get (D := (dC, dI)) (ci := 1) (v := .ref q_100) (C := RX1) (T := TX1) (N := 5) hx hb hts (by decide +kernel) hown hK hP 0 rfl rfl 4 (by decide) (hts (.fieldLink RX1 18 "WaxTurns$History" "images" "[LWaxTurns$Scene;") (by decide +kernel)) (fun _ h9 => h9) rfl dX1_init_56 ?_
  refine lv_iload_n hx hb dX1_init_59 rfl (lv_at hl 0 rfl) ?_
  refine va_new (ci := 5) (fs := [.int 0, .int 0, .int 0, .int 0, .int 0, .null, .null]) (C := RX5) (T := TX5) (N := 7) hx hb hts (by decide +kernel) tyX5 tyX5_ok hown (hts (.classLink RX1 9 RX5) (by decide +kernel)) (hts (.instantiable RX5 7) (by decide +kernel)) (hts (.initialized RX5) (by decide +kernel)) hK hP hD hS hA rfl (dfX5) (Nat.le_of_ble_eq_true rfl) (Nat.le_of_ble_eq_true rfl) dX1_init_60 (fun q_109 H hP hD hS => ?_)
  have hP : va_P (dC, dI) vwCl [(q, .inr (1, [.int 0, .int 0, .int 0, .ref q_1, .ref q_100])), (q_1, .inl (k_2, 16, .inr (.inr (.inr (.inr (f_98)))))), (q_100, .inl (k_101, 3, .inr (.inr (.inr (.inr (f_107)))))), (q_109, .inr (5, [.int 0, .int 0, .int 0, .int 0, .int 0, .null, .null]))] H := hP
  have hD : va_D A [(q, .inr (1, [.int 0, .int 0, .int 0, .ref q_1, .ref q_100])), (q_1, .inl (k_2, 16, .inr (.inr (.inr (.inr (f_98)))))), (q_100, .inl (k_101, 3, .inr (.inr (.inr (.inr (f_107)))))), (q_109, .inr (5, [.int 0, .int 0, .int 0, .int 0, .int 0, .null, .null]))] := hD
  refine W.widen (k := 54) (n := 451) (Nat.le_of_ble_eq_true rfl) (Nat.le_of_ble_eq_true rfl) ?_
  refine lv_dup hx hb dX1_init_63 rfl ?_
  have hPc := hP.sub (ws' := [(q_109, .inr (5, [.int 0, .int 0, .int 0, .int 0, .int 0, .null, .null]))]) [3] rfl
  have hDc := hD.sub (ws' := [(q_109, .inr (5, [.int 0, .int 0, .int 0, .int 0, .int 0, .null, .null]))]) [3] (by decide) rfl
  have hKc := hK.sub (tys' := []) [] rfl
  have hFc := va_free (wc := [(q_109, .inr (5, [.int 0, .int 0, .int 0, .int 0, .int 0, .null, .null]))]) hD hS hA [3] rfl
  refine va_callv (va_runI (As := []) (rest := [.ref q_109, .int 1, .ref q_100]) ⟨hx, hb, hml, hown, hts⟩ (c_X5_init l dC dI H.size q_109 ) (cwI 0 hts gX1_init_X5_init rfl rfl rfl (hts (.initialized RX5) (by decide +kernel)) (hts (.methodLink RX1 17 yX5_init) (by decide +kernel)) (hts (.instanceMethod yX5_init) (by decide +kernel)) rfl (by decide +kernel) ⟨Nat.le_of_ble_eq_true rfl, Nat.le_of_ble_eq_true rfl⟩) ⟨ax_blind (fun _ _ _ _ _ => trivial), ax_pre hPc hKc hDc (fun _ _ => trivial)⟩ rfl rfl hl.1 rfl (lv_room (Nat.le_of_ble_eq_true rfl)) dX1_init_64 ⟨Nat.le_of_ble_eq_true rfl, Nat.le_of_ble_eq_true rfl⟩) hS (fun q _ h => hFc q h) hFc (fun u t H1 locs ht hvm hw hB hz1 hk1 hS => ?_)
  obtain ⟨a_111, b_112, hP1, hK1, hD1⟩ := hB
  rw [ht] at hP1
  have hK1 := va_K.moved hvm.symm hK1
  obtain ⟨hP, hD⟩ := va_join (wr := [(q, .inr (1, [.int 0, .int 0, .int 0, .ref q_1, .ref q_100])), (q_1, .inl (k_2, 16, .inr (.inr (.inr (.inr (f_98)))))), (q_100, .inl (k_101, 3, .inr (.inr (.inr (.inr (f_107))))))]) (w1 := [(q_109, .inr (5, [.int 0, .int 0, .int 0, .int 0, .int 0, .ref a_111, .ref b_112]))]) hP hD [3] [0, 1, 2] rfl rfl (by decide) (by decide) hk1 hFc hP1 hD1
  have hK := (hK.sub (tys' := [(k_2, (.object RX5)), (k_101, (.object RX5))]) [0, 1] rfl).app hK1
  generalize H1 = H at hP hS ⊢
  have hP : va_P (dC, dI) vwCl [(q, .inr (1, [.int 0, .int 0, .int 0, .ref q_1, .ref q_100])), (q_1, .inl (k_2, 16, .inr (.inr (.inr (.inr (f_98)))))), (q_100, .inl (k_101, 3, .inr (.inr (.inr (.inr (f_107)))))), (q_109, .inr (5, [.int 0, .int 0, .int 0, .int 0, .int 0, .ref a_111, .ref b_112]))] H := hP
  have hD : va_D A [(q, .inr (1, [.int 0, .int 0, .int 0, .ref q_1, .ref q_100])), (q_1, .inl (k_2, 16, .inr (.inr (.inr (.inr (f_98)))))), (q_100, .inl (k_101, 3, .inr (.inr (.inr (.inr (f_107)))))), (q_109, .inr (5, [.int 0, .int 0, .int 0, .int 0, .int 0, .ref a_111, .ref b_112]))] := hD
  have hK : va_K (dC, dI) vwCl [(k_2, (.object RX5)), (k_101, (.object RX5))] s := hK
  refine W.widen (k := 56) (n := 469) (Nat.le_of_ble_eq_true rfl) (Nat.le_of_ble_eq_true rfl) ?_
  refine va_astq hx hb hK hP hD hS 2 1 3 5 (r := (RX5, TX5, 7)) rfl rfl rfl rfl (by unfold vp_in; decide +kernel) dX1_init_67 (fun H locs hP hD hS => ?_)
  obtain ⟨f_113, hP, hD⟩ : ∃ f_113 : Nat → Option Nat, va_P (dC, dI) vwCl [(q, .inr (1, [.int 0, .int 0, .int 0, .ref q_1, .ref q_100])), (q_1, .inl (k_2, 16, .inr (.inr (.inr (.inr (f_98)))))), (q_100, .inl (k_101, 3, .inr (.inr (.inr (.inr (f_113)))))), (q_109, .inr (5, [.int 0, .int 0, .int 0, .int 0, .int 0, .ref a_111, .ref b_112]))] H ∧ va_D A [(q, .inr (1, [.int 0, .int 0, .int 0, .ref q_1, .ref q_100])), (q_1, .inl (k_2, 16, .inr (.inr (.inr (.inr (f_98)))))), (q_100, .inl (k_101, 3, .inr (.inr (.inr (.inr (f_113)))))), (q_109, .inr (5, [.int 0, .int 0, .int 0, .int 0, .int 0, .ref a_111, .ref b_112]))] := ⟨_, hP, hD⟩
  have hP := hP.sub (ws' := [(q, .inr (1, [.int 0, .int 0, .int 0, .ref q_1, .ref q_100])), (q_1, .inl (k_2, 16, .inr (.inr (.inr (.inr (f_98)))))), (q_100, .inl (k_101, 3, .inr (.inr (.inr (.inr (f_113))))))]) [0, 1, 2] rfl
  have hD := hD.sub (ws' := [(q, .inr (1, [.int 0, .int 0, .int 0, .ref q_1, .ref q_100])), (q_1, .inl (k_2, 16, .inr (.inr (.inr (.inr (f_98)))))), (q_100, .inl (k_101, 3, .inr (.inr (.inr (.inr (f_113))))))]) [0, 1, 2] (by decide) rfl
  have hK := hK.sub (tys' := [(k_2, (.object RX5)), (k_101, (.object RX5))]) [0, 1] rfl
  refine lv_iinc (v := 2) (lv' := [(1, .int 2), (0, .ref q)]) hx hb dX1_init_68 hl (k := 0) rfl (by decide +kernel) (by decide) rfl (fun ls hl => ?_)
  refine lv_goto (tgt := 50) hx hb dX1_init_71 (by decide) ?_
  refine lv_iload_n hx hb dX1_init_50 rfl (lv_at hl 0 rfl) ?_
  refine lv_iconst (v := 3) hx hb dX1_init_51 (by decide) ?_
  refine lv_icmp_ge (tgt := 74) hx hb dX1_init_52 (by decide) (fun c_114 => absurd c_114 (by decide +kernel)) (fun _ => ?_)
  refine lv_aload_n hx hb dX1_init_55 rfl (lv_at hl 1 rfl) ?_
  refine va_get (D := (dC, dI)) (ci := 1) (v := .ref q_100) (C := RX1) (T := TX1) (N := 5) hx hb hts (by decide +kernel) hown hK hP 0 rfl rfl 4 (by decide) (hts (.fieldLink RX1 18 "WaxTurns$History" "images" "[LWaxTurns$Scene;") (by decide +kernel)) (fun _ h9 => h9) rfl dX1_init_56 ?_
  refine lv_iload_n hx hb dX1_init_59 rfl (lv_at hl 0 rfl) ?_
  refine va_new (ci := 5) (fs := [.int 0, .int 0, .int 0, .int 0, .int 0, .null, .null]) (C := RX5) (T := TX5) (N := 7) hx hb hts (by decide +kernel) tyX5 tyX5_ok hown (hts (.classLink RX1 9 RX5) (by decide +kernel)) (hts (.instantiable RX5 7) (by decide +kernel)) (hts (.initialized RX5) (by decide +kernel)) hK hP hD hS hA rfl (dfX5) (Nat.le_of_ble_eq_true rfl) (Nat.le_of_ble_eq_true rfl) dX1_init_60 (fun q_115 H hP hD hS => ?_)
  have hP : va_P (dC, dI) vwCl [(q, .inr (1, [.int 0, .int 0, .int 0, .ref q_1, .ref q_100])), (q_1, .inl (k_2, 16, .inr (.inr (.inr (.inr (f_98)))))), (q_100, .inl (k_101, 3, .inr (.inr (.inr (.inr (f_113)))))), (q_115, .inr (5, [.int 0, .int 0, .int 0, .int 0, .int 0, .null, .null]))] H := hP
  have hD : va_D A [(q, .inr (1, [.int 0, .int 0, .int 0, .ref q_1, .ref q_100])), (q_1, .inl (k_2, 16, .inr (.inr (.inr (.inr (f_98)))))), (q_100, .inl (k_101, 3, .inr (.inr (.inr (.inr (f_113)))))), (q_115, .inr (5, [.int 0, .int 0, .int 0, .int 0, .int 0, .null, .null]))] := hD
  refine W.widen (k := 57) (n := 476) (Nat.le_of_ble_eq_true rfl) (Nat.le_of_ble_eq_true rfl) ?_
  refine lv_dup hx hb dX1_init_63 rfl ?_
  have hPc := hP.sub (ws' := [(q_115, .inr (5, [.int 0, .int 0, .int 0, .int 0, .int 0, .null, .null]))]) [3] rfl
  have hDc := hD.sub (ws' := [(q_115, .inr (5, [.int 0, .int 0, .int 0, .int 0, .int 0, .null, .null]))]) [3] (by decide) rfl
  have hKc := hK.sub (tys' := []) [] rfl
  have hFc := va_free (wc := [(q_115, .inr (5, [.int 0, .int 0, .int 0, .int 0, .int 0, .null, .null]))]) hD hS hA [3] rfl
  refine va_callv (va_runI (As := []) (rest := [.ref q_115, .int 2, .ref q_100]) ⟨hx, hb, hml, hown, hts⟩ (c_X5_init l dC dI H.size q_115 ) (cwI 0 hts gX1_init_X5_init rfl rfl rfl (hts (.initialized RX5) (by decide +kernel)) (hts (.methodLink RX1 17 yX5_init) (by decide +kernel)) (hts (.instanceMethod yX5_init) (by decide +kernel)) rfl (by decide +kernel) ⟨Nat.le_of_ble_eq_true rfl, Nat.le_of_ble_eq_true rfl⟩) ⟨ax_blind (fun _ _ _ _ _ => trivial), ax_pre hPc hKc hDc (fun _ _ => trivial)⟩ rfl rfl hl.1 rfl (lv_room (Nat.le_of_ble_eq_true rfl)) dX1_init_64 ⟨Nat.le_of_ble_eq_true rfl, Nat.le_of_ble_eq_true rfl⟩) hS (fun q _ h => hFc q h) hFc (fun u t H1 locs ht hvm hw hB hz1 hk1 hS => ?_)
  obtain ⟨a_117, b_118, hP1, hK1, hD1⟩ := hB
  rw [ht] at hP1
  have hK1 := va_K.moved hvm.symm hK1
  obtain ⟨hP, hD⟩ := va_join (wr := [(q, .inr (1, [.int 0, .int 0, .int 0, .ref q_1, .ref q_100])), (q_1, .inl (k_2, 16, .inr (.inr (.inr (.inr (f_98)))))), (q_100, .inl (k_101, 3, .inr (.inr (.inr (.inr (f_113))))))]) (w1 := [(q_115, .inr (5, [.int 0, .int 0, .int 0, .int 0, .int 0, .ref a_117, .ref b_118]))]) hP hD [3] [0, 1, 2] rfl rfl (by decide) (by decide) hk1 hFc hP1 hD1
  have hK := (hK.sub (tys' := [(k_2, (.object RX5)), (k_101, (.object RX5))]) [0, 1] rfl).app hK1
  generalize H1 = H at hP hS ⊢
  have hP : va_P (dC, dI) vwCl [(q, .inr (1, [.int 0, .int 0, .int 0, .ref q_1, .ref q_100])), (q_1, .inl (k_2, 16, .inr (.inr (.inr (.inr (f_98)))))), (q_100, .inl (k_101, 3, .inr (.inr (.inr (.inr (f_113)))))), (q_115, .inr (5, [.int 0, .int 0, .int 0, .int 0, .int 0, .ref a_117, .ref b_118]))] H := hP
  have hD : va_D A [(q, .inr (1, [.int 0, .int 0, .int 0, .ref q_1, .ref q_100])), (q_1, .inl (k_2, 16, .inr (.inr (.inr (.inr (f_98)))))), (q_100, .inl (k_101, 3, .inr (.inr (.inr (.inr (f_113)))))), (q_115, .inr (5, [.int 0, .int 0, .int 0, .int 0, .int 0, .ref a_117, .ref b_118]))] := hD
  have hK : va_K (dC, dI) vwCl [(k_2, (.object RX5)), (k_101, (.object RX5))] s := hK
  refine W.widen (k := 59) (n := 494) (Nat.le_of_ble_eq_true rfl) (Nat.le_of_ble_eq_true rfl) ?_
  refine va_astq hx hb hK hP hD hS 2 1 3 5 (r := (RX5, TX5, 7)) rfl rfl rfl rfl (by unfold vp_in; decide +kernel) dX1_init_67 (fun H locs hP hD hS => ?_)
  obtain ⟨f_119, hP, hD⟩ : ∃ f_119 : Nat → Option Nat, va_P (dC, dI) vwCl [(q, .inr (1, [.int 0, .int 0, .int 0, .ref q_1, .ref q_100])), (q_1, .inl (k_2, 16, .inr (.inr (.inr (.inr (f_98)))))), (q_100, .inl (k_101, 3, .inr (.inr (.inr (.inr (f_119)))))), (q_115, .inr (5, [.int 0, .int 0, .int 0, .int 0, .int 0, .ref a_117, .ref b_118]))] H ∧ va_D A [(q, .inr (1, [.int 0, .int 0, .int 0, .ref q_1, .ref q_100])), (q_1, .inl (k_2, 16, .inr (.inr (.inr (.inr (f_98)))))), (q_100, .inl (k_101, 3, .inr (.inr (.inr (.inr (f_119)))))), (q_115, .inr (5, [.int 0, .int 0, .int 0, .int 0, .int 0, .ref a_117, .ref b_118]))] := ⟨_, hP, hD⟩
  have hP := hP.sub (ws' := [(q, .inr (1, [.int 0, .int 0, .int 0, .ref q_1, .ref q_100])), (q_1, .inl (k_2, 16, .inr (.inr (.inr (.inr (f_98)))))), (q_100, .inl (k_101, 3, .inr (.inr (.inr (.inr (f_119))))))]) [0, 1, 2] rfl
  have hD := hD.sub (ws' := [(q, .inr (1, [.int 0, .int 0, .int 0, .ref q_1, .ref q_100])), (q_1, .inl (k_2, 16, .inr (.inr (.inr (.inr (f_98)))))), (q_100, .inl (k_101, 3, .inr (.inr (.inr (.inr (f_119))))))]) [0, 1, 2] (by decide) rfl
  have hK := hK.sub (tys' := [(k_2, (.object RX5)), (k_101, (.object RX5))]) [0, 1] rfl
  refine lv_iinc (v := 3) (lv' := [(1, .int 3), (0, .ref q)]) hx hb dX1_init_68 hl (k := 0) rfl (by decide +kernel) (by decide) rfl (fun ls hl => ?_)
  refine lv_goto (tgt := 50) hx hb dX1_init_71 (by decide) ?_
  refine lv_iload_n hx hb dX1_init_50 rfl (lv_at hl 0 rfl) ?_
  refine lv_iconst (v := 3) hx hb dX1_init_51 (by decide) ?_
  refine lv_icmp_ge (tgt := 74) hx hb dX1_init_52 (by decide) (fun _ => ?_) (fun c_120 => absurd (by decide +kernel) c_120)
  have hP9 := hP.sub (ws' := [(q, .inr (1, [.int 0, .int 0, .int 0, .ref q_1, .ref q_100]))]) [0] rfl
  have hD9 := hD.sub (ws' := [(q, .inr (1, [.int 0, .int 0, .int 0, .ref q_1, .ref q_100]))]) [0] (by decide) rfl
  have hK9 := hK.sub (tys' := []) [] rfl
  exact W.vret hx hb hr (fun t ht hW => ⟨⟨(), rfl, trivial, q_1, q_100, by rw [ht]; exact hP9, va_K.moved hW.alike hK9, hD9⟩, hS.F ht⟩) hS.2.2 dX1_init_74

set_option maxHeartbeats 4000000 in
set_option maxRecDepth 100000 in
theorem c_X3_init (l : Launch) (dC : Nat → ClassId) (dI : Nat → Nat → Nat) (sz : Nat) (q : Nat) : Met l yX3_init wsX3_init ({ frames := 3, cells := 10, slots := 967, locals := 64 }) (va_Pc [.ref q] (ax_C dC dI sz [(q, .inr (3, [.int 0, .int 0, .int 0, .null, .null, .null, .int 0, .int 0, .int 0, .int 0, .int 0, .long 0, .int 0, .int 0]))] [] (fun _ => True))) (va_Qv (fun (_ : Unit) => True) (fun (_ : Unit) (t : State) => ∃ (tp : Nat) (nm : Nat) (dr : Nat) (da : Nat) (db : Nat) (dc : Nat) (dd : Nat) (dw : Nat) (de : Nat) (df : Nat) (kt : ClassId) (ka : ClassId) (kb : ClassId), ax_B dC dI (va_A [(q, .inr (3, [.int 0, .int 0, .int 0, .null, .null, .null, .int 0, .int 0, .int 0, .int 0, .int 0, .long 0, .int 0, .int 0]))] sz) [(q, .inr (3, [.int 0, .int 0, .int 0, .ref tp, .ref nm, .ref dr, .int 0, .int 0, .int 0, .int 0, .int 0, .long 0, .int 0, .int 0])), (tp, .inl (kt, 900, .inl (fun _ => 0))), (dr, .inr (0, [.int 0, .int 0, .int 0, .int 0, .int 0, .int 0, .int 0, .int 0, .int 0, .int 0, .ref da, .ref db, .ref dc, .ref dd, .ref dw])), (dw, .inr (6, [.int 0, .int 0, .ref de, .ref df])), (da, .inl (ka, 9, .inl (fun _ => 0))), (db, .inl (kb, 9, .inl (fun _ => 0)))] [(kt, .byte), (ka, .int), (kb, .int)] t) (va_A [(q, .inr (3, [.int 0, .int 0, .int 0, .null, .null, .null, .int 0, .int 0, .int 0, .int 0, .int 0, .long 0, .int 0, .int 0]))] sz)) 10 967 (va_A [(q, .inr (3, [.int 0, .int 0, .int 0, .null, .null, .null, .int 0, .int 0, .int 0, .int 0, .int 0, .long 0, .int 0, .int 0]))] sz) := by
  refine Met.ofW (cc := cX3_init) (maxL := 1) (ret := none) (by decide) rfl ?_
  intro p e s m args below meth c s₁ B hml hv
  obtain ⟨rfl, hsz, hP, hK, hD0, hE⟩ := hv
  have hx := B.exec
  have hb := B.bytes
  have hr := B.returns
  have hts := atoms_spec (ws := wsX3_init) B.pre
  have hown : s.vm.findClass RX3 = some m.cls := findClass_of_methodNamed B.named
  have hlocks := B.notSynchronized
  have hin : meth.name = "<init>" := (name_of_methodNamed B.named B.method).1
  subst hsz
  have hD := hD0.self (sz := s.heap.size)
  generalize hAe : va_A [(q, .inr (3, [.int 0, .int 0, .int 0, .null, .null, .null, .int 0, .int 0, .int 0, .int 0, .int 0, .long 0, .int 0, .int 0]))] s.heap.size = A at hD ⊢
  have hA : ∀ q : Nat, s.heap.size ≤ q → A q := fun q h => by rw [← hAe]; exact Or.inr h
  have hS : va_S A s.heap s.heap [] := va_S.rf
  have hP : va_P (dC, dI) vwCl [(q, .inr (3, [.int 0, .int 0, .int 0, .null, .null, .null, .int 0, .int 0, .int 0, .int 0, .int 0, .long 0, .int 0, .int 0]))] s.heap := hP
  have hl := lv_entry ([.ref q]) (n := 1) (Nat.le_of_ble_eq_true rfl)
  rw [lg_entry_eq]
  generalize (lg_sl ([.ref q]) ++ List.replicate (1 - (lg_sl ([.ref q])).length) Slot.unset).toArray = ls at hl ⊢
  have hl : lv_has ls 1 [(0, .ref q)] := hl
  refine lv_aload_n hx hb dX3_init_0 rfl (lv_at hl 0 rfl) ?_
  refine W.objInit hx hb hown (hts (.methodLink RX3 3 objectInit) (by decide +kernel)) (hts (.instanceMethod objectInit) (by decide +kernel)) (hts _ (ocXX3_init)) rfl (by rw [hml]; exact hl.1) rfl dX3_init_1 (Nat.le_of_ble_eq_true rfl) (Nat.le_of_ble_eq_true rfl) ?_
  refine W.eq (g2 := F0 m 4 ls []) rfl ?_
  refine lv_aload_n hx hb dX3_init_4 rfl (lv_at hl 0 rfl) ?_
  refine lv_sipush (v := 900) hx hb dX3_init_5 (by decide) ?_
  refine va_newa (atype := .byte) (ty := .byte) (N' := 900) (a0 := (900, .inl (fun _ => 0))) hx hb (hts (.arrayClass .byte) (by decide +kernel)) rfl hK hP hD hS hA (fun _ => rfl) (by decide +kernel) (by decide +kernel) (Nat.le_of_ble_eq_true rfl) (Nat.le_of_ble_eq_true rfl) (Nat.le_of_ble_eq_true rfl) dX3_init_8 (fun q_1 k_2 H hK hP hD hS => ?_)
  have hP : va_P (dC, dI) vwCl [(q, .inr (3, [.int 0, .int 0, .int 0, .null, .null, .null, .int 0, .int 0, .int 0, .int 0, .int 0, .long 0, .int 0, .int 0])), (q_1, .inl (k_2, 900, .inl (fun _ => 0)))] H := hP
  have hD : va_D A [(q, .inr (3, [.int 0, .int 0, .int 0, .null, .null, .null, .int 0, .int 0, .int 0, .int 0, .int 0, .long 0, .int 0, .int 0])), (q_1, .inl (k_2, 900, .inl (fun _ => 0)))] := hD
  have hK : va_K (dC, dI) vwCl [(k_2, .byte)] s := hK
  refine W.widen (k := 1) (n := 900) (Nat.le_of_ble_eq_true rfl) (Nat.le_of_ble_eq_true rfl) ?_
  refine va_putF (D := (dC, dI)) (ci := 3) (v := .ref q_1) (ty := (.array .byte)) (C := RX3) (T := TX3) (N := 14) hx hb hts (by decide +kernel) tyX3 tyX3_ok nmX3 hown hK hP hD hS 0 rfl rfl 3 (by decide) (hts (.fieldLink RX3 9 "WaxTurns$Reade\x72" "tape" "[B") (by decide +kernel)) (fun _ h9 => h9) rfl hin rfl (by decide +kernel) rfl rfl (Nat.le_of_ble_eq_true rfl) dX3_init_10 (fun H locs hP hD hS => ?_)
  have hP : va_P (dC, dI) vwCl [(q, .inr (3, [.int 0, .int 0, .int 0, .ref q_1, .null, .null, .int 0, .int 0, .int 0, .int 0, .int 0, .long 0, .int 0, .int 0])), (q_1, .inl (k_2, 900, .inl (fun _ => 0)))] H := hP
  have hD : va_D A [(q, .inr (3, [.int 0, .int 0, .int 0, .ref q_1, .null, .null, .int 0, .int 0, .int 0, .int 0, .int 0, .long 0, .int 0, .int 0])), (q_1, .inl (k_2, 900, .inl (fun _ => 0)))] := hD
  refine lv_aload_n hx hb dX3_init_13 rfl (lv_at hl 0 rfl) ?_
  refine lv_bipush (v := 12) hx hb dX3_init_14 (by decide) ?_
  refine va_newa (atype := .long) (ty := .long) (N' := 12) (a0 := (12, .inr (.inl (fun _ => 0)))) hx hb (hts (.arrayClass .long) (by decide +kernel)) rfl hK hP hD hS hA (fun _ => rfl) (by decide +kernel) (by decide +kernel) (Nat.le_of_ble_eq_true rfl) (Nat.le_of_ble_eq_true rfl) (Nat.le_of_ble_eq_true rfl) dX3_init_16 (fun q_3 k_4 H hK hP hD hS => ?_)
  have hP : va_P (dC, dI) vwCl [(q, .inr (3, [.int 0, .int 0, .int 0, .ref q_1, .null, .null, .int 0, .int 0, .int 0, .int 0, .int 0, .long 0, .int 0, .int 0])), (q_1, .inl (k_2, 900, .inl (fun _ => 0))), (q_3, .inl (k_4, 12, .inr (.inl (fun _ => 0))))] H := hP
  have hD : va_D A [(q, .inr (3, [.int 0, .int 0, .int 0, .ref q_1, .null, .null, .int 0, .int 0, .int 0, .int 0, .int 0, .long 0, .int 0, .int 0])), (q_1, .inl (k_2, 900, .inl (fun _ => 0))), (q_3, .inl (k_4, 12, .inr (.inl (fun _ => 0))))] := hD
  have hK : va_K (dC, dI) vwCl [(k_2, .byte), (k_4, .long)] s := hK
  refine W.widen (k := 2) (n := 912) (Nat.le_of_ble_eq_true rfl) (Nat.le_of_ble_eq_true rfl) ?_
  refine va_putF (D := (dC, dI)) (ci := 3) (v := .ref q_3) (ty := (.array .long)) (C := RX3) (T := TX3) (N := 14) hx hb hts (by decide +kernel) tyX3 tyX3_ok nmX3 hown hK hP hD hS 0 rfl rfl 4 (by decide) (hts (.fieldLink RX3 15 "WaxTurns$Reade\x72" "names" "[J") (by decide +kernel)) (fun _ h9 => h9) rfl hin rfl (by decide +kernel) rfl rfl (Nat.le_of_ble_eq_true rfl) dX3_init_18 (fun H locs hP hD hS => ?_)
  have hP : va_P (dC, dI) vwCl [(q, .inr (3, [.int 0, .int 0, .int 0, .ref q_1, .ref q_3, .null, .int 0, .int 0, .int 0, .int 0, .int 0, .long 0, .int 0, .int 0])), (q_1, .inl (k_2, 900, .inl (fun _ => 0))), (q_3, .inl (k_4, 12, .inr (.inl (fun _ => 0))))] H := hP
  have hD : va_D A [(q, .inr (3, [.int 0, .int 0, .int 0, .ref q_1, .ref q_3, .null, .int 0, .int 0, .int 0, .int 0, .int 0, .long 0, .int 0, .int 0])), (q_1, .inl (k_2, 900, .inl (fun _ => 0))), (q_3, .inl (k_4, 12, .inr (.inl (fun _ => 0))))] := hD
  refine lv_aload_n hx hb dX3_init_21 rfl (lv_at hl 0 rfl) ?_
  refine va_new (ci := 0) (fs := [.int 0, .int 0, .int 0, .int 0, .int 0, .int 0, .int 0, .int 0, .int 0, .int 0, .null, .null, .null, .null, .null]) (C := RX0) (T := TX0) (N := 15) hx hb hts (by decide +kernel) tyX0 tyX0_ok hown (hts (.classLink RX3 19 RX0) (by decide +kernel)) (hts (.instantiable RX0 15) (by decide +kernel)) (hts (.initialized RX0) (by decide +kernel)) hK hP hD hS hA rfl (dfX0) (Nat.le_of_ble_eq_true rfl) (Nat.le_of_ble_eq_true rfl) dX3_init_22 (fun q_5 H hP hD hS => ?_)
  have hP : va_P (dC, dI) vwCl [(q, .inr (3, [.int 0, .int 0, .int 0, .ref q_1, .ref q_3, .null, .int 0, .int 0, .int 0, .int 0, .int 0, .long 0, .int 0, .int 0])), (q_1, .inl (k_2, 900, .inl (fun _ => 0))), (q_3, .inl (k_4, 12, .inr (.inl (fun _ => 0)))), (q_5, .inr (0, [.int 0, .int 0, .int 0, .int 0, .int 0, .int 0, .int 0, .int 0, .int 0, .int 0, .null, .null, .null, .null, .null]))] H := hP
  have hD : va_D A [(q, .inr (3, [.int 0, .int 0, .int 0, .ref q_1, .ref q_3, .null, .int 0, .int 0, .int 0, .int 0, .int 0, .long 0, .int 0, .int 0])), (q_1, .inl (k_2, 900, .inl (fun _ => 0))), (q_3, .inl (k_4, 12, .inr (.inl (fun _ => 0)))), (q_5, .inr (0, [.int 0, .int 0, .int 0, .int 0, .int 0, .int 0, .int 0, .int 0, .int 0, .int 0, .null, .null, .null, .null, .null]))] := hD
  refine W.widen (k := 3) (n := 927) (Nat.le_of_ble_eq_true rfl) (Nat.le_of_ble_eq_true rfl) ?_
  refine lv_dup hx hb dX3_init_25 rfl ?_
  have hPc := hP.sub (ws' := [(q_5, .inr (0, [.int 0, .int 0, .int 0, .int 0, .int 0, .int 0, .int 0, .int 0, .int 0, .int 0, .null, .null, .null, .null, .null]))]) [3] rfl
  have hDc := hD.sub (ws' := [(q_5, .inr (0, [.int 0, .int 0, .int 0, .int 0, .int 0, .int 0, .int 0, .int 0, .int 0, .int 0, .null, .null, .null, .null, .null]))]) [3] (by decide) rfl
  have hKc := hK.sub (tys' := []) [] rfl
  have hFc := va_free (wc := [(q_5, .inr (0, [.int 0, .int 0, .int 0, .int 0, .int 0, .int 0, .int 0, .int 0, .int 0, .int 0, .null, .null, .null, .null, .null]))]) hD hS hA [3] rfl
  refine va_callv (va_runI (As := []) (rest := [.ref q_5, .ref q]) ⟨hx, hb, hml, hown, hts⟩ (c_X0_init l dC dI H.size q_5 ) (cwI 0 hts gX3_init_X0_init rfl rfl rfl (hts (.initialized RX0) (by decide +kernel)) (hts (.methodLink RX3 21 yX0_init) (by decide +kernel)) (hts (.instanceMethod yX0_init) (by decide +kernel)) rfl (by decide +kernel) ⟨Nat.le_of_ble_eq_true rfl, Nat.le_of_ble_eq_true rfl⟩) ⟨ax_blind (fun _ _ _ _ _ => trivial), ax_pre hPc hKc hDc (fun _ _ => trivial)⟩ rfl rfl hl.1 rfl (lv_room (Nat.le_of_ble_eq_true rfl)) dX3_init_26 ⟨Nat.le_of_ble_eq_true rfl, Nat.le_of_ble_eq_true rfl⟩) hS (fun q _ h => hFc q h) hFc (fun u t H1 locs ht hvm hw hB hz1 hk1 hS => ?_)
  obtain ⟨a_7, b_8, c_9, d_10, w_11, e_12, f_13, ka_14, kb_15, hP1, hK1, hD1⟩ := hB
  rw [ht] at hP1
  have hK1 := va_K.moved hvm.symm hK1
  obtain ⟨hP, hD⟩ := va_join (wr := [(q, .inr (3, [.int 0, .int 0, .int 0, .ref q_1, .ref q_3, .null, .int 0, .int 0, .int 0, .int 0, .int 0, .long 0, .int 0, .int 0])), (q_1, .inl (k_2, 900, .inl (fun _ => 0))), (q_3, .inl (k_4, 12, .inr (.inl (fun _ => 0))))]) (w1 := [(q_5, .inr (0, [.int 0, .int 0, .int 0, .int 0, .int 0, .int 0, .int 0, .int 0, .int 0, .int 0, .ref a_7, .ref b_8, .ref c_9, .ref d_10, .ref w_11])), (w_11, .inr (6, [.int 0, .int 0, .ref e_12, .ref f_13])), (a_7, .inl (ka_14, 9, .inl (fun _ => 0))), (b_8, .inl (kb_15, 9, .inl (fun _ => 0)))]) hP hD [3] [0, 1, 2] rfl rfl (by decide) (by decide) hk1 hFc hP1 hD1
  have hK := (hK.sub (tys' := [(k_2, .byte), (k_4, .long)]) [0, 1] rfl).app hK1
  generalize H1 = H at hP hS ⊢
  have hP : va_P (dC, dI) vwCl [(q, .inr (3, [.int 0, .int 0, .int 0, .ref q_1, .ref q_3, .null, .int 0, .int 0, .int 0, .int 0, .int 0, .long 0, .int 0, .int 0])), (q_1, .inl (k_2, 900, .inl (fun _ => 0))), (q_3, .inl (k_4, 12, .inr (.inl (fun _ => 0)))), (q_5, .inr (0, [.int 0, .int 0, .int 0, .int 0, .int 0, .int 0, .int 0, .int 0, .int 0, .int 0, .ref a_7, .ref b_8, .ref c_9, .ref d_10, .ref w_11])), (w_11, .inr (6, [.int 0, .int 0, .ref e_12, .ref f_13])), (a_7, .inl (ka_14, 9, .inl (fun _ => 0))), (b_8, .inl (kb_15, 9, .inl (fun _ => 0)))] H := hP
  have hD : va_D A [(q, .inr (3, [.int 0, .int 0, .int 0, .ref q_1, .ref q_3, .null, .int 0, .int 0, .int 0, .int 0, .int 0, .long 0, .int 0, .int 0])), (q_1, .inl (k_2, 900, .inl (fun _ => 0))), (q_3, .inl (k_4, 12, .inr (.inl (fun _ => 0)))), (q_5, .inr (0, [.int 0, .int 0, .int 0, .int 0, .int 0, .int 0, .int 0, .int 0, .int 0, .int 0, .ref a_7, .ref b_8, .ref c_9, .ref d_10, .ref w_11])), (w_11, .inr (6, [.int 0, .int 0, .ref e_12, .ref f_13])), (a_7, .inl (ka_14, 9, .inl (fun _ => 0))), (b_8, .inl (kb_15, 9, .inl (fun _ => 0)))] := hD
  have hK : va_K (dC, dI) vwCl [(k_2, .byte), (k_4, .long), (ka_14, .int), (kb_15, .int)] s := hK
  refine W.widen (k := 10) (n := 967) (Nat.le_of_ble_eq_true rfl) (Nat.le_of_ble_eq_true rfl) ?_
  refine va_put (D := (dC, dI)) (ci := 3) (v := .ref q_5) (ty := (.object "WaxTurns$Hall")) (C := RX3) (T := TX3) (N := 14) hx hb hts (by decide +kernel) tyX3 tyX3_ok nmX3 hown hK hP hD hS 0 rfl rfl 5 (by decide) (hts (.fieldLink RX3 22 "WaxTurns$Reade\x72" "draft" "LWaxTurns$Hall;") (by decide +kernel)) (fun _ h9 => h9) rfl (by decide +kernel) rfl rfl (Nat.le_of_ble_eq_true rfl) dX3_init_29 (fun H locs hP hD hS => ?_)
  have hP : va_P (dC, dI) vwCl [(q, .inr (3, [.int 0, .int 0, .int 0, .ref q_1, .ref q_3, .ref q_5, .int 0, .int 0, .int 0, .int 0, .int 0, .long 0, .int 0, .int 0])), (q_1, .inl (k_2, 900, .inl (fun _ => 0))), (q_3, .inl (k_4, 12, .inr (.inl (fun _ => 0)))), (q_5, .inr (0, [.int 0, .int 0, .int 0, .int 0, .int 0, .int 0, .int 0, .int 0, .int 0, .int 0, .ref a_7, .ref b_8, .ref c_9, .ref d_10, .ref w_11])), (w_11, .inr (6, [.int 0, .int 0, .ref e_12, .ref f_13])), (a_7, .inl (ka_14, 9, .inl (fun _ => 0))), (b_8, .inl (kb_15, 9, .inl (fun _ => 0)))] H := hP
  have hD : va_D A [(q, .inr (3, [.int 0, .int 0, .int 0, .ref q_1, .ref q_3, .ref q_5, .int 0, .int 0, .int 0, .int 0, .int 0, .long 0, .int 0, .int 0])), (q_1, .inl (k_2, 900, .inl (fun _ => 0))), (q_3, .inl (k_4, 12, .inr (.inl (fun _ => 0)))), (q_5, .inr (0, [.int 0, .int 0, .int 0, .int 0, .int 0, .int 0, .int 0, .int 0, .int 0, .int 0, .ref a_7, .ref b_8, .ref c_9, .ref d_10, .ref w_11])), (w_11, .inr (6, [.int 0, .int 0, .ref e_12, .ref f_13])), (a_7, .inl (ka_14, 9, .inl (fun _ => 0))), (b_8, .inl (kb_15, 9, .inl (fun _ => 0)))] := hD
  have hP9 := hP.sub (ws' := [(q, .inr (3, [.int 0, .int 0, .int 0, .ref q_1, .ref q_3, .ref q_5, .int 0, .int 0, .int 0, .int 0, .int 0, .long 0, .int 0, .int 0])), (q_1, .inl (k_2, 900, .inl (fun _ => 0))), (q_5, .inr (0, [.int 0, .int 0, .int 0, .int 0, .int 0, .int 0, .int 0, .int 0, .int 0, .int 0, .ref a_7, .ref b_8, .ref c_9, .ref d_10, .ref w_11])), (w_11, .inr (6, [.int 0, .int 0, .ref e_12, .ref f_13])), (a_7, .inl (ka_14, 9, .inl (fun _ => 0))), (b_8, .inl (kb_15, 9, .inl (fun _ => 0)))]) [0, 1, 3, 4, 5, 6] rfl
  have hD9 := hD.sub (ws' := [(q, .inr (3, [.int 0, .int 0, .int 0, .ref q_1, .ref q_3, .ref q_5, .int 0, .int 0, .int 0, .int 0, .int 0, .long 0, .int 0, .int 0])), (q_1, .inl (k_2, 900, .inl (fun _ => 0))), (q_5, .inr (0, [.int 0, .int 0, .int 0, .int 0, .int 0, .int 0, .int 0, .int 0, .int 0, .int 0, .ref a_7, .ref b_8, .ref c_9, .ref d_10, .ref w_11])), (w_11, .inr (6, [.int 0, .int 0, .ref e_12, .ref f_13])), (a_7, .inl (ka_14, 9, .inl (fun _ => 0))), (b_8, .inl (kb_15, 9, .inl (fun _ => 0)))]) [0, 1, 3, 4, 5, 6] (by decide) rfl
  have hK9 := hK.sub (tys' := [(k_2, .byte), (ka_14, .int), (kb_15, .int)]) [0, 2, 3] rfl
  exact W.vret hx hb hr (fun t ht hW => ⟨⟨(), rfl, trivial, q_1, q_3, q_5, a_7, b_8, c_9, d_10, w_11, e_12, f_13, k_2, ka_14, kb_15, by rw [ht]; exact hP9, va_K.moved hW.alike hK9, hD9⟩, hS.F ht⟩) hS.2.2 dX3_init_32

set_option maxHeartbeats 4000000 in
set_option maxRecDepth 100000 in
theorem c_X7_init (l : Launch) (dC : Nat → ClassId) (dI : Nat → Nat → Nat) (sz : Nat) (q : Nat) : Met l yX7_init wsX7_init ({ frames := 4, cells := 94, slots := 3844, locals := 84 }) (va_Pc [.ref q] (ax_C dC dI sz [(q, .inr (7, [.null, .null, .null, .null, .null, .null, .null, .null, .int 0, .int 0, .int 0]))] [] (fun U => va_AO RX5 U))) (va_Qv (fun (_ : Unit) => True) (fun (_ : Unit) (t : State) => ∃ (rd : Nat) (z : Nat) (ah : Nat) (tr : Nat) (y : Nat) (la : Nat) (ro : Nat) (h : Nat) (ha : Nat) (hb : Nat) (hc : Nat) (hd : Nat) (w : Nat) (he : Nat) (hf : Nat) (za : Nat) (zb : Nat) (ya : Nat) (yb : Nat) (tp : Nat) (nm : Nat) (dr : Nat) (da : Nat) (db : Nat) (dc : Nat) (dd : Nat) (dw : Nat) (de : Nat) (df : Nat) (kt : ClassId) (ka : ClassId) (kb : ClassId), ax_B dC dI (va_A [(q, .inr (7, [.null, .null, .null, .null, .null, .null, .null, .null, .int 0, .int 0, .int 0]))] sz) [(q, .inr (7, [.ref rd, .ref z, .ref ah, .ref tr, .ref y, .ref la, .ref ro, .ref h, .int 0, .int 0, .int (-1)])), (h, .inr (0, [.int 0, .int 0, .int 0, .int 0, .int 0, .int 0, .int 0, .int 0, .int 0, .int 0, .ref ha, .ref hb, .ref hc, .ref hd, .ref w])), (w, .inr (6, [.int 0, .int 0, .ref he, .ref hf])), (rd, .inr (3, [.int 0, .int 0, .int 0, .ref tp, .ref nm, .ref dr, .int 0, .int 0, .int 0, .int 0, .int 0, .long 0, .int 0, .int 0])), (tp, .inl (kt, 900, .inl (fun _ => 0))), (dr, .inr (0, [.int 0, .int 0, .int 0, .int 0, .int 0, .int 0, .int 0, .int 0, .int 0, .int 0, .ref da, .ref db, .ref dc, .ref dd, .ref dw])), (dw, .inr (6, [.int 0, .int 0, .ref de, .ref df])), (da, .inl (ka, 9, .inl (fun _ => 0))), (db, .inl (kb, 9, .inl (fun _ => 0))), (z, .inr (5, [.int 0, .int 0, .int 0, .int 0, .int 0, .ref za, .ref zb])), (y, .inr (1, [.int 0, .int 0, .int 0, .ref ya, .ref yb]))] [(kt, .byte), (ka, .int), (kb, .int)] t) (va_A [(q, .inr (7, [.null, .null, .null, .null, .null, .null, .null, .null, .int 0, .int 0, .int 0]))] sz)) 94 3844 (va_A [(q, .inr (7, [.null, .null, .null, .null, .null, .null, .null, .null, .int 0, .int 0, .int 0]))] sz) := by
  refine Met.ofW (cc := cX7_init) (maxL := 1) (ret := none) (by decide) rfl ?_
  intro p e s m args below meth c s₁ B hml hv
  obtain ⟨rfl, hsz, hP, hK, hD0, hE⟩ := hv
  have hx := B.exec
  have hb := B.bytes
  have hr := B.returns
  have hts := atoms_spec (ws := wsX7_init) B.pre
  have hown : s.vm.findClass RX7 = some m.cls := findClass_of_methodNamed B.named
  have hlocks := B.notSynchronized
  have hin : meth.name = "<init>" := (name_of_methodNamed B.named B.method).1
  subst hsz
  have hD := hD0.self (sz := s.heap.size)
  generalize hAe : va_A [(q, .inr (7, [.null, .null, .null, .null, .null, .null, .null, .null, .int 0, .int 0, .int 0]))] s.heap.size = A at hD ⊢
  have hA : ∀ q : Nat, s.heap.size ≤ q → A q := fun q h => by rw [← hAe]; exact Or.inr h
  have hS : va_S A s.heap s.heap [] := va_S.rf
  have hP : va_P (dC, dI) vwCl [(q, .inr (7, [.null, .null, .null, .null, .null, .null, .null, .null, .int 0, .int 0, .int 0]))] s.heap := hP
  have hE0 := hE
  have hl := lv_entry ([.ref q]) (n := 1) (Nat.le_of_ble_eq_true rfl)
  rw [lg_entry_eq]
  generalize (lg_sl ([.ref q]) ++ List.replicate (1 - (lg_sl ([.ref q])).length) Slot.unset).toArray = ls at hl ⊢
  have hl : lv_has ls 1 [(0, .ref q)] := hl
  refine lv_aload_n hx hb dX7_init_0 rfl (lv_at hl 0 rfl) ?_
  refine W.objInit hx hb hown (hts (.methodLink RX7 3 objectInit) (by decide +kernel)) (hts (.instanceMethod objectInit) (by decide +kernel)) (hts _ (ocXX7_init)) rfl (by rw [hml]; exact hl.1) rfl dX7_init_1 (Nat.le_of_ble_eq_true rfl) (Nat.le_of_ble_eq_true rfl) ?_
  refine W.eq (g2 := F0 m 4 ls []) rfl ?_
  refine lv_aload_n hx hb dX7_init_4 rfl (lv_at hl 0 rfl) ?_
  refine va_new (ci := 3) (fs := [.int 0, .int 0, .int 0, .null, .null, .null, .int 0, .int 0, .int 0, .int 0, .int 0, .long 0, .int 0, .int 0]) (C := RX3) (T := TX3) (N := 14) hx hb hts (by decide +kernel) tyX3 tyX3_ok hown (hts (.classLink RX7 9 RX3) (by decide +kernel)) (hts (.instantiable RX3 14) (by decide +kernel)) (hts (.initialized RX3) (by decide +kernel)) hK hP hD hS hA rfl (dfX3) (Nat.le_of_ble_eq_true rfl) (Nat.le_of_ble_eq_true rfl) dX7_init_5 (fun q_1 H hP hD hS => ?_)
  have hP : va_P (dC, dI) vwCl [(q, .inr (7, [.null, .null, .null, .null, .null, .null, .null, .null, .int 0, .int 0, .int 0])), (q_1, .inr (3, [.int 0, .int 0, .int 0, .null, .null, .null, .int 0, .int 0, .int 0, .int 0, .int 0, .long 0, .int 0, .int 0]))] H := hP
  have hD : va_D A [(q, .inr (7, [.null, .null, .null, .null, .null, .null, .null, .null, .int 0, .int 0, .int 0])), (q_1, .inr (3, [.int 0, .int 0, .int 0, .null, .null, .null, .int 0, .int 0, .int 0, .int 0, .int 0, .long 0, .int 0, .int 0]))] := hD
  refine W.widen (k := 1) (n := 14) (Nat.le_of_ble_eq_true rfl) (Nat.le_of_ble_eq_true rfl) ?_
  refine lv_dup hx hb dX7_init_8 rfl ?_
  have hPc := hP.sub (ws' := [(q_1, .inr (3, [.int 0, .int 0, .int 0, .null, .null, .null, .int 0, .int 0, .int 0, .int 0, .int 0, .long 0, .int 0, .int 0]))]) [1] rfl
  have hDc := hD.sub (ws' := [(q_1, .inr (3, [.int 0, .int 0, .int 0, .null, .null, .null, .int 0, .int 0, .int 0, .int 0, .int 0, .long 0, .int 0, .int 0]))]) [1] (by decide) rfl
  have hKc := hK.sub (tys' := []) [] rfl
  have hFc := va_free (wc := [(q_1, .inr (3, [.int 0, .int 0, .int 0, .null, .null, .null, .int 0, .int 0, .int 0, .int 0, .int 0, .long 0, .int 0, .int 0]))]) hD hS hA [1] rfl
  refine va_callv (va_runI (As := []) (rest := [.ref q_1, .ref q]) ⟨hx, hb, hml, hown, hts⟩ (c_X3_init l dC dI H.size q_1 ) (cwI 0 hts gX7_init_X3_init rfl rfl rfl (hts (.initialized RX3) (by decide +kernel)) (hts (.methodLink RX7 11 yX3_init) (by decide +kernel)) (hts (.instanceMethod yX3_init) (by decide +kernel)) rfl (by decide +kernel) ⟨Nat.le_of_ble_eq_true rfl, Nat.le_of_ble_eq_true rfl⟩) ⟨ax_blind (fun _ _ _ _ _ => trivial), ax_pre hPc hKc hDc (fun _ _ => trivial)⟩ rfl rfl hl.1 rfl (lv_room (Nat.le_of_ble_eq_true rfl)) dX7_init_9 ⟨Nat.le_of_ble_eq_true rfl, Nat.le_of_ble_eq_true rfl⟩) hS (fun q _ h => hFc q h) hFc (fun u t H1 locs ht hvm hw hB hz1 hk1 hS => ?_)
  obtain ⟨tp_3, nm_4, dr_5, da_6, db_7, dc_8, dd_9, dw_10, de_11, df_12, kt_13, ka_14, kb_15, hP1, hK1, hD1⟩ := hB
  rw [ht] at hP1
  have hK1 := va_K.moved hvm.symm hK1
  obtain ⟨hP, hD⟩ := va_join (wr := [(q, .inr (7, [.null, .null, .null, .null, .null, .null, .null, .null, .int 0, .int 0, .int 0]))]) (w1 := [(q_1, .inr (3, [.int 0, .int 0, .int 0, .ref tp_3, .ref nm_4, .ref dr_5, .int 0, .int 0, .int 0, .int 0, .int 0, .long 0, .int 0, .int 0])), (tp_3, .inl (kt_13, 900, .inl (fun _ => 0))), (dr_5, .inr (0, [.int 0, .int 0, .int 0, .int 0, .int 0, .int 0, .int 0, .int 0, .int 0, .int 0, .ref da_6, .ref db_7, .ref dc_8, .ref dd_9, .ref dw_10])), (dw_10, .inr (6, [.int 0, .int 0, .ref de_11, .ref df_12])), (da_6, .inl (ka_14, 9, .inl (fun _ => 0))), (db_7, .inl (kb_15, 9, .inl (fun _ => 0)))]) hP hD [1] [0] rfl rfl (by decide) (by decide) hk1 hFc hP1 hD1
  have hK := (hK.sub (tys' := []) [] rfl).app hK1
  generalize H1 = H at hP hS ⊢
  have hP : va_P (dC, dI) vwCl [(q, .inr (7, [.null, .null, .null, .null, .null, .null, .null, .null, .int 0, .int 0, .int 0])), (q_1, .inr (3, [.int 0, .int 0, .int 0, .ref tp_3, .ref nm_4, .ref dr_5, .int 0, .int 0, .int 0, .int 0, .int 0, .long 0, .int 0, .int 0])), (tp_3, .inl (kt_13, 900, .inl (fun _ => 0))), (dr_5, .inr (0, [.int 0, .int 0, .int 0, .int 0, .int 0, .int 0, .int 0, .int 0, .int 0, .int 0, .ref da_6, .ref db_7, .ref dc_8, .ref dd_9, .ref dw_10])), (dw_10, .inr (6, [.int 0, .int 0, .ref de_11, .ref df_12])), (da_6, .inl (ka_14, 9, .inl (fun _ => 0))), (db_7, .inl (kb_15, 9, .inl (fun _ => 0)))] H := hP
  have hD : va_D A [(q, .inr (7, [.null, .null, .null, .null, .null, .null, .null, .null, .int 0, .int 0, .int 0])), (q_1, .inr (3, [.int 0, .int 0, .int 0, .ref tp_3, .ref nm_4, .ref dr_5, .int 0, .int 0, .int 0, .int 0, .int 0, .long 0, .int 0, .int 0])), (tp_3, .inl (kt_13, 900, .inl (fun _ => 0))), (dr_5, .inr (0, [.int 0, .int 0, .int 0, .int 0, .int 0, .int 0, .int 0, .int 0, .int 0, .int 0, .ref da_6, .ref db_7, .ref dc_8, .ref dd_9, .ref dw_10])), (dw_10, .inr (6, [.int 0, .int 0, .ref de_11, .ref df_12])), (da_6, .inl (ka_14, 9, .inl (fun _ => 0))), (db_7, .inl (kb_15, 9, .inl (fun _ => 0)))] := hD
  have hK : va_K (dC, dI) vwCl [(kt_13, .byte), (ka_14, .int), (kb_15, .int)] s := hK
  refine W.widen (k := 11) (n := 981) (Nat.le_of_ble_eq_true rfl) (Nat.le_of_ble_eq_true rfl) ?_
  refine va_putF (D := (dC, dI)) (ci := 7) (v := .ref q_1) (ty := (.object "WaxTurns$Reade\x72")) (C := RX7) (T := TX7) (N := 11) hx hb hts (by decide +kernel) tyX7 tyX7_ok nmX7 hown hK hP hD hS 0 rfl rfl 0 (by decide) (hts (.fieldLink RX7 12 "WaxTurns" "reade\x72" "LWaxTurns$Reader;") (by decide +kernel)) (fun _ h9 => h9) rfl hin rfl (by decide +kernel) rfl rfl (Nat.le_of_ble_eq_true rfl) dX7_init_12 (fun H locs hP hD hS => ?_)
  have hP : va_P (dC, dI) vwCl [(q, .inr (7, [.ref q_1, .null, .null, .null, .null, .null, .null, .null, .int 0, .int 0, .int 0])), (q_1, .inr (3, [.int 0, .int 0, .int 0, .ref tp_3, .ref nm_4, .ref dr_5, .int 0, .int 0, .int 0, .int 0, .int 0, .long 0, .int 0, .int 0])), (tp_3, .inl (kt_13, 900, .inl (fun _ => 0))), (dr_5, .inr (0, [.int 0, .int 0, .int 0, .int 0, .int 0, .int 0, .int 0, .int 0, .int 0, .int 0, .ref da_6, .ref db_7, .ref dc_8, .ref dd_9, .ref dw_10])), (dw_10, .inr (6, [.int 0, .int 0, .ref de_11, .ref df_12])), (da_6, .inl (ka_14, 9, .inl (fun _ => 0))), (db_7, .inl (kb_15, 9, .inl (fun _ => 0)))] H := hP
  have hD : va_D A [(q, .inr (7, [.ref q_1, .null, .null, .null, .null, .null, .null, .null, .int 0, .int 0, .int 0])), (q_1, .inr (3, [.int 0, .int 0, .int 0, .ref tp_3, .ref nm_4, .ref dr_5, .int 0, .int 0, .int 0, .int 0, .int 0, .long 0, .int 0, .int 0])), (tp_3, .inl (kt_13, 900, .inl (fun _ => 0))), (dr_5, .inr (0, [.int 0, .int 0, .int 0, .int 0, .int 0, .int 0, .int 0, .int 0, .int 0, .int 0, .ref da_6, .ref db_7, .ref dc_8, .ref dd_9, .ref dw_10])), (dw_10, .inr (6, [.int 0, .int 0, .ref de_11, .ref df_12])), (da_6, .inl (ka_14, 9, .inl (fun _ => 0))), (db_7, .inl (kb_15, 9, .inl (fun _ => 0)))] := hD
  refine lv_aload_n hx hb dX7_init_15 rfl (lv_at hl 0 rfl) ?_
  refine va_new (ci := 5) (fs := [.int 0, .int 0, .int 0, .int 0, .int 0, .null, .null]) (C := RX5) (T := TX5) (N := 7) hx hb hts (by decide +kernel) tyX5 tyX5_ok hown (hts (.classLink RX7 16 RX5) (by decide +kernel)) (hts (.instantiable RX5 7) (by decide +kernel)) (hts (.initialized RX5) (by decide +kernel)) hK hP hD hS hA rfl (dfX5) (Nat.le_of_ble_eq_true rfl) (Nat.le_of_ble_eq_true rfl) dX7_init_16 (fun q_16 H hP hD hS => ?_)
  have hP : va_P (dC, dI) vwCl [(q, .inr (7, [.ref q_1, .null, .null, .null, .null, .null, .null, .null, .int 0, .int 0, .int 0])), (q_1, .inr (3, [.int 0, .int 0, .int 0, .ref tp_3, .ref nm_4, .ref dr_5, .int 0, .int 0, .int 0, .int 0, .int 0, .long 0, .int 0, .int 0])), (tp_3, .inl (kt_13, 900, .inl (fun _ => 0))), (dr_5, .inr (0, [.int 0, .int 0, .int 0, .int 0, .int 0, .int 0, .int 0, .int 0, .int 0, .int 0, .ref da_6, .ref db_7, .ref dc_8, .ref dd_9, .ref dw_10])), (dw_10, .inr (6, [.int 0, .int 0, .ref de_11, .ref df_12])), (da_6, .inl (ka_14, 9, .inl (fun _ => 0))), (db_7, .inl (kb_15, 9, .inl (fun _ => 0))), (q_16, .inr (5, [.int 0, .int 0, .int 0, .int 0, .int 0, .null, .null]))] H := hP
  have hD : va_D A [(q, .inr (7, [.ref q_1, .null, .null, .null, .null, .null, .null, .null, .int 0, .int 0, .int 0])), (q_1, .inr (3, [.int 0, .int 0, .int 0, .ref tp_3, .ref nm_4, .ref dr_5, .int 0, .int 0, .int 0, .int 0, .int 0, .long 0, .int 0, .int 0])), (tp_3, .inl (kt_13, 900, .inl (fun _ => 0))), (dr_5, .inr (0, [.int 0, .int 0, .int 0, .int 0, .int 0, .int 0, .int 0, .int 0, .int 0, .int 0, .ref da_6, .ref db_7, .ref dc_8, .ref dd_9, .ref dw_10])), (dw_10, .inr (6, [.int 0, .int 0, .ref de_11, .ref df_12])), (da_6, .inl (ka_14, 9, .inl (fun _ => 0))), (db_7, .inl (kb_15, 9, .inl (fun _ => 0))), (q_16, .inr (5, [.int 0, .int 0, .int 0, .int 0, .int 0, .null, .null]))] := hD
  refine W.widen (k := 12) (n := 988) (Nat.le_of_ble_eq_true rfl) (Nat.le_of_ble_eq_true rfl) ?_
  refine lv_dup hx hb dX7_init_19 rfl ?_
  have hPc := hP.sub (ws' := [(q_16, .inr (5, [.int 0, .int 0, .int 0, .int 0, .int 0, .null, .null]))]) [7] rfl
  have hDc := hD.sub (ws' := [(q_16, .inr (5, [.int 0, .int 0, .int 0, .int 0, .int 0, .null, .null]))]) [7] (by decide) rfl
  have hKc := hK.sub (tys' := []) [] rfl
  have hFc := va_free (wc := [(q_16, .inr (5, [.int 0, .int 0, .int 0, .int 0, .int 0, .null, .null]))]) hD hS hA [7] rfl
  refine va_callv (va_runI (As := []) (rest := [.ref q_16, .ref q]) ⟨hx, hb, hml, hown, hts⟩ (c_X5_init l dC dI H.size q_16 ) (cwI 0 hts gX7_init_X5_init rfl rfl rfl (hts (.initialized RX5) (by decide +kernel)) (hts (.methodLink RX7 18 yX5_init) (by decide +kernel)) (hts (.instanceMethod yX5_init) (by decide +kernel)) rfl (by decide +kernel) ⟨Nat.le_of_ble_eq_true rfl, Nat.le_of_ble_eq_true rfl⟩) ⟨ax_blind (fun _ _ _ _ _ => trivial), ax_pre hPc hKc hDc (fun _ _ => trivial)⟩ rfl rfl hl.1 rfl (lv_room (Nat.le_of_ble_eq_true rfl)) dX7_init_20 ⟨Nat.le_of_ble_eq_true rfl, Nat.le_of_ble_eq_true rfl⟩) hS (fun q _ h => hFc q h) hFc (fun u t H1 locs ht hvm hw hB hz1 hk1 hS => ?_)
  obtain ⟨a_18, b_19, hP1, hK1, hD1⟩ := hB
  rw [ht] at hP1
  have hK1 := va_K.moved hvm.symm hK1
  obtain ⟨hP, hD⟩ := va_join (wr := [(q, .inr (7, [.ref q_1, .null, .null, .null, .null, .null, .null, .null, .int 0, .int 0, .int 0])), (q_1, .inr (3, [.int 0, .int 0, .int 0, .ref tp_3, .ref nm_4, .ref dr_5, .int 0, .int 0, .int 0, .int 0, .int 0, .long 0, .int 0, .int 0])), (tp_3, .inl (kt_13, 900, .inl (fun _ => 0))), (dr_5, .inr (0, [.int 0, .int 0, .int 0, .int 0, .int 0, .int 0, .int 0, .int 0, .int 0, .int 0, .ref da_6, .ref db_7, .ref dc_8, .ref dd_9, .ref dw_10])), (dw_10, .inr (6, [.int 0, .int 0, .ref de_11, .ref df_12])), (da_6, .inl (ka_14, 9, .inl (fun _ => 0))), (db_7, .inl (kb_15, 9, .inl (fun _ => 0)))]) (w1 := [(q_16, .inr (5, [.int 0, .int 0, .int 0, .int 0, .int 0, .ref a_18, .ref b_19]))]) hP hD [7] [0, 1, 2, 3, 4, 5, 6] rfl rfl (by decide) (by decide) hk1 hFc hP1 hD1
  have hK := (hK.sub (tys' := [(kt_13, .byte), (ka_14, .int), (kb_15, .int)]) [0, 1, 2] rfl).app hK1
  generalize H1 = H at hP hS ⊢
  have hP : va_P (dC, dI) vwCl [(q, .inr (7, [.ref q_1, .null, .null, .null, .null, .null, .null, .null, .int 0, .int 0, .int 0])), (q_1, .inr (3, [.int 0, .int 0, .int 0, .ref tp_3, .ref nm_4, .ref dr_5, .int 0, .int 0, .int 0, .int 0, .int 0, .long 0, .int 0, .int 0])), (tp_3, .inl (kt_13, 900, .inl (fun _ => 0))), (dr_5, .inr (0, [.int 0, .int 0, .int 0, .int 0, .int 0, .int 0, .int 0, .int 0, .int 0, .int 0, .ref da_6, .ref db_7, .ref dc_8, .ref dd_9, .ref dw_10])), (dw_10, .inr (6, [.int 0, .int 0, .ref de_11, .ref df_12])), (da_6, .inl (ka_14, 9, .inl (fun _ => 0))), (db_7, .inl (kb_15, 9, .inl (fun _ => 0))), (q_16, .inr (5, [.int 0, .int 0, .int 0, .int 0, .int 0, .ref a_18, .ref b_19]))] H := hP
  have hD : va_D A [(q, .inr (7, [.ref q_1, .null, .null, .null, .null, .null, .null, .null, .int 0, .int 0, .int 0])), (q_1, .inr (3, [.int 0, .int 0, .int 0, .ref tp_3, .ref nm_4, .ref dr_5, .int 0, .int 0, .int 0, .int 0, .int 0, .long 0, .int 0, .int 0])), (tp_3, .inl (kt_13, 900, .inl (fun _ => 0))), (dr_5, .inr (0, [.int 0, .int 0, .int 0, .int 0, .int 0, .int 0, .int 0, .int 0, .int 0, .int 0, .ref da_6, .ref db_7, .ref dc_8, .ref dd_9, .ref dw_10])), (dw_10, .inr (6, [.int 0, .int 0, .ref de_11, .ref df_12])), (da_6, .inl (ka_14, 9, .inl (fun _ => 0))), (db_7, .inl (kb_15, 9, .inl (fun _ => 0))), (q_16, .inr (5, [.int 0, .int 0, .int 0, .int 0, .int 0, .ref a_18, .ref b_19]))] := hD
  have hK : va_K (dC, dI) vwCl [(kt_13, .byte), (ka_14, .int), (kb_15, .int)] s := hK
  refine W.widen (k := 14) (n := 1006) (Nat.le_of_ble_eq_true rfl) (Nat.le_of_ble_eq_true rfl) ?_
  refine va_putF (D := (dC, dI)) (ci := 7) (v := .ref q_16) (ty := (.object "WaxTurns$Scene")) (C := RX7) (T := TX7) (N := 11) hx hb hts (by decide +kernel) tyX7 tyX7_ok nmX7 hown hK hP hD hS 0 rfl rfl 1 (by decide) (hts (.fieldLink RX7 19 "WaxTurns" "now" "LWaxTurns$Scene;") (by decide +kernel)) (fun _ h9 => h9) rfl hin rfl (by decide +kernel) rfl rfl (Nat.le_of_ble_eq_true rfl) dX7_init_23 (fun H locs hP hD hS => ?_)
  have hP : va_P (dC, dI) vwCl [(q, .inr (7, [.ref q_1, .ref q_16, .null, .null, .null, .null, .null, .null, .int 0, .int 0, .int 0])), (q_1, .inr (3, [.int 0, .int 0, .int 0, .ref tp_3, .ref nm_4, .ref dr_5, .int 0, .int 0, .int 0, .int 0, .int 0, .long 0, .int 0, .int 0])), (tp_3, .inl (kt_13, 900, .inl (fun _ => 0))), (dr_5, .inr (0, [.int 0, .int 0, .int 0, .int 0, .int 0, .int 0, .int 0, .int 0, .int 0, .int 0, .ref da_6, .ref db_7, .ref dc_8, .ref dd_9, .ref dw_10])), (dw_10, .inr (6, [.int 0, .int 0, .ref de_11, .ref df_12])), (da_6, .inl (ka_14, 9, .inl (fun _ => 0))), (db_7, .inl (kb_15, 9, .inl (fun _ => 0))), (q_16, .inr (5, [.int 0, .int 0, .int 0, .int 0, .int 0, .ref a_18, .ref b_19]))] H := hP
  have hD : va_D A [(q, .inr (7, [.ref q_1, .ref q_16, .null, .null, .null, .null, .null, .null, .int 0, .int 0, .int 0])), (q_1, .inr (3, [.int 0, .int 0, .int 0, .ref tp_3, .ref nm_4, .ref dr_5, .int 0, .int 0, .int 0, .int 0, .int 0, .long 0, .int 0, .int 0])), (tp_3, .inl (kt_13, 900, .inl (fun _ => 0))), (dr_5, .inr (0, [.int 0, .int 0, .int 0, .int 0, .int 0, .int 0, .int 0, .int 0, .int 0, .int 0, .ref da_6, .ref db_7, .ref dc_8, .ref dd_9, .ref dw_10])), (dw_10, .inr (6, [.int 0, .int 0, .ref de_11, .ref df_12])), (da_6, .inl (ka_14, 9, .inl (fun _ => 0))), (db_7, .inl (kb_15, 9, .inl (fun _ => 0))), (q_16, .inr (5, [.int 0, .int 0, .int 0, .int 0, .int 0, .ref a_18, .ref b_19]))] := hD
  refine lv_aload_n hx hb dX7_init_26 rfl (lv_at hl 0 rfl) ?_
  refine va_new (ci := 5) (fs := [.int 0, .int 0, .int 0, .int 0, .int 0, .null, .null]) (C := RX5) (T := TX5) (N := 7) hx hb hts (by decide +kernel) tyX5 tyX5_ok hown (hts (.classLink RX7 16 RX5) (by decide +kernel)) (hts (.instantiable RX5 7) (by decide +kernel)) (hts (.initialized RX5) (by decide +kernel)) hK hP hD hS hA rfl (dfX5) (Nat.le_of_ble_eq_true rfl) (Nat.le_of_ble_eq_true rfl) dX7_init_27 (fun q_20 H hP hD hS => ?_)
  have hP : va_P (dC, dI) vwCl [(q, .inr (7, [.ref q_1, .ref q_16, .null, .null, .null, .null, .null, .null, .int 0, .int 0, .int 0])), (q_1, .inr (3, [.int 0, .int 0, .int 0, .ref tp_3, .ref nm_4, .ref dr_5, .int 0, .int 0, .int 0, .int 0, .int 0, .long 0, .int 0, .int 0])), (tp_3, .inl (kt_13, 900, .inl (fun _ => 0))), (dr_5, .inr (0, [.int 0, .int 0, .int 0, .int 0, .int 0, .int 0, .int 0, .int 0, .int 0, .int 0, .ref da_6, .ref db_7, .ref dc_8, .ref dd_9, .ref dw_10])), (dw_10, .inr (6, [.int 0, .int 0, .ref de_11, .ref df_12])), (da_6, .inl (ka_14, 9, .inl (fun _ => 0))), (db_7, .inl (kb_15, 9, .inl (fun _ => 0))), (q_16, .inr (5, [.int 0, .int 0, .int 0, .int 0, .int 0, .ref a_18, .ref b_19])), (q_20, .inr (5, [.int 0, .int 0, .int 0, .int 0, .int 0, .null, .null]))] H := hP
  have hD : va_D A [(q, .inr (7, [.ref q_1, .ref q_16, .null, .null, .null, .null, .null, .null, .int 0, .int 0, .int 0])), (q_1, .inr (3, [.int 0, .int 0, .int 0, .ref tp_3, .ref nm_4, .ref dr_5, .int 0, .int 0, .int 0, .int 0, .int 0, .long 0, .int 0, .int 0])), (tp_3, .inl (kt_13, 900, .inl (fun _ => 0))), (dr_5, .inr (0, [.int 0, .int 0, .int 0, .int 0, .int 0, .int 0, .int 0, .int 0, .int 0, .int 0, .ref da_6, .ref db_7, .ref dc_8, .ref dd_9, .ref dw_10])), (dw_10, .inr (6, [.int 0, .int 0, .ref de_11, .ref df_12])), (da_6, .inl (ka_14, 9, .inl (fun _ => 0))), (db_7, .inl (kb_15, 9, .inl (fun _ => 0))), (q_16, .inr (5, [.int 0, .int 0, .int 0, .int 0, .int 0, .ref a_18, .ref b_19])), (q_20, .inr (5, [.int 0, .int 0, .int 0, .int 0, .int 0, .null, .null]))] := hD
  refine W.widen (k := 15) (n := 1013) (Nat.le_of_ble_eq_true rfl) (Nat.le_of_ble_eq_true rfl) ?_
  refine lv_dup hx hb dX7_init_30 rfl ?_
  have hPc := hP.sub (ws' := [(q_20, .inr (5, [.int 0, .int 0, .int 0, .int 0, .int 0, .null, .null]))]) [8] rfl
  have hDc := hD.sub (ws' := [(q_20, .inr (5, [.int 0, .int 0, .int 0, .int 0, .int 0, .null, .null]))]) [8] (by decide) rfl
  have hKc := hK.sub (tys' := []) [] rfl
  have hFc := va_free (wc := [(q_20, .inr (5, [.int 0, .int 0, .int 0, .int 0, .int 0, .null, .null]))]) hD hS hA [8] rfl
  refine va_callv (va_runI (As := []) (rest := [.ref q_20, .ref q]) ⟨hx, hb, hml, hown, hts⟩ (c_X5_init l dC dI H.size q_20 ) (cwI 0 hts gX7_init_X5_init rfl rfl rfl (hts (.initialized RX5) (by decide +kernel)) (hts (.methodLink RX7 18 yX5_init) (by decide +kernel)) (hts (.instanceMethod yX5_init) (by decide +kernel)) rfl (by decide +kernel) ⟨Nat.le_of_ble_eq_true rfl, Nat.le_of_ble_eq_true rfl⟩) ⟨ax_blind (fun _ _ _ _ _ => trivial), ax_pre hPc hKc hDc (fun _ _ => trivial)⟩ rfl rfl hl.1 rfl (lv_room (Nat.le_of_ble_eq_true rfl)) dX7_init_31 ⟨Nat.le_of_ble_eq_true rfl, Nat.le_of_ble_eq_true rfl⟩) hS (fun q _ h => hFc q h) hFc (fun u t H1 locs ht hvm hw hB hz1 hk1 hS => ?_)
  obtain ⟨a_22, b_23, hP1, hK1, hD1⟩ := hB
  rw [ht] at hP1
  have hK1 := va_K.moved hvm.symm hK1
  obtain ⟨hP, hD⟩ := va_join (wr := [(q, .inr (7, [.ref q_1, .ref q_16, .null, .null, .null, .null, .null, .null, .int 0, .int 0, .int 0])), (q_1, .inr (3, [.int 0, .int 0, .int 0, .ref tp_3, .ref nm_4, .ref dr_5, .int 0, .int 0, .int 0, .int 0, .int 0, .long 0, .int 0, .int 0])), (tp_3, .inl (kt_13, 900, .inl (fun _ => 0))), (dr_5, .inr (0, [.int 0, .int 0, .int 0, .int 0, .int 0, .int 0, .int 0, .int 0, .int 0, .int 0, .ref da_6, .ref db_7, .ref dc_8, .ref dd_9, .ref dw_10])), (dw_10, .inr (6, [.int 0, .int 0, .ref de_11, .ref df_12])), (da_6, .inl (ka_14, 9, .inl (fun _ => 0))), (db_7, .inl (kb_15, 9, .inl (fun _ => 0))), (q_16, .inr (5, [.int 0, .int 0, .int 0, .int 0, .int 0, .ref a_18, .ref b_19]))]) (w1 := [(q_20, .inr (5, [.int 0, .int 0, .int 0, .int 0, .int 0, .ref a_22, .ref b_23]))]) hP hD [8] [0, 1, 2, 3, 4, 5, 6, 7] rfl rfl (by decide) (by decide) hk1 hFc hP1 hD1
  have hK := (hK.sub (tys' := [(kt_13, .byte), (ka_14, .int), (kb_15, .int)]) [0, 1, 2] rfl).app hK1
  generalize H1 = H at hP hS ⊢
  have hP : va_P (dC, dI) vwCl [(q, .inr (7, [.ref q_1, .ref q_16, .null, .null, .null, .null, .null, .null, .int 0, .int 0, .int 0])), (q_1, .inr (3, [.int 0, .int 0, .int 0, .ref tp_3, .ref nm_4, .ref dr_5, .int 0, .int 0, .int 0, .int 0, .int 0, .long 0, .int 0, .int 0])), (tp_3, .inl (kt_13, 900, .inl (fun _ => 0))), (dr_5, .inr (0, [.int 0, .int 0, .int 0, .int 0, .int 0, .int 0, .int 0, .int 0, .int 0, .int 0, .ref da_6, .ref db_7, .ref dc_8, .ref dd_9, .ref dw_10])), (dw_10, .inr (6, [.int 0, .int 0, .ref de_11, .ref df_12])), (da_6, .inl (ka_14, 9, .inl (fun _ => 0))), (db_7, .inl (kb_15, 9, .inl (fun _ => 0))), (q_16, .inr (5, [.int 0, .int 0, .int 0, .int 0, .int 0, .ref a_18, .ref b_19])), (q_20, .inr (5, [.int 0, .int 0, .int 0, .int 0, .int 0, .ref a_22, .ref b_23]))] H := hP
  have hD : va_D A [(q, .inr (7, [.ref q_1, .ref q_16, .null, .null, .null, .null, .null, .null, .int 0, .int 0, .int 0])), (q_1, .inr (3, [.int 0, .int 0, .int 0, .ref tp_3, .ref nm_4, .ref dr_5, .int 0, .int 0, .int 0, .int 0, .int 0, .long 0, .int 0, .int 0])), (tp_3, .inl (kt_13, 900, .inl (fun _ => 0))), (dr_5, .inr (0, [.int 0, .int 0, .int 0, .int 0, .int 0, .int 0, .int 0, .int 0, .int 0, .int 0, .ref da_6, .ref db_7, .ref dc_8, .ref dd_9, .ref dw_10])), (dw_10, .inr (6, [.int 0, .int 0, .ref de_11, .ref df_12])), (da_6, .inl (ka_14, 9, .inl (fun _ => 0))), (db_7, .inl (kb_15, 9, .inl (fun _ => 0))), (q_16, .inr (5, [.int 0, .int 0, .int 0, .int 0, .int 0, .ref a_18, .ref b_19])), (q_20, .inr (5, [.int 0, .int 0, .int 0, .int 0, .int 0, .ref a_22, .ref b_23]))] := hD
  have hK : va_K (dC, dI) vwCl [(kt_13, .byte), (ka_14, .int), (kb_15, .int)] s := hK
  refine W.widen (k := 17) (n := 1031) (Nat.le_of_ble_eq_true rfl) (Nat.le_of_ble_eq_true rfl) ?_
  refine va_putF (D := (dC, dI)) (ci := 7) (v := .ref q_20) (ty := (.object "WaxTurns$Scene")) (C := RX7) (T := TX7) (N := 11) hx hb hts (by decide +kernel) tyX7 tyX7_ok nmX7 hown hK hP hD hS 0 rfl rfl 2 (by decide) (hts (.fieldLink RX7 23 "WaxTurns" "ahead" "LWaxTurns$Scene;") (by decide +kernel)) (fun _ h9 => h9) rfl hin rfl (by decide +kernel) rfl rfl (Nat.le_of_ble_eq_true rfl) dX7_init_34 (fun H locs hP hD hS => ?_)
  have hP : va_P (dC, dI) vwCl [(q, .inr (7, [.ref q_1, .ref q_16, .ref q_20, .null, .null, .null, .null, .null, .int 0, .int 0, .int 0])), (q_1, .inr (3, [.int 0, .int 0, .int 0, .ref tp_3, .ref nm_4, .ref dr_5, .int 0, .int 0, .int 0, .int 0, .int 0, .long 0, .int 0, .int 0])), (tp_3, .inl (kt_13, 900, .inl (fun _ => 0))), (dr_5, .inr (0, [.int 0, .int 0, .int 0, .int 0, .int 0, .int 0, .int 0, .int 0, .int 0, .int 0, .ref da_6, .ref db_7, .ref dc_8, .ref dd_9, .ref dw_10])), (dw_10, .inr (6, [.int 0, .int 0, .ref de_11, .ref df_12])), (da_6, .inl (ka_14, 9, .inl (fun _ => 0))), (db_7, .inl (kb_15, 9, .inl (fun _ => 0))), (q_16, .inr (5, [.int 0, .int 0, .int 0, .int 0, .int 0, .ref a_18, .ref b_19])), (q_20, .inr (5, [.int 0, .int 0, .int 0, .int 0, .int 0, .ref a_22, .ref b_23]))] H := hP
  have hD : va_D A [(q, .inr (7, [.ref q_1, .ref q_16, .ref q_20, .null, .null, .null, .null, .null, .int 0, .int 0, .int 0])), (q_1, .inr (3, [.int 0, .int 0, .int 0, .ref tp_3, .ref nm_4, .ref dr_5, .int 0, .int 0, .int 0, .int 0, .int 0, .long 0, .int 0, .int 0])), (tp_3, .inl (kt_13, 900, .inl (fun _ => 0))), (dr_5, .inr (0, [.int 0, .int 0, .int 0, .int 0, .int 0, .int 0, .int 0, .int 0, .int 0, .int 0, .ref da_6, .ref db_7, .ref dc_8, .ref dd_9, .ref dw_10])), (dw_10, .inr (6, [.int 0, .int 0, .ref de_11, .ref df_12])), (da_6, .inl (ka_14, 9, .inl (fun _ => 0))), (db_7, .inl (kb_15, 9, .inl (fun _ => 0))), (q_16, .inr (5, [.int 0, .int 0, .int 0, .int 0, .int 0, .ref a_18, .ref b_19])), (q_20, .inr (5, [.int 0, .int 0, .int 0, .int 0, .int 0, .ref a_22, .ref b_23]))] := hD
  refine lv_aload_n hx hb dX7_init_37 rfl (lv_at hl 0 rfl) ?_
  refine va_new (ci := 6) (fs := [.int 0, .int 0, .null, .null]) (C := RX6) (T := TX6) (N := 4) hx hb hts (by decide +kernel) tyX6 tyX6_ok hown (hts (.classLink RX7 26 RX6) (by decide +kernel)) (hts (.instantiable RX6 4) (by decide +kernel)) (hts (.initialized RX6) (by decide +kernel)) hK hP hD hS hA rfl (dfX6) (Nat.le_of_ble_eq_true rfl) (Nat.le_of_ble_eq_true rfl) dX7_init_38 (fun q_24 H hP hD hS => ?_)
  have hP : va_P (dC, dI) vwCl [(q, .inr (7, [.ref q_1, .ref q_16, .ref q_20, .null, .null, .null, .null, .null, .int 0, .int 0, .int 0])), (q_1, .inr (3, [.int 0, .int 0, .int 0, .ref tp_3, .ref nm_4, .ref dr_5, .int 0, .int 0, .int 0, .int 0, .int 0, .long 0, .int 0, .int 0])), (tp_3, .inl (kt_13, 900, .inl (fun _ => 0))), (dr_5, .inr (0, [.int 0, .int 0, .int 0, .int 0, .int 0, .int 0, .int 0, .int 0, .int 0, .int 0, .ref da_6, .ref db_7, .ref dc_8, .ref dd_9, .ref dw_10])), (dw_10, .inr (6, [.int 0, .int 0, .ref de_11, .ref df_12])), (da_6, .inl (ka_14, 9, .inl (fun _ => 0))), (db_7, .inl (kb_15, 9, .inl (fun _ => 0))), (q_16, .inr (5, [.int 0, .int 0, .int 0, .int 0, .int 0, .ref a_18, .ref b_19])), (q_20, .inr (5, [.int 0, .int 0, .int 0, .int 0, .int 0, .ref a_22, .ref b_23])), (q_24, .inr (6, [.int 0, .int 0, .null, .null]))] H := hP
  have hD : va_D A [(q, .inr (7, [.ref q_1, .ref q_16, .ref q_20, .null, .null, .null, .null, .null, .int 0, .int 0, .int 0])), (q_1, .inr (3, [.int 0, .int 0, .int 0, .ref tp_3, .ref nm_4, .ref dr_5, .int 0, .int 0, .int 0, .int 0, .int 0, .long 0, .int 0, .int 0])), (tp_3, .inl (kt_13, 900, .inl (fun _ => 0))), (dr_5, .inr (0, [.int 0, .int 0, .int 0, .int 0, .int 0, .int 0, .int 0, .int 0, .int 0, .int 0, .ref da_6, .ref db_7, .ref dc_8, .ref dd_9, .ref dw_10])), (dw_10, .inr (6, [.int 0, .int 0, .ref de_11, .ref df_12])), (da_6, .inl (ka_14, 9, .inl (fun _ => 0))), (db_7, .inl (kb_15, 9, .inl (fun _ => 0))), (q_16, .inr (5, [.int 0, .int 0, .int 0, .int 0, .int 0, .ref a_18, .ref b_19])), (q_20, .inr (5, [.int 0, .int 0, .int 0, .int 0, .int 0, .ref a_22, .ref b_23])), (q_24, .inr (6, [.int 0, .int 0, .null, .null]))] := hD
  refine W.widen (k := 18) (n := 1035) (Nat.le_of_ble_eq_true rfl) (Nat.le_of_ble_eq_true rfl) ?_
  refine lv_dup hx hb dX7_init_41 rfl ?_
  have hPc := hP.sub (ws' := [(q_24, .inr (6, [.int 0, .int 0, .null, .null]))]) [9] rfl
  have hDc := hD.sub (ws' := [(q_24, .inr (6, [.int 0, .int 0, .null, .null]))]) [9] (by decide) rfl
  have hKc := hK.sub (tys' := []) [] rfl
  have hFc := va_free (wc := [(q_24, .inr (6, [.int 0, .int 0, .null, .null]))]) hD hS hA [9] rfl
  refine va_callv (va_runI (As := []) (rest := [.ref q_24, .ref q]) ⟨hx, hb, hml, hown, hts⟩ (c_X6_init l dC dI H.size q_24 ) (cwI 0 hts gX7_init_X6_init rfl rfl rfl (hts (.initialized RX6) (by decide +kernel)) (hts (.methodLink RX7 28 yX6_init) (by decide +kernel)) (hts (.instanceMethod yX6_init) (by decide +kernel)) rfl (by decide +kernel) ⟨Nat.le_of_ble_eq_true rfl, Nat.le_of_ble_eq_true rfl⟩) ⟨ax_blind (fun _ _ _ _ _ => trivial), ax_pre hPc hKc hDc (fun _ _ => trivial)⟩ rfl rfl hl.1 rfl (lv_room (Nat.le_of_ble_eq_true rfl)) dX7_init_42 ⟨Nat.le_of_ble_eq_true rfl, Nat.le_of_ble_eq_true rfl⟩) hS (fun q _ h => hFc q h) hFc (fun u t H1 locs ht hvm hw hB hz1 hk1 hS => ?_)
  obtain ⟨a_26, b_27, hP1, hK1, hD1⟩ := hB
  rw [ht] at hP1
  have hK1 := va_K.moved hvm.symm hK1
  obtain ⟨hP, hD⟩ := va_join (wr := [(q, .inr (7, [.ref q_1, .ref q_16, .ref q_20, .null, .null, .null, .null, .null, .int 0, .int 0, .int 0])), (q_1, .inr (3, [.int 0, .int 0, .int 0, .ref tp_3, .ref nm_4, .ref dr_5, .int 0, .int 0, .int 0, .int 0, .int 0, .long 0, .int 0, .int 0])), (tp_3, .inl (kt_13, 900, .inl (fun _ => 0))), (dr_5, .inr (0, [.int 0, .int 0, .int 0, .int 0, .int 0, .int 0, .int 0, .int 0, .int 0, .int 0, .ref da_6, .ref db_7, .ref dc_8, .ref dd_9, .ref dw_10])), (dw_10, .inr (6, [.int 0, .int 0, .ref de_11, .ref df_12])), (da_6, .inl (ka_14, 9, .inl (fun _ => 0))), (db_7, .inl (kb_15, 9, .inl (fun _ => 0))), (q_16, .inr (5, [.int 0, .int 0, .int 0, .int 0, .int 0, .ref a_18, .ref b_19])), (q_20, .inr (5, [.int 0, .int 0, .int 0, .int 0, .int 0, .ref a_22, .ref b_23]))]) (w1 := [(q_24, .inr (6, [.int 0, .int 0, .ref a_26, .ref b_27]))]) hP hD [9] [0, 1, 2, 3, 4, 5, 6, 7, 8] rfl rfl (by decide) (by decide) hk1 hFc hP1 hD1
  have hK := (hK.sub (tys' := [(kt_13, .byte), (ka_14, .int), (kb_15, .int)]) [0, 1, 2] rfl).app hK1
  generalize H1 = H at hP hS ⊢
  have hP : va_P (dC, dI) vwCl [(q, .inr (7, [.ref q_1, .ref q_16, .ref q_20, .null, .null, .null, .null, .null, .int 0, .int 0, .int 0])), (q_1, .inr (3, [.int 0, .int 0, .int 0, .ref tp_3, .ref nm_4, .ref dr_5, .int 0, .int 0, .int 0, .int 0, .int 0, .long 0, .int 0, .int 0])), (tp_3, .inl (kt_13, 900, .inl (fun _ => 0))), (dr_5, .inr (0, [.int 0, .int 0, .int 0, .int 0, .int 0, .int 0, .int 0, .int 0, .int 0, .int 0, .ref da_6, .ref db_7, .ref dc_8, .ref dd_9, .ref dw_10])), (dw_10, .inr (6, [.int 0, .int 0, .ref de_11, .ref df_12])), (da_6, .inl (ka_14, 9, .inl (fun _ => 0))), (db_7, .inl (kb_15, 9, .inl (fun _ => 0))), (q_16, .inr (5, [.int 0, .int 0, .int 0, .int 0, .int 0, .ref a_18, .ref b_19])), (q_20, .inr (5, [.int 0, .int 0, .int 0, .int 0, .int 0, .ref a_22, .ref b_23])), (q_24, .inr (6, [.int 0, .int 0, .ref a_26, .ref b_27]))] H := hP
  have hD : va_D A [(q, .inr (7, [.ref q_1, .ref q_16, .ref q_20, .null, .null, .null, .null, .null, .int 0, .int 0, .int 0])), (q_1, .inr (3, [.int 0, .int 0, .int 0, .ref tp_3, .ref nm_4, .ref dr_5, .int 0, .int 0, .int 0, .int 0, .int 0, .long 0, .int 0, .int 0])), (tp_3, .inl (kt_13, 900, .inl (fun _ => 0))), (dr_5, .inr (0, [.int 0, .int 0, .int 0, .int 0, .int 0, .int 0, .int 0, .int 0, .int 0, .int 0, .ref da_6, .ref db_7, .ref dc_8, .ref dd_9, .ref dw_10])), (dw_10, .inr (6, [.int 0, .int 0, .ref de_11, .ref df_12])), (da_6, .inl (ka_14, 9, .inl (fun _ => 0))), (db_7, .inl (kb_15, 9, .inl (fun _ => 0))), (q_16, .inr (5, [.int 0, .int 0, .int 0, .int 0, .int 0, .ref a_18, .ref b_19])), (q_20, .inr (5, [.int 0, .int 0, .int 0, .int 0, .int 0, .ref a_22, .ref b_23])), (q_24, .inr (6, [.int 0, .int 0, .ref a_26, .ref b_27]))] := hD
  have hK : va_K (dC, dI) vwCl [(kt_13, .byte), (ka_14, .int), (kb_15, .int)] s := hK
  refine W.widen (k := 20) (n := 1041) (Nat.le_of_ble_eq_true rfl) (Nat.le_of_ble_eq_true rfl) ?_
  refine va_putF (D := (dC, dI)) (ci := 7) (v := .ref q_24) (ty := (.object "WaxTurns$Watchers")) (C := RX7) (T := TX7) (N := 11) hx hb hts (by decide +kernel) tyX7 tyX7_ok nmX7 hown hK hP hD hS 0 rfl rfl 3 (by decide) (hts (.fieldLink RX7 29 "WaxTurns" "trial" "LWaxTurns$Watchers;") (by decide +kernel)) (fun _ h9 => h9) rfl hin rfl (by decide +kernel) rfl rfl (Nat.le_of_ble_eq_true rfl) dX7_init_45 (fun H locs hP hD hS => ?_)
  have hP : va_P (dC, dI) vwCl [(q, .inr (7, [.ref q_1, .ref q_16, .ref q_20, .ref q_24, .null, .null, .null, .null, .int 0, .int 0, .int 0])), (q_1, .inr (3, [.int 0, .int 0, .int 0, .ref tp_3, .ref nm_4, .ref dr_5, .int 0, .int 0, .int 0, .int 0, .int 0, .long 0, .int 0, .int 0])), (tp_3, .inl (kt_13, 900, .inl (fun _ => 0))), (dr_5, .inr (0, [.int 0, .int 0, .int 0, .int 0, .int 0, .int 0, .int 0, .int 0, .int 0, .int 0, .ref da_6, .ref db_7, .ref dc_8, .ref dd_9, .ref dw_10])), (dw_10, .inr (6, [.int 0, .int 0, .ref de_11, .ref df_12])), (da_6, .inl (ka_14, 9, .inl (fun _ => 0))), (db_7, .inl (kb_15, 9, .inl (fun _ => 0))), (q_16, .inr (5, [.int 0, .int 0, .int 0, .int 0, .int 0, .ref a_18, .ref b_19])), (q_20, .inr (5, [.int 0, .int 0, .int 0, .int 0, .int 0, .ref a_22, .ref b_23])), (q_24, .inr (6, [.int 0, .int 0, .ref a_26, .ref b_27]))] H := hP
  have hD : va_D A [(q, .inr (7, [.ref q_1, .ref q_16, .ref q_20, .ref q_24, .null, .null, .null, .null, .int 0, .int 0, .int 0])), (q_1, .inr (3, [.int 0, .int 0, .int 0, .ref tp_3, .ref nm_4, .ref dr_5, .int 0, .int 0, .int 0, .int 0, .int 0, .long 0, .int 0, .int 0])), (tp_3, .inl (kt_13, 900, .inl (fun _ => 0))), (dr_5, .inr (0, [.int 0, .int 0, .int 0, .int 0, .int 0, .int 0, .int 0, .int 0, .int 0, .int 0, .ref da_6, .ref db_7, .ref dc_8, .ref dd_9, .ref dw_10])), (dw_10, .inr (6, [.int 0, .int 0, .ref de_11, .ref df_12])), (da_6, .inl (ka_14, 9, .inl (fun _ => 0))), (db_7, .inl (kb_15, 9, .inl (fun _ => 0))), (q_16, .inr (5, [.int 0, .int 0, .int 0, .int 0, .int 0, .ref a_18, .ref b_19])), (q_20, .inr (5, [.int 0, .int 0, .int 0, .int 0, .int 0, .ref a_22, .ref b_23])), (q_24, .inr (6, [.int 0, .int 0, .ref a_26, .ref b_27]))] := hD
  refine lv_aload_n hx hb dX7_init_48 rfl (lv_at hl 0 rfl) ?_
  refine va_new (ci := 1) (fs := [.int 0, .int 0, .int 0, .null, .null]) (C := RX1) (T := TX1) (N := 5) hx hb hts (by decide +kernel) tyX1 tyX1_ok hown (hts (.classLink RX7 33 RX1) (by decide +kernel)) (hts (.instantiable RX1 5) (by decide +kernel)) (hts (.initialized RX1) (by decide +kernel)) hK hP hD hS hA rfl (dfX1) (Nat.le_of_ble_eq_true rfl) (Nat.le_of_ble_eq_true rfl) dX7_init_49 (fun q_28 H hP hD hS => ?_)
  have hP : va_P (dC, dI) vwCl [(q, .inr (7, [.ref q_1, .ref q_16, .ref q_20, .ref q_24, .null, .null, .null, .null, .int 0, .int 0, .int 0])), (q_1, .inr (3, [.int 0, .int 0, .int 0, .ref tp_3, .ref nm_4, .ref dr_5, .int 0, .int 0, .int 0, .int 0, .int 0, .long 0, .int 0, .int 0])), (tp_3, .inl (kt_13, 900, .inl (fun _ => 0))), (dr_5, .inr (0, [.int 0, .int 0, .int 0, .int 0, .int 0, .int 0, .int 0, .int 0, .int 0, .int 0, .ref da_6, .ref db_7, .ref dc_8, .ref dd_9, .ref dw_10])), (dw_10, .inr (6, [.int 0, .int 0, .ref de_11, .ref df_12])), (da_6, .inl (ka_14, 9, .inl (fun _ => 0))), (db_7, .inl (kb_15, 9, .inl (fun _ => 0))), (q_16, .inr (5, [.int 0, .int 0, .int 0, .int 0, .int 0, .ref a_18, .ref b_19])), (q_20, .inr (5, [.int 0, .int 0, .int 0, .int 0, .int 0, .ref a_22, .ref b_23])), (q_24, .inr (6, [.int 0, .int 0, .ref a_26, .ref b_27])), (q_28, .inr (1, [.int 0, .int 0, .int 0, .null, .null]))] H := hP
  have hD : va_D A [(q, .inr (7, [.ref q_1, .ref q_16, .ref q_20, .ref q_24, .null, .null, .null, .null, .int 0, .int 0, .int 0])), (q_1, .inr (3, [.int 0, .int 0, .int 0, .ref tp_3, .ref nm_4, .ref dr_5, .int 0, .int 0, .int 0, .int 0, .int 0, .long 0, .int 0, .int 0])), (tp_3, .inl (kt_13, 900, .inl (fun _ => 0))), (dr_5, .inr (0, [.int 0, .int 0, .int 0, .int 0, .int 0, .int 0, .int 0, .int 0, .int 0, .int 0, .ref da_6, .ref db_7, .ref dc_8, .ref dd_9, .ref dw_10])), (dw_10, .inr (6, [.int 0, .int 0, .ref de_11, .ref df_12])), (da_6, .inl (ka_14, 9, .inl (fun _ => 0))), (db_7, .inl (kb_15, 9, .inl (fun _ => 0))), (q_16, .inr (5, [.int 0, .int 0, .int 0, .int 0, .int 0, .ref a_18, .ref b_19])), (q_20, .inr (5, [.int 0, .int 0, .int 0, .int 0, .int 0, .ref a_22, .ref b_23])), (q_24, .inr (6, [.int 0, .int 0, .ref a_26, .ref b_27])), (q_28, .inr (1, [.int 0, .int 0, .int 0, .null, .null]))] := hD
  refine W.widen (k := 21) (n := 1046) (Nat.le_of_ble_eq_true rfl) (Nat.le_of_ble_eq_true rfl) ?_
  refine lv_dup hx hb dX7_init_52 rfl ?_
  have hPc := hP.sub (ws' := [(q_28, .inr (1, [.int 0, .int 0, .int 0, .null, .null]))]) [10] rfl
  have hDc := hD.sub (ws' := [(q_28, .inr (1, [.int 0, .int 0, .int 0, .null, .null]))]) [10] (by decide) rfl
  have hKc := hK.sub (tys' := []) [] rfl
  have hFc := va_free (wc := [(q_28, .inr (1, [.int 0, .int 0, .int 0, .null, .null]))]) hD hS hA [10] rfl
  refine va_callv (va_runI (As := []) (rest := [.ref q_28, .ref q]) ⟨hx, hb, hml, hown, hts⟩ (c_X1_init l dC dI H.size q_28 ) (cwI 0 hts gX7_init_X1_init rfl rfl rfl (hts (.initialized RX1) (by decide +kernel)) (hts (.methodLink RX7 35 yX1_init) (by decide +kernel)) (hts (.instanceMethod yX1_init) (by decide +kernel)) rfl (by decide +kernel) ⟨Nat.le_of_ble_eq_true rfl, Nat.le_of_ble_eq_true rfl⟩) ⟨ax_blind (fun _ _ _ _ hq => va_AO.moved (Vm.Alike.refl _) (hq)), ax_pre hPc hKc hDc (fun _ hW => va_AO.moved hW.alike hE0)⟩ rfl rfl hl.1 rfl (lv_room (Nat.le_of_ble_eq_true rfl)) dX7_init_53 ⟨Nat.le_of_ble_eq_true rfl, Nat.le_of_ble_eq_true rfl⟩) hS (fun q _ h => hFc q h) hFc (fun u t H1 locs ht hvm hw hB hz1 hk1 hS => ?_)
  obtain ⟨a_30, b_31, hP1, hK1, hD1⟩ := hB
  rw [ht] at hP1
  have hK1 := va_K.moved hvm.symm hK1
  obtain ⟨hP, hD⟩ := va_join (wr := [(q, .inr (7, [.ref q_1, .ref q_16, .ref q_20, .ref q_24, .null, .null, .null, .null, .int 0, .int 0, .int 0])), (q_1, .inr (3, [.int 0, .int 0, .int 0, .ref tp_3, .ref nm_4, .ref dr_5, .int 0, .int 0, .int 0, .int 0, .int 0, .long 0, .int 0, .int 0])), (tp_3, .inl (kt_13, 900, .inl (fun _ => 0))), (dr_5, .inr (0, [.int 0, .int 0, .int 0, .int 0, .int 0, .int 0, .int 0, .int 0, .int 0, .int 0, .ref da_6, .ref db_7, .ref dc_8, .ref dd_9, .ref dw_10])), (dw_10, .inr (6, [.int 0, .int 0, .ref de_11, .ref df_12])), (da_6, .inl (ka_14, 9, .inl (fun _ => 0))), (db_7, .inl (kb_15, 9, .inl (fun _ => 0))), (q_16, .inr (5, [.int 0, .int 0, .int 0, .int 0, .int 0, .ref a_18, .ref b_19])), (q_20, .inr (5, [.int 0, .int 0, .int 0, .int 0, .int 0, .ref a_22, .ref b_23])), (q_24, .inr (6, [.int 0, .int 0, .ref a_26, .ref b_27]))]) (w1 := [(q_28, .inr (1, [.int 0, .int 0, .int 0, .ref a_30, .ref b_31]))]) hP hD [10] [0, 1, 2, 3, 4, 5, 6, 7, 8, 9] rfl rfl (by decide) (by decide) hk1 hFc hP1 hD1
  have hK := (hK.sub (tys' := [(kt_13, .byte), (ka_14, .int), (kb_15, .int)]) [0, 1, 2] rfl).app hK1
  generalize H1 = H at hP hS ⊢
  have hP : va_P (dC, dI) vwCl [(q, .inr (7, [.ref q_1, .ref q_16, .ref q_20, .ref q_24, .null, .null, .null, .null, .int 0, .int 0, .int 0])), (q_1, .inr (3, [.int 0, .int 0, .int 0, .ref tp_3, .ref nm_4, .ref dr_5, .int 0, .int 0, .int 0, .int 0, .int 0, .long 0, .int 0, .int 0])), (tp_3, .inl (kt_13, 900, .inl (fun _ => 0))), (dr_5, .inr (0, [.int 0, .int 0, .int 0, .int 0, .int 0, .int 0, .int 0, .int 0, .int 0, .int 0, .ref da_6, .ref db_7, .ref dc_8, .ref dd_9, .ref dw_10])), (dw_10, .inr (6, [.int 0, .int 0, .ref de_11, .ref df_12])), (da_6, .inl (ka_14, 9, .inl (fun _ => 0))), (db_7, .inl (kb_15, 9, .inl (fun _ => 0))), (q_16, .inr (5, [.int 0, .int 0, .int 0, .int 0, .int 0, .ref a_18, .ref b_19])), (q_20, .inr (5, [.int 0, .int 0, .int 0, .int 0, .int 0, .ref a_22, .ref b_23])), (q_24, .inr (6, [.int 0, .int 0, .ref a_26, .ref b_27])), (q_28, .inr (1, [.int 0, .int 0, .int 0, .ref a_30, .ref b_31]))] H := hP
  have hD : va_D A [(q, .inr (7, [.ref q_1, .ref q_16, .ref q_20, .ref q_24, .null, .null, .null, .null, .int 0, .int 0, .int 0])), (q_1, .inr (3, [.int 0, .int 0, .int 0, .ref tp_3, .ref nm_4, .ref dr_5, .int 0, .int 0, .int 0, .int 0, .int 0, .long 0, .int 0, .int 0])), (tp_3, .inl (kt_13, 900, .inl (fun _ => 0))), (dr_5, .inr (0, [.int 0, .int 0, .int 0, .int 0, .int 0, .int 0, .int 0, .int 0, .int 0, .int 0, .ref da_6, .ref db_7, .ref dc_8, .ref dd_9, .ref dw_10])), (dw_10, .inr (6, [.int 0, .int 0, .ref de_11, .ref df_12])), (da_6, .inl (ka_14, 9, .inl (fun _ => 0))), (db_7, .inl (kb_15, 9, .inl (fun _ => 0))), (q_16, .inr (5, [.int 0, .int 0, .int 0, .int 0, .int 0, .ref a_18, .ref b_19])), (q_20, .inr (5, [.int 0, .int 0, .int 0, .int 0, .int 0, .ref a_22, .ref b_23])), (q_24, .inr (6, [.int 0, .int 0, .ref a_26, .ref b_27])), (q_28, .inr (1, [.int 0, .int 0, .int 0, .ref a_30, .ref b_31]))] := hD
  have hK : va_K (dC, dI) vwCl [(kt_13, .byte), (ka_14, .int), (kb_15, .int)] s := hK
  refine W.widen (k := 80) (n := 1540) (Nat.le_of_ble_eq_true rfl) (Nat.le_of_ble_eq_true rfl) ?_
  refine va_putF (D := (dC, dI)) (ci := 7) (v := .ref q_28) (ty := (.object "WaxTurns$History")) (C := RX7) (T := TX7) (N := 11) hx hb hts (by decide +kernel) tyX7 tyX7_ok nmX7 hown hK hP hD hS 0 rfl rfl 4 (by decide) (hts (.fieldLink RX7 36 "WaxTurns" "history" "LWaxTurns$History;") (by decide +kernel)) (fun _ h9 => h9) rfl hin rfl (by decide +kernel) rfl rfl (Nat.le_of_ble_eq_true rfl) dX7_init_56 (fun H locs hP hD hS => ?_)
  have hP : va_P (dC, dI) vwCl [(q, .inr (7, [.ref q_1, .ref q_16, .ref q_20, .ref q_24, .ref q_28, .null, .null, .null, .int 0, .int 0, .int 0])), (q_1, .inr (3, [.int 0, .int 0, .int 0, .ref tp_3, .ref nm_4, .ref dr_5, .int 0, .int 0, .int 0, .int 0, .int 0, .long 0, .int 0, .int 0])), (tp_3, .inl (kt_13, 900, .inl (fun _ => 0))), (dr_5, .inr (0, [.int 0, .int 0, .int 0, .int 0, .int 0, .int 0, .int 0, .int 0, .int 0, .int 0, .ref da_6, .ref db_7, .ref dc_8, .ref dd_9, .ref dw_10])), (dw_10, .inr (6, [.int 0, .int 0, .ref de_11, .ref df_12])), (da_6, .inl (ka_14, 9, .inl (fun _ => 0))), (db_7, .inl (kb_15, 9, .inl (fun _ => 0))), (q_16, .inr (5, [.int 0, .int 0, .int 0, .int 0, .int 0, .ref a_18, .ref b_19])), (q_20, .inr (5, [.int 0, .int 0, .int 0, .int 0, .int 0, .ref a_22, .ref b_23])), (q_24, .inr (6, [.int 0, .int 0, .ref a_26, .ref b_27])), (q_28, .inr (1, [.int 0, .int 0, .int 0, .ref a_30, .ref b_31]))] H := hP
  have hD : va_D A [(q, .inr (7, [.ref q_1, .ref q_16, .ref q_20, .ref q_24, .ref q_28, .null, .null, .null, .int 0, .int 0, .int 0])), (q_1, .inr (3, [.int 0, .int 0, .int 0, .ref tp_3, .ref nm_4, .ref dr_5, .int 0, .int 0, .int 0, .int 0, .int 0, .long 0, .int 0, .int 0])), (tp_3, .inl (kt_13, 900, .inl (fun _ => 0))), (dr_5, .inr (0, [.int 0, .int 0, .int 0, .int 0, .int 0, .int 0, .int 0, .int 0, .int 0, .int 0, .ref da_6, .ref db_7, .ref dc_8, .ref dd_9, .ref dw_10])), (dw_10, .inr (6, [.int 0, .int 0, .ref de_11, .ref df_12])), (da_6, .inl (ka_14, 9, .inl (fun _ => 0))), (db_7, .inl (kb_15, 9, .inl (fun _ => 0))), (q_16, .inr (5, [.int 0, .int 0, .int 0, .int 0, .int 0, .ref a_18, .ref b_19])), (q_20, .inr (5, [.int 0, .int 0, .int 0, .int 0, .int 0, .ref a_22, .ref b_23])), (q_24, .inr (6, [.int 0, .int 0, .ref a_26, .ref b_27])), (q_28, .inr (1, [.int 0, .int 0, .int 0, .ref a_30, .ref b_31]))] := hD
  refine lv_aload_n hx hb dX7_init_59 rfl (lv_at hl 0 rfl) ?_
  refine va_new (ci := 2) (fs := [.int 0, .int 0, .int 0, .null, .null, .int 0, .int 0]) (C := RX2) (T := TX2) (N := 7) hx hb hts (by decide +kernel) tyX2 tyX2_ok hown (hts (.classLink RX7 40 RX2) (by decide +kernel)) (hts (.instantiable RX2 7) (by decide +kernel)) (hts (.initialized RX2) (by decide +kernel)) hK hP hD hS hA rfl (dfX2) (Nat.le_of_ble_eq_true rfl) (Nat.le_of_ble_eq_true rfl) dX7_init_60 (fun q_32 H hP hD hS => ?_)
  have hP : va_P (dC, dI) vwCl [(q, .inr (7, [.ref q_1, .ref q_16, .ref q_20, .ref q_24, .ref q_28, .null, .null, .null, .int 0, .int 0, .int 0])), (q_1, .inr (3, [.int 0, .int 0, .int 0, .ref tp_3, .ref nm_4, .ref dr_5, .int 0, .int 0, .int 0, .int 0, .int 0, .long 0, .int 0, .int 0])), (tp_3, .inl (kt_13, 900, .inl (fun _ => 0))), (dr_5, .inr (0, [.int 0, .int 0, .int 0, .int 0, .int 0, .int 0, .int 0, .int 0, .int 0, .int 0, .ref da_6, .ref db_7, .ref dc_8, .ref dd_9, .ref dw_10])), (dw_10, .inr (6, [.int 0, .int 0, .ref de_11, .ref df_12])), (da_6, .inl (ka_14, 9, .inl (fun _ => 0))), (db_7, .inl (kb_15, 9, .inl (fun _ => 0))), (q_16, .inr (5, [.int 0, .int 0, .int 0, .int 0, .int 0, .ref a_18, .ref b_19])), (q_20, .inr (5, [.int 0, .int 0, .int 0, .int 0, .int 0, .ref a_22, .ref b_23])), (q_24, .inr (6, [.int 0, .int 0, .ref a_26, .ref b_27])), (q_28, .inr (1, [.int 0, .int 0, .int 0, .ref a_30, .ref b_31])), (q_32, .inr (2, [.int 0, .int 0, .int 0, .null, .null, .int 0, .int 0]))] H := hP
  have hD : va_D A [(q, .inr (7, [.ref q_1, .ref q_16, .ref q_20, .ref q_24, .ref q_28, .null, .null, .null, .int 0, .int 0, .int 0])), (q_1, .inr (3, [.int 0, .int 0, .int 0, .ref tp_3, .ref nm_4, .ref dr_5, .int 0, .int 0, .int 0, .int 0, .int 0, .long 0, .int 0, .int 0])), (tp_3, .inl (kt_13, 900, .inl (fun _ => 0))), (dr_5, .inr (0, [.int 0, .int 0, .int 0, .int 0, .int 0, .int 0, .int 0, .int 0, .int 0, .int 0, .ref da_6, .ref db_7, .ref dc_8, .ref dd_9, .ref dw_10])), (dw_10, .inr (6, [.int 0, .int 0, .ref de_11, .ref df_12])), (da_6, .inl (ka_14, 9, .inl (fun _ => 0))), (db_7, .inl (kb_15, 9, .inl (fun _ => 0))), (q_16, .inr (5, [.int 0, .int 0, .int 0, .int 0, .int 0, .ref a_18, .ref b_19])), (q_20, .inr (5, [.int 0, .int 0, .int 0, .int 0, .int 0, .ref a_22, .ref b_23])), (q_24, .inr (6, [.int 0, .int 0, .ref a_26, .ref b_27])), (q_28, .inr (1, [.int 0, .int 0, .int 0, .ref a_30, .ref b_31])), (q_32, .inr (2, [.int 0, .int 0, .int 0, .null, .null, .int 0, .int 0]))] := hD
  refine W.widen (k := 81) (n := 1547) (Nat.le_of_ble_eq_true rfl) (Nat.le_of_ble_eq_true rfl) ?_
  refine lv_dup hx hb dX7_init_63 rfl ?_
  have hPc := hP.sub (ws' := [(q_32, .inr (2, [.int 0, .int 0, .int 0, .null, .null, .int 0, .int 0]))]) [11] rfl
  have hDc := hD.sub (ws' := [(q_32, .inr (2, [.int 0, .int 0, .int 0, .null, .null, .int 0, .int 0]))]) [11] (by decide) rfl
  have hKc := hK.sub (tys' := []) [] rfl
  have hFc := va_free (wc := [(q_32, .inr (2, [.int 0, .int 0, .int 0, .null, .null, .int 0, .int 0]))]) hD hS hA [11] rfl
  refine va_callv (va_runI (As := []) (rest := [.ref q_32, .ref q]) ⟨hx, hb, hml, hown, hts⟩ (c_X2_init l dC dI H.size q_32 ) (cwI 0 hts gX7_init_X2_init rfl rfl rfl (hts (.initialized RX2) (by decide +kernel)) (hts (.methodLink RX7 42 yX2_init) (by decide +kernel)) (hts (.instanceMethod yX2_init) (by decide +kernel)) rfl (by decide +kernel) ⟨Nat.le_of_ble_eq_true rfl, Nat.le_of_ble_eq_true rfl⟩) ⟨ax_blind (fun _ _ _ _ _ => trivial), ax_pre hPc hKc hDc (fun _ _ => trivial)⟩ rfl rfl hl.1 rfl (lv_room (Nat.le_of_ble_eq_true rfl)) dX7_init_64 ⟨Nat.le_of_ble_eq_true rfl, Nat.le_of_ble_eq_true rfl⟩) hS (fun q _ h => hFc q h) hFc (fun u t H1 locs ht hvm hw hB hz1 hk1 hS => ?_)
  obtain ⟨hP1, hK1, hD1⟩ := hB
  rw [ht] at hP1
  have hK1 := va_K.moved hvm.symm hK1
  obtain ⟨hP, hD⟩ := va_join (wr := [(q, .inr (7, [.ref q_1, .ref q_16, .ref q_20, .ref q_24, .ref q_28, .null, .null, .null, .int 0, .int 0, .int 0])), (q_1, .inr (3, [.int 0, .int 0, .int 0, .ref tp_3, .ref nm_4, .ref dr_5, .int 0, .int 0, .int 0, .int 0, .int 0, .long 0, .int 0, .int 0])), (tp_3, .inl (kt_13, 900, .inl (fun _ => 0))), (dr_5, .inr (0, [.int 0, .int 0, .int 0, .int 0, .int 0, .int 0, .int 0, .int 0, .int 0, .int 0, .ref da_6, .ref db_7, .ref dc_8, .ref dd_9, .ref dw_10])), (dw_10, .inr (6, [.int 0, .int 0, .ref de_11, .ref df_12])), (da_6, .inl (ka_14, 9, .inl (fun _ => 0))), (db_7, .inl (kb_15, 9, .inl (fun _ => 0))), (q_16, .inr (5, [.int 0, .int 0, .int 0, .int 0, .int 0, .ref a_18, .ref b_19])), (q_20, .inr (5, [.int 0, .int 0, .int 0, .int 0, .int 0, .ref a_22, .ref b_23])), (q_24, .inr (6, [.int 0, .int 0, .ref a_26, .ref b_27])), (q_28, .inr (1, [.int 0, .int 0, .int 0, .ref a_30, .ref b_31]))]) (w1 := []) hP hD [11] [0, 1, 2, 3, 4, 5, 6, 7, 8, 9, 10] rfl rfl (by decide) (by decide) hk1 hFc hP1 hD1
  have hK := (hK.sub (tys' := [(kt_13, .byte), (ka_14, .int), (kb_15, .int)]) [0, 1, 2] rfl).app hK1
  generalize H1 = H at hP hS ⊢
  have hP : va_P (dC, dI) vwCl [(q, .inr (7, [.ref q_1, .ref q_16, .ref q_20, .ref q_24, .ref q_28, .null, .null, .null, .int 0, .int 0, .int 0])), (q_1, .inr (3, [.int 0, .int 0, .int 0, .ref tp_3, .ref nm_4, .ref dr_5, .int 0, .int 0, .int 0, .int 0, .int 0, .long 0, .int 0, .int 0])), (tp_3, .inl (kt_13, 900, .inl (fun _ => 0))), (dr_5, .inr (0, [.int 0, .int 0, .int 0, .int 0, .int 0, .int 0, .int 0, .int 0, .int 0, .int 0, .ref da_6, .ref db_7, .ref dc_8, .ref dd_9, .ref dw_10])), (dw_10, .inr (6, [.int 0, .int 0, .ref de_11, .ref df_12])), (da_6, .inl (ka_14, 9, .inl (fun _ => 0))), (db_7, .inl (kb_15, 9, .inl (fun _ => 0))), (q_16, .inr (5, [.int 0, .int 0, .int 0, .int 0, .int 0, .ref a_18, .ref b_19])), (q_20, .inr (5, [.int 0, .int 0, .int 0, .int 0, .int 0, .ref a_22, .ref b_23])), (q_24, .inr (6, [.int 0, .int 0, .ref a_26, .ref b_27])), (q_28, .inr (1, [.int 0, .int 0, .int 0, .ref a_30, .ref b_31]))] H := hP
  have hD : va_D A [(q, .inr (7, [.ref q_1, .ref q_16, .ref q_20, .ref q_24, .ref q_28, .null, .null, .null, .int 0, .int 0, .int 0])), (q_1, .inr (3, [.int 0, .int 0, .int 0, .ref tp_3, .ref nm_4, .ref dr_5, .int 0, .int 0, .int 0, .int 0, .int 0, .long 0, .int 0, .int 0])), (tp_3, .inl (kt_13, 900, .inl (fun _ => 0))), (dr_5, .inr (0, [.int 0, .int 0, .int 0, .int 0, .int 0, .int 0, .int 0, .int 0, .int 0, .int 0, .ref da_6, .ref db_7, .ref dc_8, .ref dd_9, .ref dw_10])), (dw_10, .inr (6, [.int 0, .int 0, .ref de_11, .ref df_12])), (da_6, .inl (ka_14, 9, .inl (fun _ => 0))), (db_7, .inl (kb_15, 9, .inl (fun _ => 0))), (q_16, .inr (5, [.int 0, .int 0, .int 0, .int 0, .int 0, .ref a_18, .ref b_19])), (q_20, .inr (5, [.int 0, .int 0, .int 0, .int 0, .int 0, .ref a_22, .ref b_23])), (q_24, .inr (6, [.int 0, .int 0, .ref a_26, .ref b_27])), (q_28, .inr (1, [.int 0, .int 0, .int 0, .ref a_30, .ref b_31]))] := hD
  have hK : va_K (dC, dI) vwCl [(kt_13, .byte), (ka_14, .int), (kb_15, .int)] s := hK
  refine W.widen (k := 83) (n := 3176) (Nat.le_of_ble_eq_true rfl) (Nat.le_of_ble_eq_true rfl) ?_
  refine va_putF (D := (dC, dI)) (ci := 7) (v := .ref q_32) (ty := (.object "WaxTurns$Laws")) (C := RX7) (T := TX7) (N := 11) hx hb hts (by decide +kernel) tyX7 tyX7_ok nmX7 hown hK hP hD hS 0 rfl rfl 5 (by decide) (hts (.fieldLink RX7 43 "WaxTurns" "laws" "LWaxTurns$Laws;") (by decide +kernel)) (fun _ h9 => h9) rfl hin rfl (by decide +kernel) rfl rfl (Nat.le_of_ble_eq_true rfl) dX7_init_67 (fun H locs hP hD hS => ?_)
  have hP : va_P (dC, dI) vwCl [(q, .inr (7, [.ref q_1, .ref q_16, .ref q_20, .ref q_24, .ref q_28, .ref q_32, .null, .null, .int 0, .int 0, .int 0])), (q_1, .inr (3, [.int 0, .int 0, .int 0, .ref tp_3, .ref nm_4, .ref dr_5, .int 0, .int 0, .int 0, .int 0, .int 0, .long 0, .int 0, .int 0])), (tp_3, .inl (kt_13, 900, .inl (fun _ => 0))), (dr_5, .inr (0, [.int 0, .int 0, .int 0, .int 0, .int 0, .int 0, .int 0, .int 0, .int 0, .int 0, .ref da_6, .ref db_7, .ref dc_8, .ref dd_9, .ref dw_10])), (dw_10, .inr (6, [.int 0, .int 0, .ref de_11, .ref df_12])), (da_6, .inl (ka_14, 9, .inl (fun _ => 0))), (db_7, .inl (kb_15, 9, .inl (fun _ => 0))), (q_16, .inr (5, [.int 0, .int 0, .int 0, .int 0, .int 0, .ref a_18, .ref b_19])), (q_20, .inr (5, [.int 0, .int 0, .int 0, .int 0, .int 0, .ref a_22, .ref b_23])), (q_24, .inr (6, [.int 0, .int 0, .ref a_26, .ref b_27])), (q_28, .inr (1, [.int 0, .int 0, .int 0, .ref a_30, .ref b_31]))] H := hP
  have hD : va_D A [(q, .inr (7, [.ref q_1, .ref q_16, .ref q_20, .ref q_24, .ref q_28, .ref q_32, .null, .null, .int 0, .int 0, .int 0])), (q_1, .inr (3, [.int 0, .int 0, .int 0, .ref tp_3, .ref nm_4, .ref dr_5, .int 0, .int 0, .int 0, .int 0, .int 0, .long 0, .int 0, .int 0])), (tp_3, .inl (kt_13, 900, .inl (fun _ => 0))), (dr_5, .inr (0, [.int 0, .int 0, .int 0, .int 0, .int 0, .int 0, .int 0, .int 0, .int 0, .int 0, .ref da_6, .ref db_7, .ref dc_8, .ref dd_9, .ref dw_10])), (dw_10, .inr (6, [.int 0, .int 0, .ref de_11, .ref df_12])), (da_6, .inl (ka_14, 9, .inl (fun _ => 0))), (db_7, .inl (kb_15, 9, .inl (fun _ => 0))), (q_16, .inr (5, [.int 0, .int 0, .int 0, .int 0, .int 0, .ref a_18, .ref b_19])), (q_20, .inr (5, [.int 0, .int 0, .int 0, .int 0, .int 0, .ref a_22, .ref b_23])), (q_24, .inr (6, [.int 0, .int 0, .ref a_26, .ref b_27])), (q_28, .inr (1, [.int 0, .int 0, .int 0, .ref a_30, .ref b_31]))] := hD
  refine lv_aload_n hx hb dX7_init_70 rfl (lv_at hl 0 rfl) ?_
  refine va_new (ci := 4) (fs := [.int 0, .null, .null]) (C := RX4) (T := TX4) (N := 3) hx hb hts (by decide +kernel) tyX4 tyX4_ok hown (hts (.classLink RX7 47 RX4) (by decide +kernel)) (hts (.instantiable RX4 3) (by decide +kernel)) (hts (.initialized RX4) (by decide +kernel)) hK hP hD hS hA rfl (dfX4) (Nat.le_of_ble_eq_true rfl) (Nat.le_of_ble_eq_true rfl) dX7_init_71 (fun q_34 H hP hD hS => ?_)
  have hP : va_P (dC, dI) vwCl [(q, .inr (7, [.ref q_1, .ref q_16, .ref q_20, .ref q_24, .ref q_28, .ref q_32, .null, .null, .int 0, .int 0, .int 0])), (q_1, .inr (3, [.int 0, .int 0, .int 0, .ref tp_3, .ref nm_4, .ref dr_5, .int 0, .int 0, .int 0, .int 0, .int 0, .long 0, .int 0, .int 0])), (tp_3, .inl (kt_13, 900, .inl (fun _ => 0))), (dr_5, .inr (0, [.int 0, .int 0, .int 0, .int 0, .int 0, .int 0, .int 0, .int 0, .int 0, .int 0, .ref da_6, .ref db_7, .ref dc_8, .ref dd_9, .ref dw_10])), (dw_10, .inr (6, [.int 0, .int 0, .ref de_11, .ref df_12])), (da_6, .inl (ka_14, 9, .inl (fun _ => 0))), (db_7, .inl (kb_15, 9, .inl (fun _ => 0))), (q_16, .inr (5, [.int 0, .int 0, .int 0, .int 0, .int 0, .ref a_18, .ref b_19])), (q_20, .inr (5, [.int 0, .int 0, .int 0, .int 0, .int 0, .ref a_22, .ref b_23])), (q_24, .inr (6, [.int 0, .int 0, .ref a_26, .ref b_27])), (q_28, .inr (1, [.int 0, .int 0, .int 0, .ref a_30, .ref b_31])), (q_34, .inr (4, [.int 0, .null, .null]))] H := hP
  have hD : va_D A [(q, .inr (7, [.ref q_1, .ref q_16, .ref q_20, .ref q_24, .ref q_28, .ref q_32, .null, .null, .int 0, .int 0, .int 0])), (q_1, .inr (3, [.int 0, .int 0, .int 0, .ref tp_3, .ref nm_4, .ref dr_5, .int 0, .int 0, .int 0, .int 0, .int 0, .long 0, .int 0, .int 0])), (tp_3, .inl (kt_13, 900, .inl (fun _ => 0))), (dr_5, .inr (0, [.int 0, .int 0, .int 0, .int 0, .int 0, .int 0, .int 0, .int 0, .int 0, .int 0, .ref da_6, .ref db_7, .ref dc_8, .ref dd_9, .ref dw_10])), (dw_10, .inr (6, [.int 0, .int 0, .ref de_11, .ref df_12])), (da_6, .inl (ka_14, 9, .inl (fun _ => 0))), (db_7, .inl (kb_15, 9, .inl (fun _ => 0))), (q_16, .inr (5, [.int 0, .int 0, .int 0, .int 0, .int 0, .ref a_18, .ref b_19])), (q_20, .inr (5, [.int 0, .int 0, .int 0, .int 0, .int 0, .ref a_22, .ref b_23])), (q_24, .inr (6, [.int 0, .int 0, .ref a_26, .ref b_27])), (q_28, .inr (1, [.int 0, .int 0, .int 0, .ref a_30, .ref b_31])), (q_34, .inr (4, [.int 0, .null, .null]))] := hD
  refine W.widen (k := 84) (n := 3179) (Nat.le_of_ble_eq_true rfl) (Nat.le_of_ble_eq_true rfl) ?_
  refine lv_dup hx hb dX7_init_74 rfl ?_
  have hPc := hP.sub (ws' := [(q_34, .inr (4, [.int 0, .null, .null]))]) [11] rfl
  have hDc := hD.sub (ws' := [(q_34, .inr (4, [.int 0, .null, .null]))]) [11] (by decide) rfl
  have hKc := hK.sub (tys' := []) [] rfl
  have hFc := va_free (wc := [(q_34, .inr (4, [.int 0, .null, .null]))]) hD hS hA [11] rfl
  refine va_callv (va_runI (As := []) (rest := [.ref q_34, .ref q]) ⟨hx, hb, hml, hown, hts⟩ (c_X4_init l dC dI H.size q_34 ) (cwI 0 hts gX7_init_X4_init rfl rfl rfl (hts (.initialized RX4) (by decide +kernel)) (hts (.methodLink RX7 49 yX4_init) (by decide +kernel)) (hts (.instanceMethod yX4_init) (by decide +kernel)) rfl (by decide +kernel) ⟨Nat.le_of_ble_eq_true rfl, Nat.le_of_ble_eq_true rfl⟩) ⟨ax_blind (fun _ _ _ _ _ => trivial), ax_pre hPc hKc hDc (fun _ _ => trivial)⟩ rfl rfl hl.1 rfl (lv_room (Nat.le_of_ble_eq_true rfl)) dX7_init_75 ⟨Nat.le_of_ble_eq_true rfl, Nat.le_of_ble_eq_true rfl⟩) hS (fun q _ h => hFc q h) hFc (fun u t H1 locs ht hvm hw hB hz1 hk1 hS => ?_)
  obtain ⟨hP1, hK1, hD1⟩ := hB
  rw [ht] at hP1
  have hK1 := va_K.moved hvm.symm hK1
  obtain ⟨hP, hD⟩ := va_join (wr := [(q, .inr (7, [.ref q_1, .ref q_16, .ref q_20, .ref q_24, .ref q_28, .ref q_32, .null, .null, .int 0, .int 0, .int 0])), (q_1, .inr (3, [.int 0, .int 0, .int 0, .ref tp_3, .ref nm_4, .ref dr_5, .int 0, .int 0, .int 0, .int 0, .int 0, .long 0, .int 0, .int 0])), (tp_3, .inl (kt_13, 900, .inl (fun _ => 0))), (dr_5, .inr (0, [.int 0, .int 0, .int 0, .int 0, .int 0, .int 0, .int 0, .int 0, .int 0, .int 0, .ref da_6, .ref db_7, .ref dc_8, .ref dd_9, .ref dw_10])), (dw_10, .inr (6, [.int 0, .int 0, .ref de_11, .ref df_12])), (da_6, .inl (ka_14, 9, .inl (fun _ => 0))), (db_7, .inl (kb_15, 9, .inl (fun _ => 0))), (q_16, .inr (5, [.int 0, .int 0, .int 0, .int 0, .int 0, .ref a_18, .ref b_19])), (q_20, .inr (5, [.int 0, .int 0, .int 0, .int 0, .int 0, .ref a_22, .ref b_23])), (q_24, .inr (6, [.int 0, .int 0, .ref a_26, .ref b_27])), (q_28, .inr (1, [.int 0, .int 0, .int 0, .ref a_30, .ref b_31]))]) (w1 := []) hP hD [11] [0, 1, 2, 3, 4, 5, 6, 7, 8, 9, 10] rfl rfl (by decide) (by decide) hk1 hFc hP1 hD1
  have hK := (hK.sub (tys' := [(kt_13, .byte), (ka_14, .int), (kb_15, .int)]) [0, 1, 2] rfl).app hK1
  generalize H1 = H at hP hS ⊢
  have hP : va_P (dC, dI) vwCl [(q, .inr (7, [.ref q_1, .ref q_16, .ref q_20, .ref q_24, .ref q_28, .ref q_32, .null, .null, .int 0, .int 0, .int 0])), (q_1, .inr (3, [.int 0, .int 0, .int 0, .ref tp_3, .ref nm_4, .ref dr_5, .int 0, .int 0, .int 0, .int 0, .int 0, .long 0, .int 0, .int 0])), (tp_3, .inl (kt_13, 900, .inl (fun _ => 0))), (dr_5, .inr (0, [.int 0, .int 0, .int 0, .int 0, .int 0, .int 0, .int 0, .int 0, .int 0, .int 0, .ref da_6, .ref db_7, .ref dc_8, .ref dd_9, .ref dw_10])), (dw_10, .inr (6, [.int 0, .int 0, .ref de_11, .ref df_12])), (da_6, .inl (ka_14, 9, .inl (fun _ => 0))), (db_7, .inl (kb_15, 9, .inl (fun _ => 0))), (q_16, .inr (5, [.int 0, .int 0, .int 0, .int 0, .int 0, .ref a_18, .ref b_19])), (q_20, .inr (5, [.int 0, .int 0, .int 0, .int 0, .int 0, .ref a_22, .ref b_23])), (q_24, .inr (6, [.int 0, .int 0, .ref a_26, .ref b_27])), (q_28, .inr (1, [.int 0, .int 0, .int 0, .ref a_30, .ref b_31]))] H := hP
  have hD : va_D A [(q, .inr (7, [.ref q_1, .ref q_16, .ref q_20, .ref q_24, .ref q_28, .ref q_32, .null, .null, .int 0, .int 0, .int 0])), (q_1, .inr (3, [.int 0, .int 0, .int 0, .ref tp_3, .ref nm_4, .ref dr_5, .int 0, .int 0, .int 0, .int 0, .int 0, .long 0, .int 0, .int 0])), (tp_3, .inl (kt_13, 900, .inl (fun _ => 0))), (dr_5, .inr (0, [.int 0, .int 0, .int 0, .int 0, .int 0, .int 0, .int 0, .int 0, .int 0, .int 0, .ref da_6, .ref db_7, .ref dc_8, .ref dd_9, .ref dw_10])), (dw_10, .inr (6, [.int 0, .int 0, .ref de_11, .ref df_12])), (da_6, .inl (ka_14, 9, .inl (fun _ => 0))), (db_7, .inl (kb_15, 9, .inl (fun _ => 0))), (q_16, .inr (5, [.int 0, .int 0, .int 0, .int 0, .int 0, .ref a_18, .ref b_19])), (q_20, .inr (5, [.int 0, .int 0, .int 0, .int 0, .int 0, .ref a_22, .ref b_23])), (q_24, .inr (6, [.int 0, .int 0, .ref a_26, .ref b_27])), (q_28, .inr (1, [.int 0, .int 0, .int 0, .ref a_30, .ref b_31]))] := hD
  have hK : va_K (dC, dI) vwCl [(kt_13, .byte), (ka_14, .int), (kb_15, .int)] s := hK
  refine W.widen (k := 86) (n := 3789) (Nat.le_of_ble_eq_true rfl) (Nat.le_of_ble_eq_true rfl) ?_
  refine va_putF (D := (dC, dI)) (ci := 7) (v := .ref q_34) (ty := (.object "WaxTurns$Routes")) (C := RX7) (T := TX7) (N := 11) hx hb hts (by decide +kernel) tyX7 tyX7_ok nmX7 hown hK hP hD hS 0 rfl rfl 6 (by decide) (hts (.fieldLink RX7 50 "WaxTurns" "routes" "LWaxTurns$Routes;") (by decide +kernel)) (fun _ h9 => h9) rfl hin rfl (by decide +kernel) rfl rfl (Nat.le_of_ble_eq_true rfl) dX7_init_78 (fun H locs hP hD hS => ?_)
  have hP : va_P (dC, dI) vwCl [(q, .inr (7, [.ref q_1, .ref q_16, .ref q_20, .ref q_24, .ref q_28, .ref q_32, .ref q_34, .null, .int 0, .int 0, .int 0])), (q_1, .inr (3, [.int 0, .int 0, .int 0, .ref tp_3, .ref nm_4, .ref dr_5, .int 0, .int 0, .int 0, .int 0, .int 0, .long 0, .int 0, .int 0])), (tp_3, .inl (kt_13, 900, .inl (fun _ => 0))), (dr_5, .inr (0, [.int 0, .int 0, .int 0, .int 0, .int 0, .int 0, .int 0, .int 0, .int 0, .int 0, .ref da_6, .ref db_7, .ref dc_8, .ref dd_9, .ref dw_10])), (dw_10, .inr (6, [.int 0, .int 0, .ref de_11, .ref df_12])), (da_6, .inl (ka_14, 9, .inl (fun _ => 0))), (db_7, .inl (kb_15, 9, .inl (fun _ => 0))), (q_16, .inr (5, [.int 0, .int 0, .int 0, .int 0, .int 0, .ref a_18, .ref b_19])), (q_20, .inr (5, [.int 0, .int 0, .int 0, .int 0, .int 0, .ref a_22, .ref b_23])), (q_24, .inr (6, [.int 0, .int 0, .ref a_26, .ref b_27])), (q_28, .inr (1, [.int 0, .int 0, .int 0, .ref a_30, .ref b_31]))] H := hP
  have hD : va_D A [(q, .inr (7, [.ref q_1, .ref q_16, .ref q_20, .ref q_24, .ref q_28, .ref q_32, .ref q_34, .null, .int 0, .int 0, .int 0])), (q_1, .inr (3, [.int 0, .int 0, .int 0, .ref tp_3, .ref nm_4, .ref dr_5, .int 0, .int 0, .int 0, .int 0, .int 0, .long 0, .int 0, .int 0])), (tp_3, .inl (kt_13, 900, .inl (fun _ => 0))), (dr_5, .inr (0, [.int 0, .int 0, .int 0, .int 0, .int 0, .int 0, .int 0, .int 0, .int 0, .int 0, .ref da_6, .ref db_7, .ref dc_8, .ref dd_9, .ref dw_10])), (dw_10, .inr (6, [.int 0, .int 0, .ref de_11, .ref df_12])), (da_6, .inl (ka_14, 9, .inl (fun _ => 0))), (db_7, .inl (kb_15, 9, .inl (fun _ => 0))), (q_16, .inr (5, [.int 0, .int 0, .int 0, .int 0, .int 0, .ref a_18, .ref b_19])), (q_20, .inr (5, [.int 0, .int 0, .int 0, .int 0, .int 0, .ref a_22, .ref b_23])), (q_24, .inr (6, [.int 0, .int 0, .ref a_26, .ref b_27])), (q_28, .inr (1, [.int 0, .int 0, .int 0, .ref a_30, .ref b_31]))] := hD
  refine lv_aload_n hx hb dX7_init_81 rfl (lv_at hl 0 rfl) ?_
  refine va_new (ci := 0) (fs := [.int 0, .int 0, .int 0, .int 0, .int 0, .int 0, .int 0, .int 0, .int 0, .int 0, .null, .null, .null, .null, .null]) (C := RX0) (T := TX0) (N := 15) hx hb hts (by decide +kernel) tyX0 tyX0_ok hown (hts (.classLink RX7 54 RX0) (by decide +kernel)) (hts (.instantiable RX0 15) (by decide +kernel)) (hts (.initialized RX0) (by decide +kernel)) hK hP hD hS hA rfl (dfX0) (Nat.le_of_ble_eq_true rfl) (Nat.le_of_ble_eq_true rfl) dX7_init_82 (fun q_36 H hP hD hS => ?_)
  have hP : va_P (dC, dI) vwCl [(q, .inr (7, [.ref q_1, .ref q_16, .ref q_20, .ref q_24, .ref q_28, .ref q_32, .ref q_34, .null, .int 0, .int 0, .int 0])), (q_1, .inr (3, [.int 0, .int 0, .int 0, .ref tp_3, .ref nm_4, .ref dr_5, .int 0, .int 0, .int 0, .int 0, .int 0, .long 0, .int 0, .int 0])), (tp_3, .inl (kt_13, 900, .inl (fun _ => 0))), (dr_5, .inr (0, [.int 0, .int 0, .int 0, .int 0, .int 0, .int 0, .int 0, .int 0, .int 0, .int 0, .ref da_6, .ref db_7, .ref dc_8, .ref dd_9, .ref dw_10])), (dw_10, .inr (6, [.int 0, .int 0, .ref de_11, .ref df_12])), (da_6, .inl (ka_14, 9, .inl (fun _ => 0))), (db_7, .inl (kb_15, 9, .inl (fun _ => 0))), (q_16, .inr (5, [.int 0, .int 0, .int 0, .int 0, .int 0, .ref a_18, .ref b_19])), (q_20, .inr (5, [.int 0, .int 0, .int 0, .int 0, .int 0, .ref a_22, .ref b_23])), (q_24, .inr (6, [.int 0, .int 0, .ref a_26, .ref b_27])), (q_28, .inr (1, [.int 0, .int 0, .int 0, .ref a_30, .ref b_31])), (q_36, .inr (0, [.int 0, .int 0, .int 0, .int 0, .int 0, .int 0, .int 0, .int 0, .int 0, .int 0, .null, .null, .null, .null, .null]))] H := hP
  have hD : va_D A [(q, .inr (7, [.ref q_1, .ref q_16, .ref q_20, .ref q_24, .ref q_28, .ref q_32, .ref q_34, .null, .int 0, .int 0, .int 0])), (q_1, .inr (3, [.int 0, .int 0, .int 0, .ref tp_3, .ref nm_4, .ref dr_5, .int 0, .int 0, .int 0, .int 0, .int 0, .long 0, .int 0, .int 0])), (tp_3, .inl (kt_13, 900, .inl (fun _ => 0))), (dr_5, .inr (0, [.int 0, .int 0, .int 0, .int 0, .int 0, .int 0, .int 0, .int 0, .int 0, .int 0, .ref da_6, .ref db_7, .ref dc_8, .ref dd_9, .ref dw_10])), (dw_10, .inr (6, [.int 0, .int 0, .ref de_11, .ref df_12])), (da_6, .inl (ka_14, 9, .inl (fun _ => 0))), (db_7, .inl (kb_15, 9, .inl (fun _ => 0))), (q_16, .inr (5, [.int 0, .int 0, .int 0, .int 0, .int 0, .ref a_18, .ref b_19])), (q_20, .inr (5, [.int 0, .int 0, .int 0, .int 0, .int 0, .ref a_22, .ref b_23])), (q_24, .inr (6, [.int 0, .int 0, .ref a_26, .ref b_27])), (q_28, .inr (1, [.int 0, .int 0, .int 0, .ref a_30, .ref b_31])), (q_36, .inr (0, [.int 0, .int 0, .int 0, .int 0, .int 0, .int 0, .int 0, .int 0, .int 0, .int 0, .null, .null, .null, .null, .null]))] := hD
  refine W.widen (k := 87) (n := 3804) (Nat.le_of_ble_eq_true rfl) (Nat.le_of_ble_eq_true rfl) ?_
  refine lv_dup hx hb dX7_init_85 rfl ?_
  have hPc := hP.sub (ws' := [(q_36, .inr (0, [.int 0, .int 0, .int 0, .int 0, .int 0, .int 0, .int 0, .int 0, .int 0, .int 0, .null, .null, .null, .null, .null]))]) [11] rfl
  have hDc := hD.sub (ws' := [(q_36, .inr (0, [.int 0, .int 0, .int 0, .int 0, .int 0, .int 0, .int 0, .int 0, .int 0, .int 0, .null, .null, .null, .null, .null]))]) [11] (by decide) rfl
  have hKc := hK.sub (tys' := []) [] rfl
  have hFc := va_free (wc := [(q_36, .inr (0, [.int 0, .int 0, .int 0, .int 0, .int 0, .int 0, .int 0, .int 0, .int 0, .int 0, .null, .null, .null, .null, .null]))]) hD hS hA [11] rfl
  refine va_callv (va_runI (As := []) (rest := [.ref q_36, .ref q]) ⟨hx, hb, hml, hown, hts⟩ (c_X0_init l dC dI H.size q_36 ) (cwI 0 hts gX7_init_X0_init rfl rfl rfl (hts (.initialized RX0) (by decide +kernel)) (hts (.methodLink RX7 56 yX0_init) (by decide +kernel)) (hts (.instanceMethod yX0_init) (by decide +kernel)) rfl (by decide +kernel) ⟨Nat.le_of_ble_eq_true rfl, Nat.le_of_ble_eq_true rfl⟩) ⟨ax_blind (fun _ _ _ _ _ => trivial), ax_pre hPc hKc hDc (fun _ _ => trivial)⟩ rfl rfl hl.1 rfl (lv_room (Nat.le_of_ble_eq_true rfl)) dX7_init_86 ⟨Nat.le_of_ble_eq_true rfl, Nat.le_of_ble_eq_true rfl⟩) hS (fun q _ h => hFc q h) hFc (fun u t H1 locs ht hvm hw hB hz1 hk1 hS => ?_)
  obtain ⟨a_38, b_39, c_40, d_41, w_42, e_43, f_44, ka_45, kb_46, hP1, hK1, hD1⟩ := hB
  rw [ht] at hP1
  have hK1 := va_K.moved hvm.symm hK1
  obtain ⟨hP, hD⟩ := va_join (wr := [(q, .inr (7, [.ref q_1, .ref q_16, .ref q_20, .ref q_24, .ref q_28, .ref q_32, .ref q_34, .null, .int 0, .int 0, .int 0])), (q_1, .inr (3, [.int 0, .int 0, .int 0, .ref tp_3, .ref nm_4, .ref dr_5, .int 0, .int 0, .int 0, .int 0, .int 0, .long 0, .int 0, .int 0])), (tp_3, .inl (kt_13, 900, .inl (fun _ => 0))), (dr_5, .inr (0, [.int 0, .int 0, .int 0, .int 0, .int 0, .int 0, .int 0, .int 0, .int 0, .int 0, .ref da_6, .ref db_7, .ref dc_8, .ref dd_9, .ref dw_10])), (dw_10, .inr (6, [.int 0, .int 0, .ref de_11, .ref df_12])), (da_6, .inl (ka_14, 9, .inl (fun _ => 0))), (db_7, .inl (kb_15, 9, .inl (fun _ => 0))), (q_16, .inr (5, [.int 0, .int 0, .int 0, .int 0, .int 0, .ref a_18, .ref b_19])), (q_20, .inr (5, [.int 0, .int 0, .int 0, .int 0, .int 0, .ref a_22, .ref b_23])), (q_24, .inr (6, [.int 0, .int 0, .ref a_26, .ref b_27])), (q_28, .inr (1, [.int 0, .int 0, .int 0, .ref a_30, .ref b_31]))]) (w1 := [(q_36, .inr (0, [.int 0, .int 0, .int 0, .int 0, .int 0, .int 0, .int 0, .int 0, .int 0, .int 0, .ref a_38, .ref b_39, .ref c_40, .ref d_41, .ref w_42])), (w_42, .inr (6, [.int 0, .int 0, .ref e_43, .ref f_44])), (a_38, .inl (ka_45, 9, .inl (fun _ => 0))), (b_39, .inl (kb_46, 9, .inl (fun _ => 0)))]) hP hD [11] [0, 1, 2, 3, 4, 5, 6, 7, 8, 9, 10] rfl rfl (by decide) (by decide) hk1 hFc hP1 hD1
  have hK := (hK.sub (tys' := [(kt_13, .byte), (ka_14, .int), (kb_15, .int)]) [0, 1, 2] rfl).app hK1
  generalize H1 = H at hP hS ⊢
  have hP : va_P (dC, dI) vwCl [(q, .inr (7, [.ref q_1, .ref q_16, .ref q_20, .ref q_24, .ref q_28, .ref q_32, .ref q_34, .null, .int 0, .int 0, .int 0])), (q_1, .inr (3, [.int 0, .int 0, .int 0, .ref tp_3, .ref nm_4, .ref dr_5, .int 0, .int 0, .int 0, .int 0, .int 0, .long 0, .int 0, .int 0])), (tp_3, .inl (kt_13, 900, .inl (fun _ => 0))), (dr_5, .inr (0, [.int 0, .int 0, .int 0, .int 0, .int 0, .int 0, .int 0, .int 0, .int 0, .int 0, .ref da_6, .ref db_7, .ref dc_8, .ref dd_9, .ref dw_10])), (dw_10, .inr (6, [.int 0, .int 0, .ref de_11, .ref df_12])), (da_6, .inl (ka_14, 9, .inl (fun _ => 0))), (db_7, .inl (kb_15, 9, .inl (fun _ => 0))), (q_16, .inr (5, [.int 0, .int 0, .int 0, .int 0, .int 0, .ref a_18, .ref b_19])), (q_20, .inr (5, [.int 0, .int 0, .int 0, .int 0, .int 0, .ref a_22, .ref b_23])), (q_24, .inr (6, [.int 0, .int 0, .ref a_26, .ref b_27])), (q_28, .inr (1, [.int 0, .int 0, .int 0, .ref a_30, .ref b_31])), (q_36, .inr (0, [.int 0, .int 0, .int 0, .int 0, .int 0, .int 0, .int 0, .int 0, .int 0, .int 0, .ref a_38, .ref b_39, .ref c_40, .ref d_41, .ref w_42])), (w_42, .inr (6, [.int 0, .int 0, .ref e_43, .ref f_44])), (a_38, .inl (ka_45, 9, .inl (fun _ => 0))), (b_39, .inl (kb_46, 9, .inl (fun _ => 0)))] H := hP
  have hD : va_D A [(q, .inr (7, [.ref q_1, .ref q_16, .ref q_20, .ref q_24, .ref q_28, .ref q_32, .ref q_34, .null, .int 0, .int 0, .int 0])), (q_1, .inr (3, [.int 0, .int 0, .int 0, .ref tp_3, .ref nm_4, .ref dr_5, .int 0, .int 0, .int 0, .int 0, .int 0, .long 0, .int 0, .int 0])), (tp_3, .inl (kt_13, 900, .inl (fun _ => 0))), (dr_5, .inr (0, [.int 0, .int 0, .int 0, .int 0, .int 0, .int 0, .int 0, .int 0, .int 0, .int 0, .ref da_6, .ref db_7, .ref dc_8, .ref dd_9, .ref dw_10])), (dw_10, .inr (6, [.int 0, .int 0, .ref de_11, .ref df_12])), (da_6, .inl (ka_14, 9, .inl (fun _ => 0))), (db_7, .inl (kb_15, 9, .inl (fun _ => 0))), (q_16, .inr (5, [.int 0, .int 0, .int 0, .int 0, .int 0, .ref a_18, .ref b_19])), (q_20, .inr (5, [.int 0, .int 0, .int 0, .int 0, .int 0, .ref a_22, .ref b_23])), (q_24, .inr (6, [.int 0, .int 0, .ref a_26, .ref b_27])), (q_28, .inr (1, [.int 0, .int 0, .int 0, .ref a_30, .ref b_31])), (q_36, .inr (0, [.int 0, .int 0, .int 0, .int 0, .int 0, .int 0, .int 0, .int 0, .int 0, .int 0, .ref a_38, .ref b_39, .ref c_40, .ref d_41, .ref w_42])), (w_42, .inr (6, [.int 0, .int 0, .ref e_43, .ref f_44])), (a_38, .inl (ka_45, 9, .inl (fun _ => 0))), (b_39, .inl (kb_46, 9, .inl (fun _ => 0)))] := hD
  have hK : va_K (dC, dI) vwCl [(kt_13, .byte), (ka_14, .int), (kb_15, .int), (ka_45, .int), (kb_46, .int)] s := hK
  refine W.widen (k := 94) (n := 3844) (Nat.le_of_ble_eq_true rfl) (Nat.le_of_ble_eq_true rfl) ?_
  refine va_put (D := (dC, dI)) (ci := 7) (v := .ref q_36) (ty := (.object "WaxTurns$Hall")) (C := RX7) (T := TX7) (N := 11) hx hb hts (by decide +kernel) tyX7 tyX7_ok nmX7 hown hK hP hD hS 0 rfl rfl 7 (by decide) (hts (.fieldLink RX7 57 "WaxTurns" "hall" "LWaxTurns$Hall;") (by decide +kernel)) (fun _ h9 => h9) rfl (by decide +kernel) rfl rfl (Nat.le_of_ble_eq_true rfl) dX7_init_89 (fun H locs hP hD hS => ?_)
  have hP : va_P (dC, dI) vwCl [(q, .inr (7, [.ref q_1, .ref q_16, .ref q_20, .ref q_24, .ref q_28, .ref q_32, .ref q_34, .ref q_36, .int 0, .int 0, .int 0])), (q_1, .inr (3, [.int 0, .int 0, .int 0, .ref tp_3, .ref nm_4, .ref dr_5, .int 0, .int 0, .int 0, .int 0, .int 0, .long 0, .int 0, .int 0])), (tp_3, .inl (kt_13, 900, .inl (fun _ => 0))), (dr_5, .inr (0, [.int 0, .int 0, .int 0, .int 0, .int 0, .int 0, .int 0, .int 0, .int 0, .int 0, .ref da_6, .ref db_7, .ref dc_8, .ref dd_9, .ref dw_10])), (dw_10, .inr (6, [.int 0, .int 0, .ref de_11, .ref df_12])), (da_6, .inl (ka_14, 9, .inl (fun _ => 0))), (db_7, .inl (kb_15, 9, .inl (fun _ => 0))), (q_16, .inr (5, [.int 0, .int 0, .int 0, .int 0, .int 0, .ref a_18, .ref b_19])), (q_20, .inr (5, [.int 0, .int 0, .int 0, .int 0, .int 0, .ref a_22, .ref b_23])), (q_24, .inr (6, [.int 0, .int 0, .ref a_26, .ref b_27])), (q_28, .inr (1, [.int 0, .int 0, .int 0, .ref a_30, .ref b_31])), (q_36, .inr (0, [.int 0, .int 0, .int 0, .int 0, .int 0, .int 0, .int 0, .int 0, .int 0, .int 0, .ref a_38, .ref b_39, .ref c_40, .ref d_41, .ref w_42])), (w_42, .inr (6, [.int 0, .int 0, .ref e_43, .ref f_44])), (a_38, .inl (ka_45, 9, .inl (fun _ => 0))), (b_39, .inl (kb_46, 9, .inl (fun _ => 0)))] H := hP
  have hD : va_D A [(q, .inr (7, [.ref q_1, .ref q_16, .ref q_20, .ref q_24, .ref q_28, .ref q_32, .ref q_34, .ref q_36, .int 0, .int 0, .int 0])), (q_1, .inr (3, [.int 0, .int 0, .int 0, .ref tp_3, .ref nm_4, .ref dr_5, .int 0, .int 0, .int 0, .int 0, .int 0, .long 0, .int 0, .int 0])), (tp_3, .inl (kt_13, 900, .inl (fun _ => 0))), (dr_5, .inr (0, [.int 0, .int 0, .int 0, .int 0, .int 0, .int 0, .int 0, .int 0, .int 0, .int 0, .ref da_6, .ref db_7, .ref dc_8, .ref dd_9, .ref dw_10])), (dw_10, .inr (6, [.int 0, .int 0, .ref de_11, .ref df_12])), (da_6, .inl (ka_14, 9, .inl (fun _ => 0))), (db_7, .inl (kb_15, 9, .inl (fun _ => 0))), (q_16, .inr (5, [.int 0, .int 0, .int 0, .int 0, .int 0, .ref a_18, .ref b_19])), (q_20, .inr (5, [.int 0, .int 0, .int 0, .int 0, .int 0, .ref a_22, .ref b_23])), (q_24, .inr (6, [.int 0, .int 0, .ref a_26, .ref b_27])), (q_28, .inr (1, [.int 0, .int 0, .int 0, .ref a_30, .ref b_31])), (q_36, .inr (0, [.int 0, .int 0, .int 0, .int 0, .int 0, .int 0, .int 0, .int 0, .int 0, .int 0, .ref a_38, .ref b_39, .ref c_40, .ref d_41, .ref w_42])), (w_42, .inr (6, [.int 0, .int 0, .ref e_43, .ref f_44])), (a_38, .inl (ka_45, 9, .inl (fun _ => 0))), (b_39, .inl (kb_46, 9, .inl (fun _ => 0)))] := hD
  refine lv_aload_n hx hb dX7_init_92 rfl (lv_at hl 0 rfl) ?_
  refine lv_iconst (v := 0) hx hb dX7_init_93 (by decide) ?_
  refine va_put (D := (dC, dI)) (ci := 7) (v := .int 0) (ty := .int) (C := RX7) (T := TX7) (N := 11) hx hb hts (by decide +kernel) tyX7 tyX7_ok nmX7 hown hK hP hD hS 0 rfl rfl 8 (by decide) (hts (.fieldLink RX7 61 "WaxTurns" "latestTrouble" "I") (by decide +kernel)) (fun _ h9 => h9) rfl (by decide +kernel) rfl rfl (Nat.le_of_ble_eq_true rfl) dX7_init_94 (fun H locs hP hD hS => ?_)
  have hP : va_P (dC, dI) vwCl [(q, .inr (7, [.ref q_1, .ref q_16, .ref q_20, .ref q_24, .ref q_28, .ref q_32, .ref q_34, .ref q_36, .int 0, .int 0, .int 0])), (q_1, .inr (3, [.int 0, .int 0, .int 0, .ref tp_3, .ref nm_4, .ref dr_5, .int 0, .int 0, .int 0, .int 0, .int 0, .long 0, .int 0, .int 0])), (tp_3, .inl (kt_13, 900, .inl (fun _ => 0))), (dr_5, .inr (0, [.int 0, .int 0, .int 0, .int 0, .int 0, .int 0, .int 0, .int 0, .int 0, .int 0, .ref da_6, .ref db_7, .ref dc_8, .ref dd_9, .ref dw_10])), (dw_10, .inr (6, [.int 0, .int 0, .ref de_11, .ref df_12])), (da_6, .inl (ka_14, 9, .inl (fun _ => 0))), (db_7, .inl (kb_15, 9, .inl (fun _ => 0))), (q_16, .inr (5, [.int 0, .int 0, .int 0, .int 0, .int 0, .ref a_18, .ref b_19])), (q_20, .inr (5, [.int 0, .int 0, .int 0, .int 0, .int 0, .ref a_22, .ref b_23])), (q_24, .inr (6, [.int 0, .int 0, .ref a_26, .ref b_27])), (q_28, .inr (1, [.int 0, .int 0, .int 0, .ref a_30, .ref b_31])), (q_36, .inr (0, [.int 0, .int 0, .int 0, .int 0, .int 0, .int 0, .int 0, .int 0, .int 0, .int 0, .ref a_38, .ref b_39, .ref c_40, .ref d_41, .ref w_42])), (w_42, .inr (6, [.int 0, .int 0, .ref e_43, .ref f_44])), (a_38, .inl (ka_45, 9, .inl (fun _ => 0))), (b_39, .inl (kb_46, 9, .inl (fun _ => 0)))] H := hP
  have hD : va_D A [(q, .inr (7, [.ref q_1, .ref q_16, .ref q_20, .ref q_24, .ref q_28, .ref q_32, .ref q_34, .ref q_36, .int 0, .int 0, .int 0])), (q_1, .inr (3, [.int 0, .int 0, .int 0, .ref tp_3, .ref nm_4, .ref dr_5, .int 0, .int 0, .int 0, .int 0, .int 0, .long 0, .int 0, .int 0])), (tp_3, .inl (kt_13, 900, .inl (fun _ => 0))), (dr_5, .inr (0, [.int 0, .int 0, .int 0, .int 0, .int 0, .int 0, .int 0, .int 0, .int 0, .int 0, .ref da_6, .ref db_7, .ref dc_8, .ref dd_9, .ref dw_10])), (dw_10, .inr (6, [.int 0, .int 0, .ref de_11, .ref df_12])), (da_6, .inl (ka_14, 9, .inl (fun _ => 0))), (db_7, .inl (kb_15, 9, .inl (fun _ => 0))), (q_16, .inr (5, [.int 0, .int 0, .int 0, .int 0, .int 0, .ref a_18, .ref b_19])), (q_20, .inr (5, [.int 0, .int 0, .int 0, .int 0, .int 0, .ref a_22, .ref b_23])), (q_24, .inr (6, [.int 0, .int 0, .ref a_26, .ref b_27])), (q_28, .inr (1, [.int 0, .int 0, .int 0, .ref a_30, .ref b_31])), (q_36, .inr (0, [.int 0, .int 0, .int 0, .int 0, .int 0, .int 0, .int 0, .int 0, .int 0, .int 0, .ref a_38, .ref b_39, .ref c_40, .ref d_41, .ref w_42])), (w_42, .inr (6, [.int 0, .int 0, .ref e_43, .ref f_44])), (a_38, .inl (ka_45, 9, .inl (fun _ => 0))), (b_39, .inl (kb_46, 9, .inl (fun _ => 0)))] := hD
  refine lv_aload_n hx hb dX7_init_97 rfl (lv_at hl 0 rfl) ?_
  refine lv_iconst (v := 0) hx hb dX7_init_98 (by decide) ?_
  refine va_put (D := (dC, dI)) (ci := 7) (v := .int 0) (ty := .int) (C := RX7) (T := TX7) (N := 11) hx hb hts (by decide +kernel) tyX7 tyX7_ok nmX7 hown hK hP hD hS 0 rfl rfl 9 (by decide) (hts (.fieldLink RX7 65 "WaxTurns" "latestFault" "I") (by decide +kernel)) (fun _ h9 => h9) rfl (by decide +kernel) rfl rfl (Nat.le_of_ble_eq_true rfl) dX7_init_99 (fun H locs hP hD hS => ?_)
  have hP : va_P (dC, dI) vwCl [(q, .inr (7, [.ref q_1, .ref q_16, .ref q_20, .ref q_24, .ref q_28, .ref q_32, .ref q_34, .ref q_36, .int 0, .int 0, .int 0])), (q_1, .inr (3, [.int 0, .int 0, .int 0, .ref tp_3, .ref nm_4, .ref dr_5, .int 0, .int 0, .int 0, .int 0, .int 0, .long 0, .int 0, .int 0])), (tp_3, .inl (kt_13, 900, .inl (fun _ => 0))), (dr_5, .inr (0, [.int 0, .int 0, .int 0, .int 0, .int 0, .int 0, .int 0, .int 0, .int 0, .int 0, .ref da_6, .ref db_7, .ref dc_8, .ref dd_9, .ref dw_10])), (dw_10, .inr (6, [.int 0, .int 0, .ref de_11, .ref df_12])), (da_6, .inl (ka_14, 9, .inl (fun _ => 0))), (db_7, .inl (kb_15, 9, .inl (fun _ => 0))), (q_16, .inr (5, [.int 0, .int 0, .int 0, .int 0, .int 0, .ref a_18, .ref b_19])), (q_20, .inr (5, [.int 0, .int 0, .int 0, .int 0, .int 0, .ref a_22, .ref b_23])), (q_24, .inr (6, [.int 0, .int 0, .ref a_26, .ref b_27])), (q_28, .inr (1, [.int 0, .int 0, .int 0, .ref a_30, .ref b_31])), (q_36, .inr (0, [.int 0, .int 0, .int 0, .int 0, .int 0, .int 0, .int 0, .int 0, .int 0, .int 0, .ref a_38, .ref b_39, .ref c_40, .ref d_41, .ref w_42])), (w_42, .inr (6, [.int 0, .int 0, .ref e_43, .ref f_44])), (a_38, .inl (ka_45, 9, .inl (fun _ => 0))), (b_39, .inl (kb_46, 9, .inl (fun _ => 0)))] H := hP
  have hD : va_D A [(q, .inr (7, [.ref q_1, .ref q_16, .ref q_20, .ref q_24, .ref q_28, .ref q_32, .ref q_34, .ref q_36, .int 0, .int 0, .int 0])), (q_1, .inr (3, [.int 0, .int 0, .int 0, .ref tp_3, .ref nm_4, .ref dr_5, .int 0, .int 0, .int 0, .int 0, .int 0, .long 0, .int 0, .int 0])), (tp_3, .inl (kt_13, 900, .inl (fun _ => 0))), (dr_5, .inr (0, [.int 0, .int 0, .int 0, .int 0, .int 0, .int 0, .int 0, .int 0, .int 0, .int 0, .ref da_6, .ref db_7, .ref dc_8, .ref dd_9, .ref dw_10])), (dw_10, .inr (6, [.int 0, .int 0, .ref de_11, .ref df_12])), (da_6, .inl (ka_14, 9, .inl (fun _ => 0))), (db_7, .inl (kb_15, 9, .inl (fun _ => 0))), (q_16, .inr (5, [.int 0, .int 0, .int 0, .int 0, .int 0, .ref a_18, .ref b_19])), (q_20, .inr (5, [.int 0, .int 0, .int 0, .int 0, .int 0, .ref a_22, .ref b_23])), (q_24, .inr (6, [.int 0, .int 0, .ref a_26, .ref b_27])), (q_28, .inr (1, [.int 0, .int 0, .int 0, .ref a_30, .ref b_31])), (q_36, .inr (0, [.int 0, .int 0, .int 0, .int 0, .int 0, .int 0, .int 0, .int 0, .int 0, .int 0, .ref a_38, .ref b_39, .ref c_40, .ref d_41, .ref w_42])), (w_42, .inr (6, [.int 0, .int 0, .ref e_43, .ref f_44])), (a_38, .inl (ka_45, 9, .inl (fun _ => 0))), (b_39, .inl (kb_46, 9, .inl (fun _ => 0)))] := hD
  refine lv_aload_n hx hb dX7_init_102 rfl (lv_at hl 0 rfl) ?_
  refine lv_iconst (v := (-1)) hx hb dX7_init_103 (by decide) ?_
  refine va_put (D := (dC, dI)) (ci := 7) (v := .int (-1)) (ty := .int) (C := RX7) (T := TX7) (N := 11) hx hb hts (by decide +kernel) tyX7 tyX7_ok nmX7 hown hK hP hD hS 0 rfl rfl 10 (by decide) (hts (.fieldLink RX7 68 "WaxTurns" "faultPlace" "I") (by decide +kernel)) (fun _ h9 => h9) rfl (by decide +kernel) rfl rfl (Nat.le_of_ble_eq_true rfl) dX7_init_104 (fun H locs hP hD hS => ?_)
  have hP : va_P (dC, dI) vwCl [(q, .inr (7, [.ref q_1, .ref q_16, .ref q_20, .ref q_24, .ref q_28, .ref q_32, .ref q_34, .ref q_36, .int 0, .int 0, .int (-1)])), (q_1, .inr (3, [.int 0, .int 0, .int 0, .ref tp_3, .ref nm_4, .ref dr_5, .int 0, .int 0, .int 0, .int 0, .int 0, .long 0, .int 0, .int 0])), (tp_3, .inl (kt_13, 900, .inl (fun _ => 0))), (dr_5, .inr (0, [.int 0, .int 0, .int 0, .int 0, .int 0, .int 0, .int 0, .int 0, .int 0, .int 0, .ref da_6, .ref db_7, .ref dc_8, .ref dd_9, .ref dw_10])), (dw_10, .inr (6, [.int 0, .int 0, .ref de_11, .ref df_12])), (da_6, .inl (ka_14, 9, .inl (fun _ => 0))), (db_7, .inl (kb_15, 9, .inl (fun _ => 0))), (q_16, .inr (5, [.int 0, .int 0, .int 0, .int 0, .int 0, .ref a_18, .ref b_19])), (q_20, .inr (5, [.int 0, .int 0, .int 0, .int 0, .int 0, .ref a_22, .ref b_23])), (q_24, .inr (6, [.int 0, .int 0, .ref a_26, .ref b_27])), (q_28, .inr (1, [.int 0, .int 0, .int 0, .ref a_30, .ref b_31])), (q_36, .inr (0, [.int 0, .int 0, .int 0, .int 0, .int 0, .int 0, .int 0, .int 0, .int 0, .int 0, .ref a_38, .ref b_39, .ref c_40, .ref d_41, .ref w_42])), (w_42, .inr (6, [.int 0, .int 0, .ref e_43, .ref f_44])), (a_38, .inl (ka_45, 9, .inl (fun _ => 0))), (b_39, .inl (kb_46, 9, .inl (fun _ => 0)))] H := hP
  have hD : va_D A [(q, .inr (7, [.ref q_1, .ref q_16, .ref q_20, .ref q_24, .ref q_28, .ref q_32, .ref q_34, .ref q_36, .int 0, .int 0, .int (-1)])), (q_1, .inr (3, [.int 0, .int 0, .int 0, .ref tp_3, .ref nm_4, .ref dr_5, .int 0, .int 0, .int 0, .int 0, .int 0, .long 0, .int 0, .int 0])), (tp_3, .inl (kt_13, 900, .inl (fun _ => 0))), (dr_5, .inr (0, [.int 0, .int 0, .int 0, .int 0, .int 0, .int 0, .int 0, .int 0, .int 0, .int 0, .ref da_6, .ref db_7, .ref dc_8, .ref dd_9, .ref dw_10])), (dw_10, .inr (6, [.int 0, .int 0, .ref de_11, .ref df_12])), (da_6, .inl (ka_14, 9, .inl (fun _ => 0))), (db_7, .inl (kb_15, 9, .inl (fun _ => 0))), (q_16, .inr (5, [.int 0, .int 0, .int 0, .int 0, .int 0, .ref a_18, .ref b_19])), (q_20, .inr (5, [.int 0, .int 0, .int 0, .int 0, .int 0, .ref a_22, .ref b_23])), (q_24, .inr (6, [.int 0, .int 0, .ref a_26, .ref b_27])), (q_28, .inr (1, [.int 0, .int 0, .int 0, .ref a_30, .ref b_31])), (q_36, .inr (0, [.int 0, .int 0, .int 0, .int 0, .int 0, .int 0, .int 0, .int 0, .int 0, .int 0, .ref a_38, .ref b_39, .ref c_40, .ref d_41, .ref w_42])), (w_42, .inr (6, [.int 0, .int 0, .ref e_43, .ref f_44])), (a_38, .inl (ka_45, 9, .inl (fun _ => 0))), (b_39, .inl (kb_46, 9, .inl (fun _ => 0)))] := hD
  have hP9 := hP.sub (ws' := [(q, .inr (7, [.ref q_1, .ref q_16, .ref q_20, .ref q_24, .ref q_28, .ref q_32, .ref q_34, .ref q_36, .int 0, .int 0, .int (-1)])), (q_36, .inr (0, [.int 0, .int 0, .int 0, .int 0, .int 0, .int 0, .int 0, .int 0, .int 0, .int 0, .ref a_38, .ref b_39, .ref c_40, .ref d_41, .ref w_42])), (w_42, .inr (6, [.int 0, .int 0, .ref e_43, .ref f_44])), (q_1, .inr (3, [.int 0, .int 0, .int 0, .ref tp_3, .ref nm_4, .ref dr_5, .int 0, .int 0, .int 0, .int 0, .int 0, .long 0, .int 0, .int 0])), (tp_3, .inl (kt_13, 900, .inl (fun _ => 0))), (dr_5, .inr (0, [.int 0, .int 0, .int 0, .int 0, .int 0, .int 0, .int 0, .int 0, .int 0, .int 0, .ref da_6, .ref db_7, .ref dc_8, .ref dd_9, .ref dw_10])), (dw_10, .inr (6, [.int 0, .int 0, .ref de_11, .ref df_12])), (da_6, .inl (ka_14, 9, .inl (fun _ => 0))), (db_7, .inl (kb_15, 9, .inl (fun _ => 0))), (q_16, .inr (5, [.int 0, .int 0, .int 0, .int 0, .int 0, .ref a_18, .ref b_19])), (q_28, .inr (1, [.int 0, .int 0, .int 0, .ref a_30, .ref b_31]))]) [0, 11, 12, 1, 2, 3, 4, 5, 6, 7, 10] rfl
  have hD9 := hD.sub (ws' := [(q, .inr (7, [.ref q_1, .ref q_16, .ref q_20, .ref q_24, .ref q_28, .ref q_32, .ref q_34, .ref q_36, .int 0, .int 0, .int (-1)])), (q_36, .inr (0, [.int 0, .int 0, .int 0, .int 0, .int 0, .int 0, .int 0, .int 0, .int 0, .int 0, .ref a_38, .ref b_39, .ref c_40, .ref d_41, .ref w_42])), (w_42, .inr (6, [.int 0, .int 0, .ref e_43, .ref f_44])), (q_1, .inr (3, [.int 0, .int 0, .int 0, .ref tp_3, .ref nm_4, .ref dr_5, .int 0, .int 0, .int 0, .int 0, .int 0, .long 0, .int 0, .int 0])), (tp_3, .inl (kt_13, 900, .inl (fun _ => 0))), (dr_5, .inr (0, [.int 0, .int 0, .int 0, .int 0, .int 0, .int 0, .int 0, .int 0, .int 0, .int 0, .ref da_6, .ref db_7, .ref dc_8, .ref dd_9, .ref dw_10])), (dw_10, .inr (6, [.int 0, .int 0, .ref de_11, .ref df_12])), (da_6, .inl (ka_14, 9, .inl (fun _ => 0))), (db_7, .inl (kb_15, 9, .inl (fun _ => 0))), (q_16, .inr (5, [.int 0, .int 0, .int 0, .int 0, .int 0, .ref a_18, .ref b_19])), (q_28, .inr (1, [.int 0, .int 0, .int 0, .ref a_30, .ref b_31]))]) [0, 11, 12, 1, 2, 3, 4, 5, 6, 7, 10] (by decide) rfl
  have hK9 := hK.sub (tys' := [(kt_13, .byte), (ka_14, .int), (kb_15, .int)]) [0, 1, 2] rfl
  exact W.vret hx hb hr (fun t ht hW => ⟨⟨(), rfl, trivial, q_1, q_16, q_20, q_24, q_28, q_32, q_34, q_36, a_38, b_39, c_40, d_41, w_42, e_43, f_44, a_18, b_19, a_30, b_31, tp_3, nm_4, dr_5, da_6, db_7, dc_8, dd_9, dw_10, de_11, df_12, kt_13, ka_14, kb_15, by rw [ht]; exact hP9, va_K.moved hW.alike hK9, hD9⟩, hS.F ht⟩) hS.2.2 dX7_init_107
