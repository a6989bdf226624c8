set_option maxHeartbeats 4000000 in
set_option maxRecDepth 100000 in
theorem c_X3_isWord (l : Launch) (dC : Nat → ClassId) (dI : Nat → Nat → Nat) (sz : Nat) (rd : Nat) (sq : Nat) (k : Nat → Value) : Met l yX3_isWord wsX3_isWord ({ frames := 0, cells := 0, slots := 0, locals := 0 }) (va_Pc [.ref rd, .ref sq] (ax_C dC dI sz [(rd, .inr (3, [k 0, k 1, k 2, k 3, k 4, k 5, k 6, k 7, k 8, k 9, .int 0, k 11, k 12, k 13]))] [] (fun _ => True))) (va_Qi (fun (r : Int32) (_ : Unit) => r = 0) (fun (_ : Unit) (t : State) => ax_B dC dI (va_A [(rd, .inr (3, [k 0, k 1, k 2, k 3, k 4, k 5, k 6, k 7, k 8, k 9, .int 0, k 11, k 12, k 13]))] sz) [(rd, .inr (3, [k 0, k 1, k 2, k 3, k 4, k 5, k 6, k 7, k 8, k 9, .int 0, k 11, k 12, k 13]))] [] t) (va_A [(rd, .inr (3, [k 0, k 1, k 2, k 3, k 4, k 5, k 6, k 7, k 8, k 9, .int 0, k 11, k 12, k 13]))] sz)) 0 0 (va_A [(rd, .inr (3, [k 0, k 1, k 2, k 3, k 4, k 5, k 6, k 7, k 8, k 9, .int 0, k 11, k 12, k 13]))] sz) := by
  refine Met.ofW (cc := cX3_isWord) (maxL := 5) (ret := (some .boolean)) (by decide) rfl ?_
  intro p e s m args below meth c s₁ B hml hv
  obtain ⟨rfl, hsz, hP, hK, hD0, hE⟩ := hv
  have hx := B.exec
  have hb := B.bytes
  have hr := B.returns
  have hts := atoms_spec (ws := wsX3_isWord) B.pre
  have hown : s.vm.findClass RX3 = some m.cls := findClass_of_methodNamed B.named
  have hlocks := B.notSynchronized
  subst hsz
  have hD := hD0.self (sz := s.heap.size)
  generalize hAe : va_A [(rd, .inr (3, [k 0, k 1, k 2, k 3, k 4, k 5, k 6, k 7, k 8, k 9, .int 0, k 11, k 12, k 13]))] s.heap.size = A at hD ⊢
  have hA : ∀ q : Nat, s.heap.size ≤ q → A q := fun q h => by rw [← hAe]; exact Or.inr h
  have hS : va_S A s.heap s.heap [] := va_S.rf
  have hP : va_P (dC, dI) vwCl [(rd, .inr (3, [k 0, k 1, k 2, k 3, k 4, k 5, k 6, k 7, k 8, k 9, .int 0, k 11, k 12, k 13]))] s.heap := hP
  have hl := lv_entry ([.ref rd, .ref sq]) (n := 5) (Nat.le_of_ble_eq_true rfl)
  rw [lg_entry_eq]
  generalize (lg_sl ([.ref rd, .ref sq]) ++ List.replicate (5 - (lg_sl ([.ref rd, .ref sq])).length) Slot.unset).toArray = ls at hl ⊢
  have hl : lv_has ls 5 [(0, .ref rd), (1, .ref sq)] := hl
  refine lv_aload_n hx hb dX3_isWord_0 rfl (lv_at hl 0 rfl) ?_
  refine va_get (D := (dC, dI)) (ci := 3) (v := .int 0) (C := RX3) (T := TX3) (N := 14) hx hb hts (by decide +kernel) hown hK hP 0 rfl rfl 10 (by decide) (hts (.fieldLink RX3 61 "WaxTurns$Reade\x72" "token" "I") (by decide +kernel)) (fun _ h9 => h9) rfl dX3_isWord_1 ?_
  refine lv_iconst (v := 1) hx hb dX3_isWord_4 (by decide) ?_
  refine lv_icmp_eq (tgt := 10) hx hb dX3_isWord_5 (by decide) (fun c_1 => absurd c_1 (by decide +kernel)) (fun _ => ?_)
  refine lv_iconst (v := 0) hx hb dX3_isWord_8 (by decide) ?_
  have hP9 := hP.sub (ws' := [(rd, .inr (3, [k 0, k 1, k 2, k 3, k 4, k 5, k 6, k 7, k 8, k 9, .int 0, k 11, k 12, k 13]))]) [0] rfl
  have hD9 := hD.sub (ws' := [(rd, .inr (3, [k 0, k 1, k 2, k 3, k 4, k 5, k 6, k 7, k 8, k 9, .int 0, k 11, k 12, k 13]))]) [0] (by decide) rfl
  have hK9 := hK.sub (tys' := []) [] rfl
  exact W.zret (v := 0) hx hb hr rfl (fun t ht hW => ⟨⟨0, (), rfl, rfl, by rw [ht]; exact hP9, va_K.moved hW.alike hK9, hD9⟩, hS.F ht⟩) hS.2.2 dX3_isWord_9

set_option maxHeartbeats 4000000 in
set_option maxRecDepth 100000 in
theorem c_X3_fails (l : Launch) (dC : Nat → ClassId) (dI : Nat → Nat → Nat) (sz : Nat) (rd : Nat) (n : Int32) (k : Nat → Value) (st : Int32) : Met l yX3_fails wsX3_fails ({ frames := 0, cells := 0, slots := 0, locals := 0 }) (va_Pc [.ref rd, .int n] (ax_C dC dI sz [(rd, .inr (3, [k 0, k 1, k 2, k 3, k 4, k 5, k 6, k 7, .int st, k 9, k 10, k 11, k 12, k 13]))] [] (fun _ => True))) (va_Qi (fun (r : Int32) (_ : Unit) => r = 0) (fun (_ : Unit) (t : State) => ax_B dC dI (va_A [(rd, .inr (3, [k 0, k 1, k 2, k 3, k 4, k 5, k 6, k 7, .int st, k 9, k 10, k 11, k 12, k 13]))] sz) [(rd, .inr (3, [k 0, .int n, .int st, k 3, k 4, k 5, k 6, k 7, .int st, k 9, k 10, k 11, k 12, k 13]))] [] t) (va_A [(rd, .inr (3, [k 0, k 1, k 2, k 3, k 4, k 5, k 6, k 7, .int st, k 9, k 10, k 11, k 12, k 13]))] sz)) 0 0 (va_A [(rd, .inr (3, [k 0, k 1, k 2, k 3, k 4, k 5, k 6, k 7, .int st, k 9, k 10, k 11, k 12, k 13]))] sz) := by
  refine Met.ofW (cc := cX3_fails) (maxL := 2) (ret := (some .boolean)) (by decide) rfl ?_
  intro p e s m args below meth c s₁ B hml hv
  obtain ⟨rfl, hsz, hP, hK, hD0, hE⟩ := hv
  have hx := B.exec
  have hb := B.bytes
  have hr := B.returns
  have hts := atoms_spec (ws := wsX3_fails) B.pre
  have hown : s.vm.findClass RX3 = some m.cls := findClass_of_methodNamed B.named
  have hlocks := B.notSynchronized
  subst hsz
  have hD := hD0.self (sz := s.heap.size)
  generalize hAe : va_A [(rd, .inr (3, [k 0, k 1, k 2, k 3, k 4, k 5, k 6, k 7, .int st, k 9, k 10, k 11, k 12, k 13]))] s.heap.size = A at hD ⊢
  have hA : ∀ q : Nat, s.heap.size ≤ q → A q := fun q h => by rw [← hAe]; exact Or.inr h
  have hS : va_S A s.heap s.heap [] := va_S.rf
  have hP : va_P (dC, dI) vwCl [(rd, .inr (3, [k 0, k 1, k 2, k 3, k 4, k 5, k 6, k 7, .int st, k 9, k 10, k 11, k 12, k 13]))] s.heap := hP
  have hl := lv_entry ([.ref rd, .int n]) (n := 2) (Nat.le_of_ble_eq_true rfl)
  rw [lg_entry_eq]
  generalize (lg_sl ([.ref rd, .int n]) ++ List.replicate (2 - (lg_sl ([.ref rd, .int n])).length) Slot.unset).toArray = ls at hl ⊢
  have hl : lv_has ls 2 [(0, .ref rd), (1, .int n)] := hl
  refine lv_aload_n hx hb dX3_fails_0 rfl (lv_at hl 0 rfl) ?_
  refine lv_iload_n hx hb dX3_fails_1 rfl (lv_at hl 1 rfl) ?_
  refine va_put (D := (dC, dI)) (ci := 3) (v := .int n) (ty := .int) (C := RX3) (T := TX3) (N := 14) hx hb hts (by decide +kernel) tyX3 tyX3_ok nmX3 hown hK hP hD hS 0 rfl rfl 1 (by decide) (hts (.fieldLink RX3 45 "WaxTurns$Reade\x72" "faultNumbe\x72" "I") (by decide +kernel)) (fun _ h9 => h9) rfl (by decide +kernel) rfl rfl (Nat.le_of_ble_eq_true rfl) dX3_fails_2 (fun H locs hP hD hS => ?_)
  have hP : va_P (dC, dI) vwCl [(rd, .inr (3, [k 0, .int n, k 2, k 3, k 4, k 5, k 6, k 7, .int st, k 9, k 10, k 11, k 12, k 13]))] H := hP
  have hD : va_D A [(rd, .inr (3, [k 0, .int n, k 2, k 3, k 4, k 5, k 6, k 7, .int st, k 9, k 10, k 11, k 12, k 13]))] := hD
  refine lv_aload_n hx hb dX3_fails_5 rfl (lv_at hl 0 rfl) ?_
  refine lv_aload_n hx hb dX3_fails_6 rfl (lv_at hl 0 rfl) ?_
  refine va_get (D := (dC, dI)) (ci := 3) (v := .int st) (C := RX3) (T := TX3) (N := 14) hx hb hts (by decide +kernel) hown hK hP 0 rfl rfl 8 (by decide) (hts (.fieldLink RX3 72 "WaxTurns$Reade\x72" "start" "I") (by decide +kernel)) (fun _ h9 => h9) rfl dX3_fails_7 ?_
  refine va_put (D := (dC, dI)) (ci := 3) (v := .int st) (ty := .int) (C := RX3) (T := TX3) (N := 14) hx hb hts (by decide +kernel) tyX3 tyX3_ok nmX3 hown hK hP hD hS 0 rfl rfl 2 (by decide) (hts (.fieldLink RX3 48 "WaxTurns$Reade\x72" "faultPlace" "I") (by decide +kernel)) (fun _ h9 => h9) rfl (by decide +kernel) rfl rfl (Nat.le_of_ble_eq_true rfl) dX3_fails_10 (fun H locs hP hD hS => ?_)
  have hP : va_P (dC, dI) vwCl [(rd, .inr (3, [k 0, .int n, .int st, k 3, k 4, k 5, k 6, k 7, .int st, k 9, k 10, k 11, k 12, k 13]))] H := hP
  have hD : va_D A [(rd, .inr (3, [k 0, .int n, .int st, k 3, k 4, k 5, k 6, k 7, .int st, k 9, k 10, k 11, k 12, k 13]))] := hD
  refine lv_iconst (v := 0) hx hb dX3_fails_13 (by decide) ?_
  have hP9 := hP.sub (ws' := [(rd, .inr (3, [k 0, .int n, .int st, k 3, k 4, k 5, k 6, k 7, .int st, k 9, k 10, k 11, k 12, k 13]))]) [0] rfl
  have hD9 := hD.sub (ws' := [(rd, .inr (3, [k 0, .int n, .int st, k 3, k 4, k 5, k 6, k 7, .int st, k 9, k 10, k 11, k 12, k 13]))]) [0] (by decide) rfl
  have hK9 := hK.sub (tys' := []) [] rfl
  exact W.zret (v := 0) hx hb hr rfl (fun t ht hW => ⟨⟨0, (), rfl, rfl, by rw [ht]; exact hP9, va_K.moved hW.alike hK9, hD9⟩, hS.F ht⟩) hS.2.2 dX3_fails_14

set_option maxHeartbeats 4000000 in
set_option maxRecDepth 100000 in
theorem c_X3_readLine (l : Launch) (dC : Nat → ClassId) (dI : Nat → Nat → Nat) (sz : Nat) (rd : Nat) (k : Nat → Value) (st : Int32) (s98 : Nat) (s110 : Nat) (s112 : Nat) (s114 : Nat) (s116 : Nat) : Met l yX3_readLine wsX3_readLine ({ frames := 1, cells := 0, slots := 0, locals := 24 }) (va_Pc [.ref rd] (ax_C dC dI sz [(rd, .inr (3, [k 0, k 1, k 2, k 3, k 4, k 5, k 6, k 7, .int st, k 9, .int 0, k 11, k 12, k 13]))] [] (fun U => vk_R RX3 98 "gallery" s98 U ∧ vk_R RX3 110 "law" s110 U ∧ vk_R RX3 112 "figure" s112 U ∧ vk_R RX3 114 "watche\x72" s114 U ∧ vk_R RX3 116 "seen" s116 U))) (va_Qi (fun (r : Int32) (_ : Unit) => r = 0) (fun (_ : Unit) (t : State) => ax_B dC dI (va_A [(rd, .inr (3, [k 0, k 1, k 2, k 3, k 4, k 5, k 6, k 7, .int st, k 9, .int 0, k 11, k 12, k 13]))] sz) [(rd, .inr (3, [k 0, .int 1, .int st, k 3, k 4, k 5, k 6, k 7, .int st, k 9, .int 0, k 11, k 12, k 13]))] [] t) (va_A [(rd, .inr (3, [k 0, k 1, k 2, k 3, k 4, k 5, k 6, k 7, .int st, k 9, .int 0, k 11, k 12, k 13]))] sz)) 0 0 (va_A [(rd, .inr (3, [k 0, k 1, k 2, k 3, k 4, k 5, k 6, k 7, .int st, k 9, .int 0, k 11, k 12, k 13]))] sz) := by
  refine Met.ofW (cc := cX3_readLine) (maxL := 1) (ret := (some .boolean)) (by decide) rfl ?_
  intro p e s m args below meth c s₁ B hml hv
  obtain ⟨rfl, hsz, hP, hK, hD0, hE⟩ := hv
  have hx := B.exec
  have hb := B.bytes
  have hr := B.returns
  have hts := atoms_spec (ws := wsX3_readLine) B.pre
  have hown : s.vm.findClass RX3 = some m.cls := findClass_of_methodNamed B.named
  have hlocks := B.notSynchronized
  subst hsz
  have hD := hD0.self (sz := s.heap.size)
  generalize hAe : va_A [(rd, .inr (3, [k 0, k 1, k 2, k 3, k 4, k 5, k 6, k 7, .int st, k 9, .int 0, k 11, k 12, k 13]))] s.heap.size = A at hD ⊢
  have hA : ∀ q : Nat, s.heap.size ≤ q → A q := fun q h => by rw [← hAe]; exact Or.inr h
  have hS : va_S A s.heap s.heap [] := va_S.rf
  have hP : va_P (dC, dI) vwCl [(rd, .inr (3, [k 0, k 1, k 2, k 3, k 4, k 5, k 6, k 7, .int st, k 9, .int 0, k 11, k 12, k 13]))] s.heap := hP
  obtain ⟨hE0, hE1, hE2, hE3, hE4⟩ := hE
  have hl := lv_entry ([.ref rd]) (n := 1) (Nat.le_of_ble_eq_true rfl)
  rw [lg_entry_eq]
  generalize (lg_sl ([.ref rd]) ++ List.replicate (1 - (lg_sl ([.ref rd])).length) Slot.unset).toArray = ls at hl ⊢
  have hl : lv_has ls 1 [(0, .ref rd)] := hl
  refine lv_aload_n hx hb dX3_readLine_0 rfl (lv_at hl 0 rfl) ?_
  refine va_ldcS hx hb hown hE0 dX3_readLine_1 ?_
  have hPc := hP.sub (ws' := [(rd, .inr (3, [k 0, k 1, k 2, k 3, k 4, k 5, k 6, k 7, .int st, k 9, .int 0, k 11, k 12, k 13]))]) [0] rfl
  have hDc := hD.sub (ws' := [(rd, .inr (3, [k 0, k 1, k 2, k 3, k 4, k 5, k 6, k 7, .int st, k 9, .int 0, k 11, k 12, k 13]))]) [0] (by decide) rfl
  have hKc := hK.sub (tys' := []) [] rfl
  have hFc := va_free (wc := [(rd, .inr (3, [k 0, k 1, k 2, k 3, k 4, k 5, k 6, k 7, .int st, k 9, .int 0, k 11, k 12, k 13]))]) hD hS hA [0] rfl
  refine va_calli (va_runV (As := [.ref s98]) (rest := []) ⟨hx, hb, hml, hown, hts⟩ (c_X3_isWord l dC dI s.heap.size rd s98 (fun i9 => ([k 0, k 1, k 2, k 3, k 4, k 5, k 6, k 7, .int st, k 9, .null, k 11, k 12, k 13] : List Value).getD i9 .null) ) (cwV 1 hts gX3_readLine_X3_isWord rfl rfl rfl (by decide +kernel) ⟨Nat.le_of_ble_eq_true rfl, Nat.le_of_ble_eq_true rfl⟩) ⟨ax_blind (fun _ _ _ _ _ => trivial), va_recv hKc hPc (ci := 3) (q0 := 0) rfl rfl, ax_pre hPc hKc hDc (fun _ _ => trivial)⟩ rfl rfl hl.1 rfl (lv_room (Nat.le_of_ble_eq_true rfl)) dX3_readLine_3 ⟨Nat.le_of_ble_eq_true rfl, Nat.le_of_ble_eq_true rfl⟩) hS (fun q _ h => hFc q h) hFc (fun r_1 u t H1 locs ht hvm hw hB hz1 hk1 hS => ?_)
  obtain ⟨hP1, hK1, hD1⟩ := hB
  rw [ht] at hP1
  have hK1 := va_K.moved hvm.symm hK1
  obtain ⟨hP, hD⟩ := va_join (wr := []) (w1 := [(rd, .inr (3, [k 0, k 1, k 2, k 3, k 4, k 5, k 6, k 7, .int st, k 9, .int 0, k 11, k 12, k 13]))]) hP hD [0] [] rfl rfl (by decide) (by decide) hk1 hFc hP1 hD1
  have hK := (hK.sub (tys' := []) [] rfl).app hK1
  generalize H1 = H at hP hS ⊢
  have hP : va_P (dC, dI) vwCl [(rd, .inr (3, [k 0, k 1, k 2, k 3, k 4, k 5, k 6, k 7, .int st, k 9, .int 0, k 11, k 12, k 13]))] H := hP
  have hD : va_D A [(rd, .inr (3, [k 0, k 1, k 2, k 3, k 4, k 5, k 6, k 7, .int st, k 9, .int 0, k 11, k 12, k 13]))] := hD
  have hK : va_K (dC, dI) vwCl [] s := hK
  have hw : r_1 = 0 := hw
  subst hw
  refine lv_if_eq (tgt := 32) hx hb dX3_readLine_6 (by decide) (fun _ => ?_) (fun c_2 => absurd (by decide +kernel) c_2)
  refine lv_aload_n hx hb dX3_readLine_32 rfl (lv_at hl 0 rfl) ?_
  refine va_ldcS hx hb hown hE1 dX3_readLine_33 ?_
  have hPc := hP.sub (ws' := [(rd, .inr (3, [k 0, k 1, k 2, k 3, k 4, k 5, k 6, k 7, .int st, k 9, .int 0, k 11, k 12, k 13]))]) [0] rfl
  have hDc := hD.sub (ws' := [(rd, .inr (3, [k 0, k 1, k 2, k 3, k 4, k 5, k 6, k 7, .int st, k 9, .int 0, k 11, k 12, k 13]))]) [0] (by decide) rfl
  have hKc := hK.sub (tys' := []) [] rfl
  have hFc := va_free (wc := [(rd, .inr (3, [k 0, k 1, k 2, k 3, k 4, k 5, k 6, k 7, .int st, k 9, .int 0, k 11, k 12, k 13]))]) hD hS hA [0] rfl
  refine va_calli (va_runV (As := [.ref s110]) (rest := []) ⟨hx, hb, hml, hown, hts⟩ (c_X3_isWord l dC dI H.size rd s110 (fun i9 => ([k 0, k 1, k 2, k 3, k 4, k 5, k 6, k 7, .int st, k 9, .null, k 11, k 12, k 13] : List Value).getD i9 .null) ) (cwV 1 hts gX3_readLine_X3_isWord rfl rfl rfl (by decide +kernel) ⟨Nat.le_of_ble_eq_true rfl, Nat.le_of_ble_eq_true rfl⟩) ⟨ax_blind (fun _ _ _ _ _ => trivial), va_recv hKc hPc (ci := 3) (q0 := 0) rfl rfl, ax_pre hPc hKc hDc (fun _ _ => trivial)⟩ rfl rfl hl.1 rfl (lv_room (Nat.le_of_ble_eq_true rfl)) dX3_readLine_35 ⟨Nat.le_of_ble_eq_true rfl, Nat.le_of_ble_eq_true rfl⟩) hS (fun q _ h => hFc q h) hFc (fun r_3 u t H1 locs ht hvm hw hB hz1 hk1 hS => ?_)
  obtain ⟨hP1, hK1, hD1⟩ := hB
  rw [ht] at hP1
  have hK1 := va_K.moved hvm.symm hK1
  obtain ⟨hP, hD⟩ := va_join (wr := []) (w1 := [(rd, .inr (3, [k 0, k 1, k 2, k 3, k 4, k 5, k 6, k 7, .int st, k 9, .int 0, k 11, k 12, k 13]))]) hP hD [0] [] rfl rfl (by decide) (by decide) hk1 hFc hP1 hD1
  have hK := (hK.sub (tys' := []) [] rfl).app hK1
  generalize H1 = H at hP hS ⊢
  have hP : va_P (dC, dI) vwCl [(rd, .inr (3, [k 0, k 1, k 2, k 3, k 4, k 5, k 6, k 7, .int st, k 9, .int 0, k 11, k 12, k 13]))] H := hP
  have hD : va_D A [(rd, .inr (3, [k 0, k 1, k 2, k 3, k 4, k 5, k 6, k 7, .int st, k 9, .int 0, k 11, k 12, k 13]))] := hD
  have hK : va_K (dC, dI) vwCl [] s := hK
  have hw : r_3 = 0 := hw
  subst hw
  refine lv_if_ne (tgt := 74) hx hb dX3_readLine_38 (by decide) (fun c_4 => absurd (by decide +kernel) c_4) (fun _ => ?_)
  refine lv_aload_n hx hb dX3_readLine_41 rfl (lv_at hl 0 rfl) ?_
  refine va_ldcS hx hb hown hE2 dX3_readLine_42 ?_
  have hPc := hP.sub (ws' := [(rd, .inr (3, [k 0, k 1, k 2, k 3, k 4, k 5, k 6, k 7, .int st, k 9, .int 0, k 11, k 12, k 13]))]) [0] rfl
  have hDc := hD.sub (ws' := [(rd, .inr (3, [k 0, k 1, k 2, k 3, k 4, k 5, k 6, k 7, .int st, k 9, .int 0, k 11, k 12, k 13]))]) [0] (by decide) rfl
  have hKc := hK.sub (tys' := []) [] rfl
  have hFc := va_free (wc := [(rd, .inr (3, [k 0, k 1, k 2, k 3, k 4, k 5, k 6, k 7, .int st, k 9, .int 0, k 11, k 12, k 13]))]) hD hS hA [0] rfl
  refine va_calli (va_runV (As := [.ref s112]) (rest := []) ⟨hx, hb, hml, hown, hts⟩ (c_X3_isWord l dC dI H.size rd s112 (fun i9 => ([k 0, k 1, k 2, k 3, k 4, k 5, k 6, k 7, .int st, k 9, .null, k 11, k 12, k 13] : List Value).getD i9 .null) ) (cwV 1 hts gX3_readLine_X3_isWord rfl rfl rfl (by decide +kernel) ⟨Nat.le_of_ble_eq_true rfl, Nat.le_of_ble_eq_true rfl⟩) ⟨ax_blind (fun _ _ _ _ _ => trivial), va_recv hKc hPc (ci := 3) (q0 := 0) rfl rfl, ax_pre hPc hKc hDc (fun _ _ => trivial)⟩ rfl rfl hl.1 rfl (lv_room (Nat.le_of_ble_eq_true rfl)) dX3_readLine_44 ⟨Nat.le_of_ble_eq_true rfl, Nat.le_of_ble_eq_true rfl⟩) hS (fun q _ h => hFc q h) hFc (fun r_5 u t H1 locs ht hvm hw hB hz1 hk1 hS => ?_)
  obtain ⟨hP1, hK1, hD1⟩ := hB
  rw [ht] at hP1
  have hK1 := va_K.moved hvm.symm hK1
  obtain ⟨hP, hD⟩ := va_join (wr := []) (w1 := [(rd, .inr (3, [k 0, k 1, k 2, k 3, k 4, k 5, k 6, k 7, .int st, k 9, .int 0, k 11, k 12, k 13]))]) hP hD [0] [] rfl rfl (by decide) (by decide) hk1 hFc hP1 hD1
  have hK := (hK.sub (tys' := []) [] rfl).app hK1
  generalize H1 = H at hP hS ⊢
  have hP : va_P (dC, dI) vwCl [(rd, .inr (3, [k 0, k 1, k 2, k 3, k 4, k 5, k 6, k 7, .int st, k 9, .int 0, k 11, k 12, k 13]))] H := hP
  have hD : va_D A [(rd, .inr (3, [k 0, k 1, k 2, k 3, k 4, k 5, k 6, k 7, .int st, k 9, .int 0, k 11, k 12, k 13]))] := hD
  have hK : va_K (dC, dI) vwCl [] s := hK
  have hw : r_5 = 0 := hw
  subst hw
  refine lv_if_ne (tgt := 74) hx hb dX3_readLine_47 (by decide) (fun c_6 => absurd (by decide +kernel) c_6) (fun _ => ?_)
  refine lv_aload_n hx hb dX3_readLine_50 rfl (lv_at hl 0 rfl) ?_
  refine va_ldcS hx hb hown hE3 dX3_readLine_51 ?_
  have hPc := hP.sub (ws' := [(rd, .inr (3, [k 0, k 1, k 2, k 3, k 4, k 5, k 6, k 7, .int st, k 9, .int 0, k 11, k 12, k 13]))]) [0] rfl
  have hDc := hD.sub (ws' := [(rd, .inr (3, [k 0, k 1, k 2, k 3, k 4, k 5, k 6, k 7, .int st, k 9, .int 0, k 11, k 12, k 13]))]) [0] (by decide) rfl
  have hKc := hK.sub (tys' := []) [] rfl
  have hFc := va_free (wc := [(rd, .inr (3, [k 0, k 1, k 2, k 3, k 4, k 5, k 6, k 7, .int st, k 9, .int 0, k 11, k 12, k 13]))]) hD hS hA [0] rfl
  refine va_calli (va_runV (As := [.ref s114]) (rest := []) ⟨hx, hb, hml, hown, hts⟩ (c_X3_isWord l dC dI H.size rd s114 (fun i9 => ([k 0, k 1, k 2, k 3, k 4, k 5, k 6, k 7, .int st, k 9, .null, k 11, k 12, k 13] : List Value).getD i9 .null) ) (cwV 1 hts gX3_readLine_X3_isWord rfl rfl rfl (by decide +kernel) ⟨Nat.le_of_ble_eq_true rfl, Nat.le_of_ble_eq_true rfl⟩) ⟨ax_blind (fun _ _ _ _ _ => trivial), va_recv hKc hPc (ci := 3) (q0 := 0) rfl rfl, ax_pre hPc hKc hDc (fun _ _ => trivial)⟩ rfl rfl hl.1 rfl (lv_room (Nat.le_of_ble_eq_true rfl)) dX3_readLine_53 ⟨Nat.le_of_ble_eq_true rfl, Nat.le_of_ble_eq_true rfl⟩) hS (fun q _ h => hFc q h) hFc (fun r_7 u t H1 locs ht hvm hw hB hz1 hk1 hS => ?_)
  obtain ⟨hP1, hK1, hD1⟩ := hB
  rw [ht] at hP1
  have hK1 := va_K.moved hvm.symm hK1
  obtain ⟨hP, hD⟩ := va_join (wr := []) (w1 := [(rd, .inr (3, [k 0, k 1, k 2, k 3, k 4, k 5, k 6, k 7, .int st, k 9, .int 0, k 11, k 12, k 13]))]) hP hD [0] [] rfl rfl (by decide) (by decide) hk1 hFc hP1 hD1
  have hK := (hK.sub (tys' := []) [] rfl).app hK1
  generalize H1 = H at hP hS ⊢
  have hP : va_P (dC, dI) vwCl [(rd, .inr (3, [k 0, k 1, k 2, k 3, k 4, k 5, k 6, k 7, .int st, k 9, .int 0, k 11, k 12, k 13]))] H := hP
  have hD : va_D A [(rd, .inr (3, [k 0, k 1, k 2, k 3, k 4, k 5, k 6, k 7, .int st, k 9, .int 0, k 11, k 12, k 13]))] := hD
  have hK : va_K (dC, dI) vwCl [] s := hK
  have hw : r_7 = 0 := hw
  subst hw
  refine lv_if_ne (tgt := 74) hx hb dX3_readLine_56 (by decide) (fun c_8 => absurd (by decide +kernel) c_8) (fun _ => ?_)
  refine lv_aload_n hx hb dX3_readLine_59 rfl (lv_at hl 0 rfl) ?_
  refine va_ldcS hx hb hown hE4 dX3_readLine_60 ?_
  have hPc := hP.sub (ws' := [(rd, .inr (3, [k 0, k 1, k 2, k 3, k 4, k 5, k 6, k 7, .int st, k 9, .int 0, k 11, k 12, k 13]))]) [0] rfl
  have hDc := hD.sub (ws' := [(rd, .inr (3, [k 0, k 1, k 2, k 3, k 4, k 5, k 6, k 7, .int st, k 9, .int 0, k 11, k 12, k 13]))]) [0] (by decide) rfl
  have hKc := hK.sub (tys' := []) [] rfl
  have hFc := va_free (wc := [(rd, .inr (3, [k 0, k 1, k 2, k 3, k 4, k 5, k 6, k 7, .int st, k 9, .int 0, k 11, k 12, k 13]))]) hD hS hA [0] rfl
  refine va_calli (va_runV (As := [.ref s116]) (rest := []) ⟨hx, hb, hml, hown, hts⟩ (c_X3_isWord l dC dI H.size rd s116 (fun i9 => ([k 0, k 1, k 2, k 3, k 4, k 5, k 6, k 7, .int st, k 9, .null, k 11, k 12, k 13] : List Value).getD i9 .null) ) (cwV 1 hts gX3_readLine_X3_isWord rfl rfl rfl (by decide +kernel) ⟨Nat.le_of_ble_eq_true rfl, Nat.le_of_ble_eq_true rfl⟩) ⟨ax_blind (fun _ _ _ _ _ => trivial), va_recv hKc hPc (ci := 3) (q0 := 0) rfl rfl, ax_pre hPc hKc hDc (fun _ _ => trivial)⟩ rfl rfl hl.1 rfl (lv_room (Nat.le_of_ble_eq_true rfl)) dX3_readLine_62 ⟨Nat.le_of_ble_eq_true rfl, Nat.le_of_ble_eq_true rfl⟩) hS (fun q _ h => hFc q h) hFc (fun r_9 u t H1 locs ht hvm hw hB hz1 hk1 hS => ?_)
  obtain ⟨hP1, hK1, hD1⟩ := hB
  rw [ht] at hP1
  have hK1 := va_K.moved hvm.symm hK1
  obtain ⟨hP, hD⟩ := va_join (wr := []) (w1 := [(rd, .inr (3, [k 0, k 1, k 2, k 3, k 4, k 5, k 6, k 7, .int st, k 9, .int 0, k 11, k 12, k 13]))]) hP hD [0] [] rfl rfl (by decide) (by decide) hk1 hFc hP1 hD1
  have hK := (hK.sub (tys' := []) [] rfl).app hK1
  generalize H1 = H at hP hS ⊢
  have hP : va_P (dC, dI) vwCl [(rd, .inr (3, [k 0, k 1, k 2, k 3, k 4, k 5, k 6, k 7, .int st, k 9, .int 0, k 11, k 12, k 13]))] H := hP
  have hD : va_D A [(rd, .inr (3, [k 0, k 1, k 2, k 3, k 4, k 5, k 6, k 7, .int st, k 9, .int 0, k 11, k 12, k 13]))] := hD
  have hK : va_K (dC, dI) vwCl [] s := hK
  have hw : r_9 = 0 := hw
  subst hw
  refine lv_if_ne (tgt := 74) hx hb dX3_readLine_65 (by decide) (fun c_10 => absurd (by decide +kernel) c_10) (fun _ => ?_)
  refine lv_aload_n hx hb dX3_readLine_68 rfl (lv_at hl 0 rfl) ?_
  refine lv_iconst (v := 1) hx hb dX3_readLine_69 (by decide) ?_
  have hPc := hP.sub (ws' := [(rd, .inr (3, [k 0, k 1, k 2, k 3, k 4, k 5, k 6, k 7, .int st, k 9, .int 0, k 11, k 12, k 13]))]) [0] rfl
  have hDc := hD.sub (ws' := [(rd, .inr (3, [k 0, k 1, k 2, k 3, k 4, k 5, k 6, k 7, .int st, k 9, .int 0, k 11, k 12, k 13]))]) [0] (by decide) rfl
  have hKc := hK.sub (tys' := []) [] rfl
  have hFc := va_free (wc := [(rd, .inr (3, [k 0, k 1, k 2, k 3, k 4, k 5, k 6, k 7, .int st, k 9, .int 0, k 11, k 12, k 13]))]) hD hS hA [0] rfl
  refine va_calli (va_runV (As := [.int 1]) (rest := []) ⟨hx, hb, hml, hown, hts⟩ (c_X3_fails l dC dI H.size rd 1 (fun i9 => ([k 0, k 1, k 2, k 3, k 4, k 5, k 6, k 7, .null, k 9, .int 0, k 11, k 12, k 13] : List Value).getD i9 .null) st ) (cwV 1 hts gX3_readLine_X3_fails rfl rfl rfl (by decide +kernel) ⟨Nat.le_of_ble_eq_true rfl, Nat.le_of_ble_eq_true rfl⟩) ⟨ax_blind (fun _ _ _ _ _ => trivial), va_recv hKc hPc (ci := 3) (q0 := 0) rfl rfl, ax_pre hPc hKc hDc (fun _ _ => trivial)⟩ rfl rfl hl.1 rfl (lv_room (Nat.le_of_ble_eq_true rfl)) dX3_readLine_70 ⟨Nat.le_of_ble_eq_true rfl, Nat.le_of_ble_eq_true rfl⟩) hS (fun q _ h => hFc q h) hFc (fun r_11 u t H1 locs ht hvm hw hB hz1 hk1 hS => ?_)
  obtain ⟨hP1, hK1, hD1⟩ := hB
  rw [ht] at hP1
  have hK1 := va_K.moved hvm.symm hK1
  obtain ⟨hP, hD⟩ := va_join (wr := []) (w1 := [(rd, .inr (3, [k 0, .int 1, .int st, k 3, k 4, k 5, k 6, k 7, .int st, k 9, .int 0, k 11, k 12, k 13]))]) hP hD [0] [] rfl rfl (by decide) (by decide) hk1 hFc hP1 hD1
  have hK := (hK.sub (tys' := []) [] rfl).app hK1
  generalize H1 = H at hP hS ⊢
  have hP : va_P (dC, dI) vwCl [(rd, .inr (3, [k 0, .int 1, .int st, k 3, k 4, k 5, k 6, k 7, .int st, k 9, .int 0, k 11, k 12, k 13]))] H := hP
  have hD : va_D A [(rd, .inr (3, [k 0, .int 1, .int st, k 3, k 4, k 5, k 6, k 7, .int st, k 9, .int 0, k 11, k 12, k 13]))] := hD
  have hK : va_K (dC, dI) vwCl [] s := hK
  have hw : r_11 = 0 := hw
  subst hw
  have hP9 := hP.sub (ws' := [(rd, .inr (3, [k 0, .int 1, .int st, k 3, k 4, k 5, k 6, k 7, .int st, k 9, .int 0, k 11, k 12, k 13]))]) [0] rfl
  have hD9 := hD.sub (ws' := [(rd, .inr (3, [k 0, .int 1, .int st, k 3, k 4, k 5, k 6, k 7, .int st, k 9, .int 0, k 11, k 12, k 13]))]) [0] (by decide) rfl
  have hK9 := hK.sub (tys' := []) [] rfl
  exact W.zret (v := 0) hx hb hr rfl (fun t ht hW => ⟨⟨0, (), rfl, rfl, by rw [ht]; exact hP9, va_K.moved hW.alike hK9, hD9⟩, hS.F ht⟩) hS.2.2 dX3_readLine_73

set_option maxHeartbeats 4000000 in
set_option maxRecDepth 100000 in
theorem c_X3_advance (l : Launch) (dC : Nat → ClassId) (dI : Nat → Nat → Nat) (sz : Nat) (rd : Nat) (k : Nat → Value) : Met l yX3_advance wsX3_advance ({ frames := 0, cells := 0, slots := 0, locals := 0 }) (va_Pc [.ref rd] (ax_C dC dI sz [(rd, .inr (3, [k 0, k 1, k 2, k 3, k 4, k 5, k 6, .int 0, k 8, .int 0, k 10, k 11, k 12, k 13]))] [] (fun _ => True))) (va_Qv (fun (_ : Unit) => True) (fun (_ : Unit) (t : State) => ax_B dC dI (va_A [(rd, .inr (3, [k 0, k 1, k 2, k 3, k 4, k 5, k 6, .int 0, k 8, .int 0, k 10, k 11, k 12, k 13]))] sz) [(rd, .inr (3, [k 0, k 1, k 2, k 3, k 4, k 5, k 6, .int 0, .int 0, .int 0, .int 0, k 11, k 12, k 13]))] [] t) (va_A [(rd, .inr (3, [k 0, k 1, k 2, k 3, k 4, k 5, k 6, .int 0, k 8, .int 0, k 10, k 11, k 12, k 13]))] sz)) 0 0 (va_A [(rd, .inr (3, [k 0, k 1, k 2, k 3, k 4, k 5, k 6, .int 0, k 8, .int 0, k 10, k 11, k 12, k 13]))] sz) := by
  refine Met.ofW (cc := cX3_advance) (maxL := 1) (ret := none) (by decide) rfl ?_
  intro p e s m args below meth c s₁ B hml hv
  obtain ⟨rfl, hsz, hP, hK, hD0, hE⟩ := hv
  have hx := B.exec
  have hb := B.bytes
  have hr := B.returns
  have hts := atoms_spec (ws := wsX3_advance) B.pre
  have hown : s.vm.findClass RX3 = some m.cls := findClass_of_methodNamed B.named
  have hlocks := B.notSynchronized
  subst hsz
  have hD := hD0.self (sz := s.heap.size)
  generalize hAe : va_A [(rd, .inr (3, [k 0, k 1, k 2, k 3, k 4, k 5, k 6, .int 0, k 8, .int 0, k 10, k 11, k 12, k 13]))] s.heap.size = A at hD ⊢
  have hA : ∀ q : Nat, s.heap.size ≤ q → A q := fun q h => by rw [← hAe]; exact Or.inr h
  have hS : va_S A s.heap s.heap [] := va_S.rf
  have hP : va_P (dC, dI) vwCl [(rd, .inr (3, [k 0, k 1, k 2, k 3, k 4, k 5, k 6, .int 0, k 8, .int 0, k 10, k 11, k 12, k 13]))] s.heap := hP
  have hl := lv_entry ([.ref rd]) (n := 1) (Nat.le_of_ble_eq_true rfl)
  rw [lg_entry_eq]
  generalize (lg_sl ([.ref rd]) ++ List.replicate (1 - (lg_sl ([.ref rd])).length) Slot.unset).toArray = ls at hl ⊢
  have hl : lv_has ls 1 [(0, .ref rd)] := hl
  refine lv_aload_n hx hb dX3_advance_0 rfl (lv_at hl 0 rfl) ?_
  refine va_get (D := (dC, dI)) (ci := 3) (v := .int 0) (C := RX3) (T := TX3) (N := 14) hx hb hts (by decide +kernel) hown hK hP 0 rfl rfl 9 (by decide) (hts (.fieldLink RX3 51 "WaxTurns$Reade\x72" "behind" "I") (by decide +kernel)) (fun _ h9 => h9) rfl dX3_advance_1 ?_
  refine lv_aload_n hx hb dX3_advance_4 rfl (lv_at hl 0 rfl) ?_
  refine va_get (D := (dC, dI)) (ci := 3) (v := .int 0) (C := RX3) (T := TX3) (N := 14) hx hb hts (by decide +kernel) hown hK hP 0 rfl rfl 7 (by decide) (hts (.fieldLink RX3 36 "WaxTurns$Reade\x72" "end" "I") (by decide +kernel)) (fun _ h9 => h9) rfl dX3_advance_5 ?_
  refine lv_icmp_ge (tgt := 38) hx hb dX3_advance_8 (by decide) (fun _ => ?_) (fun c_1 => absurd (by decide +kernel) c_1)
  refine lv_aload_n hx hb dX3_advance_38 rfl (lv_at hl 0 rfl) ?_
  refine lv_aload_n hx hb dX3_advance_39 rfl (lv_at hl 0 rfl) ?_
  refine va_get (D := (dC, dI)) (ci := 3) (v := .int 0) (C := RX3) (T := TX3) (N := 14) hx hb hts (by decide +kernel) hown hK hP 0 rfl rfl 9 (by decide) (hts (.fieldLink RX3 51 "WaxTurns$Reade\x72" "behind" "I") (by decide +kernel)) (fun _ h9 => h9) rfl dX3_advance_40 ?_
  refine va_put (D := (dC, dI)) (ci := 3) (v := .int 0) (ty := .int) (C := RX3) (T := TX3) (N := 14) hx hb hts (by decide +kernel) tyX3 tyX3_ok nmX3 hown hK hP hD hS 0 rfl rfl 8 (by decide) (hts (.fieldLink RX3 72 "WaxTurns$Reade\x72" "start" "I") (by decide +kernel)) (fun _ h9 => h9) rfl (by decide +kernel) rfl rfl (Nat.le_of_ble_eq_true rfl) dX3_advance_43 (fun H locs hP hD hS => ?_)
  have hP : va_P (dC, dI) vwCl [(rd, .inr (3, [k 0, k 1, k 2, k 3, k 4, k 5, k 6, .int 0, .int 0, .int 0, k 10, k 11, k 12, k 13]))] H := hP
  have hD : va_D A [(rd, .inr (3, [k 0, k 1, k 2, k 3, k 4, k 5, k 6, .int 0, .int 0, .int 0, k 10, k 11, k 12, k 13]))] := hD
  refine lv_aload_n hx hb dX3_advance_46 rfl (lv_at hl 0 rfl) ?_
  refine va_get (D := (dC, dI)) (ci := 3) (v := .int 0) (C := RX3) (T := TX3) (N := 14) hx hb hts (by decide +kernel) hown hK hP 0 rfl rfl 8 (by decide) (hts (.fieldLink RX3 72 "WaxTurns$Reade\x72" "start" "I") (by decide +kernel)) (fun _ h9 => h9) rfl dX3_advance_47 ?_
  refine lv_aload_n hx hb dX3_advance_50 rfl (lv_at hl 0 rfl) ?_
  refine va_get (D := (dC, dI)) (ci := 3) (v := .int 0) (C := RX3) (T := TX3) (N := 14) hx hb hts (by decide +kernel) hown hK hP 0 rfl rfl 7 (by decide) (hts (.fieldLink RX3 36 "WaxTurns$Reade\x72" "end" "I") (by decide +kernel)) (fun _ h9 => h9) rfl dX3_advance_51 ?_
  refine lv_icmp_lt (tgt := 65) hx hb dX3_advance_54 (by decide) (fun c_2 => absurd c_2 (by decide +kernel)) (fun _ => ?_)
  refine lv_aload_n hx hb dX3_advance_57 rfl (lv_at hl 0 rfl) ?_
  refine lv_iconst (v := 0) hx hb dX3_advance_58 (by decide) ?_
  refine va_put (D := (dC, dI)) (ci := 3) (v := .int 0) (ty := .int) (C := RX3) (T := TX3) (N := 14) hx hb hts (by decide +kernel) tyX3 tyX3_ok nmX3 hown hK hP hD hS 0 rfl rfl 10 (by decide) (hts (.fieldLink RX3 61 "WaxTurns$Reade\x72" "token" "I") (by decide +kernel)) (fun _ h9 => h9) rfl (by decide +kernel) rfl rfl (Nat.le_of_ble_eq_true rfl) dX3_advance_59 (fun H locs hP hD hS => ?_)
  have hP : va_P (dC, dI) vwCl [(rd, .inr (3, [k 0, k 1, k 2, k 3, k 4, k 5, k 6, .int 0, .int 0, .int 0, .int 0, k 11, k 12, k 13]))] H := hP
  have hD : va_D A [(rd, .inr (3, [k 0, k 1, k 2, k 3, k 4, k 5, k 6, .int 0, .int 0, .int 0, .int 0, k 11, k 12, k 13]))] := hD
  refine lv_goto (tgt := 172) hx hb dX3_advance_62 (by decide) ?_
  have hP9 := hP.sub (ws' := [(rd, .inr (3, [k 0, k 1, k 2, k 3, k 4, k 5, k 6, .int 0, .int 0, .int 0, .int 0, k 11, k 12, k 13]))]) [0] rfl
  have hD9 := hD.sub (ws' := [(rd, .inr (3, [k 0, k 1, k 2, k 3, k 4, k 5, k 6, .int 0, .int 0, .int 0, .int 0, k 11, k 12, k 13]))]) [0] (by decide) rfl
  have hK9 := hK.sub (tys' := []) [] rfl
  exact W.vret hx hb hr (fun t ht hW => ⟨⟨(), rfl, trivial, by rw [ht]; exact hP9, va_K.moved hW.alike hK9, hD9⟩, hS.F ht⟩) hS.2.2 dX3_advance_172

set_option maxHeartbeats 4000000 in
set_option maxRecDepth 100000 in
theorem c_X0_clear (l : Launch) (dC : Nat → ClassId) (dI : Nat → Nat → Nat) (sz : Nat) (dr : Nat) (g : Nat → Value) (da : Nat) (db : Nat) (dw : Nat) (pw : Nat → Value) (ka : ClassId) (kb : ClassId) : Met l yX0_clear wsX0_clear ({ frames := 0, cells := 0, slots := 0, locals := 0 }) (va_Pc [.ref dr] (ax_C dC dI sz [(dr, .inr (0, [g 0, g 1, g 2, g 3, g 4, g 5, g 6, g 7, g 8, g 9, .ref da, .ref db, g 12, g 13, .ref dw])), (dw, .inr (6, [pw 0, pw 1, pw 2, pw 3])), (da, .inl (ka, 9, .inl (fun _ => 0))), (db, .inl (kb, 9, .inl (fun _ => 0)))] [(ka, .int), (kb, .int)] (fun _ => True))) (va_Qv (fun (_ : Unit) => True) (fun (_ : Unit) (t : State) => ax_B dC dI (va_A [(dr, .inr (0, [g 0, g 1, g 2, g 3, g 4, g 5, g 6, g 7, g 8, g 9, .ref da, .ref db, g 12, g 13, .ref dw])), (dw, .inr (6, [pw 0, pw 1, pw 2, pw 3])), (da, .inl (ka, 9, .inl (fun _ => 0))), (db, .inl (kb, 9, .inl (fun _ => 0)))] sz) [] [] t) (va_A [(dr, .inr (0, [g 0, g 1, g 2, g 3, g 4, g 5, g 6, g 7, g 8, g 9, .ref da, .ref db, g 12, g 13, .ref dw])), (dw, .inr (6, [pw 0, pw 1, pw 2, pw 3])), (da, .inl (ka, 9, .inl (fun _ => 0))), (db, .inl (kb, 9, .inl (fun _ => 0)))] sz)) 0 0 (va_A [(dr, .inr (0, [g 0, g 1, g 2, g 3, g 4, g 5, g 6, g 7, g 8, g 9, .ref da, .ref db, g 12, g 13, .ref dw])), (dw, .inr (6, [pw 0, pw 1, pw 2, pw 3])), (da, .inl (ka, 9, .inl (fun _ => 0))), (db, .inl (kb, 9, .inl (fun _ => 0)))] sz) := by
  refine Met.ofW (cc := cX0_clear) (maxL := 2) (ret := none) (by decide) rfl ?_
  intro p e s m args below meth c s₁ B hml hv
  obtain ⟨rfl, hsz, hP, hK, hD0, hE⟩ := hv
  have hx := B.exec
  have hb := B.bytes
  have hr := B.returns
  have hts := atoms_spec (ws := wsX0_clear) B.pre
  have hown : s.vm.findClass RX0 = some m.cls := findClass_of_methodNamed B.named
  have hlocks := B.notSynchronized
  subst hsz
  have hD := hD0.self (sz := s.heap.size)
  generalize hAe : va_A [(dr, .inr (0, [g 0, g 1, g 2, g 3, g 4, g 5, g 6, g 7, g 8, g 9, .ref da, .ref db, g 12, g 13, .ref dw])), (dw, .inr (6, [pw 0, pw 1, pw 2, pw 3])), (da, .inl (ka, 9, .inl (fun _ => 0))), (db, .inl (kb, 9, .inl (fun _ => 0)))] s.heap.size = A at hD ⊢
  have hA : ∀ q : Nat, s.heap.size ≤ q → A q := fun q h => by rw [← hAe]; exact Or.inr h
  have hS : va_S A s.heap s.heap [] := va_S.rf
  have hP : va_P (dC, dI) vwCl [(dr, .inr (0, [g 0, g 1, g 2, g 3, g 4, g 5, g 6, g 7, g 8, g 9, .ref da, .ref db, g 12, g 13, .ref dw])), (dw, .inr (6, [pw 0, pw 1, pw 2, pw 3])), (da, .inl (ka, 9, .inl (fun _ => 0))), (db, .inl (kb, 9, .inl (fun _ => 0)))] s.heap := hP
  have hl := lv_entry ([.ref dr]) (n := 2) (Nat.le_of_ble_eq_true rfl)
  rw [lg_entry_eq]
  generalize (lg_sl ([.ref dr]) ++ List.replicate (2 - (lg_sl ([.ref dr])).length) Slot.unset).toArray = ls at hl ⊢
  have hl : lv_has ls 2 [(0, .ref dr)] := hl
  refine lv_aload_n hx hb dX0_clear_0 rfl (lv_at hl 0 rfl) ?_
  refine lv_iconst (v := 0) hx hb dX0_clear_1 (by decide) ?_
  refine va_put (D := (dC, dI)) (ci := 0) (v := .int 0) (ty := .int) (C := RX0) (T := TX0) (N := 15) hx hb hts (by decide +kernel) tyX0 tyX0_ok nmX0 hown hK hP hD hS 0 rfl rfl 0 (by decide) (hts (.fieldLink RX0 31 "WaxTurns$Hall" "figures" "I") (by decide +kernel)) (fun _ h9 => h9) rfl (by decide +kernel) rfl rfl (Nat.le_of_ble_eq_true rfl) dX0_clear_2 (fun H locs hP hD hS => ?_)
  have hP : va_P (dC, dI) vwCl [(dr, .inr (0, [.int 0, g 1, g 2, g 3, g 4, g 5, g 6, g 7, g 8, g 9, .ref da, .ref db, g 12, g 13, .ref dw])), (dw, .inr (6, [pw 0, pw 1, pw 2, pw 3])), (da, .inl (ka, 9, .inl (fun _ => 0))), (db, .inl (kb, 9, .inl (fun _ => 0)))] H := hP
  have hD : va_D A [(dr, .inr (0, [.int 0, g 1, g 2, g 3, g 4, g 5, g 6, g 7, g 8, g 9, .ref da, .ref db, g 12, g 13, .ref dw])), (dw, .inr (6, [pw 0, pw 1, pw 2, pw 3])), (da, .inl (ka, 9, .inl (fun _ => 0))), (db, .inl (kb, 9, .inl (fun _ => 0)))] := hD
  refine lv_aload_n hx hb dX0_clear_5 rfl (lv_at hl 0 rfl) ?_
  refine lv_iconst (v := 0) hx hb dX0_clear_6 (by decide) ?_
  refine va_put (D := (dC, dI)) (ci := 0) (v := .int 0) (ty := .boolean) (C := RX0) (T := TX0) (N := 15) hx hb hts (by decide +kernel) tyX0 tyX0_ok nmX0 hown hK hP hD hS 0 rfl rfl 4 (by decide) (hts (.fieldLink RX0 35 "WaxTurns$Hall" "lawTold" "Z") (by decide +kernel)) (fun _ h9 => h9) rfl (by decide +kernel) rfl rfl (Nat.le_of_ble_eq_true rfl) dX0_clear_7 (fun H locs hP hD hS => ?_)
  have hP : va_P (dC, dI) vwCl [(dr, .inr (0, [.int 0, g 1, g 2, g 3, .int 0, g 5, g 6, g 7, g 8, g 9, .ref da, .ref db, g 12, g 13, .ref dw])), (dw, .inr (6, [pw 0, pw 1, pw 2, pw 3])), (da, .inl (ka, 9, .inl (fun _ => 0))), (db, .inl (kb, 9, .inl (fun _ => 0)))] H := hP
  have hD : va_D A [(dr, .inr (0, [.int 0, g 1, g 2, g 3, .int 0, g 5, g 6, g 7, g 8, g 9, .ref da, .ref db, g 12, g 13, .ref dw])), (dw, .inr (6, [pw 0, pw 1, pw 2, pw 3])), (da, .inl (ka, 9, .inl (fun _ => 0))), (db, .inl (kb, 9, .inl (fun _ => 0)))] := hD
  refine lv_aload_n hx hb dX0_clear_10 rfl (lv_at hl 0 rfl) ?_
  refine lv_iconst (v := 0) hx hb dX0_clear_11 (by decide) ?_
  refine va_put (D := (dC, dI)) (ci := 0) (v := .int 0) (ty := .int) (C := RX0) (T := TX0) (N := 15) hx hb hts (by decide +kernel) tyX0 tyX0_ok nmX0 hown hK hP hD hS 0 rfl rfl 8 (by decide) (hts (.fieldLink RX0 39 "WaxTurns$Hall" "toldBits" "I") (by decide +kernel)) (fun _ h9 => h9) rfl (by decide +kernel) rfl rfl (Nat.le_of_ble_eq_true rfl) dX0_clear_12 (fun H locs hP hD hS => ?_)
  have hP : va_P (dC, dI) vwCl [(dr, .inr (0, [.int 0, g 1, g 2, g 3, .int 0, g 5, g 6, g 7, .int 0, g 9, .ref da, .ref db, g 12, g 13, .ref dw])), (dw, .inr (6, [pw 0, pw 1, pw 2, pw 3])), (da, .inl (ka, 9, .inl (fun _ => 0))), (db, .inl (kb, 9, .inl (fun _ => 0)))] H := hP
  have hD : va_D A [(dr, .inr (0, [.int 0, g 1, g 2, g 3, .int 0, g 5, g 6, g 7, .int 0, g 9, .ref da, .ref db, g 12, g 13, .ref dw])), (dw, .inr (6, [pw 0, pw 1, pw 2, pw 3])), (da, .inl (ka, 9, .inl (fun _ => 0))), (db, .inl (kb, 9, .inl (fun _ => 0)))] := hD
  refine lv_aload_n hx hb dX0_clear_15 rfl (lv_at hl 0 rfl) ?_
  refine lv_iconst (v := 0) hx hb dX0_clear_16 (by decide) ?_
  refine va_put (D := (dC, dI)) (ci := 0) (v := .int 0) (ty := .int) (C := RX0) (T := TX0) (N := 15) hx hb hts (by decide +kernel) tyX0 tyX0_ok nmX0 hown hK hP hD hS 0 rfl rfl 9 (by decide) (hts (.fieldLink RX0 42 "WaxTurns$Hall" "seenCount" "I") (by decide +kernel)) (fun _ h9 => h9) rfl (by decide +kernel) rfl rfl (Nat.le_of_ble_eq_true rfl) dX0_clear_17 (fun H locs hP hD hS => ?_)
  have hP : va_P (dC, dI) vwCl [(dr, .inr (0, [.int 0, g 1, g 2, g 3, .int 0, g 5, g 6, g 7, .int 0, .int 0, .ref da, .ref db, g 12, g 13, .ref dw])), (dw, .inr (6, [pw 0, pw 1, pw 2, pw 3])), (da, .inl (ka, 9, .inl (fun _ => 0))), (db, .inl (kb, 9, .inl (fun _ => 0)))] H := hP
  have hD : va_D A [(dr, .inr (0, [.int 0, g 1, g 2, g 3, .int 0, g 5, g 6, g 7, .int 0, .int 0, .ref da, .ref db, g 12, g 13, .ref dw])), (dw, .inr (6, [pw 0, pw 1, pw 2, pw 3])), (da, .inl (ka, 9, .inl (fun _ => 0))), (db, .inl (kb, 9, .inl (fun _ => 0)))] := hD
  refine lv_aload_n hx hb dX0_clear_20 rfl (lv_at hl 0 rfl) ?_
  refine va_get (D := (dC, dI)) (ci := 0) (v := .ref dw) (C := RX0) (T := TX0) (N := 15) hx hb hts (by decide +kernel) hown hK hP 0 rfl rfl 14 (by decide) (hts (.fieldLink RX0 27 "WaxTurns$Hall" "watchers" "LWaxTurns$Watchers;") (by decide +kernel)) (fun _ h9 => h9) rfl dX0_clear_21 ?_
  refine lv_iconst (v := 0) hx hb dX0_clear_24 (by decide) ?_
  refine va_put (D := (dC, dI)) (ci := 6) (v := .int 0) (ty := .int) (C := RX6) (T := TX6) (N := 4) hx hb hts (by decide +kernel) tyX6 tyX6_ok nmX6 hown hK hP hD hS 1 rfl rfl 0 (by decide) (hts (.fieldLink RX0 45 "WaxTurns$Watchers" "count" "I") (by decide +kernel)) (fun _ h9 => h9) rfl (by decide +kernel) rfl rfl (Nat.le_of_ble_eq_true rfl) dX0_clear_25 (fun H locs hP hD hS => ?_)
  have hP : va_P (dC, dI) vwCl [(dr, .inr (0, [.int 0, g 1, g 2, g 3, .int 0, g 5, g 6, g 7, .int 0, .int 0, .ref da, .ref db, g 12, g 13, .ref dw])), (dw, .inr (6, [.int 0, pw 1, pw 2, pw 3])), (da, .inl (ka, 9, .inl (fun _ => 0))), (db, .inl (kb, 9, .inl (fun _ => 0)))] H := hP
  have hD : va_D A [(dr, .inr (0, [.int 0, g 1, g 2, g 3, .int 0, g 5, g 6, g 7, .int 0, .int 0, .ref da, .ref db, g 12, g 13, .ref dw])), (dw, .inr (6, [.int 0, pw 1, pw 2, pw 3])), (da, .inl (ka, 9, .inl (fun _ => 0))), (db, .inl (kb, 9, .inl (fun _ => 0)))] := hD
  refine lv_iconst (v := 0) hx hb dX0_clear_28 (by decide) ?_
  refine lv_istore_n (lv' := [(1, .int 0), (0, .ref dr)]) hx hb dX0_clear_29 rfl hl (by decide) rfl (fun ls hl => ?_)
  refine lv_iload_n hx hb dX0_clear_30 rfl (lv_at hl 0 rfl) ?_
  refine lv_bipush (v := 9) hx hb dX0_clear_31 (by decide) ?_
  refine lv_icmp_ge (tgt := 56) hx hb dX0_clear_33 (by decide) (fun c_1 => absurd c_1 (by decide +kernel)) (fun _ => ?_)
  refine lv_aload_n hx hb dX0_clear_36 rfl (lv_at hl 1 rfl) ?_
  refine va_get (D := (dC, dI)) (ci := 0) (v := .ref da) (C := RX0) (T := TX0) (N := 15) hx hb hts (by decide +kernel) hown hK hP 0 rfl rfl 10 (by decide) (hts (.fieldLink RX0 9 "WaxTurns$Hall" "kinds" "[I") (by decide +kernel)) (fun _ h9 => h9) rfl dX0_clear_37 ?_
  refine lv_iload_n hx hb dX0_clear_40 rfl (lv_at hl 0 rfl) ?_
  refine lv_iconst (v := 0) hx hb dX0_clear_41 (by decide) ?_
  refine va_iast hx hb hK hP hD hS 2 0 rfl rfl (by unfold vp_in; decide +kernel) dX0_clear_42 (fun H locs hP hD hS => ?_)
  rw [ax_u0] at hP hD
  have hP : va_P (dC, dI) vwCl [(dr, .inr (0, [.int 0, g 1, g 2, g 3, .int 0, g 5, g 6, g 7, .int 0, .int 0, .ref da, .ref db, g 12, g 13, .ref dw])), (dw, .inr (6, [.int 0, pw 1, pw 2, pw 3])), (da, .inl (ka, 9, .inl (fun _ => 0))), (db, .inl (kb, 9, .inl (fun _ => 0)))] H := hP
  have hD : va_D A [(dr, .inr (0, [.int 0, g 1, g 2, g 3, .int 0, g 5, g 6, g 7, .int 0, .int 0, .ref da, .ref db, g 12, g 13, .ref dw])), (dw, .inr (6, [.int 0, pw 1, pw 2, pw 3])), (da, .inl (ka, 9, .inl (fun _ => 0))), (db, .inl (kb, 9, .inl (fun _ => 0)))] := hD
  refine lv_aload_n hx hb dX0_clear_43 rfl (lv_at hl 1 rfl) ?_
  refine va_get (D := (dC, dI)) (ci := 0) (v := .ref db) (C := RX0) (T := TX0) (N := 15) hx hb hts (by decide +kernel) hown hK hP 0 rfl rfl 11 (by decide) (hts (.fieldLink RX0 15 "WaxTurns$Hall" "measures" "[I") (by decide +kernel)) (fun _ h9 => h9) rfl dX0_clear_44 ?_
  refine lv_iload_n hx hb dX0_clear_47 rfl (lv_at hl 0 rfl) ?_
  refine lv_iconst (v := 0) hx hb dX0_clear_48 (by decide) ?_
  refine va_iast hx hb hK hP hD hS 3 1 rfl rfl (by unfold vp_in; decide +kernel) dX0_clear_49 (fun H locs hP hD hS => ?_)
  rw [ax_u0] at hP hD
  have hP : va_P (dC, dI) vwCl [(dr, .inr (0, [.int 0, g 1, g 2, g 3, .int 0, g 5, g 6, g 7, .int 0, .int 0, .ref da, .ref db, g 12, g 13, .ref dw])), (dw, .inr (6, [.int 0, pw 1, pw 2, pw 3])), (da, .inl (ka, 9, .inl (fun _ => 0))), (db, .inl (kb, 9, .inl (fun _ => 0)))] H := hP
  have hD : va_D A [(dr, .inr (0, [.int 0, g 1, g 2, g 3, .int 0, g 5, g 6, g 7, .int 0, .int 0, .ref da, .ref db, g 12, g 13, .ref dw])), (dw, .inr (6, [.int 0, pw 1, pw 2, pw 3])), (da, .inl (ka, 9, .inl (fun _ => 0))), (db, .inl (kb, 9, .inl (fun _ => 0)))] := hD
  refine lv_iinc (v := 1) (lv' := [(1, .int 1), (0, .ref dr)]) hx hb dX0_clear_50 hl (k := 0) rfl (by decide +kernel) (by decide) rfl (fun ls hl => ?_)
  refine lv_goto (tgt := 30) hx hb dX0_clear_53 (by decide) ?_
  refine lv_iload_n hx hb dX0_clear_30 rfl (lv_at hl 0 rfl) ?_
  refine lv_bipush (v := 9) hx hb dX0_clear_31 (by decide) ?_
  refine lv_icmp_ge (tgt := 56) hx hb dX0_clear_33 (by decide) (fun c_4 => absurd c_4 (by decide +kernel)) (fun _ => ?_)
  refine lv_aload_n hx hb dX0_clear_36 rfl (lv_at hl 1 rfl) ?_
  refine va_get (D := (dC, dI)) (ci := 0) (v := .ref da) (C := RX0) (T := TX0) (N := 15) hx hb hts (by decide +kernel) hown hK hP 0 rfl rfl 10 (by decide) (hts (.fieldLink RX0 9 "WaxTurns$Hall" "kinds" "[I") (by decide +kernel)) (fun _ h9 => h9) rfl dX0_clear_37 ?_
  refine lv_iload_n hx hb dX0_clear_40 rfl (lv_at hl 0 rfl) ?_
  refine lv_iconst (v := 0) hx hb dX0_clear_41 (by decide) ?_
  refine va_iast hx hb hK hP hD hS 2 0 rfl rfl (by unfold vp_in; decide +kernel) dX0_clear_42 (fun H locs hP hD hS => ?_)
  rw [ax_u0] at hP hD
  have hP : va_P (dC, dI) vwCl [(dr, .inr (0, [.int 0, g 1, g 2, g 3, .int 0, g 5, g 6, g 7, .int 0, .int 0, .ref da, .ref db, g 12, g 13, .ref dw])), (dw, .inr (6, [.int 0, pw 1, pw 2, pw 3])), (da, .inl (ka, 9, .inl (fun _ => 0))), (db, .inl (kb, 9, .inl (fun _ => 0)))] H := hP
  have hD : va_D A [(dr, .inr (0, [.int 0, g 1, g 2, g 3, .int 0, g 5, g 6, g 7, .int 0, .int 0, .ref da, .ref db, g 12, g 13, .ref dw])), (dw, .inr (6, [.int 0, pw 1, pw 2, pw 3])), (da, .inl (ka, 9, .inl (fun _ => 0))), (db, .inl (kb, 9, .inl (fun _ => 0)))] := hD
  refine lv_aload_n hx hb dX0_clear_43 rfl (lv_at hl 1 rfl) ?_
  refine va_get (D := (dC, dI)) (ci := 0) (v := .ref db) (C := RX0) (T := TX0) (N := 15) hx hb hts (by decide +kernel) hown hK hP 0 rfl rfl 11 (by decide) (hts (.fieldLink RX0 15 "WaxTurns$Hall" "measures" "[I") (by decide +kernel)) (fun _ h9 => h9) rfl dX0_clear_44 ?_
  refine lv_iload_n hx hb dX0_clear_47 rfl (lv_at hl 0 rfl) ?_
  refine lv_iconst (v := 0) hx hb dX0_clear_48 (by decide) ?_
  refine va_iast hx hb hK hP hD hS 3 1 rfl rfl (by unfold vp_in; decide +kernel) dX0_clear_49 (fun H locs hP hD hS => ?_)
  rw [ax_u0] at hP hD
  have hP : va_P (dC, dI) vwCl [(dr, .inr (0, [.int 0, g 1, g 2, g 3, .int 0, g 5, g 6, g 7, .int 0, .int 0, .ref da, .ref db, g 12, g 13, .ref dw])), (dw, .inr (6, [.int 0, pw 1, pw 2, pw 3])), (da, .inl (ka, 9, .inl (fun _ => 0))), (db, .inl (kb, 9, .inl (fun _ => 0)))] H := hP
  have hD : va_D A [(dr, .inr (0, [.int 0, g 1, g 2, g 3, .int 0, g 5, g 6, g 7, .int 0, .int 0, .ref da, .ref db, g 12, g 13, .ref dw])), (dw, .inr (6, [.int 0, pw 1, pw 2, pw 3])), (da, .inl (ka, 9, .inl (fun _ => 0))), (db, .inl (kb, 9, .inl (fun _ => 0)))] := hD
  refine lv_iinc (v := 2) (lv' := [(1, .int 2), (0, .ref dr)]) hx hb dX0_clear_50 hl (k := 0) rfl (by decide +kernel) (by decide) rfl (fun ls hl => ?_)
  refine lv_goto (tgt := 30) hx hb dX0_clear_53 (by decide) ?_
  refine lv_iload_n hx hb dX0_clear_30 rfl (lv_at hl 0 rfl) ?_
  refine lv_bipush (v := 9) hx hb dX0_clear_31 (by decide) ?_
  refine lv_icmp_ge (tgt := 56) hx hb dX0_clear_33 (by decide) (fun c_7 => absurd c_7 (by decide +kernel)) (fun _ => ?_)
  refine lv_aload_n hx hb dX0_clear_36 rfl (lv_at hl 1 rfl) ?_
  refine va_get (D := (dC, dI)) (ci := 0) (v := .ref da) (C := RX0) (T := TX0) (N := 15) hx hb hts (by decide +kernel) hown hK hP 0 rfl rfl 10 (by decide) (hts (.fieldLink RX0 9 "WaxTurns$Hall" "kinds" "[I") (by decide +kernel)) (fun _ h9 => h9) rfl dX0_clear_37 ?_
  refine lv_iload_n hx hb dX0_clear_40 rfl (lv_at hl 0 rfl) ?_
  refine lv_iconst (v := 0) hx hb dX0_clear_41 (by decide) ?_
  refine va_iast hx hb hK hP hD hS 2 0 rfl rfl (by unfold vp_in; decide +kernel) dX0_clear_42 (fun H locs hP hD hS => ?_)
  rw [ax_u0] at hP hD
  have hP : va_P (dC, dI) vwCl [(dr, .inr (0, [.int 0, g 1, g 2, g 3, .int 0, g 5, g 6, g 7, .int 0, .int 0, .ref da, .ref db, g 12, g 13, .ref dw])), (dw, .inr (6, [.int 0, pw 1, pw 2, pw 3])), (da, .inl (ka, 9, .inl (fun _ => 0))), (db, .inl (kb, 9, .inl (fun _ => 0)))] H := hP
  have hD : va_D A [(dr, .inr (0, [.int 0, g 1, g 2, g 3, .int 0, g 5, g 6, g 7, .int 0, .int 0, .ref da, .ref db, g 12, g 13, .ref dw])), (dw, .inr (6, [.int 0, pw 1, pw 2, pw 3])), (da, .inl (ka, 9, .inl (fun _ => 0))), (db, .inl (kb, 9, .inl (fun _ => 0)))] := hD
  refine lv_aload_n hx hb dX0_clear_43 rfl (lv_at hl 1 rfl) ?_
  refine va_get (D := (dC, dI)) (ci := 0) (v := .ref db) (C := RX0) (T := TX0) (N := 15) hx hb hts (by decide +kernel) hown hK hP 0 rfl rfl 11 (by decide) (hts (.fieldLink RX0 15 "WaxTurns$Hall" "measures" "[I") (by decide +kernel)) (fun _ h9 => h9) rfl dX0_clear_44 ?_
  refine lv_iload_n hx hb dX0_clear_47 rfl (lv_at hl 0 rfl) ?_
  refine lv_iconst (v := 0) hx hb dX0_clear_48 (by decide) ?_
  refine va_iast hx hb hK hP hD hS 3 1 rfl rfl (by unfold vp_in; decide +kernel) dX0_clear_49 (fun H locs hP hD hS => ?_)
  rw [ax_u0] at hP hD
  have hP : va_P (dC, dI) vwCl [(dr, .inr (0, [.int 0, g 1, g 2, g 3, .int 0, g 5, g 6, g 7, .int 0, .int 0, .ref da, .ref db, g 12, g 13, .ref dw])), (dw, .inr (6, [.int 0, pw 1, pw 2, pw 3])), (da, .inl (ka, 9, .inl (fun _ => 0))), (db, .inl (kb, 9, .inl (fun _ => 0)))] H := hP
  have hD : va_D A [(dr, .inr (0, [.int 0, g 1, g 2, g 3, .int 0, g 5, g 6, g 7, .int 0, .int 0, .ref da, .ref db, g 12, g 13, .ref dw])), (dw, .inr (6, [.int 0, pw 1, pw 2, pw 3])), (da, .inl (ka, 9, .inl (fun _ => 0))), (db, .inl (kb, 9, .inl (fun _ => 0)))] := hD
  refine lv_iinc (v := 3) (lv' := [(1, .int 3), (0, .ref dr)]) hx hb dX0_clear_50 hl (k := 0) rfl (by decide +kernel) (by decide) rfl (fun ls hl => ?_)
  refine lv_goto (tgt := 30) hx hb dX0_clear_53 (by decide) ?_
  refine lv_iload_n hx hb dX0_clear_30 rfl (lv_at hl 0 rfl) ?_
  refine lv_bipush (v := 9) hx hb dX0_clear_31 (by decide) ?_
  refine lv_icmp_ge (tgt := 56) hx hb dX0_clear_33 (by decide) (fun c_10 => absurd c_10 (by decide +kernel)) (fun _ => ?_)
  refine lv_aload_n hx hb dX0_clear_36 rfl (lv_at hl 1 rfl) ?_
  refine va_get (D := (dC, dI)) (ci := 0) (v := .ref da) (C := RX0) (T := TX0) (N := 15) hx hb hts (by decide +kernel) hown hK hP 0 rfl rfl 10 (by decide) (hts (.fieldLink RX0 9 "WaxTurns$Hall" "kinds" "[I") (by decide +kernel)) (fun _ h9 => h9) rfl dX0_clear_37 ?_
  refine lv_iload_n hx hb dX0_clear_40 rfl (lv_at hl 0 rfl) ?_
  refine lv_iconst (v := 0) hx hb dX0_clear_41 (by decide) ?_
  refine va_iast hx hb hK hP hD hS 2 0 rfl rfl (by unfold vp_in; decide +kernel) dX0_clear_42 (fun H locs hP hD hS => ?_)
  rw [ax_u0] at hP hD
  have hP : va_P (dC, dI) vwCl [(dr, .inr (0, [.int 0, g 1, g 2, g 3, .int 0, g 5, g 6, g 7, .int 0, .int 0, .ref da, .ref db, g 12, g 13, .ref dw])), (dw, .inr (6, [.int 0, pw 1, pw 2, pw 3])), (da, .inl (ka, 9, .inl (fun _ => 0))), (db, .inl (kb, 9, .inl (fun _ => 0)))] H := hP
  have hD : va_D A [(dr, .inr (0, [.int 0, g 1, g 2, g 3, .int 0, g 5, g 6, g 7, .int 0, .int 0, .ref da, .ref db, g 12, g 13, .ref dw])), (dw, .inr (6, [.int 0, pw 1, pw 2, pw 3])), (da, .inl (ka, 9, .inl (fun _ => 0))), (db, .inl (kb, 9, .inl (fun _ => 0)))] := hD
  refine lv_aload_n hx hb dX0_clear_43 rfl (lv_at hl 1 rfl) ?_
  refine va_get (D := (dC, dI)) (ci := 0) (v := .ref db) (C := RX0) (T := TX0) (N := 15) hx hb hts (by decide +kernel) hown hK hP 0 rfl rfl 11 (by decide) (hts (.fieldLink RX0 15 "WaxTurns$Hall" "measures" "[I") (by decide +kernel)) (fun _ h9 => h9) rfl dX0_clear_44 ?_
  refine lv_iload_n hx hb dX0_clear_47 rfl (lv_at hl 0 rfl) ?_
  refine lv_iconst (v := 0) hx hb dX0_clear_48 (by decide) ?_
  refine va_iast hx hb hK hP hD hS 3 1 rfl rfl (by unfold vp_in; decide +kernel) dX0_clear_49 (fun H locs hP hD hS => ?_)
  rw [ax_u0] at hP hD
  have hP : va_P (dC, dI) vwCl [(dr, .inr (0, [.int 0, g 1, g 2, g 3, .int 0, g 5, g 6, g 7, .int 0, .int 0, .ref da, .ref db, g 12, g 13, .ref dw])), (dw, .inr (6, [.int 0, pw 1, pw 2, pw 3])), (da, .inl (ka, 9, .inl (fun _ => 0))), (db, .inl (kb, 9, .inl (fun _ => 0)))] H := hP
  have hD : va_D A [(dr, .inr (0, [.int 0, g 1, g 2, g 3, .int 0, g 5, g 6, g 7, .int 0, .int 0, .ref da, .ref db, g 12, g 13, .ref dw])), (dw, .inr (6, [.int 0, pw 1, pw 2, pw 3])), (da, .inl (ka, 9, .inl (fun _ => 0))), (db, .inl (kb, 9, .inl (fun _ => 0)))] := hD
  refine lv_iinc (v := 4) (lv' := [(1, .int 4), (0, .ref dr)]) hx hb dX0_clear_50 hl (k := 0) rfl (by decide +kernel) (by decide) rfl (fun ls hl => ?_)
  refine lv_goto (tgt := 30) hx hb dX0_clear_53 (by decide) ?_
  refine lv_iload_n hx hb dX0_clear_30 rfl (lv_at hl 0 rfl) ?_
  refine lv_bipush (v := 9) hx hb dX0_clear_31 (by decide) ?_
  refine lv_icmp_ge (tgt := 56) hx hb dX0_clear_33 (by decide) (fun c_13 => absurd c_13 (by decide +kernel)) (fun _ => ?_)
  refine lv_aload_n hx hb dX0_clear_36 rfl (lv_at hl 1 rfl) ?_
  refine va_get (D := (dC, dI)) (ci := 0) (v := .ref da) (C := RX0) (T := TX0) (N := 15) hx hb hts (by decide +kernel) hown hK hP 0 rfl rfl 10 (by decide) (hts (.fieldLink RX0 9 "WaxTurns$Hall" "kinds" "[I") (by decide +kernel)) (fun _ h9 => h9) rfl dX0_clear_37 ?_
  refine lv_iload_n hx hb dX0_clear_40 rfl (lv_at hl 0 rfl) ?_
  refine lv_iconst (v := 0) hx hb dX0_clear_41 (by decide) ?_
  refine va_iast hx hb hK hP hD hS 2 0 rfl rfl (by unfold vp_in; decide +kernel) dX0_clear_42 (fun H locs hP hD hS => ?_)
  rw [ax_u0] at hP hD
  have hP : va_P (dC, dI) vwCl [(dr, .inr (0, [.int 0, g 1, g 2, g 3, .int 0, g 5, g 6, g 7, .int 0, .int 0, .ref da, .ref db, g 12, g 13, .ref dw])), (dw, .inr (6, [.int 0, pw 1, pw 2, pw 3])), (da, .inl (ka, 9, .inl (fun _ => 0))), (db, .inl (kb, 9, .inl (fun _ => 0)))] H := hP
  have hD : va_D A [(dr, .inr (0, [.int 0, g 1, g 2, g 3, .int 0, g 5, g 6, g 7, .int 0, .int 0, .ref da, .ref db, g 12, g 13, .ref dw])), (dw, .inr (6, [.int 0, pw 1, pw 2, pw 3])), (da, .inl (ka, 9, .inl (fun _ => 0))), (db, .inl (kb, 9, .inl (fun _ => 0)))] := hD
  refine lv_aload_n hx hb dX0_clear_43 rfl (lv_at hl 1 rfl) ?_
  refine va_get (D := (dC, dI)) (ci := 0) (v := .ref db) (C := RX0) (T := TX0) (N := 15) hx hb hts (by decide +kernel) hown hK hP 0 rfl rfl 11 (by decide) (hts (.fieldLink RX0 15 "WaxTurns$Hall" "measures" "[I") (by decide +kernel)) (fun _ h9 => h9) rfl dX0_clear_44 ?_
  refine lv_iload_n hx hb dX0_clear_47 rfl (lv_at hl 0 rfl) ?_
  refine lv_iconst (v := 0) hx hb dX0_clear_48 (by decide) ?_
  refine va_iast hx hb hK hP hD hS 3 1 rfl rfl (by unfold vp_in; decide +kernel) dX0_clear_49 (fun H locs hP hD hS => ?_)
  rw [ax_u0] at hP hD
  have hP : va_P (dC, dI) vwCl [(dr, .inr (0, [.int 0, g 1, g 2, g 3, .int 0, g 5, g 6, g 7, .int 0, .int 0, .ref da, .ref db, g 12, g 13, .ref dw])), (dw, .inr (6, [.int 0, pw 1, pw 2, pw 3])), (da, .inl (ka, 9, .inl (fun _ => 0))), (db, .inl (kb, 9, .inl (fun _ => 0)))] H := hP
  have hD : va_D A [(dr, .inr (0, [.int 0, g 1, g 2, g 3, .int 0, g 5, g 6, g 7, .int 0, .int 0, .ref da, .ref db, g 12, g 13, .ref dw])), (dw, .inr (6, [.int 0, pw 1, pw 2, pw 3])), (da, .inl (ka, 9, .inl (fun _ => 0))), (db, .inl (kb, 9, .inl (fun _ => 0)))] := hD
  refine lv_iinc (v := 5) (lv' := [(1, .int 5), (0, .ref dr)]) hx hb dX0_clear_50 hl (k := 0) rfl (by decide +kernel) (by decide) rfl (fun ls hl => ?_)
  refine lv_goto (tgt := 30) hx hb dX0_clear_53 (by decide) ?_
  refine lv_iload_n hx hb dX0_clear_30 rfl (lv_at hl 0 rfl) ?_
  refine lv_bipush (v := 9) hx hb dX0_clear_31 (by decide) ?_
  refine lv_icmp_ge (tgt := 56) hx hb dX0_clear_33 (by decide) (fun c_16 => absurd c_16 (by decide +kernel)) (fun _ => ?_)
  refine lv_aload_n hx hb dX0_clear_36 rfl (lv_at hl 1 rfl) ?_
  refine va_get (D := (dC, dI)) (ci := 0) (v := .ref da) (C := RX0) (T := TX0) (N := 15) hx hb hts (by decide +kernel) hown hK hP 0 rfl rfl 10 (by decide) (hts (.fieldLink RX0 9 "WaxTurns$Hall" "kinds" "[I") (by decide +kernel)) (fun _ h9 => h9) rfl dX0_clear_37 ?_
  refine lv_iload_n hx hb dX0_clear_40 rfl (lv_at hl 0 rfl) ?_
  refine lv_iconst (v := 0) hx hb dX0_clear_41 (by decide) ?_
  refine va_iast hx hb hK hP hD hS 2 0 rfl rfl (by unfold vp_in; decide +kernel) dX0_clear_42 (fun H locs hP hD hS => ?_)
  rw [ax_u0] at hP hD
  have hP : va_P (dC, dI) vwCl [(dr, .inr (0, [.int 0, g 1, g 2, g 3, .int 0, g 5, g 6, g 7, .int 0, .int 0, .ref da, .ref db, g 12, g 13, .ref dw])), (dw, .inr (6, [.int 0, pw 1, pw 2, pw 3])), (da, .inl (ka, 9, .inl (fun _ => 0))), (db, .inl (kb, 9, .inl (fun _ => 0)))] H := hP
  have hD : va_D A [(dr, .inr (0, [.int 0, g 1, g 2, g 3, .int 0, g 5, g 6, g 7, .int 0, .int 0, .ref da, .ref db, g 12, g 13, .ref dw])), (dw, .inr (6, [.int 0, pw 1, pw 2, pw 3])), (da, .inl (ka, 9, .inl (fun _ => 0))), (db, .inl (kb, 9, .inl (fun _ => 0)))] := hD
  refine lv_aload_n hx hb dX0_clear_43 rfl (lv_at hl 1 rfl) ?_
  refine va_get (D := (dC, dI)) (ci := 0) (v := .ref db) (C := RX0) (T := TX0) (N := 15) hx hb hts (by decide +kernel) hown hK hP 0 rfl rfl 11 (by decide) (hts (.fieldLink RX0 15 "WaxTurns$Hall" "measures" "[I") (by decide +kernel)) (fun _ h9 => h9) rfl dX0_clear_44 ?_
  refine lv_iload_n hx hb dX0_clear_47 rfl (lv_at hl 0 rfl) ?_
  refine lv_iconst (v := 0) hx hb dX0_clear_48 (by decide) ?_
  refine va_iast hx hb hK hP hD hS 3 1 rfl rfl (by unfold vp_in; decide +kernel) dX0_clear_49 (fun H locs hP hD hS => ?_)
  rw [ax_u0] at hP hD
  have hP : va_P (dC, dI) vwCl [(dr, .inr (0, [.int 0, g 1, g 2, g 3, .int 0, g 5, g 6, g 7, .int 0, .int 0, .ref da, .ref db, g 12, g 13, .ref dw])), (dw, .inr (6, [.int 0, pw 1, pw 2, pw 3])), (da, .inl (ka, 9, .inl (fun _ => 0))), (db, .inl (kb, 9, .inl (fun _ => 0)))] H := hP
  have hD : va_D A [(dr, .inr (0, [.int 0, g 1, g 2, g 3, .int 0, g 5, g 6, g 7, .int 0, .int 0, .ref da, .ref db, g 12, g 13, .ref dw])), (dw, .inr (6, [.int 0, pw 1, pw 2, pw 3])), (da, .inl (ka, 9, .inl (fun _ => 0))), (db, .inl (kb, 9, .inl (fun _ => 0)))] := hD
  refine lv_iinc (v := 6) (lv' := [(1, .int 6), (0, .ref dr)]) hx hb dX0_clear_50 hl (k := 0) rfl (by decide +kernel) (by decide) rfl (fun ls hl => ?_)
  refine lv_goto (tgt := 30) hx hb dX0_clear_53 (by decide) ?_
  refine lv_iload_n hx hb dX0_clear_30 rfl (lv_at hl 0 rfl) ?_
  refine lv_bipush (v := 9) hx hb dX0_clear_31 (by decide) ?_
  refine lv_icmp_ge (tgt := 56) hx hb dX0_clear_33 (by decide) (fun c_19 => absurd c_19 (by decide +kernel)) (fun _ => ?_)
  refine lv_aload_n hx hb dX0_clear_36 rfl (lv_at hl 1 rfl) ?_
  refine va_get (D := (dC, dI)) (ci := 0) (v := .ref da) (C := RX0) (T := TX0) (N := 15) hx hb hts (by decide +kernel) hown hK hP 0 rfl rfl 10 (by decide) (hts (.fieldLink RX0 9 "WaxTurns$Hall" "kinds" "[I") (by decide +kernel)) (fun _ h9 => h9) rfl dX0_clear_37 ?_
  refine lv_iload_n hx hb dX0_clear_40 rfl (lv_at hl 0 rfl) ?_
  refine lv_iconst (v := 0) hx hb dX0_clear_41 (by decide) ?_
  refine va_iast hx hb hK hP hD hS 2 0 rfl rfl (by unfold vp_in; decide +kernel) dX0_clear_42 (fun H locs hP hD hS => ?_)
  rw [ax_u0] at hP hD
  have hP : va_P (dC, dI) vwCl [(dr, .inr (0, [.int 0, g 1, g 2, g 3, .int 0, g 5, g 6, g 7, .int 0, .int 0, .ref da, .ref db, g 12, g 13, .ref dw])), (dw, .inr (6, [.int 0, pw 1, pw 2, pw 3])), (da, .inl (ka, 9, .inl (fun _ => 0))), (db, .inl (kb, 9, .inl (fun _ => 0)))] H := hP
  have hD : va_D A [(dr, .inr (0, [.int 0, g 1, g 2, g 3, .int 0, g 5, g 6, g 7, .int 0, .int 0, .ref da, .ref db, g 12, g 13, .ref dw])), (dw, .inr (6, [.int 0, pw 1, pw 2, pw 3])), (da, .inl (ka, 9, .inl (fun _ => 0))), (db, .inl (kb, 9, .inl (fun _ => 0)))] := hD
  refine lv_aload_n hx hb dX0_clear_43 rfl (lv_at hl 1 rfl) ?_
  refine va_get (D := (dC, dI)) (ci := 0) (v := .ref db) (C := RX0) (T := TX0) (N := 15) hx hb hts (by decide +kernel) hown hK hP 0 rfl rfl 11 (by decide) (hts (.fieldLink RX0 15 "WaxTurns$Hall" "measures" "[I") (by decide +kernel)) (fun _ h9 => h9) rfl dX0_clear_44 ?_
  refine lv_iload_n hx hb dX0_clear_47 rfl (lv_at hl 0 rfl) ?_
  refine lv_iconst (v := 0) hx hb dX0_clear_48 (by decide) ?_
  refine va_iast hx hb hK hP hD hS 3 1 rfl rfl (by unfold vp_in; decide +kernel) dX0_clear_49 (fun H locs hP hD hS => ?_)
  rw [ax_u0] at hP hD
  have hP : va_P (dC, dI) vwCl [(dr, .inr (0, [.int 0, g 1, g 2, g 3, .int 0, g 5, g 6, g 7, .int 0, .int 0, .ref da, .ref db, g 12, g 13, .ref dw])), (dw, .inr (6, [.int 0, pw 1, pw 2, pw 3])), (da, .inl (ka, 9, .inl (fun _ => 0))), (db, .inl (kb, 9, .inl (fun _ => 0)))] H := hP
  have hD : va_D A [(dr, .inr (0, [.int 0, g 1, g 2, g 3, .int 0, g 5, g 6, g 7, .int 0, .int 0, .ref da, .ref db, g 12, g 13, .ref dw])), (dw, .inr (6, [.int 0, pw 1, pw 2, pw 3])), (da, .inl (ka, 9, .inl (fun _ => 0))), (db, .inl (kb, 9, .inl (fun _ => 0)))] := hD
  refine lv_iinc (v := 7) (lv' := [(1, .int 7), (0, .ref dr)]) hx hb dX0_clear_50 hl (k := 0) rfl (by decide +kernel) (by decide) rfl (fun ls hl => ?_)
  refine lv_goto (tgt := 30) hx hb dX0_clear_53 (by decide) ?_
  refine lv_iload_n hx hb dX0_clear_30 rfl (lv_at hl 0 rfl) ?_
  refine lv_bipush (v := 9) hx hb dX0_clear_31 (by decide) ?_
  refine lv_icmp_ge (tgt := 56) hx hb dX0_clear_33 (by decide) (fun c_22 => absurd c_22 (by decide +kernel)) (fun _ => ?_)
  refine lv_aload_n hx hb dX0_clear_36 rfl (lv_at hl 1 rfl) ?_
  refine va_get (D := (dC, dI)) (ci := 0) (v := .ref da) (C := RX0) (T := TX0) (N := 15) hx hb hts (by decide +kernel) hown hK hP 0 rfl rfl 10 (by decide) (hts (.fieldLink RX0 9 "WaxTurns$Hall" "kinds" "[I") (by decide +kernel)) (fun _ h9 => h9) rfl dX0_clear_37 ?_
  refine lv_iload_n hx hb dX0_clear_40 rfl (lv_at hl 0 rfl) ?_
  refine lv_iconst (v := 0) hx hb dX0_clear_41 (by decide) ?_
  refine va_iast hx hb hK hP hD hS 2 0 rfl rfl (by unfold vp_in; decide +kernel) dX0_clear_42 (fun H locs hP hD hS => ?_)
  rw [ax_u0] at hP hD
  have hP : va_P (dC, dI) vwCl [(dr, .inr (0, [.int 0, g 1, g 2, g 3, .int 0, g 5, g 6, g 7, .int 0, .int 0, .ref da, .ref db, g 12, g 13, .ref dw])), (dw, .inr (6, [.int 0, pw 1, pw 2, pw 3])), (da, .inl (ka, 9, .inl (fun _ => 0))), (db, .inl (kb, 9, .inl (fun _ => 0)))] H := hP
  have hD : va_D A [(dr, .inr (0, [.int 0, g 1, g 2, g 3, .int 0, g 5, g 6, g 7, .int 0, .int 0, .ref da, .ref db, g 12, g 13, .ref dw])), (dw, .inr (6, [.int 0, pw 1, pw 2, pw 3])), (da, .inl (ka, 9, .inl (fun _ => 0))), (db, .inl (kb, 9, .inl (fun _ => 0)))] := hD
  refine lv_aload_n hx hb dX0_clear_43 rfl (lv_at hl 1 rfl) ?_
  refine va_get (D := (dC, dI)) (ci := 0) (v := .ref db) (C := RX0) (T := TX0) (N := 15) hx hb hts (by decide +kernel) hown hK hP 0 rfl rfl 11 (by decide) (hts (.fieldLink RX0 15 "WaxTurns$Hall" "measures" "[I") (by decide +kernel)) (fun _ h9 => h9) rfl dX0_clear_44 ?_
  refine lv_iload_n hx hb dX0_clear_47 rfl (lv_at hl 0 rfl) ?_
  refine lv_iconst (v := 0) hx hb dX0_clear_48 (by decide) ?_
  refine va_iast hx hb hK hP hD hS 3 1 rfl rfl (by unfold vp_in; decide +kernel) dX0_clear_49 (fun H locs hP hD hS => ?_)
  rw [ax_u0] at hP hD
  have hP : va_P (dC, dI) vwCl [(dr, .inr (0, [.int 0, g 1, g 2, g 3, .int 0, g 5, g 6, g 7, .int 0, .int 0, .ref da, .ref db, g 12, g 13, .ref dw])), (dw, .inr (6, [.int 0, pw 1, pw 2, pw 3])), (da, .inl (ka, 9, .inl (fun _ => 0))), (db, .inl (kb, 9, .inl (fun _ => 0)))] H := hP
  have hD : va_D A [(dr, .inr (0, [.int 0, g 1, g 2, g 3, .int 0, g 5, g 6, g 7, .int 0, .int 0, .ref da, .ref db, g 12, g 13, .ref dw])), (dw, .inr (6, [.int 0, pw 1, pw 2, pw 3])), (da, .inl (ka, 9, .inl (fun _ => 0))), (db, .inl (kb, 9, .inl (fun _ => 0)))] := hD
  refine lv_iinc (v := 8) (lv' := [(1, .int 8), (0, .ref dr)]) hx hb dX0_clear_50 hl (k := 0) rfl (by decide +kernel) (by decide) rfl (fun ls hl => ?_)
  refine lv_goto (tgt := 30) hx hb dX0_clear_53 (by decide) ?_
  refine lv_iload_n hx hb dX0_clear_30 rfl (lv_at hl 0 rfl) ?_
  refine lv_bipush (v := 9) hx hb dX0_clear_31 (by decide) ?_
  refine lv_icmp_ge (tgt := 56) hx hb dX0_clear_33 (by decide) (fun c_25 => absurd c_25 (by decide +kernel)) (fun _ => ?_)
  refine lv_aload_n hx hb dX0_clear_36 rfl (lv_at hl 1 rfl) ?_
  refine va_get (D := (dC, dI)) (ci := 0) (v := .ref da) (C := RX0) (T := TX0) (N := 15) hx hb hts (by decide +kernel) hown hK hP 0 rfl rfl 10 (by decide) (hts (.fieldLink RX0 9 "WaxTurns$Hall" "kinds" "[I") (by decide +kernel)) (fun _ h9 => h9) rfl dX0_clear_37 ?_
  refine lv_iload_n hx hb dX0_clear_40 rfl (lv_at hl 0 rfl) ?_
  refine lv_iconst (v := 0) hx hb dX0_clear_41 (by decide) ?_
  refine va_iast hx hb hK hP hD hS 2 0 rfl rfl (by unfold vp_in; decide +kernel) dX0_clear_42 (fun H locs hP hD hS => ?_)
  rw [ax_u0] at hP hD
  have hP : va_P (dC, dI) vwCl [(dr, .inr (0, [.int 0, g 1, g 2, g 3, .int 0, g 5, g 6, g 7, .int 0, .int 0, .ref da, .ref db, g 12, g 13, .ref dw])), (dw, .inr (6, [.int 0, pw 1, pw 2, pw 3])), (da, .inl (ka, 9, .inl (fun _ => 0))), (db, .inl (kb, 9, .inl (fun _ => 0)))] H := hP
  have hD : va_D A [(dr, .inr (0, [.int 0, g 1, g 2, g 3, .int 0, g 5, g 6, g 7, .int 0, .int 0, .ref da, .ref db, g 12, g 13, .ref dw])), (dw, .inr (6, [.int 0, pw 1, pw 2, pw 3])), (da, .inl (ka, 9, .inl (fun _ => 0))), (db, .inl (kb, 9, .inl (fun _ => 0)))] := hD
  refine lv_aload_n hx hb dX0_clear_43 rfl (lv_at hl 1 rfl) ?_
  refine va_get (D := (dC, dI)) (ci := 0) (v := .ref db) (C := RX0) (T := TX0) (N := 15) hx hb hts (by decide +kernel) hown hK hP 0 rfl rfl 11 (by decide) (hts (.fieldLink RX0 15 "WaxTurns$Hall" "measures" "[I") (by decide +kernel)) (fun _ h9 => h9) rfl dX0_clear_44 ?_
  refine lv_iload_n hx hb dX0_clear_47 rfl (lv_at hl 0 rfl) ?_
  refine lv_iconst (v := 0) hx hb dX0_clear_48 (by decide) ?_
  refine va_iast hx hb hK hP hD hS 3 1 rfl rfl (by unfold vp_in; decide +kernel) dX0_clear_49 (fun H locs hP hD hS => ?_)
  rw [ax_u0] at hP hD
  have hP : va_P (dC, dI) vwCl [(dr, .inr (0, [.int 0, g 1, g 2, g 3, .int 0, g 5, g 6, g 7, .int 0, .int 0, .ref da, .ref db, g 12, g 13, .ref dw])), (dw, .inr (6, [.int 0, pw 1, pw 2, pw 3])), (da, .inl (ka, 9, .inl (fun _ => 0))), (db, .inl (kb, 9, .inl (fun _ => 0)))] H := hP
  have hD : va_D A [(dr, .inr (0, [.int 0, g 1, g 2, g 3, .int 0, g 5, g 6, g 7, .int 0, .int 0, .ref da, .ref db, g 12, g 13, .ref dw])), (dw, .inr (6, [.int 0, pw 1, pw 2, pw 3])), (da, .inl (ka, 9, .inl (fun _ => 0))), (db, .inl (kb, 9, .inl (fun _ => 0)))] := hD
  refine lv_iinc (v := 9) (lv' := [(1, .int 9), (0, .ref dr)]) hx hb dX0_clear_50 hl (k := 0) rfl (by decide +kernel) (by decide) rfl (fun ls hl => ?_)
  refine lv_goto (tgt := 30) hx hb dX0_clear_53 (by decide) ?_
  refine lv_iload_n hx hb dX0_clear_30 rfl (lv_at hl 0 rfl) ?_
  refine lv_bipush (v := 9) hx hb dX0_clear_31 (by decide) ?_
  refine lv_icmp_ge (tgt := 56) hx hb dX0_clear_33 (by decide) (fun _ => ?_) (fun c_28 => absurd (by decide +kernel) c_28)
  have hP9 := hP.sub (ws' := []) [] rfl
  have hD9 := hD.sub (ws' := []) [] (by decide) rfl
  have hK9 := hK.sub (tys' := []) [] rfl
  exact W.vret hx hb hr (fun t ht hW => ⟨⟨(), rfl, trivial, by rw [ht]; exact hP9, va_K.moved hW.alike hK9, hD9⟩, hS.F ht⟩) hS.2.2 dX0_clear_56

set_option maxHeartbeats 4000000 in
set_option maxRecDepth 100000 in
theorem c_X3_read (l : Launch) (dC : Nat → ClassId) (dI : Nat → Nat → Nat) (sz : Nat) (rd : Nat) (k : Nat → Value) (dr : Nat) (g : Nat → Value) (da : Nat) (db : Nat) (dw : Nat) (pw : Nat → Value) (ka : ClassId) (kb : ClassId) (s98 : Nat) (s110 : Nat) (s112 : Nat) (s114 : Nat) (s116 : Nat) : Met l yX3_read wsX3_read ({ frames := 2, cells := 0, slots := 0, locals := 44 }) (va_Pc [.ref rd, .int 0] (ax_C dC dI sz [(rd, .inr (3, [.int 0, k 1, k 2, k 3, k 4, .ref dr, k 6, k 7, k 8, k 9, k 10, k 11, k 12, k 13])), (dr, .inr (0, [g 0, g 1, g 2, g 3, g 4, g 5, g 6, g 7, g 8, g 9, .ref da, .ref db, g 12, g 13, .ref dw])), (dw, .inr (6, [pw 0, pw 1, pw 2, pw 3])), (da, .inl (ka, 9, .inl (fun _ => 0))), (db, .inl (kb, 9, .inl (fun _ => 0)))] [(ka, .int), (kb, .int)] (fun U => vk_R RX3 98 "gallery" s98 U ∧ vk_R RX3 110 "law" s110 U ∧ vk_R RX3 112 "figure" s112 U ∧ vk_R RX3 114 "watche\x72" s114 U ∧ vk_R RX3 116 "seen" s116 U))) (va_Qi (fun (r : Int32) (_ : Unit) => r = 0) (fun (_ : Unit) (t : State) => ax_B dC dI (va_A [(rd, .inr (3, [.int 0, k 1, k 2, k 3, k 4, .ref dr, k 6, k 7, k 8, k 9, k 10, k 11, k 12, k 13])), (dr, .inr (0, [g 0, g 1, g 2, g 3, g 4, g 5, g 6, g 7, g 8, g 9, .ref da, .ref db, g 12, g 13, .ref dw])), (dw, .inr (6, [pw 0, pw 1, pw 2, pw 3])), (da, .inl (ka, 9, .inl (fun _ => 0))), (db, .inl (kb, 9, .inl (fun _ => 0)))] sz) [(rd, .inr (3, [.int 0, .int 1, .int 0, k 3, k 4, .ref dr, .int 0, .int 0, .int 0, .int 0, .int 0, k 11, k 12, k 13]))] [] t) (va_A [(rd, .inr (3, [.int 0, k 1, k 2, k 3, k 4, .ref dr, k 6, k 7, k 8, k 9, k 10, k 11, k 12, k 13])), (dr, .inr (0, [g 0, g 1, g 2, g 3, g 4, g 5, g 6, g 7, g 8, g 9, .ref da, .ref db, g 12, g 13, .ref dw])), (dw, .inr (6, [pw 0, pw 1, pw 2, pw 3])), (da, .inl (ka, 9, .inl (fun _ => 0))), (db, .inl (kb, 9, .inl (fun _ => 0)))] sz)) 0 0 (va_A [(rd, .inr (3, [.int 0, k 1, k 2, k 3, k 4, .ref dr, k 6, k 7, k 8, k 9, k 10, k 11, k 12, k 13])), (dr, .inr (0, [g 0, g 1, g 2, g 3, g 4, g 5, g 6, g 7, g 8, g 9, .ref da, .ref db, g 12, g 13, .ref dw])), (dw, .inr (6, [pw 0, pw 1, pw 2, pw 3])), (da, .inl (ka, 9, .inl (fun _ => 0))), (db, .inl (kb, 9, .inl (fun _ => 0)))] sz) := by
  refine Met.ofW (cc := cX3_read) (maxL := 4) (ret := (some .boolean)) (by decide) rfl ?_
  intro p e s m args below meth c s₁ B hml hv
  obtain ⟨rfl, hsz, hP, hK, hD0, hE⟩ := hv
  have hx := B.exec
  have hb := B.bytes
  have hr := B.returns
  have hts := atoms_spec (ws := wsX3_read) B.pre
  have hown : s.vm.findClass RX3 = some m.cls := findClass_of_methodNamed B.named
  have hlocks := B.notSynchronized
  subst hsz
  have hD := hD0.self (sz := s.heap.size)
  generalize hAe : va_A [(rd, .inr (3, [.int 0, k 1, k 2, k 3, k 4, .ref dr, k 6, k 7, k 8, k 9, k 10, k 11, k 12, k 13])), (dr, .inr (0, [g 0, g 1, g 2, g 3, g 4, g 5, g 6, g 7, g 8, g 9, .ref da, .ref db, g 12, g 13, .ref dw])), (dw, .inr (6, [pw 0, pw 1, pw 2, pw 3])), (da, .inl (ka, 9, .inl (fun _ => 0))), (db, .inl (kb, 9, .inl (fun _ => 0)))] s.heap.size = A at hD ⊢
  have hA : ∀ q : Nat, s.heap.size ≤ q → A q := fun q h => by rw [← hAe]; exact Or.inr h
  have hS : va_S A s.heap s.heap [] := va_S.rf
  have hP : va_P (dC, dI) vwCl [(rd, .inr (3, [.int 0, k 1, k 2, k 3, k 4, .ref dr, k 6, k 7, k 8, k 9, k 10, k 11, k 12, k 13])), (dr, .inr (0, [g 0, g 1, g 2, g 3, g 4, g 5, g 6, g 7, g 8, g 9, .ref da, .ref db, g 12, g 13, .ref dw])), (dw, .inr (6, [pw 0, pw 1, pw 2, pw 3])), (da, .inl (ka, 9, .inl (fun _ => 0))), (db, .inl (kb, 9, .inl (fun _ => 0)))] s.heap := hP
  obtain ⟨hE0, hE1, hE2, hE3, hE4⟩ := hE
  have hl := lv_entry ([.ref rd, .int 0]) (n := 4) (Nat.le_of_ble_eq_true rfl)
  rw [lg_entry_eq]
  generalize (lg_sl ([.ref rd, .int 0]) ++ List.replicate (4 - (lg_sl ([.ref rd, .int 0])).length) Slot.unset).toArray = ls at hl ⊢
  have hl : lv_has ls 4 [(0, .ref rd), (1, .int 0)] := hl
  refine lv_aload_n hx hb dX3_read_0 rfl (lv_at hl 0 rfl) ?_
  refine lv_iload_n hx hb dX3_read_1 rfl (lv_at hl 1 rfl) ?_
  refine lv_aload_n hx hb dX3_read_2 rfl (lv_at hl 0 rfl) ?_
  refine va_get (D := (dC, dI)) (ci := 3) (v := .int 0) (C := RX3) (T := TX3) (N := 14) hx hb hts (by decide +kernel) hown hK hP 0 rfl rfl 0 (by decide) (hts (.fieldLink RX3 26 "WaxTurns$Reade\x72" "tapeSize" "I") (by decide +kernel)) (fun _ h9 => h9) rfl dX3_read_3 ?_
  refine va_mmin hx hb (by rw [hml]; exact hl.1.symm) hown (hts (.methodLink RX3 30 Lib.Math.min.name) (by decide +kernel)) (hts (.static Lib.Math.min.name) (by decide +kernel)) (hts (.initialized "java/lang/Math") (by decide +kernel)) (hts _ mnX3_read) (Nat.le_of_ble_eq_true rfl) (Nat.le_of_ble_eq_true rfl) (Nat.le_of_ble_eq_true rfl) (Nat.le_of_ble_eq_true rfl) dX3_read_6 ?_
  refine ax_ti 0 (by decide +kernel) ?_
  refine va_put (D := (dC, dI)) (ci := 3) (v := .int 0) (ty := .int) (C := RX3) (T := TX3) (N := 14) hx hb hts (by decide +kernel) tyX3 tyX3_ok nmX3 hown hK hP hD hS 0 rfl rfl 7 (by decide) (hts (.fieldLink RX3 36 "WaxTurns$Reade\x72" "end" "I") (by decide +kernel)) (fun _ h9 => h9) rfl (by decide +kernel) rfl rfl (Nat.le_of_ble_eq_true rfl) dX3_read_9 (fun H locs hP hD hS => ?_)
  have hP : va_P (dC, dI) vwCl [(rd, .inr (3, [.int 0, k 1, k 2, k 3, k 4, .ref dr, k 6, .int 0, k 8, k 9, k 10, k 11, k 12, k 13])), (dr, .inr (0, [g 0, g 1, g 2, g 3, g 4, g 5, g 6, g 7, g 8, g 9, .ref da, .ref db, g 12, g 13, .ref dw])), (dw, .inr (6, [pw 0, pw 1, pw 2, pw 3])), (da, .inl (ka, 9, .inl (fun _ => 0))), (db, .inl (kb, 9, .inl (fun _ => 0)))] H := hP
  have hD : va_D A [(rd, .inr (3, [.int 0, k 1, k 2, k 3, k 4, .ref dr, k 6, .int 0, k 8, k 9, k 10, k 11, k 12, k 13])), (dr, .inr (0, [g 0, g 1, g 2, g 3, g 4, g 5, g 6, g 7, g 8, g 9, .ref da, .ref db, g 12, g 13, .ref dw])), (dw, .inr (6, [pw 0, pw 1, pw 2, pw 3])), (da, .inl (ka, 9, .inl (fun _ => 0))), (db, .inl (kb, 9, .inl (fun _ => 0)))] := hD
  refine lv_aload_n hx hb dX3_read_12 rfl (lv_at hl 0 rfl) ?_
  refine lv_iconst (v := 0) hx hb dX3_read_13 (by decide) ?_
  refine va_put (D := (dC, dI)) (ci := 3) (v := .int 0) (ty := .int) (C := RX3) (T := TX3) (N := 14) hx hb hts (by decide +kernel) tyX3 tyX3_ok nmX3 hown hK hP hD hS 0 rfl rfl 0 (by decide) (hts (.fieldLink RX3 26 "WaxTurns$Reade\x72" "tapeSize" "I") (by decide +kernel)) (fun _ h9 => h9) rfl (by decide +kernel) rfl rfl (Nat.le_of_ble_eq_true rfl) dX3_read_14 (fun H locs hP hD hS => ?_)
  have hP : va_P (dC, dI) vwCl [(rd, .inr (3, [.int 0, k 1, k 2, k 3, k 4, .ref dr, k 6, .int 0, k 8, k 9, k 10, k 11, k 12, k 13])), (dr, .inr (0, [g 0, g 1, g 2, g 3, g 4, g 5, g 6, g 7, g 8, g 9, .ref da, .ref db, g 12, g 13, .ref dw])), (dw, .inr (6, [pw 0, pw 1, pw 2, pw 3])), (da, .inl (ka, 9, .inl (fun _ => 0))), (db, .inl (kb, 9, .inl (fun _ => 0)))] H := hP
  have hD : va_D A [(rd, .inr (3, [.int 0, k 1, k 2, k 3, k 4, .ref dr, k 6, .int 0, k 8, k 9, k 10, k 11, k 12, k 13])), (dr, .inr (0, [g 0, g 1, g 2, g 3, g 4, g 5, g 6, g 7, g 8, g 9, .ref da, .ref db, g 12, g 13, .ref dw])), (dw, .inr (6, [pw 0, pw 1, pw 2, pw 3])), (da, .inl (ka, 9, .inl (fun _ => 0))), (db, .inl (kb, 9, .inl (fun _ => 0)))] := hD
  refine lv_aload_n hx hb dX3_read_17 rfl (lv_at hl 0 rfl) ?_
  refine va_get (D := (dC, dI)) (ci := 3) (v := .ref dr) (C := RX3) (T := TX3) (N := 14) hx hb hts (by decide +kernel) hown hK hP 0 rfl rfl 5 (by decide) (hts (.fieldLink RX3 22 "WaxTurns$Reade\x72" "draft" "LWaxTurns$Hall;") (by decide +kernel)) (fun _ h9 => h9) rfl dX3_read_18 ?_
  have hPc := hP.sub (ws' := [(dr, .inr (0, [g 0, g 1, g 2, g 3, g 4, g 5, g 6, g 7, g 8, g 9, .ref da, .ref db, g 12, g 13, .ref dw])), (dw, .inr (6, [pw 0, pw 1, pw 2, pw 3])), (da, .inl (ka, 9, .inl (fun _ => 0))), (db, .inl (kb, 9, .inl (fun _ => 0)))]) [1, 2, 3, 4] rfl
  have hDc := hD.sub (ws' := [(dr, .inr (0, [g 0, g 1, g 2, g 3, g 4, g 5, g 6, g 7, g 8, g 9, .ref da, .ref db, g 12, g 13, .ref dw])), (dw, .inr (6, [pw 0, pw 1, pw 2, pw 3])), (da, .inl (ka, 9, .inl (fun _ => 0))), (db, .inl (kb, 9, .inl (fun _ => 0)))]) [1, 2, 3, 4] (by decide) rfl
  have hKc := hK.sub (tys' := [(ka, .int), (kb, .int)]) [0, 1] rfl
  have hFc := va_free (wc := [(dr, .inr (0, [g 0, g 1, g 2, g 3, g 4, g 5, g 6, g 7, g 8, g 9, .ref da, .ref db, g 12, g 13, .ref dw])), (dw, .inr (6, [pw 0, pw 1, pw 2, pw 3])), (da, .inl (ka, 9, .inl (fun _ => 0))), (db, .inl (kb, 9, .inl (fun _ => 0)))]) hD hS hA [1, 2, 3, 4] rfl
  refine va_callv (va_runV (As := []) (rest := []) ⟨hx, hb, hml, hown, hts⟩ (c_X0_clear l dC dI H.size dr g da db dw pw ka kb ) (cwV 0 hts gX3_read_X0_clear rfl rfl rfl (by decide +kernel) ⟨Nat.le_of_ble_eq_true rfl, Nat.le_of_ble_eq_true rfl⟩) ⟨ax_blind (fun _ _ _ _ _ => trivial), va_recv hKc hPc (ci := 0) (q0 := 0) rfl rfl, ax_pre hPc hKc hDc (fun _ _ => trivial)⟩ rfl rfl hl.1 rfl (lv_room (Nat.le_of_ble_eq_true rfl)) dX3_read_21 ⟨Nat.le_of_ble_eq_true rfl, Nat.le_of_ble_eq_true rfl⟩) hS (fun q _ h => hFc q h) hFc (fun u t H1 locs ht hvm hw hB hz1 hk1 hS => ?_)
  obtain ⟨hP1, hK1, hD1⟩ := hB
  rw [ht] at hP1
  have hK1 := va_K.moved hvm.symm hK1
  obtain ⟨hP, hD⟩ := va_join (wr := [(rd, .inr (3, [.int 0, k 1, k 2, k 3, k 4, .ref dr, k 6, .int 0, k 8, k 9, k 10, k 11, k 12, k 13]))]) (w1 := []) hP hD [1, 2, 3, 4] [0] rfl rfl (by decide) (by decide) hk1 hFc hP1 hD1
  have hK := (hK.sub (tys' := []) [] rfl).app hK1
  generalize H1 = H at hP hS ⊢
  have hP : va_P (dC, dI) vwCl [(rd, .inr (3, [.int 0, k 1, k 2, k 3, k 4, .ref dr, k 6, .int 0, k 8, k 9, k 10, k 11, k 12, k 13]))] H := hP
  have hD : va_D A [(rd, .inr (3, [.int 0, k 1, k 2, k 3, k 4, .ref dr, k 6, .int 0, k 8, k 9, k 10, k 11, k 12, k 13]))] := hD
  have hK : va_K (dC, dI) vwCl [] s := hK
  refine lv_aload_n hx hb dX3_read_24 rfl (lv_at hl 0 rfl) ?_
  refine lv_iconst (v := 0) hx hb dX3_read_25 (by decide) ?_
  refine va_put (D := (dC, dI)) (ci := 3) (v := .int 0) (ty := .int) (C := RX3) (T := TX3) (N := 14) hx hb hts (by decide +kernel) tyX3 tyX3_ok nmX3 hown hK hP hD hS 0 rfl rfl 6 (by decide) (hts (.fieldLink RX3 42 "WaxTurns$Reade\x72" "nameCount" "I") (by decide +kernel)) (fun _ h9 => h9) rfl (by decide +kernel) rfl rfl (Nat.le_of_ble_eq_true rfl) dX3_read_26 (fun H locs hP hD hS => ?_)
  have hP : va_P (dC, dI) vwCl [(rd, .inr (3, [.int 0, k 1, k 2, k 3, k 4, .ref dr, .int 0, .int 0, k 8, k 9, k 10, k 11, k 12, k 13]))] H := hP
  have hD : va_D A [(rd, .inr (3, [.int 0, k 1, k 2, k 3, k 4, .ref dr, .int 0, .int 0, k 8, k 9, k 10, k 11, k 12, k 13]))] := hD
  refine lv_aload_n hx hb dX3_read_29 rfl (lv_at hl 0 rfl) ?_
  refine lv_iconst (v := 0) hx hb dX3_read_30 (by decide) ?_
  refine va_put (D := (dC, dI)) (ci := 3) (v := .int 0) (ty := .int) (C := RX3) (T := TX3) (N := 14) hx hb hts (by decide +kernel) tyX3 tyX3_ok nmX3 hown hK hP hD hS 0 rfl rfl 1 (by decide) (hts (.fieldLink RX3 45 "WaxTurns$Reade\x72" "faultNumbe\x72" "I") (by decide +kernel)) (fun _ h9 => h9) rfl (by decide +kernel) rfl rfl (Nat.le_of_ble_eq_true rfl) dX3_read_31 (fun H locs hP hD hS => ?_)
  have hP : va_P (dC, dI) vwCl [(rd, .inr (3, [.int 0, .int 0, k 2, k 3, k 4, .ref dr, .int 0, .int 0, k 8, k 9, k 10, k 11, k 12, k 13]))] H := hP
  have hD : va_D A [(rd, .inr (3, [.int 0, .int 0, k 2, k 3, k 4, .ref dr, .int 0, .int 0, k 8, k 9, k 10, k 11, k 12, k 13]))] := hD
  refine lv_aload_n hx hb dX3_read_34 rfl (lv_at hl 0 rfl) ?_
  refine lv_iconst (v := (-1)) hx hb dX3_read_35 (by decide) ?_
  refine va_put (D := (dC, dI)) (ci := 3) (v := .int (-1)) (ty := .int) (C := RX3) (T := TX3) (N := 14) hx hb hts (by decide +kernel) tyX3 tyX3_ok nmX3 hown hK hP hD hS 0 rfl rfl 2 (by decide) (hts (.fieldLink RX3 48 "WaxTurns$Reade\x72" "faultPlace" "I") (by decide +kernel)) (fun _ h9 => h9) rfl (by decide +kernel) rfl rfl (Nat.le_of_ble_eq_true rfl) dX3_read_36 (fun H locs hP hD hS => ?_)
  have hP : va_P (dC, dI) vwCl [(rd, .inr (3, [.int 0, .int 0, .int (-1), k 3, k 4, .ref dr, .int 0, .int 0, k 8, k 9, k 10, k 11, k 12, k 13]))] H := hP
  have hD : va_D A [(rd, .inr (3, [.int 0, .int 0, .int (-1), k 3, k 4, .ref dr, .int 0, .int 0, k 8, k 9, k 10, k 11, k 12, k 13]))] := hD
  refine lv_aload_n hx hb dX3_read_39 rfl (lv_at hl 0 rfl) ?_
  refine lv_iconst (v := 0) hx hb dX3_read_40 (by decide) ?_
  refine va_put (D := (dC, dI)) (ci := 3) (v := .int 0) (ty := .int) (C := RX3) (T := TX3) (N := 14) hx hb hts (by decide +kernel) tyX3 tyX3_ok nmX3 hown hK hP hD hS 0 rfl rfl 9 (by decide) (hts (.fieldLink RX3 51 "WaxTurns$Reade\x72" "behind" "I") (by decide +kernel)) (fun _ h9 => h9) rfl (by decide +kernel) rfl rfl (Nat.le_of_ble_eq_true rfl) dX3_read_41 (fun H locs hP hD hS => ?_)
  have hP : va_P (dC, dI) vwCl [(rd, .inr (3, [.int 0, .int 0, .int (-1), k 3, k 4, .ref dr, .int 0, .int 0, k 8, .int 0, k 10, k 11, k 12, k 13]))] H := hP
  have hD : va_D A [(rd, .inr (3, [.int 0, .int 0, .int (-1), k 3, k 4, .ref dr, .int 0, .int 0, k 8, .int 0, k 10, k 11, k 12, k 13]))] := hD
  refine lv_aload_n hx hb dX3_read_44 rfl (lv_at hl 0 rfl) ?_
  have hPc := hP.sub (ws' := [(rd, .inr (3, [.int 0, .int 0, .int (-1), k 3, k 4, .ref dr, .int 0, .int 0, k 8, .int 0, k 10, k 11, k 12, k 13]))]) [0] rfl
  have hDc := hD.sub (ws' := [(rd, .inr (3, [.int 0, .int 0, .int (-1), k 3, k 4, .ref dr, .int 0, .int 0, k 8, .int 0, k 10, k 11, k 12, k 13]))]) [0] (by decide) rfl
  have hKc := hK.sub (tys' := []) [] rfl
  have hFc := va_free (wc := [(rd, .inr (3, [.int 0, .int 0, .int (-1), k 3, k 4, .ref dr, .int 0, .int 0, k 8, .int 0, k 10, k 11, k 12, k 13]))]) hD hS hA [0] rfl
  refine va_callv (va_runV (As := []) (rest := []) ⟨hx, hb, hml, hown, hts⟩ (c_X3_advance l dC dI H.size rd (fun i9 => ([.int 0, .int 0, .int (-1), k 3, k 4, .ref dr, .int 0, .null, k 8, .null, k 10, k 11, k 12, k 13] : List Value).getD i9 .null) ) (cwV 0 hts gX3_read_X3_advance rfl rfl rfl (by decide +kernel) ⟨Nat.le_of_ble_eq_true rfl, Nat.le_of_ble_eq_true rfl⟩) ⟨ax_blind (fun _ _ _ _ _ => trivial), va_recv hKc hPc (ci := 3) (q0 := 0) rfl rfl, ax_pre hPc hKc hDc (fun _ _ => trivial)⟩ rfl rfl hl.1 rfl (lv_room (Nat.le_of_ble_eq_true rfl)) dX3_read_45 ⟨Nat.le_of_ble_eq_true rfl, Nat.le_of_ble_eq_true rfl⟩) hS (fun q _ h => hFc q h) hFc (fun u t H1 locs ht hvm hw hB hz1 hk1 hS => ?_)
  obtain ⟨hP1, hK1, hD1⟩ := hB
  rw [ht] at hP1
  have hK1 := va_K.moved hvm.symm hK1
  obtain ⟨hP, hD⟩ := va_join (wr := []) (w1 := [(rd, .inr (3, [.int 0, .int 0, .int (-1), k 3, k 4, .ref dr, .int 0, .int 0, .int 0, .int 0, .int 0, k 11, k 12, k 13]))]) hP hD [0] [] rfl rfl (by decide) (by decide) hk1 hFc hP1 hD1
  have hK := (hK.sub (tys' := []) [] rfl).app hK1
  generalize H1 = H at hP hS ⊢
  have hP : va_P (dC, dI) vwCl [(rd, .inr (3, [.int 0, .int 0, .int (-1), k 3, k 4, .ref dr, .int 0, .int 0, .int 0, .int 0, .int 0, k 11, k 12, k 13]))] H := hP
  have hD : va_D A [(rd, .inr (3, [.int 0, .int 0, .int (-1), k 3, k 4, .ref dr, .int 0, .int 0, .int 0, .int 0, .int 0, k 11, k 12, k 13]))] := hD
  have hK : va_K (dC, dI) vwCl [] s := hK
  refine lv_aload_n hx hb dX3_read_48 rfl (lv_at hl 0 rfl) ?_
  have hPc := hP.sub (ws' := [(rd, .inr (3, [.int 0, .int 0, .int (-1), k 3, k 4, .ref dr, .int 0, .int 0, .int 0, .int 0, .int 0, k 11, k 12, k 13]))]) [0] rfl
  have hDc := hD.sub (ws' := [(rd, .inr (3, [.int 0, .int 0, .int (-1), k 3, k 4, .ref dr, .int 0, .int 0, .int 0, .int 0, .int 0, k 11, k 12, k 13]))]) [0] (by decide) rfl
  have hKc := hK.sub (tys' := []) [] rfl
  have hFc := va_free (wc := [(rd, .inr (3, [.int 0, .int 0, .int (-1), k 3, k 4, .ref dr, .int 0, .int 0, .int 0, .int 0, .int 0, k 11, k 12, k 13]))]) hD hS hA [0] rfl
  refine va_calli (va_runV (As := []) (rest := []) ⟨hx, hb, hml, hown, hts⟩ (c_X3_readLine l dC dI H.size rd (fun i9 => ([.int 0, .int 0, .int (-1), k 3, k 4, .ref dr, .int 0, .int 0, .null, .int 0, .null, k 11, k 12, k 13] : List Value).getD i9 .null) 0 s98 s110 s112 s114 s116 ) (cwV 0 hts gX3_read_X3_readLine rfl rfl rfl (by decide +kernel) ⟨Nat.le_of_ble_eq_true rfl, Nat.le_of_ble_eq_true rfl⟩) ⟨ax_blind (fun _ _ _ _ hq => ⟨vk_R.same rfl (hq.1), vk_R.same rfl (hq.2.1), vk_R.same rfl (hq.2.2.1), vk_R.same rfl (hq.2.2.2.1), vk_R.same rfl (hq.2.2.2.2)⟩), va_recv hKc hPc (ci := 3) (q0 := 0) rfl rfl, ax_pre hPc hKc hDc (fun _ hW => ⟨vk_R.warm hW hE0, vk_R.warm hW hE1, vk_R.warm hW hE2, vk_R.warm hW hE3, vk_R.warm hW hE4⟩)⟩ rfl rfl hl.1 rfl (lv_room (Nat.le_of_ble_eq_true rfl)) dX3_read_49 ⟨Nat.le_of_ble_eq_true rfl, Nat.le_of_ble_eq_true rfl⟩) hS (fun q _ h => hFc q h) hFc (fun r_3 u t H1 locs ht hvm hw hB hz1 hk1 hS => ?_)
  obtain ⟨hP1, hK1, hD1⟩ := hB
  rw [ht] at hP1
  have hK1 := va_K.moved hvm.symm hK1
  obtain ⟨hP, hD⟩ := va_join (wr := []) (w1 := [(rd, .inr (3, [.int 0, .int 1, .int 0, k 3, k 4, .ref dr, .int 0, .int 0, .int 0, .int 0, .int 0, k 11, k 12, k 13]))]) hP hD [0] [] rfl rfl (by decide) (by decide) hk1 hFc hP1 hD1
  have hK := (hK.sub (tys' := []) [] rfl).app hK1
  generalize H1 = H at hP hS ⊢
  have hP : va_P (dC, dI) vwCl [(rd, .inr (3, [.int 0, .int 1, .int 0, k 3, k 4, .ref dr, .int 0, .int 0, .int 0, .int 0, .int 0, k 11, k 12, k 13]))] H := hP
  have hD : va_D A [(rd, .inr (3, [.int 0, .int 1, .int 0, k 3, k 4, .ref dr, .int 0, .int 0, .int 0, .int 0, .int 0, k 11, k 12, k 13]))] := hD
  have hK : va_K (dC, dI) vwCl [] s := hK
  have hw : r_3 = 0 := hw
  subst hw
  refine lv_istore_n (lv' := [(2, .int 0), (0, .ref rd), (1, .int 0)]) hx hb dX3_read_52 rfl hl (by decide) rfl (fun ls hl => ?_)
  refine lv_iconst (v := 1) hx hb dX3_read_53 (by decide) ?_
  refine lv_istore_n (lv' := [(3, .int 1), (2, .int 0), (0, .ref rd), (1, .int 0)]) hx hb dX3_read_54 rfl hl (by decide) rfl (fun ls hl => ?_)
  refine lv_iload_n hx hb dX3_read_55 rfl (lv_at hl 1 rfl) ?_
  refine lv_if_eq (tgt := 89) hx hb dX3_read_56 (by decide) (fun _ => ?_) (fun c_4 => absurd (by decide +kernel) c_4)
  refine lv_iload_n hx hb dX3_read_89 rfl (lv_at hl 1 rfl) ?_
  refine lv_if_ne (tgt := 95) hx hb dX3_read_90 (by decide) (fun c_5 => absurd (by decide +kernel) c_5) (fun _ => ?_)
  refine lv_iconst (v := 0) hx hb dX3_read_93 (by decide) ?_
  have hP9 := hP.sub (ws' := [(rd, .inr (3, [.int 0, .int 1, .int 0, k 3, k 4, .ref dr, .int 0, .int 0, .int 0, .int 0, .int 0, k 11, k 12, k 13]))]) [0] rfl
  have hD9 := hD.sub (ws' := [(rd, .inr (3, [.int 0, .int 1, .int 0, k 3, k 4, .ref dr, .int 0, .int 0, .int 0, .int 0, .int 0, k 11, k 12, k 13]))]) [0] (by decide) rfl
  have hK9 := hK.sub (tys' := []) [] rfl
  exact W.zret (v := 0) hx hb hr rfl (fun t ht hW => ⟨⟨0, (), rfl, rfl, by rw [ht]; exact hP9, va_K.moved hW.alike hK9, hD9⟩, hS.F ht⟩) hS.2.2 dX3_read_94

set_option maxHeartbeats 4000000 in
set_option maxRecDepth 100000 in
theorem c_X7_gallery (l : Launch) (dC : Nat → ClassId) (dI : Nat → Nat → Nat) (sz : Nat) (x : Nat) (a0 : Int32) (rd : Nat) (v : Nat → Value) (k : Nat → Value) (dr : Nat) (g : Nat → Value) (da : Nat) (db : Nat) (dw : Nat) (pw : Nat → Value) (ka : ClassId) (kb : ClassId) (s98 : Nat) (s110 : Nat) (s112 : Nat) (s114 : Nat) (s116 : Nat) : Met l yX7_gallery wsX7_gallery ({ frames := 3, cells := 0, slots := 0, locals := 67 }) (va_Pc [.ref x, .int a0] (ax_C dC dI sz [(x, .inr (7, [.ref rd, v 1, v 2, v 3, v 4, v 5, v 6, v 7, v 8, v 9, v 10])), (rd, .inr (3, [.int 0, k 1, k 2, k 3, k 4, .ref dr, k 6, k 7, k 8, k 9, k 10, k 11, k 12, k 13])), (dr, .inr (0, [g 0, g 1, g 2, g 3, g 4, g 5, g 6, g 7, g 8, g 9, .ref da, .ref db, g 12, g 13, .ref dw])), (dw, .inr (6, [pw 0, pw 1, pw 2, pw 3])), (da, .inl (ka, 9, .inl (fun _ => 0))), (db, .inl (kb, 9, .inl (fun _ => 0)))] [(ka, .int), (kb, .int)] (fun U => vk_R RX3 98 "gallery" s98 U ∧ vk_R RX3 110 "law" s110 U ∧ vk_R RX3 112 "figure" s112 U ∧ vk_R RX3 114 "watche\x72" s114 U ∧ vk_R RX3 116 "seen" s116 U))) (va_Qi (fun (r : Int32) (_ : Unit) => r = -1) (fun (_ : Unit) (t : State) => ax_B dC dI (va_A [(x, .inr (7, [.ref rd, v 1, v 2, v 3, v 4, v 5, v 6, v 7, v 8, v 9, v 10])), (rd, .inr (3, [.int 0, k 1, k 2, k 3, k 4, .ref dr, k 6, k 7, k 8, k 9, k 10, k 11, k 12, k 13])), (dr, .inr (0, [g 0, g 1, g 2, g 3, g 4, g 5, g 6, g 7, g 8, g 9, .ref da, .ref db, g 12, g 13, .ref dw])), (dw, .inr (6, [pw 0, pw 1, pw 2, pw 3])), (da, .inl (ka, 9, .inl (fun _ => 0))), (db, .inl (kb, 9, .inl (fun _ => 0)))] sz) [] [] t) (va_A [(x, .inr (7, [.ref rd, v 1, v 2, v 3, v 4, v 5, v 6, v 7, v 8, v 9, v 10])), (rd, .inr (3, [.int 0, k 1, k 2, k 3, k 4, .ref dr, k 6, k 7, k 8, k 9, k 10, k 11, k 12, k 13])), (dr, .inr (0, [g 0, g 1, g 2, g 3, g 4, g 5, g 6, g 7, g 8, g 9, .ref da, .ref db, g 12, g 13, .ref dw])), (dw, .inr (6, [pw 0, pw 1, pw 2, pw 3])), (da, .inl (ka, 9, .inl (fun _ => 0))), (db, .inl (kb, 9, .inl (fun _ => 0)))] sz)) 0 0 (va_A [(x, .inr (7, [.ref rd, v 1, v 2, v 3, v 4, v 5, v 6, v 7, v 8, v 9, v 10])), (rd, .inr (3, [.int 0, k 1, k 2, k 3, k 4, .ref dr, k 6, k 7, k 8, k 9, k 10, k 11, k 12, k 13])), (dr, .inr (0, [g 0, g 1, g 2, g 3, g 4, g 5, g 6, g 7, g 8, g 9, .ref da, .ref db, g 12, g 13, .ref dw])), (dw, .inr (6, [pw 0, pw 1, pw 2, pw 3])), (da, .inl (ka, 9, .inl (fun _ => 0))), (db, .inl (kb, 9, .inl (fun _ => 0)))] sz) := by
  refine Met.ofW (cc := cX7_gallery) (maxL := 3) (ret := (some .int)) (by decide) rfl ?_
  intro p e s m args below meth c s₁ B hml hv
  obtain ⟨rfl, hsz, hP, hK, hD0, hE⟩ := hv
  have hx := B.exec
  have hb := B.bytes
  have hr := B.returns
  have hts := atoms_spec (ws := wsX7_gallery) B.pre
  have hown : s.vm.findClass RX7 = some m.cls := findClass_of_methodNamed B.named
  have hlocks := B.notSynchronized
  subst hsz
  have hD := hD0.self (sz := s.heap.size)
  generalize hAe : va_A [(x, .inr (7, [.ref rd, v 1, v 2, v 3, v 4, v 5, v 6, v 7, v 8, v 9, v 10])), (rd, .inr (3, [.int 0, k 1, k 2, k 3, k 4, .ref dr, k 6, k 7, k 8, k 9, k 10, k 11, k 12, k 13])), (dr, .inr (0, [g 0, g 1, g 2, g 3, g 4, g 5, g 6, g 7, g 8, g 9, .ref da, .ref db, g 12, g 13, .ref dw])), (dw, .inr (6, [pw 0, pw 1, pw 2, pw 3])), (da, .inl (ka, 9, .inl (fun _ => 0))), (db, .inl (kb, 9, .inl (fun _ => 0)))] s.heap.size = A at hD ⊢
  have hA : ∀ q : Nat, s.heap.size ≤ q → A q := fun q h => by rw [← hAe]; exact Or.inr h
  have hS : va_S A s.heap s.heap [] := va_S.rf
  have hP : va_P (dC, dI) vwCl [(x, .inr (7, [.ref rd, v 1, v 2, v 3, v 4, v 5, v 6, v 7, v 8, v 9, v 10])), (rd, .inr (3, [.int 0, k 1, k 2, k 3, k 4, .ref dr, k 6, k 7, k 8, k 9, k 10, k 11, k 12, k 13])), (dr, .inr (0, [g 0, g 1, g 2, g 3, g 4, g 5, g 6, g 7, g 8, g 9, .ref da, .ref db, g 12, g 13, .ref dw])), (dw, .inr (6, [pw 0, pw 1, pw 2, pw 3])), (da, .inl (ka, 9, .inl (fun _ => 0))), (db, .inl (kb, 9, .inl (fun _ => 0)))] s.heap := hP
  obtain ⟨hE0, hE1, hE2, hE3, hE4⟩ := hE
  have hl := lv_entry ([.ref x, .int a0]) (n := 3) (Nat.le_of_ble_eq_true rfl)
  rw [lg_entry_eq]
  generalize (lg_sl ([.ref x, .int a0]) ++ List.replicate (3 - (lg_sl ([.ref x, .int a0])).length) Slot.unset).toArray = ls at hl ⊢
  have hl : lv_has ls 3 [(0, .ref x), (1, .int a0)] := hl
  refine lv_iload_n hx hb dX7_gallery_0 rfl (lv_at hl 1 rfl) ?_
  refine lv_iconst (v := 0) hx hb dX7_gallery_1 (by decide) ?_
  refine lv_aload_n hx hb dX7_gallery_2 rfl (lv_at hl 0 rfl) ?_
  refine va_get (D := (dC, dI)) (ci := 7) (v := .ref rd) (C := RX7) (T := TX7) (N := 11) hx hb hts (by decide +kernel) hown hK hP 0 rfl rfl 0 (by decide) (hts (.fieldLink RX7 12 "WaxTurns" "reade\x72" "LWaxTurns$Reader;") (by decide +kernel)) (fun _ h9 => h9) rfl dX7_gallery_3 ?_
  refine va_get (D := (dC, dI)) (ci := 3) (v := .int 0) (C := RX3) (T := TX3) (N := 14) hx hb hts (by decide +kernel) hown hK hP 1 rfl rfl 0 (by decide) (hts (.fieldLink RX7 71 "WaxTurns$Reade\x72" "tapeSize" "I") (by decide +kernel)) (fun _ h9 => h9) rfl dX7_gallery_6 ?_
  have hPc := hP.sub (ws' := []) [] rfl
  have hDc := hD.sub (ws' := []) [] (by decide) rfl
  have hKc := hK.sub (tys' := []) [] rfl
  have hFc := va_free (wc := []) hD hS hA [] rfl
  refine va_calli (va_runS (As := [.int a0, .int 0, .int 0]) (rest := []) ⟨hx, hb, hml, hown, hts⟩ (c_X7_within l dC dI s.heap.size a0 0 0 ) (va_cwS 3 hts gX7_gallery_X7_within rfl rfl rfl (by decide +kernel) ⟨Nat.le_of_ble_eq_true rfl, Nat.le_of_ble_eq_true rfl⟩) ⟨ax_blind (fun _ _ _ _ _ => trivial), ax_pre hPc hKc hDc (fun _ _ => trivial)⟩ rfl rfl hl.1 rfl (lv_room (Nat.le_of_ble_eq_true rfl)) dX7_gallery_9 ⟨Nat.le_of_ble_eq_true rfl, Nat.le_of_ble_eq_true rfl⟩) hS (fun q _ h => hFc q h) hFc (fun r_1 u t H1 locs ht hvm hw hB hz1 hk1 hS => ?_)
  obtain ⟨hP1, hK1, hD1⟩ := hB
  rw [ht] at hP1
  have hK1 := va_K.moved hvm.symm hK1
  obtain ⟨hP, hD⟩ := va_join (wr := [(x, .inr (7, [.ref rd, v 1, v 2, v 3, v 4, v 5, v 6, v 7, v 8, v 9, v 10])), (rd, .inr (3, [.int 0, k 1, k 2, k 3, k 4, .ref dr, k 6, k 7, k 8, k 9, k 10, k 11, k 12, k 13])), (dr, .inr (0, [g 0, g 1, g 2, g 3, g 4, g 5, g 6, g 7, g 8, g 9, .ref da, .ref db, g 12, g 13, .ref dw])), (dw, .inr (6, [pw 0, pw 1, pw 2, pw 3])), (da, .inl (ka, 9, .inl (fun _ => 0))), (db, .inl (kb, 9, .inl (fun _ => 0)))]) (w1 := []) hP hD [] [0, 1, 2, 3, 4, 5] rfl rfl (by decide) (by decide) hk1 hFc hP1 hD1
  have hK := (hK.sub (tys' := [(ka, .int), (kb, .int)]) [0, 1] rfl).app hK1
  generalize H1 = H at hP hS ⊢
  have hP : va_P (dC, dI) vwCl [(x, .inr (7, [.ref rd, v 1, v 2, v 3, v 4, v 5, v 6, v 7, v 8, v 9, v 10])), (rd, .inr (3, [.int 0, k 1, k 2, k 3, k 4, .ref dr, k 6, k 7, k 8, k 9, k 10, k 11, k 12, k 13])), (dr, .inr (0, [g 0, g 1, g 2, g 3, g 4, g 5, g 6, g 7, g 8, g 9, .ref da, .ref db, g 12, g 13, .ref dw])), (dw, .inr (6, [pw 0, pw 1, pw 2, pw 3])), (da, .inl (ka, 9, .inl (fun _ => 0))), (db, .inl (kb, 9, .inl (fun _ => 0)))] H := hP
  have hD : va_D A [(x, .inr (7, [.ref rd, v 1, v 2, v 3, v 4, v 5, v 6, v 7, v 8, v 9, v 10])), (rd, .inr (3, [.int 0, k 1, k 2, k 3, k 4, .ref dr, k 6, k 7, k 8, k 9, k 10, k 11, k 12, k 13])), (dr, .inr (0, [g 0, g 1, g 2, g 3, g 4, g 5, g 6, g 7, g 8, g 9, .ref da, .ref db, g 12, g 13, .ref dw])), (dw, .inr (6, [pw 0, pw 1, pw 2, pw 3])), (da, .inl (ka, 9, .inl (fun _ => 0))), (db, .inl (kb, 9, .inl (fun _ => 0)))] := hD
  have hK : va_K (dC, dI) vwCl [(ka, .int), (kb, .int)] s := hK
  rcases hw with ⟨hw, h_2⟩ | ⟨hw, h_2⟩
  · have h0 : a0 = 0 := ax_z0 h_2.1 h_2.2
    subst h0
    subst hw
    refine lv_if_ne (tgt := 21) hx hb dX7_gallery_12 (by decide) (fun _ => ?_) (fun c_3 => absurd c_3 (by decide +kernel))
    refine lv_aload_n hx hb dX7_gallery_21 rfl (lv_at hl 0 rfl) ?_
    refine va_get (D := (dC, dI)) (ci := 7) (v := .ref rd) (C := RX7) (T := TX7) (N := 11) hx hb hts (by decide +kernel) hown hK hP 0 rfl rfl 0 (by decide) (hts (.fieldLink RX7 12 "WaxTurns" "reade\x72" "LWaxTurns$Reader;") (by decide +kernel)) (fun _ h9 => h9) rfl dX7_gallery_22 ?_
    refine lv_iload_n hx hb dX7_gallery_25 rfl (lv_at hl 1 rfl) ?_
    have hPc := hP.sub (ws' := [(rd, .inr (3, [.int 0, k 1, k 2, k 3, k 4, .ref dr, k 6, k 7, k 8, k 9, k 10, k 11, k 12, k 13])), (dr, .inr (0, [g 0, g 1, g 2, g 3, g 4, g 5, g 6, g 7, g 8, g 9, .ref da, .ref db, g 12, g 13, .ref dw])), (dw, .inr (6, [pw 0, pw 1, pw 2, pw 3])), (da, .inl (ka, 9, .inl (fun _ => 0))), (db, .inl (kb, 9, .inl (fun _ => 0)))]) [1, 2, 3, 4, 5] rfl
    have hDc := hD.sub (ws' := [(rd, .inr (3, [.int 0, k 1, k 2, k 3, k 4, .ref dr, k 6, k 7, k 8, k 9, k 10, k 11, k 12, k 13])), (dr, .inr (0, [g 0, g 1, g 2, g 3, g 4, g 5, g 6, g 7, g 8, g 9, .ref da, .ref db, g 12, g 13, .ref dw])), (dw, .inr (6, [pw 0, pw 1, pw 2, pw 3])), (da, .inl (ka, 9, .inl (fun _ => 0))), (db, .inl (kb, 9, .inl (fun _ => 0)))]) [1, 2, 3, 4, 5] (by decide) rfl
    have hKc := hK.sub (tys' := [(ka, .int), (kb, .int)]) [0, 1] rfl
    have hFc := va_free (wc := [(rd, .inr (3, [.int 0, k 1, k 2, k 3, k 4, .ref dr, k 6, k 7, k 8, k 9, k 10, k 11, k 12, k 13])), (dr, .inr (0, [g 0, g 1, g 2, g 3, g 4, g 5, g 6, g 7, g 8, g 9, .ref da, .ref db, g 12, g 13, .ref dw])), (dw, .inr (6, [pw 0, pw 1, pw 2, pw 3])), (da, .inl (ka, 9, .inl (fun _ => 0))), (db, .inl (kb, 9, .inl (fun _ => 0)))]) hD hS hA [1, 2, 3, 4, 5] rfl
    refine va_calli (va_runV (As := [.int 0]) (rest := []) ⟨hx, hb, hml, hown, hts⟩ (c_X3_read l dC dI H.size rd k dr g da db dw pw ka kb s98 s110 s112 s114 s116 ) (cwV 1 hts gX7_gallery_X3_read rfl rfl rfl (by decide +kernel) ⟨Nat.le_of_ble_eq_true rfl, Nat.le_of_ble_eq_true rfl⟩) ⟨ax_blind (fun _ _ _ _ hq => ⟨vk_R.same rfl (hq.1), vk_R.same rfl (hq.2.1), vk_R.same rfl (hq.2.2.1), vk_R.same rfl (hq.2.2.2.1), vk_R.same rfl (hq.2.2.2.2)⟩), va_recv hKc hPc (ci := 3) (q0 := 0) rfl rfl, ax_pre hPc hKc hDc (fun _ hW => ⟨vk_R.warm hW hE0, vk_R.warm hW hE1, vk_R.warm hW hE2, vk_R.warm hW hE3, vk_R.warm hW hE4⟩)⟩ rfl rfl hl.1 rfl (lv_room (Nat.le_of_ble_eq_true rfl)) dX7_gallery_26 ⟨Nat.le_of_ble_eq_true rfl, Nat.le_of_ble_eq_true rfl⟩) hS (fun q _ h => hFc q h) hFc (fun r_4 u t H1 locs ht hvm hw hB hz1 hk1 hS => ?_)
    obtain ⟨hP1, hK1, hD1⟩ := hB
    rw [ht] at hP1
    have hK1 := va_K.moved hvm.symm hK1
    obtain ⟨hP, hD⟩ := va_join (wr := [(x, .inr (7, [.ref rd, v 1, v 2, v 3, v 4, v 5, v 6, v 7, v 8, v 9, v 10]))]) (w1 := [(rd, .inr (3, [.int 0, .int 1, .int 0, k 3, k 4, .ref dr, .int 0, .int 0, .int 0, .int 0, .int 0, k 11, k 12, k 13]))]) hP hD [1, 2, 3, 4, 5] [0] rfl rfl (by decide) (by decide) hk1 hFc hP1 hD1
    have hK := (hK.sub (tys' := []) [] rfl).app hK1
    generalize H1 = H at hP hS ⊢
    have hP : va_P (dC, dI) vwCl [(x, .inr (7, [.ref rd, v 1, v 2, v 3, v 4, v 5, v 6, v 7, v 8, v 9, v 10])), (rd, .inr (3, [.int 0, .int 1, .int 0, k 3, k 4, .ref dr, .int 0, .int 0, .int 0, .int 0, .int 0, k 11, k 12, k 13]))] H := hP
    have hD : va_D A [(x, .inr (7, [.ref rd, v 1, v 2, v 3, v 4, v 5, v 6, v 7, v 8, v 9, v 10])), (rd, .inr (3, [.int 0, .int 1, .int 0, k 3, k 4, .ref dr, .int 0, .int 0, .int 0, .int 0, .int 0, k 11, k 12, k 13]))] := hD
    have hK : va_K (dC, dI) vwCl [] s := hK
    have hw : r_4 = 0 := hw
    subst hw
    refine lv_istore_n (lv' := [(2, .int 0), (0, .ref x), (1, .int 0)]) hx hb dX7_gallery_29 rfl hl (by decide) rfl (fun ls hl => ?_)
    refine lv_aload_n hx hb dX7_gallery_30 rfl (lv_at hl 1 rfl) ?_
    refine lv_aload_n hx hb dX7_gallery_31 rfl (lv_at hl 1 rfl) ?_
    refine va_get (D := (dC, dI)) (ci := 7) (v := .ref rd) (C := RX7) (T := TX7) (N := 11) hx hb hts (by decide +kernel) hown hK hP 0 rfl rfl 0 (by decide) (hts (.fieldLink RX7 12 "WaxTurns" "reade\x72" "LWaxTurns$Reader;") (by decide +kernel)) (fun _ h9 => h9) rfl dX7_gallery_32 ?_
    refine va_get (D := (dC, dI)) (ci := 3) (v := .int 1) (C := RX3) (T := TX3) (N := 14) hx hb hts (by decide +kernel) hown hK hP 1 rfl rfl 1 (by decide) (hts (.fieldLink RX7 90 "WaxTurns$Reade\x72" "faultNumbe\x72" "I") (by decide +kernel)) (fun _ h9 => h9) rfl dX7_gallery_35 ?_
    refine va_put (D := (dC, dI)) (ci := 7) (v := .int 1) (ty := .int) (C := RX7) (T := TX7) (N := 11) hx hb hts (by decide +kernel) tyX7 tyX7_ok nmX7 hown hK hP hD hS 0 rfl rfl 9 (by decide) (hts (.fieldLink RX7 65 "WaxTurns" "latestFault" "I") (by decide +kernel)) (fun _ h9 => h9) rfl (by decide +kernel) rfl rfl (Nat.le_of_ble_eq_true rfl) dX7_gallery_38 (fun H locs hP hD hS => ?_)
    have hP : va_P (dC, dI) vwCl [(x, .inr (7, [.ref rd, v 1, v 2, v 3, v 4, v 5, v 6, v 7, v 8, .int 1, v 10])), (rd, .inr (3, [.int 0, .int 1, .int 0, k 3, k 4, .ref dr, .int 0, .int 0, .int 0, .int 0, .int 0, k 11, k 12, k 13]))] H := hP
    have hD : va_D A [(x, .inr (7, [.ref rd, v 1, v 2, v 3, v 4, v 5, v 6, v 7, v 8, .int 1, v 10])), (rd, .inr (3, [.int 0, .int 1, .int 0, k 3, k 4, .ref dr, .int 0, .int 0, .int 0, .int 0, .int 0, k 11, k 12, k 13]))] := hD
    refine lv_aload_n hx hb dX7_gallery_41 rfl (lv_at hl 1 rfl) ?_
    refine lv_aload_n hx hb dX7_gallery_42 rfl (lv_at hl 1 rfl) ?_
    refine va_get (D := (dC, dI)) (ci := 7) (v := .ref rd) (C := RX7) (T := TX7) (N := 11) hx hb hts (by decide +kernel) hown hK hP 0 rfl rfl 0 (by decide) (hts (.fieldLink RX7 12 "WaxTurns" "reade\x72" "LWaxTurns$Reader;") (by decide +kernel)) (fun _ h9 => h9) rfl dX7_gallery_43 ?_
    refine va_get (D := (dC, dI)) (ci := 3) (v := .int 0) (C := RX3) (T := TX3) (N := 14) hx hb hts (by decide +kernel) hown hK hP 1 rfl rfl 2 (by decide) (hts (.fieldLink RX7 93 "WaxTurns$Reade\x72" "faultPlace" "I") (by decide +kernel)) (fun _ h9 => h9) rfl dX7_gallery_46 ?_
    refine va_put (D := (dC, dI)) (ci := 7) (v := .int 0) (ty := .int) (C := RX7) (T := TX7) (N := 11) hx hb hts (by decide +kernel) tyX7 tyX7_ok nmX7 hown hK hP hD hS 0 rfl rfl 10 (by decide) (hts (.fieldLink RX7 68 "WaxTurns" "faultPlace" "I") (by decide +kernel)) (fun _ h9 => h9) rfl (by decide +kernel) rfl rfl (Nat.le_of_ble_eq_true rfl) dX7_gallery_49 (fun H locs hP hD hS => ?_)
    have hP : va_P (dC, dI) vwCl [(x, .inr (7, [.ref rd, v 1, v 2, v 3, v 4, v 5, v 6, v 7, v 8, .int 1, .int 0])), (rd, .inr (3, [.int 0, .int 1, .int 0, k 3, k 4, .ref dr, .int 0, .int 0, .int 0, .int 0, .int 0, k 11, k 12, k 13]))] H := hP
    have hD : va_D A [(x, .inr (7, [.ref rd, v 1, v 2, v 3, v 4, v 5, v 6, v 7, v 8, .int 1, .int 0])), (rd, .inr (3, [.int 0, .int 1, .int 0, k 3, k 4, .ref dr, .int 0, .int 0, .int 0, .int 0, .int 0, k 11, k 12, k 13]))] := hD
    refine lv_iload_n hx hb dX7_gallery_52 rfl (lv_at hl 0 rfl) ?_
    refine lv_if_ne (tgt := 62) hx hb dX7_gallery_53 (by decide) (fun c_5 => absurd (by decide +kernel) c_5) (fun _ => ?_)
    refine lv_aload_n hx hb dX7_gallery_56 rfl (lv_at hl 1 rfl) ?_
    refine lv_iconst (v := 4) hx hb dX7_gallery_57 (by decide) ?_
    have hPc := hP.sub (ws' := [(x, .inr (7, [.ref rd, v 1, v 2, v 3, v 4, v 5, v 6, v 7, v 8, .int 1, .int 0]))]) [0] rfl
    have hDc := hD.sub (ws' := [(x, .inr (7, [.ref rd, v 1, v 2, v 3, v 4, v 5, v 6, v 7, v 8, .int 1, .int 0]))]) [0] (by decide) rfl
    have hKc := hK.sub (tys' := []) [] rfl
    have hFc := va_free (wc := [(x, .inr (7, [.ref rd, v 1, v 2, v 3, v 4, v 5, v 6, v 7, v 8, .int 1, .int 0]))]) hD hS hA [0] rfl
    refine va_calli (va_runV (As := [.int 4]) (rest := []) ⟨hx, hb, hml, hown, hts⟩ (c_X7_refused l dC dI H.size x 4 (fun i9 => ([.ref rd, v 1, v 2, v 3, v 4, v 5, v 6, v 7, v 8, .int 1, .int 0] : List Value).getD i9 .null) ) (cwV 1 hts gX7_gallery_X7_refused rfl rfl rfl (by decide +kernel) ⟨Nat.le_of_ble_eq_true rfl, Nat.le_of_ble_eq_true rfl⟩) ⟨ax_blind (fun _ _ _ _ _ => trivial), va_recv hKc hPc (ci := 7) (q0 := 0) rfl rfl, ax_pre hPc hKc hDc (fun _ _ => trivial)⟩ rfl rfl hl.1 rfl (lv_room (Nat.le_of_ble_eq_true rfl)) dX7_gallery_58 ⟨Nat.le_of_ble_eq_true rfl, Nat.le_of_ble_eq_true rfl⟩) hS (fun q _ h => hFc q h) hFc (fun r_6 u t H1 locs ht hvm hw hB hz1 hk1 hS => ?_)
    obtain ⟨hP1, hK1, hD1⟩ := hB
    rw [ht] at hP1
    have hK1 := va_K.moved hvm.symm hK1
    obtain ⟨hP, hD⟩ := va_join (wr := [(rd, .inr (3, [.int 0, .int 1, .int 0, k 3, k 4, .ref dr, .int 0, .int 0, .int 0, .int 0, .int 0, k 11, k 12, k 13]))]) (w1 := []) hP hD [0] [1] rfl rfl (by decide) (by decide) hk1 hFc hP1 hD1
    have hK := (hK.sub (tys' := []) [] rfl).app hK1
    generalize H1 = H at hP hS ⊢
    have hP : va_P (dC, dI) vwCl [(rd, .inr (3, [.int 0, .int 1, .int 0, k 3, k 4, .ref dr, .int 0, .int 0, .int 0, .int 0, .int 0, k 11, k 12, k 13]))] H := hP
    have hD : va_D A [(rd, .inr (3, [.int 0, .int 1, .int 0, k 3, k 4, .ref dr, .int 0, .int 0, .int 0, .int 0, .int 0, k 11, k 12, k 13]))] := hD
    have hK : va_K (dC, dI) vwCl [] s := hK
    have hw : r_6 = (-1) := hw
    subst hw
    have hP9 := hP.sub (ws' := []) [] rfl
    have hD9 := hD.sub (ws' := []) [] (by decide) rfl
    have hK9 := hK.sub (tys' := []) [] rfl
    exact W.iret (v := (-1)) hx hb hr (fun t ht hW => ⟨⟨(-1), (), rfl, rfl, by rw [ht]; exact hP9, va_K.moved hW.alike hK9, hD9⟩, hS.F ht⟩) hS.2.2 dX7_gallery_61
  · subst hw
    refine lv_if_ne (tgt := 21) hx hb dX7_gallery_12 (by decide) (fun c_7 => absurd (by decide +kernel) c_7) (fun _ => ?_)
    refine lv_aload_n hx hb dX7_gallery_15 rfl (lv_at hl 0 rfl) ?_
    refine lv_iconst (v := 2) hx hb dX7_gallery_16 (by decide) ?_
    have hPc := hP.sub (ws' := [(x, .inr (7, [.ref rd, v 1, v 2, v 3, v 4, v 5, v 6, v 7, v 8, v 9, v 10]))]) [0] rfl
    have hDc := hD.sub (ws' := [(x, .inr (7, [.ref rd, v 1, v 2, v 3, v 4, v 5, v 6, v 7, v 8, v 9, v 10]))]) [0] (by decide) rfl
    have hKc := hK.sub (tys' := []) [] rfl
    have hFc := va_free (wc := [(x, .inr (7, [.ref rd, v 1, v 2, v 3, v 4, v 5, v 6, v 7, v 8, v 9, v 10]))]) hD hS hA [0] rfl
    refine va_calli (va_runV (As := [.int 2]) (rest := []) ⟨hx, hb, hml, hown, hts⟩ (c_X7_refused l dC dI H.size x 2 (fun i9 => ([.ref rd, v 1, v 2, v 3, v 4, v 5, v 6, v 7, v 8, v 9, v 10] : List Value).getD i9 .null) ) (cwV 1 hts gX7_gallery_X7_refused rfl rfl rfl (by decide +kernel) ⟨Nat.le_of_ble_eq_true rfl, Nat.le_of_ble_eq_true rfl⟩) ⟨ax_blind (fun _ _ _ _ _ => trivial), va_recv hKc hPc (ci := 7) (q0 := 0) rfl rfl, ax_pre hPc hKc hDc (fun _ _ => trivial)⟩ rfl rfl hl.1 rfl (lv_room (Nat.le_of_ble_eq_true rfl)) dX7_gallery_17 ⟨Nat.le_of_ble_eq_true rfl, Nat.le_of_ble_eq_true rfl⟩) hS (fun q _ h => hFc q h) hFc (fun r_8 u t H1 locs ht hvm hw hB hz1 hk1 hS => ?_)
    obtain ⟨hP1, hK1, hD1⟩ := hB
    rw [ht] at hP1
    have hK1 := va_K.moved hvm.symm hK1
    obtain ⟨hP, hD⟩ := va_join (wr := [(rd, .inr (3, [.int 0, k 1, k 2, k 3, k 4, .ref dr, k 6, k 7, k 8, k 9, k 10, k 11, k 12, k 13])), (dr, .inr (0, [g 0, g 1, g 2, g 3, g 4, g 5, g 6, g 7, g 8, g 9, .ref da, .ref db, g 12, g 13, .ref dw])), (dw, .inr (6, [pw 0, pw 1, pw 2, pw 3])), (da, .inl (ka, 9, .inl (fun _ => 0))), (db, .inl (kb, 9, .inl (fun _ => 0)))]) (w1 := []) hP hD [0] [1, 2, 3, 4, 5] rfl rfl (by decide) (by decide) hk1 hFc hP1 hD1
    have hK := (hK.sub (tys' := [(ka, .int), (kb, .int)]) [0, 1] rfl).app hK1
    generalize H1 = H at hP hS ⊢
    have hP : va_P (dC, dI) vwCl [(rd, .inr (3, [.int 0, k 1, k 2, k 3, k 4, .ref dr, k 6, k 7, k 8, k 9, k 10, k 11, k 12, k 13])), (dr, .inr (0, [g 0, g 1, g 2, g 3, g 4, g 5, g 6, g 7, g 8, g 9, .ref da, .ref db, g 12, g 13, .ref dw])), (dw, .inr (6, [pw 0, pw 1, pw 2, pw 3])), (da, .inl (ka, 9, .inl (fun _ => 0))), (db, .inl (kb, 9, .inl (fun _ => 0)))] H := hP
    have hD : va_D A [(rd, .inr (3, [.int 0, k 1, k 2, k 3, k 4, .ref dr, k 6, k 7, k 8, k 9, k 10, k 11, k 12, k 13])), (dr, .inr (0, [g 0, g 1, g 2, g 3, g 4, g 5, g 6, g 7, g 8, g 9, .ref da, .ref db, g 12, g 13, .ref dw])), (dw, .inr (6, [pw 0, pw 1, pw 2, pw 3])), (da, .inl (ka, 9, .inl (fun _ => 0))), (db, .inl (kb, 9, .inl (fun _ => 0)))] := hD
    have hK : va_K (dC, dI) vwCl [(ka, .int), (kb, .int)] s := hK
    have hw : r_8 = (-1) := hw
    subst hw
    have hP9 := hP.sub (ws' := []) [] rfl
    have hD9 := hD.sub (ws' := []) [] (by decide) rfl
    have hK9 := hK.sub (tys' := []) [] rfl
    exact W.iret (v := (-1)) hx hb hr (fun t ht hW => ⟨⟨(-1), (), rfl, rfl, by rw [ht]; exact hP9, va_K.moved hW.alike hK9, hD9⟩, hS.F ht⟩) hS.2.2 dX7_gallery_20
