section SXC
def sxc_W (w n : Nat) (cs : Nat → Int32) (A : Nat → Prop) (U : State) : Prop := sx_Z A U ∧ n ≤ 8 ∧ va_O "java/lang/String" w A U U.heap ∧ va_OF "java/lang/String" "code\x72" "B" (.int 0) w A U U.heap ∧ (∀ j : Nat, j < n → (0 : Int) ≤ (cs j).toInt ∧ (cs j).toInt ≤ 127) ∧ ∃ v : Nat, va_OF "java/lang/String" "value" "[B" (.ref v) w A U U.heap ∧ va_T .byte v n (fun j => .int (cs j)) A U U.heap
theorem sxc_W_w {w n : Nat} {cs : Nat → Int32} {A : Nat → Prop} {U : State} (h : sxc_W w n cs A U) : sx_W w n A U := by
  obtain ⟨h1, h2, h3, h4, _, v, h5, h6⟩ := h
  exact ⟨h1, h2, h3, h4, v, cs, h5, h6⟩
theorem sxc_W_same {w n : Nat} {cs : Nat → Int32} {A : Nat → Prop} (a : Array Value) (U : State) (g : JFrame) (mk : MethodId) (h : sxc_W w n cs A U) : sxc_W w n cs A (U.calling g mk a) := by
  obtain ⟨h1, h2, h3, h4, h7, v, h5, h6⟩ := h
  exact ⟨sx_Z_same a U g mk h1, h2, va_O.moved (u := U) (U := U.calling g mk a) (Vm.Alike.refl U.vm) h3, va_OF.moved (u := U) (U := U.calling g mk a) (Vm.Alike.refl U.vm) h4, h7, v, va_OF.moved (u := U) (U := U.calling g mk a) (Vm.Alike.refl U.vm) h5, va_T.moved (u := U) (U := U.calling g mk a) (Vm.Alike.refl U.vm) h6⟩
theorem sxc_W_to {w n : Nat} {cs : Nat → Int32} {A B : Nat → Prop} {s U : State} {H : Heap} (h : sxc_W w n cs A s) (hq : ∀ a : Nat, a < s.heap.size → ¬ A a → H[a]? = s.heap[a]?) (hAB : ∀ q, B q → A q) (hU : U.heap = H) (hW : s.WarmedH U.vm) : sxc_W w n cs B U := by
  obtain ⟨h1, h2, h3, h4, h7, v, h5, h6⟩ := h
  refine ⟨sx_Z_to h1 hq hAB hU hW, h2, ?_⟩
  subst hU
  exact ⟨((h3.kept hq).moved hW.alike).narrow hAB, ((h4.kept hq).moved hW.alike).narrow hAB, h7, v, ((h5.kept hq).moved hW.alike).narrow hAB, ((h6.kept hq).moved hW.alike).narrow hAB⟩
theorem sxc_recv {w n : Nat} {cs : Nat → Int32} {A : Nat → Prop} {s : State} {H : Heap} {locs : List Loc} (h : sxc_W w n cs A s) (hS : va_S A s.heap H locs) : ∃ cell : Cell, H[w]? = some cell ∧ cell.vm.isStatics = false ∧ s.vm.findClass "java/lang/String" = some cell.cls := sx_recv (sxc_W_w h) hS
theorem sxc_ch {x : Int32} (h : (0 : Int) ≤ x.toInt ∧ x.toInt ≤ 127) : ((x &&& 255).toUInt32 % 65536).toInt32 = x := by
  have q : ∀ k : Fin 128, (((Int32.ofNat k.val) &&& 255).toUInt32 % 65536).toInt32 = Int32.ofNat k.val := by decide
  have h1 := q ⟨x.toInt.toNat, by omega⟩
  have h2 : Int32.ofNat x.toInt.toNat = x := by
    apply Int32.toInt_inj.mp
    exact (show (Int32.ofNat x.toInt.toNat).toInt = ((x.toInt.toNat : Nat) : Int) from nI_toInt (by omega)).trans (by omega)
  simp only [h2] at h1
  exact h1
set_option maxHeartbeats 4000000 in
set_option maxRecDepth 100000 in
theorem f_J0_coder_7d493 (l : Launch) (dC : Nat → ClassId) (dI : Nat → Nat → Nat) (sz : Nat) (w n : Nat) (cs : Nat → Int32)  : Met l yJ0_coder_7d493 wsJ0_coder_7d493 ({ frames := 0, cells := 0, slots := 0, locals := 0 }) (va_Pc [.ref w] (ax_C dC dI sz [] [] (sxc_W w n cs (va_A [] sz)))) (va_Qi (fun (r : Int32) (_ : Unit) => r = 0) (fun (_ : Unit) (t : State) => ax_B dC dI (va_A [] sz) [] [] t) (va_A [] sz)) 0 0 (va_A [] sz) := by
  refine Met.ofW (cc := cJ0_coder_7d493) (maxL := 1) (ret := (some .byte)) (by decide) rfl ?_
  intro p e s m args below meth c s₁ B hml hv
  obtain ⟨rfl, hsz, hP, hK, hD0, hE⟩ := hv
  have hx := B.exec
  have hb := B.bytes
  have hr := B.returns
  have hts := atoms_spec (ws := wsJ0_coder_7d493) B.pre
  have hown : s.vm.findClass RJ0 = some m.cls := findClass_of_methodNamed B.named
  have hlocks := B.notSynchronized
  subst hsz
  have hD := hD0.self (sz := s.heap.size)
  generalize hAe : va_A [] s.heap.size = A at hD hE ⊢
  have hA : ∀ q : Nat, s.heap.size ≤ q → A q := fun q h => by rw [← hAe]; exact Or.inr h
  have hS : va_S A s.heap s.heap [] := va_S.rf
  have hP : va_P (dC, dI) vwCl [] s.heap := hP
  have hl := lv_entry ([.ref w]) (n := 1) (Nat.le_of_ble_eq_true rfl)
  rw [lg_entry_eq]
  generalize (lg_sl ([.ref w]) ++ List.replicate (1 - (lg_sl ([.ref w])).length) Slot.unset).toArray = ls at hl ⊢
  have hl : lv_has ls 1 [(0, .ref w)] := hl
  obtain ⟨hz, hn, hO, hco, hcb, v, hv, hT⟩ := id hE
  refine va_gets hx hb hz.1 hS hown (hts (.fieldLink RJ0 38 "java/lang/String" "COMPACT_STRINGS" "Z") (List.mem_cons_of_mem _ (List.mem_of_getElem? (i := 0) rfl))) (fun _ h => h) dJ0_coder_7d493_0 ?_
  refine lv_if_eq (tgt := 13) hx hb dJ0_coder_7d493_3 (by decide) (fun c9 => absurd c9 (by decide +kernel)) (fun _ => ?_)
  refine lv_aload_n hx hb dJ0_coder_7d493_6 rfl (lv_at hl 0 rfl) ?_
  refine vk_getf hx hb hco hS hown (hts (.fieldLink RJ0 15 "java/lang/String" "code\x72" "B") (List.mem_cons_of_mem _ (List.mem_of_getElem? (i := 1) rfl))) (fun _ h => h) dJ0_coder_7d493_7 ?_
  refine lv_goto (tgt := 14) hx hb dJ0_coder_7d493_10 (by decide) ?_
  exact W.zret (v := 0) hx hb hr rfl (fun t ht hW => ⟨⟨0, (), rfl, rfl, by rw [ht]; exact hP, va_K.moved hW.alike hK, hD⟩, hS.F ht⟩) hS.2.2 dJ0_coder_7d493_14


set_option maxHeartbeats 4000000 in
set_option maxRecDepth 100000 in
theorem f_J0_isLatin1_aae02 (l : Launch) (dC : Nat → ClassId) (dI : Nat → Nat → Nat) (sz : Nat) (w n : Nat) (cs : Nat → Int32)  : Met l yJ0_isLatin1_aae02 wsJ0_isLatin1_aae02 ({ frames := 0, cells := 0, slots := 0, locals := 0 }) (va_Pc [.ref w] (ax_C dC dI sz [] [] (sxc_W w n cs (va_A [] sz)))) (va_Qi (fun (r : Int32) (_ : Unit) => r = 1) (fun (_ : Unit) (t : State) => ax_B dC dI (va_A [] sz) [] [] t) (va_A [] sz)) 0 0 (va_A [] sz) := by
  refine Met.ofW (cc := cJ0_isLatin1_aae02) (maxL := 1) (ret := (some .boolean)) (by decide) rfl ?_
  intro p e s m args below meth c s₁ B hml hv
  obtain ⟨rfl, hsz, hP, hK, hD0, hE⟩ := hv
  have hx := B.exec
  have hb := B.bytes
  have hr := B.returns
  have hts := atoms_spec (ws := wsJ0_isLatin1_aae02) B.pre
  have hown : s.vm.findClass RJ0 = some m.cls := findClass_of_methodNamed B.named
  have hlocks := B.notSynchronized
  subst hsz
  have hD := hD0.self (sz := s.heap.size)
  generalize hAe : va_A [] s.heap.size = A at hD hE ⊢
  have hA : ∀ q : Nat, s.heap.size ≤ q → A q := fun q h => by rw [← hAe]; exact Or.inr h
  have hS : va_S A s.heap s.heap [] := va_S.rf
  have hP : va_P (dC, dI) vwCl [] s.heap := hP
  have hl := lv_entry ([.ref w]) (n := 1) (Nat.le_of_ble_eq_true rfl)
  rw [lg_entry_eq]
  generalize (lg_sl ([.ref w]) ++ List.replicate (1 - (lg_sl ([.ref w])).length) Slot.unset).toArray = ls at hl ⊢
  have hl : lv_has ls 1 [(0, .ref w)] := hl
  obtain ⟨hz, hn, hO, hco, hcb, v, hv, hT⟩ := id hE
  refine va_gets hx hb hz.1 hS hown (hts (.fieldLink RJ0 38 "java/lang/String" "COMPACT_STRINGS" "Z") (List.mem_cons_of_mem _ (List.mem_of_getElem? (i := 0) rfl))) (fun _ h => h) dJ0_isLatin1_aae02_0 ?_
  refine lv_if_eq (tgt := 17) hx hb dJ0_isLatin1_aae02_3 (by decide) (fun c9 => absurd c9 (by decide +kernel)) (fun _ => ?_)
  refine lv_aload_n hx hb dJ0_isLatin1_aae02_6 rfl (lv_at hl 0 rfl) ?_
  refine vk_getf hx hb hco hS hown (hts (.fieldLink RJ0 15 "java/lang/String" "code\x72" "B") (List.mem_cons_of_mem _ (List.mem_of_getElem? (i := 1) rfl))) (fun _ h => h) dJ0_isLatin1_aae02_7 ?_
  refine lv_if_ne (tgt := 17) hx hb dJ0_isLatin1_aae02_10 (by decide) (fun c9 => absurd (by decide +kernel) c9) (fun _ => ?_)
  refine lv_iconst (v := 1) hx hb dJ0_isLatin1_aae02_13 zk_iconst_1 ?_
  refine lv_goto (tgt := 18) hx hb dJ0_isLatin1_aae02_14 (by decide) ?_
  exact W.zret (v := 1) hx hb hr rfl (fun t ht hW => ⟨⟨1, (), rfl, rfl, by rw [ht]; exact hP, va_K.moved hW.alike hK, hD⟩, hS.F ht⟩) hS.2.2 dJ0_isLatin1_aae02_18


set_option maxHeartbeats 4000000 in
set_option maxRecDepth 100000 in
theorem f_J0_length_8abf5 (l : Launch) (dC : Nat → ClassId) (dI : Nat → Nat → Nat) (sz : Nat) (w n : Nat) (cs : Nat → Int32)  : Met l yJ0_length_8abf5 wsJ0_length_8abf5 ({ frames := 1, cells := 0, slots := 0, locals := 20 }) (va_Pc [.ref w] (ax_C dC dI sz [] [] (sxc_W w n cs (va_A [] sz)))) (va_Qi (fun (r : Int32) (_ : Unit) => (r.toInt = (n : Int) ∧ n ≤ 8) ∧ r.toInt = (n : Int)) (fun (_ : Unit) (t : State) => ax_B dC dI (va_A [] sz) [] [] t) (va_A [] sz)) 0 0 (va_A [] sz) := by
  refine Met.ofW (cc := cJ0_length_8abf5) (maxL := 1) (ret := (some .int)) (by decide) rfl ?_
  intro p e s m args below meth c s₁ B hml hv
  obtain ⟨rfl, hsz, hP, hK, hD0, hE⟩ := hv
  have hx := B.exec
  have hb := B.bytes
  have hr := B.returns
  have hts := atoms_spec (ws := wsJ0_length_8abf5) B.pre
  have hown : s.vm.findClass RJ0 = some m.cls := findClass_of_methodNamed B.named
  have hlocks := B.notSynchronized
  subst hsz
  have hD := hD0.self (sz := s.heap.size)
  generalize hAe : va_A [] s.heap.size = A at hD hE ⊢
  have hA : ∀ q : Nat, s.heap.size ≤ q → A q := fun q h => by rw [← hAe]; exact Or.inr h
  have hS : va_S A s.heap s.heap [] := va_S.rf
  have hP : va_P (dC, dI) vwCl [] s.heap := hP
  have hl := lv_entry ([.ref w]) (n := 1) (Nat.le_of_ble_eq_true rfl)
  rw [lg_entry_eq]
  generalize (lg_sl ([.ref w]) ++ List.replicate (1 - (lg_sl ([.ref w])).length) Slot.unset).toArray = ls at hl ⊢
  have hl : lv_has ls 1 [(0, .ref w)] := hl
  obtain ⟨hz, hn, hO, hco, hcb, v, hv, hT⟩ := id hE
  refine lv_aload_n hx hb dJ0_length_8abf5_0 rfl (lv_at hl 0 rfl) ?_
  refine vk_getf hx hb hv hS hown (hts (.fieldLink RJ0 9 "java/lang/String" "value" "[B") (List.mem_cons_of_mem _ (List.mem_of_getElem? (i := 0) rfl))) (fun _ h => h) dJ0_length_8abf5_1 ?_
  refine va_tlen hx hb hT hS (v := Int32.ofNat n) rfl dJ0_length_8abf5_4 ?_
  refine lv_aload_n hx hb dJ0_length_8abf5_5 rfl (lv_at hl 0 rfl) ?_
  have hFc := va_free (wc := []) hD hS hA [] rfl
  refine va_calli (va_runV (As := []) (rest := [.int (Int32.ofNat n)]) ⟨hx, hb, hml, hown, hts⟩ (f_J0_coder_7d493 l dC dI s.heap.size w n cs) (cwV 0 hts gJ0_length_8abf5_J0_coder_7d493 rfl rfl rfl zd_J0_coder_7d493 ⟨Nat.le_of_ble_eq_true rfl, Nat.le_of_ble_eq_true rfl⟩) ⟨ax_blind sxc_W_same, sxc_recv hE hS, ax_preE hP hK hD (fun U hU hW => sxc_W_to hE hS.2.1 hFc hU hW)⟩ rfl rfl hl.1 rfl (lv_room (Nat.le_of_ble_eq_true rfl)) dJ0_length_8abf5_6 ⟨Nat.le_of_ble_eq_true rfl, Nat.le_of_ble_eq_true rfl⟩) hS (fun q _ h => hFc q h) hFc (fun r6 u t H1 locs ht hvm hw hB hz1 hk1 hS => ?_)
  obtain ⟨hP1, hK1, hD1⟩ := hB
  rw [ht] at hP1
  generalize H1 = H at hP1 hS ⊢
  have hP : va_P (dC, dI) vwCl [] H := hP1
  have hw : r6 = 0 := hw
  subst hw
  refine lv_ishr hx hb dJ0_length_8abf5_9 ?_
  refine lv_topi (fun x9 ex9 => ?_)
  exact W.iret (v := x9) hx hb hr (fun t ht hW => ⟨⟨x9, (), rfl, ⟨⟨by rw [ex9]; exact sx_len hn, hn⟩, by rw [ex9]; exact sx_len hn⟩, by rw [ht]; exact hP, va_K.moved hW.alike hK, hD⟩, hS.F ht⟩) hS.2.2 dJ0_length_8abf5_10


set_option maxHeartbeats 4000000 in
set_option maxRecDepth 100000 in
theorem f_J1_charAt_3b067 (l : Launch) (dC : Nat → ClassId) (dI : Nat → Nat → Nat) (sz : Nat) (v n : Nat) (f : Nat → Int32) (i : Int32) (h0 : (0 : Int) ≤ i.toInt) (hk : i.toInt < (n : Int)) : Met l yJ1_charAt_3b067 wsJ1_charAt_3b067 ({ frames := 2, cells := 0, slots := 0, locals := 43 }) (va_Pc [.ref v, .int i] (ax_C dC dI sz [] [] (sx_V v n f (va_A [] sz)))) (va_Qi (fun (r : Int32) (_ : Unit) => narrow .char (.int r) = .int r ∧ r = ((f i.toNatClampNeg &&& 255).toUInt32 % 65536).toInt32) (fun (_ : Unit) (t : State) => ax_B dC dI (va_A [] sz) [] [] t) (va_A [] sz)) 0 0 (va_A [] sz) := by
  refine Met.ofW (cc := cJ1_charAt_3b067) (maxL := 2) (ret := (some .char)) (by decide) rfl ?_
  intro p e s m args below meth c s₁ B hml hv
  obtain ⟨rfl, hsz, hP, hK, hD0, hE⟩ := hv
  have hx := B.exec
  have hb := B.bytes
  have hr := B.returns
  have hts := atoms_spec (ws := wsJ1_charAt_3b067) B.pre
  have hown : s.vm.findClass RJ1 = some m.cls := findClass_of_methodNamed B.named
  have hlocks := B.notSynchronized
  subst hsz
  have hD := hD0.self (sz := s.heap.size)
  generalize hAe : va_A [] s.heap.size = A at hD hE ⊢
  have hA : ∀ q : Nat, s.heap.size ≤ q → A q := fun q h => by rw [← hAe]; exact Or.inr h
  have hS : va_S A s.heap s.heap [] := va_S.rf
  have hP : va_P (dC, dI) vwCl [] s.heap := hP
  have hl := lv_entry ([.ref v, .int i]) (n := 2) (Nat.le_of_ble_eq_true rfl)
  rw [lg_entry_eq]
  generalize (lg_sl ([.ref v, .int i]) ++ List.replicate (2 - (lg_sl ([.ref v, .int i])).length) Slot.unset).toArray = ls at hl ⊢
  have hl : lv_has ls 2 [(0, .ref v), (1, .int i)] := hl
  obtain ⟨hz, hn, hT⟩ := id hE
  refine lv_iload_n hx hb dJ1_charAt_3b067_0 rfl (lv_at hl 1 rfl) ?_
  refine lv_aload_n hx hb dJ1_charAt_3b067_1 rfl (lv_at hl 0 rfl) ?_
  refine va_tlen hx hb hT hS (v := Int32.ofNat n) rfl dJ1_charAt_3b067_2 ?_
  have hFc := va_free (wc := []) hD hS hA [] rfl
  refine va_callv (va_runS (As := [.int i, .int (Int32.ofNat n)]) (rest := []) ⟨hx, hb, hml, hown, hts⟩ (c_J0_checkIndex_df160 l dC dI s.heap.size i (Int32.ofNat n) h0 (by rw [sx_lt hn]; exact hk)) (va_cwS 2 hts gJ1_charAt_3b067_J0_checkIndex_df160 rfl rfl rfl zd_J0_checkIndex_df160.2 ⟨Nat.le_of_ble_eq_true rfl, Nat.le_of_ble_eq_true rfl⟩) ⟨ax_blind sx_Z_same, ax_preE hP hK hD (fun U hU hW => sx_Z_to hz hS.2.1 hFc hU hW)⟩ rfl rfl hl.1 rfl (lv_room (Nat.le_of_ble_eq_true rfl)) dJ1_charAt_3b067_3 ⟨Nat.le_of_ble_eq_true rfl, Nat.le_of_ble_eq_true rfl⟩) hS (fun q _ h => hFc q h) hFc (fun u t H1 locs ht hvm hw hB hz1 hk1 hS => ?_)
  obtain ⟨hP1, hK1, hD1⟩ := hB
  rw [ht] at hP1
  generalize H1 = H at hP1 hS ⊢
  have hP : va_P (dC, dI) vwCl [] H := hP1
  refine lv_aload_n hx hb dJ1_charAt_3b067_6 rfl (lv_at hl 0 rfl) ?_
  refine lv_iload_n hx hb dJ1_charAt_3b067_7 rfl (lv_at hl 1 rfl) ?_
  refine va_tb hx hb hT hS (vp_in_iff.mpr ⟨h0, hk⟩) (v := .int (f i.toNatClampNeg)) rfl dJ1_charAt_3b067_8 ?_
  refine lv_sipush (v := 255) hx hb dJ1_charAt_3b067_9 zk_sipush_255 ?_
  refine lv_iand hx hb dJ1_charAt_3b067_12 ?_
  refine lv_topi (fun x9 ex9 => ?_)
  refine lv_i2c (v := (x9.toUInt32 % 65536).toInt32) hx hb dJ1_charAt_3b067_13 rfl ?_
  exact W.zret (v := (x9.toUInt32 % 65536).toInt32) hx hb hr (pk_nc x9) (fun t ht hW => ⟨⟨(x9.toUInt32 % 65536).toInt32, (), rfl, ⟨pk_nc x9, by rw [ex9]⟩, by rw [ht]; exact hP, va_K.moved hW.alike hK, hD⟩, hS.F ht⟩) hS.2.2 dJ1_charAt_3b067_14


set_option maxHeartbeats 4000000 in
set_option maxRecDepth 100000 in
theorem f_J0_charAt_5068e (l : Launch) (dC : Nat → ClassId) (dI : Nat → Nat → Nat) (sz : Nat) (w n : Nat) (cs : Nat → Int32) (i : Int32) (h0 : (0 : Int) ≤ i.toInt) (hk : i.toInt < (n : Int)) : Met l yJ0_charAt_5068e wsJ0_charAt_5068e ({ frames := 3, cells := 0, slots := 0, locals := 64 }) (va_Pc [.ref w, .int i] (ax_C dC dI sz [] [] (sxc_W w n cs (va_A [] sz)))) (va_Qi (fun (r : Int32) (_ : Unit) => narrow .char (.int r) = .int r ∧ r.toInt = (cs i.toNatClampNeg).toInt) (fun (_ : Unit) (t : State) => ax_B dC dI (va_A [] sz) [] [] t) (va_A [] sz)) 0 0 (va_A [] sz) := by
  refine Met.ofW (cc := cJ0_charAt_5068e) (maxL := 2) (ret := (some .char)) (by decide) rfl ?_
  intro p e s m args below meth c s₁ B hml hv
  obtain ⟨rfl, hsz, hP, hK, hD0, hE⟩ := hv
  have hx := B.exec
  have hb := B.bytes
  have hr := B.returns
  have hts := atoms_spec (ws := wsJ0_charAt_5068e) B.pre
  have hown : s.vm.findClass RJ0 = some m.cls := findClass_of_methodNamed B.named
  have hlocks := B.notSynchronized
  subst hsz
  have hD := hD0.self (sz := s.heap.size)
  generalize hAe : va_A [] s.heap.size = A at hD hE ⊢
  have hA : ∀ q : Nat, s.heap.size ≤ q → A q := fun q h => by rw [← hAe]; exact Or.inr h
  have hS : va_S A s.heap s.heap [] := va_S.rf
  have hP : va_P (dC, dI) vwCl [] s.heap := hP
  have hl := lv_entry ([.ref w, .int i]) (n := 2) (Nat.le_of_ble_eq_true rfl)
  rw [lg_entry_eq]
  generalize (lg_sl ([.ref w, .int i]) ++ List.replicate (2 - (lg_sl ([.ref w, .int i])).length) Slot.unset).toArray = ls at hl ⊢
  have hl : lv_has ls 2 [(0, .ref w), (1, .int i)] := hl
  obtain ⟨hz, hn, hO, hco, hcb, v, hv, hT⟩ := id hE
  refine lv_aload_n hx hb dJ0_charAt_5068e_0 rfl (lv_at hl 0 rfl) ?_
  have hFc := va_free (wc := []) hD hS hA [] rfl
  refine va_calli (va_runV (As := []) (rest := []) ⟨hx, hb, hml, hown, hts⟩ (f_J0_isLatin1_aae02 l dC dI s.heap.size w n cs) (cwV 0 hts gJ0_charAt_5068e_J0_isLatin1_aae02 rfl rfl rfl zd_J0_isLatin1_aae02 ⟨Nat.le_of_ble_eq_true rfl, Nat.le_of_ble_eq_true rfl⟩) ⟨ax_blind sxc_W_same, sxc_recv hE hS, ax_preE hP hK hD (fun U hU hW => sxc_W_to hE hS.2.1 hFc hU hW)⟩ rfl rfl hl.1 rfl (lv_room (Nat.le_of_ble_eq_true rfl)) dJ0_charAt_5068e_1 ⟨Nat.le_of_ble_eq_true rfl, Nat.le_of_ble_eq_true rfl⟩) hS (fun q _ h => hFc q h) hFc (fun r1 u t H1 locs ht hvm hw hB hz1 hk1 hS => ?_)
  obtain ⟨hP1, hK1, hD1⟩ := hB
  rw [ht] at hP1
  generalize H1 = H at hP1 hS ⊢
  have hP : va_P (dC, dI) vwCl [] H := hP1
  have hw : r1 = 1 := hw
  subst hw
  refine lv_if_eq (tgt := 16) hx hb dJ0_charAt_5068e_4 (by decide) (fun c9 => absurd c9 (by decide +kernel)) (fun _ => ?_)
  refine lv_aload_n hx hb dJ0_charAt_5068e_7 rfl (lv_at hl 0 rfl) ?_
  refine vk_getf hx hb hv hS hown (hts (.fieldLink RJ0 9 "java/lang/String" "value" "[B") (zm_J0_charAt_5068e_r1 (List.mem_of_getElem? (i := 0) rfl))) (fun _ h => h) dJ0_charAt_5068e_8 ?_
  refine lv_iload_n hx hb dJ0_charAt_5068e_11 rfl (lv_at hl 1 rfl) ?_
  have hFc := va_free (wc := []) hD hS hA [] rfl
  refine va_calli (va_runS (As := [.ref v, .int i]) (rest := []) ⟨hx, hb, hml, hown, hts⟩ (f_J1_charAt_3b067 l dC dI H.size v n cs i h0 hk) (va_cwS 2 hts gJ0_charAt_5068e_J1_charAt_3b067 rfl rfl rfl zd_J1_charAt_3b067.2 ⟨Nat.le_of_ble_eq_true rfl, Nat.le_of_ble_eq_true rfl⟩) ⟨ax_blind sx_V_same, ax_preE hP hK hD (fun U hU hW => sx_V_to (⟨hz, hn, hT⟩ : sx_V v n cs A s) hS.2.1 hFc hU hW)⟩ rfl rfl hl.1 rfl (lv_room (Nat.le_of_ble_eq_true rfl)) dJ0_charAt_5068e_12 ⟨Nat.le_of_ble_eq_true rfl, Nat.le_of_ble_eq_true rfl⟩) hS (fun q _ h => hFc q h) hFc (fun r12 u t H1 locs ht hvm hw hB hz1 hk1 hS => ?_)
  obtain ⟨hP1, hK1, hD1⟩ := hB
  rw [ht] at hP1
  generalize H1 = H at hP1 hS ⊢
  have hP : va_P (dC, dI) vwCl [] H := hP1
  exact W.zret (v := r12) hx hb hr hw.1 (fun t ht hW => ⟨⟨r12, (), rfl, ⟨hw.1, by rw [hw.2]; exact congrArg Int32.toInt (sxc_ch (hcb _ (by have e9 : i.toNatClampNeg = i.toInt.toNat := rfl; omega)))⟩, by rw [ht]; exact hP, va_K.moved hW.alike hK, hD⟩, hS.F ht⟩) hS.2.2 dJ0_charAt_5068e_15


def sxc_T (ad : Nat → Nat) (A : Nat → Prop) (U : State) : Prop := (∀ i : Nat, i < 36 → sxc_W (ad i) (sx_ln.getD i 0) (sxc i) A U) ∧ vk_R RX3 98 "gallery" (ad 0) U ∧ vk_R RX3 110 "law" (ad 1) U ∧ vk_R RX3 112 "figure" (ad 2) U ∧ vk_R RX3 114 "watche\x72" (ad 3) U ∧ vk_R RX3 116 "seen" (ad 4) U ∧ vk_R RX3 151 "figures" (ad 5) U ∧ vk_R RX3 159 "span" (ad 6) U ∧ vk_R RX3 163 "stairs" (ad 7) U ∧ vk_R RX3 168 "shut" (ad 8) U ∧ vk_R RX3 172 "times" (ad 9) U ∧ vk_R RX3 176 "plus" (ad 10) U ∧ vk_R RX3 180 "first" (ad 11) U ∧ vk_R RX3 187 "is" (ad 12) U ∧ vk_R RX3 199 "walks" (ad 13) U ∧ vk_R RX3 201 "speaks" (ad 14) U ∧ vk_R RX3 207 "from" (ad 15) U ∧ vk_R RX3 209 "to" (ad 16) U ∧ vk_R RX3 215 "at" (ad 17) U ∧ vk_R RX8 128 "gallery" (ad 18) U ∧ vk_R RX8 130 "law" (ad 19) U ∧ vk_R RX8 132 "figure" (ad 20) U ∧ vk_R RX8 134 "watche\x72" (ad 21) U ∧ vk_R RX8 136 "seen" (ad 22) U ∧ vk_R RX8 201 "figures" (ad 23) U ∧ vk_R RX8 207 "span" (ad 24) U ∧ vk_R RX8 209 "stairs" (ad 25) U ∧ vk_R RX8 211 "shut" (ad 26) U ∧ vk_R RX8 213 "times" (ad 27) U ∧ vk_R RX8 218 "plus" (ad 28) U ∧ vk_R RX8 220 "first" (ad 29) U ∧ vk_R RX8 226 "is" (ad 30) U ∧ vk_R RX8 228 "walks" (ad 31) U ∧ vk_R RX8 230 "speaks" (ad 32) U ∧ vk_R RX8 232 "from" (ad 33) U ∧ vk_R RX8 233 "to" (ad 34) U ∧ vk_R RX8 234 "at" (ad 35) U
theorem sxc_T_w {ad : Nat → Nat} {A : Nat → Prop} {U : State} (h : sxc_T ad A U) {i : Nat} (hi : i < 36) : sxc_W (ad i) (sx_ln.getD i 0) (sxc i) A U := h.1 i hi
theorem sxc_R0 {ad : Nat → Nat} {A : Nat → Prop} {U : State} (h : sxc_T ad A U) : vk_R RX3 98 "gallery" (ad 0) U := h.2.1
theorem sxc_R1 {ad : Nat → Nat} {A : Nat → Prop} {U : State} (h : sxc_T ad A U) : vk_R RX3 110 "law" (ad 1) U := h.2.2.1
theorem sxc_R2 {ad : Nat → Nat} {A : Nat → Prop} {U : State} (h : sxc_T ad A U) : vk_R RX3 112 "figure" (ad 2) U := h.2.2.2.1
theorem sxc_R3 {ad : Nat → Nat} {A : Nat → Prop} {U : State} (h : sxc_T ad A U) : vk_R RX3 114 "watche\x72" (ad 3) U := h.2.2.2.2.1
theorem sxc_R4 {ad : Nat → Nat} {A : Nat → Prop} {U : State} (h : sxc_T ad A U) : vk_R RX3 116 "seen" (ad 4) U := h.2.2.2.2.2.1
theorem sxc_R5 {ad : Nat → Nat} {A : Nat → Prop} {U : State} (h : sxc_T ad A U) : vk_R RX3 151 "figures" (ad 5) U := h.2.2.2.2.2.2.1
theorem sxc_R6 {ad : Nat → Nat} {A : Nat → Prop} {U : State} (h : sxc_T ad A U) : vk_R RX3 159 "span" (ad 6) U := h.2.2.2.2.2.2.2.1
theorem sxc_R7 {ad : Nat → Nat} {A : Nat → Prop} {U : State} (h : sxc_T ad A U) : vk_R RX3 163 "stairs" (ad 7) U := h.2.2.2.2.2.2.2.2.1
theorem sxc_R8 {ad : Nat → Nat} {A : Nat → Prop} {U : State} (h : sxc_T ad A U) : vk_R RX3 168 "shut" (ad 8) U := h.2.2.2.2.2.2.2.2.2.1
theorem sxc_R9 {ad : Nat → Nat} {A : Nat → Prop} {U : State} (h : sxc_T ad A U) : vk_R RX3 172 "times" (ad 9) U := h.2.2.2.2.2.2.2.2.2.2.1
theorem sxc_R10 {ad : Nat → Nat} {A : Nat → Prop} {U : State} (h : sxc_T ad A U) : vk_R RX3 176 "plus" (ad 10) U := h.2.2.2.2.2.2.2.2.2.2.2.1
theorem sxc_R11 {ad : Nat → Nat} {A : Nat → Prop} {U : State} (h : sxc_T ad A U) : vk_R RX3 180 "first" (ad 11) U := h.2.2.2.2.2.2.2.2.2.2.2.2.1
theorem sxc_R12 {ad : Nat → Nat} {A : Nat → Prop} {U : State} (h : sxc_T ad A U) : vk_R RX3 187 "is" (ad 12) U := h.2.2.2.2.2.2.2.2.2.2.2.2.2.1
theorem sxc_R13 {ad : Nat → Nat} {A : Nat → Prop} {U : State} (h : sxc_T ad A U) : vk_R RX3 199 "walks" (ad 13) U := h.2.2.2.2.2.2.2.2.2.2.2.2.2.2.1
theorem sxc_R14 {ad : Nat → Nat} {A : Nat → Prop} {U : State} (h : sxc_T ad A U) : vk_R RX3 201 "speaks" (ad 14) U := h.2.2.2.2.2.2.2.2.2.2.2.2.2.2.2.1
theorem sxc_R15 {ad : Nat → Nat} {A : Nat → Prop} {U : State} (h : sxc_T ad A U) : vk_R RX3 207 "from" (ad 15) U := h.2.2.2.2.2.2.2.2.2.2.2.2.2.2.2.2.1
theorem sxc_R16 {ad : Nat → Nat} {A : Nat → Prop} {U : State} (h : sxc_T ad A U) : vk_R RX3 209 "to" (ad 16) U := h.2.2.2.2.2.2.2.2.2.2.2.2.2.2.2.2.2.1
theorem sxc_R17 {ad : Nat → Nat} {A : Nat → Prop} {U : State} (h : sxc_T ad A U) : vk_R RX3 215 "at" (ad 17) U := h.2.2.2.2.2.2.2.2.2.2.2.2.2.2.2.2.2.2.1
theorem sxc_R18 {ad : Nat → Nat} {A : Nat → Prop} {U : State} (h : sxc_T ad A U) : vk_R RX8 128 "gallery" (ad 18) U := h.2.2.2.2.2.2.2.2.2.2.2.2.2.2.2.2.2.2.2.1
theorem sxc_R19 {ad : Nat → Nat} {A : Nat → Prop} {U : State} (h : sxc_T ad A U) : vk_R RX8 130 "law" (ad 19) U := h.2.2.2.2.2.2.2.2.2.2.2.2.2.2.2.2.2.2.2.2.1
theorem sxc_R20 {ad : Nat → Nat} {A : Nat → Prop} {U : State} (h : sxc_T ad A U) : vk_R RX8 132 "figure" (ad 20) U := h.2.2.2.2.2.2.2.2.2.2.2.2.2.2.2.2.2.2.2.2.2.1
theorem sxc_R21 {ad : Nat → Nat} {A : Nat → Prop} {U : State} (h : sxc_T ad A U) : vk_R RX8 134 "watche\x72" (ad 21) U := h.2.2.2.2.2.2.2.2.2.2.2.2.2.2.2.2.2.2.2.2.2.2.1
theorem sxc_R22 {ad : Nat → Nat} {A : Nat → Prop} {U : State} (h : sxc_T ad A U) : vk_R RX8 136 "seen" (ad 22) U := h.2.2.2.2.2.2.2.2.2.2.2.2.2.2.2.2.2.2.2.2.2.2.2.1
theorem sxc_R23 {ad : Nat → Nat} {A : Nat → Prop} {U : State} (h : sxc_T ad A U) : vk_R RX8 201 "figures" (ad 23) U := h.2.2.2.2.2.2.2.2.2.2.2.2.2.2.2.2.2.2.2.2.2.2.2.2.1
theorem sxc_R24 {ad : Nat → Nat} {A : Nat → Prop} {U : State} (h : sxc_T ad A U) : vk_R RX8 207 "span" (ad 24) U := h.2.2.2.2.2.2.2.2.2.2.2.2.2.2.2.2.2.2.2.2.2.2.2.2.2.1
theorem sxc_R25 {ad : Nat → Nat} {A : Nat → Prop} {U : State} (h : sxc_T ad A U) : vk_R RX8 209 "stairs" (ad 25) U := h.2.2.2.2.2.2.2.2.2.2.2.2.2.2.2.2.2.2.2.2.2.2.2.2.2.2.1
theorem sxc_R26 {ad : Nat → Nat} {A : Nat → Prop} {U : State} (h : sxc_T ad A U) : vk_R RX8 211 "shut" (ad 26) U := h.2.2.2.2.2.2.2.2.2.2.2.2.2.2.2.2.2.2.2.2.2.2.2.2.2.2.2.1
theorem sxc_R27 {ad : Nat → Nat} {A : Nat → Prop} {U : State} (h : sxc_T ad A U) : vk_R RX8 213 "times" (ad 27) U := h.2.2.2.2.2.2.2.2.2.2.2.2.2.2.2.2.2.2.2.2.2.2.2.2.2.2.2.2.1
theorem sxc_R28 {ad : Nat → Nat} {A : Nat → Prop} {U : State} (h : sxc_T ad A U) : vk_R RX8 218 "plus" (ad 28) U := h.2.2.2.2.2.2.2.2.2.2.2.2.2.2.2.2.2.2.2.2.2.2.2.2.2.2.2.2.2.1
theorem sxc_R29 {ad : Nat → Nat} {A : Nat → Prop} {U : State} (h : sxc_T ad A U) : vk_R RX8 220 "first" (ad 29) U := h.2.2.2.2.2.2.2.2.2.2.2.2.2.2.2.2.2.2.2.2.2.2.2.2.2.2.2.2.2.2.1
theorem sxc_R30 {ad : Nat → Nat} {A : Nat → Prop} {U : State} (h : sxc_T ad A U) : vk_R RX8 226 "is" (ad 30) U := h.2.2.2.2.2.2.2.2.2.2.2.2.2.2.2.2.2.2.2.2.2.2.2.2.2.2.2.2.2.2.2.1
theorem sxc_R31 {ad : Nat → Nat} {A : Nat → Prop} {U : State} (h : sxc_T ad A U) : vk_R RX8 228 "walks" (ad 31) U := h.2.2.2.2.2.2.2.2.2.2.2.2.2.2.2.2.2.2.2.2.2.2.2.2.2.2.2.2.2.2.2.2.1
theorem sxc_R32 {ad : Nat → Nat} {A : Nat → Prop} {U : State} (h : sxc_T ad A U) : vk_R RX8 230 "speaks" (ad 32) U := h.2.2.2.2.2.2.2.2.2.2.2.2.2.2.2.2.2.2.2.2.2.2.2.2.2.2.2.2.2.2.2.2.2.1
theorem sxc_R33 {ad : Nat → Nat} {A : Nat → Prop} {U : State} (h : sxc_T ad A U) : vk_R RX8 232 "from" (ad 33) U := h.2.2.2.2.2.2.2.2.2.2.2.2.2.2.2.2.2.2.2.2.2.2.2.2.2.2.2.2.2.2.2.2.2.2.1
theorem sxc_R34 {ad : Nat → Nat} {A : Nat → Prop} {U : State} (h : sxc_T ad A U) : vk_R RX8 233 "to" (ad 34) U := h.2.2.2.2.2.2.2.2.2.2.2.2.2.2.2.2.2.2.2.2.2.2.2.2.2.2.2.2.2.2.2.2.2.2.2.1
theorem sxc_R35 {ad : Nat → Nat} {A : Nat → Prop} {U : State} (h : sxc_T ad A U) : vk_R RX8 234 "at" (ad 35) U := h.2.2.2.2.2.2.2.2.2.2.2.2.2.2.2.2.2.2.2.2.2.2.2.2.2.2.2.2.2.2.2.2.2.2.2.2
theorem sxc_T_t {ad : Nat → Nat} {A : Nat → Prop} {U : State} (h : sxc_T ad A U) : sx_T ad A U := ⟨fun i hi => sxc_W_w (h.1 i hi), h.2⟩
theorem sxc_T_same {ad : Nat → Nat} {A : Nat → Prop} (a : Array Value) (U : State) (g : JFrame) (mk : MethodId) (h : sxc_T ad A U) : sxc_T ad A (U.calling g mk a) := ⟨fun i hi => sxc_W_same a U g mk (h.1 i hi), vk_R.same rfl (h.2.1), vk_R.same rfl (h.2.2.1), vk_R.same rfl (h.2.2.2.1), vk_R.same rfl (h.2.2.2.2.1), vk_R.same rfl (h.2.2.2.2.2.1), vk_R.same rfl (h.2.2.2.2.2.2.1), vk_R.same rfl (h.2.2.2.2.2.2.2.1), vk_R.same rfl (h.2.2.2.2.2.2.2.2.1), vk_R.same rfl (h.2.2.2.2.2.2.2.2.2.1), vk_R.same rfl (h.2.2.2.2.2.2.2.2.2.2.1), vk_R.same rfl (h.2.2.2.2.2.2.2.2.2.2.2.1), vk_R.same rfl (h.2.2.2.2.2.2.2.2.2.2.2.2.1), vk_R.same rfl (h.2.2.2.2.2.2.2.2.2.2.2.2.2.1), vk_R.same rfl (h.2.2.2.2.2.2.2.2.2.2.2.2.2.2.1), vk_R.same rfl (h.2.2.2.2.2.2.2.2.2.2.2.2.2.2.2.1), vk_R.same rfl (h.2.2.2.2.2.2.2.2.2.2.2.2.2.2.2.2.1), vk_R.same rfl (h.2.2.2.2.2.2.2.2.2.2.2.2.2.2.2.2.2.1), vk_R.same rfl (h.2.2.2.2.2.2.2.2.2.2.2.2.2.2.2.2.2.2.1), vk_R.same rfl (h.2.2.2.2.2.2.2.2.2.2.2.2.2.2.2.2.2.2.2.1), vk_R.same rfl (h.2.2.2.2.2.2.2.2.2.2.2.2.2.2.2.2.2.2.2.2.1), vk_R.same rfl (h.2.2.2.2.2.2.2.2.2.2.2.2.2.2.2.2.2.2.2.2.2.1), vk_R.same rfl (h.2.2.2.2.2.2.2.2.2.2.2.2.2.2.2.2.2.2.2.2.2.2.1), vk_R.same rfl (h.2.2.2.2.2.2.2.2.2.2.2.2.2.2.2.2.2.2.2.2.2.2.2.1), vk_R.same rfl (h.2.2.2.2.2.2.2.2.2.2.2.2.2.2.2.2.2.2.2.2.2.2.2.2.1), vk_R.same rfl (h.2.2.2.2.2.2.2.2.2.2.2.2.2.2.2.2.2.2.2.2.2.2.2.2.2.1), vk_R.same rfl (h.2.2.2.2.2.2.2.2.2.2.2.2.2.2.2.2.2.2.2.2.2.2.2.2.2.2.1), vk_R.same rfl (h.2.2.2.2.2.2.2.2.2.2.2.2.2.2.2.2.2.2.2.2.2.2.2.2.2.2.2.1), vk_R.same rfl (h.2.2.2.2.2.2.2.2.2.2.2.2.2.2.2.2.2.2.2.2.2.2.2.2.2.2.2.2.1), vk_R.same rfl (h.2.2.2.2.2.2.2.2.2.2.2.2.2.2.2.2.2.2.2.2.2.2.2.2.2.2.2.2.2.1), vk_R.same rfl (h.2.2.2.2.2.2.2.2.2.2.2.2.2.2.2.2.2.2.2.2.2.2.2.2.2.2.2.2.2.2.1), vk_R.same rfl (h.2.2.2.2.2.2.2.2.2.2.2.2.2.2.2.2.2.2.2.2.2.2.2.2.2.2.2.2.2.2.2.1), vk_R.same rfl (h.2.2.2.2.2.2.2.2.2.2.2.2.2.2.2.2.2.2.2.2.2.2.2.2.2.2.2.2.2.2.2.2.1), vk_R.same rfl (h.2.2.2.2.2.2.2.2.2.2.2.2.2.2.2.2.2.2.2.2.2.2.2.2.2.2.2.2.2.2.2.2.2.1), vk_R.same rfl (h.2.2.2.2.2.2.2.2.2.2.2.2.2.2.2.2.2.2.2.2.2.2.2.2.2.2.2.2.2.2.2.2.2.2.1), vk_R.same rfl (h.2.2.2.2.2.2.2.2.2.2.2.2.2.2.2.2.2.2.2.2.2.2.2.2.2.2.2.2.2.2.2.2.2.2.2.1), vk_R.same rfl (h.2.2.2.2.2.2.2.2.2.2.2.2.2.2.2.2.2.2.2.2.2.2.2.2.2.2.2.2.2.2.2.2.2.2.2.2)⟩
theorem sxc_T_to {ad : Nat → Nat} {A B : Nat → Prop} {s U : State} {H : Heap} (h : sxc_T ad A s) (hq : ∀ a : Nat, a < s.heap.size → ¬ A a → H[a]? = s.heap[a]?) (hAB : ∀ q, B q → A q) (hU : U.heap = H) (hW : s.WarmedH U.vm) : sxc_T ad B U := ⟨fun i hi => sxc_W_to (h.1 i hi) hq hAB hU hW, vk_R.warm hW (h.2.1), vk_R.warm hW (h.2.2.1), vk_R.warm hW (h.2.2.2.1), vk_R.warm hW (h.2.2.2.2.1), vk_R.warm hW (h.2.2.2.2.2.1), vk_R.warm hW (h.2.2.2.2.2.2.1), vk_R.warm hW (h.2.2.2.2.2.2.2.1), vk_R.warm hW (h.2.2.2.2.2.2.2.2.1), vk_R.warm hW (h.2.2.2.2.2.2.2.2.2.1), vk_R.warm hW (h.2.2.2.2.2.2.2.2.2.2.1), vk_R.warm hW (h.2.2.2.2.2.2.2.2.2.2.2.1), vk_R.warm hW (h.2.2.2.2.2.2.2.2.2.2.2.2.1), vk_R.warm hW (h.2.2.2.2.2.2.2.2.2.2.2.2.2.1), vk_R.warm hW (h.2.2.2.2.2.2.2.2.2.2.2.2.2.2.1), vk_R.warm hW (h.2.2.2.2.2.2.2.2.2.2.2.2.2.2.2.1), vk_R.warm hW (h.2.2.2.2.2.2.2.2.2.2.2.2.2.2.2.2.1), vk_R.warm hW (h.2.2.2.2.2.2.2.2.2.2.2.2.2.2.2.2.2.1), vk_R.warm hW (h.2.2.2.2.2.2.2.2.2.2.2.2.2.2.2.2.2.2.1), vk_R.warm hW (h.2.2.2.2.2.2.2.2.2.2.2.2.2.2.2.2.2.2.2.1), vk_R.warm hW (h.2.2.2.2.2.2.2.2.2.2.2.2.2.2.2.2.2.2.2.2.1), vk_R.warm hW (h.2.2.2.2.2.2.2.2.2.2.2.2.2.2.2.2.2.2.2.2.2.1), vk_R.warm hW (h.2.2.2.2.2.2.2.2.2.2.2.2.2.2.2.2.2.2.2.2.2.2.1), vk_R.warm hW (h.2.2.2.2.2.2.2.2.2.2.2.2.2.2.2.2.2.2.2.2.2.2.2.1), vk_R.warm hW (h.2.2.2.2.2.2.2.2.2.2.2.2.2.2.2.2.2.2.2.2.2.2.2.2.1), vk_R.warm hW (h.2.2.2.2.2.2.2.2.2.2.2.2.2.2.2.2.2.2.2.2.2.2.2.2.2.1), vk_R.warm hW (h.2.2.2.2.2.2.2.2.2.2.2.2.2.2.2.2.2.2.2.2.2.2.2.2.2.2.1), vk_R.warm hW (h.2.2.2.2.2.2.2.2.2.2.2.2.2.2.2.2.2.2.2.2.2.2.2.2.2.2.2.1), vk_R.warm hW (h.2.2.2.2.2.2.2.2.2.2.2.2.2.2.2.2.2.2.2.2.2.2.2.2.2.2.2.2.1), vk_R.warm hW (h.2.2.2.2.2.2.2.2.2.2.2.2.2.2.2.2.2.2.2.2.2.2.2.2.2.2.2.2.2.1), vk_R.warm hW (h.2.2.2.2.2.2.2.2.2.2.2.2.2.2.2.2.2.2.2.2.2.2.2.2.2.2.2.2.2.2.1), vk_R.warm hW (h.2.2.2.2.2.2.2.2.2.2.2.2.2.2.2.2.2.2.2.2.2.2.2.2.2.2.2.2.2.2.2.1), vk_R.warm hW (h.2.2.2.2.2.2.2.2.2.2.2.2.2.2.2.2.2.2.2.2.2.2.2.2.2.2.2.2.2.2.2.2.1), vk_R.warm hW (h.2.2.2.2.2.2.2.2.2.2.2.2.2.2.2.2.2.2.2.2.2.2.2.2.2.2.2.2.2.2.2.2.2.1), vk_R.warm hW (h.2.2.2.2.2.2.2.2.2.2.2.2.2.2.2.2.2.2.2.2.2.2.2.2.2.2.2.2.2.2.2.2.2.2.1), vk_R.warm hW (h.2.2.2.2.2.2.2.2.2.2.2.2.2.2.2.2.2.2.2.2.2.2.2.2.2.2.2.2.2.2.2.2.2.2.2.1), vk_R.warm hW (h.2.2.2.2.2.2.2.2.2.2.2.2.2.2.2.2.2.2.2.2.2.2.2.2.2.2.2.2.2.2.2.2.2.2.2.2)⟩
end SXC
