section P222_sxc
section SXC
def sxc_W (w n : Nat) (cs : Nat → Int32) (A : Nat → Prop) (U : State) : Prop := sx_Z A U ∧ n ≤ 8 ∧ va_O "java/lang/String" w A U U.heap ∧ va_OF "java/lang/String" "code\x72" "B" (.int 0) w A U U.heap ∧ (∀ j : Nat, j < n → (0 : Int) ≤ (cs j).toInt ∧ (cs j).toInt ≤ 127) ∧ ∃ v : Nat, va_OF "java/lang/String" "value" "[B" (.ref v) w A U U.heap ∧ va_T .byte v n (fun j => .int (cs j)) A U U.heap
theorem sxc_W_w {w n : Nat} {cs : Nat → Int32} {A : Nat → Prop} {U : State} (h : sxc_W w n cs A U) : sx_W w n A U := by
  obtain ⟨h1, h2, h3, h4, _, v, h5, h6⟩ := h
  exact ⟨h1, h2, h3, h4, v, cs, h5, h6⟩
theorem sxc_W_same {w n : Nat} {cs : Nat → Int32} {A : Nat → Prop} (a : Array Value) (U : State) (g : JFrame) (mk : MethodId) (h : sxc_W w n cs A U) : sxc_W w n cs A (U.calling g mk a) := by
  obtain ⟨h1, h2, h3, h4, h7, v, h5, h6⟩ := h
  exact ⟨sx_Z_same a U g mk h1, h2, va_O.moved (u := U) (U := U.calling g mk a) (Vm.Alike.refl U.vm) h3, va_OF.moved (u := U) (U := U.calling g mk a) (Vm.Alike.refl U.vm) h4, h7, v, va_OF.moved (u := U) (U := U.calling g mk a) (Vm.Alike.refl U.vm) h5, va_T.moved (u := U) (U := U.calling g mk a) (Vm.Alike.refl U.vm) h6⟩
theorem sxc_W_to {w n : Nat} {cs : Nat → Int32} {A B : Nat → Prop} {s U : State} {H : Heap} (h : sxc_W w n cs A s) (hq : ∀ a : Nat, a < s.heap.size → ¬ A a → H[a]? = s.heap[a]?) (hAB : ∀ q, B q → A q) (hU : U.heap = H) (hW : s.WarmedH U.vm) : sxc_W w n cs B U := by
  obtain ⟨h1, h2, h3, h4, h7, v, h5, h6⟩ := h
  refine ⟨sx_Z_to h1 hq hAB hU hW, h2, ?_⟩
  subst hU
  exact ⟨((h3.kept hq).moved hW.alike).narrow hAB, ((h4.kept hq).moved hW.alike).narrow hAB, h7, v, ((h5.kept hq).moved hW.alike).narrow hAB, ((h6.kept hq).moved hW.alike).narrow hAB⟩
theorem sxc_recv {w n : Nat} {cs : Nat → Int32} {A : Nat → Prop} {s : State} {H : Heap} {locs : List Loc} (h : sxc_W w n cs A s) (hS : va_S A s.heap H locs) : ∃ cell : Cell, H[w]? = some cell ∧ cell.vm.isStatics = false ∧ s.vm.findClass "java/lang/String" = some cell.cls := sx_recv (sxc_W_w h) hS
theorem sxc_ch {x : Int32} (h : (0 : Int) ≤ x.toInt ∧ x.toInt ≤ 127) : ((x &&& 255).toUInt32 % 65536).toInt32 = x := by
  have q : ∀ k : Fin 128, (((Int32.ofNat k.val) &&& 255).toUInt32 % 65536).toInt32 = Int32.ofNat k.val := by decide
  have h1 := q ⟨x.toInt.toNat, by omega⟩
  have h2 : Int32.ofNat x.toInt.toNat = x := by
    apply Int32.toInt_inj.mp
    exact (show (Int32.ofNat x.toInt.toNat).toInt = ((x.toInt.toNat : Nat) : Int) from nI_toInt (by omega)).trans (by omega)
  simp only [h2] at h1
  exact h1
set_option maxHeartbeats 4000000 in
set_option maxRecDepth 100000 in
theorem f_J0_coder_7d493 (l : Launch) (dC : Nat → ClassId) (dI : Nat → Nat → Nat) (sz : Nat) (w n : Nat) (cs : Nat → Int32)  : Met l yJ0_coder_7d493 wsJ0_coder_7d493 ({ frames := 0, cells := 0, slots := 0, locals := 0 }) (va_Pc [.ref w] (ax_C dC dI sz [] [] (sxc_W w n cs (va_A [] sz)))) (va_Qi (fun (r : Int32) (_ : Unit) => r = 0) (fun (_ : Unit) (t : State) => ax_B dC dI (va_A [] sz) [] [] t) (va_A [] sz)) 0 0 (va_A [] sz) := by
  refine Met.ofW (cc := cJ0_coder_7d493) (maxL := 1) (ret := (some .byte)) (by decide) rfl ?_
  intro p e s m args below meth c s₁ B hml hv
  obtain ⟨rfl, hsz, hP, hK, hD0, hE⟩ := hv
  have hx := B.exec
  have hb := B.bytes
  have hr := B.returns
  have hts := atoms_spec (ws := wsJ0_coder_7d493) B.pre
  have hown : s.vm.findClass RJ0 = some m.cls := findClass_of_methodNamed B.named
  have hlocks := B.notSynchronized
  subst hsz
  have hD := hD0.self (sz := s.heap.size)
  generalize hAe : va_A [] s.heap.size = A at hD hE ⊢
  have hA : ∀ q : Nat, s.heap.size ≤ q → A q := fun q h => by rw [← hAe]; exact Or.inr h
  have hS : va_S A s.heap s.heap [] := va_S.rf
  have hP : va_P (dC, dI) vwCl [] s.heap := hP
  have hl := lv_entry ([.ref w]) (n := 1) (Nat.le_of_ble_eq_true rfl)
  rw [lg_entry_eq]
  generalize (lg_sl ([.ref w]) ++ List.replicate (1 - (lg_sl ([.ref w])).length) Slot.unset).toArray = ls at hl ⊢
  have hl : lv_has ls 1 [(0, .ref w)] := hl
  obtain ⟨hz, hn, hO, hco, hcb, v, hv, hT⟩ := id hE
  refine va_gets hx hb hz.1 hS hown (hts (.fieldLink RJ0 38 "java/lang/String" "COMPACT_STRINGS" "Z") (List.mem_cons_of_mem _ (List.mem_of_getElem? (i := 0) rfl))) (fun _ h => h) dJ0_coder_7d493_0 ?_
  refine lv_if_eq (tgt := 13) hx hb dJ0_coder_7d493_3 (by decide) (fun c9 => absurd c9 (by decide +kernel)) (fun _ => ?_)
  refine lv_aload_n hx hb dJ0_coder_7d493_6 rfl (lv_at hl 0 rfl) ?_
  refine vk_getf hx hb hco hS hown (hts (.fieldLink RJ0 15 "java/lang/String" "code\x72" "B") (List.mem_cons_of_mem _ (List.mem_of_getElem? (i := 1) rfl))) (fun _ h => h) dJ0_coder_7d493_7 ?_
  refine lv_goto (tgt := 14) hx hb dJ0_coder_7d493_10 (by decide) ?_
  exact W.zret (v := 0) hx hb hr rfl (fun t ht hW => ⟨⟨0, (), rfl, rfl, by rw [ht]; exact hP, va_K.moved hW.alike hK, hD⟩, hS.F ht⟩) hS.2.2 dJ0_coder_7d493_14


set_option maxHeartbeats 4000000 in
set_option maxRecDepth 100000 in
theorem f_J0_isLatin1_aae02 (l : Launch) (dC : Nat → ClassId) (dI : Nat → Nat → Nat) (sz : Nat) (w n : Nat) (cs : Nat → Int32)  : Met l yJ0_isLatin1_aae02 wsJ0_isLatin1_aae02 ({ frames := 0, cells := 0, slots := 0, locals := 0 }) (va_Pc [.ref w] (ax_C dC dI sz [] [] (sxc_W w n cs (va_A [] sz)))) (va_Qi (fun (r : Int32) (_ : Unit) => r = 1) (fun (_ : Unit) (t : State) => ax_B dC dI (va_A [] sz) [] [] t) (va_A [] sz)) 0 0 (va_A [] sz) := by
  refine Met.ofW (cc := cJ0_isLatin1_aae02) (maxL := 1) (ret := (some .boolean)) (by decide) rfl ?_
  intro p e s m args below meth c s₁ B hml hv
  obtain ⟨rfl, hsz, hP, hK, hD0, hE⟩ := hv
  have hx := B.exec
  have hb := B.bytes
  have hr := B.returns
  have hts := atoms_spec (ws := wsJ0_isLatin1_aae02) B.pre
  have hown : s.vm.findClass RJ0 = some m.cls := findClass_of_methodNamed B.named
  have hlocks := B.notSynchronized
  subst hsz
  have hD := hD0.self (sz := s.heap.size)
  generalize hAe : va_A [] s.heap.size = A at hD hE ⊢
  have hA : ∀ q : Nat, s.heap.size ≤ q → A q := fun q h => by rw [← hAe]; exact Or.inr h
  have hS : va_S A s.heap s.heap [] := va_S.rf
  have hP : va_P (dC, dI) vwCl [] s.heap := hP
  have hl := lv_entry ([.ref w]) (n := 1) (Nat.le_of_ble_eq_true rfl)
  rw [lg_entry_eq]
  generalize (lg_sl ([.ref w]) ++ List.replicate (1 - (lg_sl ([.ref w])).length) Slot.unset).toArray = ls at hl ⊢
  have hl : lv_has ls 1 [(0, .ref w)] := hl
  obtain ⟨hz, hn, hO, hco, hcb, v, hv, hT⟩ := id hE
  refine va_gets hx hb hz.1 hS hown (hts (.fieldLink RJ0 38 "java/lang/String" "COMPACT_STRINGS" "Z") (List.mem_cons_of_mem _ (List.mem_of_getElem? (i := 0) rfl))) (fun _ h => h) dJ0_isLatin1_aae02_0 ?_
  refine lv_if_eq (tgt := 17) hx hb dJ0_isLatin1_aae02_3 (by decide) (fun c9 => absurd c9 (by decide +kernel)) (fun _ => ?_)
  refine lv_aload_n hx hb dJ0_isLatin1_aae02_6 rfl (lv_at hl 0 rfl) ?_
  refine vk_getf hx hb hco hS hown (hts (.fieldLink RJ0 15 "java/lang/String" "code\x72" "B") (List.mem_cons_of_mem _ (List.mem_of_getElem? (i := 1) rfl))) (fun _ h => h) dJ0_isLatin1_aae02_7 ?_
  refine lv_if_ne (tgt := 17) hx hb dJ0_isLatin1_aae02_10 (by decide) (fun c9 => absurd (by decide +kernel) c9) (fun _ => ?_)
  refine lv_iconst (v := 1) hx hb dJ0_isLatin1_aae02_13 zk_iconst_1 ?_
  refine lv_goto (tgt := 18) hx hb dJ0_isLatin1_aae02_14 (by decide) ?_
  exact W.zret (v := 1) hx hb hr rfl (fun t ht hW => ⟨⟨1, (), rfl, rfl, by rw [ht]; exact hP, va_K.moved hW.alike hK, hD⟩, hS.F ht⟩) hS.2.2 dJ0_isLatin1_aae02_18


set_option maxHeartbeats 4000000 in
set_option maxRecDepth 100000 in
theorem f_J0_length_8abf5 (l : Launch) (dC : Nat → ClassId) (dI : Nat → Nat → Nat) (sz : Nat) (w n : Nat) (cs : Nat → Int32)  : Met l yJ0_length_8abf5 wsJ0_length_8abf5 ({ frames := 1, cells := 0, slots := 0, locals := 20 }) (va_Pc [.ref w] (ax_C dC dI sz [] [] (sxc_W w n cs (va_A [] sz)))) (va_Qi (fun (r : Int32) (_ : Unit) => (r.toInt = (n : Int) ∧ n ≤ 8) ∧ r.toInt = (n : Int)) (fun (_ : Unit) (t : State) => ax_B dC dI (va_A [] sz) [] [] t) (va_A [] sz)) 0 0 (va_A [] sz) := by
  refine Met.ofW (cc := cJ0_length_8abf5) (maxL := 1) (ret := (some .int)) (by decide) rfl ?_
  intro p e s m args below meth c s₁ B hml hv
  obtain ⟨rfl, hsz, hP, hK, hD0, hE⟩ := hv
  have hx := B.exec
  have hb := B.bytes
  have hr := B.returns
  have hts := atoms_spec (ws := wsJ0_length_8abf5) B.pre
  have hown : s.vm.findClass RJ0 = some m.cls := findClass_of_methodNamed B.named
  have hlocks := B.notSynchronized
  subst hsz
  have hD := hD0.self (sz := s.heap.size)
  generalize hAe : va_A [] s.heap.size = A at hD hE ⊢
  have hA : ∀ q : Nat, s.heap.size ≤ q → A q := fun q h => by rw [← hAe]; exact Or.inr h
  have hS : va_S A s.heap s.heap [] := va_S.rf
  have hP : va_P (dC, dI) vwCl [] s.heap := hP
  have hl := lv_entry ([.ref w]) (n := 1) (Nat.le_of_ble_eq_true rfl)
  rw [lg_entry_eq]
  generalize (lg_sl ([.ref w]) ++ List.replicate (1 - (lg_sl ([.ref w])).length) Slot.unset).toArray = ls at hl ⊢
  have hl : lv_has ls 1 [(0, .ref w)] := hl
  obtain ⟨hz, hn, hO, hco, hcb, v, hv, hT⟩ := id hE
  refine lv_aload_n hx hb dJ0_length_8abf5_0 rfl (lv_at hl 0 rfl) ?_
  refine vk_getf hx hb hv hS hown (hts (.fieldLink RJ0 9 "java/lang/String" "value" "[B") (List.mem_cons_of_mem _ (List.mem_of_getElem? (i := 0) rfl))) (fun _ h => h) dJ0_length_8abf5_1 ?_
  refine va_tlen hx hb hT hS (v := Int32.ofNat n) rfl dJ0_length_8abf5_4 ?_
  refine lv_aload_n hx hb dJ0_length_8abf5_5 rfl (lv_at hl 0 rfl) ?_
  have hFc := va_free (wc := []) hD hS hA [] rfl
  refine va_calli (va_runV (As := []) (rest := [.int (Int32.ofNat n)]) ⟨hx, hb, hml, hown, hts⟩ (f_J0_coder_7d493 l dC dI s.heap.size w n cs) (cwV 0 hts gJ0_length_8abf5_J0_coder_7d493 rfl rfl rfl zd_J0_coder_7d493 ⟨Nat.le_of_ble_eq_true rfl, Nat.le_of_ble_eq_true rfl⟩) ⟨ax_blind sxc_W_same, sxc_recv hE hS, ax_preE hP hK hD (fun U hU hW => sxc_W_to hE hS.2.1 hFc hU hW)⟩ rfl rfl hl.1 rfl (lv_room (Nat.le_of_ble_eq_true rfl)) dJ0_length_8abf5_6 ⟨Nat.le_of_ble_eq_true rfl, Nat.le_of_ble_eq_true rfl⟩) hS (fun q _ h => hFc q h) hFc (fun r6 u t H1 locs ht hvm hw hB hz1 hk1 hS => ?_)
  obtain ⟨hP1, hK1, hD1⟩ := hB
  rw [ht] at hP1
  generalize H1 = H at hP1 hS ⊢
  have hP : va_P (dC, dI) vwCl [] H := hP1
  have hw : r6 = 0 := hw
  subst hw
  refine lv_ishr hx hb dJ0_length_8abf5_9 ?_
  refine lv_topi (fun x9 ex9 => ?_)
  exact W.iret (v := x9) hx hb hr (fun t ht hW => ⟨⟨x9, (), rfl, ⟨⟨by rw [ex9]; exact sx_len hn, hn⟩, by rw [ex9]; exact sx_len hn⟩, by rw [ht]; exact hP, va_K.moved hW.alike hK, hD⟩, hS.F ht⟩) hS.2.2 dJ0_length_8abf5_10


set_option maxHeartbeats 4000000 in
set_option maxRecDepth 100000 in
theorem f_J1_charAt_3b067 (l : Launch) (dC : Nat → ClassId) (dI : Nat → Nat → Nat) (sz : Nat) (v n : Nat) (f : Nat → Int32) (i : Int32) (h0 : (0 : Int) ≤ i.toInt) (hk : i.toInt < (n : Int)) : Met l yJ1_charAt_3b067 wsJ1_charAt_3b067 ({ frames := 2, cells := 0, slots := 0, locals := 43 }) (va_Pc [.ref v, .int i] (ax_C dC dI sz [] [] (sx_V v n f (va_A [] sz)))) (va_Qi (fun (r : Int32) (_ : Unit) => narrow .char (.int r) = .int r ∧ r = ((f i.toNatClampNeg &&& 255).toUInt32 % 65536).toInt32) (fun (_ : Unit) (t : State) => ax_B dC dI (va_A [] sz) [] [] t) (va_A [] sz)) 0 0 (va_A [] sz) := by
  refine Met.ofW (cc := cJ1_charAt_3b067) (maxL := 2) (ret := (some .char)) (by decide) rfl ?_
  intro p e s m args below meth c s₁ B hml hv
  obtain ⟨rfl, hsz, hP, hK, hD0, hE⟩ := hv
  have hx := B.exec
  have hb := B.bytes
  have hr := B.returns
  have hts := atoms_spec (ws := wsJ1_charAt_3b067) B.pre
  have hown : s.vm.findClass RJ1 = some m.cls := findClass_of_methodNamed B.named
  have hlocks := B.notSynchronized
  subst hsz
  have hD := hD0.self (sz := s.heap.size)
  generalize hAe : va_A [] s.heap.size = A at hD hE ⊢
  have hA : ∀ q : Nat, s.heap.size ≤ q → A q := fun q h => by rw [← hAe]; exact Or.inr h
  have hS : va_S A s.heap s.heap [] := va_S.rf
  have hP : va_P (dC, dI) vwCl [] s.heap := hP
  have hl := lv_entry ([.ref v, .int i]) (n := 2) (Nat.le_of_ble_eq_true rfl)
  rw [lg_entry_eq]
  generalize (lg_sl ([.ref v, .int i]) ++ List.replicate (2 - (lg_sl ([.ref v, .int i])).length) Slot.unset).toArray = ls at hl ⊢
  have hl : lv_has ls 2 [(0, .ref v), (1, .int i)] := hl
  obtain ⟨hz, hn, hT⟩ := id hE
  refine lv_iload_n hx hb dJ1_charAt_3b067_0 rfl (lv_at hl 1 rfl) ?_
  refine lv_aload_n hx hb dJ1_charAt_3b067_1 rfl (lv_at hl 0 rfl) ?_
  refine va_tlen hx hb hT hS (v := Int32.ofNat n) rfl dJ1_charAt_3b067_2 ?_
  have hFc := va_free (wc := []) hD hS hA [] rfl
  refine va_callv (va_runS (As := [.int i, .int (Int32.ofNat n)]) (rest := []) ⟨hx, hb, hml, hown, hts⟩ (c_J0_checkIndex_df160 l dC dI s.heap.size i (Int32.ofNat n) h0 (by rw [sx_lt hn]; exact hk)) (va_cwS 2 hts gJ1_charAt_3b067_J0_checkIndex_df160 rfl rfl rfl zd_J0_checkIndex_df160.2 ⟨Nat.le_of_ble_eq_true rfl, Nat.le_of_ble_eq_true rfl⟩) ⟨ax_blind sx_Z_same, ax_preE hP hK hD (fun U hU hW => sx_Z_to hz hS.2.1 hFc hU hW)⟩ rfl rfl hl.1 rfl (lv_room (Nat.le_of_ble_eq_true rfl)) dJ1_charAt_3b067_3 ⟨Nat.le_of_ble_eq_true rfl, Nat.le_of_ble_eq_true rfl⟩) hS (fun q _ h => hFc q h) hFc (fun u t H1 locs ht hvm hw hB hz1 hk1 hS => ?_)
  obtain ⟨hP1, hK1, hD1⟩ := hB
  rw [ht] at hP1
  generalize H1 = H at hP1 hS ⊢
  have hP : va_P (dC, dI) vwCl [] H := hP1
  refine lv_aload_n hx hb dJ1_charAt_3b067_6 rfl (lv_at hl 0 rfl) ?_
  refine lv_iload_n hx hb dJ1_charAt_3b067_7 rfl (lv_at hl 1 rfl) ?_
  refine va_tb hx hb hT hS (vp_in_iff.mpr ⟨h0, hk⟩) (v := .int (f i.toNatClampNeg)) rfl dJ1_charAt_3b067_8 ?_
  refine lv_sipush (v := 255) hx hb dJ1_charAt_3b067_9 zk_sipush_255 ?_
  refine lv_iand hx hb dJ1_charAt_3b067_12 ?_
  refine lv_topi (fun x9 ex9 => ?_)
  refine lv_i2c (v := (x9.toUInt32 % 65536).toInt32) hx hb dJ1_charAt_3b067_13 rfl ?_
  exact W.zret (v := (x9.toUInt32 % 65536).toInt32) hx hb hr (pk_nc x9) (fun t ht hW => ⟨⟨(x9.toUInt32 % 65536).toInt32, (), rfl, ⟨pk_nc x9, by rw [ex9]⟩, by rw [ht]; exact hP, va_K.moved hW.alike hK, hD⟩, hS.F ht⟩) hS.2.2 dJ1_charAt_3b067_14


set_option maxHeartbeats 4000000 in
set_option maxRecDepth 100000 in
theorem f_J0_charAt_5068e (l : Launch) (dC : Nat → ClassId) (dI : Nat → Nat → Nat) (sz : Nat) (w n : Nat) (cs : Nat → Int32) (i : Int32) (h0 : (0 : Int) ≤ i.toInt) (hk : i.toInt < (n : Int)) : Met l yJ0_charAt_5068e wsJ0_charAt_5068e ({ frames := 3, cells := 0, slots := 0, locals := 64 }) (va_Pc [.ref w, .int i] (ax_C dC dI sz [] [] (sxc_W w n cs (va_A [] sz)))) (va_Qi (fun (r : Int32) (_ : Unit) => narrow .char (.int r) = .int r ∧ r.toInt = (cs i.toNatClampNeg).toInt) (fun (_ : Unit) (t : State) => ax_B dC dI (va_A [] sz) [] [] t) (va_A [] sz)) 0 0 (va_A [] sz) := by
  refine Met.ofW (cc := cJ0_charAt_5068e) (maxL := 2) (ret := (some .char)) (by decide) rfl ?_
  intro p e s m args below meth c s₁ B hml hv
  obtain ⟨rfl, hsz, hP, hK, hD0, hE⟩ := hv
  have hx := B.exec
  have hb := B.bytes
  have hr := B.returns
  have hts := atoms_spec (ws := wsJ0_charAt_5068e) B.pre
  have hown : s.vm.findClass RJ0 = some m.cls := findClass_of_methodNamed B.named
  have hlocks := B.notSynchronized
  subst hsz
  have hD := hD0.self (sz := s.heap.size)
  generalize hAe : va_A [] s.heap.size = A at hD hE ⊢
  have hA : ∀ q : Nat, s.heap.size ≤ q → A q := fun q h => by rw [← hAe]; exact Or.inr h
  have hS : va_S A s.heap s.heap [] := va_S.rf
  have hP : va_P (dC, dI) vwCl [] s.heap := hP
  have hl := lv_entry ([.ref w, .int i]) (n := 2) (Nat.le_of_ble_eq_true rfl)
  rw [lg_entry_eq]
  generalize (lg_sl ([.ref w, .int i]) ++ List.replicate (2 - (lg_sl ([.ref w, .int i])).length) Slot.unset).toArray = ls at hl ⊢
  have hl : lv_has ls 2 [(0, .ref w), (1, .int i)] := hl
  obtain ⟨hz, hn, hO, hco, hcb, v, hv, hT⟩ := id hE
  refine lv_aload_n hx hb dJ0_charAt_5068e_0 rfl (lv_at hl 0 rfl) ?_
  have hFc := va_free (wc := []) hD hS hA [] rfl
  refine va_calli (va_runV (As := []) (rest := []) ⟨hx, hb, hml, hown, hts⟩ (f_J0_isLatin1_aae02 l dC dI s.heap.size w n cs) (cwV 0 hts gJ0_charAt_5068e_J0_isLatin1_aae02 rfl rfl rfl zd_J0_isLatin1_aae02 ⟨Nat.le_of_ble_eq_true rfl, Nat.le_of_ble_eq_true rfl⟩) ⟨ax_blind sxc_W_same, sxc_recv hE hS, ax_preE hP hK hD (fun U hU hW => sxc_W_to hE hS.2.1 hFc hU hW)⟩ rfl rfl hl.1 rfl (lv_room (Nat.le_of_ble_eq_true rfl)) dJ0_charAt_5068e_1 ⟨Nat.le_of_ble_eq_true rfl, Nat.le_of_ble_eq_true rfl⟩) hS (fun q _ h => hFc q h) hFc (fun r1 u t H1 locs ht hvm hw hB hz1 hk1 hS => ?_)
  obtain ⟨hP1, hK1, hD1⟩ := hB
  rw [ht] at hP1
  generalize H1 = H at hP1 hS ⊢
  have hP : va_P (dC, dI) vwCl [] H := hP1
  have hw : r1 = 1 := hw
  subst hw
  refine lv_if_eq (tgt := 16) hx hb dJ0_charAt_5068e_4 (by decide) (fun c9 => absurd c9 (by decide +kernel)) (fun _ => ?_)
  refine lv_aload_n hx hb dJ0_charAt_5068e_7 rfl (lv_at hl 0 rfl) ?_
  refine vk_getf hx hb hv hS hown (hts (.fieldLink RJ0 9 "java/lang/String" "value" "[B") (zm_J0_charAt_5068e_r1 (List.mem_of_getElem? (i := 0) rfl))) (fun _ h => h) dJ0_charAt_5068e_8 ?_
  refine lv_iload_n hx hb dJ0_charAt_5068e_11 rfl (lv_at hl 1 rfl) ?_
  have hFc := va_free (wc := []) hD hS hA [] rfl
  refine va_calli (va_runS (As := [.ref v, .int i]) (rest := []) ⟨hx, hb, hml, hown, hts⟩ (f_J1_charAt_3b067 l dC dI H.size v n cs i h0 hk) (va_cwS 2 hts gJ0_charAt_5068e_J1_charAt_3b067 rfl rfl rfl zd_J1_charAt_3b067.2 ⟨Nat.le_of_ble_eq_true rfl, Nat.le_of_ble_eq_true rfl⟩) ⟨ax_blind sx_V_same, ax_preE hP hK hD (fun U hU hW => sx_V_to (⟨hz, hn, hT⟩ : sx_V v n cs A s) hS.2.1 hFc hU hW)⟩ rfl rfl hl.1 rfl (lv_room (Nat.le_of_ble_eq_true rfl)) dJ0_charAt_5068e_12 ⟨Nat.le_of_ble_eq_true rfl, Nat.le_of_ble_eq_true rfl⟩) hS (fun q _ h => hFc q h) hFc (fun r12 u t H1 locs ht hvm hw hB hz1 hk1 hS => ?_)
  obtain ⟨hP1, hK1, hD1⟩ := hB
  rw [ht] at hP1
  generalize H1 = H at hP1 hS ⊢
  have hP : va_P (dC, dI) vwCl [] H := hP1
  exact W.zret (v := r12) hx hb hr hw.1 (fun t ht hW => ⟨⟨r12, (), rfl, ⟨hw.1, by rw [hw.2]; exact congrArg Int32.toInt (sxc_ch (hcb _ (by have e9 : i.toNatClampNeg = i.toInt.toNat := rfl; omega)))⟩, by rw [ht]; exact hP, va_K.moved hW.alike hK, hD⟩, hS.F ht⟩) hS.2.2 dJ0_charAt_5068e_15


def sxc_T (ad : Nat → Nat) (A : Nat → Prop) (U : State) : Prop := (∀ i : Nat, i < 36 → sxc_W (ad i) (sx_ln.getD i 0) (sxc i) A U) ∧ vk_R RX3 98 "gallery" (ad 0) U ∧ vk_R RX3 110 "law" (ad 1) U ∧ vk_R RX3 112 "figure" (ad 2) U ∧ vk_R RX3 114 "watche\x72" (ad 3) U ∧ vk_R RX3 116 "seen" (ad 4) U ∧ vk_R RX3 151 "figures" (ad 5) U ∧ vk_R RX3 159 "span" (ad 6) U ∧ vk_R RX3 163 "stairs" (ad 7) U ∧ vk_R RX3 168 "shut" (ad 8) U ∧ vk_R RX3 172 "times" (ad 9) U ∧ vk_R RX3 176 "plus" (ad 10) U ∧ vk_R RX3 180 "first" (ad 11) U ∧ vk_R RX3 187 "is" (ad 12) U ∧ vk_R RX3 199 "walks" (ad 13) U ∧ vk_R RX3 201 "speaks" (ad 14) U ∧ vk_R RX3 207 "from" (ad 15) U ∧ vk_R RX3 209 "to" (ad 16) U ∧ vk_R RX3 215 "at" (ad 17) U ∧ vk_R RX8 128 "gallery" (ad 18) U ∧ vk_R RX8 130 "law" (ad 19) U ∧ vk_R RX8 132 "figure" (ad 20) U ∧ vk_R RX8 134 "watche\x72" (ad 21) U ∧ vk_R RX8 136 "seen" (ad 22) U ∧ vk_R RX8 201 "figures" (ad 23) U ∧ vk_R RX8 207 "span" (ad 24) U ∧ vk_R RX8 209 "stairs" (ad 25) U ∧ vk_R RX8 211 "shut" (ad 26) U ∧ vk_R RX8 213 "times" (ad 27) U ∧ vk_R RX8 218 "plus" (ad 28) U ∧ vk_R RX8 220 "first" (ad 29) U ∧ vk_R RX8 226 "is" (ad 30) U ∧ vk_R RX8 228 "walks" (ad 31) U ∧ vk_R RX8 230 "speaks" (ad 32) U ∧ vk_R RX8 232 "from" (ad 33) U ∧ vk_R RX8 233 "to" (ad 34) U ∧ vk_R RX8 234 "at" (ad 35) U
theorem sxc_T_w {ad : Nat → Nat} {A : Nat → Prop} {U : State} (h : sxc_T ad A U) {i : Nat} (hi : i < 36) : sxc_W (ad i) (sx_ln.getD i 0) (sxc i) A U := h.1 i hi
theorem sxc_R0 {ad : Nat → Nat} {A : Nat → Prop} {U : State} (h : sxc_T ad A U) : vk_R RX3 98 "gallery" (ad 0) U := h.2.1
theorem sxc_R1 {ad : Nat → Nat} {A : Nat → Prop} {U : State} (h : sxc_T ad A U) : vk_R RX3 110 "law" (ad 1) U := h.2.2.1
theorem sxc_R2 {ad : Nat → Nat} {A : Nat → Prop} {U : State} (h : sxc_T ad A U) : vk_R RX3 112 "figure" (ad 2) U := h.2.2.2.1
theorem sxc_R3 {ad : Nat → Nat} {A : Nat → Prop} {U : State} (h : sxc_T ad A U) : vk_R RX3 114 "watche\x72" (ad 3) U := h.2.2.2.2.1
theorem sxc_R4 {ad : Nat → Nat} {A : Nat → Prop} {U : State} (h : sxc_T ad A U) : vk_R RX3 116 "seen" (ad 4) U := h.2.2.2.2.2.1
theorem sxc_R5 {ad : Nat → Nat} {A : Nat → Prop} {U : State} (h : sxc_T ad A U) : vk_R RX3 151 "figures" (ad 5) U := h.2.2.2.2.2.2.1
theorem sxc_R6 {ad : Nat → Nat} {A : Nat → Prop} {U : State} (h : sxc_T ad A U) : vk_R RX3 159 "span" (ad 6) U := h.2.2.2.2.2.2.2.1
theorem sxc_R7 {ad : Nat → Nat} {A : Nat → Prop} {U : State} (h : sxc_T ad A U) : vk_R RX3 163 "stairs" (ad 7) U := h.2.2.2.2.2.2.2.2.1
theorem sxc_R8 {ad : Nat → Nat} {A : Nat → Prop} {U : State} (h : sxc_T ad A U) : vk_R RX3 168 "shut" (ad 8) U := h.2.2.2.2.2.2.2.2.2.1
theorem sxc_R9 {ad : Nat → Nat} {A : Nat → Prop} {U : State} (h : sxc_T ad A U) : vk_R RX3 172 "times" (ad 9) U := h.2.2.2.2.2.2.2.2.2.2.1
theorem sxc_R10 {ad : Nat → Nat} {A : Nat → Prop} {U : State} (h : sxc_T ad A U) : vk_R RX3 176 "plus" (ad 10) U := h.2.2.2.2.2.2.2.2.2.2.2.1
theorem sxc_R11 {ad : Nat → Nat} {A : Nat → Prop} {U : State} (h : sxc_T ad A U) : vk_R RX3 180 "first" (ad 11) U := h.2.2.2.2.2.2.2.2.2.2.2.2.1
theorem sxc_R12 {ad : Nat → Nat} {A : Nat → Prop} {U : State} (h : sxc_T ad A U) : vk_R RX3 187 "is" (ad 12) U := h.2.2.2.2.2.2.2.2.2.2.2.2.2.1
theorem sxc_R13 {ad : Nat → Nat} {A : Nat → Prop} {U : State} (h : sxc_T ad A U) : vk_R RX3 199 "walks" (ad 13) U := h.2.2.2.2.2.2.2.2.2.2.2.2.2.2.1
theorem sxc_R14 {ad : Nat → Nat} {A : Nat → Prop} {U : State} (h : sxc_T ad A U) : vk_R RX3 201 "speaks" (ad 14) U := h.2.2.2.2.2.2.2.2.2.2.2.2.2.2.2.1
theorem sxc_R15 {ad : Nat → Nat} {A : Nat → Prop} {U : State} (h : sxc_T ad A U) : vk_R RX3 207 "from" (ad 15) U := h.2.2.2.2.2.2.2.2.2.2.2.2.2.2.2.2.1
theorem sxc_R16 {ad : Nat → Nat} {A : Nat → Prop} {U : State} (h : sxc_T ad A U) : vk_R RX3 209 "to" (ad 16) U := h.2.2.2.2.2.2.2.2.2.2.2.2.2.2.2.2.2.1
theorem sxc_R17 {ad : Nat → Nat} {A : Nat → Prop} {U : State} (h : sxc_T ad A U) : vk_R RX3 215 "at" (ad 17) U := h.2.2.2.2.2.2.2.2.2.2.2.2.2.2.2.2.2.2.1
theorem sxc_R18 {ad : Nat → Nat} {A : Nat → Prop} {U : State} (h : sxc_T ad A U) : vk_R RX8 128 "gallery" (ad 18) U := h.2.2.2.2.2.2.2.2.2.2.2.2.2.2.2.2.2.2.2.1
theorem sxc_R19 {ad : Nat → Nat} {A : Nat → Prop} {U : State} (h : sxc_T ad A U) : vk_R RX8 130 "law" (ad 19) U := h.2.2.2.2.2.2.2.2.2.2.2.2.2.2.2.2.2.2.2.2.1
theorem sxc_R20 {ad : Nat → Nat} {A : Nat → Prop} {U : State} (h : sxc_T ad A U) : vk_R RX8 132 "figure" (ad 20) U := h.2.2.2.2.2.2.2.2.2.2.2.2.2.2.2.2.2.2.2.2.2.1
theorem sxc_R21 {ad : Nat → Nat} {A : Nat → Prop} {U : State} (h : sxc_T ad A U) : vk_R RX8 134 "watche\x72" (ad 21) U := h.2.2.2.2.2.2.2.2.2.2.2.2.2.2.2.2.2.2.2.2.2.2.1
theorem sxc_R22 {ad : Nat → Nat} {A : Nat → Prop} {U : State} (h : sxc_T ad A U) : vk_R RX8 136 "seen" (ad 22) U := h.2.2.2.2.2.2.2.2.2.2.2.2.2.2.2.2.2.2.2.2.2.2.2.1
theorem sxc_R23 {ad : Nat → Nat} {A : Nat → Prop} {U : State} (h : sxc_T ad A U) : vk_R RX8 201 "figures" (ad 23) U := h.2.2.2.2.2.2.2.2.2.2.2.2.2.2.2.2.2.2.2.2.2.2.2.2.1
theorem sxc_R24 {ad : Nat → Nat} {A : Nat → Prop} {U : State} (h : sxc_T ad A U) : vk_R RX8 207 "span" (ad 24) U := h.2.2.2.2.2.2.2.2.2.2.2.2.2.2.2.2.2.2.2.2.2.2.2.2.2.1
theorem sxc_R25 {ad : Nat → Nat} {A : Nat → Prop} {U : State} (h : sxc_T ad A U) : vk_R RX8 209 "stairs" (ad 25) U := h.2.2.2.2.2.2.2.2.2.2.2.2.2.2.2.2.2.2.2.2.2.2.2.2.2.2.1
theorem sxc_R26 {ad : Nat → Nat} {A : Nat → Prop} {U : State} (h : sxc_T ad A U) : vk_R RX8 211 "shut" (ad 26) U := h.2.2.2.2.2.2.2.2.2.2.2.2.2.2.2.2.2.2.2.2.2.2.2.2.2.2.2.1
theorem sxc_R27 {ad : Nat → Nat} {A : Nat → Prop} {U : State} (h : sxc_T ad A U) : vk_R RX8 213 "times" (ad 27) U := h.2.2.2.2.2.2.2.2.2.2.2.2.2.2.2.2.2.2.2.2.2.2.2.2.2.2.2.2.1
theorem sxc_R28 {ad : Nat → Nat} {A : Nat → Prop} {U : State} (h : sxc_T ad A U) : vk_R RX8 218 "plus" (ad 28) U := h.2.2.2.2.2.2.2.2.2.2.2.2.2.2.2.2.2.2.2.2.2.2.2.2.2.2.2.2.2.1
theorem sxc_R29 {ad : Nat → Nat} {A : Nat → Prop} {U : State} (h : sxc_T ad A U) : vk_R RX8 220 "first" (ad 29) U := h.2.2.2.2.2.2.2.2.2.2.2.2.2.2.2.2.2.2.2.2.2.2.2.2.2.2.2.2.2.2.1
theorem sxc_R30 {ad : Nat → Nat} {A : Nat → Prop} {U : State} (h : sxc_T ad A U) : vk_R RX8 226 "is" (ad 30) U := h.2.2.2.2.2.2.2.2.2.2.2.2.2.2.2.2.2.2.2.2.2.2.2.2.2.2.2.2.2.2.2.1
theorem sxc_R31 {ad : Nat → Nat} {A : Nat → Prop} {U : State} (h : sxc_T ad A U) : vk_R RX8 228 "walks" (ad 31) U := h.2.2.2.2.2.2.2.2.2.2.2.2.2.2.2.2.2.2.2.2.2.2.2.2.2.2.2.2.2.2.2.2.1
theorem sxc_R32 {ad : Nat → Nat} {A : Nat → Prop} {U : State} (h : sxc_T ad A U) : vk_R RX8 230 "speaks" (ad 32) U := h.2.2.2.2.2.2.2.2.2.2.2.2.2.2.2.2.2.2.2.2.2.2.2.2.2.2.2.2.2.2.2.2.2.1
theorem sxc_R33 {ad : Nat → Nat} {A : Nat → Prop} {U : State} (h : sxc_T ad A U) : vk_R RX8 232 "from" (ad 33) U := h.2.2.2.2.2.2.2.2.2.2.2.2.2.2.2.2.2.2.2.2.2.2.2.2.2.2.2.2.2.2.2.2.2.2.1
theorem sxc_R34 {ad : Nat → Nat} {A : Nat → Prop} {U : State} (h : sxc_T ad A U) : vk_R RX8 233 "to" (ad 34) U := h.2.2.2.2.2.2.2.2.2.2.2.2.2.2.2.2.2.2.2.2.2.2.2.2.2.2.2.2.2.2.2.2.2.2.2.1
theorem sxc_R35 {ad : Nat → Nat} {A : Nat → Prop} {U : State} (h : sxc_T ad A U) : vk_R RX8 234 "at" (ad 35) U := h.2.2.2.2.2.2.2.2.2.2.2.2.2.2.2.2.2.2.2.2.2.2.2.2.2.2.2.2.2.2.2.2.2.2.2.2
theorem sxc_T_same {ad : Nat → Nat} {A : Nat → Prop} (a : Array Value) (U : State) (g : JFrame) (mk : MethodId) (h : sxc_T ad A U) : sxc_T ad A (U.calling g mk a) := ⟨fun i hi => sxc_W_same a U g mk (h.1 i hi), vk_R.same rfl (h.2.1), vk_R.same rfl (h.2.2.1), vk_R.same rfl (h.2.2.2.1), vk_R.same rfl (h.2.2.2.2.1), vk_R.same rfl (h.2.2.2.2.2.1), vk_R.same rfl (h.2.2.2.2.2.2.1), vk_R.same rfl (h.2.2.2.2.2.2.2.1), vk_R.same rfl (h.2.2.2.2.2.2.2.2.1), vk_R.same rfl (h.2.2.2.2.2.2.2.2.2.1), vk_R.same rfl (h.2.2.2.2.2.2.2.2.2.2.1), vk_R.same rfl (h.2.2.2.2.2.2.2.2.2.2.2.1), vk_R.same rfl (h.2.2.2.2.2.2.2.2.2.2.2.2.1), vk_R.same rfl (h.2.2.2.2.2.2.2.2.2.2.2.2.2.1), vk_R.same rfl (h.2.2.2.2.2.2.2.2.2.2.2.2.2.2.1), vk_R.same rfl (h.2.2.2.2.2.2.2.2.2.2.2.2.2.2.2.1), vk_R.same rfl (h.2.2.2.2.2.2.2.2.2.2.2.2.2.2.2.2.1), vk_R.same rfl (h.2.2.2.2.2.2.2.2.2.2.2.2.2.2.2.2.2.1), vk_R.same rfl (h.2.2.2.2.2.2.2.2.2.2.2.2.2.2.2.2.2.2.1), vk_R.same rfl (h.2.2.2.2.2.2.2.2.2.2.2.2.2.2.2.2.2.2.2.1), vk_R.same rfl (h.2.2.2.2.2.2.2.2.2.2.2.2.2.2.2.2.2.2.2.2.1), vk_R.same rfl (h.2.2.2.2.2.2.2.2.2.2.2.2.2.2.2.2.2.2.2.2.2.1), vk_R.same rfl (h.2.2.2.2.2.2.2.2.2.2.2.2.2.2.2.2.2.2.2.2.2.2.1), vk_R.same rfl (h.2.2.2.2.2.2.2.2.2.2.2.2.2.2.2.2.2.2.2.2.2.2.2.1), vk_R.same rfl (h.2.2.2.2.2.2.2.2.2.2.2.2.2.2.2.2.2.2.2.2.2.2.2.2.1), vk_R.same rfl (h.2.2.2.2.2.2.2.2.2.2.2.2.2.2.2.2.2.2.2.2.2.2.2.2.2.1), vk_R.same rfl (h.2.2.2.2.2.2.2.2.2.2.2.2.2.2.2.2.2.2.2.2.2.2.2.2.2.2.1), vk_R.same rfl (h.2.2.2.2.2.2.2.2.2.2.2.2.2.2.2.2.2.2.2.2.2.2.2.2.2.2.2.1), vk_R.same rfl (h.2.2.2.2.2.2.2.2.2.2.2.2.2.2.2.2.2.2.2.2.2.2.2.2.2.2.2.2.1), vk_R.same rfl (h.2.2.2.2.2.2.2.2.2.2.2.2.2.2.2.2.2.2.2.2.2.2.2.2.2.2.2.2.2.1), vk_R.same rfl (h.2.2.2.2.2.2.2.2.2.2.2.2.2.2.2.2.2.2.2.2.2.2.2.2.2.2.2.2.2.2.1), vk_R.same rfl (h.2.2.2.2.2.2.2.2.2.2.2.2.2.2.2.2.2.2.2.2.2.2.2.2.2.2.2.2.2.2.2.1), vk_R.same rfl (h.2.2.2.2.2.2.2.2.2.2.2.2.2.2.2.2.2.2.2.2.2.2.2.2.2.2.2.2.2.2.2.2.1), vk_R.same rfl (h.2.2.2.2.2.2.2.2.2.2.2.2.2.2.2.2.2.2.2.2.2.2.2.2.2.2.2.2.2.2.2.2.2.1), vk_R.same rfl (h.2.2.2.2.2.2.2.2.2.2.2.2.2.2.2.2.2.2.2.2.2.2.2.2.2.2.2.2.2.2.2.2.2.2.1), vk_R.same rfl (h.2.2.2.2.2.2.2.2.2.2.2.2.2.2.2.2.2.2.2.2.2.2.2.2.2.2.2.2.2.2.2.2.2.2.2.1), vk_R.same rfl (h.2.2.2.2.2.2.2.2.2.2.2.2.2.2.2.2.2.2.2.2.2.2.2.2.2.2.2.2.2.2.2.2.2.2.2.2)⟩
theorem sxc_T_to {ad : Nat → Nat} {A B : Nat → Prop} {s U : State} {H : Heap} (h : sxc_T ad A s) (hq : ∀ a : Nat, a < s.heap.size → ¬ A a → H[a]? = s.heap[a]?) (hAB : ∀ q, B q → A q) (hU : U.heap = H) (hW : s.WarmedH U.vm) : sxc_T ad B U := ⟨fun i hi => sxc_W_to (h.1 i hi) hq hAB hU hW, vk_R.warm hW (h.2.1), vk_R.warm hW (h.2.2.1), vk_R.warm hW (h.2.2.2.1), vk_R.warm hW (h.2.2.2.2.1), vk_R.warm hW (h.2.2.2.2.2.1), vk_R.warm hW (h.2.2.2.2.2.2.1), vk_R.warm hW (h.2.2.2.2.2.2.2.1), vk_R.warm hW (h.2.2.2.2.2.2.2.2.1), vk_R.warm hW (h.2.2.2.2.2.2.2.2.2.1), vk_R.warm hW (h.2.2.2.2.2.2.2.2.2.2.1), vk_R.warm hW (h.2.2.2.2.2.2.2.2.2.2.2.1), vk_R.warm hW (h.2.2.2.2.2.2.2.2.2.2.2.2.1), vk_R.warm hW (h.2.2.2.2.2.2.2.2.2.2.2.2.2.1), vk_R.warm hW (h.2.2.2.2.2.2.2.2.2.2.2.2.2.2.1), vk_R.warm hW (h.2.2.2.2.2.2.2.2.2.2.2.2.2.2.2.1), vk_R.warm hW (h.2.2.2.2.2.2.2.2.2.2.2.2.2.2.2.2.1), vk_R.warm hW (h.2.2.2.2.2.2.2.2.2.2.2.2.2.2.2.2.2.1), vk_R.warm hW (h.2.2.2.2.2.2.2.2.2.2.2.2.2.2.2.2.2.2.1), vk_R.warm hW (h.2.2.2.2.2.2.2.2.2.2.2.2.2.2.2.2.2.2.2.1), vk_R.warm hW (h.2.2.2.2.2.2.2.2.2.2.2.2.2.2.2.2.2.2.2.2.1), vk_R.warm hW (h.2.2.2.2.2.2.2.2.2.2.2.2.2.2.2.2.2.2.2.2.2.1), vk_R.warm hW (h.2.2.2.2.2.2.2.2.2.2.2.2.2.2.2.2.2.2.2.2.2.2.1), vk_R.warm hW (h.2.2.2.2.2.2.2.2.2.2.2.2.2.2.2.2.2.2.2.2.2.2.2.1), vk_R.warm hW (h.2.2.2.2.2.2.2.2.2.2.2.2.2.2.2.2.2.2.2.2.2.2.2.2.1), vk_R.warm hW (h.2.2.2.2.2.2.2.2.2.2.2.2.2.2.2.2.2.2.2.2.2.2.2.2.2.1), vk_R.warm hW (h.2.2.2.2.2.2.2.2.2.2.2.2.2.2.2.2.2.2.2.2.2.2.2.2.2.2.1), vk_R.warm hW (h.2.2.2.2.2.2.2.2.2.2.2.2.2.2.2.2.2.2.2.2.2.2.2.2.2.2.2.1), vk_R.warm hW (h.2.2.2.2.2.2.2.2.2.2.2.2.2.2.2.2.2.2.2.2.2.2.2.2.2.2.2.2.1), vk_R.warm hW (h.2.2.2.2.2.2.2.2.2.2.2.2.2.2.2.2.2.2.2.2.2.2.2.2.2.2.2.2.2.1), vk_R.warm hW (h.2.2.2.2.2.2.2.2.2.2.2.2.2.2.2.2.2.2.2.2.2.2.2.2.2.2.2.2.2.2.1), vk_R.warm hW (h.2.2.2.2.2.2.2.2.2.2.2.2.2.2.2.2.2.2.2.2.2.2.2.2.2.2.2.2.2.2.2.1), vk_R.warm hW (h.2.2.2.2.2.2.2.2.2.2.2.2.2.2.2.2.2.2.2.2.2.2.2.2.2.2.2.2.2.2.2.2.1), vk_R.warm hW (h.2.2.2.2.2.2.2.2.2.2.2.2.2.2.2.2.2.2.2.2.2.2.2.2.2.2.2.2.2.2.2.2.2.1), vk_R.warm hW (h.2.2.2.2.2.2.2.2.2.2.2.2.2.2.2.2.2.2.2.2.2.2.2.2.2.2.2.2.2.2.2.2.2.2.1), vk_R.warm hW (h.2.2.2.2.2.2.2.2.2.2.2.2.2.2.2.2.2.2.2.2.2.2.2.2.2.2.2.2.2.2.2.2.2.2.2.1), vk_R.warm hW (h.2.2.2.2.2.2.2.2.2.2.2.2.2.2.2.2.2.2.2.2.2.2.2.2.2.2.2.2.2.2.2.2.2.2.2.2)⟩
end SXC
end P222_sxc
section P225_ref
section REF
/-- rows of 23, each as a state has it -/
def md_S (f : Nat → Int32) : Prop := ∀ j : Nat, ((∀ k : Nat, 0 ≤ k → k ≤ 8 → (0 : Int) ≤ (f (23 * j + k)).toInt ∧ (f (23 * j + k)).toInt ≤ 8) ∧ (∀ k : Nat, 19 ≤ k → k ≤ 19 → (0 : Int) ≤ (f (23 * j + k)).toInt ∧ (f (23 * j + k)).toInt ≤ 8) ∧ (∀ k : Nat, 20 ≤ k → k ≤ 20 → (0 : Int) ≤ (f (23 * j + k)).toInt ∧ (f (23 * j + k)).toInt ≤ 19))
theorem md_sh {f : Nat → Int32} {i k v : Int32} (h : md_S f) (ev : v = f k.toNatClampNeg) (hk : k.toInt = i.toInt + 23) (h0 : (0 : Int) ≤ i.toInt) : md_S (upd f i.toNatClampNeg v) := by
  have e1 : k.toNatClampNeg = i.toNatClampNeg + 23 := by
    have a1 : k.toNatClampNeg = k.toInt.toNat := rfl
    have a2 : i.toNatClampNeg = i.toInt.toNat := rfl
    omega
  have q : ∀ (j r : Nat) (P : Int32 → Prop), (∀ j, P (f (23 * j + r))) → P (upd f i.toNatClampNeg v (23 * j + r)) := by
    intro j r P hp
    unfold upd
    split
    · rename_i e
      have e3 : k.toNatClampNeg = 23 * (j + 1) + r := by omega
      rw [ev, e3]; exact hp (j + 1)
    · exact hp j
  intro j
  refine ⟨fun r a b => q j r (fun x => (0 : Int) ≤ x.toInt ∧ x.toInt ≤ 8) (fun j => (h j).1 r a b), fun r a b => q j r (fun x => (0 : Int) ≤ x.toInt ∧ x.toInt ≤ 8) (fun j => (h j).2.1 r a b), fun r a b => q j r (fun x => (0 : Int) ≤ x.toInt ∧ x.toInt ≤ 19) (fun j => (h j).2.2 r a b)⟩
theorem md_0 : md_S (fun _ => 0) := fun j => ⟨fun _ _ _ => zq165, fun _ _ _ => zq165, fun _ _ _ => zq166⟩
theorem md_ix {x u : Int32} (h : x.toInt = 23 * u.toInt) (h0 : (0 : Int) ≤ u.toInt) : x.toNatClampNeg = 23 * u.toNatClampNeg := by
  have a1 : x.toNatClampNeg = x.toInt.toNat := rfl
  have a2 : u.toNatClampNeg = u.toInt.toNat := rfl
  omega
theorem cp_0 {f g : Nat → Int32} {sp dp n : Nat} (h : n = 0) : g = va_cpy f g sp dp n := by
  funext m; rw [pk_cpy_out (by omega)]
theorem cp_s {f g h h' : Nat → Int32} {sp dp : Nat} {k k2 i j v : Int32} (hh : h = va_cpy f g sp dp k.toNatClampNeg) (e1 : h' = upd h i.toNatClampNeg v) (e2 : v = f j.toNatClampNeg) (hi : i.toNatClampNeg = dp + k.toNatClampNeg) (hj : j.toNatClampNeg = sp + k.toNatClampNeg) (hk : k2.toNatClampNeg = k.toNatClampNeg + 1) : h' = va_cpy f g sp dp k2.toNatClampNeg := by
  rw [e1, hh, e2, hk, hi, hj]
  generalize k.toNatClampNeg = n
  funext m
  unfold upd
  split
  · rename_i e
    rw [pk_cpy_in (by omega) (by omega)]
    exact congrArg f (by omega)
  · rename_i e
    by_cases h2 : dp ≤ m ∧ m < dp + n
    · rw [pk_cpy_in h2.1 h2.2, pk_cpy_in h2.1 (by omega)]
    · rw [pk_cpy_out (by omega), pk_cpy_out (by omega)]
theorem cp_i {i a k : Int32} (h : i.toInt = a.toInt + k.toInt) (ha : (0 : Int) ≤ a.toInt) (hk : (0 : Int) ≤ k.toInt) : i.toNatClampNeg = a.toNatClampNeg + k.toNatClampNeg := by
  have a1 : i.toNatClampNeg = i.toInt.toNat := rfl
  have a2 : a.toNatClampNeg = a.toInt.toNat := rfl
  have a3 : k.toNatClampNeg = k.toInt.toNat := rfl
  omega
theorem cp_k {k2 k : Int32} (h : k2.toInt = k.toInt + 1) (hk : (0 : Int) ≤ k.toInt) : k2.toNatClampNeg = k.toNatClampNeg + 1 := by
  have a1 : k2.toNatClampNeg = k2.toInt.toNat := rfl
  have a3 : k.toNatClampNeg = k.toInt.toNat := rfl
  omega
theorem cp_e {k : Int32} {n : Nat} (h : k.toInt = (n : Int)) : k.toNatClampNeg = n := by
  have a3 : k.toNatClampNeg = k.toInt.toNat := rfl
  omega
theorem cp_SS {f g h : Nat → Int32} {sp dp : Nat} (e : h = va_cpy f g sp dp 23) (h1 : sp = 0) (h2 : dp = 0) (hf : ((∀ k : Nat, 0 ≤ k → k ≤ 8 → (0 : Int) ≤ (f k).toInt ∧ (f k).toInt ≤ 8) ∧ (∀ k : Nat, 19 ≤ k → k ≤ 19 → (0 : Int) ≤ (f k).toInt ∧ (f k).toInt ≤ 8) ∧ (∀ k : Nat, 20 ≤ k → k ≤ 20 → (0 : Int) ≤ (f k).toInt ∧ (f k).toInt ≤ 19))) : ((∀ k : Nat, 0 ≤ k → k ≤ 8 → (0 : Int) ≤ (h k).toInt ∧ (h k).toInt ≤ 8) ∧ (∀ k : Nat, 19 ≤ k → k ≤ 19 → (0 : Int) ≤ (h k).toInt ∧ (h k).toInt ≤ 8) ∧ (∀ k : Nat, 20 ≤ k → k ≤ 20 → (0 : Int) ≤ (h k).toInt ∧ (h k).toInt ≤ 19)) := by
  have q : ∀ k : Nat, k < 23 → h k = f k := fun k hk => by rw [e, pk_cpy_in (by omega) (by omega)]; exact congrArg f (by omega)
  exact ⟨fun k a b => by rw [q k (by omega)]; exact hf.1 k a b, fun k a b => by rw [q k (by omega)]; exact hf.2.1 k a b, fun k a b => by rw [q k (by omega)]; exact hf.2.2 k a b⟩
theorem cp_SM {f g h : Nat → Int32} {sp dp u : Nat} (e : h = va_cpy f g sp dp 23) (h1 : sp = 0) (h2 : dp = 23 * u) (hf : ((∀ k : Nat, 0 ≤ k → k ≤ 8 → (0 : Int) ≤ (f k).toInt ∧ (f k).toInt ≤ 8) ∧ (∀ k : Nat, 19 ≤ k → k ≤ 19 → (0 : Int) ≤ (f k).toInt ∧ (f k).toInt ≤ 8) ∧ (∀ k : Nat, 20 ≤ k → k ≤ 20 → (0 : Int) ≤ (f k).toInt ∧ (f k).toInt ≤ 19))) (hg : md_S g) : md_S h := by
  intro j
  by_cases hj : j = u
  · have q : ∀ k : Nat, k < 23 → h (23 * j + k) = f k := fun k hk => by rw [e, pk_cpy_in (by omega) (by omega)]; exact congrArg f (by omega)
    exact ⟨fun k a b => by rw [q k (by omega)]; exact hf.1 k a b, fun k a b => by rw [q k (by omega)]; exact hf.2.1 k a b, fun k a b => by rw [q k (by omega)]; exact hf.2.2 k a b⟩
  · have q : ∀ k : Nat, k < 23 → h (23 * j + k) = g (23 * j + k) := fun k hk => by rw [e, pk_cpy_out (by omega)]
    have hg := hg j
    exact ⟨fun k a b => by rw [q k (by omega)]; exact hg.1 k a b, fun k a b => by rw [q k (by omega)]; exact hg.2.1 k a b, fun k a b => by rw [q k (by omega)]; exact hg.2.2 k a b⟩
theorem cp_MS {f g h : Nat → Int32} {sp dp u : Nat} (e : h = va_cpy f g sp dp 23) (h1 : sp = 23 * u) (h2 : dp = 0) (hf : md_S f) : ((∀ k : Nat, 0 ≤ k → k ≤ 8 → (0 : Int) ≤ (h k).toInt ∧ (h k).toInt ≤ 8) ∧ (∀ k : Nat, 19 ≤ k → k ≤ 19 → (0 : Int) ≤ (h k).toInt ∧ (h k).toInt ≤ 8) ∧ (∀ k : Nat, 20 ≤ k → k ≤ 20 → (0 : Int) ≤ (h k).toInt ∧ (h k).toInt ≤ 19)) := by
  have q : ∀ k : Nat, k < 23 → h k = f (23 * u + k) := fun k hk => by rw [e, pk_cpy_in (by omega) (by omega)]; exact congrArg f (by omega)
  have hf := hf u
  exact ⟨fun k a b => by rw [q k (by omega)]; exact hf.1 k a b, fun k a b => by rw [q k (by omega)]; exact hf.2.1 k a b, fun k a b => by rw [q k (by omega)]; exact hf.2.2 k a b⟩
/-- the first n entries are apart, each 0 .. 8 -/
def gr_D (row : Nat → Int32) (n : Nat) : Prop := (∀ i j : Nat, i < n → j < n → row i = row j → i = j) ∧ ∀ i : Nat, i < n → (0 : Int) ≤ (row i).toInt ∧ (row i).toInt ≤ 8
theorem pg_nat : ∀ (m n : Nat) (f : Nat → Nat), (∀ i j : Nat, i < n → j < n → f i = f j → i = j) → (∀ i : Nat, i < n → f i < m) → n ≤ m := by
  intro m
  induction m with
  | zero =>
    intro n f _ hb
    cases n with
    | zero => exact Nat.le_refl _
    | succ n => exact absurd (hb 0 (by omega)) (by omega)
  | succ m ih =>
    intro n f hi hb
    by_cases h : ∃ i, i < n ∧ f i = m
    · obtain ⟨i0, h0, e0⟩ := h
      have g1 : ∀ i, i < n - 1 → (if i < i0 then i else i + 1) < n := fun i h9 => by split <;> omega
      have g2 : ∀ i, (if i < i0 then i else i + 1) ≠ i0 := fun i => by split <;> omega
      have g3 : ∀ i j, (if i < i0 then i else i + 1) = (if j < i0 then j else j + 1) → i = j := fun i j h9 => by split at h9 <;> split at h9 <;> omega
      have h1 := ih (n - 1) (fun i => f (if i < i0 then i else i + 1)) (fun i j a b e => g3 i j (hi _ _ (g1 i a) (g1 j b) e)) (fun i a => by
        have h2 := hb _ (g1 i a)
        have h3 : f (if i < i0 then i else i + 1) ≠ m := fun e => g2 i (hi _ _ (g1 i a) h0 (e.trans e0.symm))
        show f (if i < i0 then i else i + 1) < m
        omega)
      omega
    · have h1 := ih n f hi (fun i a => by
        have h2 := hb i a
        have h3 : f i ≠ m := fun e => h ⟨i, a, e⟩
        omega)
      omega
theorem gr_le {row : Nat → Int32} {n : Nat} (h : gr_D row n) : n ≤ 9 :=
  pg_nat 9 n (fun i => (row i).toInt.toNat) (fun i j a b e => h.1 i j a b (by
    have h1 := h.2 i a
    have h2 := h.2 j b
    have e : (row i).toInt.toNat = (row j).toInt.toNat := e
    exact Int32.toInt_inj.mp (by omega))) (fun i a => by
    have h1 := h.2 i a
    show (row i).toInt.toNat < 9
    omega)
theorem gr_i {row : Nat → Int32} {n : Int32} (h : gr_D row n.toNatClampNeg) : n.toInt ≤ 9 := by
  have a3 : n.toNatClampNeg = n.toInt.toNat := rfl
  have h1 := gr_le h
  omega
theorem gr_z0 {row : Nat → Int32} {n : Nat} (h : n = 0) : gr_D row n := ⟨fun i j a => by omega, fun i a => by omega⟩
theorem gr_s {row row' : Nat → Int32} {n n2 f : Int32} (h : gr_D row n.toNatClampNeg) (hne : ∀ i : Nat, i < n.toNatClampNeg → row i ≠ f) (e : row' = upd row n.toNatClampNeg f) (hf : (0 : Int) ≤ f.toInt) (hf2 : f.toInt ≤ 8) (hk : n2.toInt = n.toInt + 1) (h0 : (0 : Int) ≤ n.toInt) : gr_D row' n2.toNatClampNeg := by
  rw [cp_k hk h0, e]
  generalize n.toNatClampNeg = m at *
  refine ⟨fun i j a b q => ?_, fun i a => ?_⟩
  · unfold upd at q
    split at q <;> split at q
    · omega
    · rename_i e1 e2; exact absurd q.symm (hne j (by omega))
    · rename_i e1 e2; exact absurd q (hne i (by omega))
    · exact h.1 i j (by omega) (by omega) q
  · unfold upd; split
    · exact ⟨hf, hf2⟩
    · exact h.2 i (by omega)
/-- settled so far -/
def gr_K (row : Nat → Int32) (s k f n : Int32) : Prop := (s.toInt = -1 ∧ ∀ i : Nat, i < k.toNatClampNeg → row i ≠ f) ∨ ((0 : Int) ≤ s.toInt ∧ s.toInt < n.toInt)
theorem gr_K0 {row : Nat → Int32} {s k f n : Int32} (h : s.toInt = -1) (hk : k.toNatClampNeg = 0) : gr_K row s k f n := Or.inl ⟨h, fun i a => by omega⟩
theorem gr_Ks {row : Nat → Int32} {s k k2 f n x : Int32} (h : gr_K row s k f n) (ex : x = row k.toNatClampNeg) (hne : ¬ x = f) (hk : k2.toInt = k.toInt + 1) (h0 : (0 : Int) ≤ k.toInt) : gr_K row s k2 f n := by
  rcases h with h | h
  · refine Or.inl ⟨h.1, fun i a => ?_⟩
    rw [cp_k hk h0] at a
    by_cases e : i = k.toNatClampNeg
    · rw [e, ← ex]; exact hne
    · exact h.2 i (by omega)
  · exact Or.inr h
theorem gr_Kn {row : Nat → Int32} {s k f n : Int32} (h : gr_K row s k f n) (hs : s.toInt < 0) (hk : n.toInt ≤ k.toInt) : ∀ i : Nat, i < n.toNatClampNeg → row i ≠ f := by
  rcases h with h | h
  · intro i a
    have a1 : k.toNatClampNeg = k.toInt.toNat := rfl
    have a2 : n.toNatClampNeg = n.toInt.toNat := rfl
    exact h.2 i (by omega)
  · omega
theorem gr_Km {row : Nat → Int32} {s k f n : Int32} (h : gr_K row s k f n) (hs : s.toInt < 0) : s.toInt = -1 := by
  rcases h with h | h
  · exact h.1
  · omega
theorem gr_Kp {row : Nat → Int32} {s k f n : Int32} (h : gr_K row s k f n) (hs : (0 : Int) ≤ s.toInt) : s.toInt < n.toInt := by
  rcases h with h | h <;> omega
/-- no entry of the nine is gone or more -/
def tb_M (f : Nat → Int32) (g : Int) : Prop := ∀ i : Nat, i ≤ 8 → (-1 : Int) ≤ (f i).toInt ∧ (f i).toInt < g
theorem tb_f {f g : Nat → Int32} {k k2 v : Int32} (h : ∀ i : Nat, i < k.toNatClampNeg → (f i).toInt = -1) (e : g = upd f k.toNatClampNeg v) (hv : v.toInt = -1) (hk : k2.toInt = k.toInt + 1) (h0 : (0 : Int) ≤ k.toInt) : ∀ i : Nat, i < k2.toNatClampNeg → (g i).toInt = -1 := by
  intro i a
  rw [cp_k hk h0] at a
  rw [e]; unfold upd; split
  · exact hv
  · exact h i (by omega)
theorem tb_0 {f : Nat → Int32} {k : Int32} {g : Int} (h : ∀ i : Nat, i < k.toNatClampNeg → (f i).toInt = -1) (hk : (9 : Int) ≤ k.toInt) (hg : g = 0) : tb_M f g := by
  intro i a
  have a1 : k.toNatClampNeg = k.toInt.toNat := rfl
  have h1 := h i (by omega)
  omega
theorem tb_s {f f' : Nat → Int32} {j g g2 : Int32} (h : tb_M f g.toInt) (e : f' = upd f j.toNatClampNeg g) (hg : g2.toInt = g.toInt + 1) (h0 : (0 : Int) ≤ g.toInt) : tb_M f' g2.toInt := by
  intro i a
  rw [e]; unfold upd; split
  · omega
  · have h1 := h i a; omega
theorem tb_r {f : Nat → Int32} {j x : Int32} {g : Int} (h : tb_M f g) (ex : x = f j.toNatClampNeg) (h0 : (0 : Int) ≤ j.toInt) (h1 : j.toInt ≤ 8) : (-1 : Int) ≤ x.toInt ∧ x.toInt < g := by
  have a1 : j.toNatClampNeg = j.toInt.toNat := rfl
  rw [ex]; exact h _ (by omega)
theorem tb_c {t f p F y z w : Int32} (ht : t.toInt = 0) (ey : y.toInt = t.toInt * f.toInt) (ez : z.toInt = y.toInt + p.toInt) (ew : w.toInt = z.toInt % F.toInt) (h0 : (0 : Int) ≤ p.toInt) (hp : p.toInt < F.toInt) : w.toInt = p.toInt := by
  rw [ht, Int.zero_mul] at ey
  have e : z.toInt = p.toInt := by omega
  rw [ew, e]; exact Int.emod_eq_of_lt h0 hp
theorem bc_ok {F p c : Int} (h1 : 2 ≤ F) (h2 : F ≤ 9) (h3 : 0 ≤ p) (h4 : p < F) (hc : c = p * F + p) : c / (F * F) = 0 ∧ c / F % F = p ∧ c % F = p := by
  have h5 : c / F = p := by rcases (show F = 2 ∨ F = 3 ∨ F = 4 ∨ F = 5 ∨ F = 6 ∨ F = 7 ∨ F = 8 ∨ F = 9 by omega) with e | e | e | e | e | e | e | e <;> subst e <;> omega
  have h6 : c / (F * F) = 0 := by rcases (show F = 2 ∨ F = 3 ∨ F = 4 ∨ F = 5 ∨ F = 6 ∨ F = 7 ∨ F = 8 ∨ F = 9 by omega) with e | e | e | e | e | e | e | e <;> subst e <;> omega
  have h7 : c % F = p := by rcases (show F = 2 ∨ F = 3 ∨ F = 4 ∨ F = 5 ∨ F = 6 ∨ F = 7 ∨ F = 8 ∨ F = 9 by omega) with e | e | e | e | e | e | e | e <;> subst e <;> omega
  exact ⟨h6, by rw [h5]; exact Int.emod_eq_of_lt h3 h4, h7⟩
theorem lw_mod {x y : Int64} (hy : ¬ y = 0) : (x - x / y * y).toInt.natAbs < y.toInt.natAbs := by
  have hY : y.toInt ≠ 0 := fun h => hy (Int64.toInt_inj.mp (h.trans (by decide)))
  have e : (x - x / y * y).toInt = (x.toInt.tmod y.toInt).bmod (2 ^ 64) := by
    rw [Int64.toInt_sub, Int64.toInt_mul, Int64.toInt_div, Int.tmod_def, Int.sub_bmod_bmod, ← Int.sub_bmod_bmod, Int.bmod_mul_bmod, Int.sub_bmod_bmod, Int.mul_comm y.toInt]
  have h1 : (x.toInt.tmod y.toInt).natAbs = x.toInt.natAbs % y.toInt.natAbs := Int.natAbs_tmod _ _
  have h2 := Nat.mod_lt x.toInt.natAbs (show 0 < y.toInt.natAbs by omega)
  have h3 := Int64.le_toInt y
  have h4 := Int64.toInt_lt y
  rw [e, Int.bmod_eq_of_le (by omega) (by omega)]
  omega
theorem lw_b (y : Int64) : y.toInt.natAbs < 9223372036854775809 := by
  have h3 := Int64.le_toInt y
  have h4 := Int64.toInt_lt y
  omega
theorem sh_1 {y z : Int32} (e : z = 1 <<< (y &&& 31)) (h0 : (0 : Int) ≤ y.toInt) (h1 : y.toInt ≤ 9) : (1 : Int) ≤ z.toInt ∧ z.toInt ≤ 512 := by
  have q : ∀ k : Fin 10, (1 : Int) ≤ ((1 : Int32) <<< (Int32.ofNat k.val &&& 31)).toInt ∧ ((1 : Int32) <<< (Int32.ofNat k.val &&& 31)).toInt ≤ 512 := by decide
  have e2 : y = Int32.ofNat y.toInt.toNat := Int32.toInt_inj.mp (by rw [show (Int32.ofNat y.toInt.toNat).toInt = (y.toInt.toNat : Int) from nI_toInt (by omega)]; omega)
  rw [e, e2]; exact q ⟨y.toInt.toNat, by omega⟩
theorem tb_z {f : Nat → Int32} {n : Nat} (h : n = 0) : ∀ i : Nat, i < n → (f i).toInt = -1 := fun i a => by omega
theorem lf_s {code code2 r a : Int32} {F : Int} (h : code.toInt ≤ a.toInt * F + a.toInt) (hw : ∀ p : Int, 0 ≤ p → p < F → code.toInt = p * F + p → r.toInt = p) (hne : ¬ r = a) (h0 : 0 ≤ a.toInt) (h1 : a.toInt < F) (hc : code2.toInt = code.toInt + 1) : code2.toInt ≤ a.toInt * F + a.toInt := by
  have h2 : code.toInt ≠ a.toInt * F + a.toInt := fun e => hne (Int32.toInt_inj.mp (hw _ h0 h1 e))
  omega
theorem lf_b {a : Int32} {c F : Int} (h : c ≤ a.toInt * F + a.toInt) (h0 : 0 ≤ a.toInt) (h1 : a.toInt ≤ 8) (h2 : 0 ≤ F) (h3 : F ≤ 9) : c ≤ 80 := by
  have h4 : a.toInt * F ≤ 8 * 9 := Int.mul_le_mul h1 h3 h2 (by decide)
  omega
theorem lf_0 {a : Int32} {F : Int} (h0 : 0 ≤ a.toInt) (h2 : 0 ≤ F) : (0 : Int32).toInt ≤ a.toInt * F + a.toInt := by
  have h4 := Int.mul_nonneg h0 h2
  have h5 : (0 : Int32).toInt = 0 := by decide
  omega
end REF
end P225_ref
section P226_good
set_option maxRecDepth 20000 in
theorem gX8_begin_X8_watchAsTold : GoodIn wsX8_begin (wsV RX8 267 RX8 yX8_watchAsTold wsX8_watchAsTold) := goodIn_s _ [(3, 9), (15, 40)] rfl (by decide +kernel)
set_option maxRecDepth 20000 in
theorem gX8_begin_X8_copy : GoodIn wsX8_begin (va_wsS RX8 169 yX8_copy wsX8_copy) := goodIn_s _ [(12, 2), (6, 1), (14, 1)] rfl (by decide +kernel)
set_option maxRecDepth 20000 in
theorem gX8_minutesOn_X8_begin : GoodIn wsX8_minutesOn (wsV RX8 270 RX8 yX8_begin wsX8_begin) := goodIn_s _ [(2, 6), (1, 1), (8, 3), (5, 1), (11, 8), (49, 40)] rfl (by decide +kernel)
set_option maxRecDepth 20000 in
theorem gX8_minutesOn_X8_minuteOn : GoodIn wsX8_minutesOn (wsV RX8 273 RX8 yX8_minuteOn wsX8_minuteOn) := goodIn_s _ [(19, 3), (5, 1), (22, 2), (12, 1), (24, 4), (5, 1), (28, 9), (15, 1), (37, 4), (14, 1), (13, 1), (41, 48)] rfl (by decide +kernel)
set_option maxRecDepth 20000 in
theorem gX8_figure_X8_good : GoodIn wsX8_figure (wsV RX8 160 RX8 yX8_good wsX8_good) := goodIn_s _ [(3, 7), (22, 40)] rfl (by decide +kernel)
set_option maxRecDepth 20000 in
theorem gX8_figure_X8_isFigure : GoodIn wsX8_figure (wsV RX8 277 RX8 yX8_isFigure wsX8_isFigure) := goodIn_s _ [(10, 3), (6, 1), (13, 2), (1, 1), (15, 2), (6, 1), (17, 1), (22, 40)] rfl (by decide +kernel)
set_option maxRecDepth 20000 in
theorem gX8_figure_X8_in : GoodIn wsX8_figure (va_wsS RX8 142 yX8_in wsX8_in) := goodIn_s _ [(15, 2), (6, 1), (17, 1)] rfl (by decide +kernel)
set_option maxRecDepth 20000 in
theorem gX8_figure_X8_no : GoodIn wsX8_figure (wsV RX8 163 RX8 yX8_no wsX8_no) := goodIn_s _ [(18, 3), (6, 1), (21, 1), (9, 1), (22, 40)] rfl (by decide +kernel)
set_option maxRecDepth 20000 in
theorem gX8_watcher_X8_good : GoodIn wsX8_watcher (wsV RX8 160 RX8 yX8_good wsX8_good) := goodIn_s _ [(3, 7), (33, 40)] rfl (by decide +kernel)
set_option maxRecDepth 20000 in
theorem gX8_watcher_X8_isWatcher : GoodIn wsX8_watcher (wsV RX8 280 RX8 yX8_isWatcher wsX8_isWatcher) := goodIn_s _ [(10, 3), (6, 1), (13, 2), (1, 1), (15, 2), (6, 1), (17, 1), (33, 40)] rfl (by decide +kernel)
set_option maxRecDepth 20000 in
theorem gX8_watcher_X8_in : GoodIn wsX8_watcher (va_wsS RX8 142 yX8_in wsX8_in) := goodIn_s _ [(15, 2), (6, 1), (17, 1)] rfl (by decide +kernel)
set_option maxRecDepth 20000 in
theorem gX8_watcher_X8_no : GoodIn wsX8_watcher (wsV RX8 163 RX8 yX8_no wsX8_no) := goodIn_s _ [(18, 3), (6, 1), (21, 1), (9, 1), (33, 40)] rfl (by decide +kernel)
set_option maxRecDepth 20000 in
theorem gX8_watcher_X8_watchAsTold : GoodIn wsX8_watcher (wsV RX8 267 RX8 yX8_watchAsTold wsX8_watchAsTold) := goodIn_s _ [(22, 3), (6, 1), (25, 1), (1, 1), (26, 3), (33, 40)] rfl (by decide +kernel)
set_option maxRecDepth 20000 in
theorem gX8_watcher_X8_watcherAt : GoodIn wsX8_watcher (wsV RX8 242 RX8 yX8_watcherAt wsX8_watcherAt) := goodIn_s _ [(29, 3), (6, 1), (32, 1), (27, 1), (26, 1), (33, 40)] rfl (by decide +kernel)
set_option maxRecDepth 20000 in
theorem gX8_alive_X8_good : GoodIn wsX8_alive (wsV RX8 160 RX8 yX8_good wsX8_good) := goodIn_s _ [(3, 7), (14, 40)] rfl (by decide +kernel)
set_option maxRecDepth 20000 in
theorem gX8_alive_X8_no : GoodIn wsX8_alive (wsV RX8 163 RX8 yX8_no wsX8_no) := goodIn_s _ [(10, 3), (6, 1), (13, 1), (9, 1), (14, 40)] rfl (by decide +kernel)
set_option maxRecDepth 20000 in
theorem gX8_left_X8_good : GoodIn wsX8_left (wsV RX8 160 RX8 yX8_good wsX8_good) := goodIn_s _ [(4, 7), (15, 40)] rfl (by decide +kernel)
set_option maxRecDepth 20000 in
theorem gX8_left_X8_no : GoodIn wsX8_left (wsV RX8 163 RX8 yX8_no wsX8_no) := goodIn_s _ [(11, 3), (7, 1), (14, 1), (10, 1), (15, 40)] rfl (by decide +kernel)
set_option maxRecDepth 20000 in
theorem gX8_caught_X8_good : GoodIn wsX8_caught (wsV RX8 160 RX8 yX8_good wsX8_good) := goodIn_s _ [(3, 7), (14, 40)] rfl (by decide +kernel)
set_option maxRecDepth 20000 in
theorem gX8_caught_X8_no : GoodIn wsX8_caught (wsV RX8 163 RX8 yX8_no wsX8_no) := goodIn_s _ [(10, 3), (6, 1), (13, 1), (9, 1), (14, 40)] rfl (by decide +kernel)
set_option maxRecDepth 20000 in
theorem gX8_goRound_X8_nextOf : GoodIn wsX8_goRound (wsV RX8 264 RX8 yX8_nextOf wsX8_nextOf) := goodIn_s _ [(5, 46)] rfl (by decide +kernel)
set_option maxRecDepth 20000 in
theorem gX8_turnOf_X8_good : GoodIn wsX8_turnOf (wsV RX8 160 RX8 yX8_good wsX8_good) := goodIn_s _ [(3, 7), (38, 40)] rfl (by decide +kernel)
set_option maxRecDepth 20000 in
theorem gX8_turnOf_X8_in : GoodIn wsX8_turnOf (va_wsS RX8 142 yX8_in wsX8_in) := goodIn_s _ [(10, 2), (6, 1), (12, 1)] rfl (by decide +kernel)
set_option maxRecDepth 20000 in
theorem gX8_turnOf_X8_why : GoodIn wsX8_turnOf (wsV RX8 290 RX8 yX8_why wsX8_why) := goodIn_s _ [(13, 3), (6, 1), (16, 1)] rfl (by decide +kernel)
set_option maxRecDepth 20000 in
theorem gX8_turnOf_X8_no : GoodIn wsX8_turnOf (wsV RX8 163 RX8 yX8_no wsX8_no) := goodIn_s _ [(17, 3), (6, 1), (20, 1), (9, 1), (38, 40)] rfl (by decide +kernel)
set_option maxRecDepth 20000 in
theorem gX8_turnOf_X8_goRound : GoodIn wsX8_turnOf (wsV RX8 294 RX8 yX8_goRound wsX8_goRound) := goodIn_s _ [(21, 3), (6, 1), (24, 8), (6, 1), (32, 2), (38, 40)] rfl (by decide +kernel)
set_option maxRecDepth 20000 in
theorem gX8_turnOf_X8_turnAt : GoodIn wsX8_turnOf (wsV RX8 297 RX8 yX8_turnAt wsX8_turnAt) := goodIn_s _ [(34, 3), (6, 1), (37, 1), (27, 1), (26, 1), (28, 1), (38, 40)] rfl (by decide +kernel)
set_option maxRecDepth 20000 in
theorem gX8_turnIn_X8_good : GoodIn wsX8_turnIn (wsV RX8 160 RX8 yX8_good wsX8_good) := goodIn_s _ [(4, 7), (33, 40)] rfl (by decide +kernel)
set_option maxRecDepth 20000 in
theorem gX8_turnIn_X8_isFigure : GoodIn wsX8_turnIn (wsV RX8 277 RX8 yX8_isFigure wsX8_isFigure) := goodIn_s _ [(11, 3), (7, 1), (14, 5), (7, 1), (19, 1), (33, 40)] rfl (by decide +kernel)
set_option maxRecDepth 20000 in
theorem gX8_turnIn_X8_no : GoodIn wsX8_turnIn (wsV RX8 163 RX8 yX8_no wsX8_no) := goodIn_s _ [(20, 3), (7, 1), (23, 1), (10, 1), (33, 40)] rfl (by decide +kernel)
end P226_good
section P226_good_1
set_option maxRecDepth 20000 in
theorem gX8_turnIn_X8_goRound : GoodIn wsX8_turnIn (wsV RX8 294 RX8 yX8_goRound wsX8_goRound) := goodIn_s _ [(24, 3), (7, 1), (27, 2), (1, 1), (3, 1), (2, 1), (29, 3), (7, 1), (32, 1), (16, 1), (33, 40)] rfl (by decide +kernel)
set_option maxRecDepth 20000 in
theorem gX8_settles_X8_good : GoodIn wsX8_settles (wsV RX8 160 RX8 yX8_good wsX8_good) := goodIn_s _ [(3, 7), (26, 40)] rfl (by decide +kernel)
set_option maxRecDepth 20000 in
theorem gX8_settles_X8_no : GoodIn wsX8_settles (wsV RX8 163 RX8 yX8_no wsX8_no) := goodIn_s _ [(10, 3), (6, 1), (13, 1), (9, 1), (26, 40)] rfl (by decide +kernel)
set_option maxRecDepth 20000 in
theorem gX8_settles_X8_goRound : GoodIn wsX8_settles (wsV RX8 294 RX8 yX8_goRound wsX8_goRound) := goodIn_s _ [(14, 3), (6, 1), (17, 2), (2, 1), (19, 5), (6, 1), (24, 42)] rfl (by decide +kernel)
set_option maxRecDepth 20000 in
theorem gX8_round_X8_good : GoodIn wsX8_round (wsV RX8 160 RX8 yX8_good wsX8_good) := goodIn_s _ [(3, 7), (26, 40)] rfl (by decide +kernel)
set_option maxRecDepth 20000 in
theorem gX8_round_X8_no : GoodIn wsX8_round (wsV RX8 163 RX8 yX8_no wsX8_no) := goodIn_s _ [(10, 3), (6, 1), (13, 1), (9, 1), (26, 40)] rfl (by decide +kernel)
set_option maxRecDepth 20000 in
theorem gX8_round_X8_goRound : GoodIn wsX8_round (wsV RX8 294 RX8 yX8_goRound wsX8_goRound) := goodIn_s _ [(14, 3), (6, 1), (17, 4), (2, 1), (21, 3), (6, 1), (24, 42)] rfl (by decide +kernel)
set_option maxRecDepth 20000 in
theorem gX8_called_X8_good : GoodIn wsX8_called (wsV RX8 160 RX8 yX8_good wsX8_good) := goodIn_s _ [(5, 7), (26, 40)] rfl (by decide +kernel)
set_option maxRecDepth 20000 in
theorem gX8_called_X8_no : GoodIn wsX8_called (wsV RX8 163 RX8 yX8_no wsX8_no) := goodIn_s _ [(12, 3), (8, 1), (15, 1), (11, 1), (26, 40)] rfl (by decide +kernel)
set_option maxRecDepth 20000 in
theorem gX8_called_X8_goRound : GoodIn wsX8_called (wsV RX8 294 RX8 yX8_goRound wsX8_goRound) := goodIn_s _ [(16, 3), (8, 1), (19, 2), (2, 1), (4, 1), (3, 1), (21, 3), (8, 1), (24, 42)] rfl (by decide +kernel)
set_option maxRecDepth 20000 in
theorem gX8_minutesOf_X8_good : GoodIn wsX8_minutesOf (wsV RX8 160 RX8 yX8_good wsX8_good) := goodIn_s _ [(3, 7), (41, 40)] rfl (by decide +kernel)
set_option maxRecDepth 20000 in
theorem gX8_minutesOf_X8_isFigure : GoodIn wsX8_minutesOf (wsV RX8 277 RX8 yX8_isFigure wsX8_isFigure) := goodIn_s _ [(10, 3), (6, 1), (13, 2), (2, 1), (15, 2), (6, 1), (17, 1), (41, 40)] rfl (by decide +kernel)
set_option maxRecDepth 20000 in
theorem gX8_minutesOf_X8_in : GoodIn wsX8_minutesOf (va_wsS RX8 142 yX8_in wsX8_in) := goodIn_s _ [(15, 2), (6, 1), (17, 1)] rfl (by decide +kernel)
set_option maxRecDepth 20000 in
theorem gX8_minutesOf_X8_why : GoodIn wsX8_minutesOf (wsV RX8 290 RX8 yX8_why wsX8_why) := goodIn_s _ [(18, 3), (6, 1), (21, 1)] rfl (by decide +kernel)
set_option maxRecDepth 20000 in
theorem gX8_minutesOf_X8_no : GoodIn wsX8_minutesOf (wsV RX8 163 RX8 yX8_no wsX8_no) := goodIn_s _ [(22, 3), (6, 1), (25, 1), (9, 1), (41, 40)] rfl (by decide +kernel)
set_option maxRecDepth 20000 in
theorem gX8_minutesOf_X8_goRound : GoodIn wsX8_minutesOf (wsV RX8 294 RX8 yX8_goRound wsX8_goRound) := goodIn_s _ [(26, 3), (6, 1), (29, 1), (1, 1), (30, 6), (6, 1), (36, 1), (2, 1), (41, 40)] rfl (by decide +kernel)
set_option maxRecDepth 20000 in
theorem gX8_minutesOf_X8_turnAt : GoodIn wsX8_minutesOf (wsV RX8 297 RX8 yX8_turnAt wsX8_turnAt) := goodIn_s _ [(37, 3), (6, 1), (40, 1), (31, 1), (30, 1), (32, 1), (41, 40)] rfl (by decide +kernel)
set_option maxRecDepth 20000 in
theorem gX8_aheadWhy_X8_in : GoodIn wsX8_aheadWhy (va_wsS RX8 142 yX8_in wsX8_in) := goodIn_s _ [(1, 4)] rfl (by decide +kernel)
set_option maxRecDepth 20000 in
theorem gX8_aheadWhy_X8_why : GoodIn wsX8_aheadWhy (wsV RX8 290 RX8 yX8_why wsX8_why) := goodIn_s _ [(5, 3), (3, 1), (8, 1)] rfl (by decide +kernel)
set_option maxRecDepth 20000 in
theorem gX8_place_X8_good : GoodIn wsX8_place (wsV RX8 160 RX8 yX8_good wsX8_good) := goodIn_s _ [(2, 7), (79, 40)] rfl (by decide +kernel)
set_option maxRecDepth 20000 in
theorem gX8_place_X8_isFigure : GoodIn wsX8_place (wsV RX8 277 RX8 yX8_isFigure wsX8_isFigure) := goodIn_s _ [(9, 3), (5, 1), (12, 5), (5, 1), (17, 1), (79, 40)] rfl (by decide +kernel)
set_option maxRecDepth 20000 in
theorem gX8_place_X8_aheadWhy : GoodIn wsX8_place (wsV RX8 300 RX8 yX8_aheadWhy wsX8_aheadWhy) := goodIn_s _ [(18, 3), (5, 1), (21, 1), (15, 2), (5, 1), (17, 1), (22, 4)] rfl (by decide +kernel)
set_option maxRecDepth 20000 in
theorem gX8_place_X8_no : GoodIn wsX8_place (wsV RX8 163 RX8 yX8_no wsX8_no) := goodIn_s _ [(26, 3), (5, 1), (29, 1), (8, 1), (79, 40)] rfl (by decide +kernel)
set_option maxRecDepth 20000 in
theorem gX8_place_X8_minutesOn : GoodIn wsX8_place (wsV RX8 304 RX8 yX8_minutesOn wsX8_minutesOn) := goodIn_s _ [(30, 3), (5, 1), (33, 1), (1, 1), (34, 3), (5, 1), (37, 6), (14, 1), (43, 76)] rfl (by decide +kernel)
set_option maxRecDepth 20000 in
theorem gX8_watch_X8_good : GoodIn wsX8_watch (wsV RX8 160 RX8 yX8_good wsX8_good) := goodIn_s _ [(2, 7), (41, 40)] rfl (by decide +kernel)
set_option maxRecDepth 20000 in
theorem gX8_watch_X8_isWatcher : GoodIn wsX8_watch (wsV RX8 280 RX8 yX8_isWatcher wsX8_isWatcher) := goodIn_s _ [(9, 3), (5, 1), (12, 5), (5, 1), (17, 1), (41, 40)] rfl (by decide +kernel)
set_option maxRecDepth 20000 in
theorem gX8_watch_X8_aheadWhy : GoodIn wsX8_watch (wsV RX8 300 RX8 yX8_aheadWhy wsX8_aheadWhy) := goodIn_s _ [(18, 3), (5, 1), (21, 1), (15, 2), (5, 1), (17, 1), (22, 4)] rfl (by decide +kernel)
set_option maxRecDepth 20000 in
theorem gX8_watch_X8_no : GoodIn wsX8_watch (wsV RX8 163 RX8 yX8_no wsX8_no) := goodIn_s _ [(26, 3), (5, 1), (29, 1), (8, 1), (41, 40)] rfl (by decide +kernel)
set_option maxRecDepth 20000 in
theorem gX8_watch_X8_watchAsTold : GoodIn wsX8_watch (wsV RX8 267 RX8 yX8_watchAsTold wsX8_watchAsTold) := goodIn_s _ [(30, 3), (5, 1), (33, 1), (14, 1), (34, 3), (41, 40)] rfl (by decide +kernel)
set_option maxRecDepth 20000 in
theorem gX8_watch_X8_watcherAt : GoodIn wsX8_watch (wsV RX8 242 RX8 yX8_watcherAt wsX8_watcherAt) := goodIn_s _ [(37, 3), (5, 1), (40, 1), (35, 1), (34, 1), (41, 40)] rfl (by decide +kernel)
set_option maxRecDepth 20000 in
theorem gX8_gone_X8_good : GoodIn wsX8_gone (wsV RX8 160 RX8 yX8_good wsX8_good) := goodIn_s _ [(3, 7), (75, 40)] rfl (by decide +kernel)
set_option maxRecDepth 20000 in
theorem gX8_gone_X8_aheadWhy : GoodIn wsX8_gone (wsV RX8 300 RX8 yX8_aheadWhy wsX8_aheadWhy) := goodIn_s _ [(10, 3), (6, 1), (13, 3), (6, 1), (16, 5)] rfl (by decide +kernel)
set_option maxRecDepth 20000 in
theorem gX8_gone_X8_no : GoodIn wsX8_gone (wsV RX8 163 RX8 yX8_no wsX8_no) := goodIn_s _ [(21, 3), (6, 1), (24, 1), (9, 1), (75, 40)] rfl (by decide +kernel)
set_option maxRecDepth 20000 in
theorem gX8_gone_X8_minutesOn : GoodIn wsX8_gone (wsV RX8 304 RX8 yX8_minutesOn wsX8_minutesOn) := goodIn_s _ [(25, 3), (6, 1), (28, 1), (2, 1), (29, 3), (6, 1), (32, 83)] rfl (by decide +kernel)
set_option maxRecDepth 20000 in
theorem gX8_nextGone_X8_minuteOn : GoodIn wsX8_nextGone (wsV RX8 273 RX8 yX8_minuteOn wsX8_minuteOn) := goodIn_s _ [(2, 11), (5, 1), (13, 64)] rfl (by decide +kernel)
set_option maxRecDepth 20000 in
theorem gX8_stairs_X8_good : GoodIn wsX8_stairs (wsV RX8 160 RX8 yX8_good wsX8_good) := goodIn_s _ [(2, 7), (64, 40)] rfl (by decide +kernel)
set_option maxRecDepth 20000 in
theorem gX8_stairs_X8_no : GoodIn wsX8_stairs (wsV RX8 163 RX8 yX8_no wsX8_no) := goodIn_s _ [(9, 3), (5, 1), (12, 1), (8, 1), (64, 40)] rfl (by decide +kernel)
set_option maxRecDepth 20000 in
theorem gX8_stairs_X8_begin : GoodIn wsX8_stairs (wsV RX8 270 RX8 yX8_begin wsX8_begin) := goodIn_s _ [(13, 3), (5, 1), (16, 6), (5, 1), (22, 8), (64, 40)] rfl (by decide +kernel)
set_option maxRecDepth 20000 in
theorem gX8_stairs_X8_nextGone : GoodIn wsX8_stairs (wsV RX8 307 RX8 yX8_nextGone wsX8_nextGone) := goodIn_s _ [(30, 3), (5, 1), (33, 1), (18, 1), (34, 3), (5, 1), (37, 2), (23, 1), (39, 13), (26, 1), (52, 4), (25, 1), (24, 1), (56, 48)] rfl (by decide +kernel)
set_option maxRecDepth 20000 in
theorem gX8_catches_X8_good : GoodIn wsX8_catches (wsV RX8 160 RX8 yX8_good wsX8_good) := goodIn_s _ [(4, 7), (75, 40)] rfl (by decide +kernel)
set_option maxRecDepth 20000 in
theorem gX8_catches_X8_aheadWhy : GoodIn wsX8_catches (wsV RX8 300 RX8 yX8_aheadWhy wsX8_aheadWhy) := goodIn_s _ [(11, 3), (7, 1), (14, 3), (7, 1), (17, 5)] rfl (by decide +kernel)
set_option maxRecDepth 20000 in
theorem gX8_catches_X8_no : GoodIn wsX8_catches (wsV RX8 163 RX8 yX8_no wsX8_no) := goodIn_s _ [(22, 3), (7, 1), (25, 1), (10, 1), (75, 40)] rfl (by decide +kernel)
set_option maxRecDepth 20000 in
theorem gX8_catches_X8_minutesOn : GoodIn wsX8_catches (wsV RX8 304 RX8 yX8_minutesOn wsX8_minutesOn) := goodIn_s _ [(26, 3), (7, 1), (29, 1), (2, 1), (30, 3), (7, 1), (33, 1), (3, 1), (34, 81)] rfl (by decide +kernel)
set_option maxRecDepth 20000 in
theorem gX8_heard_X8_good : GoodIn wsX8_heard (wsV RX8 160 RX8 yX8_good wsX8_good) := goodIn_s _ [(2, 7), (75, 40)] rfl (by decide +kernel)
set_option maxRecDepth 20000 in
theorem gX8_heard_X8_isFigure : GoodIn wsX8_heard (wsV RX8 277 RX8 yX8_isFigure wsX8_isFigure) := goodIn_s _ [(9, 3), (5, 1), (12, 5), (5, 1), (17, 1), (75, 40)] rfl (by decide +kernel)
set_option maxRecDepth 20000 in
theorem gX8_heard_X8_aheadWhy : GoodIn wsX8_heard (wsV RX8 300 RX8 yX8_aheadWhy wsX8_aheadWhy) := goodIn_s _ [(18, 3), (5, 1), (21, 1), (15, 2), (5, 1), (17, 1), (22, 4)] rfl (by decide +kernel)
set_option maxRecDepth 20000 in
theorem gX8_heard_X8_no : GoodIn wsX8_heard (wsV RX8 163 RX8 yX8_no wsX8_no) := goodIn_s _ [(26, 3), (5, 1), (29, 1), (8, 1), (75, 40)] rfl (by decide +kernel)
set_option maxRecDepth 20000 in
theorem gX8_heard_X8_begin : GoodIn wsX8_heard (wsV RX8 270 RX8 yX8_begin wsX8_begin) := goodIn_s _ [(30, 3), (5, 1), (33, 2), (1, 1), (35, 3), (5, 1), (38, 1), (14, 1), (39, 6), (75, 40)] rfl (by decide +kernel)
set_option maxRecDepth 20000 in
theorem gX8_heard_X8_minuteOn : GoodIn wsX8_heard (wsV RX8 273 RX8 yX8_minuteOn wsX8_minuteOn) := goodIn_s _ [(45, 3), (5, 1), (48, 2), (14, 1), (50, 4), (5, 1), (54, 9), (41, 1), (63, 4), (40, 1), (39, 1), (67, 48)] rfl (by decide +kernel)
set_option maxRecDepth 20000 in
theorem gX8_allIn_X8_good : GoodIn wsX8_allIn (wsV RX8 160 RX8 yX8_good wsX8_good) := goodIn_s _ [(3, 7), (67, 40)] rfl (by decide +kernel)
set_option maxRecDepth 20000 in
theorem gX8_allIn_X8_isFigure : GoodIn wsX8_allIn (wsV RX8 277 RX8 yX8_isFigure wsX8_isFigure) := goodIn_s _ [(10, 3), (6, 1), (13, 2), (1, 1), (15, 2), (6, 1), (17, 1), (67, 40)] rfl (by decide +kernel)
set_option maxRecDepth 20000 in
theorem gX8_allIn_X8_no : GoodIn wsX8_allIn (wsV RX8 163 RX8 yX8_no wsX8_no) := goodIn_s _ [(18, 3), (6, 1), (21, 1), (9, 1), (67, 40)] rfl (by decide +kernel)
set_option maxRecDepth 20000 in
theorem gX8_allIn_X8_begin : GoodIn wsX8_allIn (wsV RX8 270 RX8 yX8_begin wsX8_begin) := goodIn_s _ [(22, 3), (6, 1), (25, 2), (2, 1), (27, 3), (6, 1), (30, 1), (1, 1), (31, 6), (67, 40)] rfl (by decide +kernel)
set_option maxRecDepth 20000 in
theorem gX8_allIn_X8_minuteOn : GoodIn wsX8_allIn (wsV RX8 273 RX8 yX8_minuteOn wsX8_minuteOn) := goodIn_s _ [(37, 3), (6, 1), (40, 2), (1, 1), (42, 4), (6, 1), (46, 9), (33, 1), (55, 4), (32, 1), (31, 1), (59, 48)] rfl (by decide +kernel)
set_option maxRecDepth 20000 in
theorem gX8_meets_X8_good : GoodIn wsX8_meets (wsV RX8 160 RX8 yX8_good wsX8_good) := goodIn_s _ [(3, 7), (67, 40)] rfl (by decide +kernel)
set_option maxRecDepth 20000 in
theorem gX8_meets_X8_isWatcher : GoodIn wsX8_meets (wsV RX8 280 RX8 yX8_isWatcher wsX8_isWatcher) := goodIn_s _ [(10, 3), (6, 1), (13, 5), (6, 1), (18, 1), (67, 40)] rfl (by decide +kernel)
set_option maxRecDepth 20000 in
theorem gX8_meets_X8_no : GoodIn wsX8_meets (wsV RX8 163 RX8 yX8_no wsX8_no) := goodIn_s _ [(19, 3), (6, 1), (22, 1), (9, 1), (67, 40)] rfl (by decide +kernel)
set_option maxRecDepth 20000 in
theorem gX8_meets_X8_begin : GoodIn wsX8_meets (wsV RX8 270 RX8 yX8_begin wsX8_begin) := goodIn_s _ [(23, 3), (6, 1), (26, 2), (1, 1), (28, 3), (6, 1), (31, 1), (15, 1), (32, 6), (67, 40)] rfl (by decide +kernel)
set_option maxRecDepth 20000 in
theorem gX8_meets_X8_watcherAt : GoodIn wsX8_meets (wsV RX8 242 RX8 yX8_watcherAt wsX8_watcherAt) := goodIn_s _ [(38, 3), (6, 1), (41, 1), (33, 1), (32, 1), (67, 40)] rfl (by decide +kernel)
set_option maxRecDepth 20000 in
theorem gX8_meets_X8_minuteOn : GoodIn wsX8_meets (wsV RX8 273 RX8 yX8_minuteOn wsX8_minuteOn) := goodIn_s _ [(42, 3), (6, 1), (45, 2), (15, 1), (47, 1), (2, 1), (48, 2), (6, 1), (50, 9), (34, 1), (38, 4), (33, 1), (32, 1), (59, 48)] rfl (by decide +kernel)
set_option maxRecDepth 20000 in
theorem gX8_crowd_X8_good : GoodIn wsX8_crowd (wsV RX8 160 RX8 yX8_good wsX8_good) := goodIn_s _ [(4, 7), (75, 40)] rfl (by decide +kernel)
set_option maxRecDepth 20000 in
theorem gX8_crowd_X8_aheadWhy : GoodIn wsX8_crowd (wsV RX8 300 RX8 yX8_aheadWhy wsX8_aheadWhy) := goodIn_s _ [(11, 3), (7, 1), (14, 3), (7, 1), (17, 5)] rfl (by decide +kernel)
set_option maxRecDepth 20000 in
theorem gX8_crowd_X8_no : GoodIn wsX8_crowd (wsV RX8 163 RX8 yX8_no wsX8_no) := goodIn_s _ [(22, 3), (7, 1), (25, 1), (10, 1), (75, 40)] rfl (by decide +kernel)
set_option maxRecDepth 20000 in
theorem gX8_crowd_X8_minutesOn : GoodIn wsX8_crowd (wsV RX8 304 RX8 yX8_minutesOn wsX8_minutesOn) := goodIn_s _ [(26, 3), (7, 1), (29, 1), (3, 1), (30, 3), (7, 1), (33, 6), (2, 1), (39, 76)] rfl (by decide +kernel)
set_option maxRecDepth 20000 in
theorem gX8_crowd_X8_hasBit : GoodIn wsX8_crowd (va_wsS RX8 238 yX8_hasBit wsX8_hasBit) := goodIn_s _ [(52, 2), (7, 1), (54, 1)] rfl (by decide +kernel)
set_option maxRecDepth 20000 in
theorem gX8_farthest_X8_good : GoodIn wsX8_farthest (wsV RX8 160 RX8 yX8_good wsX8_good) := goodIn_s _ [(4, 7), (78, 40)] rfl (by decide +kernel)
set_option maxRecDepth 20000 in
theorem gX8_farthest_X8_aheadWhy : GoodIn wsX8_farthest (wsV RX8 300 RX8 yX8_aheadWhy wsX8_aheadWhy) := goodIn_s _ [(11, 3), (7, 1), (14, 3), (7, 1), (17, 5)] rfl (by decide +kernel)
set_option maxRecDepth 20000 in
theorem gX8_farthest_X8_no : GoodIn wsX8_farthest (wsV RX8 163 RX8 yX8_no wsX8_no) := goodIn_s _ [(22, 3), (7, 1), (25, 1), (10, 1), (78, 40)] rfl (by decide +kernel)
set_option maxRecDepth 20000 in
theorem gX8_farthest_X8_minutesOn : GoodIn wsX8_farthest (wsV RX8 304 RX8 yX8_minutesOn wsX8_minutesOn) := goodIn_s _ [(26, 3), (7, 1), (29, 1), (3, 1), (30, 3), (7, 1), (33, 6), (2, 1), (39, 36), (78, 40)] rfl (by decide +kernel)
set_option maxRecDepth 20000 in
theorem gX8_farthest_X8_between : GoodIn wsX8_farthest (va_wsS RX8 310 yX8_between wsX8_between) := goodIn_s _ [(75, 2), (7, 1), (77, 1)] rfl (by decide +kernel)
set_option maxRecDepth 20000 in
theorem gX8_nearBy_X8_good : GoodIn wsX8_nearBy (wsV RX8 160 RX8 yX8_good wsX8_good) := goodIn_s _ [(2, 7), (75, 40)] rfl (by decide +kernel)
set_option maxRecDepth 20000 in
theorem gX8_nearBy_X8_isFigure : GoodIn wsX8_nearBy (wsV RX8 277 RX8 yX8_isFigure wsX8_isFigure) := goodIn_s _ [(9, 3), (5, 1), (12, 5), (5, 1), (17, 1), (75, 40)] rfl (by decide +kernel)
set_option maxRecDepth 20000 in
theorem gX8_nearBy_X8_aheadWhy : GoodIn wsX8_nearBy (wsV RX8 300 RX8 yX8_aheadWhy wsX8_aheadWhy) := goodIn_s _ [(18, 3), (5, 1), (21, 1), (15, 2), (5, 1), (17, 1), (22, 4)] rfl (by decide +kernel)
set_option maxRecDepth 20000 in
theorem gX8_nearBy_X8_no : GoodIn wsX8_nearBy (wsV RX8 163 RX8 yX8_no wsX8_no) := goodIn_s _ [(26, 3), (5, 1), (29, 1), (8, 1), (75, 40)] rfl (by decide +kernel)
set_option maxRecDepth 20000 in
theorem gX8_nearBy_X8_begin : GoodIn wsX8_nearBy (wsV RX8 270 RX8 yX8_begin wsX8_begin) := goodIn_s _ [(30, 3), (5, 1), (33, 2), (1, 1), (35, 3), (5, 1), (38, 1), (14, 1), (39, 6), (75, 40)] rfl (by decide +kernel)
set_option maxRecDepth 20000 in
theorem gX8_nearBy_X8_minuteOn : GoodIn wsX8_nearBy (wsV RX8 273 RX8 yX8_minuteOn wsX8_minuteOn) := goodIn_s _ [(45, 3), (5, 1), (48, 2), (14, 1), (50, 4), (5, 1), (54, 9), (41, 1), (63, 4), (40, 1), (39, 1), (67, 48)] rfl (by decide +kernel)
set_option maxRecDepth 20000 in
theorem gX8_nearBy_X8_hasBit : GoodIn wsX8_nearBy (va_wsS RX8 238 yX8_hasBit wsX8_hasBit) := goodIn_s _ [(52, 2), (5, 1), (54, 1)] rfl (by decide +kernel)
set_option maxRecDepth 20000 in
theorem gX8_nearBy_X8_isWatched : GoodIn wsX8_nearBy (wsV RX8 245 RX8 yX8_isWatched wsX8_isWatched) := goodIn_s _ [(59, 3), (5, 1), (62, 1), (41, 1), (14, 1), (52, 2), (5, 1), (54, 1), (63, 4), (40, 1), (39, 1), (75, 40)] rfl (by decide +kernel)
set_option maxRecDepth 20000 in
theorem gX8_spoken_X8_good : GoodIn wsX8_spoken (wsV RX8 160 RX8 yX8_good wsX8_good) := goodIn_s _ [(4, 7), (75, 40)] rfl (by decide +kernel)
set_option maxRecDepth 20000 in
theorem gX8_spoken_X8_isFigure : GoodIn wsX8_spoken (wsV RX8 277 RX8 yX8_isFigure wsX8_isFigure) := goodIn_s _ [(11, 3), (7, 1), (14, 5), (7, 1), (19, 1), (75, 40)] rfl (by decide +kernel)
set_option maxRecDepth 20000 in
theorem gX8_spoken_X8_aheadWhy : GoodIn wsX8_spoken (wsV RX8 300 RX8 yX8_aheadWhy wsX8_aheadWhy) := goodIn_s _ [(20, 3), (7, 1), (23, 1), (17, 2), (7, 1), (19, 1), (24, 4)] rfl (by decide +kernel)
set_option maxRecDepth 20000 in
theorem gX8_spoken_X8_no : GoodIn wsX8_spoken (wsV RX8 163 RX8 yX8_no wsX8_no) := goodIn_s _ [(28, 3), (7, 1), (31, 1), (10, 1), (75, 40)] rfl (by decide +kernel)
set_option maxRecDepth 20000 in
theorem gX8_spoken_X8_begin : GoodIn wsX8_spoken (wsV RX8 270 RX8 yX8_begin wsX8_begin) := goodIn_s _ [(32, 3), (7, 1), (35, 2), (1, 1), (37, 3), (7, 1), (40, 1), (16, 1), (41, 6), (75, 40)] rfl (by decide +kernel)
set_option maxRecDepth 20000 in
theorem gX8_spoken_X8_minuteOn : GoodIn wsX8_spoken (wsV RX8 273 RX8 yX8_minuteOn wsX8_minuteOn) := goodIn_s _ [(47, 3), (7, 1), (50, 1), (3, 1), (16, 1), (2, 1), (51, 3), (7, 1), (54, 9), (43, 1), (63, 4), (42, 1), (41, 1), (67, 48)] rfl (by decide +kernel)
set_option maxRecDepth 20000 in
theorem gX8_windBest_X8_good : GoodIn wsX8_windBest (wsV RX8 160 RX8 yX8_good wsX8_good) := goodIn_s _ [(4, 7), (64, 40)] rfl (by decide +kernel)
set_option maxRecDepth 20000 in
theorem gX8_windBest_X8_no : GoodIn wsX8_windBest (wsV RX8 163 RX8 yX8_no wsX8_no) := goodIn_s _ [(11, 3), (7, 1), (14, 1), (10, 1), (64, 40)] rfl (by decide +kernel)
set_option maxRecDepth 20000 in
theorem gX8_windBest_X8_begin : GoodIn wsX8_windBest (wsV RX8 270 RX8 yX8_begin wsX8_begin) := goodIn_s _ [(15, 3), (7, 1), (18, 2), (3, 1), (20, 3), (7, 1), (23, 1), (2, 1), (24, 6), (64, 40)] rfl (by decide +kernel)
set_option maxRecDepth 20000 in
theorem gX8_windBest_X8_nextGone : GoodIn wsX8_windBest (wsV RX8 307 RX8 yX8_nextGone wsX8_nextGone) := goodIn_s _ [(30, 3), (7, 1), (33, 1), (3, 1), (34, 3), (7, 1), (37, 2), (2, 1), (39, 13), (26, 1), (52, 4), (25, 1), (24, 1), (56, 48)] rfl (by decide +kernel)
set_option maxRecDepth 20000 in
theorem gX8_patrol_X8_good : GoodIn wsX8_patrol (wsV RX8 160 RX8 yX8_good wsX8_good) := goodIn_s _ [(6, 7), (75, 40)] rfl (by decide +kernel)
set_option maxRecDepth 20000 in
theorem gX8_patrol_X8_isWatcher : GoodIn wsX8_patrol (wsV RX8 280 RX8 yX8_isWatcher wsX8_isWatcher) := goodIn_s _ [(13, 3), (9, 1), (16, 2), (2, 1), (18, 2), (9, 1), (20, 1), (75, 40)] rfl (by decide +kernel)
set_option maxRecDepth 20000 in
theorem gX8_patrol_X8_in : GoodIn wsX8_patrol (va_wsS RX8 142 yX8_in wsX8_in) := goodIn_s _ [(18, 2), (9, 1), (20, 1)] rfl (by decide +kernel)
set_option maxRecDepth 20000 in
theorem gX8_patrol_X8_why : GoodIn wsX8_patrol (wsV RX8 290 RX8 yX8_why wsX8_why) := goodIn_s _ [(21, 3), (9, 1), (24, 1)] rfl (by decide +kernel)
set_option maxRecDepth 20000 in
theorem gX8_patrol_X8_no : GoodIn wsX8_patrol (wsV RX8 163 RX8 yX8_no wsX8_no) := goodIn_s _ [(25, 3), (9, 1), (28, 1), (12, 1), (75, 40)] rfl (by decide +kernel)
set_option maxRecDepth 20000 in
theorem gX8_patrol_X8_begin : GoodIn wsX8_patrol (wsV RX8 270 RX8 yX8_begin wsX8_begin) := goodIn_s _ [(29, 3), (9, 1), (32, 2), (5, 1), (34, 3), (9, 1), (37, 1), (2, 3), (38, 4), (75, 40)] rfl (by decide +kernel)
set_option maxRecDepth 20000 in
theorem gX8_patrol_X8_minuteOn : GoodIn wsX8_patrol (wsV RX8 273 RX8 yX8_minuteOn wsX8_minuteOn) := goodIn_s _ [(42, 3), (9, 1), (45, 2), (2, 1), (47, 4), (9, 1), (51, 9), (38, 1), (60, 4), (4, 1), (3, 1), (64, 8), (75, 40)] rfl (by decide +kernel)
set_option maxRecDepth 20000 in
theorem gX8_patrol_X8_ones : GoodIn wsX8_patrol (va_wsS RX8 314 yX8_ones wsX8_ones) := goodIn_s _ [(72, 2), (9, 1), (74, 1)] rfl (by decide +kernel)
set_option maxRecDepth 20000 in
theorem gX8_layRoute_X8_begin : GoodIn wsX8_layRoute (wsV RX8 270 RX8 yX8_begin wsX8_begin) := goodIn_s _ [(6, 6), (1, 1), (12, 3), (9, 1), (15, 1), (5, 1), (16, 6), (58, 40)] rfl (by decide +kernel)
set_option maxRecDepth 20000 in
theorem gX8_layRoute_X8_minuteOn : GoodIn wsX8_layRoute (wsV RX8 273 RX8 yX8_minuteOn wsX8_minuteOn) := goodIn_s _ [(22, 3), (9, 1), (25, 2), (5, 1), (27, 1), (3, 1), (28, 2), (9, 1), (30, 9), (18, 1), (39, 4), (17, 1), (16, 1), (43, 8), (58, 40)] rfl (by decide +kernel)
set_option maxRecDepth 20000 in
theorem gX8_layRoute_X8_bestFrom : GoodIn wsX8_layRoute (wsV RX8 317 RX8 yX8_bestFrom wsX8_bestFrom) := goodIn_s _ [(51, 3), (9, 1), (54, 1), (5, 1), (4, 1), (2, 1), (55, 2), (9, 1), (57, 41)] rfl (by decide +kernel)
set_option maxRecDepth 20000 in
theorem gX8_bestFrom_X8_in : GoodIn wsX8_bestFrom (va_wsS RX8 142 yX8_in wsX8_in) := goodIn_s _ [(4, 4)] rfl (by decide +kernel)
set_option maxRecDepth 20000 in
theorem gX8_routeWhy_X8_isFigure : GoodIn wsX8_routeWhy (wsV RX8 277 RX8 yX8_isFigure wsX8_isFigure) := goodIn_s _ [(1, 9), (4, 1), (10, 1), (15, 40)] rfl (by decide +kernel)
set_option maxRecDepth 20000 in
theorem gX8_routeWhy_X8_in : GoodIn wsX8_routeWhy (va_wsS RX8 142 yX8_in wsX8_in) := goodIn_s _ [(8, 2), (4, 1), (10, 1)] rfl (by decide +kernel)
set_option maxRecDepth 20000 in
theorem gX8_routeWhy_X8_why : GoodIn wsX8_routeWhy (wsV RX8 290 RX8 yX8_why wsX8_why) := goodIn_s _ [(11, 3), (4, 1), (14, 1)] rfl (by decide +kernel)
set_option maxRecDepth 20000 in
theorem gX8_route_X8_good : GoodIn wsX8_route (wsV RX8 160 RX8 yX8_good wsX8_good) := goodIn_s _ [(2, 7), (85, 40)] rfl (by decide +kernel)
set_option maxRecDepth 20000 in
theorem gX8_route_X8_routeWhy : GoodIn wsX8_route (wsV RX8 321 RX8 yX8_routeWhy wsX8_routeWhy) := goodIn_s _ [(9, 3), (5, 1), (12, 4), (5, 1), (16, 10), (85, 40)] rfl (by decide +kernel)
set_option maxRecDepth 20000 in
theorem gX8_route_X8_no : GoodIn wsX8_route (wsV RX8 163 RX8 yX8_no wsX8_no) := goodIn_s _ [(26, 3), (5, 1), (29, 1), (8, 1), (85, 40)] rfl (by decide +kernel)
set_option maxRecDepth 20000 in
theorem gX8_route_X8_layRoute : GoodIn wsX8_route (wsV RX8 324 RX8 yX8_layRoute wsX8_layRoute) := goodIn_s _ [(30, 3), (5, 1), (33, 4), (1, 1), (18, 1), (37, 3), (5, 1), (40, 45), (19, 3), (85, 40)] rfl (by decide +kernel)
set_option maxRecDepth 20000 in
theorem gX8_routeAt_X8_good : GoodIn wsX8_routeAt (wsV RX8 160 RX8 yX8_good wsX8_good) := goodIn_s _ [(1, 7), (85, 40)] rfl (by decide +kernel)
set_option maxRecDepth 20000 in
theorem gX8_routeAt_X8_routeWhy : GoodIn wsX8_routeAt (wsV RX8 321 RX8 yX8_routeWhy wsX8_routeWhy) := goodIn_s _ [(8, 3), (4, 1), (11, 4), (4, 1), (15, 10), (85, 40)] rfl (by decide +kernel)
set_option maxRecDepth 20000 in
theorem gX8_routeAt_X8_in : GoodIn wsX8_routeAt (va_wsS RX8 142 yX8_in wsX8_in) := goodIn_s _ [(18, 2), (4, 1), (20, 1)] rfl (by decide +kernel)
set_option maxRecDepth 20000 in
theorem gX8_routeAt_X8_no : GoodIn wsX8_routeAt (wsV RX8 163 RX8 yX8_no wsX8_no) := goodIn_s _ [(25, 3), (4, 1), (28, 1), (7, 1), (85, 40)] rfl (by decide +kernel)
set_option maxRecDepth 20000 in
theorem gX8_routeAt_X8_layRoute : GoodIn wsX8_routeAt (wsV RX8 324 RX8 yX8_layRoute wsX8_layRoute) := goodIn_s _ [(29, 3), (4, 1), (32, 5), (17, 1), (37, 3), (4, 1), (40, 45), (18, 3), (85, 40)] rfl (by decide +kernel)
set_option maxRecDepth 20000 in
theorem gX8_routeAt_X8_bestFrom : GoodIn wsX8_routeAt (wsV RX8 317 RX8 yX8_bestFrom wsX8_bestFrom) := goodIn_s _ [(81, 3), (4, 1), (84, 1), (17, 1), (36, 1), (34, 1), (18, 2), (4, 1), (20, 1), (85, 40)] rfl (by decide +kernel)
set_option maxRecDepth 20000 in
theorem gX8_stand_X8_good : GoodIn wsX8_stand (wsV RX8 160 RX8 yX8_good wsX8_good) := goodIn_s _ [(4, 7), (77, 40)] rfl (by decide +kernel)
set_option maxRecDepth 20000 in
theorem gX8_stand_X8_in : GoodIn wsX8_stand (va_wsS RX8 142 yX8_in wsX8_in) := goodIn_s _ [(11, 2), (7, 1), (13, 1)] rfl (by decide +kernel)
set_option maxRecDepth 20000 in
theorem gX8_stand_X8_why : GoodIn wsX8_stand (wsV RX8 290 RX8 yX8_why wsX8_why) := goodIn_s _ [(14, 3), (7, 1), (17, 1)] rfl (by decide +kernel)
set_option maxRecDepth 20000 in
theorem gX8_stand_X8_no : GoodIn wsX8_stand (wsV RX8 163 RX8 yX8_no wsX8_no) := goodIn_s _ [(18, 3), (7, 1), (21, 1), (10, 1), (77, 40)] rfl (by decide +kernel)
set_option maxRecDepth 20000 in
theorem gX8_stand_X8_layRoute : GoodIn wsX8_stand (wsV RX8 324 RX8 yX8_layRoute wsX8_layRoute) := goodIn_s _ [(22, 3), (7, 1), (25, 4), (3, 1), (2, 1), (29, 3), (7, 1), (32, 45), (11, 3), (77, 40)] rfl (by decide +kernel)
set_option maxRecDepth 20000 in
theorem gX8_guard_X8_good : GoodIn wsX8_guard (wsV RX8 160 RX8 yX8_good wsX8_good) := goodIn_s _ [(6, 7), (70, 40)] rfl (by decide +kernel)
set_option maxRecDepth 20000 in
theorem gX8_guard_X8_in : GoodIn wsX8_guard (va_wsS RX8 142 yX8_in wsX8_in) := goodIn_s _ [(13, 2), (9, 1), (15, 1)] rfl (by decide +kernel)
end P226_good_1
section P226_good_2
set_option maxRecDepth 20000 in
theorem gX8_guard_X8_why : GoodIn wsX8_guard (wsV RX8 290 RX8 yX8_why wsX8_why) := goodIn_s _ [(16, 3), (9, 1), (19, 1)] rfl (by decide +kernel)
set_option maxRecDepth 20000 in
theorem gX8_guard_X8_no : GoodIn wsX8_guard (wsV RX8 163 RX8 yX8_no wsX8_no) := goodIn_s _ [(20, 3), (9, 1), (23, 1), (12, 1), (70, 40)] rfl (by decide +kernel)
set_option maxRecDepth 20000 in
theorem gX8_guard_X8_ones : GoodIn wsX8_guard (va_wsS RX8 314 yX8_ones wsX8_ones) := goodIn_s _ [(24, 2), (9, 1), (26, 1)] rfl (by decide +kernel)
set_option maxRecDepth 20000 in
theorem gX8_guard_X8_begin : GoodIn wsX8_guard (wsV RX8 270 RX8 yX8_begin wsX8_begin) := goodIn_s _ [(27, 3), (9, 1), (30, 1), (5, 1), (4, 1), (31, 3), (9, 1), (34, 1), (2, 1), (35, 2), (3, 1), (37, 3), (70, 40)] rfl (by decide +kernel)
set_option maxRecDepth 20000 in
theorem gX8_guard_X8_minuteOn : GoodIn wsX8_guard (wsV RX8 273 RX8 yX8_minuteOn wsX8_minuteOn) := goodIn_s _ [(40, 3), (9, 1), (43, 2), (2, 1), (45, 4), (9, 1), (49, 9), (3, 1), (58, 4), (36, 1), (35, 1), (62, 48)] rfl (by decide +kernel)
set_option maxRecDepth 20000 in
theorem gX8_byCode_X8_turnBy : GoodIn wsX8_byCode (wsV RX8 327 RX8 yX8_turnBy wsX8_turnBy) := goodIn_s _ [(2, 6), (1, 1), (8, 40)] rfl (by decide +kernel)
set_option maxRecDepth 20000 in
theorem gX8_doesFit_X8_byCode : GoodIn wsX8_doesFit (wsV RX8 331 RX8 yX8_byCode wsX8_byCode) := goodIn_s _ [(2, 5), (1, 1), (7, 3), (5, 1), (10, 42)] rfl (by decide +kernel)
set_option maxRecDepth 20000 in
theorem gX8_fits_X8_good : GoodIn wsX8_fits (wsV RX8 160 RX8 yX8_good wsX8_good) := goodIn_s _ [(2, 7), (31, 40)] rfl (by decide +kernel)
set_option maxRecDepth 20000 in
theorem gX8_fits_X8_no : GoodIn wsX8_fits (wsV RX8 163 RX8 yX8_no wsX8_no) := goodIn_s _ [(9, 3), (5, 1), (12, 1), (8, 1), (31, 40)] rfl (by decide +kernel)
set_option maxRecDepth 20000 in
theorem gX8_fits_X8_codes : GoodIn wsX8_fits (wsV RX8 334 RX8 yX8_codes wsX8_codes) := goodIn_s _ [(13, 3), (5, 1), (16, 2), (31, 40)] rfl (by decide +kernel)
set_option maxRecDepth 20000 in
theorem gX8_fits_X8_doesFit : GoodIn wsX8_fits (wsV RX8 337 RX8 yX8_doesFit wsX8_doesFit) := goodIn_s _ [(18, 3), (5, 1), (21, 1), (17, 1), (22, 3), (5, 1), (25, 46)] rfl (by decide +kernel)
set_option maxRecDepth 20000 in
theorem gX8_fitAt_X8_good : GoodIn wsX8_fitAt (wsV RX8 160 RX8 yX8_good wsX8_good) := goodIn_s _ [(2, 7), (35, 40)] rfl (by decide +kernel)
set_option maxRecDepth 20000 in
theorem gX8_fitAt_X8_no : GoodIn wsX8_fitAt (wsV RX8 163 RX8 yX8_no wsX8_no) := goodIn_s _ [(9, 3), (5, 1), (12, 1), (8, 1), (35, 40)] rfl (by decide +kernel)
set_option maxRecDepth 20000 in
theorem gX8_fitAt_X8_codes : GoodIn wsX8_fitAt (wsV RX8 334 RX8 yX8_codes wsX8_codes) := goodIn_s _ [(13, 3), (5, 1), (16, 2), (35, 40)] rfl (by decide +kernel)
set_option maxRecDepth 20000 in
theorem gX8_fitAt_X8_doesFit : GoodIn wsX8_fitAt (wsV RX8 337 RX8 yX8_doesFit wsX8_doesFit) := goodIn_s _ [(18, 3), (5, 1), (21, 1), (17, 1), (22, 3), (5, 1), (25, 6), (35, 40)] rfl (by decide +kernel)
set_option maxRecDepth 20000 in
theorem gX8_fitAt_X8_numberOf : GoodIn wsX8_fitAt (wsV RX8 340 RX8 yX8_numberOf wsX8_numberOf) := goodIn_s _ [(31, 3), (5, 1), (34, 1), (17, 1), (35, 40)] rfl (by decide +kernel)
set_option maxRecDepth 20000 in
theorem gX8_layOften_X8_codes : GoodIn wsX8_layOften (wsV RX8 334 RX8 yX8_codes wsX8_codes) := goodIn_s _ [(2, 6), (21, 40)] rfl (by decide +kernel)
set_option maxRecDepth 20000 in
theorem gX8_layOften_X8_doesFit : GoodIn wsX8_layOften (wsV RX8 337 RX8 yX8_doesFit wsX8_doesFit) := goodIn_s _ [(8, 3), (5, 1), (11, 1), (7, 1), (12, 3), (5, 1), (15, 46)] rfl (by decide +kernel)
set_option maxRecDepth 20000 in
theorem gX8_layOften_X8_byCode : GoodIn wsX8_layOften (wsV RX8 331 RX8 yX8_byCode wsX8_byCode) := goodIn_s _ [(12, 3), (5, 1), (15, 1), (7, 1), (16, 3), (5, 1), (19, 42)] rfl (by decide +kernel)
set_option maxRecDepth 20000 in
theorem gX8_could_X8_good : GoodIn wsX8_could (wsV RX8 160 RX8 yX8_good wsX8_good) := goodIn_s _ [(4, 7), (43, 40)] rfl (by decide +kernel)
set_option maxRecDepth 20000 in
theorem gX8_could_X8_in : GoodIn wsX8_could (va_wsS RX8 142 yX8_in wsX8_in) := goodIn_s _ [(11, 2), (7, 1), (13, 1)] rfl (by decide +kernel)
set_option maxRecDepth 20000 in
theorem gX8_could_X8_why : GoodIn wsX8_could (wsV RX8 290 RX8 yX8_why wsX8_why) := goodIn_s _ [(14, 3), (7, 1), (17, 1)] rfl (by decide +kernel)
set_option maxRecDepth 20000 in
theorem gX8_could_X8_no : GoodIn wsX8_could (wsV RX8 163 RX8 yX8_no wsX8_no) := goodIn_s _ [(18, 3), (7, 1), (21, 1), (10, 1), (43, 40)] rfl (by decide +kernel)
set_option maxRecDepth 20000 in
theorem gX8_could_X8_layOften : GoodIn wsX8_could (wsV RX8 343 RX8 yX8_layOften wsX8_layOften) := goodIn_s _ [(22, 3), (7, 1), (25, 1), (3, 1), (26, 3), (7, 1), (29, 1), (2, 1), (30, 53)] rfl (by decide +kernel)
set_option maxRecDepth 20000 in
theorem gX8_aliveBy_X8_good : GoodIn wsX8_aliveBy (wsV RX8 160 RX8 yX8_good wsX8_good) := goodIn_s _ [(3, 7), (47, 40)] rfl (by decide +kernel)
set_option maxRecDepth 20000 in
theorem gX8_aliveBy_X8_isFigure : GoodIn wsX8_aliveBy (wsV RX8 277 RX8 yX8_isFigure wsX8_isFigure) := goodIn_s _ [(10, 3), (6, 1), (13, 2), (1, 1), (15, 2), (6, 1), (17, 1), (47, 40)] rfl (by decide +kernel)
set_option maxRecDepth 20000 in
theorem gX8_aliveBy_X8_in : GoodIn wsX8_aliveBy (va_wsS RX8 142 yX8_in wsX8_in) := goodIn_s _ [(15, 2), (6, 1), (17, 1)] rfl (by decide +kernel)
set_option maxRecDepth 20000 in
theorem gX8_aliveBy_X8_why : GoodIn wsX8_aliveBy (wsV RX8 290 RX8 yX8_why wsX8_why) := goodIn_s _ [(18, 3), (6, 1), (21, 1)] rfl (by decide +kernel)
set_option maxRecDepth 20000 in
theorem gX8_aliveBy_X8_no : GoodIn wsX8_aliveBy (wsV RX8 163 RX8 yX8_no wsX8_no) := goodIn_s _ [(22, 3), (6, 1), (25, 1), (9, 1), (47, 40)] rfl (by decide +kernel)
set_option maxRecDepth 20000 in
theorem gX8_aliveBy_X8_layOften : GoodIn wsX8_aliveBy (wsV RX8 343 RX8 yX8_layOften wsX8_layOften) := goodIn_s _ [(26, 3), (6, 1), (29, 1), (2, 1), (30, 3), (6, 1), (33, 1), (1, 1), (34, 53)] rfl (by decide +kernel)
set_option maxRecDepth 20000 in
theorem gX8_lookOf_X8_layOften : GoodIn wsX8_lookOf (wsV RX8 343 RX8 yX8_layOften wsX8_layOften) := goodIn_s _ [(4, 5), (3, 1), (9, 3), (7, 1), (12, 1), (2, 1), (13, 53)] rfl (by decide +kernel)
set_option maxRecDepth 20000 in
theorem gX8_look_X8_good : GoodIn wsX8_look (wsV RX8 160 RX8 yX8_good wsX8_good) := goodIn_s _ [(2, 7), (41, 40)] rfl (by decide +kernel)
set_option maxRecDepth 20000 in
theorem gX8_look_X8_lookOf : GoodIn wsX8_look (wsV RX8 349 RX8 yX8_lookOf wsX8_lookOf) := goodIn_s _ [(9, 3), (5, 1), (12, 7), (5, 1), (19, 18), (41, 40)] rfl (by decide +kernel)
set_option maxRecDepth 20000 in
theorem gX8_look_X8_no : GoodIn wsX8_look (wsV RX8 163 RX8 yX8_no wsX8_no) := goodIn_s _ [(37, 3), (5, 1), (40, 1), (8, 1), (41, 40)] rfl (by decide +kernel)
set_option maxRecDepth 20000 in
theorem gX8_lookLeaves_X8_good : GoodIn wsX8_lookLeaves (wsV RX8 160 RX8 yX8_good wsX8_good) := goodIn_s _ [(3, 7), (41, 40)] rfl (by decide +kernel)
set_option maxRecDepth 20000 in
theorem gX8_lookLeaves_X8_no : GoodIn wsX8_lookLeaves (wsV RX8 163 RX8 yX8_no wsX8_no) := goodIn_s _ [(10, 3), (6, 1), (13, 1), (9, 1), (41, 40)] rfl (by decide +kernel)
set_option maxRecDepth 20000 in
theorem gX8_lookLeaves_X8_lookOf : GoodIn wsX8_lookLeaves (wsV RX8 349 RX8 yX8_lookOf wsX8_lookOf) := goodIn_s _ [(14, 3), (6, 1), (17, 1), (2, 1), (18, 5), (6, 1), (23, 58)] rfl (by decide +kernel)
set_option maxRecDepth 20000 in
theorem gX8_judge_X8_good : GoodIn wsX8_judge (wsV RX8 160 RX8 yX8_good wsX8_good) := goodIn_s _ [(3, 7), (19, 40)] rfl (by decide +kernel)
set_option maxRecDepth 20000 in
theorem gX8_judge_X8_no : GoodIn wsX8_judge (wsV RX8 163 RX8 yX8_no wsX8_no) := goodIn_s _ [(10, 3), (6, 1), (13, 1), (9, 1), (19, 40)] rfl (by decide +kernel)
set_option maxRecDepth 20000 in
theorem gX8_judge_X8_turnBy : GoodIn wsX8_judge (wsV RX8 327 RX8 yX8_turnBy wsX8_turnBy) := goodIn_s _ [(14, 3), (6, 1), (17, 2), (2, 1), (19, 40)] rfl (by decide +kernel)
set_option maxRecDepth 20000 in
theorem gX8_lawsLike_X8_good : GoodIn wsX8_lawsLike (wsV RX8 160 RX8 yX8_good wsX8_good) := goodIn_s _ [(3, 7), (27, 40)] rfl (by decide +kernel)
set_option maxRecDepth 20000 in
theorem gX8_lawsLike_X8_no : GoodIn wsX8_lawsLike (wsV RX8 163 RX8 yX8_no wsX8_no) := goodIn_s _ [(10, 3), (6, 1), (13, 1), (9, 1), (27, 40)] rfl (by decide +kernel)
set_option maxRecDepth 20000 in
theorem gX8_lawsLike_X8_codes : GoodIn wsX8_lawsLike (wsV RX8 334 RX8 yX8_codes wsX8_codes) := goodIn_s _ [(14, 3), (6, 1), (17, 1), (2, 1), (27, 40)] rfl (by decide +kernel)
set_option maxRecDepth 20000 in
theorem gX8_lawsLike_X8_byCode : GoodIn wsX8_lawsLike (wsV RX8 331 RX8 yX8_byCode wsX8_byCode) := goodIn_s _ [(18, 3), (6, 1), (21, 1), (2, 1), (22, 3), (6, 1), (25, 42)] rfl (by decide +kernel)
set_option maxRecDepth 20000 in
theorem gX8_lawsLike_X8_turnBy : GoodIn wsX8_lawsLike (wsV RX8 327 RX8 yX8_turnBy wsX8_turnBy) := goodIn_s _ [(22, 3), (6, 1), (25, 2), (2, 1), (27, 40)] rfl (by decide +kernel)
set_option maxRecDepth 20000 in
theorem gX8_lawFor_X8_good : GoodIn wsX8_lawFor (wsV RX8 160 RX8 yX8_good wsX8_good) := goodIn_s _ [(1, 7), (38, 40)] rfl (by decide +kernel)
set_option maxRecDepth 20000 in
theorem gX8_lawFor_X8_isFigure : GoodIn wsX8_lawFor (wsV RX8 277 RX8 yX8_isFigure wsX8_isFigure) := goodIn_s _ [(8, 3), (4, 1), (11, 5), (4, 1), (16, 1), (38, 40)] rfl (by decide +kernel)
set_option maxRecDepth 20000 in
theorem gX8_lawFor_X8_in : GoodIn wsX8_lawFor (va_wsS RX8 142 yX8_in wsX8_in) := goodIn_s _ [(14, 2), (4, 1), (16, 1)] rfl (by decide +kernel)
set_option maxRecDepth 20000 in
theorem gX8_lawFor_X8_why : GoodIn wsX8_lawFor (wsV RX8 290 RX8 yX8_why wsX8_why) := goodIn_s _ [(17, 3), (4, 1), (20, 1)] rfl (by decide +kernel)
set_option maxRecDepth 20000 in
theorem gX8_lawFor_X8_no : GoodIn wsX8_lawFor (wsV RX8 163 RX8 yX8_no wsX8_no) := goodIn_s _ [(21, 3), (4, 1), (24, 1), (7, 1), (38, 40)] rfl (by decide +kernel)
set_option maxRecDepth 20000 in
theorem gX8_lawFor_X8_byCode : GoodIn wsX8_lawFor (wsV RX8 331 RX8 yX8_byCode wsX8_byCode) := goodIn_s _ [(25, 3), (4, 1), (28, 1), (13, 1), (29, 3), (4, 1), (32, 2), (38, 40)] rfl (by decide +kernel)
set_option maxRecDepth 20000 in
theorem gX8_lawFor_X8_numberOf : GoodIn wsX8_lawFor (wsV RX8 340 RX8 yX8_numberOf wsX8_numberOf) := goodIn_s _ [(34, 3), (4, 1), (37, 1), (13, 1), (38, 40)] rfl (by decide +kernel)
set_option maxRecDepth 20000 in
theorem gX8_dares_X8_good : GoodIn wsX8_dares (wsV RX8 160 RX8 yX8_good wsX8_good) := goodIn_s _ [(3, 6), (2, 1), (22, 40)] rfl (by decide +kernel)
set_option maxRecDepth 20000 in
theorem gX8_dares_X8_in : GoodIn wsX8_dares (va_wsS RX8 142 yX8_in wsX8_in) := goodIn_s _ [(9, 2), (6, 1), (11, 1)] rfl (by decide +kernel)
set_option maxRecDepth 20000 in
theorem gX8_dares_X8_why : GoodIn wsX8_dares (wsV RX8 290 RX8 yX8_why wsX8_why) := goodIn_s _ [(12, 3), (6, 1), (15, 1)] rfl (by decide +kernel)
set_option maxRecDepth 20000 in
theorem gX8_dares_X8_otherHas : GoodIn wsX8_dares (va_wsS RX8 352 yX8_otherHas wsX8_otherHas) := goodIn_s _ [(16, 2), (6, 1), (18, 1)] rfl (by decide +kernel)
set_option maxRecDepth 20000 in
theorem gX8_dares_X8_figureHas : GoodIn wsX8_dares (va_wsS RX8 355 yX8_figureHas wsX8_figureHas) := goodIn_s _ [(19, 2), (6, 1), (21, 1)] rfl (by decide +kernel)
set_option maxRecDepth 20000 in
theorem gX8_seekRests_X8_figureHas : GoodIn wsX8_seekRests (va_wsS RX8 355 yX8_figureHas wsX8_figureHas) := goodIn_s _ [(2, 4)] rfl (by decide +kernel)
set_option maxRecDepth 20000 in
theorem gX8_seekRests_X8_otherHas : GoodIn wsX8_seekRests (va_wsS RX8 352 yX8_otherHas wsX8_otherHas) := goodIn_s _ [(6, 2), (4, 1), (8, 1)] rfl (by decide +kernel)
set_option maxRecDepth 20000 in
theorem gX8_rests_X8_good : GoodIn wsX8_rests (wsV RX8 160 RX8 yX8_good wsX8_good) := goodIn_s _ [(2, 7), (31, 40)] rfl (by decide +kernel)
set_option maxRecDepth 20000 in
theorem gX8_rests_X8_in : GoodIn wsX8_rests (va_wsS RX8 142 yX8_in wsX8_in) := goodIn_s _ [(9, 2), (5, 1), (11, 1)] rfl (by decide +kernel)
set_option maxRecDepth 20000 in
theorem gX8_rests_X8_why : GoodIn wsX8_rests (wsV RX8 290 RX8 yX8_why wsX8_why) := goodIn_s _ [(12, 3), (5, 1), (15, 1)] rfl (by decide +kernel)
set_option maxRecDepth 20000 in
theorem gX8_rests_X8_no : GoodIn wsX8_rests (wsV RX8 163 RX8 yX8_no wsX8_no) := goodIn_s _ [(16, 3), (5, 1), (19, 1), (8, 1), (31, 40)] rfl (by decide +kernel)
set_option maxRecDepth 20000 in
theorem gX8_rests_X8_seekRests : GoodIn wsX8_rests (wsV RX8 362 RX8 yX8_seekRests wsX8_seekRests) := goodIn_s _ [(20, 3), (5, 1), (23, 4), (5, 1), (27, 44)] rfl (by decide +kernel)
set_option maxRecDepth 20000 in
theorem gX8_rest_X8_good : GoodIn wsX8_rest (wsV RX8 160 RX8 yX8_good wsX8_good) := goodIn_s _ [(3, 7), (31, 40)] rfl (by decide +kernel)
set_option maxRecDepth 20000 in
theorem gX8_rest_X8_in : GoodIn wsX8_rest (va_wsS RX8 142 yX8_in wsX8_in) := goodIn_s _ [(10, 2), (6, 1), (12, 1)] rfl (by decide +kernel)
set_option maxRecDepth 20000 in
theorem gX8_rest_X8_why : GoodIn wsX8_rest (wsV RX8 290 RX8 yX8_why wsX8_why) := goodIn_s _ [(13, 3), (6, 1), (16, 1)] rfl (by decide +kernel)
set_option maxRecDepth 20000 in
theorem gX8_rest_X8_no : GoodIn wsX8_rest (wsV RX8 163 RX8 yX8_no wsX8_no) := goodIn_s _ [(17, 3), (6, 1), (20, 1), (9, 1), (31, 40)] rfl (by decide +kernel)
set_option maxRecDepth 20000 in
theorem gX8_rest_X8_seekRests : GoodIn wsX8_rest (wsV RX8 362 RX8 yX8_seekRests wsX8_seekRests) := goodIn_s _ [(21, 3), (6, 1), (24, 1), (2, 1), (25, 2), (6, 1), (27, 44)] rfl (by decide +kernel)
set_option maxRecDepth 20000 in
theorem gX8_turnsOf_X8_goRound : GoodIn wsX8_turnsOf (wsV RX8 294 RX8 yX8_goRound wsX8_goRound) := goodIn_s _ [(1, 12), (4, 1), (13, 2), (19, 40)] rfl (by decide +kernel)
set_option maxRecDepth 20000 in
theorem gX8_turnsOf_X8_turnAt : GoodIn wsX8_turnsOf (wsV RX8 297 RX8 yX8_turnAt wsX8_turnAt) := goodIn_s _ [(15, 3), (4, 1), (18, 1), (8, 1), (7, 1), (9, 1), (19, 40)] rfl (by decide +kernel)
set_option maxRecDepth 20000 in
theorem gX8_odds_X8_good : GoodIn wsX8_odds (wsV RX8 160 RX8 yX8_good wsX8_good) := goodIn_s _ [(3, 7), (49, 40)] rfl (by decide +kernel)
set_option maxRecDepth 20000 in
theorem gX8_odds_X8_isFigure : GoodIn wsX8_odds (wsV RX8 277 RX8 yX8_isFigure wsX8_isFigure) := goodIn_s _ [(10, 3), (6, 1), (13, 2), (2, 1), (15, 2), (6, 1), (17, 1), (49, 40)] rfl (by decide +kernel)
set_option maxRecDepth 20000 in
theorem gX8_odds_X8_in : GoodIn wsX8_odds (va_wsS RX8 142 yX8_in wsX8_in) := goodIn_s _ [(15, 2), (6, 1), (17, 1)] rfl (by decide +kernel)
set_option maxRecDepth 20000 in
theorem gX8_odds_X8_why : GoodIn wsX8_odds (wsV RX8 290 RX8 yX8_why wsX8_why) := goodIn_s _ [(18, 3), (6, 1), (21, 1)] rfl (by decide +kernel)
set_option maxRecDepth 20000 in
theorem gX8_odds_X8_no : GoodIn wsX8_odds (wsV RX8 163 RX8 yX8_no wsX8_no) := goodIn_s _ [(22, 3), (6, 1), (25, 1), (9, 1), (49, 40)] rfl (by decide +kernel)
set_option maxRecDepth 20000 in
theorem gX8_odds_X8_turnsOf : GoodIn wsX8_odds (wsV RX8 365 RX8 yX8_turnsOf wsX8_turnsOf) := goodIn_s _ [(26, 3), (6, 1), (29, 4), (6, 1), (33, 9), (2, 1), (42, 4), (49, 40)] rfl (by decide +kernel)
set_option maxRecDepth 20000 in
theorem gX8_odds_X8_lowest : GoodIn wsX8_odds (va_wsS RX8 370 yX8_lowest wsX8_lowest) := goodIn_s _ [(46, 2), (6, 1), (48, 1)] rfl (by decide +kernel)
set_option maxRecDepth 20000 in
theorem gX8_mean_X8_good : GoodIn wsX8_mean (wsV RX8 160 RX8 yX8_good wsX8_good) := goodIn_s _ [(3, 7), (49, 40)] rfl (by decide +kernel)
set_option maxRecDepth 20000 in
theorem gX8_mean_X8_isFigure : GoodIn wsX8_mean (wsV RX8 277 RX8 yX8_isFigure wsX8_isFigure) := goodIn_s _ [(10, 3), (6, 1), (13, 2), (1, 1), (15, 2), (6, 1), (17, 1), (49, 40)] rfl (by decide +kernel)
set_option maxRecDepth 20000 in
theorem gX8_mean_X8_in : GoodIn wsX8_mean (va_wsS RX8 142 yX8_in wsX8_in) := goodIn_s _ [(15, 2), (6, 1), (17, 1)] rfl (by decide +kernel)
set_option maxRecDepth 20000 in
theorem gX8_mean_X8_why : GoodIn wsX8_mean (wsV RX8 290 RX8 yX8_why wsX8_why) := goodIn_s _ [(18, 3), (6, 1), (21, 1)] rfl (by decide +kernel)
set_option maxRecDepth 20000 in
theorem gX8_mean_X8_no : GoodIn wsX8_mean (wsV RX8 163 RX8 yX8_no wsX8_no) := goodIn_s _ [(22, 3), (6, 1), (25, 1), (9, 1), (49, 40)] rfl (by decide +kernel)
set_option maxRecDepth 20000 in
theorem gX8_mean_X8_turnsOf : GoodIn wsX8_mean (wsV RX8 365 RX8 yX8_turnsOf wsX8_turnsOf) := goodIn_s _ [(26, 3), (6, 1), (29, 4), (6, 1), (33, 9), (1, 1), (42, 4), (49, 40)] rfl (by decide +kernel)
set_option maxRecDepth 20000 in
theorem gX8_mean_X8_lowest : GoodIn wsX8_mean (va_wsS RX8 370 yX8_lowest wsX8_lowest) := goodIn_s _ [(46, 2), (6, 1), (48, 1)] rfl (by decide +kernel)
set_option maxRecDepth 20000 in
theorem gX8_drawWhy_X8_in : GoodIn wsX8_drawWhy (va_wsS RX8 142 yX8_in wsX8_in) := goodIn_s _ [(6, 4)] rfl (by decide +kernel)
set_option maxRecDepth 20000 in
theorem gX8_drawWhy_X8_why : GoodIn wsX8_drawWhy (wsV RX8 290 RX8 yX8_why wsX8_why) := goodIn_s _ [(10, 3), (8, 1), (13, 1)] rfl (by decide +kernel)
set_option maxRecDepth 20000 in
theorem gX8_drawWhy_X8_goRound : GoodIn wsX8_drawWhy (wsV RX8 294 RX8 yX8_goRound wsX8_goRound) := goodIn_s _ [(14, 3), (8, 1), (17, 8), (8, 1), (25, 1), (5, 1), (30, 40)] rfl (by decide +kernel)
set_option maxRecDepth 20000 in
theorem gX8_drawWhy_X8_turnAt : GoodIn wsX8_drawWhy (wsV RX8 297 RX8 yX8_turnAt wsX8_turnAt) := goodIn_s _ [(26, 3), (8, 1), (29, 1), (20, 1), (19, 1), (21, 1), (30, 40)] rfl (by decide +kernel)
set_option maxRecDepth 20000 in
theorem gX8_drawn_X8_good : GoodIn wsX8_drawn (wsV RX8 160 RX8 yX8_good wsX8_good) := goodIn_s _ [(2, 7), (49, 40)] rfl (by decide +kernel)
set_option maxRecDepth 20000 in
theorem gX8_drawn_X8_isFigure : GoodIn wsX8_drawn (wsV RX8 277 RX8 yX8_isFigure wsX8_isFigure) := goodIn_s _ [(9, 3), (5, 1), (12, 5), (5, 1), (17, 1), (49, 40)] rfl (by decide +kernel)
set_option maxRecDepth 20000 in
theorem gX8_drawn_X8_drawWhy : GoodIn wsX8_drawn (wsV RX8 382 RX8 yX8_drawWhy wsX8_drawWhy) := goodIn_s _ [(18, 3), (5, 1), (21, 3), (1, 1), (24, 1), (14, 3), (5, 1), (17, 1), (25, 20), (49, 40)] rfl (by decide +kernel)
set_option maxRecDepth 20000 in
theorem gX8_drawn_X8_no : GoodIn wsX8_drawn (wsV RX8 163 RX8 yX8_no wsX8_no) := goodIn_s _ [(45, 3), (5, 1), (48, 1), (8, 1), (49, 40)] rfl (by decide +kernel)
set_option maxRecDepth 20000 in
theorem gX8_firstShut_X8_good : GoodIn wsX8_firstShut (wsV RX8 160 RX8 yX8_good wsX8_good) := goodIn_s _ [(3, 7), (45, 40)] rfl (by decide +kernel)
set_option maxRecDepth 20000 in
theorem gX8_firstShut_X8_drawWhy : GoodIn wsX8_firstShut (wsV RX8 382 RX8 yX8_drawWhy wsX8_drawWhy) := goodIn_s _ [(10, 3), (6, 1), (13, 2), (2, 1), (15, 5), (6, 1), (20, 21), (45, 40)] rfl (by decide +kernel)
set_option maxRecDepth 20000 in
theorem gX8_firstShut_X8_no : GoodIn wsX8_firstShut (wsV RX8 163 RX8 yX8_no wsX8_no) := goodIn_s _ [(41, 3), (6, 1), (44, 1), (9, 1), (45, 40)] rfl (by decide +kernel)
set_option maxRecDepth 20000 in
theorem gX8_note_X8_copy : GoodIn wsX8_note (va_wsS RX8 169 yX8_copy wsX8_copy) := goodIn_s _ [(4, 4)] rfl (by decide +kernel)
set_option maxRecDepth 20000 in
theorem gX8_go_X8_good : GoodIn wsX8_go (wsV RX8 160 RX8 yX8_good wsX8_good) := goodIn_s _ [(3, 7), (68, 40)] rfl (by decide +kernel)
set_option maxRecDepth 20000 in
theorem gX8_go_X8_in : GoodIn wsX8_go (va_wsS RX8 142 yX8_in wsX8_in) := goodIn_s _ [(10, 2), (6, 1), (12, 1)] rfl (by decide +kernel)
set_option maxRecDepth 20000 in
theorem gX8_go_X8_why : GoodIn wsX8_go (wsV RX8 290 RX8 yX8_why wsX8_why) := goodIn_s _ [(13, 3), (6, 1), (16, 1)] rfl (by decide +kernel)
set_option maxRecDepth 20000 in
theorem gX8_go_X8_no : GoodIn wsX8_go (wsV RX8 163 RX8 yX8_no wsX8_no) := goodIn_s _ [(17, 3), (6, 1), (20, 1), (9, 1), (68, 40)] rfl (by decide +kernel)
set_option maxRecDepth 20000 in
theorem gX8_go_X8_note : GoodIn wsX8_go (wsV RX8 386 RX8 yX8_note wsX8_note) := goodIn_s _ [(21, 3), (6, 1), (24, 3), (2, 1), (27, 2), (6, 1), (29, 1), (68, 40)] rfl (by decide +kernel)
set_option maxRecDepth 20000 in
theorem gX8_go_X8_watchAsTold : GoodIn wsX8_go (wsV RX8 267 RX8 yX8_watchAsTold wsX8_watchAsTold) := goodIn_s _ [(30, 3), (6, 1), (33, 5), (68, 40)] rfl (by decide +kernel)
set_option maxRecDepth 20000 in
theorem gX8_go_X8_minuteOn : GoodIn wsX8_go (wsV RX8 273 RX8 yX8_minuteOn wsX8_minuteOn) := goodIn_s _ [(38, 3), (6, 1), (41, 2), (34, 1), (43, 4), (6, 1), (47, 9), (37, 1), (56, 4), (36, 1), (35, 1), (60, 48)] rfl (by decide +kernel)
set_option maxRecDepth 20000 in
theorem gX8_put_X8_good : GoodIn wsX8_put (wsV RX8 160 RX8 yX8_good wsX8_good) := goodIn_s _ [(2, 7), (34, 40)] rfl (by decide +kernel)
set_option maxRecDepth 20000 in
theorem gX8_put_X8_isFigure : GoodIn wsX8_put (wsV RX8 277 RX8 yX8_isFigure wsX8_isFigure) := goodIn_s _ [(9, 3), (5, 1), (12, 5), (5, 1), (17, 1), (34, 40)] rfl (by decide +kernel)
set_option maxRecDepth 20000 in
theorem gX8_put_X8_no : GoodIn wsX8_put (wsV RX8 163 RX8 yX8_no wsX8_no) := goodIn_s _ [(18, 3), (5, 1), (21, 1), (8, 1), (34, 40)] rfl (by decide +kernel)
set_option maxRecDepth 20000 in
theorem gX8_put_X8_hasBit : GoodIn wsX8_put (va_wsS RX8 238 yX8_hasBit wsX8_hasBit) := goodIn_s _ [(22, 2), (5, 1), (24, 1)] rfl (by decide +kernel)
set_option maxRecDepth 20000 in
theorem gX8_put_X8_note : GoodIn wsX8_put (wsV RX8 386 RX8 yX8_note wsX8_note) := goodIn_s _ [(25, 3), (5, 1), (28, 3), (1, 1), (31, 2), (5, 1), (33, 41)] rfl (by decide +kernel)
set_option maxRecDepth 20000 in
theorem gX8_wind_X8_good : GoodIn wsX8_wind (wsV RX8 160 RX8 yX8_good wsX8_good) := goodIn_s _ [(2, 7), (31, 40)] rfl (by decide +kernel)
set_option maxRecDepth 20000 in
theorem gX8_wind_X8_isFigure : GoodIn wsX8_wind (wsV RX8 277 RX8 yX8_isFigure wsX8_isFigure) := goodIn_s _ [(9, 3), (5, 1), (12, 5), (5, 1), (17, 1), (31, 40)] rfl (by decide +kernel)
set_option maxRecDepth 20000 in
theorem gX8_wind_X8_no : GoodIn wsX8_wind (wsV RX8 163 RX8 yX8_no wsX8_no) := goodIn_s _ [(18, 3), (5, 1), (21, 1), (8, 1), (31, 40)] rfl (by decide +kernel)
set_option maxRecDepth 20000 in
theorem gX8_wind_X8_note : GoodIn wsX8_wind (wsV RX8 386 RX8 yX8_note wsX8_note) := goodIn_s _ [(22, 3), (5, 1), (25, 3), (1, 1), (28, 2), (5, 1), (30, 41)] rfl (by decide +kernel)
set_option maxRecDepth 20000 in
theorem gX8_undo_X8_good : GoodIn wsX8_undo (wsV RX8 160 RX8 yX8_good wsX8_good) := goodIn_s _ [(4, 7), (18, 40)] rfl (by decide +kernel)
set_option maxRecDepth 20000 in
theorem gX8_undo_X8_isNot : GoodIn wsX8_undo (wsV RX8 389 RX8 yX8_isNot wsX8_isNot) := goodIn_s _ [(11, 3), (7, 1), (14, 1), (10, 1), (18, 40)] rfl (by decide +kernel)
set_option maxRecDepth 20000 in
theorem gX8_undo_X8_copy : GoodIn wsX8_undo (va_wsS RX8 169 yX8_copy wsX8_copy) := goodIn_s _ [(15, 2), (7, 1), (17, 1)] rfl (by decide +kernel)
set_option maxRecDepth 20000 in
theorem gX8_image_X8_good : GoodIn wsX8_image (wsV RX8 160 RX8 yX8_good wsX8_good) := goodIn_s _ [(5, 7), (19, 40)] rfl (by decide +kernel)
set_option maxRecDepth 20000 in
theorem gX8_image_X8_no : GoodIn wsX8_image (wsV RX8 163 RX8 yX8_no wsX8_no) := goodIn_s _ [(12, 3), (8, 1), (15, 1), (11, 1), (19, 40)] rfl (by decide +kernel)
set_option maxRecDepth 20000 in
theorem gX8_image_X8_copy : GoodIn wsX8_image (va_wsS RX8 169 yX8_copy wsX8_copy) := goodIn_s _ [(16, 2), (8, 1), (18, 1)] rfl (by decide +kernel)
set_option maxRecDepth 20000 in
theorem gX8_back_X8_good : GoodIn wsX8_back (wsV RX8 160 RX8 yX8_good wsX8_good) := goodIn_s _ [(5, 7), (22, 40)] rfl (by decide +kernel)
end P226_good_2
section P226_good_3
set_option maxRecDepth 20000 in
theorem gX8_back_X8_in : GoodIn wsX8_back (va_wsS RX8 142 yX8_in wsX8_in) := goodIn_s _ [(12, 2), (8, 1), (14, 1)] rfl (by decide +kernel)
set_option maxRecDepth 20000 in
theorem gX8_back_X8_isNot : GoodIn wsX8_back (wsV RX8 389 RX8 yX8_isNot wsX8_isNot) := goodIn_s _ [(15, 3), (8, 1), (18, 1), (11, 1), (22, 40)] rfl (by decide +kernel)
set_option maxRecDepth 20000 in
theorem gX8_back_X8_copy : GoodIn wsX8_back (va_wsS RX8 169 yX8_copy wsX8_copy) := goodIn_s _ [(19, 2), (8, 1), (21, 1)] rfl (by decide +kernel)
set_option maxRecDepth 20000 in
theorem gX8_size_X8_in : GoodIn wsX8_size (va_wsS RX8 142 yX8_in wsX8_in) := goodIn_s _ [(8, 4)] rfl (by decide +kernel)
end P226_good_3
section P230_00_safe
set_option maxHeartbeats 4000000 in
set_option maxRecDepth 100000 in
theorem c_X8_copy_23_23 (l : Launch) (dC : Nat → ClassId) (dI : Nat → Nat → Nat) (sz : Nat) (a1 : Nat) (a2 : Int32) (a3 : Nat) (a4 : Int32) (a5 : Int32) (ka1 : ClassId) (fa1 : Nat → Int32) (ka3 : ClassId) (fa3 : Nat → Int32) (ba2_l : (0 : Int) ≤ a2.toInt) (ba2_u : a2.toInt ≤ (0 : Int)) (ba4_l : (0 : Int) ≤ a4.toInt) (ba4_u : a4.toInt ≤ (0 : Int)) (ba5_l : (23 : Int) ≤ a5.toInt) (ba5_u : a5.toInt ≤ (23 : Int)) : zm l yX8_copy wsX8_copy ({ frames := 0, cells := 0, slots := 0, locals := 0 }) [.ref a1, .int a2, .ref a3, .int a4, .int a5] dC dI sz [(a1, .inl (ka1, 23, .inl (fa1))), (a3, .inl (ka3, 23, .inl (fa3)))] [(ka1, .int), (ka3, .int)] (fun A _ => True) (fun A => va_Qv (fun (_ : Unit) => True) (fun (_ : Unit) (t : State) => ∃ nfa3 : Nat → Int32, nfa3 = va_cpy fa1 fa3 a2.toNatClampNeg a4.toNatClampNeg 23 ∧ ax_B dC dI A [(a1, .inl (ka1, 23, .inl (fa1))), (a3, .inl (ka3, 23, .inl (nfa3)))] [(ka1, .int), (ka3, .int)] t) A) := by
  refine zh (cc := cX8_copy) (maxL := 6) (ret := none) zn_RX8 rfl (Nat.le_of_ble_eq_true rfl) (fun p e s m below meth c A ls hx hb hml hr hts (hown : s.vm.findClass RX8 = some m.cls) hlocks hA hS hP hK hD hE (hl : lv_has ls 6 [(0, .ref a1), (1, .int a2), (2, .ref a3), (3, .int a4), (4, .int a5)]) => ?_)
  refine ai_open (fun K hK0 => ?_)
  refine (hK0 _ _ _).mpr ?_
  refine lv_iconst (v := 0) hx hb dX8_copy_0 zk_iconst_0 ?_
  refine lv_istore (lv' := [(5, .int 0), (0, .ref a1), (1, .int a2), (2, .ref a3), (3, .int a4), (4, .int a5)]) hx hb dX8_copy_1 hl (by decide) rfl (fun ls hl => ?_)
  have J3 : ∀ (n : Nat) (j3l5 : Int32) (j3a3_a : Nat → Int32) (H : Heap) (locs : List Loc) (ls : Array Slot), (24 : Int) - j3l5.toInt ≤ (n : Int) → (0 : Int) ≤ j3l5.toInt → j3l5.toInt ≤ (23 : Int) → (j3a3_a = va_cpy fa1 fa3 a2.toNatClampNeg a4.toNatClampNeg j3l5.toNatClampNeg) → va_P (dC, dI) vwCl [(a1, .inl (ka1, 23, .inl (fa1))), (a3, .inl (ka3, 23, .inl (j3a3_a)))] H → va_D A [(a1, .inl (ka1, 23, .inl (fa1))), (a3, .inl (ka3, 23, .inl (j3a3_a)))] → va_S A s.heap H locs → lv_has ls 6 [(0, .ref a1), (1, .int a2), (2, .ref a3), (3, .int a4), (4, .int a5), (5, .int j3l5)] → K H locs (F0 m 3 ls []) := by
    intro n
    induction n with
    | zero =>
      intro j3l5 j3a3_a H locs ls hm bj3l5_l bj3l5_u cpy3 hP hD hS hl
      have h8 := ai_min j3l5
      have h9 := ai_max j3l5
      exact absurd hm (by omega)
    | succ n ih3 =>
      intro j3l5 j3a3_a H locs ls hm bj3l5_l bj3l5_u cpy3 hP hD hS hl
      refine (hK0 _ _ _).mpr ?_
      have hm3 := hm
      refine lv_iload hx hb dX8_copy_3 (lv_at hl 5 rfl) ?_
      refine lv_iload hx hb dX8_copy_5 (lv_at hl 4 rfl) ?_
      refine lv_icmp_ge (tgt := 28) hx hb dX8_copy_7 (by decide) (fun c7 => ?_) (fun c7 => ?_)
      · have gc7 := ai_le c7
        have u7t_a5 : a5.toInt ≤ (23 : Int) := ba5_u
        have l7t_j3l5 : (23 : Int) ≤ j3l5.toInt := Int.le_trans ba5_l gc7
        exact W.vret hx hb hr (fun t ht hW => ⟨⟨(), rfl, trivial, j3a3_a, (cpy3.trans (congrArg (va_cpy fa1 fa3 a2.toNatClampNeg a4.toNatClampNeg) (cp_e (n := 23) (by omega)))), by rw [ht]; exact hP, va_K.moved hW.alike hK, hD⟩, hS.F ht⟩) hS.2.2 dX8_copy_28
      · have gc7 := ai_nle c7
        have u7f_j3l5 : j3l5.toInt ≤ (22 : Int) := ai_lthi gc7 ba5_u
        have l7f_a5 : (23 : Int) ≤ a5.toInt := ba5_l
        refine lv_aload_n hx hb dX8_copy_10 rfl (lv_at hl 2 rfl) ?_
        refine lv_iload_n hx hb dX8_copy_11 rfl (lv_at hl 3 rfl) ?_
        refine lv_iload hx hb dX8_copy_12 (lv_at hl 5 rfl) ?_
        refine lv_iadd hx hb dX8_copy_14 ?_
        refine lv_topi (fun x14 ex14 => ?_)
        have qx14 : x14.toInt = a4.toInt + j3l5.toInt := ai_add ex14 ⟨ba4_l, ba4_u⟩ ⟨bj3l5_l, u7f_j3l5⟩ (by decide) (by decide)
        have bx14 : (0 : Int) ≤ x14.toInt ∧ x14.toInt ≤ 22 := ⟨by rw [qx14]; exact Int.add_le_add ba4_l bj3l5_l, by rw [qx14]; exact Int.add_le_add ba4_u u7f_j3l5⟩
        refine lv_aload_n hx hb dX8_copy_15 rfl (lv_at hl 0 rfl) ?_
        refine lv_iload_n hx hb dX8_copy_16 rfl (lv_at hl 1 rfl) ?_
        refine lv_iload hx hb dX8_copy_17 (lv_at hl 5 rfl) ?_
        refine lv_iadd hx hb dX8_copy_19 ?_
        refine lv_topi (fun x19 ex19 => ?_)
        have qx19 : x19.toInt = a2.toInt + j3l5.toInt := ai_add ex19 ⟨ba2_l, ba2_u⟩ ⟨bj3l5_l, u7f_j3l5⟩ (by decide) (by decide)
        have bx19 : (0 : Int) ≤ x19.toInt ∧ x19.toInt ≤ 22 := ⟨by rw [qx19]; exact Int.add_le_add ba2_l bj3l5_l, by rw [qx19]; exact Int.add_le_add ba2_u u7f_j3l5⟩
        refine va_iald hx hb hK hP 0 0 rfl rfl (ai_in bx19.1 bx19.2 (by decide) (by decide)) dX8_copy_20 ?_
        refine lv_topi (fun x20 ex20 => ?_)
        refine va_iast hx hb hK hP hD hS 1 1 rfl rfl (ai_in bx14.1 bx14.2 (by decide) (by decide)) dX8_copy_21 (fun H locs hP hD hS => ?_)
        obtain ⟨f21, ef21, hP, hD⟩ : ∃ g9 : Nat → Int32, g9 = upd j3a3_a (x14 : Int32).toNatClampNeg x20 ∧ va_P (dC, dI) vwCl [(a1, .inl (ka1, 23, .inl (fa1))), (a3, .inl (ka3, 23, .inl (g9)))] H ∧ va_D A [(a1, .inl (ka1, 23, .inl (fa1))), (a3, .inl (ka3, 23, .inl (g9)))] := ⟨_, rfl, hP, hD⟩
        obtain ⟨x22, ex22⟩ : ∃ y : Int32, y = j3l5 + Int32.ofInt 1 := ⟨_, rfl⟩
        have qx22 : x22.toInt = j3l5.toInt + 1 := ai_inc ex22 (by decide) (by decide) u7f_j3l5 (by decide)
        have bx22 : (1 : Int) ≤ x22.toInt ∧ x22.toInt ≤ 23 := ⟨by rw [qx22]; exact Int.add_le_add bj3l5_l (Int.le_refl _), by rw [qx22]; exact Int.add_le_add u7f_j3l5 (Int.le_refl _)⟩
        refine lv_iinc (v := x22) (lv' := [(5, .int x22), (0, .ref a1), (1, .int a2), (2, .ref a3), (3, .int a4), (4, .int a5)]) hx hb dX8_copy_22 hl (k := 5) rfl ex22.symm (by decide) rfl (fun ls hl => ?_)
        refine lv_goto (tgt := 3) hx hb dX8_copy_25 (by decide) ?_
        exact (hK0 _ _ _).mp (ih3 x22 f21 _ _ _ (by have h0 := qx22; omega) (Int.le_trans zq4 bx22.1) bx22.2 (cp_s cpy3 ef21 ex20 (cp_i qx14 ba4_l bj3l5_l) (cp_i qx19 ba2_l bj3l5_l) (cp_k qx22 bj3l5_l)) hP hD hS (lv_sub hl [1, 2, 3, 4, 5, 0] rfl))
  exact (hK0 _ _ _).mp (J3 24 0 fa3 _ _ _ (by have h1 : (0 : Int) ≤ (0 : Int32).toInt := zq5; have h2 : (0 : Int32).toInt ≤ (0 : Int) := zq6; omega) zq5 (Int.le_trans zq6 zq164) (cp_0 (by decide)) hP hD hS (lv_sub hl [1, 2, 3, 4, 5, 0] rfl))

set_option maxHeartbeats 4000000 in
set_option maxRecDepth 100000 in
theorem c_X8_copy_23_368 (l : Launch) (dC : Nat → ClassId) (dI : Nat → Nat → Nat) (sz : Nat) (a1 : Nat) (a2 : Int32) (a3 : Nat) (a4 : Int32) (a5 : Int32) (ka1 : ClassId) (fa1 : Nat → Int32) (ka3 : ClassId) (fa3 : Nat → Int32) (ba2_l : (0 : Int) ≤ a2.toInt) (ba2_u : a2.toInt ≤ (0 : Int)) (ba4_l : (0 : Int) ≤ a4.toInt) (ba4_u : a4.toInt ≤ (345 : Int)) (ba5_l : (23 : Int) ≤ a5.toInt) (ba5_u : a5.toInt ≤ (23 : Int)) : zm l yX8_copy wsX8_copy ({ frames := 0, cells := 0, slots := 0, locals := 0 }) [.ref a1, .int a2, .ref a3, .int a4, .int a5] dC dI sz [(a1, .inl (ka1, 23, .inl (fa1))), (a3, .inl (ka3, 368, .inl (fa3)))] [(ka1, .int), (ka3, .int)] (fun A _ => True) (fun A => va_Qv (fun (_ : Unit) => True) (fun (_ : Unit) (t : State) => ∃ nfa3 : Nat → Int32, nfa3 = va_cpy fa1 fa3 a2.toNatClampNeg a4.toNatClampNeg 23 ∧ ax_B dC dI A [(a1, .inl (ka1, 23, .inl (fa1))), (a3, .inl (ka3, 368, .inl (nfa3)))] [(ka1, .int), (ka3, .int)] t) A) := by
  refine zh (cc := cX8_copy) (maxL := 6) (ret := none) zn_RX8 rfl (Nat.le_of_ble_eq_true rfl) (fun p e s m below meth c A ls hx hb hml hr hts (hown : s.vm.findClass RX8 = some m.cls) hlocks hA hS hP hK hD hE (hl : lv_has ls 6 [(0, .ref a1), (1, .int a2), (2, .ref a3), (3, .int a4), (4, .int a5)]) => ?_)
  refine ai_open (fun K hK0 => ?_)
  refine (hK0 _ _ _).mpr ?_
  refine lv_iconst (v := 0) hx hb dX8_copy_0 zk_iconst_0 ?_
  refine lv_istore (lv' := [(5, .int 0), (0, .ref a1), (1, .int a2), (2, .ref a3), (3, .int a4), (4, .int a5)]) hx hb dX8_copy_1 hl (by decide) rfl (fun ls hl => ?_)
  have J3 : ∀ (n : Nat) (j3l5 : Int32) (j3a3_a : Nat → Int32) (H : Heap) (locs : List Loc) (ls : Array Slot), (24 : Int) - j3l5.toInt ≤ (n : Int) → (0 : Int) ≤ j3l5.toInt → j3l5.toInt ≤ (23 : Int) → (j3a3_a = va_cpy fa1 fa3 a2.toNatClampNeg a4.toNatClampNeg j3l5.toNatClampNeg) → va_P (dC, dI) vwCl [(a1, .inl (ka1, 23, .inl (fa1))), (a3, .inl (ka3, 368, .inl (j3a3_a)))] H → va_D A [(a1, .inl (ka1, 23, .inl (fa1))), (a3, .inl (ka3, 368, .inl (j3a3_a)))] → va_S A s.heap H locs → lv_has ls 6 [(0, .ref a1), (1, .int a2), (2, .ref a3), (3, .int a4), (4, .int a5), (5, .int j3l5)] → K H locs (F0 m 3 ls []) := by
    intro n
    induction n with
    | zero =>
      intro j3l5 j3a3_a H locs ls hm bj3l5_l bj3l5_u cpy3 hP hD hS hl
      have h8 := ai_min j3l5
      have h9 := ai_max j3l5
      exact absurd hm (by omega)
    | succ n ih3 =>
      intro j3l5 j3a3_a H locs ls hm bj3l5_l bj3l5_u cpy3 hP hD hS hl
      refine (hK0 _ _ _).mpr ?_
      have hm3 := hm
      refine lv_iload hx hb dX8_copy_3 (lv_at hl 5 rfl) ?_
      refine lv_iload hx hb dX8_copy_5 (lv_at hl 4 rfl) ?_
      refine lv_icmp_ge (tgt := 28) hx hb dX8_copy_7 (by decide) (fun c7 => ?_) (fun c7 => ?_)
      · have gc7 := ai_le c7
        have u7t_a5 : a5.toInt ≤ (23 : Int) := ba5_u
        have l7t_j3l5 : (23 : Int) ≤ j3l5.toInt := Int.le_trans ba5_l gc7
        exact W.vret hx hb hr (fun t ht hW => ⟨⟨(), rfl, trivial, j3a3_a, (cpy3.trans (congrArg (va_cpy fa1 fa3 a2.toNatClampNeg a4.toNatClampNeg) (cp_e (n := 23) (by omega)))), by rw [ht]; exact hP, va_K.moved hW.alike hK, hD⟩, hS.F ht⟩) hS.2.2 dX8_copy_28
      · have gc7 := ai_nle c7
        have u7f_j3l5 : j3l5.toInt ≤ (22 : Int) := ai_lthi gc7 ba5_u
        have l7f_a5 : (23 : Int) ≤ a5.toInt := ba5_l
        refine lv_aload_n hx hb dX8_copy_10 rfl (lv_at hl 2 rfl) ?_
        refine lv_iload_n hx hb dX8_copy_11 rfl (lv_at hl 3 rfl) ?_
        refine lv_iload hx hb dX8_copy_12 (lv_at hl 5 rfl) ?_
        refine lv_iadd hx hb dX8_copy_14 ?_
        refine lv_topi (fun x14 ex14 => ?_)
        have qx14 : x14.toInt = a4.toInt + j3l5.toInt := ai_add ex14 ⟨ba4_l, ba4_u⟩ ⟨bj3l5_l, u7f_j3l5⟩ (by decide) (by decide)
        have bx14 : (0 : Int) ≤ x14.toInt ∧ x14.toInt ≤ 367 := ⟨by rw [qx14]; exact Int.add_le_add ba4_l bj3l5_l, by rw [qx14]; exact Int.add_le_add ba4_u u7f_j3l5⟩
        refine lv_aload_n hx hb dX8_copy_15 rfl (lv_at hl 0 rfl) ?_
        refine lv_iload_n hx hb dX8_copy_16 rfl (lv_at hl 1 rfl) ?_
        refine lv_iload hx hb dX8_copy_17 (lv_at hl 5 rfl) ?_
        refine lv_iadd hx hb dX8_copy_19 ?_
        refine lv_topi (fun x19 ex19 => ?_)
        have qx19 : x19.toInt = a2.toInt + j3l5.toInt := ai_add ex19 ⟨ba2_l, ba2_u⟩ ⟨bj3l5_l, u7f_j3l5⟩ (by decide) (by decide)
        have bx19 : (0 : Int) ≤ x19.toInt ∧ x19.toInt ≤ 22 := ⟨by rw [qx19]; exact Int.add_le_add ba2_l bj3l5_l, by rw [qx19]; exact Int.add_le_add ba2_u u7f_j3l5⟩
        refine va_iald hx hb hK hP 0 0 rfl rfl (ai_in bx19.1 bx19.2 (by decide) (by decide)) dX8_copy_20 ?_
        refine lv_topi (fun x20 ex20 => ?_)
        refine va_iast hx hb hK hP hD hS 1 1 rfl rfl (ai_in bx14.1 bx14.2 (by decide) (by decide)) dX8_copy_21 (fun H locs hP hD hS => ?_)
        obtain ⟨f21, ef21, hP, hD⟩ : ∃ g9 : Nat → Int32, g9 = upd j3a3_a (x14 : Int32).toNatClampNeg x20 ∧ va_P (dC, dI) vwCl [(a1, .inl (ka1, 23, .inl (fa1))), (a3, .inl (ka3, 368, .inl (g9)))] H ∧ va_D A [(a1, .inl (ka1, 23, .inl (fa1))), (a3, .inl (ka3, 368, .inl (g9)))] := ⟨_, rfl, hP, hD⟩
        obtain ⟨x22, ex22⟩ : ∃ y : Int32, y = j3l5 + Int32.ofInt 1 := ⟨_, rfl⟩
        have qx22 : x22.toInt = j3l5.toInt + 1 := ai_inc ex22 (by decide) (by decide) u7f_j3l5 (by decide)
        have bx22 : (1 : Int) ≤ x22.toInt ∧ x22.toInt ≤ 23 := ⟨by rw [qx22]; exact Int.add_le_add bj3l5_l (Int.le_refl _), by rw [qx22]; exact Int.add_le_add u7f_j3l5 (Int.le_refl _)⟩
        refine lv_iinc (v := x22) (lv' := [(5, .int x22), (0, .ref a1), (1, .int a2), (2, .ref a3), (3, .int a4), (4, .int a5)]) hx hb dX8_copy_22 hl (k := 5) rfl ex22.symm (by decide) rfl (fun ls hl => ?_)
        refine lv_goto (tgt := 3) hx hb dX8_copy_25 (by decide) ?_
        exact (hK0 _ _ _).mp (ih3 x22 f21 _ _ _ (by have h0 := qx22; omega) (Int.le_trans zq4 bx22.1) bx22.2 (cp_s cpy3 ef21 ex20 (cp_i qx14 ba4_l bj3l5_l) (cp_i qx19 ba2_l bj3l5_l) (cp_k qx22 bj3l5_l)) hP hD hS (lv_sub hl [1, 2, 3, 4, 5, 0] rfl))
  exact (hK0 _ _ _).mp (J3 24 0 fa3 _ _ _ (by have h1 : (0 : Int) ≤ (0 : Int32).toInt := zq5; have h2 : (0 : Int32).toInt ≤ (0 : Int) := zq6; omega) zq5 (Int.le_trans zq6 zq164) (cp_0 (by decide)) hP hD hS (lv_sub hl [1, 2, 3, 4, 5, 0] rfl))

set_option maxHeartbeats 4000000 in
set_option maxRecDepth 100000 in
theorem c_X8_copy_368_23 (l : Launch) (dC : Nat → ClassId) (dI : Nat → Nat → Nat) (sz : Nat) (a1 : Nat) (a2 : Int32) (a3 : Nat) (a4 : Int32) (a5 : Int32) (ka1 : ClassId) (fa1 : Nat → Int32) (ka3 : ClassId) (fa3 : Nat → Int32) (ba2_l : (0 : Int) ≤ a2.toInt) (ba2_u : a2.toInt ≤ (345 : Int)) (ba4_l : (0 : Int) ≤ a4.toInt) (ba4_u : a4.toInt ≤ (0 : Int)) (ba5_l : (23 : Int) ≤ a5.toInt) (ba5_u : a5.toInt ≤ (23 : Int)) : zm l yX8_copy wsX8_copy ({ frames := 0, cells := 0, slots := 0, locals := 0 }) [.ref a1, .int a2, .ref a3, .int a4, .int a5] dC dI sz [(a1, .inl (ka1, 368, .inl (fa1))), (a3, .inl (ka3, 23, .inl (fa3)))] [(ka1, .int), (ka3, .int)] (fun A _ => True) (fun A => va_Qv (fun (_ : Unit) => True) (fun (_ : Unit) (t : State) => ∃ nfa3 : Nat → Int32, nfa3 = va_cpy fa1 fa3 a2.toNatClampNeg a4.toNatClampNeg 23 ∧ ax_B dC dI A [(a1, .inl (ka1, 368, .inl (fa1))), (a3, .inl (ka3, 23, .inl (nfa3)))] [(ka1, .int), (ka3, .int)] t) A) := by
  refine zh (cc := cX8_copy) (maxL := 6) (ret := none) zn_RX8 rfl (Nat.le_of_ble_eq_true rfl) (fun p e s m below meth c A ls hx hb hml hr hts (hown : s.vm.findClass RX8 = some m.cls) hlocks hA hS hP hK hD hE (hl : lv_has ls 6 [(0, .ref a1), (1, .int a2), (2, .ref a3), (3, .int a4), (4, .int a5)]) => ?_)
  refine ai_open (fun K hK0 => ?_)
  refine (hK0 _ _ _).mpr ?_
  refine lv_iconst (v := 0) hx hb dX8_copy_0 zk_iconst_0 ?_
  refine lv_istore (lv' := [(5, .int 0), (0, .ref a1), (1, .int a2), (2, .ref a3), (3, .int a4), (4, .int a5)]) hx hb dX8_copy_1 hl (by decide) rfl (fun ls hl => ?_)
  have J3 : ∀ (n : Nat) (j3l5 : Int32) (j3a3_a : Nat → Int32) (H : Heap) (locs : List Loc) (ls : Array Slot), (24 : Int) - j3l5.toInt ≤ (n : Int) → (0 : Int) ≤ j3l5.toInt → j3l5.toInt ≤ (23 : Int) → (j3a3_a = va_cpy fa1 fa3 a2.toNatClampNeg a4.toNatClampNeg j3l5.toNatClampNeg) → va_P (dC, dI) vwCl [(a1, .inl (ka1, 368, .inl (fa1))), (a3, .inl (ka3, 23, .inl (j3a3_a)))] H → va_D A [(a1, .inl (ka1, 368, .inl (fa1))), (a3, .inl (ka3, 23, .inl (j3a3_a)))] → va_S A s.heap H locs → lv_has ls 6 [(0, .ref a1), (1, .int a2), (2, .ref a3), (3, .int a4), (4, .int a5), (5, .int j3l5)] → K H locs (F0 m 3 ls []) := by
    intro n
    induction n with
    | zero =>
      intro j3l5 j3a3_a H locs ls hm bj3l5_l bj3l5_u cpy3 hP hD hS hl
      have h8 := ai_min j3l5
      have h9 := ai_max j3l5
      exact absurd hm (by omega)
    | succ n ih3 =>
      intro j3l5 j3a3_a H locs ls hm bj3l5_l bj3l5_u cpy3 hP hD hS hl
      refine (hK0 _ _ _).mpr ?_
      have hm3 := hm
      refine lv_iload hx hb dX8_copy_3 (lv_at hl 5 rfl) ?_
      refine lv_iload hx hb dX8_copy_5 (lv_at hl 4 rfl) ?_
      refine lv_icmp_ge (tgt := 28) hx hb dX8_copy_7 (by decide) (fun c7 => ?_) (fun c7 => ?_)
      · have gc7 := ai_le c7
        have u7t_a5 : a5.toInt ≤ (23 : Int) := ba5_u
        have l7t_j3l5 : (23 : Int) ≤ j3l5.toInt := Int.le_trans ba5_l gc7
        exact W.vret hx hb hr (fun t ht hW => ⟨⟨(), rfl, trivial, j3a3_a, (cpy3.trans (congrArg (va_cpy fa1 fa3 a2.toNatClampNeg a4.toNatClampNeg) (cp_e (n := 23) (by omega)))), by rw [ht]; exact hP, va_K.moved hW.alike hK, hD⟩, hS.F ht⟩) hS.2.2 dX8_copy_28
      · have gc7 := ai_nle c7
        have u7f_j3l5 : j3l5.toInt ≤ (22 : Int) := ai_lthi gc7 ba5_u
        have l7f_a5 : (23 : Int) ≤ a5.toInt := ba5_l
        refine lv_aload_n hx hb dX8_copy_10 rfl (lv_at hl 2 rfl) ?_
        refine lv_iload_n hx hb dX8_copy_11 rfl (lv_at hl 3 rfl) ?_
        refine lv_iload hx hb dX8_copy_12 (lv_at hl 5 rfl) ?_
        refine lv_iadd hx hb dX8_copy_14 ?_
        refine lv_topi (fun x14 ex14 => ?_)
        have qx14 : x14.toInt = a4.toInt + j3l5.toInt := ai_add ex14 ⟨ba4_l, ba4_u⟩ ⟨bj3l5_l, u7f_j3l5⟩ (by decide) (by decide)
        have bx14 : (0 : Int) ≤ x14.toInt ∧ x14.toInt ≤ 22 := ⟨by rw [qx14]; exact Int.add_le_add ba4_l bj3l5_l, by rw [qx14]; exact Int.add_le_add ba4_u u7f_j3l5⟩
        refine lv_aload_n hx hb dX8_copy_15 rfl (lv_at hl 0 rfl) ?_
        refine lv_iload_n hx hb dX8_copy_16 rfl (lv_at hl 1 rfl) ?_
        refine lv_iload hx hb dX8_copy_17 (lv_at hl 5 rfl) ?_
        refine lv_iadd hx hb dX8_copy_19 ?_
        refine lv_topi (fun x19 ex19 => ?_)
        have qx19 : x19.toInt = a2.toInt + j3l5.toInt := ai_add ex19 ⟨ba2_l, ba2_u⟩ ⟨bj3l5_l, u7f_j3l5⟩ (by decide) (by decide)
        have bx19 : (0 : Int) ≤ x19.toInt ∧ x19.toInt ≤ 367 := ⟨by rw [qx19]; exact Int.add_le_add ba2_l bj3l5_l, by rw [qx19]; exact Int.add_le_add ba2_u u7f_j3l5⟩
        refine va_iald hx hb hK hP 0 0 rfl rfl (ai_in bx19.1 bx19.2 (by decide) (by decide)) dX8_copy_20 ?_
        refine lv_topi (fun x20 ex20 => ?_)
        refine va_iast hx hb hK hP hD hS 1 1 rfl rfl (ai_in bx14.1 bx14.2 (by decide) (by decide)) dX8_copy_21 (fun H locs hP hD hS => ?_)
        obtain ⟨f21, ef21, hP, hD⟩ : ∃ g9 : Nat → Int32, g9 = upd j3a3_a (x14 : Int32).toNatClampNeg x20 ∧ va_P (dC, dI) vwCl [(a1, .inl (ka1, 368, .inl (fa1))), (a3, .inl (ka3, 23, .inl (g9)))] H ∧ va_D A [(a1, .inl (ka1, 368, .inl (fa1))), (a3, .inl (ka3, 23, .inl (g9)))] := ⟨_, rfl, hP, hD⟩
        obtain ⟨x22, ex22⟩ : ∃ y : Int32, y = j3l5 + Int32.ofInt 1 := ⟨_, rfl⟩
        have qx22 : x22.toInt = j3l5.toInt + 1 := ai_inc ex22 (by decide) (by decide) u7f_j3l5 (by decide)
        have bx22 : (1 : Int) ≤ x22.toInt ∧ x22.toInt ≤ 23 := ⟨by rw [qx22]; exact Int.add_le_add bj3l5_l (Int.le_refl _), by rw [qx22]; exact Int.add_le_add u7f_j3l5 (Int.le_refl _)⟩
        refine lv_iinc (v := x22) (lv' := [(5, .int x22), (0, .ref a1), (1, .int a2), (2, .ref a3), (3, .int a4), (4, .int a5)]) hx hb dX8_copy_22 hl (k := 5) rfl ex22.symm (by decide) rfl (fun ls hl => ?_)
        refine lv_goto (tgt := 3) hx hb dX8_copy_25 (by decide) ?_
        exact (hK0 _ _ _).mp (ih3 x22 f21 _ _ _ (by have h0 := qx22; omega) (Int.le_trans zq4 bx22.1) bx22.2 (cp_s cpy3 ef21 ex20 (cp_i qx14 ba4_l bj3l5_l) (cp_i qx19 ba2_l bj3l5_l) (cp_k qx22 bj3l5_l)) hP hD hS (lv_sub hl [1, 2, 3, 4, 5, 0] rfl))
  exact (hK0 _ _ _).mp (J3 24 0 fa3 _ _ _ (by have h1 : (0 : Int) ≤ (0 : Int32).toInt := zq5; have h2 : (0 : Int32).toInt ≤ (0 : Int) := zq6; omega) zq5 (Int.le_trans zq6 zq164) (cp_0 (by decide)) hP hD hS (lv_sub hl [1, 2, 3, 4, 5, 0] rfl))

set_option maxHeartbeats 4000000 in
set_option maxRecDepth 100000 in
theorem c_X8_copy_23_69 (l : Launch) (dC : Nat → ClassId) (dI : Nat → Nat → Nat) (sz : Nat) (a1 : Nat) (a2 : Int32) (a3 : Nat) (a4 : Int32) (a5 : Int32) (ka1 : ClassId) (fa1 : Nat → Int32) (ka3 : ClassId) (fa3 : Nat → Int32) (ba2_l : (0 : Int) ≤ a2.toInt) (ba2_u : a2.toInt ≤ (0 : Int)) (ba4_l : (0 : Int) ≤ a4.toInt) (ba4_u : a4.toInt ≤ (46 : Int)) (ba5_l : (23 : Int) ≤ a5.toInt) (ba5_u : a5.toInt ≤ (23 : Int)) : zm l yX8_copy wsX8_copy ({ frames := 0, cells := 0, slots := 0, locals := 0 }) [.ref a1, .int a2, .ref a3, .int a4, .int a5] dC dI sz [(a1, .inl (ka1, 23, .inl (fa1))), (a3, .inl (ka3, 69, .inl (fa3)))] [(ka1, .int), (ka3, .int)] (fun A _ => True) (fun A => va_Qv (fun (_ : Unit) => True) (fun (_ : Unit) (t : State) => ∃ nfa3 : Nat → Int32, nfa3 = va_cpy fa1 fa3 a2.toNatClampNeg a4.toNatClampNeg 23 ∧ ax_B dC dI A [(a1, .inl (ka1, 23, .inl (fa1))), (a3, .inl (ka3, 69, .inl (nfa3)))] [(ka1, .int), (ka3, .int)] t) A) := by
  refine zh (cc := cX8_copy) (maxL := 6) (ret := none) zn_RX8 rfl (Nat.le_of_ble_eq_true rfl) (fun p e s m below meth c A ls hx hb hml hr hts (hown : s.vm.findClass RX8 = some m.cls) hlocks hA hS hP hK hD hE (hl : lv_has ls 6 [(0, .ref a1), (1, .int a2), (2, .ref a3), (3, .int a4), (4, .int a5)]) => ?_)
  refine ai_open (fun K hK0 => ?_)
  refine (hK0 _ _ _).mpr ?_
  refine lv_iconst (v := 0) hx hb dX8_copy_0 zk_iconst_0 ?_
  refine lv_istore (lv' := [(5, .int 0), (0, .ref a1), (1, .int a2), (2, .ref a3), (3, .int a4), (4, .int a5)]) hx hb dX8_copy_1 hl (by decide) rfl (fun ls hl => ?_)
  have J3 : ∀ (n : Nat) (j3l5 : Int32) (j3a3_a : Nat → Int32) (H : Heap) (locs : List Loc) (ls : Array Slot), (24 : Int) - j3l5.toInt ≤ (n : Int) → (0 : Int) ≤ j3l5.toInt → j3l5.toInt ≤ (23 : Int) → (j3a3_a = va_cpy fa1 fa3 a2.toNatClampNeg a4.toNatClampNeg j3l5.toNatClampNeg) → va_P (dC, dI) vwCl [(a1, .inl (ka1, 23, .inl (fa1))), (a3, .inl (ka3, 69, .inl (j3a3_a)))] H → va_D A [(a1, .inl (ka1, 23, .inl (fa1))), (a3, .inl (ka3, 69, .inl (j3a3_a)))] → va_S A s.heap H locs → lv_has ls 6 [(0, .ref a1), (1, .int a2), (2, .ref a3), (3, .int a4), (4, .int a5), (5, .int j3l5)] → K H locs (F0 m 3 ls []) := by
    intro n
    induction n with
    | zero =>
      intro j3l5 j3a3_a H locs ls hm bj3l5_l bj3l5_u cpy3 hP hD hS hl
      have h8 := ai_min j3l5
      have h9 := ai_max j3l5
      exact absurd hm (by omega)
    | succ n ih3 =>
      intro j3l5 j3a3_a H locs ls hm bj3l5_l bj3l5_u cpy3 hP hD hS hl
      refine (hK0 _ _ _).mpr ?_
      have hm3 := hm
      refine lv_iload hx hb dX8_copy_3 (lv_at hl 5 rfl) ?_
      refine lv_iload hx hb dX8_copy_5 (lv_at hl 4 rfl) ?_
      refine lv_icmp_ge (tgt := 28) hx hb dX8_copy_7 (by decide) (fun c7 => ?_) (fun c7 => ?_)
      · have gc7 := ai_le c7
        have u7t_a5 : a5.toInt ≤ (23 : Int) := ba5_u
        have l7t_j3l5 : (23 : Int) ≤ j3l5.toInt := Int.le_trans ba5_l gc7
        exact W.vret hx hb hr (fun t ht hW => ⟨⟨(), rfl, trivial, j3a3_a, (cpy3.trans (congrArg (va_cpy fa1 fa3 a2.toNatClampNeg a4.toNatClampNeg) (cp_e (n := 23) (by omega)))), by rw [ht]; exact hP, va_K.moved hW.alike hK, hD⟩, hS.F ht⟩) hS.2.2 dX8_copy_28
      · have gc7 := ai_nle c7
        have u7f_j3l5 : j3l5.toInt ≤ (22 : Int) := ai_lthi gc7 ba5_u
        have l7f_a5 : (23 : Int) ≤ a5.toInt := ba5_l
        refine lv_aload_n hx hb dX8_copy_10 rfl (lv_at hl 2 rfl) ?_
        refine lv_iload_n hx hb dX8_copy_11 rfl (lv_at hl 3 rfl) ?_
        refine lv_iload hx hb dX8_copy_12 (lv_at hl 5 rfl) ?_
        refine lv_iadd hx hb dX8_copy_14 ?_
        refine lv_topi (fun x14 ex14 => ?_)
        have qx14 : x14.toInt = a4.toInt + j3l5.toInt := ai_add ex14 ⟨ba4_l, ba4_u⟩ ⟨bj3l5_l, u7f_j3l5⟩ (by decide) (by decide)
        have bx14 : (0 : Int) ≤ x14.toInt ∧ x14.toInt ≤ 68 := ⟨by rw [qx14]; exact Int.add_le_add ba4_l bj3l5_l, by rw [qx14]; exact Int.add_le_add ba4_u u7f_j3l5⟩
        refine lv_aload_n hx hb dX8_copy_15 rfl (lv_at hl 0 rfl) ?_
        refine lv_iload_n hx hb dX8_copy_16 rfl (lv_at hl 1 rfl) ?_
        refine lv_iload hx hb dX8_copy_17 (lv_at hl 5 rfl) ?_
        refine lv_iadd hx hb dX8_copy_19 ?_
        refine lv_topi (fun x19 ex19 => ?_)
        have qx19 : x19.toInt = a2.toInt + j3l5.toInt := ai_add ex19 ⟨ba2_l, ba2_u⟩ ⟨bj3l5_l, u7f_j3l5⟩ (by decide) (by decide)
        have bx19 : (0 : Int) ≤ x19.toInt ∧ x19.toInt ≤ 22 := ⟨by rw [qx19]; exact Int.add_le_add ba2_l bj3l5_l, by rw [qx19]; exact Int.add_le_add ba2_u u7f_j3l5⟩
        refine va_iald hx hb hK hP 0 0 rfl rfl (ai_in bx19.1 bx19.2 (by decide) (by decide)) dX8_copy_20 ?_
        refine lv_topi (fun x20 ex20 => ?_)
        refine va_iast hx hb hK hP hD hS 1 1 rfl rfl (ai_in bx14.1 bx14.2 (by decide) (by decide)) dX8_copy_21 (fun H locs hP hD hS => ?_)
        obtain ⟨f21, ef21, hP, hD⟩ : ∃ g9 : Nat → Int32, g9 = upd j3a3_a (x14 : Int32).toNatClampNeg x20 ∧ va_P (dC, dI) vwCl [(a1, .inl (ka1, 23, .inl (fa1))), (a3, .inl (ka3, 69, .inl (g9)))] H ∧ va_D A [(a1, .inl (ka1, 23, .inl (fa1))), (a3, .inl (ka3, 69, .inl (g9)))] := ⟨_, rfl, hP, hD⟩
        obtain ⟨x22, ex22⟩ : ∃ y : Int32, y = j3l5 + Int32.ofInt 1 := ⟨_, rfl⟩
        have qx22 : x22.toInt = j3l5.toInt + 1 := ai_inc ex22 (by decide) (by decide) u7f_j3l5 (by decide)
        have bx22 : (1 : Int) ≤ x22.toInt ∧ x22.toInt ≤ 23 := ⟨by rw [qx22]; exact Int.add_le_add bj3l5_l (Int.le_refl _), by rw [qx22]; exact Int.add_le_add u7f_j3l5 (Int.le_refl _)⟩
        refine lv_iinc (v := x22) (lv' := [(5, .int x22), (0, .ref a1), (1, .int a2), (2, .ref a3), (3, .int a4), (4, .int a5)]) hx hb dX8_copy_22 hl (k := 5) rfl ex22.symm (by decide) rfl (fun ls hl => ?_)
        refine lv_goto (tgt := 3) hx hb dX8_copy_25 (by decide) ?_
        exact (hK0 _ _ _).mp (ih3 x22 f21 _ _ _ (by have h0 := qx22; omega) (Int.le_trans zq4 bx22.1) bx22.2 (cp_s cpy3 ef21 ex20 (cp_i qx14 ba4_l bj3l5_l) (cp_i qx19 ba2_l bj3l5_l) (cp_k qx22 bj3l5_l)) hP hD hS (lv_sub hl [1, 2, 3, 4, 5, 0] rfl))
  exact (hK0 _ _ _).mp (J3 24 0 fa3 _ _ _ (by have h1 : (0 : Int) ≤ (0 : Int32).toInt := zq5; have h2 : (0 : Int32).toInt ≤ (0 : Int) := zq6; omega) zq5 (Int.le_trans zq6 zq164) (cp_0 (by decide)) hP hD hS (lv_sub hl [1, 2, 3, 4, 5, 0] rfl))

set_option maxHeartbeats 4000000 in
set_option maxRecDepth 100000 in
theorem c_X8_copy_69_23 (l : Launch) (dC : Nat → ClassId) (dI : Nat → Nat → Nat) (sz : Nat) (a1 : Nat) (a2 : Int32) (a3 : Nat) (a4 : Int32) (a5 : Int32) (ka1 : ClassId) (fa1 : Nat → Int32) (ka3 : ClassId) (fa3 : Nat → Int32) (ba2_l : (0 : Int) ≤ a2.toInt) (ba2_u : a2.toInt ≤ (46 : Int)) (ba4_l : (0 : Int) ≤ a4.toInt) (ba4_u : a4.toInt ≤ (0 : Int)) (ba5_l : (23 : Int) ≤ a5.toInt) (ba5_u : a5.toInt ≤ (23 : Int)) : zm l yX8_copy wsX8_copy ({ frames := 0, cells := 0, slots := 0, locals := 0 }) [.ref a1, .int a2, .ref a3, .int a4, .int a5] dC dI sz [(a1, .inl (ka1, 69, .inl (fa1))), (a3, .inl (ka3, 23, .inl (fa3)))] [(ka1, .int), (ka3, .int)] (fun A _ => True) (fun A => va_Qv (fun (_ : Unit) => True) (fun (_ : Unit) (t : State) => ∃ nfa3 : Nat → Int32, nfa3 = va_cpy fa1 fa3 a2.toNatClampNeg a4.toNatClampNeg 23 ∧ ax_B dC dI A [(a1, .inl (ka1, 69, .inl (fa1))), (a3, .inl (ka3, 23, .inl (nfa3)))] [(ka1, .int), (ka3, .int)] t) A) := by
  refine zh (cc := cX8_copy) (maxL := 6) (ret := none) zn_RX8 rfl (Nat.le_of_ble_eq_true rfl) (fun p e s m below meth c A ls hx hb hml hr hts (hown : s.vm.findClass RX8 = some m.cls) hlocks hA hS hP hK hD hE (hl : lv_has ls 6 [(0, .ref a1), (1, .int a2), (2, .ref a3), (3, .int a4), (4, .int a5)]) => ?_)
  refine ai_open (fun K hK0 => ?_)
  refine (hK0 _ _ _).mpr ?_
  refine lv_iconst (v := 0) hx hb dX8_copy_0 zk_iconst_0 ?_
  refine lv_istore (lv' := [(5, .int 0), (0, .ref a1), (1, .int a2), (2, .ref a3), (3, .int a4), (4, .int a5)]) hx hb dX8_copy_1 hl (by decide) rfl (fun ls hl => ?_)
  have J3 : ∀ (n : Nat) (j3l5 : Int32) (j3a3_a : Nat → Int32) (H : Heap) (locs : List Loc) (ls : Array Slot), (24 : Int) - j3l5.toInt ≤ (n : Int) → (0 : Int) ≤ j3l5.toInt → j3l5.toInt ≤ (23 : Int) → (j3a3_a = va_cpy fa1 fa3 a2.toNatClampNeg a4.toNatClampNeg j3l5.toNatClampNeg) → va_P (dC, dI) vwCl [(a1, .inl (ka1, 69, .inl (fa1))), (a3, .inl (ka3, 23, .inl (j3a3_a)))] H → va_D A [(a1, .inl (ka1, 69, .inl (fa1))), (a3, .inl (ka3, 23, .inl (j3a3_a)))] → va_S A s.heap H locs → lv_has ls 6 [(0, .ref a1), (1, .int a2), (2, .ref a3), (3, .int a4), (4, .int a5), (5, .int j3l5)] → K H locs (F0 m 3 ls []) := by
    intro n
    induction n with
    | zero =>
      intro j3l5 j3a3_a H locs ls hm bj3l5_l bj3l5_u cpy3 hP hD hS hl
      have h8 := ai_min j3l5
      have h9 := ai_max j3l5
      exact absurd hm (by omega)
    | succ n ih3 =>
      intro j3l5 j3a3_a H locs ls hm bj3l5_l bj3l5_u cpy3 hP hD hS hl
      refine (hK0 _ _ _).mpr ?_
      have hm3 := hm
      refine lv_iload hx hb dX8_copy_3 (lv_at hl 5 rfl) ?_
      refine lv_iload hx hb dX8_copy_5 (lv_at hl 4 rfl) ?_
      refine lv_icmp_ge (tgt := 28) hx hb dX8_copy_7 (by decide) (fun c7 => ?_) (fun c7 => ?_)
      · have gc7 := ai_le c7
        have u7t_a5 : a5.toInt ≤ (23 : Int) := ba5_u
        have l7t_j3l5 : (23 : Int) ≤ j3l5.toInt := Int.le_trans ba5_l gc7
        exact W.vret hx hb hr (fun t ht hW => ⟨⟨(), rfl, trivial, j3a3_a, (cpy3.trans (congrArg (va_cpy fa1 fa3 a2.toNatClampNeg a4.toNatClampNeg) (cp_e (n := 23) (by omega)))), by rw [ht]; exact hP, va_K.moved hW.alike hK, hD⟩, hS.F ht⟩) hS.2.2 dX8_copy_28
      · have gc7 := ai_nle c7
        have u7f_j3l5 : j3l5.toInt ≤ (22 : Int) := ai_lthi gc7 ba5_u
        have l7f_a5 : (23 : Int) ≤ a5.toInt := ba5_l
        refine lv_aload_n hx hb dX8_copy_10 rfl (lv_at hl 2 rfl) ?_
        refine lv_iload_n hx hb dX8_copy_11 rfl (lv_at hl 3 rfl) ?_
        refine lv_iload hx hb dX8_copy_12 (lv_at hl 5 rfl) ?_
        refine lv_iadd hx hb dX8_copy_14 ?_
        refine lv_topi (fun x14 ex14 => ?_)
        have qx14 : x14.toInt = a4.toInt + j3l5.toInt := ai_add ex14 ⟨ba4_l, ba4_u⟩ ⟨bj3l5_l, u7f_j3l5⟩ (by decide) (by decide)
        have bx14 : (0 : Int) ≤ x14.toInt ∧ x14.toInt ≤ 22 := ⟨by rw [qx14]; exact Int.add_le_add ba4_l bj3l5_l, by rw [qx14]; exact Int.add_le_add ba4_u u7f_j3l5⟩
        refine lv_aload_n hx hb dX8_copy_15 rfl (lv_at hl 0 rfl) ?_
        refine lv_iload_n hx hb dX8_copy_16 rfl (lv_at hl 1 rfl) ?_
        refine lv_iload hx hb dX8_copy_17 (lv_at hl 5 rfl) ?_
        refine lv_iadd hx hb dX8_copy_19 ?_
        refine lv_topi (fun x19 ex19 => ?_)
        have qx19 : x19.toInt = a2.toInt + j3l5.toInt := ai_add ex19 ⟨ba2_l, ba2_u⟩ ⟨bj3l5_l, u7f_j3l5⟩ (by decide) (by decide)
        have bx19 : (0 : Int) ≤ x19.toInt ∧ x19.toInt ≤ 68 := ⟨by rw [qx19]; exact Int.add_le_add ba2_l bj3l5_l, by rw [qx19]; exact Int.add_le_add ba2_u u7f_j3l5⟩
        refine va_iald hx hb hK hP 0 0 rfl rfl (ai_in bx19.1 bx19.2 (by decide) (by decide)) dX8_copy_20 ?_
        refine lv_topi (fun x20 ex20 => ?_)
        refine va_iast hx hb hK hP hD hS 1 1 rfl rfl (ai_in bx14.1 bx14.2 (by decide) (by decide)) dX8_copy_21 (fun H locs hP hD hS => ?_)
        obtain ⟨f21, ef21, hP, hD⟩ : ∃ g9 : Nat → Int32, g9 = upd j3a3_a (x14 : Int32).toNatClampNeg x20 ∧ va_P (dC, dI) vwCl [(a1, .inl (ka1, 69, .inl (fa1))), (a3, .inl (ka3, 23, .inl (g9)))] H ∧ va_D A [(a1, .inl (ka1, 69, .inl (fa1))), (a3, .inl (ka3, 23, .inl (g9)))] := ⟨_, rfl, hP, hD⟩
        obtain ⟨x22, ex22⟩ : ∃ y : Int32, y = j3l5 + Int32.ofInt 1 := ⟨_, rfl⟩
        have qx22 : x22.toInt = j3l5.toInt + 1 := ai_inc ex22 (by decide) (by decide) u7f_j3l5 (by decide)
        have bx22 : (1 : Int) ≤ x22.toInt ∧ x22.toInt ≤ 23 := ⟨by rw [qx22]; exact Int.add_le_add bj3l5_l (Int.le_refl _), by rw [qx22]; exact Int.add_le_add u7f_j3l5 (Int.le_refl _)⟩
        refine lv_iinc (v := x22) (lv' := [(5, .int x22), (0, .ref a1), (1, .int a2), (2, .ref a3), (3, .int a4), (4, .int a5)]) hx hb dX8_copy_22 hl (k := 5) rfl ex22.symm (by decide) rfl (fun ls hl => ?_)
        refine lv_goto (tgt := 3) hx hb dX8_copy_25 (by decide) ?_
        exact (hK0 _ _ _).mp (ih3 x22 f21 _ _ _ (by have h0 := qx22; omega) (Int.le_trans zq4 bx22.1) bx22.2 (cp_s cpy3 ef21 ex20 (cp_i qx14 ba4_l bj3l5_l) (cp_i qx19 ba2_l bj3l5_l) (cp_k qx22 bj3l5_l)) hP hD hS (lv_sub hl [1, 2, 3, 4, 5, 0] rfl))
  exact (hK0 _ _ _).mp (J3 24 0 fa3 _ _ _ (by have h1 : (0 : Int) ≤ (0 : Int32).toInt := zq5; have h2 : (0 : Int32).toInt ≤ (0 : Int) := zq6; omega) zq5 (Int.le_trans zq6 zq164) (cp_0 (by decide)) hP hD hS (lv_sub hl [1, 2, 3, 4, 5, 0] rfl))

set_option maxHeartbeats 4000000 in
set_option maxRecDepth 100000 in
theorem c_X8_copy_156_156 (l : Launch) (dC : Nat → ClassId) (dI : Nat → Nat → Nat) (sz : Nat) (a1 : Nat) (a2 : Int32) (a3 : Nat) (a4 : Int32) (a5 : Int32) (ka1 : ClassId) (fa1 : Nat → Int32) (ka3 : ClassId) (fa3 : Nat → Int32) (ba2_l : (0 : Int) ≤ a2.toInt) (ba2_u : a2.toInt ≤ (0 : Int)) (ba4_l : (0 : Int) ≤ a4.toInt) (ba4_u : a4.toInt ≤ (0 : Int)) (ba5_l : (156 : Int) ≤ a5.toInt) (ba5_u : a5.toInt ≤ (156 : Int)) : zm l yX8_copy wsX8_copy ({ frames := 0, cells := 0, slots := 0, locals := 0 }) [.ref a1, .int a2, .ref a3, .int a4, .int a5] dC dI sz [(a1, .inl (ka1, 156, .inl (fa1))), (a3, .inl (ka3, 156, .inl (fa3)))] [(ka1, .int), (ka3, .int)] (fun A _ => True) (fun A => va_Qv (fun (_ : Unit) => True) (fun (_ : Unit) (t : State) => ∃ nfa3 : Nat → Int32, nfa3 = va_cpy fa1 fa3 a2.toNatClampNeg a4.toNatClampNeg 156 ∧ ax_B dC dI A [(a1, .inl (ka1, 156, .inl (fa1))), (a3, .inl (ka3, 156, .inl (nfa3)))] [(ka1, .int), (ka3, .int)] t) A) := by
  refine zh (cc := cX8_copy) (maxL := 6) (ret := none) zn_RX8 rfl (Nat.le_of_ble_eq_true rfl) (fun p e s m below meth c A ls hx hb hml hr hts (hown : s.vm.findClass RX8 = some m.cls) hlocks hA hS hP hK hD hE (hl : lv_has ls 6 [(0, .ref a1), (1, .int a2), (2, .ref a3), (3, .int a4), (4, .int a5)]) => ?_)
  refine ai_open (fun K hK0 => ?_)
  refine (hK0 _ _ _).mpr ?_
  refine lv_iconst (v := 0) hx hb dX8_copy_0 zk_iconst_0 ?_
  refine lv_istore (lv' := [(5, .int 0), (0, .ref a1), (1, .int a2), (2, .ref a3), (3, .int a4), (4, .int a5)]) hx hb dX8_copy_1 hl (by decide) rfl (fun ls hl => ?_)
  have J3 : ∀ (n : Nat) (j3l5 : Int32) (j3a3_a : Nat → Int32) (H : Heap) (locs : List Loc) (ls : Array Slot), (157 : Int) - j3l5.toInt ≤ (n : Int) → (0 : Int) ≤ j3l5.toInt → j3l5.toInt ≤ (156 : Int) → (j3a3_a = va_cpy fa1 fa3 a2.toNatClampNeg a4.toNatClampNeg j3l5.toNatClampNeg) → va_P (dC, dI) vwCl [(a1, .inl (ka1, 156, .inl (fa1))), (a3, .inl (ka3, 156, .inl (j3a3_a)))] H → va_D A [(a1, .inl (ka1, 156, .inl (fa1))), (a3, .inl (ka3, 156, .inl (j3a3_a)))] → va_S A s.heap H locs → lv_has ls 6 [(0, .ref a1), (1, .int a2), (2, .ref a3), (3, .int a4), (4, .int a5), (5, .int j3l5)] → K H locs (F0 m 3 ls []) := by
    intro n
    induction n with
    | zero =>
      intro j3l5 j3a3_a H locs ls hm bj3l5_l bj3l5_u cpy3 hP hD hS hl
      have h8 := ai_min j3l5
      have h9 := ai_max j3l5
      exact absurd hm (by omega)
    | succ n ih3 =>
      intro j3l5 j3a3_a H locs ls hm bj3l5_l bj3l5_u cpy3 hP hD hS hl
      refine (hK0 _ _ _).mpr ?_
      have hm3 := hm
      refine lv_iload hx hb dX8_copy_3 (lv_at hl 5 rfl) ?_
      refine lv_iload hx hb dX8_copy_5 (lv_at hl 4 rfl) ?_
      refine lv_icmp_ge (tgt := 28) hx hb dX8_copy_7 (by decide) (fun c7 => ?_) (fun c7 => ?_)
      · have gc7 := ai_le c7
        have u7t_a5 : a5.toInt ≤ (156 : Int) := ba5_u
        have l7t_j3l5 : (156 : Int) ≤ j3l5.toInt := Int.le_trans ba5_l gc7
        exact W.vret hx hb hr (fun t ht hW => ⟨⟨(), rfl, trivial, j3a3_a, (cpy3.trans (congrArg (va_cpy fa1 fa3 a2.toNatClampNeg a4.toNatClampNeg) (cp_e (n := 156) (by omega)))), by rw [ht]; exact hP, va_K.moved hW.alike hK, hD⟩, hS.F ht⟩) hS.2.2 dX8_copy_28
      · have gc7 := ai_nle c7
        have u7f_j3l5 : j3l5.toInt ≤ (155 : Int) := ai_lthi gc7 ba5_u
        have l7f_a5 : (156 : Int) ≤ a5.toInt := ba5_l
        refine lv_aload_n hx hb dX8_copy_10 rfl (lv_at hl 2 rfl) ?_
        refine lv_iload_n hx hb dX8_copy_11 rfl (lv_at hl 3 rfl) ?_
        refine lv_iload hx hb dX8_copy_12 (lv_at hl 5 rfl) ?_
        refine lv_iadd hx hb dX8_copy_14 ?_
        refine lv_topi (fun x14 ex14 => ?_)
        have qx14 : x14.toInt = a4.toInt + j3l5.toInt := ai_add ex14 ⟨ba4_l, ba4_u⟩ ⟨bj3l5_l, u7f_j3l5⟩ (by decide) (by decide)
        have bx14 : (0 : Int) ≤ x14.toInt ∧ x14.toInt ≤ 155 := ⟨by rw [qx14]; exact Int.add_le_add ba4_l bj3l5_l, by rw [qx14]; exact Int.add_le_add ba4_u u7f_j3l5⟩
        refine lv_aload_n hx hb dX8_copy_15 rfl (lv_at hl 0 rfl) ?_
        refine lv_iload_n hx hb dX8_copy_16 rfl (lv_at hl 1 rfl) ?_
        refine lv_iload hx hb dX8_copy_17 (lv_at hl 5 rfl) ?_
        refine lv_iadd hx hb dX8_copy_19 ?_
        refine lv_topi (fun x19 ex19 => ?_)
        have qx19 : x19.toInt = a2.toInt + j3l5.toInt := ai_add ex19 ⟨ba2_l, ba2_u⟩ ⟨bj3l5_l, u7f_j3l5⟩ (by decide) (by decide)
        have bx19 : (0 : Int) ≤ x19.toInt ∧ x19.toInt ≤ 155 := ⟨by rw [qx19]; exact Int.add_le_add ba2_l bj3l5_l, by rw [qx19]; exact Int.add_le_add ba2_u u7f_j3l5⟩
        refine va_iald hx hb hK hP 0 0 rfl rfl (ai_in bx19.1 bx19.2 (by decide) (by decide)) dX8_copy_20 ?_
        refine lv_topi (fun x20 ex20 => ?_)
        refine va_iast hx hb hK hP hD hS 1 1 rfl rfl (ai_in bx14.1 bx14.2 (by decide) (by decide)) dX8_copy_21 (fun H locs hP hD hS => ?_)
        obtain ⟨f21, ef21, hP, hD⟩ : ∃ g9 : Nat → Int32, g9 = upd j3a3_a (x14 : Int32).toNatClampNeg x20 ∧ va_P (dC, dI) vwCl [(a1, .inl (ka1, 156, .inl (fa1))), (a3, .inl (ka3, 156, .inl (g9)))] H ∧ va_D A [(a1, .inl (ka1, 156, .inl (fa1))), (a3, .inl (ka3, 156, .inl (g9)))] := ⟨_, rfl, hP, hD⟩
        obtain ⟨x22, ex22⟩ : ∃ y : Int32, y = j3l5 + Int32.ofInt 1 := ⟨_, rfl⟩
        have qx22 : x22.toInt = j3l5.toInt + 1 := ai_inc ex22 (by decide) (by decide) u7f_j3l5 (by decide)
        have bx22 : (1 : Int) ≤ x22.toInt ∧ x22.toInt ≤ 156 := ⟨by rw [qx22]; exact Int.add_le_add bj3l5_l (Int.le_refl _), by rw [qx22]; exact Int.add_le_add u7f_j3l5 (Int.le_refl _)⟩
        refine lv_iinc (v := x22) (lv' := [(5, .int x22), (0, .ref a1), (1, .int a2), (2, .ref a3), (3, .int a4), (4, .int a5)]) hx hb dX8_copy_22 hl (k := 5) rfl ex22.symm (by decide) rfl (fun ls hl => ?_)
        refine lv_goto (tgt := 3) hx hb dX8_copy_25 (by decide) ?_
        exact (hK0 _ _ _).mp (ih3 x22 f21 _ _ _ (by have h0 := qx22; omega) (Int.le_trans zq4 bx22.1) bx22.2 (cp_s cpy3 ef21 ex20 (cp_i qx14 ba4_l bj3l5_l) (cp_i qx19 ba2_l bj3l5_l) (cp_k qx22 bj3l5_l)) hP hD hS (lv_sub hl [1, 2, 3, 4, 5, 0] rfl))
  exact (hK0 _ _ _).mp (J3 157 0 fa3 _ _ _ (by have h1 : (0 : Int) ≤ (0 : Int32).toInt := zq5; have h2 : (0 : Int32).toInt ≤ (0 : Int) := zq6; omega) zq5 (Int.le_trans zq6 zq167) (cp_0 (by decide)) hP hD hS (lv_sub hl [1, 2, 3, 4, 5, 0] rfl))
end P230_00_safe
section P232_00_safe
set_option maxHeartbeats 4000000 in
set_option maxRecDepth 100000 in
theorem c_X8_goRound (l : Launch) (dC : Nat → ClassId) (dI : Nat → Nat → Nat) (sz : Nat) (a0 : Nat) (a0g_0 a0g_1 a0g_2 a0g_3 a0g_4 a0g_5 a0g_6 a0g_7 a0g_8 a0g_9 a0g_10 a0g_11 a0g_12 a0g_13 a0g_14 a0g_16 a0g_18 a0g_19 a0g_20 a0g_21 a0g_22 a0g_23 a0g_24 a0g_25 a0g_26 a0g_27 a0g_28 a0g_32 a0g_33 a0g_34 a0g_35 a0g_36 a0g_37 a0g_38 a0g_39 : Value) (a0_15 : Nat) (a0_17 : Nat) (a0_29 : Nat) (a0_30 : Int32) (a0_31 : Int32) (ka0_17 : ClassId) (fa0_17 : Nat → Int32) (ka0_29 : ClassId) (fa0_29 : Nat → Int32) (ka0_15 : ClassId) (fa0_15 : Nat → Int32) (bfa0_17 : ((∀ k : Nat, 0 ≤ k → k ≤ 8 → (0 : Int) ≤ (fa0_17 k).toInt ∧ (fa0_17 k).toInt ≤ 8) ∧ (∀ k : Nat, 19 ≤ k → k ≤ 19 → (0 : Int) ≤ (fa0_17 k).toInt ∧ (fa0_17 k).toInt ≤ 8) ∧ (∀ k : Nat, 20 ≤ k → k ≤ 20 → (0 : Int) ≤ (fa0_17 k).toInt ∧ (fa0_17 k).toInt ≤ 19))) (bfa0_29 : (∀ k, (0 : Int) ≤ (fa0_29 k).toInt ∧ (fa0_29 k).toInt ≤ 8)) (bfa0_15 : ((∀ k : Nat, 0 ≤ k → k ≤ 0 → (2 : Int) ≤ (fa0_15 k).toInt ∧ (fa0_15 k).toInt ≤ 9) ∧ (∀ k : Nat, 1 ≤ k → k ≤ 1 → (1 : Int) ≤ (fa0_15 k).toInt ∧ (fa0_15 k).toInt ≤ 20) ∧ (∀ k : Nat, 2 ≤ k → k ≤ 2 → (0 : Int) ≤ (fa0_15 k).toInt ∧ (fa0_15 k).toInt ≤ 8) ∧ (∀ k : Nat, 3 ≤ k → k ≤ 3 → (0 : Int) ≤ (fa0_15 k).toInt ∧ (fa0_15 k).toInt ≤ 100) ∧ (∀ k : Nat, 4 ≤ k → k ≤ 4 → (0 : Int) ≤ (fa0_15 k).toInt ∧ (fa0_15 k).toInt ≤ 9) ∧ (∀ k : Nat, 5 ≤ k → k ≤ 5 → (0 : Int) ≤ (fa0_15 k).toInt ∧ (fa0_15 k).toInt ≤ 3) ∧ (∀ k : Nat, 6 ≤ k → k ≤ 6 → (0 : Int) ≤ (fa0_15 k).toInt ∧ (fa0_15 k).toInt ≤ 6) ∧ (∀ k : Nat, 7 ≤ k → k ≤ 9 → (0 : Int) ≤ (fa0_15 k).toInt ∧ (fa0_15 k).toInt ≤ 8) ∧ (∀ k : Nat, 12 ≤ k → k ≤ 29 → (0 : Int) ≤ (fa0_15 k).toInt ∧ (fa0_15 k).toInt ≤ 20) ∧ (∀ k : Nat, 30 ≤ k → k ≤ 35 → (0 : Int) ≤ (fa0_15 k).toInt ∧ (fa0_15 k).toInt ≤ 8) ∧ (∀ k : Nat, 36 ≤ k → k ≤ 47 → (0 : Int) ≤ (fa0_15 k).toInt ∧ (fa0_15 k).toInt ≤ 999))) : zm l yX8_goRound wsX8_goRound ({ frames := 1, cells := 0, slots := 0, locals := 21 }) [.ref a0] dC dI sz [(a0, .inr (8, [a0g_0, a0g_1, a0g_2, a0g_3, a0g_4, a0g_5, a0g_6, a0g_7, a0g_8, a0g_9, a0g_10, a0g_11, a0g_12, a0g_13, a0g_14, Value.ref a0_15, a0g_16, Value.ref a0_17, a0g_18, a0g_19, a0g_20, a0g_21, a0g_22, a0g_23, a0g_24, a0g_25, a0g_26, a0g_27, a0g_28, Value.ref a0_29, Value.int a0_30, Value.int a0_31, a0g_32, a0g_33, a0g_34, a0g_35, a0g_36, a0g_37, a0g_38, a0g_39])), (a0_17, .inl (ka0_17, 23, .inl (fa0_17))), (a0_29, .inl (ka0_29, 10, .inl (fa0_29))), (a0_15, .inl (ka0_15, 156, .inl (fa0_15)))] [(ka0_17, .int), (ka0_29, .int), (ka0_15, .int)] (fun A _ => True) (fun A => va_Qv (fun (_ : Unit) => True) (fun (_ : Unit) (t : State) => ∃ na0_30 : Int32, ∃ na0_31 : Int32, ∃ nfa0_29 : Nat → Int32, (∀ k, (0 : Int) ≤ (nfa0_29 k).toInt ∧ (nfa0_29 k).toInt ≤ 8) ∧ ((0 : Int) ≤ na0_30.toInt ∧ (1 : Int) ≤ na0_31.toInt ∧ na0_30.toInt + na0_31.toInt ≤ 9) ∧ ax_B dC dI A [(a0, .inr (8, [a0g_0, a0g_1, a0g_2, a0g_3, a0g_4, a0g_5, a0g_6, a0g_7, a0g_8, a0g_9, a0g_10, a0g_11, a0g_12, a0g_13, a0g_14, Value.ref a0_15, a0g_16, Value.ref a0_17, a0g_18, a0g_19, a0g_20, a0g_21, a0g_22, a0g_23, a0g_24, a0g_25, a0g_26, a0g_27, a0g_28, Value.ref a0_29, Value.int na0_30, Value.int na0_31, a0g_32, a0g_33, a0g_34, a0g_35, a0g_36, a0g_37, a0g_38, a0g_39])), (a0_17, .inl (ka0_17, 23, .inl (fa0_17))), (a0_29, .inl (ka0_29, 10, .inl (nfa0_29))), (a0_15, .inl (ka0_15, 156, .inl (fa0_15)))] [(ka0_17, .int), (ka0_29, .int), (ka0_15, .int)] t) A) := by
  refine zh (cc := cX8_goRound) (maxL := 4) (ret := none) zn_RX8 rfl (Nat.le_of_ble_eq_true rfl) (fun p e s m below meth c A ls hx hb hml hr hts (hown : s.vm.findClass RX8 = some m.cls) hlocks hA hS hP hK hD hE (hl : lv_has ls 4 [(0, .ref a0)]) => ?_)
  refine ai_open (fun K hK0 => ?_)
  refine (hK0 _ _ _).mpr ?_
  refine lv_iconst (v := 0) hx hb dX8_goRound_0 zk_iconst_0 ?_
  refine lv_istore_n (lv' := [(1, .int 0), (0, .ref a0)]) hx hb dX8_goRound_1 rfl hl (by decide) rfl (fun ls hl => ?_)
  refine lv_aload_n hx hb dX8_goRound_2 rfl (lv_at hl 1 rfl) ?_
  refine va_get (D := (dC, dI)) (ci := 8) (v := .ref a0_17) (C := RX8) (T := TX8) (N := 40) hx hb hts zi_X8_goRound_8 hown hK hP 0 rfl rfl 17 (by decide) (hts (.fieldLink RX8 26 "WaxTurnsModel" "st" "[I") (List.mem_cons_of_mem _ (List.mem_append_left _ (List.mem_of_getElem? (i := 0) rfl)))) (fun _ h9 => h9) rfl dX8_goRound_3 ?_
  refine lv_bipush (v := 19) hx hb dX8_goRound_6 zk_bipush_19 ?_
  refine va_iald hx hb hK hP 1 0 rfl rfl (by unfold vp_in; decide +kernel) dX8_goRound_8 ?_
  refine lv_topi (fun x8 ex8 => ?_)
  have bx8 : (0 : Int) ≤ x8.toInt ∧ x8.toInt ≤ 8 := by rw [ex8]; exact ai_rd bfa0_17.2.1 zq160 zq161 (by decide) (by decide) (by decide)
  refine lv_istore_n (lv' := [(2, .int x8), (1, .int 0), (0, .ref a0)]) hx hb dX8_goRound_9 rfl hl (by decide) rfl (fun ls hl => ?_)
  refine lv_aload_n hx hb dX8_goRound_10 rfl (lv_at hl 2 rfl) ?_
  refine lv_iconst (v := (-1)) hx hb dX8_goRound_11 zk_iconst_n1 ?_
  refine va_put (D := (dC, dI)) (ci := 8) (v := .int (-1)) (ty := .int) (C := RX8) (T := TX8) (N := 40) hx hb hts zi_X8_goRound_8 tyX8 tyX8_ok nmX8 hown hK hP hD hS 0 rfl rfl 30 (by decide) (hts (.fieldLink RX8 283 "WaxTurnsModel" "settled" "I") (List.mem_cons_of_mem _ (List.mem_append_left _ (List.mem_of_getElem? (i := 1) rfl)))) (fun _ h9 => h9) rfl (tyX8_ok 30 (by decide)) rfl rfl (Nat.le_of_ble_eq_true rfl) dX8_goRound_12 (fun H locs hP hD hS => ?_)
  refine zs_0 (y := (a0, .inr (8, [a0g_0, a0g_1, a0g_2, a0g_3, a0g_4, a0g_5, a0g_6, a0g_7, a0g_8, a0g_9, a0g_10, a0g_11, a0g_12, a0g_13, a0g_14, Value.ref a0_15, a0g_16, Value.ref a0_17, a0g_18, a0g_19, a0g_20, a0g_21, a0g_22, a0g_23, a0g_24, a0g_25, a0g_26, a0g_27, a0g_28, Value.ref a0_29, Value.int (-1), Value.int a0_31, a0g_32, a0g_33, a0g_34, a0g_35, a0g_36, a0g_37, a0g_38, a0g_39]))) hP hD rfl (fun hP hD => ?_)
  have J15 : ∀ (n : Nat) (j15l2 : Int32) (j15l1 : Int32) (j15a0_30 : Int32) (j15a0_29_a : Nat → Int32) (H : Heap) (locs : List Loc) (ls : Array Slot), (13 : Int) - j15l1.toInt ≤ (n : Int) → (0 : Int) ≤ j15l2.toInt → j15l2.toInt ≤ (8 : Int) → (0 : Int) ≤ j15l1.toInt → j15l1.toInt ≤ (12 : Int) → (∀ k, (0 : Int) ≤ (j15a0_29_a k).toInt ∧ (j15a0_29_a k).toInt ≤ 8) → (gr_D j15a0_29_a j15l1.toNatClampNeg) → (j15a0_30.toInt = -1) → va_P (dC, dI) vwCl [(a0, .inr (8, [a0g_0, a0g_1, a0g_2, a0g_3, a0g_4, a0g_5, a0g_6, a0g_7, a0g_8, a0g_9, a0g_10, a0g_11, a0g_12, a0g_13, a0g_14, Value.ref a0_15, a0g_16, Value.ref a0_17, a0g_18, a0g_19, a0g_20, a0g_21, a0g_22, a0g_23, a0g_24, a0g_25, a0g_26, a0g_27, a0g_28, Value.ref a0_29, Value.int j15a0_30, Value.int a0_31, a0g_32, a0g_33, a0g_34, a0g_35, a0g_36, a0g_37, a0g_38, a0g_39])), (a0_17, .inl (ka0_17, 23, .inl (fa0_17))), (a0_29, .inl (ka0_29, 10, .inl (j15a0_29_a))), (a0_15, .inl (ka0_15, 156, .inl (fa0_15)))] H → va_D A [(a0, .inr (8, [a0g_0, a0g_1, a0g_2, a0g_3, a0g_4, a0g_5, a0g_6, a0g_7, a0g_8, a0g_9, a0g_10, a0g_11, a0g_12, a0g_13, a0g_14, Value.ref a0_15, a0g_16, Value.ref a0_17, a0g_18, a0g_19, a0g_20, a0g_21, a0g_22, a0g_23, a0g_24, a0g_25, a0g_26, a0g_27, a0g_28, Value.ref a0_29, Value.int j15a0_30, Value.int a0_31, a0g_32, a0g_33, a0g_34, a0g_35, a0g_36, a0g_37, a0g_38, a0g_39])), (a0_17, .inl (ka0_17, 23, .inl (fa0_17))), (a0_29, .inl (ka0_29, 10, .inl (j15a0_29_a))), (a0_15, .inl (ka0_15, 156, .inl (fa0_15)))] → va_S A s.heap H locs → lv_has ls 4 [(0, .ref a0), (1, .int j15l1), (2, .int j15l2)] → K H locs (F0 m 15 ls []) := by
    intro n
    induction n with
    | zero =>
      intro j15l2 j15l1 j15a0_30 j15a0_29_a H locs ls hm bj15l2_l bj15l2_u bj15l1_l bj15l1_u bj15a0_29_a gr15 sm15 hP hD hS hl
      have h8 := ai_min j15l1
      have h9 := ai_max j15l1
      exact absurd hm (by omega)
    | succ n ih15 =>
      intro j15l2 j15l1 j15a0_30 j15a0_29_a H locs ls hm bj15l2_l bj15l2_u bj15l1_l bj15l1_u bj15a0_29_a gr15 sm15 hP hD hS hl
      refine (hK0 _ _ _).mpr ?_
      have hm15 := hm
      refine lv_aload_n hx hb dX8_goRound_15 rfl (lv_at hl 0 rfl) ?_
      refine va_get (D := (dC, dI)) (ci := 8) (v := .int j15a0_30) (C := RX8) (T := TX8) (N := 40) hx hb hts zi_X8_goRound_8 hown hK hP 0 rfl rfl 30 (by decide) (hts (.fieldLink RX8 283 "WaxTurnsModel" "settled" "I") (List.mem_cons_of_mem _ (List.mem_append_left _ (List.mem_of_getElem? (i := 1) rfl)))) (fun _ h9 => h9) rfl dX8_goRound_16 ?_
      refine lv_if_ge (tgt := 79) hx hb dX8_goRound_19 (by decide) (fun c19 => ?_) (fun c19 => ?_)
      · have gc19 := ai_le c19
        have l19t_j15a0_30 : (0 : Int) ≤ j15a0_30.toInt := Int.le_trans zq5 gc19
        exact absurd (Int.le_trans l19t_j15a0_30 (Int.le_of_eq sm15)) (by decide)
      · have gc19 := ai_nle c19
        have u19f_j15a0_30 : j15a0_30.toInt ≤ (-1 : Int) := (Int.le_of_eq sm15)
        refine lv_iconst (v := 0) hx hb dX8_goRound_22 zk_iconst_0 ?_
        have u22z_j15l1 : j15l1.toInt ≤ (9 : Int) := gr_i gr15
        refine lv_istore_n (lv' := [(3, .int 0), (0, .ref a0), (1, .int j15l1), (2, .int j15l2)]) hx hb dX8_goRound_23 rfl hl (by decide) rfl (fun ls hl => ?_)
        have J24 : ∀ (n : Nat) (j24l3 : Int32) (j24a0_30 : Int32) (H : Heap) (locs : List Loc) (ls : Array Slot), (10 : Int) - j24l3.toInt ≤ (n : Int) → (0 : Int) ≤ j24l3.toInt → j24l3.toInt ≤ (9 : Int) → (gr_K j15a0_29_a j24a0_30 j24l3 j15l2 j15l1) → va_P (dC, dI) vwCl [(a0, .inr (8, [a0g_0, a0g_1, a0g_2, a0g_3, a0g_4, a0g_5, a0g_6, a0g_7, a0g_8, a0g_9, a0g_10, a0g_11, a0g_12, a0g_13, a0g_14, Value.ref a0_15, a0g_16, Value.ref a0_17, a0g_18, a0g_19, a0g_20, a0g_21, a0g_22, a0g_23, a0g_24, a0g_25, a0g_26, a0g_27, a0g_28, Value.ref a0_29, Value.int j24a0_30, Value.int a0_31, a0g_32, a0g_33, a0g_34, a0g_35, a0g_36, a0g_37, a0g_38, a0g_39])), (a0_17, .inl (ka0_17, 23, .inl (fa0_17))), (a0_29, .inl (ka0_29, 10, .inl (j15a0_29_a))), (a0_15, .inl (ka0_15, 156, .inl (fa0_15)))] H → va_D A [(a0, .inr (8, [a0g_0, a0g_1, a0g_2, a0g_3, a0g_4, a0g_5, a0g_6, a0g_7, a0g_8, a0g_9, a0g_10, a0g_11, a0g_12, a0g_13, a0g_14, Value.ref a0_15, a0g_16, Value.ref a0_17, a0g_18, a0g_19, a0g_20, a0g_21, a0g_22, a0g_23, a0g_24, a0g_25, a0g_26, a0g_27, a0g_28, Value.ref a0_29, Value.int j24a0_30, Value.int a0_31, a0g_32, a0g_33, a0g_34, a0g_35, a0g_36, a0g_37, a0g_38, a0g_39])), (a0_17, .inl (ka0_17, 23, .inl (fa0_17))), (a0_29, .inl (ka0_29, 10, .inl (j15a0_29_a))), (a0_15, .inl (ka0_15, 156, .inl (fa0_15)))] → va_S A s.heap H locs → lv_has ls 4 [(0, .ref a0), (1, .int j15l1), (2, .int j15l2), (3, .int j24l3)] → K H locs (F0 m 24 ls []) := by
          intro n
          induction n with
          | zero =>
            intro j24l3 j24a0_30 H locs ls hm bj24l3_l bj24l3_u sk24 hP hD hS hl
            have h8 := ai_min j24l3
            have h9 := ai_max j24l3
            exact absurd hm (by omega)
          | succ n ih24 =>
            intro j24l3 j24a0_30 H locs ls hm bj24l3_l bj24l3_u sk24 hP hD hS hl
            refine (hK0 _ _ _).mpr ?_
            have hm24 := hm
            refine lv_iload_n hx hb dX8_goRound_24 rfl (lv_at hl 3 rfl) ?_
            refine lv_iload_n hx hb dX8_goRound_25 rfl (lv_at hl 1 rfl) ?_
            refine lv_icmp_ge (tgt := 50) hx hb dX8_goRound_26 (by decide) (fun c26 => ?_) (fun c26 => ?_)
            · have gc26 := ai_le c26
              have u26t_j15l1 : j15l1.toInt ≤ (9 : Int) := u22z_j15l1
              have l26t_j24l3 : (0 : Int) ≤ j24l3.toInt := bj24l3_l
              refine lv_aload_n hx hb dX8_goRound_50 rfl (lv_at hl 0 rfl) ?_
              refine va_get (D := (dC, dI)) (ci := 8) (v := .int j24a0_30) (C := RX8) (T := TX8) (N := 40) hx hb hts zi_X8_goRound_8 hown hK hP 0 rfl rfl 30 (by decide) (hts (.fieldLink RX8 283 "WaxTurnsModel" "settled" "I") (List.mem_cons_of_mem _ (List.mem_append_left _ (List.mem_of_getElem? (i := 1) rfl)))) (fun _ h9 => h9) rfl dX8_goRound_51 ?_
              refine lv_if_lt (tgt := 60) hx hb dX8_goRound_54 (by decide) (fun c54 => ?_) (fun c54 => ?_)
              · have gc54 := ai_lt c54
                have u54t_j24a0_30 : j24a0_30.toInt ≤ (-1 : Int) := ai_lthi gc54 zq6
                refine lv_aload_n hx hb dX8_goRound_60 rfl (lv_at hl 0 rfl) ?_
                have hne60 := gr_Kn sk24 (by omega) (by omega)
                have u60z_j15l1 : j15l1.toInt ≤ (9 : Int) := u26t_j15l1
                refine va_get (D := (dC, dI)) (ci := 8) (v := .ref a0_29) (C := RX8) (T := TX8) (N := 40) hx hb hts zi_X8_goRound_8 hown hK hP 0 rfl rfl 29 (by decide) (hts (.fieldLink RX8 44 "WaxTurnsModel" "row" "[I") (List.mem_cons_of_mem _ (List.mem_append_left _ (List.mem_of_getElem? (i := 2) rfl)))) (fun _ h9 => h9) rfl dX8_goRound_61 ?_
                refine lv_iload_n hx hb dX8_goRound_64 rfl (lv_at hl 1 rfl) ?_
                refine lv_iload_n hx hb dX8_goRound_65 rfl (lv_at hl 2 rfl) ?_
                refine va_iast hx hb hK hP hD hS 2 1 rfl rfl (ai_in bj15l1_l u60z_j15l1 (by decide) (by decide)) dX8_goRound_66 (fun H locs hP hD hS => ?_)
                obtain ⟨f66, ef66⟩ : ∃ g9 : Nat → Int32, g9 = upd j15a0_29_a (j15l1 : Int32).toNatClampNeg j15l2 := ⟨_, rfl⟩
                refine zs_2 (y := (a0_29, .inl (ka0_29, 10, .inl (f66)))) hP hD (by rw [ef66]) (fun hP hD => ?_)
                have bf66 : (∀ k, (0 : Int) ≤ (f66 k).toInt ∧ (f66 k).toInt ≤ 8) := by rw [ef66]; exact ai_upd bj15a0_29_a _ ⟨bj15l2_l, bj15l2_u⟩
                obtain ⟨x67, ex67⟩ : ∃ y : Int32, y = j15l1 + Int32.ofInt 1 := ⟨_, rfl⟩
                have qx67 : x67.toInt = j15l1.toInt + 1 := ai_inc ex67 (by decide) (by decide) u60z_j15l1 (by decide)
                have bx67 : (1 : Int) ≤ x67.toInt ∧ x67.toInt ≤ 10 := ⟨by rw [qx67]; exact Int.add_le_add bj15l1_l (Int.le_refl _), by rw [qx67]; exact Int.add_le_add u60z_j15l1 (Int.le_refl _)⟩
                refine lv_iinc (v := x67) (lv' := [(1, .int x67), (0, .ref a0), (2, .int j15l2), (3, .int j24l3)]) hx hb dX8_goRound_67 hl (k := 1) rfl ex67.symm (by decide) rfl (fun ls hl => ?_)
                refine lv_aload_n hx hb dX8_goRound_70 rfl (lv_at hl 1 rfl) ?_
                refine lv_iload_n hx hb dX8_goRound_71 rfl (lv_at hl 2 rfl) ?_
                refine zc_cutc (wc := [(a0, .inr (8, [a0g_0, a0g_1, a0g_2, a0g_3, a0g_4, a0g_5, a0g_6, a0g_7, a0g_8, a0g_9, a0g_10, a0g_11, a0g_12, a0g_13, a0g_14, Value.ref a0_15, a0g_16, Value.ref a0_17, a0g_18, a0g_19, a0g_20, a0g_21, a0g_22, a0g_23, a0g_24, a0g_25, a0g_26, a0g_27, a0g_28, Value.ref a0_29, Value.int j24a0_30, Value.int a0_31, a0g_32, a0g_33, a0g_34, a0g_35, a0g_36, a0g_37, a0g_38, a0g_39])), (a0_15, .inl (ka0_15, 156, .inl (fa0_15)))]) hP hD hS hA [0, 3] (by decide +kernel) rfl (fun hPc hDc hFc hCc => ?_)
                have hKc := hK.sub (tys' := [(ka0_15, .int)]) [2] rfl
                refine va_calli (va_runV (As := [.int j15l2]) (rest := []) ⟨hx, hb, hml, hown, hts⟩ (c_X8_nextOf l dC dI H.size a0 j15l2 a0g_0 a0g_1 a0g_2 a0g_3 a0g_4 a0g_5 a0g_6 a0g_7 a0g_8 a0g_9 a0g_10 a0g_11 a0g_12 a0g_13 a0g_14 a0g_16 (Value.ref a0_17) a0g_18 a0g_19 a0g_20 a0g_21 a0g_22 a0g_23 a0g_24 a0g_25 a0g_26 a0g_27 a0g_28 (Value.ref a0_29) (Value.int j24a0_30) (Value.int a0_31) a0g_32 a0g_33 a0g_34 a0g_35 a0g_36 a0g_37 a0g_38 a0g_39 a0_15 ka0_15 fa0_15 bj15l2_l bj15l2_u bfa0_15) (cwV 1 hts gX8_goRound_X8_nextOf rfl rfl rfl zd_X8_nextOf ⟨Nat.le_of_ble_eq_true rfl, Nat.le_of_ble_eq_true rfl⟩) ⟨ax_blind (fun _ _ _ _ _ => trivial), zr_8 hKc hPc (q0 := 0) rfl, ax_pre hPc hKc hDc (fun _ _ => trivial)⟩ rfl rfl hl.1 rfl (lv_room (Nat.le_of_ble_eq_true rfl)) dX8_goRound_72 ⟨Nat.le_of_ble_eq_true rfl, Nat.le_of_ble_eq_true rfl⟩) hS (fun q _ h => hFc q h) hFc (fun r72 u t H locs ht hvm hw hB hz1 hk1 hS => zo hB ht (fun hP1 hK1 hD1 => ?_))
                refine zc_backc (w := [(a0, .inr (8, [a0g_0, a0g_1, a0g_2, a0g_3, a0g_4, a0g_5, a0g_6, a0g_7, a0g_8, a0g_9, a0g_10, a0g_11, a0g_12, a0g_13, a0g_14, Value.ref a0_15, a0g_16, Value.ref a0_17, a0g_18, a0g_19, a0g_20, a0g_21, a0g_22, a0g_23, a0g_24, a0g_25, a0g_26, a0g_27, a0g_28, Value.ref a0_29, Value.int j24a0_30, Value.int a0_31, a0g_32, a0g_33, a0g_34, a0g_35, a0g_36, a0g_37, a0g_38, a0g_39])), (a0_17, .inl (ka0_17, 23, .inl (fa0_17))), (a0_29, .inl (ka0_29, 10, .inl (f66))), (a0_15, .inl (ka0_15, 156, .inl (fa0_15)))]) hP hD hCc hk1 hFc hP1 hD1 [.inr 0, .inl 1, .inl 2, .inr 1] (by decide +kernel) rfl (fun hP hD => ?_)
                have hw : (0 : Int) ≤ r72.toInt ∧ r72.toInt ≤ (8 : Int) := hw
                obtain ⟨h72_0, h72_1⟩ := hw
                refine lv_istore_n (lv' := [(2, .int r72), (1, .int x67), (0, .ref a0), (3, .int j24l3)]) hx hb dX8_goRound_75 rfl hl (by decide) rfl (fun ls hl => ?_)
                refine lv_goto (tgt := 15) hx hb dX8_goRound_76 (by decide) ?_
                exact (hK0 _ _ _).mp (ih15 r72 x67 j24a0_30 f66 _ _ _ (by have h0 := qx67; omega) h72_0 h72_1 (Int.le_trans zq4 bx67.1) (Int.le_trans bx67.2 zq168) bf66 (gr_s gr15 hne60 ef66 bj15l2_l bj15l2_u qx67 bj15l1_l) (gr_Km sk24 (by omega)) hP hD hS (lv_sub hl [2, 1, 0] rfl))
              · have gc54 := ai_nlt c54
                have l54f_j24a0_30 : (0 : Int) ≤ j24a0_30.toInt := Int.le_trans zq5 gc54
                refine lv_goto (tgt := 15) hx hb dX8_goRound_57 (by decide) ?_
                have u57z_j15l1 : j15l1.toInt ≤ (9 : Int) := u26t_j15l1
                have hs57 := gr_Kp sk24 (by omega)
                have l57z_j24a0_30 : (0 : Int) ≤ j24a0_30.toInt := l54f_j24a0_30
                have u57z_j24a0_30 : j24a0_30.toInt ≤ (8 : Int) := by omega
                refine lv_aload_n hx hb dX8_goRound_15 rfl (lv_at hl 0 rfl) ?_
                refine va_get (D := (dC, dI)) (ci := 8) (v := .int j24a0_30) (C := RX8) (T := TX8) (N := 40) hx hb hts zi_X8_goRound_8 hown hK hP 0 rfl rfl 30 (by decide) (hts (.fieldLink RX8 283 "WaxTurnsModel" "settled" "I") (List.mem_cons_of_mem _ (List.mem_append_left _ (List.mem_of_getElem? (i := 1) rfl)))) (fun _ h9 => h9) rfl dX8_goRound_16 ?_
                refine lv_if_ge (tgt := 79) hx hb dX8_goRound_19 (by decide) (fun c19 => ?_) (fun c19 => ?_)
                · have gc19 := ai_le c19
                  have l19t_j24a0_30 : (0 : Int) ≤ j24a0_30.toInt := l57z_j24a0_30
                  refine lv_aload_n hx hb dX8_goRound_79 rfl (lv_at hl 0 rfl) ?_
                  refine lv_iload_n hx hb dX8_goRound_80 rfl (lv_at hl 1 rfl) ?_
                  refine lv_aload_n hx hb dX8_goRound_81 rfl (lv_at hl 0 rfl) ?_
                  refine va_get (D := (dC, dI)) (ci := 8) (v := .int j24a0_30) (C := RX8) (T := TX8) (N := 40) hx hb hts zi_X8_goRound_8 hown hK hP 0 rfl rfl 30 (by decide) (hts (.fieldLink RX8 283 "WaxTurnsModel" "settled" "I") (List.mem_cons_of_mem _ (List.mem_append_left _ (List.mem_of_getElem? (i := 1) rfl)))) (fun _ h9 => h9) rfl dX8_goRound_82 ?_
                  refine lv_isub hx hb dX8_goRound_85 ?_
                  refine lv_topi (fun x85 ex85 => ?_)
                  have qx85 : x85.toInt = j15l1.toInt - j24a0_30.toInt := ai_sub ex85 ⟨bj15l1_l, u57z_j15l1⟩ ⟨l19t_j24a0_30, u57z_j24a0_30⟩ (by decide) (by decide)
                  have bx85 : (-8 : Int) ≤ x85.toInt ∧ x85.toInt ≤ 9 := ⟨by rw [qx85]; exact Int.sub_le_sub bj15l1_l u57z_j24a0_30, by rw [qx85]; exact Int.sub_le_sub u57z_j15l1 l19t_j24a0_30⟩
                  refine va_put (D := (dC, dI)) (ci := 8) (v := .int x85) (ty := .int) (C := RX8) (T := TX8) (N := 40) hx hb hts zi_X8_goRound_8 tyX8 tyX8_ok nmX8 hown hK hP hD hS 0 rfl rfl 31 (by decide) (hts (.fieldLink RX8 286 "WaxTurnsModel" "again" "I") (List.mem_cons_of_mem _ (List.mem_append_left _ (List.mem_of_getElem? (i := 3) rfl)))) (fun _ h9 => h9) rfl (tyX8_ok 31 (by decide)) rfl rfl (Nat.le_of_ble_eq_true rfl) dX8_goRound_86 (fun H locs hP hD hS => ?_)
                  refine zs_0 (y := (a0, .inr (8, [a0g_0, a0g_1, a0g_2, a0g_3, a0g_4, a0g_5, a0g_6, a0g_7, a0g_8, a0g_9, a0g_10, a0g_11, a0g_12, a0g_13, a0g_14, Value.ref a0_15, a0g_16, Value.ref a0_17, a0g_18, a0g_19, a0g_20, a0g_21, a0g_22, a0g_23, a0g_24, a0g_25, a0g_26, a0g_27, a0g_28, Value.ref a0_29, Value.int j24a0_30, Value.int x85, a0g_32, a0g_33, a0g_34, a0g_35, a0g_36, a0g_37, a0g_38, a0g_39]))) hP hD rfl (fun hP hD => ?_)
                  exact W.vret hx hb hr (fun t ht hW => ⟨⟨(), rfl, trivial, j24a0_30, x85, j15a0_29_a, bj15a0_29_a, ⟨by omega, by omega, by omega⟩, by rw [ht]; exact hP, va_K.moved hW.alike hK, hD⟩, hS.F ht⟩) hS.2.2 dX8_goRound_89
                · have gc19 := ai_nle c19
                  have u19f_j24a0_30 : j24a0_30.toInt ≤ (-1 : Int) := ai_lthi gc19 zq6
                  exact absurd (Int.le_trans l57z_j24a0_30 u19f_j24a0_30) (by decide)
            · have gc26 := ai_nle c26
              have u26f_j24l3 : j24l3.toInt ≤ (8 : Int) := ai_lthi gc26 u22z_j15l1
              have l26f_j15l1 : (1 : Int) ≤ j15l1.toInt := ai_ltlo gc26 bj24l3_l
              refine lv_aload_n hx hb dX8_goRound_29 rfl (lv_at hl 0 rfl) ?_
              refine va_get (D := (dC, dI)) (ci := 8) (v := .ref a0_29) (C := RX8) (T := TX8) (N := 40) hx hb hts zi_X8_goRound_8 hown hK hP 0 rfl rfl 29 (by decide) (hts (.fieldLink RX8 44 "WaxTurnsModel" "row" "[I") (List.mem_cons_of_mem _ (List.mem_append_left _ (List.mem_of_getElem? (i := 2) rfl)))) (fun _ h9 => h9) rfl dX8_goRound_30 ?_
              refine lv_iload_n hx hb dX8_goRound_33 rfl (lv_at hl 3 rfl) ?_
              refine va_iald hx hb hK hP 2 1 rfl rfl (ai_in bj24l3_l u26f_j24l3 (by decide) (by decide)) dX8_goRound_34 ?_
              refine lv_topi (fun x34 ex34 => ?_)
              have bx34 : (0 : Int) ≤ x34.toInt ∧ x34.toInt ≤ 8 := by rw [ex34]; exact bj15a0_29_a _
              refine lv_iload_n hx hb dX8_goRound_35 rfl (lv_at hl 2 rfl) ?_
              refine lv_icmp_ne (tgt := 44) hx hb dX8_goRound_36 (by decide) (fun c36 => ?_) (fun c36 => ?_)
              · have gc36 := ai_ne c36
                obtain ⟨x44, ex44⟩ : ∃ y : Int32, y = j24l3 + Int32.ofInt 1 := ⟨_, rfl⟩
                have qx44 : x44.toInt = j24l3.toInt + 1 := ai_inc ex44 (by decide) (by decide) u26f_j24l3 (by decide)
                have bx44 : (1 : Int) ≤ x44.toInt ∧ x44.toInt ≤ 9 := ⟨by rw [qx44]; exact Int.add_le_add bj24l3_l (Int.le_refl _), by rw [qx44]; exact Int.add_le_add u26f_j24l3 (Int.le_refl _)⟩
                refine lv_iinc (v := x44) (lv' := [(3, .int x44), (0, .ref a0), (1, .int j15l1), (2, .int j15l2)]) hx hb dX8_goRound_44 hl (k := 3) rfl ex44.symm (by decide) rfl (fun ls hl => ?_)
                refine lv_goto (tgt := 24) hx hb dX8_goRound_47 (by decide) ?_
                exact (hK0 _ _ _).mp (ih24 x44 j24a0_30 _ _ _ (by have h0 := qx44; omega) (Int.le_trans zq4 bx44.1) bx44.2 (gr_Ks sk24 ex34 c36 qx44 bj24l3_l) hP hD hS (lv_sub hl [1, 2, 3, 0] rfl))
              · have gc36 := ai_eq c36
                have u36f_x34 : x34.toInt ≤ (8 : Int) := bx34.2
                have l36f_x34 : (0 : Int) ≤ x34.toInt := bx34.1
                have u36f_j15l2 : j15l2.toInt ≤ (8 : Int) := bj15l2_u
                have l36f_j15l2 : (0 : Int) ≤ j15l2.toInt := bj15l2_l
                refine lv_aload_n hx hb dX8_goRound_39 rfl (lv_at hl 0 rfl) ?_
                refine lv_iload_n hx hb dX8_goRound_40 rfl (lv_at hl 3 rfl) ?_
                refine va_put (D := (dC, dI)) (ci := 8) (v := .int j24l3) (ty := .int) (C := RX8) (T := TX8) (N := 40) hx hb hts zi_X8_goRound_8 tyX8 tyX8_ok nmX8 hown hK hP hD hS 0 rfl rfl 30 (by decide) (hts (.fieldLink RX8 283 "WaxTurnsModel" "settled" "I") (List.mem_cons_of_mem _ (List.mem_append_left _ (List.mem_of_getElem? (i := 1) rfl)))) (fun _ h9 => h9) rfl (tyX8_ok 30 (by decide)) rfl rfl (Nat.le_of_ble_eq_true rfl) dX8_goRound_41 (fun H locs hP hD hS => ?_)
                refine zs_0 (y := (a0, .inr (8, [a0g_0, a0g_1, a0g_2, a0g_3, a0g_4, a0g_5, a0g_6, a0g_7, a0g_8, a0g_9, a0g_10, a0g_11, a0g_12, a0g_13, a0g_14, Value.ref a0_15, a0g_16, Value.ref a0_17, a0g_18, a0g_19, a0g_20, a0g_21, a0g_22, a0g_23, a0g_24, a0g_25, a0g_26, a0g_27, a0g_28, Value.ref a0_29, Value.int j24l3, Value.int a0_31, a0g_32, a0g_33, a0g_34, a0g_35, a0g_36, a0g_37, a0g_38, a0g_39]))) hP hD rfl (fun hP hD => ?_)
                obtain ⟨x44, ex44⟩ : ∃ y : Int32, y = j24l3 + Int32.ofInt 1 := ⟨_, rfl⟩
                have qx44 : x44.toInt = j24l3.toInt + 1 := ai_inc ex44 (by decide) (by decide) u26f_j24l3 (by decide)
                have bx44 : (1 : Int) ≤ x44.toInt ∧ x44.toInt ≤ 9 := ⟨by rw [qx44]; exact Int.add_le_add bj24l3_l (Int.le_refl _), by rw [qx44]; exact Int.add_le_add u26f_j24l3 (Int.le_refl _)⟩
                refine lv_iinc (v := x44) (lv' := [(3, .int x44), (0, .ref a0), (1, .int j15l1), (2, .int j15l2)]) hx hb dX8_goRound_44 hl (k := 3) rfl ex44.symm (by decide) rfl (fun ls hl => ?_)
                refine lv_goto (tgt := 24) hx hb dX8_goRound_47 (by decide) ?_
                exact (hK0 _ _ _).mp (ih24 x44 j24l3 _ _ _ (by have h0 := qx44; omega) (Int.le_trans zq4 bx44.1) bx44.2 (Or.inr ⟨bj24l3_l, by omega⟩) hP hD hS (lv_sub hl [1, 2, 3, 0] rfl))
        exact (hK0 _ _ _).mp (J24 10 0 j15a0_30 _ _ _ (by have h1 : (0 : Int) ≤ (0 : Int32).toInt := zq5; have h2 : (0 : Int32).toInt ≤ (0 : Int) := zq6; omega) zq5 (Int.le_trans zq6 zq7) (gr_K0 sm15 (by decide)) hP hD hS (lv_sub hl [1, 2, 3, 0] rfl))
  exact (hK0 _ _ _).mp (J15 13 x8 0 (-1) fa0_29 _ _ _ (by have h1 : (0 : Int) ≤ (0 : Int32).toInt := zq5; have h2 : (0 : Int32).toInt ≤ (0 : Int) := zq6; omega) bx8.1 bx8.2 zq5 (Int.le_trans zq6 zq169) bfa0_29 (gr_z0 (by decide)) (by decide) hP hD hS (lv_sub hl [2, 1, 0] rfl))

set_option maxHeartbeats 4000000 in
set_option maxRecDepth 100000 in
theorem c_X8_turnAt (l : Launch) (dC : Nat → ClassId) (dI : Nat → Nat → Nat) (sz : Nat) (a0 : Nat) (a1 : Int32) (a0g_0 a0g_1 a0g_2 a0g_3 a0g_4 a0g_5 a0g_6 a0g_7 a0g_8 a0g_9 a0g_10 a0g_11 a0g_12 a0g_13 a0g_14 a0g_15 a0g_16 a0g_17 a0g_18 a0g_19 a0g_20 a0g_21 a0g_22 a0g_23 a0g_24 a0g_25 a0g_26 a0g_27 a0g_28 a0g_32 a0g_33 a0g_34 a0g_35 a0g_36 a0g_37 a0g_38 a0g_39 : Value) (a0_29 : Nat) (a0_30 : Int32) (a0_31 : Int32) (ka0_29 : ClassId) (fa0_29 : Nat → Int32) (ba1_l : (0 : Int) ≤ a1.toInt) (ba0_30_l : (0 : Int) ≤ a0_30.toInt) (ba0_30_u : a0_30.toInt ≤ (8 : Int)) (ba0_31_l : (1 : Int) ≤ a0_31.toInt) (ba0_31_u : a0_31.toInt ≤ (9 : Int)) (bfa0_29 : (∀ k, (0 : Int) ≤ (fa0_29 k).toInt ∧ (fa0_29 k).toInt ≤ 8)) (hsa : (0 : Int) ≤ a0_30.toInt ∧ (1 : Int) ≤ a0_31.toInt ∧ a0_30.toInt + a0_31.toInt ≤ 9) : zm l yX8_turnAt wsX8_turnAt ({ frames := 0, cells := 0, slots := 0, locals := 0 }) [.ref a0, .int a1] dC dI sz [(a0, .inr (8, [a0g_0, a0g_1, a0g_2, a0g_3, a0g_4, a0g_5, a0g_6, a0g_7, a0g_8, a0g_9, a0g_10, a0g_11, a0g_12, a0g_13, a0g_14, a0g_15, a0g_16, a0g_17, a0g_18, a0g_19, a0g_20, a0g_21, a0g_22, a0g_23, a0g_24, a0g_25, a0g_26, a0g_27, a0g_28, Value.ref a0_29, Value.int a0_30, Value.int a0_31, a0g_32, a0g_33, a0g_34, a0g_35, a0g_36, a0g_37, a0g_38, a0g_39])), (a0_29, .inl (ka0_29, 10, .inl (fa0_29)))] [(ka0_29, .int)] (fun A _ => True) (fun A => va_Qi (fun (r : Int32) (_ : Unit) => (0 : Int) ≤ r.toInt ∧ r.toInt ≤ (8 : Int)) (fun (_ : Unit) (t : State) => ax_B dC dI A [(a0, .inr (8, [a0g_0, a0g_1, a0g_2, a0g_3, a0g_4, a0g_5, a0g_6, a0g_7, a0g_8, a0g_9, a0g_10, a0g_11, a0g_12, a0g_13, a0g_14, a0g_15, a0g_16, a0g_17, a0g_18, a0g_19, a0g_20, a0g_21, a0g_22, a0g_23, a0g_24, a0g_25, a0g_26, a0g_27, a0g_28, Value.ref a0_29, Value.int a0_30, Value.int a0_31, a0g_32, a0g_33, a0g_34, a0g_35, a0g_36, a0g_37, a0g_38, a0g_39])), (a0_29, .inl (ka0_29, 10, .inl (fa0_29)))] [(ka0_29, .int)] t) A) := by
  refine zh (cc := cX8_turnAt) (maxL := 2) (ret := (some .int)) zn_RX8 rfl (Nat.le_of_ble_eq_true rfl) (fun p e s m below meth c A ls hx hb hml hr hts (hown : s.vm.findClass RX8 = some m.cls) hlocks hA hS hP hK hD hE (hl : lv_has ls 2 [(0, .ref a0), (1, .int a1)]) => ?_)
  refine lv_aload_n hx hb dX8_turnAt_0 rfl (lv_at hl 0 rfl) ?_
  refine va_get (D := (dC, dI)) (ci := 8) (v := .ref a0_29) (C := RX8) (T := TX8) (N := 40) hx hb hts zi_X8_turnAt_8 hown hK hP 0 rfl rfl 29 (by decide) (hts (.fieldLink RX8 44 "WaxTurnsModel" "row" "[I") (List.mem_cons_of_mem _ (List.mem_append_left _ (List.mem_of_getElem? (i := 0) rfl)))) (fun _ h9 => h9) rfl dX8_turnAt_1 ?_
  refine lv_iload_n hx hb dX8_turnAt_4 rfl (lv_at hl 1 rfl) ?_
  refine lv_aload_n hx hb dX8_turnAt_5 rfl (lv_at hl 0 rfl) ?_
  refine va_get (D := (dC, dI)) (ci := 8) (v := .int a0_30) (C := RX8) (T := TX8) (N := 40) hx hb hts zi_X8_turnAt_8 hown hK hP 0 rfl rfl 30 (by decide) (hts (.fieldLink RX8 283 "WaxTurnsModel" "settled" "I") (List.mem_cons_of_mem _ (List.mem_append_left _ (List.mem_of_getElem? (i := 1) rfl)))) (fun _ h9 => h9) rfl dX8_turnAt_6 ?_
  refine lv_icmp_ge (tgt := 16) hx hb dX8_turnAt_9 (by decide) (fun c9 => ?_) (fun c9 => ?_)
  · have gc9 := ai_le c9
    have l9t_a1 : (0 : Int) ≤ a1.toInt := ba1_l
    refine lv_aload_n hx hb dX8_turnAt_16 rfl (lv_at hl 0 rfl) ?_
    refine va_get (D := (dC, dI)) (ci := 8) (v := .int a0_30) (C := RX8) (T := TX8) (N := 40) hx hb hts zi_X8_turnAt_8 hown hK hP 0 rfl rfl 30 (by decide) (hts (.fieldLink RX8 283 "WaxTurnsModel" "settled" "I") (List.mem_cons_of_mem _ (List.mem_append_left _ (List.mem_of_getElem? (i := 1) rfl)))) (fun _ h9 => h9) rfl dX8_turnAt_17 ?_
    refine lv_iload_n hx hb dX8_turnAt_20 rfl (lv_at hl 1 rfl) ?_
    refine lv_aload_n hx hb dX8_turnAt_21 rfl (lv_at hl 0 rfl) ?_
    refine va_get (D := (dC, dI)) (ci := 8) (v := .int a0_30) (C := RX8) (T := TX8) (N := 40) hx hb hts zi_X8_turnAt_8 hown hK hP 0 rfl rfl 30 (by decide) (hts (.fieldLink RX8 283 "WaxTurnsModel" "settled" "I") (List.mem_cons_of_mem _ (List.mem_append_left _ (List.mem_of_getElem? (i := 1) rfl)))) (fun _ h9 => h9) rfl dX8_turnAt_22 ?_
    refine lv_isub hx hb dX8_turnAt_25 ?_
    refine lv_topi (fun x25 ex25 => ?_)
    have qx25 : x25.toInt = a1.toInt - a0_30.toInt := ai_sub ex25 ⟨l9t_a1, (ai_max a1)⟩ ⟨ba0_30_l, ba0_30_u⟩ (by decide) (by decide)
    have bx25 : (-8 : Int) ≤ x25.toInt ∧ x25.toInt ≤ 2147483647 := ⟨by rw [qx25]; exact Int.sub_le_sub l9t_a1 ba0_30_u, by rw [qx25]; exact Int.sub_le_sub (ai_max a1) ba0_30_l⟩
    have l25z_x25 : (0 : Int) ≤ x25.toInt := by omega
    refine lv_aload_n hx hb dX8_turnAt_26 rfl (lv_at hl 0 rfl) ?_
    refine va_get (D := (dC, dI)) (ci := 8) (v := .int a0_31) (C := RX8) (T := TX8) (N := 40) hx hb hts zi_X8_turnAt_8 hown hK hP 0 rfl rfl 31 (by decide) (hts (.fieldLink RX8 286 "WaxTurnsModel" "again" "I") (List.mem_cons_of_mem _ (List.mem_append_left _ (List.mem_of_getElem? (i := 2) rfl)))) (fun _ h9 => h9) rfl dX8_turnAt_27 ?_
    refine lv_irem hx hb dX8_turnAt_30 (ai_nz ba0_31_l (by decide)) ?_
    refine lv_topi (fun x30 ex30 => ?_)
    have qx30 := ai_rem2 ex30 l25z_x25 (Int.lt_of_lt_of_le zq19 ba0_31_l) ba0_31_u
    refine lv_iadd hx hb dX8_turnAt_31 ?_
    refine lv_topi (fun x31 ex31 => ?_)
    have qx31 : x31.toInt = a0_30.toInt + x30.toInt := ai_add ex31 ⟨ba0_30_l, ba0_30_u⟩ ⟨qx30.2.1, qx30.2.2⟩ (by decide) (by decide)
    have bx31 : (0 : Int) ≤ x31.toInt ∧ x31.toInt ≤ 16 := ⟨by rw [qx31]; exact Int.add_le_add ba0_30_l qx30.2.1, by rw [qx31]; exact Int.add_le_add ba0_30_u qx30.2.2⟩
    have hlt31 := Int.emod_lt_of_pos x25.toInt (show 0 < a0_31.toInt by omega)
    have hq31 := qx30.1
    have u31z_x31 : x31.toInt ≤ (9 : Int) := by omega
    refine va_iald hx hb hK hP 1 0 rfl rfl (ai_in bx31.1 u31z_x31 (by decide) (by decide)) dX8_turnAt_32 ?_
    refine lv_topi (fun x32 ex32 => ?_)
    have bx32 : (0 : Int) ≤ x32.toInt ∧ x32.toInt ≤ 8 := by rw [ex32]; exact bfa0_29 _
    exact W.iret (v := x32) hx hb hr (fun t ht hW => ⟨⟨x32, (), rfl, ⟨bx32.1, bx32.2⟩, by rw [ht]; exact hP, va_K.moved hW.alike hK, hD⟩, hS.F ht⟩) hS.2.2 dX8_turnAt_33
  · have gc9 := ai_nle c9
    have u9f_a1 : a1.toInt ≤ (7 : Int) := ai_lthi gc9 ba0_30_u
    have l9f_a0_30 : (1 : Int) ≤ a0_30.toInt := ai_ltlo gc9 ba1_l
    refine lv_iload_n hx hb dX8_turnAt_12 rfl (lv_at hl 1 rfl) ?_
    refine lv_goto (tgt := 32) hx hb dX8_turnAt_13 (by decide) ?_
    refine va_iald hx hb hK hP 1 0 rfl rfl (ai_in ba1_l u9f_a1 (by decide) (by decide)) dX8_turnAt_32 ?_
    refine lv_topi (fun x32 ex32 => ?_)
    have bx32 : (0 : Int) ≤ x32.toInt ∧ x32.toInt ≤ 8 := by rw [ex32]; exact bfa0_29 _
    exact W.iret (v := x32) hx hb hr (fun t ht hW => ⟨⟨x32, (), rfl, ⟨bx32.1, bx32.2⟩, by rw [ht]; exact hP, va_K.moved hW.alike hK, hD⟩, hS.F ht⟩) hS.2.2 dX8_turnAt_33
end P232_00_safe
section P234_00_safe
set_option maxHeartbeats 4000000 in
set_option maxRecDepth 100000 in
theorem c_X8_begin (l : Launch) (dC : Nat → ClassId) (dI : Nat → Nat → Nat) (sz : Nat) (a0 : Nat) (a0g_0 a0g_1 a0g_2 a0g_3 a0g_4 a0g_5 a0g_6 a0g_7 a0g_8 a0g_9 a0g_10 a0g_11 a0g_12 a0g_13 a0g_14 a0g_16 a0g_19 a0g_20 a0g_21 a0g_22 a0g_26 a0g_27 a0g_28 a0g_29 a0g_30 a0g_31 a0g_32 a0g_33 a0g_34 a0g_35 a0g_36 a0g_37 a0g_38 a0g_39 : Value) (a0_15 : Nat) (a0_17 : Nat) (a0_18 : Nat) (a0_23 : Nat) (a0_24 : Nat) (a0_25 : Int32) (ka0_15 : ClassId) (fa0_15 : Nat → Int32) (ka0_23 : ClassId) (fa0_23 : Nat → Int32) (ka0_24 : ClassId) (fa0_24 : Nat → Int32) (ka0_17 : ClassId) (fa0_17 : Nat → Int32) (ka0_18 : ClassId) (fa0_18 : Nat → Int32) (bfa0_15 : ((∀ k : Nat, 0 ≤ k → k ≤ 0 → (2 : Int) ≤ (fa0_15 k).toInt ∧ (fa0_15 k).toInt ≤ 9) ∧ (∀ k : Nat, 1 ≤ k → k ≤ 1 → (1 : Int) ≤ (fa0_15 k).toInt ∧ (fa0_15 k).toInt ≤ 20) ∧ (∀ k : Nat, 2 ≤ k → k ≤ 2 → (0 : Int) ≤ (fa0_15 k).toInt ∧ (fa0_15 k).toInt ≤ 8) ∧ (∀ k : Nat, 3 ≤ k → k ≤ 3 → (0 : Int) ≤ (fa0_15 k).toInt ∧ (fa0_15 k).toInt ≤ 100) ∧ (∀ k : Nat, 4 ≤ k → k ≤ 4 → (0 : Int) ≤ (fa0_15 k).toInt ∧ (fa0_15 k).toInt ≤ 9) ∧ (∀ k : Nat, 5 ≤ k → k ≤ 5 → (0 : Int) ≤ (fa0_15 k).toInt ∧ (fa0_15 k).toInt ≤ 3) ∧ (∀ k : Nat, 6 ≤ k → k ≤ 6 → (0 : Int) ≤ (fa0_15 k).toInt ∧ (fa0_15 k).toInt ≤ 6) ∧ (∀ k : Nat, 7 ≤ k → k ≤ 9 → (0 : Int) ≤ (fa0_15 k).toInt ∧ (fa0_15 k).toInt ≤ 8) ∧ (∀ k : Nat, 12 ≤ k → k ≤ 29 → (0 : Int) ≤ (fa0_15 k).toInt ∧ (fa0_15 k).toInt ≤ 20) ∧ (∀ k : Nat, 30 ≤ k → k ≤ 35 → (0 : Int) ≤ (fa0_15 k).toInt ∧ (fa0_15 k).toInt ≤ 8) ∧ (∀ k : Nat, 36 ≤ k → k ≤ 47 → (0 : Int) ≤ (fa0_15 k).toInt ∧ (fa0_15 k).toInt ≤ 999))) (bfa0_23 : (∀ k, (0 : Int) ≤ (fa0_23 k).toInt ∧ (fa0_23 k).toInt ≤ 80)) (bfa0_24 : (∀ k, (0 : Int) ≤ (fa0_24 k).toInt ∧ (fa0_24 k).toInt ≤ 80)) (bfa0_17 : ((∀ k : Nat, 0 ≤ k → k ≤ 8 → (0 : Int) ≤ (fa0_17 k).toInt ∧ (fa0_17 k).toInt ≤ 8) ∧ (∀ k : Nat, 19 ≤ k → k ≤ 19 → (0 : Int) ≤ (fa0_17 k).toInt ∧ (fa0_17 k).toInt ≤ 8) ∧ (∀ k : Nat, 20 ≤ k → k ≤ 20 → (0 : Int) ≤ (fa0_17 k).toInt ∧ (fa0_17 k).toInt ≤ 19))) (bfa0_18 : ((∀ k : Nat, 0 ≤ k → k ≤ 8 → (0 : Int) ≤ (fa0_18 k).toInt ∧ (fa0_18 k).toInt ≤ 8) ∧ (∀ k : Nat, 19 ≤ k → k ≤ 19 → (0 : Int) ≤ (fa0_18 k).toInt ∧ (fa0_18 k).toInt ≤ 8) ∧ (∀ k : Nat, 20 ≤ k → k ≤ 20 → (0 : Int) ≤ (fa0_18 k).toInt ∧ (fa0_18 k).toInt ≤ 19))) : zm l yX8_begin wsX8_begin ({ frames := 1, cells := 0, slots := 0, locals := 25 }) [.ref a0] dC dI sz [(a0, .inr (8, [a0g_0, a0g_1, a0g_2, a0g_3, a0g_4, a0g_5, a0g_6, a0g_7, a0g_8, a0g_9, a0g_10, a0g_11, a0g_12, a0g_13, a0g_14, Value.ref a0_15, a0g_16, Value.ref a0_17, Value.ref a0_18, a0g_19, a0g_20, a0g_21, a0g_22, Value.ref a0_23, Value.ref a0_24, Value.int a0_25, a0g_26, a0g_27, a0g_28, a0g_29, a0g_30, a0g_31, a0g_32, a0g_33, a0g_34, a0g_35, a0g_36, a0g_37, a0g_38, a0g_39])), (a0_15, .inl (ka0_15, 156, .inl (fa0_15))), (a0_23, .inl (ka0_23, 3, .inl (fa0_23))), (a0_24, .inl (ka0_24, 3, .inl (fa0_24))), (a0_17, .inl (ka0_17, 23, .inl (fa0_17))), (a0_18, .inl (ka0_18, 23, .inl (fa0_18)))] [(ka0_15, .int), (ka0_23, .int), (ka0_24, .int), (ka0_17, .int), (ka0_18, .int)] (fun A _ => True) (fun A => va_Qv (fun (_ : Unit) => True) (fun (_ : Unit) (t : State) => ∃ na0_25 : Int32, ∃ nfa0_23 : Nat → Int32, ∃ nfa0_24 : Nat → Int32, ∃ nfa0_18 : Nat → Int32, (∀ k, (0 : Int) ≤ (nfa0_23 k).toInt ∧ (nfa0_23 k).toInt ≤ 80) ∧ (∀ k, (0 : Int) ≤ (nfa0_24 k).toInt ∧ (nfa0_24 k).toInt ≤ 80) ∧ ((∀ k : Nat, 0 ≤ k → k ≤ 8 → (0 : Int) ≤ (nfa0_18 k).toInt ∧ (nfa0_18 k).toInt ≤ 8) ∧ (∀ k : Nat, 19 ≤ k → k ≤ 19 → (0 : Int) ≤ (nfa0_18 k).toInt ∧ (nfa0_18 k).toInt ≤ 8) ∧ (∀ k : Nat, 20 ≤ k → k ≤ 20 → (0 : Int) ≤ (nfa0_18 k).toInt ∧ (nfa0_18 k).toInt ≤ 19)) ∧ ax_B dC dI A [(a0, .inr (8, [a0g_0, a0g_1, a0g_2, a0g_3, a0g_4, a0g_5, a0g_6, a0g_7, a0g_8, a0g_9, a0g_10, a0g_11, a0g_12, a0g_13, a0g_14, Value.ref a0_15, a0g_16, Value.ref a0_17, Value.ref a0_18, a0g_19, a0g_20, a0g_21, a0g_22, Value.ref a0_23, Value.ref a0_24, Value.int na0_25, a0g_26, a0g_27, a0g_28, a0g_29, a0g_30, a0g_31, a0g_32, a0g_33, a0g_34, a0g_35, a0g_36, a0g_37, a0g_38, a0g_39])), (a0_15, .inl (ka0_15, 156, .inl (fa0_15))), (a0_23, .inl (ka0_23, 3, .inl (nfa0_23))), (a0_24, .inl (ka0_24, 3, .inl (nfa0_24))), (a0_17, .inl (ka0_17, 23, .inl (fa0_17))), (a0_18, .inl (ka0_18, 23, .inl (nfa0_18)))] [(ka0_15, .int), (ka0_23, .int), (ka0_24, .int), (ka0_17, .int), (ka0_18, .int)] t) A) := by
  refine zh (cc := cX8_begin) (maxL := 1) (ret := none) zn_RX8 rfl (Nat.le_of_ble_eq_true rfl) (fun p e s m below meth c A ls hx hb hml hr hts (hown : s.vm.findClass RX8 = some m.cls) hlocks hA hS hP hK hD hE (hl : lv_has ls 1 [(0, .ref a0)]) => ?_)
  refine lv_aload_n hx hb dX8_begin_0 rfl (lv_at hl 0 rfl) ?_
  have hKc := hK.sub (tys' := [(ka0_15, .int), (ka0_23, .int), (ka0_24, .int)]) [0, 1, 2] rfl
  refine va_callv (va_runV (As := []) (rest := []) ⟨hx, hb, hml, hown, hts⟩ (c_X8_watchAsTold l dC dI s.heap.size a0 a0g_0 a0g_1 a0g_2 a0g_3 a0g_4 a0g_5 a0g_6 a0g_7 a0g_8 a0g_9 a0g_10 a0g_11 a0g_12 a0g_13 a0g_14 a0g_16 (Value.ref a0_17) (Value.ref a0_18) a0g_19 a0g_20 a0g_21 a0g_22 a0g_26 a0g_27 a0g_28 a0g_29 a0g_30 a0g_31 a0g_32 a0g_33 a0g_34 a0g_35 a0g_36 a0g_37 a0g_38 a0g_39 a0_15 a0_23 a0_24 a0_25 ka0_15 fa0_15 ka0_23 fa0_23 ka0_24 fa0_24 bfa0_15 bfa0_23 bfa0_24) (cwV 0 hts gX8_begin_X8_watchAsTold rfl rfl rfl zd_X8_watchAsTold ⟨Nat.le_of_ble_eq_true rfl, Nat.le_of_ble_eq_true rfl⟩) ⟨ax_blind (fun _ _ _ _ _ => trivial), zr_8 hKc (zp_P4 hP) (q0 := 0) rfl, ax_pre (zp_P4 hP) hKc (zp_D4 hD) (fun _ _ => trivial)⟩ rfl rfl hl.1 rfl (lv_room (Nat.le_of_ble_eq_true rfl)) dX8_begin_1 ⟨Nat.le_of_ble_eq_true rfl, Nat.le_of_ble_eq_true rfl⟩) hS (fun q _ h => zp_F4 hD hS hA q h) (zp_F4 hD hS hA) (fun u t H locs ht hvm hw hB hz1 hk1 hS1 => zx_3 hB (fun v1na0_25 v1nfa0_23 v1nfa0_24 hB => zy_2 hB (fun bv1nfa0_23 bv1nfa0_24 hB => zo4 hB ht hP hD hk1 (zp_F4 hD hS hA) hS1 (fun hP hK1 hD hS => ?_))))
  refine lv_aload_n hx hb dX8_begin_4 rfl (lv_at hl 0 rfl) ?_
  refine va_get (D := (dC, dI)) (ci := 8) (v := .ref a0_17) (C := RX8) (T := TX8) (N := 40) hx hb hts zi_X8_begin_8 hown hK hP 0 rfl rfl 17 (by decide) (hts (.fieldLink RX8 26 "WaxTurnsModel" "st" "[I") (List.mem_cons_of_mem _ (List.mem_append_left _ (List.mem_of_getElem? (i := 0) rfl)))) (fun _ h9 => h9) rfl dX8_begin_5 ?_
  refine lv_iconst (v := 0) hx hb dX8_begin_8 zk_iconst_0 ?_
  refine lv_aload_n hx hb dX8_begin_9 rfl (lv_at hl 0 rfl) ?_
  refine va_get (D := (dC, dI)) (ci := 8) (v := .ref a0_18) (C := RX8) (T := TX8) (N := 40) hx hb hts zi_X8_begin_8 hown hK hP 0 rfl rfl 18 (by decide) (hts (.fieldLink RX8 29 "WaxTurnsModel" "trial" "[I") (List.mem_cons_of_mem _ (List.mem_append_left _ (List.mem_of_getElem? (i := 1) rfl)))) (fun _ h9 => h9) rfl dX8_begin_10 ?_
  refine lv_iconst (v := 0) hx hb dX8_begin_13 zk_iconst_0 ?_
  refine lv_bipush (v := 23) hx hb dX8_begin_14 zk_bipush_23 ?_
  refine zc_cutc (wc := [(a0_17, .inl (ka0_17, 23, .inl (fa0_17))), (a0_18, .inl (ka0_18, 23, .inl (fa0_18)))]) hP hD hS hA [4, 5] (by decide +kernel) rfl (fun hPc hDc hFc hCc => ?_)
  have hKc := hK.sub (tys' := [(ka0_17, .int), (ka0_18, .int)]) [3, 4] rfl
  refine va_callv (va_runS (As := [.ref a0_17, .int 0, .ref a0_18, .int 0, .int 23]) (rest := []) ⟨hx, hb, hml, hown, hts⟩ (c_X8_copy_23_23 l dC dI H.size a0_17 0 a0_18 0 23 ka0_17 fa0_17 ka0_18 fa0_18 zq5 zq6 zq5 zq6 zq170 zq171) (va_cwS 5 hts gX8_begin_X8_copy rfl rfl rfl zd_X8_copy.2 ⟨Nat.le_of_ble_eq_true rfl, Nat.le_of_ble_eq_true rfl⟩) ⟨ax_blind (fun _ _ _ _ _ => trivial), ax_pre hPc hKc hDc (fun _ _ => trivial)⟩ rfl rfl hl.1 rfl (lv_room (Nat.le_of_ble_eq_true rfl)) dX8_begin_16 ⟨Nat.le_of_ble_eq_true rfl, Nat.le_of_ble_eq_true rfl⟩) hS (fun q _ h => hFc q h) hFc (fun u t H locs ht hvm hw hB hz1 hk1 hS => zx_1 hB (fun v16nfa3 hB => zy_1 hB (fun hraw16_0 hB => zo hB ht (fun hP1 hK1 hD1 => ?_))))
  refine zc_backc (w := [(a0, .inr (8, [a0g_0, a0g_1, a0g_2, a0g_3, a0g_4, a0g_5, a0g_6, a0g_7, a0g_8, a0g_9, a0g_10, a0g_11, a0g_12, a0g_13, a0g_14, Value.ref a0_15, a0g_16, Value.ref a0_17, Value.ref a0_18, a0g_19, a0g_20, a0g_21, a0g_22, Value.ref a0_23, Value.ref a0_24, Value.int v1na0_25, a0g_26, a0g_27, a0g_28, a0g_29, a0g_30, a0g_31, a0g_32, a0g_33, a0g_34, a0g_35, a0g_36, a0g_37, a0g_38, a0g_39])), (a0_15, .inl (ka0_15, 156, .inl (fa0_15))), (a0_23, .inl (ka0_23, 3, .inl (v1nfa0_23))), (a0_24, .inl (ka0_24, 3, .inl (v1nfa0_24))), (a0_17, .inl (ka0_17, 23, .inl (fa0_17))), (a0_18, .inl (ka0_18, 23, .inl (v16nfa3)))]) hP hD hCc hk1 hFc hP1 hD1 [.inl 0, .inl 1, .inl 2, .inl 3, .inr 0, .inr 1] (by decide +kernel) rfl (fun hP hD => ?_)
  have bv16nfa3 : ((∀ k : Nat, 0 ≤ k → k ≤ 8 → (0 : Int) ≤ (v16nfa3 k).toInt ∧ (v16nfa3 k).toInt ≤ 8) ∧ (∀ k : Nat, 19 ≤ k → k ≤ 19 → (0 : Int) ≤ (v16nfa3 k).toInt ∧ (v16nfa3 k).toInt ≤ 8) ∧ (∀ k : Nat, 20 ≤ k → k ≤ 20 → (0 : Int) ≤ (v16nfa3 k).toInt ∧ (v16nfa3 k).toInt ≤ 19)) := cp_SS hraw16_0 (by decide) (by decide) bfa0_17
  exact W.vret hx hb hr (fun t ht hW => ⟨⟨(), rfl, trivial, v1na0_25, v1nfa0_23, v1nfa0_24, v16nfa3, bv1nfa0_23, bv1nfa0_24, bv16nfa3, by rw [ht]; exact hP, va_K.moved hW.alike hK, hD⟩, hS.F ht⟩) hS.2.2 dX8_begin_19

set_option maxHeartbeats 4000000 in
set_option maxRecDepth 100000 in
theorem c_X8_minutesOn (l : Launch) (dC : Nat → ClassId) (dI : Nat → Nat → Nat) (sz : Nat) (a0 : Nat) (a1 : Int32) (a0g_0 a0g_1 a0g_2 a0g_3 a0g_4 a0g_5 a0g_6 a0g_7 a0g_8 a0g_9 a0g_10 a0g_11 a0g_12 a0g_13 a0g_14 a0g_16 a0g_19 a0g_20 a0g_21 a0g_22 a0g_29 a0g_30 a0g_31 a0g_32 a0g_33 a0g_34 a0g_35 a0g_36 a0g_37 a0g_38 a0g_39 : Value) (a0_15 : Nat) (a0_17 : Nat) (a0_18 : Nat) (a0_23 : Nat) (a0_24 : Nat) (a0_25 : Int32) (a0_26 : Int32) (a0_27 : Int32) (a0_28 : Int32) (ka0_15 : ClassId) (fa0_15 : Nat → Int32) (ka0_23 : ClassId) (fa0_23 : Nat → Int32) (ka0_24 : ClassId) (fa0_24 : Nat → Int32) (ka0_17 : ClassId) (fa0_17 : Nat → Int32) (ka0_18 : ClassId) (fa0_18 : Nat → Int32) (bfa0_15 : ((∀ k : Nat, 0 ≤ k → k ≤ 0 → (2 : Int) ≤ (fa0_15 k).toInt ∧ (fa0_15 k).toInt ≤ 9) ∧ (∀ k : Nat, 1 ≤ k → k ≤ 1 → (1 : Int) ≤ (fa0_15 k).toInt ∧ (fa0_15 k).toInt ≤ 20) ∧ (∀ k : Nat, 2 ≤ k → k ≤ 2 → (0 : Int) ≤ (fa0_15 k).toInt ∧ (fa0_15 k).toInt ≤ 8) ∧ (∀ k : Nat, 3 ≤ k → k ≤ 3 → (0 : Int) ≤ (fa0_15 k).toInt ∧ (fa0_15 k).toInt ≤ 100) ∧ (∀ k : Nat, 4 ≤ k → k ≤ 4 → (0 : Int) ≤ (fa0_15 k).toInt ∧ (fa0_15 k).toInt ≤ 9) ∧ (∀ k : Nat, 5 ≤ k → k ≤ 5 → (0 : Int) ≤ (fa0_15 k).toInt ∧ (fa0_15 k).toInt ≤ 3) ∧ (∀ k : Nat, 6 ≤ k → k ≤ 6 → (0 : Int) ≤ (fa0_15 k).toInt ∧ (fa0_15 k).toInt ≤ 6) ∧ (∀ k : Nat, 7 ≤ k → k ≤ 9 → (0 : Int) ≤ (fa0_15 k).toInt ∧ (fa0_15 k).toInt ≤ 8) ∧ (∀ k : Nat, 12 ≤ k → k ≤ 29 → (0 : Int) ≤ (fa0_15 k).toInt ∧ (fa0_15 k).toInt ≤ 20) ∧ (∀ k : Nat, 30 ≤ k → k ≤ 35 → (0 : Int) ≤ (fa0_15 k).toInt ∧ (fa0_15 k).toInt ≤ 8) ∧ (∀ k : Nat, 36 ≤ k → k ≤ 47 → (0 : Int) ≤ (fa0_15 k).toInt ∧ (fa0_15 k).toInt ≤ 999))) (bfa0_23 : (∀ k, (0 : Int) ≤ (fa0_23 k).toInt ∧ (fa0_23 k).toInt ≤ 80)) (bfa0_24 : (∀ k, (0 : Int) ≤ (fa0_24 k).toInt ∧ (fa0_24 k).toInt ≤ 80)) (bfa0_17 : ((∀ k : Nat, 0 ≤ k → k ≤ 8 → (0 : Int) ≤ (fa0_17 k).toInt ∧ (fa0_17 k).toInt ≤ 8) ∧ (∀ k : Nat, 19 ≤ k → k ≤ 19 → (0 : Int) ≤ (fa0_17 k).toInt ∧ (fa0_17 k).toInt ≤ 8) ∧ (∀ k : Nat, 20 ≤ k → k ≤ 20 → (0 : Int) ≤ (fa0_17 k).toInt ∧ (fa0_17 k).toInt ≤ 19))) (bfa0_18 : ((∀ k : Nat, 0 ≤ k → k ≤ 8 → (0 : Int) ≤ (fa0_18 k).toInt ∧ (fa0_18 k).toInt ≤ 8) ∧ (∀ k : Nat, 19 ≤ k → k ≤ 19 → (0 : Int) ≤ (fa0_18 k).toInt ∧ (fa0_18 k).toInt ≤ 8) ∧ (∀ k : Nat, 20 ≤ k → k ≤ 20 → (0 : Int) ≤ (fa0_18 k).toInt ∧ (fa0_18 k).toInt ≤ 19))) (hkm : ∀ (j i0 i : Int32), (0 : Int) ≤ j.toInt → j.toInt ≤ 8 → i0.toInt = 12 + 2 * j.toInt → i.toInt = 13 + 2 * j.toInt → (fa0_15 i0.toNatClampNeg).toInt = (1 : Int32).toInt → (1 : Int) ≤ (fa0_15 i.toNatClampNeg).toInt) : zm l yX8_minutesOn wsX8_minutesOn ({ frames := 4, cells := 0, slots := 0, locals := 95 }) [.ref a0, .int a1] dC dI sz [(a0, .inr (8, [a0g_0, a0g_1, a0g_2, a0g_3, a0g_4, a0g_5, a0g_6, a0g_7, a0g_8, a0g_9, a0g_10, a0g_11, a0g_12, a0g_13, a0g_14, Value.ref a0_15, a0g_16, Value.ref a0_17, Value.ref a0_18, a0g_19, a0g_20, a0g_21, a0g_22, Value.ref a0_23, Value.ref a0_24, Value.int a0_25, Value.int a0_26, Value.int a0_27, Value.int a0_28, a0g_29, a0g_30, a0g_31, a0g_32, a0g_33, a0g_34, a0g_35, a0g_36, a0g_37, a0g_38, a0g_39])), (a0_15, .inl (ka0_15, 156, .inl (fa0_15))), (a0_23, .inl (ka0_23, 3, .inl (fa0_23))), (a0_24, .inl (ka0_24, 3, .inl (fa0_24))), (a0_17, .inl (ka0_17, 23, .inl (fa0_17))), (a0_18, .inl (ka0_18, 23, .inl (fa0_18)))] [(ka0_15, .int), (ka0_23, .int), (ka0_24, .int), (ka0_17, .int), (ka0_18, .int)] (fun A _ => True) (fun A => va_Qv (fun (_ : Unit) => True) (fun (_ : Unit) (t : State) => ∃ na0_25 : Int32, ∃ na0_26 : Int32, ∃ na0_27 : Int32, ∃ na0_28 : Int32, ∃ nfa0_23 : Nat → Int32, ∃ nfa0_24 : Nat → Int32, ∃ nfa0_18 : Nat → Int32, (∀ k, (0 : Int) ≤ (nfa0_23 k).toInt ∧ (nfa0_23 k).toInt ≤ 80) ∧ (∀ k, (0 : Int) ≤ (nfa0_24 k).toInt ∧ (nfa0_24 k).toInt ≤ 80) ∧ ((∀ k : Nat, 0 ≤ k → k ≤ 8 → (0 : Int) ≤ (nfa0_18 k).toInt ∧ (nfa0_18 k).toInt ≤ 8) ∧ (∀ k : Nat, 19 ≤ k → k ≤ 19 → (0 : Int) ≤ (nfa0_18 k).toInt ∧ (nfa0_18 k).toInt ≤ 8) ∧ (∀ k : Nat, 20 ≤ k → k ≤ 20 → (0 : Int) ≤ (nfa0_18 k).toInt ∧ (nfa0_18 k).toInt ≤ 19)) ∧ ax_B dC dI A [(a0, .inr (8, [a0g_0, a0g_1, a0g_2, a0g_3, a0g_4, a0g_5, a0g_6, a0g_7, a0g_8, a0g_9, a0g_10, a0g_11, a0g_12, a0g_13, a0g_14, Value.ref a0_15, a0g_16, Value.ref a0_17, Value.ref a0_18, a0g_19, a0g_20, a0g_21, a0g_22, Value.ref a0_23, Value.ref a0_24, Value.int na0_25, Value.int na0_26, Value.int na0_27, Value.int na0_28, a0g_29, a0g_30, a0g_31, a0g_32, a0g_33, a0g_34, a0g_35, a0g_36, a0g_37, a0g_38, a0g_39])), (a0_15, .inl (ka0_15, 156, .inl (fa0_15))), (a0_23, .inl (ka0_23, 3, .inl (nfa0_23))), (a0_24, .inl (ka0_24, 3, .inl (nfa0_24))), (a0_17, .inl (ka0_17, 23, .inl (fa0_17))), (a0_18, .inl (ka0_18, 23, .inl (nfa0_18)))] [(ka0_15, .int), (ka0_23, .int), (ka0_24, .int), (ka0_17, .int), (ka0_18, .int)] t) A) := by
  refine zh (cc := cX8_minutesOn) (maxL := 3) (ret := none) zn_RX8 rfl (Nat.le_of_ble_eq_true rfl) (fun p e s m below meth c A ls hx hb hml hr hts (hown : s.vm.findClass RX8 = some m.cls) hlocks hA hS hP hK hD hE (hl : lv_has ls 3 [(0, .ref a0), (1, .int a1)]) => ?_)
  refine ai_open (fun K hK0 => ?_)
  refine (hK0 _ _ _).mpr ?_
  refine lv_aload_n hx hb dX8_minutesOn_0 rfl (lv_at hl 0 rfl) ?_
  have hKc := hK.sub (tys' := [(ka0_15, .int), (ka0_23, .int), (ka0_24, .int), (ka0_17, .int), (ka0_18, .int)]) [0, 1, 2, 3, 4] rfl
  refine va_callv (va_runV (As := []) (rest := []) ⟨hx, hb, hml, hown, hts⟩ (c_X8_begin l dC dI s.heap.size a0 a0g_0 a0g_1 a0g_2 a0g_3 a0g_4 a0g_5 a0g_6 a0g_7 a0g_8 a0g_9 a0g_10 a0g_11 a0g_12 a0g_13 a0g_14 a0g_16 a0g_19 a0g_20 a0g_21 a0g_22 (Value.int a0_26) (Value.int a0_27) (Value.int a0_28) a0g_29 a0g_30 a0g_31 a0g_32 a0g_33 a0g_34 a0g_35 a0g_36 a0g_37 a0g_38 a0g_39 a0_15 a0_17 a0_18 a0_23 a0_24 a0_25 ka0_15 fa0_15 ka0_23 fa0_23 ka0_24 fa0_24 ka0_17 fa0_17 ka0_18 fa0_18 bfa0_15 bfa0_23 bfa0_24 bfa0_17 bfa0_18) (cwV 0 hts gX8_minutesOn_X8_begin rfl rfl rfl zd_X8_begin ⟨Nat.le_of_ble_eq_true rfl, Nat.le_of_ble_eq_true rfl⟩) ⟨ax_blind (fun _ _ _ _ _ => trivial), zr_8 hKc (zp_P6 hP) (q0 := 0) rfl, ax_pre (zp_P6 hP) hKc (zp_D6 hD) (fun _ _ => trivial)⟩ rfl rfl hl.1 rfl (lv_room (Nat.le_of_ble_eq_true rfl)) dX8_minutesOn_1 ⟨Nat.le_of_ble_eq_true rfl, Nat.le_of_ble_eq_true rfl⟩) hS (fun q _ h => zp_F6 hD hS hA q h) (zp_F6 hD hS hA) (fun u t H locs ht hvm hw hB hz1 hk1 hS1 => zx_4 hB (fun v1na0_25 v1nfa0_23 v1nfa0_24 v1nfa0_18 hB => zy_3 hB (fun bv1nfa0_23 bv1nfa0_24 bv1nfa0_18 hB => zo6 hB ht hP hD hk1 (zp_F6 hD hS hA) hS1 (fun hP hK1 hD hS => ?_))))
  refine lv_iconst (v := 0) hx hb dX8_minutesOn_4 zk_iconst_0 ?_
  refine lv_istore_n (lv' := [(2, .int 0), (0, .ref a0), (1, .int a1)]) hx hb dX8_minutesOn_5 rfl hl (by decide) rfl (fun ls hl => ?_)
  have J6 : ∀ (n : Nat) (j6l2 : Int32) (j6a0_26 : Int32) (j6a0_27 : Int32) (j6a0_28 : Int32) (j6a0_18_a : Nat → Int32) (H : Heap) (locs : List Loc) (ls : Array Slot), (2147483648 : Int) - j6l2.toInt ≤ (n : Int) → (0 : Int) ≤ j6l2.toInt → ((∀ k : Nat, 0 ≤ k → k ≤ 8 → (0 : Int) ≤ (j6a0_18_a k).toInt ∧ (j6a0_18_a k).toInt ≤ 8) ∧ (∀ k : Nat, 19 ≤ k → k ≤ 19 → (0 : Int) ≤ (j6a0_18_a k).toInt ∧ (j6a0_18_a k).toInt ≤ 8) ∧ (∀ k : Nat, 20 ≤ k → k ≤ 20 → (0 : Int) ≤ (j6a0_18_a k).toInt ∧ (j6a0_18_a k).toInt ≤ 19)) → va_P (dC, dI) vwCl [(a0, .inr (8, [a0g_0, a0g_1, a0g_2, a0g_3, a0g_4, a0g_5, a0g_6, a0g_7, a0g_8, a0g_9, a0g_10, a0g_11, a0g_12, a0g_13, a0g_14, Value.ref a0_15, a0g_16, Value.ref a0_17, Value.ref a0_18, a0g_19, a0g_20, a0g_21, a0g_22, Value.ref a0_23, Value.ref a0_24, Value.int v1na0_25, Value.int j6a0_26, Value.int j6a0_27, Value.int j6a0_28, a0g_29, a0g_30, a0g_31, a0g_32, a0g_33, a0g_34, a0g_35, a0g_36, a0g_37, a0g_38, a0g_39])), (a0_15, .inl (ka0_15, 156, .inl (fa0_15))), (a0_23, .inl (ka0_23, 3, .inl (v1nfa0_23))), (a0_24, .inl (ka0_24, 3, .inl (v1nfa0_24))), (a0_17, .inl (ka0_17, 23, .inl (fa0_17))), (a0_18, .inl (ka0_18, 23, .inl (j6a0_18_a)))] H → va_D A [(a0, .inr (8, [a0g_0, a0g_1, a0g_2, a0g_3, a0g_4, a0g_5, a0g_6, a0g_7, a0g_8, a0g_9, a0g_10, a0g_11, a0g_12, a0g_13, a0g_14, Value.ref a0_15, a0g_16, Value.ref a0_17, Value.ref a0_18, a0g_19, a0g_20, a0g_21, a0g_22, Value.ref a0_23, Value.ref a0_24, Value.int v1na0_25, Value.int j6a0_26, Value.int j6a0_27, Value.int j6a0_28, a0g_29, a0g_30, a0g_31, a0g_32, a0g_33, a0g_34, a0g_35, a0g_36, a0g_37, a0g_38, a0g_39])), (a0_15, .inl (ka0_15, 156, .inl (fa0_15))), (a0_23, .inl (ka0_23, 3, .inl (v1nfa0_23))), (a0_24, .inl (ka0_24, 3, .inl (v1nfa0_24))), (a0_17, .inl (ka0_17, 23, .inl (fa0_17))), (a0_18, .inl (ka0_18, 23, .inl (j6a0_18_a)))] → va_S A s.heap H locs → lv_has ls 3 [(0, .ref a0), (1, .int a1), (2, .int j6l2)] → K H locs (F0 m 6 ls []) := by
    intro n
    induction n with
    | zero =>
      intro j6l2 j6a0_26 j6a0_27 j6a0_28 j6a0_18_a H locs ls hm bj6l2_l bj6a0_18_a hP hD hS hl
      have h8 := ai_min j6l2
      have h9 := ai_max j6l2
      exact absurd hm (by omega)
    | succ n ih6 =>
      intro j6l2 j6a0_26 j6a0_27 j6a0_28 j6a0_18_a H locs ls hm bj6l2_l bj6a0_18_a hP hD hS hl
      refine (hK0 _ _ _).mpr ?_
      have hm6 := hm
      refine lv_iload_n hx hb dX8_minutesOn_6 rfl (lv_at hl 2 rfl) ?_
      refine lv_iload_n hx hb dX8_minutesOn_7 rfl (lv_at hl 1 rfl) ?_
      refine lv_icmp_ge (tgt := 25) hx hb dX8_minutesOn_8 (by decide) (fun c8 => ?_) (fun c8 => ?_)
      · have gc8 := ai_le c8
        exact W.vret hx hb hr (fun t ht hW => ⟨⟨(), rfl, trivial, v1na0_25, j6a0_26, j6a0_27, j6a0_28, v1nfa0_23, v1nfa0_24, j6a0_18_a, bv1nfa0_23, bv1nfa0_24, bj6a0_18_a, by rw [ht]; exact hP, va_K.moved hW.alike hK, hD⟩, hS.F ht⟩) hS.2.2 dX8_minutesOn_25
      · have gc8 := ai_nle c8
        have u8f_j6l2 : j6l2.toInt ≤ (2147483646 : Int) := ai_lthi gc8 (ai_max a1)
        have l8f_a1 : (1 : Int) ≤ a1.toInt := ai_ltlo gc8 bj6l2_l
        refine lv_aload_n hx hb dX8_minutesOn_11 rfl (lv_at hl 0 rfl) ?_
        refine lv_aload_n hx hb dX8_minutesOn_12 rfl (lv_at hl 0 rfl) ?_
        refine va_get (D := (dC, dI)) (ci := 8) (v := .ref a0_18) (C := RX8) (T := TX8) (N := 40) hx hb hts zi_X8_minutesOn_8 hown hK hP 0 rfl rfl 18 (by decide) (hts (.fieldLink RX8 29 "WaxTurnsModel" "trial" "[I") (zm_X8_minutesOn_r1 (List.mem_of_getElem? (i := 0) rfl))) (fun _ h9 => h9) rfl dX8_minutesOn_13 ?_
        refine zc_cutc (wc := [(a0, .inr (8, [a0g_0, a0g_1, a0g_2, a0g_3, a0g_4, a0g_5, a0g_6, a0g_7, a0g_8, a0g_9, a0g_10, a0g_11, a0g_12, a0g_13, a0g_14, Value.ref a0_15, a0g_16, Value.ref a0_17, Value.ref a0_18, a0g_19, a0g_20, a0g_21, a0g_22, Value.ref a0_23, Value.ref a0_24, Value.int v1na0_25, Value.int j6a0_26, Value.int j6a0_27, Value.int j6a0_28, a0g_29, a0g_30, a0g_31, a0g_32, a0g_33, a0g_34, a0g_35, a0g_36, a0g_37, a0g_38, a0g_39])), (a0_18, .inl (ka0_18, 23, .inl (j6a0_18_a))), (a0_15, .inl (ka0_15, 156, .inl (fa0_15))), (a0_24, .inl (ka0_24, 3, .inl (v1nfa0_24))), (a0_23, .inl (ka0_23, 3, .inl (v1nfa0_23)))]) hP hD hS hA [0, 5, 1, 3, 2] (by decide +kernel) rfl (fun hPc hDc hFc hCc => ?_)
        have hKc := hK.sub (tys' := [(ka0_18, .int), (ka0_15, .int), (ka0_24, .int), (ka0_23, .int)]) [4, 0, 2, 1] rfl
        refine va_callv (va_runV (As := [.ref a0_18]) (rest := []) ⟨hx, hb, hml, hown, hts⟩ (c_X8_minuteOn l dC dI H.size a0 a0_18 a0g_0 a0g_1 a0g_2 a0g_3 a0g_4 a0g_5 a0g_6 a0g_7 a0g_8 a0g_9 a0g_10 a0g_11 a0g_12 a0g_13 a0g_14 a0g_16 (Value.ref a0_17) (Value.ref a0_18) a0g_19 a0g_20 a0g_21 a0g_22 a0g_29 a0g_30 a0g_31 a0g_32 a0g_33 a0g_34 a0g_35 a0g_36 a0g_37 a0g_38 a0g_39 a0_15 a0_23 a0_24 v1na0_25 j6a0_26 j6a0_27 j6a0_28 ka0_18 j6a0_18_a ka0_15 fa0_15 ka0_24 v1nfa0_24 ka0_23 v1nfa0_23 bj6a0_18_a bfa0_15 bv1nfa0_24 bv1nfa0_23 hkm) (cwV 1 hts gX8_minutesOn_X8_minuteOn rfl rfl rfl zd_X8_minuteOn ⟨Nat.le_of_ble_eq_true rfl, Nat.le_of_ble_eq_true rfl⟩) ⟨ax_blind (fun _ _ _ _ _ => trivial), zr_8 hKc hPc (q0 := 0) rfl, ax_pre hPc hKc hDc (fun _ _ => trivial)⟩ rfl rfl hl.1 rfl (lv_room (Nat.le_of_ble_eq_true rfl)) dX8_minutesOn_16 ⟨Nat.le_of_ble_eq_true rfl, Nat.le_of_ble_eq_true rfl⟩) hS (fun q _ h => hFc q h) hFc (fun u t H locs ht hvm hw hB hz1 hk1 hS => zx_4 hB (fun v16na0_26 v16na0_27 v16na0_28 v16nfa1 hB => zy_1 hB (fun bv16nfa1 hB => zo hB ht (fun hP1 hK1 hD1 => ?_))))
        refine zc_backc (w := [(a0, .inr (8, [a0g_0, a0g_1, a0g_2, a0g_3, a0g_4, a0g_5, a0g_6, a0g_7, a0g_8, a0g_9, a0g_10, a0g_11, a0g_12, a0g_13, a0g_14, Value.ref a0_15, a0g_16, Value.ref a0_17, Value.ref a0_18, a0g_19, a0g_20, a0g_21, a0g_22, Value.ref a0_23, Value.ref a0_24, Value.int v1na0_25, Value.int v16na0_26, Value.int v16na0_27, Value.int v16na0_28, a0g_29, a0g_30, a0g_31, a0g_32, a0g_33, a0g_34, a0g_35, a0g_36, a0g_37, a0g_38, a0g_39])), (a0_15, .inl (ka0_15, 156, .inl (fa0_15))), (a0_23, .inl (ka0_23, 3, .inl (v1nfa0_23))), (a0_24, .inl (ka0_24, 3, .inl (v1nfa0_24))), (a0_17, .inl (ka0_17, 23, .inl (fa0_17))), (a0_18, .inl (ka0_18, 23, .inl (v16nfa1)))]) hP hD hCc hk1 hFc hP1 hD1 [.inr 0, .inr 2, .inr 4, .inr 3, .inl 4, .inr 1] (by decide +kernel) rfl (fun hP hD => ?_)
        obtain ⟨x19, ex19⟩ : ∃ y : Int32, y = j6l2 + Int32.ofInt 1 := ⟨_, rfl⟩
        have qx19 : x19.toInt = j6l2.toInt + 1 := ai_inc ex19 (by decide) (by decide) u8f_j6l2 (by decide)
        have bx19 : (1 : Int) ≤ x19.toInt ∧ x19.toInt ≤ 2147483647 := ⟨by rw [qx19]; exact Int.add_le_add bj6l2_l (Int.le_refl _), by rw [qx19]; exact Int.add_le_add u8f_j6l2 (Int.le_refl _)⟩
        refine lv_iinc (v := x19) (lv' := [(2, .int x19), (0, .ref a0), (1, .int a1)]) hx hb dX8_minutesOn_19 hl (k := 2) rfl ex19.symm (by decide) rfl (fun ls hl => ?_)
        refine lv_goto (tgt := 6) hx hb dX8_minutesOn_22 (by decide) ?_
        exact (hK0 _ _ _).mp (ih6 x19 v16na0_26 v16na0_27 v16na0_28 v16nfa1 _ _ _ (by have h0 := qx19; omega) (Int.le_trans zq4 bx19.1) bv16nfa1 hP hD hS (lv_sub hl [1, 2, 0] rfl))
  exact (hK0 _ _ _).mp (J6 2147483648 0 a0_26 a0_27 a0_28 v1nfa0_18 _ _ _ (by have h1 : (0 : Int) ≤ (0 : Int32).toInt := zq5; have h2 : (0 : Int32).toInt ≤ (0 : Int) := zq6; omega) zq5 bv1nfa0_18 hP hD hS (lv_sub hl [1, 2, 0] rfl))
end P234_00_safe
section P236_00_safe
set_option maxHeartbeats 4000000 in
set_option maxRecDepth 100000 in
theorem c_X8_whyB (l : Launch) (dC : Nat → ClassId) (dI : Nat → Nat → Nat) (sz : Nat) (a0 : Nat) (a1 : Int32) (a2 : Int32) (a0g_0 a0g_1 a0g_2 a0g_3 a0g_4 a0g_5 a0g_6 a0g_7 a0g_8 a0g_9 a0g_10 a0g_11 a0g_12 a0g_13 a0g_14 a0g_15 a0g_16 a0g_17 a0g_18 a0g_19 a0g_20 a0g_21 a0g_22 a0g_23 a0g_24 a0g_25 a0g_26 a0g_27 a0g_28 a0g_29 a0g_30 a0g_31 a0g_32 a0g_33 a0g_34 a0g_35 a0g_36 a0g_37 a0g_38 a0g_39 : Value) (ba1_l : (0 : Int) ≤ a1.toInt) (ba1_u : a1.toInt ≤ (1 : Int)) (ba2_l : (0 : Int) ≤ a2.toInt) (ba2_u : a2.toInt ≤ (1 : Int)) : zm l yX8_why wsX8_why ({ frames := 0, cells := 0, slots := 0, locals := 0 }) [.ref a0, .int a1, .int a2] dC dI sz [(a0, .inr (8, [a0g_0, a0g_1, a0g_2, a0g_3, a0g_4, a0g_5, a0g_6, a0g_7, a0g_8, a0g_9, a0g_10, a0g_11, a0g_12, a0g_13, a0g_14, a0g_15, a0g_16, a0g_17, a0g_18, a0g_19, a0g_20, a0g_21, a0g_22, a0g_23, a0g_24, a0g_25, a0g_26, a0g_27, a0g_28, a0g_29, a0g_30, a0g_31, a0g_32, a0g_33, a0g_34, a0g_35, a0g_36, a0g_37, a0g_38, a0g_39]))] [] (fun A _ => True) (fun A => va_Qi (fun (r : Int32) (_ : Unit) => (r = 2 ∧ (1 : Int) ≤ a1.toInt ∧ a1.toInt ≤ (1 : Int) ∧ (0 : Int) ≤ a2.toInt ∧ a2.toInt ≤ (0 : Int)) ∨ (r = 1 ∧ (0 : Int) ≤ a1.toInt ∧ a1.toInt ≤ (0 : Int)) ∨ (r = 0 ∧ (1 : Int) ≤ a1.toInt ∧ a1.toInt ≤ (1 : Int) ∧ (1 : Int) ≤ a2.toInt ∧ a2.toInt ≤ (1 : Int))) (fun (_ : Unit) (t : State) => ax_B dC dI A [(a0, .inr (8, [a0g_0, a0g_1, a0g_2, a0g_3, a0g_4, a0g_5, a0g_6, a0g_7, a0g_8, a0g_9, a0g_10, a0g_11, a0g_12, a0g_13, a0g_14, a0g_15, a0g_16, a0g_17, a0g_18, a0g_19, a0g_20, a0g_21, a0g_22, a0g_23, a0g_24, a0g_25, a0g_26, a0g_27, a0g_28, a0g_29, a0g_30, a0g_31, a0g_32, a0g_33, a0g_34, a0g_35, a0g_36, a0g_37, a0g_38, a0g_39]))] [] t) A) := by
  refine zh (cc := cX8_why) (maxL := 3) (ret := (some .int)) zn_RX8 rfl (Nat.le_of_ble_eq_true rfl) (fun p e s m below meth c A ls hx hb hml hr hts (hown : s.vm.findClass RX8 = some m.cls) hlocks hA hS hP hK hD hE (hl : lv_has ls 3 [(0, .ref a0), (1, .int a1), (2, .int a2)]) => ?_)
  refine lv_iload_n hx hb dX8_why_0 rfl (lv_at hl 1 rfl) ?_
  refine lv_if_ne (tgt := 8) hx hb dX8_why_1 (by decide) (fun c1 => ?_) (fun c1 => ?_)
  · have gc1 := ai_ne c1
    have l1t_a1 : (1 : Int) ≤ a1.toInt := (by have h1 := ba1_l; have h2 : (0 : Int32).toInt = 0 := (by decide); rw [h2] at gc1; omega)
    refine lv_iload_n hx hb dX8_why_8 rfl (lv_at hl 2 rfl) ?_
    refine lv_if_eq (tgt := 16) hx hb dX8_why_9 (by decide) (fun c9 => ?_) (fun c9 => ?_)
    · have gc9 := ai_eq c9
      have u9t_a2 : a2.toInt ≤ (0 : Int) := Int.le_trans (Int.le_of_eq gc9) zq6
      have l9t_a2 : (0 : Int) ≤ a2.toInt := ba2_l
      refine lv_iconst (v := 2) hx hb dX8_why_16 zk_iconst_2 ?_
      exact W.iret (v := 2) hx hb hr (fun t ht hW => ⟨⟨2, (), rfl, (Or.inl ⟨rfl, l1t_a1, ba1_u, l9t_a2, u9t_a2⟩), by rw [ht]; exact hP, va_K.moved hW.alike hK, hD⟩, hS.F ht⟩) hS.2.2 dX8_why_17
    · have gc9 := ai_ne c9
      have l9f_a2 : (1 : Int) ≤ a2.toInt := (by have h1 := ba2_l; have h2 : (0 : Int32).toInt = 0 := (by decide); rw [h2] at gc9; omega)
      refine lv_iconst (v := 0) hx hb dX8_why_12 zk_iconst_0 ?_
      refine lv_goto (tgt := 17) hx hb dX8_why_13 (by decide) ?_
      exact W.iret (v := 0) hx hb hr (fun t ht hW => ⟨⟨0, (), rfl, (Or.inr (Or.inr (⟨rfl, l1t_a1, ba1_u, l9f_a2, ba2_u⟩))), by rw [ht]; exact hP, va_K.moved hW.alike hK, hD⟩, hS.F ht⟩) hS.2.2 dX8_why_17
  · have gc1 := ai_eq c1
    have u1f_a1 : a1.toInt ≤ (0 : Int) := Int.le_trans (Int.le_of_eq gc1) zq6
    have l1f_a1 : (0 : Int) ≤ a1.toInt := ba1_l
    refine lv_iconst (v := 1) hx hb dX8_why_4 zk_iconst_1 ?_
    refine lv_goto (tgt := 17) hx hb dX8_why_5 (by decide) ?_
    exact W.iret (v := 1) hx hb hr (fun t ht hW => ⟨⟨1, (), rfl, (Or.inr (Or.inl ⟨rfl, l1f_a1, u1f_a1⟩)), by rw [ht]; exact hP, va_K.moved hW.alike hK, hD⟩, hS.F ht⟩) hS.2.2 dX8_why_17

set_option maxHeartbeats 4000000 in
set_option maxRecDepth 100000 in
theorem c_X8_aheadWhy (l : Launch) (dC : Nat → ClassId) (dI : Nat → Nat → Nat) (sz : Nat) (a0 : Nat) (a1 : Int32) (a2 : Int32) (a3 : Int32) (a0g_0 a0g_1 a0g_2 a0g_3 a0g_4 a0g_5 a0g_6 a0g_7 a0g_8 a0g_9 a0g_10 a0g_11 a0g_12 a0g_13 a0g_14 a0g_15 a0g_16 a0g_17 a0g_18 a0g_19 a0g_20 a0g_21 a0g_22 a0g_23 a0g_24 a0g_25 a0g_26 a0g_27 a0g_28 a0g_29 a0g_30 a0g_31 a0g_32 a0g_33 a0g_34 a0g_35 a0g_36 a0g_37 a0g_38 a0g_39 : Value) (ba1_l : (0 : Int) ≤ a1.toInt) (ba1_u : a1.toInt ≤ (1 : Int)) (ba2_l : (0 : Int) ≤ a2.toInt) (ba2_u : a2.toInt ≤ (1 : Int)) : zm l yX8_aheadWhy wsX8_aheadWhy ({ frames := 1, cells := 0, slots := 0, locals := 22 }) [.ref a0, .int a1, .int a2, .int a3] dC dI sz [(a0, .inr (8, [a0g_0, a0g_1, a0g_2, a0g_3, a0g_4, a0g_5, a0g_6, a0g_7, a0g_8, a0g_9, a0g_10, a0g_11, a0g_12, a0g_13, a0g_14, a0g_15, a0g_16, a0g_17, a0g_18, a0g_19, a0g_20, a0g_21, a0g_22, a0g_23, a0g_24, a0g_25, a0g_26, a0g_27, a0g_28, a0g_29, a0g_30, a0g_31, a0g_32, a0g_33, a0g_34, a0g_35, a0g_36, a0g_37, a0g_38, a0g_39]))] [] (fun A _ => True) (fun A => va_Qi (fun (r : Int32) (_ : Unit) => (r = 2 ∧ (1 : Int) ≤ a1.toInt ∧ a1.toInt ≤ (1 : Int)) ∨ (r = 1 ∧ (0 : Int) ≤ a1.toInt ∧ a1.toInt ≤ (0 : Int)) ∨ (r = 0 ∧ (1 : Int) ≤ a1.toInt ∧ a1.toInt ≤ (1 : Int) ∧ (0 : Int) ≤ a3.toInt ∧ a3.toInt ≤ (300 : Int))) (fun (_ : Unit) (t : State) => ax_B dC dI A [(a0, .inr (8, [a0g_0, a0g_1, a0g_2, a0g_3, a0g_4, a0g_5, a0g_6, a0g_7, a0g_8, a0g_9, a0g_10, a0g_11, a0g_12, a0g_13, a0g_14, a0g_15, a0g_16, a0g_17, a0g_18, a0g_19, a0g_20, a0g_21, a0g_22, a0g_23, a0g_24, a0g_25, a0g_26, a0g_27, a0g_28, a0g_29, a0g_30, a0g_31, a0g_32, a0g_33, a0g_34, a0g_35, a0g_36, a0g_37, a0g_38, a0g_39]))] [] t) A) := by
  refine zh (cc := cX8_aheadWhy) (maxL := 4) (ret := (some .int)) zn_RX8 rfl (Nat.le_of_ble_eq_true rfl) (fun p e s m below meth c A ls hx hb hml hr hts (hown : s.vm.findClass RX8 = some m.cls) hlocks hA hS hP hK hD hE (hl : lv_has ls 4 [(0, .ref a0), (1, .int a1), (2, .int a2), (3, .int a3)]) => ?_)
  refine lv_aload_n hx hb dX8_aheadWhy_0 rfl (lv_at hl 0 rfl) ?_
  refine lv_iload_n hx hb dX8_aheadWhy_1 rfl (lv_at hl 1 rfl) ?_
  refine lv_iload_n hx hb dX8_aheadWhy_2 rfl (lv_at hl 3 rfl) ?_
  refine lv_iload_n hx hb dX8_aheadWhy_3 rfl (lv_at hl 2 rfl) ?_
  refine lv_sipush (v := 300) hx hb dX8_aheadWhy_4 zk_sipush_300 ?_
  refine va_calli (va_runS (As := [.int a3, .int a2, .int 300]) (rest := [.int a1, .ref a0]) ⟨hx, hb, hml, hown, hts⟩ (c_X8_in l dC dI s.heap.size a3 a2 300 ) (va_cwS 3 hts gX8_aheadWhy_X8_in rfl rfl rfl zd_X8_in.2 ⟨Nat.le_of_ble_eq_true rfl, Nat.le_of_ble_eq_true rfl⟩) ⟨ax_blind (fun _ _ _ _ _ => trivial), ax_pre (zp_P0 hP) (zp_K hK) (zp_D0 hD) (fun _ _ => trivial)⟩ rfl rfl hl.1 rfl (lv_room (Nat.le_of_ble_eq_true rfl)) dX8_aheadWhy_7 ⟨Nat.le_of_ble_eq_true rfl, Nat.le_of_ble_eq_true rfl⟩) hS (fun q _ h => zp_F0 hD hS hA q h) (zp_F0 hD hS hA) (fun r7 u t H locs ht hvm hw hB hz1 hk1 hS1 => zo0 hB ht hP hD hk1 (zp_F0 hD hS hA) hS1 (fun hP hK1 hD hS => ?_))
  rcases hw with hw | hw
  · obtain ⟨hw, h7⟩ := hw
    subst hw
    have l7k0_a3 : (0 : Int) ≤ a3.toInt := Int.le_trans ba2_l h7.1
    have u7k0_a3 : a3.toInt ≤ (300 : Int) := Int.le_trans h7.2 zq82
    refine va_calli (va_runV (As := [.int a1, .int 1]) (rest := []) ⟨hx, hb, hml, hown, hts⟩ (c_X8_whyB l dC dI H.size a0 a1 1 a0g_0 a0g_1 a0g_2 a0g_3 a0g_4 a0g_5 a0g_6 a0g_7 a0g_8 a0g_9 a0g_10 a0g_11 a0g_12 a0g_13 a0g_14 a0g_15 a0g_16 a0g_17 a0g_18 a0g_19 a0g_20 a0g_21 a0g_22 a0g_23 a0g_24 a0g_25 a0g_26 a0g_27 a0g_28 a0g_29 a0g_30 a0g_31 a0g_32 a0g_33 a0g_34 a0g_35 a0g_36 a0g_37 a0g_38 a0g_39 ba1_l ba1_u (Int.le_trans zq4 zq1) zq0) (cwV 2 hts gX8_aheadWhy_X8_why rfl rfl rfl zd_X8_why ⟨Nat.le_of_ble_eq_true rfl, Nat.le_of_ble_eq_true rfl⟩) ⟨ax_blind (fun _ _ _ _ _ => trivial), zr_8 (zp_K hK) (zp_P1 hP) (q0 := 0) rfl, ax_pre (zp_P1 hP) (zp_K hK) (zp_D1 hD) (fun _ _ => trivial)⟩ rfl rfl hl.1 rfl (lv_room (Nat.le_of_ble_eq_true rfl)) dX8_aheadWhy_10 ⟨Nat.le_of_ble_eq_true rfl, Nat.le_of_ble_eq_true rfl⟩) hS (fun q _ h => zp_F1 hD hS hA q h) (zp_F1 hD hS hA) (fun r10 u t H locs ht hvm hw hB hz1 hk1 hS1 => zo1 hB ht hP hD hk1 (zp_F1 hD hS hA) hS1 (fun hP hK1 hD hS => ?_))
    rcases hw with hw | hw | hw
    · obtain ⟨hw, h10_0, h10_1, h10_2, h10_3⟩ := hw
      subst hw
      have l10k0_a1 : (1 : Int) ≤ a1.toInt := h10_0
      have u10k0_a1 : a1.toInt ≤ (1 : Int) := ba1_u
      exact absurd h10_3 (by decide)
    · obtain ⟨hw, h10_0, h10_1⟩ := hw
      subst hw
      have l10k1_a1 : (0 : Int) ≤ a1.toInt := ba1_l
      have u10k1_a1 : a1.toInt ≤ (0 : Int) := h10_1
      exact W.iret (v := 1) hx hb hr (fun t ht hW => ⟨⟨1, (), rfl, (Or.inr (Or.inl ⟨rfl, l10k1_a1, u10k1_a1⟩)), by rw [ht]; exact hP, va_K.moved hW.alike hK, hD⟩, hS.F ht⟩) hS.2.2 dX8_aheadWhy_13
    · obtain ⟨hw, h10_0, h10_1, h10_2, h10_3⟩ := hw
      subst hw
      have l10k2_a1 : (1 : Int) ≤ a1.toInt := h10_0
      have u10k2_a1 : a1.toInt ≤ (1 : Int) := ba1_u
      exact W.iret (v := 0) hx hb hr (fun t ht hW => ⟨⟨0, (), rfl, (Or.inr (Or.inr (⟨rfl, l10k2_a1, u10k2_a1, l7k0_a3, u7k0_a3⟩))), by rw [ht]; exact hP, va_K.moved hW.alike hK, hD⟩, hS.F ht⟩) hS.2.2 dX8_aheadWhy_13
  · obtain ⟨hw, h7⟩ := hw
    subst hw
    refine va_calli (va_runV (As := [.int a1, .int 0]) (rest := []) ⟨hx, hb, hml, hown, hts⟩ (c_X8_whyB l dC dI H.size a0 a1 0 a0g_0 a0g_1 a0g_2 a0g_3 a0g_4 a0g_5 a0g_6 a0g_7 a0g_8 a0g_9 a0g_10 a0g_11 a0g_12 a0g_13 a0g_14 a0g_15 a0g_16 a0g_17 a0g_18 a0g_19 a0g_20 a0g_21 a0g_22 a0g_23 a0g_24 a0g_25 a0g_26 a0g_27 a0g_28 a0g_29 a0g_30 a0g_31 a0g_32 a0g_33 a0g_34 a0g_35 a0g_36 a0g_37 a0g_38 a0g_39 ba1_l ba1_u zq5 (Int.le_trans zq6 zq4)) (cwV 2 hts gX8_aheadWhy_X8_why rfl rfl rfl zd_X8_why ⟨Nat.le_of_ble_eq_true rfl, Nat.le_of_ble_eq_true rfl⟩) ⟨ax_blind (fun _ _ _ _ _ => trivial), zr_8 (zp_K hK) (zp_P1 hP) (q0 := 0) rfl, ax_pre (zp_P1 hP) (zp_K hK) (zp_D1 hD) (fun _ _ => trivial)⟩ rfl rfl hl.1 rfl (lv_room (Nat.le_of_ble_eq_true rfl)) dX8_aheadWhy_10 ⟨Nat.le_of_ble_eq_true rfl, Nat.le_of_ble_eq_true rfl⟩) hS (fun q _ h => zp_F1 hD hS hA q h) (zp_F1 hD hS hA) (fun r10 u t H locs ht hvm hw hB hz1 hk1 hS1 => zo1 hB ht hP hD hk1 (zp_F1 hD hS hA) hS1 (fun hP hK1 hD hS => ?_))
    rcases hw with hw | hw | hw
    · obtain ⟨hw, h10_0, h10_1, h10_2, h10_3⟩ := hw
      subst hw
      have l10k0_a1 : (1 : Int) ≤ a1.toInt := h10_0
      have u10k0_a1 : a1.toInt ≤ (1 : Int) := ba1_u
      exact W.iret (v := 2) hx hb hr (fun t ht hW => ⟨⟨2, (), rfl, (Or.inl ⟨rfl, l10k0_a1, u10k0_a1⟩), by rw [ht]; exact hP, va_K.moved hW.alike hK, hD⟩, hS.F ht⟩) hS.2.2 dX8_aheadWhy_13
    · obtain ⟨hw, h10_0, h10_1⟩ := hw
      subst hw
      have l10k1_a1 : (0 : Int) ≤ a1.toInt := ba1_l
      have u10k1_a1 : a1.toInt ≤ (0 : Int) := h10_1
      exact W.iret (v := 1) hx hb hr (fun t ht hW => ⟨⟨1, (), rfl, (Or.inr (Or.inl ⟨rfl, l10k1_a1, u10k1_a1⟩)), by rw [ht]; exact hP, va_K.moved hW.alike hK, hD⟩, hS.F ht⟩) hS.2.2 dX8_aheadWhy_13
    · obtain ⟨hw, h10_0, h10_1, h10_2, h10_3⟩ := hw
      subst hw
      have l10k2_a1 : (1 : Int) ≤ a1.toInt := h10_0
      have u10k2_a1 : a1.toInt ≤ (1 : Int) := ba1_u
      exact absurd h10_2 (by decide)

set_option maxHeartbeats 4000000 in
set_option maxRecDepth 100000 in
theorem c_X8_routeWhy (l : Launch) (dC : Nat → ClassId) (dI : Nat → Nat → Nat) (sz : Nat) (a0 : Nat) (a1 : Int32) (a2 : Int32) (a0g_0 a0g_1 a0g_2 a0g_3 a0g_4 a0g_5 a0g_6 a0g_7 a0g_8 a0g_9 a0g_10 a0g_11 a0g_12 a0g_13 a0g_16 a0g_17 a0g_18 a0g_19 a0g_20 a0g_21 a0g_22 a0g_23 a0g_24 a0g_25 a0g_26 a0g_27 a0g_28 a0g_29 a0g_30 a0g_31 a0g_32 a0g_33 a0g_34 a0g_35 a0g_36 a0g_37 a0g_38 a0g_39 : Value) (a0_14 : Int32) (a0_15 : Nat) (ka0_15 : ClassId) (fa0_15 : Nat → Int32) (ba0_14_l : (1 : Int) ≤ a0_14.toInt) (ba0_14_u : a0_14.toInt ≤ (1 : Int)) (bfa0_15 : ((∀ k : Nat, 0 ≤ k → k ≤ 0 → (2 : Int) ≤ (fa0_15 k).toInt ∧ (fa0_15 k).toInt ≤ 9) ∧ (∀ k : Nat, 1 ≤ k → k ≤ 1 → (1 : Int) ≤ (fa0_15 k).toInt ∧ (fa0_15 k).toInt ≤ 20) ∧ (∀ k : Nat, 2 ≤ k → k ≤ 2 → (0 : Int) ≤ (fa0_15 k).toInt ∧ (fa0_15 k).toInt ≤ 8) ∧ (∀ k : Nat, 3 ≤ k → k ≤ 3 → (0 : Int) ≤ (fa0_15 k).toInt ∧ (fa0_15 k).toInt ≤ 100) ∧ (∀ k : Nat, 4 ≤ k → k ≤ 4 → (0 : Int) ≤ (fa0_15 k).toInt ∧ (fa0_15 k).toInt ≤ 9) ∧ (∀ k : Nat, 5 ≤ k → k ≤ 5 → (0 : Int) ≤ (fa0_15 k).toInt ∧ (fa0_15 k).toInt ≤ 3) ∧ (∀ k : Nat, 6 ≤ k → k ≤ 6 → (0 : Int) ≤ (fa0_15 k).toInt ∧ (fa0_15 k).toInt ≤ 6) ∧ (∀ k : Nat, 7 ≤ k → k ≤ 9 → (0 : Int) ≤ (fa0_15 k).toInt ∧ (fa0_15 k).toInt ≤ 8) ∧ (∀ k : Nat, 12 ≤ k → k ≤ 29 → (0 : Int) ≤ (fa0_15 k).toInt ∧ (fa0_15 k).toInt ≤ 20) ∧ (∀ k : Nat, 30 ≤ k → k ≤ 35 → (0 : Int) ≤ (fa0_15 k).toInt ∧ (fa0_15 k).toInt ≤ 8) ∧ (∀ k : Nat, 36 ≤ k → k ≤ 47 → (0 : Int) ≤ (fa0_15 k).toInt ∧ (fa0_15 k).toInt ≤ 999))) : zm l yX8_routeWhy wsX8_routeWhy ({ frames := 2, cells := 0, slots := 0, locals := 43 }) [.ref a0, .int a1, .int a2] dC dI sz [(a0, .inr (8, [a0g_0, a0g_1, a0g_2, a0g_3, a0g_4, a0g_5, a0g_6, a0g_7, a0g_8, a0g_9, a0g_10, a0g_11, a0g_12, a0g_13, Value.int a0_14, Value.ref a0_15, a0g_16, a0g_17, a0g_18, a0g_19, a0g_20, a0g_21, a0g_22, a0g_23, a0g_24, a0g_25, a0g_26, a0g_27, a0g_28, a0g_29, a0g_30, a0g_31, a0g_32, a0g_33, a0g_34, a0g_35, a0g_36, a0g_37, a0g_38, a0g_39])), (a0_15, .inl (ka0_15, 156, .inl (fa0_15)))] [(ka0_15, .int)] (fun A _ => True) (fun A => va_Qi (fun (r : Int32) (_ : Unit) => (r = 2 ∧ (0 : Int) ≤ a1.toInt ∧ a1.toInt ≤ (8 : Int)) ∨ (r = 1) ∨ (r = 0 ∧ (0 : Int) ≤ a1.toInt ∧ a1.toInt ≤ (8 : Int) ∧ (1 : Int) ≤ a2.toInt ∧ a2.toInt ≤ (60 : Int))) (fun (_ : Unit) (t : State) => ax_B dC dI A [(a0, .inr (8, [a0g_0, a0g_1, a0g_2, a0g_3, a0g_4, a0g_5, a0g_6, a0g_7, a0g_8, a0g_9, a0g_10, a0g_11, a0g_12, a0g_13, Value.int a0_14, Value.ref a0_15, a0g_16, a0g_17, a0g_18, a0g_19, a0g_20, a0g_21, a0g_22, a0g_23, a0g_24, a0g_25, a0g_26, a0g_27, a0g_28, a0g_29, a0g_30, a0g_31, a0g_32, a0g_33, a0g_34, a0g_35, a0g_36, a0g_37, a0g_38, a0g_39])), (a0_15, .inl (ka0_15, 156, .inl (fa0_15)))] [(ka0_15, .int)] t) A) := by
  refine zh (cc := cX8_routeWhy) (maxL := 3) (ret := (some .int)) zn_RX8 rfl (Nat.le_of_ble_eq_true rfl) (fun p e s m below meth c A ls hx hb hml hr hts (hown : s.vm.findClass RX8 = some m.cls) hlocks hA hS hP hK hD hE (hl : lv_has ls 3 [(0, .ref a0), (1, .int a1), (2, .int a2)]) => ?_)
  refine lv_aload_n hx hb dX8_routeWhy_0 rfl (lv_at hl 0 rfl) ?_
  refine lv_aload_n hx hb dX8_routeWhy_1 rfl (lv_at hl 0 rfl) ?_
  refine lv_iload_n hx hb dX8_routeWhy_2 rfl (lv_at hl 1 rfl) ?_
  have hKc := hK.sub (tys' := [(ka0_15, .int)]) [0] rfl
  refine va_calli (va_runV (As := [.int a1]) (rest := [.ref a0]) ⟨hx, hb, hml, hown, hts⟩ (c_X8_isFigure l dC dI s.heap.size a0 a1 a0g_0 a0g_1 a0g_2 a0g_3 a0g_4 a0g_5 a0g_6 a0g_7 a0g_8 a0g_9 a0g_10 a0g_11 a0g_12 a0g_13 a0g_16 a0g_17 a0g_18 a0g_19 a0g_20 a0g_21 a0g_22 a0g_23 a0g_24 a0g_25 a0g_26 a0g_27 a0g_28 a0g_29 a0g_30 a0g_31 a0g_32 a0g_33 a0g_34 a0g_35 a0g_36 a0g_37 a0g_38 a0g_39 a0_14 a0_15 ka0_15 fa0_15 ba0_14_l ba0_14_u bfa0_15) (cwV 1 hts gX8_routeWhy_X8_isFigure rfl rfl rfl zd_X8_isFigure ⟨Nat.le_of_ble_eq_true rfl, Nat.le_of_ble_eq_true rfl⟩) ⟨ax_blind (fun _ _ _ _ _ => trivial), zr_8 hKc (zp_P2 hP) (q0 := 0) rfl, ax_pre (zp_P2 hP) hKc (zp_D2 hD) (fun _ _ => trivial)⟩ rfl rfl hl.1 rfl (lv_room (Nat.le_of_ble_eq_true rfl)) dX8_routeWhy_3 ⟨Nat.le_of_ble_eq_true rfl, Nat.le_of_ble_eq_true rfl⟩) hS (fun q _ h => zp_F2 hD hS hA q h) (zp_F2 hD hS hA) (fun r3 u t H locs ht hvm hw hB hz1 hk1 hS1 => zo2 hB ht hP hD hk1 (zp_F2 hD hS hA) hS1 (fun hP hK1 hD hS => ?_))
  rcases hw with hw | hw
  · obtain ⟨hw, h3_0, h3_1⟩ := hw
    subst hw
    have l3k0_a1 : (0 : Int) ≤ a1.toInt := h3_0
    have u3k0_a1 : a1.toInt ≤ (8 : Int) := h3_1
    refine lv_iload_n hx hb dX8_routeWhy_6 rfl (lv_at hl 2 rfl) ?_
    refine lv_iconst (v := 1) hx hb dX8_routeWhy_7 zk_iconst_1 ?_
    refine lv_bipush (v := 60) hx hb dX8_routeWhy_8 zk_bipush_60 ?_
    refine va_calli (va_runS (As := [.int a2, .int 1, .int 60]) (rest := [.int 1, .ref a0]) ⟨hx, hb, hml, hown, hts⟩ (c_X8_in l dC dI H.size a2 1 60 ) (va_cwS 3 hts gX8_routeWhy_X8_in rfl rfl rfl zd_X8_in.2 ⟨Nat.le_of_ble_eq_true rfl, Nat.le_of_ble_eq_true rfl⟩) ⟨ax_blind (fun _ _ _ _ _ => trivial), ax_pre (zp_P0 hP) (zp_K hK) (zp_D0 hD) (fun _ _ => trivial)⟩ rfl rfl hl.1 rfl (lv_room (Nat.le_of_ble_eq_true rfl)) dX8_routeWhy_10 ⟨Nat.le_of_ble_eq_true rfl, Nat.le_of_ble_eq_true rfl⟩) hS (fun q _ h => zp_F0 hD hS hA q h) (zp_F0 hD hS hA) (fun r10 u t H locs ht hvm hw hB hz1 hk1 hS1 => zo0 hB ht hP hD hk1 (zp_F0 hD hS hA) hS1 (fun hP hK1 hD hS => ?_))
    rcases hw with hw | hw
    · obtain ⟨hw, h10⟩ := hw
      subst hw
      have l10k0_a2 : (1 : Int) ≤ a2.toInt := Int.le_trans zq1 h10.1
      have u10k0_a2 : a2.toInt ≤ (60 : Int) := Int.le_trans h10.2 zq46
      refine va_calli (va_runV (As := [.int 1, .int 1]) (rest := []) ⟨hx, hb, hml, hown, hts⟩ (c_X8_whyB l dC dI H.size a0 1 1 a0g_0 a0g_1 a0g_2 a0g_3 a0g_4 a0g_5 a0g_6 a0g_7 a0g_8 a0g_9 a0g_10 a0g_11 a0g_12 a0g_13 (Value.int a0_14) (Value.ref a0_15) a0g_16 a0g_17 a0g_18 a0g_19 a0g_20 a0g_21 a0g_22 a0g_23 a0g_24 a0g_25 a0g_26 a0g_27 a0g_28 a0g_29 a0g_30 a0g_31 a0g_32 a0g_33 a0g_34 a0g_35 a0g_36 a0g_37 a0g_38 a0g_39 (Int.le_trans zq4 zq1) zq0 (Int.le_trans zq4 zq1) zq0) (cwV 2 hts gX8_routeWhy_X8_why rfl rfl rfl zd_X8_why ⟨Nat.le_of_ble_eq_true rfl, Nat.le_of_ble_eq_true rfl⟩) ⟨ax_blind (fun _ _ _ _ _ => trivial), zr_8 (zp_K hK) (zp_P1 hP) (q0 := 0) rfl, ax_pre (zp_P1 hP) (zp_K hK) (zp_D1 hD) (fun _ _ => trivial)⟩ rfl rfl hl.1 rfl (lv_room (Nat.le_of_ble_eq_true rfl)) dX8_routeWhy_13 ⟨Nat.le_of_ble_eq_true rfl, Nat.le_of_ble_eq_true rfl⟩) hS (fun q _ h => zp_F1 hD hS hA q h) (zp_F1 hD hS hA) (fun r13 u t H locs ht hvm hw hB hz1 hk1 hS1 => zo1 hB ht hP hD hk1 (zp_F1 hD hS hA) hS1 (fun hP hK1 hD hS => ?_))
      rcases hw with hw | hw | hw
      · obtain ⟨hw, h13_0, h13_1, h13_2, h13_3⟩ := hw
        subst hw
        exact absurd h13_3 (by decide)
      · obtain ⟨hw, h13_0, h13_1⟩ := hw
        subst hw
        exact absurd h13_1 (by decide)
      · obtain ⟨hw, h13_0, h13_1, h13_2, h13_3⟩ := hw
        subst hw
        exact W.iret (v := 0) hx hb hr (fun t ht hW => ⟨⟨0, (), rfl, (Or.inr (Or.inr (⟨rfl, l3k0_a1, u3k0_a1, l10k0_a2, u10k0_a2⟩))), by rw [ht]; exact hP, va_K.moved hW.alike hK, hD⟩, hS.F ht⟩) hS.2.2 dX8_routeWhy_16
    · obtain ⟨hw, h10⟩ := hw
      subst hw
      refine va_calli (va_runV (As := [.int 1, .int 0]) (rest := []) ⟨hx, hb, hml, hown, hts⟩ (c_X8_whyB l dC dI H.size a0 1 0 a0g_0 a0g_1 a0g_2 a0g_3 a0g_4 a0g_5 a0g_6 a0g_7 a0g_8 a0g_9 a0g_10 a0g_11 a0g_12 a0g_13 (Value.int a0_14) (Value.ref a0_15) a0g_16 a0g_17 a0g_18 a0g_19 a0g_20 a0g_21 a0g_22 a0g_23 a0g_24 a0g_25 a0g_26 a0g_27 a0g_28 a0g_29 a0g_30 a0g_31 a0g_32 a0g_33 a0g_34 a0g_35 a0g_36 a0g_37 a0g_38 a0g_39 (Int.le_trans zq4 zq1) zq0 zq5 (Int.le_trans zq6 zq4)) (cwV 2 hts gX8_routeWhy_X8_why rfl rfl rfl zd_X8_why ⟨Nat.le_of_ble_eq_true rfl, Nat.le_of_ble_eq_true rfl⟩) ⟨ax_blind (fun _ _ _ _ _ => trivial), zr_8 (zp_K hK) (zp_P1 hP) (q0 := 0) rfl, ax_pre (zp_P1 hP) (zp_K hK) (zp_D1 hD) (fun _ _ => trivial)⟩ rfl rfl hl.1 rfl (lv_room (Nat.le_of_ble_eq_true rfl)) dX8_routeWhy_13 ⟨Nat.le_of_ble_eq_true rfl, Nat.le_of_ble_eq_true rfl⟩) hS (fun q _ h => zp_F1 hD hS hA q h) (zp_F1 hD hS hA) (fun r13 u t H locs ht hvm hw hB hz1 hk1 hS1 => zo1 hB ht hP hD hk1 (zp_F1 hD hS hA) hS1 (fun hP hK1 hD hS => ?_))
      rcases hw with hw | hw | hw
      · obtain ⟨hw, h13_0, h13_1, h13_2, h13_3⟩ := hw
        subst hw
        exact W.iret (v := 2) hx hb hr (fun t ht hW => ⟨⟨2, (), rfl, (Or.inl ⟨rfl, l3k0_a1, u3k0_a1⟩), by rw [ht]; exact hP, va_K.moved hW.alike hK, hD⟩, hS.F ht⟩) hS.2.2 dX8_routeWhy_16
      · obtain ⟨hw, h13_0, h13_1⟩ := hw
        subst hw
        exact absurd h13_1 (by decide)
      · obtain ⟨hw, h13_0, h13_1, h13_2, h13_3⟩ := hw
        subst hw
        exact absurd h13_2 (by decide)
  · subst hw
    refine lv_iload_n hx hb dX8_routeWhy_6 rfl (lv_at hl 2 rfl) ?_
    refine lv_iconst (v := 1) hx hb dX8_routeWhy_7 zk_iconst_1 ?_
    refine lv_bipush (v := 60) hx hb dX8_routeWhy_8 zk_bipush_60 ?_
    refine va_calli (va_runS (As := [.int a2, .int 1, .int 60]) (rest := [.int 0, .ref a0]) ⟨hx, hb, hml, hown, hts⟩ (c_X8_in l dC dI H.size a2 1 60 ) (va_cwS 3 hts gX8_routeWhy_X8_in rfl rfl rfl zd_X8_in.2 ⟨Nat.le_of_ble_eq_true rfl, Nat.le_of_ble_eq_true rfl⟩) ⟨ax_blind (fun _ _ _ _ _ => trivial), ax_pre (zp_P0 hP) (zp_K hK) (zp_D0 hD) (fun _ _ => trivial)⟩ rfl rfl hl.1 rfl (lv_room (Nat.le_of_ble_eq_true rfl)) dX8_routeWhy_10 ⟨Nat.le_of_ble_eq_true rfl, Nat.le_of_ble_eq_true rfl⟩) hS (fun q _ h => zp_F0 hD hS hA q h) (zp_F0 hD hS hA) (fun r10 u t H locs ht hvm hw hB hz1 hk1 hS1 => zo0 hB ht hP hD hk1 (zp_F0 hD hS hA) hS1 (fun hP hK1 hD hS => ?_))
    rcases hw with hw | hw
    · obtain ⟨hw, h10⟩ := hw
      subst hw
      have l10k0_a2 : (1 : Int) ≤ a2.toInt := Int.le_trans zq1 h10.1
      have u10k0_a2 : a2.toInt ≤ (60 : Int) := Int.le_trans h10.2 zq46
      refine va_calli (va_runV (As := [.int 0, .int 1]) (rest := []) ⟨hx, hb, hml, hown, hts⟩ (c_X8_whyB l dC dI H.size a0 0 1 a0g_0 a0g_1 a0g_2 a0g_3 a0g_4 a0g_5 a0g_6 a0g_7 a0g_8 a0g_9 a0g_10 a0g_11 a0g_12 a0g_13 (Value.int a0_14) (Value.ref a0_15) a0g_16 a0g_17 a0g_18 a0g_19 a0g_20 a0g_21 a0g_22 a0g_23 a0g_24 a0g_25 a0g_26 a0g_27 a0g_28 a0g_29 a0g_30 a0g_31 a0g_32 a0g_33 a0g_34 a0g_35 a0g_36 a0g_37 a0g_38 a0g_39 zq5 (Int.le_trans zq6 zq4) (Int.le_trans zq4 zq1) zq0) (cwV 2 hts gX8_routeWhy_X8_why rfl rfl rfl zd_X8_why ⟨Nat.le_of_ble_eq_true rfl, Nat.le_of_ble_eq_true rfl⟩) ⟨ax_blind (fun _ _ _ _ _ => trivial), zr_8 (zp_K hK) (zp_P1 hP) (q0 := 0) rfl, ax_pre (zp_P1 hP) (zp_K hK) (zp_D1 hD) (fun _ _ => trivial)⟩ rfl rfl hl.1 rfl (lv_room (Nat.le_of_ble_eq_true rfl)) dX8_routeWhy_13 ⟨Nat.le_of_ble_eq_true rfl, Nat.le_of_ble_eq_true rfl⟩) hS (fun q _ h => zp_F1 hD hS hA q h) (zp_F1 hD hS hA) (fun r13 u t H locs ht hvm hw hB hz1 hk1 hS1 => zo1 hB ht hP hD hk1 (zp_F1 hD hS hA) hS1 (fun hP hK1 hD hS => ?_))
      rcases hw with hw | hw | hw
      · obtain ⟨hw, h13_0, h13_1, h13_2, h13_3⟩ := hw
        subst hw
        exact absurd h13_0 (by decide)
      · obtain ⟨hw, h13_0, h13_1⟩ := hw
        subst hw
        exact W.iret (v := 1) hx hb hr (fun t ht hW => ⟨⟨1, (), rfl, (Or.inr (Or.inl (rfl))), by rw [ht]; exact hP, va_K.moved hW.alike hK, hD⟩, hS.F ht⟩) hS.2.2 dX8_routeWhy_16
      · obtain ⟨hw, h13_0, h13_1, h13_2, h13_3⟩ := hw
        subst hw
        exact absurd h13_0 (by decide)
    · obtain ⟨hw, h10⟩ := hw
      subst hw
      refine va_calli (va_runV (As := [.int 0, .int 0]) (rest := []) ⟨hx, hb, hml, hown, hts⟩ (c_X8_whyB l dC dI H.size a0 0 0 a0g_0 a0g_1 a0g_2 a0g_3 a0g_4 a0g_5 a0g_6 a0g_7 a0g_8 a0g_9 a0g_10 a0g_11 a0g_12 a0g_13 (Value.int a0_14) (Value.ref a0_15) a0g_16 a0g_17 a0g_18 a0g_19 a0g_20 a0g_21 a0g_22 a0g_23 a0g_24 a0g_25 a0g_26 a0g_27 a0g_28 a0g_29 a0g_30 a0g_31 a0g_32 a0g_33 a0g_34 a0g_35 a0g_36 a0g_37 a0g_38 a0g_39 zq5 (Int.le_trans zq6 zq4) zq5 (Int.le_trans zq6 zq4)) (cwV 2 hts gX8_routeWhy_X8_why rfl rfl rfl zd_X8_why ⟨Nat.le_of_ble_eq_true rfl, Nat.le_of_ble_eq_true rfl⟩) ⟨ax_blind (fun _ _ _ _ _ => trivial), zr_8 (zp_K hK) (zp_P1 hP) (q0 := 0) rfl, ax_pre (zp_P1 hP) (zp_K hK) (zp_D1 hD) (fun _ _ => trivial)⟩ rfl rfl hl.1 rfl (lv_room (Nat.le_of_ble_eq_true rfl)) dX8_routeWhy_13 ⟨Nat.le_of_ble_eq_true rfl, Nat.le_of_ble_eq_true rfl⟩) hS (fun q _ h => zp_F1 hD hS hA q h) (zp_F1 hD hS hA) (fun r13 u t H locs ht hvm hw hB hz1 hk1 hS1 => zo1 hB ht hP hD hk1 (zp_F1 hD hS hA) hS1 (fun hP hK1 hD hS => ?_))
      rcases hw with hw | hw | hw
      · obtain ⟨hw, h13_0, h13_1, h13_2, h13_3⟩ := hw
        subst hw
        exact absurd h13_0 (by decide)
      · obtain ⟨hw, h13_0, h13_1⟩ := hw
        subst hw
        exact W.iret (v := 1) hx hb hr (fun t ht hW => ⟨⟨1, (), rfl, (Or.inr (Or.inl (rfl))), by rw [ht]; exact hP, va_K.moved hW.alike hK, hD⟩, hS.F ht⟩) hS.2.2 dX8_routeWhy_16
      · obtain ⟨hw, h13_0, h13_1, h13_2, h13_3⟩ := hw
        subst hw
        exact absurd h13_0 (by decide)
end P236_00_safe
section P240_00_safe
set_option maxHeartbeats 4000000 in
set_option maxRecDepth 100000 in
theorem c_X8_figure (l : Launch) (dC : Nat → ClassId) (dI : Nat → Nat → Nat) (sz : Nat) (a0 : Nat) (a1 : Int32) (a2 : Int32) (a0_0 : Int32) (a0g_1 a0g_2 a0g_3 a0g_4 a0g_5 a0g_6 a0g_7 a0g_8 a0g_9 a0g_10 a0g_12 a0g_13 a0g_16 a0g_18 a0g_19 a0g_20 a0g_21 a0g_22 a0g_23 a0g_24 a0g_25 a0g_26 a0g_27 a0g_28 a0g_29 a0g_30 a0g_31 a0g_32 a0g_33 a0g_34 a0g_35 a0g_36 a0g_37 a0g_38 a0g_39 : Value) (a0_11 : Int32) (a0_14 : Int32) (a0_15 : Nat) (a0_17 : Nat) (ka0_15 : ClassId) (fa0_15 : Nat → Int32) (ka0_17 : ClassId) (fa0_17 : Nat → Int32) (ba0_14_l : (1 : Int) ≤ a0_14.toInt) (ba0_14_u : a0_14.toInt ≤ (1 : Int)) (bfa0_15 : ((∀ k : Nat, 0 ≤ k → k ≤ 0 → (2 : Int) ≤ (fa0_15 k).toInt ∧ (fa0_15 k).toInt ≤ 9) ∧ (∀ k : Nat, 1 ≤ k → k ≤ 1 → (1 : Int) ≤ (fa0_15 k).toInt ∧ (fa0_15 k).toInt ≤ 20) ∧ (∀ k : Nat, 2 ≤ k → k ≤ 2 → (0 : Int) ≤ (fa0_15 k).toInt ∧ (fa0_15 k).toInt ≤ 8) ∧ (∀ k : Nat, 3 ≤ k → k ≤ 3 → (0 : Int) ≤ (fa0_15 k).toInt ∧ (fa0_15 k).toInt ≤ 100) ∧ (∀ k : Nat, 4 ≤ k → k ≤ 4 → (0 : Int) ≤ (fa0_15 k).toInt ∧ (fa0_15 k).toInt ≤ 9) ∧ (∀ k : Nat, 5 ≤ k → k ≤ 5 → (0 : Int) ≤ (fa0_15 k).toInt ∧ (fa0_15 k).toInt ≤ 3) ∧ (∀ k : Nat, 6 ≤ k → k ≤ 6 → (0 : Int) ≤ (fa0_15 k).toInt ∧ (fa0_15 k).toInt ≤ 6) ∧ (∀ k : Nat, 7 ≤ k → k ≤ 9 → (0 : Int) ≤ (fa0_15 k).toInt ∧ (fa0_15 k).toInt ≤ 8) ∧ (∀ k : Nat, 12 ≤ k → k ≤ 29 → (0 : Int) ≤ (fa0_15 k).toInt ∧ (fa0_15 k).toInt ≤ 20) ∧ (∀ k : Nat, 30 ≤ k → k ≤ 35 → (0 : Int) ≤ (fa0_15 k).toInt ∧ (fa0_15 k).toInt ≤ 8) ∧ (∀ k : Nat, 36 ≤ k → k ≤ 47 → (0 : Int) ≤ (fa0_15 k).toInt ∧ (fa0_15 k).toInt ≤ 999))) (bfa0_17 : ((∀ k : Nat, 0 ≤ k → k ≤ 8 → (0 : Int) ≤ (fa0_17 k).toInt ∧ (fa0_17 k).toInt ≤ 8) ∧ (∀ k : Nat, 19 ≤ k → k ≤ 19 → (0 : Int) ≤ (fa0_17 k).toInt ∧ (fa0_17 k).toInt ≤ 8) ∧ (∀ k : Nat, 20 ≤ k → k ≤ 20 → (0 : Int) ≤ (fa0_17 k).toInt ∧ (fa0_17 k).toInt ≤ 19))) : zm l yX8_figure wsX8_figure ({ frames := 2, cells := 0, slots := 0, locals := 43 }) [.ref a0, .int a1, .int a2] dC dI sz [(a0, .inr (8, [Value.int a0_0, a0g_1, a0g_2, a0g_3, a0g_4, a0g_5, a0g_6, a0g_7, a0g_8, a0g_9, a0g_10, Value.int a0_11, a0g_12, a0g_13, Value.int a0_14, Value.ref a0_15, a0g_16, Value.ref a0_17, a0g_18, a0g_19, a0g_20, a0g_21, a0g_22, a0g_23, a0g_24, a0g_25, a0g_26, a0g_27, a0g_28, a0g_29, a0g_30, a0g_31, a0g_32, a0g_33, a0g_34, a0g_35, a0g_36, a0g_37, a0g_38, a0g_39])), (a0_15, .inl (ka0_15, 156, .inl (fa0_15))), (a0_17, .inl (ka0_17, 23, .inl (fa0_17)))] [(ka0_15, .int), (ka0_17, .int)] (fun A _ => True) (fun A => va_Qi (fun (r : Int32) (_ : Unit) => True) (fun (_ : Unit) (t : State) => ∃ na0_0 : Int32, ∃ na0_11 : Int32, ax_B dC dI A [(a0, .inr (8, [Value.int na0_0, a0g_1, a0g_2, a0g_3, a0g_4, a0g_5, a0g_6, a0g_7, a0g_8, a0g_9, a0g_10, Value.int na0_11, a0g_12, a0g_13, Value.int a0_14, Value.ref a0_15, a0g_16, Value.ref a0_17, a0g_18, a0g_19, a0g_20, a0g_21, a0g_22, a0g_23, a0g_24, a0g_25, a0g_26, a0g_27, a0g_28, a0g_29, a0g_30, a0g_31, a0g_32, a0g_33, a0g_34, a0g_35, a0g_36, a0g_37, a0g_38, a0g_39])), (a0_15, .inl (ka0_15, 156, .inl (fa0_15))), (a0_17, .inl (ka0_17, 23, .inl (fa0_17)))] [(ka0_15, .int), (ka0_17, .int)] t) A) := by
  refine zh (cc := cX8_figure) (maxL := 3) (ret := (some .int)) zn_RX8 rfl (Nat.le_of_ble_eq_true rfl) (fun p e s m below meth c A ls hx hb hml hr hts (hown : s.vm.findClass RX8 = some m.cls) hlocks hA hS hP hK hD hE (hl : lv_has ls 3 [(0, .ref a0), (1, .int a1), (2, .int a2)]) => ?_)
  refine lv_aload_n hx hb dX8_figure_0 rfl (lv_at hl 0 rfl) ?_
  refine va_callv (va_runV (As := []) (rest := []) ⟨hx, hb, hml, hown, hts⟩ (c_X8_good l dC dI s.heap.size a0 a0_0 a0g_1 a0g_2 a0g_3 a0g_4 a0g_5 a0g_6 a0g_7 a0g_8 a0g_9 a0g_10 a0g_12 a0g_13 (Value.int a0_14) (Value.ref a0_15) a0g_16 (Value.ref a0_17) a0g_18 a0g_19 a0g_20 a0g_21 a0g_22 a0g_23 a0g_24 a0g_25 a0g_26 a0g_27 a0g_28 a0g_29 a0g_30 a0g_31 a0g_32 a0g_33 a0g_34 a0g_35 a0g_36 a0g_37 a0g_38 a0g_39 a0_11 ) (cwV 0 hts gX8_figure_X8_good rfl rfl rfl zd_X8_good ⟨Nat.le_of_ble_eq_true rfl, Nat.le_of_ble_eq_true rfl⟩) ⟨ax_blind (fun _ _ _ _ _ => trivial), zr_8 (zp_K hK) (zp_P1 hP) (q0 := 0) rfl, ax_pre (zp_P1 hP) (zp_K hK) (zp_D1 hD) (fun _ _ => trivial)⟩ rfl rfl hl.1 rfl (lv_room (Nat.le_of_ble_eq_true rfl)) dX8_figure_1 ⟨Nat.le_of_ble_eq_true rfl, Nat.le_of_ble_eq_true rfl⟩) hS (fun q _ h => zp_F1 hD hS hA q h) (zp_F1 hD hS hA) (fun u t H locs ht hvm hw hB hz1 hk1 hS1 => zx_2 hB (fun v1na0_0 v1na0_11 hB => zo1 hB ht hP hD hk1 (zp_F1 hD hS hA) hS1 (fun hP hK1 hD hS => ?_)))
  refine lv_aload_n hx hb dX8_figure_4 rfl (lv_at hl 0 rfl) ?_
  refine lv_iload_n hx hb dX8_figure_5 rfl (lv_at hl 1 rfl) ?_
  have hKc := hK.sub (tys' := [(ka0_15, .int)]) [0] rfl
  refine va_calli (va_runV (As := [.int a1]) (rest := []) ⟨hx, hb, hml, hown, hts⟩ (c_X8_isFigure l dC dI H.size a0 a1 (Value.int v1na0_0) a0g_1 a0g_2 a0g_3 a0g_4 a0g_5 a0g_6 a0g_7 a0g_8 a0g_9 a0g_10 (Value.int v1na0_11) a0g_12 a0g_13 a0g_16 (Value.ref a0_17) a0g_18 a0g_19 a0g_20 a0g_21 a0g_22 a0g_23 a0g_24 a0g_25 a0g_26 a0g_27 a0g_28 a0g_29 a0g_30 a0g_31 a0g_32 a0g_33 a0g_34 a0g_35 a0g_36 a0g_37 a0g_38 a0g_39 a0_14 a0_15 ka0_15 fa0_15 ba0_14_l ba0_14_u bfa0_15) (cwV 1 hts gX8_figure_X8_isFigure rfl rfl rfl zd_X8_isFigure ⟨Nat.le_of_ble_eq_true rfl, Nat.le_of_ble_eq_true rfl⟩) ⟨ax_blind (fun _ _ _ _ _ => trivial), zr_8 hKc (zp_P2 hP) (q0 := 0) rfl, ax_pre (zp_P2 hP) hKc (zp_D2 hD) (fun _ _ => trivial)⟩ rfl rfl hl.1 rfl (lv_room (Nat.le_of_ble_eq_true rfl)) dX8_figure_6 ⟨Nat.le_of_ble_eq_true rfl, Nat.le_of_ble_eq_true rfl⟩) hS (fun q _ h => zp_F2 hD hS hA q h) (zp_F2 hD hS hA) (fun r6 u t H locs ht hvm hw hB hz1 hk1 hS1 => zo2 hB ht hP hD hk1 (zp_F2 hD hS hA) hS1 (fun hP hK1 hD hS => ?_))
  rcases hw with hw | hw
  · obtain ⟨hw, h6_0, h6_1⟩ := hw
    subst hw
    have l6k0_a1 : (0 : Int) ≤ a1.toInt := h6_0
    have u6k0_a1 : a1.toInt ≤ (8 : Int) := h6_1
    refine lv_if_eq (tgt := 21) hx hb dX8_figure_9 (by decide) (fun c9 => absurd c9 (by decide +kernel)) (fun _ => ?_)
    refine lv_iload_n hx hb dX8_figure_12 rfl (lv_at hl 2 rfl) ?_
    refine lv_iconst (v := 0) hx hb dX8_figure_13 zk_iconst_0 ?_
    refine lv_iconst (v := 4) hx hb dX8_figure_14 zk_iconst_4 ?_
    refine va_calli (va_runS (As := [.int a2, .int 0, .int 4]) (rest := []) ⟨hx, hb, hml, hown, hts⟩ (c_X8_in l dC dI H.size a2 0 4 ) (va_cwS 3 hts gX8_figure_X8_in rfl rfl rfl zd_X8_in.2 ⟨Nat.le_of_ble_eq_true rfl, Nat.le_of_ble_eq_true rfl⟩) ⟨ax_blind (fun _ _ _ _ _ => trivial), ax_pre (zp_P0 hP) (zp_K hK) (zp_D0 hD) (fun _ _ => trivial)⟩ rfl rfl hl.1 rfl (lv_room (Nat.le_of_ble_eq_true rfl)) dX8_figure_15 ⟨Nat.le_of_ble_eq_true rfl, Nat.le_of_ble_eq_true rfl⟩) hS (fun q _ h => zp_F0 hD hS hA q h) (zp_F0 hD hS hA) (fun r15 u t H locs ht hvm hw hB hz1 hk1 hS1 => zo0 hB ht hP hD hk1 (zp_F0 hD hS hA) hS1 (fun hP hK1 hD hS => ?_))
    rcases hw with hw | hw
    · obtain ⟨hw, h15⟩ := hw
      subst hw
      have l15k0_a2 : (0 : Int) ≤ a2.toInt := Int.le_trans zq5 h15.1
      have u15k0_a2 : a2.toInt ≤ (4 : Int) := Int.le_trans h15.2 zq67
      refine lv_if_ne (tgt := 27) hx hb dX8_figure_18 (by decide) (fun _ => ?_) (fun c18 => absurd c18 (by decide +kernel))
      refine lv_iload_n hx hb dX8_figure_27 rfl (lv_at hl 2 rfl) ?_
      by_cases n_1 : a2 = 0
      · subst n_1
        refine lv_tableIn (off := 32) (tgt := 60) hx hb dX8_figure_28 (by decide) (by decide) (by decide +kernel) (by decide) ?_
        refine lv_aload_n hx hb dX8_figure_60 rfl (lv_at hl 0 rfl) ?_
        refine va_get (D := (dC, dI)) (ci := 8) (v := .ref a0_15) (C := RX8) (T := TX8) (N := 40) hx hb hts zi_X8_figure_8 hown hK hP 0 rfl rfl 15 (by decide) (hts (.fieldLink RX8 20 "WaxTurnsModel" "\x72" "[I") (List.mem_cons_of_mem _ (List.mem_append_left _ (List.mem_of_getElem? (i := 0) rfl)))) (fun _ h9 => h9) rfl dX8_figure_61 ?_
        refine lv_bipush (v := 12) hx hb dX8_figure_64 zk_bipush_12 ?_
        refine lv_iconst (v := 2) hx hb dX8_figure_66 zk_iconst_2 ?_
        refine lv_iload_n hx hb dX8_figure_67 rfl (lv_at hl 1 rfl) ?_
        refine lv_imul hx hb dX8_figure_68 ?_
        refine lv_topi (fun x68 ex68 => ?_)
        have qx68 : x68.toInt = (2 : Int32).toInt * a1.toInt ∧ (0 : Int) ≤ x68.toInt ∧ x68.toInt ≤ 16 := ai_mul ex68 ⟨zq12, zq13⟩ ⟨l6k0_a1, u6k0_a1⟩ (by decide) (by decide) zq155
        have wx68 : x68.toInt = 2 * a1.toInt := qx68.1
        refine lv_iadd hx hb dX8_figure_69 ?_
        refine lv_topi (fun x69 ex69 => ?_)
        have qx69 : x69.toInt = (12 : Int32).toInt + x68.toInt := ai_add ex69 ⟨zq119, zq120⟩ ⟨qx68.2.1, qx68.2.2⟩ (by decide) (by decide)
        have bx69 : (12 : Int) ≤ x69.toInt ∧ x69.toInt ≤ 28 := ⟨by rw [qx69]; exact Int.add_le_add zq119 qx68.2.1, by rw [qx69]; exact Int.add_le_add zq120 qx68.2.2⟩
        have wx69 : x69.toInt = 12 + x68.toInt := qx69
        refine lv_iload_n hx hb dX8_figure_70 rfl (lv_at hl 2 rfl) ?_
        refine lv_iadd hx hb dX8_figure_71 ?_
        refine lv_topi (fun x71 ex71 => ?_)
        have qx71 : x71.toInt = x69.toInt + (0 : Int32).toInt := ai_add ex71 ⟨bx69.1, bx69.2⟩ ⟨zq5, zq6⟩ (by decide) (by decide)
        have bx71 : (12 : Int) ≤ x71.toInt ∧ x71.toInt ≤ 28 := ⟨by rw [qx71]; exact Int.add_le_add bx69.1 zq5, by rw [qx71]; exact Int.add_le_add bx69.2 zq6⟩
        have wx71 : x71.toInt = x69.toInt + 0 := qx71
        refine va_iald hx hb hK hP 1 0 rfl rfl (ai_in bx71.1 bx71.2 (by decide) (by decide)) dX8_figure_72 ?_
        refine lv_topi (fun x72 ex72 => ?_)
        have bx72 : (0 : Int) ≤ x72.toInt ∧ x72.toInt ≤ 20 := by rw [ex72]; exact ai_rd bfa0_15.2.2.2.2.2.2.2.2.1 bx71.1 bx71.2 (by decide) (by decide) (by decide)
        exact W.iret (v := x72) hx hb hr (fun t ht hW => ⟨⟨x72, (), rfl, trivial, v1na0_0, v1na0_11, by rw [ht]; exact hP, va_K.moved hW.alike hK, hD⟩, hS.F ht⟩) hS.2.2 dX8_figure_73
      by_cases n_2 : a2 = 1
      · subst n_2
        refine lv_tableIn (off := 32) (tgt := 60) hx hb dX8_figure_28 (by decide) (by decide) (by decide +kernel) (by decide) ?_
        refine lv_aload_n hx hb dX8_figure_60 rfl (lv_at hl 0 rfl) ?_
        refine va_get (D := (dC, dI)) (ci := 8) (v := .ref a0_15) (C := RX8) (T := TX8) (N := 40) hx hb hts zi_X8_figure_8 hown hK hP 0 rfl rfl 15 (by decide) (hts (.fieldLink RX8 20 "WaxTurnsModel" "\x72" "[I") (List.mem_cons_of_mem _ (List.mem_append_left _ (List.mem_of_getElem? (i := 0) rfl)))) (fun _ h9 => h9) rfl dX8_figure_61 ?_
        refine lv_bipush (v := 12) hx hb dX8_figure_64 zk_bipush_12 ?_
        refine lv_iconst (v := 2) hx hb dX8_figure_66 zk_iconst_2 ?_
        refine lv_iload_n hx hb dX8_figure_67 rfl (lv_at hl 1 rfl) ?_
        refine lv_imul hx hb dX8_figure_68 ?_
        refine lv_topi (fun x68 ex68 => ?_)
        have qx68 : x68.toInt = (2 : Int32).toInt * a1.toInt ∧ (0 : Int) ≤ x68.toInt ∧ x68.toInt ≤ 16 := ai_mul ex68 ⟨zq12, zq13⟩ ⟨l6k0_a1, u6k0_a1⟩ (by decide) (by decide) zq155
        have wx68 : x68.toInt = 2 * a1.toInt := qx68.1
        refine lv_iadd hx hb dX8_figure_69 ?_
        refine lv_topi (fun x69 ex69 => ?_)
        have qx69 : x69.toInt = (12 : Int32).toInt + x68.toInt := ai_add ex69 ⟨zq119, zq120⟩ ⟨qx68.2.1, qx68.2.2⟩ (by decide) (by decide)
        have bx69 : (12 : Int) ≤ x69.toInt ∧ x69.toInt ≤ 28 := ⟨by rw [qx69]; exact Int.add_le_add zq119 qx68.2.1, by rw [qx69]; exact Int.add_le_add zq120 qx68.2.2⟩
        have wx69 : x69.toInt = 12 + x68.toInt := qx69
        refine lv_iload_n hx hb dX8_figure_70 rfl (lv_at hl 2 rfl) ?_
        refine lv_iadd hx hb dX8_figure_71 ?_
        refine lv_topi (fun x71 ex71 => ?_)
        have qx71 : x71.toInt = x69.toInt + (1 : Int32).toInt := ai_add ex71 ⟨bx69.1, bx69.2⟩ ⟨zq1, zq0⟩ (by decide) (by decide)
        have bx71 : (13 : Int) ≤ x71.toInt ∧ x71.toInt ≤ 29 := ⟨by rw [qx71]; exact Int.add_le_add bx69.1 zq1, by rw [qx71]; exact Int.add_le_add bx69.2 zq0⟩
        have wx71 : x71.toInt = x69.toInt + 1 := qx71
        refine va_iald hx hb hK hP 1 0 rfl rfl (ai_in bx71.1 bx71.2 (by decide) (by decide)) dX8_figure_72 ?_
        refine lv_topi (fun x72 ex72 => ?_)
        have bx72 : (0 : Int) ≤ x72.toInt ∧ x72.toInt ≤ 20 := by rw [ex72]; exact ai_rd bfa0_15.2.2.2.2.2.2.2.2.1 bx71.1 bx71.2 (by decide) (by decide) (by decide)
        exact W.iret (v := x72) hx hb hr (fun t ht hW => ⟨⟨x72, (), rfl, trivial, v1na0_0, v1na0_11, by rw [ht]; exact hP, va_K.moved hW.alike hK, hD⟩, hS.F ht⟩) hS.2.2 dX8_figure_73
      by_cases n_3 : a2 = 2
      · subst n_3
        refine lv_tableIn (off := 46) (tgt := 74) hx hb dX8_figure_28 (by decide) (by decide) (by decide +kernel) (by decide) ?_
        refine lv_aload_n hx hb dX8_figure_74 rfl (lv_at hl 0 rfl) ?_
        refine va_get (D := (dC, dI)) (ci := 8) (v := .ref a0_17) (C := RX8) (T := TX8) (N := 40) hx hb hts zi_X8_figure_8 hown hK hP 0 rfl rfl 17 (by decide) (hts (.fieldLink RX8 26 "WaxTurnsModel" "st" "[I") (List.mem_cons_of_mem _ (List.mem_append_left _ (List.mem_of_getElem? (i := 1) rfl)))) (fun _ h9 => h9) rfl dX8_figure_75 ?_
        refine lv_iload_n hx hb dX8_figure_78 rfl (lv_at hl 1 rfl) ?_
        refine va_iald hx hb hK hP 2 1 rfl rfl (ai_in l6k0_a1 u6k0_a1 (by decide) (by decide)) dX8_figure_79 ?_
        refine lv_topi (fun x79 ex79 => ?_)
        have bx79 : (0 : Int) ≤ x79.toInt ∧ x79.toInt ≤ 8 := by rw [ex79]; exact ai_rd bfa0_17.1 l6k0_a1 u6k0_a1 (by decide) (by decide) (by decide)
        exact W.iret (v := x79) hx hb hr (fun t ht hW => ⟨⟨x79, (), rfl, trivial, v1na0_0, v1na0_11, by rw [ht]; exact hP, va_K.moved hW.alike hK, hD⟩, hS.F ht⟩) hS.2.2 dX8_figure_80
      by_cases n_4 : a2 = 3
      · subst n_4
        refine lv_tableIn (off := 53) (tgt := 81) hx hb dX8_figure_28 (by decide) (by decide) (by decide +kernel) (by decide) ?_
        refine lv_aload_n hx hb dX8_figure_81 rfl (lv_at hl 0 rfl) ?_
        refine va_get (D := (dC, dI)) (ci := 8) (v := .ref a0_17) (C := RX8) (T := TX8) (N := 40) hx hb hts zi_X8_figure_8 hown hK hP 0 rfl rfl 17 (by decide) (hts (.fieldLink RX8 26 "WaxTurnsModel" "st" "[I") (List.mem_cons_of_mem _ (List.mem_append_left _ (List.mem_of_getElem? (i := 1) rfl)))) (fun _ h9 => h9) rfl dX8_figure_82 ?_
        refine lv_bipush (v := 18) hx hb dX8_figure_85 zk_bipush_18 ?_
        refine va_iald hx hb hK hP 2 1 rfl rfl (by unfold vp_in; decide +kernel) dX8_figure_87 ?_
        refine lv_topi (fun x87 ex87 => ?_)
        refine lv_iload_n hx hb dX8_figure_88 rfl (lv_at hl 1 rfl) ?_
        refine lv_ishr hx hb dX8_figure_89 ?_
        refine lv_topi (fun x89 ex89 => ?_)
        refine lv_iconst (v := 1) hx hb dX8_figure_90 zk_iconst_1 ?_
        refine lv_iand hx hb dX8_figure_91 ?_
        refine lv_topi (fun x91 ex91 => ?_)
        exact W.iret (v := x91) hx hb hr (fun t ht hW => ⟨⟨x91, (), rfl, trivial, v1na0_0, v1na0_11, by rw [ht]; exact hP, va_K.moved hW.alike hK, hD⟩, hS.F ht⟩) hS.2.2 dX8_figure_92
      have o_5 : a2.toInt < 0 ∨ 3 < a2.toInt := by
        have en_1 : a2.toInt ≠ 0 := fun h9 => n_1 (Int32.toInt_inj.mp (h9.trans (by decide)))
        have en_2 : a2.toInt ≠ 1 := fun h9 => n_2 (Int32.toInt_inj.mp (h9.trans (by decide)))
        have en_3 : a2.toInt ≠ 2 := fun h9 => n_3 (Int32.toInt_inj.mp (h9.trans (by decide)))
        have en_4 : a2.toInt ≠ 3 := fun h9 => n_4 (Int32.toInt_inj.mp (h9.trans (by decide)))
        omega
      refine lv_tableOut (tgt := 93) hx hb dX8_figure_28 o_5 (by decide) ?_
      refine lv_aload_n hx hb dX8_figure_93 rfl (lv_at hl 0 rfl) ?_
      refine va_get (D := (dC, dI)) (ci := 8) (v := .ref a0_17) (C := RX8) (T := TX8) (N := 40) hx hb hts zi_X8_figure_8 hown hK hP 0 rfl rfl 17 (by decide) (hts (.fieldLink RX8 26 "WaxTurnsModel" "st" "[I") (List.mem_cons_of_mem _ (List.mem_append_left _ (List.mem_of_getElem? (i := 1) rfl)))) (fun _ h9 => h9) rfl dX8_figure_94 ?_
      refine lv_bipush (v := 9) hx hb dX8_figure_97 zk_bipush_9 ?_
      refine lv_iload_n hx hb dX8_figure_99 rfl (lv_at hl 1 rfl) ?_
      refine lv_iadd hx hb dX8_figure_100 ?_
      refine lv_topi (fun x100 ex100 => ?_)
      have qx100 : x100.toInt = (9 : Int32).toInt + a1.toInt := ai_add ex100 ⟨zq2, zq3⟩ ⟨l6k0_a1, u6k0_a1⟩ (by decide) (by decide)
      have bx100 : (9 : Int) ≤ x100.toInt ∧ x100.toInt ≤ 17 := ⟨by rw [qx100]; exact Int.add_le_add zq2 l6k0_a1, by rw [qx100]; exact Int.add_le_add zq3 u6k0_a1⟩
      have wx100 : x100.toInt = 9 + a1.toInt := qx100
      refine va_iald hx hb hK hP 2 1 rfl rfl (ai_in bx100.1 bx100.2 (by decide) (by decide)) dX8_figure_101 ?_
      refine lv_topi (fun x101 ex101 => ?_)
      exact W.iret (v := x101) hx hb hr (fun t ht hW => ⟨⟨x101, (), rfl, trivial, v1na0_0, v1na0_11, by rw [ht]; exact hP, va_K.moved hW.alike hK, hD⟩, hS.F ht⟩) hS.2.2 dX8_figure_102
    · obtain ⟨hw, h15⟩ := hw
      subst hw
      refine lv_if_ne (tgt := 27) hx hb dX8_figure_18 (by decide) (fun c18 => absurd (by decide +kernel) c18) (fun _ => ?_)
      refine lv_aload_n hx hb dX8_figure_21 rfl (lv_at hl 0 rfl) ?_
      refine lv_iconst (v := 1) hx hb dX8_figure_22 zk_iconst_1 ?_
      refine va_calli (va_runV (As := [.int 1]) (rest := []) ⟨hx, hb, hml, hown, hts⟩ (c_X8_no l dC dI H.size a0 1 (Value.int v1na0_0) a0g_1 a0g_2 a0g_3 a0g_4 a0g_5 a0g_6 a0g_7 a0g_8 a0g_9 a0g_10 a0g_12 a0g_13 (Value.int a0_14) (Value.ref a0_15) a0g_16 (Value.ref a0_17) a0g_18 a0g_19 a0g_20 a0g_21 a0g_22 a0g_23 a0g_24 a0g_25 a0g_26 a0g_27 a0g_28 a0g_29 a0g_30 a0g_31 a0g_32 a0g_33 a0g_34 a0g_35 a0g_36 a0g_37 a0g_38 a0g_39 v1na0_11 ) (cwV 1 hts gX8_figure_X8_no rfl rfl rfl zd_X8_no ⟨Nat.le_of_ble_eq_true rfl, Nat.le_of_ble_eq_true rfl⟩) ⟨ax_blind (fun _ _ _ _ _ => trivial), zr_8 (zp_K hK) (zp_P1 hP) (q0 := 0) rfl, ax_pre (zp_P1 hP) (zp_K hK) (zp_D1 hD) (fun _ _ => trivial)⟩ rfl rfl hl.1 rfl (lv_room (Nat.le_of_ble_eq_true rfl)) dX8_figure_23 ⟨Nat.le_of_ble_eq_true rfl, Nat.le_of_ble_eq_true rfl⟩) hS (fun q _ h => zp_F1 hD hS hA q h) (zp_F1 hD hS hA) (fun r23 u t H locs ht hvm hw hB hz1 hk1 hS1 => zx_1 hB (fun v23na0_11 hB => zo1 hB ht hP hD hk1 (zp_F1 hD hS hA) hS1 (fun hP hK1 hD hS => ?_)))
      have hw : r23 = (-1) := hw
      have hw := hw.symm
      subst hw
      exact W.iret (v := (-1)) hx hb hr (fun t ht hW => ⟨⟨(-1), (), rfl, trivial, v1na0_0, v23na0_11, by rw [ht]; exact hP, va_K.moved hW.alike hK, hD⟩, hS.F ht⟩) hS.2.2 dX8_figure_26
  · subst hw
    refine lv_if_eq (tgt := 21) hx hb dX8_figure_9 (by decide) (fun _ => ?_) (fun c9 => absurd (by decide +kernel) c9)
    refine lv_aload_n hx hb dX8_figure_21 rfl (lv_at hl 0 rfl) ?_
    refine lv_iconst (v := 1) hx hb dX8_figure_22 zk_iconst_1 ?_
    refine va_calli (va_runV (As := [.int 1]) (rest := []) ⟨hx, hb, hml, hown, hts⟩ (c_X8_no l dC dI H.size a0 1 (Value.int v1na0_0) a0g_1 a0g_2 a0g_3 a0g_4 a0g_5 a0g_6 a0g_7 a0g_8 a0g_9 a0g_10 a0g_12 a0g_13 (Value.int a0_14) (Value.ref a0_15) a0g_16 (Value.ref a0_17) a0g_18 a0g_19 a0g_20 a0g_21 a0g_22 a0g_23 a0g_24 a0g_25 a0g_26 a0g_27 a0g_28 a0g_29 a0g_30 a0g_31 a0g_32 a0g_33 a0g_34 a0g_35 a0g_36 a0g_37 a0g_38 a0g_39 v1na0_11 ) (cwV 1 hts gX8_figure_X8_no rfl rfl rfl zd_X8_no ⟨Nat.le_of_ble_eq_true rfl, Nat.le_of_ble_eq_true rfl⟩) ⟨ax_blind (fun _ _ _ _ _ => trivial), zr_8 (zp_K hK) (zp_P1 hP) (q0 := 0) rfl, ax_pre (zp_P1 hP) (zp_K hK) (zp_D1 hD) (fun _ _ => trivial)⟩ rfl rfl hl.1 rfl (lv_room (Nat.le_of_ble_eq_true rfl)) dX8_figure_23 ⟨Nat.le_of_ble_eq_true rfl, Nat.le_of_ble_eq_true rfl⟩) hS (fun q _ h => zp_F1 hD hS hA q h) (zp_F1 hD hS hA) (fun r23 u t H locs ht hvm hw hB hz1 hk1 hS1 => zx_1 hB (fun v23na0_11 hB => zo1 hB ht hP hD hk1 (zp_F1 hD hS hA) hS1 (fun hP hK1 hD hS => ?_)))
    have hw : r23 = (-1) := hw
    have hw := hw.symm
    subst hw
    exact W.iret (v := (-1)) hx hb hr (fun t ht hW => ⟨⟨(-1), (), rfl, trivial, v1na0_0, v23na0_11, by rw [ht]; exact hP, va_K.moved hW.alike hK, hD⟩, hS.F ht⟩) hS.2.2 dX8_figure_26

set_option maxHeartbeats 4000000 in
set_option maxRecDepth 100000 in
theorem c_X8_watcher (l : Launch) (dC : Nat → ClassId) (dI : Nat → Nat → Nat) (sz : Nat) (a0 : Nat) (a1 : Int32) (a2 : Int32) (a0_0 : Int32) (a0g_1 a0g_2 a0g_3 a0g_4 a0g_5 a0g_6 a0g_7 a0g_8 a0g_9 a0g_10 a0g_12 a0g_13 a0g_16 a0g_18 a0g_19 a0g_20 a0g_21 a0g_22 a0g_26 a0g_27 a0g_28 a0g_29 a0g_30 a0g_31 a0g_32 a0g_33 a0g_34 a0g_35 a0g_36 a0g_37 a0g_38 a0g_39 : Value) (a0_11 : Int32) (a0_14 : Int32) (a0_15 : Nat) (a0_17 : Nat) (a0_23 : Nat) (a0_24 : Nat) (a0_25 : Int32) (ka0_15 : ClassId) (fa0_15 : Nat → Int32) (ka0_23 : ClassId) (fa0_23 : Nat → Int32) (ka0_24 : ClassId) (fa0_24 : Nat → Int32) (ka0_17 : ClassId) (fa0_17 : Nat → Int32) (ba0_14_l : (1 : Int) ≤ a0_14.toInt) (ba0_14_u : a0_14.toInt ≤ (1 : Int)) (bfa0_15 : ((∀ k : Nat, 0 ≤ k → k ≤ 0 → (2 : Int) ≤ (fa0_15 k).toInt ∧ (fa0_15 k).toInt ≤ 9) ∧ (∀ k : Nat, 1 ≤ k → k ≤ 1 → (1 : Int) ≤ (fa0_15 k).toInt ∧ (fa0_15 k).toInt ≤ 20) ∧ (∀ k : Nat, 2 ≤ k → k ≤ 2 → (0 : Int) ≤ (fa0_15 k).toInt ∧ (fa0_15 k).toInt ≤ 8) ∧ (∀ k : Nat, 3 ≤ k → k ≤ 3 → (0 : Int) ≤ (fa0_15 k).toInt ∧ (fa0_15 k).toInt ≤ 100) ∧ (∀ k : Nat, 4 ≤ k → k ≤ 4 → (0 : Int) ≤ (fa0_15 k).toInt ∧ (fa0_15 k).toInt ≤ 9) ∧ (∀ k : Nat, 5 ≤ k → k ≤ 5 → (0 : Int) ≤ (fa0_15 k).toInt ∧ (fa0_15 k).toInt ≤ 3) ∧ (∀ k : Nat, 6 ≤ k → k ≤ 6 → (0 : Int) ≤ (fa0_15 k).toInt ∧ (fa0_15 k).toInt ≤ 6) ∧ (∀ k : Nat, 7 ≤ k → k ≤ 9 → (0 : Int) ≤ (fa0_15 k).toInt ∧ (fa0_15 k).toInt ≤ 8) ∧ (∀ k : Nat, 12 ≤ k → k ≤ 29 → (0 : Int) ≤ (fa0_15 k).toInt ∧ (fa0_15 k).toInt ≤ 20) ∧ (∀ k : Nat, 30 ≤ k → k ≤ 35 → (0 : Int) ≤ (fa0_15 k).toInt ∧ (fa0_15 k).toInt ≤ 8) ∧ (∀ k : Nat, 36 ≤ k → k ≤ 47 → (0 : Int) ≤ (fa0_15 k).toInt ∧ (fa0_15 k).toInt ≤ 999))) (bfa0_23 : (∀ k, (0 : Int) ≤ (fa0_23 k).toInt ∧ (fa0_23 k).toInt ≤ 80)) (bfa0_24 : (∀ k, (0 : Int) ≤ (fa0_24 k).toInt ∧ (fa0_24 k).toInt ≤ 80)) (bfa0_17 : ((∀ k : Nat, 0 ≤ k → k ≤ 8 → (0 : Int) ≤ (fa0_17 k).toInt ∧ (fa0_17 k).toInt ≤ 8) ∧ (∀ k : Nat, 19 ≤ k → k ≤ 19 → (0 : Int) ≤ (fa0_17 k).toInt ∧ (fa0_17 k).toInt ≤ 8) ∧ (∀ k : Nat, 20 ≤ k → k ≤ 20 → (0 : Int) ≤ (fa0_17 k).toInt ∧ (fa0_17 k).toInt ≤ 19))) : zm l yX8_watcher wsX8_watcher ({ frames := 2, cells := 0, slots := 0, locals := 43 }) [.ref a0, .int a1, .int a2] dC dI sz [(a0, .inr (8, [Value.int a0_0, a0g_1, a0g_2, a0g_3, a0g_4, a0g_5, a0g_6, a0g_7, a0g_8, a0g_9, a0g_10, Value.int a0_11, a0g_12, a0g_13, Value.int a0_14, Value.ref a0_15, a0g_16, Value.ref a0_17, a0g_18, a0g_19, a0g_20, a0g_21, a0g_22, Value.ref a0_23, Value.ref a0_24, Value.int a0_25, a0g_26, a0g_27, a0g_28, a0g_29, a0g_30, a0g_31, a0g_32, a0g_33, a0g_34, a0g_35, a0g_36, a0g_37, a0g_38, a0g_39])), (a0_15, .inl (ka0_15, 156, .inl (fa0_15))), (a0_23, .inl (ka0_23, 3, .inl (fa0_23))), (a0_24, .inl (ka0_24, 3, .inl (fa0_24))), (a0_17, .inl (ka0_17, 23, .inl (fa0_17)))] [(ka0_15, .int), (ka0_23, .int), (ka0_24, .int), (ka0_17, .int)] (fun A _ => True) (fun A => va_Qi (fun (r : Int32) (_ : Unit) => True) (fun (_ : Unit) (t : State) => ∃ na0_0 : Int32, ∃ na0_11 : Int32, ∃ na0_25 : Int32, ∃ nfa0_23 : Nat → Int32, ∃ nfa0_24 : Nat → Int32, (∀ k, (0 : Int) ≤ (nfa0_23 k).toInt ∧ (nfa0_23 k).toInt ≤ 80) ∧ (∀ k, (0 : Int) ≤ (nfa0_24 k).toInt ∧ (nfa0_24 k).toInt ≤ 80) ∧ ax_B dC dI A [(a0, .inr (8, [Value.int na0_0, a0g_1, a0g_2, a0g_3, a0g_4, a0g_5, a0g_6, a0g_7, a0g_8, a0g_9, a0g_10, Value.int na0_11, a0g_12, a0g_13, Value.int a0_14, Value.ref a0_15, a0g_16, Value.ref a0_17, a0g_18, a0g_19, a0g_20, a0g_21, a0g_22, Value.ref a0_23, Value.ref a0_24, Value.int na0_25, a0g_26, a0g_27, a0g_28, a0g_29, a0g_30, a0g_31, a0g_32, a0g_33, a0g_34, a0g_35, a0g_36, a0g_37, a0g_38, a0g_39])), (a0_15, .inl (ka0_15, 156, .inl (fa0_15))), (a0_23, .inl (ka0_23, 3, .inl (nfa0_23))), (a0_24, .inl (ka0_24, 3, .inl (nfa0_24))), (a0_17, .inl (ka0_17, 23, .inl (fa0_17)))] [(ka0_15, .int), (ka0_23, .int), (ka0_24, .int), (ka0_17, .int)] t) A) := by
  refine zh (cc := cX8_watcher) (maxL := 3) (ret := (some .int)) zn_RX8 rfl (Nat.le_of_ble_eq_true rfl) (fun p e s m below meth c A ls hx hb hml hr hts (hown : s.vm.findClass RX8 = some m.cls) hlocks hA hS hP hK hD hE (hl : lv_has ls 3 [(0, .ref a0), (1, .int a1), (2, .int a2)]) => ?_)
  refine lv_aload_n hx hb dX8_watcher_0 rfl (lv_at hl 0 rfl) ?_
  refine va_callv (va_runV (As := []) (rest := []) ⟨hx, hb, hml, hown, hts⟩ (c_X8_good l dC dI s.heap.size a0 a0_0 a0g_1 a0g_2 a0g_3 a0g_4 a0g_5 a0g_6 a0g_7 a0g_8 a0g_9 a0g_10 a0g_12 a0g_13 (Value.int a0_14) (Value.ref a0_15) a0g_16 (Value.ref a0_17) a0g_18 a0g_19 a0g_20 a0g_21 a0g_22 (Value.ref a0_23) (Value.ref a0_24) (Value.int a0_25) a0g_26 a0g_27 a0g_28 a0g_29 a0g_30 a0g_31 a0g_32 a0g_33 a0g_34 a0g_35 a0g_36 a0g_37 a0g_38 a0g_39 a0_11 ) (cwV 0 hts gX8_watcher_X8_good rfl rfl rfl zd_X8_good ⟨Nat.le_of_ble_eq_true rfl, Nat.le_of_ble_eq_true rfl⟩) ⟨ax_blind (fun _ _ _ _ _ => trivial), zr_8 (zp_K hK) (zp_P1 hP) (q0 := 0) rfl, ax_pre (zp_P1 hP) (zp_K hK) (zp_D1 hD) (fun _ _ => trivial)⟩ rfl rfl hl.1 rfl (lv_room (Nat.le_of_ble_eq_true rfl)) dX8_watcher_1 ⟨Nat.le_of_ble_eq_true rfl, Nat.le_of_ble_eq_true rfl⟩) hS (fun q _ h => zp_F1 hD hS hA q h) (zp_F1 hD hS hA) (fun u t H locs ht hvm hw hB hz1 hk1 hS1 => zx_2 hB (fun v1na0_0 v1na0_11 hB => zo1 hB ht hP hD hk1 (zp_F1 hD hS hA) hS1 (fun hP hK1 hD hS => ?_)))
  refine lv_aload_n hx hb dX8_watcher_4 rfl (lv_at hl 0 rfl) ?_
  refine lv_iload_n hx hb dX8_watcher_5 rfl (lv_at hl 1 rfl) ?_
  have hKc := hK.sub (tys' := [(ka0_15, .int)]) [0] rfl
  refine va_calli (va_runV (As := [.int a1]) (rest := []) ⟨hx, hb, hml, hown, hts⟩ (c_X8_isWatcher l dC dI H.size a0 a1 (Value.int v1na0_0) a0g_1 a0g_2 a0g_3 a0g_4 a0g_5 a0g_6 a0g_7 a0g_8 a0g_9 a0g_10 (Value.int v1na0_11) a0g_12 a0g_13 a0g_16 (Value.ref a0_17) a0g_18 a0g_19 a0g_20 a0g_21 a0g_22 (Value.ref a0_23) (Value.ref a0_24) (Value.int a0_25) a0g_26 a0g_27 a0g_28 a0g_29 a0g_30 a0g_31 a0g_32 a0g_33 a0g_34 a0g_35 a0g_36 a0g_37 a0g_38 a0g_39 a0_14 a0_15 ka0_15 fa0_15 ba0_14_l ba0_14_u bfa0_15) (cwV 1 hts gX8_watcher_X8_isWatcher rfl rfl rfl zd_X8_isWatcher ⟨Nat.le_of_ble_eq_true rfl, Nat.le_of_ble_eq_true rfl⟩) ⟨ax_blind (fun _ _ _ _ _ => trivial), zr_8 hKc (zp_P2 hP) (q0 := 0) rfl, ax_pre (zp_P2 hP) hKc (zp_D2 hD) (fun _ _ => trivial)⟩ rfl rfl hl.1 rfl (lv_room (Nat.le_of_ble_eq_true rfl)) dX8_watcher_6 ⟨Nat.le_of_ble_eq_true rfl, Nat.le_of_ble_eq_true rfl⟩) hS (fun q _ h => zp_F2 hD hS hA q h) (zp_F2 hD hS hA) (fun r6 u t H locs ht hvm hw hB hz1 hk1 hS1 => zo2 hB ht hP hD hk1 (zp_F2 hD hS hA) hS1 (fun hP hK1 hD hS => ?_))
  rcases hw with hw | hw
  · obtain ⟨hw, h6_0, h6_1⟩ := hw
    subst hw
    have l6k0_a1 : (0 : Int) ≤ a1.toInt := h6_0
    have u6k0_a1 : a1.toInt ≤ (2 : Int) := h6_1
    refine lv_if_eq (tgt := 21) hx hb dX8_watcher_9 (by decide) (fun c9 => absurd c9 (by decide +kernel)) (fun _ => ?_)
    refine lv_iload_n hx hb dX8_watcher_12 rfl (lv_at hl 2 rfl) ?_
    refine lv_iconst (v := 0) hx hb dX8_watcher_13 zk_iconst_0 ?_
    refine lv_iconst (v := 2) hx hb dX8_watcher_14 zk_iconst_2 ?_
    refine va_calli (va_runS (As := [.int a2, .int 0, .int 2]) (rest := []) ⟨hx, hb, hml, hown, hts⟩ (c_X8_in l dC dI H.size a2 0 2 ) (va_cwS 3 hts gX8_watcher_X8_in rfl rfl rfl zd_X8_in.2 ⟨Nat.le_of_ble_eq_true rfl, Nat.le_of_ble_eq_true rfl⟩) ⟨ax_blind (fun _ _ _ _ _ => trivial), ax_pre (zp_P0 hP) (zp_K hK) (zp_D0 hD) (fun _ _ => trivial)⟩ rfl rfl hl.1 rfl (lv_room (Nat.le_of_ble_eq_true rfl)) dX8_watcher_15 ⟨Nat.le_of_ble_eq_true rfl, Nat.le_of_ble_eq_true rfl⟩) hS (fun q _ h => zp_F0 hD hS hA q h) (zp_F0 hD hS hA) (fun r15 u t H locs ht hvm hw hB hz1 hk1 hS1 => zo0 hB ht hP hD hk1 (zp_F0 hD hS hA) hS1 (fun hP hK1 hD hS => ?_))
    rcases hw with hw | hw
    · obtain ⟨hw, h15⟩ := hw
      subst hw
      have l15k0_a2 : (0 : Int) ≤ a2.toInt := Int.le_trans zq5 h15.1
      have u15k0_a2 : a2.toInt ≤ (2 : Int) := Int.le_trans h15.2 zq13
      refine lv_if_ne (tgt := 27) hx hb dX8_watcher_18 (by decide) (fun _ => ?_) (fun c18 => absurd c18 (by decide +kernel))
      refine lv_aload_n hx hb dX8_watcher_27 rfl (lv_at hl 0 rfl) ?_
      have hKc := hK.sub (tys' := [(ka0_15, .int), (ka0_23, .int), (ka0_24, .int)]) [0, 1, 2] rfl
      refine va_callv (va_runV (As := []) (rest := []) ⟨hx, hb, hml, hown, hts⟩ (c_X8_watchAsTold l dC dI H.size a0 (Value.int v1na0_0) a0g_1 a0g_2 a0g_3 a0g_4 a0g_5 a0g_6 a0g_7 a0g_8 a0g_9 a0g_10 (Value.int v1na0_11) a0g_12 a0g_13 (Value.int a0_14) a0g_16 (Value.ref a0_17) a0g_18 a0g_19 a0g_20 a0g_21 a0g_22 a0g_26 a0g_27 a0g_28 a0g_29 a0g_30 a0g_31 a0g_32 a0g_33 a0g_34 a0g_35 a0g_36 a0g_37 a0g_38 a0g_39 a0_15 a0_23 a0_24 a0_25 ka0_15 fa0_15 ka0_23 fa0_23 ka0_24 fa0_24 bfa0_15 bfa0_23 bfa0_24) (cwV 0 hts gX8_watcher_X8_watchAsTold rfl rfl rfl zd_X8_watchAsTold ⟨Nat.le_of_ble_eq_true rfl, Nat.le_of_ble_eq_true rfl⟩) ⟨ax_blind (fun _ _ _ _ _ => trivial), zr_8 hKc (zp_P4 hP) (q0 := 0) rfl, ax_pre (zp_P4 hP) hKc (zp_D4 hD) (fun _ _ => trivial)⟩ rfl rfl hl.1 rfl (lv_room (Nat.le_of_ble_eq_true rfl)) dX8_watcher_28 ⟨Nat.le_of_ble_eq_true rfl, Nat.le_of_ble_eq_true rfl⟩) hS (fun q _ h => zp_F4 hD hS hA q h) (zp_F4 hD hS hA) (fun u t H locs ht hvm hw hB hz1 hk1 hS1 => zx_3 hB (fun v28na0_25 v28nfa0_23 v28nfa0_24 hB => zy_2 hB (fun bv28nfa0_23 bv28nfa0_24 hB => zo4 hB ht hP hD hk1 (zp_F4 hD hS hA) hS1 (fun hP hK1 hD hS => ?_))))
      refine lv_iload_n hx hb dX8_watcher_31 rfl (lv_at hl 2 rfl) ?_
      refine lv_iconst (v := 2) hx hb dX8_watcher_32 zk_iconst_2 ?_
      refine lv_icmp_ge (tgt := 52) hx hb dX8_watcher_33 (by decide) (fun c33 => ?_) (fun c33 => ?_)
      · have gc33 := ai_le c33
        have l33t_a2 : (2 : Int) ≤ a2.toInt := Int.le_trans zq12 gc33
        refine lv_aload_n hx hb dX8_watcher_52 rfl (lv_at hl 0 rfl) ?_
        refine lv_iload_n hx hb dX8_watcher_53 rfl (lv_at hl 1 rfl) ?_
        refine lv_aload_n hx hb dX8_watcher_54 rfl (lv_at hl 0 rfl) ?_
        refine va_get (D := (dC, dI)) (ci := 8) (v := .ref a0_17) (C := RX8) (T := TX8) (N := 40) hx hb hts zi_X8_watcher_8 hown hK hP 0 rfl rfl 17 (by decide) (hts (.fieldLink RX8 26 "WaxTurnsModel" "st" "[I") (zm_X8_watcher_r1 (List.mem_of_getElem? (i := 1) rfl))) (fun _ h9 => h9) rfl dX8_watcher_55 ?_
        refine lv_bipush (v := 21) hx hb dX8_watcher_58 zk_bipush_21 ?_
        refine va_iald hx hb hK hP 4 3 rfl rfl (by unfold vp_in; decide +kernel) dX8_watcher_60 ?_
        refine lv_topi (fun x60 ex60 => ?_)
        refine zc_cutc (wc := [(a0, .inr (8, [Value.int v1na0_0, a0g_1, a0g_2, a0g_3, a0g_4, a0g_5, a0g_6, a0g_7, a0g_8, a0g_9, a0g_10, Value.int v1na0_11, a0g_12, a0g_13, Value.int a0_14, Value.ref a0_15, a0g_16, Value.ref a0_17, a0g_18, a0g_19, a0g_20, a0g_21, a0g_22, Value.ref a0_23, Value.ref a0_24, Value.int v28na0_25, a0g_26, a0g_27, a0g_28, a0g_29, a0g_30, a0g_31, a0g_32, a0g_33, a0g_34, a0g_35, a0g_36, a0g_37, a0g_38, a0g_39])), (a0_24, .inl (ka0_24, 3, .inl (v28nfa0_24))), (a0_23, .inl (ka0_23, 3, .inl (v28nfa0_23)))]) hP hD hS hA [0, 3, 2] (by decide +kernel) rfl (fun hPc hDc hFc hCc => ?_)
        have hKc := hK.sub (tys' := [(ka0_24, .int), (ka0_23, .int)]) [2, 1] rfl
        refine va_calli (va_runV (As := [.int a1, .int x60]) (rest := []) ⟨hx, hb, hml, hown, hts⟩ (c_X8_watcherAt l dC dI H.size a0 a1 x60 (Value.int v1na0_0) a0g_1 a0g_2 a0g_3 a0g_4 a0g_5 a0g_6 a0g_7 a0g_8 a0g_9 a0g_10 (Value.int v1na0_11) a0g_12 a0g_13 (Value.int a0_14) (Value.ref a0_15) a0g_16 (Value.ref a0_17) a0g_18 a0g_19 a0g_20 a0g_21 a0g_22 (Value.int v28na0_25) a0g_26 a0g_27 a0g_28 a0g_29 a0g_30 a0g_31 a0g_32 a0g_33 a0g_34 a0g_35 a0g_36 a0g_37 a0g_38 a0g_39 a0_23 a0_24 ka0_24 v28nfa0_24 ka0_23 v28nfa0_23 l6k0_a1 u6k0_a1 bv28nfa0_24 bv28nfa0_23) (cwV 2 hts gX8_watcher_X8_watcherAt rfl rfl rfl zd_X8_watcherAt ⟨Nat.le_of_ble_eq_true rfl, Nat.le_of_ble_eq_true rfl⟩) ⟨ax_blind (fun _ _ _ _ _ => trivial), zr_8 hKc hPc (q0 := 0) rfl, ax_pre hPc hKc hDc (fun _ _ => trivial)⟩ rfl rfl hl.1 rfl (lv_room (Nat.le_of_ble_eq_true rfl)) dX8_watcher_61 ⟨Nat.le_of_ble_eq_true rfl, Nat.le_of_ble_eq_true rfl⟩) hS (fun q _ h => hFc q h) hFc (fun r61 u t H locs ht hvm hw hB hz1 hk1 hS => zo hB ht (fun hP1 hK1 hD1 => ?_))
        refine zc_backc (w := [(a0, .inr (8, [Value.int v1na0_0, a0g_1, a0g_2, a0g_3, a0g_4, a0g_5, a0g_6, a0g_7, a0g_8, a0g_9, a0g_10, Value.int v1na0_11, a0g_12, a0g_13, Value.int a0_14, Value.ref a0_15, a0g_16, Value.ref a0_17, a0g_18, a0g_19, a0g_20, a0g_21, a0g_22, Value.ref a0_23, Value.ref a0_24, Value.int v28na0_25, a0g_26, a0g_27, a0g_28, a0g_29, a0g_30, a0g_31, a0g_32, a0g_33, a0g_34, a0g_35, a0g_36, a0g_37, a0g_38, a0g_39])), (a0_15, .inl (ka0_15, 156, .inl (fa0_15))), (a0_23, .inl (ka0_23, 3, .inl (v28nfa0_23))), (a0_24, .inl (ka0_24, 3, .inl (v28nfa0_24))), (a0_17, .inl (ka0_17, 23, .inl (fa0_17)))]) hP hD hCc hk1 hFc hP1 hD1 [.inr 0, .inl 1, .inr 2, .inr 1, .inl 4] (by decide +kernel) rfl (fun hP hD => ?_)
        exact W.iret (v := r61) hx hb hr (fun t ht hW => ⟨⟨r61, (), rfl, trivial, v1na0_0, v1na0_11, v28na0_25, v28nfa0_23, v28nfa0_24, bv28nfa0_23, bv28nfa0_24, by rw [ht]; exact hP, va_K.moved hW.alike hK, hD⟩, hS.F ht⟩) hS.2.2 dX8_watcher_64
      · have gc33 := ai_nle c33
        have u33f_a2 : a2.toInt ≤ (1 : Int) := ai_lthi gc33 zq13
        refine lv_aload_n hx hb dX8_watcher_36 rfl (lv_at hl 0 rfl) ?_
        refine va_get (D := (dC, dI)) (ci := 8) (v := .ref a0_15) (C := RX8) (T := TX8) (N := 40) hx hb hts zi_X8_watcher_8 hown hK hP 0 rfl rfl 15 (by decide) (hts (.fieldLink RX8 20 "WaxTurnsModel" "\x72" "[I") (zm_X8_watcher_r1 (List.mem_of_getElem? (i := 0) rfl))) (fun _ h9 => h9) rfl dX8_watcher_37 ?_
        refine lv_bipush (v := 30) hx hb dX8_watcher_40 zk_bipush_30 ?_
        refine lv_iconst (v := 2) hx hb dX8_watcher_42 zk_iconst_2 ?_
        refine lv_iload_n hx hb dX8_watcher_43 rfl (lv_at hl 1 rfl) ?_
        refine lv_imul hx hb dX8_watcher_44 ?_
        refine lv_topi (fun x44 ex44 => ?_)
        have qx44 : x44.toInt = (2 : Int32).toInt * a1.toInt ∧ (0 : Int) ≤ x44.toInt ∧ x44.toInt ≤ 4 := ai_mul ex44 ⟨zq12, zq13⟩ ⟨l6k0_a1, u6k0_a1⟩ (by decide) (by decide) zq150
        have wx44 : x44.toInt = 2 * a1.toInt := qx44.1
        refine lv_iadd hx hb dX8_watcher_45 ?_
        refine lv_topi (fun x45 ex45 => ?_)
        have qx45 : x45.toInt = (30 : Int32).toInt + x44.toInt := ai_add ex45 ⟨zq151, zq152⟩ ⟨qx44.2.1, qx44.2.2⟩ (by decide) (by decide)
        have bx45 : (30 : Int) ≤ x45.toInt ∧ x45.toInt ≤ 34 := ⟨by rw [qx45]; exact Int.add_le_add zq151 qx44.2.1, by rw [qx45]; exact Int.add_le_add zq152 qx44.2.2⟩
        have wx45 : x45.toInt = 30 + x44.toInt := qx45
        refine lv_iload_n hx hb dX8_watcher_46 rfl (lv_at hl 2 rfl) ?_
        refine lv_iadd hx hb dX8_watcher_47 ?_
        refine lv_topi (fun x47 ex47 => ?_)
        have qx47 : x47.toInt = x45.toInt + a2.toInt := ai_add ex47 ⟨bx45.1, bx45.2⟩ ⟨l15k0_a2, u33f_a2⟩ (by decide) (by decide)
        have bx47 : (30 : Int) ≤ x47.toInt ∧ x47.toInt ≤ 35 := ⟨by rw [qx47]; exact Int.add_le_add bx45.1 l15k0_a2, by rw [qx47]; exact Int.add_le_add bx45.2 u33f_a2⟩
        refine va_iald hx hb hK hP 1 0 rfl rfl (ai_in bx47.1 bx47.2 (by decide) (by decide)) dX8_watcher_48 ?_
        refine lv_topi (fun x48 ex48 => ?_)
        have bx48 : (0 : Int) ≤ x48.toInt ∧ x48.toInt ≤ 8 := by rw [ex48]; exact ai_rd bfa0_15.2.2.2.2.2.2.2.2.2.1 bx47.1 bx47.2 (by decide) (by decide) (by decide)
        refine lv_goto (tgt := 64) hx hb dX8_watcher_49 (by decide) ?_
        exact W.iret (v := x48) hx hb hr (fun t ht hW => ⟨⟨x48, (), rfl, trivial, v1na0_0, v1na0_11, v28na0_25, v28nfa0_23, v28nfa0_24, bv28nfa0_23, bv28nfa0_24, by rw [ht]; exact hP, va_K.moved hW.alike hK, hD⟩, hS.F ht⟩) hS.2.2 dX8_watcher_64
    · obtain ⟨hw, h15⟩ := hw
      subst hw
      refine lv_if_ne (tgt := 27) hx hb dX8_watcher_18 (by decide) (fun c18 => absurd (by decide +kernel) c18) (fun _ => ?_)
      refine lv_aload_n hx hb dX8_watcher_21 rfl (lv_at hl 0 rfl) ?_
      refine lv_iconst (v := 1) hx hb dX8_watcher_22 zk_iconst_1 ?_
      refine va_calli (va_runV (As := [.int 1]) (rest := []) ⟨hx, hb, hml, hown, hts⟩ (c_X8_no l dC dI H.size a0 1 (Value.int v1na0_0) a0g_1 a0g_2 a0g_3 a0g_4 a0g_5 a0g_6 a0g_7 a0g_8 a0g_9 a0g_10 a0g_12 a0g_13 (Value.int a0_14) (Value.ref a0_15) a0g_16 (Value.ref a0_17) a0g_18 a0g_19 a0g_20 a0g_21 a0g_22 (Value.ref a0_23) (Value.ref a0_24) (Value.int a0_25) a0g_26 a0g_27 a0g_28 a0g_29 a0g_30 a0g_31 a0g_32 a0g_33 a0g_34 a0g_35 a0g_36 a0g_37 a0g_38 a0g_39 v1na0_11 ) (cwV 1 hts gX8_watcher_X8_no rfl rfl rfl zd_X8_no ⟨Nat.le_of_ble_eq_true rfl, Nat.le_of_ble_eq_true rfl⟩) ⟨ax_blind (fun _ _ _ _ _ => trivial), zr_8 (zp_K hK) (zp_P1 hP) (q0 := 0) rfl, ax_pre (zp_P1 hP) (zp_K hK) (zp_D1 hD) (fun _ _ => trivial)⟩ rfl rfl hl.1 rfl (lv_room (Nat.le_of_ble_eq_true rfl)) dX8_watcher_23 ⟨Nat.le_of_ble_eq_true rfl, Nat.le_of_ble_eq_true rfl⟩) hS (fun q _ h => zp_F1 hD hS hA q h) (zp_F1 hD hS hA) (fun r23 u t H locs ht hvm hw hB hz1 hk1 hS1 => zx_1 hB (fun v23na0_11 hB => zo1 hB ht hP hD hk1 (zp_F1 hD hS hA) hS1 (fun hP hK1 hD hS => ?_)))
      have hw : r23 = (-1) := hw
      have hw := hw.symm
      subst hw
      exact W.iret (v := (-1)) hx hb hr (fun t ht hW => ⟨⟨(-1), (), rfl, trivial, v1na0_0, v23na0_11, a0_25, fa0_23, fa0_24, bfa0_23, bfa0_24, by rw [ht]; exact hP, va_K.moved hW.alike hK, hD⟩, hS.F ht⟩) hS.2.2 dX8_watcher_26
  · subst hw
    refine lv_if_eq (tgt := 21) hx hb dX8_watcher_9 (by decide) (fun _ => ?_) (fun c9 => absurd (by decide +kernel) c9)
    refine lv_aload_n hx hb dX8_watcher_21 rfl (lv_at hl 0 rfl) ?_
    refine lv_iconst (v := 1) hx hb dX8_watcher_22 zk_iconst_1 ?_
    refine va_calli (va_runV (As := [.int 1]) (rest := []) ⟨hx, hb, hml, hown, hts⟩ (c_X8_no l dC dI H.size a0 1 (Value.int v1na0_0) a0g_1 a0g_2 a0g_3 a0g_4 a0g_5 a0g_6 a0g_7 a0g_8 a0g_9 a0g_10 a0g_12 a0g_13 (Value.int a0_14) (Value.ref a0_15) a0g_16 (Value.ref a0_17) a0g_18 a0g_19 a0g_20 a0g_21 a0g_22 (Value.ref a0_23) (Value.ref a0_24) (Value.int a0_25) a0g_26 a0g_27 a0g_28 a0g_29 a0g_30 a0g_31 a0g_32 a0g_33 a0g_34 a0g_35 a0g_36 a0g_37 a0g_38 a0g_39 v1na0_11 ) (cwV 1 hts gX8_watcher_X8_no rfl rfl rfl zd_X8_no ⟨Nat.le_of_ble_eq_true rfl, Nat.le_of_ble_eq_true rfl⟩) ⟨ax_blind (fun _ _ _ _ _ => trivial), zr_8 (zp_K hK) (zp_P1 hP) (q0 := 0) rfl, ax_pre (zp_P1 hP) (zp_K hK) (zp_D1 hD) (fun _ _ => trivial)⟩ rfl rfl hl.1 rfl (lv_room (Nat.le_of_ble_eq_true rfl)) dX8_watcher_23 ⟨Nat.le_of_ble_eq_true rfl, Nat.le_of_ble_eq_true rfl⟩) hS (fun q _ h => zp_F1 hD hS hA q h) (zp_F1 hD hS hA) (fun r23 u t H locs ht hvm hw hB hz1 hk1 hS1 => zx_1 hB (fun v23na0_11 hB => zo1 hB ht hP hD hk1 (zp_F1 hD hS hA) hS1 (fun hP hK1 hD hS => ?_)))
    have hw : r23 = (-1) := hw
    have hw := hw.symm
    subst hw
    exact W.iret (v := (-1)) hx hb hr (fun t ht hW => ⟨⟨(-1), (), rfl, trivial, v1na0_0, v23na0_11, a0_25, fa0_23, fa0_24, bfa0_23, bfa0_24, by rw [ht]; exact hP, va_K.moved hW.alike hK, hD⟩, hS.F ht⟩) hS.2.2 dX8_watcher_26

set_option maxHeartbeats 4000000 in
set_option maxRecDepth 100000 in
theorem c_X8_alive (l : Launch) (dC : Nat → ClassId) (dI : Nat → Nat → Nat) (sz : Nat) (a0 : Nat) (a0_0 : Int32) (a0g_1 a0g_2 a0g_3 a0g_4 a0g_5 a0g_6 a0g_7 a0g_8 a0g_9 a0g_10 a0g_12 a0g_13 a0g_15 a0g_16 a0g_18 a0g_19 a0g_20 a0g_21 a0g_22 a0g_23 a0g_24 a0g_25 a0g_26 a0g_27 a0g_28 a0g_29 a0g_30 a0g_31 a0g_32 a0g_33 a0g_34 a0g_35 a0g_36 a0g_37 a0g_38 a0g_39 : Value) (a0_11 : Int32) (a0_14 : Int32) (a0_17 : Nat) (ka0_17 : ClassId) (fa0_17 : Nat → Int32) (ba0_14_l : (1 : Int) ≤ a0_14.toInt) (ba0_14_u : a0_14.toInt ≤ (1 : Int)) (bfa0_17 : ((∀ k : Nat, 0 ≤ k → k ≤ 8 → (0 : Int) ≤ (fa0_17 k).toInt ∧ (fa0_17 k).toInt ≤ 8) ∧ (∀ k : Nat, 19 ≤ k → k ≤ 19 → (0 : Int) ≤ (fa0_17 k).toInt ∧ (fa0_17 k).toInt ≤ 8) ∧ (∀ k : Nat, 20 ≤ k → k ≤ 20 → (0 : Int) ≤ (fa0_17 k).toInt ∧ (fa0_17 k).toInt ≤ 19))) : zm l yX8_alive wsX8_alive ({ frames := 1, cells := 0, slots := 0, locals := 20 }) [.ref a0] dC dI sz [(a0, .inr (8, [Value.int a0_0, a0g_1, a0g_2, a0g_3, a0g_4, a0g_5, a0g_6, a0g_7, a0g_8, a0g_9, a0g_10, Value.int a0_11, a0g_12, a0g_13, Value.int a0_14, a0g_15, a0g_16, Value.ref a0_17, a0g_18, a0g_19, a0g_20, a0g_21, a0g_22, a0g_23, a0g_24, a0g_25, a0g_26, a0g_27, a0g_28, a0g_29, a0g_30, a0g_31, a0g_32, a0g_33, a0g_34, a0g_35, a0g_36, a0g_37, a0g_38, a0g_39])), (a0_17, .inl (ka0_17, 23, .inl (fa0_17)))] [(ka0_17, .int)] (fun A _ => True) (fun A => va_Qi (fun (r : Int32) (_ : Unit) => (0 : Int) ≤ r.toInt ∧ r.toInt ≤ (8 : Int)) (fun (_ : Unit) (t : State) => ∃ na0_0 : Int32, ∃ na0_11 : Int32, ax_B dC dI A [(a0, .inr (8, [Value.int na0_0, a0g_1, a0g_2, a0g_3, a0g_4, a0g_5, a0g_6, a0g_7, a0g_8, a0g_9, a0g_10, Value.int na0_11, a0g_12, a0g_13, Value.int a0_14, a0g_15, a0g_16, Value.ref a0_17, a0g_18, a0g_19, a0g_20, a0g_21, a0g_22, a0g_23, a0g_24, a0g_25, a0g_26, a0g_27, a0g_28, a0g_29, a0g_30, a0g_31, a0g_32, a0g_33, a0g_34, a0g_35, a0g_36, a0g_37, a0g_38, a0g_39])), (a0_17, .inl (ka0_17, 23, .inl (fa0_17)))] [(ka0_17, .int)] t) A) := by
  refine zh (cc := cX8_alive) (maxL := 1) (ret := (some .int)) zn_RX8 rfl (Nat.le_of_ble_eq_true rfl) (fun p e s m below meth c A ls hx hb hml hr hts (hown : s.vm.findClass RX8 = some m.cls) hlocks hA hS hP hK hD hE (hl : lv_has ls 1 [(0, .ref a0)]) => ?_)
  refine lv_aload_n hx hb dX8_alive_0 rfl (lv_at hl 0 rfl) ?_
  refine va_callv (va_runV (As := []) (rest := []) ⟨hx, hb, hml, hown, hts⟩ (c_X8_good l dC dI s.heap.size a0 a0_0 a0g_1 a0g_2 a0g_3 a0g_4 a0g_5 a0g_6 a0g_7 a0g_8 a0g_9 a0g_10 a0g_12 a0g_13 (Value.int a0_14) a0g_15 a0g_16 (Value.ref a0_17) a0g_18 a0g_19 a0g_20 a0g_21 a0g_22 a0g_23 a0g_24 a0g_25 a0g_26 a0g_27 a0g_28 a0g_29 a0g_30 a0g_31 a0g_32 a0g_33 a0g_34 a0g_35 a0g_36 a0g_37 a0g_38 a0g_39 a0_11 ) (cwV 0 hts gX8_alive_X8_good rfl rfl rfl zd_X8_good ⟨Nat.le_of_ble_eq_true rfl, Nat.le_of_ble_eq_true rfl⟩) ⟨ax_blind (fun _ _ _ _ _ => trivial), zr_8 (zp_K hK) (zp_P1 hP) (q0 := 0) rfl, ax_pre (zp_P1 hP) (zp_K hK) (zp_D1 hD) (fun _ _ => trivial)⟩ rfl rfl hl.1 rfl (lv_room (Nat.le_of_ble_eq_true rfl)) dX8_alive_1 ⟨Nat.le_of_ble_eq_true rfl, Nat.le_of_ble_eq_true rfl⟩) hS (fun q _ h => zp_F1 hD hS hA q h) (zp_F1 hD hS hA) (fun u t H locs ht hvm hw hB hz1 hk1 hS1 => zx_2 hB (fun v1na0_0 v1na0_11 hB => zo1 hB ht hP hD hk1 (zp_F1 hD hS hA) hS1 (fun hP hK1 hD hS => ?_)))
  refine lv_aload_n hx hb dX8_alive_4 rfl (lv_at hl 0 rfl) ?_
  refine va_get (D := (dC, dI)) (ci := 8) (v := .int a0_14) (C := RX8) (T := TX8) (N := 40) hx hb hts zi_X8_alive_8 hown hK hP 0 rfl rfl 14 (by decide) (hts (.fieldLink RX8 173 "WaxTurnsModel" "hasGallery" "Z") (List.mem_cons_of_mem _ (List.mem_append_left _ (List.mem_of_getElem? (i := 0) rfl)))) (fun _ h9 => h9) rfl dX8_alive_5 ?_
  refine lv_if_eq (tgt := 21) hx hb dX8_alive_8 (by decide) (fun c8 => ?_) (fun c8 => ?_)
  · have gc8 := ai_eq c8
    have u8t_a0_14 : a0_14.toInt ≤ (0 : Int) := Int.le_trans (Int.le_of_eq gc8) zq6
    have l8t_a0_14 : (1 : Int) ≤ a0_14.toInt := ba0_14_l
    exact absurd (Int.le_trans l8t_a0_14 u8t_a0_14) (by decide)
  · have gc8 := ai_ne c8
    refine lv_aload_n hx hb dX8_alive_11 rfl (lv_at hl 0 rfl) ?_
    refine va_get (D := (dC, dI)) (ci := 8) (v := .ref a0_17) (C := RX8) (T := TX8) (N := 40) hx hb hts zi_X8_alive_8 hown hK hP 0 rfl rfl 17 (by decide) (hts (.fieldLink RX8 26 "WaxTurnsModel" "st" "[I") (List.mem_cons_of_mem _ (List.mem_append_left _ (List.mem_of_getElem? (i := 1) rfl)))) (fun _ h9 => h9) rfl dX8_alive_12 ?_
    refine lv_bipush (v := 19) hx hb dX8_alive_15 zk_bipush_19 ?_
    refine va_iald hx hb hK hP 1 0 rfl rfl (by unfold vp_in; decide +kernel) dX8_alive_17 ?_
    refine lv_topi (fun x17 ex17 => ?_)
    have bx17 : (0 : Int) ≤ x17.toInt ∧ x17.toInt ≤ 8 := by rw [ex17]; exact ai_rd bfa0_17.2.1 zq160 zq161 (by decide) (by decide) (by decide)
    refine lv_goto (tgt := 26) hx hb dX8_alive_18 (by decide) ?_
    exact W.iret (v := x17) hx hb hr (fun t ht hW => ⟨⟨x17, (), rfl, ⟨bx17.1, bx17.2⟩, v1na0_0, v1na0_11, by rw [ht]; exact hP, va_K.moved hW.alike hK, hD⟩, hS.F ht⟩) hS.2.2 dX8_alive_26

set_option maxHeartbeats 4000000 in
set_option maxRecDepth 100000 in
theorem c_X8_left (l : Launch) (dC : Nat → ClassId) (dI : Nat → Nat → Nat) (sz : Nat) (a0 : Nat) (a0_0 : Int32) (a0g_1 a0g_2 a0g_3 a0g_4 a0g_5 a0g_6 a0g_7 a0g_8 a0g_9 a0g_10 a0g_12 a0g_13 a0g_16 a0g_18 a0g_19 a0g_20 a0g_21 a0g_22 a0g_23 a0g_24 a0g_25 a0g_26 a0g_27 a0g_28 a0g_29 a0g_30 a0g_31 a0g_32 a0g_33 a0g_34 a0g_35 a0g_36 a0g_37 a0g_38 a0g_39 : Value) (a0_11 : Int32) (a0_14 : Int32) (a0_15 : Nat) (a0_17 : Nat) (ka0_15 : ClassId) (fa0_15 : Nat → Int32) (ka0_17 : ClassId) (fa0_17 : Nat → Int32) (ba0_14_l : (1 : Int) ≤ a0_14.toInt) (ba0_14_u : a0_14.toInt ≤ (1 : Int)) (bfa0_15 : ((∀ k : Nat, 0 ≤ k → k ≤ 0 → (2 : Int) ≤ (fa0_15 k).toInt ∧ (fa0_15 k).toInt ≤ 9) ∧ (∀ k : Nat, 1 ≤ k → k ≤ 1 → (1 : Int) ≤ (fa0_15 k).toInt ∧ (fa0_15 k).toInt ≤ 20) ∧ (∀ k : Nat, 2 ≤ k → k ≤ 2 → (0 : Int) ≤ (fa0_15 k).toInt ∧ (fa0_15 k).toInt ≤ 8) ∧ (∀ k : Nat, 3 ≤ k → k ≤ 3 → (0 : Int) ≤ (fa0_15 k).toInt ∧ (fa0_15 k).toInt ≤ 100) ∧ (∀ k : Nat, 4 ≤ k → k ≤ 4 → (0 : Int) ≤ (fa0_15 k).toInt ∧ (fa0_15 k).toInt ≤ 9) ∧ (∀ k : Nat, 5 ≤ k → k ≤ 5 → (0 : Int) ≤ (fa0_15 k).toInt ∧ (fa0_15 k).toInt ≤ 3) ∧ (∀ k : Nat, 6 ≤ k → k ≤ 6 → (0 : Int) ≤ (fa0_15 k).toInt ∧ (fa0_15 k).toInt ≤ 6) ∧ (∀ k : Nat, 7 ≤ k → k ≤ 9 → (0 : Int) ≤ (fa0_15 k).toInt ∧ (fa0_15 k).toInt ≤ 8) ∧ (∀ k : Nat, 12 ≤ k → k ≤ 29 → (0 : Int) ≤ (fa0_15 k).toInt ∧ (fa0_15 k).toInt ≤ 20) ∧ (∀ k : Nat, 30 ≤ k → k ≤ 35 → (0 : Int) ≤ (fa0_15 k).toInt ∧ (fa0_15 k).toInt ≤ 8) ∧ (∀ k : Nat, 36 ≤ k → k ≤ 47 → (0 : Int) ≤ (fa0_15 k).toInt ∧ (fa0_15 k).toInt ≤ 999))) (bfa0_17 : ((∀ k : Nat, 0 ≤ k → k ≤ 8 → (0 : Int) ≤ (fa0_17 k).toInt ∧ (fa0_17 k).toInt ≤ 8) ∧ (∀ k : Nat, 19 ≤ k → k ≤ 19 → (0 : Int) ≤ (fa0_17 k).toInt ∧ (fa0_17 k).toInt ≤ 8) ∧ (∀ k : Nat, 20 ≤ k → k ≤ 20 → (0 : Int) ≤ (fa0_17 k).toInt ∧ (fa0_17 k).toInt ≤ 19))) : zm l yX8_left wsX8_left ({ frames := 1, cells := 0, slots := 0, locals := 20 }) [.ref a0] dC dI sz [(a0, .inr (8, [Value.int a0_0, a0g_1, a0g_2, a0g_3, a0g_4, a0g_5, a0g_6, a0g_7, a0g_8, a0g_9, a0g_10, Value.int a0_11, a0g_12, a0g_13, Value.int a0_14, Value.ref a0_15, a0g_16, Value.ref a0_17, a0g_18, a0g_19, a0g_20, a0g_21, a0g_22, a0g_23, a0g_24, a0g_25, a0g_26, a0g_27, a0g_28, a0g_29, a0g_30, a0g_31, a0g_32, a0g_33, a0g_34, a0g_35, a0g_36, a0g_37, a0g_38, a0g_39])), (a0_15, .inl (ka0_15, 156, .inl (fa0_15))), (a0_17, .inl (ka0_17, 23, .inl (fa0_17)))] [(ka0_15, .int), (ka0_17, .int)] (fun A _ => True) (fun A => va_Qi (fun (r : Int32) (_ : Unit) => (-18 : Int) ≤ r.toInt ∧ r.toInt ≤ (20 : Int)) (fun (_ : Unit) (t : State) => ∃ na0_0 : Int32, ∃ na0_11 : Int32, ax_B dC dI A [(a0, .inr (8, [Value.int na0_0, a0g_1, a0g_2, a0g_3, a0g_4, a0g_5, a0g_6, a0g_7, a0g_8, a0g_9, a0g_10, Value.int na0_11, a0g_12, a0g_13, Value.int a0_14, Value.ref a0_15, a0g_16, Value.ref a0_17, a0g_18, a0g_19, a0g_20, a0g_21, a0g_22, a0g_23, a0g_24, a0g_25, a0g_26, a0g_27, a0g_28, a0g_29, a0g_30, a0g_31, a0g_32, a0g_33, a0g_34, a0g_35, a0g_36, a0g_37, a0g_38, a0g_39])), (a0_15, .inl (ka0_15, 156, .inl (fa0_15))), (a0_17, .inl (ka0_17, 23, .inl (fa0_17)))] [(ka0_15, .int), (ka0_17, .int)] t) A) := by
  refine zh (cc := cX8_left) (maxL := 1) (ret := (some .int)) zn_RX8 rfl (Nat.le_of_ble_eq_true rfl) (fun p e s m below meth c A ls hx hb hml hr hts (hown : s.vm.findClass RX8 = some m.cls) hlocks hA hS hP hK hD hE (hl : lv_has ls 1 [(0, .ref a0)]) => ?_)
  refine lv_aload_n hx hb dX8_left_0 rfl (lv_at hl 0 rfl) ?_
  refine va_callv (va_runV (As := []) (rest := []) ⟨hx, hb, hml, hown, hts⟩ (c_X8_good l dC dI s.heap.size a0 a0_0 a0g_1 a0g_2 a0g_3 a0g_4 a0g_5 a0g_6 a0g_7 a0g_8 a0g_9 a0g_10 a0g_12 a0g_13 (Value.int a0_14) (Value.ref a0_15) a0g_16 (Value.ref a0_17) a0g_18 a0g_19 a0g_20 a0g_21 a0g_22 a0g_23 a0g_24 a0g_25 a0g_26 a0g_27 a0g_28 a0g_29 a0g_30 a0g_31 a0g_32 a0g_33 a0g_34 a0g_35 a0g_36 a0g_37 a0g_38 a0g_39 a0_11 ) (cwV 0 hts gX8_left_X8_good rfl rfl rfl zd_X8_good ⟨Nat.le_of_ble_eq_true rfl, Nat.le_of_ble_eq_true rfl⟩) ⟨ax_blind (fun _ _ _ _ _ => trivial), zr_8 (zp_K hK) (zp_P1 hP) (q0 := 0) rfl, ax_pre (zp_P1 hP) (zp_K hK) (zp_D1 hD) (fun _ _ => trivial)⟩ rfl rfl hl.1 rfl (lv_room (Nat.le_of_ble_eq_true rfl)) dX8_left_1 ⟨Nat.le_of_ble_eq_true rfl, Nat.le_of_ble_eq_true rfl⟩) hS (fun q _ h => zp_F1 hD hS hA q h) (zp_F1 hD hS hA) (fun u t H locs ht hvm hw hB hz1 hk1 hS1 => zx_2 hB (fun v1na0_0 v1na0_11 hB => zo1 hB ht hP hD hk1 (zp_F1 hD hS hA) hS1 (fun hP hK1 hD hS => ?_)))
  refine lv_aload_n hx hb dX8_left_4 rfl (lv_at hl 0 rfl) ?_
  refine va_get (D := (dC, dI)) (ci := 8) (v := .int a0_14) (C := RX8) (T := TX8) (N := 40) hx hb hts zi_X8_left_8 hown hK hP 0 rfl rfl 14 (by decide) (hts (.fieldLink RX8 173 "WaxTurnsModel" "hasGallery" "Z") (List.mem_cons_of_mem _ (List.mem_append_left _ (List.mem_of_getElem? (i := 0) rfl)))) (fun _ h9 => h9) rfl dX8_left_5 ?_
  refine lv_if_eq (tgt := 28) hx hb dX8_left_8 (by decide) (fun c8 => ?_) (fun c8 => ?_)
  · have gc8 := ai_eq c8
    have u8t_a0_14 : a0_14.toInt ≤ (0 : Int) := Int.le_trans (Int.le_of_eq gc8) zq6
    have l8t_a0_14 : (1 : Int) ≤ a0_14.toInt := ba0_14_l
    exact absurd (Int.le_trans l8t_a0_14 u8t_a0_14) (by decide)
  · have gc8 := ai_ne c8
    refine lv_aload_n hx hb dX8_left_11 rfl (lv_at hl 0 rfl) ?_
    refine va_get (D := (dC, dI)) (ci := 8) (v := .ref a0_15) (C := RX8) (T := TX8) (N := 40) hx hb hts zi_X8_left_8 hown hK hP 0 rfl rfl 15 (by decide) (hts (.fieldLink RX8 20 "WaxTurnsModel" "\x72" "[I") (List.mem_cons_of_mem _ (List.mem_append_left _ (List.mem_of_getElem? (i := 1) rfl)))) (fun _ h9 => h9) rfl dX8_left_12 ?_
    refine lv_iconst (v := 1) hx hb dX8_left_15 zk_iconst_1 ?_
    refine va_iald hx hb hK hP 1 0 rfl rfl (by unfold vp_in; decide +kernel) dX8_left_16 ?_
    refine lv_topi (fun x16 ex16 => ?_)
    have bx16 : (1 : Int) ≤ x16.toInt ∧ x16.toInt ≤ 20 := by rw [ex16]; exact ai_rd bfa0_15.2.1 zq1 zq0 (by decide) (by decide) (by decide)
    refine lv_aload_n hx hb dX8_left_17 rfl (lv_at hl 0 rfl) ?_
    refine va_get (D := (dC, dI)) (ci := 8) (v := .ref a0_17) (C := RX8) (T := TX8) (N := 40) hx hb hts zi_X8_left_8 hown hK hP 0 rfl rfl 17 (by decide) (hts (.fieldLink RX8 26 "WaxTurnsModel" "st" "[I") (List.mem_cons_of_mem _ (List.mem_append_left _ (List.mem_of_getElem? (i := 2) rfl)))) (fun _ h9 => h9) rfl dX8_left_18 ?_
    refine lv_bipush (v := 20) hx hb dX8_left_21 zk_bipush_20 ?_
    refine va_iald hx hb hK hP 2 1 rfl rfl (by unfold vp_in; decide +kernel) dX8_left_23 ?_
    refine lv_topi (fun x23 ex23 => ?_)
    have bx23 : (0 : Int) ≤ x23.toInt ∧ x23.toInt ≤ 19 := by rw [ex23]; exact ai_rd bfa0_17.2.2 zq153 zq154 (by decide) (by decide) (by decide)
    refine lv_isub hx hb dX8_left_24 ?_
    refine lv_topi (fun x24 ex24 => ?_)
    have qx24 : x24.toInt = x16.toInt - x23.toInt := ai_sub ex24 ⟨bx16.1, bx16.2⟩ ⟨bx23.1, bx23.2⟩ (by decide) (by decide)
    have bx24 : (-18 : Int) ≤ x24.toInt ∧ x24.toInt ≤ 20 := ⟨by rw [qx24]; exact Int.sub_le_sub bx16.1 bx23.2, by rw [qx24]; exact Int.sub_le_sub bx16.2 bx23.1⟩
    refine lv_goto (tgt := 33) hx hb dX8_left_25 (by decide) ?_
    exact W.iret (v := x24) hx hb hr (fun t ht hW => ⟨⟨x24, (), rfl, ⟨bx24.1, bx24.2⟩, v1na0_0, v1na0_11, by rw [ht]; exact hP, va_K.moved hW.alike hK, hD⟩, hS.F ht⟩) hS.2.2 dX8_left_33

set_option maxHeartbeats 4000000 in
set_option maxRecDepth 100000 in
theorem c_X8_caught (l : Launch) (dC : Nat → ClassId) (dI : Nat → Nat → Nat) (sz : Nat) (a0 : Nat) (a0_0 : Int32) (a0g_1 a0g_2 a0g_3 a0g_4 a0g_5 a0g_6 a0g_7 a0g_8 a0g_9 a0g_10 a0g_12 a0g_13 a0g_15 a0g_16 a0g_18 a0g_19 a0g_20 a0g_21 a0g_22 a0g_23 a0g_24 a0g_25 a0g_26 a0g_27 a0g_28 a0g_29 a0g_30 a0g_31 a0g_32 a0g_33 a0g_34 a0g_35 a0g_36 a0g_37 a0g_38 a0g_39 : Value) (a0_11 : Int32) (a0_14 : Int32) (a0_17 : Nat) (ka0_17 : ClassId) (fa0_17 : Nat → Int32) (ba0_14_l : (1 : Int) ≤ a0_14.toInt) (ba0_14_u : a0_14.toInt ≤ (1 : Int)) (bfa0_17 : ((∀ k : Nat, 0 ≤ k → k ≤ 8 → (0 : Int) ≤ (fa0_17 k).toInt ∧ (fa0_17 k).toInt ≤ 8) ∧ (∀ k : Nat, 19 ≤ k → k ≤ 19 → (0 : Int) ≤ (fa0_17 k).toInt ∧ (fa0_17 k).toInt ≤ 8) ∧ (∀ k : Nat, 20 ≤ k → k ≤ 20 → (0 : Int) ≤ (fa0_17 k).toInt ∧ (fa0_17 k).toInt ≤ 19))) : zm l yX8_caught wsX8_caught ({ frames := 1, cells := 0, slots := 0, locals := 20 }) [.ref a0] dC dI sz [(a0, .inr (8, [Value.int a0_0, a0g_1, a0g_2, a0g_3, a0g_4, a0g_5, a0g_6, a0g_7, a0g_8, a0g_9, a0g_10, Value.int a0_11, a0g_12, a0g_13, Value.int a0_14, a0g_15, a0g_16, Value.ref a0_17, a0g_18, a0g_19, a0g_20, a0g_21, a0g_22, a0g_23, a0g_24, a0g_25, a0g_26, a0g_27, a0g_28, a0g_29, a0g_30, a0g_31, a0g_32, a0g_33, a0g_34, a0g_35, a0g_36, a0g_37, a0g_38, a0g_39])), (a0_17, .inl (ka0_17, 23, .inl (fa0_17)))] [(ka0_17, .int)] (fun A _ => True) (fun A => va_Qi (fun (r : Int32) (_ : Unit) => True) (fun (_ : Unit) (t : State) => ∃ na0_0 : Int32, ∃ na0_11 : Int32, ax_B dC dI A [(a0, .inr (8, [Value.int na0_0, a0g_1, a0g_2, a0g_3, a0g_4, a0g_5, a0g_6, a0g_7, a0g_8, a0g_9, a0g_10, Value.int na0_11, a0g_12, a0g_13, Value.int a0_14, a0g_15, a0g_16, Value.ref a0_17, a0g_18, a0g_19, a0g_20, a0g_21, a0g_22, a0g_23, a0g_24, a0g_25, a0g_26, a0g_27, a0g_28, a0g_29, a0g_30, a0g_31, a0g_32, a0g_33, a0g_34, a0g_35, a0g_36, a0g_37, a0g_38, a0g_39])), (a0_17, .inl (ka0_17, 23, .inl (fa0_17)))] [(ka0_17, .int)] t) A) := by
  refine zh (cc := cX8_caught) (maxL := 1) (ret := (some .int)) zn_RX8 rfl (Nat.le_of_ble_eq_true rfl) (fun p e s m below meth c A ls hx hb hml hr hts (hown : s.vm.findClass RX8 = some m.cls) hlocks hA hS hP hK hD hE (hl : lv_has ls 1 [(0, .ref a0)]) => ?_)
  refine lv_aload_n hx hb dX8_caught_0 rfl (lv_at hl 0 rfl) ?_
  refine va_callv (va_runV (As := []) (rest := []) ⟨hx, hb, hml, hown, hts⟩ (c_X8_good l dC dI s.heap.size a0 a0_0 a0g_1 a0g_2 a0g_3 a0g_4 a0g_5 a0g_6 a0g_7 a0g_8 a0g_9 a0g_10 a0g_12 a0g_13 (Value.int a0_14) a0g_15 a0g_16 (Value.ref a0_17) a0g_18 a0g_19 a0g_20 a0g_21 a0g_22 a0g_23 a0g_24 a0g_25 a0g_26 a0g_27 a0g_28 a0g_29 a0g_30 a0g_31 a0g_32 a0g_33 a0g_34 a0g_35 a0g_36 a0g_37 a0g_38 a0g_39 a0_11 ) (cwV 0 hts gX8_caught_X8_good rfl rfl rfl zd_X8_good ⟨Nat.le_of_ble_eq_true rfl, Nat.le_of_ble_eq_true rfl⟩) ⟨ax_blind (fun _ _ _ _ _ => trivial), zr_8 (zp_K hK) (zp_P1 hP) (q0 := 0) rfl, ax_pre (zp_P1 hP) (zp_K hK) (zp_D1 hD) (fun _ _ => trivial)⟩ rfl rfl hl.1 rfl (lv_room (Nat.le_of_ble_eq_true rfl)) dX8_caught_1 ⟨Nat.le_of_ble_eq_true rfl, Nat.le_of_ble_eq_true rfl⟩) hS (fun q _ h => zp_F1 hD hS hA q h) (zp_F1 hD hS hA) (fun u t H locs ht hvm hw hB hz1 hk1 hS1 => zx_2 hB (fun v1na0_0 v1na0_11 hB => zo1 hB ht hP hD hk1 (zp_F1 hD hS hA) hS1 (fun hP hK1 hD hS => ?_)))
  refine lv_aload_n hx hb dX8_caught_4 rfl (lv_at hl 0 rfl) ?_
  refine va_get (D := (dC, dI)) (ci := 8) (v := .int a0_14) (C := RX8) (T := TX8) (N := 40) hx hb hts zi_X8_caught_8 hown hK hP 0 rfl rfl 14 (by decide) (hts (.fieldLink RX8 173 "WaxTurnsModel" "hasGallery" "Z") (List.mem_cons_of_mem _ (List.mem_append_left _ (List.mem_of_getElem? (i := 0) rfl)))) (fun _ h9 => h9) rfl dX8_caught_5 ?_
  refine lv_if_eq (tgt := 21) hx hb dX8_caught_8 (by decide) (fun c8 => ?_) (fun c8 => ?_)
  · have gc8 := ai_eq c8
    have u8t_a0_14 : a0_14.toInt ≤ (0 : Int) := Int.le_trans (Int.le_of_eq gc8) zq6
    have l8t_a0_14 : (1 : Int) ≤ a0_14.toInt := ba0_14_l
    exact absurd (Int.le_trans l8t_a0_14 u8t_a0_14) (by decide)
  · have gc8 := ai_ne c8
    refine lv_aload_n hx hb dX8_caught_11 rfl (lv_at hl 0 rfl) ?_
    refine va_get (D := (dC, dI)) (ci := 8) (v := .ref a0_17) (C := RX8) (T := TX8) (N := 40) hx hb hts zi_X8_caught_8 hown hK hP 0 rfl rfl 17 (by decide) (hts (.fieldLink RX8 26 "WaxTurnsModel" "st" "[I") (List.mem_cons_of_mem _ (List.mem_append_left _ (List.mem_of_getElem? (i := 1) rfl)))) (fun _ h9 => h9) rfl dX8_caught_12 ?_
    refine lv_bipush (v := 22) hx hb dX8_caught_15 zk_bipush_22 ?_
    refine va_iald hx hb hK hP 1 0 rfl rfl (by unfold vp_in; decide +kernel) dX8_caught_17 ?_
    refine lv_topi (fun x17 ex17 => ?_)
    refine lv_goto (tgt := 26) hx hb dX8_caught_18 (by decide) ?_
    exact W.iret (v := x17) hx hb hr (fun t ht hW => ⟨⟨x17, (), rfl, trivial, v1na0_0, v1na0_11, by rw [ht]; exact hP, va_K.moved hW.alike hK, hD⟩, hS.F ht⟩) hS.2.2 dX8_caught_26
end P240_00_safe
