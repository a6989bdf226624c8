/-- what a throw of NoSuchElementException rests on beside the tables' good words -/
def ax_EL (A : Nat → Prop) (sa : Nat) (U : State) : Prop :=
  va_Nw (.declares (Bundle.initS "java/lang/RuntimeException")) U ∧ va_Nw (.declares (Bundle.initS "java/lang/Exception")) U ∧ va_Nw (.declares (Bundle.initS Bundle.tN)) U ∧ va_Nw (.castable "java/util/NoSuchElementException" "java/util/NoSuchElementException") U ∧ vk_R RX7 350 "no such figure is led away" sa U ∧ vx_Zq Bundle.tN "UNASSIGNED_STACK" Bundle.steD A U U.heap ∧ vx_Zq Bundle.tN "SUPPRESSED_SENTINEL" Bundle.listD A U U.heap
theorem ax_EL_same {A : Nat → Prop} {sa : Nat} (a : Array Value) (U : State) (g : JFrame) (mk : MethodId) (h : ax_EL A sa U) : ax_EL A sa (U.calling g mk a) :=
  ⟨va_Nw.same rfl rfl h.1, va_Nw.same rfl rfl h.2.1, va_Nw.same rfl rfl h.2.2.1, va_Nw.same rfl rfl h.2.2.2.1, vk_R.same rfl h.2.2.2.2.1, vx_Zq.moved (u := U) (U := U.calling g mk a) (Vm.Alike.refl U.vm) h.2.2.2.2.2.1, vx_Zq.moved (u := U) (U := U.calling g mk a) (Vm.Alike.refl U.vm) h.2.2.2.2.2.2⟩
theorem ax_EL_to {A B : Nat → Prop} {sa : Nat} {s U : State} {H : Heap} (h : ax_EL A sa s) (hq : ∀ a : Nat, a < s.heap.size → ¬ A a → H[a]? = s.heap[a]?) (hAB : ∀ q, B q → A q) (hU : U.heap = H) (hW : s.WarmedH U.vm) : ax_EL B sa U := by
  subst hU
  exact ⟨va_Nw.warmD hW h.1, va_Nw.warmD hW h.2.1, va_Nw.warmD hW h.2.2.1, va_Nw.warmC hW h.2.2.2.1, vk_R.warm hW h.2.2.2.2.1, ((h.2.2.2.2.2.1.kept hq).moved hW.alike).narrow hAB, ((h.2.2.2.2.2.2.kept hq).moved hW.alike).narrow hAB⟩
theorem ax_preE {av : List Value} {s : State} {H : Heap} {A : Nat → Prop} {dC : Nat → ClassId} {dI : Nat → Nat → Nat} {ws : va_W} {tys : List (ClassId × FieldType)} {E : State → Prop}
    (hP : va_P (dC, dI) vwCl ws H) (hK : va_K (dC, dI) vwCl tys s) (hD : va_D A ws) (hE : ∀ U : State, U.heap = H → s.WarmedH U.vm → E U) :
    ∀ U : State, U.heap = H → s.WarmedH U.vm → va_Pc av (ax_C dC dI H.size ws tys E) av.toArray U :=
  fun U hU hW => ⟨rfl, by rw [hU], by rw [hU]; exact hP, va_K.moved hW.alike hK, hD.weaken (fun _ _ _ _ => trivial), hE U hU hW⟩
theorem ax_vxat : ∀ w ∈ Cond.classLink RX7 348 "java/util/NoSuchElementException" :: Cond.initialized "java/util/NoSuchElementException" :: ax_atX RX7 352 "java/util/NoSuchElementException" 13 ax_rx13 "java/lang/RuntimeException" ["java/lang/Exception"], vx_ot w = true := by decide +kernel
theorem ax_vxno : ∀ w ∈ (ax_atX RX7 352 "java/util/NoSuchElementException" 13 ax_rx13 "java/lang/RuntimeException" ["java/lang/Exception"]).filter (fun w => !goodWord w), w ∈ [Cond.declares (Bundle.initS "java/lang/RuntimeException"), Cond.declares (Bundle.initS "java/lang/Exception"), Cond.declares (Bundle.initS Bundle.tN), Cond.castable "java/util/NoSuchElementException" "java/util/NoSuchElementException"] := by decide +kernel

set_option maxHeartbeats 4000000 in
set_option maxRecDepth 100000 in
theorem c_X7_led (l : Launch) (hl0 : l.stackTraces = false) (dC : Nat → ClassId) (dI : Nat → Nat → Nat) (sz : Nat) (x h sa : Nat) (i : Int32) (v g : Nat → Value) : vx_Met l yX7_led wsX7_led ({ frames := 6, cells := 1, slots := 6, locals := 82 }) (va_Pc [.ref x, .int i] (ax_C dC dI sz [(x, .inr (7, [v 0, v 1, v 2, v 3, v 4, v 5, v 6, .ref h, v 8, v 9, v 10])), (h, .inr (0, [.int 0, g 1, g 2, g 3, g 4, g 5, g 6, g 7, g 8, g 9, g 10, g 11, g 12, g 13, g 14]))] [] (ax_EL (va_A [(x, .inr (7, [v 0, v 1, v 2, v 3, v 4, v 5, v 6, .ref h, v 8, v 9, v 10])), (h, .inr (0, [.int 0, g 1, g 2, g 3, g 4, g 5, g 6, g 7, g 8, g 9, g 10, g 11, g 12, g 13, g 14]))] sz) sa))) (va_Qi (fun (_ : Int32) (_ : Unit) => False) (fun (_ : Unit) (_ : State) => True) (va_A [(x, .inr (7, [v 0, v 1, v 2, v 3, v 4, v 5, v 6, .ref h, v 8, v 9, v 10])), (h, .inr (0, [.int 0, g 1, g 2, g 3, g 4, g 5, g 6, g 7, g 8, g 9, g 10, g 11, g 12, g 13, g 14]))] sz)) (vx_X (fun (_ : Unit) => True) (fun (E : String) (_ : Unit) (t : State) => E = "java/util/NoSuchElementException" ∧ ax_B dC dI (va_A [(x, .inr (7, [v 0, v 1, v 2, v 3, v 4, v 5, v 6, .ref h, v 8, v 9, v 10])), (h, .inr (0, [.int 0, g 1, g 2, g 3, g 4, g 5, g 6, g 7, g 8, g 9, g 10, g 11, g 12, g 13, g 14]))] sz) [(x, .inr (7, [v 0, v 1, v 2, v 3, v 4, v 5, v 6, .ref h, v 8, v 9, v 10])), (h, .inr (0, [.int 0, g 1, g 2, g 3, g 4, g 5, g 6, g 7, g 8, g 9, g 10, g 11, g 12, g 13, g 14]))] [] t) (va_A [(x, .inr (7, [v 0, v 1, v 2, v 3, v 4, v 5, v 6, .ref h, v 8, v 9, v 10])), (h, .inr (0, [.int 0, g 1, g 2, g 3, g 4, g 5, g 6, g 7, g 8, g 9, g 10, g 11, g 12, g 13, g 14]))] sz)) 1 6 (va_A [(x, .inr (7, [v 0, v 1, v 2, v 3, v 4, v 5, v 6, .ref h, v 8, v 9, v 10])), (h, .inr (0, [.int 0, g 1, g 2, g 3, g 4, g 5, g 6, g 7, g 8, g 9, g 10, g 11, g 12, g 13, g 14]))] sz) := by
  refine vx_ofW (cc := cX7_led) (maxL := 4) (ret := some .int) (by decide) rfl ?_
  intro p e s m args below meth c s₁ B hml hex hv
  obtain ⟨rfl, hsz, hP, hK, hD0, hE⟩ := hv
  have hx := B.exec
  have hb := B.bytes
  have hr := B.returns
  have hts := atoms_spec (ws := wsX7_led) B.pre
  have hown : s.vm.findClass RX7 = some m.cls := findClass_of_methodNamed B.named
  have hlocks := B.notSynchronized
  subst hsz
  have hD := hD0.self (sz := s.heap.size)
  generalize hAe : va_A [(x, .inr (7, [v 0, v 1, v 2, v 3, v 4, v 5, v 6, .ref h, v 8, v 9, v 10])), (h, .inr (0, [.int 0, g 1, g 2, g 3, g 4, g 5, g 6, g 7, g 8, g 9, g 10, g 11, g 12, g 13, g 14]))] s.heap.size = A at hD hE ⊢
  have hA : ∀ q : Nat, s.heap.size ≤ q → A q := fun q h => by rw [← hAe]; exact Or.inr h
  have hS : va_S A s.heap s.heap [] := va_S.rf
  have hP : va_P (dC, dI) vwCl [(x, .inr (7, [v 0, v 1, v 2, v 3, v 4, v 5, v 6, .ref h, v 8, v 9, v 10])), (h, .inr (0, [.int 0, g 1, g 2, g 3, g 4, g 5, g 6, g 7, g 8, g 9, g 10, g 11, g 12, g 13, g 14]))] s.heap := hP
  have hl := lv_entry ([.ref x, .int i]) (n := 4) (Nat.le_of_ble_eq_true rfl)
  rw [lg_entry_eq]
  generalize (lg_sl ([.ref x, .int i]) ++ List.replicate (4 - (lg_sl ([.ref x, .int i])).length) Slot.unset).toArray = ls at hl ⊢
  have hl : lv_has ls 4 [(0, .ref x), (1, .int i)] := hl
  refine lv_iconst (v := 0) hx hb dX7_led_0 (by decide) ?_
  refine lv_istore_n (lv' := [(2, .int 0), (0, .ref x), (1, .int i)]) hx hb dX7_led_1 rfl hl (by decide) rfl (fun ls hl => ?_)
  refine lv_iconst (v := 0) hx hb dX7_led_2 (by decide) ?_
  refine lv_istore_n (lv' := [(3, .int 0), (2, .int 0), (0, .ref x), (1, .int i)]) hx hb dX7_led_3 rfl hl (by decide) rfl (fun ls hl => ?_)
  refine lv_iload_n hx hb dX7_led_4 rfl (lv_at hl 0 rfl) ?_
  refine lv_aload_n hx hb dX7_led_5 rfl (lv_at hl 2 rfl) ?_
  refine va_get (D := (dC, dI)) (ci := 7) (v := .ref h) (C := RX7) (T := TX7) (N := 11) hx hb hts (by decide +kernel) hown hK hP 0 rfl rfl 7 (by decide) (hts (.fieldLink RX7 57 "WaxTurns" "hall" "LWaxTurns$Hall;") (by decide +kernel)) (fun _ h9 => h9) rfl dX7_led_6 ?_
  refine va_get (D := (dC, dI)) (ci := 0) (v := .int 0) (C := RX0) (T := TX0) (N := 15) hx hb hts (by decide +kernel) hown hK hP 1 rfl rfl 0 (by decide) (hts (.fieldLink RX7 110 "WaxTurns$Hall" "figures" "I") (by decide +kernel)) (fun _ h9 => h9) rfl dX7_led_9 ?_
  refine lv_icmp_ge (tgt := 44) hx hb dX7_led_12 (by decide) (fun _ => ?_) (fun c_1 => absurd (by decide +kernel) c_1)
  refine ax_throwSWX (names := ["java/lang/Exception"]) (cls := "java/util/NoSuchElementException") (text := "no such figure is led away") (Y0 := "java/lang/RuntimeException") (ix := 13) (rx := ax_rx13) (sa := sa) (A := A) hx hb hl0 (by decide +kernel) (by decide +kernel) (by decide +kernel) (by decide +kernel) (by decide +kernel) hown (by decide +kernel) (by decide +kernel) (hts (.classLink RX7 348 "java/util/NoSuchElementException") (by decide +kernel)) (hts (.initialized "java/util/NoSuchElementException") (by decide +kernel)) hE.2.2.2.2.1 (vx_hat (fun w hw => hts w (List.mem_cons_of_mem _ (List.mem_append_right _ hw))) ax_vxno (vx_c (va_Nw.use rfl hE.1) (vx_c (va_Nw.use rfl hE.2.1) (vx_c (va_Nw.use rfl hE.2.2.1) (vx_c (va_Nw.use rfl hE.2.2.2.1) vx_n))))) ax_vxat hE.2.2.2.2.2.1 hE.2.2.2.2.2.2 hS (by rw [hml]; exact hl.1) dX7_led_44 dX7_led_47 dX7_led_48 dX7_led_51 dX7_led_54 (fun z hz => (hex z hz).elim) (Nat.le_of_ble_eq_true rfl) (Nat.le_of_ble_eq_true rfl) (Nat.le_of_ble_eq_true rfl) (Nat.le_of_ble_eq_true rfl) hlocks (fun t hvm h1 h2 => ⟨(), trivial, ⟨rfl, hP.kept (fun k q hk => h2 q.1 (vx_lt hP hk)), va_K.moved hvm hK, hD⟩, Nat.le_trans hS.1 h1, fun q a1 b1 => (h2 q (Nat.lt_of_lt_of_le a1 hS.1)).trans (hS.2.1 q a1 b1)⟩) hS.2.2 (Nat.le_of_ble_eq_true rfl) (Nat.le_of_ble_eq_true rfl)

set_option maxHeartbeats 4000000 in
set_option maxRecDepth 100000 in
theorem c_L_led (l : Launch) (hl0 : l.stackTraces = false) (dC : Nat → ClassId) (dI : Nat → Nat → Nat) (sz : Nat) (x h oa sa : Nat) (i : Int32) (v g : Nat → Value) : vx_Met l yL_led wsL_led ({ frames := 7, cells := 1, slots := 6, locals := 105 }) (va_Pc [.ref x, .int i, .ref oa] (ax_C dC dI sz [(x, .inr (7, [v 0, v 1, v 2, v 3, v 4, v 5, v 6, .ref h, v 8, v 9, v 10])), (h, .inr (0, [.int 0, g 1, g 2, g 3, g 4, g 5, g 6, g 7, g 8, g 9, g 10, g 11, g 12, g 13, g 14]))] [] (ax_EL (va_A [(x, .inr (7, [v 0, v 1, v 2, v 3, v 4, v 5, v 6, .ref h, v 8, v 9, v 10])), (h, .inr (0, [.int 0, g 1, g 2, g 3, g 4, g 5, g 6, g 7, g 8, g 9, g 10, g 11, g 12, g 13, g 14]))] sz) sa))) (va_Qi (fun (r : Int32) (_ : Unit) => r = 1) (fun (_ : Unit) (t : State) => ax_B dC dI (va_A [(x, .inr (7, [v 0, v 1, v 2, v 3, v 4, v 5, v 6, .ref h, v 8, v 9, v 10])), (h, .inr (0, [.int 0, g 1, g 2, g 3, g 4, g 5, g 6, g 7, g 8, g 9, g 10, g 11, g 12, g 13, g 14]))] sz) [(x, .inr (7, [v 0, v 1, v 2, v 3, v 4, v 5, v 6, .ref h, v 8, v 9, v 10])), (h, .inr (0, [.int 0, g 1, g 2, g 3, g 4, g 5, g 6, g 7, g 8, g 9, g 10, g 11, g 12, g 13, g 14]))] [] t) (va_A [(x, .inr (7, [v 0, v 1, v 2, v 3, v 4, v 5, v 6, .ref h, v 8, v 9, v 10])), (h, .inr (0, [.int 0, g 1, g 2, g 3, g 4, g 5, g 6, g 7, g 8, g 9, g 10, g 11, g 12, g 13, g 14]))] sz)) (vx_X (fun (_ : Unit) => False) (fun (_ : String) (_ : Unit) (_ : State) => True) (fun _ => False)) 1 6 (va_A [(x, .inr (7, [v 0, v 1, v 2, v 3, v 4, v 5, v 6, .ref h, v 8, v 9, v 10])), (h, .inr (0, [.int 0, g 1, g 2, g 3, g 4, g 5, g 6, g 7, g 8, g 9, g 10, g 11, g 12, g 13, g 14]))] sz) := by
  refine vx_ofWH (hh := [(0, 9, 12, 13)]) (cc := cL_led) (maxL := 4) (ret := some .int) (by decide) rfl ?_
  intro p e s m args below meth c s₁ B hml hv
  have htab : c.exceptionTable.toList = tableOf [(0, 9, 12, 13)] := vx_table (x := yL_led) B (atoms_spec (ws := wsL_led) B.pre _ List.mem_cons_self)
  obtain ⟨rfl, hsz, hP, hK, hD0, hE⟩ := hv
  have hx := B.exec
  have hb := B.bytes
  have hr := B.returns
  have hts := atoms_spec (ws := wsL_led) B.pre
  have hown : s.vm.findClass RL = some m.cls := findClass_of_methodNamed B.named
  have hlocks := B.notSynchronized
  subst hsz
  have hD := hD0.self (sz := s.heap.size)
  generalize hAe : va_A [(x, .inr (7, [v 0, v 1, v 2, v 3, v 4, v 5, v 6, .ref h, v 8, v 9, v 10])), (h, .inr (0, [.int 0, g 1, g 2, g 3, g 4, g 5, g 6, g 7, g 8, g 9, g 10, g 11, g 12, g 13, g 14]))] s.heap.size = A at hD hE ⊢
  have hA : ∀ q : Nat, s.heap.size ≤ q → A q := fun q h => by rw [← hAe]; exact Or.inr h
  have hS : va_S A s.heap s.heap [] := va_S.rf
  have hP : va_P (dC, dI) vwCl [(x, .inr (7, [v 0, v 1, v 2, v 3, v 4, v 5, v 6, .ref h, v 8, v 9, v 10])), (h, .inr (0, [.int 0, g 1, g 2, g 3, g 4, g 5, g 6, g 7, g 8, g 9, g 10, g 11, g 12, g 13, g 14]))] s.heap := hP
  have hl := lv_entry ([.ref x, .int i, .ref oa]) (n := 4) (Nat.le_of_ble_eq_true rfl)
  rw [lg_entry_eq]
  generalize (lg_sl ([.ref x, .int i, .ref oa]) ++ List.replicate (4 - (lg_sl ([.ref x, .int i, .ref oa])).length) Slot.unset).toArray = ls at hl ⊢
  have hl : lv_has ls 4 [(0, .ref x), (1, .int i), (2, .ref oa)] := hl
  refine lv_aload_n hx hb dL_led_0 rfl (lv_at hl 2 rfl) ?_
  refine lv_iconst (v := 0) hx hb dL_led_1 (by decide) ?_
  refine lv_aload_n hx hb dL_led_2 rfl (lv_at hl 0 rfl) ?_
  refine lv_iload_n hx hb dL_led_3 rfl (lv_at hl 1 rfl) ?_
  have hFc := va_free (wc := [(x, .inr (7, [v 0, v 1, v 2, v 3, v 4, v 5, v 6, .ref h, v 8, v 9, v 10])), (h, .inr (0, [.int 0, g 1, g 2, g 3, g 4, g 5, g 6, g 7, g 8, g 9, g 10, g 11, g 12, g 13, g 14]))]) hD hS hA [0, 1] rfl
  refine vx_calli (vx_runV (As := [.int i]) (rest := [.int 0, .ref oa]) ⟨hx, hb, hml, hown, hts⟩ (c_X7_led l hl0 dC dI s.heap.size x h sa i v g) (cwV 1 hts gL_led_X7_led rfl rfl rfl (by decide +kernel) ⟨Nat.le_of_ble_eq_true rfl, Nat.le_of_ble_eq_true rfl⟩) ⟨ax_blind ax_EL_same, va_recv hK hP (ci := 7) (q0 := 0) rfl rfl, ax_preE hP hK hD (fun U hU hW => ax_EL_to hE (fun _ _ _ => rfl) hFc hU hW)⟩ rfl rfl hl.1 rfl (lv_room (Nat.le_of_ble_eq_true rfl)) dL_led_4 ⟨Nat.le_of_ble_eq_true rfl, Nat.le_of_ble_eq_true rfl⟩) hS (fun q _ h => hFc q h) hFc (fun q _ h => hFc q h) (fun E ce q9 u t H1 locs ht hvm _ hB hz1 hk1 hS hce hcv hcl => ?_) (fun r u t H1 locs ht hvm hw _ _ _ _ => hw.elim)
  obtain ⟨hEn, hP1, hK1, hD1⟩ := hB
  subst hEn
  rw [ht] at hP1
  refine vx_catch (name := "java/util/NoSuchElementException") hown [] ⟨0, 9, 12, 13⟩ [] (by rw [htab]; rfl) (fun _ h => nomatch h) (by decide +kernel) (by decide +kernel) (hts (.classLink RL 13 "java/util/NoSuchElementException") (by decide +kernel)) (va_Nw.use rfl hE.2.2.2.1) hce hcv hcl ?_
  refine lv_astore_n (lv' := [(3, .ref q9), (0, .ref x), (1, .int i), (2, .ref oa)]) hx hb dL_led_12 rfl hl (by decide) rfl (fun ls hl => ?_)
  refine lv_iconst (v := 1) hx hb dL_led_13 (by decide) ?_
  refine vx_ret ?_
  have hD9 : va_D A [(x, .inr (7, [v 0, v 1, v 2, v 3, v 4, v 5, v 6, .ref h, v 8, v 9, v 10])), (h, .inr (0, [.int 0, g 1, g 2, g 3, g 4, g 5, g 6, g 7, g 8, g 9, g 10, g 11, g 12, g 13, g 14]))] := hD1.weaken (fun _ _ _ h9 => hFc _ h9)
  exact W.iret (v := 1) hx hb hr (fun t ht hW => ⟨⟨1, (), rfl, rfl, by rw [ht]; exact hP1, va_K.moved hW.alike hK, hD9⟩, hS.F ht⟩) hS.2.2 dL_led_14
